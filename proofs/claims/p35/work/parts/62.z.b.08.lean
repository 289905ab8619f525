/-! p35 by hand, 7. -/
noncomputable section XH357
variable {ot : XO Int32} {dp : Nat} {H : List (XC Int32)} {p n m : Nat} {r : Nat → Nat} {pl mi la we ord hf : Nat → Nat}
theorem t155_l (hP : isPo H p n r pl mi la we ord hf m) (h9 : ∀ k, hf k ≤ 9) {q g z : Nat} (hq : q < 256) (hqm : q < m) (hg : g ≤ 3) (hz : z < g) : ∀ (d h : Nat) (pt : Int32) (L : List (Nat × XV Int32)), h + d = z + 1 → (h = 0 ∨ pt = nI (gpN hf (rsN hf g q (h - 1)) (g - 1 - (h - 1)) (rsN hf g q (h - 1)))) → x_lk L 0 = some (.inr (some p)) → x_lk L 1 = some (.inl (nI q)) → x_lk L 2 = some (.inl (nI g)) → x_lk L 3 = some (.inl (nI z)) → x_lk L 4 = some (.inl (nI (rsN hf g q h))) → x_lk L 5 = some (.inl pt) → x_lk L 6 = some (.inl (nI h)) → x_To x_tb x_tyl ot (dp + 2) 155 9 L [] H 0 0 (some (.inl (nI (gpN hf (rsN hf g q z) (g - 1 - z) (rsN hf g q z))))) H := by
  obtain ⟨⟨hpA, hp, h8⟩, ⟨d0, v0, a0, b0, e0⟩, ⟨d1, v1, a1, b1, e1⟩, ⟨d2, v2, a2, b2, e2⟩, ⟨d3, v3, a3, b3, e3⟩, ⟨d4, v4, a4, b4, e4⟩, ⟨d5, v5, a5, b5, e5⟩⟩ := id hP
  intro d
  induction d with
  | zero =>
    intro h pt L hd hpt l0 l1 l2 l3 l4 l5 l6
    obtain rfl : h = z + 1 := by omega
    have hpt := hpt.resolve_left (by omega)
    rw [show z + 1 - 1 = z by omega] at hpt
    subst hpt
    refine xT_iload g_q155 g155_9 (l6) ?_
    refine xT_iload_n g_q155 g155_11 (l3) ?_
    refine xT_if_icmpY g_q155 g155_12 (t := 42) (by decide) (c4Y (a := z + 1) (b := z) (by omega) (by omega) (by omega)) ?_
    refine xT_iload g_q155 g155_42 (l5) ?_
    exact xT_ireturn g_q155 g155_44 (rfl)
  | succ d ih =>
    intro h pt L hd hpt l0 l1 l2 l3 l4 l5 l6
    have hr := rsN_le (hf := hf) (hands := g) (met := q) h
    obtain ⟨g1, g2⟩ := gpN_sub (hf := hf) (rest := rsN hf g q h) (k := g - 1 - h) (by omega) (rsN hf g q h)
    have hx := (b_sub (s := rsN hf g q h) (o := gpN hf (rsN hf g q h) (g - 1 - h) (rsN hf g q h)) (by omega) (by omega) g1).2.1
    refine xT_iload g_q155 g155_9 (l6) ?_
    refine xT_iload_n g_q155 g155_11 (l3) ?_
    refine xT_if_icmpN g_q155 g155_12 (t := 42) (by decide) (c4N (a := h) (b := z) (by omega) (by omega) (by omega)) ?_
    refine xT_aload_n g_q155 g155_15 (l0) ?_
    refine xT_iload g_q155 g155_16 (l4) ?_
    refine xT_iload_n g_q155 g155_18 (l2) ?_
    refine xT_icV (y := nI (1)) g_q155 g155_19 (by decide) ?_
    refine xT_isubV (y := nI (g - 1)) g_q155 g155_20 (bSubN (by omega)) ?_
    refine xT_iload g_q155 g155_21 (l6) ?_
    refine xT_isubV (y := nI (g - 1 - h)) g_q155 g155_23 (bSubN (by omega)) ?_
    refine xT_invokevirtual (r := []) (u := some (.inl (nI (gpN hf (rsN hf g q h) (g - 1 - h) (rsN hf g q h))))) g_q155 g155_24 (j := 156) (so := 0) (by decide +kernel) g_q156 rfl (by rw [x_rcM hpA hp]; rfl) (t156 hP h9 (by omega) (by omega) (by omega)) ?_
    refine xT_istore g_q155 g155_27 (by decide) ?_
    refine xT_iload g_q155 g155_29 (lkN (by decide) (l4)) ?_
    refine xT_iload g_q155 g155_31 (lkY) ?_
    refine xT_ixorV (y := nI (rsN hf g q (h + 1))) g_q155 g155_33 (hx) ?_
    refine xT_istore g_q155 g155_34 (by decide) ?_
    refine xT_iincV (y := nI (h + 1)) g_q155 g155_36 (lkN (by decide) (lkN (by decide) (l6))) (by decide) (bIncN _) ?_
    refine xT_goto g_q155 g155_39 (t := 9) (by decide) ?_
    exact ih (h + 1) _ _ (by omega) (Or.inr rfl) (lkN (by decide) (lkN (by decide) (lkN (by decide) (l0)))) (lkN (by decide) (lkN (by decide) (lkN (by decide) (l1)))) (lkN (by decide) (lkN (by decide) (lkN (by decide) (l2)))) (lkN (by decide) (lkN (by decide) (lkN (by decide) (l3)))) (lkN (by decide) (lkY)) (lkN (by decide) (lkN (by decide) (lkY))) (lkY)
theorem t155 (hP : isPo H p n r pl mi la we ord hf m) (h9 : ∀ k, hf k ≤ 9) {q g z : Nat} (hq : q < 256) (hqm : q < m) (hg : g ≤ 3) (hz : z < g) : x_To x_tb x_tyl ot (dp + 2) 155 0 (x_en 0 [.inr (some (p)), .inl (nI (q)), .inl (nI (g)), .inl (nI (z))]) [] H 0 0 (some (.inl (nI (gpN hf (rsN hf g q z) (g - 1 - z) (rsN hf g q z))))) H := by
  refine xT_iload_n g_q155 g155_0 (rfl) ?_
  refine xT_istore g_q155 g155_1 (by decide) ?_
  refine xT_icV (y := nI (0)) g_q155 g155_3 (by decide) ?_
  refine xT_istore g_q155 g155_4 (by decide) ?_
  refine xT_icV (y := nI (0)) g_q155 g155_6 (by decide) ?_
  refine xT_istore g_q155 g155_7 (by decide) ?_
  exact t155_l hP h9 hq hqm hg hz (z + 1) 0 _ _ (by omega) (Or.inl rfl) (lkN (by decide) (lkN (by decide) (lkN (by decide) (rfl)))) (lkN (by decide) (lkN (by decide) (lkN (by decide) (rfl)))) (lkN (by decide) (lkN (by decide) (lkN (by decide) (rfl)))) (lkN (by decide) (lkN (by decide) (lkN (by decide) (rfl)))) (lkN (by decide) (lkN (by decide) (lkY))) (lkN (by decide) (lkY)) (lkY)
end XH357
