/-! p35 by hand, 6. -/
noncomputable section XH356
variable {ot : XO Int32} {dp : Nat} {H : List (XC Int32)} {p n m : Nat} {r : Nat → Nat} {pl mi la we ord hf : Nat → Nat}
theorem t156_l (hP : isPo H p n r pl mi la we ord hf m) (h9 : ∀ k, hf k ≤ 9) {q g : Nat} (hq : q < 256) (hqm : q < m) (hg : g ≤ 3) : ∀ (x : Nat) (L : List (Nat × XV Int32)), x ≤ q → x_lk L 0 = some (.inr (some p)) → x_lk L 1 = some (.inl (nI q)) → x_lk L 2 = some (.inl (nI g)) → x_lk L 3 = some (.inl (nI x)) → x_To x_tb x_tyl ot (dp + 1) 156 2 L [] H 0 0 (some (.inl (nI (gpN hf q g x)))) H := by
  obtain ⟨⟨hpA, hp, h8⟩, ⟨d0, v0, a0, b0, e0⟩, ⟨d1, v1, a1, b1, e1⟩, ⟨d2, v2, a2, b2, e2⟩, ⟨d3, v3, a3, b3, e3⟩, ⟨d4, v4, a4, b4, e4⟩, ⟨d5, v5, a5, b5, e5⟩⟩ := id hP
  intro x
  induction x with
  | zero =>
    intro L hx l0 l1 l2 l3
    refine xT_iload_n g_q156 g156_2 (l3) ?_
    refine xT_ifCondY g_q156 g156_3 (t := 44) (by decide) (c5Y (a := 0) (b := 0) (Nat.le_refl 0) (by omega) (by omega)) ?_
    refine xT_icV (y := nI (0)) g_q156 g156_44 (by decide) ?_
    exact xT_ireturn g_q156 g156_45 (rfl)
  | succ x ih =>
    intro L hxq l0 l1 l2 l3
    by_cases hz : andn (x + 1) q = 0
    rotate_left
    · rw [show gpN hf q g (x + 1) = gpN hf q g x from if_neg (fun z => hz z.1)]
      refine xT_iload_n g_q156 g156_2 (l3) ?_
      refine xT_ifCondN g_q156 g156_3 (t := 44) (by decide) (c5N (a := x + 1) (b := 0) (by omega) (by omega) (by omega)) ?_
      refine xT_iload_n g_q156 g156_6 (l3) ?_
      refine xT_iload_n g_q156 g156_7 (l1) ?_
      refine xT_icV (y := -1) g_q156 g156_8 (by decide) ?_
      refine xT_ixorV (y := x_bin 5 (nI q) (-1)) g_q156 g156_9 (rfl) ?_
      refine xT_iandV (y := nI (andn (x + 1) q)) g_q156 g156_10 (b_andn (by omega) hq) ?_
      refine xT_ifCondY g_q156 g156_11 (t := 38) (by decide) (c1Y (a := andn (x + 1) q) (b := 0) hz (by have := andn_le (x + 1) q; omega) (by omega)) ?_
      refine xT_iincV (y := nI (x)) g_q156 g156_38 (l3) (by decide) (bDecN (by omega)) ?_
      refine xT_goto g_q156 g156_41 (t := 2) (by decide) ?_
      exact ih _ (by omega) (lkN (by decide) (l0)) (lkN (by decide) (l1)) (lkN (by decide) (l2)) (lkY)
    have hx := (b_sub hq (by omega) hz).2.1
    by_cases h1 : hf (x + 1) = 1
    rotate_left
    · rw [show gpN hf q g (x + 1) = gpN hf q g x from if_neg (fun z => h1 z.2.1)]
      refine xT_iload_n g_q156 g156_2 (l3) ?_
      refine xT_ifCondN g_q156 g156_3 (t := 44) (by decide) (c5N (a := x + 1) (b := 0) (by omega) (by omega) (by omega)) ?_
      refine xT_iload_n g_q156 g156_6 (l3) ?_
      refine xT_iload_n g_q156 g156_7 (l1) ?_
      refine xT_icV (y := -1) g_q156 g156_8 (by decide) ?_
      refine xT_ixorV (y := x_bin 5 (nI q) (-1)) g_q156 g156_9 (rfl) ?_
      refine xT_iandV (y := nI (andn (x + 1) q)) g_q156 g156_10 (b_andn (by omega) hq) ?_
      refine xT_ifCondN g_q156 g156_11 (t := 38) (by decide) (c1N (b := 0) hz) ?_
      refine xT_aload_n g_q156 g156_14 (l0) ?_
      refine xT_getfield g_q156 g156_15 hpA rfl hp rfl rfl ?_
      refine xT_iload_n g_q156 g156_18 (l3) ?_
      refine xT_iaload g_q156 g156_19 (by omega) a5 (ixN (n := 256) (by omega) b5) (ixG (by omega) (e5 _ (by omega))) ?_
      refine xT_icV (y := nI (1)) g_q156 g156_20 (by decide) ?_
      refine xT_if_icmpY g_q156 g156_21 (t := 38) (by decide) (c1Y (a := hf (x + 1)) (b := 1) h1 (by have := h9 (x + 1); omega) (by omega)) ?_
      refine xT_iincV (y := nI (x)) g_q156 g156_38 (l3) (by decide) (bDecN (by omega)) ?_
      refine xT_goto g_q156 g156_41 (t := 2) (by decide) ?_
      exact ih _ (by omega) (lkN (by decide) (l0)) (lkN (by decide) (l1)) (lkN (by decide) (l2)) (lkY)
    by_cases hg2 : hf (q - (x + 1)) ≤ g
    · rw [show gpN hf q g (x + 1) = x + 1 from if_pos ⟨hz, h1, hg2⟩]
      refine xT_iload_n g_q156 g156_2 (l3) ?_
      refine xT_ifCondN g_q156 g156_3 (t := 44) (by decide) (c5N (a := x + 1) (b := 0) (by omega) (by omega) (by omega)) ?_
      refine xT_iload_n g_q156 g156_6 (l3) ?_
      refine xT_iload_n g_q156 g156_7 (l1) ?_
      refine xT_icV (y := -1) g_q156 g156_8 (by decide) ?_
      refine xT_ixorV (y := x_bin 5 (nI q) (-1)) g_q156 g156_9 (rfl) ?_
      refine xT_iandV (y := nI (andn (x + 1) q)) g_q156 g156_10 (b_andn (by omega) hq) ?_
      refine xT_ifCondN g_q156 g156_11 (t := 38) (by decide) (c1N (b := 0) hz) ?_
      refine xT_aload_n g_q156 g156_14 (l0) ?_
      refine xT_getfield g_q156 g156_15 hpA rfl hp rfl rfl ?_
      refine xT_iload_n g_q156 g156_18 (l3) ?_
      refine xT_iaload g_q156 g156_19 (by omega) a5 (ixN (n := 256) (by omega) b5) (ixG (by omega) (e5 _ (by omega))) ?_
      refine xT_icV (y := nI (1)) g_q156 g156_20 (by decide) ?_
      refine xT_if_icmpN g_q156 g156_21 (t := 38) (by decide) (c1N (b := 1) h1) ?_
      refine xT_aload_n g_q156 g156_24 (l0) ?_
      refine xT_getfield g_q156 g156_25 hpA rfl hp rfl rfl ?_
      refine xT_iload_n g_q156 g156_28 (l1) ?_
      refine xT_iload_n g_q156 g156_29 (l3) ?_
      refine xT_ixorV (y := nI (q - (x + 1))) g_q156 g156_30 (hx) ?_
      refine xT_iaload g_q156 g156_31 (by omega) a5 (ixN (n := 256) (by omega) b5) (ixG (by omega) (e5 _ (by omega))) ?_
      refine xT_iload_n g_q156 g156_32 (l2) ?_
      refine xT_if_icmpN g_q156 g156_33 (t := 38) (by decide) (c4N (a := hf (q - (x + 1))) (b := g) hg2 (by have := h9 (q - (x + 1)); omega) (by omega)) ?_
      refine xT_iload_n g_q156 g156_36 (l3) ?_
      exact xT_ireturn g_q156 g156_37 (rfl)
    · rw [show gpN hf q g (x + 1) = gpN hf q g x from if_neg (fun z => hg2 z.2.2)]
      have hg2 := Nat.lt_of_not_le hg2
      refine xT_iload_n g_q156 g156_2 (l3) ?_
      refine xT_ifCondN g_q156 g156_3 (t := 44) (by decide) (c5N (a := x + 1) (b := 0) (by omega) (by omega) (by omega)) ?_
      refine xT_iload_n g_q156 g156_6 (l3) ?_
      refine xT_iload_n g_q156 g156_7 (l1) ?_
      refine xT_icV (y := -1) g_q156 g156_8 (by decide) ?_
      refine xT_ixorV (y := x_bin 5 (nI q) (-1)) g_q156 g156_9 (rfl) ?_
      refine xT_iandV (y := nI (andn (x + 1) q)) g_q156 g156_10 (b_andn (by omega) hq) ?_
      refine xT_ifCondN g_q156 g156_11 (t := 38) (by decide) (c1N (b := 0) hz) ?_
      refine xT_aload_n g_q156 g156_14 (l0) ?_
      refine xT_getfield g_q156 g156_15 hpA rfl hp rfl rfl ?_
      refine xT_iload_n g_q156 g156_18 (l3) ?_
      refine xT_iaload g_q156 g156_19 (by omega) a5 (ixN (n := 256) (by omega) b5) (ixG (by omega) (e5 _ (by omega))) ?_
      refine xT_icV (y := nI (1)) g_q156 g156_20 (by decide) ?_
      refine xT_if_icmpN g_q156 g156_21 (t := 38) (by decide) (c1N (b := 1) h1) ?_
      refine xT_aload_n g_q156 g156_24 (l0) ?_
      refine xT_getfield g_q156 g156_25 hpA rfl hp rfl rfl ?_
      refine xT_iload_n g_q156 g156_28 (l1) ?_
      refine xT_iload_n g_q156 g156_29 (l3) ?_
      refine xT_ixorV (y := nI (q - (x + 1))) g_q156 g156_30 (hx) ?_
      refine xT_iaload g_q156 g156_31 (by omega) a5 (ixN (n := 256) (by omega) b5) (ixG (by omega) (e5 _ (by omega))) ?_
      refine xT_iload_n g_q156 g156_32 (l2) ?_
      refine xT_if_icmpY g_q156 g156_33 (t := 38) (by decide) (c4Y (a := hf (q - (x + 1))) (b := g) hg2 (by have := h9 (q - (x + 1)); omega) (by omega)) ?_
      refine xT_iincV (y := nI (x)) g_q156 g156_38 (l3) (by decide) (bDecN (by omega)) ?_
      refine xT_goto g_q156 g156_41 (t := 2) (by decide) ?_
      exact ih _ (by omega) (lkN (by decide) (l0)) (lkN (by decide) (l1)) (lkN (by decide) (l2)) (lkY)
theorem t156 (hP : isPo H p n r pl mi la we ord hf m) (h9 : ∀ k, hf k ≤ 9) {q g : Nat} (hq : q < 256) (hqm : q < m) (hg : g ≤ 3) : x_To x_tb x_tyl ot (dp + 1) 156 0 (x_en 0 [.inr (some (p)), .inl (nI (q)), .inl (nI (g))]) [] H 0 0 (some (.inl (nI (gpN hf q g q)))) H := by
  refine xT_iload_n g_q156 g156_0 (rfl) ?_
  refine xT_istore_n g_q156 g156_1 (by decide) ?_
  exact t156_l hP h9 hq hqm hg q _ (Nat.le_refl q) (lkN (by decide) (rfl)) (lkN (by decide) (rfl)) (lkN (by decide) (rfl)) (lkY)
end XH356
