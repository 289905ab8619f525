/-! p5 by hand, 7. -/
noncomputable section XH5_7
variable {ot : XO Int32} {dp : Nat} {H : List (XC Int32)} {a n m : Nat} {P C nl sv S : Nat → Nat} {op lf rt : Nat → Nat → Nat}
theorem t49_l {c : Nat} {op lf rt : Nat → Nat} {nl : Nat} (hC : kC H c op lf rt nl) (h12 : nl ≤ 12) (ho : ∀ l, l < nl → op l ≤ 11 ∧ lf l < 6 ∧ rt l < 6) {rd : Nat} (hrd : rd = 0 ∨ rd = 1) : ∀ (d l all : Nat) (L : List (Nat × XV Int32)), l + d = nl → all < 64 → x_lk L 0 = some (.inr (some (c))) → x_lk L 2 = some (.inl (nI (rd))) → x_lk L 3 = some (.inl (nI (all))) → x_lk L 4 = some (.inl (nI (l))) → x_To x_tb x_tyl ot (dp + 2) 49 5 L [] H 0 0 (some (.inl (nI (saN op lf rt rd d l all)))) H := by
  obtain ⟨hcA, co, ro, rl, rr, hc, c0, c1, c2, c4, ⟨d0, v0, a0, b0, e0⟩, ⟨d1, v1, a1, b1, e1⟩, ⟨d2, v2, a2, b2, e2⟩⟩ := id hC
  intro d
  induction d with
  | zero =>
    intro l all L hl hall l0 l2 l3 l4
    obtain rfl : nl = l := by omega
    rw [show saN op lf rt rd 0 nl all = all from rfl]
    refine xT_iload g_q49 g49_5 (l4) ?_
    refine xT_aload_n g_q49 g49_7 (l0) ?_
    refine xT_getfield g_q49 g49_8 hcA rfl hc rfl c4 ?_
    refine xT_if_icmpY g_q49 g49_11 (t := 43) (by decide) (c3Y (a := nl) (b := nl) (Nat.le_refl _) (by omega) (by omega)) ?_
    refine xT_iload_n g_q49 g49_43 (l3) ?_
    exact xT_ireturn g_q49 g49_44 (rfl)
  | succ d ih =>
    intro l all L hl hall l0 l2 l3 l4
    obtain ⟨o1, o2, o3⟩ := ho l (by omega)
    have hgb := gv_b (op := op) (rt := rt) (all := all) (l := l) hrd
    by_cases hg : gvN op rt rd all l = 1
    · rw [show saN op lf rt rd (d + 1) l all = saN op lf rt rd d (l + 1) (all ||| 2 ^ lf l) from congrArg (saN op lf rt rd d (l + 1)) (if_pos hg)]
      have hor := b_or all hall (lf l) o2
      refine xT_iload g_q49 g49_5 (l4) ?_
      refine xT_aload_n g_q49 g49_7 (l0) ?_
      refine xT_getfield g_q49 g49_8 hcA rfl hc rfl c4 ?_
      refine xT_if_icmpN g_q49 g49_11 (t := 43) (by decide) (c3N (a := l) (b := nl) (by omega) (by omega) (by omega)) ?_
      refine xT_aload_n g_q49 g49_14 (l0) ?_
      refine xT_iload g_q49 g49_15 (l4) ?_
      refine xT_iload_n g_q49 g49_17 (l3) ?_
      refine xT_iload_n g_q49 g49_18 (l2) ?_
      refine xT_invokevirtual (r := []) (u := some (.inl (nI (gvN op rt rd all l)))) g_q49 g49_19 (j := 50) (so := 0) (by decide +kernel) g_q50 rfl (by rw [x_rcM hcA hc]; rfl) (t50 hC h12 ho (by omega) hall hrd) ?_
      refine xT_ifCondN g_q49 g49_22 (t := 37) (by decide) (c0N (a := gvN op rt rd all l) (b := 0) (by omega) (by omega) (by omega)) ?_
      refine xT_iload_n g_q49 g49_25 (l3) ?_
      refine xT_icV (y := nI (1)) g_q49 g49_26 (by decide) ?_
      refine xT_aload_n g_q49 g49_27 (l0) ?_
      refine xT_getfield g_q49 g49_28 hcA rfl hc rfl c1 ?_
      refine xT_iload g_q49 g49_31 (l4) ?_
      refine xT_iaload g_q49 g49_33 (by omega) a1 (ixN (n := 12) (by omega) b1) (ixG (by omega) (e1 _ (by omega))) ?_
      refine xT_ishlV (y := x_bin 6 (nI 1) (nI (lf l))) g_q49 g49_34 (rfl) ?_
      refine xT_iorV (y := nI (all ||| 2 ^ lf l)) g_q49 g49_35 (hor.1) ?_
      refine xT_istore_n g_q49 g49_36 (by decide) ?_
      refine xT_iincV (y := nI (l + 1)) g_q49 g49_37 (lkN (by decide) (l4)) (by decide) (bIncN _) ?_
      refine xT_goto g_q49 g49_40 (t := 5) (by decide) ?_
      exact ih (l + 1) _ _ (by omega) hor.2.1 (lkN (by decide) (lkN (by decide) (l0))) (lkN (by decide) (lkN (by decide) (l2))) (lkN (by decide) (lkY)) (lkY)
    · rw [show saN op lf rt rd (d + 1) l all = saN op lf rt rd d (l + 1) all from congrArg (saN op lf rt rd d (l + 1)) (if_neg hg)]
      refine xT_iload g_q49 g49_5 (l4) ?_
      refine xT_aload_n g_q49 g49_7 (l0) ?_
      refine xT_getfield g_q49 g49_8 hcA rfl hc rfl c4 ?_
      refine xT_if_icmpN g_q49 g49_11 (t := 43) (by decide) (c3N (a := l) (b := nl) (by omega) (by omega) (by omega)) ?_
      refine xT_aload_n g_q49 g49_14 (l0) ?_
      refine xT_iload g_q49 g49_15 (l4) ?_
      refine xT_iload_n g_q49 g49_17 (l3) ?_
      refine xT_iload_n g_q49 g49_18 (l2) ?_
      refine xT_invokevirtual (r := []) (u := some (.inl (nI (gvN op rt rd all l)))) g_q49 g49_19 (j := 50) (so := 0) (by decide +kernel) g_q50 rfl (by rw [x_rcM hcA hc]; rfl) (t50 hC h12 ho (by omega) hall hrd) ?_
      refine xT_ifCondY g_q49 g49_22 (t := 37) (by decide) (c0Y (a := gvN op rt rd all l) (b := 0) (by omega)) ?_
      refine xT_iincV (y := nI (l + 1)) g_q49 g49_37 (l4) (by decide) (bIncN _) ?_
      refine xT_goto g_q49 g49_40 (t := 5) (by decide) ?_
      exact ih (l + 1) _ _ (by omega) hall (lkN (by decide) (l0)) (lkN (by decide) (l2)) (lkN (by decide) (l3)) (lkY)
theorem t49 {c : Nat} {op lf rt : Nat → Nat} {nl : Nat} (hC : kC H c op lf rt nl) (h12 : nl ≤ 12) (ho : ∀ l, l < nl → op l ≤ 11 ∧ lf l < 6 ∧ rt l < 6) {rd all : Nat} (hrd : rd = 0 ∨ rd = 1) (hall : all < 64) : x_To x_tb x_tyl ot (dp + 2) 49 0 (x_en 0 [.inr (some (c)), .inl (nI (all)), .inl (nI (rd))]) [] H 0 0 (some (.inl (nI (saN op lf rt rd nl 0 all)))) H := by
  refine xT_iload_n g_q49 g49_0 (rfl) ?_
  refine xT_istore_n g_q49 g49_1 (by decide) ?_
  refine xT_icV (y := nI (0)) g_q49 g49_2 (by decide) ?_
  refine xT_istore g_q49 g49_3 (by decide) ?_
  exact t49_l hC h12 ho hrd nl 0 all _ (by omega) hall (lkN (by decide) (lkN (by decide) (rfl))) (lkN (by decide) (lkN (by decide) (rfl))) (lkN (by decide) (lkY)) (lkY)
end XH5_7
