/-! p5 by hand, 5. -/
noncomputable section XH5_5
variable {ot : XO Int32} {dp : Nat} {H : List (XC Int32)} {a n m : Nat} {P C nl sv S : Nat → Nat} {op lf rt : Nat → Nat → Nat}
theorem t47_l {c : Nat} {op lf rt : Nat → Nat} {nl : Nat} (hC : kC H c op lf rt nl) (h12 : nl ≤ 12) (ho : ∀ l, l < nl → op l ≤ 11 ∧ lf l < 6 ∧ rt l < 6) {s : Nat} (hs : s < 64) : ∀ (d l : Nat) (L : List (Nat × XV Int32)), l + d = nl → x_lk L 0 = some (.inr (some (c))) → x_lk L 1 = some (.inl (nI (s))) → x_lk L 2 = some (.inl (nI (l))) → x_To x_tb x_tyl ot (dp + 1) 47 2 L [] H 0 0 (some (.inl (nI (wrN op lf s d l)))) H := by
  obtain ⟨hcA, co, ro, rl, rr, hc, c0, c1, c2, c4, ⟨d0, v0, a0, b0, e0⟩, ⟨d1, v1, a1, b1, e1⟩, ⟨d2, v2, a2, b2, e2⟩⟩ := id hC
  intro d
  induction d with
  | zero =>
    intro l L hl l0 l1 l2
    obtain rfl : nl = l := by omega
    rw [show wrN op lf s 0 nl = 0 from rfl]
    refine xT_iload_n g_q47 g47_2 (l2) ?_
    refine xT_aload_n g_q47 g47_3 (l0) ?_
    refine xT_getfield g_q47 g47_4 hcA rfl hc rfl c4 ?_
    refine xT_if_icmpY g_q47 g47_7 (t := 41) (by decide) (c3Y (a := nl) (b := nl) (Nat.le_refl _) (by omega) (by omega)) ?_
    refine xT_icV (y := nI (0)) g_q47 g47_41 (by decide) ?_
    exact xT_ireturn g_q47 g47_42 (by decide +kernel)
  | succ d ih =>
    intro l L hl l0 l1 l2
    obtain ⟨o1, o2, o3⟩ := ho l (by omega)
    by_cases ho2 : op l = 2
    rotate_left
    · rw [show wrN op lf s (d + 1) l = wrN op lf s d (l + 1) from if_neg (fun z => ho2 z.1)]
      refine xT_iload_n g_q47 g47_2 (l2) ?_
      refine xT_aload_n g_q47 g47_3 (l0) ?_
      refine xT_getfield g_q47 g47_4 hcA rfl hc rfl c4 ?_
      refine xT_if_icmpN g_q47 g47_7 (t := 41) (by decide) (c3N (a := l) (b := nl) (by omega) (by omega) (by omega)) ?_
      refine xT_aload_n g_q47 g47_10 (l0) ?_
      refine xT_getfield g_q47 g47_11 hcA rfl hc rfl c0 ?_
      refine xT_iload_n g_q47 g47_14 (l2) ?_
      refine xT_iaload g_q47 g47_15 (by omega) a0 (ixN (n := 12) (by omega) b0) (ixG (by omega) (e0 _ (by omega))) ?_
      refine xT_icV (y := nI (2)) g_q47 g47_16 (by decide) ?_
      refine xT_if_icmpY g_q47 g47_17 (t := 35) (by decide) (c1Y (a := op l) (b := 2) ho2 (by omega) (by omega)) ?_
      refine xT_iincV (y := nI (l + 1)) g_q47 g47_35 (l2) (by decide) (bIncN _) ?_
      refine xT_goto g_q47 g47_38 (t := 2) (by decide) ?_
      exact ih (l + 1) _ (by omega) (lkN (by decide) (l0)) (lkN (by decide) (l1)) (lkY)
    by_cases hb : bitP s (lf l) = 1
    · rw [show wrN op lf s (d + 1) l = 1 from if_pos ⟨ho2, hb⟩]
      refine xT_iload_n g_q47 g47_2 (l2) ?_
      refine xT_aload_n g_q47 g47_3 (l0) ?_
      refine xT_getfield g_q47 g47_4 hcA rfl hc rfl c4 ?_
      refine xT_if_icmpN g_q47 g47_7 (t := 41) (by decide) (c3N (a := l) (b := nl) (by omega) (by omega) (by omega)) ?_
      refine xT_aload_n g_q47 g47_10 (l0) ?_
      refine xT_getfield g_q47 g47_11 hcA rfl hc rfl c0 ?_
      refine xT_iload_n g_q47 g47_14 (l2) ?_
      refine xT_iaload g_q47 g47_15 (by omega) a0 (ixN (n := 12) (by omega) b0) (ixG (by omega) (e0 _ (by omega))) ?_
      refine xT_icV (y := nI (2)) g_q47 g47_16 (by decide) ?_
      refine xT_if_icmpN g_q47 g47_17 (t := 35) (by decide) (c1N (b := 2) ho2) ?_
      refine xT_iload_n g_q47 g47_20 (l1) ?_
      refine xT_aload_n g_q47 g47_21 (l0) ?_
      refine xT_getfield g_q47 g47_22 hcA rfl hc rfl c1 ?_
      refine xT_iload_n g_q47 g47_25 (l2) ?_
      refine xT_iaload g_q47 g47_26 (by omega) a1 (ixN (n := 12) (by omega) b1) (ixG (by omega) (e1 _ (by omega))) ?_
      refine xT_invokestatic (r := []) (u := some (.inl (nI (1)))) g_q47 g47_27 (j := 48) (so := 3) (by decide +kernel) g_q48 (rfl) (t48pY hs (by omega) hb) ?_
      refine xT_ifCondN g_q47 g47_30 (t := 35) (by decide) (c0N (a := 1) (b := 0) (by omega) (by omega) (by omega)) ?_
      refine xT_icV (y := nI (1)) g_q47 g47_33 (by decide) ?_
      exact xT_ireturn g_q47 g47_34 (by decide +kernel)
    · rw [show wrN op lf s (d + 1) l = wrN op lf s d (l + 1) from if_neg (fun z => hb z.2)]
      refine xT_iload_n g_q47 g47_2 (l2) ?_
      refine xT_aload_n g_q47 g47_3 (l0) ?_
      refine xT_getfield g_q47 g47_4 hcA rfl hc rfl c4 ?_
      refine xT_if_icmpN g_q47 g47_7 (t := 41) (by decide) (c3N (a := l) (b := nl) (by omega) (by omega) (by omega)) ?_
      refine xT_aload_n g_q47 g47_10 (l0) ?_
      refine xT_getfield g_q47 g47_11 hcA rfl hc rfl c0 ?_
      refine xT_iload_n g_q47 g47_14 (l2) ?_
      refine xT_iaload g_q47 g47_15 (by omega) a0 (ixN (n := 12) (by omega) b0) (ixG (by omega) (e0 _ (by omega))) ?_
      refine xT_icV (y := nI (2)) g_q47 g47_16 (by decide) ?_
      refine xT_if_icmpN g_q47 g47_17 (t := 35) (by decide) (c1N (b := 2) ho2) ?_
      refine xT_iload_n g_q47 g47_20 (l1) ?_
      refine xT_aload_n g_q47 g47_21 (l0) ?_
      refine xT_getfield g_q47 g47_22 hcA rfl hc rfl c1 ?_
      refine xT_iload_n g_q47 g47_25 (l2) ?_
      refine xT_iaload g_q47 g47_26 (by omega) a1 (ixN (n := 12) (by omega) b1) (ixG (by omega) (e1 _ (by omega))) ?_
      refine xT_invokestatic (r := []) (u := some (.inl (nI (0)))) g_q47 g47_27 (j := 48) (so := 3) (by decide +kernel) g_q48 (rfl) (t48pN hs (by omega) hb) ?_
      refine xT_ifCondY g_q47 g47_30 (t := 35) (by decide) (c0Y (b := 0) rfl) ?_
      refine xT_iincV (y := nI (l + 1)) g_q47 g47_35 (l2) (by decide) (bIncN _) ?_
      refine xT_goto g_q47 g47_38 (t := 2) (by decide) ?_
      exact ih (l + 1) _ (by omega) (lkN (by decide) (l0)) (lkN (by decide) (l1)) (lkY)
theorem t47 {c : Nat} {op lf rt : Nat → Nat} {nl : Nat} (hC : kC H c op lf rt nl) (h12 : nl ≤ 12) (ho : ∀ l, l < nl → op l ≤ 11 ∧ lf l < 6 ∧ rt l < 6) {s : Nat} (hs : s < 64) : x_To x_tb x_tyl ot (dp + 1) 47 0 (x_en 0 [.inr (some (c)), .inl (nI (s))]) [] H 0 0 (some (.inl (nI (wrN op lf s nl 0)))) H := by
  refine xT_icV (y := nI (0)) g_q47 g47_0 (by decide) ?_
  refine xT_istore_n g_q47 g47_1 (by decide) ?_
  exact t47_l hC h12 ho hs nl 0 _ (by omega) (lkN (by decide) (rfl)) (lkN (by decide) (rfl)) (lkY)
end XH5_5
