/-! p5 by hand, 15. -/
noncomputable section XH5_15
variable {ot : XO Int32} {dp : Nat} {H : List (XC Int32)} {a n m : Nat} {P C nl sv S : Nat → Nat} {op lf rt : Nat → Nat → Nat}
theorem t229_l {b : Nat} {D U : Nat → Nat} (hB : kB H b n D U op lf rt nl sv S (fun _ _ => True)) (ho : cdOk n op lf rt nl) {p : Nat} (hp : p < n) : ∀ (d l : Nat) (L : List (Nat × XV Int32)), l + d = nl p → x_lk L 0 = some (.inr (some (b))) → x_lk L 1 = some (.inl (nI (p))) → x_lk L 2 = some (.inl (nI (l))) → x_To x_tb x_tyl ot dp 229 2 L [] H 0 0 (some (.inl (nI (wrN (op p) (lf p) (S p) d l)))) H := by
  obtain ⟨⟨hbA, hn12, gs, ln, cd, ip, su, vc, vi, vs, hb, g0, g1, g2, g6, g63, ⟨ln0, vl, ln1, ln2, ln3⟩, ⟨cd1, cd2, cd3⟩, ⟨ip0, ip1, ip2, ip3⟩, su1, su2, su3⟩, hD, hU, inj⟩ := id hB
  obtain ⟨dD, dw, dw1, dw2, dw3, dw4⟩ := hD p hp
  obtain ⟨u1, uw, u2, u3, u4⟩ := hU p hp
  obtain ⟨hl12, hcd⟩ := ho p hp
  intro d
  induction d with
  | zero =>
    intro l L hl l0 l1 l2
    obtain rfl : nl p = l := by omega
    rw [show wrN (op p) (lf p) (S p) 0 (nl p) = 0 from rfl]
    refine xT_iload_n g_q229 g229_2 (l2) ?_
    refine xT_aload_n g_q229 g229_3 (l0) ?_
    refine xT_getfield g_q229 g229_4 hbA rfl hb rfl g1 ?_
    refine xT_iload_n g_q229 g229_7 (l1) ?_
    refine xT_iaload g_q229 g229_8 (by omega) ln1 (ixN (n := 13) (by omega) ln2) (ixG (by omega) (ln3 _ (by omega))) ?_
    refine xT_if_icmpY g_q229 g229_9 (t := 56) (by decide) (c3Y (a := nl p) (b := nl p) (Nat.le_refl _) (by omega) (by omega)) ?_
    refine xT_icV (y := nI (0)) g_q229 g229_56 (by decide) ?_
    exact xT_ireturn g_q229 g229_57 (by decide +kernel)
  | succ d ih =>
    intro l L hl l0 l1 l2
    obtain ⟨o1, o2, o3⟩ := hcd l (by omega)
    obtain ⟨k0, k1, k2⟩ := dw4 l (by omega)
    have hr := (opR_t _ (show op p l < 12 by omega)).1
    by_cases ho2 : op p l = 2
    rotate_left
    · rw [show wrN (op p) (lf p) (S p) (d + 1) l = wrN (op p) (lf p) (S p) d (l + 1) from if_neg (fun z => ho2 z.1)]
      refine xT_iload_n g_q229 g229_2 (l2) ?_
      refine xT_aload_n g_q229 g229_3 (l0) ?_
      refine xT_getfield g_q229 g229_4 hbA rfl hb rfl g1 ?_
      refine xT_iload_n g_q229 g229_7 (l1) ?_
      refine xT_iaload g_q229 g229_8 (by omega) ln1 (ixN (n := 13) (by omega) ln2) (ixG (by omega) (ln3 _ (by omega))) ?_
      refine xT_if_icmpN g_q229 g229_9 (t := 56) (by decide) (c3N (a := l) (b := nl p) (by omega) (by omega) (by omega)) ?_
      refine xT_aload_n g_q229 g229_12 (l0) ?_
      refine xT_getfield g_q229 g229_13 hbA rfl hb rfl g2 ?_
      refine xT_iload_n g_q229 g229_16 (l1) ?_
      refine xT_aaload g_q229 g229_17 (by decide +kernel) cd1 (ixN (n := 13) (by omega) cd2) (ixG (by omega) (cd3 _ (by omega))) ?_
      refine xT_icV (y := nI (4)) g_q229 g229_18 (by decide) ?_
      refine xT_iload_n g_q229 g229_19 (l2) ?_
      refine xT_imulV (y := nI (4 * l)) g_q229 g229_20 (bMulN _ _) ?_
      refine xT_iaload g_q229 g229_21 (by omega) dw1 (ixN (n := 48) (by omega) dw2) (ixG (by omega) k0) ?_
      refine xT_icV (y := nI (2)) g_q229 g229_22 (by decide) ?_
      refine xT_if_icmpY g_q229 g229_23 (t := 50) (by decide) (c1Y (a := opR (op p l)) (b := 2) (fun z => ho2 (opR_2 _ (by omega) z)) (by omega) (by omega)) ?_
      refine xT_iincV (y := nI (l + 1)) g_q229 g229_50 (l2) (by decide) (bIncN _) ?_
      refine xT_goto g_q229 g229_53 (t := 2) (by decide) ?_
      exact ih (l + 1) _ (by omega) (lkN (by decide) (l0)) (lkN (by decide) (l1)) (lkY)
    have k1 := k1 (by omega) (by omega)
    have hbb := bitP_b (a := S p) (s := lf p l)
    by_cases hbt : bitP (S p) (lf p l) = 1
    · rw [show wrN (op p) (lf p) (S p) (d + 1) l = 1 from if_pos ⟨ho2, hbt⟩]
      refine xT_iload_n g_q229 g229_2 (l2) ?_
      refine xT_aload_n g_q229 g229_3 (l0) ?_
      refine xT_getfield g_q229 g229_4 hbA rfl hb rfl g1 ?_
      refine xT_iload_n g_q229 g229_7 (l1) ?_
      refine xT_iaload g_q229 g229_8 (by omega) ln1 (ixN (n := 13) (by omega) ln2) (ixG (by omega) (ln3 _ (by omega))) ?_
      refine xT_if_icmpN g_q229 g229_9 (t := 56) (by decide) (c3N (a := l) (b := nl p) (by omega) (by omega) (by omega)) ?_
      refine xT_aload_n g_q229 g229_12 (l0) ?_
      refine xT_getfield g_q229 g229_13 hbA rfl hb rfl g2 ?_
      refine xT_iload_n g_q229 g229_16 (l1) ?_
      refine xT_aaload g_q229 g229_17 (by decide +kernel) cd1 (ixN (n := 13) (by omega) cd2) (ixG (by omega) (cd3 _ (by omega))) ?_
      refine xT_icV (y := nI (4)) g_q229 g229_18 (by decide) ?_
      refine xT_iload_n g_q229 g229_19 (l2) ?_
      refine xT_imulV (y := nI (4 * l)) g_q229 g229_20 (bMulN _ _) ?_
      refine xT_iaload g_q229 g229_21 (by omega) dw1 (ixN (n := 48) (by omega) dw2) (ixG (by omega) k0) ?_
      refine xT_icV (y := nI (2)) g_q229 g229_22 (by decide) ?_
      refine xT_if_icmpN g_q229 g229_23 (t := 50) (by decide) (c1N (a := opR (op p l)) (b := 2) (by rw [ho2]; rfl)) ?_
      refine xT_aload_n g_q229 g229_26 (l0) ?_
      refine xT_getfield g_q229 g229_27 hbA rfl hb rfl g63 ?_
      refine xT_iload_n g_q229 g229_30 (l1) ?_
      refine xT_aaload g_q229 g229_31 (by decide +kernel) su1 (ixN (n := 12) (by omega) su2) (ixG (by omega) (su3 _ (by omega))) ?_
      refine xT_aload_n g_q229 g229_32 (l0) ?_
      refine xT_getfield g_q229 g229_33 hbA rfl hb rfl g2 ?_
      refine xT_iload_n g_q229 g229_36 (l1) ?_
      refine xT_aaload g_q229 g229_37 (by decide +kernel) cd1 (ixN (n := 13) (by omega) cd2) (ixG (by omega) (cd3 _ (by omega))) ?_
      refine xT_icV (y := nI (4)) g_q229 g229_38 (by decide) ?_
      refine xT_iload_n g_q229 g229_39 (l2) ?_
      refine xT_imulV (y := nI (4 * l)) g_q229 g229_40 (bMulN _ _) ?_
      refine xT_icV (y := nI (1)) g_q229 g229_41 (by decide) ?_
      refine xT_iaddV (y := nI (4 * l + 1)) g_q229 g229_42 (bAddN _ _) ?_
      refine xT_iaload g_q229 g229_43 (by omega) dw1 (ixN (n := 48) (by omega) dw2) (ixG (by omega) k1) ?_
      refine xT_baload g_q229 g229_44 u1 u2 (ixN (n := 6) (by omega) u3) (ixG (by omega) (u4 _ (by omega) trivial)) ?_
      refine xT_ifCondN g_q229 g229_45 (t := 50) (by decide) (c0N (a := bitP (S p) (lf p l)) (b := 0) (by omega) (by omega) (by omega)) ?_
      refine xT_icV (y := nI (1)) g_q229 g229_48 (by decide) ?_
      exact xT_ireturn g_q229 g229_49 (by decide +kernel)
    · rw [show wrN (op p) (lf p) (S p) (d + 1) l = wrN (op p) (lf p) (S p) d (l + 1) from if_neg (fun z => hbt z.2)]
      refine xT_iload_n g_q229 g229_2 (l2) ?_
      refine xT_aload_n g_q229 g229_3 (l0) ?_
      refine xT_getfield g_q229 g229_4 hbA rfl hb rfl g1 ?_
      refine xT_iload_n g_q229 g229_7 (l1) ?_
      refine xT_iaload g_q229 g229_8 (by omega) ln1 (ixN (n := 13) (by omega) ln2) (ixG (by omega) (ln3 _ (by omega))) ?_
      refine xT_if_icmpN g_q229 g229_9 (t := 56) (by decide) (c3N (a := l) (b := nl p) (by omega) (by omega) (by omega)) ?_
      refine xT_aload_n g_q229 g229_12 (l0) ?_
      refine xT_getfield g_q229 g229_13 hbA rfl hb rfl g2 ?_
      refine xT_iload_n g_q229 g229_16 (l1) ?_
      refine xT_aaload g_q229 g229_17 (by decide +kernel) cd1 (ixN (n := 13) (by omega) cd2) (ixG (by omega) (cd3 _ (by omega))) ?_
      refine xT_icV (y := nI (4)) g_q229 g229_18 (by decide) ?_
      refine xT_iload_n g_q229 g229_19 (l2) ?_
      refine xT_imulV (y := nI (4 * l)) g_q229 g229_20 (bMulN _ _) ?_
      refine xT_iaload g_q229 g229_21 (by omega) dw1 (ixN (n := 48) (by omega) dw2) (ixG (by omega) k0) ?_
      refine xT_icV (y := nI (2)) g_q229 g229_22 (by decide) ?_
      refine xT_if_icmpN g_q229 g229_23 (t := 50) (by decide) (c1N (a := opR (op p l)) (b := 2) (by rw [ho2]; rfl)) ?_
      refine xT_aload_n g_q229 g229_26 (l0) ?_
      refine xT_getfield g_q229 g229_27 hbA rfl hb rfl g63 ?_
      refine xT_iload_n g_q229 g229_30 (l1) ?_
      refine xT_aaload g_q229 g229_31 (by decide +kernel) su1 (ixN (n := 12) (by omega) su2) (ixG (by omega) (su3 _ (by omega))) ?_
      refine xT_aload_n g_q229 g229_32 (l0) ?_
      refine xT_getfield g_q229 g229_33 hbA rfl hb rfl g2 ?_
      refine xT_iload_n g_q229 g229_36 (l1) ?_
      refine xT_aaload g_q229 g229_37 (by decide +kernel) cd1 (ixN (n := 13) (by omega) cd2) (ixG (by omega) (cd3 _ (by omega))) ?_
      refine xT_icV (y := nI (4)) g_q229 g229_38 (by decide) ?_
      refine xT_iload_n g_q229 g229_39 (l2) ?_
      refine xT_imulV (y := nI (4 * l)) g_q229 g229_40 (bMulN _ _) ?_
      refine xT_icV (y := nI (1)) g_q229 g229_41 (by decide) ?_
      refine xT_iaddV (y := nI (4 * l + 1)) g_q229 g229_42 (bAddN _ _) ?_
      refine xT_iaload g_q229 g229_43 (by omega) dw1 (ixN (n := 48) (by omega) dw2) (ixG (by omega) k1) ?_
      refine xT_baload g_q229 g229_44 u1 u2 (ixN (n := 6) (by omega) u3) (ixG (by omega) (u4 _ (by omega) trivial)) ?_
      refine xT_ifCondY g_q229 g229_45 (t := 50) (by decide) (c0Y (a := bitP (S p) (lf p l)) (b := 0) (by omega)) ?_
      refine xT_iincV (y := nI (l + 1)) g_q229 g229_50 (l2) (by decide) (bIncN _) ?_
      refine xT_goto g_q229 g229_53 (t := 2) (by decide) ?_
      exact ih (l + 1) _ (by omega) (lkN (by decide) (l0)) (lkN (by decide) (l1)) (lkY)
theorem t229 {b : Nat} {D U : Nat → Nat} (hB : kB H b n D U op lf rt nl sv S (fun _ _ => True)) (ho : cdOk n op lf rt nl) {p : Nat} (hp : p < n) : x_To x_tb x_tyl ot dp 229 0 (x_en 0 [.inr (some (b)), .inl (nI (p))]) [] H 0 0 (some (.inl (nI (wrN (op p) (lf p) (S p) (nl p) 0)))) H := by
  refine xT_icV (y := nI (0)) g_q229 g229_0 (by decide) ?_
  refine xT_istore_n g_q229 g229_1 (by decide) ?_
  exact t229_l hB ho hp (nl p) 0 _ (by omega) (lkN (by decide) (rfl)) (lkN (by decide) (rfl)) (lkY)
end XH5_15
