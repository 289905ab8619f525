/-! p35 by hand, 1. -/
noncomputable section XH351
variable {ot : XO Int32} {dp : Nat} {H : List (XC Int32)} {p n m : Nat} {r : Nat → Nat} {pl mi la we ord hf : Nat → Nat}
theorem t150_l (hP : isPo H p n r pl mi la we ord hf m) (hB : stB pl mi la we) (ho : ∀ k, k < n → ord k < n) {s : Nat} (hs : s < 256) : ∀ (d k w f : Nat) (L : List (Nat × XV Int32)), k + d = n → w ≤ 99 → f ≤ 998 → x_lk L 0 = some (.inr (some p)) → x_lk L 1 = some (.inl (nI s)) → x_lk L 2 = some (.inl (nI w)) → x_lk L 3 = some (.inl (nI f)) → x_lk L 4 = some (.inl (nI k)) → x_To x_tb x_tyl ot (dp + 1) 150 7 L [] H 0 0 (some (.inl (nI (mtD ord pl mi la s d k w f)))) H := by
  obtain ⟨⟨hpA, hp, h8⟩, ⟨d0, v0, a0, b0, e0⟩, ⟨d1, v1, a1, b1, e1⟩, ⟨d2, v2, a2, b2, e2⟩, ⟨d3, v3, a3, b3, e3⟩, ⟨d4, v4, a4, b4, e4⟩, ⟨d5, v5, a5, b5, e5⟩⟩ := id hP
  intro d
  induction d with
  | zero =>
    intro k w f L hk hw hf l0 l1 l2 l3 l4
    obtain rfl : n = k := by omega
    refine xT_iload g_q150 g150_7 (l4) ?_
    refine xT_aload_n g_q150 g150_9 (l0) ?_
    refine xT_getfield g_q150 g150_10 hpA rfl hp rfl rfl ?_
    refine xT_if_icmpY g_q150 g150_13 (t := 90) (by decide) (c3Y (a := n) (b := n) (by omega) (by omega) (by omega)) ?_
    refine xT_icV (y := nI (1)) g_q150 g150_90 (by decide) ?_
    exact xT_ireturn g_q150 g150_91 (by decide +kernel)
  | succ d ih =>
    intro k w f L hk hw hf l0 l1 l2 l3 l4
    have hok := ho k (by omega)
    have q0 := e0 _ hok
    have q1 := e1 _ hok
    have q2 := e2 _ hok
    obtain ⟨B0, B1, B2, -⟩ := hB (ord k)
    by_cases hb : bitP s (ord k) = 1
    rotate_left
    · rw [show mtD ord pl mi la s (d + 1) k w f = mtD ord pl mi la s d (k + 1) w f from if_neg hb]
      refine xT_iload g_q150 g150_7 (l4) ?_
      refine xT_aload_n g_q150 g150_9 (l0) ?_
      refine xT_getfield g_q150 g150_10 hpA rfl hp rfl rfl ?_
      refine xT_if_icmpN g_q150 g150_13 (t := 90) (by decide) (c3N (a := k) (b := n) (by omega) (by omega) (by omega)) ?_
      refine xT_aload_n g_q150 g150_16 (l0) ?_
      refine xT_getfield g_q150 g150_17 hpA rfl hp rfl rfl ?_
      refine xT_iload g_q150 g150_20 (l4) ?_
      refine xT_iaload g_q150 g150_22 (by omega) a4 (ixN (n := 8) (by omega) b4) (ixG (by omega) (e4 _ (by omega))) ?_
      refine xT_istore g_q150 g150_23 (by decide) ?_
      refine xT_iload_n g_q150 g150_25 (lkN (by decide) (l1)) ?_
      refine xT_iload g_q150 g150_26 (lkY) ?_
      refine xT_invokestatic (r := []) (u := some (.inl (nI (0)))) g_q150 g150_28 (j := 48) (so := 3) (by decide +kernel) g_q48 (rfl) (t48pN hs (by omega) hb) ?_
      refine xT_ifCondY g_q150 g150_31 (t := 84) (by decide) (c0Y (b := 0) rfl) ?_
      refine xT_iincV (y := nI (k + 1)) g_q150 g150_84 (lkN (by decide) (l4)) (by decide) (bIncN _) ?_
      refine xT_goto g_q150 g150_87 (t := 7) (by decide) ?_
      exact ih (k + 1) w f _ (by omega) hw hf (lkN (by decide) (lkN (by decide) (l0))) (lkN (by decide) (lkN (by decide) (l1))) (lkN (by decide) (lkN (by decide) (l2))) (lkN (by decide) (lkN (by decide) (l3))) (lkY)
    by_cases hd : pl (ord k) < w
    · have hq : dN (pl (ord k)) w = w - pl (ord k) := if_pos hd
      have hq9 : dN (pl (ord k)) w ≤ 99 := by omega
      by_cases hl : mi (ord k) < f + dN (pl (ord k)) w
      · rw [show mtD ord pl mi la s (d + 1) k w f = 0 from (if_pos hb).trans (if_pos hl)]
        refine xT_iload g_q150 g150_7 (l4) ?_
        refine xT_aload_n g_q150 g150_9 (l0) ?_
        refine xT_getfield g_q150 g150_10 hpA rfl hp rfl rfl ?_
        refine xT_if_icmpN g_q150 g150_13 (t := 90) (by decide) (c3N (a := k) (b := n) (by omega) (by omega) (by omega)) ?_
        refine xT_aload_n g_q150 g150_16 (l0) ?_
        refine xT_getfield g_q150 g150_17 hpA rfl hp rfl rfl ?_
        refine xT_iload g_q150 g150_20 (l4) ?_
        refine xT_iaload g_q150 g150_22 (by omega) a4 (ixN (n := 8) (by omega) b4) (ixG (by omega) (e4 _ (by omega))) ?_
        refine xT_istore g_q150 g150_23 (by decide) ?_
        refine xT_iload_n g_q150 g150_25 (lkN (by decide) (l1)) ?_
        refine xT_iload g_q150 g150_26 (lkY) ?_
        refine xT_invokestatic (r := []) (u := some (.inl (nI (1)))) g_q150 g150_28 (j := 48) (so := 3) (by decide +kernel) g_q48 (rfl) (t48pY hs (by omega) hb) ?_
        refine xT_ifCondN g_q150 g150_31 (t := 84) (by decide) (c0N (a := 1) (b := 0) (by omega) (by omega) (by omega)) ?_
        refine xT_iload_n g_q150 g150_34 (lkN (by decide) (l3)) ?_
        refine xT_aload_n g_q150 g150_35 (lkN (by decide) (l0)) ?_
        refine xT_getfield g_q150 g150_36 hpA rfl hp rfl rfl ?_
        refine xT_iload g_q150 g150_39 (lkY) ?_
        refine xT_iaload g_q150 g150_41 (by omega) a0 (ixN (n := 8) (by omega) b0) (ixG (by omega) (e0 _ (by omega))) ?_
        refine xT_iload_n g_q150 g150_42 (lkN (by decide) (l2)) ?_
        refine xT_isubV (y := x_bin 1 (nI (pl (ord k))) (nI w)) g_q150 g150_43 (rfl) ?_
        refine xT_absNV (y := nI (dN (pl (ord k)) w)) g_q150 g150_44 (by decide +kernel) (by decide +kernel) rfl ((b_abs hd (by omega)).1) ((b_abs hd (by omega)).2.trans (congrArg nI hq.symm)) ?_
        refine xT_iaddV (y := nI (f + dN (pl (ord k)) w)) g_q150 g150_47 (bAddN _ _) ?_
        refine xT_aload_n g_q150 g150_48 (lkN (by decide) (l0)) ?_
        refine xT_getfield g_q150 g150_49 hpA rfl hp rfl rfl ?_
        refine xT_iload g_q150 g150_52 (lkY) ?_
        refine xT_iaload g_q150 g150_54 (by omega) a1 (ixN (n := 8) (by omega) b1) (ixG (by omega) (e1 _ (by omega))) ?_
        refine xT_if_icmpN g_q150 g150_55 (t := 60) (by decide) (c5N (a := f + dN (pl (ord k)) w) (b := mi (ord (k))) (by omega) (by omega) (by omega)) ?_
        refine xT_icV (y := nI (0)) g_q150 g150_58 (by decide) ?_
        exact xT_ireturn g_q150 g150_59 (by decide +kernel)
      · rw [show mtD ord pl mi la s (d + 1) k w f = mtD ord pl mi la s d (k + 1) (pl (ord k)) (mi (ord k) + la (ord k)) from (if_pos hb).trans (if_neg hl)]
        have hl := Nat.le_of_not_lt hl
        refine xT_iload g_q150 g150_7 (l4) ?_
        refine xT_aload_n g_q150 g150_9 (l0) ?_
        refine xT_getfield g_q150 g150_10 hpA rfl hp rfl rfl ?_
        refine xT_if_icmpN g_q150 g150_13 (t := 90) (by decide) (c3N (a := k) (b := n) (by omega) (by omega) (by omega)) ?_
        refine xT_aload_n g_q150 g150_16 (l0) ?_
        refine xT_getfield g_q150 g150_17 hpA rfl hp rfl rfl ?_
        refine xT_iload g_q150 g150_20 (l4) ?_
        refine xT_iaload g_q150 g150_22 (by omega) a4 (ixN (n := 8) (by omega) b4) (ixG (by omega) (e4 _ (by omega))) ?_
        refine xT_istore g_q150 g150_23 (by decide) ?_
        refine xT_iload_n g_q150 g150_25 (lkN (by decide) (l1)) ?_
        refine xT_iload g_q150 g150_26 (lkY) ?_
        refine xT_invokestatic (r := []) (u := some (.inl (nI (1)))) g_q150 g150_28 (j := 48) (so := 3) (by decide +kernel) g_q48 (rfl) (t48pY hs (by omega) hb) ?_
        refine xT_ifCondN g_q150 g150_31 (t := 84) (by decide) (c0N (a := 1) (b := 0) (by omega) (by omega) (by omega)) ?_
        refine xT_iload_n g_q150 g150_34 (lkN (by decide) (l3)) ?_
        refine xT_aload_n g_q150 g150_35 (lkN (by decide) (l0)) ?_
        refine xT_getfield g_q150 g150_36 hpA rfl hp rfl rfl ?_
        refine xT_iload g_q150 g150_39 (lkY) ?_
        refine xT_iaload g_q150 g150_41 (by omega) a0 (ixN (n := 8) (by omega) b0) (ixG (by omega) (e0 _ (by omega))) ?_
        refine xT_iload_n g_q150 g150_42 (lkN (by decide) (l2)) ?_
        refine xT_isubV (y := x_bin 1 (nI (pl (ord k))) (nI w)) g_q150 g150_43 (rfl) ?_
        refine xT_absNV (y := nI (dN (pl (ord k)) w)) g_q150 g150_44 (by decide +kernel) (by decide +kernel) rfl ((b_abs hd (by omega)).1) ((b_abs hd (by omega)).2.trans (congrArg nI hq.symm)) ?_
        refine xT_iaddV (y := nI (f + dN (pl (ord k)) w)) g_q150 g150_47 (bAddN _ _) ?_
        refine xT_aload_n g_q150 g150_48 (lkN (by decide) (l0)) ?_
        refine xT_getfield g_q150 g150_49 hpA rfl hp rfl rfl ?_
        refine xT_iload g_q150 g150_52 (lkY) ?_
        refine xT_iaload g_q150 g150_54 (by omega) a1 (ixN (n := 8) (by omega) b1) (ixG (by omega) (e1 _ (by omega))) ?_
        refine xT_if_icmpY g_q150 g150_55 (t := 60) (by decide) (c5Y (a := f + dN (pl (ord k)) w) (b := mi (ord (k))) (by omega) (by omega) (by omega)) ?_
        refine xT_aload_n g_q150 g150_60 (lkN (by decide) (l0)) ?_
        refine xT_getfield g_q150 g150_61 hpA rfl hp rfl rfl ?_
        refine xT_iload g_q150 g150_64 (lkY) ?_
        refine xT_iaload g_q150 g150_66 (by omega) a0 (ixN (n := 8) (by omega) b0) (ixG (by omega) (e0 _ (by omega))) ?_
        refine xT_istore_n g_q150 g150_67 (by decide) ?_
        refine xT_aload_n g_q150 g150_68 (lkN (by decide) (lkN (by decide) (l0))) ?_
        refine xT_getfield g_q150 g150_69 hpA rfl hp rfl rfl ?_
        refine xT_iload g_q150 g150_72 (lkN (by decide) (lkY)) ?_
        refine xT_iaload g_q150 g150_74 (by omega) a1 (ixN (n := 8) (by omega) b1) (ixG (by omega) (e1 _ (by omega))) ?_
        refine xT_aload_n g_q150 g150_75 (lkN (by decide) (lkN (by decide) (l0))) ?_
        refine xT_getfield g_q150 g150_76 hpA rfl hp rfl rfl ?_
        refine xT_iload g_q150 g150_79 (lkN (by decide) (lkY)) ?_
        refine xT_iaload g_q150 g150_81 (by omega) a2 (ixN (n := 8) (by omega) b2) (ixG (by omega) (e2 _ (by omega))) ?_
        refine xT_iaddV (y := nI ((mi (ord (k))) + (la (ord (k))))) g_q150 g150_82 (bAddN _ _) ?_
        refine xT_istore_n g_q150 g150_83 (by decide) ?_
        refine xT_iincV (y := nI (k + 1)) g_q150 g150_84 (lkN (by decide) (lkN (by decide) (lkN (by decide) (l4)))) (by decide) (bIncN _) ?_
        refine xT_goto g_q150 g150_87 (t := 7) (by decide) ?_
        exact ih (k + 1) _ _ _ (by omega) (by omega) (by omega) (lkN (by decide) (lkN (by decide) (lkN (by decide) (lkN (by decide) (l0))))) (lkN (by decide) (lkN (by decide) (lkN (by decide) (lkN (by decide) (l1))))) (lkN (by decide) (lkN (by decide) (lkY))) (lkN (by decide) (lkY)) (lkY)
    · have hq : dN (pl (ord k)) w = pl (ord k) - w := if_neg hd
      have hd := Nat.le_of_not_lt hd
      have hq9 : dN (pl (ord k)) w ≤ 99 := by omega
      by_cases hl : mi (ord k) < f + dN (pl (ord k)) w
      · rw [show mtD ord pl mi la s (d + 1) k w f = 0 from (if_pos hb).trans (if_pos hl)]
        refine xT_iload g_q150 g150_7 (l4) ?_
        refine xT_aload_n g_q150 g150_9 (l0) ?_
        refine xT_getfield g_q150 g150_10 hpA rfl hp rfl rfl ?_
        refine xT_if_icmpN g_q150 g150_13 (t := 90) (by decide) (c3N (a := k) (b := n) (by omega) (by omega) (by omega)) ?_
        refine xT_aload_n g_q150 g150_16 (l0) ?_
        refine xT_getfield g_q150 g150_17 hpA rfl hp rfl rfl ?_
        refine xT_iload g_q150 g150_20 (l4) ?_
        refine xT_iaload g_q150 g150_22 (by omega) a4 (ixN (n := 8) (by omega) b4) (ixG (by omega) (e4 _ (by omega))) ?_
        refine xT_istore g_q150 g150_23 (by decide) ?_
        refine xT_iload_n g_q150 g150_25 (lkN (by decide) (l1)) ?_
        refine xT_iload g_q150 g150_26 (lkY) ?_
        refine xT_invokestatic (r := []) (u := some (.inl (nI (1)))) g_q150 g150_28 (j := 48) (so := 3) (by decide +kernel) g_q48 (rfl) (t48pY hs (by omega) hb) ?_
        refine xT_ifCondN g_q150 g150_31 (t := 84) (by decide) (c0N (a := 1) (b := 0) (by omega) (by omega) (by omega)) ?_
        refine xT_iload_n g_q150 g150_34 (lkN (by decide) (l3)) ?_
        refine xT_aload_n g_q150 g150_35 (lkN (by decide) (l0)) ?_
        refine xT_getfield g_q150 g150_36 hpA rfl hp rfl rfl ?_
        refine xT_iload g_q150 g150_39 (lkY) ?_
        refine xT_iaload g_q150 g150_41 (by omega) a0 (ixN (n := 8) (by omega) b0) (ixG (by omega) (e0 _ (by omega))) ?_
        refine xT_iload_n g_q150 g150_42 (lkN (by decide) (l2)) ?_
        refine xT_isubV (y := nI (dN (pl (ord k)) w)) g_q150 g150_43 ((bSubN hd).trans (congrArg nI hq.symm)) ?_
        refine xT_absY g_q150 g150_44 (by decide +kernel) (by decide +kernel) rfl (c3Y (b := 0) (Nat.zero_le _) (by omega) (by omega)) ?_
        refine xT_iaddV (y := nI (f + dN (pl (ord k)) w)) g_q150 g150_47 (bAddN _ _) ?_
        refine xT_aload_n g_q150 g150_48 (lkN (by decide) (l0)) ?_
        refine xT_getfield g_q150 g150_49 hpA rfl hp rfl rfl ?_
        refine xT_iload g_q150 g150_52 (lkY) ?_
        refine xT_iaload g_q150 g150_54 (by omega) a1 (ixN (n := 8) (by omega) b1) (ixG (by omega) (e1 _ (by omega))) ?_
        refine xT_if_icmpN g_q150 g150_55 (t := 60) (by decide) (c5N (a := f + dN (pl (ord k)) w) (b := mi (ord (k))) (by omega) (by omega) (by omega)) ?_
        refine xT_icV (y := nI (0)) g_q150 g150_58 (by decide) ?_
        exact xT_ireturn g_q150 g150_59 (by decide +kernel)
      · rw [show mtD ord pl mi la s (d + 1) k w f = mtD ord pl mi la s d (k + 1) (pl (ord k)) (mi (ord k) + la (ord k)) from (if_pos hb).trans (if_neg hl)]
        have hl := Nat.le_of_not_lt hl
        refine xT_iload g_q150 g150_7 (l4) ?_
        refine xT_aload_n g_q150 g150_9 (l0) ?_
        refine xT_getfield g_q150 g150_10 hpA rfl hp rfl rfl ?_
        refine xT_if_icmpN g_q150 g150_13 (t := 90) (by decide) (c3N (a := k) (b := n) (by omega) (by omega) (by omega)) ?_
        refine xT_aload_n g_q150 g150_16 (l0) ?_
        refine xT_getfield g_q150 g150_17 hpA rfl hp rfl rfl ?_
        refine xT_iload g_q150 g150_20 (l4) ?_
        refine xT_iaload g_q150 g150_22 (by omega) a4 (ixN (n := 8) (by omega) b4) (ixG (by omega) (e4 _ (by omega))) ?_
        refine xT_istore g_q150 g150_23 (by decide) ?_
        refine xT_iload_n g_q150 g150_25 (lkN (by decide) (l1)) ?_
        refine xT_iload g_q150 g150_26 (lkY) ?_
        refine xT_invokestatic (r := []) (u := some (.inl (nI (1)))) g_q150 g150_28 (j := 48) (so := 3) (by decide +kernel) g_q48 (rfl) (t48pY hs (by omega) hb) ?_
        refine xT_ifCondN g_q150 g150_31 (t := 84) (by decide) (c0N (a := 1) (b := 0) (by omega) (by omega) (by omega)) ?_
        refine xT_iload_n g_q150 g150_34 (lkN (by decide) (l3)) ?_
        refine xT_aload_n g_q150 g150_35 (lkN (by decide) (l0)) ?_
        refine xT_getfield g_q150 g150_36 hpA rfl hp rfl rfl ?_
        refine xT_iload g_q150 g150_39 (lkY) ?_
        refine xT_iaload g_q150 g150_41 (by omega) a0 (ixN (n := 8) (by omega) b0) (ixG (by omega) (e0 _ (by omega))) ?_
        refine xT_iload_n g_q150 g150_42 (lkN (by decide) (l2)) ?_
        refine xT_isubV (y := nI (dN (pl (ord k)) w)) g_q150 g150_43 ((bSubN hd).trans (congrArg nI hq.symm)) ?_
        refine xT_absY g_q150 g150_44 (by decide +kernel) (by decide +kernel) rfl (c3Y (b := 0) (Nat.zero_le _) (by omega) (by omega)) ?_
        refine xT_iaddV (y := nI (f + dN (pl (ord k)) w)) g_q150 g150_47 (bAddN _ _) ?_
        refine xT_aload_n g_q150 g150_48 (lkN (by decide) (l0)) ?_
        refine xT_getfield g_q150 g150_49 hpA rfl hp rfl rfl ?_
        refine xT_iload g_q150 g150_52 (lkY) ?_
        refine xT_iaload g_q150 g150_54 (by omega) a1 (ixN (n := 8) (by omega) b1) (ixG (by omega) (e1 _ (by omega))) ?_
        refine xT_if_icmpY g_q150 g150_55 (t := 60) (by decide) (c5Y (a := f + dN (pl (ord k)) w) (b := mi (ord (k))) (by omega) (by omega) (by omega)) ?_
        refine xT_aload_n g_q150 g150_60 (lkN (by decide) (l0)) ?_
        refine xT_getfield g_q150 g150_61 hpA rfl hp rfl rfl ?_
        refine xT_iload g_q150 g150_64 (lkY) ?_
        refine xT_iaload g_q150 g150_66 (by omega) a0 (ixN (n := 8) (by omega) b0) (ixG (by omega) (e0 _ (by omega))) ?_
        refine xT_istore_n g_q150 g150_67 (by decide) ?_
        refine xT_aload_n g_q150 g150_68 (lkN (by decide) (lkN (by decide) (l0))) ?_
        refine xT_getfield g_q150 g150_69 hpA rfl hp rfl rfl ?_
        refine xT_iload g_q150 g150_72 (lkN (by decide) (lkY)) ?_
        refine xT_iaload g_q150 g150_74 (by omega) a1 (ixN (n := 8) (by omega) b1) (ixG (by omega) (e1 _ (by omega))) ?_
        refine xT_aload_n g_q150 g150_75 (lkN (by decide) (lkN (by decide) (l0))) ?_
        refine xT_getfield g_q150 g150_76 hpA rfl hp rfl rfl ?_
        refine xT_iload g_q150 g150_79 (lkN (by decide) (lkY)) ?_
        refine xT_iaload g_q150 g150_81 (by omega) a2 (ixN (n := 8) (by omega) b2) (ixG (by omega) (e2 _ (by omega))) ?_
        refine xT_iaddV (y := nI ((mi (ord (k))) + (la (ord (k))))) g_q150 g150_82 (bAddN _ _) ?_
        refine xT_istore_n g_q150 g150_83 (by decide) ?_
        refine xT_iincV (y := nI (k + 1)) g_q150 g150_84 (lkN (by decide) (lkN (by decide) (lkN (by decide) (l4)))) (by decide) (bIncN _) ?_
        refine xT_goto g_q150 g150_87 (t := 7) (by decide) ?_
        exact ih (k + 1) _ _ _ (by omega) (by omega) (by omega) (lkN (by decide) (lkN (by decide) (lkN (by decide) (lkN (by decide) (l0))))) (lkN (by decide) (lkN (by decide) (lkN (by decide) (lkN (by decide) (l1))))) (lkN (by decide) (lkN (by decide) (lkY))) (lkN (by decide) (lkY)) (lkY)
theorem t150 (hP : isPo H p n r pl mi la we ord hf m) (hB : stB pl mi la we) (ho : ∀ k, k < n → ord k < n) {s : Nat} (hs : s < 256) : x_To x_tb x_tyl ot (dp + 1) 150 0 (x_en 0 [.inr (some (p)), .inl (nI (s))]) [] H 0 0 (some (.inl (nI (mtD ord pl mi la s n 0 0 0)))) H := by
  refine xT_icV (y := nI (0)) g_q150 g150_0 (by decide) ?_
  refine xT_istore_n g_q150 g150_1 (by decide) ?_
  refine xT_icV (y := nI (0)) g_q150 g150_2 (by decide) ?_
  refine xT_istore_n g_q150 g150_3 (by decide) ?_
  refine xT_icV (y := nI (0)) g_q150 g150_4 (by decide) ?_
  refine xT_istore g_q150 g150_5 (by decide) ?_
  exact t150_l hP hB ho hs n 0 0 0 _ (by omega) (by omega) (by omega) (lkN (by decide) (lkN (by decide) (lkN (by decide) (rfl)))) (lkN (by decide) (lkN (by decide) (lkN (by decide) (rfl)))) (lkN (by decide) (lkN (by decide) (lkY))) (lkN (by decide) (lkY)) (lkY)
end XH351
