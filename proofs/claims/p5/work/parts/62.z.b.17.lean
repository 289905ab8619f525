/-! p5 by hand, 16. -/
noncomputable section XH5_16
variable {ot : XO Int32} {dp : Nat} {H : List (XC Int32)} {a n m : Nat} {P C nl sv S : Nat → Nat} {op lf rt : Nat → Nat → Nat}
theorem t228 {b : Nat} {D U : Nat → Nat} (hB : kB H b n D U op lf rt nl sv S (fun _ _ => True)) (ho : cdOk n op lf rt nl) (hsv : svOk n sv) {p l : Nat} (hp : p < n) (hl : l < nl p) : x_To x_tb x_tyl ot (dp + 1) 228 0 (x_en 0 [.inr (some (b)), .inl (nI (p)), .inl (nI (l))]) [] H 0 0 (some (.inl (nI (gvN (op p) (rt p) (rdN op lf nl S (sv p)) (S p) l)))) H := by
  obtain ⟨⟨hbA, hn12, gs, ln, cd, ip, su, vc, vi, vs, hb, g0, g1, g2, g6, g63, ⟨ln0, vl, ln1, ln2, ln3⟩, ⟨cd1, cd2, cd3⟩, ⟨ip0, ip1, ip2, ip3⟩, su1, su2, su3⟩, hD, hU, inj⟩ := id hB
  obtain ⟨dD, dw, dw1, dw2, dw3, dw4⟩ := hD p hp
  obtain ⟨u1, uw, u2, u3, u4⟩ := hU p hp
  obtain ⟨hl12, hcd⟩ := ho p hp
  obtain ⟨o1, o2, o3⟩ := hcd l hl
  obtain ⟨k0, k1, k2⟩ := dw4 l hl
  rcases (show op p l = 0 ∨ op p l = 1 ∨ op p l = 2 ∨ op p l = 3 ∨ op p l = 4 ∨ op p l = 5 ∨ op p l = 6 ∨ op p l = 7 ∨ op p l = 8 ∨ op p l = 9 ∨ op p l = 10 ∨ op p l = 11 by omega) with hz | hz | hz | hz | hz | hz | hz | hz | hz | hz | hz | hz
  · have hz : op p l = 0 := hz
    have k0 : dw[4 * l]? = some (.inl (nI 0)) := by
      rw [k0, hz]
      rfl
    obtain ⟨x2, k2⟩ := dw3 (4 * l + 2) (by omega)
    rw [show gvN (op p) (rt p) (rdN op lf nl S (sv p)) (S p) l = 1 from if_pos hz]
    refine xT_aload_n g_q228 g228_0 (rfl) ?_
    refine xT_getfield g_q228 g228_1 hbA rfl hb rfl g2 ?_
    refine xT_iload_n g_q228 g228_4 (rfl) ?_
    refine xT_aaload g_q228 g228_5 (by decide +kernel) cd1 (ixN (n := 13) (by omega) cd2) (ixG (by omega) (cd3 _ (by omega))) ?_
    refine xT_icV (y := nI (4)) g_q228 g228_6 (by decide) ?_
    refine xT_iload_n g_q228 g228_7 (rfl) ?_
    refine xT_imulV (y := nI (4 * l)) g_q228 g228_8 (bMulN _ _) ?_
    refine xT_iaload g_q228 g228_9 (by omega) dw1 (ixN (n := 48) (by omega) dw2) (ixG (by omega) k0) ?_
    refine xT_istore_n g_q228 g228_10 (by decide) ?_
    refine xT_aload_n g_q228 g228_11 (lkN (by decide) (rfl)) ?_
    refine xT_getfield g_q228 g228_12 hbA rfl hb rfl g2 ?_
    refine xT_iload_n g_q228 g228_15 (lkN (by decide) (rfl)) ?_
    refine xT_aaload g_q228 g228_16 (by decide +kernel) cd1 (ixN (n := 13) (by omega) cd2) (ixG (by omega) (cd3 _ (by omega))) ?_
    refine xT_icV (y := nI (4)) g_q228 g228_17 (by decide) ?_
    refine xT_iload_n g_q228 g228_18 (lkN (by decide) (rfl)) ?_
    refine xT_imulV (y := nI (4 * l)) g_q228 g228_19 (bMulN _ _) ?_
    refine xT_icV (y := nI (2)) g_q228 g228_20 (by decide) ?_
    refine xT_iaddV (y := nI (4 * l + 2)) g_q228 g228_21 (bAddN _ _) ?_
    refine xT_iaload g_q228 g228_22 (by omega) dw1 (ixN (n := 48) (by omega) dw2) (ixG (by omega) k2) ?_
    refine xT_istore g_q228 g228_23 (by decide) ?_
    refine xT_iload_n g_q228 g228_25 (lkN (by decide) (lkY)) ?_
    refine xT_icV (y := nI (4)) g_q228 g228_26 (by decide) ?_
    refine xT_if_icmpN g_q228 g228_27 (t := 41) (by decide) (c0N (a := 0) (b := 4) (by omega) (by omega) (by omega)) ?_
    refine xT_iload_n g_q228 g228_30 (lkN (by decide) (lkY)) ?_
    refine xT_icV (y := nI (5)) g_q228 g228_31 (by decide) ?_
    refine xT_if_icmpN g_q228 g228_32 (t := 41) (by decide) (c0N (a := 0) (b := 5) (by omega) (by omega) (by omega)) ?_
    refine xT_iload_n g_q228 g228_35 (lkN (by decide) (lkY)) ?_
    refine xT_biV (y := nI (6)) g_q228 g228_36 (by decide) ?_
    refine xT_if_icmpY g_q228 g228_38 (t := 45) (by decide) (c1Y (a := 0) (b := 6) (by omega) (by omega) (by omega)) ?_
    refine xT_icV (y := nI (0)) g_q228 g228_45 (by decide) ?_
    refine xT_istore g_q228 g228_46 (by decide) ?_
    refine xT_iload_n g_q228 g228_48 (lkN (by decide) (lkN (by decide) (lkY))) ?_
    refine xT_ifCondY g_q228 g228_49 (t := 96) (by decide) (c0Y (a := 0) (b := 0) rfl) ?_
    refine xT_icV (y := nI (1)) g_q228 g228_96 (by decide) ?_
    refine xT_goto g_q228 g228_97 (t := 101) (by decide) ?_
    exact xT_ireturn g_q228 g228_101 (by decide +kernel)
  · have hz : op p l = 1 := hz
    have k0 : dw[4 * l]? = some (.inl (nI 1)) := by
      rw [k0, hz]
      rfl
    obtain ⟨x2, k2⟩ := dw3 (4 * l + 2) (by omega)
    rw [show gvN (op p) (rt p) (rdN op lf nl S (sv p)) (S p) l = rdN op lf nl S (sv p) from (if_neg (by omega)).trans (if_pos hz)]
    rcases hv : sv p with _ | s
    · have hip : vi[p]? = some (.inl (-1)) := by
        rw [ip3 p hp, hv]
        rfl
      rw [show rdN op lf nl S 0 = 0 from rfl]
      refine xT_aload_n g_q228 g228_0 (rfl) ?_
      refine xT_getfield g_q228 g228_1 hbA rfl hb rfl g2 ?_
      refine xT_iload_n g_q228 g228_4 (rfl) ?_
      refine xT_aaload g_q228 g228_5 (by decide +kernel) cd1 (ixN (n := 13) (by omega) cd2) (ixG (by omega) (cd3 _ (by omega))) ?_
      refine xT_icV (y := nI (4)) g_q228 g228_6 (by decide) ?_
      refine xT_iload_n g_q228 g228_7 (rfl) ?_
      refine xT_imulV (y := nI (4 * l)) g_q228 g228_8 (bMulN _ _) ?_
      refine xT_iaload g_q228 g228_9 (by omega) dw1 (ixN (n := 48) (by omega) dw2) (ixG (by omega) k0) ?_
      refine xT_istore_n g_q228 g228_10 (by decide) ?_
      refine xT_aload_n g_q228 g228_11 (lkN (by decide) (rfl)) ?_
      refine xT_getfield g_q228 g228_12 hbA rfl hb rfl g2 ?_
      refine xT_iload_n g_q228 g228_15 (lkN (by decide) (rfl)) ?_
      refine xT_aaload g_q228 g228_16 (by decide +kernel) cd1 (ixN (n := 13) (by omega) cd2) (ixG (by omega) (cd3 _ (by omega))) ?_
      refine xT_icV (y := nI (4)) g_q228 g228_17 (by decide) ?_
      refine xT_iload_n g_q228 g228_18 (lkN (by decide) (rfl)) ?_
      refine xT_imulV (y := nI (4 * l)) g_q228 g228_19 (bMulN _ _) ?_
      refine xT_icV (y := nI (2)) g_q228 g228_20 (by decide) ?_
      refine xT_iaddV (y := nI (4 * l + 2)) g_q228 g228_21 (bAddN _ _) ?_
      refine xT_iaload g_q228 g228_22 (by omega) dw1 (ixN (n := 48) (by omega) dw2) (ixG (by omega) k2) ?_
      refine xT_istore g_q228 g228_23 (by decide) ?_
      refine xT_iload_n g_q228 g228_25 (lkN (by decide) (lkY)) ?_
      refine xT_icV (y := nI (4)) g_q228 g228_26 (by decide) ?_
      refine xT_if_icmpN g_q228 g228_27 (t := 41) (by decide) (c0N (a := 1) (b := 4) (by omega) (by omega) (by omega)) ?_
      refine xT_iload_n g_q228 g228_30 (lkN (by decide) (lkY)) ?_
      refine xT_icV (y := nI (5)) g_q228 g228_31 (by decide) ?_
      refine xT_if_icmpN g_q228 g228_32 (t := 41) (by decide) (c0N (a := 1) (b := 5) (by omega) (by omega) (by omega)) ?_
      refine xT_iload_n g_q228 g228_35 (lkN (by decide) (lkY)) ?_
      refine xT_biV (y := nI (6)) g_q228 g228_36 (by decide) ?_
      refine xT_if_icmpY g_q228 g228_38 (t := 45) (by decide) (c1Y (a := 1) (b := 6) (by omega) (by omega) (by omega)) ?_
      refine xT_icV (y := nI (0)) g_q228 g228_45 (by decide) ?_
      refine xT_istore g_q228 g228_46 (by decide) ?_
      refine xT_iload_n g_q228 g228_48 (lkN (by decide) (lkN (by decide) (lkY))) ?_
      refine xT_ifCondN g_q228 g228_49 (t := 96) (by decide) (c0N (a := 1) (b := 0) (by omega) (by omega) (by omega)) ?_
      refine xT_iload g_q228 g228_52 (lkY) ?_
      refine xT_ifCondY g_q228 g228_54 (t := 69) (by decide) (c0Y (a := 0) (b := 0) rfl) ?_
      refine xT_iload_n g_q228 g228_69 (lkN (by decide) (lkN (by decide) (lkY))) ?_
      refine xT_icV (y := nI (1)) g_q228 g228_70 (by decide) ?_
      refine xT_if_icmpN g_q228 g228_71 (t := 100) (by decide) (c1N (a := 1) (b := 1) rfl) ?_
      refine xT_aload_n g_q228 g228_74 (lkN (by decide) (lkN (by decide) (lkN (by decide) (rfl)))) ?_
      refine xT_getfield g_q228 g228_75 hbA rfl hb rfl g6 ?_
      refine xT_iload_n g_q228 g228_78 (lkN (by decide) (lkN (by decide) (lkN (by decide) (rfl)))) ?_
      refine xT_iaload g_q228 g228_79 (by omega) ip1 (ixN (n := 12) (by omega) ip2) (ixG (by omega) hip) ?_
      refine xT_ifCondY g_q228 g228_80 (t := 100) (by decide) (by decide +kernel) ?_
      refine xT_icV (y := nI (0)) g_q228 g228_100 (by decide) ?_
      exact xT_ireturn g_q228 g228_101 (by decide +kernel)
    · have hip : vi[p]? = some (.inl (nI s)) := by
        rw [ip3 p hp, hv]
        rfl
      have hs : s < n := by
        have := (hsv p hp).1
        omega
      rw [show rdN op lf nl S (s + 1) = wrN (op s) (lf s) (S s) (nl s) 0 from rfl]
      rcases wr_b (op := op s) (lf := lf s) (s := S s) (nl s) 0 with hw | hw
      · rw [show nI (wrN (op s) (lf s) (S s) (nl s) 0) = nI 0 from congrArg nI hw]
        refine xT_aload_n g_q228 g228_0 (rfl) ?_
        refine xT_getfield g_q228 g228_1 hbA rfl hb rfl g2 ?_
        refine xT_iload_n g_q228 g228_4 (rfl) ?_
        refine xT_aaload g_q228 g228_5 (by decide +kernel) cd1 (ixN (n := 13) (by omega) cd2) (ixG (by omega) (cd3 _ (by omega))) ?_
        refine xT_icV (y := nI (4)) g_q228 g228_6 (by decide) ?_
        refine xT_iload_n g_q228 g228_7 (rfl) ?_
        refine xT_imulV (y := nI (4 * l)) g_q228 g228_8 (bMulN _ _) ?_
        refine xT_iaload g_q228 g228_9 (by omega) dw1 (ixN (n := 48) (by omega) dw2) (ixG (by omega) k0) ?_
        refine xT_istore_n g_q228 g228_10 (by decide) ?_
        refine xT_aload_n g_q228 g228_11 (lkN (by decide) (rfl)) ?_
        refine xT_getfield g_q228 g228_12 hbA rfl hb rfl g2 ?_
        refine xT_iload_n g_q228 g228_15 (lkN (by decide) (rfl)) ?_
        refine xT_aaload g_q228 g228_16 (by decide +kernel) cd1 (ixN (n := 13) (by omega) cd2) (ixG (by omega) (cd3 _ (by omega))) ?_
        refine xT_icV (y := nI (4)) g_q228 g228_17 (by decide) ?_
        refine xT_iload_n g_q228 g228_18 (lkN (by decide) (rfl)) ?_
        refine xT_imulV (y := nI (4 * l)) g_q228 g228_19 (bMulN _ _) ?_
        refine xT_icV (y := nI (2)) g_q228 g228_20 (by decide) ?_
        refine xT_iaddV (y := nI (4 * l + 2)) g_q228 g228_21 (bAddN _ _) ?_
        refine xT_iaload g_q228 g228_22 (by omega) dw1 (ixN (n := 48) (by omega) dw2) (ixG (by omega) k2) ?_
        refine xT_istore g_q228 g228_23 (by decide) ?_
        refine xT_iload_n g_q228 g228_25 (lkN (by decide) (lkY)) ?_
        refine xT_icV (y := nI (4)) g_q228 g228_26 (by decide) ?_
        refine xT_if_icmpN g_q228 g228_27 (t := 41) (by decide) (c0N (a := 1) (b := 4) (by omega) (by omega) (by omega)) ?_
        refine xT_iload_n g_q228 g228_30 (lkN (by decide) (lkY)) ?_
        refine xT_icV (y := nI (5)) g_q228 g228_31 (by decide) ?_
        refine xT_if_icmpN g_q228 g228_32 (t := 41) (by decide) (c0N (a := 1) (b := 5) (by omega) (by omega) (by omega)) ?_
        refine xT_iload_n g_q228 g228_35 (lkN (by decide) (lkY)) ?_
        refine xT_biV (y := nI (6)) g_q228 g228_36 (by decide) ?_
        refine xT_if_icmpY g_q228 g228_38 (t := 45) (by decide) (c1Y (a := 1) (b := 6) (by omega) (by omega) (by omega)) ?_
        refine xT_icV (y := nI (0)) g_q228 g228_45 (by decide) ?_
        refine xT_istore g_q228 g228_46 (by decide) ?_
        refine xT_iload_n g_q228 g228_48 (lkN (by decide) (lkN (by decide) (lkY))) ?_
        refine xT_ifCondN g_q228 g228_49 (t := 96) (by decide) (c0N (a := 1) (b := 0) (by omega) (by omega) (by omega)) ?_
        refine xT_iload g_q228 g228_52 (lkY) ?_
        refine xT_ifCondY g_q228 g228_54 (t := 69) (by decide) (c0Y (a := 0) (b := 0) rfl) ?_
        refine xT_iload_n g_q228 g228_69 (lkN (by decide) (lkN (by decide) (lkY))) ?_
        refine xT_icV (y := nI (1)) g_q228 g228_70 (by decide) ?_
        refine xT_if_icmpN g_q228 g228_71 (t := 100) (by decide) (c1N (a := 1) (b := 1) rfl) ?_
        refine xT_aload_n g_q228 g228_74 (lkN (by decide) (lkN (by decide) (lkN (by decide) (rfl)))) ?_
        refine xT_getfield g_q228 g228_75 hbA rfl hb rfl g6 ?_
        refine xT_iload_n g_q228 g228_78 (lkN (by decide) (lkN (by decide) (lkN (by decide) (rfl)))) ?_
        refine xT_iaload g_q228 g228_79 (by omega) ip1 (ixN (n := 12) (by omega) ip2) (ixG (by omega) hip) ?_
        refine xT_ifCondN g_q228 g228_80 (t := 100) (by decide) (c2N (b := 0) (Nat.zero_le _) (by omega) (by omega)) ?_
        refine xT_aload_n g_q228 g228_83 (lkN (by decide) (lkN (by decide) (lkN (by decide) (rfl)))) ?_
        refine xT_aload_n g_q228 g228_84 (lkN (by decide) (lkN (by decide) (lkN (by decide) (rfl)))) ?_
        refine xT_getfield g_q228 g228_85 hbA rfl hb rfl g6 ?_
        refine xT_iload_n g_q228 g228_88 (lkN (by decide) (lkN (by decide) (lkN (by decide) (rfl)))) ?_
        refine xT_iaload g_q228 g228_89 (by omega) ip1 (ixN (n := 12) (by omega) ip2) (ixG (by omega) hip) ?_
        refine xT_invokevirtual (r := []) (u := some (.inl (nI (wrN (op s) (lf s) (S s) (nl s) 0)))) g_q228 g228_90 (j := 229) (so := 0) (by decide +kernel) g_q229 rfl (by rw [x_rcM hbA hb]; rfl) (t229 hB ho hs) ?_
        refine xT_ifCondY g_q228 g228_93 (t := 100) (by decide) (c0Y (a := wrN (op s) (lf s) (S s) (nl s) 0) (b := 0) (by omega)) ?_
        refine xT_icV (y := nI (0)) g_q228 g228_100 (by decide) ?_
        exact xT_ireturn g_q228 g228_101 (by decide +kernel)
      · rw [show nI (wrN (op s) (lf s) (S s) (nl s) 0) = nI 1 from congrArg nI hw]
        refine xT_aload_n g_q228 g228_0 (rfl) ?_
        refine xT_getfield g_q228 g228_1 hbA rfl hb rfl g2 ?_
        refine xT_iload_n g_q228 g228_4 (rfl) ?_
        refine xT_aaload g_q228 g228_5 (by decide +kernel) cd1 (ixN (n := 13) (by omega) cd2) (ixG (by omega) (cd3 _ (by omega))) ?_
        refine xT_icV (y := nI (4)) g_q228 g228_6 (by decide) ?_
        refine xT_iload_n g_q228 g228_7 (rfl) ?_
        refine xT_imulV (y := nI (4 * l)) g_q228 g228_8 (bMulN _ _) ?_
        refine xT_iaload g_q228 g228_9 (by omega) dw1 (ixN (n := 48) (by omega) dw2) (ixG (by omega) k0) ?_
        refine xT_istore_n g_q228 g228_10 (by decide) ?_
        refine xT_aload_n g_q228 g228_11 (lkN (by decide) (rfl)) ?_
        refine xT_getfield g_q228 g228_12 hbA rfl hb rfl g2 ?_
        refine xT_iload_n g_q228 g228_15 (lkN (by decide) (rfl)) ?_
        refine xT_aaload g_q228 g228_16 (by decide +kernel) cd1 (ixN (n := 13) (by omega) cd2) (ixG (by omega) (cd3 _ (by omega))) ?_
        refine xT_icV (y := nI (4)) g_q228 g228_17 (by decide) ?_
        refine xT_iload_n g_q228 g228_18 (lkN (by decide) (rfl)) ?_
        refine xT_imulV (y := nI (4 * l)) g_q228 g228_19 (bMulN _ _) ?_
        refine xT_icV (y := nI (2)) g_q228 g228_20 (by decide) ?_
        refine xT_iaddV (y := nI (4 * l + 2)) g_q228 g228_21 (bAddN _ _) ?_
        refine xT_iaload g_q228 g228_22 (by omega) dw1 (ixN (n := 48) (by omega) dw2) (ixG (by omega) k2) ?_
        refine xT_istore g_q228 g228_23 (by decide) ?_
        refine xT_iload_n g_q228 g228_25 (lkN (by decide) (lkY)) ?_
        refine xT_icV (y := nI (4)) g_q228 g228_26 (by decide) ?_
        refine xT_if_icmpN g_q228 g228_27 (t := 41) (by decide) (c0N (a := 1) (b := 4) (by omega) (by omega) (by omega)) ?_
        refine xT_iload_n g_q228 g228_30 (lkN (by decide) (lkY)) ?_
        refine xT_icV (y := nI (5)) g_q228 g228_31 (by decide) ?_
        refine xT_if_icmpN g_q228 g228_32 (t := 41) (by decide) (c0N (a := 1) (b := 5) (by omega) (by omega) (by omega)) ?_
        refine xT_iload_n g_q228 g228_35 (lkN (by decide) (lkY)) ?_
        refine xT_biV (y := nI (6)) g_q228 g228_36 (by decide) ?_
        refine xT_if_icmpY g_q228 g228_38 (t := 45) (by decide) (c1Y (a := 1) (b := 6) (by omega) (by omega) (by omega)) ?_
        refine xT_icV (y := nI (0)) g_q228 g228_45 (by decide) ?_
        refine xT_istore g_q228 g228_46 (by decide) ?_
        refine xT_iload_n g_q228 g228_48 (lkN (by decide) (lkN (by decide) (lkY))) ?_
        refine xT_ifCondN g_q228 g228_49 (t := 96) (by decide) (c0N (a := 1) (b := 0) (by omega) (by omega) (by omega)) ?_
        refine xT_iload g_q228 g228_52 (lkY) ?_
        refine xT_ifCondY g_q228 g228_54 (t := 69) (by decide) (c0Y (a := 0) (b := 0) rfl) ?_
        refine xT_iload_n g_q228 g228_69 (lkN (by decide) (lkN (by decide) (lkY))) ?_
        refine xT_icV (y := nI (1)) g_q228 g228_70 (by decide) ?_
        refine xT_if_icmpN g_q228 g228_71 (t := 100) (by decide) (c1N (a := 1) (b := 1) rfl) ?_
        refine xT_aload_n g_q228 g228_74 (lkN (by decide) (lkN (by decide) (lkN (by decide) (rfl)))) ?_
        refine xT_getfield g_q228 g228_75 hbA rfl hb rfl g6 ?_
        refine xT_iload_n g_q228 g228_78 (lkN (by decide) (lkN (by decide) (lkN (by decide) (rfl)))) ?_
        refine xT_iaload g_q228 g228_79 (by omega) ip1 (ixN (n := 12) (by omega) ip2) (ixG (by omega) hip) ?_
        refine xT_ifCondN g_q228 g228_80 (t := 100) (by decide) (c2N (b := 0) (Nat.zero_le _) (by omega) (by omega)) ?_
        refine xT_aload_n g_q228 g228_83 (lkN (by decide) (lkN (by decide) (lkN (by decide) (rfl)))) ?_
        refine xT_aload_n g_q228 g228_84 (lkN (by decide) (lkN (by decide) (lkN (by decide) (rfl)))) ?_
        refine xT_getfield g_q228 g228_85 hbA rfl hb rfl g6 ?_
        refine xT_iload_n g_q228 g228_88 (lkN (by decide) (lkN (by decide) (lkN (by decide) (rfl)))) ?_
        refine xT_iaload g_q228 g228_89 (by omega) ip1 (ixN (n := 12) (by omega) ip2) (ixG (by omega) hip) ?_
        refine xT_invokevirtual (r := []) (u := some (.inl (nI (wrN (op s) (lf s) (S s) (nl s) 0)))) g_q228 g228_90 (j := 229) (so := 0) (by decide +kernel) g_q229 rfl (by rw [x_rcM hbA hb]; rfl) (t229 hB ho hs) ?_
        refine xT_ifCondN g_q228 g228_93 (t := 100) (by decide) (c0N (a := wrN (op s) (lf s) (S s) (nl s) 0) (b := 0) (by omega) (by omega) (by omega)) ?_
        refine xT_icV (y := nI (1)) g_q228 g228_96 (by decide) ?_
        refine xT_goto g_q228 g228_97 (t := 101) (by decide) ?_
        exact xT_ireturn g_q228 g228_101 (by decide +kernel)
  · have hz : op p l = 2 := hz
    have k0 : dw[4 * l]? = some (.inl (nI 2)) := by
      rw [k0, hz]
      rfl
    obtain ⟨x2, k2⟩ := dw3 (4 * l + 2) (by omega)
    rw [show gvN (op p) (rt p) (rdN op lf nl S (sv p)) (S p) l = 0 from (if_neg (by omega)).trans ((if_neg (by omega)).trans (if_neg (by omega)))]
    refine xT_aload_n g_q228 g228_0 (rfl) ?_
    refine xT_getfield g_q228 g228_1 hbA rfl hb rfl g2 ?_
    refine xT_iload_n g_q228 g228_4 (rfl) ?_
    refine xT_aaload g_q228 g228_5 (by decide +kernel) cd1 (ixN (n := 13) (by omega) cd2) (ixG (by omega) (cd3 _ (by omega))) ?_
    refine xT_icV (y := nI (4)) g_q228 g228_6 (by decide) ?_
    refine xT_iload_n g_q228 g228_7 (rfl) ?_
    refine xT_imulV (y := nI (4 * l)) g_q228 g228_8 (bMulN _ _) ?_
    refine xT_iaload g_q228 g228_9 (by omega) dw1 (ixN (n := 48) (by omega) dw2) (ixG (by omega) k0) ?_
    refine xT_istore_n g_q228 g228_10 (by decide) ?_
    refine xT_aload_n g_q228 g228_11 (lkN (by decide) (rfl)) ?_
    refine xT_getfield g_q228 g228_12 hbA rfl hb rfl g2 ?_
    refine xT_iload_n g_q228 g228_15 (lkN (by decide) (rfl)) ?_
    refine xT_aaload g_q228 g228_16 (by decide +kernel) cd1 (ixN (n := 13) (by omega) cd2) (ixG (by omega) (cd3 _ (by omega))) ?_
    refine xT_icV (y := nI (4)) g_q228 g228_17 (by decide) ?_
    refine xT_iload_n g_q228 g228_18 (lkN (by decide) (rfl)) ?_
    refine xT_imulV (y := nI (4 * l)) g_q228 g228_19 (bMulN _ _) ?_
    refine xT_icV (y := nI (2)) g_q228 g228_20 (by decide) ?_
    refine xT_iaddV (y := nI (4 * l + 2)) g_q228 g228_21 (bAddN _ _) ?_
    refine xT_iaload g_q228 g228_22 (by omega) dw1 (ixN (n := 48) (by omega) dw2) (ixG (by omega) k2) ?_
    refine xT_istore g_q228 g228_23 (by decide) ?_
    refine xT_iload_n g_q228 g228_25 (lkN (by decide) (lkY)) ?_
    refine xT_icV (y := nI (4)) g_q228 g228_26 (by decide) ?_
    refine xT_if_icmpN g_q228 g228_27 (t := 41) (by decide) (c0N (a := 2) (b := 4) (by omega) (by omega) (by omega)) ?_
    refine xT_iload_n g_q228 g228_30 (lkN (by decide) (lkY)) ?_
    refine xT_icV (y := nI (5)) g_q228 g228_31 (by decide) ?_
    refine xT_if_icmpN g_q228 g228_32 (t := 41) (by decide) (c0N (a := 2) (b := 5) (by omega) (by omega) (by omega)) ?_
    refine xT_iload_n g_q228 g228_35 (lkN (by decide) (lkY)) ?_
    refine xT_biV (y := nI (6)) g_q228 g228_36 (by decide) ?_
    refine xT_if_icmpY g_q228 g228_38 (t := 45) (by decide) (c1Y (a := 2) (b := 6) (by omega) (by omega) (by omega)) ?_
    refine xT_icV (y := nI (0)) g_q228 g228_45 (by decide) ?_
    refine xT_istore g_q228 g228_46 (by decide) ?_
    refine xT_iload_n g_q228 g228_48 (lkN (by decide) (lkN (by decide) (lkY))) ?_
    refine xT_ifCondN g_q228 g228_49 (t := 96) (by decide) (c0N (a := 2) (b := 0) (by omega) (by omega) (by omega)) ?_
    refine xT_iload g_q228 g228_52 (lkY) ?_
    refine xT_ifCondY g_q228 g228_54 (t := 69) (by decide) (c0Y (a := 0) (b := 0) rfl) ?_
    refine xT_iload_n g_q228 g228_69 (lkN (by decide) (lkN (by decide) (lkY))) ?_
    refine xT_icV (y := nI (1)) g_q228 g228_70 (by decide) ?_
    refine xT_if_icmpY g_q228 g228_71 (t := 100) (by decide) (c1Y (a := 2) (b := 1) (by omega) (by omega) (by omega)) ?_
    refine xT_icV (y := nI (0)) g_q228 g228_100 (by decide) ?_
    exact xT_ireturn g_q228 g228_101 (by decide +kernel)
  · have hz : op p l = 3 := hz
    have k0 : dw[4 * l]? = some (.inl (nI 3)) := by
      rw [k0, hz]
      rfl
    obtain ⟨x2, k2⟩ := dw3 (4 * l + 2) (by omega)
    rw [show gvN (op p) (rt p) (rdN op lf nl S (sv p)) (S p) l = 0 from (if_neg (by omega)).trans ((if_neg (by omega)).trans (if_neg (by omega)))]
    refine xT_aload_n g_q228 g228_0 (rfl) ?_
    refine xT_getfield g_q228 g228_1 hbA rfl hb rfl g2 ?_
    refine xT_iload_n g_q228 g228_4 (rfl) ?_
    refine xT_aaload g_q228 g228_5 (by decide +kernel) cd1 (ixN (n := 13) (by omega) cd2) (ixG (by omega) (cd3 _ (by omega))) ?_
    refine xT_icV (y := nI (4)) g_q228 g228_6 (by decide) ?_
    refine xT_iload_n g_q228 g228_7 (rfl) ?_
    refine xT_imulV (y := nI (4 * l)) g_q228 g228_8 (bMulN _ _) ?_
    refine xT_iaload g_q228 g228_9 (by omega) dw1 (ixN (n := 48) (by omega) dw2) (ixG (by omega) k0) ?_
    refine xT_istore_n g_q228 g228_10 (by decide) ?_
    refine xT_aload_n g_q228 g228_11 (lkN (by decide) (rfl)) ?_
    refine xT_getfield g_q228 g228_12 hbA rfl hb rfl g2 ?_
    refine xT_iload_n g_q228 g228_15 (lkN (by decide) (rfl)) ?_
    refine xT_aaload g_q228 g228_16 (by decide +kernel) cd1 (ixN (n := 13) (by omega) cd2) (ixG (by omega) (cd3 _ (by omega))) ?_
    refine xT_icV (y := nI (4)) g_q228 g228_17 (by decide) ?_
    refine xT_iload_n g_q228 g228_18 (lkN (by decide) (rfl)) ?_
    refine xT_imulV (y := nI (4 * l)) g_q228 g228_19 (bMulN _ _) ?_
    refine xT_icV (y := nI (2)) g_q228 g228_20 (by decide) ?_
    refine xT_iaddV (y := nI (4 * l + 2)) g_q228 g228_21 (bAddN _ _) ?_
    refine xT_iaload g_q228 g228_22 (by omega) dw1 (ixN (n := 48) (by omega) dw2) (ixG (by omega) k2) ?_
    refine xT_istore g_q228 g228_23 (by decide) ?_
    refine xT_iload_n g_q228 g228_25 (lkN (by decide) (lkY)) ?_
    refine xT_icV (y := nI (4)) g_q228 g228_26 (by decide) ?_
    refine xT_if_icmpN g_q228 g228_27 (t := 41) (by decide) (c0N (a := 3) (b := 4) (by omega) (by omega) (by omega)) ?_
    refine xT_iload_n g_q228 g228_30 (lkN (by decide) (lkY)) ?_
    refine xT_icV (y := nI (5)) g_q228 g228_31 (by decide) ?_
    refine xT_if_icmpN g_q228 g228_32 (t := 41) (by decide) (c0N (a := 3) (b := 5) (by omega) (by omega) (by omega)) ?_
    refine xT_iload_n g_q228 g228_35 (lkN (by decide) (lkY)) ?_
    refine xT_biV (y := nI (6)) g_q228 g228_36 (by decide) ?_
    refine xT_if_icmpY g_q228 g228_38 (t := 45) (by decide) (c1Y (a := 3) (b := 6) (by omega) (by omega) (by omega)) ?_
    refine xT_icV (y := nI (0)) g_q228 g228_45 (by decide) ?_
    refine xT_istore g_q228 g228_46 (by decide) ?_
    refine xT_iload_n g_q228 g228_48 (lkN (by decide) (lkN (by decide) (lkY))) ?_
    refine xT_ifCondN g_q228 g228_49 (t := 96) (by decide) (c0N (a := 3) (b := 0) (by omega) (by omega) (by omega)) ?_
    refine xT_iload g_q228 g228_52 (lkY) ?_
    refine xT_ifCondY g_q228 g228_54 (t := 69) (by decide) (c0Y (a := 0) (b := 0) rfl) ?_
    refine xT_iload_n g_q228 g228_69 (lkN (by decide) (lkN (by decide) (lkY))) ?_
    refine xT_icV (y := nI (1)) g_q228 g228_70 (by decide) ?_
    refine xT_if_icmpY g_q228 g228_71 (t := 100) (by decide) (c1Y (a := 3) (b := 1) (by omega) (by omega) (by omega)) ?_
    refine xT_icV (y := nI (0)) g_q228 g228_100 (by decide) ?_
    exact xT_ireturn g_q228 g228_101 (by decide +kernel)
  · have hz : op p l = 4 := hz
    have k0 : dw[4 * l]? = some (.inl (nI 4)) := by
      rw [k0, hz]
      rfl
    have k2 := k2 (by omega)
    rw [show gvN (op p) (rt p) (rdN op lf nl S (sv p)) (S p) l = bitP (S p) (rt p l) from (if_neg (by omega)).trans ((if_neg (by omega)).trans (if_pos (by omega)))]
    by_cases hbt : bitP (S p) (rt p l) = 1
    · rw [show nI (bitP (S p) (rt p l)) = nI 1 from congrArg nI hbt]
      refine xT_aload_n g_q228 g228_0 (rfl) ?_
      refine xT_getfield g_q228 g228_1 hbA rfl hb rfl g2 ?_
      refine xT_iload_n g_q228 g228_4 (rfl) ?_
      refine xT_aaload g_q228 g228_5 (by decide +kernel) cd1 (ixN (n := 13) (by omega) cd2) (ixG (by omega) (cd3 _ (by omega))) ?_
      refine xT_icV (y := nI (4)) g_q228 g228_6 (by decide) ?_
      refine xT_iload_n g_q228 g228_7 (rfl) ?_
      refine xT_imulV (y := nI (4 * l)) g_q228 g228_8 (bMulN _ _) ?_
      refine xT_iaload g_q228 g228_9 (by omega) dw1 (ixN (n := 48) (by omega) dw2) (ixG (by omega) k0) ?_
      refine xT_istore_n g_q228 g228_10 (by decide) ?_
      refine xT_aload_n g_q228 g228_11 (lkN (by decide) (rfl)) ?_
      refine xT_getfield g_q228 g228_12 hbA rfl hb rfl g2 ?_
      refine xT_iload_n g_q228 g228_15 (lkN (by decide) (rfl)) ?_
      refine xT_aaload g_q228 g228_16 (by decide +kernel) cd1 (ixN (n := 13) (by omega) cd2) (ixG (by omega) (cd3 _ (by omega))) ?_
      refine xT_icV (y := nI (4)) g_q228 g228_17 (by decide) ?_
      refine xT_iload_n g_q228 g228_18 (lkN (by decide) (rfl)) ?_
      refine xT_imulV (y := nI (4 * l)) g_q228 g228_19 (bMulN _ _) ?_
      refine xT_icV (y := nI (2)) g_q228 g228_20 (by decide) ?_
      refine xT_iaddV (y := nI (4 * l + 2)) g_q228 g228_21 (bAddN _ _) ?_
      refine xT_iaload g_q228 g228_22 (by omega) dw1 (ixN (n := 48) (by omega) dw2) (ixG (by omega) k2) ?_
      refine xT_istore g_q228 g228_23 (by decide) ?_
      refine xT_iload_n g_q228 g228_25 (lkN (by decide) (lkY)) ?_
      refine xT_icV (y := nI (4)) g_q228 g228_26 (by decide) ?_
      refine xT_if_icmpY g_q228 g228_27 (t := 41) (by decide) (c0Y (a := 4) (b := 4) rfl) ?_
      refine xT_icV (y := nI (1)) g_q228 g228_41 (by decide) ?_
      refine xT_goto g_q228 g228_42 (t := 46) (by decide) ?_
      refine xT_istore g_q228 g228_46 (by decide) ?_
      refine xT_iload_n g_q228 g228_48 (lkN (by decide) (lkN (by decide) (lkY))) ?_
      refine xT_ifCondN g_q228 g228_49 (t := 96) (by decide) (c0N (a := 4) (b := 0) (by omega) (by omega) (by omega)) ?_
      refine xT_iload g_q228 g228_52 (lkY) ?_
      refine xT_ifCondN g_q228 g228_54 (t := 69) (by decide) (c0N (a := 1) (b := 0) (by omega) (by omega) (by omega)) ?_
      refine xT_aload_n g_q228 g228_57 (lkN (by decide) (lkN (by decide) (lkN (by decide) (rfl)))) ?_
      refine xT_getfield g_q228 g228_58 hbA rfl hb rfl g63 ?_
      refine xT_iload_n g_q228 g228_61 (lkN (by decide) (lkN (by decide) (lkN (by decide) (rfl)))) ?_
      refine xT_aaload g_q228 g228_62 (by decide +kernel) su1 (ixN (n := 12) (by omega) su2) (ixG (by omega) (su3 _ (by omega))) ?_
      refine xT_iload g_q228 g228_63 (lkN (by decide) (lkY)) ?_
      refine xT_baload g_q228 g228_65 u1 u2 (ixN (n := 6) (by omega) u3) (ixG (by omega) (u4 _ (by omega) trivial)) ?_
      refine xT_ifCondY g_q228 g228_66 (t := 96) (by decide) (c1Y (a := bitP (S p) (rt p l)) (b := 0) (by omega) (by omega) (by omega)) ?_
      refine xT_icV (y := nI (1)) g_q228 g228_96 (by decide) ?_
      refine xT_goto g_q228 g228_97 (t := 101) (by decide) ?_
      exact xT_ireturn g_q228 g228_101 (by decide +kernel)
    · have hb0 := bitP_b.resolve_right hbt
      rw [show nI (bitP (S p) (rt p l)) = nI 0 from congrArg nI hb0]
      refine xT_aload_n g_q228 g228_0 (rfl) ?_
      refine xT_getfield g_q228 g228_1 hbA rfl hb rfl g2 ?_
      refine xT_iload_n g_q228 g228_4 (rfl) ?_
      refine xT_aaload g_q228 g228_5 (by decide +kernel) cd1 (ixN (n := 13) (by omega) cd2) (ixG (by omega) (cd3 _ (by omega))) ?_
      refine xT_icV (y := nI (4)) g_q228 g228_6 (by decide) ?_
      refine xT_iload_n g_q228 g228_7 (rfl) ?_
      refine xT_imulV (y := nI (4 * l)) g_q228 g228_8 (bMulN _ _) ?_
      refine xT_iaload g_q228 g228_9 (by omega) dw1 (ixN (n := 48) (by omega) dw2) (ixG (by omega) k0) ?_
      refine xT_istore_n g_q228 g228_10 (by decide) ?_
      refine xT_aload_n g_q228 g228_11 (lkN (by decide) (rfl)) ?_
      refine xT_getfield g_q228 g228_12 hbA rfl hb rfl g2 ?_
      refine xT_iload_n g_q228 g228_15 (lkN (by decide) (rfl)) ?_
      refine xT_aaload g_q228 g228_16 (by decide +kernel) cd1 (ixN (n := 13) (by omega) cd2) (ixG (by omega) (cd3 _ (by omega))) ?_
      refine xT_icV (y := nI (4)) g_q228 g228_17 (by decide) ?_
      refine xT_iload_n g_q228 g228_18 (lkN (by decide) (rfl)) ?_
      refine xT_imulV (y := nI (4 * l)) g_q228 g228_19 (bMulN _ _) ?_
      refine xT_icV (y := nI (2)) g_q228 g228_20 (by decide) ?_
      refine xT_iaddV (y := nI (4 * l + 2)) g_q228 g228_21 (bAddN _ _) ?_
      refine xT_iaload g_q228 g228_22 (by omega) dw1 (ixN (n := 48) (by omega) dw2) (ixG (by omega) k2) ?_
      refine xT_istore g_q228 g228_23 (by decide) ?_
      refine xT_iload_n g_q228 g228_25 (lkN (by decide) (lkY)) ?_
      refine xT_icV (y := nI (4)) g_q228 g228_26 (by decide) ?_
      refine xT_if_icmpY g_q228 g228_27 (t := 41) (by decide) (c0Y (a := 4) (b := 4) rfl) ?_
      refine xT_icV (y := nI (1)) g_q228 g228_41 (by decide) ?_
      refine xT_goto g_q228 g228_42 (t := 46) (by decide) ?_
      refine xT_istore g_q228 g228_46 (by decide) ?_
      refine xT_iload_n g_q228 g228_48 (lkN (by decide) (lkN (by decide) (lkY))) ?_
      refine xT_ifCondN g_q228 g228_49 (t := 96) (by decide) (c0N (a := 4) (b := 0) (by omega) (by omega) (by omega)) ?_
      refine xT_iload g_q228 g228_52 (lkY) ?_
      refine xT_ifCondN g_q228 g228_54 (t := 69) (by decide) (c0N (a := 1) (b := 0) (by omega) (by omega) (by omega)) ?_
      refine xT_aload_n g_q228 g228_57 (lkN (by decide) (lkN (by decide) (lkN (by decide) (rfl)))) ?_
      refine xT_getfield g_q228 g228_58 hbA rfl hb rfl g63 ?_
      refine xT_iload_n g_q228 g228_61 (lkN (by decide) (lkN (by decide) (lkN (by decide) (rfl)))) ?_
      refine xT_aaload g_q228 g228_62 (by decide +kernel) su1 (ixN (n := 12) (by omega) su2) (ixG (by omega) (su3 _ (by omega))) ?_
      refine xT_iload g_q228 g228_63 (lkN (by decide) (lkY)) ?_
      refine xT_baload g_q228 g228_65 u1 u2 (ixN (n := 6) (by omega) u3) (ixG (by omega) (u4 _ (by omega) trivial)) ?_
      refine xT_ifCondN g_q228 g228_66 (t := 96) (by decide) (c1N (a := bitP (S p) (rt p l)) (b := 0) (by omega)) ?_
      refine xT_iload_n g_q228 g228_69 (lkN (by decide) (lkN (by decide) (lkY))) ?_
      refine xT_icV (y := nI (1)) g_q228 g228_70 (by decide) ?_
      refine xT_if_icmpY g_q228 g228_71 (t := 100) (by decide) (c1Y (a := 4) (b := 1) (by omega) (by omega) (by omega)) ?_
      refine xT_icV (y := nI (0)) g_q228 g228_100 (by decide) ?_
      exact xT_ireturn g_q228 g228_101 (by decide +kernel)
  · have hz : op p l = 5 := hz
    have k0 : dw[4 * l]? = some (.inl (nI 5)) := by
      rw [k0, hz]
      rfl
    have k2 := k2 (by omega)
    rw [show gvN (op p) (rt p) (rdN op lf nl S (sv p)) (S p) l = bitP (S p) (rt p l) from (if_neg (by omega)).trans ((if_neg (by omega)).trans (if_pos (by omega)))]
    by_cases hbt : bitP (S p) (rt p l) = 1
    · rw [show nI (bitP (S p) (rt p l)) = nI 1 from congrArg nI hbt]
      refine xT_aload_n g_q228 g228_0 (rfl) ?_
      refine xT_getfield g_q228 g228_1 hbA rfl hb rfl g2 ?_
      refine xT_iload_n g_q228 g228_4 (rfl) ?_
      refine xT_aaload g_q228 g228_5 (by decide +kernel) cd1 (ixN (n := 13) (by omega) cd2) (ixG (by omega) (cd3 _ (by omega))) ?_
      refine xT_icV (y := nI (4)) g_q228 g228_6 (by decide) ?_
      refine xT_iload_n g_q228 g228_7 (rfl) ?_
      refine xT_imulV (y := nI (4 * l)) g_q228 g228_8 (bMulN _ _) ?_
      refine xT_iaload g_q228 g228_9 (by omega) dw1 (ixN (n := 48) (by omega) dw2) (ixG (by omega) k0) ?_
      refine xT_istore_n g_q228 g228_10 (by decide) ?_
      refine xT_aload_n g_q228 g228_11 (lkN (by decide) (rfl)) ?_
      refine xT_getfield g_q228 g228_12 hbA rfl hb rfl g2 ?_
      refine xT_iload_n g_q228 g228_15 (lkN (by decide) (rfl)) ?_
      refine xT_aaload g_q228 g228_16 (by decide +kernel) cd1 (ixN (n := 13) (by omega) cd2) (ixG (by omega) (cd3 _ (by omega))) ?_
      refine xT_icV (y := nI (4)) g_q228 g228_17 (by decide) ?_
      refine xT_iload_n g_q228 g228_18 (lkN (by decide) (rfl)) ?_
      refine xT_imulV (y := nI (4 * l)) g_q228 g228_19 (bMulN _ _) ?_
      refine xT_icV (y := nI (2)) g_q228 g228_20 (by decide) ?_
      refine xT_iaddV (y := nI (4 * l + 2)) g_q228 g228_21 (bAddN _ _) ?_
      refine xT_iaload g_q228 g228_22 (by omega) dw1 (ixN (n := 48) (by omega) dw2) (ixG (by omega) k2) ?_
      refine xT_istore g_q228 g228_23 (by decide) ?_
      refine xT_iload_n g_q228 g228_25 (lkN (by decide) (lkY)) ?_
      refine xT_icV (y := nI (4)) g_q228 g228_26 (by decide) ?_
      refine xT_if_icmpN g_q228 g228_27 (t := 41) (by decide) (c0N (a := 5) (b := 4) (by omega) (by omega) (by omega)) ?_
      refine xT_iload_n g_q228 g228_30 (lkN (by decide) (lkY)) ?_
      refine xT_icV (y := nI (5)) g_q228 g228_31 (by decide) ?_
      refine xT_if_icmpY g_q228 g228_32 (t := 41) (by decide) (c0Y (a := 5) (b := 5) rfl) ?_
      refine xT_icV (y := nI (1)) g_q228 g228_41 (by decide) ?_
      refine xT_goto g_q228 g228_42 (t := 46) (by decide) ?_
      refine xT_istore g_q228 g228_46 (by decide) ?_
      refine xT_iload_n g_q228 g228_48 (lkN (by decide) (lkN (by decide) (lkY))) ?_
      refine xT_ifCondN g_q228 g228_49 (t := 96) (by decide) (c0N (a := 5) (b := 0) (by omega) (by omega) (by omega)) ?_
      refine xT_iload g_q228 g228_52 (lkY) ?_
      refine xT_ifCondN g_q228 g228_54 (t := 69) (by decide) (c0N (a := 1) (b := 0) (by omega) (by omega) (by omega)) ?_
      refine xT_aload_n g_q228 g228_57 (lkN (by decide) (lkN (by decide) (lkN (by decide) (rfl)))) ?_
      refine xT_getfield g_q228 g228_58 hbA rfl hb rfl g63 ?_
      refine xT_iload_n g_q228 g228_61 (lkN (by decide) (lkN (by decide) (lkN (by decide) (rfl)))) ?_
      refine xT_aaload g_q228 g228_62 (by decide +kernel) su1 (ixN (n := 12) (by omega) su2) (ixG (by omega) (su3 _ (by omega))) ?_
      refine xT_iload g_q228 g228_63 (lkN (by decide) (lkY)) ?_
      refine xT_baload g_q228 g228_65 u1 u2 (ixN (n := 6) (by omega) u3) (ixG (by omega) (u4 _ (by omega) trivial)) ?_
      refine xT_ifCondY g_q228 g228_66 (t := 96) (by decide) (c1Y (a := bitP (S p) (rt p l)) (b := 0) (by omega) (by omega) (by omega)) ?_
      refine xT_icV (y := nI (1)) g_q228 g228_96 (by decide) ?_
      refine xT_goto g_q228 g228_97 (t := 101) (by decide) ?_
      exact xT_ireturn g_q228 g228_101 (by decide +kernel)
    · have hb0 := bitP_b.resolve_right hbt
      rw [show nI (bitP (S p) (rt p l)) = nI 0 from congrArg nI hb0]
      refine xT_aload_n g_q228 g228_0 (rfl) ?_
      refine xT_getfield g_q228 g228_1 hbA rfl hb rfl g2 ?_
      refine xT_iload_n g_q228 g228_4 (rfl) ?_
      refine xT_aaload g_q228 g228_5 (by decide +kernel) cd1 (ixN (n := 13) (by omega) cd2) (ixG (by omega) (cd3 _ (by omega))) ?_
      refine xT_icV (y := nI (4)) g_q228 g228_6 (by decide) ?_
      refine xT_iload_n g_q228 g228_7 (rfl) ?_
      refine xT_imulV (y := nI (4 * l)) g_q228 g228_8 (bMulN _ _) ?_
      refine xT_iaload g_q228 g228_9 (by omega) dw1 (ixN (n := 48) (by omega) dw2) (ixG (by omega) k0) ?_
      refine xT_istore_n g_q228 g228_10 (by decide) ?_
      refine xT_aload_n g_q228 g228_11 (lkN (by decide) (rfl)) ?_
      refine xT_getfield g_q228 g228_12 hbA rfl hb rfl g2 ?_
      refine xT_iload_n g_q228 g228_15 (lkN (by decide) (rfl)) ?_
      refine xT_aaload g_q228 g228_16 (by decide +kernel) cd1 (ixN (n := 13) (by omega) cd2) (ixG (by omega) (cd3 _ (by omega))) ?_
      refine xT_icV (y := nI (4)) g_q228 g228_17 (by decide) ?_
      refine xT_iload_n g_q228 g228_18 (lkN (by decide) (rfl)) ?_
      refine xT_imulV (y := nI (4 * l)) g_q228 g228_19 (bMulN _ _) ?_
      refine xT_icV (y := nI (2)) g_q228 g228_20 (by decide) ?_
      refine xT_iaddV (y := nI (4 * l + 2)) g_q228 g228_21 (bAddN _ _) ?_
      refine xT_iaload g_q228 g228_22 (by omega) dw1 (ixN (n := 48) (by omega) dw2) (ixG (by omega) k2) ?_
      refine xT_istore g_q228 g228_23 (by decide) ?_
      refine xT_iload_n g_q228 g228_25 (lkN (by decide) (lkY)) ?_
      refine xT_icV (y := nI (4)) g_q228 g228_26 (by decide) ?_
      refine xT_if_icmpN g_q228 g228_27 (t := 41) (by decide) (c0N (a := 5) (b := 4) (by omega) (by omega) (by omega)) ?_
      refine xT_iload_n g_q228 g228_30 (lkN (by decide) (lkY)) ?_
      refine xT_icV (y := nI (5)) g_q228 g228_31 (by decide) ?_
      refine xT_if_icmpY g_q228 g228_32 (t := 41) (by decide) (c0Y (a := 5) (b := 5) rfl) ?_
      refine xT_icV (y := nI (1)) g_q228 g228_41 (by decide) ?_
      refine xT_goto g_q228 g228_42 (t := 46) (by decide) ?_
      refine xT_istore g_q228 g228_46 (by decide) ?_
      refine xT_iload_n g_q228 g228_48 (lkN (by decide) (lkN (by decide) (lkY))) ?_
      refine xT_ifCondN g_q228 g228_49 (t := 96) (by decide) (c0N (a := 5) (b := 0) (by omega) (by omega) (by omega)) ?_
      refine xT_iload g_q228 g228_52 (lkY) ?_
      refine xT_ifCondN g_q228 g228_54 (t := 69) (by decide) (c0N (a := 1) (b := 0) (by omega) (by omega) (by omega)) ?_
      refine xT_aload_n g_q228 g228_57 (lkN (by decide) (lkN (by decide) (lkN (by decide) (rfl)))) ?_
      refine xT_getfield g_q228 g228_58 hbA rfl hb rfl g63 ?_
      refine xT_iload_n g_q228 g228_61 (lkN (by decide) (lkN (by decide) (lkN (by decide) (rfl)))) ?_
      refine xT_aaload g_q228 g228_62 (by decide +kernel) su1 (ixN (n := 12) (by omega) su2) (ixG (by omega) (su3 _ (by omega))) ?_
      refine xT_iload g_q228 g228_63 (lkN (by decide) (lkY)) ?_
      refine xT_baload g_q228 g228_65 u1 u2 (ixN (n := 6) (by omega) u3) (ixG (by omega) (u4 _ (by omega) trivial)) ?_
      refine xT_ifCondN g_q228 g228_66 (t := 96) (by decide) (c1N (a := bitP (S p) (rt p l)) (b := 0) (by omega)) ?_
      refine xT_iload_n g_q228 g228_69 (lkN (by decide) (lkN (by decide) (lkY))) ?_
      refine xT_icV (y := nI (1)) g_q228 g228_70 (by decide) ?_
      refine xT_if_icmpY g_q228 g228_71 (t := 100) (by decide) (c1Y (a := 5) (b := 1) (by omega) (by omega) (by omega)) ?_
      refine xT_icV (y := nI (0)) g_q228 g228_100 (by decide) ?_
      exact xT_ireturn g_q228 g228_101 (by decide +kernel)
  · have hz : op p l = 6 := hz
    have k0 : dw[4 * l]? = some (.inl (nI 6)) := by
      rw [k0, hz]
      rfl
    have k2 := k2 (by omega)
    rw [show gvN (op p) (rt p) (rdN op lf nl S (sv p)) (S p) l = bitP (S p) (rt p l) from (if_neg (by omega)).trans ((if_neg (by omega)).trans (if_pos (by omega)))]
    by_cases hbt : bitP (S p) (rt p l) = 1
    · rw [show nI (bitP (S p) (rt p l)) = nI 1 from congrArg nI hbt]
      refine xT_aload_n g_q228 g228_0 (rfl) ?_
      refine xT_getfield g_q228 g228_1 hbA rfl hb rfl g2 ?_
      refine xT_iload_n g_q228 g228_4 (rfl) ?_
      refine xT_aaload g_q228 g228_5 (by decide +kernel) cd1 (ixN (n := 13) (by omega) cd2) (ixG (by omega) (cd3 _ (by omega))) ?_
      refine xT_icV (y := nI (4)) g_q228 g228_6 (by decide) ?_
      refine xT_iload_n g_q228 g228_7 (rfl) ?_
      refine xT_imulV (y := nI (4 * l)) g_q228 g228_8 (bMulN _ _) ?_
      refine xT_iaload g_q228 g228_9 (by omega) dw1 (ixN (n := 48) (by omega) dw2) (ixG (by omega) k0) ?_
      refine xT_istore_n g_q228 g228_10 (by decide) ?_
      refine xT_aload_n g_q228 g228_11 (lkN (by decide) (rfl)) ?_
      refine xT_getfield g_q228 g228_12 hbA rfl hb rfl g2 ?_
      refine xT_iload_n g_q228 g228_15 (lkN (by decide) (rfl)) ?_
      refine xT_aaload g_q228 g228_16 (by decide +kernel) cd1 (ixN (n := 13) (by omega) cd2) (ixG (by omega) (cd3 _ (by omega))) ?_
      refine xT_icV (y := nI (4)) g_q228 g228_17 (by decide) ?_
      refine xT_iload_n g_q228 g228_18 (lkN (by decide) (rfl)) ?_
      refine xT_imulV (y := nI (4 * l)) g_q228 g228_19 (bMulN _ _) ?_
      refine xT_icV (y := nI (2)) g_q228 g228_20 (by decide) ?_
      refine xT_iaddV (y := nI (4 * l + 2)) g_q228 g228_21 (bAddN _ _) ?_
      refine xT_iaload g_q228 g228_22 (by omega) dw1 (ixN (n := 48) (by omega) dw2) (ixG (by omega) k2) ?_
      refine xT_istore g_q228 g228_23 (by decide) ?_
      refine xT_iload_n g_q228 g228_25 (lkN (by decide) (lkY)) ?_
      refine xT_icV (y := nI (4)) g_q228 g228_26 (by decide) ?_
      refine xT_if_icmpN g_q228 g228_27 (t := 41) (by decide) (c0N (a := 6) (b := 4) (by omega) (by omega) (by omega)) ?_
      refine xT_iload_n g_q228 g228_30 (lkN (by decide) (lkY)) ?_
      refine xT_icV (y := nI (5)) g_q228 g228_31 (by decide) ?_
      refine xT_if_icmpN g_q228 g228_32 (t := 41) (by decide) (c0N (a := 6) (b := 5) (by omega) (by omega) (by omega)) ?_
      refine xT_iload_n g_q228 g228_35 (lkN (by decide) (lkY)) ?_
      refine xT_biV (y := nI (6)) g_q228 g228_36 (by decide) ?_
      refine xT_if_icmpN g_q228 g228_38 (t := 45) (by decide) (c1N (a := 6) (b := 6) rfl) ?_
      refine xT_icV (y := nI (1)) g_q228 g228_41 (by decide) ?_
      refine xT_goto g_q228 g228_42 (t := 46) (by decide) ?_
      refine xT_istore g_q228 g228_46 (by decide) ?_
      refine xT_iload_n g_q228 g228_48 (lkN (by decide) (lkN (by decide) (lkY))) ?_
      refine xT_ifCondN g_q228 g228_49 (t := 96) (by decide) (c0N (a := 6) (b := 0) (by omega) (by omega) (by omega)) ?_
      refine xT_iload g_q228 g228_52 (lkY) ?_
      refine xT_ifCondN g_q228 g228_54 (t := 69) (by decide) (c0N (a := 1) (b := 0) (by omega) (by omega) (by omega)) ?_
      refine xT_aload_n g_q228 g228_57 (lkN (by decide) (lkN (by decide) (lkN (by decide) (rfl)))) ?_
      refine xT_getfield g_q228 g228_58 hbA rfl hb rfl g63 ?_
      refine xT_iload_n g_q228 g228_61 (lkN (by decide) (lkN (by decide) (lkN (by decide) (rfl)))) ?_
      refine xT_aaload g_q228 g228_62 (by decide +kernel) su1 (ixN (n := 12) (by omega) su2) (ixG (by omega) (su3 _ (by omega))) ?_
      refine xT_iload g_q228 g228_63 (lkN (by decide) (lkY)) ?_
      refine xT_baload g_q228 g228_65 u1 u2 (ixN (n := 6) (by omega) u3) (ixG (by omega) (u4 _ (by omega) trivial)) ?_
      refine xT_ifCondY g_q228 g228_66 (t := 96) (by decide) (c1Y (a := bitP (S p) (rt p l)) (b := 0) (by omega) (by omega) (by omega)) ?_
      refine xT_icV (y := nI (1)) g_q228 g228_96 (by decide) ?_
      refine xT_goto g_q228 g228_97 (t := 101) (by decide) ?_
      exact xT_ireturn g_q228 g228_101 (by decide +kernel)
    · have hb0 := bitP_b.resolve_right hbt
      rw [show nI (bitP (S p) (rt p l)) = nI 0 from congrArg nI hb0]
      refine xT_aload_n g_q228 g228_0 (rfl) ?_
      refine xT_getfield g_q228 g228_1 hbA rfl hb rfl g2 ?_
      refine xT_iload_n g_q228 g228_4 (rfl) ?_
      refine xT_aaload g_q228 g228_5 (by decide +kernel) cd1 (ixN (n := 13) (by omega) cd2) (ixG (by omega) (cd3 _ (by omega))) ?_
      refine xT_icV (y := nI (4)) g_q228 g228_6 (by decide) ?_
      refine xT_iload_n g_q228 g228_7 (rfl) ?_
      refine xT_imulV (y := nI (4 * l)) g_q228 g228_8 (bMulN _ _) ?_
      refine xT_iaload g_q228 g228_9 (by omega) dw1 (ixN (n := 48) (by omega) dw2) (ixG (by omega) k0) ?_
      refine xT_istore_n g_q228 g228_10 (by decide) ?_
      refine xT_aload_n g_q228 g228_11 (lkN (by decide) (rfl)) ?_
      refine xT_getfield g_q228 g228_12 hbA rfl hb rfl g2 ?_
      refine xT_iload_n g_q228 g228_15 (lkN (by decide) (rfl)) ?_
      refine xT_aaload g_q228 g228_16 (by decide +kernel) cd1 (ixN (n := 13) (by omega) cd2) (ixG (by omega) (cd3 _ (by omega))) ?_
      refine xT_icV (y := nI (4)) g_q228 g228_17 (by decide) ?_
      refine xT_iload_n g_q228 g228_18 (lkN (by decide) (rfl)) ?_
      refine xT_imulV (y := nI (4 * l)) g_q228 g228_19 (bMulN _ _) ?_
      refine xT_icV (y := nI (2)) g_q228 g228_20 (by decide) ?_
      refine xT_iaddV (y := nI (4 * l + 2)) g_q228 g228_21 (bAddN _ _) ?_
      refine xT_iaload g_q228 g228_22 (by omega) dw1 (ixN (n := 48) (by omega) dw2) (ixG (by omega) k2) ?_
      refine xT_istore g_q228 g228_23 (by decide) ?_
      refine xT_iload_n g_q228 g228_25 (lkN (by decide) (lkY)) ?_
      refine xT_icV (y := nI (4)) g_q228 g228_26 (by decide) ?_
      refine xT_if_icmpN g_q228 g228_27 (t := 41) (by decide) (c0N (a := 6) (b := 4) (by omega) (by omega) (by omega)) ?_
      refine xT_iload_n g_q228 g228_30 (lkN (by decide) (lkY)) ?_
      refine xT_icV (y := nI (5)) g_q228 g228_31 (by decide) ?_
      refine xT_if_icmpN g_q228 g228_32 (t := 41) (by decide) (c0N (a := 6) (b := 5) (by omega) (by omega) (by omega)) ?_
      refine xT_iload_n g_q228 g228_35 (lkN (by decide) (lkY)) ?_
      refine xT_biV (y := nI (6)) g_q228 g228_36 (by decide) ?_
      refine xT_if_icmpN g_q228 g228_38 (t := 45) (by decide) (c1N (a := 6) (b := 6) rfl) ?_
      refine xT_icV (y := nI (1)) g_q228 g228_41 (by decide) ?_
      refine xT_goto g_q228 g228_42 (t := 46) (by decide) ?_
      refine xT_istore g_q228 g228_46 (by decide) ?_
      refine xT_iload_n g_q228 g228_48 (lkN (by decide) (lkN (by decide) (lkY))) ?_
      refine xT_ifCondN g_q228 g228_49 (t := 96) (by decide) (c0N (a := 6) (b := 0) (by omega) (by omega) (by omega)) ?_
      refine xT_iload g_q228 g228_52 (lkY) ?_
      refine xT_ifCondN g_q228 g228_54 (t := 69) (by decide) (c0N (a := 1) (b := 0) (by omega) (by omega) (by omega)) ?_
      refine xT_aload_n g_q228 g228_57 (lkN (by decide) (lkN (by decide) (lkN (by decide) (rfl)))) ?_
      refine xT_getfield g_q228 g228_58 hbA rfl hb rfl g63 ?_
      refine xT_iload_n g_q228 g228_61 (lkN (by decide) (lkN (by decide) (lkN (by decide) (rfl)))) ?_
      refine xT_aaload g_q228 g228_62 (by decide +kernel) su1 (ixN (n := 12) (by omega) su2) (ixG (by omega) (su3 _ (by omega))) ?_
      refine xT_iload g_q228 g228_63 (lkN (by decide) (lkY)) ?_
      refine xT_baload g_q228 g228_65 u1 u2 (ixN (n := 6) (by omega) u3) (ixG (by omega) (u4 _ (by omega) trivial)) ?_
      refine xT_ifCondN g_q228 g228_66 (t := 96) (by decide) (c1N (a := bitP (S p) (rt p l)) (b := 0) (by omega)) ?_
      refine xT_iload_n g_q228 g228_69 (lkN (by decide) (lkN (by decide) (lkY))) ?_
      refine xT_icV (y := nI (1)) g_q228 g228_70 (by decide) ?_
      refine xT_if_icmpY g_q228 g228_71 (t := 100) (by decide) (c1Y (a := 6) (b := 1) (by omega) (by omega) (by omega)) ?_
      refine xT_icV (y := nI (0)) g_q228 g228_100 (by decide) ?_
      exact xT_ireturn g_q228 g228_101 (by decide +kernel)
  · have hz : op p l = 7 := hz
    have k0 : dw[4 * l]? = some (.inl (nI 7)) := by
      rw [k0, hz]
      rfl
    obtain ⟨x2, k2⟩ := dw3 (4 * l + 2) (by omega)
    rw [show gvN (op p) (rt p) (rdN op lf nl S (sv p)) (S p) l = 0 from (if_neg (by omega)).trans ((if_neg (by omega)).trans (if_neg (by omega)))]
    refine xT_aload_n g_q228 g228_0 (rfl) ?_
    refine xT_getfield g_q228 g228_1 hbA rfl hb rfl g2 ?_
    refine xT_iload_n g_q228 g228_4 (rfl) ?_
    refine xT_aaload g_q228 g228_5 (by decide +kernel) cd1 (ixN (n := 13) (by omega) cd2) (ixG (by omega) (cd3 _ (by omega))) ?_
    refine xT_icV (y := nI (4)) g_q228 g228_6 (by decide) ?_
    refine xT_iload_n g_q228 g228_7 (rfl) ?_
    refine xT_imulV (y := nI (4 * l)) g_q228 g228_8 (bMulN _ _) ?_
    refine xT_iaload g_q228 g228_9 (by omega) dw1 (ixN (n := 48) (by omega) dw2) (ixG (by omega) k0) ?_
    refine xT_istore_n g_q228 g228_10 (by decide) ?_
    refine xT_aload_n g_q228 g228_11 (lkN (by decide) (rfl)) ?_
    refine xT_getfield g_q228 g228_12 hbA rfl hb rfl g2 ?_
    refine xT_iload_n g_q228 g228_15 (lkN (by decide) (rfl)) ?_
    refine xT_aaload g_q228 g228_16 (by decide +kernel) cd1 (ixN (n := 13) (by omega) cd2) (ixG (by omega) (cd3 _ (by omega))) ?_
    refine xT_icV (y := nI (4)) g_q228 g228_17 (by decide) ?_
    refine xT_iload_n g_q228 g228_18 (lkN (by decide) (rfl)) ?_
    refine xT_imulV (y := nI (4 * l)) g_q228 g228_19 (bMulN _ _) ?_
    refine xT_icV (y := nI (2)) g_q228 g228_20 (by decide) ?_
    refine xT_iaddV (y := nI (4 * l + 2)) g_q228 g228_21 (bAddN _ _) ?_
    refine xT_iaload g_q228 g228_22 (by omega) dw1 (ixN (n := 48) (by omega) dw2) (ixG (by omega) k2) ?_
    refine xT_istore g_q228 g228_23 (by decide) ?_
    refine xT_iload_n g_q228 g228_25 (lkN (by decide) (lkY)) ?_
    refine xT_icV (y := nI (4)) g_q228 g228_26 (by decide) ?_
    refine xT_if_icmpN g_q228 g228_27 (t := 41) (by decide) (c0N (a := 7) (b := 4) (by omega) (by omega) (by omega)) ?_
    refine xT_iload_n g_q228 g228_30 (lkN (by decide) (lkY)) ?_
    refine xT_icV (y := nI (5)) g_q228 g228_31 (by decide) ?_
    refine xT_if_icmpN g_q228 g228_32 (t := 41) (by decide) (c0N (a := 7) (b := 5) (by omega) (by omega) (by omega)) ?_
    refine xT_iload_n g_q228 g228_35 (lkN (by decide) (lkY)) ?_
    refine xT_biV (y := nI (6)) g_q228 g228_36 (by decide) ?_
    refine xT_if_icmpY g_q228 g228_38 (t := 45) (by decide) (c1Y (a := 7) (b := 6) (by omega) (by omega) (by omega)) ?_
    refine xT_icV (y := nI (0)) g_q228 g228_45 (by decide) ?_
    refine xT_istore g_q228 g228_46 (by decide) ?_
    refine xT_iload_n g_q228 g228_48 (lkN (by decide) (lkN (by decide) (lkY))) ?_
    refine xT_ifCondN g_q228 g228_49 (t := 96) (by decide) (c0N (a := 7) (b := 0) (by omega) (by omega) (by omega)) ?_
    refine xT_iload g_q228 g228_52 (lkY) ?_
    refine xT_ifCondY g_q228 g228_54 (t := 69) (by decide) (c0Y (a := 0) (b := 0) rfl) ?_
    refine xT_iload_n g_q228 g228_69 (lkN (by decide) (lkN (by decide) (lkY))) ?_
    refine xT_icV (y := nI (1)) g_q228 g228_70 (by decide) ?_
    refine xT_if_icmpY g_q228 g228_71 (t := 100) (by decide) (c1Y (a := 7) (b := 1) (by omega) (by omega) (by omega)) ?_
    refine xT_icV (y := nI (0)) g_q228 g228_100 (by decide) ?_
    exact xT_ireturn g_q228 g228_101 (by decide +kernel)
  · have hz : op p l = 8 := hz
    have k0 : dw[4 * l]? = some (.inl (nI 9)) := by
      rw [k0, hz]
      rfl
    obtain ⟨x2, k2⟩ := dw3 (4 * l + 2) (by omega)
    rw [show gvN (op p) (rt p) (rdN op lf nl S (sv p)) (S p) l = 0 from (if_neg (by omega)).trans ((if_neg (by omega)).trans (if_neg (by omega)))]
    refine xT_aload_n g_q228 g228_0 (rfl) ?_
    refine xT_getfield g_q228 g228_1 hbA rfl hb rfl g2 ?_
    refine xT_iload_n g_q228 g228_4 (rfl) ?_
    refine xT_aaload g_q228 g228_5 (by decide +kernel) cd1 (ixN (n := 13) (by omega) cd2) (ixG (by omega) (cd3 _ (by omega))) ?_
    refine xT_icV (y := nI (4)) g_q228 g228_6 (by decide) ?_
    refine xT_iload_n g_q228 g228_7 (rfl) ?_
    refine xT_imulV (y := nI (4 * l)) g_q228 g228_8 (bMulN _ _) ?_
    refine xT_iaload g_q228 g228_9 (by omega) dw1 (ixN (n := 48) (by omega) dw2) (ixG (by omega) k0) ?_
    refine xT_istore_n g_q228 g228_10 (by decide) ?_
    refine xT_aload_n g_q228 g228_11 (lkN (by decide) (rfl)) ?_
    refine xT_getfield g_q228 g228_12 hbA rfl hb rfl g2 ?_
    refine xT_iload_n g_q228 g228_15 (lkN (by decide) (rfl)) ?_
    refine xT_aaload g_q228 g228_16 (by decide +kernel) cd1 (ixN (n := 13) (by omega) cd2) (ixG (by omega) (cd3 _ (by omega))) ?_
    refine xT_icV (y := nI (4)) g_q228 g228_17 (by decide) ?_
    refine xT_iload_n g_q228 g228_18 (lkN (by decide) (rfl)) ?_
    refine xT_imulV (y := nI (4 * l)) g_q228 g228_19 (bMulN _ _) ?_
    refine xT_icV (y := nI (2)) g_q228 g228_20 (by decide) ?_
    refine xT_iaddV (y := nI (4 * l + 2)) g_q228 g228_21 (bAddN _ _) ?_
    refine xT_iaload g_q228 g228_22 (by omega) dw1 (ixN (n := 48) (by omega) dw2) (ixG (by omega) k2) ?_
    refine xT_istore g_q228 g228_23 (by decide) ?_
    refine xT_iload_n g_q228 g228_25 (lkN (by decide) (lkY)) ?_
    refine xT_icV (y := nI (4)) g_q228 g228_26 (by decide) ?_
    refine xT_if_icmpN g_q228 g228_27 (t := 41) (by decide) (c0N (a := 9) (b := 4) (by omega) (by omega) (by omega)) ?_
    refine xT_iload_n g_q228 g228_30 (lkN (by decide) (lkY)) ?_
    refine xT_icV (y := nI (5)) g_q228 g228_31 (by decide) ?_
    refine xT_if_icmpN g_q228 g228_32 (t := 41) (by decide) (c0N (a := 9) (b := 5) (by omega) (by omega) (by omega)) ?_
    refine xT_iload_n g_q228 g228_35 (lkN (by decide) (lkY)) ?_
    refine xT_biV (y := nI (6)) g_q228 g228_36 (by decide) ?_
    refine xT_if_icmpY g_q228 g228_38 (t := 45) (by decide) (c1Y (a := 9) (b := 6) (by omega) (by omega) (by omega)) ?_
    refine xT_icV (y := nI (0)) g_q228 g228_45 (by decide) ?_
    refine xT_istore g_q228 g228_46 (by decide) ?_
    refine xT_iload_n g_q228 g228_48 (lkN (by decide) (lkN (by decide) (lkY))) ?_
    refine xT_ifCondN g_q228 g228_49 (t := 96) (by decide) (c0N (a := 9) (b := 0) (by omega) (by omega) (by omega)) ?_
    refine xT_iload g_q228 g228_52 (lkY) ?_
    refine xT_ifCondY g_q228 g228_54 (t := 69) (by decide) (c0Y (a := 0) (b := 0) rfl) ?_
    refine xT_iload_n g_q228 g228_69 (lkN (by decide) (lkN (by decide) (lkY))) ?_
    refine xT_icV (y := nI (1)) g_q228 g228_70 (by decide) ?_
    refine xT_if_icmpY g_q228 g228_71 (t := 100) (by decide) (c1Y (a := 9) (b := 1) (by omega) (by omega) (by omega)) ?_
    refine xT_icV (y := nI (0)) g_q228 g228_100 (by decide) ?_
    exact xT_ireturn g_q228 g228_101 (by decide +kernel)
  · have hz : op p l = 9 := hz
    have k0 : dw[4 * l]? = some (.inl (nI 10)) := by
      rw [k0, hz]
      rfl
    obtain ⟨x2, k2⟩ := dw3 (4 * l + 2) (by omega)
    rw [show gvN (op p) (rt p) (rdN op lf nl S (sv p)) (S p) l = 0 from (if_neg (by omega)).trans ((if_neg (by omega)).trans (if_neg (by omega)))]
    refine xT_aload_n g_q228 g228_0 (rfl) ?_
    refine xT_getfield g_q228 g228_1 hbA rfl hb rfl g2 ?_
    refine xT_iload_n g_q228 g228_4 (rfl) ?_
    refine xT_aaload g_q228 g228_5 (by decide +kernel) cd1 (ixN (n := 13) (by omega) cd2) (ixG (by omega) (cd3 _ (by omega))) ?_
    refine xT_icV (y := nI (4)) g_q228 g228_6 (by decide) ?_
    refine xT_iload_n g_q228 g228_7 (rfl) ?_
    refine xT_imulV (y := nI (4 * l)) g_q228 g228_8 (bMulN _ _) ?_
    refine xT_iaload g_q228 g228_9 (by omega) dw1 (ixN (n := 48) (by omega) dw2) (ixG (by omega) k0) ?_
    refine xT_istore_n g_q228 g228_10 (by decide) ?_
    refine xT_aload_n g_q228 g228_11 (lkN (by decide) (rfl)) ?_
    refine xT_getfield g_q228 g228_12 hbA rfl hb rfl g2 ?_
    refine xT_iload_n g_q228 g228_15 (lkN (by decide) (rfl)) ?_
    refine xT_aaload g_q228 g228_16 (by decide +kernel) cd1 (ixN (n := 13) (by omega) cd2) (ixG (by omega) (cd3 _ (by omega))) ?_
    refine xT_icV (y := nI (4)) g_q228 g228_17 (by decide) ?_
    refine xT_iload_n g_q228 g228_18 (lkN (by decide) (rfl)) ?_
    refine xT_imulV (y := nI (4 * l)) g_q228 g228_19 (bMulN _ _) ?_
    refine xT_icV (y := nI (2)) g_q228 g228_20 (by decide) ?_
    refine xT_iaddV (y := nI (4 * l + 2)) g_q228 g228_21 (bAddN _ _) ?_
    refine xT_iaload g_q228 g228_22 (by omega) dw1 (ixN (n := 48) (by omega) dw2) (ixG (by omega) k2) ?_
    refine xT_istore g_q228 g228_23 (by decide) ?_
    refine xT_iload_n g_q228 g228_25 (lkN (by decide) (lkY)) ?_
    refine xT_icV (y := nI (4)) g_q228 g228_26 (by decide) ?_
    refine xT_if_icmpN g_q228 g228_27 (t := 41) (by decide) (c0N (a := 10) (b := 4) (by omega) (by omega) (by omega)) ?_
    refine xT_iload_n g_q228 g228_30 (lkN (by decide) (lkY)) ?_
    refine xT_icV (y := nI (5)) g_q228 g228_31 (by decide) ?_
    refine xT_if_icmpN g_q228 g228_32 (t := 41) (by decide) (c0N (a := 10) (b := 5) (by omega) (by omega) (by omega)) ?_
    refine xT_iload_n g_q228 g228_35 (lkN (by decide) (lkY)) ?_
    refine xT_biV (y := nI (6)) g_q228 g228_36 (by decide) ?_
    refine xT_if_icmpY g_q228 g228_38 (t := 45) (by decide) (c1Y (a := 10) (b := 6) (by omega) (by omega) (by omega)) ?_
    refine xT_icV (y := nI (0)) g_q228 g228_45 (by decide) ?_
    refine xT_istore g_q228 g228_46 (by decide) ?_
    refine xT_iload_n g_q228 g228_48 (lkN (by decide) (lkN (by decide) (lkY))) ?_
    refine xT_ifCondN g_q228 g228_49 (t := 96) (by decide) (c0N (a := 10) (b := 0) (by omega) (by omega) (by omega)) ?_
    refine xT_iload g_q228 g228_52 (lkY) ?_
    refine xT_ifCondY g_q228 g228_54 (t := 69) (by decide) (c0Y (a := 0) (b := 0) rfl) ?_
    refine xT_iload_n g_q228 g228_69 (lkN (by decide) (lkN (by decide) (lkY))) ?_
    refine xT_icV (y := nI (1)) g_q228 g228_70 (by decide) ?_
    refine xT_if_icmpY g_q228 g228_71 (t := 100) (by decide) (c1Y (a := 10) (b := 1) (by omega) (by omega) (by omega)) ?_
    refine xT_icV (y := nI (0)) g_q228 g228_100 (by decide) ?_
    exact xT_ireturn g_q228 g228_101 (by decide +kernel)
  · have hz : op p l = 10 := hz
    have k0 : dw[4 * l]? = some (.inl (nI 11)) := by
      rw [k0, hz]
      rfl
    obtain ⟨x2, k2⟩ := dw3 (4 * l + 2) (by omega)
    rw [show gvN (op p) (rt p) (rdN op lf nl S (sv p)) (S p) l = 0 from (if_neg (by omega)).trans ((if_neg (by omega)).trans (if_neg (by omega)))]
    refine xT_aload_n g_q228 g228_0 (rfl) ?_
    refine xT_getfield g_q228 g228_1 hbA rfl hb rfl g2 ?_
    refine xT_iload_n g_q228 g228_4 (rfl) ?_
    refine xT_aaload g_q228 g228_5 (by decide +kernel) cd1 (ixN (n := 13) (by omega) cd2) (ixG (by omega) (cd3 _ (by omega))) ?_
    refine xT_icV (y := nI (4)) g_q228 g228_6 (by decide) ?_
    refine xT_iload_n g_q228 g228_7 (rfl) ?_
    refine xT_imulV (y := nI (4 * l)) g_q228 g228_8 (bMulN _ _) ?_
    refine xT_iaload g_q228 g228_9 (by omega) dw1 (ixN (n := 48) (by omega) dw2) (ixG (by omega) k0) ?_
    refine xT_istore_n g_q228 g228_10 (by decide) ?_
    refine xT_aload_n g_q228 g228_11 (lkN (by decide) (rfl)) ?_
    refine xT_getfield g_q228 g228_12 hbA rfl hb rfl g2 ?_
    refine xT_iload_n g_q228 g228_15 (lkN (by decide) (rfl)) ?_
    refine xT_aaload g_q228 g228_16 (by decide +kernel) cd1 (ixN (n := 13) (by omega) cd2) (ixG (by omega) (cd3 _ (by omega))) ?_
    refine xT_icV (y := nI (4)) g_q228 g228_17 (by decide) ?_
    refine xT_iload_n g_q228 g228_18 (lkN (by decide) (rfl)) ?_
    refine xT_imulV (y := nI (4 * l)) g_q228 g228_19 (bMulN _ _) ?_
    refine xT_icV (y := nI (2)) g_q228 g228_20 (by decide) ?_
    refine xT_iaddV (y := nI (4 * l + 2)) g_q228 g228_21 (bAddN _ _) ?_
    refine xT_iaload g_q228 g228_22 (by omega) dw1 (ixN (n := 48) (by omega) dw2) (ixG (by omega) k2) ?_
    refine xT_istore g_q228 g228_23 (by decide) ?_
    refine xT_iload_n g_q228 g228_25 (lkN (by decide) (lkY)) ?_
    refine xT_icV (y := nI (4)) g_q228 g228_26 (by decide) ?_
    refine xT_if_icmpN g_q228 g228_27 (t := 41) (by decide) (c0N (a := 11) (b := 4) (by omega) (by omega) (by omega)) ?_
    refine xT_iload_n g_q228 g228_30 (lkN (by decide) (lkY)) ?_
    refine xT_icV (y := nI (5)) g_q228 g228_31 (by decide) ?_
    refine xT_if_icmpN g_q228 g228_32 (t := 41) (by decide) (c0N (a := 11) (b := 5) (by omega) (by omega) (by omega)) ?_
    refine xT_iload_n g_q228 g228_35 (lkN (by decide) (lkY)) ?_
    refine xT_biV (y := nI (6)) g_q228 g228_36 (by decide) ?_
    refine xT_if_icmpY g_q228 g228_38 (t := 45) (by decide) (c1Y (a := 11) (b := 6) (by omega) (by omega) (by omega)) ?_
    refine xT_icV (y := nI (0)) g_q228 g228_45 (by decide) ?_
    refine xT_istore g_q228 g228_46 (by decide) ?_
    refine xT_iload_n g_q228 g228_48 (lkN (by decide) (lkN (by decide) (lkY))) ?_
    refine xT_ifCondN g_q228 g228_49 (t := 96) (by decide) (c0N (a := 11) (b := 0) (by omega) (by omega) (by omega)) ?_
    refine xT_iload g_q228 g228_52 (lkY) ?_
    refine xT_ifCondY g_q228 g228_54 (t := 69) (by decide) (c0Y (a := 0) (b := 0) rfl) ?_
    refine xT_iload_n g_q228 g228_69 (lkN (by decide) (lkN (by decide) (lkY))) ?_
    refine xT_icV (y := nI (1)) g_q228 g228_70 (by decide) ?_
    refine xT_if_icmpY g_q228 g228_71 (t := 100) (by decide) (c1Y (a := 11) (b := 1) (by omega) (by omega) (by omega)) ?_
    refine xT_icV (y := nI (0)) g_q228 g228_100 (by decide) ?_
    exact xT_ireturn g_q228 g228_101 (by decide +kernel)
  · have hz : op p l = 11 := hz
    have k0 : dw[4 * l]? = some (.inl (nI 8)) := by
      rw [k0, hz]
      rfl
    obtain ⟨x2, k2⟩ := dw3 (4 * l + 2) (by omega)
    rw [show gvN (op p) (rt p) (rdN op lf nl S (sv p)) (S p) l = 0 from (if_neg (by omega)).trans ((if_neg (by omega)).trans (if_neg (by omega)))]
    refine xT_aload_n g_q228 g228_0 (rfl) ?_
    refine xT_getfield g_q228 g228_1 hbA rfl hb rfl g2 ?_
    refine xT_iload_n g_q228 g228_4 (rfl) ?_
    refine xT_aaload g_q228 g228_5 (by decide +kernel) cd1 (ixN (n := 13) (by omega) cd2) (ixG (by omega) (cd3 _ (by omega))) ?_
    refine xT_icV (y := nI (4)) g_q228 g228_6 (by decide) ?_
    refine xT_iload_n g_q228 g228_7 (rfl) ?_
    refine xT_imulV (y := nI (4 * l)) g_q228 g228_8 (bMulN _ _) ?_
    refine xT_iaload g_q228 g228_9 (by omega) dw1 (ixN (n := 48) (by omega) dw2) (ixG (by omega) k0) ?_
    refine xT_istore_n g_q228 g228_10 (by decide) ?_
    refine xT_aload_n g_q228 g228_11 (lkN (by decide) (rfl)) ?_
    refine xT_getfield g_q228 g228_12 hbA rfl hb rfl g2 ?_
    refine xT_iload_n g_q228 g228_15 (lkN (by decide) (rfl)) ?_
    refine xT_aaload g_q228 g228_16 (by decide +kernel) cd1 (ixN (n := 13) (by omega) cd2) (ixG (by omega) (cd3 _ (by omega))) ?_
    refine xT_icV (y := nI (4)) g_q228 g228_17 (by decide) ?_
    refine xT_iload_n g_q228 g228_18 (lkN (by decide) (rfl)) ?_
    refine xT_imulV (y := nI (4 * l)) g_q228 g228_19 (bMulN _ _) ?_
    refine xT_icV (y := nI (2)) g_q228 g228_20 (by decide) ?_
    refine xT_iaddV (y := nI (4 * l + 2)) g_q228 g228_21 (bAddN _ _) ?_
    refine xT_iaload g_q228 g228_22 (by omega) dw1 (ixN (n := 48) (by omega) dw2) (ixG (by omega) k2) ?_
    refine xT_istore g_q228 g228_23 (by decide) ?_
    refine xT_iload_n g_q228 g228_25 (lkN (by decide) (lkY)) ?_
    refine xT_icV (y := nI (4)) g_q228 g228_26 (by decide) ?_
    refine xT_if_icmpN g_q228 g228_27 (t := 41) (by decide) (c0N (a := 8) (b := 4) (by omega) (by omega) (by omega)) ?_
    refine xT_iload_n g_q228 g228_30 (lkN (by decide) (lkY)) ?_
    refine xT_icV (y := nI (5)) g_q228 g228_31 (by decide) ?_
    refine xT_if_icmpN g_q228 g228_32 (t := 41) (by decide) (c0N (a := 8) (b := 5) (by omega) (by omega) (by omega)) ?_
    refine xT_iload_n g_q228 g228_35 (lkN (by decide) (lkY)) ?_
    refine xT_biV (y := nI (6)) g_q228 g228_36 (by decide) ?_
    refine xT_if_icmpY g_q228 g228_38 (t := 45) (by decide) (c1Y (a := 8) (b := 6) (by omega) (by omega) (by omega)) ?_
    refine xT_icV (y := nI (0)) g_q228 g228_45 (by decide) ?_
    refine xT_istore g_q228 g228_46 (by decide) ?_
    refine xT_iload_n g_q228 g228_48 (lkN (by decide) (lkN (by decide) (lkY))) ?_
    refine xT_ifCondN g_q228 g228_49 (t := 96) (by decide) (c0N (a := 8) (b := 0) (by omega) (by omega) (by omega)) ?_
    refine xT_iload g_q228 g228_52 (lkY) ?_
    refine xT_ifCondY g_q228 g228_54 (t := 69) (by decide) (c0Y (a := 0) (b := 0) rfl) ?_
    refine xT_iload_n g_q228 g228_69 (lkN (by decide) (lkN (by decide) (lkY))) ?_
    refine xT_icV (y := nI (1)) g_q228 g228_70 (by decide) ?_
    refine xT_if_icmpY g_q228 g228_71 (t := 100) (by decide) (c1Y (a := 8) (b := 1) (by omega) (by omega) (by omega)) ?_
    refine xT_icV (y := nI (0)) g_q228 g228_100 (by decide) ?_
    exact xT_ireturn g_q228 g228_101 (by decide +kernel)
end XH5_16
