/-! p5 by hand, 23. -/
noncomputable section XH5_23
variable {ot : XO Int32} {dp : Nat} {H : List (XC Int32)} {a n m : Nat} {P C nl sv S : Nat → Nat} {op lf rt : Nat → Nat → Nat}
theorem t226_l {b : Nat} {D U : Nat → Nat} (hB : kB H b n D U op lf rt nl sv S (fun _ _ => True)) (ho : cdOk n op lf rt nl) {p f : Nat} (hp : p < n) (hf : f < 6) : ∀ (d l : Nat) (L : List (Nat × XV Int32)), l + d = nl p → x_lk L 0 = some (.inr (some (b))) → x_lk L 1 = some (.inl (nI (p))) → x_lk L 2 = some (.inl (nI (f))) → x_lk L 3 = some (.inl (nI (l))) → x_To x_tb x_tyl ot dp 226 19 L [] H 0 0 (some (.inl (nI (if qN (op p) (lf p) (rt p) (S p) f d l = 1 then 2 else 0)))) H := by
  obtain ⟨⟨hbA, hn12, gs, ln, cd, ip, su, vc, vi, vs, hb, g0, g1, g2, g6, g63, ⟨ln0, vl, ln1, ln2, ln3⟩, ⟨cd1, cd2, cd3⟩, ⟨ip0, ip1, ip2, ip3⟩, su1, su2, su3⟩, hD, hU, inj⟩ := id hB
  obtain ⟨dD, dw, dw1, dw2, dw3, dw4⟩ := hD p hp
  obtain ⟨u1, uw, u2, u3, u4⟩ := hU p hp
  obtain ⟨hl12, hcd⟩ := ho p hp
  intro d
  induction d with
  | zero =>
    intro l L hl l0 l1 l2 l3
    obtain rfl : nl p = l := by omega
    rw [show (if qN (op p) (lf p) (rt p) (S p) f 0 (nl p) = 1 then 2 else 0) = 0 from if_neg (fun z => absurd (show 0 = 1 from z) (by decide))]
    refine xT_iload_n g_q226 g226_19 (l3) ?_
    refine xT_aload_n g_q226 g226_20 (l0) ?_
    refine xT_getfield g_q226 g226_21 hbA rfl hb rfl g1 ?_
    refine xT_iload_n g_q226 g226_24 (l1) ?_
    refine xT_iaload g_q226 g226_25 (by omega) ln1 (ixN (n := 13) (by omega) ln2) (ixG (by omega) (ln3 _ (by omega))) ?_
    refine xT_if_icmpY g_q226 g226_26 (t := 135) (by decide) (c3Y (a := nl p) (b := nl p) (Nat.le_refl _) (by omega) (by omega)) ?_
    refine xT_icV (y := nI (0)) g_q226 g226_135 (by decide) ?_
    exact xT_ireturn g_q226 g226_136 (rfl)
  | succ d ih =>
    intro l L hl l0 l1 l2 l3
    obtain ⟨o1, o2, o3⟩ := hcd l (by omega)
    obtain ⟨k0, k1, k2⟩ := dw4 l (by omega)
    have hr := (opR_t _ (show op p l < 12 by omega)).1
    have ra := opR_a _ (show op p l < 12 by omega)
    have hbl := bitP_b (a := S p) (s := lf p l)
    have hbr := bitP_b (a := S p) (s := rt p l)
    by_cases hq : op p l = 7 ∨ op p l = 11
    rotate_left
    · have h7 : opR (op p l) ≠ 7 := fun z => hq (Or.inl (ra.1.mp z))
      have h8 : opR (op p l) ≠ 8 := fun z => hq (Or.inr (ra.2.mp z))
      obtain ⟨x1, k1⟩ := dw3 (4 * l + 1) (by omega)
      obtain ⟨x2, k2⟩ := dw3 (4 * l + 2) (by omega)
      rw [show qN (op p) (lf p) (rt p) (S p) f (d + 1) l = qN (op p) (lf p) (rt p) (S p) f d (l + 1) from if_neg (fun z => hq z.1)]
      refine xT_iload_n g_q226 g226_19 (l3) ?_
      refine xT_aload_n g_q226 g226_20 (l0) ?_
      refine xT_getfield g_q226 g226_21 hbA rfl hb rfl g1 ?_
      refine xT_iload_n g_q226 g226_24 (l1) ?_
      refine xT_iaload g_q226 g226_25 (by omega) ln1 (ixN (n := 13) (by omega) ln2) (ixG (by omega) (ln3 _ (by omega))) ?_
      refine xT_if_icmpN g_q226 g226_26 (t := 135) (by decide) (c3N (a := l) (b := nl p) (by omega) (by omega) (by omega)) ?_
      refine xT_aload_n g_q226 g226_29 (l0) ?_
      refine xT_getfield g_q226 g226_30 hbA rfl hb rfl g2 ?_
      refine xT_iload_n g_q226 g226_33 (l1) ?_
      refine xT_aaload g_q226 g226_34 (by decide +kernel) cd1 (ixN (n := 13) (by omega) cd2) (ixG (by omega) (cd3 _ (by omega))) ?_
      refine xT_astore g_q226 g226_35 (by decide) ?_
      refine xT_aload g_q226 g226_37 (lkY) ?_
      refine xT_icV (y := nI (4)) g_q226 g226_39 (by decide) ?_
      refine xT_iload_n g_q226 g226_40 (lkN (by decide) (l3)) ?_
      refine xT_imulV (y := nI (4 * l)) g_q226 g226_41 (bMulN _ _) ?_
      refine xT_icV (y := nI (1)) g_q226 g226_42 (by decide) ?_
      refine xT_iaddV (y := nI (4 * l + 1)) g_q226 g226_43 (bAddN _ _) ?_
      refine xT_iaload g_q226 g226_44 (by omega) dw1 (ixN (n := 48) (by omega) dw2) (ixG (by omega) k1) ?_
      refine xT_istore g_q226 g226_45 (by decide) ?_
      refine xT_aload g_q226 g226_47 (lkN (by decide) (lkY)) ?_
      refine xT_icV (y := nI (4)) g_q226 g226_49 (by decide) ?_
      refine xT_iload_n g_q226 g226_50 (lkN (by decide) (lkN (by decide) (l3))) ?_
      refine xT_imulV (y := nI (4 * l)) g_q226 g226_51 (bMulN _ _) ?_
      refine xT_icV (y := nI (2)) g_q226 g226_52 (by decide) ?_
      refine xT_iaddV (y := nI (4 * l + 2)) g_q226 g226_53 (bAddN _ _) ?_
      refine xT_iaload g_q226 g226_54 (by omega) dw1 (ixN (n := 48) (by omega) dw2) (ixG (by omega) k2) ?_
      refine xT_istore g_q226 g226_55 (by decide) ?_
      refine xT_aload g_q226 g226_57 (lkN (by decide) (lkN (by decide) (lkY))) ?_
      refine xT_icV (y := nI (4)) g_q226 g226_59 (by decide) ?_
      refine xT_iload_n g_q226 g226_60 (lkN (by decide) (lkN (by decide) (lkN (by decide) (l3)))) ?_
      refine xT_imulV (y := nI (4 * l)) g_q226 g226_61 (bMulN _ _) ?_
      refine xT_iaload g_q226 g226_62 (by omega) dw1 (ixN (n := 48) (by omega) dw2) (ixG (by omega) k0) ?_
      refine xT_biV (y := nI (7)) g_q226 g226_63 (by decide) ?_
      refine xT_if_icmpN g_q226 g226_65 (t := 79) (by decide) (c0N (a := opR (op p l)) (b := 7) h7 (by omega) (by omega)) ?_
      refine xT_aload g_q226 g226_68 (lkN (by decide) (lkN (by decide) (lkY))) ?_
      refine xT_icV (y := nI (4)) g_q226 g226_70 (by decide) ?_
      refine xT_iload_n g_q226 g226_71 (lkN (by decide) (lkN (by decide) (lkN (by decide) (l3)))) ?_
      refine xT_imulV (y := nI (4 * l)) g_q226 g226_72 (bMulN _ _) ?_
      refine xT_iaload g_q226 g226_73 (by omega) dw1 (ixN (n := 48) (by omega) dw2) (ixG (by omega) k0) ?_
      refine xT_biV (y := nI (8)) g_q226 g226_74 (by decide) ?_
      refine xT_if_icmpY g_q226 g226_76 (t := 83) (by decide) (c1Y (a := opR (op p l)) (b := 8) h8 (by omega) (by omega)) ?_
      refine xT_icV (y := nI (0)) g_q226 g226_83 (by decide) ?_
      refine xT_istore g_q226 g226_84 (by decide) ?_
      refine xT_iload g_q226 g226_86 (lkY) ?_
      refine xT_ifCondY g_q226 g226_88 (t := 129) (by decide) (c0Y (a := 0) (b := 0) rfl) ?_
      refine xT_iincV (y := nI (l + 1)) g_q226 g226_129 (lkN (by decide) (lkN (by decide) (lkN (by decide) (lkN (by decide) (l3))))) (by decide) (bIncN _) ?_
      refine xT_goto g_q226 g226_132 (t := 19) (by decide) ?_
      exact ih (l + 1) _ (by omega) (lkN (by decide) (lkN (by decide) (lkN (by decide) (lkN (by decide) (lkN (by decide) (l0)))))) (lkN (by decide) (lkN (by decide) (lkN (by decide) (lkN (by decide) (lkN (by decide) (l1)))))) (lkN (by decide) (lkN (by decide) (lkN (by decide) (lkN (by decide) (lkN (by decide) (l2)))))) (lkY)
    rcases hq with hz | hz
    · have hz : op p l = 7 := hz
      have k1 := k1 (by omega) (by omega)
      have k2 := k2 (by omega)
      have hq7 : op p l = 7 ∨ op p l = 11 := by omega
      by_cases hA : lf p l = f ∧ bitP (S p) (rt p l) = 1
      · obtain ⟨e1, b1⟩ := hA
        rw [show qN (op p) (lf p) (rt p) (S p) f (d + 1) l = 1 from if_pos ⟨hq7, Or.inl ⟨e1, b1⟩⟩]
        refine xT_iload_n g_q226 g226_19 (l3) ?_
        refine xT_aload_n g_q226 g226_20 (l0) ?_
        refine xT_getfield g_q226 g226_21 hbA rfl hb rfl g1 ?_
        refine xT_iload_n g_q226 g226_24 (l1) ?_
        refine xT_iaload g_q226 g226_25 (by omega) ln1 (ixN (n := 13) (by omega) ln2) (ixG (by omega) (ln3 _ (by omega))) ?_
        refine xT_if_icmpN g_q226 g226_26 (t := 135) (by decide) (c3N (a := l) (b := nl p) (by omega) (by omega) (by omega)) ?_
        refine xT_aload_n g_q226 g226_29 (l0) ?_
        refine xT_getfield g_q226 g226_30 hbA rfl hb rfl g2 ?_
        refine xT_iload_n g_q226 g226_33 (l1) ?_
        refine xT_aaload g_q226 g226_34 (by decide +kernel) cd1 (ixN (n := 13) (by omega) cd2) (ixG (by omega) (cd3 _ (by omega))) ?_
        refine xT_astore g_q226 g226_35 (by decide) ?_
        refine xT_aload g_q226 g226_37 (lkY) ?_
        refine xT_icV (y := nI (4)) g_q226 g226_39 (by decide) ?_
        refine xT_iload_n g_q226 g226_40 (lkN (by decide) (l3)) ?_
        refine xT_imulV (y := nI (4 * l)) g_q226 g226_41 (bMulN _ _) ?_
        refine xT_icV (y := nI (1)) g_q226 g226_42 (by decide) ?_
        refine xT_iaddV (y := nI (4 * l + 1)) g_q226 g226_43 (bAddN _ _) ?_
        refine xT_iaload g_q226 g226_44 (by omega) dw1 (ixN (n := 48) (by omega) dw2) (ixG (by omega) k1) ?_
        refine xT_istore g_q226 g226_45 (by decide) ?_
        refine xT_aload g_q226 g226_47 (lkN (by decide) (lkY)) ?_
        refine xT_icV (y := nI (4)) g_q226 g226_49 (by decide) ?_
        refine xT_iload_n g_q226 g226_50 (lkN (by decide) (lkN (by decide) (l3))) ?_
        refine xT_imulV (y := nI (4 * l)) g_q226 g226_51 (bMulN _ _) ?_
        refine xT_icV (y := nI (2)) g_q226 g226_52 (by decide) ?_
        refine xT_iaddV (y := nI (4 * l + 2)) g_q226 g226_53 (bAddN _ _) ?_
        refine xT_iaload g_q226 g226_54 (by omega) dw1 (ixN (n := 48) (by omega) dw2) (ixG (by omega) k2) ?_
        refine xT_istore g_q226 g226_55 (by decide) ?_
        refine xT_aload g_q226 g226_57 (lkN (by decide) (lkN (by decide) (lkY))) ?_
        refine xT_icV (y := nI (4)) g_q226 g226_59 (by decide) ?_
        refine xT_iload_n g_q226 g226_60 (lkN (by decide) (lkN (by decide) (lkN (by decide) (l3)))) ?_
        refine xT_imulV (y := nI (4 * l)) g_q226 g226_61 (bMulN _ _) ?_
        refine xT_iaload g_q226 g226_62 (by omega) dw1 (ixN (n := 48) (by omega) dw2) (ixG (by omega) k0) ?_
        refine xT_biV (y := nI (7)) g_q226 g226_63 (by decide) ?_
        refine xT_if_icmpY g_q226 g226_65 (t := 79) (by decide) (c0Y (a := opR (op p l)) (b := 7) (by rw [hz]; rfl)) ?_
        refine xT_icV (y := nI (1)) g_q226 g226_79 (by decide) ?_
        refine xT_goto g_q226 g226_80 (t := 84) (by decide) ?_
        refine xT_istore g_q226 g226_84 (by decide) ?_
        refine xT_iload g_q226 g226_86 (lkY) ?_
        refine xT_ifCondN g_q226 g226_88 (t := 129) (by decide) (c0N (a := 1) (b := 0) (by omega) (by omega) (by omega)) ?_
        refine xT_iload g_q226 g226_91 (lkN (by decide) (lkN (by decide) (lkY))) ?_
        refine xT_iload_n g_q226 g226_93 (lkN (by decide) (lkN (by decide) (lkN (by decide) (lkN (by decide) (l2))))) ?_
        refine xT_if_icmpN g_q226 g226_94 (t := 109) (by decide) (c1N (a := lf p l) (b := f) e1) ?_
        refine xT_aload_n g_q226 g226_97 (lkN (by decide) (lkN (by decide) (lkN (by decide) (lkN (by decide) (l0))))) ?_
        refine xT_getfield g_q226 g226_98 hbA rfl hb rfl g63 ?_
        refine xT_iload_n g_q226 g226_101 (lkN (by decide) (lkN (by decide) (lkN (by decide) (lkN (by decide) (l1))))) ?_
        refine xT_aaload g_q226 g226_102 (by decide +kernel) su1 (ixN (n := 12) (by omega) su2) (ixG (by omega) (su3 _ (by omega))) ?_
        refine xT_iload g_q226 g226_103 (lkN (by decide) (lkY)) ?_
        refine xT_baload g_q226 g226_105 u1 u2 (ixN (n := 6) (by omega) u3) (ixG (by omega) (u4 _ (by omega) trivial)) ?_
        refine xT_ifCondY g_q226 g226_106 (t := 127) (by decide) (c1Y (a := bitP (S p) (rt p l)) (b := 0) (by omega) (by omega) (by omega)) ?_
        refine xT_icV (y := nI (2)) g_q226 g226_127 (by decide) ?_
        exact xT_ireturn g_q226 g226_128 (rfl)
      by_cases e1 : lf p l = f
      rotate_left
      · skip
        by_cases e2 : rt p l = f
        rotate_left
        · rw [show qN (op p) (lf p) (rt p) (S p) f (d + 1) l = qN (op p) (lf p) (rt p) (S p) f d (l + 1) from if_neg (fun z => z.2.elim hA (fun y => e2 y.1))]
          refine xT_iload_n g_q226 g226_19 (l3) ?_
          refine xT_aload_n g_q226 g226_20 (l0) ?_
          refine xT_getfield g_q226 g226_21 hbA rfl hb rfl g1 ?_
          refine xT_iload_n g_q226 g226_24 (l1) ?_
          refine xT_iaload g_q226 g226_25 (by omega) ln1 (ixN (n := 13) (by omega) ln2) (ixG (by omega) (ln3 _ (by omega))) ?_
          refine xT_if_icmpN g_q226 g226_26 (t := 135) (by decide) (c3N (a := l) (b := nl p) (by omega) (by omega) (by omega)) ?_
          refine xT_aload_n g_q226 g226_29 (l0) ?_
          refine xT_getfield g_q226 g226_30 hbA rfl hb rfl g2 ?_
          refine xT_iload_n g_q226 g226_33 (l1) ?_
          refine xT_aaload g_q226 g226_34 (by decide +kernel) cd1 (ixN (n := 13) (by omega) cd2) (ixG (by omega) (cd3 _ (by omega))) ?_
          refine xT_astore g_q226 g226_35 (by decide) ?_
          refine xT_aload g_q226 g226_37 (lkY) ?_
          refine xT_icV (y := nI (4)) g_q226 g226_39 (by decide) ?_
          refine xT_iload_n g_q226 g226_40 (lkN (by decide) (l3)) ?_
          refine xT_imulV (y := nI (4 * l)) g_q226 g226_41 (bMulN _ _) ?_
          refine xT_icV (y := nI (1)) g_q226 g226_42 (by decide) ?_
          refine xT_iaddV (y := nI (4 * l + 1)) g_q226 g226_43 (bAddN _ _) ?_
          refine xT_iaload g_q226 g226_44 (by omega) dw1 (ixN (n := 48) (by omega) dw2) (ixG (by omega) k1) ?_
          refine xT_istore g_q226 g226_45 (by decide) ?_
          refine xT_aload g_q226 g226_47 (lkN (by decide) (lkY)) ?_
          refine xT_icV (y := nI (4)) g_q226 g226_49 (by decide) ?_
          refine xT_iload_n g_q226 g226_50 (lkN (by decide) (lkN (by decide) (l3))) ?_
          refine xT_imulV (y := nI (4 * l)) g_q226 g226_51 (bMulN _ _) ?_
          refine xT_icV (y := nI (2)) g_q226 g226_52 (by decide) ?_
          refine xT_iaddV (y := nI (4 * l + 2)) g_q226 g226_53 (bAddN _ _) ?_
          refine xT_iaload g_q226 g226_54 (by omega) dw1 (ixN (n := 48) (by omega) dw2) (ixG (by omega) k2) ?_
          refine xT_istore g_q226 g226_55 (by decide) ?_
          refine xT_aload g_q226 g226_57 (lkN (by decide) (lkN (by decide) (lkY))) ?_
          refine xT_icV (y := nI (4)) g_q226 g226_59 (by decide) ?_
          refine xT_iload_n g_q226 g226_60 (lkN (by decide) (lkN (by decide) (lkN (by decide) (l3)))) ?_
          refine xT_imulV (y := nI (4 * l)) g_q226 g226_61 (bMulN _ _) ?_
          refine xT_iaload g_q226 g226_62 (by omega) dw1 (ixN (n := 48) (by omega) dw2) (ixG (by omega) k0) ?_
          refine xT_biV (y := nI (7)) g_q226 g226_63 (by decide) ?_
          refine xT_if_icmpY g_q226 g226_65 (t := 79) (by decide) (c0Y (a := opR (op p l)) (b := 7) (by rw [hz]; rfl)) ?_
          refine xT_icV (y := nI (1)) g_q226 g226_79 (by decide) ?_
          refine xT_goto g_q226 g226_80 (t := 84) (by decide) ?_
          refine xT_istore g_q226 g226_84 (by decide) ?_
          refine xT_iload g_q226 g226_86 (lkY) ?_
          refine xT_ifCondN g_q226 g226_88 (t := 129) (by decide) (c0N (a := 1) (b := 0) (by omega) (by omega) (by omega)) ?_
          refine xT_iload g_q226 g226_91 (lkN (by decide) (lkN (by decide) (lkY))) ?_
          refine xT_iload_n g_q226 g226_93 (lkN (by decide) (lkN (by decide) (lkN (by decide) (lkN (by decide) (l2))))) ?_
          refine xT_if_icmpY g_q226 g226_94 (t := 109) (by decide) (c1Y (a := lf p l) (b := f) e1 (by omega) (by omega)) ?_
          refine xT_iload g_q226 g226_109 (lkN (by decide) (lkY)) ?_
          refine xT_iload_n g_q226 g226_111 (lkN (by decide) (lkN (by decide) (lkN (by decide) (lkN (by decide) (l2))))) ?_
          refine xT_if_icmpY g_q226 g226_112 (t := 129) (by decide) (c1Y (a := rt p l) (b := f) e2 (by omega) (by omega)) ?_
          refine xT_iincV (y := nI (l + 1)) g_q226 g226_129 (lkN (by decide) (lkN (by decide) (lkN (by decide) (lkN (by decide) (l3))))) (by decide) (bIncN _) ?_
          refine xT_goto g_q226 g226_132 (t := 19) (by decide) ?_
          exact ih (l + 1) _ (by omega) (lkN (by decide) (lkN (by decide) (lkN (by decide) (lkN (by decide) (lkN (by decide) (l0)))))) (lkN (by decide) (lkN (by decide) (lkN (by decide) (lkN (by decide) (lkN (by decide) (l1)))))) (lkN (by decide) (lkN (by decide) (lkN (by decide) (lkN (by decide) (lkN (by decide) (l2)))))) (lkY)
        · by_cases b2 : bitP (S p) (lf p l) = 1
          · rw [show qN (op p) (lf p) (rt p) (S p) f (d + 1) l = 1 from if_pos ⟨hq7, Or.inr ⟨e2, b2⟩⟩]
            refine xT_iload_n g_q226 g226_19 (l3) ?_
            refine xT_aload_n g_q226 g226_20 (l0) ?_
            refine xT_getfield g_q226 g226_21 hbA rfl hb rfl g1 ?_
            refine xT_iload_n g_q226 g226_24 (l1) ?_
            refine xT_iaload g_q226 g226_25 (by omega) ln1 (ixN (n := 13) (by omega) ln2) (ixG (by omega) (ln3 _ (by omega))) ?_
            refine xT_if_icmpN g_q226 g226_26 (t := 135) (by decide) (c3N (a := l) (b := nl p) (by omega) (by omega) (by omega)) ?_
            refine xT_aload_n g_q226 g226_29 (l0) ?_
            refine xT_getfield g_q226 g226_30 hbA rfl hb rfl g2 ?_
            refine xT_iload_n g_q226 g226_33 (l1) ?_
            refine xT_aaload g_q226 g226_34 (by decide +kernel) cd1 (ixN (n := 13) (by omega) cd2) (ixG (by omega) (cd3 _ (by omega))) ?_
            refine xT_astore g_q226 g226_35 (by decide) ?_
            refine xT_aload g_q226 g226_37 (lkY) ?_
            refine xT_icV (y := nI (4)) g_q226 g226_39 (by decide) ?_
            refine xT_iload_n g_q226 g226_40 (lkN (by decide) (l3)) ?_
            refine xT_imulV (y := nI (4 * l)) g_q226 g226_41 (bMulN _ _) ?_
            refine xT_icV (y := nI (1)) g_q226 g226_42 (by decide) ?_
            refine xT_iaddV (y := nI (4 * l + 1)) g_q226 g226_43 (bAddN _ _) ?_
            refine xT_iaload g_q226 g226_44 (by omega) dw1 (ixN (n := 48) (by omega) dw2) (ixG (by omega) k1) ?_
            refine xT_istore g_q226 g226_45 (by decide) ?_
            refine xT_aload g_q226 g226_47 (lkN (by decide) (lkY)) ?_
            refine xT_icV (y := nI (4)) g_q226 g226_49 (by decide) ?_
            refine xT_iload_n g_q226 g226_50 (lkN (by decide) (lkN (by decide) (l3))) ?_
            refine xT_imulV (y := nI (4 * l)) g_q226 g226_51 (bMulN _ _) ?_
            refine xT_icV (y := nI (2)) g_q226 g226_52 (by decide) ?_
            refine xT_iaddV (y := nI (4 * l + 2)) g_q226 g226_53 (bAddN _ _) ?_
            refine xT_iaload g_q226 g226_54 (by omega) dw1 (ixN (n := 48) (by omega) dw2) (ixG (by omega) k2) ?_
            refine xT_istore g_q226 g226_55 (by decide) ?_
            refine xT_aload g_q226 g226_57 (lkN (by decide) (lkN (by decide) (lkY))) ?_
            refine xT_icV (y := nI (4)) g_q226 g226_59 (by decide) ?_
            refine xT_iload_n g_q226 g226_60 (lkN (by decide) (lkN (by decide) (lkN (by decide) (l3)))) ?_
            refine xT_imulV (y := nI (4 * l)) g_q226 g226_61 (bMulN _ _) ?_
            refine xT_iaload g_q226 g226_62 (by omega) dw1 (ixN (n := 48) (by omega) dw2) (ixG (by omega) k0) ?_
            refine xT_biV (y := nI (7)) g_q226 g226_63 (by decide) ?_
            refine xT_if_icmpY g_q226 g226_65 (t := 79) (by decide) (c0Y (a := opR (op p l)) (b := 7) (by rw [hz]; rfl)) ?_
            refine xT_icV (y := nI (1)) g_q226 g226_79 (by decide) ?_
            refine xT_goto g_q226 g226_80 (t := 84) (by decide) ?_
            refine xT_istore g_q226 g226_84 (by decide) ?_
            refine xT_iload g_q226 g226_86 (lkY) ?_
            refine xT_ifCondN g_q226 g226_88 (t := 129) (by decide) (c0N (a := 1) (b := 0) (by omega) (by omega) (by omega)) ?_
            refine xT_iload g_q226 g226_91 (lkN (by decide) (lkN (by decide) (lkY))) ?_
            refine xT_iload_n g_q226 g226_93 (lkN (by decide) (lkN (by decide) (lkN (by decide) (lkN (by decide) (l2))))) ?_
            refine xT_if_icmpY g_q226 g226_94 (t := 109) (by decide) (c1Y (a := lf p l) (b := f) e1 (by omega) (by omega)) ?_
            refine xT_iload g_q226 g226_109 (lkN (by decide) (lkY)) ?_
            refine xT_iload_n g_q226 g226_111 (lkN (by decide) (lkN (by decide) (lkN (by decide) (lkN (by decide) (l2))))) ?_
            refine xT_if_icmpN g_q226 g226_112 (t := 129) (by decide) (c1N (a := rt p l) (b := f) e2) ?_
            refine xT_aload_n g_q226 g226_115 (lkN (by decide) (lkN (by decide) (lkN (by decide) (lkN (by decide) (l0))))) ?_
            refine xT_getfield g_q226 g226_116 hbA rfl hb rfl g63 ?_
            refine xT_iload_n g_q226 g226_119 (lkN (by decide) (lkN (by decide) (lkN (by decide) (lkN (by decide) (l1))))) ?_
            refine xT_aaload g_q226 g226_120 (by decide +kernel) su1 (ixN (n := 12) (by omega) su2) (ixG (by omega) (su3 _ (by omega))) ?_
            refine xT_iload g_q226 g226_121 (lkN (by decide) (lkN (by decide) (lkY))) ?_
            refine xT_baload g_q226 g226_123 u1 u2 (ixN (n := 6) (by omega) u3) (ixG (by omega) (u4 _ (by omega) trivial)) ?_
            refine xT_ifCondN g_q226 g226_124 (t := 129) (by decide) (c0N (a := bitP (S p) (lf p l)) (b := 0) (by omega) (by omega) (by omega)) ?_
            refine xT_icV (y := nI (2)) g_q226 g226_127 (by decide) ?_
            exact xT_ireturn g_q226 g226_128 (rfl)
          · rw [show qN (op p) (lf p) (rt p) (S p) f (d + 1) l = qN (op p) (lf p) (rt p) (S p) f d (l + 1) from if_neg (fun z => z.2.elim hA (fun y => b2 y.2))]
            have b2 := hbl.resolve_right b2
            refine xT_iload_n g_q226 g226_19 (l3) ?_
            refine xT_aload_n g_q226 g226_20 (l0) ?_
            refine xT_getfield g_q226 g226_21 hbA rfl hb rfl g1 ?_
            refine xT_iload_n g_q226 g226_24 (l1) ?_
            refine xT_iaload g_q226 g226_25 (by omega) ln1 (ixN (n := 13) (by omega) ln2) (ixG (by omega) (ln3 _ (by omega))) ?_
            refine xT_if_icmpN g_q226 g226_26 (t := 135) (by decide) (c3N (a := l) (b := nl p) (by omega) (by omega) (by omega)) ?_
            refine xT_aload_n g_q226 g226_29 (l0) ?_
            refine xT_getfield g_q226 g226_30 hbA rfl hb rfl g2 ?_
            refine xT_iload_n g_q226 g226_33 (l1) ?_
            refine xT_aaload g_q226 g226_34 (by decide +kernel) cd1 (ixN (n := 13) (by omega) cd2) (ixG (by omega) (cd3 _ (by omega))) ?_
            refine xT_astore g_q226 g226_35 (by decide) ?_
            refine xT_aload g_q226 g226_37 (lkY) ?_
            refine xT_icV (y := nI (4)) g_q226 g226_39 (by decide) ?_
            refine xT_iload_n g_q226 g226_40 (lkN (by decide) (l3)) ?_
            refine xT_imulV (y := nI (4 * l)) g_q226 g226_41 (bMulN _ _) ?_
            refine xT_icV (y := nI (1)) g_q226 g226_42 (by decide) ?_
            refine xT_iaddV (y := nI (4 * l + 1)) g_q226 g226_43 (bAddN _ _) ?_
            refine xT_iaload g_q226 g226_44 (by omega) dw1 (ixN (n := 48) (by omega) dw2) (ixG (by omega) k1) ?_
            refine xT_istore g_q226 g226_45 (by decide) ?_
            refine xT_aload g_q226 g226_47 (lkN (by decide) (lkY)) ?_
            refine xT_icV (y := nI (4)) g_q226 g226_49 (by decide) ?_
            refine xT_iload_n g_q226 g226_50 (lkN (by decide) (lkN (by decide) (l3))) ?_
            refine xT_imulV (y := nI (4 * l)) g_q226 g226_51 (bMulN _ _) ?_
            refine xT_icV (y := nI (2)) g_q226 g226_52 (by decide) ?_
            refine xT_iaddV (y := nI (4 * l + 2)) g_q226 g226_53 (bAddN _ _) ?_
            refine xT_iaload g_q226 g226_54 (by omega) dw1 (ixN (n := 48) (by omega) dw2) (ixG (by omega) k2) ?_
            refine xT_istore g_q226 g226_55 (by decide) ?_
            refine xT_aload g_q226 g226_57 (lkN (by decide) (lkN (by decide) (lkY))) ?_
            refine xT_icV (y := nI (4)) g_q226 g226_59 (by decide) ?_
            refine xT_iload_n g_q226 g226_60 (lkN (by decide) (lkN (by decide) (lkN (by decide) (l3)))) ?_
            refine xT_imulV (y := nI (4 * l)) g_q226 g226_61 (bMulN _ _) ?_
            refine xT_iaload g_q226 g226_62 (by omega) dw1 (ixN (n := 48) (by omega) dw2) (ixG (by omega) k0) ?_
            refine xT_biV (y := nI (7)) g_q226 g226_63 (by decide) ?_
            refine xT_if_icmpY g_q226 g226_65 (t := 79) (by decide) (c0Y (a := opR (op p l)) (b := 7) (by rw [hz]; rfl)) ?_
            refine xT_icV (y := nI (1)) g_q226 g226_79 (by decide) ?_
            refine xT_goto g_q226 g226_80 (t := 84) (by decide) ?_
            refine xT_istore g_q226 g226_84 (by decide) ?_
            refine xT_iload g_q226 g226_86 (lkY) ?_
            refine xT_ifCondN g_q226 g226_88 (t := 129) (by decide) (c0N (a := 1) (b := 0) (by omega) (by omega) (by omega)) ?_
            refine xT_iload g_q226 g226_91 (lkN (by decide) (lkN (by decide) (lkY))) ?_
            refine xT_iload_n g_q226 g226_93 (lkN (by decide) (lkN (by decide) (lkN (by decide) (lkN (by decide) (l2))))) ?_
            refine xT_if_icmpY g_q226 g226_94 (t := 109) (by decide) (c1Y (a := lf p l) (b := f) e1 (by omega) (by omega)) ?_
            refine xT_iload g_q226 g226_109 (lkN (by decide) (lkY)) ?_
            refine xT_iload_n g_q226 g226_111 (lkN (by decide) (lkN (by decide) (lkN (by decide) (lkN (by decide) (l2))))) ?_
            refine xT_if_icmpN g_q226 g226_112 (t := 129) (by decide) (c1N (a := rt p l) (b := f) e2) ?_
            refine xT_aload_n g_q226 g226_115 (lkN (by decide) (lkN (by decide) (lkN (by decide) (lkN (by decide) (l0))))) ?_
            refine xT_getfield g_q226 g226_116 hbA rfl hb rfl g63 ?_
            refine xT_iload_n g_q226 g226_119 (lkN (by decide) (lkN (by decide) (lkN (by decide) (lkN (by decide) (l1))))) ?_
            refine xT_aaload g_q226 g226_120 (by decide +kernel) su1 (ixN (n := 12) (by omega) su2) (ixG (by omega) (su3 _ (by omega))) ?_
            refine xT_iload g_q226 g226_121 (lkN (by decide) (lkN (by decide) (lkY))) ?_
            refine xT_baload g_q226 g226_123 u1 u2 (ixN (n := 6) (by omega) u3) (ixG (by omega) (u4 _ (by omega) trivial)) ?_
            refine xT_ifCondY g_q226 g226_124 (t := 129) (by decide) (c0Y (a := bitP (S p) (lf p l)) (b := 0) b2) ?_
            refine xT_iincV (y := nI (l + 1)) g_q226 g226_129 (lkN (by decide) (lkN (by decide) (lkN (by decide) (lkN (by decide) (l3))))) (by decide) (bIncN _) ?_
            refine xT_goto g_q226 g226_132 (t := 19) (by decide) ?_
            exact ih (l + 1) _ (by omega) (lkN (by decide) (lkN (by decide) (lkN (by decide) (lkN (by decide) (lkN (by decide) (l0)))))) (lkN (by decide) (lkN (by decide) (lkN (by decide) (lkN (by decide) (lkN (by decide) (l1)))))) (lkN (by decide) (lkN (by decide) (lkN (by decide) (lkN (by decide) (lkN (by decide) (l2)))))) (lkY)
      · have b1 : bitP (S p) (rt p l) = 0 := hbr.resolve_right (fun z => hA ⟨e1, z⟩)
        by_cases e2 : rt p l = f
        rotate_left
        · rw [show qN (op p) (lf p) (rt p) (S p) f (d + 1) l = qN (op p) (lf p) (rt p) (S p) f d (l + 1) from if_neg (fun z => z.2.elim hA (fun y => e2 y.1))]
          refine xT_iload_n g_q226 g226_19 (l3) ?_
          refine xT_aload_n g_q226 g226_20 (l0) ?_
          refine xT_getfield g_q226 g226_21 hbA rfl hb rfl g1 ?_
          refine xT_iload_n g_q226 g226_24 (l1) ?_
          refine xT_iaload g_q226 g226_25 (by omega) ln1 (ixN (n := 13) (by omega) ln2) (ixG (by omega) (ln3 _ (by omega))) ?_
          refine xT_if_icmpN g_q226 g226_26 (t := 135) (by decide) (c3N (a := l) (b := nl p) (by omega) (by omega) (by omega)) ?_
          refine xT_aload_n g_q226 g226_29 (l0) ?_
          refine xT_getfield g_q226 g226_30 hbA rfl hb rfl g2 ?_
          refine xT_iload_n g_q226 g226_33 (l1) ?_
          refine xT_aaload g_q226 g226_34 (by decide +kernel) cd1 (ixN (n := 13) (by omega) cd2) (ixG (by omega) (cd3 _ (by omega))) ?_
          refine xT_astore g_q226 g226_35 (by decide) ?_
          refine xT_aload g_q226 g226_37 (lkY) ?_
          refine xT_icV (y := nI (4)) g_q226 g226_39 (by decide) ?_
          refine xT_iload_n g_q226 g226_40 (lkN (by decide) (l3)) ?_
          refine xT_imulV (y := nI (4 * l)) g_q226 g226_41 (bMulN _ _) ?_
          refine xT_icV (y := nI (1)) g_q226 g226_42 (by decide) ?_
          refine xT_iaddV (y := nI (4 * l + 1)) g_q226 g226_43 (bAddN _ _) ?_
          refine xT_iaload g_q226 g226_44 (by omega) dw1 (ixN (n := 48) (by omega) dw2) (ixG (by omega) k1) ?_
          refine xT_istore g_q226 g226_45 (by decide) ?_
          refine xT_aload g_q226 g226_47 (lkN (by decide) (lkY)) ?_
          refine xT_icV (y := nI (4)) g_q226 g226_49 (by decide) ?_
          refine xT_iload_n g_q226 g226_50 (lkN (by decide) (lkN (by decide) (l3))) ?_
          refine xT_imulV (y := nI (4 * l)) g_q226 g226_51 (bMulN _ _) ?_
          refine xT_icV (y := nI (2)) g_q226 g226_52 (by decide) ?_
          refine xT_iaddV (y := nI (4 * l + 2)) g_q226 g226_53 (bAddN _ _) ?_
          refine xT_iaload g_q226 g226_54 (by omega) dw1 (ixN (n := 48) (by omega) dw2) (ixG (by omega) k2) ?_
          refine xT_istore g_q226 g226_55 (by decide) ?_
          refine xT_aload g_q226 g226_57 (lkN (by decide) (lkN (by decide) (lkY))) ?_
          refine xT_icV (y := nI (4)) g_q226 g226_59 (by decide) ?_
          refine xT_iload_n g_q226 g226_60 (lkN (by decide) (lkN (by decide) (lkN (by decide) (l3)))) ?_
          refine xT_imulV (y := nI (4 * l)) g_q226 g226_61 (bMulN _ _) ?_
          refine xT_iaload g_q226 g226_62 (by omega) dw1 (ixN (n := 48) (by omega) dw2) (ixG (by omega) k0) ?_
          refine xT_biV (y := nI (7)) g_q226 g226_63 (by decide) ?_
          refine xT_if_icmpY g_q226 g226_65 (t := 79) (by decide) (c0Y (a := opR (op p l)) (b := 7) (by rw [hz]; rfl)) ?_
          refine xT_icV (y := nI (1)) g_q226 g226_79 (by decide) ?_
          refine xT_goto g_q226 g226_80 (t := 84) (by decide) ?_
          refine xT_istore g_q226 g226_84 (by decide) ?_
          refine xT_iload g_q226 g226_86 (lkY) ?_
          refine xT_ifCondN g_q226 g226_88 (t := 129) (by decide) (c0N (a := 1) (b := 0) (by omega) (by omega) (by omega)) ?_
          refine xT_iload g_q226 g226_91 (lkN (by decide) (lkN (by decide) (lkY))) ?_
          refine xT_iload_n g_q226 g226_93 (lkN (by decide) (lkN (by decide) (lkN (by decide) (lkN (by decide) (l2))))) ?_
          refine xT_if_icmpN g_q226 g226_94 (t := 109) (by decide) (c1N (a := lf p l) (b := f) e1) ?_
          refine xT_aload_n g_q226 g226_97 (lkN (by decide) (lkN (by decide) (lkN (by decide) (lkN (by decide) (l0))))) ?_
          refine xT_getfield g_q226 g226_98 hbA rfl hb rfl g63 ?_
          refine xT_iload_n g_q226 g226_101 (lkN (by decide) (lkN (by decide) (lkN (by decide) (lkN (by decide) (l1))))) ?_
          refine xT_aaload g_q226 g226_102 (by decide +kernel) su1 (ixN (n := 12) (by omega) su2) (ixG (by omega) (su3 _ (by omega))) ?_
          refine xT_iload g_q226 g226_103 (lkN (by decide) (lkY)) ?_
          refine xT_baload g_q226 g226_105 u1 u2 (ixN (n := 6) (by omega) u3) (ixG (by omega) (u4 _ (by omega) trivial)) ?_
          refine xT_ifCondN g_q226 g226_106 (t := 127) (by decide) (c1N (a := bitP (S p) (rt p l)) (b := 0) b1) ?_
          refine xT_iload g_q226 g226_109 (lkN (by decide) (lkY)) ?_
          refine xT_iload_n g_q226 g226_111 (lkN (by decide) (lkN (by decide) (lkN (by decide) (lkN (by decide) (l2))))) ?_
          refine xT_if_icmpY g_q226 g226_112 (t := 129) (by decide) (c1Y (a := rt p l) (b := f) e2 (by omega) (by omega)) ?_
          refine xT_iincV (y := nI (l + 1)) g_q226 g226_129 (lkN (by decide) (lkN (by decide) (lkN (by decide) (lkN (by decide) (l3))))) (by decide) (bIncN _) ?_
          refine xT_goto g_q226 g226_132 (t := 19) (by decide) ?_
          exact ih (l + 1) _ (by omega) (lkN (by decide) (lkN (by decide) (lkN (by decide) (lkN (by decide) (lkN (by decide) (l0)))))) (lkN (by decide) (lkN (by decide) (lkN (by decide) (lkN (by decide) (lkN (by decide) (l1)))))) (lkN (by decide) (lkN (by decide) (lkN (by decide) (lkN (by decide) (lkN (by decide) (l2)))))) (lkY)
        · by_cases b2 : bitP (S p) (lf p l) = 1
          · rw [show qN (op p) (lf p) (rt p) (S p) f (d + 1) l = 1 from if_pos ⟨hq7, Or.inr ⟨e2, b2⟩⟩]
            refine xT_iload_n g_q226 g226_19 (l3) ?_
            refine xT_aload_n g_q226 g226_20 (l0) ?_
            refine xT_getfield g_q226 g226_21 hbA rfl hb rfl g1 ?_
            refine xT_iload_n g_q226 g226_24 (l1) ?_
            refine xT_iaload g_q226 g226_25 (by omega) ln1 (ixN (n := 13) (by omega) ln2) (ixG (by omega) (ln3 _ (by omega))) ?_
            refine xT_if_icmpN g_q226 g226_26 (t := 135) (by decide) (c3N (a := l) (b := nl p) (by omega) (by omega) (by omega)) ?_
            refine xT_aload_n g_q226 g226_29 (l0) ?_
            refine xT_getfield g_q226 g226_30 hbA rfl hb rfl g2 ?_
            refine xT_iload_n g_q226 g226_33 (l1) ?_
            refine xT_aaload g_q226 g226_34 (by decide +kernel) cd1 (ixN (n := 13) (by omega) cd2) (ixG (by omega) (cd3 _ (by omega))) ?_
            refine xT_astore g_q226 g226_35 (by decide) ?_
            refine xT_aload g_q226 g226_37 (lkY) ?_
            refine xT_icV (y := nI (4)) g_q226 g226_39 (by decide) ?_
            refine xT_iload_n g_q226 g226_40 (lkN (by decide) (l3)) ?_
            refine xT_imulV (y := nI (4 * l)) g_q226 g226_41 (bMulN _ _) ?_
            refine xT_icV (y := nI (1)) g_q226 g226_42 (by decide) ?_
            refine xT_iaddV (y := nI (4 * l + 1)) g_q226 g226_43 (bAddN _ _) ?_
            refine xT_iaload g_q226 g226_44 (by omega) dw1 (ixN (n := 48) (by omega) dw2) (ixG (by omega) k1) ?_
            refine xT_istore g_q226 g226_45 (by decide) ?_
            refine xT_aload g_q226 g226_47 (lkN (by decide) (lkY)) ?_
            refine xT_icV (y := nI (4)) g_q226 g226_49 (by decide) ?_
            refine xT_iload_n g_q226 g226_50 (lkN (by decide) (lkN (by decide) (l3))) ?_
            refine xT_imulV (y := nI (4 * l)) g_q226 g226_51 (bMulN _ _) ?_
            refine xT_icV (y := nI (2)) g_q226 g226_52 (by decide) ?_
            refine xT_iaddV (y := nI (4 * l + 2)) g_q226 g226_53 (bAddN _ _) ?_
            refine xT_iaload g_q226 g226_54 (by omega) dw1 (ixN (n := 48) (by omega) dw2) (ixG (by omega) k2) ?_
            refine xT_istore g_q226 g226_55 (by decide) ?_
            refine xT_aload g_q226 g226_57 (lkN (by decide) (lkN (by decide) (lkY))) ?_
            refine xT_icV (y := nI (4)) g_q226 g226_59 (by decide) ?_
            refine xT_iload_n g_q226 g226_60 (lkN (by decide) (lkN (by decide) (lkN (by decide) (l3)))) ?_
            refine xT_imulV (y := nI (4 * l)) g_q226 g226_61 (bMulN _ _) ?_
            refine xT_iaload g_q226 g226_62 (by omega) dw1 (ixN (n := 48) (by omega) dw2) (ixG (by omega) k0) ?_
            refine xT_biV (y := nI (7)) g_q226 g226_63 (by decide) ?_
            refine xT_if_icmpY g_q226 g226_65 (t := 79) (by decide) (c0Y (a := opR (op p l)) (b := 7) (by rw [hz]; rfl)) ?_
            refine xT_icV (y := nI (1)) g_q226 g226_79 (by decide) ?_
            refine xT_goto g_q226 g226_80 (t := 84) (by decide) ?_
            refine xT_istore g_q226 g226_84 (by decide) ?_
            refine xT_iload g_q226 g226_86 (lkY) ?_
            refine xT_ifCondN g_q226 g226_88 (t := 129) (by decide) (c0N (a := 1) (b := 0) (by omega) (by omega) (by omega)) ?_
            refine xT_iload g_q226 g226_91 (lkN (by decide) (lkN (by decide) (lkY))) ?_
            refine xT_iload_n g_q226 g226_93 (lkN (by decide) (lkN (by decide) (lkN (by decide) (lkN (by decide) (l2))))) ?_
            refine xT_if_icmpN g_q226 g226_94 (t := 109) (by decide) (c1N (a := lf p l) (b := f) e1) ?_
            refine xT_aload_n g_q226 g226_97 (lkN (by decide) (lkN (by decide) (lkN (by decide) (lkN (by decide) (l0))))) ?_
            refine xT_getfield g_q226 g226_98 hbA rfl hb rfl g63 ?_
            refine xT_iload_n g_q226 g226_101 (lkN (by decide) (lkN (by decide) (lkN (by decide) (lkN (by decide) (l1))))) ?_
            refine xT_aaload g_q226 g226_102 (by decide +kernel) su1 (ixN (n := 12) (by omega) su2) (ixG (by omega) (su3 _ (by omega))) ?_
            refine xT_iload g_q226 g226_103 (lkN (by decide) (lkY)) ?_
            refine xT_baload g_q226 g226_105 u1 u2 (ixN (n := 6) (by omega) u3) (ixG (by omega) (u4 _ (by omega) trivial)) ?_
            refine xT_ifCondN g_q226 g226_106 (t := 127) (by decide) (c1N (a := bitP (S p) (rt p l)) (b := 0) b1) ?_
            refine xT_iload g_q226 g226_109 (lkN (by decide) (lkY)) ?_
            refine xT_iload_n g_q226 g226_111 (lkN (by decide) (lkN (by decide) (lkN (by decide) (lkN (by decide) (l2))))) ?_
            refine xT_if_icmpN g_q226 g226_112 (t := 129) (by decide) (c1N (a := rt p l) (b := f) e2) ?_
            refine xT_aload_n g_q226 g226_115 (lkN (by decide) (lkN (by decide) (lkN (by decide) (lkN (by decide) (l0))))) ?_
            refine xT_getfield g_q226 g226_116 hbA rfl hb rfl g63 ?_
            refine xT_iload_n g_q226 g226_119 (lkN (by decide) (lkN (by decide) (lkN (by decide) (lkN (by decide) (l1))))) ?_
            refine xT_aaload g_q226 g226_120 (by decide +kernel) su1 (ixN (n := 12) (by omega) su2) (ixG (by omega) (su3 _ (by omega))) ?_
            refine xT_iload g_q226 g226_121 (lkN (by decide) (lkN (by decide) (lkY))) ?_
            refine xT_baload g_q226 g226_123 u1 u2 (ixN (n := 6) (by omega) u3) (ixG (by omega) (u4 _ (by omega) trivial)) ?_
            refine xT_ifCondN g_q226 g226_124 (t := 129) (by decide) (c0N (a := bitP (S p) (lf p l)) (b := 0) (by omega) (by omega) (by omega)) ?_
            refine xT_icV (y := nI (2)) g_q226 g226_127 (by decide) ?_
            exact xT_ireturn g_q226 g226_128 (rfl)
          · rw [show qN (op p) (lf p) (rt p) (S p) f (d + 1) l = qN (op p) (lf p) (rt p) (S p) f d (l + 1) from if_neg (fun z => z.2.elim hA (fun y => b2 y.2))]
            have b2 := hbl.resolve_right b2
            refine xT_iload_n g_q226 g226_19 (l3) ?_
            refine xT_aload_n g_q226 g226_20 (l0) ?_
            refine xT_getfield g_q226 g226_21 hbA rfl hb rfl g1 ?_
            refine xT_iload_n g_q226 g226_24 (l1) ?_
            refine xT_iaload g_q226 g226_25 (by omega) ln1 (ixN (n := 13) (by omega) ln2) (ixG (by omega) (ln3 _ (by omega))) ?_
            refine xT_if_icmpN g_q226 g226_26 (t := 135) (by decide) (c3N (a := l) (b := nl p) (by omega) (by omega) (by omega)) ?_
            refine xT_aload_n g_q226 g226_29 (l0) ?_
            refine xT_getfield g_q226 g226_30 hbA rfl hb rfl g2 ?_
            refine xT_iload_n g_q226 g226_33 (l1) ?_
            refine xT_aaload g_q226 g226_34 (by decide +kernel) cd1 (ixN (n := 13) (by omega) cd2) (ixG (by omega) (cd3 _ (by omega))) ?_
            refine xT_astore g_q226 g226_35 (by decide) ?_
            refine xT_aload g_q226 g226_37 (lkY) ?_
            refine xT_icV (y := nI (4)) g_q226 g226_39 (by decide) ?_
            refine xT_iload_n g_q226 g226_40 (lkN (by decide) (l3)) ?_
            refine xT_imulV (y := nI (4 * l)) g_q226 g226_41 (bMulN _ _) ?_
            refine xT_icV (y := nI (1)) g_q226 g226_42 (by decide) ?_
            refine xT_iaddV (y := nI (4 * l + 1)) g_q226 g226_43 (bAddN _ _) ?_
            refine xT_iaload g_q226 g226_44 (by omega) dw1 (ixN (n := 48) (by omega) dw2) (ixG (by omega) k1) ?_
            refine xT_istore g_q226 g226_45 (by decide) ?_
            refine xT_aload g_q226 g226_47 (lkN (by decide) (lkY)) ?_
            refine xT_icV (y := nI (4)) g_q226 g226_49 (by decide) ?_
            refine xT_iload_n g_q226 g226_50 (lkN (by decide) (lkN (by decide) (l3))) ?_
            refine xT_imulV (y := nI (4 * l)) g_q226 g226_51 (bMulN _ _) ?_
            refine xT_icV (y := nI (2)) g_q226 g226_52 (by decide) ?_
            refine xT_iaddV (y := nI (4 * l + 2)) g_q226 g226_53 (bAddN _ _) ?_
            refine xT_iaload g_q226 g226_54 (by omega) dw1 (ixN (n := 48) (by omega) dw2) (ixG (by omega) k2) ?_
            refine xT_istore g_q226 g226_55 (by decide) ?_
            refine xT_aload g_q226 g226_57 (lkN (by decide) (lkN (by decide) (lkY))) ?_
            refine xT_icV (y := nI (4)) g_q226 g226_59 (by decide) ?_
            refine xT_iload_n g_q226 g226_60 (lkN (by decide) (lkN (by decide) (lkN (by decide) (l3)))) ?_
            refine xT_imulV (y := nI (4 * l)) g_q226 g226_61 (bMulN _ _) ?_
            refine xT_iaload g_q226 g226_62 (by omega) dw1 (ixN (n := 48) (by omega) dw2) (ixG (by omega) k0) ?_
            refine xT_biV (y := nI (7)) g_q226 g226_63 (by decide) ?_
            refine xT_if_icmpY g_q226 g226_65 (t := 79) (by decide) (c0Y (a := opR (op p l)) (b := 7) (by rw [hz]; rfl)) ?_
            refine xT_icV (y := nI (1)) g_q226 g226_79 (by decide) ?_
            refine xT_goto g_q226 g226_80 (t := 84) (by decide) ?_
            refine xT_istore g_q226 g226_84 (by decide) ?_
            refine xT_iload g_q226 g226_86 (lkY) ?_
            refine xT_ifCondN g_q226 g226_88 (t := 129) (by decide) (c0N (a := 1) (b := 0) (by omega) (by omega) (by omega)) ?_
            refine xT_iload g_q226 g226_91 (lkN (by decide) (lkN (by decide) (lkY))) ?_
            refine xT_iload_n g_q226 g226_93 (lkN (by decide) (lkN (by decide) (lkN (by decide) (lkN (by decide) (l2))))) ?_
            refine xT_if_icmpN g_q226 g226_94 (t := 109) (by decide) (c1N (a := lf p l) (b := f) e1) ?_
            refine xT_aload_n g_q226 g226_97 (lkN (by decide) (lkN (by decide) (lkN (by decide) (lkN (by decide) (l0))))) ?_
            refine xT_getfield g_q226 g226_98 hbA rfl hb rfl g63 ?_
            refine xT_iload_n g_q226 g226_101 (lkN (by decide) (lkN (by decide) (lkN (by decide) (lkN (by decide) (l1))))) ?_
            refine xT_aaload g_q226 g226_102 (by decide +kernel) su1 (ixN (n := 12) (by omega) su2) (ixG (by omega) (su3 _ (by omega))) ?_
            refine xT_iload g_q226 g226_103 (lkN (by decide) (lkY)) ?_
            refine xT_baload g_q226 g226_105 u1 u2 (ixN (n := 6) (by omega) u3) (ixG (by omega) (u4 _ (by omega) trivial)) ?_
            refine xT_ifCondN g_q226 g226_106 (t := 127) (by decide) (c1N (a := bitP (S p) (rt p l)) (b := 0) b1) ?_
            refine xT_iload g_q226 g226_109 (lkN (by decide) (lkY)) ?_
            refine xT_iload_n g_q226 g226_111 (lkN (by decide) (lkN (by decide) (lkN (by decide) (lkN (by decide) (l2))))) ?_
            refine xT_if_icmpN g_q226 g226_112 (t := 129) (by decide) (c1N (a := rt p l) (b := f) e2) ?_
            refine xT_aload_n g_q226 g226_115 (lkN (by decide) (lkN (by decide) (lkN (by decide) (lkN (by decide) (l0))))) ?_
            refine xT_getfield g_q226 g226_116 hbA rfl hb rfl g63 ?_
            refine xT_iload_n g_q226 g226_119 (lkN (by decide) (lkN (by decide) (lkN (by decide) (lkN (by decide) (l1))))) ?_
            refine xT_aaload g_q226 g226_120 (by decide +kernel) su1 (ixN (n := 12) (by omega) su2) (ixG (by omega) (su3 _ (by omega))) ?_
            refine xT_iload g_q226 g226_121 (lkN (by decide) (lkN (by decide) (lkY))) ?_
            refine xT_baload g_q226 g226_123 u1 u2 (ixN (n := 6) (by omega) u3) (ixG (by omega) (u4 _ (by omega) trivial)) ?_
            refine xT_ifCondY g_q226 g226_124 (t := 129) (by decide) (c0Y (a := bitP (S p) (lf p l)) (b := 0) b2) ?_
            refine xT_iincV (y := nI (l + 1)) g_q226 g226_129 (lkN (by decide) (lkN (by decide) (lkN (by decide) (lkN (by decide) (l3))))) (by decide) (bIncN _) ?_
            refine xT_goto g_q226 g226_132 (t := 19) (by decide) ?_
            exact ih (l + 1) _ (by omega) (lkN (by decide) (lkN (by decide) (lkN (by decide) (lkN (by decide) (lkN (by decide) (l0)))))) (lkN (by decide) (lkN (by decide) (lkN (by decide) (lkN (by decide) (lkN (by decide) (l1)))))) (lkN (by decide) (lkN (by decide) (lkN (by decide) (lkN (by decide) (lkN (by decide) (l2)))))) (lkY)
    · have hz : op p l = 11 := hz
      have h7 : opR (op p l) ≠ 7 := fun z => by
        have := ra.1.mp z
        omega
      have k1 := k1 (by omega) (by omega)
      have k2 := k2 (by omega)
      have hq7 : op p l = 7 ∨ op p l = 11 := by omega
      by_cases hA : lf p l = f ∧ bitP (S p) (rt p l) = 1
      · obtain ⟨e1, b1⟩ := hA
        rw [show qN (op p) (lf p) (rt p) (S p) f (d + 1) l = 1 from if_pos ⟨hq7, Or.inl ⟨e1, b1⟩⟩]
        refine xT_iload_n g_q226 g226_19 (l3) ?_
        refine xT_aload_n g_q226 g226_20 (l0) ?_
        refine xT_getfield g_q226 g226_21 hbA rfl hb rfl g1 ?_
        refine xT_iload_n g_q226 g226_24 (l1) ?_
        refine xT_iaload g_q226 g226_25 (by omega) ln1 (ixN (n := 13) (by omega) ln2) (ixG (by omega) (ln3 _ (by omega))) ?_
        refine xT_if_icmpN g_q226 g226_26 (t := 135) (by decide) (c3N (a := l) (b := nl p) (by omega) (by omega) (by omega)) ?_
        refine xT_aload_n g_q226 g226_29 (l0) ?_
        refine xT_getfield g_q226 g226_30 hbA rfl hb rfl g2 ?_
        refine xT_iload_n g_q226 g226_33 (l1) ?_
        refine xT_aaload g_q226 g226_34 (by decide +kernel) cd1 (ixN (n := 13) (by omega) cd2) (ixG (by omega) (cd3 _ (by omega))) ?_
        refine xT_astore g_q226 g226_35 (by decide) ?_
        refine xT_aload g_q226 g226_37 (lkY) ?_
        refine xT_icV (y := nI (4)) g_q226 g226_39 (by decide) ?_
        refine xT_iload_n g_q226 g226_40 (lkN (by decide) (l3)) ?_
        refine xT_imulV (y := nI (4 * l)) g_q226 g226_41 (bMulN _ _) ?_
        refine xT_icV (y := nI (1)) g_q226 g226_42 (by decide) ?_
        refine xT_iaddV (y := nI (4 * l + 1)) g_q226 g226_43 (bAddN _ _) ?_
        refine xT_iaload g_q226 g226_44 (by omega) dw1 (ixN (n := 48) (by omega) dw2) (ixG (by omega) k1) ?_
        refine xT_istore g_q226 g226_45 (by decide) ?_
        refine xT_aload g_q226 g226_47 (lkN (by decide) (lkY)) ?_
        refine xT_icV (y := nI (4)) g_q226 g226_49 (by decide) ?_
        refine xT_iload_n g_q226 g226_50 (lkN (by decide) (lkN (by decide) (l3))) ?_
        refine xT_imulV (y := nI (4 * l)) g_q226 g226_51 (bMulN _ _) ?_
        refine xT_icV (y := nI (2)) g_q226 g226_52 (by decide) ?_
        refine xT_iaddV (y := nI (4 * l + 2)) g_q226 g226_53 (bAddN _ _) ?_
        refine xT_iaload g_q226 g226_54 (by omega) dw1 (ixN (n := 48) (by omega) dw2) (ixG (by omega) k2) ?_
        refine xT_istore g_q226 g226_55 (by decide) ?_
        refine xT_aload g_q226 g226_57 (lkN (by decide) (lkN (by decide) (lkY))) ?_
        refine xT_icV (y := nI (4)) g_q226 g226_59 (by decide) ?_
        refine xT_iload_n g_q226 g226_60 (lkN (by decide) (lkN (by decide) (lkN (by decide) (l3)))) ?_
        refine xT_imulV (y := nI (4 * l)) g_q226 g226_61 (bMulN _ _) ?_
        refine xT_iaload g_q226 g226_62 (by omega) dw1 (ixN (n := 48) (by omega) dw2) (ixG (by omega) k0) ?_
        refine xT_biV (y := nI (7)) g_q226 g226_63 (by decide) ?_
        refine xT_if_icmpN g_q226 g226_65 (t := 79) (by decide) (c0N (a := opR (op p l)) (b := 7) h7 (by omega) (by omega)) ?_
        refine xT_aload g_q226 g226_68 (lkN (by decide) (lkN (by decide) (lkY))) ?_
        refine xT_icV (y := nI (4)) g_q226 g226_70 (by decide) ?_
        refine xT_iload_n g_q226 g226_71 (lkN (by decide) (lkN (by decide) (lkN (by decide) (l3)))) ?_
        refine xT_imulV (y := nI (4 * l)) g_q226 g226_72 (bMulN _ _) ?_
        refine xT_iaload g_q226 g226_73 (by omega) dw1 (ixN (n := 48) (by omega) dw2) (ixG (by omega) k0) ?_
        refine xT_biV (y := nI (8)) g_q226 g226_74 (by decide) ?_
        refine xT_if_icmpN g_q226 g226_76 (t := 83) (by decide) (c1N (a := opR (op p l)) (b := 8) (by rw [hz]; rfl)) ?_
        refine xT_icV (y := nI (1)) g_q226 g226_79 (by decide) ?_
        refine xT_goto g_q226 g226_80 (t := 84) (by decide) ?_
        refine xT_istore g_q226 g226_84 (by decide) ?_
        refine xT_iload g_q226 g226_86 (lkY) ?_
        refine xT_ifCondN g_q226 g226_88 (t := 129) (by decide) (c0N (a := 1) (b := 0) (by omega) (by omega) (by omega)) ?_
        refine xT_iload g_q226 g226_91 (lkN (by decide) (lkN (by decide) (lkY))) ?_
        refine xT_iload_n g_q226 g226_93 (lkN (by decide) (lkN (by decide) (lkN (by decide) (lkN (by decide) (l2))))) ?_
        refine xT_if_icmpN g_q226 g226_94 (t := 109) (by decide) (c1N (a := lf p l) (b := f) e1) ?_
        refine xT_aload_n g_q226 g226_97 (lkN (by decide) (lkN (by decide) (lkN (by decide) (lkN (by decide) (l0))))) ?_
        refine xT_getfield g_q226 g226_98 hbA rfl hb rfl g63 ?_
        refine xT_iload_n g_q226 g226_101 (lkN (by decide) (lkN (by decide) (lkN (by decide) (lkN (by decide) (l1))))) ?_
        refine xT_aaload g_q226 g226_102 (by decide +kernel) su1 (ixN (n := 12) (by omega) su2) (ixG (by omega) (su3 _ (by omega))) ?_
        refine xT_iload g_q226 g226_103 (lkN (by decide) (lkY)) ?_
        refine xT_baload g_q226 g226_105 u1 u2 (ixN (n := 6) (by omega) u3) (ixG (by omega) (u4 _ (by omega) trivial)) ?_
        refine xT_ifCondY g_q226 g226_106 (t := 127) (by decide) (c1Y (a := bitP (S p) (rt p l)) (b := 0) (by omega) (by omega) (by omega)) ?_
        refine xT_icV (y := nI (2)) g_q226 g226_127 (by decide) ?_
        exact xT_ireturn g_q226 g226_128 (rfl)
      by_cases e1 : lf p l = f
      rotate_left
      · skip
        by_cases e2 : rt p l = f
        rotate_left
        · rw [show qN (op p) (lf p) (rt p) (S p) f (d + 1) l = qN (op p) (lf p) (rt p) (S p) f d (l + 1) from if_neg (fun z => z.2.elim hA (fun y => e2 y.1))]
          refine xT_iload_n g_q226 g226_19 (l3) ?_
          refine xT_aload_n g_q226 g226_20 (l0) ?_
          refine xT_getfield g_q226 g226_21 hbA rfl hb rfl g1 ?_
          refine xT_iload_n g_q226 g226_24 (l1) ?_
          refine xT_iaload g_q226 g226_25 (by omega) ln1 (ixN (n := 13) (by omega) ln2) (ixG (by omega) (ln3 _ (by omega))) ?_
          refine xT_if_icmpN g_q226 g226_26 (t := 135) (by decide) (c3N (a := l) (b := nl p) (by omega) (by omega) (by omega)) ?_
          refine xT_aload_n g_q226 g226_29 (l0) ?_
          refine xT_getfield g_q226 g226_30 hbA rfl hb rfl g2 ?_
          refine xT_iload_n g_q226 g226_33 (l1) ?_
          refine xT_aaload g_q226 g226_34 (by decide +kernel) cd1 (ixN (n := 13) (by omega) cd2) (ixG (by omega) (cd3 _ (by omega))) ?_
          refine xT_astore g_q226 g226_35 (by decide) ?_
          refine xT_aload g_q226 g226_37 (lkY) ?_
          refine xT_icV (y := nI (4)) g_q226 g226_39 (by decide) ?_
          refine xT_iload_n g_q226 g226_40 (lkN (by decide) (l3)) ?_
          refine xT_imulV (y := nI (4 * l)) g_q226 g226_41 (bMulN _ _) ?_
          refine xT_icV (y := nI (1)) g_q226 g226_42 (by decide) ?_
          refine xT_iaddV (y := nI (4 * l + 1)) g_q226 g226_43 (bAddN _ _) ?_
          refine xT_iaload g_q226 g226_44 (by omega) dw1 (ixN (n := 48) (by omega) dw2) (ixG (by omega) k1) ?_
          refine xT_istore g_q226 g226_45 (by decide) ?_
          refine xT_aload g_q226 g226_47 (lkN (by decide) (lkY)) ?_
          refine xT_icV (y := nI (4)) g_q226 g226_49 (by decide) ?_
          refine xT_iload_n g_q226 g226_50 (lkN (by decide) (lkN (by decide) (l3))) ?_
          refine xT_imulV (y := nI (4 * l)) g_q226 g226_51 (bMulN _ _) ?_
          refine xT_icV (y := nI (2)) g_q226 g226_52 (by decide) ?_
          refine xT_iaddV (y := nI (4 * l + 2)) g_q226 g226_53 (bAddN _ _) ?_
          refine xT_iaload g_q226 g226_54 (by omega) dw1 (ixN (n := 48) (by omega) dw2) (ixG (by omega) k2) ?_
          refine xT_istore g_q226 g226_55 (by decide) ?_
          refine xT_aload g_q226 g226_57 (lkN (by decide) (lkN (by decide) (lkY))) ?_
          refine xT_icV (y := nI (4)) g_q226 g226_59 (by decide) ?_
          refine xT_iload_n g_q226 g226_60 (lkN (by decide) (lkN (by decide) (lkN (by decide) (l3)))) ?_
          refine xT_imulV (y := nI (4 * l)) g_q226 g226_61 (bMulN _ _) ?_
          refine xT_iaload g_q226 g226_62 (by omega) dw1 (ixN (n := 48) (by omega) dw2) (ixG (by omega) k0) ?_
          refine xT_biV (y := nI (7)) g_q226 g226_63 (by decide) ?_
          refine xT_if_icmpN g_q226 g226_65 (t := 79) (by decide) (c0N (a := opR (op p l)) (b := 7) h7 (by omega) (by omega)) ?_
          refine xT_aload g_q226 g226_68 (lkN (by decide) (lkN (by decide) (lkY))) ?_
          refine xT_icV (y := nI (4)) g_q226 g226_70 (by decide) ?_
          refine xT_iload_n g_q226 g226_71 (lkN (by decide) (lkN (by decide) (lkN (by decide) (l3)))) ?_
          refine xT_imulV (y := nI (4 * l)) g_q226 g226_72 (bMulN _ _) ?_
          refine xT_iaload g_q226 g226_73 (by omega) dw1 (ixN (n := 48) (by omega) dw2) (ixG (by omega) k0) ?_
          refine xT_biV (y := nI (8)) g_q226 g226_74 (by decide) ?_
          refine xT_if_icmpN g_q226 g226_76 (t := 83) (by decide) (c1N (a := opR (op p l)) (b := 8) (by rw [hz]; rfl)) ?_
          refine xT_icV (y := nI (1)) g_q226 g226_79 (by decide) ?_
          refine xT_goto g_q226 g226_80 (t := 84) (by decide) ?_
          refine xT_istore g_q226 g226_84 (by decide) ?_
          refine xT_iload g_q226 g226_86 (lkY) ?_
          refine xT_ifCondN g_q226 g226_88 (t := 129) (by decide) (c0N (a := 1) (b := 0) (by omega) (by omega) (by omega)) ?_
          refine xT_iload g_q226 g226_91 (lkN (by decide) (lkN (by decide) (lkY))) ?_
          refine xT_iload_n g_q226 g226_93 (lkN (by decide) (lkN (by decide) (lkN (by decide) (lkN (by decide) (l2))))) ?_
          refine xT_if_icmpY g_q226 g226_94 (t := 109) (by decide) (c1Y (a := lf p l) (b := f) e1 (by omega) (by omega)) ?_
          refine xT_iload g_q226 g226_109 (lkN (by decide) (lkY)) ?_
          refine xT_iload_n g_q226 g226_111 (lkN (by decide) (lkN (by decide) (lkN (by decide) (lkN (by decide) (l2))))) ?_
          refine xT_if_icmpY g_q226 g226_112 (t := 129) (by decide) (c1Y (a := rt p l) (b := f) e2 (by omega) (by omega)) ?_
          refine xT_iincV (y := nI (l + 1)) g_q226 g226_129 (lkN (by decide) (lkN (by decide) (lkN (by decide) (lkN (by decide) (l3))))) (by decide) (bIncN _) ?_
          refine xT_goto g_q226 g226_132 (t := 19) (by decide) ?_
          exact ih (l + 1) _ (by omega) (lkN (by decide) (lkN (by decide) (lkN (by decide) (lkN (by decide) (lkN (by decide) (l0)))))) (lkN (by decide) (lkN (by decide) (lkN (by decide) (lkN (by decide) (lkN (by decide) (l1)))))) (lkN (by decide) (lkN (by decide) (lkN (by decide) (lkN (by decide) (lkN (by decide) (l2)))))) (lkY)
        · by_cases b2 : bitP (S p) (lf p l) = 1
          · rw [show qN (op p) (lf p) (rt p) (S p) f (d + 1) l = 1 from if_pos ⟨hq7, Or.inr ⟨e2, b2⟩⟩]
            refine xT_iload_n g_q226 g226_19 (l3) ?_
            refine xT_aload_n g_q226 g226_20 (l0) ?_
            refine xT_getfield g_q226 g226_21 hbA rfl hb rfl g1 ?_
            refine xT_iload_n g_q226 g226_24 (l1) ?_
            refine xT_iaload g_q226 g226_25 (by omega) ln1 (ixN (n := 13) (by omega) ln2) (ixG (by omega) (ln3 _ (by omega))) ?_
            refine xT_if_icmpN g_q226 g226_26 (t := 135) (by decide) (c3N (a := l) (b := nl p) (by omega) (by omega) (by omega)) ?_
            refine xT_aload_n g_q226 g226_29 (l0) ?_
            refine xT_getfield g_q226 g226_30 hbA rfl hb rfl g2 ?_
            refine xT_iload_n g_q226 g226_33 (l1) ?_
            refine xT_aaload g_q226 g226_34 (by decide +kernel) cd1 (ixN (n := 13) (by omega) cd2) (ixG (by omega) (cd3 _ (by omega))) ?_
            refine xT_astore g_q226 g226_35 (by decide) ?_
            refine xT_aload g_q226 g226_37 (lkY) ?_
            refine xT_icV (y := nI (4)) g_q226 g226_39 (by decide) ?_
            refine xT_iload_n g_q226 g226_40 (lkN (by decide) (l3)) ?_
            refine xT_imulV (y := nI (4 * l)) g_q226 g226_41 (bMulN _ _) ?_
            refine xT_icV (y := nI (1)) g_q226 g226_42 (by decide) ?_
            refine xT_iaddV (y := nI (4 * l + 1)) g_q226 g226_43 (bAddN _ _) ?_
            refine xT_iaload g_q226 g226_44 (by omega) dw1 (ixN (n := 48) (by omega) dw2) (ixG (by omega) k1) ?_
            refine xT_istore g_q226 g226_45 (by decide) ?_
            refine xT_aload g_q226 g226_47 (lkN (by decide) (lkY)) ?_
            refine xT_icV (y := nI (4)) g_q226 g226_49 (by decide) ?_
            refine xT_iload_n g_q226 g226_50 (lkN (by decide) (lkN (by decide) (l3))) ?_
            refine xT_imulV (y := nI (4 * l)) g_q226 g226_51 (bMulN _ _) ?_
            refine xT_icV (y := nI (2)) g_q226 g226_52 (by decide) ?_
            refine xT_iaddV (y := nI (4 * l + 2)) g_q226 g226_53 (bAddN _ _) ?_
            refine xT_iaload g_q226 g226_54 (by omega) dw1 (ixN (n := 48) (by omega) dw2) (ixG (by omega) k2) ?_
            refine xT_istore g_q226 g226_55 (by decide) ?_
            refine xT_aload g_q226 g226_57 (lkN (by decide) (lkN (by decide) (lkY))) ?_
            refine xT_icV (y := nI (4)) g_q226 g226_59 (by decide) ?_
            refine xT_iload_n g_q226 g226_60 (lkN (by decide) (lkN (by decide) (lkN (by decide) (l3)))) ?_
            refine xT_imulV (y := nI (4 * l)) g_q226 g226_61 (bMulN _ _) ?_
            refine xT_iaload g_q226 g226_62 (by omega) dw1 (ixN (n := 48) (by omega) dw2) (ixG (by omega) k0) ?_
            refine xT_biV (y := nI (7)) g_q226 g226_63 (by decide) ?_
            refine xT_if_icmpN g_q226 g226_65 (t := 79) (by decide) (c0N (a := opR (op p l)) (b := 7) h7 (by omega) (by omega)) ?_
            refine xT_aload g_q226 g226_68 (lkN (by decide) (lkN (by decide) (lkY))) ?_
            refine xT_icV (y := nI (4)) g_q226 g226_70 (by decide) ?_
            refine xT_iload_n g_q226 g226_71 (lkN (by decide) (lkN (by decide) (lkN (by decide) (l3)))) ?_
            refine xT_imulV (y := nI (4 * l)) g_q226 g226_72 (bMulN _ _) ?_
            refine xT_iaload g_q226 g226_73 (by omega) dw1 (ixN (n := 48) (by omega) dw2) (ixG (by omega) k0) ?_
            refine xT_biV (y := nI (8)) g_q226 g226_74 (by decide) ?_
            refine xT_if_icmpN g_q226 g226_76 (t := 83) (by decide) (c1N (a := opR (op p l)) (b := 8) (by rw [hz]; rfl)) ?_
            refine xT_icV (y := nI (1)) g_q226 g226_79 (by decide) ?_
            refine xT_goto g_q226 g226_80 (t := 84) (by decide) ?_
            refine xT_istore g_q226 g226_84 (by decide) ?_
            refine xT_iload g_q226 g226_86 (lkY) ?_
            refine xT_ifCondN g_q226 g226_88 (t := 129) (by decide) (c0N (a := 1) (b := 0) (by omega) (by omega) (by omega)) ?_
            refine xT_iload g_q226 g226_91 (lkN (by decide) (lkN (by decide) (lkY))) ?_
            refine xT_iload_n g_q226 g226_93 (lkN (by decide) (lkN (by decide) (lkN (by decide) (lkN (by decide) (l2))))) ?_
            refine xT_if_icmpY g_q226 g226_94 (t := 109) (by decide) (c1Y (a := lf p l) (b := f) e1 (by omega) (by omega)) ?_
            refine xT_iload g_q226 g226_109 (lkN (by decide) (lkY)) ?_
            refine xT_iload_n g_q226 g226_111 (lkN (by decide) (lkN (by decide) (lkN (by decide) (lkN (by decide) (l2))))) ?_
            refine xT_if_icmpN g_q226 g226_112 (t := 129) (by decide) (c1N (a := rt p l) (b := f) e2) ?_
            refine xT_aload_n g_q226 g226_115 (lkN (by decide) (lkN (by decide) (lkN (by decide) (lkN (by decide) (l0))))) ?_
            refine xT_getfield g_q226 g226_116 hbA rfl hb rfl g63 ?_
            refine xT_iload_n g_q226 g226_119 (lkN (by decide) (lkN (by decide) (lkN (by decide) (lkN (by decide) (l1))))) ?_
            refine xT_aaload g_q226 g226_120 (by decide +kernel) su1 (ixN (n := 12) (by omega) su2) (ixG (by omega) (su3 _ (by omega))) ?_
            refine xT_iload g_q226 g226_121 (lkN (by decide) (lkN (by decide) (lkY))) ?_
            refine xT_baload g_q226 g226_123 u1 u2 (ixN (n := 6) (by omega) u3) (ixG (by omega) (u4 _ (by omega) trivial)) ?_
            refine xT_ifCondN g_q226 g226_124 (t := 129) (by decide) (c0N (a := bitP (S p) (lf p l)) (b := 0) (by omega) (by omega) (by omega)) ?_
            refine xT_icV (y := nI (2)) g_q226 g226_127 (by decide) ?_
            exact xT_ireturn g_q226 g226_128 (rfl)
          · rw [show qN (op p) (lf p) (rt p) (S p) f (d + 1) l = qN (op p) (lf p) (rt p) (S p) f d (l + 1) from if_neg (fun z => z.2.elim hA (fun y => b2 y.2))]
            have b2 := hbl.resolve_right b2
            refine xT_iload_n g_q226 g226_19 (l3) ?_
            refine xT_aload_n g_q226 g226_20 (l0) ?_
            refine xT_getfield g_q226 g226_21 hbA rfl hb rfl g1 ?_
            refine xT_iload_n g_q226 g226_24 (l1) ?_
            refine xT_iaload g_q226 g226_25 (by omega) ln1 (ixN (n := 13) (by omega) ln2) (ixG (by omega) (ln3 _ (by omega))) ?_
            refine xT_if_icmpN g_q226 g226_26 (t := 135) (by decide) (c3N (a := l) (b := nl p) (by omega) (by omega) (by omega)) ?_
            refine xT_aload_n g_q226 g226_29 (l0) ?_
            refine xT_getfield g_q226 g226_30 hbA rfl hb rfl g2 ?_
            refine xT_iload_n g_q226 g226_33 (l1) ?_
            refine xT_aaload g_q226 g226_34 (by decide +kernel) cd1 (ixN (n := 13) (by omega) cd2) (ixG (by omega) (cd3 _ (by omega))) ?_
            refine xT_astore g_q226 g226_35 (by decide) ?_
            refine xT_aload g_q226 g226_37 (lkY) ?_
            refine xT_icV (y := nI (4)) g_q226 g226_39 (by decide) ?_
            refine xT_iload_n g_q226 g226_40 (lkN (by decide) (l3)) ?_
            refine xT_imulV (y := nI (4 * l)) g_q226 g226_41 (bMulN _ _) ?_
            refine xT_icV (y := nI (1)) g_q226 g226_42 (by decide) ?_
            refine xT_iaddV (y := nI (4 * l + 1)) g_q226 g226_43 (bAddN _ _) ?_
            refine xT_iaload g_q226 g226_44 (by omega) dw1 (ixN (n := 48) (by omega) dw2) (ixG (by omega) k1) ?_
            refine xT_istore g_q226 g226_45 (by decide) ?_
            refine xT_aload g_q226 g226_47 (lkN (by decide) (lkY)) ?_
            refine xT_icV (y := nI (4)) g_q226 g226_49 (by decide) ?_
            refine xT_iload_n g_q226 g226_50 (lkN (by decide) (lkN (by decide) (l3))) ?_
            refine xT_imulV (y := nI (4 * l)) g_q226 g226_51 (bMulN _ _) ?_
            refine xT_icV (y := nI (2)) g_q226 g226_52 (by decide) ?_
            refine xT_iaddV (y := nI (4 * l + 2)) g_q226 g226_53 (bAddN _ _) ?_
            refine xT_iaload g_q226 g226_54 (by omega) dw1 (ixN (n := 48) (by omega) dw2) (ixG (by omega) k2) ?_
            refine xT_istore g_q226 g226_55 (by decide) ?_
            refine xT_aload g_q226 g226_57 (lkN (by decide) (lkN (by decide) (lkY))) ?_
            refine xT_icV (y := nI (4)) g_q226 g226_59 (by decide) ?_
            refine xT_iload_n g_q226 g226_60 (lkN (by decide) (lkN (by decide) (lkN (by decide) (l3)))) ?_
            refine xT_imulV (y := nI (4 * l)) g_q226 g226_61 (bMulN _ _) ?_
            refine xT_iaload g_q226 g226_62 (by omega) dw1 (ixN (n := 48) (by omega) dw2) (ixG (by omega) k0) ?_
            refine xT_biV (y := nI (7)) g_q226 g226_63 (by decide) ?_
            refine xT_if_icmpN g_q226 g226_65 (t := 79) (by decide) (c0N (a := opR (op p l)) (b := 7) h7 (by omega) (by omega)) ?_
            refine xT_aload g_q226 g226_68 (lkN (by decide) (lkN (by decide) (lkY))) ?_
            refine xT_icV (y := nI (4)) g_q226 g226_70 (by decide) ?_
            refine xT_iload_n g_q226 g226_71 (lkN (by decide) (lkN (by decide) (lkN (by decide) (l3)))) ?_
            refine xT_imulV (y := nI (4 * l)) g_q226 g226_72 (bMulN _ _) ?_
            refine xT_iaload g_q226 g226_73 (by omega) dw1 (ixN (n := 48) (by omega) dw2) (ixG (by omega) k0) ?_
            refine xT_biV (y := nI (8)) g_q226 g226_74 (by decide) ?_
            refine xT_if_icmpN g_q226 g226_76 (t := 83) (by decide) (c1N (a := opR (op p l)) (b := 8) (by rw [hz]; rfl)) ?_
            refine xT_icV (y := nI (1)) g_q226 g226_79 (by decide) ?_
            refine xT_goto g_q226 g226_80 (t := 84) (by decide) ?_
            refine xT_istore g_q226 g226_84 (by decide) ?_
            refine xT_iload g_q226 g226_86 (lkY) ?_
            refine xT_ifCondN g_q226 g226_88 (t := 129) (by decide) (c0N (a := 1) (b := 0) (by omega) (by omega) (by omega)) ?_
            refine xT_iload g_q226 g226_91 (lkN (by decide) (lkN (by decide) (lkY))) ?_
            refine xT_iload_n g_q226 g226_93 (lkN (by decide) (lkN (by decide) (lkN (by decide) (lkN (by decide) (l2))))) ?_
            refine xT_if_icmpY g_q226 g226_94 (t := 109) (by decide) (c1Y (a := lf p l) (b := f) e1 (by omega) (by omega)) ?_
            refine xT_iload g_q226 g226_109 (lkN (by decide) (lkY)) ?_
            refine xT_iload_n g_q226 g226_111 (lkN (by decide) (lkN (by decide) (lkN (by decide) (lkN (by decide) (l2))))) ?_
            refine xT_if_icmpN g_q226 g226_112 (t := 129) (by decide) (c1N (a := rt p l) (b := f) e2) ?_
            refine xT_aload_n g_q226 g226_115 (lkN (by decide) (lkN (by decide) (lkN (by decide) (lkN (by decide) (l0))))) ?_
            refine xT_getfield g_q226 g226_116 hbA rfl hb rfl g63 ?_
            refine xT_iload_n g_q226 g226_119 (lkN (by decide) (lkN (by decide) (lkN (by decide) (lkN (by decide) (l1))))) ?_
            refine xT_aaload g_q226 g226_120 (by decide +kernel) su1 (ixN (n := 12) (by omega) su2) (ixG (by omega) (su3 _ (by omega))) ?_
            refine xT_iload g_q226 g226_121 (lkN (by decide) (lkN (by decide) (lkY))) ?_
            refine xT_baload g_q226 g226_123 u1 u2 (ixN (n := 6) (by omega) u3) (ixG (by omega) (u4 _ (by omega) trivial)) ?_
            refine xT_ifCondY g_q226 g226_124 (t := 129) (by decide) (c0Y (a := bitP (S p) (lf p l)) (b := 0) b2) ?_
            refine xT_iincV (y := nI (l + 1)) g_q226 g226_129 (lkN (by decide) (lkN (by decide) (lkN (by decide) (lkN (by decide) (l3))))) (by decide) (bIncN _) ?_
            refine xT_goto g_q226 g226_132 (t := 19) (by decide) ?_
            exact ih (l + 1) _ (by omega) (lkN (by decide) (lkN (by decide) (lkN (by decide) (lkN (by decide) (lkN (by decide) (l0)))))) (lkN (by decide) (lkN (by decide) (lkN (by decide) (lkN (by decide) (lkN (by decide) (l1)))))) (lkN (by decide) (lkN (by decide) (lkN (by decide) (lkN (by decide) (lkN (by decide) (l2)))))) (lkY)
      · have b1 : bitP (S p) (rt p l) = 0 := hbr.resolve_right (fun z => hA ⟨e1, z⟩)
        by_cases e2 : rt p l = f
        rotate_left
        · rw [show qN (op p) (lf p) (rt p) (S p) f (d + 1) l = qN (op p) (lf p) (rt p) (S p) f d (l + 1) from if_neg (fun z => z.2.elim hA (fun y => e2 y.1))]
          refine xT_iload_n g_q226 g226_19 (l3) ?_
          refine xT_aload_n g_q226 g226_20 (l0) ?_
          refine xT_getfield g_q226 g226_21 hbA rfl hb rfl g1 ?_
          refine xT_iload_n g_q226 g226_24 (l1) ?_
          refine xT_iaload g_q226 g226_25 (by omega) ln1 (ixN (n := 13) (by omega) ln2) (ixG (by omega) (ln3 _ (by omega))) ?_
          refine xT_if_icmpN g_q226 g226_26 (t := 135) (by decide) (c3N (a := l) (b := nl p) (by omega) (by omega) (by omega)) ?_
          refine xT_aload_n g_q226 g226_29 (l0) ?_
          refine xT_getfield g_q226 g226_30 hbA rfl hb rfl g2 ?_
          refine xT_iload_n g_q226 g226_33 (l1) ?_
          refine xT_aaload g_q226 g226_34 (by decide +kernel) cd1 (ixN (n := 13) (by omega) cd2) (ixG (by omega) (cd3 _ (by omega))) ?_
          refine xT_astore g_q226 g226_35 (by decide) ?_
          refine xT_aload g_q226 g226_37 (lkY) ?_
          refine xT_icV (y := nI (4)) g_q226 g226_39 (by decide) ?_
          refine xT_iload_n g_q226 g226_40 (lkN (by decide) (l3)) ?_
          refine xT_imulV (y := nI (4 * l)) g_q226 g226_41 (bMulN _ _) ?_
          refine xT_icV (y := nI (1)) g_q226 g226_42 (by decide) ?_
          refine xT_iaddV (y := nI (4 * l + 1)) g_q226 g226_43 (bAddN _ _) ?_
          refine xT_iaload g_q226 g226_44 (by omega) dw1 (ixN (n := 48) (by omega) dw2) (ixG (by omega) k1) ?_
          refine xT_istore g_q226 g226_45 (by decide) ?_
          refine xT_aload g_q226 g226_47 (lkN (by decide) (lkY)) ?_
          refine xT_icV (y := nI (4)) g_q226 g226_49 (by decide) ?_
          refine xT_iload_n g_q226 g226_50 (lkN (by decide) (lkN (by decide) (l3))) ?_
          refine xT_imulV (y := nI (4 * l)) g_q226 g226_51 (bMulN _ _) ?_
          refine xT_icV (y := nI (2)) g_q226 g226_52 (by decide) ?_
          refine xT_iaddV (y := nI (4 * l + 2)) g_q226 g226_53 (bAddN _ _) ?_
          refine xT_iaload g_q226 g226_54 (by omega) dw1 (ixN (n := 48) (by omega) dw2) (ixG (by omega) k2) ?_
          refine xT_istore g_q226 g226_55 (by decide) ?_
          refine xT_aload g_q226 g226_57 (lkN (by decide) (lkN (by decide) (lkY))) ?_
          refine xT_icV (y := nI (4)) g_q226 g226_59 (by decide) ?_
          refine xT_iload_n g_q226 g226_60 (lkN (by decide) (lkN (by decide) (lkN (by decide) (l3)))) ?_
          refine xT_imulV (y := nI (4 * l)) g_q226 g226_61 (bMulN _ _) ?_
          refine xT_iaload g_q226 g226_62 (by omega) dw1 (ixN (n := 48) (by omega) dw2) (ixG (by omega) k0) ?_
          refine xT_biV (y := nI (7)) g_q226 g226_63 (by decide) ?_
          refine xT_if_icmpN g_q226 g226_65 (t := 79) (by decide) (c0N (a := opR (op p l)) (b := 7) h7 (by omega) (by omega)) ?_
          refine xT_aload g_q226 g226_68 (lkN (by decide) (lkN (by decide) (lkY))) ?_
          refine xT_icV (y := nI (4)) g_q226 g226_70 (by decide) ?_
          refine xT_iload_n g_q226 g226_71 (lkN (by decide) (lkN (by decide) (lkN (by decide) (l3)))) ?_
          refine xT_imulV (y := nI (4 * l)) g_q226 g226_72 (bMulN _ _) ?_
          refine xT_iaload g_q226 g226_73 (by omega) dw1 (ixN (n := 48) (by omega) dw2) (ixG (by omega) k0) ?_
          refine xT_biV (y := nI (8)) g_q226 g226_74 (by decide) ?_
          refine xT_if_icmpN g_q226 g226_76 (t := 83) (by decide) (c1N (a := opR (op p l)) (b := 8) (by rw [hz]; rfl)) ?_
          refine xT_icV (y := nI (1)) g_q226 g226_79 (by decide) ?_
          refine xT_goto g_q226 g226_80 (t := 84) (by decide) ?_
          refine xT_istore g_q226 g226_84 (by decide) ?_
          refine xT_iload g_q226 g226_86 (lkY) ?_
          refine xT_ifCondN g_q226 g226_88 (t := 129) (by decide) (c0N (a := 1) (b := 0) (by omega) (by omega) (by omega)) ?_
          refine xT_iload g_q226 g226_91 (lkN (by decide) (lkN (by decide) (lkY))) ?_
          refine xT_iload_n g_q226 g226_93 (lkN (by decide) (lkN (by decide) (lkN (by decide) (lkN (by decide) (l2))))) ?_
          refine xT_if_icmpN g_q226 g226_94 (t := 109) (by decide) (c1N (a := lf p l) (b := f) e1) ?_
          refine xT_aload_n g_q226 g226_97 (lkN (by decide) (lkN (by decide) (lkN (by decide) (lkN (by decide) (l0))))) ?_
          refine xT_getfield g_q226 g226_98 hbA rfl hb rfl g63 ?_
          refine xT_iload_n g_q226 g226_101 (lkN (by decide) (lkN (by decide) (lkN (by decide) (lkN (by decide) (l1))))) ?_
          refine xT_aaload g_q226 g226_102 (by decide +kernel) su1 (ixN (n := 12) (by omega) su2) (ixG (by omega) (su3 _ (by omega))) ?_
          refine xT_iload g_q226 g226_103 (lkN (by decide) (lkY)) ?_
          refine xT_baload g_q226 g226_105 u1 u2 (ixN (n := 6) (by omega) u3) (ixG (by omega) (u4 _ (by omega) trivial)) ?_
          refine xT_ifCondN g_q226 g226_106 (t := 127) (by decide) (c1N (a := bitP (S p) (rt p l)) (b := 0) b1) ?_
          refine xT_iload g_q226 g226_109 (lkN (by decide) (lkY)) ?_
          refine xT_iload_n g_q226 g226_111 (lkN (by decide) (lkN (by decide) (lkN (by decide) (lkN (by decide) (l2))))) ?_
          refine xT_if_icmpY g_q226 g226_112 (t := 129) (by decide) (c1Y (a := rt p l) (b := f) e2 (by omega) (by omega)) ?_
          refine xT_iincV (y := nI (l + 1)) g_q226 g226_129 (lkN (by decide) (lkN (by decide) (lkN (by decide) (lkN (by decide) (l3))))) (by decide) (bIncN _) ?_
          refine xT_goto g_q226 g226_132 (t := 19) (by decide) ?_
          exact ih (l + 1) _ (by omega) (lkN (by decide) (lkN (by decide) (lkN (by decide) (lkN (by decide) (lkN (by decide) (l0)))))) (lkN (by decide) (lkN (by decide) (lkN (by decide) (lkN (by decide) (lkN (by decide) (l1)))))) (lkN (by decide) (lkN (by decide) (lkN (by decide) (lkN (by decide) (lkN (by decide) (l2)))))) (lkY)
        · by_cases b2 : bitP (S p) (lf p l) = 1
          · rw [show qN (op p) (lf p) (rt p) (S p) f (d + 1) l = 1 from if_pos ⟨hq7, Or.inr ⟨e2, b2⟩⟩]
            refine xT_iload_n g_q226 g226_19 (l3) ?_
            refine xT_aload_n g_q226 g226_20 (l0) ?_
            refine xT_getfield g_q226 g226_21 hbA rfl hb rfl g1 ?_
            refine xT_iload_n g_q226 g226_24 (l1) ?_
            refine xT_iaload g_q226 g226_25 (by omega) ln1 (ixN (n := 13) (by omega) ln2) (ixG (by omega) (ln3 _ (by omega))) ?_
            refine xT_if_icmpN g_q226 g226_26 (t := 135) (by decide) (c3N (a := l) (b := nl p) (by omega) (by omega) (by omega)) ?_
            refine xT_aload_n g_q226 g226_29 (l0) ?_
            refine xT_getfield g_q226 g226_30 hbA rfl hb rfl g2 ?_
            refine xT_iload_n g_q226 g226_33 (l1) ?_
            refine xT_aaload g_q226 g226_34 (by decide +kernel) cd1 (ixN (n := 13) (by omega) cd2) (ixG (by omega) (cd3 _ (by omega))) ?_
            refine xT_astore g_q226 g226_35 (by decide) ?_
            refine xT_aload g_q226 g226_37 (lkY) ?_
            refine xT_icV (y := nI (4)) g_q226 g226_39 (by decide) ?_
            refine xT_iload_n g_q226 g226_40 (lkN (by decide) (l3)) ?_
            refine xT_imulV (y := nI (4 * l)) g_q226 g226_41 (bMulN _ _) ?_
            refine xT_icV (y := nI (1)) g_q226 g226_42 (by decide) ?_
            refine xT_iaddV (y := nI (4 * l + 1)) g_q226 g226_43 (bAddN _ _) ?_
            refine xT_iaload g_q226 g226_44 (by omega) dw1 (ixN (n := 48) (by omega) dw2) (ixG (by omega) k1) ?_
            refine xT_istore g_q226 g226_45 (by decide) ?_
            refine xT_aload g_q226 g226_47 (lkN (by decide) (lkY)) ?_
            refine xT_icV (y := nI (4)) g_q226 g226_49 (by decide) ?_
            refine xT_iload_n g_q226 g226_50 (lkN (by decide) (lkN (by decide) (l3))) ?_
            refine xT_imulV (y := nI (4 * l)) g_q226 g226_51 (bMulN _ _) ?_
            refine xT_icV (y := nI (2)) g_q226 g226_52 (by decide) ?_
            refine xT_iaddV (y := nI (4 * l + 2)) g_q226 g226_53 (bAddN _ _) ?_
            refine xT_iaload g_q226 g226_54 (by omega) dw1 (ixN (n := 48) (by omega) dw2) (ixG (by omega) k2) ?_
            refine xT_istore g_q226 g226_55 (by decide) ?_
            refine xT_aload g_q226 g226_57 (lkN (by decide) (lkN (by decide) (lkY))) ?_
            refine xT_icV (y := nI (4)) g_q226 g226_59 (by decide) ?_
            refine xT_iload_n g_q226 g226_60 (lkN (by decide) (lkN (by decide) (lkN (by decide) (l3)))) ?_
            refine xT_imulV (y := nI (4 * l)) g_q226 g226_61 (bMulN _ _) ?_
            refine xT_iaload g_q226 g226_62 (by omega) dw1 (ixN (n := 48) (by omega) dw2) (ixG (by omega) k0) ?_
            refine xT_biV (y := nI (7)) g_q226 g226_63 (by decide) ?_
            refine xT_if_icmpN g_q226 g226_65 (t := 79) (by decide) (c0N (a := opR (op p l)) (b := 7) h7 (by omega) (by omega)) ?_
            refine xT_aload g_q226 g226_68 (lkN (by decide) (lkN (by decide) (lkY))) ?_
            refine xT_icV (y := nI (4)) g_q226 g226_70 (by decide) ?_
            refine xT_iload_n g_q226 g226_71 (lkN (by decide) (lkN (by decide) (lkN (by decide) (l3)))) ?_
            refine xT_imulV (y := nI (4 * l)) g_q226 g226_72 (bMulN _ _) ?_
            refine xT_iaload g_q226 g226_73 (by omega) dw1 (ixN (n := 48) (by omega) dw2) (ixG (by omega) k0) ?_
            refine xT_biV (y := nI (8)) g_q226 g226_74 (by decide) ?_
            refine xT_if_icmpN g_q226 g226_76 (t := 83) (by decide) (c1N (a := opR (op p l)) (b := 8) (by rw [hz]; rfl)) ?_
            refine xT_icV (y := nI (1)) g_q226 g226_79 (by decide) ?_
            refine xT_goto g_q226 g226_80 (t := 84) (by decide) ?_
            refine xT_istore g_q226 g226_84 (by decide) ?_
            refine xT_iload g_q226 g226_86 (lkY) ?_
            refine xT_ifCondN g_q226 g226_88 (t := 129) (by decide) (c0N (a := 1) (b := 0) (by omega) (by omega) (by omega)) ?_
            refine xT_iload g_q226 g226_91 (lkN (by decide) (lkN (by decide) (lkY))) ?_
            refine xT_iload_n g_q226 g226_93 (lkN (by decide) (lkN (by decide) (lkN (by decide) (lkN (by decide) (l2))))) ?_
            refine xT_if_icmpN g_q226 g226_94 (t := 109) (by decide) (c1N (a := lf p l) (b := f) e1) ?_
            refine xT_aload_n g_q226 g226_97 (lkN (by decide) (lkN (by decide) (lkN (by decide) (lkN (by decide) (l0))))) ?_
            refine xT_getfield g_q226 g226_98 hbA rfl hb rfl g63 ?_
            refine xT_iload_n g_q226 g226_101 (lkN (by decide) (lkN (by decide) (lkN (by decide) (lkN (by decide) (l1))))) ?_
            refine xT_aaload g_q226 g226_102 (by decide +kernel) su1 (ixN (n := 12) (by omega) su2) (ixG (by omega) (su3 _ (by omega))) ?_
            refine xT_iload g_q226 g226_103 (lkN (by decide) (lkY)) ?_
            refine xT_baload g_q226 g226_105 u1 u2 (ixN (n := 6) (by omega) u3) (ixG (by omega) (u4 _ (by omega) trivial)) ?_
            refine xT_ifCondN g_q226 g226_106 (t := 127) (by decide) (c1N (a := bitP (S p) (rt p l)) (b := 0) b1) ?_
            refine xT_iload g_q226 g226_109 (lkN (by decide) (lkY)) ?_
            refine xT_iload_n g_q226 g226_111 (lkN (by decide) (lkN (by decide) (lkN (by decide) (lkN (by decide) (l2))))) ?_
            refine xT_if_icmpN g_q226 g226_112 (t := 129) (by decide) (c1N (a := rt p l) (b := f) e2) ?_
            refine xT_aload_n g_q226 g226_115 (lkN (by decide) (lkN (by decide) (lkN (by decide) (lkN (by decide) (l0))))) ?_
            refine xT_getfield g_q226 g226_116 hbA rfl hb rfl g63 ?_
            refine xT_iload_n g_q226 g226_119 (lkN (by decide) (lkN (by decide) (lkN (by decide) (lkN (by decide) (l1))))) ?_
            refine xT_aaload g_q226 g226_120 (by decide +kernel) su1 (ixN (n := 12) (by omega) su2) (ixG (by omega) (su3 _ (by omega))) ?_
            refine xT_iload g_q226 g226_121 (lkN (by decide) (lkN (by decide) (lkY))) ?_
            refine xT_baload g_q226 g226_123 u1 u2 (ixN (n := 6) (by omega) u3) (ixG (by omega) (u4 _ (by omega) trivial)) ?_
            refine xT_ifCondN g_q226 g226_124 (t := 129) (by decide) (c0N (a := bitP (S p) (lf p l)) (b := 0) (by omega) (by omega) (by omega)) ?_
            refine xT_icV (y := nI (2)) g_q226 g226_127 (by decide) ?_
            exact xT_ireturn g_q226 g226_128 (rfl)
          · rw [show qN (op p) (lf p) (rt p) (S p) f (d + 1) l = qN (op p) (lf p) (rt p) (S p) f d (l + 1) from if_neg (fun z => z.2.elim hA (fun y => b2 y.2))]
            have b2 := hbl.resolve_right b2
            refine xT_iload_n g_q226 g226_19 (l3) ?_
            refine xT_aload_n g_q226 g226_20 (l0) ?_
            refine xT_getfield g_q226 g226_21 hbA rfl hb rfl g1 ?_
            refine xT_iload_n g_q226 g226_24 (l1) ?_
            refine xT_iaload g_q226 g226_25 (by omega) ln1 (ixN (n := 13) (by omega) ln2) (ixG (by omega) (ln3 _ (by omega))) ?_
            refine xT_if_icmpN g_q226 g226_26 (t := 135) (by decide) (c3N (a := l) (b := nl p) (by omega) (by omega) (by omega)) ?_
            refine xT_aload_n g_q226 g226_29 (l0) ?_
            refine xT_getfield g_q226 g226_30 hbA rfl hb rfl g2 ?_
            refine xT_iload_n g_q226 g226_33 (l1) ?_
            refine xT_aaload g_q226 g226_34 (by decide +kernel) cd1 (ixN (n := 13) (by omega) cd2) (ixG (by omega) (cd3 _ (by omega))) ?_
            refine xT_astore g_q226 g226_35 (by decide) ?_
            refine xT_aload g_q226 g226_37 (lkY) ?_
            refine xT_icV (y := nI (4)) g_q226 g226_39 (by decide) ?_
            refine xT_iload_n g_q226 g226_40 (lkN (by decide) (l3)) ?_
            refine xT_imulV (y := nI (4 * l)) g_q226 g226_41 (bMulN _ _) ?_
            refine xT_icV (y := nI (1)) g_q226 g226_42 (by decide) ?_
            refine xT_iaddV (y := nI (4 * l + 1)) g_q226 g226_43 (bAddN _ _) ?_
            refine xT_iaload g_q226 g226_44 (by omega) dw1 (ixN (n := 48) (by omega) dw2) (ixG (by omega) k1) ?_
            refine xT_istore g_q226 g226_45 (by decide) ?_
            refine xT_aload g_q226 g226_47 (lkN (by decide) (lkY)) ?_
            refine xT_icV (y := nI (4)) g_q226 g226_49 (by decide) ?_
            refine xT_iload_n g_q226 g226_50 (lkN (by decide) (lkN (by decide) (l3))) ?_
            refine xT_imulV (y := nI (4 * l)) g_q226 g226_51 (bMulN _ _) ?_
            refine xT_icV (y := nI (2)) g_q226 g226_52 (by decide) ?_
            refine xT_iaddV (y := nI (4 * l + 2)) g_q226 g226_53 (bAddN _ _) ?_
            refine xT_iaload g_q226 g226_54 (by omega) dw1 (ixN (n := 48) (by omega) dw2) (ixG (by omega) k2) ?_
            refine xT_istore g_q226 g226_55 (by decide) ?_
            refine xT_aload g_q226 g226_57 (lkN (by decide) (lkN (by decide) (lkY))) ?_
            refine xT_icV (y := nI (4)) g_q226 g226_59 (by decide) ?_
            refine xT_iload_n g_q226 g226_60 (lkN (by decide) (lkN (by decide) (lkN (by decide) (l3)))) ?_
            refine xT_imulV (y := nI (4 * l)) g_q226 g226_61 (bMulN _ _) ?_
            refine xT_iaload g_q226 g226_62 (by omega) dw1 (ixN (n := 48) (by omega) dw2) (ixG (by omega) k0) ?_
            refine xT_biV (y := nI (7)) g_q226 g226_63 (by decide) ?_
            refine xT_if_icmpN g_q226 g226_65 (t := 79) (by decide) (c0N (a := opR (op p l)) (b := 7) h7 (by omega) (by omega)) ?_
            refine xT_aload g_q226 g226_68 (lkN (by decide) (lkN (by decide) (lkY))) ?_
            refine xT_icV (y := nI (4)) g_q226 g226_70 (by decide) ?_
            refine xT_iload_n g_q226 g226_71 (lkN (by decide) (lkN (by decide) (lkN (by decide) (l3)))) ?_
            refine xT_imulV (y := nI (4 * l)) g_q226 g226_72 (bMulN _ _) ?_
            refine xT_iaload g_q226 g226_73 (by omega) dw1 (ixN (n := 48) (by omega) dw2) (ixG (by omega) k0) ?_
            refine xT_biV (y := nI (8)) g_q226 g226_74 (by decide) ?_
            refine xT_if_icmpN g_q226 g226_76 (t := 83) (by decide) (c1N (a := opR (op p l)) (b := 8) (by rw [hz]; rfl)) ?_
            refine xT_icV (y := nI (1)) g_q226 g226_79 (by decide) ?_
            refine xT_goto g_q226 g226_80 (t := 84) (by decide) ?_
            refine xT_istore g_q226 g226_84 (by decide) ?_
            refine xT_iload g_q226 g226_86 (lkY) ?_
            refine xT_ifCondN g_q226 g226_88 (t := 129) (by decide) (c0N (a := 1) (b := 0) (by omega) (by omega) (by omega)) ?_
            refine xT_iload g_q226 g226_91 (lkN (by decide) (lkN (by decide) (lkY))) ?_
            refine xT_iload_n g_q226 g226_93 (lkN (by decide) (lkN (by decide) (lkN (by decide) (lkN (by decide) (l2))))) ?_
            refine xT_if_icmpN g_q226 g226_94 (t := 109) (by decide) (c1N (a := lf p l) (b := f) e1) ?_
            refine xT_aload_n g_q226 g226_97 (lkN (by decide) (lkN (by decide) (lkN (by decide) (lkN (by decide) (l0))))) ?_
            refine xT_getfield g_q226 g226_98 hbA rfl hb rfl g63 ?_
            refine xT_iload_n g_q226 g226_101 (lkN (by decide) (lkN (by decide) (lkN (by decide) (lkN (by decide) (l1))))) ?_
            refine xT_aaload g_q226 g226_102 (by decide +kernel) su1 (ixN (n := 12) (by omega) su2) (ixG (by omega) (su3 _ (by omega))) ?_
            refine xT_iload g_q226 g226_103 (lkN (by decide) (lkY)) ?_
            refine xT_baload g_q226 g226_105 u1 u2 (ixN (n := 6) (by omega) u3) (ixG (by omega) (u4 _ (by omega) trivial)) ?_
            refine xT_ifCondN g_q226 g226_106 (t := 127) (by decide) (c1N (a := bitP (S p) (rt p l)) (b := 0) b1) ?_
            refine xT_iload g_q226 g226_109 (lkN (by decide) (lkY)) ?_
            refine xT_iload_n g_q226 g226_111 (lkN (by decide) (lkN (by decide) (lkN (by decide) (lkN (by decide) (l2))))) ?_
            refine xT_if_icmpN g_q226 g226_112 (t := 129) (by decide) (c1N (a := rt p l) (b := f) e2) ?_
            refine xT_aload_n g_q226 g226_115 (lkN (by decide) (lkN (by decide) (lkN (by decide) (lkN (by decide) (l0))))) ?_
            refine xT_getfield g_q226 g226_116 hbA rfl hb rfl g63 ?_
            refine xT_iload_n g_q226 g226_119 (lkN (by decide) (lkN (by decide) (lkN (by decide) (lkN (by decide) (l1))))) ?_
            refine xT_aaload g_q226 g226_120 (by decide +kernel) su1 (ixN (n := 12) (by omega) su2) (ixG (by omega) (su3 _ (by omega))) ?_
            refine xT_iload g_q226 g226_121 (lkN (by decide) (lkN (by decide) (lkY))) ?_
            refine xT_baload g_q226 g226_123 u1 u2 (ixN (n := 6) (by omega) u3) (ixG (by omega) (u4 _ (by omega) trivial)) ?_
            refine xT_ifCondY g_q226 g226_124 (t := 129) (by decide) (c0Y (a := bitP (S p) (lf p l)) (b := 0) b2) ?_
            refine xT_iincV (y := nI (l + 1)) g_q226 g226_129 (lkN (by decide) (lkN (by decide) (lkN (by decide) (lkN (by decide) (l3))))) (by decide) (bIncN _) ?_
            refine xT_goto g_q226 g226_132 (t := 19) (by decide) ?_
            exact ih (l + 1) _ (by omega) (lkN (by decide) (lkN (by decide) (lkN (by decide) (lkN (by decide) (lkN (by decide) (l0)))))) (lkN (by decide) (lkN (by decide) (lkN (by decide) (lkN (by decide) (lkN (by decide) (l1)))))) (lkN (by decide) (lkN (by decide) (lkN (by decide) (lkN (by decide) (lkN (by decide) (l2)))))) (lkY)
theorem t226 {b : Nat} {D U : Nat → Nat} (ho : cdOk n op lf rt nl) (hsv : svOk n sv) (hB : kB H b n D U op lf rt nl sv S (fun _ _ => False)) {p f : Nat} (hp : p < n) (hf : f < 6) : ∃ H2, x_To x_tb x_tyl ot (dp + 3) 226 0 (x_en 0 [.inr (some (b)), .inl (nI (p)), .inl (nI (f))]) [] H 0 0 (some (.inl (nI (yrN (op p) (lf p) (rt p) (nl p) ((fxN n op lf rt nl sv 73 (fun _ => 0)) p) f)))) H2 := by
  obtain ⟨H2, x, hB2⟩ := t227 (ot := ot) (dp := dp) ho hsv hB
  obtain ⟨⟨y1, -, gs0, -, -, -, -, -, -, -, y2, -⟩, -⟩ := id hB
  refine ⟨H2, ?_⟩
  refine xT_aload_n g_q226 g226_0 (rfl) ?_
  refine xT_invokevirtual (r := []) (u := none) g_q226 g226_1 (j := 227) (so := 0) (by decide +kernel) g_q227 rfl (by rw [x_rcM y1 y2]; rfl) (x) ?_
  obtain ⟨⟨hbA, hn12, gs, ln, cd, ip, su, vc, vi, vs, hb, g0, g1, g2, g6, g63, ⟨ln0, vl, ln1, ln2, ln3⟩, ⟨cd1, cd2, cd3⟩, ⟨ip0, ip1, ip2, ip3⟩, su1, su2, su3⟩, hD, hU, inj⟩ := id hB2
  obtain ⟨dD, dw, dw1, dw2, dw3, dw4⟩ := hD p hp
  obtain ⟨u1, uw, u2, u3, u4⟩ := hU p hp
  have hbb := bitP_b (a := (fxN n op lf rt nl sv 73 (fun _ => 0)) p) (s := f)
  by_cases hbt : bitP ((fxN n op lf rt nl sv 73 (fun _ => 0)) p) f = 1
  · rw [show yrN (op p) (lf p) (rt p) (nl p) ((fxN n op lf rt nl sv 73 (fun _ => 0)) p) f = 1 from if_pos hbt]
    refine xT_aload_n g_q226 g226_4 (rfl) ?_
    refine xT_getfield g_q226 g226_5 hbA rfl hb rfl g63 ?_
    refine xT_iload_n g_q226 g226_8 (rfl) ?_
    refine xT_aaload g_q226 g226_9 (by decide +kernel) su1 (ixN (n := 12) (by omega) su2) (ixG (by omega) (su3 _ (by omega))) ?_
    refine xT_iload_n g_q226 g226_10 (rfl) ?_
    refine xT_baload g_q226 g226_11 u1 u2 (ixN (n := 6) (by omega) u3) (ixG (by omega) (u4 _ (by omega) trivial)) ?_
    refine xT_ifCondN g_q226 g226_12 (t := 17) (by decide) (c0N (a := bitP ((fxN n op lf rt nl sv 73 (fun _ => 0)) p) f) (b := 0) (by omega) (by omega) (by omega)) ?_
    refine xT_icV (y := nI (1)) g_q226 g226_15 (by decide) ?_
    exact xT_ireturn g_q226 g226_16 (rfl)
  · rw [show yrN (op p) (lf p) (rt p) (nl p) ((fxN n op lf rt nl sv 73 (fun _ => 0)) p) f = (if qN (op p) (lf p) (rt p) ((fxN n op lf rt nl sv 73 (fun _ => 0)) p) f (nl p) 0 = 1 then 2 else 0) from if_neg hbt]
    refine xT_aload_n g_q226 g226_4 (rfl) ?_
    refine xT_getfield g_q226 g226_5 hbA rfl hb rfl g63 ?_
    refine xT_iload_n g_q226 g226_8 (rfl) ?_
    refine xT_aaload g_q226 g226_9 (by decide +kernel) su1 (ixN (n := 12) (by omega) su2) (ixG (by omega) (su3 _ (by omega))) ?_
    refine xT_iload_n g_q226 g226_10 (rfl) ?_
    refine xT_baload g_q226 g226_11 u1 u2 (ixN (n := 6) (by omega) u3) (ixG (by omega) (u4 _ (by omega) trivial)) ?_
    refine xT_ifCondY g_q226 g226_12 (t := 17) (by decide) (c0Y (a := bitP ((fxN n op lf rt nl sv 73 (fun _ => 0)) p) f) (b := 0) (by omega)) ?_
    refine xT_icV (y := nI (0)) g_q226 g226_17 (by decide) ?_
    refine xT_istore_n g_q226 g226_18 (by decide) ?_
    exact t226_l hB2 ho hp hf (nl p) 0 _ (by omega) (lkN (by decide) (rfl)) (lkN (by decide) (rfl)) (lkN (by decide) (rfl)) (lkY)
end XH5_23
