/-! p5 by hand, 19. -/
noncomputable section XH5_19
variable {ot : XO Int32} {dp : Nat} {H : List (XC Int32)} {a n m : Nat} {P C nl sv S : Nat → Nat} {op lf rt : Nat → Nat → Nat}
theorem rd_up {p x : Nat} {T : Nat → Nat} {v : Nat} (h : v ≠ p + 1) : rdN op lf nl (upF T p x) v = rdN op lf nl T v := by
  rcases v with _ | s
  · rfl
  · show wrN (op s) (lf s) (upF T p x s) (nl s) 0 = wrN (op s) (lf s) (T s) (nl s) 0
    rw [upF_ne (by omega)]
theorem t227_l {b : Nat} {D U : Nat → Nat} {Fin : Option (XV Int32) → List (XC Int32) → Prop} {T : Nat → Nat} {c0 : Nat} (hc0 : c0 = 0 ∨ c0 = 1) (ho : cdOk n op lf rt nl) (hsv : svOk n sv) {p : Nat} (hp : p < n) (kk : ∀ (mo : Nat) (L : List (Nat × XV Int32)) (H : List (XC Int32)), kB H b n D U op lf rt nl sv (upF T p (nwN op lf rt nl sv T p)) (fun _ _ => True) → mo = (if nwN op lf rt nl sv T p = T p then c0 else 1) → x_lk L 0 = some (.inr (some (b))) → x_lk L 1 = some (.inl (nI (mo))) → x_lk L 2 = some (.inl (nI (p))) → ∃ v H2, x_To x_tb x_tyl ot (dp + 2) 227 141 L [] H 0 0 v H2 ∧ Fin v H2) : ∀ (d l all mo : Nat) (L : List (Nat × XV Int32)) (H : List (XC Int32)), l + d = nl p → kB H b n D U op lf rt nl sv (upF T p all) (fun _ _ => True) → all < 64 → T p ≤ all → mo = (if all = T p then c0 else 1) → saN (op p) (lf p) (rt p) (rdN op lf nl T (sv p)) d l all = nwN op lf rt nl sv T p → x_lk L 0 = some (.inr (some (b))) → x_lk L 1 = some (.inl (nI (mo))) → x_lk L 2 = some (.inl (nI (p))) → x_lk L 3 = some (.inl (nI (l))) → ∃ v H2, x_To x_tb x_tyl ot (dp + 2) 227 59 L [] H 0 0 v H2 ∧ Fin v H2 := by
  intro d
  induction d with
  | zero =>
    intro l all mo L H hl hB hall hle hmo hsa l0 l1 l2 l3
    obtain ⟨⟨hbA, hn12, gs, ln, cd, ip, su, vc, vi, vs, hb, g0, g1, g2, g6, g63, ⟨ln0, vl, ln1, ln2, ln3⟩, ⟨cd1, cd2, cd3⟩, ⟨ip0, ip1, ip2, ip3⟩, su1, su2, su3⟩, hD, hU, inj⟩ := id hB
    have hl12 := (ho p hp).1
    obtain rfl : nl p = l := by omega
    obtain rfl : all = nwN op lf rt nl sv T p := hsa
    obtain ⟨v, H2, x, f⟩ := kk mo L H hB hmo l0 l1 l2
    refine ⟨v, H2, ?_, f⟩
    refine xT_iload_n g_q227 g227_59 (l3) ?_
    refine xT_aload_n g_q227 g227_60 (l0) ?_
    refine xT_getfield g_q227 g227_61 hbA rfl hb rfl g1 ?_
    refine xT_iload_n g_q227 g227_64 (l2) ?_
    refine xT_iaload g_q227 g227_65 (by omega) ln1 (ixN (n := 13) (by omega) ln2) (ixG (by omega) (ln3 _ (by omega))) ?_
    refine xT_if_icmpY g_q227 g227_66 (t := 141) (by decide) (c3Y (a := nl p) (b := nl p) (Nat.le_refl _) (by omega) (by omega)) ?_
    exact x
  | succ d ih =>
    intro l all mo L H hl hB hall hle hmo hsa l0 l1 l2 l3
    obtain ⟨⟨hbA, hn12, gs, ln, cd, ip, su, vc, vi, vs, hb, g0, g1, g2, g6, g63, ⟨ln0, vl, ln1, ln2, ln3⟩, ⟨cd1, cd2, cd3⟩, ⟨ip0, ip1, ip2, ip3⟩, su1, su2, su3⟩, hD, hU, inj⟩ := id hB
    obtain ⟨dD, dw, dw1, dw2, dw3, dw4⟩ := hD p hp
    obtain ⟨u1, uw, u2, u3, u4⟩ := hU p hp
    obtain ⟨hl12, hcd⟩ := ho p hp
    obtain ⟨o1, o2, o3⟩ := hcd l (by omega)
    obtain ⟨k0, k1, k2⟩ := dw4 l (by omega)
    obtain ⟨r1, r2, r3⟩ := opR_10 _ (show op p l < 12 by omega)
    have eT : (upF T p all) p = all := upF_eq
    have egv : gvN (op p) (rt p) (rdN op lf nl (upF T p all) (sv p)) ((upF T p all) p) l = gvN (op p) (rt p) (rdN op lf nl T (sv p)) all l := by
      rw [eT, rd_up (hsv p hp).2]
    have hgb := gv_b (op := op p) (rt := rt p) (rd := rdN op lf nl (upF T p all) (sv p)) (all := (upF T p all) p) (l := l) (rd_b _)
    have stepN : gvN (op p) (rt p) (rdN op lf nl (upF T p all) (sv p)) ((upF T p all) p) l = 0 → saN (op p) (lf p) (rt p) (rdN op lf nl T (sv p)) d (l + 1) all = nwN op lf rt nl sv T p := fun z => by
      rw [egv] at z
      rw [← hsa]
      exact (congrArg (saN (op p) (lf p) (rt p) (rdN op lf nl T (sv p)) d (l + 1)) (if_neg (by omega))).symm
    by_cases ht : op p l = 9 ∨ op p l = 10
    · have h10 := r1 ht
      obtain ⟨x1, k1⟩ := dw3 (4 * l + 1) (by omega)
      have hg0 : gvN (op p) (rt p) (rdN op lf nl (upF T p all) (sv p)) ((upF T p all) p) l = 0 := (if_neg (by omega)).trans ((if_neg (by omega)).trans (if_neg (by omega)))
      obtain ⟨v, H2, x, f⟩ := ih (l + 1) all mo (x_st (x_st (x_st (L) 4 (.inl (x1))) 5 (.inl (nI (opR (op (p) l))))) 3 (.inl (nI (l + 1)))) H (by omega) hB hall hle hmo (stepN hg0) (lkN (by decide) (lkN (by decide) (lkN (by decide) (l0)))) (lkN (by decide) (lkN (by decide) (lkN (by decide) (l1)))) (lkN (by decide) (lkN (by decide) (lkN (by decide) (l2)))) (lkY)
      refine ⟨v, H2, ?_, f⟩
      refine xT_iload_n g_q227 g227_59 (l3) ?_
      refine xT_aload_n g_q227 g227_60 (l0) ?_
      refine xT_getfield g_q227 g227_61 hbA rfl hb rfl g1 ?_
      refine xT_iload_n g_q227 g227_64 (l2) ?_
      refine xT_iaload g_q227 g227_65 (by omega) ln1 (ixN (n := 13) (by omega) ln2) (ixG (by omega) (ln3 _ (by omega))) ?_
      refine xT_if_icmpN g_q227 g227_66 (t := 141) (by decide) (c3N (a := l) (b := nl p) (by omega) (by omega) (by omega)) ?_
      refine xT_aload_n g_q227 g227_69 (l0) ?_
      refine xT_getfield g_q227 g227_70 hbA rfl hb rfl g2 ?_
      refine xT_iload_n g_q227 g227_73 (l2) ?_
      refine xT_aaload g_q227 g227_74 (by decide +kernel) cd1 (ixN (n := 13) (by omega) cd2) (ixG (by omega) (cd3 _ (by omega))) ?_
      refine xT_icV (y := nI (4)) g_q227 g227_75 (by decide) ?_
      refine xT_iload_n g_q227 g227_76 (l3) ?_
      refine xT_imulV (y := nI (4 * l)) g_q227 g227_77 (bMulN _ _) ?_
      refine xT_icV (y := nI (1)) g_q227 g227_78 (by decide) ?_
      refine xT_iaddV (y := nI (4 * l + 1)) g_q227 g227_79 (bAddN _ _) ?_
      refine xT_iaload g_q227 g227_80 (by omega) dw1 (ixN (n := 48) (by omega) dw2) (ixG (by omega) k1) ?_
      refine xT_istore g_q227 g227_81 (by decide) ?_
      refine xT_aload_n g_q227 g227_83 (lkN (by decide) (l0)) ?_
      refine xT_getfield g_q227 g227_84 hbA rfl hb rfl g2 ?_
      refine xT_iload_n g_q227 g227_87 (lkN (by decide) (l2)) ?_
      refine xT_aaload g_q227 g227_88 (by decide +kernel) cd1 (ixN (n := 13) (by omega) cd2) (ixG (by omega) (cd3 _ (by omega))) ?_
      refine xT_icV (y := nI (4)) g_q227 g227_89 (by decide) ?_
      refine xT_iload_n g_q227 g227_90 (lkN (by decide) (l3)) ?_
      refine xT_imulV (y := nI (4 * l)) g_q227 g227_91 (bMulN _ _) ?_
      refine xT_iaload g_q227 g227_92 (by omega) dw1 (ixN (n := 48) (by omega) dw2) (ixG (by omega) k0) ?_
      refine xT_istore g_q227 g227_93 (by decide) ?_
      refine xT_iload g_q227 g227_95 (lkY) ?_
      refine xT_biV (y := nI (10)) g_q227 g227_97 (by decide) ?_
      refine xT_if_icmpY g_q227 g227_99 (t := 135) (by decide) (c3Y (a := opR (op p l)) (b := 10) h10 (by omega) (by omega)) ?_
      refine xT_iincV (y := nI (l + 1)) g_q227 g227_135 (lkN (by decide) (lkN (by decide) (l3))) (by decide) (bIncN _) ?_
      refine xT_goto g_q227 g227_138 (t := 59) (by decide) ?_
      exact x
    have h10 := r2 (fun z => ht (Or.inl z)) (fun z => ht (Or.inr z))
    have k1 := k1 (fun z => ht (Or.inl z)) (fun z => ht (Or.inr z))
    rcases hgb with hg0 | hg1
    · skip
      obtain ⟨v, H2, x, f⟩ := ih (l + 1) all mo (x_st (x_st (x_st (L) 4 (.inl (nI (lf (p) l)))) 5 (.inl (nI (opR (op (p) l))))) 3 (.inl (nI (l + 1)))) H (by omega) hB hall hle hmo (stepN hg0) (lkN (by decide) (lkN (by decide) (lkN (by decide) (l0)))) (lkN (by decide) (lkN (by decide) (lkN (by decide) (l1)))) (lkN (by decide) (lkN (by decide) (lkN (by decide) (l2)))) (lkY)
      refine ⟨v, H2, ?_, f⟩
      refine xT_iload_n g_q227 g227_59 (l3) ?_
      refine xT_aload_n g_q227 g227_60 (l0) ?_
      refine xT_getfield g_q227 g227_61 hbA rfl hb rfl g1 ?_
      refine xT_iload_n g_q227 g227_64 (l2) ?_
      refine xT_iaload g_q227 g227_65 (by omega) ln1 (ixN (n := 13) (by omega) ln2) (ixG (by omega) (ln3 _ (by omega))) ?_
      refine xT_if_icmpN g_q227 g227_66 (t := 141) (by decide) (c3N (a := l) (b := nl p) (by omega) (by omega) (by omega)) ?_
      refine xT_aload_n g_q227 g227_69 (l0) ?_
      refine xT_getfield g_q227 g227_70 hbA rfl hb rfl g2 ?_
      refine xT_iload_n g_q227 g227_73 (l2) ?_
      refine xT_aaload g_q227 g227_74 (by decide +kernel) cd1 (ixN (n := 13) (by omega) cd2) (ixG (by omega) (cd3 _ (by omega))) ?_
      refine xT_icV (y := nI (4)) g_q227 g227_75 (by decide) ?_
      refine xT_iload_n g_q227 g227_76 (l3) ?_
      refine xT_imulV (y := nI (4 * l)) g_q227 g227_77 (bMulN _ _) ?_
      refine xT_icV (y := nI (1)) g_q227 g227_78 (by decide) ?_
      refine xT_iaddV (y := nI (4 * l + 1)) g_q227 g227_79 (bAddN _ _) ?_
      refine xT_iaload g_q227 g227_80 (by omega) dw1 (ixN (n := 48) (by omega) dw2) (ixG (by omega) k1) ?_
      refine xT_istore g_q227 g227_81 (by decide) ?_
      refine xT_aload_n g_q227 g227_83 (lkN (by decide) (l0)) ?_
      refine xT_getfield g_q227 g227_84 hbA rfl hb rfl g2 ?_
      refine xT_iload_n g_q227 g227_87 (lkN (by decide) (l2)) ?_
      refine xT_aaload g_q227 g227_88 (by decide +kernel) cd1 (ixN (n := 13) (by omega) cd2) (ixG (by omega) (cd3 _ (by omega))) ?_
      refine xT_icV (y := nI (4)) g_q227 g227_89 (by decide) ?_
      refine xT_iload_n g_q227 g227_90 (lkN (by decide) (l3)) ?_
      refine xT_imulV (y := nI (4 * l)) g_q227 g227_91 (bMulN _ _) ?_
      refine xT_iaload g_q227 g227_92 (by omega) dw1 (ixN (n := 48) (by omega) dw2) (ixG (by omega) k0) ?_
      refine xT_istore g_q227 g227_93 (by decide) ?_
      refine xT_iload g_q227 g227_95 (lkY) ?_
      refine xT_biV (y := nI (10)) g_q227 g227_97 (by decide) ?_
      refine xT_if_icmpN g_q227 g227_99 (t := 135) (by decide) (c3N (a := opR (op p l)) (b := 10) h10 (by omega) (by omega)) ?_
      refine xT_aload_n g_q227 g227_102 (lkN (by decide) (lkN (by decide) (l0))) ?_
      refine xT_iload_n g_q227 g227_103 (lkN (by decide) (lkN (by decide) (l2))) ?_
      refine xT_iload_n g_q227 g227_104 (lkN (by decide) (lkN (by decide) (l3))) ?_
      refine xT_invokevirtual (r := []) (u := some (.inl (nI (gvN (op p) (rt p) (rdN op lf nl (upF T p all) (sv p)) ((upF T p all) p) l)))) g_q227 g227_105 (j := 228) (so := 0) (by decide +kernel) g_q228 rfl (by rw [x_rcM hbA hb]; rfl) (t228 hB ho hsv hp (by omega)) ?_
      refine xT_ifCondY g_q227 g227_108 (t := 135) (by decide) (c0Y (a := gvN (op p) (rt p) (rdN op lf nl (upF T p all) (sv p)) ((upF T p all) p) l) (b := 0) hg0) ?_
      refine xT_iincV (y := nI (l + 1)) g_q227 g227_135 (lkN (by decide) (lkN (by decide) (l3))) (by decide) (bIncN _) ?_
      refine xT_goto g_q227 g227_138 (t := 59) (by decide) ?_
      exact x
    have hsa2 : saN (op p) (lf p) (rt p) (rdN op lf nl T (sv p)) d (l + 1) (all ||| 2 ^ lf p l) = nwN op lf rt nl sv T p := by
      rw [← hsa]
      exact (congrArg (saN (op p) (lf p) (rt p) (rdN op lf nl T (sv p)) d (l + 1)) (if_pos (egv.symm.trans hg1))).symm
    obtain ⟨-, q1, q2, q3, q4⟩ := b_or all hall (lf p l) o2
    have hbb := bitP_b (a := (upF T p all) p) (s := lf p l)
    rcases hbb with hb0 | hb1
    rotate_left
    · have hb2 : bitP all (lf p l) = 1 := by
        rw [← eT]
        exact hb1
      rw [q4 hb2] at hsa2
      obtain ⟨v, H2, x, f⟩ := ih (l + 1) all mo (x_st (x_st (x_st (L) 4 (.inl (nI (lf (p) l)))) 5 (.inl (nI (opR (op (p) l))))) 3 (.inl (nI (l + 1)))) H (by omega) hB hall hle hmo hsa2 (lkN (by decide) (lkN (by decide) (lkN (by decide) (l0)))) (lkN (by decide) (lkN (by decide) (lkN (by decide) (l1)))) (lkN (by decide) (lkN (by decide) (lkN (by decide) (l2)))) (lkY)
      refine ⟨v, H2, ?_, f⟩
      refine xT_iload_n g_q227 g227_59 (l3) ?_
      refine xT_aload_n g_q227 g227_60 (l0) ?_
      refine xT_getfield g_q227 g227_61 hbA rfl hb rfl g1 ?_
      refine xT_iload_n g_q227 g227_64 (l2) ?_
      refine xT_iaload g_q227 g227_65 (by omega) ln1 (ixN (n := 13) (by omega) ln2) (ixG (by omega) (ln3 _ (by omega))) ?_
      refine xT_if_icmpN g_q227 g227_66 (t := 141) (by decide) (c3N (a := l) (b := nl p) (by omega) (by omega) (by omega)) ?_
      refine xT_aload_n g_q227 g227_69 (l0) ?_
      refine xT_getfield g_q227 g227_70 hbA rfl hb rfl g2 ?_
      refine xT_iload_n g_q227 g227_73 (l2) ?_
      refine xT_aaload g_q227 g227_74 (by decide +kernel) cd1 (ixN (n := 13) (by omega) cd2) (ixG (by omega) (cd3 _ (by omega))) ?_
      refine xT_icV (y := nI (4)) g_q227 g227_75 (by decide) ?_
      refine xT_iload_n g_q227 g227_76 (l3) ?_
      refine xT_imulV (y := nI (4 * l)) g_q227 g227_77 (bMulN _ _) ?_
      refine xT_icV (y := nI (1)) g_q227 g227_78 (by decide) ?_
      refine xT_iaddV (y := nI (4 * l + 1)) g_q227 g227_79 (bAddN _ _) ?_
      refine xT_iaload g_q227 g227_80 (by omega) dw1 (ixN (n := 48) (by omega) dw2) (ixG (by omega) k1) ?_
      refine xT_istore g_q227 g227_81 (by decide) ?_
      refine xT_aload_n g_q227 g227_83 (lkN (by decide) (l0)) ?_
      refine xT_getfield g_q227 g227_84 hbA rfl hb rfl g2 ?_
      refine xT_iload_n g_q227 g227_87 (lkN (by decide) (l2)) ?_
      refine xT_aaload g_q227 g227_88 (by decide +kernel) cd1 (ixN (n := 13) (by omega) cd2) (ixG (by omega) (cd3 _ (by omega))) ?_
      refine xT_icV (y := nI (4)) g_q227 g227_89 (by decide) ?_
      refine xT_iload_n g_q227 g227_90 (lkN (by decide) (l3)) ?_
      refine xT_imulV (y := nI (4 * l)) g_q227 g227_91 (bMulN _ _) ?_
      refine xT_iaload g_q227 g227_92 (by omega) dw1 (ixN (n := 48) (by omega) dw2) (ixG (by omega) k0) ?_
      refine xT_istore g_q227 g227_93 (by decide) ?_
      refine xT_iload g_q227 g227_95 (lkY) ?_
      refine xT_biV (y := nI (10)) g_q227 g227_97 (by decide) ?_
      refine xT_if_icmpN g_q227 g227_99 (t := 135) (by decide) (c3N (a := opR (op p l)) (b := 10) h10 (by omega) (by omega)) ?_
      refine xT_aload_n g_q227 g227_102 (lkN (by decide) (lkN (by decide) (l0))) ?_
      refine xT_iload_n g_q227 g227_103 (lkN (by decide) (lkN (by decide) (l2))) ?_
      refine xT_iload_n g_q227 g227_104 (lkN (by decide) (lkN (by decide) (l3))) ?_
      refine xT_invokevirtual (r := []) (u := some (.inl (nI (gvN (op p) (rt p) (rdN op lf nl (upF T p all) (sv p)) ((upF T p all) p) l)))) g_q227 g227_105 (j := 228) (so := 0) (by decide +kernel) g_q228 rfl (by rw [x_rcM hbA hb]; rfl) (t228 hB ho hsv hp (by omega)) ?_
      refine xT_ifCondN g_q227 g227_108 (t := 135) (by decide) (c0N (a := gvN (op p) (rt p) (rdN op lf nl (upF T p all) (sv p)) ((upF T p all) p) l) (b := 0) (by omega) (by omega) (by omega)) ?_
      refine xT_aload_n g_q227 g227_111 (lkN (by decide) (lkN (by decide) (l0))) ?_
      refine xT_getfield g_q227 g227_112 hbA rfl hb rfl g63 ?_
      refine xT_iload_n g_q227 g227_115 (lkN (by decide) (lkN (by decide) (l2))) ?_
      refine xT_aaload g_q227 g227_116 (by decide +kernel) su1 (ixN (n := 12) (by omega) su2) (ixG (by omega) (su3 _ (by omega))) ?_
      refine xT_iload g_q227 g227_117 (lkN (by decide) (lkY)) ?_
      refine xT_baload g_q227 g227_119 u1 u2 (ixN (n := 6) (by omega) u3) (ixG (by omega) (u4 _ (by omega) trivial)) ?_
      refine xT_ifCondY g_q227 g227_120 (t := 135) (by decide) (c1Y (a := bitP ((upF T p all) p) (lf p l)) (b := 0) (by omega) (by omega) (by omega)) ?_
      refine xT_iincV (y := nI (l + 1)) g_q227 g227_135 (lkN (by decide) (lkN (by decide) (l3))) (by decide) (bIncN _) ?_
      refine xT_goto g_q227 g227_138 (t := 59) (by decide) ?_
      exact x
    · have hb2 : bitP all (lf p l) = 0 := by
        rw [← eT]
        exact hb0
      obtain ⟨s1, s2⟩ := q3 hb2
      obtain ⟨v, H2, x, f⟩ := ih (l + 1) (all ||| 2 ^ lf p l) 1 (x_st (x_st (x_st (x_st (L) 4 (.inl (nI (lf (p) l)))) 5 (.inl (nI (opR (op (p) l))))) 1 (.inl (nI (1)))) 3 (.inl (nI (l + 1)))) (H.set (U p) (.inr (1, uw.set (lf p l) (.inl (nI 1))))) (by omega) (kB_set hB hp o2 u2 (fun q f hq hf z => by
        by_cases e : q = p
        · subst e
          rw [upF_eq, upF_eq, b_orb all hall (lf q l) o2 f hf]
          by_cases e2 : f = lf q l
          · rw [if_pos e2]
            exact Or.inl ⟨rfl, e2, rfl⟩
          · rw [if_neg e2]
            exact Or.inr ⟨trivial, fun y => e2 y.2, rfl⟩
        · rw [upF_ne e, upF_ne e]
          exact Or.inr ⟨trivial, fun y => e y.1, rfl⟩)) q1 (by omega) (if_neg (by omega)).symm hsa2 (lkN (by decide) (lkN (by decide) (lkN (by decide) (lkN (by decide) (l0))))) (lkN (by decide) (lkY)) (lkN (by decide) (lkN (by decide) (lkN (by decide) (lkN (by decide) (l2))))) (lkY)
      refine ⟨v, H2, ?_, f⟩
      refine xT_iload_n g_q227 g227_59 (l3) ?_
      refine xT_aload_n g_q227 g227_60 (l0) ?_
      refine xT_getfield g_q227 g227_61 hbA rfl hb rfl g1 ?_
      refine xT_iload_n g_q227 g227_64 (l2) ?_
      refine xT_iaload g_q227 g227_65 (by omega) ln1 (ixN (n := 13) (by omega) ln2) (ixG (by omega) (ln3 _ (by omega))) ?_
      refine xT_if_icmpN g_q227 g227_66 (t := 141) (by decide) (c3N (a := l) (b := nl p) (by omega) (by omega) (by omega)) ?_
      refine xT_aload_n g_q227 g227_69 (l0) ?_
      refine xT_getfield g_q227 g227_70 hbA rfl hb rfl g2 ?_
      refine xT_iload_n g_q227 g227_73 (l2) ?_
      refine xT_aaload g_q227 g227_74 (by decide +kernel) cd1 (ixN (n := 13) (by omega) cd2) (ixG (by omega) (cd3 _ (by omega))) ?_
      refine xT_icV (y := nI (4)) g_q227 g227_75 (by decide) ?_
      refine xT_iload_n g_q227 g227_76 (l3) ?_
      refine xT_imulV (y := nI (4 * l)) g_q227 g227_77 (bMulN _ _) ?_
      refine xT_icV (y := nI (1)) g_q227 g227_78 (by decide) ?_
      refine xT_iaddV (y := nI (4 * l + 1)) g_q227 g227_79 (bAddN _ _) ?_
      refine xT_iaload g_q227 g227_80 (by omega) dw1 (ixN (n := 48) (by omega) dw2) (ixG (by omega) k1) ?_
      refine xT_istore g_q227 g227_81 (by decide) ?_
      refine xT_aload_n g_q227 g227_83 (lkN (by decide) (l0)) ?_
      refine xT_getfield g_q227 g227_84 hbA rfl hb rfl g2 ?_
      refine xT_iload_n g_q227 g227_87 (lkN (by decide) (l2)) ?_
      refine xT_aaload g_q227 g227_88 (by decide +kernel) cd1 (ixN (n := 13) (by omega) cd2) (ixG (by omega) (cd3 _ (by omega))) ?_
      refine xT_icV (y := nI (4)) g_q227 g227_89 (by decide) ?_
      refine xT_iload_n g_q227 g227_90 (lkN (by decide) (l3)) ?_
      refine xT_imulV (y := nI (4 * l)) g_q227 g227_91 (bMulN _ _) ?_
      refine xT_iaload g_q227 g227_92 (by omega) dw1 (ixN (n := 48) (by omega) dw2) (ixG (by omega) k0) ?_
      refine xT_istore g_q227 g227_93 (by decide) ?_
      refine xT_iload g_q227 g227_95 (lkY) ?_
      refine xT_biV (y := nI (10)) g_q227 g227_97 (by decide) ?_
      refine xT_if_icmpN g_q227 g227_99 (t := 135) (by decide) (c3N (a := opR (op p l)) (b := 10) h10 (by omega) (by omega)) ?_
      refine xT_aload_n g_q227 g227_102 (lkN (by decide) (lkN (by decide) (l0))) ?_
      refine xT_iload_n g_q227 g227_103 (lkN (by decide) (lkN (by decide) (l2))) ?_
      refine xT_iload_n g_q227 g227_104 (lkN (by decide) (lkN (by decide) (l3))) ?_
      refine xT_invokevirtual (r := []) (u := some (.inl (nI (gvN (op p) (rt p) (rdN op lf nl (upF T p all) (sv p)) ((upF T p all) p) l)))) g_q227 g227_105 (j := 228) (so := 0) (by decide +kernel) g_q228 rfl (by rw [x_rcM hbA hb]; rfl) (t228 hB ho hsv hp (by omega)) ?_
      refine xT_ifCondN g_q227 g227_108 (t := 135) (by decide) (c0N (a := gvN (op p) (rt p) (rdN op lf nl (upF T p all) (sv p)) ((upF T p all) p) l) (b := 0) (by omega) (by omega) (by omega)) ?_
      refine xT_aload_n g_q227 g227_111 (lkN (by decide) (lkN (by decide) (l0))) ?_
      refine xT_getfield g_q227 g227_112 hbA rfl hb rfl g63 ?_
      refine xT_iload_n g_q227 g227_115 (lkN (by decide) (lkN (by decide) (l2))) ?_
      refine xT_aaload g_q227 g227_116 (by decide +kernel) su1 (ixN (n := 12) (by omega) su2) (ixG (by omega) (su3 _ (by omega))) ?_
      refine xT_iload g_q227 g227_117 (lkN (by decide) (lkY)) ?_
      refine xT_baload g_q227 g227_119 u1 u2 (ixN (n := 6) (by omega) u3) (ixG (by omega) (u4 _ (by omega) trivial)) ?_
      refine xT_ifCondN g_q227 g227_120 (t := 135) (by decide) (c1N (a := bitP ((upF T p all) p) (lf p l)) (b := 0) hb0) ?_
      refine xT_aload_n g_q227 g227_123 (lkN (by decide) (lkN (by decide) (l0))) ?_
      refine xT_getfield g_q227 g227_124 hbA rfl hb rfl g63 ?_
      refine xT_iload_n g_q227 g227_127 (lkN (by decide) (lkN (by decide) (l2))) ?_
      refine xT_aaload g_q227 g227_128 (by decide +kernel) su1 (ixN (n := 12) (by omega) su2) (ixG (by omega) (su3 _ (by omega))) ?_
      refine xT_iload g_q227 g227_129 (lkN (by decide) (lkY)) ?_
      refine xT_icV (y := nI (1)) g_q227 g227_131 (by decide) ?_
      refine xT_b6 g_q227 g227_132 (Or.inr rfl) u2 u3 (by omega) ?_
      refine xT_icV (y := nI (1)) g_q227 g227_133 (by decide) ?_
      refine xT_istore_n g_q227 g227_134 (by decide) ?_
      refine xT_iincV (y := nI (l + 1)) g_q227 g227_135 (lkN (by decide) (lkN (by decide) (lkN (by decide) (l3)))) (by decide) (bIncN _) ?_
      refine xT_goto g_q227 g227_138 (t := 59) (by decide) ?_
      exact x
end XH5_19
