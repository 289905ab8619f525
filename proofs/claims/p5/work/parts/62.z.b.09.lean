/-! p5 by hand, 8. -/
noncomputable section XH5_8
variable {ot : XO Int32} {dp : Nat} {H : List (XC Int32)} {a n m : Nat} {P C nl sv S : Nat → Nat} {op lf rt : Nat → Nat → Nat}
theorem t51_l {c : Nat} {op lf rt : Nat → Nat} {nl : Nat} (hC : kC H c op lf rt nl) (h12 : nl ≤ 12) (ho : ∀ l, l < nl → op l ≤ 11 ∧ lf l < 6 ∧ rt l < 6) {s : Nat} (hs : s < 64) : ∀ (d l A : Nat) (L : List (Nat × XV Int32)), l + d = nl → A < 64 → x_lk L 0 = some (.inr (some (c))) → x_lk L 1 = some (.inl (nI (s))) → x_lk L 2 = some (.inl (nI (A))) → x_lk L 3 = some (.inl (nI (l))) → x_To x_tb x_tyl ot (dp + 1) 51 4 L [] H 0 0 (some (.inl (nI (asN op lf rt s d l A)))) H := by
  obtain ⟨hcA, co, ro, rl, rr, hc, c0, c1, c2, c4, ⟨d0, v0, a0, b0, e0⟩, ⟨d1, v1, a1, b1, e1⟩, ⟨d2, v2, a2, b2, e2⟩⟩ := id hC
  intro d
  induction d with
  | zero =>
    intro l A L hl hA l0 l1 l2 l3
    obtain rfl : nl = l := by omega
    rw [show asN op lf rt s 0 nl A = A from rfl]
    refine xT_iload_n g_q51 g51_4 (l3) ?_
    refine xT_aload_n g_q51 g51_5 (l0) ?_
    refine xT_getfield g_q51 g51_6 hcA rfl hc rfl c4 ?_
    refine xT_if_icmpY g_q51 g51_9 (t := 96) (by decide) (c3Y (a := nl) (b := nl) (Nat.le_refl _) (by omega) (by omega)) ?_
    refine xT_iload_n g_q51 g51_96 (l2) ?_
    exact xT_ireturn g_q51 g51_97 (rfl)
  | succ d ih =>
    intro l A L hl hA l0 l1 l2 l3
    obtain ⟨o1, o2, o3⟩ := ho l (by omega)
    obtain ⟨p1, p2, -⟩ := aN_p (s := s) (l := l) o2 o3 hA
    by_cases hq : op l = 7 ∨ op l = 11
    · rw [show asN op lf rt s (d + 1) l A = asN op lf rt s d (l + 1) (aN2 lf rt s l (aN1 lf rt s l A)) from congrArg (asN op lf rt s d (l + 1)) (if_pos hq)]
      by_cases hb1 : bitP s (lf l) = 1
      · have q1 : x_bin 4 (nI A) (x_bin 6 (nI 1) (nI (rt l))) = nI (aN1 lf rt s l A) := (b_or A hA (rt l) o3).1.trans (congrArg nI (show A ||| 2 ^ rt l = aN1 lf rt s l A from (if_pos hb1).symm))
        by_cases hb2 : bitP s (rt l) = 1
        · have q2 : x_bin 4 (nI (aN1 lf rt s l A)) (x_bin 6 (nI 1) (nI (lf l))) = nI (aN2 lf rt s l (aN1 lf rt s l A)) := (b_or _ p1 (lf l) o2).1.trans (congrArg nI (show aN1 lf rt s l A ||| 2 ^ lf l = aN2 lf rt s l (aN1 lf rt s l A) from (if_pos hb2).symm))
          rcases hq with hz | hz
          · skip
            refine xT_iload_n g_q51 g51_4 (l3) ?_
            refine xT_aload_n g_q51 g51_5 (l0) ?_
            refine xT_getfield g_q51 g51_6 hcA rfl hc rfl c4 ?_
            refine xT_if_icmpN g_q51 g51_9 (t := 96) (by decide) (c3N (a := l) (b := nl) (by omega) (by omega) (by omega)) ?_
            refine xT_aload_n g_q51 g51_12 (l0) ?_
            refine xT_getfield g_q51 g51_13 hcA rfl hc rfl c0 ?_
            refine xT_iload_n g_q51 g51_16 (l3) ?_
            refine xT_iaload g_q51 g51_17 (by omega) a0 (ixN (n := 12) (by omega) b0) (ixG (by omega) (e0 _ (by omega))) ?_
            refine xT_biV (y := nI (7)) g_q51 g51_18 (by decide) ?_
            refine xT_if_icmpY g_q51 g51_20 (t := 34) (by decide) (c0Y (a := op l) (b := 7) hz) ?_
            refine xT_iload_n g_q51 g51_34 (l2) ?_
            refine xT_iload_n g_q51 g51_35 (l1) ?_
            refine xT_aload_n g_q51 g51_36 (l0) ?_
            refine xT_getfield g_q51 g51_37 hcA rfl hc rfl c1 ?_
            refine xT_iload_n g_q51 g51_40 (l3) ?_
            refine xT_iaload g_q51 g51_41 (by omega) a1 (ixN (n := 12) (by omega) b1) (ixG (by omega) (e1 _ (by omega))) ?_
            refine xT_invokestatic (r := []) (u := some (.inl (nI (1)))) g_q51 g51_42 (j := 48) (so := 3) (by decide +kernel) g_q48 (rfl) (t48pY hs (by omega) hb1) ?_
            refine xT_ifCondN g_q51 g51_45 (t := 59) (by decide) (c0N (a := 1) (b := 0) (by omega) (by omega) (by omega)) ?_
            refine xT_icV (y := nI (1)) g_q51 g51_48 (by decide) ?_
            refine xT_aload_n g_q51 g51_49 (l0) ?_
            refine xT_getfield g_q51 g51_50 hcA rfl hc rfl c2 ?_
            refine xT_iload_n g_q51 g51_53 (l3) ?_
            refine xT_iaload g_q51 g51_54 (by omega) a2 (ixN (n := 12) (by omega) b2) (ixG (by omega) (e2 _ (by omega))) ?_
            refine xT_ishlV (y := x_bin 6 (nI 1) (nI (rt l))) g_q51 g51_55 (rfl) ?_
            refine xT_goto g_q51 g51_56 (t := 60) (by decide) ?_
            refine xT_iorV (y := nI (aN1 lf rt s l A)) g_q51 g51_60 (q1) ?_
            refine xT_istore_n g_q51 g51_61 (by decide) ?_
            refine xT_iload_n g_q51 g51_62 (lkY) ?_
            refine xT_iload_n g_q51 g51_63 (lkN (by decide) (l1)) ?_
            refine xT_aload_n g_q51 g51_64 (lkN (by decide) (l0)) ?_
            refine xT_getfield g_q51 g51_65 hcA rfl hc rfl c2 ?_
            refine xT_iload_n g_q51 g51_68 (lkN (by decide) (l3)) ?_
            refine xT_iaload g_q51 g51_69 (by omega) a2 (ixN (n := 12) (by omega) b2) (ixG (by omega) (e2 _ (by omega))) ?_
            refine xT_invokestatic (r := []) (u := some (.inl (nI (1)))) g_q51 g51_70 (j := 48) (so := 3) (by decide +kernel) g_q48 (rfl) (t48pY hs (by omega) hb2) ?_
            refine xT_ifCondN g_q51 g51_73 (t := 87) (by decide) (c0N (a := 1) (b := 0) (by omega) (by omega) (by omega)) ?_
            refine xT_icV (y := nI (1)) g_q51 g51_76 (by decide) ?_
            refine xT_aload_n g_q51 g51_77 (lkN (by decide) (l0)) ?_
            refine xT_getfield g_q51 g51_78 hcA rfl hc rfl c1 ?_
            refine xT_iload_n g_q51 g51_81 (lkN (by decide) (l3)) ?_
            refine xT_iaload g_q51 g51_82 (by omega) a1 (ixN (n := 12) (by omega) b1) (ixG (by omega) (e1 _ (by omega))) ?_
            refine xT_ishlV (y := x_bin 6 (nI 1) (nI (lf l))) g_q51 g51_83 (rfl) ?_
            refine xT_goto g_q51 g51_84 (t := 88) (by decide) ?_
            refine xT_iorV (y := nI (aN2 lf rt s l (aN1 lf rt s l A))) g_q51 g51_88 (q2) ?_
            refine xT_istore_n g_q51 g51_89 (by decide) ?_
            refine xT_iincV (y := nI (l + 1)) g_q51 g51_90 (lkN (by decide) (lkN (by decide) (l3))) (by decide) (bIncN _) ?_
            refine xT_goto g_q51 g51_93 (t := 4) (by decide) ?_
            exact ih (l + 1) _ _ (by omega) p2 (lkN (by decide) (lkN (by decide) (lkN (by decide) (l0)))) (lkN (by decide) (lkN (by decide) (lkN (by decide) (l1)))) (lkN (by decide) (lkY)) (lkY)
          · skip
            refine xT_iload_n g_q51 g51_4 (l3) ?_
            refine xT_aload_n g_q51 g51_5 (l0) ?_
            refine xT_getfield g_q51 g51_6 hcA rfl hc rfl c4 ?_
            refine xT_if_icmpN g_q51 g51_9 (t := 96) (by decide) (c3N (a := l) (b := nl) (by omega) (by omega) (by omega)) ?_
            refine xT_aload_n g_q51 g51_12 (l0) ?_
            refine xT_getfield g_q51 g51_13 hcA rfl hc rfl c0 ?_
            refine xT_iload_n g_q51 g51_16 (l3) ?_
            refine xT_iaload g_q51 g51_17 (by omega) a0 (ixN (n := 12) (by omega) b0) (ixG (by omega) (e0 _ (by omega))) ?_
            refine xT_biV (y := nI (7)) g_q51 g51_18 (by decide) ?_
            refine xT_if_icmpN g_q51 g51_20 (t := 34) (by decide) (c0N (a := op l) (b := 7) (by omega) (by omega) (by omega)) ?_
            refine xT_aload_n g_q51 g51_23 (l0) ?_
            refine xT_getfield g_q51 g51_24 hcA rfl hc rfl c0 ?_
            refine xT_iload_n g_q51 g51_27 (l3) ?_
            refine xT_iaload g_q51 g51_28 (by omega) a0 (ixN (n := 12) (by omega) b0) (ixG (by omega) (e0 _ (by omega))) ?_
            refine xT_biV (y := nI (11)) g_q51 g51_29 (by decide) ?_
            refine xT_if_icmpN g_q51 g51_31 (t := 90) (by decide) (c1N (a := op l) (b := 11) hz) ?_
            refine xT_iload_n g_q51 g51_34 (l2) ?_
            refine xT_iload_n g_q51 g51_35 (l1) ?_
            refine xT_aload_n g_q51 g51_36 (l0) ?_
            refine xT_getfield g_q51 g51_37 hcA rfl hc rfl c1 ?_
            refine xT_iload_n g_q51 g51_40 (l3) ?_
            refine xT_iaload g_q51 g51_41 (by omega) a1 (ixN (n := 12) (by omega) b1) (ixG (by omega) (e1 _ (by omega))) ?_
            refine xT_invokestatic (r := []) (u := some (.inl (nI (1)))) g_q51 g51_42 (j := 48) (so := 3) (by decide +kernel) g_q48 (rfl) (t48pY hs (by omega) hb1) ?_
            refine xT_ifCondN g_q51 g51_45 (t := 59) (by decide) (c0N (a := 1) (b := 0) (by omega) (by omega) (by omega)) ?_
            refine xT_icV (y := nI (1)) g_q51 g51_48 (by decide) ?_
            refine xT_aload_n g_q51 g51_49 (l0) ?_
            refine xT_getfield g_q51 g51_50 hcA rfl hc rfl c2 ?_
            refine xT_iload_n g_q51 g51_53 (l3) ?_
            refine xT_iaload g_q51 g51_54 (by omega) a2 (ixN (n := 12) (by omega) b2) (ixG (by omega) (e2 _ (by omega))) ?_
            refine xT_ishlV (y := x_bin 6 (nI 1) (nI (rt l))) g_q51 g51_55 (rfl) ?_
            refine xT_goto g_q51 g51_56 (t := 60) (by decide) ?_
            refine xT_iorV (y := nI (aN1 lf rt s l A)) g_q51 g51_60 (q1) ?_
            refine xT_istore_n g_q51 g51_61 (by decide) ?_
            refine xT_iload_n g_q51 g51_62 (lkY) ?_
            refine xT_iload_n g_q51 g51_63 (lkN (by decide) (l1)) ?_
            refine xT_aload_n g_q51 g51_64 (lkN (by decide) (l0)) ?_
            refine xT_getfield g_q51 g51_65 hcA rfl hc rfl c2 ?_
            refine xT_iload_n g_q51 g51_68 (lkN (by decide) (l3)) ?_
            refine xT_iaload g_q51 g51_69 (by omega) a2 (ixN (n := 12) (by omega) b2) (ixG (by omega) (e2 _ (by omega))) ?_
            refine xT_invokestatic (r := []) (u := some (.inl (nI (1)))) g_q51 g51_70 (j := 48) (so := 3) (by decide +kernel) g_q48 (rfl) (t48pY hs (by omega) hb2) ?_
            refine xT_ifCondN g_q51 g51_73 (t := 87) (by decide) (c0N (a := 1) (b := 0) (by omega) (by omega) (by omega)) ?_
            refine xT_icV (y := nI (1)) g_q51 g51_76 (by decide) ?_
            refine xT_aload_n g_q51 g51_77 (lkN (by decide) (l0)) ?_
            refine xT_getfield g_q51 g51_78 hcA rfl hc rfl c1 ?_
            refine xT_iload_n g_q51 g51_81 (lkN (by decide) (l3)) ?_
            refine xT_iaload g_q51 g51_82 (by omega) a1 (ixN (n := 12) (by omega) b1) (ixG (by omega) (e1 _ (by omega))) ?_
            refine xT_ishlV (y := x_bin 6 (nI 1) (nI (lf l))) g_q51 g51_83 (rfl) ?_
            refine xT_goto g_q51 g51_84 (t := 88) (by decide) ?_
            refine xT_iorV (y := nI (aN2 lf rt s l (aN1 lf rt s l A))) g_q51 g51_88 (q2) ?_
            refine xT_istore_n g_q51 g51_89 (by decide) ?_
            refine xT_iincV (y := nI (l + 1)) g_q51 g51_90 (lkN (by decide) (lkN (by decide) (l3))) (by decide) (bIncN _) ?_
            refine xT_goto g_q51 g51_93 (t := 4) (by decide) ?_
            exact ih (l + 1) _ _ (by omega) p2 (lkN (by decide) (lkN (by decide) (lkN (by decide) (l0)))) (lkN (by decide) (lkN (by decide) (lkN (by decide) (l1)))) (lkN (by decide) (lkY)) (lkY)
        · have q2 : x_bin 4 (nI (aN1 lf rt s l A)) (nI 0) = nI (aN2 lf rt s l (aN1 lf rt s l A)) := (b_or0 _ p1).trans (congrArg nI (show aN1 lf rt s l A = aN2 lf rt s l (aN1 lf rt s l A) from (if_neg hb2).symm))
          rcases hq with hz | hz
          · skip
            refine xT_iload_n g_q51 g51_4 (l3) ?_
            refine xT_aload_n g_q51 g51_5 (l0) ?_
            refine xT_getfield g_q51 g51_6 hcA rfl hc rfl c4 ?_
            refine xT_if_icmpN g_q51 g51_9 (t := 96) (by decide) (c3N (a := l) (b := nl) (by omega) (by omega) (by omega)) ?_
            refine xT_aload_n g_q51 g51_12 (l0) ?_
            refine xT_getfield g_q51 g51_13 hcA rfl hc rfl c0 ?_
            refine xT_iload_n g_q51 g51_16 (l3) ?_
            refine xT_iaload g_q51 g51_17 (by omega) a0 (ixN (n := 12) (by omega) b0) (ixG (by omega) (e0 _ (by omega))) ?_
            refine xT_biV (y := nI (7)) g_q51 g51_18 (by decide) ?_
            refine xT_if_icmpY g_q51 g51_20 (t := 34) (by decide) (c0Y (a := op l) (b := 7) hz) ?_
            refine xT_iload_n g_q51 g51_34 (l2) ?_
            refine xT_iload_n g_q51 g51_35 (l1) ?_
            refine xT_aload_n g_q51 g51_36 (l0) ?_
            refine xT_getfield g_q51 g51_37 hcA rfl hc rfl c1 ?_
            refine xT_iload_n g_q51 g51_40 (l3) ?_
            refine xT_iaload g_q51 g51_41 (by omega) a1 (ixN (n := 12) (by omega) b1) (ixG (by omega) (e1 _ (by omega))) ?_
            refine xT_invokestatic (r := []) (u := some (.inl (nI (1)))) g_q51 g51_42 (j := 48) (so := 3) (by decide +kernel) g_q48 (rfl) (t48pY hs (by omega) hb1) ?_
            refine xT_ifCondN g_q51 g51_45 (t := 59) (by decide) (c0N (a := 1) (b := 0) (by omega) (by omega) (by omega)) ?_
            refine xT_icV (y := nI (1)) g_q51 g51_48 (by decide) ?_
            refine xT_aload_n g_q51 g51_49 (l0) ?_
            refine xT_getfield g_q51 g51_50 hcA rfl hc rfl c2 ?_
            refine xT_iload_n g_q51 g51_53 (l3) ?_
            refine xT_iaload g_q51 g51_54 (by omega) a2 (ixN (n := 12) (by omega) b2) (ixG (by omega) (e2 _ (by omega))) ?_
            refine xT_ishlV (y := x_bin 6 (nI 1) (nI (rt l))) g_q51 g51_55 (rfl) ?_
            refine xT_goto g_q51 g51_56 (t := 60) (by decide) ?_
            refine xT_iorV (y := nI (aN1 lf rt s l A)) g_q51 g51_60 (q1) ?_
            refine xT_istore_n g_q51 g51_61 (by decide) ?_
            refine xT_iload_n g_q51 g51_62 (lkY) ?_
            refine xT_iload_n g_q51 g51_63 (lkN (by decide) (l1)) ?_
            refine xT_aload_n g_q51 g51_64 (lkN (by decide) (l0)) ?_
            refine xT_getfield g_q51 g51_65 hcA rfl hc rfl c2 ?_
            refine xT_iload_n g_q51 g51_68 (lkN (by decide) (l3)) ?_
            refine xT_iaload g_q51 g51_69 (by omega) a2 (ixN (n := 12) (by omega) b2) (ixG (by omega) (e2 _ (by omega))) ?_
            refine xT_invokestatic (r := []) (u := some (.inl (nI (0)))) g_q51 g51_70 (j := 48) (so := 3) (by decide +kernel) g_q48 (rfl) (t48pN hs (by omega) hb2) ?_
            refine xT_ifCondY g_q51 g51_73 (t := 87) (by decide) (c0Y (b := 0) rfl) ?_
            refine xT_icV (y := nI (0)) g_q51 g51_87 (by decide) ?_
            refine xT_iorV (y := nI (aN2 lf rt s l (aN1 lf rt s l A))) g_q51 g51_88 (q2) ?_
            refine xT_istore_n g_q51 g51_89 (by decide) ?_
            refine xT_iincV (y := nI (l + 1)) g_q51 g51_90 (lkN (by decide) (lkN (by decide) (l3))) (by decide) (bIncN _) ?_
            refine xT_goto g_q51 g51_93 (t := 4) (by decide) ?_
            exact ih (l + 1) _ _ (by omega) p2 (lkN (by decide) (lkN (by decide) (lkN (by decide) (l0)))) (lkN (by decide) (lkN (by decide) (lkN (by decide) (l1)))) (lkN (by decide) (lkY)) (lkY)
          · skip
            refine xT_iload_n g_q51 g51_4 (l3) ?_
            refine xT_aload_n g_q51 g51_5 (l0) ?_
            refine xT_getfield g_q51 g51_6 hcA rfl hc rfl c4 ?_
            refine xT_if_icmpN g_q51 g51_9 (t := 96) (by decide) (c3N (a := l) (b := nl) (by omega) (by omega) (by omega)) ?_
            refine xT_aload_n g_q51 g51_12 (l0) ?_
            refine xT_getfield g_q51 g51_13 hcA rfl hc rfl c0 ?_
            refine xT_iload_n g_q51 g51_16 (l3) ?_
            refine xT_iaload g_q51 g51_17 (by omega) a0 (ixN (n := 12) (by omega) b0) (ixG (by omega) (e0 _ (by omega))) ?_
            refine xT_biV (y := nI (7)) g_q51 g51_18 (by decide) ?_
            refine xT_if_icmpN g_q51 g51_20 (t := 34) (by decide) (c0N (a := op l) (b := 7) (by omega) (by omega) (by omega)) ?_
            refine xT_aload_n g_q51 g51_23 (l0) ?_
            refine xT_getfield g_q51 g51_24 hcA rfl hc rfl c0 ?_
            refine xT_iload_n g_q51 g51_27 (l3) ?_
            refine xT_iaload g_q51 g51_28 (by omega) a0 (ixN (n := 12) (by omega) b0) (ixG (by omega) (e0 _ (by omega))) ?_
            refine xT_biV (y := nI (11)) g_q51 g51_29 (by decide) ?_
            refine xT_if_icmpN g_q51 g51_31 (t := 90) (by decide) (c1N (a := op l) (b := 11) hz) ?_
            refine xT_iload_n g_q51 g51_34 (l2) ?_
            refine xT_iload_n g_q51 g51_35 (l1) ?_
            refine xT_aload_n g_q51 g51_36 (l0) ?_
            refine xT_getfield g_q51 g51_37 hcA rfl hc rfl c1 ?_
            refine xT_iload_n g_q51 g51_40 (l3) ?_
            refine xT_iaload g_q51 g51_41 (by omega) a1 (ixN (n := 12) (by omega) b1) (ixG (by omega) (e1 _ (by omega))) ?_
            refine xT_invokestatic (r := []) (u := some (.inl (nI (1)))) g_q51 g51_42 (j := 48) (so := 3) (by decide +kernel) g_q48 (rfl) (t48pY hs (by omega) hb1) ?_
            refine xT_ifCondN g_q51 g51_45 (t := 59) (by decide) (c0N (a := 1) (b := 0) (by omega) (by omega) (by omega)) ?_
            refine xT_icV (y := nI (1)) g_q51 g51_48 (by decide) ?_
            refine xT_aload_n g_q51 g51_49 (l0) ?_
            refine xT_getfield g_q51 g51_50 hcA rfl hc rfl c2 ?_
            refine xT_iload_n g_q51 g51_53 (l3) ?_
            refine xT_iaload g_q51 g51_54 (by omega) a2 (ixN (n := 12) (by omega) b2) (ixG (by omega) (e2 _ (by omega))) ?_
            refine xT_ishlV (y := x_bin 6 (nI 1) (nI (rt l))) g_q51 g51_55 (rfl) ?_
            refine xT_goto g_q51 g51_56 (t := 60) (by decide) ?_
            refine xT_iorV (y := nI (aN1 lf rt s l A)) g_q51 g51_60 (q1) ?_
            refine xT_istore_n g_q51 g51_61 (by decide) ?_
            refine xT_iload_n g_q51 g51_62 (lkY) ?_
            refine xT_iload_n g_q51 g51_63 (lkN (by decide) (l1)) ?_
            refine xT_aload_n g_q51 g51_64 (lkN (by decide) (l0)) ?_
            refine xT_getfield g_q51 g51_65 hcA rfl hc rfl c2 ?_
            refine xT_iload_n g_q51 g51_68 (lkN (by decide) (l3)) ?_
            refine xT_iaload g_q51 g51_69 (by omega) a2 (ixN (n := 12) (by omega) b2) (ixG (by omega) (e2 _ (by omega))) ?_
            refine xT_invokestatic (r := []) (u := some (.inl (nI (0)))) g_q51 g51_70 (j := 48) (so := 3) (by decide +kernel) g_q48 (rfl) (t48pN hs (by omega) hb2) ?_
            refine xT_ifCondY g_q51 g51_73 (t := 87) (by decide) (c0Y (b := 0) rfl) ?_
            refine xT_icV (y := nI (0)) g_q51 g51_87 (by decide) ?_
            refine xT_iorV (y := nI (aN2 lf rt s l (aN1 lf rt s l A))) g_q51 g51_88 (q2) ?_
            refine xT_istore_n g_q51 g51_89 (by decide) ?_
            refine xT_iincV (y := nI (l + 1)) g_q51 g51_90 (lkN (by decide) (lkN (by decide) (l3))) (by decide) (bIncN _) ?_
            refine xT_goto g_q51 g51_93 (t := 4) (by decide) ?_
            exact ih (l + 1) _ _ (by omega) p2 (lkN (by decide) (lkN (by decide) (lkN (by decide) (l0)))) (lkN (by decide) (lkN (by decide) (lkN (by decide) (l1)))) (lkN (by decide) (lkY)) (lkY)
      · have q1 : x_bin 4 (nI A) (nI 0) = nI (aN1 lf rt s l A) := (b_or0 A hA).trans (congrArg nI (show A = aN1 lf rt s l A from (if_neg hb1).symm))
        by_cases hb2 : bitP s (rt l) = 1
        · have q2 : x_bin 4 (nI (aN1 lf rt s l A)) (x_bin 6 (nI 1) (nI (lf l))) = nI (aN2 lf rt s l (aN1 lf rt s l A)) := (b_or _ p1 (lf l) o2).1.trans (congrArg nI (show aN1 lf rt s l A ||| 2 ^ lf l = aN2 lf rt s l (aN1 lf rt s l A) from (if_pos hb2).symm))
          rcases hq with hz | hz
          · skip
            refine xT_iload_n g_q51 g51_4 (l3) ?_
            refine xT_aload_n g_q51 g51_5 (l0) ?_
            refine xT_getfield g_q51 g51_6 hcA rfl hc rfl c4 ?_
            refine xT_if_icmpN g_q51 g51_9 (t := 96) (by decide) (c3N (a := l) (b := nl) (by omega) (by omega) (by omega)) ?_
            refine xT_aload_n g_q51 g51_12 (l0) ?_
            refine xT_getfield g_q51 g51_13 hcA rfl hc rfl c0 ?_
            refine xT_iload_n g_q51 g51_16 (l3) ?_
            refine xT_iaload g_q51 g51_17 (by omega) a0 (ixN (n := 12) (by omega) b0) (ixG (by omega) (e0 _ (by omega))) ?_
            refine xT_biV (y := nI (7)) g_q51 g51_18 (by decide) ?_
            refine xT_if_icmpY g_q51 g51_20 (t := 34) (by decide) (c0Y (a := op l) (b := 7) hz) ?_
            refine xT_iload_n g_q51 g51_34 (l2) ?_
            refine xT_iload_n g_q51 g51_35 (l1) ?_
            refine xT_aload_n g_q51 g51_36 (l0) ?_
            refine xT_getfield g_q51 g51_37 hcA rfl hc rfl c1 ?_
            refine xT_iload_n g_q51 g51_40 (l3) ?_
            refine xT_iaload g_q51 g51_41 (by omega) a1 (ixN (n := 12) (by omega) b1) (ixG (by omega) (e1 _ (by omega))) ?_
            refine xT_invokestatic (r := []) (u := some (.inl (nI (0)))) g_q51 g51_42 (j := 48) (so := 3) (by decide +kernel) g_q48 (rfl) (t48pN hs (by omega) hb1) ?_
            refine xT_ifCondY g_q51 g51_45 (t := 59) (by decide) (c0Y (b := 0) rfl) ?_
            refine xT_icV (y := nI (0)) g_q51 g51_59 (by decide) ?_
            refine xT_iorV (y := nI (aN1 lf rt s l A)) g_q51 g51_60 (q1) ?_
            refine xT_istore_n g_q51 g51_61 (by decide) ?_
            refine xT_iload_n g_q51 g51_62 (lkY) ?_
            refine xT_iload_n g_q51 g51_63 (lkN (by decide) (l1)) ?_
            refine xT_aload_n g_q51 g51_64 (lkN (by decide) (l0)) ?_
            refine xT_getfield g_q51 g51_65 hcA rfl hc rfl c2 ?_
            refine xT_iload_n g_q51 g51_68 (lkN (by decide) (l3)) ?_
            refine xT_iaload g_q51 g51_69 (by omega) a2 (ixN (n := 12) (by omega) b2) (ixG (by omega) (e2 _ (by omega))) ?_
            refine xT_invokestatic (r := []) (u := some (.inl (nI (1)))) g_q51 g51_70 (j := 48) (so := 3) (by decide +kernel) g_q48 (rfl) (t48pY hs (by omega) hb2) ?_
            refine xT_ifCondN g_q51 g51_73 (t := 87) (by decide) (c0N (a := 1) (b := 0) (by omega) (by omega) (by omega)) ?_
            refine xT_icV (y := nI (1)) g_q51 g51_76 (by decide) ?_
            refine xT_aload_n g_q51 g51_77 (lkN (by decide) (l0)) ?_
            refine xT_getfield g_q51 g51_78 hcA rfl hc rfl c1 ?_
            refine xT_iload_n g_q51 g51_81 (lkN (by decide) (l3)) ?_
            refine xT_iaload g_q51 g51_82 (by omega) a1 (ixN (n := 12) (by omega) b1) (ixG (by omega) (e1 _ (by omega))) ?_
            refine xT_ishlV (y := x_bin 6 (nI 1) (nI (lf l))) g_q51 g51_83 (rfl) ?_
            refine xT_goto g_q51 g51_84 (t := 88) (by decide) ?_
            refine xT_iorV (y := nI (aN2 lf rt s l (aN1 lf rt s l A))) g_q51 g51_88 (q2) ?_
            refine xT_istore_n g_q51 g51_89 (by decide) ?_
            refine xT_iincV (y := nI (l + 1)) g_q51 g51_90 (lkN (by decide) (lkN (by decide) (l3))) (by decide) (bIncN _) ?_
            refine xT_goto g_q51 g51_93 (t := 4) (by decide) ?_
            exact ih (l + 1) _ _ (by omega) p2 (lkN (by decide) (lkN (by decide) (lkN (by decide) (l0)))) (lkN (by decide) (lkN (by decide) (lkN (by decide) (l1)))) (lkN (by decide) (lkY)) (lkY)
          · skip
            refine xT_iload_n g_q51 g51_4 (l3) ?_
            refine xT_aload_n g_q51 g51_5 (l0) ?_
            refine xT_getfield g_q51 g51_6 hcA rfl hc rfl c4 ?_
            refine xT_if_icmpN g_q51 g51_9 (t := 96) (by decide) (c3N (a := l) (b := nl) (by omega) (by omega) (by omega)) ?_
            refine xT_aload_n g_q51 g51_12 (l0) ?_
            refine xT_getfield g_q51 g51_13 hcA rfl hc rfl c0 ?_
            refine xT_iload_n g_q51 g51_16 (l3) ?_
            refine xT_iaload g_q51 g51_17 (by omega) a0 (ixN (n := 12) (by omega) b0) (ixG (by omega) (e0 _ (by omega))) ?_
            refine xT_biV (y := nI (7)) g_q51 g51_18 (by decide) ?_
            refine xT_if_icmpN g_q51 g51_20 (t := 34) (by decide) (c0N (a := op l) (b := 7) (by omega) (by omega) (by omega)) ?_
            refine xT_aload_n g_q51 g51_23 (l0) ?_
            refine xT_getfield g_q51 g51_24 hcA rfl hc rfl c0 ?_
            refine xT_iload_n g_q51 g51_27 (l3) ?_
            refine xT_iaload g_q51 g51_28 (by omega) a0 (ixN (n := 12) (by omega) b0) (ixG (by omega) (e0 _ (by omega))) ?_
            refine xT_biV (y := nI (11)) g_q51 g51_29 (by decide) ?_
            refine xT_if_icmpN g_q51 g51_31 (t := 90) (by decide) (c1N (a := op l) (b := 11) hz) ?_
            refine xT_iload_n g_q51 g51_34 (l2) ?_
            refine xT_iload_n g_q51 g51_35 (l1) ?_
            refine xT_aload_n g_q51 g51_36 (l0) ?_
            refine xT_getfield g_q51 g51_37 hcA rfl hc rfl c1 ?_
            refine xT_iload_n g_q51 g51_40 (l3) ?_
            refine xT_iaload g_q51 g51_41 (by omega) a1 (ixN (n := 12) (by omega) b1) (ixG (by omega) (e1 _ (by omega))) ?_
            refine xT_invokestatic (r := []) (u := some (.inl (nI (0)))) g_q51 g51_42 (j := 48) (so := 3) (by decide +kernel) g_q48 (rfl) (t48pN hs (by omega) hb1) ?_
            refine xT_ifCondY g_q51 g51_45 (t := 59) (by decide) (c0Y (b := 0) rfl) ?_
            refine xT_icV (y := nI (0)) g_q51 g51_59 (by decide) ?_
            refine xT_iorV (y := nI (aN1 lf rt s l A)) g_q51 g51_60 (q1) ?_
            refine xT_istore_n g_q51 g51_61 (by decide) ?_
            refine xT_iload_n g_q51 g51_62 (lkY) ?_
            refine xT_iload_n g_q51 g51_63 (lkN (by decide) (l1)) ?_
            refine xT_aload_n g_q51 g51_64 (lkN (by decide) (l0)) ?_
            refine xT_getfield g_q51 g51_65 hcA rfl hc rfl c2 ?_
            refine xT_iload_n g_q51 g51_68 (lkN (by decide) (l3)) ?_
            refine xT_iaload g_q51 g51_69 (by omega) a2 (ixN (n := 12) (by omega) b2) (ixG (by omega) (e2 _ (by omega))) ?_
            refine xT_invokestatic (r := []) (u := some (.inl (nI (1)))) g_q51 g51_70 (j := 48) (so := 3) (by decide +kernel) g_q48 (rfl) (t48pY hs (by omega) hb2) ?_
            refine xT_ifCondN g_q51 g51_73 (t := 87) (by decide) (c0N (a := 1) (b := 0) (by omega) (by omega) (by omega)) ?_
            refine xT_icV (y := nI (1)) g_q51 g51_76 (by decide) ?_
            refine xT_aload_n g_q51 g51_77 (lkN (by decide) (l0)) ?_
            refine xT_getfield g_q51 g51_78 hcA rfl hc rfl c1 ?_
            refine xT_iload_n g_q51 g51_81 (lkN (by decide) (l3)) ?_
            refine xT_iaload g_q51 g51_82 (by omega) a1 (ixN (n := 12) (by omega) b1) (ixG (by omega) (e1 _ (by omega))) ?_
            refine xT_ishlV (y := x_bin 6 (nI 1) (nI (lf l))) g_q51 g51_83 (rfl) ?_
            refine xT_goto g_q51 g51_84 (t := 88) (by decide) ?_
            refine xT_iorV (y := nI (aN2 lf rt s l (aN1 lf rt s l A))) g_q51 g51_88 (q2) ?_
            refine xT_istore_n g_q51 g51_89 (by decide) ?_
            refine xT_iincV (y := nI (l + 1)) g_q51 g51_90 (lkN (by decide) (lkN (by decide) (l3))) (by decide) (bIncN _) ?_
            refine xT_goto g_q51 g51_93 (t := 4) (by decide) ?_
            exact ih (l + 1) _ _ (by omega) p2 (lkN (by decide) (lkN (by decide) (lkN (by decide) (l0)))) (lkN (by decide) (lkN (by decide) (lkN (by decide) (l1)))) (lkN (by decide) (lkY)) (lkY)
        · have q2 : x_bin 4 (nI (aN1 lf rt s l A)) (nI 0) = nI (aN2 lf rt s l (aN1 lf rt s l A)) := (b_or0 _ p1).trans (congrArg nI (show aN1 lf rt s l A = aN2 lf rt s l (aN1 lf rt s l A) from (if_neg hb2).symm))
          rcases hq with hz | hz
          · skip
            refine xT_iload_n g_q51 g51_4 (l3) ?_
            refine xT_aload_n g_q51 g51_5 (l0) ?_
            refine xT_getfield g_q51 g51_6 hcA rfl hc rfl c4 ?_
            refine xT_if_icmpN g_q51 g51_9 (t := 96) (by decide) (c3N (a := l) (b := nl) (by omega) (by omega) (by omega)) ?_
            refine xT_aload_n g_q51 g51_12 (l0) ?_
            refine xT_getfield g_q51 g51_13 hcA rfl hc rfl c0 ?_
            refine xT_iload_n g_q51 g51_16 (l3) ?_
            refine xT_iaload g_q51 g51_17 (by omega) a0 (ixN (n := 12) (by omega) b0) (ixG (by omega) (e0 _ (by omega))) ?_
            refine xT_biV (y := nI (7)) g_q51 g51_18 (by decide) ?_
            refine xT_if_icmpY g_q51 g51_20 (t := 34) (by decide) (c0Y (a := op l) (b := 7) hz) ?_
            refine xT_iload_n g_q51 g51_34 (l2) ?_
            refine xT_iload_n g_q51 g51_35 (l1) ?_
            refine xT_aload_n g_q51 g51_36 (l0) ?_
            refine xT_getfield g_q51 g51_37 hcA rfl hc rfl c1 ?_
            refine xT_iload_n g_q51 g51_40 (l3) ?_
            refine xT_iaload g_q51 g51_41 (by omega) a1 (ixN (n := 12) (by omega) b1) (ixG (by omega) (e1 _ (by omega))) ?_
            refine xT_invokestatic (r := []) (u := some (.inl (nI (0)))) g_q51 g51_42 (j := 48) (so := 3) (by decide +kernel) g_q48 (rfl) (t48pN hs (by omega) hb1) ?_
            refine xT_ifCondY g_q51 g51_45 (t := 59) (by decide) (c0Y (b := 0) rfl) ?_
            refine xT_icV (y := nI (0)) g_q51 g51_59 (by decide) ?_
            refine xT_iorV (y := nI (aN1 lf rt s l A)) g_q51 g51_60 (q1) ?_
            refine xT_istore_n g_q51 g51_61 (by decide) ?_
            refine xT_iload_n g_q51 g51_62 (lkY) ?_
            refine xT_iload_n g_q51 g51_63 (lkN (by decide) (l1)) ?_
            refine xT_aload_n g_q51 g51_64 (lkN (by decide) (l0)) ?_
            refine xT_getfield g_q51 g51_65 hcA rfl hc rfl c2 ?_
            refine xT_iload_n g_q51 g51_68 (lkN (by decide) (l3)) ?_
            refine xT_iaload g_q51 g51_69 (by omega) a2 (ixN (n := 12) (by omega) b2) (ixG (by omega) (e2 _ (by omega))) ?_
            refine xT_invokestatic (r := []) (u := some (.inl (nI (0)))) g_q51 g51_70 (j := 48) (so := 3) (by decide +kernel) g_q48 (rfl) (t48pN hs (by omega) hb2) ?_
            refine xT_ifCondY g_q51 g51_73 (t := 87) (by decide) (c0Y (b := 0) rfl) ?_
            refine xT_icV (y := nI (0)) g_q51 g51_87 (by decide) ?_
            refine xT_iorV (y := nI (aN2 lf rt s l (aN1 lf rt s l A))) g_q51 g51_88 (q2) ?_
            refine xT_istore_n g_q51 g51_89 (by decide) ?_
            refine xT_iincV (y := nI (l + 1)) g_q51 g51_90 (lkN (by decide) (lkN (by decide) (l3))) (by decide) (bIncN _) ?_
            refine xT_goto g_q51 g51_93 (t := 4) (by decide) ?_
            exact ih (l + 1) _ _ (by omega) p2 (lkN (by decide) (lkN (by decide) (lkN (by decide) (l0)))) (lkN (by decide) (lkN (by decide) (lkN (by decide) (l1)))) (lkN (by decide) (lkY)) (lkY)
          · skip
            refine xT_iload_n g_q51 g51_4 (l3) ?_
            refine xT_aload_n g_q51 g51_5 (l0) ?_
            refine xT_getfield g_q51 g51_6 hcA rfl hc rfl c4 ?_
            refine xT_if_icmpN g_q51 g51_9 (t := 96) (by decide) (c3N (a := l) (b := nl) (by omega) (by omega) (by omega)) ?_
            refine xT_aload_n g_q51 g51_12 (l0) ?_
            refine xT_getfield g_q51 g51_13 hcA rfl hc rfl c0 ?_
            refine xT_iload_n g_q51 g51_16 (l3) ?_
            refine xT_iaload g_q51 g51_17 (by omega) a0 (ixN (n := 12) (by omega) b0) (ixG (by omega) (e0 _ (by omega))) ?_
            refine xT_biV (y := nI (7)) g_q51 g51_18 (by decide) ?_
            refine xT_if_icmpN g_q51 g51_20 (t := 34) (by decide) (c0N (a := op l) (b := 7) (by omega) (by omega) (by omega)) ?_
            refine xT_aload_n g_q51 g51_23 (l0) ?_
            refine xT_getfield g_q51 g51_24 hcA rfl hc rfl c0 ?_
            refine xT_iload_n g_q51 g51_27 (l3) ?_
            refine xT_iaload g_q51 g51_28 (by omega) a0 (ixN (n := 12) (by omega) b0) (ixG (by omega) (e0 _ (by omega))) ?_
            refine xT_biV (y := nI (11)) g_q51 g51_29 (by decide) ?_
            refine xT_if_icmpN g_q51 g51_31 (t := 90) (by decide) (c1N (a := op l) (b := 11) hz) ?_
            refine xT_iload_n g_q51 g51_34 (l2) ?_
            refine xT_iload_n g_q51 g51_35 (l1) ?_
            refine xT_aload_n g_q51 g51_36 (l0) ?_
            refine xT_getfield g_q51 g51_37 hcA rfl hc rfl c1 ?_
            refine xT_iload_n g_q51 g51_40 (l3) ?_
            refine xT_iaload g_q51 g51_41 (by omega) a1 (ixN (n := 12) (by omega) b1) (ixG (by omega) (e1 _ (by omega))) ?_
            refine xT_invokestatic (r := []) (u := some (.inl (nI (0)))) g_q51 g51_42 (j := 48) (so := 3) (by decide +kernel) g_q48 (rfl) (t48pN hs (by omega) hb1) ?_
            refine xT_ifCondY g_q51 g51_45 (t := 59) (by decide) (c0Y (b := 0) rfl) ?_
            refine xT_icV (y := nI (0)) g_q51 g51_59 (by decide) ?_
            refine xT_iorV (y := nI (aN1 lf rt s l A)) g_q51 g51_60 (q1) ?_
            refine xT_istore_n g_q51 g51_61 (by decide) ?_
            refine xT_iload_n g_q51 g51_62 (lkY) ?_
            refine xT_iload_n g_q51 g51_63 (lkN (by decide) (l1)) ?_
            refine xT_aload_n g_q51 g51_64 (lkN (by decide) (l0)) ?_
            refine xT_getfield g_q51 g51_65 hcA rfl hc rfl c2 ?_
            refine xT_iload_n g_q51 g51_68 (lkN (by decide) (l3)) ?_
            refine xT_iaload g_q51 g51_69 (by omega) a2 (ixN (n := 12) (by omega) b2) (ixG (by omega) (e2 _ (by omega))) ?_
            refine xT_invokestatic (r := []) (u := some (.inl (nI (0)))) g_q51 g51_70 (j := 48) (so := 3) (by decide +kernel) g_q48 (rfl) (t48pN hs (by omega) hb2) ?_
            refine xT_ifCondY g_q51 g51_73 (t := 87) (by decide) (c0Y (b := 0) rfl) ?_
            refine xT_icV (y := nI (0)) g_q51 g51_87 (by decide) ?_
            refine xT_iorV (y := nI (aN2 lf rt s l (aN1 lf rt s l A))) g_q51 g51_88 (q2) ?_
            refine xT_istore_n g_q51 g51_89 (by decide) ?_
            refine xT_iincV (y := nI (l + 1)) g_q51 g51_90 (lkN (by decide) (lkN (by decide) (l3))) (by decide) (bIncN _) ?_
            refine xT_goto g_q51 g51_93 (t := 4) (by decide) ?_
            exact ih (l + 1) _ _ (by omega) p2 (lkN (by decide) (lkN (by decide) (lkN (by decide) (l0)))) (lkN (by decide) (lkN (by decide) (lkN (by decide) (l1)))) (lkN (by decide) (lkY)) (lkY)
    · rw [show asN op lf rt s (d + 1) l A = asN op lf rt s d (l + 1) A from congrArg (asN op lf rt s d (l + 1)) (if_neg hq)]
      refine xT_iload_n g_q51 g51_4 (l3) ?_
      refine xT_aload_n g_q51 g51_5 (l0) ?_
      refine xT_getfield g_q51 g51_6 hcA rfl hc rfl c4 ?_
      refine xT_if_icmpN g_q51 g51_9 (t := 96) (by decide) (c3N (a := l) (b := nl) (by omega) (by omega) (by omega)) ?_
      refine xT_aload_n g_q51 g51_12 (l0) ?_
      refine xT_getfield g_q51 g51_13 hcA rfl hc rfl c0 ?_
      refine xT_iload_n g_q51 g51_16 (l3) ?_
      refine xT_iaload g_q51 g51_17 (by omega) a0 (ixN (n := 12) (by omega) b0) (ixG (by omega) (e0 _ (by omega))) ?_
      refine xT_biV (y := nI (7)) g_q51 g51_18 (by decide) ?_
      refine xT_if_icmpN g_q51 g51_20 (t := 34) (by decide) (c0N (a := op l) (b := 7) (by omega) (by omega) (by omega)) ?_
      refine xT_aload_n g_q51 g51_23 (l0) ?_
      refine xT_getfield g_q51 g51_24 hcA rfl hc rfl c0 ?_
      refine xT_iload_n g_q51 g51_27 (l3) ?_
      refine xT_iaload g_q51 g51_28 (by omega) a0 (ixN (n := 12) (by omega) b0) (ixG (by omega) (e0 _ (by omega))) ?_
      refine xT_biV (y := nI (11)) g_q51 g51_29 (by decide) ?_
      refine xT_if_icmpY g_q51 g51_31 (t := 90) (by decide) (c1Y (a := op l) (b := 11) (by omega) (by omega) (by omega)) ?_
      refine xT_iincV (y := nI (l + 1)) g_q51 g51_90 (l3) (by decide) (bIncN _) ?_
      refine xT_goto g_q51 g51_93 (t := 4) (by decide) ?_
      exact ih (l + 1) _ _ (by omega) hA (lkN (by decide) (l0)) (lkN (by decide) (l1)) (lkN (by decide) (l2)) (lkY)
theorem t51 {c : Nat} {op lf rt : Nat → Nat} {nl : Nat} (hC : kC H c op lf rt nl) (h12 : nl ≤ 12) (ho : ∀ l, l < nl → op l ≤ 11 ∧ lf l < 6 ∧ rt l < 6) {s : Nat} (hs : s < 64) : x_To x_tb x_tyl ot (dp + 1) 51 0 (x_en 0 [.inr (some (c)), .inl (nI (s))]) [] H 0 0 (some (.inl (nI (asN op lf rt s nl 0 0)))) H := by
  refine xT_icV (y := nI (0)) g_q51 g51_0 (by decide) ?_
  refine xT_istore_n g_q51 g51_1 (by decide) ?_
  refine xT_icV (y := nI (0)) g_q51 g51_2 (by decide) ?_
  refine xT_istore_n g_q51 g51_3 (by decide) ?_
  exact t51_l hC h12 ho hs nl 0 0 _ (by omega) (by omega) (lkN (by decide) (lkN (by decide) (rfl))) (lkN (by decide) (lkN (by decide) (rfl))) (lkN (by decide) (lkY)) (lkY)
end XH5_8
