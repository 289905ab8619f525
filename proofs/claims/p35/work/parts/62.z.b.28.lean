/-! p35 by hand, 27. -/
noncomputable section XH3527
variable {ot : XO Int32} {dp : Nat} {H : List (XC Int32)} {p n m : Nat} {r : Nat → Nat} {pl mi la we ord hf : Nat → Nat}
theorem t152 {a : Nat} {fs : List (XV Int32)} (haA : ¬ 1000000 < a) (ha : H[a]? = some (.inl (0, fs))) (h16 : fs[16]? = some (.inr (some p))) (hP : isPo H p n r pl mi la we ord hf (2 ^ n)) (hB : stB pl mi la we) (h9 : ∀ k, hf k ≤ 9) {g w : Nat} (hg1 : 1 ≤ g) (hg : g ≤ 3) (hw4 : w ≤ 4) (hw : w < g + 2) : x_To x_tb x_tyl ot (dp + 3) 152 0 (x_en 0 [.inr (some (a)), .inl (nI (g)), .inl (nI (w))]) [] H 0 0 (some (.inl (nI (poN hf we n g w)))) H := by
  obtain ⟨⟨hpA, hp, h8⟩, -⟩ := id hP
  obtain ⟨s1, s2, s3⟩ := b_shl n (by omega)
  have hme := bsN_lt (ok := fun j => decide (hf j ≤ g)) (wt := fun j => wtD we j n) (2 ^ n) (by omega)
  rcases (show w = 0 ∨ w = 1 ∨ w = 2 ∨ w = 3 ∨ w = 4 by omega) with rfl | rfl | rfl | rfl | rfl
  · skip
    refine xT_iload_n g_q152 g152_0 (rfl) ?_
    refine xT_icV (y := nI (0)) g_q152 g152_1 (by decide) ?_
    refine xT_icV (y := nI (4)) g_q152 g152_2 (by decide) ?_
    refine xT_invokestatic (r := []) (u := some (.inl (nI (1)))) g_q152 g152_3 (j := 35) (so := 2) (by decide +kernel) g_q35 (rfl) (t35Y (by decide) (by decide)) ?_
    refine xT_ifCondY g_q152 g152_6 (t := 11) (by decide) (c1Y (a := 1) (b := 0) (by omega) (by omega) (by omega)) ?_
    refine xT_iload_n g_q152 g152_11 (rfl) ?_
    refine xT_icV (y := nI (1)) g_q152 g152_12 (by decide) ?_
    refine xT_icV (y := nI (3)) g_q152 g152_13 (by decide) ?_
    refine xT_invokestatic (r := []) (u := some (.inl (nI (1)))) g_q152 g152_14 (j := 35) (so := 2) (by decide +kernel) g_q35 (rfl) (t35Y (fun z => by have := (nI_ltI (by omega) (by omega)).mp z; omega) (fun z => by have := (nI_ltI (by omega) (by omega)).mp z; omega)) ?_
    refine xT_ifCondY g_q152 g152_17 (t := 23) (by decide) (c1Y (a := 1) (b := 0) (by omega) (by omega) (by omega)) ?_
    refine xT_iload_n g_q152 g152_23 (rfl) ?_
    refine xT_icV (y := nI (2)) g_q152 g152_24 (by decide) ?_
    refine xT_isubV (y := x_bin 1 (nI 0) (nI 2)) g_q152 g152_25 (rfl) ?_
    refine xT_iload_n g_q152 g152_26 (rfl) ?_
    refine xT_if_icmpY g_q152 g152_27 (t := 32) (by decide) ((b_m2 g (by omega) hg1).1) ?_
    refine xT_aload_n g_q152 g152_32 (rfl) ?_
    refine xT_getfield g_q152 g152_33 haA rfl ha rfl h16 ?_
    refine xT_iload_n g_q152 g152_36 (rfl) ?_
    refine xT_invokevirtual (r := []) (u := some (.inl (nI ((bsN (fun j => decide (hf j ≤ g)) (fun j => wtD we j n) (2 ^ n)))))) g_q152 g152_37 (j := 153) (so := 0) (by decide +kernel) g_q153 rfl (by rw [x_rcM hpA hp]; rfl) (t153 hP hB h9 (Nat.le_refl _) hg) ?_
    refine xT_istore_n g_q152 g152_40 (by decide) ?_
    refine xT_iload_n g_q152 g152_41 (lkN (by decide) (rfl)) ?_
    refine xT_lookupswitch g_q152 g152_42 (t := 68) (by decide) (by decide) (by decide) ?_
    refine xT_aload_n g_q152 g152_68 (lkN (by decide) (rfl)) ?_
    refine xT_getfield g_q152 g152_69 haA rfl ha rfl h16 ?_
    refine xT_iload_n g_q152 g152_72 (lkY) ?_
    refine xT_invokevirtual (r := []) (u := some (.inl (nI (wtD we (bsN (fun j => decide (hf j ≤ g)) (fun j => wtD we j n) (2 ^ n)) n)))) g_q152 g152_73 (j := 154) (so := 0) (by decide +kernel) g_q154 rfl (by rw [x_rcM hpA hp]; rfl) (t154 (dp := dp + 1) hP (by omega)) ?_
    exact xT_ireturn g_q152 g152_76 (rfl)
  · skip
    refine xT_iload_n g_q152 g152_0 (rfl) ?_
    refine xT_icV (y := nI (0)) g_q152 g152_1 (by decide) ?_
    refine xT_icV (y := nI (4)) g_q152 g152_2 (by decide) ?_
    refine xT_invokestatic (r := []) (u := some (.inl (nI (1)))) g_q152 g152_3 (j := 35) (so := 2) (by decide +kernel) g_q35 (rfl) (t35Y (by decide) (by decide)) ?_
    refine xT_ifCondY g_q152 g152_6 (t := 11) (by decide) (c1Y (a := 1) (b := 0) (by omega) (by omega) (by omega)) ?_
    refine xT_iload_n g_q152 g152_11 (rfl) ?_
    refine xT_icV (y := nI (1)) g_q152 g152_12 (by decide) ?_
    refine xT_icV (y := nI (3)) g_q152 g152_13 (by decide) ?_
    refine xT_invokestatic (r := []) (u := some (.inl (nI (1)))) g_q152 g152_14 (j := 35) (so := 2) (by decide +kernel) g_q35 (rfl) (t35Y (fun z => by have := (nI_ltI (by omega) (by omega)).mp z; omega) (fun z => by have := (nI_ltI (by omega) (by omega)).mp z; omega)) ?_
    refine xT_ifCondY g_q152 g152_17 (t := 23) (by decide) (c1Y (a := 1) (b := 0) (by omega) (by omega) (by omega)) ?_
    refine xT_iload_n g_q152 g152_23 (rfl) ?_
    refine xT_icV (y := nI (2)) g_q152 g152_24 (by decide) ?_
    refine xT_isubV (y := x_bin 1 (nI 1) (nI 2)) g_q152 g152_25 (rfl) ?_
    refine xT_iload_n g_q152 g152_26 (rfl) ?_
    refine xT_if_icmpY g_q152 g152_27 (t := 32) (by decide) ((b_m2 g (by omega) hg1).2) ?_
    refine xT_aload_n g_q152 g152_32 (rfl) ?_
    refine xT_getfield g_q152 g152_33 haA rfl ha rfl h16 ?_
    refine xT_iload_n g_q152 g152_36 (rfl) ?_
    refine xT_invokevirtual (r := []) (u := some (.inl (nI ((bsN (fun j => decide (hf j ≤ g)) (fun j => wtD we j n) (2 ^ n)))))) g_q152 g152_37 (j := 153) (so := 0) (by decide +kernel) g_q153 rfl (by rw [x_rcM hpA hp]; rfl) (t153 hP hB h9 (Nat.le_refl _) hg) ?_
    refine xT_istore_n g_q152 g152_40 (by decide) ?_
    refine xT_iload_n g_q152 g152_41 (lkN (by decide) (rfl)) ?_
    refine xT_lookupswitch g_q152 g152_42 (t := 77) (by decide) (by decide) (by decide) ?_
    refine xT_iload_n g_q152 g152_77 (lkY) ?_
    exact xT_ireturn g_q152 g152_78 (rfl)
  · skip
    refine xT_iload_n g_q152 g152_0 (rfl) ?_
    refine xT_icV (y := nI (0)) g_q152 g152_1 (by decide) ?_
    refine xT_icV (y := nI (4)) g_q152 g152_2 (by decide) ?_
    refine xT_invokestatic (r := []) (u := some (.inl (nI (1)))) g_q152 g152_3 (j := 35) (so := 2) (by decide +kernel) g_q35 (rfl) (t35Y (by decide) (by decide)) ?_
    refine xT_ifCondY g_q152 g152_6 (t := 11) (by decide) (c1Y (a := 1) (b := 0) (by omega) (by omega) (by omega)) ?_
    refine xT_iload_n g_q152 g152_11 (rfl) ?_
    refine xT_icV (y := nI (1)) g_q152 g152_12 (by decide) ?_
    refine xT_icV (y := nI (3)) g_q152 g152_13 (by decide) ?_
    refine xT_invokestatic (r := []) (u := some (.inl (nI (1)))) g_q152 g152_14 (j := 35) (so := 2) (by decide +kernel) g_q35 (rfl) (t35Y (fun z => by have := (nI_ltI (by omega) (by omega)).mp z; omega) (fun z => by have := (nI_ltI (by omega) (by omega)).mp z; omega)) ?_
    refine xT_ifCondY g_q152 g152_17 (t := 23) (by decide) (c1Y (a := 1) (b := 0) (by omega) (by omega) (by omega)) ?_
    refine xT_iload_n g_q152 g152_23 (rfl) ?_
    refine xT_icV (y := nI (2)) g_q152 g152_24 (by decide) ?_
    refine xT_isubV (y := nI (0)) g_q152 g152_25 (by decide) ?_
    refine xT_iload_n g_q152 g152_26 (rfl) ?_
    refine xT_if_icmpY g_q152 g152_27 (t := 32) (by decide) (c2Y (a := 0) (b := g) (by omega) (by omega) (by omega)) ?_
    refine xT_aload_n g_q152 g152_32 (rfl) ?_
    refine xT_getfield g_q152 g152_33 haA rfl ha rfl h16 ?_
    refine xT_iload_n g_q152 g152_36 (rfl) ?_
    refine xT_invokevirtual (r := []) (u := some (.inl (nI ((bsN (fun j => decide (hf j ≤ g)) (fun j => wtD we j n) (2 ^ n)))))) g_q152 g152_37 (j := 153) (so := 0) (by decide +kernel) g_q153 rfl (by rw [x_rcM hpA hp]; rfl) (t153 hP hB h9 (Nat.le_refl _) hg) ?_
    refine xT_istore_n g_q152 g152_40 (by decide) ?_
    refine xT_iload_n g_q152 g152_41 (lkN (by decide) (rfl)) ?_
    refine xT_lookupswitch g_q152 g152_42 (t := 79) (by decide) (by decide) (by decide) ?_
    refine xT_aload_n g_q152 g152_79 (lkN (by decide) (rfl)) ?_
    refine xT_getfield g_q152 g152_80 haA rfl ha rfl h16 ?_
    refine xT_iload_n g_q152 g152_83 (lkY) ?_
    refine xT_iload_n g_q152 g152_84 (lkN (by decide) (rfl)) ?_
    refine xT_iload_n g_q152 g152_85 (lkN (by decide) (rfl)) ?_
    refine xT_icV (y := nI (2)) g_q152 g152_86 (by decide) ?_
    refine xT_isubV (y := nI (0)) g_q152 g152_87 (by decide) ?_
    refine xT_invokevirtual (r := []) (u := some (.inl (nI (gpN hf (rsN hf g (bsN (fun j => decide (hf j ≤ g)) (fun j => wtD we j n) (2 ^ n)) 0) (g - 1 - 0) (rsN hf g (bsN (fun j => decide (hf j ≤ g)) (fun j => wtD we j n) (2 ^ n)) 0))))) g_q152 g152_88 (j := 155) (so := 0) (by decide +kernel) g_q155 rfl (by rw [x_rcM hpA hp]; rfl) (t155 (z := 0) hP h9 (by omega) hme hg (by omega)) ?_
    exact xT_ireturn g_q152 g152_91 (rfl)
  · skip
    refine xT_iload_n g_q152 g152_0 (rfl) ?_
    refine xT_icV (y := nI (0)) g_q152 g152_1 (by decide) ?_
    refine xT_icV (y := nI (4)) g_q152 g152_2 (by decide) ?_
    refine xT_invokestatic (r := []) (u := some (.inl (nI (1)))) g_q152 g152_3 (j := 35) (so := 2) (by decide +kernel) g_q35 (rfl) (t35Y (by decide) (by decide)) ?_
    refine xT_ifCondY g_q152 g152_6 (t := 11) (by decide) (c1Y (a := 1) (b := 0) (by omega) (by omega) (by omega)) ?_
    refine xT_iload_n g_q152 g152_11 (rfl) ?_
    refine xT_icV (y := nI (1)) g_q152 g152_12 (by decide) ?_
    refine xT_icV (y := nI (3)) g_q152 g152_13 (by decide) ?_
    refine xT_invokestatic (r := []) (u := some (.inl (nI (1)))) g_q152 g152_14 (j := 35) (so := 2) (by decide +kernel) g_q35 (rfl) (t35Y (fun z => by have := (nI_ltI (by omega) (by omega)).mp z; omega) (fun z => by have := (nI_ltI (by omega) (by omega)).mp z; omega)) ?_
    refine xT_ifCondY g_q152 g152_17 (t := 23) (by decide) (c1Y (a := 1) (b := 0) (by omega) (by omega) (by omega)) ?_
    refine xT_iload_n g_q152 g152_23 (rfl) ?_
    refine xT_icV (y := nI (2)) g_q152 g152_24 (by decide) ?_
    refine xT_isubV (y := nI (1)) g_q152 g152_25 (by decide) ?_
    refine xT_iload_n g_q152 g152_26 (rfl) ?_
    refine xT_if_icmpY g_q152 g152_27 (t := 32) (by decide) (c2Y (a := 1) (b := g) (by omega) (by omega) (by omega)) ?_
    refine xT_aload_n g_q152 g152_32 (rfl) ?_
    refine xT_getfield g_q152 g152_33 haA rfl ha rfl h16 ?_
    refine xT_iload_n g_q152 g152_36 (rfl) ?_
    refine xT_invokevirtual (r := []) (u := some (.inl (nI ((bsN (fun j => decide (hf j ≤ g)) (fun j => wtD we j n) (2 ^ n)))))) g_q152 g152_37 (j := 153) (so := 0) (by decide +kernel) g_q153 rfl (by rw [x_rcM hpA hp]; rfl) (t153 hP hB h9 (Nat.le_refl _) hg) ?_
    refine xT_istore_n g_q152 g152_40 (by decide) ?_
    refine xT_iload_n g_q152 g152_41 (lkN (by decide) (rfl)) ?_
    refine xT_lookupswitch g_q152 g152_42 (t := 79) (by decide) (by decide) (by decide) ?_
    refine xT_aload_n g_q152 g152_79 (lkN (by decide) (rfl)) ?_
    refine xT_getfield g_q152 g152_80 haA rfl ha rfl h16 ?_
    refine xT_iload_n g_q152 g152_83 (lkY) ?_
    refine xT_iload_n g_q152 g152_84 (lkN (by decide) (rfl)) ?_
    refine xT_iload_n g_q152 g152_85 (lkN (by decide) (rfl)) ?_
    refine xT_icV (y := nI (2)) g_q152 g152_86 (by decide) ?_
    refine xT_isubV (y := nI (1)) g_q152 g152_87 (by decide) ?_
    refine xT_invokevirtual (r := []) (u := some (.inl (nI (gpN hf (rsN hf g (bsN (fun j => decide (hf j ≤ g)) (fun j => wtD we j n) (2 ^ n)) 1) (g - 1 - 1) (rsN hf g (bsN (fun j => decide (hf j ≤ g)) (fun j => wtD we j n) (2 ^ n)) 1))))) g_q152 g152_88 (j := 155) (so := 0) (by decide +kernel) g_q155 rfl (by rw [x_rcM hpA hp]; rfl) (t155 (z := 1) hP h9 (by omega) hme hg (by omega)) ?_
    exact xT_ireturn g_q152 g152_91 (rfl)
  · skip
    refine xT_iload_n g_q152 g152_0 (rfl) ?_
    refine xT_icV (y := nI (0)) g_q152 g152_1 (by decide) ?_
    refine xT_icV (y := nI (4)) g_q152 g152_2 (by decide) ?_
    refine xT_invokestatic (r := []) (u := some (.inl (nI (1)))) g_q152 g152_3 (j := 35) (so := 2) (by decide +kernel) g_q35 (rfl) (t35Y (by decide) (by decide)) ?_
    refine xT_ifCondY g_q152 g152_6 (t := 11) (by decide) (c1Y (a := 1) (b := 0) (by omega) (by omega) (by omega)) ?_
    refine xT_iload_n g_q152 g152_11 (rfl) ?_
    refine xT_icV (y := nI (1)) g_q152 g152_12 (by decide) ?_
    refine xT_icV (y := nI (3)) g_q152 g152_13 (by decide) ?_
    refine xT_invokestatic (r := []) (u := some (.inl (nI (1)))) g_q152 g152_14 (j := 35) (so := 2) (by decide +kernel) g_q35 (rfl) (t35Y (fun z => by have := (nI_ltI (by omega) (by omega)).mp z; omega) (fun z => by have := (nI_ltI (by omega) (by omega)).mp z; omega)) ?_
    refine xT_ifCondY g_q152 g152_17 (t := 23) (by decide) (c1Y (a := 1) (b := 0) (by omega) (by omega) (by omega)) ?_
    refine xT_iload_n g_q152 g152_23 (rfl) ?_
    refine xT_icV (y := nI (2)) g_q152 g152_24 (by decide) ?_
    refine xT_isubV (y := nI (2)) g_q152 g152_25 (by decide) ?_
    refine xT_iload_n g_q152 g152_26 (rfl) ?_
    refine xT_if_icmpY g_q152 g152_27 (t := 32) (by decide) (c2Y (a := 2) (b := g) (by omega) (by omega) (by omega)) ?_
    refine xT_aload_n g_q152 g152_32 (rfl) ?_
    refine xT_getfield g_q152 g152_33 haA rfl ha rfl h16 ?_
    refine xT_iload_n g_q152 g152_36 (rfl) ?_
    refine xT_invokevirtual (r := []) (u := some (.inl (nI ((bsN (fun j => decide (hf j ≤ g)) (fun j => wtD we j n) (2 ^ n)))))) g_q152 g152_37 (j := 153) (so := 0) (by decide +kernel) g_q153 rfl (by rw [x_rcM hpA hp]; rfl) (t153 hP hB h9 (Nat.le_refl _) hg) ?_
    refine xT_istore_n g_q152 g152_40 (by decide) ?_
    refine xT_iload_n g_q152 g152_41 (lkN (by decide) (rfl)) ?_
    refine xT_lookupswitch g_q152 g152_42 (t := 79) (by decide) (by decide) (by decide) ?_
    refine xT_aload_n g_q152 g152_79 (lkN (by decide) (rfl)) ?_
    refine xT_getfield g_q152 g152_80 haA rfl ha rfl h16 ?_
    refine xT_iload_n g_q152 g152_83 (lkY) ?_
    refine xT_iload_n g_q152 g152_84 (lkN (by decide) (rfl)) ?_
    refine xT_iload_n g_q152 g152_85 (lkN (by decide) (rfl)) ?_
    refine xT_icV (y := nI (2)) g_q152 g152_86 (by decide) ?_
    refine xT_isubV (y := nI (2)) g_q152 g152_87 (by decide) ?_
    refine xT_invokevirtual (r := []) (u := some (.inl (nI (gpN hf (rsN hf g (bsN (fun j => decide (hf j ≤ g)) (fun j => wtD we j n) (2 ^ n)) 2) (g - 1 - 2) (rsN hf g (bsN (fun j => decide (hf j ≤ g)) (fun j => wtD we j n) (2 ^ n)) 2))))) g_q152 g152_88 (j := 155) (so := 0) (by decide +kernel) g_q155 rfl (by rw [x_rcM hpA hp]; rfl) (t155 (z := 2) hP h9 (by omega) hme hg (by omega)) ?_
    exact xT_ireturn g_q152 g152_91 (rfl)
theorem t152_w {a : Nat} {x w : Int32} (h : w < nI 0 ∨ nI 4 < w) : x_To x_tb x_tyl ot (dp + 3) 152 0 (x_en 0 [.inr (some (a)), .inl (x), .inl (w)]) [] H 0 0 (some (.inl (-1))) H := by
  refine xT_iload_n g_q152 g152_0 (rfl) ?_
  refine xT_icV (y := nI (0)) g_q152 g152_1 (by decide) ?_
  refine xT_icV (y := nI (4)) g_q152 g152_2 (by decide) ?_
  refine xT_invokestatic (r := []) (u := some (.inl (nI (0)))) g_q152 g152_3 (j := 35) (so := 2) (by decide +kernel) g_q35 (rfl) (t35N h) ?_
  refine xT_ifCondN g_q152 g152_6 (t := 11) (by decide) (c1N (b := 0) rfl) ?_
  refine xT_icV (y := -1) g_q152 g152_9 (by decide) ?_
  exact xT_ireturn g_q152 g152_10 (rfl)
theorem t152_g {a : Nat} {x : Int32} {w : Nat} (hw4 : w ≤ 4) (h : x < nI 1 ∨ nI 3 < x) : x_To x_tb x_tyl ot (dp + 3) 152 0 (x_en 0 [.inr (some (a)), .inl (x), .inl (nI (w))]) [] H 0 0 (some (.inl (-2))) H := by
  refine xT_iload_n g_q152 g152_0 (rfl) ?_
  refine xT_icV (y := nI (0)) g_q152 g152_1 (by decide) ?_
  refine xT_icV (y := nI (4)) g_q152 g152_2 (by decide) ?_
  refine xT_invokestatic (r := []) (u := some (.inl (nI (1)))) g_q152 g152_3 (j := 35) (so := 2) (by decide +kernel) g_q35 (rfl) (t35Y (fun z => by have := (nI_ltI (by omega) (by omega)).mp z; omega) (fun z => by have := (nI_ltI (by omega) (by omega)).mp z; omega)) ?_
  refine xT_ifCondY g_q152 g152_6 (t := 11) (by decide) (c1Y (a := 1) (b := 0) (by omega) (by omega) (by omega)) ?_
  refine xT_iload_n g_q152 g152_11 (rfl) ?_
  refine xT_icV (y := nI (1)) g_q152 g152_12 (by decide) ?_
  refine xT_icV (y := nI (3)) g_q152 g152_13 (by decide) ?_
  refine xT_invokestatic (r := []) (u := some (.inl (nI (0)))) g_q152 g152_14 (j := 35) (so := 2) (by decide +kernel) g_q35 (rfl) (t35N h) ?_
  refine xT_ifCondN g_q152 g152_17 (t := 23) (by decide) (c1N (b := 0) rfl) ?_
  refine xT_biV (y := -2) g_q152 g152_20 (by decide) ?_
  exact xT_ireturn g_q152 g152_22 (rfl)
theorem t152_h {a g w : Nat} (hg1 : 1 ≤ g) (hg : g ≤ 3) (hw4 : w ≤ 4) (hw : g + 2 ≤ w) : x_To x_tb x_tyl ot (dp + 3) 152 0 (x_en 0 [.inr (some (a)), .inl (nI (g)), .inl (nI (w))]) [] H 0 0 (some (.inl (-1))) H := by
  refine xT_iload_n g_q152 g152_0 (rfl) ?_
  refine xT_icV (y := nI (0)) g_q152 g152_1 (by decide) ?_
  refine xT_icV (y := nI (4)) g_q152 g152_2 (by decide) ?_
  refine xT_invokestatic (r := []) (u := some (.inl (nI (1)))) g_q152 g152_3 (j := 35) (so := 2) (by decide +kernel) g_q35 (rfl) (t35Y (fun z => by have := (nI_ltI (by omega) (by omega)).mp z; omega) (fun z => by have := (nI_ltI (by omega) (by omega)).mp z; omega)) ?_
  refine xT_ifCondY g_q152 g152_6 (t := 11) (by decide) (c1Y (a := 1) (b := 0) (by omega) (by omega) (by omega)) ?_
  refine xT_iload_n g_q152 g152_11 (rfl) ?_
  refine xT_icV (y := nI (1)) g_q152 g152_12 (by decide) ?_
  refine xT_icV (y := nI (3)) g_q152 g152_13 (by decide) ?_
  refine xT_invokestatic (r := []) (u := some (.inl (nI (1)))) g_q152 g152_14 (j := 35) (so := 2) (by decide +kernel) g_q35 (rfl) (t35Y (fun z => by have := (nI_ltI (by omega) (by omega)).mp z; omega) (fun z => by have := (nI_ltI (by omega) (by omega)).mp z; omega)) ?_
  refine xT_ifCondY g_q152 g152_17 (t := 23) (by decide) (c1Y (a := 1) (b := 0) (by omega) (by omega) (by omega)) ?_
  refine xT_iload_n g_q152 g152_23 (rfl) ?_
  refine xT_icV (y := nI (2)) g_q152 g152_24 (by decide) ?_
  refine xT_isubV (y := nI (w - 2)) g_q152 g152_25 (bSubN (by omega)) ?_
  refine xT_iload_n g_q152 g152_26 (rfl) ?_
  refine xT_if_icmpN g_q152 g152_27 (t := 32) (by decide) (c2N (a := w - 2) (b := g) (by omega) (by omega) (by omega)) ?_
  refine xT_icV (y := -1) g_q152 g152_30 (by decide) ?_
  exact xT_ireturn g_q152 g152_31 (rfl)
end XH3527
