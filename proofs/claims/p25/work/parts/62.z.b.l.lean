/-! p25 by hand, 10. -/
noncomputable section XH2510
variable {ot : XO Int32} {dp : Nat} {H : List (XC Int32)} {c pv rl n lo hi hi_ R : Nat} {a cnt ca : Nat} {vs : List (XV Int32)} {b i : Nat} {y : Nat → Nat}
theorem t118 {u : Nat} (hu : H[u]? = some (.inl (11, [.inl 0, .inl 0, .inl 0, .inl 0, .inl 0, .inl 0]))) : x_To x_tb x_tyl ot dp 118 0 (x_en 0 [.inr (some (u)), .inl (nI (pv)), .inl (nI (rl))]) [] H 0 0 none (H.set u (.inl (11, chL pv rl 0 0 100 7))) := by
  refine xT_aload_n g_q118 g118_0 (rfl) ?_
  refine xT_objectInit g_q118 g118_1 rfl rfl ?_
  refine xT_aload_n g_q118 g118_4 (rfl) ?_
  refine xT_icV (y := nI (0)) g_q118 g118_5 (by decide) ?_
  refine xT_putfield g_q118 g118_6 (ci := 11) (j := 3) (ty := (.int, false)) rfl (hu) rfl rfl ?_
  refine xT_aload_n g_q118 g118_9 (rfl) ?_
  refine xT_biV (y := nI (100)) g_q118 g118_10 (by decide) ?_
  refine xT_putfield g_q118 g118_12 (ci := 11) (j := 4) (ty := (.int, false)) rfl (gself hu) rfl rfl ?_
  rw [set_set]
  refine xT_aload_n g_q118 g118_15 (rfl) ?_
  refine xT_biV (y := nI (7)) g_q118 g118_16 (by decide) ?_
  refine xT_putfield g_q118 g118_18 (ci := 11) (j := 5) (ty := (.int, false)) rfl (gself hu) rfl rfl ?_
  rw [set_set]
  refine xT_aload_n g_q118 g118_21 (rfl) ?_
  refine xT_iload_n g_q118 g118_22 (rfl) ?_
  refine xT_putfield g_q118 g118_23 (ci := 11) (j := 0) (ty := (.int, true)) rfl (gself hu) rfl rfl ?_
  rw [set_set]
  refine xT_aload_n g_q118 g118_26 (rfl) ?_
  refine xT_iload_n g_q118 g118_27 (rfl) ?_
  refine xT_putfield g_q118 g118_28 (ci := 11) (j := 1) (ty := (.int, true)) rfl (gself hu) rfl rfl ?_
  rw [set_set]
  exact xT_return_ g_q118 g118_31 (rfl)
theorem t87Y {r : Nat} (hr : r < 3) : x_To x_tb x_tyl ot (dp + 1) 87 0 (x_en 0 [.inl (nI r)]) [] H 0 0 (some (.inl (nI 1))) H := by
  refine xT_iload_n g_q87 g87_0 (rfl) ?_
  refine xT_icV (y := nI (0)) g_q87 g87_1 (by decide) ?_
  refine xT_icV (y := nI (2)) g_q87 g87_2 (by decide) ?_
  refine xT_invokestatic (r := []) (u := some (.inl (nI (1)))) g_q87 g87_3 (j := 35) (so := 2) (by decide +kernel) g_q35 (rfl) (t35Y (fun z => by have := (nI_ltI (by omega) (by omega)).mp z; omega) (fun z => by have := (nI_ltI (by omega) (by omega)).mp z; omega)) ?_
  exact xT_ireturn g_q87 g87_6 (by decide +kernel)
theorem t87N {w : Int32} (h : w < nI 0 ∨ nI 2 < w) : x_To x_tb x_tyl ot (dp + 1) 87 0 (x_en 0 [.inl w]) [] H 0 0 (some (.inl (nI 0))) H := by
  refine xT_iload_n g_q87 g87_0 (rfl) ?_
  refine xT_icV (y := nI (0)) g_q87 g87_1 (by decide) ?_
  refine xT_icV (y := nI (2)) g_q87 g87_2 (by decide) ?_
  refine xT_invokestatic (r := []) (u := some (.inl (nI (0)))) g_q87 g87_3 (j := 35) (so := 2) (by decide +kernel) g_q35 (rfl) (t35N h) ?_
  exact xT_ireturn g_q87 g87_6 (by decide +kernel)
/-- a pivot, a rule that aren't -/
def badPR (x w : Int32) : Prop := (x < nI 0 ∨ nI 100 < x) ∨ (w < nI 0 ∨ nI 2 < w)
theorem t117_bad (hT : isTwo H a cnt ca vs) {x w : Int32} (hb_ : badPR x w) : ∃ v : Int32, x_To x_tb x_tyl ot (dp + 2) 117 0 (x_en 0 [.inr (some a), .inl x, .inl w]) [] H 0 0 (some (.inl v)) H := by
  obtain ⟨fs, haA, ha, ha12, ha11, hca, hcl, h6⟩ := id hT
  by_cases h1 : x < nI 0 ∨ nI 100 < x
  · refine ⟨-2, ?_⟩
    refine xT_iload_n g_q117 g117_0 (rfl) ?_
    refine xT_icV (y := nI (0)) g_q117 g117_1 (by decide) ?_
    refine xT_biV (y := nI (100)) g_q117 g117_2 (by decide) ?_
    refine xT_invokestatic (r := []) (u := some (.inl (nI (0)))) g_q117 g117_4 (j := 35) (so := 2) (by decide +kernel) g_q35 (rfl) (t35N h1) ?_
    refine xT_ifCondY g_q117 g117_7 (t := 17) (by decide) (c0Y (b := 0) rfl) ?_
    refine xT_biV (y := -2) g_q117 g117_17 (by decide) ?_
    exact xT_ireturn g_q117 g117_19 (rfl)
  · have h2 := hb_.resolve_left h1
    have hx1 : ¬ x < nI 0 := fun z => h1 (Or.inl z)
    have hx2 : ¬ nI 100 < x := fun z => h1 (Or.inr z)
    refine ⟨-2, ?_⟩
    refine xT_iload_n g_q117 g117_0 (rfl) ?_
    refine xT_icV (y := nI (0)) g_q117 g117_1 (by decide) ?_
    refine xT_biV (y := nI (100)) g_q117 g117_2 (by decide) ?_
    refine xT_invokestatic (r := []) (u := some (.inl (nI (1)))) g_q117 g117_4 (j := 35) (so := 2) (by decide +kernel) g_q35 (rfl) (t35Y hx1 hx2) ?_
    refine xT_ifCondN g_q117 g117_7 (t := 17) (by decide) (c0N (a := 1) (b := 0) (by omega) (by omega) (by omega)) ?_
    refine xT_iload_n g_q117 g117_10 (rfl) ?_
    refine xT_invokestatic (r := []) (u := some (.inl (nI (0)))) g_q117 g117_11 (j := 87) (so := 2) (by decide +kernel) g_q87 (rfl) (t87N h2) ?_
    refine xT_ifCondN g_q117 g117_14 (t := 20) (by decide) (c1N (b := 0) rfl) ?_
    refine xT_biV (y := -2) g_q117 g117_17 (by decide) ?_
    exact xT_ireturn g_q117 g117_19 (rfl)
theorem t117_full (hT : isTwo H a cnt ca vs) (hcn : cnt = 6) (hpv : pv ≤ 100) (hrl : rl < 3) : ∃ v : Int32, x_To x_tb x_tyl ot (dp + 2) 117 0 (x_en 0 [.inr (some (a)), .inl (nI (pv)), .inl (nI (rl))]) [] H 0 0 (some (.inl v)) H := by
  obtain ⟨fs, haA, ha, ha12, ha11, hca, hcl, h6⟩ := id hT
  refine ⟨-4, ?_⟩
  refine xT_iload_n g_q117 g117_0 (rfl) ?_
  refine xT_icV (y := nI (0)) g_q117 g117_1 (by decide) ?_
  refine xT_biV (y := nI (100)) g_q117 g117_2 (by decide) ?_
  refine xT_invokestatic (r := []) (u := some (.inl (nI (1)))) g_q117 g117_4 (j := 35) (so := 2) (by decide +kernel) g_q35 (rfl) (t35Y (fun z => by have := (nI_ltI (by omega) (by omega)).mp z; omega) (fun z => by have := (nI_ltI (by omega) (by omega)).mp z; omega)) ?_
  refine xT_ifCondN g_q117 g117_7 (t := 17) (by decide) (c0N (a := 1) (b := 0) (by omega) (by omega) (by omega)) ?_
  refine xT_iload_n g_q117 g117_10 (rfl) ?_
  refine xT_invokestatic (r := []) (u := some (.inl (nI (1)))) g_q117 g117_11 (j := 87) (so := 2) (by decide +kernel) g_q87 (rfl) (t87Y hrl) ?_
  refine xT_ifCondY g_q117 g117_14 (t := 20) (by decide) (c1Y (a := 1) (b := 0) (by omega) (by omega) (by omega)) ?_
  refine xT_aload_n g_q117 g117_20 (rfl) ?_
  refine xT_getfield g_q117 g117_21 haA rfl ha rfl ha12 ?_
  refine xT_biV (y := nI (6)) g_q117 g117_24 (by decide) ?_
  refine xT_if_icmpN g_q117 g117_26 (t := 32) (by decide) (c2N (a := cnt) (b := 6) (by omega) (by omega) (by omega)) ?_
  refine xT_biV (y := -4) g_q117 g117_29 (by decide) ?_
  exact xT_ireturn g_q117 g117_31 (rfl)
theorem t250_bad (hM : isM0 H b cnt) {x w : Int32} (hb_ : badPR x w) : ∃ v : Int32, x_To x_tb x_tyl ot (dp + 2) 250 0 (x_en 0 [.inr (some b), .inl x, .inl w]) [] H 0 0 (some (.inl v)) H := by
  obtain ⟨gs, hbA, hb, h25⟩ := id hM
  by_cases h1 : x < nI 0 ∨ nI 100 < x
  · refine ⟨-2, ?_⟩
    refine xT_iload_n g_q250 g250_0 (rfl) ?_
    refine xT_icV (y := nI (0)) g_q250 g250_1 (by decide) ?_
    refine xT_biV (y := nI (100)) g_q250 g250_2 (by decide) ?_
    refine xT_invokestatic (r := []) (u := some (.inl (nI (0)))) g_q250 g250_4 (j := 181) (so := 2) (by decide +kernel) g_q181 (rfl) (t181N h1) ?_
    refine xT_ifCondY g_q250 g250_7 (t := 19) (by decide) (c0Y (b := 0) rfl) ?_
    refine xT_biV (y := -2) g_q250 g250_19 (by decide) ?_
    exact xT_ireturn g_q250 g250_21 (rfl)
  · have h2 := hb_.resolve_left h1
    have hx1 : ¬ x < nI 0 := fun z => h1 (Or.inl z)
    have hx2 : ¬ nI 100 < x := fun z => h1 (Or.inr z)
    refine ⟨-2, ?_⟩
    refine xT_iload_n g_q250 g250_0 (rfl) ?_
    refine xT_icV (y := nI (0)) g_q250 g250_1 (by decide) ?_
    refine xT_biV (y := nI (100)) g_q250 g250_2 (by decide) ?_
    refine xT_invokestatic (r := []) (u := some (.inl (nI (1)))) g_q250 g250_4 (j := 181) (so := 2) (by decide +kernel) g_q181 (rfl) (t181Y hx1 hx2) ?_
    refine xT_ifCondN g_q250 g250_7 (t := 19) (by decide) (c0N (a := 1) (b := 0) (by omega) (by omega) (by omega)) ?_
    refine xT_iload_n g_q250 g250_10 (rfl) ?_
    refine xT_icV (y := nI (0)) g_q250 g250_11 (by decide) ?_
    refine xT_icV (y := nI (2)) g_q250 g250_12 (by decide) ?_
    refine xT_invokestatic (r := []) (u := some (.inl (nI (0)))) g_q250 g250_13 (j := 181) (so := 2) (by decide +kernel) g_q181 (rfl) (t181N h2) ?_
    refine xT_ifCondN g_q250 g250_16 (t := 22) (by decide) (c1N (b := 0) rfl) ?_
    refine xT_biV (y := -2) g_q250 g250_19 (by decide) ?_
    exact xT_ireturn g_q250 g250_21 (rfl)
theorem t250_full (hM : isM0 H b cnt) (hcn : cnt = 6) (hpv : pv ≤ 100) (hrl : rl < 3) : ∃ v : Int32, x_To x_tb x_tyl ot (dp + 2) 250 0 (x_en 0 [.inr (some (b)), .inl (nI (pv)), .inl (nI (rl))]) [] H 0 0 (some (.inl v)) H := by
  obtain ⟨gs, hbA, hb, h25⟩ := id hM
  refine ⟨-4, ?_⟩
  refine xT_iload_n g_q250 g250_0 (rfl) ?_
  refine xT_icV (y := nI (0)) g_q250 g250_1 (by decide) ?_
  refine xT_biV (y := nI (100)) g_q250 g250_2 (by decide) ?_
  refine xT_invokestatic (r := []) (u := some (.inl (nI (1)))) g_q250 g250_4 (j := 181) (so := 2) (by decide +kernel) g_q181 (rfl) (t181Y (fun z => by have := (nI_ltI (by omega) (by omega)).mp z; omega) (fun z => by have := (nI_ltI (by omega) (by omega)).mp z; omega)) ?_
  refine xT_ifCondN g_q250 g250_7 (t := 19) (by decide) (c0N (a := 1) (b := 0) (by omega) (by omega) (by omega)) ?_
  refine xT_iload_n g_q250 g250_10 (rfl) ?_
  refine xT_icV (y := nI (0)) g_q250 g250_11 (by decide) ?_
  refine xT_icV (y := nI (2)) g_q250 g250_12 (by decide) ?_
  refine xT_invokestatic (r := []) (u := some (.inl (nI (1)))) g_q250 g250_13 (j := 181) (so := 2) (by decide +kernel) g_q181 (rfl) (t181Y (fun z => by have := (nI_ltI (by omega) (by omega)).mp z; omega) (fun z => by have := (nI_ltI (by omega) (by omega)).mp z; omega)) ?_
  refine xT_ifCondY g_q250 g250_16 (t := 22) (by decide) (c1Y (a := 1) (b := 0) (by omega) (by omega) (by omega)) ?_
  refine xT_aload_n g_q250 g250_22 (rfl) ?_
  refine xT_getfield g_q250 g250_23 hbA rfl hb rfl h25 ?_
  refine xT_biV (y := nI (6)) g_q250 g250_26 (by decide) ?_
  refine xT_if_icmpN g_q250 g250_28 (t := 34) (by decide) (c1N (b := 6) hcn) ?_
  refine xT_biV (y := -4) g_q250 g250_31 (by decide) ?_
  exact xT_ireturn g_q250 g250_33 (rfl)
/-- the class behind a new chip -/
theorem t117 {fs : List (XV Int32)} (haA : ¬ 1000000 < a) (ha : H[a]? = some (.inl (0, fs))) (ha12 : fs[12]? = some (.inl (nI cnt))) (ha11 : fs[11]? = some (.inr (some ca))) (hca : H[ca]? = some (.inr (3, vs))) (hcl : vs.length = 6) (hcn : cnt < 6) (hpv : pv ≤ 100) (hrl : rl < 3) (hl : H.length + 1 ≤ 1000000) : ∃ v : Int32, x_To x_tb x_tyl ot (dp + 2) 117 0 (x_en 0 [.inr (some (a)), .inl (nI (pv)), .inl (nI (rl))]) [] H 0 0 (some (.inl v)) (((H ++ [(.inl (11, chL pv rl 0 0 100 7) : XC Int32)]).set ca (.inr (3, vs.set cnt (.inr (some H.length))))).set a (.inl (0, fs.set 12 (.inl (nI (cnt + 1)))))) := by
  have hfl : 12 < fs.length := (List.getElem?_eq_some_iff.mp ha12).1
  have ha1 : ((H ++ [(.inl (11, chL pv rl 0 0 100 7) : XC Int32)]).set ca (.inr (3, vs.set cnt (.inr (some H.length)))))[a]? = some (.inl (0, fs)) := gtag (get_old hca) (get_old ha) (fun e => by cases e)
  have ha2 : (((H ++ [(.inl (11, chL pv rl 0 0 100 7) : XC Int32)]).set ca (.inr (3, vs.set cnt (.inr (some H.length))))).set a (.inl (0, fs.set 12 (.inl (nI (cnt + 1))))))[a]? = some (.inl (0, fs.set 12 (.inl (nI (cnt + 1))))) := gself ha1
  refine ⟨nI (cnt), ?_⟩
  refine xT_iload_n g_q117 g117_0 (rfl) ?_
  refine xT_icV (y := nI (0)) g_q117 g117_1 (by decide) ?_
  refine xT_biV (y := nI (100)) g_q117 g117_2 (by decide) ?_
  refine xT_invokestatic (r := []) (u := some (.inl (nI (1)))) g_q117 g117_4 (j := 35) (so := 2) (by decide +kernel) g_q35 (rfl) (t35Y (fun z => by have := (nI_ltI (by omega) (by omega)).mp z; omega) (fun z => by have := (nI_ltI (by omega) (by omega)).mp z; omega)) ?_
  refine xT_ifCondN g_q117 g117_7 (t := 17) (by decide) (c0N (a := 1) (b := 0) (by omega) (by omega) (by omega)) ?_
  refine xT_iload_n g_q117 g117_10 (rfl) ?_
  refine xT_invokestatic (r := []) (u := some (.inl (nI (1)))) g_q117 g117_11 (j := 87) (so := 2) (by decide +kernel) g_q87 (rfl) (t87Y hrl) ?_
  refine xT_ifCondY g_q117 g117_14 (t := 20) (by decide) (c1Y (a := 1) (b := 0) (by omega) (by omega) (by omega)) ?_
  refine xT_aload_n g_q117 g117_20 (rfl) ?_
  refine xT_getfield g_q117 g117_21 haA rfl ha rfl ha12 ?_
  refine xT_biV (y := nI (6)) g_q117 g117_24 (by decide) ?_
  refine xT_if_icmpY g_q117 g117_26 (t := 32) (by decide) (c2Y (a := cnt) (b := 6) (by omega) (by omega) (by omega)) ?_
  refine xT_aload_n g_q117 g117_32 (rfl) ?_
  refine xT_getfield g_q117 g117_33 haA rfl ha rfl ha11 ?_
  refine xT_aload_n g_q117 g117_36 (rfl) ?_
  refine xT_getfield g_q117 g117_37 haA rfl ha rfl ha12 ?_
  refine xT_new g_q117 g117_40 (ci := 11) rfl (by rw [decide_eq_true hl]; rfl) ?_
  refine xT_dup g_q117 g117_43 ?_
  refine xT_iload_n g_q117 g117_44 (rfl) ?_
  refine xT_iload_n g_q117 g117_45 (rfl) ?_
  refine xT_invokespecial (r := [.inr (some (H.length)), .inl (nI (cnt)), .inr (some (ca))]) (u := none) g_q117 g117_46 (j := 118) (so := 1) (by decide +kernel) (by decide +kernel) g_q118 rfl (rfl) (t118 (get_last _ _)) ?_
  rw [set_last]
  refine xT_aastore g_q117 g117_49 (get_old hca) (get_last _ _) rfl rfl (ixN (n := 6) (by omega) hcl) ?_
  rw [nI_clamp (show cnt < 2 ^ 31 by omega)]
  refine xT_aload_n g_q117 g117_50 (rfl) ?_
  refine xT_dup g_q117 g117_51 ?_
  refine xT_getfield g_q117 g117_52 haA rfl ha1 rfl ha12 ?_
  refine xT_icV (y := nI (1)) g_q117 g117_55 (by decide) ?_
  refine xT_iaddV (y := nI (cnt + 1)) g_q117 g117_56 (bAddN _ _) ?_
  refine xT_putfield g_q117 g117_57 (c2 := 0) (ci := 0) (j := 12) (ty := (.int, false)) rfl ha1 rfl (by rw [decide_eq_true hfl]; rfl) ?_
  refine xT_aload_n g_q117 g117_60 (rfl) ?_
  refine xT_getfield g_q117 g117_61 haA rfl ha2 rfl (gself ha12) ?_
  refine xT_icV (y := nI (1)) g_q117 g117_64 (by decide) ?_
  refine xT_isubV (y := nI (cnt)) g_q117 g117_65 (bSubN (by omega)) ?_
  exact xT_ireturn g_q117 g117_66 (rfl)
/-- the reference behind a new chip -/
theorem t250 {gs vp vr : List (XV Int32)} {cp cr : Nat} (hbA : ¬ 1000000 < b) (hb : H[b]? = some (.inl (12, gs))) (h25 : gs[25]? = some (.inl (nI cnt))) (h26 : gs[26]? = some (.inr (some cp))) (h27 : gs[27]? = some (.inr (some cr))) (hne : cp ≠ cr) (hp1 : H[cp]? = some (.inr (0, vp))) (hp2 : vp.length = 6) (hr1 : H[cr]? = some (.inr (0, vr))) (hr2 : vr.length = 6) (hcn : cnt < 6) (hpv : pv ≤ 100) (hrl : rl < 3) : ∃ v : Int32, x_To x_tb x_tyl ot (dp + 2) 250 0 (x_en 0 [.inr (some (b)), .inl (nI (pv)), .inl (nI (rl))]) [] H 0 0 (some (.inl v)) (((H.set cp (.inr (0, vp.set cnt (.inl (nI pv))))).set cr (.inr (0, vr.set cnt (.inl (nI rl))))).set b (.inl (12, gs.set 25 (.inl (nI (cnt + 1)))))) := by
  have hfl : 25 < gs.length := (List.getElem?_eq_some_iff.mp h25).1
  have hb1 : (H.set cp (.inr (0, vp.set cnt (.inl (nI pv)))))[b]? = some (.inl (12, gs)) := gtag hp1 hb (fun e => by cases e)
  have hr1' : (H.set cp (.inr (0, vp.set cnt (.inl (nI pv)))))[cr]? = some (.inr (0, vr)) := gne hr1 hne
  have hb2 : ((H.set cp (.inr (0, vp.set cnt (.inl (nI pv))))).set cr (.inr (0, vr.set cnt (.inl (nI rl)))))[b]? = some (.inl (12, gs)) := gtag hr1' hb1 (fun e => by cases e)
  refine ⟨nI (cnt), ?_⟩
  refine xT_iload_n g_q250 g250_0 (rfl) ?_
  refine xT_icV (y := nI (0)) g_q250 g250_1 (by decide) ?_
  refine xT_biV (y := nI (100)) g_q250 g250_2 (by decide) ?_
  refine xT_invokestatic (r := []) (u := some (.inl (nI (1)))) g_q250 g250_4 (j := 181) (so := 2) (by decide +kernel) g_q181 (rfl) (t181Y (fun z => by have := (nI_ltI (by omega) (by omega)).mp z; omega) (fun z => by have := (nI_ltI (by omega) (by omega)).mp z; omega)) ?_
  refine xT_ifCondN g_q250 g250_7 (t := 19) (by decide) (c0N (a := 1) (b := 0) (by omega) (by omega) (by omega)) ?_
  refine xT_iload_n g_q250 g250_10 (rfl) ?_
  refine xT_icV (y := nI (0)) g_q250 g250_11 (by decide) ?_
  refine xT_icV (y := nI (2)) g_q250 g250_12 (by decide) ?_
  refine xT_invokestatic (r := []) (u := some (.inl (nI (1)))) g_q250 g250_13 (j := 181) (so := 2) (by decide +kernel) g_q181 (rfl) (t181Y (fun z => by have := (nI_ltI (by omega) (by omega)).mp z; omega) (fun z => by have := (nI_ltI (by omega) (by omega)).mp z; omega)) ?_
  refine xT_ifCondY g_q250 g250_16 (t := 22) (by decide) (c1Y (a := 1) (b := 0) (by omega) (by omega) (by omega)) ?_
  refine xT_aload_n g_q250 g250_22 (rfl) ?_
  refine xT_getfield g_q250 g250_23 hbA rfl hb rfl h25 ?_
  refine xT_biV (y := nI (6)) g_q250 g250_26 (by decide) ?_
  refine xT_if_icmpY g_q250 g250_28 (t := 34) (by decide) (c1Y (a := cnt) (b := 6) (by omega) (by omega) (by omega)) ?_
  refine xT_aload_n g_q250 g250_34 (rfl) ?_
  refine xT_getfield g_q250 g250_35 hbA rfl hb rfl h26 ?_
  refine xT_aload_n g_q250 g250_38 (rfl) ?_
  refine xT_getfield g_q250 g250_39 hbA rfl hb rfl h25 ?_
  refine xT_iload_n g_q250 g250_42 (rfl) ?_
  refine xT_iastore g_q250 g250_43 hp1 (ixN (n := 6) (by omega) hp2) ?_
  rw [nI_clamp (show cnt < 2 ^ 31 by omega)]
  refine xT_aload_n g_q250 g250_44 (rfl) ?_
  refine xT_getfield g_q250 g250_45 hbA rfl hb1 rfl h27 ?_
  refine xT_aload_n g_q250 g250_48 (rfl) ?_
  refine xT_getfield g_q250 g250_49 hbA rfl hb1 rfl h25 ?_
  refine xT_iload_n g_q250 g250_52 (rfl) ?_
  refine xT_iastore g_q250 g250_53 hr1' (ixN (n := 6) (by omega) hr2) ?_
  rw [nI_clamp (show cnt < 2 ^ 31 by omega)]
  refine xT_aload_n g_q250 g250_54 (rfl) ?_
  refine xT_dup g_q250 g250_55 ?_
  refine xT_getfield g_q250 g250_56 hbA rfl hb2 rfl h25 ?_
  refine xT_dup_x1 g_q250 g250_59 ?_
  refine xT_icV (y := nI (1)) g_q250 g250_60 (by decide) ?_
  refine xT_iaddV (y := nI (cnt + 1)) g_q250 g250_61 (bAddN _ _) ?_
  refine xT_putfield g_q250 g250_62 (c2 := 12) (ci := 12) (j := 25) (ty := (.int, false)) rfl hb2 rfl (by rw [decide_eq_true hfl]; rfl) ?_
  exact xT_ireturn g_q250 g250_65 (rfl)
theorem t253x (hM : isM0 H b cnt) {x w : Int32} (hx : x < nI 0 ∨ x_bin 1 (nI cnt) (nI 1) < x) : x_To x_tb x_tyl ot (dp + 1) 253 0 (x_en 0 [.inr (some b), .inl x, .inl w]) [] H 0 0 (some (.inl (-1))) H := by
  obtain ⟨gs, hbA, hb, h25⟩ := id hM
  refine xT_iload_n g_q253 g253_0 (rfl) ?_
  refine xT_icV (y := nI (0)) g_q253 g253_1 (by decide) ?_
  refine xT_aload_n g_q253 g253_2 (rfl) ?_
  refine xT_getfield g_q253 g253_3 hbA rfl hb rfl h25 ?_
  refine xT_icV (y := nI (1)) g_q253 g253_6 (by decide) ?_
  refine xT_isubV (y := x_bin 1 (nI cnt) (nI 1)) g_q253 g253_7 (rfl) ?_
  refine xT_invokestatic (r := []) (u := some (.inl (nI (0)))) g_q253 g253_8 (j := 181) (so := 2) (by decide +kernel) g_q181 (rfl) (t181N hx) ?_
  refine xT_ifCondY g_q253 g253_11 (t := 23) (by decide) (c0Y (b := 0) rfl) ?_
  refine xT_icV (y := -1) g_q253 g253_23 (by decide) ?_
  exact xT_ireturn g_q253 g253_24 (rfl)
theorem t253w (hM : isM0 H b cnt) (h6 : cnt ≤ 6) {i : Nat} (hi : i < cnt) {w : Int32} (hw : w < nI 0 ∨ nI 3 < w) : x_To x_tb x_tyl ot (dp + 1) 253 0 (x_en 0 [.inr (some b), .inl (nI i), .inl w]) [] H 0 0 (some (.inl (-1))) H := by
  obtain ⟨gs, hbA, hb, h25⟩ := id hM
  have hin := b_cnt h6 hi
  refine xT_iload_n g_q253 g253_0 (rfl) ?_
  refine xT_icV (y := nI (0)) g_q253 g253_1 (by decide) ?_
  refine xT_aload_n g_q253 g253_2 (rfl) ?_
  refine xT_getfield g_q253 g253_3 hbA rfl hb rfl h25 ?_
  refine xT_icV (y := nI (1)) g_q253 g253_6 (by decide) ?_
  refine xT_isubV (y := x_bin 1 (nI cnt) (nI 1)) g_q253 g253_7 (rfl) ?_
  refine xT_invokestatic (r := []) (u := some (.inl (nI (1)))) g_q253 g253_8 (j := 181) (so := 2) (by decide +kernel) g_q181 (rfl) (t181Y (nI_pos (by omega)) hin) ?_
  refine xT_ifCondN g_q253 g253_11 (t := 23) (by decide) (c0N (a := 1) (b := 0) (by omega) (by omega) (by omega)) ?_
  refine xT_iload_n g_q253 g253_14 (rfl) ?_
  refine xT_icV (y := nI (0)) g_q253 g253_15 (by decide) ?_
  refine xT_icV (y := nI (3)) g_q253 g253_16 (by decide) ?_
  refine xT_invokestatic (r := []) (u := some (.inl (nI (0)))) g_q253 g253_17 (j := 181) (so := 2) (by decide +kernel) g_q181 (rfl) (t181N hw) ?_
  refine xT_ifCondN g_q253 g253_20 (t := 25) (by decide) (c1N (b := 0) rfl) ?_
  refine xT_icV (y := -1) g_q253 g253_23 (by decide) ?_
  exact xT_ireturn g_q253 g253_24 (rfl)
end XH2510
