/-! p25 by hand, 9. -/
noncomputable section XH259
variable {ot : XO Int32} {dp : Nat} {H : List (XC Int32)} {c pv rl n lo hi hi_ R : Nat} {a cnt ca : Nat} {vs : List (XV Int32)} {b i : Nat} {y : Nat → Nat}
theorem t35Y {v l u : Int32} (h1 : ¬ v < l) (h2 : ¬ u < v) : x_To x_tb x_tyl ot dp 35 0 (x_en 0 [.inl v, .inl l, .inl u]) [] H 0 0 (some (.inl (nI 1))) H := by
  refine xT_iload_n g_q35 g35_0 (rfl) ?_
  refine xT_iload_n g_q35 g35_1 (rfl) ?_
  refine xT_if_icmpN g_q35 g35_2 (t := 14) (by decide) (decide_eq_false h1) ?_
  refine xT_iload_n g_q35 g35_5 (rfl) ?_
  refine xT_iload_n g_q35 g35_6 (rfl) ?_
  refine xT_if_icmpN g_q35 g35_7 (t := 14) (by decide) (decide_eq_false h2) ?_
  refine xT_icV (y := nI (1)) g_q35 g35_10 (by decide) ?_
  refine xT_goto g_q35 g35_11 (t := 15) (by decide) ?_
  exact xT_ireturn g_q35 g35_15 (by decide +kernel)
theorem t35N {v l u : Int32} (h : v < l ∨ u < v) : x_To x_tb x_tyl ot dp 35 0 (x_en 0 [.inl v, .inl l, .inl u]) [] H 0 0 (some (.inl (nI 0))) H := by
  by_cases h1 : v < l
  · skip
    refine xT_iload_n g_q35 g35_0 (rfl) ?_
    refine xT_iload_n g_q35 g35_1 (rfl) ?_
    refine xT_if_icmpY g_q35 g35_2 (t := 14) (by decide) (decide_eq_true h1) ?_
    refine xT_icV (y := nI (0)) g_q35 g35_14 (by decide) ?_
    exact xT_ireturn g_q35 g35_15 (by decide +kernel)
  · have h2 : u < v := h.resolve_left h1
    refine xT_iload_n g_q35 g35_0 (rfl) ?_
    refine xT_iload_n g_q35 g35_1 (rfl) ?_
    refine xT_if_icmpN g_q35 g35_2 (t := 14) (by decide) (decide_eq_false h1) ?_
    refine xT_iload_n g_q35 g35_5 (rfl) ?_
    refine xT_iload_n g_q35 g35_6 (rfl) ?_
    refine xT_if_icmpY g_q35 g35_7 (t := 14) (by decide) (decide_eq_true h2) ?_
    refine xT_icV (y := nI (0)) g_q35 g35_14 (by decide) ?_
    exact xT_ireturn g_q35 g35_15 (by decide +kernel)
theorem t63Y {w : Int32} (h1 : ¬ w < nI 1900) (h2 : ¬ nI 2099 < w) : x_To x_tb x_tyl ot (dp + 1) 63 0 (x_en 0 [.inl w]) [] H 0 0 (some (.inl (nI 1))) H := by
  refine xT_iload_n g_q63 g63_0 (rfl) ?_
  refine xT_siV (y := nI (1900)) g_q63 g63_1 (by decide) ?_
  refine xT_siV (y := nI (2099)) g_q63 g63_4 (by decide) ?_
  refine xT_invokestatic (r := []) (u := some (.inl (nI (1)))) g_q63 g63_7 (j := 35) (so := 2) (by decide +kernel) g_q35 (rfl) (t35Y h1 h2) ?_
  exact xT_ireturn g_q63 g63_10 (by decide +kernel)
theorem t63N {w : Int32} (h : w < nI 1900 ∨ nI 2099 < w) : x_To x_tb x_tyl ot (dp + 1) 63 0 (x_en 0 [.inl w]) [] H 0 0 (some (.inl (nI 0))) H := by
  refine xT_iload_n g_q63 g63_0 (rfl) ?_
  refine xT_siV (y := nI (1900)) g_q63 g63_1 (by decide) ?_
  refine xT_siV (y := nI (2099)) g_q63 g63_4 (by decide) ?_
  refine xT_invokestatic (r := []) (u := some (.inl (nI (0)))) g_q63 g63_7 (j := 35) (so := 2) (by decide +kernel) g_q35 (rfl) (t35N h) ?_
  exact xT_ireturn g_q63 g63_10 (by decide +kernel)
theorem t119x (hT : isTwo H a cnt ca vs) {x w : Int32} (hx : x < 0 ∨ nI cnt ≤ x) : ∃ v : Int32, x_To x_tb x_tyl ot (dp + 1) 119 0 (x_en 0 [.inr (some a), .inl x, .inl w]) [] H 0 0 (some (.inl v)) H := by
  obtain ⟨fs, haA, ha, ha12, ha11, hca, hcl, h6⟩ := id hT
  refine ⟨-1, ?_⟩
  refine xT_aload_n g_q119 g119_0 (rfl) ?_
  refine xT_iload_n g_q119 g119_1 (rfl) ?_
  refine xT_invokevirtual (r := []) (u := some (.inr none)) g_q119 g119_2 (j := 120) (so := 0) (by decide +kernel) g_q120 rfl (by rw [x_rcM haA ha]; rfl) (t120N hT hx) ?_
  refine xT_astore_n g_q119 g119_5 (by decide) ?_
  refine xT_aload_n g_q119 g119_6 (lkY) ?_
  refine xT_ifnonnull0 g_q119 g119_7 (t := 12) (by decide) ?_
  refine xT_icV (y := -1) g_q119 g119_10 (by decide) ?_
  exact xT_ireturn g_q119 g119_11 (rfl)
theorem t119y (hT : isTwo H a cnt ca vs) {i : Nat} (hi : i < cnt) (hci : vs[i]? = some (.inr (some c))) {w : Int32} (hw : w < nI 1900 ∨ nI 2099 < w) : ∃ v : Int32, x_To x_tb x_tyl ot (dp + 2) 119 0 (x_en 0 [.inr (some a), .inl (nI i), .inl w]) [] H 0 0 (some (.inl v)) H := by
  obtain ⟨fs, haA, ha, ha12, ha11, hca, hcl, h6⟩ := id hT
  refine ⟨-2, ?_⟩
  refine xT_aload_n g_q119 g119_0 (rfl) ?_
  refine xT_iload_n g_q119 g119_1 (rfl) ?_
  refine xT_invokevirtual (r := []) (u := some (.inr (some (c)))) g_q119 g119_2 (j := 120) (so := 0) (by decide +kernel) g_q120 rfl (by rw [x_rcM haA ha]; rfl) (t120 hT hi hci) ?_
  refine xT_astore_n g_q119 g119_5 (by decide) ?_
  refine xT_aload_n g_q119 g119_6 (lkY) ?_
  refine xT_ifnonnull1 g_q119 g119_7 (t := 12) (by decide) ?_
  refine xT_iload_n g_q119 g119_12 (lkN (by decide) (rfl)) ?_
  refine xT_invokestatic (r := []) (u := some (.inl (nI (0)))) g_q119 g119_13 (j := 63) (so := 2) (by decide +kernel) g_q63 (rfl) (t63N (dp := dp) hw) ?_
  refine xT_ifCondN g_q119 g119_16 (t := 22) (by decide) (c1N (b := 0) rfl) ?_
  refine xT_biV (y := -2) g_q119 g119_19 (by decide) ?_
  exact xT_ireturn g_q119 g119_21 (rfl)
theorem t119n (hT : isTwo H a cnt ca vs) {i : Nat} (hi : i < cnt) (hci : vs[i]? = some (.inr (some c))) (hC : isChip H c pv rl n lo hi_ R) (hn : 30 ≤ n) (hn2 : n < 2 ^ 31) {Y : Nat} (hY : 1900 ≤ Y) (hY2 : Y ≤ 2099) : ∃ v : Int32, x_To x_tb x_tyl ot (dp + 2) 119 0 (x_en 0 [.inr (some a), .inl (nI i), .inl (nI Y)]) [] H 0 0 (some (.inl v)) H := by
  obtain ⟨fs, haA, ha, ha12, ha11, hca, hcl, h6⟩ := id hT
  obtain ⟨hcA, hc⟩ := id hC
  refine ⟨-4, ?_⟩
  refine xT_aload_n g_q119 g119_0 (rfl) ?_
  refine xT_iload_n g_q119 g119_1 (rfl) ?_
  refine xT_invokevirtual (r := []) (u := some (.inr (some (c)))) g_q119 g119_2 (j := 120) (so := 0) (by decide +kernel) g_q120 rfl (by rw [x_rcM haA ha]; rfl) (t120 hT hi hci) ?_
  refine xT_astore_n g_q119 g119_5 (by decide) ?_
  refine xT_aload_n g_q119 g119_6 (lkY) ?_
  refine xT_ifnonnull1 g_q119 g119_7 (t := 12) (by decide) ?_
  refine xT_iload_n g_q119 g119_12 (lkN (by decide) (rfl)) ?_
  refine xT_invokestatic (r := []) (u := some (.inl (nI (1)))) g_q119 g119_13 (j := 63) (so := 2) (by decide +kernel) g_q63 (rfl) (t63Y (dp := dp) (fun z => by have := (nI_ltI (by omega) (by omega)).mp z; omega) (fun z => by have := (nI_ltI (by omega) (by omega)).mp z; omega)) ?_
  refine xT_ifCondY g_q119 g119_16 (t := 22) (by decide) (c1Y (a := 1) (b := 0) (by omega) (by omega) (by omega)) ?_
  refine xT_aload_n g_q119 g119_22 (lkY) ?_
  refine xT_getfield g_q119 g119_23 hcA rfl hc rfl rfl ?_
  refine xT_biV (y := nI (30)) g_q119 g119_26 (by decide) ?_
  refine xT_if_icmpN g_q119 g119_28 (t := 34) (by decide) (c2N (a := n) (b := 30) (by omega) (by omega) (by omega)) ?_
  refine xT_biV (y := -4) g_q119 g119_31 (by decide) ?_
  exact xT_ireturn g_q119 g119_33 (rfl)
theorem t119 (hT : isTwo H a cnt ca vs) {i : Nat} (hi : i < cnt) (hci : vs[i]? = some (.inr (some c))) (hC : isChip H c pv rl n lo hi_ R) (hR : R < 8) (hrl : rl < 3) (hpv : pv ≤ 100) (hlo : lo ≤ 100) (hhi : hi_ ≤ 100) (hn : n < 30) {Y : Nat} (hY : 1900 ≤ Y) (hY2 : Y ≤ 2099) : ∃ v : Int32, x_To x_tb x_tyl ot (dp + 3) 119 0 (x_en 0 [.inr (some a), .inl (nI i), .inl (nI Y)]) [] H 0 0 (some (.inl v)) (H.set c (.inl (11, chL pv rl (n + 1) (lo2 pv lo (Y % 100)) (hi2 pv hi_ (Y % 100)) (R2 pv rl R (Y % 100))))) := by
  obtain ⟨fs, haA, ha, ha12, ha11, hca, hcl, h6⟩ := id hT
  obtain ⟨hcA, hc⟩ := id hC
  obtain ⟨v, hx⟩ := t121 (dp := dp) hC hR hrl hpv hlo hhi (f := Y % 100) (Nat.mod_lt _ (by decide))
  refine ⟨v, ?_⟩
  refine xT_aload_n g_q119 g119_0 (rfl) ?_
  refine xT_iload_n g_q119 g119_1 (rfl) ?_
  refine xT_invokevirtual (r := []) (u := some (.inr (some (c)))) g_q119 g119_2 (j := 120) (so := 0) (by decide +kernel) g_q120 rfl (by rw [x_rcM haA ha]; rfl) (t120 hT hi hci) ?_
  refine xT_astore_n g_q119 g119_5 (by decide) ?_
  refine xT_aload_n g_q119 g119_6 (lkY) ?_
  refine xT_ifnonnull1 g_q119 g119_7 (t := 12) (by decide) ?_
  refine xT_iload_n g_q119 g119_12 (lkN (by decide) (rfl)) ?_
  refine xT_invokestatic (r := []) (u := some (.inl (nI (1)))) g_q119 g119_13 (j := 63) (so := 2) (by decide +kernel) g_q63 (rfl) (t63Y (dp := dp + 1) (fun z => by have := (nI_ltI (by omega) (by omega)).mp z; omega) (fun z => by have := (nI_ltI (by omega) (by omega)).mp z; omega)) ?_
  refine xT_ifCondY g_q119 g119_16 (t := 22) (by decide) (c1Y (a := 1) (b := 0) (by omega) (by omega) (by omega)) ?_
  refine xT_aload_n g_q119 g119_22 (lkY) ?_
  refine xT_getfield g_q119 g119_23 hcA rfl hc rfl rfl ?_
  refine xT_biV (y := nI (30)) g_q119 g119_26 (by decide) ?_
  refine xT_if_icmpY g_q119 g119_28 (t := 34) (by decide) (c2Y (a := n) (b := 30) (by omega) (by omega) (by omega)) ?_
  refine xT_aload_n g_q119 g119_34 (lkY) ?_
  refine xT_iload_n g_q119 g119_35 (lkN (by decide) (rfl)) ?_
  refine xT_biV (y := nI (100)) g_q119 g119_36 (by decide) ?_
  refine xT_iremV (y := nI (Y % 100)) g_q119 g119_38 (by decide) (bRemN (by omega) (by omega) (by omega)) ?_
  refine xT_invokevirtual (r := []) (u := some (.inl (v))) g_q119 g119_39 (j := 121) (so := 0) (by decide +kernel) g_q121 rfl (by rw [x_rcM hcA hc]; rfl) (hx) ?_
  exact xT_ireturn g_q119 g119_42 (rfl)
theorem t196Y {w : Int32} (h1 : ¬ w < nI 1900) (h2 : ¬ nI 2099 < w) : x_To x_tb x_tyl ot (dp + 1) 196 0 (x_en 0 [.inl w]) [] H 0 0 (some (.inl (nI 1))) H := by
  refine xT_iload_n g_q196 g196_0 (rfl) ?_
  refine xT_siV (y := nI (1900)) g_q196 g196_1 (by decide) ?_
  refine xT_siV (y := nI (2099)) g_q196 g196_4 (by decide) ?_
  refine xT_invokestatic (r := []) (u := some (.inl (nI (1)))) g_q196 g196_7 (j := 181) (so := 2) (by decide +kernel) g_q181 (rfl) (t181Y h1 h2) ?_
  exact xT_ireturn g_q196 g196_10 (by decide +kernel)
theorem t196N {w : Int32} (h : w < nI 1900 ∨ nI 2099 < w) : x_To x_tb x_tyl ot (dp + 1) 196 0 (x_en 0 [.inl w]) [] H 0 0 (some (.inl (nI 0))) H := by
  refine xT_iload_n g_q196 g196_0 (rfl) ?_
  refine xT_siV (y := nI (1900)) g_q196 g196_1 (by decide) ?_
  refine xT_siV (y := nI (2099)) g_q196 g196_4 (by decide) ?_
  refine xT_invokestatic (r := []) (u := some (.inl (nI (0)))) g_q196 g196_7 (j := 181) (so := 2) (by decide +kernel) g_q181 (rfl) (t181N h) ?_
  exact xT_ireturn g_q196 g196_10 (by decide +kernel)
/-- the reference's object and its count of chips -/
def isM0 (H : List (XC Int32)) (b cnt : Nat) : Prop := ∃ gs, ¬ 1000000 < b ∧ H[b]? = some (.inl (12, gs)) ∧ gs[25]? = some (.inl (nI cnt))
theorem t251x (hM : isM0 H b cnt) {x w : Int32} (hx : x < nI 0 ∨ x_bin 1 (nI cnt) (nI 1) < x) : ∃ v : Int32, x_To x_tb x_tyl ot (dp + 1) 251 0 (x_en 0 [.inr (some b), .inl x, .inl w]) [] H 0 0 (some (.inl v)) H := by
  obtain ⟨gs, hbA, hb, h25⟩ := id hM
  refine ⟨-1, ?_⟩
  refine xT_iload_n g_q251 g251_0 (rfl) ?_
  refine xT_icV (y := nI (0)) g_q251 g251_1 (by decide) ?_
  refine xT_aload_n g_q251 g251_2 (rfl) ?_
  refine xT_getfield g_q251 g251_3 hbA rfl hb rfl h25 ?_
  refine xT_icV (y := nI (1)) g_q251 g251_6 (by decide) ?_
  refine xT_isubV (y := x_bin 1 (nI cnt) (nI 1)) g_q251 g251_7 (rfl) ?_
  refine xT_invokestatic (r := []) (u := some (.inl (nI (0)))) g_q251 g251_8 (j := 181) (so := 2) (by decide +kernel) g_q181 (rfl) (t181N hx) ?_
  refine xT_ifCondN g_q251 g251_11 (t := 16) (by decide) (c1N (b := 0) rfl) ?_
  refine xT_icV (y := -1) g_q251 g251_14 (by decide) ?_
  exact xT_ireturn g_q251 g251_15 (rfl)
theorem t251y (hM : isM0 H b cnt) {i : Nat} (h6 : cnt ≤ 6) (hi : i < cnt) {w : Int32} (hw : w < nI 1900 ∨ nI 2099 < w) : ∃ v : Int32, x_To x_tb x_tyl ot (dp + 2) 251 0 (x_en 0 [.inr (some b), .inl (nI i), .inl w]) [] H 0 0 (some (.inl v)) H := by
  obtain ⟨gs, hbA, hb, h25⟩ := id hM
  have hin := b_cnt h6 hi
  refine ⟨-2, ?_⟩
  refine xT_iload_n g_q251 g251_0 (rfl) ?_
  refine xT_icV (y := nI (0)) g_q251 g251_1 (by decide) ?_
  refine xT_aload_n g_q251 g251_2 (rfl) ?_
  refine xT_getfield g_q251 g251_3 hbA rfl hb rfl h25 ?_
  refine xT_icV (y := nI (1)) g_q251 g251_6 (by decide) ?_
  refine xT_isubV (y := x_bin 1 (nI cnt) (nI 1)) g_q251 g251_7 (rfl) ?_
  refine xT_invokestatic (r := []) (u := some (.inl (nI (1)))) g_q251 g251_8 (j := 181) (so := 2) (by decide +kernel) g_q181 (rfl) (t181Y (nI_pos (by omega)) hin) ?_
  refine xT_ifCondY g_q251 g251_11 (t := 16) (by decide) (c1Y (a := 1) (b := 0) (by omega) (by omega) (by omega)) ?_
  refine xT_iload_n g_q251 g251_16 (rfl) ?_
  refine xT_invokestatic (r := []) (u := some (.inl (nI (0)))) g_q251 g251_17 (j := 196) (so := 2) (by decide +kernel) g_q196 (rfl) (t196N (dp := dp) hw) ?_
  refine xT_ifCondN g_q251 g251_20 (t := 26) (by decide) (c1N (b := 0) rfl) ?_
  refine xT_biV (y := -2) g_q251 g251_23 (by decide) ?_
  exact xT_ireturn g_q251 g251_25 (rfl)
theorem t251n (hM : isM0 H b cnt) {i : Nat} (h6 : cnt ≤ 6) (hi : i < cnt) (hA : isAsk H b i pv rl n y) (hn : n = 30) {Y : Nat} (hY : 1900 ≤ Y) (hY2 : Y ≤ 2099) : ∃ v : Int32, x_To x_tb x_tyl ot (dp + 2) 251 0 (x_en 0 [.inr (some b), .inl (nI i), .inl (nI Y)]) [] H 0 0 (some (.inl v)) H := by
  obtain ⟨gs, hbA, hb0, h25⟩ := id hM
  obtain ⟨fs, vp, vr, vs, vy, w, cp, cr, sa, ya, row, hbA, hb, h26, h27, h28, h29, hrf, ⟨hp1, hp2, hp3⟩, ⟨hr1, hr2, hr3⟩, ⟨hs1, hs2, hs3⟩, ⟨hy1, hy2, hy3⟩, hw1, hw2, hw3⟩ := id hA
  have hin := b_cnt h6 hi
  obtain rfl : gs = fs := by
    rw [hb] at hb0
    cases hb0
    rfl
  refine ⟨-4, ?_⟩
  refine xT_iload_n g_q251 g251_0 (rfl) ?_
  refine xT_icV (y := nI (0)) g_q251 g251_1 (by decide) ?_
  refine xT_aload_n g_q251 g251_2 (rfl) ?_
  refine xT_getfield g_q251 g251_3 hbA rfl hb rfl h25 ?_
  refine xT_icV (y := nI (1)) g_q251 g251_6 (by decide) ?_
  refine xT_isubV (y := x_bin 1 (nI cnt) (nI 1)) g_q251 g251_7 (rfl) ?_
  refine xT_invokestatic (r := []) (u := some (.inl (nI (1)))) g_q251 g251_8 (j := 181) (so := 2) (by decide +kernel) g_q181 (rfl) (t181Y (nI_pos (by omega)) hin) ?_
  refine xT_ifCondY g_q251 g251_11 (t := 16) (by decide) (c1Y (a := 1) (b := 0) (by omega) (by omega) (by omega)) ?_
  refine xT_iload_n g_q251 g251_16 (rfl) ?_
  refine xT_invokestatic (r := []) (u := some (.inl (nI (1)))) g_q251 g251_17 (j := 196) (so := 2) (by decide +kernel) g_q196 (rfl) (t196Y (dp := dp) (fun z => by have := (nI_ltI (by omega) (by omega)).mp z; omega) (fun z => by have := (nI_ltI (by omega) (by omega)).mp z; omega)) ?_
  refine xT_ifCondY g_q251 g251_20 (t := 26) (by decide) (c1Y (a := 1) (b := 0) (by omega) (by omega) (by omega)) ?_
  refine xT_aload_n g_q251 g251_26 (rfl) ?_
  refine xT_getfield g_q251 g251_27 hbA rfl hb rfl h28 ?_
  refine xT_iload_n g_q251 g251_30 (rfl) ?_
  refine xT_iaload g_q251 g251_31 (by omega) hs1 (ixN (n := 6) (by omega) hs2) (ixG (by omega) hs3) ?_
  refine xT_biV (y := nI (30)) g_q251 g251_32 (by decide) ?_
  refine xT_if_icmpN g_q251 g251_34 (t := 40) (by decide) (c1N (b := 30) hn) ?_
  refine xT_biV (y := -4) g_q251 g251_37 (by decide) ?_
  exact xT_ireturn g_q251 g251_39 (rfl)
/-- the reference behind a question -/
theorem t251 {fs vp vr vs vy w : List (XV Int32)} {i cp cr sa ya row Y : Nat} (hbA : ¬ 1000000 < b) (hb : H[b]? = some (.inl (12, fs))) (h25 : fs[25]? = some (.inl (nI cnt))) (h26 : fs[26]? = some (.inr (some cp))) (h27 : fs[27]? = some (.inr (some cr))) (h28 : fs[28]? = some (.inr (some sa))) (h29 : fs[29]? = some (.inr (some ya))) (hrf : cp < 1000000 ∧ cr < 1000000 ∧ sa < 1000000 ∧ row < 1000000) (hne : row ≠ sa ∧ row ≠ cp ∧ row ≠ cr ∧ sa ≠ cp ∧ sa ≠ cr) (hp1 : H[cp]? = some (.inr (0, vp))) (hp2 : vp.length = 6) (hp3 : vp[i]? = some (.inl (nI pv))) (hr1 : H[cr]? = some (.inr (0, vr))) (hr2 : vr.length = 6) (hr3 : vr[i]? = some (.inl (nI rl))) (hs1 : H[sa]? = some (.inr (0, vs))) (hs2 : vs.length = 6) (hs3 : vs[i]? = some (.inl (nI n))) (hy1 : H[ya]? = some (.inr (5, vy))) (hy2 : vy.length = 6) (hy3 : vy[i]? = some (.inr (some row))) (hw1 : H[row]? = some (.inr (0, w))) (hw2 : w.length = 30) (h6 : cnt ≤ 6) (hi : i < cnt) (hn : n < 30) (hpv : pv < 2 ^ 31) (hrl : rl < 3) (hY : 1900 ≤ Y) (hY2 : Y ≤ 2099) : x_To x_tb x_tyl ot (dp + 2) 251 0 (x_en 0 [.inr (some (b)), .inl (nI (i)), .inl (nI (Y))]) [] H 0 0 (some (.inl (nI (ansN pv rl Y)))) ((H.set row (.inr (0, w.set n (.inl (nI Y))))).set sa (.inr (0, vs.set i (.inl (nI (n + 1)))))) := by
  obtain ⟨n1, n2, n3, n4, n5⟩ := hne
  have hin := b_cnt h6 hi
  have hb' : (H.set row (.inr (0, w.set n (.inl (nI Y)))))[b]? = some (.inl (12, fs)) := gtag hw1 hb (fun e => by cases e)
  have hs1' : (H.set row (.inr (0, w.set n (.inl (nI Y)))))[sa]? = some (.inr (0, vs)) := gne hs1 n1
  have hb'' : ((H.set row (.inr (0, w.set n (.inl (nI Y))))).set sa (.inr (0, vs.set i (.inl (nI (n + 1))))))[b]? = some (.inl (12, fs)) := gtag hs1' hb' (fun e => by cases e)
  have hp1' : ((H.set row (.inr (0, w.set n (.inl (nI Y))))).set sa (.inr (0, vs.set i (.inl (nI (n + 1))))))[cp]? = some (.inr (0, vp)) := gne (gne hp1 n2) n4
  have hr1' : ((H.set row (.inr (0, w.set n (.inl (nI Y))))).set sa (.inr (0, vs.set i (.inl (nI (n + 1))))))[cr]? = some (.inr (0, vr)) := gne (gne hr1 n3) n5
  refine xT_iload_n g_q251 g251_0 (rfl) ?_
  refine xT_icV (y := nI (0)) g_q251 g251_1 (by decide) ?_
  refine xT_aload_n g_q251 g251_2 (rfl) ?_
  refine xT_getfield g_q251 g251_3 hbA rfl hb rfl h25 ?_
  refine xT_icV (y := nI (1)) g_q251 g251_6 (by decide) ?_
  refine xT_isubV (y := x_bin 1 (nI cnt) (nI 1)) g_q251 g251_7 (rfl) ?_
  refine xT_invokestatic (r := []) (u := some (.inl (nI (1)))) g_q251 g251_8 (j := 181) (so := 2) (by decide +kernel) g_q181 (rfl) (t181Y (nI_pos (by omega)) hin) ?_
  refine xT_ifCondY g_q251 g251_11 (t := 16) (by decide) (c1Y (a := 1) (b := 0) (by omega) (by omega) (by omega)) ?_
  refine xT_iload_n g_q251 g251_16 (rfl) ?_
  refine xT_invokestatic (r := []) (u := some (.inl (nI (1)))) g_q251 g251_17 (j := 196) (so := 2) (by decide +kernel) g_q196 (rfl) (t196Y (dp := dp) (fun z => by have := (nI_ltI (by omega) (by omega)).mp z; omega) (fun z => by have := (nI_ltI (by omega) (by omega)).mp z; omega)) ?_
  refine xT_ifCondY g_q251 g251_20 (t := 26) (by decide) (c1Y (a := 1) (b := 0) (by omega) (by omega) (by omega)) ?_
  refine xT_aload_n g_q251 g251_26 (rfl) ?_
  refine xT_getfield g_q251 g251_27 hbA rfl hb rfl h28 ?_
  refine xT_iload_n g_q251 g251_30 (rfl) ?_
  refine xT_iaload g_q251 g251_31 (by omega) hs1 (ixN (n := 6) (by omega) hs2) (ixG (by omega) hs3) ?_
  refine xT_biV (y := nI (30)) g_q251 g251_32 (by decide) ?_
  refine xT_if_icmpY g_q251 g251_34 (t := 40) (by decide) (c1Y (a := n) (b := 30) (by omega) (by omega) (by omega)) ?_
  refine xT_aload_n g_q251 g251_40 (rfl) ?_
  refine xT_getfield g_q251 g251_41 hbA rfl hb rfl h29 ?_
  refine xT_iload_n g_q251 g251_44 (rfl) ?_
  refine xT_aaload g_q251 g251_45 (by decide +kernel) hy1 (ixN (n := 6) (by omega) hy2) (ixG (by omega) hy3) ?_
  refine xT_aload_n g_q251 g251_46 (rfl) ?_
  refine xT_getfield g_q251 g251_47 hbA rfl hb rfl h28 ?_
  refine xT_iload_n g_q251 g251_50 (rfl) ?_
  refine xT_iaload g_q251 g251_51 (by omega) hs1 (ixN (n := 6) (by omega) hs2) (ixG (by omega) hs3) ?_
  refine xT_iload_n g_q251 g251_52 (rfl) ?_
  refine xT_iastore g_q251 g251_53 hw1 (ixN (n := 30) (by omega) hw2) ?_
  rw [nI_clamp (show n < 2 ^ 31 by omega)]
  refine xT_aload_n g_q251 g251_54 (rfl) ?_
  refine xT_getfield g_q251 g251_55 hbA rfl hb' rfl h28 ?_
  refine xT_iload_n g_q251 g251_58 (rfl) ?_
  refine xT_dup2 g_q251 g251_59 ?_
  refine xT_iaload g_q251 g251_60 (by omega) hs1' (ixN (n := 6) (by omega) hs2) (ixG (by omega) hs3) ?_
  refine xT_icV (y := nI (1)) g_q251 g251_61 (by decide) ?_
  refine xT_iaddV (y := nI (n + 1)) g_q251 g251_62 (bAddN _ _) ?_
  refine xT_iastore g_q251 g251_63 hs1' (ixN (n := 6) (by omega) hs2) ?_
  rw [nI_clamp (show i < 2 ^ 31 by omega)]
  refine xT_aload_n g_q251 g251_64 (rfl) ?_
  refine xT_getfield g_q251 g251_65 hbA rfl hb'' rfl h26 ?_
  refine xT_iload_n g_q251 g251_68 (rfl) ?_
  refine xT_iaload g_q251 g251_69 (by omega) hp1' (ixN (n := 6) (by omega) hp2) (ixG (by omega) hp3) ?_
  refine xT_aload_n g_q251 g251_70 (rfl) ?_
  refine xT_getfield g_q251 g251_71 hbA rfl hb'' rfl h27 ?_
  refine xT_iload_n g_q251 g251_74 (rfl) ?_
  refine xT_iaload g_q251 g251_75 (by omega) hr1' (ixN (n := 6) (by omega) hr2) (ixG (by omega) hr3) ?_
  refine xT_iload_n g_q251 g251_76 (rfl) ?_
  refine xT_invokestatic (r := []) (u := some (.inl (nI (ansN pv rl Y)))) g_q251 g251_77 (j := 252) (so := 2) (by decide +kernel) g_q252 (rfl) (t252 (y := Y) hpv hrl (by omega)) ?_
  exact xT_ireturn g_q251 g251_80 (rfl)
end XH259
