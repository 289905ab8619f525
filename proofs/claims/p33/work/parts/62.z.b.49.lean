/-! p33 by hand, 48. -/
noncomputable section XH33_48
variable {ot : XO Int32} {dp : Nat} {H H0 : List (XC Int32)}
theorem t144 {n : Nat} {d : Ld} {K : Ka} {WL : List Nat} {rp rt : Nat → rS} {col : Nat → Nat} (hd : dOk n d) (hL : H0.length ≤ 1000000) (hS : kSt n d K WL H0) (hN : kNe n K WL col) (hrp : rdP d rp) (hrt : rdT d rt) (hP : kPh n d K WL rp rt H0 H n 0) : ∃ H2, x_To x_tb x_tyl ot (dp + 5) 144 0 (x_en 0 [.inr (some (aB K)), .inl (nI (0)), .inl ((dYr d)), .inl (nI (1))]) [] H 0 0 (some (.inl (hrm d rp rt n))) H2 ∧ kPh n d K WL rp rt H0 H2 n n := by
  obtain ⟨H2, x1, x2⟩ := t144_l (ot := ot) (dp := dp) hd hL hS hN hrp hrt n 0 H (x_st (x_st ((x_en 0 [.inr (some (aB K)), .inl (nI (0)), .inl ((dYr d)), .inl (nI (1))])) 4 (.inl (nI (0)))) 5 (.inl (nI (0)))) (by omega) hP (lkN (by decide) (lkN (by decide) (rfl))) (lkN (by decide) (lkN (by decide) (rfl))) (lkN (by decide) (lkN (by decide) (rfl))) (lkN (by decide) (lkN (by decide) (rfl))) (lkN (by decide) (lkY)) (lkY)
  refine ⟨H2, ?_, x2⟩
  refine xT_icV (y := nI (0)) g_q144 g144_0 (by decide) ?_
  refine xT_istore g_q144 g144_1 (by decide) ?_
  refine xT_icV (y := nI (0)) g_q144 g144_3 (by decide) ?_
  refine xT_istore g_q144 g144_4 (by decide) ?_
  exact x1
end XH33_48
/-! p33 by hand, 49. -/
noncomputable section XH33_49
variable {ot : XO Int32} {dp : Nat} {H H0 : List (XC Int32)}
theorem t146 {n : Nat} {d : Ld} {K : Ka} {WL : List Nat} {rp rt : Nat → rS} {col : Nat → Nat} (hd : dOk n d) (hL : H0.length ≤ 1000000) (hS : kSt n d K WL H0) (hN : kNe n K WL col) (hrp : rdP d rp) (hrt : rdT d rt) (hP : kPh n d K WL rp rt H0 H 0 0) (hy1 : ¬ dYr d < nI 1900) (hy2 : ¬ nI 2099 < dYr d) : ∃ H2, x_To x_tb x_tyl ot (dp + 6) 146 0 (x_en 0 [.inr (some (aB K)), .inl ((dYr d))]) [] H 0 0 (some (.inl (hrm d rp rt n))) H2 ∧ kPh n d K WL rp rt H0 H2 n n := by
  have hd12 := hd.1
  have hlen := hP.2.1
  obtain ⟨⟨bf, cb, bf2, bf3, bf5, bf6, bf8, bf9⟩, ⟨pa, cpa, pal, pae⟩, -⟩ := id hS
  have hb := hP.1 _ _ cb
  have hpa := hP.1 _ _ cpa
  have hbl : ¬ 1000000 < aB K := by
    have := lt_of hb (by omega)
    omega
  obtain ⟨H1, x1, x2⟩ := t141 (ot := ot) (dp := dp) hd hL hS hN hrt hP
  obtain ⟨H2, x3, x4⟩ := t144 (ot := ot) (dp := dp) hd hL hS hN hrp hrt x2
  have hb1 := x2.1 _ _ cb
  refine ⟨H2, ?_, x4⟩
  refine xT_iload_n g_q146 g146_0 (rfl) ?_
  refine xT_invokestatic (r := []) (u := some (.inl (nI (1)))) g_q146 g146_1 (j := 63) (so := 2) (by decide +kernel) g_q63 (rfl) (t63Y (dp := dp + 4) hy1 hy2) ?_
  refine xT_ifCondY g_q146 g146_4 (t := 10) (by decide) (c1Y (a := 1) (b := 0) (by omega) (by omega) (by omega)) ?_
  refine xT_aload_n g_q146 g146_10 (rfl) ?_
  refine xT_iload_n g_q146 g146_11 (rfl) ?_
  refine xT_icV (y := nI (1)) g_q146 g146_12 (by decide) ?_
  refine xT_invokevirtual (r := []) (u := none) g_q146 g146_13 (j := 141) (so := 0) (by decide +kernel) g_q141 rfl (by rw [x_rcM hbl hb]; rfl) (x1) ?_
  refine xT_aload_n g_q146 g146_16 (rfl) ?_
  refine xT_icV (y := nI (0)) g_q146 g146_17 (by decide) ?_
  refine xT_iload_n g_q146 g146_18 (rfl) ?_
  refine xT_icV (y := nI (1)) g_q146 g146_19 (by decide) ?_
  refine xT_invokevirtual (r := []) (u := some (.inl ((hrm d rp rt n)))) g_q146 g146_20 (j := 144) (so := 0) (by decide +kernel) g_q144 rfl (by rw [x_rcM hbl hb1]; rfl) (x3) ?_
  exact xT_ireturn g_q146 g146_23 (rfl)
theorem t146n {a : Nat} {y : Int32} (hy : y < nI 1900 ∨ nI 2099 < y) : x_To x_tb x_tyl ot (dp + 6) 146 0 (x_en 0 [.inr (some (a)), .inl (y)]) [] H 0 0 (some (.inl (-2))) H := by
  refine xT_iload_n g_q146 g146_0 (rfl) ?_
  refine xT_invokestatic (r := []) (u := some (.inl (nI (0)))) g_q146 g146_1 (j := 63) (so := 2) (by decide +kernel) g_q63 (rfl) (t63N (dp := dp + 4) hy) ?_
  refine xT_ifCondN g_q146 g146_4 (t := 10) (by decide) (c1N (a := 0) (b := 0) rfl) ?_
  refine xT_biV (y := -2) g_q146 g146_7 (by decide) ?_
  exact xT_ireturn g_q146 g146_9 (rfl)
end XH33_49
/-! The reference's night that is thought of: what stands, what each program's run leaves. -/
noncomputable section XR33
variable {n : Nat} {d : Ld} {A FR TR : Nat → Nat} {WL As Bs : List Nat} {rp rt : Nat → rS} {Hs H G : List (XC Int32)} {gz : List (XV Int32)} {col : Nat → Nat}
theorem inj_of {l : List Nat} (col : Nat → Nat) {cs : List Nat} (h : l.map col = cs) (hn : (List.range cs.length).all (fun i => (List.range cs.length).all (fun j => decide (i = j) || !decide (cs[i]? = cs[j]?))) = true) : ∀ (i j : Nat) x, l[i]? = some x → l[j]? = some x → i = j := fun i j x hi hj => by
  have e1 : cs[i]? = some (col x) := by
    rw [← h, List.getElem?_map, hi]
    rfl
  have e2 : cs[j]? = some (col x) := by
    rw [← h, List.getElem?_map, hj]
    rfl
  have k := List.all_eq_true.mp (List.all_eq_true.mp hn i (List.mem_range.mpr (List.getElem?_eq_some_iff.mp e1).1)) j (List.mem_range.mpr (List.getElem?_eq_some_iff.mp e2).1)
  simp only [Bool.or_eq_true, Bool.not_eq_true', decide_eq_true_eq, decide_eq_false_iff_not] at k
  rcases k with k | k
  · exact k
  · exact absurd (e1.trans e2.symm) k
theorem rS9_rf (gs : List (XV Int32)) : rS9 gs gs := ⟨rfl, fun _ _ => rfl⟩
theorem rS9_tr {a b c : List (XV Int32)} (h : rS9 a b) (g : rS9 b c) : rS9 a c := ⟨h.1.trans g.1, fun j hj => (h.2 j hj).trans (g.2 j hj)⟩
theorem hm_app {Zs Cs Ys} {Ds : List Nat} (h : hm H G Ds Zs) (hi : ∀ (i j : Nat) x, (Ds ++ Cs)[i]? = some x → (Ds ++ Cs)[j]? = some x → i = j) (hl : Cs.length = Ys.length) (hc : ∀ (k : Nat) a z, Cs[k]? = some a → Ys[k]? = some z → G[a]? = some z) : hm H G (Ds ++ Cs) (Zs ++ Ys) := by
  obtain ⟨h1, h2, h3, h4, h5⟩ := h
  refine ⟨hi, by rw [List.length_append, List.length_append, h2, hl], fun k a z ha hz => ?_, fun x z hx hn => h4 x z hx (fun k hk => ?_), h5⟩
  · by_cases c : k < Ds.length
    · rw [List.getElem?_append_left c] at ha
      rw [List.getElem?_append_left (by omega)] at hz
      exact h3 k a z ha hz
    · rw [List.getElem?_append_right (by omega)] at ha
      rw [List.getElem?_append_right (by omega), ← h2] at hz
      exact hc _ a z ha hz
  · have hk2 := (List.getElem?_eq_some_iff.mp hk).1
    exact hn k (by rw [List.getElem?_append_left hk2]; exact hk)
-- from one heap to another
theorem rQ_mv (mv : ∀ (x : Nat) z, c3R Hs Bs x z → c3R G As x z) {r ty len i x : Nat} (h : rQ Hs Bs r ty len i x) : rQ G As r ty len i x := by
  obtain ⟨l, a, b⟩ := h
  exact ⟨l, mv _ _ a, b⟩
theorem rI_mv (mv : ∀ (x : Nat) z, c3R Hs Bs x z → c3R G As x z) {r len i : Nat} {x : Int32} (h : rI Hs Bs r len i x) : rI G As r len i x := by
  obtain ⟨c, l, a, b⟩ := h
  exact ⟨c, l, mv _ _ a, b⟩
theorem rC_mv (mv : ∀ (x : Nat) z, c3R Hs Bs x z → c3R G As x z) {ln cd q : Nat} {p : rP} (h : rC Hs Bs ln cd q p) : rC G As ln cd q p := by
  obtain ⟨⟨D, a, b, w, c, e⟩, f⟩ := h
  exact ⟨⟨D, rQ_mv mv a, b, w, mv _ _ c, e⟩, rI_mv mv f⟩
theorem rC_pt {ln cd q i : Nat} {x : Nat × (Nat → Int32)} (h : rC G As ln cd q (pgP d i x)) : rC G As ln cd q (pgT d i x) := by
  obtain ⟨⟨D, a, b, w, c, e, f⟩, g⟩ := h
  exact ⟨⟨D, a, b, w, c, e, f⟩, g⟩
theorem rT_mv (mv : ∀ (x : Nat) z, c3R Hs Bs x z → c3R G As x z) {gs : List (XV Int32)} {q t : Nat} {p : rP} (h : rT Hs Bs gs q t p) : rT G As gs q t p := by
  rcases h with h | ⟨a, b, c, dg, pv, ru, dr, pr, g3, g4, g5, e1, e2, e3, e4, e5⟩
  · exact Or.inl h
  · exact Or.inr ⟨a, b, c, dg, pv, ru, dr, pr, g3, g4, g5, rQ_mv mv e1, rQ_mv mv e2, c3W_mv mv e3, c3W_mv mv e4, rI_mv mv e5⟩
-- what stands
def fN (on : Nat → Nat) (r : Nat → rS) (i q : Nat) : Nat := if q < i then rOs (r q) else on q
def fV (ov : Nat → Nat → Int32) (r : Nat → rS) (i q : Nat) : Nat → Int32 := if q < i then rOv (r q) else ov q
def mRo (H : List (XC Int32)) (r nn : Nat) (vv : Nat → Int32) : Prop := ∃ l : List (XV Int32), H[r]? = some (.inr (0, l)) ∧ wLf l ∧ ∀ k, k < nn → l[k]? = some (.inl (vv k))
def mRz (H : List (XC Int32)) (r n : Nat) (f : Nat → Nat) : Prop := ∃ l : List (XV Int32), H[r]? = some (.inr (0, l)) ∧ l.length = 12 ∧ ∀ q, q < n → l[q]? = some (.inl (nI (f q)))
def mRn (A : Nat → Nat) (H : List (XC Int32)) : Prop := ∃ (f0 f1 w0 w1 : List (XV Int32)) (a0 a1 b0 b1 c0 c1 d0 d1 e0 e1 h0 h1 : Int32), (f0.length = 6 ∧ f1.length = 6 ∧ wLf w0 ∧ wLf w1) ∧ H[A 1]? = some (.inr (0, f0)) ∧ H[A 2]? = some (.inr (0, f1)) ∧ H[A 3]? = some (.inr (0, [.inl a0, .inl a1])) ∧ H[A 4]? = some (.inr (0, [.inl b0, .inl b1])) ∧ H[A 5]? = some (.inr (0, [.inl c0, .inl c1])) ∧ H[A 6]? = some (.inr (0, [.inl d0, .inl d1])) ∧ H[A 7]? = some (.inr (0, w0)) ∧ H[A 8]? = some (.inr (0, w1)) ∧ H[A 9]? = some (.inr (0, [.inl e0, .inl e1])) ∧ H[A 10]? = some (.inr (0, [.inl h0, .inl h1]))
/-- what no run of the night writes: A 13 .. : lines, codes, inputs, shelves, their sizes, files, twins, fields, what is written, weights -/
def mSt (n : Nat) (d : Ld) (A FR TR : Nat → Nat) (WL : List Nat) (gz : List (XV Int32)) (Hs : List (XC Int32)) : Prop :=
  rG gz (A 13) (A 14) (A 15) (A 16) (A 17) (A 18) (A 11) (A 19) (A 12) (A 20) (A 3) (A 4) (A 5) (A 6) (A 21) (A 9) (A 10) ∧ (gz[0]? = some (.inl (nI n)) ∧ gz[7]? = some (.inr (some (A 22)))) ∧ (rQ Hs WL (A 20) 5 2 0 (A 1) ∧ rQ Hs WL (A 20) 5 2 1 (A 2)) ∧ (rQ Hs WL (A 21) 5 2 0 (A 7) ∧ rQ Hs WL (A 21) 5 2 1 (A 8)) ∧
  ∀ q, q < n → (∀ x, rC Hs WL (A 13) (A 14) q (pgP d q x)) ∧ (∀ x, rT Hs WL gz q 0 (pgP d q x)) ∧ rI Hs WL (A 15) 12 q (svI (dSv d q)) ∧ rI Hs WL (A 17) 12 q (nI (dHn d q)) ∧ (∃ r w, rQ Hs WL (A 16) 5 12 q r ∧ ¬ r = 1000000 ∧ c3R Hs WL r (.inr (0, w)) ∧ w.length = 12 ∧ ∀ k, k < dHn d q → ∃ x : Int32, w[k]? = some (.inl x) ∧ dHv d q k = if x = -1 then 0 else x) ∧ rQ Hs WL (A 18) 5 12 q (FR q) ∧ rQ Hs WL (A 19) 5 12 q (TR q) ∧ rI Hs WL (A 22) 12 q (dWt d q)
def mNe (A FR TR : Nat → Nat) (WL : List Nat) (col : Nat → Nat) : Prop := (∀ j, j < 13 → A j ∈ WL ∧ col (A j) = j) ∧ (∀ q, q < 12 → FR q ∈ WL ∧ TR q ∈ WL ∧ col (FR q) = 13 ∧ col (TR q) = 14) ∧ ∀ q k, q < 12 → k < 12 → q ≠ k → FR q ≠ FR k ∧ TR q ≠ TR k
/-- i programs have run -/
def mPh (n : Nat) (d : Ld) (A FR TR : Nat → Nat) (WL : List Nat) (rp rt : Nat → rS) (gz : List (XV Int32)) (Hs H : List (XC Int32)) (i : Nat) : Prop :=
  (∀ (x : Nat) z, c3R Hs WL x z → H[x]? = some z) ∧ H.length = Hs.length ∧ (∃ gs : List (XV Int32), H[A 0]? = some (.inl (12, gs)) ∧ rS9 gs gz) ∧ mRn A H ∧ mRz H (A 11) n (fN (dWn d) rp i) ∧ mRz H (A 12) n (fN (dTn d) rt i) ∧ ∀ q, q < n → mRo H (FR q) (fN (dWn d) rp i q) (fV (dWv d) rp i q) ∧ mRo H (TR q) (fN (dTn d) rt i q) (fV (dTv d) rt i q)
def A11 (A : Nat → Nat) : List Nat := [A 0, A 1, A 2, A 3, A 4, A 5, A 6, A 7, A 8, A 9, A 10]
theorem A11_in (hN : mNe A FR TR WL col) : ∀ x, x ∈ [A 0, A 1, A 2, A 3, A 4, A 5, A 6, A 7, A 8, A 9, A 10] → x ∈ WL := fun x hx => by
  simp only [List.mem_cons, List.not_mem_nil, or_false] at hx
  rcases hx with rfl | rfl | rfl | rfl | rfl | rfl | rfl | rfl | rfl | rfl | rfl
  all_goals exact (hN.1 _ (by decide)).1
/-- what is of none of the first eleven colours is none of those cells -/
theorem A11_no (hN : mNe A FR TR WL col) {x : Nat} (hx : 11 ≤ col x) : ∀ k : Nat, [A 0, A 1, A 2, A 3, A 4, A 5, A 6, A 7, A 8, A 9, A 10][k]? ≠ some x := fun k hk => by
  have k0 := (hN.1 0 (by decide)).2
  have k1 := (hN.1 1 (by decide)).2
  have k2 := (hN.1 2 (by decide)).2
  have k3 := (hN.1 3 (by decide)).2
  have k4 := (hN.1 4 (by decide)).2
  have k5 := (hN.1 5 (by decide)).2
  have k6 := (hN.1 6 (by decide)).2
  have k7 := (hN.1 7 (by decide)).2
  have k8 := (hN.1 8 (by decide)).2
  have k9 := (hN.1 9 (by decide)).2
  have k10 := (hN.1 10 (by decide)).2
  have hm := List.mem_of_getElem? hk
  simp only [List.mem_cons, List.not_mem_nil, or_false] at hm
  rcases hm with rfl | rfl | rfl | rfl | rfl | rfl | rfl | rfl | rfl | rfl | rfl
  all_goals omega
theorem A11_inj (hN : mNe A FR TR WL col) : ∀ (i j : Nat) x, [A 0, A 1, A 2, A 3, A 4, A 5, A 6, A 7, A 8, A 9, A 10][i]? = some x → [A 0, A 1, A 2, A 3, A 4, A 5, A 6, A 7, A 8, A 9, A 10][j]? = some x → i = j :=
  inj_of col (cs := [0, 1, 2, 3, 4, 5, 6, 7, 8, 9, 10]) (by
    simp only [List.map_cons, List.map_nil, (hN.1 _ (show 0 < 13 by decide)).2, (hN.1 _ (show 1 < 13 by decide)).2, (hN.1 _ (show 2 < 13 by decide)).2, (hN.1 _ (show 3 < 13 by decide)).2, (hN.1 _ (show 4 < 13 by decide)).2, (hN.1 _ (show 5 < 13 by decide)).2, (hN.1 _ (show 6 < 13 by decide)).2, (hN.1 _ (show 7 < 13 by decide)).2, (hN.1 _ (show 8 < 13 by decide)).2, (hN.1 _ (show 9 < 13 by decide)).2, (hN.1 _ (show 10 < 13 by decide)).2]) (by decide +kernel)
theorem A15_inj (hN : mNe A FR TR WL col) {i : Nat} (hi : i < 12) : ∀ (u v : Nat) x, [A 0, A 1, A 2, A 3, A 4, A 5, A 6, A 7, A 8, A 9, A 10, A 11, A 12, FR i, TR i][u]? = some x → [A 0, A 1, A 2, A 3, A 4, A 5, A 6, A 7, A 8, A 9, A 10, A 11, A 12, FR i, TR i][v]? = some x → u = v :=
  inj_of col (cs := [0, 1, 2, 3, 4, 5, 6, 7, 8, 9, 10, 11, 12, 13, 14]) (by
    simp only [List.map_cons, List.map_nil, (hN.1 _ (show 0 < 13 by decide)).2, (hN.1 _ (show 1 < 13 by decide)).2, (hN.1 _ (show 2 < 13 by decide)).2, (hN.1 _ (show 3 < 13 by decide)).2, (hN.1 _ (show 4 < 13 by decide)).2, (hN.1 _ (show 5 < 13 by decide)).2, (hN.1 _ (show 6 < 13 by decide)).2, (hN.1 _ (show 7 < 13 by decide)).2, (hN.1 _ (show 8 < 13 by decide)).2, (hN.1 _ (show 9 < 13 by decide)).2, (hN.1 _ (show 10 < 13 by decide)).2, (hN.1 _ (show 11 < 13 by decide)).2, (hN.1 _ (show 12 < 13 by decide)).2, (hN.2.1 i hi).2.2.1, (hN.2.1 i hi).2.2.2]) (by decide +kernel)
theorem A15_in (hN : mNe A FR TR WL col) {i : Nat} (hi : i < 12) : ∀ x, x ∈ [A 0, A 1, A 2, A 3, A 4, A 5, A 6, A 7, A 8, A 9, A 10, A 11, A 12, FR i, TR i] → x ∈ WL := fun x hx => by
  simp only [List.mem_cons, List.not_mem_nil, or_false] at hx
  rcases hx with rfl | rfl | rfl | rfl | rfl | rfl | rfl | rfl | rfl | rfl | rfl | rfl | rfl | rfl | rfl
  all_goals first
    | exact (hN.1 _ (by decide)).1
    | exact (hN.2.1 i hi).1
    | exact (hN.2.1 i hi).2.1
/-- another program's row is none of those cells -/
theorem A15_no (hN : mNe A FR TR WL col) {i x : Nat} (hi : i < 12) (hx : 13 ≤ col x) (h1 : x ≠ FR i) (h2 : x ≠ TR i) : ∀ k : Nat, [A 0, A 1, A 2, A 3, A 4, A 5, A 6, A 7, A 8, A 9, A 10, A 11, A 12, FR i, TR i][k]? ≠ some x := fun k hk => by
  have k0 := (hN.1 0 (by decide)).2
  have k1 := (hN.1 1 (by decide)).2
  have k2 := (hN.1 2 (by decide)).2
  have k3 := (hN.1 3 (by decide)).2
  have k4 := (hN.1 4 (by decide)).2
  have k5 := (hN.1 5 (by decide)).2
  have k6 := (hN.1 6 (by decide)).2
  have k7 := (hN.1 7 (by decide)).2
  have k8 := (hN.1 8 (by decide)).2
  have k9 := (hN.1 9 (by decide)).2
  have k10 := (hN.1 10 (by decide)).2
  have k11 := (hN.1 11 (by decide)).2
  have k12 := (hN.1 12 (by decide)).2
  have hm := List.mem_of_getElem? hk
  simp only [List.mem_cons, List.not_mem_nil, or_false] at hm
  rcases hm with rfl | rfl | rfl | rfl | rfl | rfl | rfl | rfl | rfl | rfl | rfl | rfl | rfl | hm | hm
  all_goals first
    | exact h1 hm
    | exact h2 hm
    | omega
theorem fN_i {on : Nat → Nat} {r : Nat → rS} {i : Nat} : fN on r (i + 1) i = rOs (r i) := if_pos (Nat.lt_succ_self i)
theorem fN_n {on : Nat → Nat} {r : Nat → rS} {i q : Nat} (h : q ≠ i) : fN on r (i + 1) q = fN on r i q := by
  unfold fN
  by_cases c : q < i
  · rw [if_pos c, if_pos (by omega)]
  · rw [if_neg c, if_neg (by omega)]
theorem fV_i {ov : Nat → Nat → Int32} {r : Nat → rS} {i : Nat} : fV ov r (i + 1) i = rOv (r i) := if_pos (Nat.lt_succ_self i)
theorem fV_n {ov : Nat → Nat → Int32} {r : Nat → rS} {i q : Nat} (h : q ≠ i) : fV ov r (i + 1) q = fV ov r i q := by
  unfold fV
  by_cases c : q < i
  · rw [if_pos c, if_pos (by omega)]
  · rw [if_neg c, if_neg (by omega)]
/-- a program's input, of files or of twins -/
theorem mIn (hd : dOk n d) (hL : Hs.length ≤ 1000000) (hS : mSt n d A FR TR WL gz Hs) (hN : mNe A FR TR WL col) {i : Nat} (hP : mPh n d A FR TR WL rp rt gz Hs H i) (hi : i < n) {p0 p1 : rP} (hp0 : pNi p0 = (inX d (dWn d) (dWv d) rp i).1 ∧ pIv p0 = (inX d (dWn d) (dWv d) rp i).2) (hp1 : pNi p1 = (inX d (dTn d) (dTv d) rt i).1 ∧ pIv p1 = (inX d (dTn d) (dTv d) rt i).2) :
    rN H [A 0, A 1, A 2, A 3, A 4, A 5, A 6, A 7, A 8, A 9, A 10] (A 15) (A 16) (A 17) (A 18) (A 11) i p0 ∧ rN H [A 0, A 1, A 2, A 3, A 4, A 5, A 6, A 7, A 8, A 9, A 10] (A 15) (A 16) (A 17) (A 19) (A 12) i p1 := by
  obtain ⟨p1_, p2, p3, p4, p5, p6, p7⟩ := hP
  have hd12 := hd.1
  have mv : ∀ (x : Nat) z, c3R Hs WL x z → c3R H [A 0, A 1, A 2, A 3, A 4, A 5, A 6, A 7, A 8, A 9, A 10] x z := fun x z h => c3R_mv p1_ (A11_in hN) h
  obtain ⟨s1, s2, s3, s4, s5⟩ := hS
  obtain ⟨-, -, t3, t4, ⟨r, w, u1, u2, u3, u4, u5⟩, -, -, -⟩ := s5 i hi
  obtain ⟨-, -, -, -, -, b1, b2, -⟩ := hd.2 i hi
  obtain ⟨e01, e02⟩ := hp0
  obtain ⟨e11, e12⟩ := hp1
  unfold inX at e01 e02 e11 e12
  rcases hz : dSv d i with _ | s
  · rw [if_pos hz] at e01 e02 e11 e12
    rw [hz] at t3
    exact ⟨Or.inl ⟨rI_mv mv t3, by rw [e01]; exact rI_mv mv t4, r, w, rQ_mv mv u1, u2, mv _ _ u3, u4, by rw [e01, e02]; exact u5⟩, Or.inl ⟨rI_mv mv t3, by rw [e11]; exact rI_mv mv t4, r, w, rQ_mv mv u1, u2, mv _ _ u3, u4, by rw [e11, e12]; exact u5⟩⟩
  · have hs : s < n := by omega
    have hs1 : dSv d i - 1 = s := by omega
    rw [if_neg (by omega), hs1] at e01 e02 e11 e12
    rw [hz] at t3
    obtain ⟨-, -, -, -, -, v6, v7, -⟩ := s5 s hs
    obtain ⟨lz, cz, nz_, ez⟩ := p5
    obtain ⟨lt, ct, nt_, et⟩ := p6
    obtain ⟨⟨lf, cf, nf_, ef⟩, ⟨lw, cw, nw_, ew⟩⟩ := p7 s hs
    obtain ⟨-, -, k13, k14⟩ := hN.2.1 s (by omega)
    have k11 := (hN.1 11 (by decide)).2
    have k12 := (hN.1 12 (by decide)).2
    have l1 := lt_of cz (by omega)
    have l2 := lt_of ct (by omega)
    have l3 := lt_of cf (by omega)
    have l4 := lt_of cw (by omega)
    have f0 : fN (dWn d) rp i s = pNi p0 ∧ fV (dWv d) rp i s = pIv p0 := by
      unfold fN fV
      by_cases c : s < i
      · rw [if_pos (by omega)] at e01 e02
        rw [if_pos c, if_pos c, e01, e02]
        exact ⟨rfl, rfl⟩
      · rw [if_neg (by omega)] at e01 e02
        rw [if_neg c, if_neg c, e01, e02]
        exact ⟨rfl, rfl⟩
    have f1 : fN (dTn d) rt i s = pNi p1 ∧ fV (dTv d) rt i s = pIv p1 := by
      unfold fN fV
      by_cases c : s < i
      · rw [if_pos (by omega)] at e11 e12
        rw [if_pos c, if_pos c, e11, e12]
        exact ⟨rfl, rfl⟩
      · rw [if_neg (by omega)] at e11 e12
        rw [if_neg c, if_neg c, e11, e12]
        exact ⟨rfl, rfl⟩
    refine ⟨Or.inr ⟨s, by omega, rI_mv mv t3, ⟨by omega, lz, ⟨cz, A11_no hN (by omega)⟩, nz_, ?_⟩, FR s, rQ_mv mv v6, by omega, lf, ⟨cf, A11_no hN (by omega)⟩, nf_.1, ?_⟩, Or.inr ⟨s, by omega, rI_mv mv t3, ⟨by omega, lt, ⟨ct, A11_no hN (by omega)⟩, nt_, ?_⟩, TR s, rQ_mv mv v7, by omega, lw, ⟨cw, A11_no hN (by omega)⟩, nw_.1, ?_⟩⟩
    · rw [← f0.1]
      exact ez s hs
    · rw [← f0.1, ← f0.2]
      exact ef
    · rw [← f1.1]
      exact et s hs
    · rw [← f1.1, ← f1.2]
      exact ew
/-- one more has run, its rows and counts are kept -/
theorem mPh_s (hd : dOk n d) (hN : mNe A FR TR WL col) {i : Nat} (hP : mPh n d A FR TR WL rp rt gz Hs H i) (hi : i < n) {gs f0 f1 w0 w1 vz vt : List (XV Int32)} {a0 a1 b0 b1 c0 c1 d0 d1 e0 e1 h0 h1 : Int32} (h9 : rS9 gs gz) (hl0 : f0.length = 6) (hl1 : f1.length = 6) (hw0 : wLf w0) (hw1 : wLf w1) (hv0 : ∀ k, k < rOs (rp i) → w0[k]? = some (.inl (rOv (rp i) k))) (hv1 : ∀ k, k < rOs (rt i) → w1[k]? = some (.inl (rOv (rt i) k))) (hz : H[A 11]? = some (.inr (0, vz))) (ht : H[A 12]? = some (.inr (0, vt)))
    (h : hm H G [A 0, A 1, A 2, A 3, A 4, A 5, A 6, A 7, A 8, A 9, A 10, A 11, A 12, FR i, TR i] [.inl (12, gs), .inr (0, f0), .inr (0, f1), .inr (0, [.inl a0, .inl a1]), .inr (0, [.inl b0, .inl b1]), .inr (0, [.inl c0, .inl c1]), .inr (0, [.inl d0, .inl d1]), .inr (0, w0), .inr (0, w1), .inr (0, [.inl e0, .inl e1]), .inr (0, [.inl h0, .inl h1]), .inr (0, vz.set i (.inl (nI (rOs (rp i))))), .inr (0, vt.set i (.inl (nI (rOs (rt i))))), .inr (0, w0), .inr (0, w1)]) : mPh n d A FR TR WL rp rt gz Hs G (i + 1) := by
  obtain ⟨p1, p2, p3, p4, ⟨vz2, q1, q2, q3⟩, ⟨vt2, r1, r2, r3⟩, p7⟩ := hP
  have hd12 := hd.1
  rw [q1] at hz
  rw [r1] at ht
  cases hz
  cases ht
  have hi12 : i < 12 := by omega
  refine ⟨fun x z hx => hm_ro h (p1 x z hx) (fun k hk => ?_), (hm_len h).trans p2, ⟨gs, hm_at h (i := 0) rfl rfl, h9⟩, ⟨f0, f1, w0, w1, a0, a1, b0, b1, c0, c1, d0, d1, e0, e1, h0, h1, ⟨hl0, hl1, hw0, hw1⟩, hm_at h (i := 1) rfl rfl, hm_at h (i := 2) rfl rfl, hm_at h (i := 3) rfl rfl, hm_at h (i := 4) rfl rfl, hm_at h (i := 5) rfl rfl, hm_at h (i := 6) rfl rfl, hm_at h (i := 7) rfl rfl, hm_at h (i := 8) rfl rfl, hm_at h (i := 9) rfl rfl, hm_at h (i := 10) rfl rfl⟩, ⟨_, hm_at h (i := 11) rfl rfl, by rw [List.length_set]; exact q2, fun q hq => ?_⟩, ⟨_, hm_at h (i := 12) rfl rfl, by rw [List.length_set]; exact r2, fun q hq => ?_⟩, fun q hq => ?_⟩
  · exact c3R_ne hx (A15_in hN hi12 x (List.mem_of_getElem? hk)) rfl
  · by_cases c : q = i
    · subst c
      rw [fN_i]
      exact List.getElem?_set_self (by omega)
    · rw [fN_n c, List.getElem?_set_ne (fun z => c z.symm)]
      exact q3 q hq
  · by_cases c : q = i
    · subst c
      rw [fN_i]
      exact List.getElem?_set_self (by omega)
    · rw [fN_n c, List.getElem?_set_ne (fun z => c z.symm)]
      exact r3 q hq
  · by_cases c : q = i
    · subst c
      rw [fN_i, fV_i, fN_i, fV_i]
      exact ⟨⟨_, hm_at h (i := 13) rfl rfl, hw0, hv0⟩, ⟨_, hm_at h (i := 14) rfl rfl, hw1, hv1⟩⟩
    · rw [fN_n c, fV_n c, fN_n c, fV_n c]
      obtain ⟨⟨lf, cf, nf_, ef⟩, ⟨lw, cw, nw_, ew⟩⟩ := p7 q hq
      obtain ⟨-, -, k13, k14⟩ := hN.2.1 q (by omega)
      obtain ⟨-, -, j13, j14⟩ := hN.2.1 i hi12
      obtain ⟨n1, n2⟩ := hN.2.2 q i (by omega) hi12 c
      exact ⟨⟨lf, hm_ro h cf (A15_no hN hi12 (by omega) n1 (cne k13 j14 (by decide))), nf_, ef⟩, ⟨lw, hm_ro h cw (A15_no hN hi12 (by omega) (cne k14 j13 (by decide)) n2), nw_, ew⟩⟩
-- copying twelve ints
theorem acl {us vs : List (XV Int32)} (hu : us.length = 12) (hv : vs.length = 12) : vs.take (nI 0).toNatClampNeg ++ (us.drop (nI 0).toNatClampNeg).take (nI 12).toNatClampNeg ++ vs.drop ((nI 0).toNatClampNeg + (nI 12).toNatClampNeg) = us := by
  rw [show (nI 0).toNatClampNeg = 0 from rfl, show (nI 12).toNatClampNeg = 12 from rfl, List.take_zero, List.nil_append, List.drop_zero, List.take_of_length_le (by omega), List.drop_of_length_le (by omega), List.append_nil]
theorem ac4 {us vs : List (XV Int32)} (hu : wLf us) (hv : vs.length = 12) : (decide (¬ nI 12 < 0) && decide (¬ nI 0 < 0) && decide (¬ nI 0 < 0) && decide ((nI 0).toNatClampNeg + (nI 12).toNatClampNeg ≤ us.length) && decide ((nI 0).toNatClampNeg + (nI 12).toNatClampNeg ≤ vs.length) && decide (([] : List (XV Int32)).length ≤ 8) && us.all (fun u => u.isLeft)) = true := by
  rw [hu.1, hv, hu.2]
  decide
end XR33
/-! p33 by hand, 51. -/
noncomputable section XH33_51
variable {ot : XO Int32} {dp : Nat} {H H0 : List (XC Int32)}
theorem t202 {n : Nat} {d : Ld} {A FR TR : Nat → Nat} {WL : List Nat} {rp rt : Nat → rS} {Hs : List (XC Int32)} {gz : List (XV Int32)} {col : Nat → Nat} (hd : dOk n d) (hL : Hs.length ≤ 1000000) (hS : mSt n d A FR TR WL gz Hs) (hN : mNe A FR TR WL col) (hrp : rdP d rp) (hrt : rdT d rt) {i : Nat} (hP : mPh n d A FR TR WL rp rt gz Hs H i) (hi : i < n) : ∃ H2, x_To x_tb x_tyl ot (dp + 5) 202 0 (x_en 0 [.inr (some (A 0)), .inl (nI (i)), .inl ((dYr d))]) [] H 0 0 (some (.inl (nI (if wrg rp rt i = true then 1 else 0)))) H2 ∧ mPh n d A FR TR WL rp rt gz Hs H2 (i + 1) := by
  have hd12 := hd.1
  have hi12 : i < 12 := by omega
  obtain ⟨q1, q2, ⟨gs, hb, h9⟩, ⟨f0, f1, w0, w1, a0, a1, b0, b1, c0, c1, d0, d1, e0, e1, h0, h1, ⟨hl0, hl1, hw0, hw1⟩, k1, k2, k3, k4, k5, k6, k7, k8, k9, k10⟩, ⟨vz, cz, nz_, ez⟩, ⟨vt, ct, nt_, et⟩, q7⟩ := id hP
  obtain ⟨⟨lf, cf, nf_, ef⟩, ⟨lw, cw, nw_, ew⟩⟩ := q7 i hi
  have z0 := lt_of hb (by omega)
  have hN1 : ¬ A 1 = 1000000 := by
    have := lt_of k1 (by omega)
    omega
  have hN2 : ¬ A 2 = 1000000 := by
    have := lt_of k2 (by omega)
    omega
  have hN3 : ¬ A 3 = 1000000 := by
    have := lt_of k3 (by omega)
    omega
  have hN4 : ¬ A 4 = 1000000 := by
    have := lt_of k4 (by omega)
    omega
  have hN5 : ¬ A 5 = 1000000 := by
    have := lt_of k5 (by omega)
    omega
  have hN6 : ¬ A 6 = 1000000 := by
    have := lt_of k6 (by omega)
    omega
  have hN7 : ¬ A 7 = 1000000 := by
    have := lt_of k7 (by omega)
    omega
  have hN8 : ¬ A 8 = 1000000 := by
    have := lt_of k8 (by omega)
    omega
  have hN9 : ¬ A 9 = 1000000 := by
    have := lt_of k9 (by omega)
    omega
  have hN10 : ¬ A 10 = 1000000 := by
    have := lt_of k10 (by omega)
    omega
  have hN11 : ¬ A 11 = 1000000 := by
    have := lt_of cz (by omega)
    omega
  have hN12 : ¬ A 12 = 1000000 := by
    have := lt_of ct (by omega)
    omega
  have hN13 : ¬ FR i = 1000000 := by
    have := lt_of cf (by omega)
    omega
  have hN14 : ¬ TR i = 1000000 := by
    have := lt_of cw (by omega)
    omega
  have hA0 : ¬ 1000000 < A 0 := by omega
  have mv : ∀ (x : Nat) z, c3R Hs WL x z → c3R H [A 0, A 1, A 2, A 3, A 4, A 5, A 6, A 7, A 8, A 9, A 10] x z := fun x z h => c3R_mv q1 (A11_in hN) h
  have mv15 : ∀ (x : Nat) z, c3R Hs WL x z → c3R H [A 0, A 1, A 2, A 3, A 4, A 5, A 6, A 7, A 8, A 9, A 10, A 11, A 12, FR i, TR i] x z := fun x z h => c3R_mv q1 (A15_in hN hi12) h
  obtain ⟨s1, s2, s3, s4, s5⟩ := hS
  obtain ⟨t1, t2, t3, t4, t5, t6, t7, t8⟩ := s5 i hi
  have hm11 : hm H H [A 0, A 1, A 2, A 3, A 4, A 5, A 6, A 7, A 8, A 9, A 10] [.inl (12, gs), .inr (0, f0), .inr (0, f1), .inr (0, [.inl a0, .inl a1]), .inr (0, [.inl b0, .inl b1]), .inr (0, [.inl c0, .inl c1]), .inr (0, [.inl d0, .inl d1]), .inr (0, w0), .inr (0, w1), .inr (0, [.inl e0, .inl e1]), .inr (0, [.inl h0, .inl h1])] := hm_rf (A11_inj hN) rfl (fun k a z hk hz => by
    rcases k with _ | _ | _ | _ | _ | _ | _ | _ | _ | _ | _ | k
    all_goals first
      | (cases hk; cases hz; assumption)
      | cases hk)
  obtain ⟨i0, i1⟩ := mIn hd hL ⟨s1, s2, s3, s4, s5⟩ hN hP hi (p0 := pgP d i (inX d (dWn d) (dWv d) rp i)) (p1 := pgT d i (inX d (dTn d) (dTv d) rt i)) ⟨rfl, rfl⟩ ⟨rfl, rfl⟩
  obtain ⟨G1, gs2, y1_, h92, hM⟩ := t203 (ot := ot) (dp := dp) (p0 := pgP d i (inX d (dWn d) (dWv d) rp i)) (p1 := pgT d i (inX d (dTn d) (dTv d) rt i)) hl0 hl1 hw0.1 hw1.1 hw0 hw1 hA0 (by omega) (by omega) (by omega) (by omega) (by omega) (by omega) (by omega) (by omega) (by omega) (by omega) ⟨rQ_mv mv s3.1, rQ_mv mv s3.2⟩ ⟨rQ_mv mv s4.1, rQ_mv mv s4.2⟩ (rG_9 h9 s1) hi12 (rC_mv mv (t1 _)) (rC_pt (rC_mv mv (t1 (inX d (dTn d) (dTv d) rt i)))) (rT_9 h9 (rT_mv mv (t2 _))) (Or.inl ⟨rfl, rfl, rfl⟩) i0 i1 (pgP_ok hd hrp hi) (pgT_ok hd hrt hi) rfl hm11
  rw [← hrp i, ← hrt i] at hM
  have h92 := rS9_tr h92 h9
  obtain ⟨g1, g2, g6, g11, g12, g13, g14, g15, g16, g50, g51, g52, g53, g54, g55, g56, g57, g58⟩ := rG_9 h92 s1
  obtain ⟨f0, f1, w0, w1, x0, x1, h0, h1, h11, -, -, hl0, hl1, hw0, hw1, -, -, hv0, hv1⟩ := hM
  obtain ⟨-, -, j13, j14⟩ := hN.2.1 i hi12
  have j11 := (hN.1 11 (by decide)).2
  have j12 := (hN.1 12 (by decide)).2
  have h15 : hm H G1 [A 0, A 1, A 2, A 3, A 4, A 5, A 6, A 7, A 8, A 9, A 10, A 11, A 12, FR i, TR i] [.inl (12, gs2), .inr (0, f0), .inr (0, f1), .inr (0, [.inl x0, .inl x1]), .inr (0, [.inl (nI (rNx (rp i))), .inl (nI (rNx (rt i)))]), .inr (0, [.inl (nI (rDn (rp i))), .inl (nI (rDn (rt i)))]), .inr (0, [.inl (rEn (rp i)), .inl (rEn (rt i))]), .inr (0, w0), .inr (0, w1), .inr (0, [.inl (nI (rOs (rp i))), .inl (nI (rOs (rt i)))]), .inr (0, [.inl h0, .inl h1]), .inr (0, vz), .inr (0, vt), .inr (0, lf), .inr (0, lw)] := hm_app (Cs := [A 11, A 12, FR i, TR i]) (Ys := [.inr (0, vz), .inr (0, vt), .inr (0, lf), .inr (0, lw)]) h11 (A15_inj hN hi12) rfl (fun k a z hk hz => by
    rcases k with _ | _ | _ | _ | k
    · cases hk
      cases hz
      exact hm_ro h11 cz (A11_no hN (by omega))
    · cases hk
      cases hz
      exact hm_ro h11 ct (A11_no hN (by omega))
    · cases hk
      cases hz
      exact hm_ro h11 cf (A11_no hN (by omega))
    · cases hk
      cases hz
      exact hm_ro h11 cw (A11_no hN (by omega))
    · cases hk)
  obtain ⟨lfi, cfi, nfi, efi⟩ := rQ_mv mv15 t6
  obtain ⟨ltw, ctw, ntw, etw⟩ := rQ_mv mv15 t7
  obtain ⟨lwo0, cwo0, nwo0, ewo0⟩ := rQ_mv mv15 s4.1
  obtain ⟨lwo1, cwo1, nwo1, ewo1⟩ := rQ_mv mv15 s4.2
  by_cases ce : rEn (rp i) = rEn (rt i)
  rotate_left
  · rw [if_pos (wrg_e ce)]
    have g1_ : hm _ _ [A 0, A 1, A 2, A 3, A 4, A 5, A 6, A 7, A 8, A 9, A 10, A 11, A 12, FR i, TR i] [.inl (12, gs2), .inr (0, f0), .inr (0, f1), .inr (0, [.inl (x0), .inl (x1)]), .inr (0, [.inl (nI (rNx (rp i))), .inl (nI (rNx (rt i)))]), .inr (0, [.inl (nI (rDn (rp i))), .inl (nI (rDn (rt i)))]), .inr (0, [.inl (rEn (rp i)), .inl (rEn (rt i))]), .inr (0, w0), .inr (0, w1), .inr (0, [.inl (nI (rOs (rp i))), .inl (nI (rOs (rt i)))]), .inr (0, [.inl (h0), .inl (h1)]), .inr (0, vz), .inr (0, vt), .inr (0, w0), .inr (0, lw)] := hm_set (i := 13) (z2 := .inr (0, w0)) h15 rfl
    have g2_ : hm _ _ [A 0, A 1, A 2, A 3, A 4, A 5, A 6, A 7, A 8, A 9, A 10, A 11, A 12, FR i, TR i] [.inl (12, gs2), .inr (0, f0), .inr (0, f1), .inr (0, [.inl (x0), .inl (x1)]), .inr (0, [.inl (nI (rNx (rp i))), .inl (nI (rNx (rt i)))]), .inr (0, [.inl (nI (rDn (rp i))), .inl (nI (rDn (rt i)))]), .inr (0, [.inl (rEn (rp i)), .inl (rEn (rt i))]), .inr (0, w0), .inr (0, w1), .inr (0, [.inl (nI (rOs (rp i))), .inl (nI (rOs (rt i)))]), .inr (0, [.inl (h0), .inl (h1)]), .inr (0, vz), .inr (0, vt), .inr (0, w0), .inr (0, w1)] := hm_set (i := 14) (z2 := .inr (0, w1)) g1_ rfl
    have g3_ : hm H0 _ [A 0, A 1, A 2, A 3, A 4, A 5, A 6, A 7, A 8, A 9, A 10, A 11, A 12, FR i, TR i] [.inl (12, gs2), .inr (0, f0), .inr (0, f1), .inr (0, [.inl (x0), .inl (x1)]), .inr (0, [.inl (nI (rNx (rp i))), .inl (nI (rNx (rt i)))]), .inr (0, [.inl (nI (rDn (rp i))), .inl (nI (rDn (rt i)))]), .inr (0, [.inl (rEn (rp i)), .inl (rEn (rt i))]), .inr (0, w0), .inr (0, w1), .inr (0, [.inl (nI (rOs (rp i))), .inl (nI (rOs (rt i)))]), .inr (0, [.inl (h0), .inl (h1)]), .inr (0, (vz).set (i) (.inl (nI (rOs (rp i))))), .inr (0, vt), .inr (0, w0), .inr (0, w1)] := hm_set (i := 11) (z2 := .inr (0, (vz).set (i) (.inl (nI (rOs (rp i)))))) g2_ rfl
    have g4_ : hm H0 _ [A 0, A 1, A 2, A 3, A 4, A 5, A 6, A 7, A 8, A 9, A 10, A 11, A 12, FR i, TR i] [.inl (12, gs2), .inr (0, f0), .inr (0, f1), .inr (0, [.inl (x0), .inl (x1)]), .inr (0, [.inl (nI (rNx (rp i))), .inl (nI (rNx (rt i)))]), .inr (0, [.inl (nI (rDn (rp i))), .inl (nI (rDn (rt i)))]), .inr (0, [.inl (rEn (rp i)), .inl (rEn (rt i))]), .inr (0, w0), .inr (0, w1), .inr (0, [.inl (nI (rOs (rp i))), .inl (nI (rOs (rt i)))]), .inr (0, [.inl (h0), .inl (h1)]), .inr (0, (vz).set (i) (.inl (nI (rOs (rp i))))), .inr (0, (vt).set (i) (.inl (nI (rOs (rt i))))), .inr (0, w0), .inr (0, w1)] := hm_set (i := 12) (z2 := .inr (0, (vt).set (i) (.inl (nI (rOs (rt i)))))) g3_ rfl
    refine ⟨_, ?_, mPh_s hd hN hP hi h92 hl0 hl1 hw0 hw1 hv0 hv1 cz ct g4_⟩
    refine xT_aload_n g_q202 g202_0 (rfl) ?_
    refine xT_iload_n g_q202 g202_1 (rfl) ?_
    refine xT_iload_n g_q202 g202_2 (rfl) ?_
    refine xT_invokevirtual (r := []) (u := none) g_q202 g202_3 (j := 203) (so := 0) (by decide +kernel) g_q203 rfl (by rw [x_rcM hA0 hb]; rfl) (y1_) ?_
    refine xT_aload_n g_q202 g202_6 (rfl) ?_
    refine xT_getfield g_q202 g202_7 hA0 rfl (hm_at h15 (i := 0) rfl rfl) rfl g55 ?_
    refine xT_icV (y := nI (0)) g_q202 g202_10 (by decide) ?_
    refine xT_aaload g_q202 g202_11 (by decide +kernel) (hm_c h15 cwo0) (ixN (n := 2) (by decide) nwo0) (ixG (by decide) ewo0) ?_
    refine xT_icV (y := nI (0)) g_q202 g202_12 (by decide) ?_
    refine xT_aload_n g_q202 g202_13 (rfl) ?_
    refine xT_getfield g_q202 g202_14 hA0 rfl (hm_at h15 (i := 0) rfl rfl) rfl g13 ?_
    refine xT_iload_n g_q202 g202_17 (rfl) ?_
    refine xT_aaload g_q202 g202_18 (by decide +kernel) (hm_c h15 cfi) (ixN (n := 12) (by omega) nfi) (ixG (by omega) efi) ?_
    refine xT_icV (y := nI (0)) g_q202 g202_19 (by decide) ?_
    refine xT_biV (y := nI (12)) g_q202 g202_20 (by decide) ?_
    refine xT_arraycopy g_q202 g202_22 (by decide +kernel) (by decide +kernel) (hm_at h15 (i := 7) rfl rfl) (hm_at h15 (i := 13) rfl rfl) (ac4 hw0 nf_.1) ?_
    rw [acl hw0.1 nf_.1]
    refine xT_aload_n g_q202 g202_25 (rfl) ?_
    refine xT_getfield g_q202 g202_26 hA0 rfl (hm_at g1_ (i := 0) rfl rfl) rfl g55 ?_
    refine xT_icV (y := nI (1)) g_q202 g202_29 (by decide) ?_
    refine xT_aaload g_q202 g202_30 (by decide +kernel) (hm_c g1_ cwo1) (ixN (n := 2) (by decide) nwo1) (ixG (by decide) ewo1) ?_
    refine xT_icV (y := nI (0)) g_q202 g202_31 (by decide) ?_
    refine xT_aload_n g_q202 g202_32 (rfl) ?_
    refine xT_getfield g_q202 g202_33 hA0 rfl (hm_at g1_ (i := 0) rfl rfl) rfl g15 ?_
    refine xT_iload_n g_q202 g202_36 (rfl) ?_
    refine xT_aaload g_q202 g202_37 (by decide +kernel) (hm_c g1_ ctw) (ixN (n := 12) (by omega) ntw) (ixG (by omega) etw) ?_
    refine xT_icV (y := nI (0)) g_q202 g202_38 (by decide) ?_
    refine xT_biV (y := nI (12)) g_q202 g202_39 (by decide) ?_
    refine xT_arraycopy g_q202 g202_41 (by decide +kernel) (by decide +kernel) (hm_at g1_ (i := 8) rfl rfl) (hm_at g1_ (i := 14) rfl rfl) (ac4 hw1 nw_.1) ?_
    rw [acl hw1.1 nw_.1]
    refine xT_aload_n g_q202 g202_44 (rfl) ?_
    refine xT_getfield g_q202 g202_45 hA0 rfl (hm_at g2_ (i := 0) rfl rfl) rfl g14 ?_
    refine xT_iload_n g_q202 g202_48 (rfl) ?_
    refine xT_aload_n g_q202 g202_49 (rfl) ?_
    refine xT_getfield g_q202 g202_50 hA0 rfl (hm_at g2_ (i := 0) rfl rfl) rfl g56 ?_
    refine xT_icV (y := nI (0)) g_q202 g202_53 (by decide) ?_
    refine xT_iaload g_q202 g202_54 hN9 (hm_at g2_ (i := 9) rfl rfl) (ixN (n := 2) (by decide) rfl) (ixG (by decide) rfl) ?_
    refine xT_iastore g_q202 g202_55 (hm_at g2_ (i := 11) rfl rfl) (ixN (n := 12) (by omega) nz_) ?_
    rw [nI_clamp (by omega)]
    refine xT_aload_n g_q202 g202_56 (rfl) ?_
    refine xT_getfield g_q202 g202_57 hA0 rfl (hm_at g3_ (i := 0) rfl rfl) rfl g16 ?_
    refine xT_iload_n g_q202 g202_60 (rfl) ?_
    refine xT_aload_n g_q202 g202_61 (rfl) ?_
    refine xT_getfield g_q202 g202_62 hA0 rfl (hm_at g3_ (i := 0) rfl rfl) rfl g56 ?_
    refine xT_icV (y := nI (1)) g_q202 g202_65 (by decide) ?_
    refine xT_iaload g_q202 g202_66 hN9 (hm_at g3_ (i := 9) rfl rfl) (ixN (n := 2) (by decide) rfl) (ixG (by decide) rfl) ?_
    refine xT_iastore g_q202 g202_67 (hm_at g3_ (i := 12) rfl rfl) (ixN (n := 12) (by omega) nt_) ?_
    rw [nI_clamp (by omega)]
    refine xT_aload_n g_q202 g202_68 (rfl) ?_
    refine xT_getfield g_q202 g202_69 hA0 rfl (hm_at g4_ (i := 0) rfl rfl) rfl g54 ?_
    refine xT_icV (y := nI (0)) g_q202 g202_72 (by decide) ?_
    refine xT_iaload g_q202 g202_73 hN6 (hm_at g4_ (i := 6) rfl rfl) (ixN (n := 2) (by decide) rfl) (ixG (by decide) rfl) ?_
    refine xT_aload_n g_q202 g202_74 (rfl) ?_
    refine xT_getfield g_q202 g202_75 hA0 rfl (hm_at g4_ (i := 0) rfl rfl) rfl g54 ?_
    refine xT_icV (y := nI (1)) g_q202 g202_78 (by decide) ?_
    refine xT_iaload g_q202 g202_79 hN6 (hm_at g4_ (i := 6) rfl rfl) (ixN (n := 2) (by decide) rfl) (ixG (by decide) rfl) ?_
    refine xT_if_icmpY g_q202 g202_80 (t := 113) (by decide) (decide_eq_true ce) ?_
    refine xT_icV (y := nI (1)) g_q202 g202_113 (by decide) ?_
    refine xT_goto g_q202 g202_114 (t := 118) (by decide) ?_
    exact xT_ireturn g_q202 g202_118 (by decide +kernel)
  by_cases cl : lkB (rOs (rp i)) (rOv (rp i)) (rOs (rt i)) (rOv (rt i)) = true
  · rw [if_neg (wrg_n ce cl)]
    have g1_ : hm _ _ [A 0, A 1, A 2, A 3, A 4, A 5, A 6, A 7, A 8, A 9, A 10, A 11, A 12, FR i, TR i] [.inl (12, gs2), .inr (0, f0), .inr (0, f1), .inr (0, [.inl (x0), .inl (x1)]), .inr (0, [.inl (nI (rNx (rp i))), .inl (nI (rNx (rt i)))]), .inr (0, [.inl (nI (rDn (rp i))), .inl (nI (rDn (rt i)))]), .inr (0, [.inl (rEn (rp i)), .inl (rEn (rt i))]), .inr (0, w0), .inr (0, w1), .inr (0, [.inl (nI (rOs (rp i))), .inl (nI (rOs (rt i)))]), .inr (0, [.inl (h0), .inl (h1)]), .inr (0, vz), .inr (0, vt), .inr (0, w0), .inr (0, lw)] := hm_set (i := 13) (z2 := .inr (0, w0)) h15 rfl
    have g2_ : hm _ _ [A 0, A 1, A 2, A 3, A 4, A 5, A 6, A 7, A 8, A 9, A 10, A 11, A 12, FR i, TR i] [.inl (12, gs2), .inr (0, f0), .inr (0, f1), .inr (0, [.inl (x0), .inl (x1)]), .inr (0, [.inl (nI (rNx (rp i))), .inl (nI (rNx (rt i)))]), .inr (0, [.inl (nI (rDn (rp i))), .inl (nI (rDn (rt i)))]), .inr (0, [.inl (rEn (rp i)), .inl (rEn (rt i))]), .inr (0, w0), .inr (0, w1), .inr (0, [.inl (nI (rOs (rp i))), .inl (nI (rOs (rt i)))]), .inr (0, [.inl (h0), .inl (h1)]), .inr (0, vz), .inr (0, vt), .inr (0, w0), .inr (0, w1)] := hm_set (i := 14) (z2 := .inr (0, w1)) g1_ rfl
    have g3_ : hm H0 _ [A 0, A 1, A 2, A 3, A 4, A 5, A 6, A 7, A 8, A 9, A 10, A 11, A 12, FR i, TR i] [.inl (12, gs2), .inr (0, f0), .inr (0, f1), .inr (0, [.inl (x0), .inl (x1)]), .inr (0, [.inl (nI (rNx (rp i))), .inl (nI (rNx (rt i)))]), .inr (0, [.inl (nI (rDn (rp i))), .inl (nI (rDn (rt i)))]), .inr (0, [.inl (rEn (rp i)), .inl (rEn (rt i))]), .inr (0, w0), .inr (0, w1), .inr (0, [.inl (nI (rOs (rp i))), .inl (nI (rOs (rt i)))]), .inr (0, [.inl (h0), .inl (h1)]), .inr (0, (vz).set (i) (.inl (nI (rOs (rp i))))), .inr (0, vt), .inr (0, w0), .inr (0, w1)] := hm_set (i := 11) (z2 := .inr (0, (vz).set (i) (.inl (nI (rOs (rp i)))))) g2_ rfl
    have g4_ : hm H0 _ [A 0, A 1, A 2, A 3, A 4, A 5, A 6, A 7, A 8, A 9, A 10, A 11, A 12, FR i, TR i] [.inl (12, gs2), .inr (0, f0), .inr (0, f1), .inr (0, [.inl (x0), .inl (x1)]), .inr (0, [.inl (nI (rNx (rp i))), .inl (nI (rNx (rt i)))]), .inr (0, [.inl (nI (rDn (rp i))), .inl (nI (rDn (rt i)))]), .inr (0, [.inl (rEn (rp i)), .inl (rEn (rt i))]), .inr (0, w0), .inr (0, w1), .inr (0, [.inl (nI (rOs (rp i))), .inl (nI (rOs (rt i)))]), .inr (0, [.inl (h0), .inl (h1)]), .inr (0, (vz).set (i) (.inl (nI (rOs (rp i))))), .inr (0, (vt).set (i) (.inl (nI (rOs (rt i))))), .inr (0, w0), .inr (0, w1)] := hm_set (i := 12) (z2 := .inr (0, (vt).set (i) (.inl (nI (rOs (rt i)))))) g3_ rfl
    refine ⟨_, ?_, mPh_s hd hN hP hi h92 hl0 hl1 hw0 hw1 hv0 hv1 cz ct g4_⟩
    refine xT_aload_n g_q202 g202_0 (rfl) ?_
    refine xT_iload_n g_q202 g202_1 (rfl) ?_
    refine xT_iload_n g_q202 g202_2 (rfl) ?_
    refine xT_invokevirtual (r := []) (u := none) g_q202 g202_3 (j := 203) (so := 0) (by decide +kernel) g_q203 rfl (by rw [x_rcM hA0 hb]; rfl) (y1_) ?_
    refine xT_aload_n g_q202 g202_6 (rfl) ?_
    refine xT_getfield g_q202 g202_7 hA0 rfl (hm_at h15 (i := 0) rfl rfl) rfl g55 ?_
    refine xT_icV (y := nI (0)) g_q202 g202_10 (by decide) ?_
    refine xT_aaload g_q202 g202_11 (by decide +kernel) (hm_c h15 cwo0) (ixN (n := 2) (by decide) nwo0) (ixG (by decide) ewo0) ?_
    refine xT_icV (y := nI (0)) g_q202 g202_12 (by decide) ?_
    refine xT_aload_n g_q202 g202_13 (rfl) ?_
    refine xT_getfield g_q202 g202_14 hA0 rfl (hm_at h15 (i := 0) rfl rfl) rfl g13 ?_
    refine xT_iload_n g_q202 g202_17 (rfl) ?_
    refine xT_aaload g_q202 g202_18 (by decide +kernel) (hm_c h15 cfi) (ixN (n := 12) (by omega) nfi) (ixG (by omega) efi) ?_
    refine xT_icV (y := nI (0)) g_q202 g202_19 (by decide) ?_
    refine xT_biV (y := nI (12)) g_q202 g202_20 (by decide) ?_
    refine xT_arraycopy g_q202 g202_22 (by decide +kernel) (by decide +kernel) (hm_at h15 (i := 7) rfl rfl) (hm_at h15 (i := 13) rfl rfl) (ac4 hw0 nf_.1) ?_
    rw [acl hw0.1 nf_.1]
    refine xT_aload_n g_q202 g202_25 (rfl) ?_
    refine xT_getfield g_q202 g202_26 hA0 rfl (hm_at g1_ (i := 0) rfl rfl) rfl g55 ?_
    refine xT_icV (y := nI (1)) g_q202 g202_29 (by decide) ?_
    refine xT_aaload g_q202 g202_30 (by decide +kernel) (hm_c g1_ cwo1) (ixN (n := 2) (by decide) nwo1) (ixG (by decide) ewo1) ?_
    refine xT_icV (y := nI (0)) g_q202 g202_31 (by decide) ?_
    refine xT_aload_n g_q202 g202_32 (rfl) ?_
    refine xT_getfield g_q202 g202_33 hA0 rfl (hm_at g1_ (i := 0) rfl rfl) rfl g15 ?_
    refine xT_iload_n g_q202 g202_36 (rfl) ?_
    refine xT_aaload g_q202 g202_37 (by decide +kernel) (hm_c g1_ ctw) (ixN (n := 12) (by omega) ntw) (ixG (by omega) etw) ?_
    refine xT_icV (y := nI (0)) g_q202 g202_38 (by decide) ?_
    refine xT_biV (y := nI (12)) g_q202 g202_39 (by decide) ?_
    refine xT_arraycopy g_q202 g202_41 (by decide +kernel) (by decide +kernel) (hm_at g1_ (i := 8) rfl rfl) (hm_at g1_ (i := 14) rfl rfl) (ac4 hw1 nw_.1) ?_
    rw [acl hw1.1 nw_.1]
    refine xT_aload_n g_q202 g202_44 (rfl) ?_
    refine xT_getfield g_q202 g202_45 hA0 rfl (hm_at g2_ (i := 0) rfl rfl) rfl g14 ?_
    refine xT_iload_n g_q202 g202_48 (rfl) ?_
    refine xT_aload_n g_q202 g202_49 (rfl) ?_
    refine xT_getfield g_q202 g202_50 hA0 rfl (hm_at g2_ (i := 0) rfl rfl) rfl g56 ?_
    refine xT_icV (y := nI (0)) g_q202 g202_53 (by decide) ?_
    refine xT_iaload g_q202 g202_54 hN9 (hm_at g2_ (i := 9) rfl rfl) (ixN (n := 2) (by decide) rfl) (ixG (by decide) rfl) ?_
    refine xT_iastore g_q202 g202_55 (hm_at g2_ (i := 11) rfl rfl) (ixN (n := 12) (by omega) nz_) ?_
    rw [nI_clamp (by omega)]
    refine xT_aload_n g_q202 g202_56 (rfl) ?_
    refine xT_getfield g_q202 g202_57 hA0 rfl (hm_at g3_ (i := 0) rfl rfl) rfl g16 ?_
    refine xT_iload_n g_q202 g202_60 (rfl) ?_
    refine xT_aload_n g_q202 g202_61 (rfl) ?_
    refine xT_getfield g_q202 g202_62 hA0 rfl (hm_at g3_ (i := 0) rfl rfl) rfl g56 ?_
    refine xT_icV (y := nI (1)) g_q202 g202_65 (by decide) ?_
    refine xT_iaload g_q202 g202_66 hN9 (hm_at g3_ (i := 9) rfl rfl) (ixN (n := 2) (by decide) rfl) (ixG (by decide) rfl) ?_
    refine xT_iastore g_q202 g202_67 (hm_at g3_ (i := 12) rfl rfl) (ixN (n := 12) (by omega) nt_) ?_
    rw [nI_clamp (by omega)]
    refine xT_aload_n g_q202 g202_68 (rfl) ?_
    refine xT_getfield g_q202 g202_69 hA0 rfl (hm_at g4_ (i := 0) rfl rfl) rfl g54 ?_
    refine xT_icV (y := nI (0)) g_q202 g202_72 (by decide) ?_
    refine xT_iaload g_q202 g202_73 hN6 (hm_at g4_ (i := 6) rfl rfl) (ixN (n := 2) (by decide) rfl) (ixG (by decide) rfl) ?_
    refine xT_aload_n g_q202 g202_74 (rfl) ?_
    refine xT_getfield g_q202 g202_75 hA0 rfl (hm_at g4_ (i := 0) rfl rfl) rfl g54 ?_
    refine xT_icV (y := nI (1)) g_q202 g202_78 (by decide) ?_
    refine xT_iaload g_q202 g202_79 hN6 (hm_at g4_ (i := 6) rfl rfl) (ixN (n := 2) (by decide) rfl) (ixG (by decide) rfl) ?_
    refine xT_if_icmpN g_q202 g202_80 (t := 113) (by decide) (decide_eq_false (fun z => z ce)) ?_
    refine xT_aload_n g_q202 g202_83 (rfl) ?_
    refine xT_getfield g_q202 g202_84 hA0 rfl (hm_at g4_ (i := 0) rfl rfl) rfl g13 ?_
    refine xT_iload_n g_q202 g202_87 (rfl) ?_
    refine xT_aaload g_q202 g202_88 (by decide +kernel) (hm_c g4_ cfi) (ixN (n := 12) (by omega) nfi) (ixG (by omega) efi) ?_
    refine xT_aload_n g_q202 g202_89 (rfl) ?_
    refine xT_getfield g_q202 g202_90 hA0 rfl (hm_at g4_ (i := 0) rfl rfl) rfl g14 ?_
    refine xT_iload_n g_q202 g202_93 (rfl) ?_
    refine xT_iaload g_q202 g202_94 hN11 (hm_at g4_ (i := 11) rfl rfl) (ixN (n := 12) (by omega) (by rw [List.length_set]; exact nz_)) (ixG (by omega) (List.getElem?_set_self (by omega))) ?_
    refine xT_aload_n g_q202 g202_95 (rfl) ?_
    refine xT_getfield g_q202 g202_96 hA0 rfl (hm_at g4_ (i := 0) rfl rfl) rfl g15 ?_
    refine xT_iload_n g_q202 g202_99 (rfl) ?_
    refine xT_aaload g_q202 g202_100 (by decide +kernel) (hm_c g4_ ctw) (ixN (n := 12) (by omega) ntw) (ixG (by omega) etw) ?_
    refine xT_aload_n g_q202 g202_101 (rfl) ?_
    refine xT_getfield g_q202 g202_102 hA0 rfl (hm_at g4_ (i := 0) rfl rfl) rfl g16 ?_
    refine xT_iload_n g_q202 g202_105 (rfl) ?_
    refine xT_iaload g_q202 g202_106 hN12 (hm_at g4_ (i := 12) rfl rfl) (ixN (n := 12) (by omega) (by rw [List.length_set]; exact nt_)) (ixG (by omega) (List.getElem?_set_self (by omega))) ?_
    refine xT_invokestatic (r := []) (u := some (.inl (nI (1)))) g_q202 g202_107 (j := 211) (so := 2) (by decide +kernel) g_q211 (rfl) (by have y := t211 (ot := ot) (dp := dp + 4) hN13 hN14 (hm_at g4_ (i := 13) rfl rfl) (hm_at g4_ (i := 14) rfl rfl) hw0.1 hw1.1 (rdP_12 hd hrp hi) hv0 (fun em k hk => hv1 k (by omega)) (rdT_12 hd hrt hi); rw [if_pos cl] at y; exact y) ?_
    refine xT_ifCondY g_q202 g202_110 (t := 117) (by decide) (c1Y (a := 1) (b := 0) (by omega) (by omega) (by omega)) ?_
    refine xT_icV (y := nI (0)) g_q202 g202_117 (by decide) ?_
    exact xT_ireturn g_q202 g202_118 (by decide +kernel)
  · rw [if_pos (wrg_l ce cl)]
    have g1_ : hm _ _ [A 0, A 1, A 2, A 3, A 4, A 5, A 6, A 7, A 8, A 9, A 10, A 11, A 12, FR i, TR i] [.inl (12, gs2), .inr (0, f0), .inr (0, f1), .inr (0, [.inl (x0), .inl (x1)]), .inr (0, [.inl (nI (rNx (rp i))), .inl (nI (rNx (rt i)))]), .inr (0, [.inl (nI (rDn (rp i))), .inl (nI (rDn (rt i)))]), .inr (0, [.inl (rEn (rp i)), .inl (rEn (rt i))]), .inr (0, w0), .inr (0, w1), .inr (0, [.inl (nI (rOs (rp i))), .inl (nI (rOs (rt i)))]), .inr (0, [.inl (h0), .inl (h1)]), .inr (0, vz), .inr (0, vt), .inr (0, w0), .inr (0, lw)] := hm_set (i := 13) (z2 := .inr (0, w0)) h15 rfl
    have g2_ : hm _ _ [A 0, A 1, A 2, A 3, A 4, A 5, A 6, A 7, A 8, A 9, A 10, A 11, A 12, FR i, TR i] [.inl (12, gs2), .inr (0, f0), .inr (0, f1), .inr (0, [.inl (x0), .inl (x1)]), .inr (0, [.inl (nI (rNx (rp i))), .inl (nI (rNx (rt i)))]), .inr (0, [.inl (nI (rDn (rp i))), .inl (nI (rDn (rt i)))]), .inr (0, [.inl (rEn (rp i)), .inl (rEn (rt i))]), .inr (0, w0), .inr (0, w1), .inr (0, [.inl (nI (rOs (rp i))), .inl (nI (rOs (rt i)))]), .inr (0, [.inl (h0), .inl (h1)]), .inr (0, vz), .inr (0, vt), .inr (0, w0), .inr (0, w1)] := hm_set (i := 14) (z2 := .inr (0, w1)) g1_ rfl
    have g3_ : hm H0 _ [A 0, A 1, A 2, A 3, A 4, A 5, A 6, A 7, A 8, A 9, A 10, A 11, A 12, FR i, TR i] [.inl (12, gs2), .inr (0, f0), .inr (0, f1), .inr (0, [.inl (x0), .inl (x1)]), .inr (0, [.inl (nI (rNx (rp i))), .inl (nI (rNx (rt i)))]), .inr (0, [.inl (nI (rDn (rp i))), .inl (nI (rDn (rt i)))]), .inr (0, [.inl (rEn (rp i)), .inl (rEn (rt i))]), .inr (0, w0), .inr (0, w1), .inr (0, [.inl (nI (rOs (rp i))), .inl (nI (rOs (rt i)))]), .inr (0, [.inl (h0), .inl (h1)]), .inr (0, (vz).set (i) (.inl (nI (rOs (rp i))))), .inr (0, vt), .inr (0, w0), .inr (0, w1)] := hm_set (i := 11) (z2 := .inr (0, (vz).set (i) (.inl (nI (rOs (rp i)))))) g2_ rfl
    have g4_ : hm H0 _ [A 0, A 1, A 2, A 3, A 4, A 5, A 6, A 7, A 8, A 9, A 10, A 11, A 12, FR i, TR i] [.inl (12, gs2), .inr (0, f0), .inr (0, f1), .inr (0, [.inl (x0), .inl (x1)]), .inr (0, [.inl (nI (rNx (rp i))), .inl (nI (rNx (rt i)))]), .inr (0, [.inl (nI (rDn (rp i))), .inl (nI (rDn (rt i)))]), .inr (0, [.inl (rEn (rp i)), .inl (rEn (rt i))]), .inr (0, w0), .inr (0, w1), .inr (0, [.inl (nI (rOs (rp i))), .inl (nI (rOs (rt i)))]), .inr (0, [.inl (h0), .inl (h1)]), .inr (0, (vz).set (i) (.inl (nI (rOs (rp i))))), .inr (0, (vt).set (i) (.inl (nI (rOs (rt i))))), .inr (0, w0), .inr (0, w1)] := hm_set (i := 12) (z2 := .inr (0, (vt).set (i) (.inl (nI (rOs (rt i)))))) g3_ rfl
    refine ⟨_, ?_, mPh_s hd hN hP hi h92 hl0 hl1 hw0 hw1 hv0 hv1 cz ct g4_⟩
    refine xT_aload_n g_q202 g202_0 (rfl) ?_
    refine xT_iload_n g_q202 g202_1 (rfl) ?_
    refine xT_iload_n g_q202 g202_2 (rfl) ?_
    refine xT_invokevirtual (r := []) (u := none) g_q202 g202_3 (j := 203) (so := 0) (by decide +kernel) g_q203 rfl (by rw [x_rcM hA0 hb]; rfl) (y1_) ?_
    refine xT_aload_n g_q202 g202_6 (rfl) ?_
    refine xT_getfield g_q202 g202_7 hA0 rfl (hm_at h15 (i := 0) rfl rfl) rfl g55 ?_
    refine xT_icV (y := nI (0)) g_q202 g202_10 (by decide) ?_
    refine xT_aaload g_q202 g202_11 (by decide +kernel) (hm_c h15 cwo0) (ixN (n := 2) (by decide) nwo0) (ixG (by decide) ewo0) ?_
    refine xT_icV (y := nI (0)) g_q202 g202_12 (by decide) ?_
    refine xT_aload_n g_q202 g202_13 (rfl) ?_
    refine xT_getfield g_q202 g202_14 hA0 rfl (hm_at h15 (i := 0) rfl rfl) rfl g13 ?_
    refine xT_iload_n g_q202 g202_17 (rfl) ?_
    refine xT_aaload g_q202 g202_18 (by decide +kernel) (hm_c h15 cfi) (ixN (n := 12) (by omega) nfi) (ixG (by omega) efi) ?_
    refine xT_icV (y := nI (0)) g_q202 g202_19 (by decide) ?_
    refine xT_biV (y := nI (12)) g_q202 g202_20 (by decide) ?_
    refine xT_arraycopy g_q202 g202_22 (by decide +kernel) (by decide +kernel) (hm_at h15 (i := 7) rfl rfl) (hm_at h15 (i := 13) rfl rfl) (ac4 hw0 nf_.1) ?_
    rw [acl hw0.1 nf_.1]
    refine xT_aload_n g_q202 g202_25 (rfl) ?_
    refine xT_getfield g_q202 g202_26 hA0 rfl (hm_at g1_ (i := 0) rfl rfl) rfl g55 ?_
    refine xT_icV (y := nI (1)) g_q202 g202_29 (by decide) ?_
    refine xT_aaload g_q202 g202_30 (by decide +kernel) (hm_c g1_ cwo1) (ixN (n := 2) (by decide) nwo1) (ixG (by decide) ewo1) ?_
    refine xT_icV (y := nI (0)) g_q202 g202_31 (by decide) ?_
    refine xT_aload_n g_q202 g202_32 (rfl) ?_
    refine xT_getfield g_q202 g202_33 hA0 rfl (hm_at g1_ (i := 0) rfl rfl) rfl g15 ?_
    refine xT_iload_n g_q202 g202_36 (rfl) ?_
    refine xT_aaload g_q202 g202_37 (by decide +kernel) (hm_c g1_ ctw) (ixN (n := 12) (by omega) ntw) (ixG (by omega) etw) ?_
    refine xT_icV (y := nI (0)) g_q202 g202_38 (by decide) ?_
    refine xT_biV (y := nI (12)) g_q202 g202_39 (by decide) ?_
    refine xT_arraycopy g_q202 g202_41 (by decide +kernel) (by decide +kernel) (hm_at g1_ (i := 8) rfl rfl) (hm_at g1_ (i := 14) rfl rfl) (ac4 hw1 nw_.1) ?_
    rw [acl hw1.1 nw_.1]
    refine xT_aload_n g_q202 g202_44 (rfl) ?_
    refine xT_getfield g_q202 g202_45 hA0 rfl (hm_at g2_ (i := 0) rfl rfl) rfl g14 ?_
    refine xT_iload_n g_q202 g202_48 (rfl) ?_
    refine xT_aload_n g_q202 g202_49 (rfl) ?_
    refine xT_getfield g_q202 g202_50 hA0 rfl (hm_at g2_ (i := 0) rfl rfl) rfl g56 ?_
    refine xT_icV (y := nI (0)) g_q202 g202_53 (by decide) ?_
    refine xT_iaload g_q202 g202_54 hN9 (hm_at g2_ (i := 9) rfl rfl) (ixN (n := 2) (by decide) rfl) (ixG (by decide) rfl) ?_
    refine xT_iastore g_q202 g202_55 (hm_at g2_ (i := 11) rfl rfl) (ixN (n := 12) (by omega) nz_) ?_
    rw [nI_clamp (by omega)]
    refine xT_aload_n g_q202 g202_56 (rfl) ?_
    refine xT_getfield g_q202 g202_57 hA0 rfl (hm_at g3_ (i := 0) rfl rfl) rfl g16 ?_
    refine xT_iload_n g_q202 g202_60 (rfl) ?_
    refine xT_aload_n g_q202 g202_61 (rfl) ?_
    refine xT_getfield g_q202 g202_62 hA0 rfl (hm_at g3_ (i := 0) rfl rfl) rfl g56 ?_
    refine xT_icV (y := nI (1)) g_q202 g202_65 (by decide) ?_
    refine xT_iaload g_q202 g202_66 hN9 (hm_at g3_ (i := 9) rfl rfl) (ixN (n := 2) (by decide) rfl) (ixG (by decide) rfl) ?_
    refine xT_iastore g_q202 g202_67 (hm_at g3_ (i := 12) rfl rfl) (ixN (n := 12) (by omega) nt_) ?_
    rw [nI_clamp (by omega)]
    refine xT_aload_n g_q202 g202_68 (rfl) ?_
    refine xT_getfield g_q202 g202_69 hA0 rfl (hm_at g4_ (i := 0) rfl rfl) rfl g54 ?_
    refine xT_icV (y := nI (0)) g_q202 g202_72 (by decide) ?_
    refine xT_iaload g_q202 g202_73 hN6 (hm_at g4_ (i := 6) rfl rfl) (ixN (n := 2) (by decide) rfl) (ixG (by decide) rfl) ?_
    refine xT_aload_n g_q202 g202_74 (rfl) ?_
    refine xT_getfield g_q202 g202_75 hA0 rfl (hm_at g4_ (i := 0) rfl rfl) rfl g54 ?_
    refine xT_icV (y := nI (1)) g_q202 g202_78 (by decide) ?_
    refine xT_iaload g_q202 g202_79 hN6 (hm_at g4_ (i := 6) rfl rfl) (ixN (n := 2) (by decide) rfl) (ixG (by decide) rfl) ?_
    refine xT_if_icmpN g_q202 g202_80 (t := 113) (by decide) (decide_eq_false (fun z => z ce)) ?_
    refine xT_aload_n g_q202 g202_83 (rfl) ?_
    refine xT_getfield g_q202 g202_84 hA0 rfl (hm_at g4_ (i := 0) rfl rfl) rfl g13 ?_
    refine xT_iload_n g_q202 g202_87 (rfl) ?_
    refine xT_aaload g_q202 g202_88 (by decide +kernel) (hm_c g4_ cfi) (ixN (n := 12) (by omega) nfi) (ixG (by omega) efi) ?_
    refine xT_aload_n g_q202 g202_89 (rfl) ?_
    refine xT_getfield g_q202 g202_90 hA0 rfl (hm_at g4_ (i := 0) rfl rfl) rfl g14 ?_
    refine xT_iload_n g_q202 g202_93 (rfl) ?_
    refine xT_iaload g_q202 g202_94 hN11 (hm_at g4_ (i := 11) rfl rfl) (ixN (n := 12) (by omega) (by rw [List.length_set]; exact nz_)) (ixG (by omega) (List.getElem?_set_self (by omega))) ?_
    refine xT_aload_n g_q202 g202_95 (rfl) ?_
    refine xT_getfield g_q202 g202_96 hA0 rfl (hm_at g4_ (i := 0) rfl rfl) rfl g15 ?_
    refine xT_iload_n g_q202 g202_99 (rfl) ?_
    refine xT_aaload g_q202 g202_100 (by decide +kernel) (hm_c g4_ ctw) (ixN (n := 12) (by omega) ntw) (ixG (by omega) etw) ?_
    refine xT_aload_n g_q202 g202_101 (rfl) ?_
    refine xT_getfield g_q202 g202_102 hA0 rfl (hm_at g4_ (i := 0) rfl rfl) rfl g16 ?_
    refine xT_iload_n g_q202 g202_105 (rfl) ?_
    refine xT_iaload g_q202 g202_106 hN12 (hm_at g4_ (i := 12) rfl rfl) (ixN (n := 12) (by omega) (by rw [List.length_set]; exact nt_)) (ixG (by omega) (List.getElem?_set_self (by omega))) ?_
    refine xT_invokestatic (r := []) (u := some (.inl (nI (0)))) g_q202 g202_107 (j := 211) (so := 2) (by decide +kernel) g_q211 (rfl) (by have y := t211 (ot := ot) (dp := dp + 4) hN13 hN14 (hm_at g4_ (i := 13) rfl rfl) (hm_at g4_ (i := 14) rfl rfl) hw0.1 hw1.1 (rdP_12 hd hrp hi) hv0 (fun em k hk => hv1 k (by omega)) (rdT_12 hd hrt hi); rw [if_neg cl] at y; exact y) ?_
    refine xT_ifCondN g_q202 g202_110 (t := 117) (by decide) (c1N (a := 0) (b := 0) rfl) ?_
    refine xT_icV (y := nI (1)) g_q202 g202_113 (by decide) ?_
    refine xT_goto g_q202 g202_114 (t := 118) (by decide) ?_
    exact xT_ireturn g_q202 g202_118 (by decide +kernel)
end XH33_51
/-! p33 by hand, 52. -/
noncomputable section XH33_52
variable {ot : XO Int32} {dp : Nat} {H H0 : List (XC Int32)}
theorem t220_l {n : Nat} {d : Ld} {A FR TR : Nat → Nat} {WL : List Nat} {rp rt : Nat → rS} {Hs : List (XC Int32)} {gz : List (XV Int32)} {col : Nat → Nat} (hd : dOk n d) (hL : Hs.length ≤ 1000000) (hS : mSt n d A FR TR WL gz Hs) (hN : mNe A FR TR WL col) (hrp : rdP d rp) (hrt : rdT d rt) : ∀ (k i : Nat) (H : List (XC Int32)) (L : List (Nat × XV Int32)), i + k = n → mPh n d A FR TR WL rp rt gz Hs H i → x_lk L 0 = some (.inr (some (A 0))) → x_lk L 1 = some (.inl ((dYr d))) → x_lk L 2 = some (.inl (nI (0))) → x_lk L 3 = some (.inl (nI (0))) → x_lk L 4 = some (.inl (nI (0))) → x_lk L 5 = some (.inl ((hrm d rp rt i))) → x_lk L 6 = some (.inl (nI (i))) → ∃ H2, x_To x_tb x_tyl ot (dp + 6) 220 6 L [] H 0 0 (some (.inl (hrm d rp rt n))) H2 ∧ mPh n d A FR TR WL rp rt gz Hs H2 n := by
  have hd12 := hd.1
  intro k
  induction k with
  | zero =>
    intro i H L hi hP l0 l1 l2 l3 l4 l5 l6
    obtain rfl : n = i := by omega
    have hlen := hP.2.1
    obtain ⟨gs, hb, h9⟩ := hP.2.2.1
    have g0 := (h9.2 0 (by decide)).trans hS.2.1.1
    have g7 := (h9.2 7 (by decide)).trans hS.2.1.2
    have z0 := lt_of hb (by omega)
    have hA0 : ¬ 1000000 < A 0 := by omega
    refine ⟨H, ?_, hP⟩
    refine xT_iload g_q220 g220_6 (l6) ?_
    refine xT_aload_n g_q220 g220_8 (l0) ?_
    refine xT_getfield g_q220 g220_9 hA0 rfl hb rfl g0 ?_
    refine xT_if_icmpY g_q220 g220_12 (t := 179) (by decide) (c3Y (a := n) (b := n) (Nat.le_refl _) (by omega) (by omega)) ?_
    refine xT_iload g_q220 g220_179 (l5) ?_
    exact xT_ireturn g_q220 g220_181 (rfl)
  | succ k ih =>
    intro i H L hi hP l0 l1 l2 l3 l4 l5 l6
    have hin : i < n := by omega
    have hlen := hP.2.1
    obtain ⟨gs, hb, h9⟩ := hP.2.2.1
    have g0 := (h9.2 0 (by decide)).trans hS.2.1.1
    have g7 := (h9.2 7 (by decide)).trans hS.2.1.2
    have z0 := lt_of hb (by omega)
    have hA0 : ¬ 1000000 < A 0 := by omega
    obtain ⟨G, y1_, hP2⟩ := t202 (ot := ot) (dp := dp) hd hL hS hN hrp hrt hP hin
    obtain ⟨gs2, hb2, h92⟩ := hP2.2.2.1
    have g02 := (h92.2 0 (by decide)).trans hS.2.1.1
    have g72 := (h92.2 7 (by decide)).trans hS.2.1.2
    obtain ⟨-, -, -, -, -, -, -, ⟨hwg0, lwg, cwg, nwg, ewg⟩⟩ := hS.2.2.2.2 i hin
    have hwg2 := hP2.1 _ _ cwg
    by_cases cw : wrg rp rt i = true
    · skip
      have eh := hrm_y (d := d) cw
      have y2_ : x_To x_tb x_tyl ot (dp + 5) 202 0 (x_en 0 [.inr (some (A 0)), .inl (nI (i)), .inl ((dYr d))]) [] H 0 0 (some (.inl (nI 1))) G := by
        rw [if_pos cw] at y1_
        exact y1_
      obtain ⟨H3, x3, x4⟩ := ih (i + 1) G (x_st (x_st (x_st (L) 7 (.inl (nI (1)))) 5 (.inl ((x_bin 0 (hrm d rp rt i) (dWt d i))))) 6 (.inl (nI (i + 1)))) (by omega) hP2 (lkN (by decide) (lkN (by decide) (lkN (by decide) (l0)))) (lkN (by decide) (lkN (by decide) (lkN (by decide) (l1)))) (lkN (by decide) (lkN (by decide) (lkN (by decide) (l2)))) (lkN (by decide) (lkN (by decide) (lkN (by decide) (l3)))) (lkN (by decide) (lkN (by decide) (lkN (by decide) (l4)))) (by rw [eh]; exact (lkN (by decide) (lkY))) (lkY)
      refine ⟨H3, ?_, x4⟩
      refine xT_iload g_q220 g220_6 (l6) ?_
      refine xT_aload_n g_q220 g220_8 (l0) ?_
      refine xT_getfield g_q220 g220_9 hA0 rfl hb rfl g0 ?_
      refine xT_if_icmpN g_q220 g220_12 (t := 179) (by decide) (c3N (a := i) (b := n) (by omega) (by omega) (by omega)) ?_
      refine xT_iload_n g_q220 g220_15 (l3) ?_
      refine xT_ifCondY g_q220 g220_16 (t := 82) (by decide) (c0Y (a := 0) (b := 0) rfl) ?_
      refine xT_aload_n g_q220 g220_82 (l0) ?_
      refine xT_iload g_q220 g220_83 (l6) ?_
      refine xT_iload_n g_q220 g220_85 (l1) ?_
      refine xT_invokevirtual (r := []) (u := some (.inl (nI (1)))) g_q220 g220_86 (j := 202) (so := 0) (by decide +kernel) g_q202 rfl (by rw [x_rcM hA0 hb]; rfl) (y2_) ?_
      refine xT_istore g_q220 g220_89 (by decide) ?_
      refine xT_iload_n g_q220 g220_91 (lkN (by decide) (l2)) ?_
      refine xT_iload g_q220 g220_92 (lkN (by decide) (l6)) ?_
      refine xT_ishrV (y := nI (0)) g_q220 g220_94 (sh0 i (by omega)) ?_
      refine xT_icV (y := nI (1)) g_q220 g220_95 (by decide) ?_
      refine xT_iandV (y := nI (0)) g_q220 g220_96 (by decide) ?_
      refine xT_icV (y := nI (1)) g_q220 g220_97 (by decide) ?_
      refine xT_if_icmpY g_q220 g220_98 (t := 139) (by decide) (c1Y (a := 0) (b := 1) (by omega) (by omega) (by omega)) ?_
      refine xT_iload g_q220 g220_139 (lkN (by decide) (l4)) ?_
      refine xT_ifCondY g_q220 g220_141 (t := 152) (by decide) (c0Y (a := 0) (b := 0) rfl) ?_
      refine xT_iload g_q220 g220_152 (lkN (by decide) (l5)) ?_
      refine xT_iload g_q220 g220_154 (lkY) ?_
      refine xT_ifCondN g_q220 g220_156 (t := 169) (by decide) (c0N (a := 1) (b := 0) (by omega) (by omega) (by omega)) ?_
      refine xT_aload_n g_q220 g220_159 (lkN (by decide) (l0)) ?_
      refine xT_getfield g_q220 g220_160 hA0 rfl hb2 rfl g72 ?_
      refine xT_iload g_q220 g220_163 (lkN (by decide) (l6)) ?_
      refine xT_iaload g_q220 g220_165 hwg0 hwg2 (ixN (n := 12) (by omega) nwg) (ixG (by omega) ewg) ?_
      refine xT_goto g_q220 g220_166 (t := 170) (by decide) ?_
      refine xT_iaddV (y := (x_bin 0 (hrm d rp rt i) (dWt d i))) g_q220 g220_170 (rfl) ?_
      refine xT_istore g_q220 g220_171 (by decide) ?_
      refine xT_iincV (y := nI (i + 1)) g_q220 g220_173 (lkN (by decide) (lkN (by decide) (l6))) (by decide) (bIncN _) ?_
      refine xT_goto g_q220 g220_176 (t := 6) (by decide) ?_
      exact x3
    · skip
      have eh := hrm_n (d := d) cw
      have y2_ : x_To x_tb x_tyl ot (dp + 5) 202 0 (x_en 0 [.inr (some (A 0)), .inl (nI (i)), .inl ((dYr d))]) [] H 0 0 (some (.inl (nI 0))) G := by
        rw [if_neg cw] at y1_
        exact y1_
      obtain ⟨H3, x3, x4⟩ := ih (i + 1) G (x_st (x_st (x_st (L) 7 (.inl (nI (0)))) 5 (.inl ((hrm d rp rt i)))) 6 (.inl (nI (i + 1)))) (by omega) hP2 (lkN (by decide) (lkN (by decide) (lkN (by decide) (l0)))) (lkN (by decide) (lkN (by decide) (lkN (by decide) (l1)))) (lkN (by decide) (lkN (by decide) (lkN (by decide) (l2)))) (lkN (by decide) (lkN (by decide) (lkN (by decide) (l3)))) (lkN (by decide) (lkN (by decide) (lkN (by decide) (l4)))) (by rw [eh]; exact (lkN (by decide) (lkY))) (lkY)
      refine ⟨H3, ?_, x4⟩
      refine xT_iload g_q220 g220_6 (l6) ?_
      refine xT_aload_n g_q220 g220_8 (l0) ?_
      refine xT_getfield g_q220 g220_9 hA0 rfl hb rfl g0 ?_
      refine xT_if_icmpN g_q220 g220_12 (t := 179) (by decide) (c3N (a := i) (b := n) (by omega) (by omega) (by omega)) ?_
      refine xT_iload_n g_q220 g220_15 (l3) ?_
      refine xT_ifCondY g_q220 g220_16 (t := 82) (by decide) (c0Y (a := 0) (b := 0) rfl) ?_
      refine xT_aload_n g_q220 g220_82 (l0) ?_
      refine xT_iload g_q220 g220_83 (l6) ?_
      refine xT_iload_n g_q220 g220_85 (l1) ?_
      refine xT_invokevirtual (r := []) (u := some (.inl (nI (0)))) g_q220 g220_86 (j := 202) (so := 0) (by decide +kernel) g_q202 rfl (by rw [x_rcM hA0 hb]; rfl) (y2_) ?_
      refine xT_istore g_q220 g220_89 (by decide) ?_
      refine xT_iload_n g_q220 g220_91 (lkN (by decide) (l2)) ?_
      refine xT_iload g_q220 g220_92 (lkN (by decide) (l6)) ?_
      refine xT_ishrV (y := nI (0)) g_q220 g220_94 (sh0 i (by omega)) ?_
      refine xT_icV (y := nI (1)) g_q220 g220_95 (by decide) ?_
      refine xT_iandV (y := nI (0)) g_q220 g220_96 (by decide) ?_
      refine xT_icV (y := nI (1)) g_q220 g220_97 (by decide) ?_
      refine xT_if_icmpY g_q220 g220_98 (t := 139) (by decide) (c1Y (a := 0) (b := 1) (by omega) (by omega) (by omega)) ?_
      refine xT_iload g_q220 g220_139 (lkN (by decide) (l4)) ?_
      refine xT_ifCondY g_q220 g220_141 (t := 152) (by decide) (c0Y (a := 0) (b := 0) rfl) ?_
      refine xT_iload g_q220 g220_152 (lkN (by decide) (l5)) ?_
      refine xT_iload g_q220 g220_154 (lkY) ?_
      refine xT_ifCondY g_q220 g220_156 (t := 169) (by decide) (c0Y (a := 0) (b := 0) rfl) ?_
      refine xT_icV (y := nI (0)) g_q220 g220_169 (by decide) ?_
      refine xT_iaddV (y := (hrm d rp rt i)) g_q220 g220_170 (Int32.add_zero _) ?_
      refine xT_istore g_q220 g220_171 (by decide) ?_
      refine xT_iincV (y := nI (i + 1)) g_q220 g220_173 (lkN (by decide) (lkN (by decide) (l6))) (by decide) (bIncN _) ?_
      refine xT_goto g_q220 g220_176 (t := 6) (by decide) ?_
      exact x3
end XH33_52
/-! p33 by hand, 53. -/
noncomputable section XH33_53
variable {ot : XO Int32} {dp : Nat} {H H0 : List (XC Int32)}
theorem t220 {n : Nat} {d : Ld} {A FR TR : Nat → Nat} {WL : List Nat} {rp rt : Nat → rS} {Hs : List (XC Int32)} {gz : List (XV Int32)} {col : Nat → Nat} (hd : dOk n d) (hL : Hs.length ≤ 1000000) (hS : mSt n d A FR TR WL gz Hs) (hN : mNe A FR TR WL col) (hrp : rdP d rp) (hrt : rdT d rt) (hP : mPh n d A FR TR WL rp rt gz Hs H 0) : ∃ H2, x_To x_tb x_tyl ot (dp + 6) 220 0 (x_en 0 [.inr (some (A 0)), .inl ((dYr d)), .inl (nI (0)), .inl (nI (0)), .inl (nI (0))]) [] H 0 0 (some (.inl (hrm d rp rt n))) H2 ∧ mPh n d A FR TR WL rp rt gz Hs H2 n := by
  obtain ⟨H2, x1, x2⟩ := t220_l (ot := ot) (dp := dp) hd hL hS hN hrp hrt n 0 H (x_st (x_st ((x_en 0 [.inr (some (A 0)), .inl ((dYr d)), .inl (nI (0)), .inl (nI (0)), .inl (nI (0))])) 5 (.inl (nI (0)))) 6 (.inl (nI (0)))) (by omega) hP (lkN (by decide) (lkN (by decide) (rfl))) (lkN (by decide) (lkN (by decide) (rfl))) (lkN (by decide) (lkN (by decide) (rfl))) (lkN (by decide) (lkN (by decide) (rfl))) (lkN (by decide) (lkN (by decide) (rfl))) (lkN (by decide) (lkY)) (lkY)
  refine ⟨H2, ?_, x2⟩
  refine xT_icV (y := nI (0)) g_q220 g220_0 (by decide) ?_
  refine xT_istore g_q220 g220_1 (by decide) ?_
  refine xT_icV (y := nI (0)) g_q220 g220_3 (by decide) ?_
  refine xT_istore g_q220 g220_4 (by decide) ?_
  exact x1
end XH33_53
/-! The reference's night that is thought of: what stands before it, copies, new settings. -/
noncomputable section XR33b
variable {n : Nat} {d : Ld} {A FR TR FS TS : Nat → Nat} {WL As Bs : List Nat} {rp rt : Nat → rS} {Hs H G : List (XC Int32)} {gs gz : List (XV Int32)} {col : Nat → Nat} {lF lT : Nat → List (XV Int32)}
theorem add0 (a : Int32) : x_bin 0 a (nI 0) = a := by
  show a + nI 0 = a
  rw [show nI 0 = (0 : Int32) from rfl]
  exact Int32.add_zero a
/-- the object's places: lines, codes, inputs, weights, shelves, their sizes, files (23), their sizes (24), twins (25), their sizes (26), what runs write, the rows of a night that is thought of -/
def tabG : List (Nat × Nat) := [(1, 13), (2, 14), (6, 15), (7, 22), (11, 16), (12, 17), (13, 23), (14, 24), (15, 25), (16, 26), (50, 20), (51, 3), (52, 4), (53, 5), (54, 6), (55, 21), (56, 9), (57, 10), (59, 18), (60, 19), (61, 11), (62, 12)]
def mG (n : Nat) (A : Nat → Nat) (gs : List (XV Int32)) : Prop := 62 < gs.length ∧ gs[0]? = some (.inl (nI n)) ∧ ∀ j k, (j, k) ∈ tabG → gs[j]? = some (.inr (some (A k)))
def mIr (H : List (XC Int32)) (r : Nat) : Prop := ∃ l : List (XV Int32), H[r]? = some (.inr (0, l)) ∧ l.length = 12
/-- what stands before: all but the settings -/
def mS0 (n : Nat) (d : Ld) (A FR TR FS TS : Nat → Nat) (lF lT : Nat → List (XV Int32)) (WL : List Nat) (H : List (XC Int32)) : Prop :=
  (rQ H WL (A 20) 5 2 0 (A 1) ∧ rQ H WL (A 20) 5 2 1 (A 2)) ∧ (rQ H WL (A 21) 5 2 0 (A 7) ∧ rQ H WL (A 21) 5 2 1 (A 8)) ∧
  (∀ q, q < 12 → (rQ H WL (A 18) 5 12 q (FR q) ∧ rQ H WL (A 19) 5 12 q (TR q) ∧ rQ H WL (A 23) 5 12 q (FS q) ∧ rQ H WL (A 25) 5 12 q (TS q)) ∧ (c3R H WL (FS q) (.inr (0, lF q)) ∧ wLf (lF q) ∧ c3R H WL (TS q) (.inr (0, lT q)) ∧ wLf (lT q)) ∧ mIr H (FR q) ∧ mIr H (TR q)) ∧
  (∃ lz, c3R H WL (A 24) (.inr (0, lz)) ∧ wLf lz ∧ ∀ q, q < n → lz[q]? = some (.inl (nI (dWn d q)))) ∧ (∃ lz, c3R H WL (A 26) (.inr (0, lz)) ∧ wLf lz ∧ ∀ q, q < n → lz[q]? = some (.inl (nI (dTn d q)))) ∧ mIr H (A 11) ∧ mIr H (A 12) ∧ mRn A H ∧
  ∀ q, q < n → (∀ x, rC H WL (A 13) (A 14) q (pgP d q x)) ∧ rI H WL (A 15) 12 q (svI (dSv d q)) ∧ rI H WL (A 17) 12 q (nI (dHn d q)) ∧ (∃ r w, rQ H WL (A 16) 5 12 q r ∧ ¬ r = 1000000 ∧ c3R H WL r (.inr (0, w)) ∧ w.length = 12 ∧ ∀ k, k < dHn d q → ∃ x : Int32, w[k]? = some (.inl x) ∧ dHv d q k = if x = -1 then 0 else x) ∧ rI H WL (A 22) 12 q (dWt d q) ∧ (∀ k, k < dWn d q → (lF q)[k]? = some (.inl (dWv d q k))) ∧ ∀ k, k < dTn d q → (lT q)[k]? = some (.inl (dTv d q k))
/-- the settings as at first, new -/
def mD (n D V U : Nat) (WL : List Nat) (H : List (XC Int32)) : Prop := ∀ q, q < 12 → ∃ dr pr, rQ H WL D 5 12 q dr ∧ rQ H WL V 5 12 q pr ∧ c3W H WL dr 6 (fun _ => nI 2) 6 ∧ c3W H WL pr 6 (fun _ => -1) 6 ∧ rI H WL U 12 q (nI 0)
theorem mRn_mv (h : mRn A H) (mv : ∀ (j : Nat) z, 0 < j → j < 11 → H[A j]? = some z → G[A j]? = some z) : mRn A G := by
  obtain ⟨f0, f1, w0, w1, a0, a1, b0, b1, c0, c1, d0, d1, e0, e1, h0, h1, hh, k1, k2, k3, k4, k5, k6, k7, k8, k9, k10⟩ := h
  exact ⟨f0, f1, w0, w1, a0, a1, b0, b1, c0, c1, d0, d1, e0, e1, h0, h1, hh, mv 1 _ (by decide) (by decide) k1, mv 2 _ (by decide) (by decide) k2, mv 3 _ (by decide) (by decide) k3, mv 4 _ (by decide) (by decide) k4, mv 5 _ (by decide) (by decide) k5, mv 6 _ (by decide) (by decide) k6, mv 7 _ (by decide) (by decide) k7, mv 8 _ (by decide) (by decide) k8, mv 9 _ (by decide) (by decide) k9, mv 10 _ (by decide) (by decide) k10⟩
/-- the rows of p programs are copied -/
def cPh (FR TR : Nat → Nat) (lF lT : Nat → List (XV Int32)) (H G : List (XC Int32)) (p : Nat) : Prop := (∀ (x : Nat) z, H[x]? = some z → (∀ q, q < 12 → x ≠ FR q ∧ x ≠ TR q) → G[x]? = some z) ∧ G.length = H.length ∧ ∀ q, q < 12 → (∃ l : List (XV Int32), G[FR q]? = some (.inr (0, l)) ∧ l.length = 12 ∧ (q < p → l = lF q)) ∧ ∃ l : List (XV Int32), G[TR q]? = some (.inr (0, l)) ∧ l.length = 12 ∧ (q < p → l = lT q)
theorem cPh_0 (hF : ∀ q, q < 12 → mIr H (FR q)) (hT : ∀ q, q < 12 → mIr H (TR q)) : cPh FR TR lF lT H H 0 := ⟨fun _ _ h _ => h, rfl, fun q hq => by
  obtain ⟨l, a, b⟩ := hF q hq
  obtain ⟨m, c, e⟩ := hT q hq
  exact ⟨⟨l, a, b, fun z => absurd z (Nat.not_lt_zero q)⟩, ⟨m, c, e, fun z => absurd z (Nat.not_lt_zero q)⟩⟩⟩
theorem cPh_s {p : Nat} {K : List (XC Int32)} (h : cPh FR TR lF lT H G p) (hp : p < 12) (hN : mNe A FR TR WL col) (hF : (lF p).length = 12) (hT : (lT p).length = 12) (g : hm G K [FR p, TR p] [.inr (0, lF p), .inr (0, lT p)]) : cPh FR TR lF lT H K (p + 1) := by
  obtain ⟨h1, h2, h3⟩ := h
  obtain ⟨-, n2, n3⟩ := hN
  have no : ∀ {x : Nat}, x ≠ FR p → x ≠ TR p → ∀ k : Nat, [FR p, TR p][k]? ≠ some x := fun a b k hk => by
    rcases k with _ | _ | k
    · cases hk
      exact a rfl
    · cases hk
      exact b rfl
    · cases hk
  obtain ⟨-, -, p13, p14⟩ := n2 p hp
  refine ⟨fun x z hx hn => hm_ro g (h1 x z hx hn) (no (hn p hp).1 (hn p hp).2), (hm_len g).trans h2, fun q hq => ?_⟩
  obtain ⟨⟨l, a, b, c⟩, ⟨m, e, f, i⟩⟩ := h3 q hq
  by_cases w : q = p
  · subst w
    exact ⟨⟨_, hm_at g (i := 0) rfl rfl, hF, fun _ => rfl⟩, ⟨_, hm_at g (i := 1) rfl rfl, hT, fun _ => rfl⟩⟩
  · obtain ⟨-, -, q13, q14⟩ := n2 q hq
    obtain ⟨u, v⟩ := n3 q p hq hp w
    exact ⟨⟨l, hm_ro g a (no u (cne q13 p14 (by decide))), b, fun z => c (by omega)⟩, ⟨m, hm_ro g e (no (cne q14 p13 (by decide)) v), f, fun z => i (by omega)⟩⟩
/-- what stands is still there -/
theorem mS0_mv (mv : ∀ (x : Nat) z, c3R H WL x z → c3R G WL x z) (hN : mNe A FR TR WL col) (h : mS0 n d A FR TR FS TS lF lT WL H) (mw : ∀ (x : Nat) z, x ∈ WL → x ≠ A 0 → H[x]? = some z → G[x]? = some z) : mS0 n d A FR TR FS TS lF lT WL G := by
  obtain ⟨⟨a1, a2⟩, ⟨b1, b2⟩, c, ⟨l1, e1, e2, e3⟩, ⟨l2, f1, f2, f3⟩, ⟨l3, g1, g2⟩, ⟨l4, h1, h2⟩, r, s⟩ := h
  have k0 := (hN.1 0 (by decide)).2
  have ne0 : ∀ j, 0 < j → j < 13 → A j ≠ A 0 := fun j j1 j2 => cne (hN.1 j j2).2 k0 (by omega)
  refine ⟨⟨rQ_mv mv a1, rQ_mv mv a2⟩, ⟨rQ_mv mv b1, rQ_mv mv b2⟩, fun q hq => ?_, ⟨l1, mv _ _ e1, e2, e3⟩, ⟨l2, mv _ _ f1, f2, f3⟩, ⟨l3, mw _ _ (hN.1 11 (by decide)).1 (ne0 11 (by decide) (by decide)) g1, g2⟩, ⟨l4, mw _ _ (hN.1 12 (by decide)).1 (ne0 12 (by decide) (by decide)) h1, h2⟩, mRn_mv r (fun j z j1 j2 hz => mw _ _ (hN.1 j (by omega)).1 (ne0 j j1 (by omega)) hz), fun q hq => ?_⟩
  · obtain ⟨⟨c1, c2, c3, c4⟩, ⟨c5, c6, c7, c8⟩, ⟨m1, m2, m3⟩, ⟨m4, m5, m6⟩⟩ := c q hq
    obtain ⟨n1, n2, n3, n4⟩ := hN.2.1 q hq
    exact ⟨⟨rQ_mv mv c1, rQ_mv mv c2, rQ_mv mv c3, rQ_mv mv c4⟩, ⟨mv _ _ c5, c6, mv _ _ c7, c8⟩, ⟨m1, mw _ _ n1 (cne n3 k0 (by decide)) m2, m3⟩, ⟨m4, mw _ _ n2 (cne n4 k0 (by decide)) m5, m6⟩⟩
  · obtain ⟨s1, s2, s3, ⟨r, w, u1, u2, u3, u4, u5⟩, s5, s6, s7⟩ := s q hq
    exact ⟨fun x => rC_mv mv (s1 x), rI_mv mv s2, rI_mv mv s3, ⟨r, w, rQ_mv mv u1, u2, mv _ _ u3, u4, u5⟩, rI_mv mv s5, s6, s7⟩
theorem mD_mv {D V U : Nat} (mv : ∀ (x : Nat) z, c3R H WL x z → c3R G WL x z) (h : mD n D V U WL H) : mD n D V U WL G := fun q hq => by
  obtain ⟨dr, pr, a, b, c, e, f⟩ := h q hq
  exact ⟨dr, pr, rQ_mv mv a, rQ_mv mv b, c3W_mv mv c, c3W_mv mv e, rI_mv mv f⟩
/-- the object's fields as the night reads them -/
def gN (A : Nat → Nat) (gs : List (XV Int32)) : List (XV Int32) := (((gs.set 13 (.inr (some (A 18)))).set 15 (.inr (some (A 19)))).set 14 (.inr (some (A 11)))).set 16 (.inr (some (A 12)))
theorem gN_len : (gN A gs).length = gs.length := by
  unfold gN
  rw [List.length_set, List.length_set, List.length_set, List.length_set]
theorem gN_ne {j : Nat} (h : j ≠ 13 ∧ j ≠ 14 ∧ j ≠ 15 ∧ j ≠ 16) : (gN A gs)[j]? = gs[j]? := by
  unfold gN
  rw [List.getElem?_set_ne (by omega), List.getElem?_set_ne (by omega), List.getElem?_set_ne (by omega), List.getElem?_set_ne (by omega)]
theorem gN_at (hl : 62 < gs.length) : (gN A gs)[13]? = some (.inr (some (A 18))) ∧ (gN A gs)[14]? = some (.inr (some (A 11))) ∧ (gN A gs)[15]? = some (.inr (some (A 19))) ∧ (gN A gs)[16]? = some (.inr (some (A 12))) := by
  unfold gN
  refine ⟨?_, ?_, ?_, ?_⟩
  · rw [List.getElem?_set_ne (by decide), List.getElem?_set_ne (by decide), List.getElem?_set_ne (by decide)]
    exact List.getElem?_set_self (by omega)
  · rw [List.getElem?_set_ne (by decide)]
    exact List.getElem?_set_self (by rw [List.length_set, List.length_set]; omega)
  · rw [List.getElem?_set_ne (by decide), List.getElem?_set_ne (by decide)]
    exact List.getElem?_set_self (by rw [List.length_set]; omega)
  · exact List.getElem?_set_self (by rw [List.length_set, List.length_set, List.length_set]; omega)
/-- what the night wants, out of what stands -/
theorem mSt_of (hd : dOk n d) {D V U : Nat} (hG : mG n A gs) (g3 : gs[3]? = some (.inr (some D))) (g4 : gs[4]? = some (.inr (some V))) (g5 : gs[5]? = some (.inr (some U))) (h : mS0 n d A FR TR FS TS lF lT WL H) (hD : mD n D V U WL H) : mSt n d A FR TR WL (gN A gs) H := by
  obtain ⟨hl, g0, hg⟩ := hG
  obtain ⟨a, b, c, -, -, -, -, -, s⟩ := h
  have hd12 := hd.1
  obtain ⟨z13, z14, z15, z16⟩ := gN_at (A := A) hl
  have at_ : ∀ {j k : Nat}, (j, k) ∈ tabG → (j ≠ 13 ∧ j ≠ 14 ∧ j ≠ 15 ∧ j ≠ 16) → (gN A gs)[j]? = some (.inr (some (A k))) := fun hj hn => (gN_ne hn).trans (hg _ _ hj)
  refine ⟨⟨at_ (by decide) (by decide), at_ (by decide) (by decide), at_ (by decide) (by decide), at_ (by decide) (by decide), at_ (by decide) (by decide), z13, z14, z15, z16, at_ (by decide) (by decide), at_ (by decide) (by decide), at_ (by decide) (by decide), at_ (by decide) (by decide), at_ (by decide) (by decide), at_ (by decide) (by decide), at_ (by decide) (by decide), at_ (by decide) (by decide), by rw [gN_len]; omega⟩, ⟨(gN_ne (by decide)).trans g0, at_ (by decide) (by decide)⟩, a, b, fun q hq => ?_⟩
  obtain ⟨⟨c1, c2, -, -⟩, -, -, -⟩ := c q (by omega)
  obtain ⟨s1, s2, s3, s4, s5, -, -⟩ := s q hq
  obtain ⟨dr, pr, e1, e2, e3, e4, e5⟩ := hD q (by omega)
  exact ⟨s1, fun x => Or.inr ⟨rfl, rfl, rfl, D, V, U, dr, pr, (gN_ne (by decide)).trans g3, (gN_ne (by decide)).trans g4, (gN_ne (by decide)).trans g5, e1, e2, e3, e4, e5⟩, s2, s3, s4, c1, c2, s5⟩
/-- the night begins -/
theorem mPh_0 (hd : dOk n d) (h : mS0 n d A FR TR FS TS lF lT WL H) {gz : List (XV Int32)} (hb : H[A 0]? = some (.inl (12, gz))) (c : ∀ q, q < 12 → H[FR q]? = some (.inr (0, lF q)) ∧ H[TR q]? = some (.inr (0, lT q))) (z1 : mRz H (A 11) n (dWn d)) (z2 : mRz H (A 12) n (dTn d)) : mPh n d A FR TR WL rp rt gz H H 0 := by
  obtain ⟨-, -, e, -, -, -, -, r, s⟩ := h
  have hd12 := hd.1
  refine ⟨fun _ _ h => h.1, rfl, ⟨gz, hb, rS9_rf gz⟩, r, ?_, ?_, fun q hq => ?_⟩
  · obtain ⟨l, a, b, f⟩ := z1
    exact ⟨l, a, b, fun q hq => by
      rw [f q hq]
      rfl⟩
  · obtain ⟨l, a, b, f⟩ := z2
    exact ⟨l, a, b, fun q hq => by
      rw [f q hq]
      rfl⟩
  · obtain ⟨-, ⟨-, w1, -, w2⟩, -⟩ := e q (by omega)
    obtain ⟨-, -, -, -, -, s6, s7⟩ := s q hq
    obtain ⟨c1, c2⟩ := c q (by omega)
    exact ⟨⟨lF q, c1, w1, s6⟩, ⟨lT q, c2, w2, s7⟩⟩
/-- all is ready for the night -/
theorem n_begin (hd : dOk n d) (hN : mNe A FR TR WL col) {D V U : Nat} (hG : mG n A gs) (g3 : gs[3]? = some (.inr (some D))) (g4 : gs[4]? = some (.inr (some V))) (g5 : gs[5]? = some (.inr (some U))) (hS : mS0 n d A FR TR FS TS lF lT WL H) (hD : mD n D V U WL H) (hc : cPh FR TR lF lT H G 12) {l24 l26 : List (XV Int32)} (w24 : wLf l24 ∧ ∀ q, q < n → l24[q]? = some (.inl (nI (dWn d q)))) (w26 : wLf l26 ∧ ∀ q, q < n → l26[q]? = some (.inl (nI (dTn d q)))) (g : hm G Hs [A 0, A 11, A 12] [.inl (12, gN A gs), .inr (0, l24), .inr (0, l26)]) :
    mSt n d A FR TR WL (gN A gs) Hs ∧ mPh n d A FR TR WL rp rt (gN A gs) Hs Hs 0 ∧ Hs.length = H.length := by
  obtain ⟨h1, h2, h3⟩ := hc
  have k0 := hN.1 0 (by decide)
  have k11 := hN.1 11 (by decide)
  have k12 := hN.1 12 (by decide)
  have no : ∀ {x : Nat}, x ≠ A 0 → x ≠ A 11 → x ≠ A 12 → ∀ k : Nat, [A 0, A 11, A 12][k]? ≠ some x := fun a b c k hk => by
    rcases k with _ | _ | _ | k
    · cases hk
      exact a rfl
    · cases hk
      exact b rfl
    · cases hk
      exact c rfl
    · cases hk
  have mv : ∀ (x : Nat) z, c3R H WL x z → c3R Hs WL x z := fun x z h => ⟨hm_ro g (h1 x z h.1 (fun q hq => ⟨c3R_ne h (hN.2.1 q hq).1, c3R_ne h (hN.2.1 q hq).2.1⟩)) (no (c3R_ne h k0.1) (c3R_ne h k11.1) (c3R_ne h k12.1)), h.2⟩
  have fr : ∀ q, q < 12 → Hs[FR q]? = some (.inr (0, lF q)) ∧ Hs[TR q]? = some (.inr (0, lT q)) := fun q hq => by
    obtain ⟨-, -, q13, q14⟩ := hN.2.1 q hq
    obtain ⟨⟨l, a, b, c⟩, ⟨m, e, f, i⟩⟩ := h3 q hq
    rw [c hq] at a
    rw [i hq] at e
    exact ⟨hm_ro g a (no (cne q13 k0.2 (by decide)) (cne q13 k11.2 (by decide)) (cne q13 k12.2 (by decide))), hm_ro g e (no (cne q14 k0.2 (by decide)) (cne q14 k11.2 (by decide)) (cne q14 k12.2 (by decide)))⟩
  have hS2 : mS0 n d A FR TR FS TS lF lT WL Hs := by
    obtain ⟨⟨a1, a2⟩, ⟨b1, b2⟩, c, ⟨l1, e1, e2, e3⟩, ⟨l2, f1, f2, f3⟩, -, -, r, s⟩ := hS
    refine ⟨⟨rQ_mv mv a1, rQ_mv mv a2⟩, ⟨rQ_mv mv b1, rQ_mv mv b2⟩, fun q hq => ?_, ⟨l1, mv _ _ e1, e2, e3⟩, ⟨l2, mv _ _ f1, f2, f3⟩, ⟨l24, hm_at g (i := 1) rfl rfl, w24.1.1⟩, ⟨l26, hm_at g (i := 2) rfl rfl, w26.1.1⟩, mRn_mv r (fun j z j1 j2 hz => ?_), fun q hq => ?_⟩
    · obtain ⟨⟨c1, c2, c3, c4⟩, ⟨c5, c6, c7, c8⟩, -⟩ := c q hq
      exact ⟨⟨rQ_mv mv c1, rQ_mv mv c2, rQ_mv mv c3, rQ_mv mv c4⟩, ⟨mv _ _ c5, c6, mv _ _ c7, c8⟩, ⟨lF q, (fr q hq).1, c6.1⟩, ⟨lT q, (fr q hq).2, c8.1⟩⟩
    · have kj := (hN.1 j (by omega)).2
      exact hm_ro g (h1 _ z hz (fun q hq => ⟨cne kj (hN.2.1 q hq).2.2.1 (by omega), cne kj (hN.2.1 q hq).2.2.2 (by omega)⟩)) (no (cne kj k0.2 (by omega)) (cne kj k11.2 (by omega)) (cne kj k12.2 (by omega)))
    · obtain ⟨s1, s2, s3, ⟨r, w, u1, u2, u3, u4, u5⟩, s5, s6, s7⟩ := s q hq
      exact ⟨fun x => rC_mv mv (s1 x), rI_mv mv s2, rI_mv mv s3, ⟨r, w, rQ_mv mv u1, u2, mv _ _ u3, u4, u5⟩, rI_mv mv s5, s6, s7⟩
  exact ⟨mSt_of hd hG g3 g4 g5 hS2 (mD_mv mv hD), mPh_0 hd hS2 (hm_at g (i := 0) rfl rfl) fr ⟨l24, hm_at g (i := 1) rfl rfl, w24.1.1, w24.2⟩ ⟨l26, hm_at g (i := 2) rfl rfl, w26.1.1, w26.2⟩, (hm_len g).trans h2⟩
theorem six_v {nf : List (XV Int32)} {v : Int32} (hnl : nf.length = 6) : ∀ k, k < 6 → ((((((nf.set (0) (.inl v)).set (0 + 1) (.inl v)).set (0 + 1 + 1) (.inl v)).set (0 + 1 + 1 + 1) (.inl v)).set (0 + 1 + 1 + 1 + 1) (.inl v)).set (0 + 1 + 1 + 1 + 1 + 1) (.inl v))[k]? = some (.inl v) := fun k hk => by
  rcases nf with _ | ⟨a0, _ | ⟨a1, _ | ⟨a2, _ | ⟨a3, _ | ⟨a4, _ | ⟨a5, _ | ⟨a6, nf⟩⟩⟩⟩⟩⟩⟩
  all_goals first | (exact absurd hnl (by simp)) | skip
  rcases (show k = 0 ∨ k = 1 ∨ k = 2 ∨ k = 3 ∨ k = 4 ∨ k = 5 by omega) with rfl | rfl | rfl | rfl | rfl | rfl
  all_goals rfl
-- new rows
variable {ot : XO Int32} {dp pc m b cn sn : Nat} {X : List (XC Int32)} {L : List (Nat × XV Int32)} {v : Option (XV Int32)} {H2 : List (XC Int32)} {fs : List (XV Int32)}
theorem al_heap {z z0 z1 : XC Int32} {rows : List (XC Int32)} (hX : X.length = m) (hb : X[b]? = some z0) : ((X ++ z :: rows).set b z1).length = m + 1 + rows.length ∧ ((X ++ z :: rows).set b z1)[b]? = some z1 ∧ (∀ x, x < m → x ≠ b → ((X ++ z :: rows).set b z1)[x]? = X[x]?) ∧ ((X ++ z :: rows).set b z1)[m]? = some z ∧ ∀ q, ((X ++ z :: rows).set b z1)[m + 1 + q]? = rows[q]? := by
  have hbl : b < m := hX ▸ (List.getElem?_eq_some_iff.mp hb).1
  have e : ∀ q, m ≤ q → ((X ++ z :: rows).set b z1)[q]? = (z :: rows)[q - m]? := fun q hq => by
    rw [List.getElem?_set_ne (by omega), List.getElem?_append_right (by omega), hX]
  refine ⟨by rw [List.length_set, List.length_append, List.length_cons, hX]; omega, List.getElem?_set_self (by rw [List.length_append]; omega), fun x hx hn => by rw [List.getElem?_set_ne (fun w => hn w.symm), List.getElem?_append_left (by omega)], ?_, fun q => ?_⟩
  · rw [e m (Nat.le_refl m), Nat.sub_self]
    rfl
  · rw [e _ (by omega), show m + 1 + q - m = q + 1 by omega]
    rfl
theorem al_b {z z0 : XC Int32} {rows : List (XC Int32)} (hb : X[b]? = some z0) : (X ++ z :: rows)[b]? = some z0 := by
  rw [List.getElem?_append_left (List.getElem?_eq_some_iff.mp hb).1]
  exact hb
end XR33b
/-! p33 by hand, 55. -/
noncomputable section XH33_55
variable {ot : XO Int32} {dp : Nat} {H H0 : List (XC Int32)}
theorem t222_l {n : Nat} {d : Ld} {A FR TR FS TS : Nat → Nat} {WL : List Nat} {gs : List (XV Int32)} {col : Nat → Nat} {lF lT : Nat → List (XV Int32)} (hd : dOk n d) (hN : mNe A FR TR WL col) (hG : mG n A gs) {H : List (XC Int32)} (hL : H.length ≤ 1000000) (hS : mS0 n d A FR TR FS TS lF lT WL H) (hb : H[A 0]? = some (.inl (12, gs))) : ∀ (k p : Nat) (G : List (XC Int32)) (L : List (Nat × XV Int32)), p + k = 12 → cPh FR TR lF lT H G p → x_lk L 0 = some (.inr (some (A 0))) → x_lk L 1 = some (.inl ((dYr d))) → x_lk L 2 = some (.inl (nI (0))) → x_lk L 3 = some (.inl (nI (0))) → x_lk L 4 = some (.inr (some (A 23))) → x_lk L 5 = some (.inr (some (A 25))) → x_lk L 6 = some (.inr (some (A 24))) → x_lk L 7 = some (.inr (some (A 26))) → x_lk L 8 = some (.inl (nI (p))) → ∃ G', cPh FR TR lF lT H G' 12 ∧ ∀ (v : Option (XV Int32)) (H2 : List (XC Int32)), (∀ L', x_lk L' 0 = some (.inr (some (A 0))) → x_lk L' 1 = some (.inl ((dYr d))) → x_lk L' 2 = some (.inl (nI (0))) → x_lk L' 3 = some (.inl (nI (0))) → x_lk L' 4 = some (.inr (some (A 23))) → x_lk L' 5 = some (.inr (some (A 25))) → x_lk L' 6 = some (.inr (some (A 24))) → x_lk L' 7 = some (.inr (some (A 26))) → x_To x_tb x_tyl ot dp 222 78 L' [] G' 0 0 v H2) → x_To x_tb x_tyl ot dp 222 27 L [] G 0 0 v H2 := by
  obtain ⟨hl62, g0, hg⟩ := id hG
  have z0 := lt_of hb hL
  have hA0 : ¬ 1000000 < A 0 := by omega
  have g59 := hg 59 18 (by decide)
  have g60 := hg 60 19 (by decide)
  intro k
  induction k with
  | zero =>
    intro p G L hp hc l0 l1 l2 l3 l4 l5 l6 l7 l8
    obtain rfl : p = 12 := by omega
    refine ⟨G, hc, fun v H2 hk => ?_⟩
    refine xT_iload g_q222 g222_27 (l8) ?_
    refine xT_biV (y := nI (12)) g_q222 g222_29 (by decide) ?_
    refine xT_if_icmpY g_q222 g222_31 (t := 78) (by decide) (c3Y (a := 12) (b := 12) (Nat.le_refl _) (by omega) (by omega)) ?_
    exact hk _ (l0) (l1) (l2) (l3) (l4) (l5) (l6) (l7)
  | succ k ih =>
    intro p G L hp hc l0 l1 l2 l3 l4 l5 l6 l7 l8
    have hp12 : p < 12 := by omega
    obtain ⟨h1, h2, h3⟩ := id hc
    obtain ⟨⟨la_, ca, nla, -⟩, ⟨lb_, cb_, nlb, -⟩⟩ := h3 p hp12
    obtain ⟨n1, n2, n13, n14⟩ := hN.2.1 p hp12
    have k0 := hN.1 0 (by decide)
    have no : ∀ {x : Nat}, x ≠ FR p → x ≠ TR p → ∀ k : Nat, [FR p, TR p][k]? ≠ some x := fun a b k hk => by
      rcases k with _ | _ | k
      · cases hk
        exact a rfl
      · cases hk
        exact b rfl
      · cases hk
    have mvG : ∀ (x : Nat) z, c3R H WL x z → c3R G [FR p, TR p] x z := fun x z h => ⟨h1 x z h.1 (fun q hq => ⟨c3R_ne h (hN.2.1 q hq).1, c3R_ne h (hN.2.1 q hq).2.1⟩), no (c3R_ne h n1) (c3R_ne h n2)⟩
    have cb : c3R G [FR p, TR p] (A 0) (.inl (12, gs)) := ⟨h1 _ _ hb (fun q hq => ⟨cne k0.2 (hN.2.1 q hq).2.2.1 (by decide), cne k0.2 (hN.2.1 q hq).2.2.2 (by decide)⟩), no (cne k0.2 n13 (by decide)) (cne k0.2 n14 (by decide))⟩
    obtain ⟨⟨r1, r2, r3, r4⟩, ⟨cF, wF, cT, wT⟩, -, -⟩ := hS.2.2.1 p hp12
    obtain ⟨lfr, cfr, nfr, efr⟩ := rQ_mv mvG r1
    obtain ⟨ltr, ctr, ntr, etr⟩ := rQ_mv mvG r2
    obtain ⟨lfs, cfs, nfs, efs⟩ := rQ_mv mvG r3
    obtain ⟨lts, cts, nts, ets⟩ := rQ_mv mvG r4
    have cF := mvG _ _ cF
    have cT := mvG _ _ cT
    have g0 : hm G G [FR p, TR p] [.inr (0, la_), .inr (0, lb_)] := hm_rf (inj_of col (cs := [13, 14]) (by simp only [List.map_cons, List.map_nil, n13, n14]) (by decide +kernel)) rfl (fun k a z hk hz => by
      rcases k with _ | _ | k
      · cases hk
        cases hz
        exact ca
      · cases hk
        cases hz
        exact cb_
      · cases hk)
    have g1_ : hm _ _ [FR p, TR p] [.inr (0, lF p), .inr (0, lb_)] := hm_set (i := 0) (z2 := .inr (0, lF p)) g0 rfl
    have g2_ : hm _ _ [FR p, TR p] [.inr (0, lF p), .inr (0, lT p)] := hm_set (i := 1) (z2 := .inr (0, lT p)) g1_ rfl
    obtain ⟨G', x1, x2⟩ := ih (p + 1) _ (x_st (L) 8 (.inl (nI (p + 1)))) (by omega) (cPh_s hc hp12 hN wF.1 wT.1 g2_) (lkN (by decide) (l0)) (lkN (by decide) (l1)) (lkN (by decide) (l2)) (lkN (by decide) (l3)) (lkN (by decide) (l4)) (lkN (by decide) (l5)) (lkN (by decide) (l6)) (lkN (by decide) (l7)) (lkY)
    refine ⟨G', x1, fun v H2 hk => ?_⟩
    refine xT_iload g_q222 g222_27 (l8) ?_
    refine xT_biV (y := nI (12)) g_q222 g222_29 (by decide) ?_
    refine xT_if_icmpN g_q222 g222_31 (t := 78) (by decide) (c3N (a := p) (b := 12) (by omega) (by omega) (by omega)) ?_
    refine xT_aload g_q222 g222_34 (l4) ?_
    refine xT_iload g_q222 g222_36 (l8) ?_
    refine xT_aaload g_q222 g222_38 (by decide +kernel) (hm_c g0 cfs) (ixN (n := 12) (by omega) nfs) (ixG (by omega) efs) ?_
    refine xT_icV (y := nI (0)) g_q222 g222_39 (by decide) ?_
    refine xT_aload_n g_q222 g222_40 (l0) ?_
    refine xT_getfield g_q222 g222_41 hA0 rfl (hm_c g0 cb) rfl g59 ?_
    refine xT_iload g_q222 g222_44 (l8) ?_
    refine xT_aaload g_q222 g222_46 (by decide +kernel) (hm_c g0 cfr) (ixN (n := 12) (by omega) nfr) (ixG (by omega) efr) ?_
    refine xT_icV (y := nI (0)) g_q222 g222_47 (by decide) ?_
    refine xT_biV (y := nI (12)) g_q222 g222_48 (by decide) ?_
    refine xT_arraycopy g_q222 g222_50 (by decide +kernel) (by decide +kernel) (hm_c g0 cF) (hm_at g0 (i := 0) rfl rfl) (ac4 wF nla) ?_
    rw [acl wF.1 nla]
    refine xT_aload g_q222 g222_53 (l5) ?_
    refine xT_iload g_q222 g222_55 (l8) ?_
    refine xT_aaload g_q222 g222_57 (by decide +kernel) (hm_c g1_ cts) (ixN (n := 12) (by omega) nts) (ixG (by omega) ets) ?_
    refine xT_icV (y := nI (0)) g_q222 g222_58 (by decide) ?_
    refine xT_aload_n g_q222 g222_59 (l0) ?_
    refine xT_getfield g_q222 g222_60 hA0 rfl (hm_c g1_ cb) rfl g60 ?_
    refine xT_iload g_q222 g222_63 (l8) ?_
    refine xT_aaload g_q222 g222_65 (by decide +kernel) (hm_c g1_ ctr) (ixN (n := 12) (by omega) ntr) (ixG (by omega) etr) ?_
    refine xT_icV (y := nI (0)) g_q222 g222_66 (by decide) ?_
    refine xT_biV (y := nI (12)) g_q222 g222_67 (by decide) ?_
    refine xT_arraycopy g_q222 g222_69 (by decide +kernel) (by decide +kernel) (hm_c g1_ cT) (hm_at g1_ (i := 1) rfl rfl) (ac4 wT nlb) ?_
    rw [acl wT.1 nlb]
    refine xT_iincV (y := nI (p + 1)) g_q222 g222_72 (l8) (by decide) (bIncN _) ?_
    refine xT_goto g_q222 g222_75 (t := 27) (by decide) ?_
    exact x2 v H2 hk
end XH33_55
