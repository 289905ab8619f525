/-! The reference's night that is thought of: what stands, what each program's run leaves. -/
noncomputable section XR33
variable {n : Nat} {d : Ld} {A FR TR : Nat → Nat} {WL As Bs : List Nat} {rp rt : Nat → rS} {Hs H G : List (XC Int32)} {gz : List (XV Int32)} {col : Nat → Nat}
theorem inj_of {l : List Nat} (col : Nat → Nat) {cs : List Nat} (h : l.map col = cs) (hn : (List.range cs.length).all (fun i => (List.range cs.length).all (fun j => decide (i = j) || !decide (cs[i]? = cs[j]?))) = true) : ∀ (i j : Nat) x, l[i]? = some x → l[j]? = some x → i = j := fun i j x hi hj => by
  have e1 : cs[i]? = some (col x) := by
    rw [← h, List.getElem?_map, hi]
    rfl
  have e2 : cs[j]? = some (col x) := by
    rw [← h, List.getElem?_map, hj]
    rfl
  have k := List.all_eq_true.mp (List.all_eq_true.mp hn i (List.mem_range.mpr (List.getElem?_eq_some_iff.mp e1).1)) j (List.mem_range.mpr (List.getElem?_eq_some_iff.mp e2).1)
  simp only [Bool.or_eq_true, Bool.not_eq_true', decide_eq_true_eq, decide_eq_false_iff_not] at k
  rcases k with k | k
  · exact k
  · exact absurd (e1.trans e2.symm) k
theorem rS9_rf (gs : List (XV Int32)) : rS9 gs gs := ⟨rfl, fun _ _ => rfl⟩
theorem rS9_tr {a b c : List (XV Int32)} (h : rS9 a b) (g : rS9 b c) : rS9 a c := ⟨h.1.trans g.1, fun j hj => (h.2 j hj).trans (g.2 j hj)⟩
theorem hm_app {Zs Cs Ys} {Ds : List Nat} (h : hm H G Ds Zs) (hi : ∀ (i j : Nat) x, (Ds ++ Cs)[i]? = some x → (Ds ++ Cs)[j]? = some x → i = j) (hl : Cs.length = Ys.length) (hc : ∀ (k : Nat) a z, Cs[k]? = some a → Ys[k]? = some z → G[a]? = some z) : hm H G (Ds ++ Cs) (Zs ++ Ys) := by
  obtain ⟨h1, h2, h3, h4, h5⟩ := h
  refine ⟨hi, by rw [List.length_append, List.length_append, h2, hl], fun k a z ha hz => ?_, fun x z hx hn => h4 x z hx (fun k hk => ?_), h5⟩
  · by_cases c : k < Ds.length
    · rw [List.getElem?_append_left c] at ha
      rw [List.getElem?_append_left (by omega)] at hz
      exact h3 k a z ha hz
    · rw [List.getElem?_append_right (by omega)] at ha
      rw [List.getElem?_append_right (by omega), ← h2] at hz
      exact hc _ a z ha hz
  · have hk2 := (List.getElem?_eq_some_iff.mp hk).1
    exact hn k (by rw [List.getElem?_append_left hk2]; exact hk)
-- from one heap to another
theorem rQ_mv (mv : ∀ (x : Nat) z, c3R Hs Bs x z → c3R G As x z) {r ty len i x : Nat} (h : rQ Hs Bs r ty len i x) : rQ G As r ty len i x := by
  obtain ⟨l, a, b⟩ := h
  exact ⟨l, mv _ _ a, b⟩
theorem rI_mv (mv : ∀ (x : Nat) z, c3R Hs Bs x z → c3R G As x z) {r len i : Nat} {x : Int32} (h : rI Hs Bs r len i x) : rI G As r len i x := by
  obtain ⟨c, l, a, b⟩ := h
  exact ⟨c, l, mv _ _ a, b⟩
theorem rC_mv (mv : ∀ (x : Nat) z, c3R Hs Bs x z → c3R G As x z) {ln cd q : Nat} {p : rP} (h : rC Hs Bs ln cd q p) : rC G As ln cd q p := by
  obtain ⟨⟨D, a, b, w, c, e⟩, f⟩ := h
  exact ⟨⟨D, rQ_mv mv a, b, w, mv _ _ c, e⟩, rI_mv mv f⟩
theorem rC_pt {ln cd q i : Nat} {x : Nat × (Nat → Int32)} (h : rC G As ln cd q (pgP d i x)) : rC G As ln cd q (pgT d i x) := by
  obtain ⟨⟨D, a, b, w, c, e, f⟩, g⟩ := h
  exact ⟨⟨D, a, b, w, c, e, f⟩, g⟩
theorem rT_mv (mv : ∀ (x : Nat) z, c3R Hs Bs x z → c3R G As x z) {gs : List (XV Int32)} {q t : Nat} {p : rP} (h : rT Hs Bs gs q t p) : rT G As gs q t p := by
  rcases h with h | ⟨a, b, c, dg, pv, ru, dr, pr, g3, g4, g5, e1, e2, e3, e4, e5⟩
  · exact Or.inl h
  · exact Or.inr ⟨a, b, c, dg, pv, ru, dr, pr, g3, g4, g5, rQ_mv mv e1, rQ_mv mv e2, c3W_mv mv e3, c3W_mv mv e4, rI_mv mv e5⟩
-- what stands
def fN (on : Nat → Nat) (r : Nat → rS) (i q : Nat) : Nat := if q < i then rOs (r q) else on q
def fV (ov : Nat → Nat → Int32) (r : Nat → rS) (i q : Nat) : Nat → Int32 := if q < i then rOv (r q) else ov q
def mRo (H : List (XC Int32)) (r nn : Nat) (vv : Nat → Int32) : Prop := ∃ l : List (XV Int32), H[r]? = some (.inr (0, l)) ∧ wLf l ∧ ∀ k, k < nn → l[k]? = some (.inl (vv k))
def mRz (H : List (XC Int32)) (r n : Nat) (f : Nat → Nat) : Prop := ∃ l : List (XV Int32), H[r]? = some (.inr (0, l)) ∧ l.length = 12 ∧ ∀ q, q < n → l[q]? = some (.inl (nI (f q)))
def mRn (A : Nat → Nat) (H : List (XC Int32)) : Prop := ∃ (f0 f1 w0 w1 : List (XV Int32)) (a0 a1 b0 b1 c0 c1 d0 d1 e0 e1 h0 h1 : Int32), (f0.length = 6 ∧ f1.length = 6 ∧ wLf w0 ∧ wLf w1) ∧ H[A 1]? = some (.inr (0, f0)) ∧ H[A 2]? = some (.inr (0, f1)) ∧ H[A 3]? = some (.inr (0, [.inl a0, .inl a1])) ∧ H[A 4]? = some (.inr (0, [.inl b0, .inl b1])) ∧ H[A 5]? = some (.inr (0, [.inl c0, .inl c1])) ∧ H[A 6]? = some (.inr (0, [.inl d0, .inl d1])) ∧ H[A 7]? = some (.inr (0, w0)) ∧ H[A 8]? = some (.inr (0, w1)) ∧ H[A 9]? = some (.inr (0, [.inl e0, .inl e1])) ∧ H[A 10]? = some (.inr (0, [.inl h0, .inl h1]))
/-- what no run of the night writes: A 13 .. : lines, codes, inputs, shelves, their sizes, files, twins, fields, what is written, weights -/
def mSt (n : Nat) (d : Ld) (A FR TR : Nat → Nat) (WL : List Nat) (gz : List (XV Int32)) (Hs : List (XC Int32)) : Prop :=
  rG gz (A 13) (A 14) (A 15) (A 16) (A 17) (A 18) (A 11) (A 19) (A 12) (A 20) (A 3) (A 4) (A 5) (A 6) (A 21) (A 9) (A 10) ∧ (gz[0]? = some (.inl (nI n)) ∧ gz[7]? = some (.inr (some (A 22)))) ∧ (rQ Hs WL (A 20) 5 2 0 (A 1) ∧ rQ Hs WL (A 20) 5 2 1 (A 2)) ∧ (rQ Hs WL (A 21) 5 2 0 (A 7) ∧ rQ Hs WL (A 21) 5 2 1 (A 8)) ∧
  ∀ q, q < n → (∀ x, rC Hs WL (A 13) (A 14) q (pgP d q x)) ∧ (∀ x, rT Hs WL gz q 0 (pgP d q x)) ∧ rI Hs WL (A 15) 12 q (svI (dSv d q)) ∧ rI Hs WL (A 17) 12 q (nI (dHn d q)) ∧ (∃ r w, rQ Hs WL (A 16) 5 12 q r ∧ ¬ r = 1000000 ∧ c3R Hs WL r (.inr (0, w)) ∧ w.length = 12 ∧ ∀ k, k < dHn d q → ∃ x : Int32, w[k]? = some (.inl x) ∧ dHv d q k = if x = -1 then 0 else x) ∧ rQ Hs WL (A 18) 5 12 q (FR q) ∧ rQ Hs WL (A 19) 5 12 q (TR q) ∧ rI Hs WL (A 22) 12 q (dWt d q)
def mNe (A FR TR : Nat → Nat) (WL : List Nat) (col : Nat → Nat) : Prop := (∀ j, j < 13 → A j ∈ WL ∧ col (A j) = j) ∧ (∀ q, q < 12 → FR q ∈ WL ∧ TR q ∈ WL ∧ col (FR q) = 13 ∧ col (TR q) = 14) ∧ ∀ q k, q < 12 → k < 12 → q ≠ k → FR q ≠ FR k ∧ TR q ≠ TR k
/-- i programs have run -/
def mPh (n : Nat) (d : Ld) (A FR TR : Nat → Nat) (WL : List Nat) (rp rt : Nat → rS) (gz : List (XV Int32)) (Hs H : List (XC Int32)) (i : Nat) : Prop :=
  (∀ (x : Nat) z, c3R Hs WL x z → H[x]? = some z) ∧ H.length = Hs.length ∧ (∃ gs : List (XV Int32), H[A 0]? = some (.inl (12, gs)) ∧ rS9 gs gz) ∧ mRn A H ∧ mRz H (A 11) n (fN (dWn d) rp i) ∧ mRz H (A 12) n (fN (dTn d) rt i) ∧ ∀ q, q < n → mRo H (FR q) (fN (dWn d) rp i q) (fV (dWv d) rp i q) ∧ mRo H (TR q) (fN (dTn d) rt i q) (fV (dTv d) rt i q)
def A11 (A : Nat → Nat) : List Nat := [A 0, A 1, A 2, A 3, A 4, A 5, A 6, A 7, A 8, A 9, A 10]
theorem A11_in (hN : mNe A FR TR WL col) : ∀ x, x ∈ [A 0, A 1, A 2, A 3, A 4, A 5, A 6, A 7, A 8, A 9, A 10] → x ∈ WL := fun x hx => by
  simp only [List.mem_cons, List.not_mem_nil, or_false] at hx
  rcases hx with rfl | rfl | rfl | rfl | rfl | rfl | rfl | rfl | rfl | rfl | rfl
  all_goals exact (hN.1 _ (by decide)).1
/-- what is of none of the first eleven colours is none of those cells -/
theorem A11_no (hN : mNe A FR TR WL col) {x : Nat} (hx : 11 ≤ col x) : ∀ k : Nat, [A 0, A 1, A 2, A 3, A 4, A 5, A 6, A 7, A 8, A 9, A 10][k]? ≠ some x := fun k hk => by
  have k0 := (hN.1 0 (by decide)).2
  have k1 := (hN.1 1 (by decide)).2
  have k2 := (hN.1 2 (by decide)).2
  have k3 := (hN.1 3 (by decide)).2
  have k4 := (hN.1 4 (by decide)).2
  have k5 := (hN.1 5 (by decide)).2
  have k6 := (hN.1 6 (by decide)).2
  have k7 := (hN.1 7 (by decide)).2
  have k8 := (hN.1 8 (by decide)).2
  have k9 := (hN.1 9 (by decide)).2
  have k10 := (hN.1 10 (by decide)).2
  have hm := List.mem_of_getElem? hk
  simp only [List.mem_cons, List.not_mem_nil, or_false] at hm
  rcases hm with rfl | rfl | rfl | rfl | rfl | rfl | rfl | rfl | rfl | rfl | rfl
  all_goals omega
theorem A11_inj (hN : mNe A FR TR WL col) : ∀ (i j : Nat) x, [A 0, A 1, A 2, A 3, A 4, A 5, A 6, A 7, A 8, A 9, A 10][i]? = some x → [A 0, A 1, A 2, A 3, A 4, A 5, A 6, A 7, A 8, A 9, A 10][j]? = some x → i = j :=
  inj_of col (cs := [0, 1, 2, 3, 4, 5, 6, 7, 8, 9, 10]) (by
    simp only [List.map_cons, List.map_nil, (hN.1 _ (show 0 < 13 by decide)).2, (hN.1 _ (show 1 < 13 by decide)).2, (hN.1 _ (show 2 < 13 by decide)).2, (hN.1 _ (show 3 < 13 by decide)).2, (hN.1 _ (show 4 < 13 by decide)).2, (hN.1 _ (show 5 < 13 by decide)).2, (hN.1 _ (show 6 < 13 by decide)).2, (hN.1 _ (show 7 < 13 by decide)).2, (hN.1 _ (show 8 < 13 by decide)).2, (hN.1 _ (show 9 < 13 by decide)).2, (hN.1 _ (show 10 < 13 by decide)).2]) (by decide +kernel)
theorem A15_inj (hN : mNe A FR TR WL col) {i : Nat} (hi : i < 12) : ∀ (u v : Nat) x, [A 0, A 1, A 2, A 3, A 4, A 5, A 6, A 7, A 8, A 9, A 10, A 11, A 12, FR i, TR i][u]? = some x → [A 0, A 1, A 2, A 3, A 4, A 5, A 6, A 7, A 8, A 9, A 10, A 11, A 12, FR i, TR i][v]? = some x → u = v :=
  inj_of col (cs := [0, 1, 2, 3, 4, 5, 6, 7, 8, 9, 10, 11, 12, 13, 14]) (by
    simp only [List.map_cons, List.map_nil, (hN.1 _ (show 0 < 13 by decide)).2, (hN.1 _ (show 1 < 13 by decide)).2, (hN.1 _ (show 2 < 13 by decide)).2, (hN.1 _ (show 3 < 13 by decide)).2, (hN.1 _ (show 4 < 13 by decide)).2, (hN.1 _ (show 5 < 13 by decide)).2, (hN.1 _ (show 6 < 13 by decide)).2, (hN.1 _ (show 7 < 13 by decide)).2, (hN.1 _ (show 8 < 13 by decide)).2, (hN.1 _ (show 9 < 13 by decide)).2, (hN.1 _ (show 10 < 13 by decide)).2, (hN.1 _ (show 11 < 13 by decide)).2, (hN.1 _ (show 12 < 13 by decide)).2, (hN.2.1 i hi).2.2.1, (hN.2.1 i hi).2.2.2]) (by decide +kernel)
theorem A15_in (hN : mNe A FR TR WL col) {i : Nat} (hi : i < 12) : ∀ x, x ∈ [A 0, A 1, A 2, A 3, A 4, A 5, A 6, A 7, A 8, A 9, A 10, A 11, A 12, FR i, TR i] → x ∈ WL := fun x hx => by
  simp only [List.mem_cons, List.not_mem_nil, or_false] at hx
  rcases hx with rfl | rfl | rfl | rfl | rfl | rfl | rfl | rfl | rfl | rfl | rfl | rfl | rfl | rfl | rfl
  all_goals first
    | exact (hN.1 _ (by decide)).1
    | exact (hN.2.1 i hi).1
    | exact (hN.2.1 i hi).2.1
/-- another program's row is none of those cells -/
theorem A15_no (hN : mNe A FR TR WL col) {i x : Nat} (hi : i < 12) (hx : 13 ≤ col x) (h1 : x ≠ FR i) (h2 : x ≠ TR i) : ∀ k : Nat, [A 0, A 1, A 2, A 3, A 4, A 5, A 6, A 7, A 8, A 9, A 10, A 11, A 12, FR i, TR i][k]? ≠ some x := fun k hk => by
  have k0 := (hN.1 0 (by decide)).2
  have k1 := (hN.1 1 (by decide)).2
  have k2 := (hN.1 2 (by decide)).2
  have k3 := (hN.1 3 (by decide)).2
  have k4 := (hN.1 4 (by decide)).2
  have k5 := (hN.1 5 (by decide)).2
  have k6 := (hN.1 6 (by decide)).2
  have k7 := (hN.1 7 (by decide)).2
  have k8 := (hN.1 8 (by decide)).2
  have k9 := (hN.1 9 (by decide)).2
  have k10 := (hN.1 10 (by decide)).2
  have k11 := (hN.1 11 (by decide)).2
  have k12 := (hN.1 12 (by decide)).2
  have hm := List.mem_of_getElem? hk
  simp only [List.mem_cons, List.not_mem_nil, or_false] at hm
  rcases hm with rfl | rfl | rfl | rfl | rfl | rfl | rfl | rfl | rfl | rfl | rfl | rfl | rfl | hm | hm
  all_goals first
    | exact h1 hm
    | exact h2 hm
    | omega
theorem fN_i {on : Nat → Nat} {r : Nat → rS} {i : Nat} : fN on r (i + 1) i = rOs (r i) := if_pos (Nat.lt_succ_self i)
theorem fN_n {on : Nat → Nat} {r : Nat → rS} {i q : Nat} (h : q ≠ i) : fN on r (i + 1) q = fN on r i q := by
  unfold fN
  by_cases c : q < i
  · rw [if_pos c, if_pos (by omega)]
  · rw [if_neg c, if_neg (by omega)]
theorem fV_i {ov : Nat → Nat → Int32} {r : Nat → rS} {i : Nat} : fV ov r (i + 1) i = rOv (r i) := if_pos (Nat.lt_succ_self i)
theorem fV_n {ov : Nat → Nat → Int32} {r : Nat → rS} {i q : Nat} (h : q ≠ i) : fV ov r (i + 1) q = fV ov r i q := by
  unfold fV
  by_cases c : q < i
  · rw [if_pos c, if_pos (by omega)]
  · rw [if_neg c, if_neg (by omega)]
/-- a program's input, of files or of twins -/
theorem mIn (hd : dOk n d) (hL : Hs.length ≤ 1000000) (hS : mSt n d A FR TR WL gz Hs) (hN : mNe A FR TR WL col) {i : Nat} (hP : mPh n d A FR TR WL rp rt gz Hs H i) (hi : i < n) {p0 p1 : rP} (hp0 : pNi p0 = (inX d (dWn d) (dWv d) rp i).1 ∧ pIv p0 = (inX d (dWn d) (dWv d) rp i).2) (hp1 : pNi p1 = (inX d (dTn d) (dTv d) rt i).1 ∧ pIv p1 = (inX d (dTn d) (dTv d) rt i).2) :
    rN H [A 0, A 1, A 2, A 3, A 4, A 5, A 6, A 7, A 8, A 9, A 10] (A 15) (A 16) (A 17) (A 18) (A 11) i p0 ∧ rN H [A 0, A 1, A 2, A 3, A 4, A 5, A 6, A 7, A 8, A 9, A 10] (A 15) (A 16) (A 17) (A 19) (A 12) i p1 := by
  obtain ⟨p1_, p2, p3, p4, p5, p6, p7⟩ := hP
  have hd12 := hd.1
  have mv : ∀ (x : Nat) z, c3R Hs WL x z → c3R H [A 0, A 1, A 2, A 3, A 4, A 5, A 6, A 7, A 8, A 9, A 10] x z := fun x z h => c3R_mv p1_ (A11_in hN) h
  obtain ⟨s1, s2, s3, s4, s5⟩ := hS
  obtain ⟨-, -, t3, t4, ⟨r, w, u1, u2, u3, u4, u5⟩, -, -, -⟩ := s5 i hi
  obtain ⟨-, -, -, -, -, b1, b2, -⟩ := hd.2 i hi
  obtain ⟨e01, e02⟩ := hp0
  obtain ⟨e11, e12⟩ := hp1
  unfold inX at e01 e02 e11 e12
  rcases hz : dSv d i with _ | s
  · rw [if_pos hz] at e01 e02 e11 e12
    rw [hz] at t3
    exact ⟨Or.inl ⟨rI_mv mv t3, by rw [e01]; exact rI_mv mv t4, r, w, rQ_mv mv u1, u2, mv _ _ u3, u4, by rw [e01, e02]; exact u5⟩, Or.inl ⟨rI_mv mv t3, by rw [e11]; exact rI_mv mv t4, r, w, rQ_mv mv u1, u2, mv _ _ u3, u4, by rw [e11, e12]; exact u5⟩⟩
  · have hs : s < n := by omega
    have hs1 : dSv d i - 1 = s := by omega
    rw [if_neg (by omega), hs1] at e01 e02 e11 e12
    rw [hz] at t3
    obtain ⟨-, -, -, -, -, v6, v7, -⟩ := s5 s hs
    obtain ⟨lz, cz, nz_, ez⟩ := p5
    obtain ⟨lt, ct, nt_, et⟩ := p6
    obtain ⟨⟨lf, cf, nf_, ef⟩, ⟨lw, cw, nw_, ew⟩⟩ := p7 s hs
    obtain ⟨-, -, k13, k14⟩ := hN.2.1 s (by omega)
    have k11 := (hN.1 11 (by decide)).2
    have k12 := (hN.1 12 (by decide)).2
    have l1 := lt_of cz (by omega)
    have l2 := lt_of ct (by omega)
    have l3 := lt_of cf (by omega)
    have l4 := lt_of cw (by omega)
    have f0 : fN (dWn d) rp i s = pNi p0 ∧ fV (dWv d) rp i s = pIv p0 := by
      unfold fN fV
      by_cases c : s < i
      · rw [if_pos (by omega)] at e01 e02
        rw [if_pos c, if_pos c, e01, e02]
        exact ⟨rfl, rfl⟩
      · rw [if_neg (by omega)] at e01 e02
        rw [if_neg c, if_neg c, e01, e02]
        exact ⟨rfl, rfl⟩
    have f1 : fN (dTn d) rt i s = pNi p1 ∧ fV (dTv d) rt i s = pIv p1 := by
      unfold fN fV
      by_cases c : s < i
      · rw [if_pos (by omega)] at e11 e12
        rw [if_pos c, if_pos c, e11, e12]
        exact ⟨rfl, rfl⟩
      · rw [if_neg (by omega)] at e11 e12
        rw [if_neg c, if_neg c, e11, e12]
        exact ⟨rfl, rfl⟩
    refine ⟨Or.inr ⟨s, by omega, rI_mv mv t3, ⟨by omega, lz, ⟨cz, A11_no hN (by omega)⟩, nz_, ?_⟩, FR s, rQ_mv mv v6, by omega, lf, ⟨cf, A11_no hN (by omega)⟩, nf_.1, ?_⟩, Or.inr ⟨s, by omega, rI_mv mv t3, ⟨by omega, lt, ⟨ct, A11_no hN (by omega)⟩, nt_, ?_⟩, TR s, rQ_mv mv v7, by omega, lw, ⟨cw, A11_no hN (by omega)⟩, nw_.1, ?_⟩⟩
    · rw [← f0.1]
      exact ez s hs
    · rw [← f0.1, ← f0.2]
      exact ef
    · rw [← f1.1]
      exact et s hs
    · rw [← f1.1, ← f1.2]
      exact ew
/-- one more has run, its rows and counts are kept -/
theorem mPh_s (hd : dOk n d) (hN : mNe A FR TR WL col) {i : Nat} (hP : mPh n d A FR TR WL rp rt gz Hs H i) (hi : i < n) {gs f0 f1 w0 w1 vz vt : List (XV Int32)} {a0 a1 b0 b1 c0 c1 d0 d1 e0 e1 h0 h1 : Int32} (h9 : rS9 gs gz) (hl0 : f0.length = 6) (hl1 : f1.length = 6) (hw0 : wLf w0) (hw1 : wLf w1) (hv0 : ∀ k, k < rOs (rp i) → w0[k]? = some (.inl (rOv (rp i) k))) (hv1 : ∀ k, k < rOs (rt i) → w1[k]? = some (.inl (rOv (rt i) k))) (hz : H[A 11]? = some (.inr (0, vz))) (ht : H[A 12]? = some (.inr (0, vt)))
    (h : hm H G [A 0, A 1, A 2, A 3, A 4, A 5, A 6, A 7, A 8, A 9, A 10, A 11, A 12, FR i, TR i] [.inl (12, gs), .inr (0, f0), .inr (0, f1), .inr (0, [.inl a0, .inl a1]), .inr (0, [.inl b0, .inl b1]), .inr (0, [.inl c0, .inl c1]), .inr (0, [.inl d0, .inl d1]), .inr (0, w0), .inr (0, w1), .inr (0, [.inl e0, .inl e1]), .inr (0, [.inl h0, .inl h1]), .inr (0, vz.set i (.inl (nI (rOs (rp i))))), .inr (0, vt.set i (.inl (nI (rOs (rt i))))), .inr (0, w0), .inr (0, w1)]) : mPh n d A FR TR WL rp rt gz Hs G (i + 1) := by
  obtain ⟨p1, p2, p3, p4, ⟨vz2, q1, q2, q3⟩, ⟨vt2, r1, r2, r3⟩, p7⟩ := hP
  have hd12 := hd.1
  rw [q1] at hz
  rw [r1] at ht
  cases hz
  cases ht
  have hi12 : i < 12 := by omega
  refine ⟨fun x z hx => hm_ro h (p1 x z hx) (fun k hk => ?_), (hm_len h).trans p2, ⟨gs, hm_at h (i := 0) rfl rfl, h9⟩, ⟨f0, f1, w0, w1, a0, a1, b0, b1, c0, c1, d0, d1, e0, e1, h0, h1, ⟨hl0, hl1, hw0, hw1⟩, hm_at h (i := 1) rfl rfl, hm_at h (i := 2) rfl rfl, hm_at h (i := 3) rfl rfl, hm_at h (i := 4) rfl rfl, hm_at h (i := 5) rfl rfl, hm_at h (i := 6) rfl rfl, hm_at h (i := 7) rfl rfl, hm_at h (i := 8) rfl rfl, hm_at h (i := 9) rfl rfl, hm_at h (i := 10) rfl rfl⟩, ⟨_, hm_at h (i := 11) rfl rfl, by rw [List.length_set]; exact q2, fun q hq => ?_⟩, ⟨_, hm_at h (i := 12) rfl rfl, by rw [List.length_set]; exact r2, fun q hq => ?_⟩, fun q hq => ?_⟩
  · exact c3R_ne hx (A15_in hN hi12 x (List.mem_of_getElem? hk)) rfl
  · by_cases c : q = i
    · subst c
      rw [fN_i]
      exact List.getElem?_set_self (by omega)
    · rw [fN_n c, List.getElem?_set_ne (fun z => c z.symm)]
      exact q3 q hq
  · by_cases c : q = i
    · subst c
      rw [fN_i]
      exact List.getElem?_set_self (by omega)
    · rw [fN_n c, List.getElem?_set_ne (fun z => c z.symm)]
      exact r3 q hq
  · by_cases c : q = i
    · subst c
      rw [fN_i, fV_i, fN_i, fV_i]
      exact ⟨⟨_, hm_at h (i := 13) rfl rfl, hw0, hv0⟩, ⟨_, hm_at h (i := 14) rfl rfl, hw1, hv1⟩⟩
    · rw [fN_n c, fV_n c, fN_n c, fV_n c]
      obtain ⟨⟨lf, cf, nf_, ef⟩, ⟨lw, cw, nw_, ew⟩⟩ := p7 q hq
      obtain ⟨-, -, k13, k14⟩ := hN.2.1 q (by omega)
      obtain ⟨-, -, j13, j14⟩ := hN.2.1 i hi12
      obtain ⟨n1, n2⟩ := hN.2.2 q i (by omega) hi12 c
      exact ⟨⟨lf, hm_ro h cf (A15_no hN hi12 (by omega) n1 (cne k13 j14 (by decide))), nf_, ef⟩, ⟨lw, hm_ro h cw (A15_no hN hi12 (by omega) (cne k14 j13 (by decide)) n2), nw_, ew⟩⟩
-- copying twelve ints
theorem acl {us vs : List (XV Int32)} (hu : us.length = 12) (hv : vs.length = 12) : vs.take (nI 0).toNatClampNeg ++ (us.drop (nI 0).toNatClampNeg).take (nI 12).toNatClampNeg ++ vs.drop ((nI 0).toNatClampNeg + (nI 12).toNatClampNeg) = us := by
  rw [show (nI 0).toNatClampNeg = 0 from rfl, show (nI 12).toNatClampNeg = 12 from rfl, List.take_zero, List.nil_append, List.drop_zero, List.take_of_length_le (by omega), List.drop_of_length_le (by omega), List.append_nil]
theorem ac4 {us vs : List (XV Int32)} (hu : wLf us) (hv : vs.length = 12) : (decide (¬ nI 12 < 0) && decide (¬ nI 0 < 0) && decide (¬ nI 0 < 0) && decide ((nI 0).toNatClampNeg + (nI 12).toNatClampNeg ≤ us.length) && decide ((nI 0).toNatClampNeg + (nI 12).toNatClampNeg ≤ vs.length) && decide (([] : List (XV Int32)).length ≤ 8) && us.all (fun u => u.isLeft)) = true := by
  rw [hu.1, hv, hu.2]
  decide
end XR33
