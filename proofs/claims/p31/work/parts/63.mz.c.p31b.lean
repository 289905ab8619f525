/-! Cover: what stands between calls of isShown. -/
noncomputable section XP31b
variable {a b tr tc fr rb n m la lb : Nat} {vs wl : List (XV Int32)} {c : pC}
theorem cell_fi {ty : Nat → Option Nat} {H : List (XC Int32)} (hp : vHp (fun c => x_KT.1[c]?) ty H) {a c ci j : Nat} {p : Int × Int} {fs : List (XV Int32)} (ha : ty a = some c) (hk : kf c j = some (.inl p)) (hH : H[a]? = some (.inl (ci, fs))) : ∃ x : Int32, fs[j]? = some (.inl x) ∧ p.1 ≤ x.toInt ∧ x.toInt ≤ p.2 := by
  obtain ⟨kd, w, h1, h2, h3⟩ := hp a c ha
  rw [hH] at h2
  cases h2
  have h1 : x_KT.1[c]? = some kd := h1
  unfold kf at hk
  rw [h1] at hk
  rcases kd with o | o
  · have hl : fs.length = o.2.length := h3.2.1
    have hj : j < o.2.length := (List.getElem?_eq_some_iff.mp hk).1
    have hu : fs[j]? = some (fs[j]'(by omega)) := List.getElem?_eq_getElem (by omega)
    have hf := h3.2.2 j _ _ hk hu
    rcases hx : fs[j]'(by omega) with x | u
    · rw [hx] at hf hu
      exact ⟨x, hu, hf⟩
    · rw [hx] at hf
      rcases u with _ | u
      · exact hf.elim
      · exact hf.elim
  · cases hk
def J (a b tr tc fr rb n m la lb : Nat) (c : pC) (vs wl : List (XV Int32)) : Prop := RL c ∧ (sR (cSA c) 0 = a ∧ sR (cSA c) 1 = tr ∧ sR (cSA c) 2 = fr ∧ sR (cSA c) 26 = tc ∧ sR (cSB c) 0 = b) ∧ (cR c 3 = (n : Int) ∧ cR c 4 = (m : Int)) ∧ (cHA c)[tc]? = some (.inr (0, vs)) ∧ (cHB c)[rb]? = some (.inr (0, wl)) ∧ cTB c rb = some 115 ∧ (cHA c).length ≤ la ∧ (cHB c).length ≤ lb ∧ la ≤ 1000000 ∧ lb ≤ 1000000
theorem J_8 (h : J a b tr tc fr rb n m la lb c vs wl) : n ≤ 8 ∧ m ≤ 8 := by
  have b3 : (0 : Int) ≤ cR c 3 ∧ cR c 3 ≤ 8 := by
    have := zipI_spec.mp h.1.1.2.2.2.1 3 (0, 8) rfl
    simpa using this
  have b4 : (0 : Int) ≤ cR c 4 ∧ cR c 4 ≤ 8 := by
    have := zipI_spec.mp h.1.1.2.2.2.1 4 (0, 8) rfl
    simpa using this
  have := h.2.2.1
  omega
theorem J_T (h : J a b tr tc fr rb n m la lb c vs wl) : kT (cHA c) a tr tc fr n m vs := by
  obtain ⟨hn8, hm8⟩ := J_8 h
  obtain ⟨hR, ⟨rfl, rfl, rfl, rfl, e5⟩, ⟨e3, e4⟩, h1, h2, h3, h4, h5, h6, h7⟩ := h
  have hp := hR.1.1
  have t0 := RL_bA hR 0 47 rfl
  have t1 := RL_bA hR 1 37 rfl
  have t2 := RL_bA hR 2 38 rfl
  have t26 := RL_bA hR 26 11 rfl
  obtain ⟨gs, g1, g2⟩ := cell_o hp t0 (t := 0) (m := 19) (by decide +kernel)
  obtain ⟨ts, q1, q2⟩ := cell_o hp t1 (t := 6) (m := 5) (by decide +kernel)
  obtain ⟨us, u1, u2⟩ := cell_o hp t2 (t := 6) (m := 5) (by decide +kernel)
  obtain ⟨vs2, v1, v2⟩ := cell_r hp t26 (t := 0) (m := 16) (by decide +kernel)
  rw [h1] at v1
  cases v1
  obtain ⟨x, x1, x2, x3⟩ := cell_fi hp t1 (j := 1) (p := (2, 2)) (by decide +kernel) q1
  have ex : x = nI 2 := by
    apply Int32.toInt_inj.mp
    rw [nI_toInt (by decide)]
    have x2 : (2 : Int) ≤ x.toInt := x2
    have x3 : x.toInt ≤ (2 : Int) := x3
    omega
  subst ex
  have f14 := fO (hR.1.2.2.1 (0, .inl 14, .inr (some 1)) (mK_at (by decide +kernel)))
  have f15 := fO (hR.1.2.2.1 (0, .inl 15, .inr (some 2)) (mK_at (by decide +kernel)))
  have f2 := fO (hR.1.2.2.1 (1, .inl 2, .inr (some 26)) (mK_at (by decide +kernel)))
  have f3 := fI (hR.1.2.2.1 (1, .inl 3, .inl (lSy 3)) (mK_at (by decide +kernel)))
  have f4 := fI (hR.1.2.2.1 (2, .inl 3, .inl (lSy 4)) (mK_at (by decide +kernel)))
  rw [rV_o g1] at f14 f15
  rw [rV_o q1] at f2 f3
  rw [rV_o u1] at f4
  rw [lSy_ev, oI e3 (by omega)] at f3
  rw [lSy_ev, oI e4 (by omega)] at f4
  have l0 := vHp_lt hp t0
  have l1 := vHp_lt hp t1
  have l2 := vHp_lt hp t2
  have l3 := vHp_lt hp t26
  exact ⟨by omega, by omega, by omega, by omega, hn8, hm8, gs, ts, us, g1, f14, f15, q1, x1, f2, f3, u1, f4, h1, v2⟩
theorem J_M (h : J a b tr tc fr rb n m la lb c vs wl) : kM (cHB c) b n m := by
  obtain ⟨hn8, hm8⟩ := J_8 h
  obtain ⟨hR, ⟨e1, e2, e6, e7, rfl⟩, ⟨e3, e4⟩, h1, h2, h3, h4, h5, h6, h7⟩ := h
  have hp := hR.2.1.1
  have t0 := RL_bB hR 0 117 rfl
  obtain ⟨gs, g1, g2⟩ := cell_o hp t0 (t := 12) (m := 69) (by decide +kernel)
  have f3 := fI (hR.2.1.2.2.1 (0, .inl 32, .inl (lSy 3)) (mK_at (by decide +kernel)))
  have f4 := fI (hR.2.1.2.2.1 (0, .inl 34, .inl (lSy 4)) (mK_at (by decide +kernel)))
  rw [lSy_ev, oI e3 (by omega), rV_o g1] at f3
  rw [lSy_ev, oI e4 (by omega), rV_o g1] at f4
  have l0 := vHp_lt hp t0
  exact ⟨by omega, hn8, hm8, gs, g1, f3, f4⟩
theorem J_Y (h : J a b tr tc fr rb n m la lb c vs wl) : isBy (cHB c) rb wl := by
  obtain ⟨hR, -, -, h1, h2, h3, h4, h5, h6, h7⟩ := h
  obtain ⟨w2, w1, w3⟩ := cell_r hR.2.1.1 h3 (t := 0) (m := 8) (by decide +kernel)
  rw [h2] at w1
  cases w1
  have l0 := vHp_lt hR.2.1.1 h3
  exact ⟨by omega, h2, w3⟩
theorem sR_far {σ σ2 : Nat → Nat} {k i : Nat} (h : ∀ i, i < k → σ2 i = σ i) (hi : i < k) (h6 : i < 1000000) : sR σ2 i = sR σ i := by
  unfold sR
  rw [if_pos h6, if_pos h6]
  exact h i hi
abbrev cvFar (c d : pC) : Prop := wFar 7 28 44 coverWA coverWB c d
theorem J_is {xs : Nat → Int32} {n0 : Nat} {sf : Option Nat} (hG : wGoes x_KT x_tb x_tyl (x_otS xs n0 sf) lwFR lwGA.length lwGB.length 7 28 44 shwWA shwWB 136 248 65 66 shw_in (shw_g0_ex.map (fun x => (false, x)))) {t f DA DB : Nat} (hDA : 66 ≤ DA) (hDB : 66 ≤ DB) (h : J a b tr tc fr rb n m la lb c vs wl) (ht : t < n) (hf : f < m) : ∃ (x : Nat) (d : pC), x ≤ 1 ∧ x_To x_tb x_tyl (x_otS xs n0 sf) DA 136 0 (x_en 0 [.inr (some a), .inl (nI t), .inl (nI f)]) [] (cHA c) 0 0 (some (.inl (nI x))) (cHA d) ∧ x_To x_tb x_tyl (x_otS xs n0 sf) DB 248 0 (x_en 0 [.inr (some b), .inl (nI t), .inl (nI f)]) [] (cHB c) 0 0 (some (.inl (nI x))) (cHB d) ∧ J a b tr tc fr rb n m la lb d vs wl ∧ cvFar c d := by
  obtain ⟨hR, ⟨rfl, rfl, rfl, rfl, rfl⟩, ⟨e3, e4⟩, h1, h2, h3, h4, h5, h6, h7⟩ := h
  obtain ⟨x, d, q1, q2, q3, q4, q5, q6, q7⟩ := isP hG hR (t := t) (f := f) (dA := DA) (dB := DB) (by omega) hDB (by omega) (by omega) (by omega) (by omega)
  obtain ⟨f1, f2, f3, f4, f5, f6, f7⟩ := q5
  have t26 := RL_bA hR 26 11 rfl
  refine ⟨x, d, q1, q2, q3, ⟨q4, ⟨sR_far f2 (by decide) (by decide), sR_far f2 (by decide) (by decide), sR_far f2 (by decide) (by decide), sR_far f2 (by decide) (by decide), sR_far f3 (by decide) (by decide)⟩, ⟨(f1 3 (by decide)).trans e3, (f1 4 (by decide)).trans e4⟩, vFrm_row f6 t26 (by decide +kernel) (by decide +kernel) h1, vFrm_row f7 h3 (by decide +kernel) (by decide +kernel) h2, f5 _ _ h3, by omega, by omega, h6, h7⟩, wFar_mono (Nat.le_refl _) (Nat.le_refl _) (Nat.le_refl _) (wSub_spec (by decide +kernel)) (wSub_spec (by decide +kernel)) ⟨f1, f2, f3, f4, f5, f6, f7⟩⟩
theorem J_by (h : J a b tr tc fr rb n m la lb c vs wl) {t : Nat} {x : Int32} : J a b tr tc fr rb n m la lb (hB_ c ((cHB c).set rb (.inr (0, wl.set t (.inl x))))) vs (wl.set t (.inl x)) ∧ cvFar c (hB_ c ((cHB c).set rb (.inr (0, wl.set t (.inl x))))) := by
  obtain ⟨hR, e, e2, h1, h2, h3, h4, h5, h6, h7⟩ := h
  refine ⟨⟨RL_B hR h3 h2, e, e2, h1, List.getElem?_set_self (List.getElem?_eq_some_iff.mp h2).1, h3, h4, ?_, h6, h7⟩, fun _ _ => rfl, fun _ _ => rfl, fun _ _ => rfl, vLe_rf _, vLe_rf _, vFrm_rf _ _ _, frm_rw h3 h2 (by decide +kernel)⟩
  show ((cHB c).set rb _).length ≤ lb
  rw [List.length_set]
  exact h5
theorem J_put (h : J a b tr tc fr rb n m la lb c vs wl) {t : Nat} {x : Int32} : J a b tr tc fr rb n m la lb (hA_ c ((cHA c).set tc (.inr (0, vs.set (t * 2 + 1) (.inl x))))) (vs.set (t * 2 + 1) (.inl x)) wl ∧ cvFar c (hA_ c ((cHA c).set tc (.inr (0, vs.set (t * 2 + 1) (.inl x))))) := by
  obtain ⟨hR, ⟨e, e1, e2, rfl, e4⟩, e5, h1, h2, h3, h4, h5, h6, h7⟩ := h
  refine ⟨⟨RL_A hR h1 (by omega), ⟨e, e1, e2, rfl, e4⟩, e5, List.getElem?_set_self (List.getElem?_eq_some_iff.mp h1).1, h2, h3, ?_, h5, h6, h7⟩, fun _ _ => rfl, fun _ _ => rfl, fun _ _ => rfl, vLe_rf _, vLe_rf _, frm_rw (RL_bA hR 26 11 rfl) h1 (by decide +kernel), vFrm_rf _ _ _⟩
  show ((cHA c).set _ _).length ≤ la
  rw [List.length_set]
  exact h4
def GO (ot : XO Int32) (DA DB : Nat) (R : Option (XV Int32) → List (XC Int32) → Option (XV Int32) → List (XC Int32) → Prop) (pA pB : Nat) (LA LB : List (Nat × XV Int32)) (HA HB : List (XC Int32)) : Prop := ∃ vA H1 vB H2, x_To x_tb x_tyl ot (DA + 1) 137 pA LA [] HA 0 0 vA H1 ∧ x_To x_tb x_tyl ot (DB + 1) 249 pB LB [] HB 1 8 vB H2 ∧ R vA H1 vB H2
end XP31b
