/-! Cover: isShown beside isShown; rows that no family speaks of. -/
noncomputable section XP31a
variable {ty : Nat → Option Nat} {ρ : Nat → Int} {σ : Nat → Nat} {H : List (XC Int32)}
def fNoK (c : Nat) (s : vSt) : Bool := (sF s).all (fun f => match f.2.1 with
  | .inl _ => true
  | .inr _ => match (sG s)[f.1]? with
    | some c2 => decide (c2 ≠ c)
    | none => false)
theorem vFit_top {x : Int32} : vFit ty (.inl (-2147483648, 2147483647)) (.inl x) := vTop_spec x
/-- an element of a row of ints is written, of which the note says nothing -/
theorem vRel_rw {s : vSt} (h : vRel x_KT ρ σ ty H s) {a c t k m : Nat} {vs : List (XV Int32)} {x : Int32} (ha : ty a = some c) (hk : x_KT.1[c]? = some (.inr (t, m, [.inl (-2147483648, 2147483647)]))) (hH : H[a]? = some (.inr (t, vs))) (h1 : c ≠ x_KT.2.1.2.2.2.1) (h2 : c ≠ x_KT.2.1.2.2.2.2) (hF : fNoK c s = true) : vRel x_KT ρ σ ty (H.set a (.inr (t, vs.set k (.inl x)))) s := by
  obtain ⟨hp, hs, hf, hi, hc, hm, ⟨hn, hg⟩, hr⟩ := h
  have hlt := (List.getElem?_eq_some_iff.mp hH).1
  refine ⟨fun b d hb => ?_, hs, fun f hf' => ?_, hi, hc, hm, ⟨vNN_arr hn ha hH (fun e => absurd e h1), vGp_arr hg ha hlt (fun e => absurd e h2)⟩, hr⟩
  · obtain ⟨kd, z, q1, q2, q3⟩ := hp b d hb
    by_cases e : b = a
    · subst e
      rw [ha] at hb
      cases hb
      have q1 : x_KT.1[c]? = some kd := q1
      rw [hk] at q1
      cases q1
      rw [hH] at q2
      cases q2
      refine ⟨_, _, hk, List.getElem?_set_self hlt, q3.1, by rw [List.length_set]; exact q3.2.1, fun j fl u j1 j2 => ?_⟩
      by_cases ej : j = k
      · subst ej
        by_cases hj : j < vs.length
        · rw [List.getElem?_set_self hj] at j2
          cases j2
          have j1 : ([.inl (-2147483648, 2147483647)] : List vF)[j % 1]? = some fl := j1
          rw [Nat.mod_one] at j1
          cases j1
          exact vFit_top
        · rw [List.getElem?_eq_none (by rw [List.length_set]; omega)] at j2
          cases j2
      · rw [List.getElem?_set_ne (fun z => ej z.symm)] at j2
        exact q3.2.2 j fl u j1 j2
    · exact ⟨kd, z, q1, by rw [List.getElem?_set_ne (fun z => e z.symm)]; exact q2, q3⟩
  · rcases hf f hf' with hpl | hnt
    · have hk2 := List.all_eq_true.mp hF f hf'
      refine Or.inl ?_
      obtain ⟨i, j | e, v⟩ := f
      · obtain ⟨ci, fs, y1, y2⟩ := hpl
        have y1 : H[sR σ i]? = some (.inl (ci, fs)) := y1
        refine ⟨ci, fs, ?_, y2⟩
        show (H.set a _)[sR σ i]? = _
        rw [List.getElem?_set_ne (fun z => by
          rw [← z, hH] at y1
          cases y1)]
        exact y1
      · obtain ⟨t2, vs2, y1, y0, y2⟩ := hpl
        have y1 : H[sR σ i]? = some (.inr (t2, vs2)) := y1
        refine ⟨t2, vs2, ?_, y0, y2⟩
        show (H.set a _)[sR σ i]? = _
        rw [List.getElem?_set_ne (fun z => by
          dsimp only at hk2
          rcases hc2 : (sG s)[i]? with _ | c2
          · rw [hc2] at hk2
            cases hk2
          · rw [hc2] at hk2
            have hk2 := of_decide_eq_true hk2
            have := hs i c2 hc2
            rw [← z, ha] at this
            injection this with this
            exact hk2 this.symm)]
        exact y1
    · exact Or.inr hnt
/-- both between calls of isShown -/
def RL (c : pC) : Prop := vRel x_KT (cR c) (cSA c) (cTA c) (cHA c) (aSt (wNA shw_x0)) ∧ vRel x_KT (cR c) (cSB c) (cTB c) (cHB c) (aSt (wNB shw_x0)) ∧ wHs lwFR lwGA.length lwGB.length lwU0 c
def hA_ (c : pC) (H : List (XC Int32)) : pC := (cR c, cSA c, cSB c, cTA c, cTB c, H, cHB c)
def hB_ (c : pC) (H : List (XC Int32)) : pC := (cR c, cSA c, cSB c, cTA c, cTB c, cHA c, H)
theorem RL_bA {c : pC} (h : RL c) : ∀ (i d : Nat), lwGA[i]? = some d → cTA c (sR (cSA c) i) = some d := h.1.2.1
theorem RL_bB {c : pC} (h : RL c) : ∀ (i d : Nat), lwGB[i]? = some d → cTB c (sR (cSB c) i) = some d := h.2.1.2.1
theorem us_lt : lwU0.all (fun i => decide (i < 33)) = true := by decide +kernel
theorem fk11 : (List.range 33).all (fun i => decide (i = 30) || (match lwFR[i]? with
  | some u => wFk [(11, 0)] [] lwGA u
  | none => true)) = true := by decide +kernel
theorem fk115 : (List.range 33).all (fun i => match lwFR[i]? with
  | some u => wFk [] [(115, 0)] lwGA u
  | none => true) = true := by decide +kernel
theorem fk0 : (List.range 33).all (fun i => match lwFR[i]? with
  | some u => wFk [] [] lwGA u
  | none => true) = true := by decide +kernel
theorem noA : fNoK 11 (aSt (wNA shw_x0)) = true := by decide +kernel
theorem noB : fNoK 115 (aSt (wNB shw_x0)) = true := by decide +kernel
theorem frm_rw {W : List (Nat × Nat)} {a c t k : Nat} {vs : List (XV Int32)} {x : XV Int32} (ha : ty a = some c) (hH : H[a]? = some (.inr (t, vs))) (hW : wIn W c 0 = true) : vFrm W ty H (H.set a (.inr (t, vs.set k x))) := vFrm_set (vFrm_rf W ty H) (vLe_rf ty) ha hH ⟨rfl, fun z => by rw [hW] at z; cases z⟩
theorem ts_ok : lwFR[30]? = some lwF30 ∧ wPi lwF30 = [(1, 3)] ∧ wBd lwF30 = [(0, 7)] ∧ (wAl lwF30).all (fun x => @decide (aF x.1 = ([(26, .inr (lSc 2 (lSy 1)), .inl (lSy 2))] : List vK)) (dL dvK _ _)) = true := ⟨rfl, by decide +kernel, by decide +kernel, by decide +kernel⟩
/-- what a test shows is written -/
theorem RL_A {c : pC} (h : RL c) {k : Nat} {vs : List (XV Int32)} {x : Int32} (hH : (cHA c)[sR (cSA c) 26]? = some (.inr (0, vs))) (hk : k % 2 = 1) : RL (hA_ c ((cHA c).set (sR (cSA c) 26) (.inr (0, vs.set k (.inl x))))) := by
  have tA := RL_bA h 26 11 rfl
  refine ⟨vRel_rw h.1 tA (m := 16) (by rfl) hH (by decide +kernel) (by decide +kernel) noA, h.2.1, fun i hi u hu => ?_⟩
  have hw := h.2.2 i hi u hu
  have hi33 := of_decide_eq_true (List.all_eq_true.mp us_lt i hi)
  have hf := List.all_eq_true.mp fk11 i (List.mem_range.mpr hi33)
  by_cases e : i = 30
  · subst e
    rw [ts_ok.1] at hu
    cases hu
    intro ρ1 h1 h2 h3
    have h1' : wPn (wPi lwF30) ρ1 (cSA c) (cHA c) := fun j p hp => by
      obtain ⟨b1, ci, fs, b2, b3⟩ := h1 j p hp
      refine ⟨b1, ci, fs, ?_, b3⟩
      have b2 : ((cHA c).set (sR (cSA c) 26) (.inr (0, vs.set k (.inl x))))[sR (cSA c) p.1]? = some (.inl (ci, fs)) := b2
      by_cases z : sR (cSA c) 26 = sR (cSA c) p.1
      · rw [← z, List.getElem?_set_self (List.getElem?_eq_some_iff.mp hH).1] at b2
        cases b2
      · rw [List.getElem?_set_ne z] at b2
        exact b2
    obtain ⟨y, hy, ρ2, σA2, σB2, a1, a2, a3, a4, a5, a6⟩ := hw ρ1 h1' h2 h3
    refine ⟨y, hy, ρ2, σA2, σB2, a1, a2, a3, fun f hf => ?_, a5, a6⟩
    have e : aF y.1 = ([(26, .inr (lSc 2 (lSy 1)), .inl (lSy 2))] : List vK) := @of_decide_eq_true _ (dL dvK _ _) (List.all_eq_true.mp ts_ok.2.2.2 y hy)
    have h4 := a4 f hf
    rw [e] at hf
    have hf := List.mem_singleton.mp hf
    subst hf
    have e26 : sR σA2 26 = sR (cSA c) 26 := by
      have := a2 26 (by decide +kernel)
      unfold sR at this ⊢
      rw [if_pos (by omega)] at this ⊢
      rw [if_pos (by omega)]
      exact this
    obtain ⟨t2, vs2, y1, y0, y2⟩ := vHolds_int h4
    have y1 : (cHA c)[sR σA2 26]? = some (.inr (t2, vs2)) := y1
    rw [e26, hH] at y1
    cases y1
    refine Or.inl ⟨0, vs.set k (.inl x), ?_, y0, ?_⟩
    · show ((cHA c).set (sR (cSA c) 26) (.inr (0, vs.set k (.inl x))))[sR σA2 26]? = _
      rw [e26]
      exact List.getElem?_set_self (List.getElem?_eq_some_iff.mp hH).1
    · rw [List.getElem?_set_ne (fun z => by
        have y0 : (0 : Int) ≤ lEv ρ2 (lSc 2 (lSy 1)) := y0
        have z : k = (lEv ρ2 (lSc 2 (lSy 1))).toNat := z
        rw [lSc_ev, lSy_ev] at y0 z
        omega)]
      exact y2
  · rcases Bool.or_eq_true_iff.mp hf with hf | hf
    · exact absurd (of_decide_eq_true hf) e
    · rw [hu] at hf
      exact wHd_frm (lwFRok u (List.mem_of_getElem? hu)) hf h.1.1 h.2.1.1 (RL_bA h) (RL_bB h) (frm_rw tA hH (by decide)) (vFrm_rf _ _ _) hw
/-- what a fault is shown by is written -/
theorem RL_B {c : pC} (h : RL c) {a k : Nat} {vs : List (XV Int32)} {x : Int32} (tB : cTB c a = some 115) (hH : (cHB c)[a]? = some (.inr (0, vs))) : RL (hB_ c ((cHB c).set a (.inr (0, vs.set k (.inl x))))) := by
  refine ⟨h.1, vRel_rw h.2.1 tB (m := 8) (by rfl) hH (by decide +kernel) (by decide +kernel) noB, fun i hi u hu => ?_⟩
  have hi33 := of_decide_eq_true (List.all_eq_true.mp us_lt i hi)
  have hf := List.all_eq_true.mp fk115 i (List.mem_range.mpr hi33)
  rw [hu] at hf
  exact wHd_frm (lwFRok u (List.mem_of_getElem? hu)) hf h.1.1 h.2.1.1 (RL_bA h) (RL_bB h) (vFrm_rf _ _ _) (frm_rw tB hH (by decide)) (h.2.2 i hi u hu)
def nB_ (c : pC) (z : XC Int32) : pC := (cR c, cSA c, cSB c, cTA c, vAdd (cTB c) (cHB c).length 115, cHA c, cHB c ++ [z])
theorem getApL {x : XC Int32} {i : Nat} (h : H[i]? = some x) {l : List (XC Int32)} : (H ++ l)[i]? = some x := by
  rw [List.getElem?_append_left (List.getElem?_eq_some_iff.mp h).1]
  exact h
theorem vHolds_ap {f : vK} (h : vHolds ρ σ H f) (l : List (XC Int32)) : vHolds ρ σ (H ++ l) f := by
  rcases h with h | h
  · refine Or.inl ?_
    obtain ⟨i, j | e, v⟩ := f
    · obtain ⟨ci, fs, y1, y2⟩ := h
      exact ⟨ci, fs, getApL y1, y2⟩
    · obtain ⟨t, vs, y1, y0, y2⟩ := h
      exact ⟨t, vs, getApL y1, y0, y2⟩
  · exact Or.inr h
/-- the reference's row is made -/
theorem RL_N {c : pC} (h : RL c) {vs : List (XV Int32)} (hl : vs.length = 8) (hv : ∀ (j : Nat) (u : XV Int32), vs[j]? = some u → ∃ x : Int32, u = .inl x) : RL (nB_ c (.inr (0, vs))) ∧ vLe (cTB c) (cTB (nB_ c (.inr (0, vs)))) ∧ vFrm [] (cTB c) (cHB c) (cHB (nB_ c (.inr (0, vs)))) := by
  obtain ⟨σ2, -, g, -, gl⟩ := vMke_rel h.2.1 (s := aSt (wNB shw_x0)) (by decide +kernel) (c := 115) (kd := .inr (0, 8, [.inl (-2147483648, 2147483647)])) (z := .inr (0, vs)) (by rfl) ⟨rfl, hl, fun j f u j1 j2 => by
    obtain ⟨x, rfl⟩ := hv j u j2
    have j1 : ([.inl (-2147483648, 2147483647)] : List vF)[j % 1]? = some f := j1
    rw [Nat.mod_one] at j1
    cases j1
    exact vFit_top⟩ (by decide +kernel) (by decide +kernel)
  have hfr : vFrm [] (cTB c) (cHB c) (cHB (nB_ c (.inr (0, vs)))) := vFrm_app (vFrm_rf _ _ _) _
  refine ⟨⟨h.1, ⟨g.1, fun i d hd => gl _ _ (h.2.1.2.1 i d hd), fun f hf => vHolds_ap (h.2.1.2.2.1 f hf) _, h.2.1.2.2.2.1, h.2.1.2.2.2.2.1, h.2.1.2.2.2.2.2.1, g.2.2.2.2.2.2.1, fun a d e h1 h2 => ?_⟩, fun i hi u hu => ?_⟩, gl, hfr⟩
  · obtain ⟨i, hi, -⟩ := g.2.2.2.2.2.2.2 a d e h1 h2
    have hi : i ∈ ([] : List Nat) := hi
    cases hi
  · have hi33 := of_decide_eq_true (List.all_eq_true.mp us_lt i hi)
    have hf := List.all_eq_true.mp fk0 i (List.mem_range.mpr hi33)
    rw [hu] at hf
    exact wHd_frm (lwFRok u (List.mem_of_getElem? hu)) hf h.1.1 h.2.1.1 (RL_bA h) (RL_bB h) (vFrm_rf _ _ _) hfr (h.2.2 i hi u hu)
theorem shI_len : shwI_.length = 7 := rfl
/-- isShown beside isShown -/
theorem isP {xs : Nat → Int32} {n0 : Nat} {sf : Option Nat} (hG : wGoes x_KT x_tb x_tyl (x_otS xs n0 sf) lwFR lwGA.length lwGB.length 7 28 44 shwWA shwWB 136 248 65 66 shw_in (shw_g0_ex.map (fun x => (false, x)))) {c : pC} (h : RL c) {t f dA dB : Nat} (hdA : 65 ≤ dA) (hdB : 66 ≤ dB) (ht : (t : Int) < cR c 3) (hf : (f : Int) < cR c 4) (lA : (cHA c).length ≤ 1000000) (lB : (cHB c).length ≤ 1000000) : ∃ (x : Nat) (d : pC), x ≤ 1 ∧ x_To x_tb x_tyl (x_otS xs n0 sf) dA 136 0 (x_en 0 [.inr (some (sR (cSA c) 0)), .inl (nI t), .inl (nI f)]) [] (cHA c) 0 0 (some (.inl (nI x))) (cHA d) ∧ x_To x_tb x_tyl (x_otS xs n0 sf) dB 248 0 (x_en 0 [.inr (some (sR (cSB c) 0)), .inl (nI t), .inl (nI f)]) [] (cHB c) 0 0 (some (.inl (nI x))) (cHB d) ∧ RL d ∧ wFar 7 28 44 shwWA shwWB c d ∧ (cHA d).length ≤ (cHA c).length ∧ (cHB d).length ≤ (cHB c).length := by
  obtain ⟨h1, h2, h3⟩ := h
  let ρ' : Nat → Int := fun i => if i = 7 then (t : Int) else if i = 8 then (f : Int) else cR c i
  have e7 : ρ' 7 = t := rfl
  have e8 : ρ' 8 = f := rfl
  have eo : ∀ i, i < 7 → ρ' i = cR c i := fun i hi => by
    show (if i = 7 then (t : Int) else if i = 8 then (f : Int) else cR c i) = cR c i
    rw [if_neg (by omega), if_neg (by omega)]
  have b3 : (0 : Int) ≤ cR c 3 ∧ cR c 3 ≤ 8 := by
    have := zipI_spec.mp h1.2.2.2.1 3 (0, 8) rfl
    simpa using this
  have b4 : (0 : Int) ≤ cR c 4 ∧ cR c 4 ≤ 8 := by
    have := zipI_spec.mp h1.2.2.2.1 4 (0, 8) rfl
    simpa using this
  have hI : ∀ (I : lI), iHd ρ' (zipI 0 shwI_) → iHd ρ' (zipI 0 (List.append shwI_ [((0), (7)), ((0), (7))])) := fun _ g => zipI_spec.mpr (fun j p hp => by
    have hp : (shwI_ ++ [((0 : Int), (7 : Int)), ((0), (7))])[j]? = some p := hp
    rcases Nat.lt_or_ge j 7 with z | z
    · rw [List.getElem?_append_left z] at hp
      exact zipI_spec.mp g j p hp
    · rw [List.getElem?_append_right z] at hp
      obtain ⟨k, rfl⟩ : ∃ k, j = 7 + k := ⟨j - 7, by omega⟩
      rw [show 7 + k - shwI_.length = k by rw [shI_len]; omega] at hp
      rcases k with _ | _ | k
      · cases hp
        show (0 : Int) ≤ ρ' (0 + (7 + 0)) ∧ ρ' (0 + (7 + 0)) ≤ 7
        rw [show 0 + (7 + 0) = 7 from rfl, e7]
        omega
      · cases hp
        show (0 : Int) ≤ ρ' (0 + (7 + (0 + 1))) ∧ ρ' (0 + (7 + (0 + 1))) ≤ 7
        rw [show 0 + (7 + (0 + 1)) = 8 from rfl, e8]
        omega
      · cases hp)
  have gA := vRel_ext (ρ2 := ρ') (σ2 := cSA c) h1 (by decide +kernel) (fun i hi => eo i hi) (fun _ _ => rfl)
  have gB := vRel_ext (ρ2 := ρ') (σ2 := cSB c) h2 (by decide +kernel) (fun i hi => eo i hi) (fun _ _ => rfl)
  let c' : pC := (ρ', cSA c, cSB c, cTA c, cTB c, cHA c, cHB c)
  have hat : wAt x_KT lwFR lwGA.length lwGB.length (mMc xm136) (mMc xm248) (cHA c).length (cHB c).length shw_in c' (x_en 0 [.inr (some (sR (cSA c) 0)), .inl (nI t), .inl (nI f)]) (x_en 0 [.inr (some (sR (cSB c) 0)), .inl (nI t), .inl (nI f)]) 0 0 0 0 := by
    refine ⟨⟨gA.1, gA.2.1, gA.2.2.1, hI [] gA.2.2.2.1, fun y hy => ?_, gA.2.2.2.2.2⟩, ⟨gB.1, gB.2.1, gB.2.2.1, hI [] gB.2.2.2.1, fun y hy => absurd (show y ∈ ([] : List lT) from hy) List.not_mem_nil, gB.2.2.2.2.2⟩, ⟨⟨Nat.le_refl _, lA⟩, ?_, ?_, ?_⟩, ⟨⟨Nat.le_refl _, lB⟩, ?_, ?_, ?_⟩, h3⟩
    · have hy : y ∈ ([(lAdd (lSc (-1) (lSy 1)) (lAdd (lSy 0) (lK (-7)))), (lAdd (lSc (-1) (lSy 2)) (lSy 1)), (lAdd (lSc (-1) (lSy 7)) (lAdd (lSy 3) (lK (-1)))), (lAdd (lSc (-1) (lSy 8)) (lAdd (lSy 4) (lK (-1))))] : List lT) := hy
      simp only [List.mem_cons, List.not_mem_nil, or_false] at hy
      rcases hy with rfl | rfl | rfl | rfl
      · exact gA.2.2.2.2.1 _ (by decide +kernel)
      · exact gA.2.2.2.2.1 _ (by decide +kernel)
      · show (0 : Int) ≤ lEv ρ' _
        rw [lAdd_ev, lSc_ev, lSy_ev, lAdd_ev, lSy_ev, lK_ev, e7, eo 3 (by omega)]
        omega
      · show (0 : Int) ≤ lEv ρ' _
        rw [lAdd_ev, lSc_ev, lSy_ev, lAdd_ev, lSy_ev, lK_ev, e8, eo 4 (by omega)]
        omega
    · intro j v hv
      have hv : x_lk [(0, .inr (some 0)), (1, .inl (lSy 7)), (2, .inl (lSy 8))] j = some v := hv
      rcases j with _ | _ | _ | j
      · cases hv
        rfl
      · cases hv
        show (some (.inl (nI t)) : Option (XV Int32)) = some (.inl (Int32.ofInt (lEv ρ' (lSy 7))))
        rw [lSy_ev, e7, oI (k := t) rfl (by omega)]
      · cases hv
        show (some (.inl (nI f)) : Option (XV Int32)) = some (.inl (Int32.ofInt (lEv ρ' (lSy 8))))
        rw [lSy_ev, e8, oI (k := f) rfl (by omega)]
      · cases hv
    · exact Int.le_of_eq (lK_ev _ _).symm
    · exact Int.le_of_eq (lK_ev _ _).symm
    · intro j v hv
      have hv : x_lk [(0, .inr (some 0)), (1, .inl (lSy 7)), (2, .inl (lSy 8))] j = some v := hv
      rcases j with _ | _ | _ | j
      · cases hv
        rfl
      · cases hv
        show (some (.inl (nI t)) : Option (XV Int32)) = some (.inl (Int32.ofInt (lEv ρ' (lSy 7))))
        rw [lSy_ev, e7, oI (k := t) rfl (by omega)]
      · cases hv
        show (some (.inl (nI f)) : Option (XV Int32)) = some (.inl (Int32.ofInt (lEv ρ' (lSy 8))))
        rw [lSy_ev, e8, oI (k := f) rfl (by omega)]
      · cases hv
    · exact Int.le_of_eq (lK_ev _ _).symm
    · exact Int.le_of_eq (lK_ev _ _).symm
  have gg := hG xm136 xm248 dA dB (cHA c).length (cHB c).length g_q136 g_q248 hdA hdB (show (cHA c).length + 0 ≤ 1000000 from lA) (show (cHB c).length + 0 ≤ 1000000 from lB) c' _ _ 0 0 0 0 hat
    (fun vA H1 vB H2 => ∃ (x : Nat) (d : pC), x ≤ 1 ∧ vA = some (.inl (nI x)) ∧ vB = some (.inl (nI x)) ∧ H1 = cHA d ∧ H2 = cHB d ∧ RL d ∧ wFar 7 28 44 shwWA shwWB c' d ∧ (cHA d).length ≤ (cHA c).length ∧ (cHB d).length ≤ (cHB c).length) (fun o ho d LA2 LB2 c1 c2 d1 d2 w1 w2 _ => by
      obtain ⟨y, hy, rfl⟩ := List.mem_map.mp ho
      have hy : y ∈ ([shw_x0, shw_x1] : List wE) := hy
      simp only [List.mem_cons, List.not_mem_nil, or_false] at hy
      rcases hy with rfl | rfl
      · refine ⟨some (.inl (nI 0)), cHA d, some (.inl (nI 0)), cHB d, ⟨?_, rfl⟩, ⟨?_, rfl⟩, 0, d, by omega, rfl, rfl, rfl, rfl, ⟨w1.1, w1.2.1, w1.2.2.2.2⟩, w2, w1.2.2.1, w1.2.2.2.1⟩
        · show ([.inl (nI 0)] : List (XV Int32)) = [.inl (Int32.ofInt (lEv (cR d) (lK 0)))]
          rw [lK_ev]
          rfl
        · show ([.inl (nI 0)] : List (XV Int32)) = [.inl (Int32.ofInt (lEv (cR d) (lK 0)))]
          rw [lK_ev]
          rfl
      · refine ⟨some (.inl (nI 1)), cHA d, some (.inl (nI 1)), cHB d, ⟨?_, rfl⟩, ⟨?_, rfl⟩, 1, d, by omega, rfl, rfl, rfl, rfl, ⟨w1.1, w1.2.1, w1.2.2.2.2⟩, w2, w1.2.2.1, w1.2.2.2.1⟩
        · show ([.inl (nI 1)] : List (XV Int32)) = [.inl (Int32.ofInt (lEv (cR d) (lK 1)))]
          rw [lK_ev]
          rfl
        · show ([.inl (nI 1)] : List (XV Int32)) = [.inl (Int32.ofInt (lEv (cR d) (lK 1)))]
          rw [lK_ev]
          rfl)
  obtain ⟨vA, H1, vB, H2, z1, z2, x, d, q1, rfl, rfl, rfl, rfl, q2, q3, q4, q5⟩ := gg
  exact ⟨x, d, q1, z1, z2, q2, ⟨fun i hi => (q3.1 i hi).trans (eo i hi), q3.2⟩, q4, q5⟩
end XP31a
