/-! Pairs of runs: edges that the checker goes, families over them. -/
noncomputable section XEdge
/-- not below 0, by what is known, or by k times one of what is known -/
def lG3 (I : lI) (C : List lT) (e : lT) : Bool := lGe I C e || C.any (fun c => match c.2 with
  | [] => false
  | p :: _ => decide (0 ≤ lCoef e.2 p.1 / p.2) && lGe I C (lSub e (lSc (lCoef e.2 p.1 / p.2) c)))
theorem lG3_spec {ρ : Nat → Int} {I : lI} (hI : iHd ρ I) {C : List lT} (hC : ∀ c ∈ C, 0 ≤ lEv ρ c) {e : lT} (h : lG3 I C e = true) : 0 ≤ lEv ρ e := by
  unfold lG3 at h
  rcases Bool.or_eq_true_iff.mp h with h | h
  · exact lGe_spec hI hC h
  · obtain ⟨c, hc, h⟩ := List.any_eq_true.mp h
    have h0 := hC c hc
    rcases hp : c.2 with _ | ⟨p, r⟩
    · rw [hp] at h
      cases h
    · rw [hp] at h
      obtain ⟨h1, h2⟩ := Bool.and_eq_true_iff.mp h
      have h2 := lGe_spec hI hC h2
      have h1 := of_decide_eq_true h1
      rw [lSub_ev, lSc_ev] at h2
      have := Int.mul_nonneg h1 h0
      omega
noncomputable def wMt (n0 mA mB : Nat) (rk : lT) (o : Bool × wE) (xA : Option Nat) (L : List (Nat × vA)) (S : List vA) (s1 : vSt) (cn sn : lT) (xB : Option Nat) (L2 : List (Nat × vA)) (S2 : List vA) (s2 : vSt) (cn2 sn2 : lT) : Bool :=
  decide (wQA o.2 = xA) && decide (wQB o.2 = xB) && (match rcs L S s1 (aRc (wNA o.2)) ((List.range n0).map lSy) (List.range mA) with
    | none => false
    | some p => match rcs L2 S2 s2 (aRc (wNB o.2)) p.1 (List.range mB) with
      | none => false
      | some q => vMcQ (wNA o.2) q.1 p.2 L S (sJn s1 s2) && vMcQ (wNB o.2) q.1 q.2 L2 S2 s2 && eCk xA s2 q.1 (wNA o.2) cn sn && eCk xB s2 q.1 (wNB o.2) cn2 sn2 && (!o.1 || (lGe (sI s2) (sC s2) (lSb q.1 (aRk (wNA o.2))) && lG3 (sI s2) (sC s2) (lSub (lSub rk (lSb q.1 (aRk (wNA o.2)))) (lK 1)))))
theorem wMt_spec {KT : vKT} {ρ : Nat → Int} {σA σB : Nat → Nat} {tyA tyB : Nat → Option Nat} {HA HB : List (XC Int32)} {n0 mA mB : Nat} {rk : lT} {o : Bool × wE} {xA : Option Nat} {L : List (Nat × vA)} {S : List vA} {s1 : vSt} {cn sn : lT} {xB : Option Nat} {L2 : List (Nat × vA)} {S2 : List vA} {s2 : vSt} {cn2 sn2 : lT} {mcA mcB BA BB : Nat} {La Lb : List (Nat × XV Int32)} {ca sa cb sb : Nat}
    (hk : wMt n0 mA mB rk o xA L S s1 cn sn xB L2 S2 s2 cn2 sn2 = true) (hA : vRel KT ρ σA tyA HA (sJn s1 s2)) (hB : vRel KT ρ σB tyB HB s2) (eA : eCov ρ σA xA BA mcA L cn sn HA La ca sa) (eB : eCov ρ σB xB BB mcB L2 cn2 sn2 HB Lb cb sb) (hmA : mA ≤ 1000000) (hmB : mB ≤ 1000000) :
    ∃ d : pC, cTA d = tyA ∧ cTB d = tyB ∧ cHA d = HA ∧ cHB d = HB ∧ (∀ i, i < n0 → cR d i = ρ i) ∧ (∀ i, i < mA → cSA d i = σA i) ∧ (∀ i, i < mB → cSB d i = σB i) ∧ wQA o.2 = xA ∧ wQB o.2 = xB ∧ vRel KT (cR d) (cSA d) tyA HA (aSt (wNA o.2)) ∧ vRel KT (cR d) (cSB d) tyB HB (aSt (wNB o.2)) ∧ eCov (cR d) (cSA d) xA BA mcA (aL (wNA o.2)) (aCn (wNA o.2)) (aSn (wNA o.2)) HA La ca sa ∧ eCov (cR d) (cSB d) xB BB mcB (aL (wNB o.2)) (aCn (wNB o.2)) (aSn (wNB o.2)) HB Lb cb sb ∧ S.map (cv ρ σA) = (aS (wNA o.2)).map (cv (cR d) (cSA d)) ∧ S2.map (cv ρ σB) = (aS (wNB o.2)).map (cv (cR d) (cSB d)) ∧ (o.1 = true → 0 ≤ lEv (cR d) (aRk (wNA o.2)) ∧ lEv (cR d) (aRk (wNA o.2)) < lEv ρ rk) := by
  unfold wMt at hk
  simp only [Bool.and_eq_true] at hk
  obtain ⟨⟨k1, k2⟩, k3⟩ := hk
  have k1 := of_decide_eq_true k1
  have k2 := of_decide_eq_true k2
  split at k3
  · cases k3
  rename_i p hp
  split at k3
  · cases k3
  rename_i q hq
  simp only [Bool.and_eq_true] at k3
  obtain ⟨⟨⟨⟨w7, w8⟩, w9⟩, w10⟩, w11⟩ := k3
  obtain ⟨m1, m2, m3, m4, m5, -⟩ := vMcQ_spec hA w7
  obtain ⟨r1, r2, r3, r4, r5, -⟩ := vMcQ_spec hB w8
  obtain ⟨⟨t1, ht1⟩, ⟨t2, ht2⟩⟩ := rcs_pre hp
  obtain ⟨⟨t3, ht3⟩, ⟨t4, ht4⟩⟩ := rcs_pre hq
  have so : ∀ {m : Nat} {σ : Nat → Nat} {τ t : List Nat}, m ≤ 1000000 → τ = List.range m ++ t → ∀ i, i < m → sO σ τ i = σ i := fun {m σ τ t} hm hτ i hi => by
    unfold sO
    rw [hτ, List.getD_eq_getElem?_getD, List.getElem?_append_left (by rw [List.length_range]; exact hi), List.getElem?_range hi]
    show (if i < 1000000 then σ i else i) = σ i
    rw [if_pos (by omega)]
  refine ⟨(rO ρ q.1, sO σA p.2, sO σB q.2, tyA, tyB, HA, HB), rfl, rfl, rfl, rfl, fun i hi => ?_, so hmA ht2, so hmB ht4, k1, k2, m1, r1, ?_, ?_, m3, r3, fun hfl => ?_⟩
  · show rO ρ q.1 i = ρ i
    unfold rO
    rw [ht3, ht1, List.append_assoc, List.getD_eq_getElem?_getD, List.getElem?_append_left (by rw [List.length_map, List.length_range]; exact hi), List.getElem?_map, List.getElem?_range hi]
    exact lSy_ev ρ i
  · rcases xA with _ | pe
    · exact eA
    · obtain ⟨x5, x6, x7, x8⟩ := eA
      have w9 := Bool.and_eq_true_iff.mp w9
      have u1 := lGe_spec hB.2.2.2.1 hB.2.2.2.2.1 w9.1
      have u2 := lGe_spec hB.2.2.2.1 hB.2.2.2.2.1 w9.2
      rw [lSub_ev, lSb_ev] at u1 u2
      refine ⟨x5, m2 _ x6, ?_, ?_⟩
      · show (ca : Int) ≤ lEv (rO ρ q.1) (aCn (wNA o.2))
        omega
      · show (sa : Int) ≤ lEv (rO ρ q.1) (aSn (wNA o.2))
        omega
  · rcases xB with _ | pe
    · exact eB
    · obtain ⟨x5, x6, x7, x8⟩ := eB
      have w10 := Bool.and_eq_true_iff.mp w10
      have u1 := lGe_spec hB.2.2.2.1 hB.2.2.2.2.1 w10.1
      have u2 := lGe_spec hB.2.2.2.1 hB.2.2.2.2.1 w10.2
      rw [lSub_ev, lSb_ev] at u1 u2
      refine ⟨x5, r2 _ x6, ?_, ?_⟩
      · show (cb : Int) ≤ lEv (rO ρ q.1) (aCn (wNB o.2))
        omega
      · show (sb : Int) ≤ lEv (rO ρ q.1) (aSn (wNB o.2))
        omega
  · rw [hfl] at w11
    simp only [Bool.not_true, Bool.false_or, Bool.and_eq_true] at w11
    have u1 := lGe_spec hB.2.2.2.1 hB.2.2.2.2.1 w11.1
    have u2 := lG3_spec hB.2.2.2.1 hB.2.2.2.2.1 w11.2
    rw [lSb_ev] at u1
    rw [lSub_ev, lSub_ev, lSb_ev, lK_ev] at u2
    refine ⟨u1, ?_⟩
    show lEv (rO ρ q.1) (aRk (wNA o.2)) < lEv ρ rk
    omega
/-- a family over what isn't written -/
def wFk (WA WB : List (Nat × Nat)) (GA0 : List Nat) (u : wN) : Bool := (wPi u).all (fun p => match GA0[p.1]? with
  | some c => !(wIn WA c (p.2 + 1))
  | none => false) && (wAl u).all (fun x => uFk WA x.1 && uFk WB x.2)
theorem sR_at {m : Nat} {σ σ' : Nat → Nat} (hm : m ≤ 1000000) (h : ∀ i, i < m → σ' i = sR σ i) {i : Nat} (hi : i < m) : sR σ' i = sR σ i := by
  have e := h i hi
  unfold sR at e ⊢
  rw [if_pos (by omega)] at e ⊢
  rw [if_pos (by omega)]
  exact e
theorem wOk_a {KT : vKT} {GA0 GB0 : List Nat} {u : wN} (h : wOk KT GA0 GB0 u = true) : (∀ p ∈ wPi u, p.1 < GA0.length) ∧ GA0.length < 1000000 ∧ GB0.length < 1000000 ∧ ∀ x ∈ wAl u, uTy KT GA0.length x.1 = true ∧ uTy KT GB0.length x.2 = true ∧ (aG x.1).take GA0.length = GA0 ∧ (aG x.2).take GB0.length = GB0 ∧ aM x.1 = [] ∧ wNp u ≤ (aI x.1).length := by
  unfold wOk at h
  simp only [Bool.and_eq_true] at h
  obtain ⟨⟨⟨o1, o2⟩, o3⟩, o4⟩ := h
  refine ⟨fun p hp => of_decide_eq_true (List.all_eq_true.mp o1 p hp), of_decide_eq_true o2, of_decide_eq_true o3, fun x hx => ?_⟩
  have o5 := List.all_eq_true.mp o4 x hx
  simp only [Bool.and_eq_true] at o5
  obtain ⟨⟨⟨⟨⟨t1, t2⟩, t3⟩, t4⟩, t5⟩, t6⟩ := o5
  exact ⟨t1, t2, of_decide_eq_true t3, of_decide_eq_true t4, of_decide_eq_true t5, of_decide_eq_true t6⟩
/-- the cells of a family's notes are of their kinds -/
theorem wSy {KT : vKT} {G0 : List Nat} {A : vAn} (hT : uTy KT G0.length A = true) (hG : (aG A).take G0.length = G0) (hl : G0.length ≤ 1000000) {ρ : Nat → Int} {σ σ2 : Nat → Nat} {ty : Nat → Option Nat} {H : List (XC Int32)} (hp : vHp (fun c => KT.1[c]?) ty H) (hb : ∀ (i c : Nat), G0[i]? = some c → ty (sR σ i) = some c) (hs : ∀ i, i < G0.length → σ2 i = sR σ i) (hF : ∀ f ∈ aF A, vHolds ρ σ2 H f) : vSym ty σ2 (aG A) := fun i c hc => uTy_spec hT hp hF (fun i c hi hc => by
  rw [sR_at hl hs hi]
  refine hb i c ?_
  rw [← hG, List.getElem?_take, if_pos hi]
  exact hc) (i + 1) i c (Nat.lt_succ_self i) hc
theorem wHd_frm {KT : vKT} {GA0 GB0 : List Nat} {u : wN} (hok : wOk KT GA0 GB0 u = true) {WA WB : List (Nat × Nat)} (hk : wFk WA WB GA0 u = true) {σA σB : Nat → Nat} {tyA tyB : Nat → Option Nat} {HA HB HA2 HB2 : List (XC Int32)} (pA : vHp (fun c => KT.1[c]?) tyA HA) (pB : vHp (fun c => KT.1[c]?) tyB HB) (bA : ∀ (i c : Nat), GA0[i]? = some c → tyA (sR σA i) = some c) (bB : ∀ (i c : Nat), GB0[i]? = some c → tyB (sR σB i) = some c) (fA : vFrm WA tyA HA HA2) (fB : vFrm WB tyB HB HB2) (h : wHd GA0.length GB0.length u σA σB HA HB) : wHd GA0.length GB0.length u σA σB HA2 HB2 := by
  obtain ⟨o1, o2, o3, o4⟩ := wOk_a hok
  obtain ⟨k1, k2⟩ := Bool.and_eq_true_iff.mp hk
  intro ρ1 h1 h2 h3
  obtain ⟨x, hx, ρ2, σA2, σB2, a1, a2, a3, a4, a5, a6⟩ := h ρ1 (fun i p hp => by
    obtain ⟨b1, ci, fs, b2, b3⟩ := h1 i p hp
    have hm := List.mem_of_getElem? hp
    have k3 := List.all_eq_true.mp k1 p hm
    split at k3
    rotate_left
    · cases k3
    rename_i c hc
    have hw : wIn WA c (p.2 + 1) = false := by simpa using k3
    obtain ⟨kd, z, -, z2, -⟩ := pA _ c (bA _ c hc)
    obtain ⟨y, y1, y2⟩ := fA _ c z (bA _ c hc) z2
    rw [b2] at y1
    cases y1
    rcases z with ⟨c2, gs⟩ | z
    · refine ⟨b1, c2, gs, z2, ?_⟩
      rw [← y2.2.2 p.2 hw]
      exact b3
    · exact y2.elim) h2 h3
  obtain ⟨t1, t2, t3, t4, t5, t6⟩ := o4 x hx
  have k4 := Bool.and_eq_true_iff.mp (List.all_eq_true.mp k2 x hx)
  exact ⟨x, hx, ρ2, σA2, σB2, a1, a2, a3, uFk_spec k4.1 (wSy t1 t3 (by omega) pA bA a2 a4) fA a4, uFk_spec k4.2 (wSy t2 t4 (by omega) pB bB a3 a5) fB a5, a6⟩
theorem vHolds_eq {ρ : Nat → Int} {σ : Nat → Nat} {H H2 : List (XC Int32)} {f : vK} (e : H2[sR σ f.1]? = H[sR σ f.1]?) (h : vHolds ρ σ H f) : vHolds ρ σ H2 f := by
  rcases h with h | h
  · refine Or.inl ?_
    obtain ⟨i, j | l, v⟩ := f
    · obtain ⟨ci, fs, y1, y2⟩ := h
      exact ⟨ci, fs, by rw [← y1]; exact e, y2⟩
    · obtain ⟨t, vs, y1, y0, y2⟩ := h
      exact ⟨t, vs, by rw [← y1]; exact e, y0, y2⟩
  · exact Or.inr h
/-- a family of other heaps that are alike where kinds are known -/
theorem wHd_typ {KT : vKT} {GA0 GB0 : List Nat} {u : wN} (hok : wOk KT GA0 GB0 u = true) (hF : (wAl u).all (fun x => (aF x.1).all (fun f => decide (f.1 < (aG x.1).length)) && (aF x.2).all (fun f => decide (f.1 < (aG x.2).length))) = true) {σA σB : Nat → Nat} {tyA tyB : Nat → Option Nat} {HA HB HA2 HB2 : List (XC Int32)} (pA : vHp (fun c => KT.1[c]?) tyA HA) (pB : vHp (fun c => KT.1[c]?) tyB HB) (bA : ∀ (i c : Nat), GA0[i]? = some c → tyA (sR σA i) = some c) (bB : ∀ (i c : Nat), GB0[i]? = some c → tyB (sR σB i) = some c) (eA : ∀ a c, tyA a = some c → HA2[a]? = HA[a]?) (eB : ∀ a c, tyB a = some c → HB2[a]? = HB[a]?) (h : wHd GA0.length GB0.length u σA σB HA HB) : wHd GA0.length GB0.length u σA σB HA2 HB2 := by
  obtain ⟨o1, o2, o3, o4⟩ := wOk_a hok
  intro ρ1 h1 h2 h3
  obtain ⟨x, hx, ρ2, σA2, σB2, a1, a2, a3, a4, a5, a6⟩ := h ρ1 (fun i p hp => by
    obtain ⟨b1, ci, fs, b2, b3⟩ := h1 i p hp
    have hl := o1 p (List.mem_of_getElem? hp)
    refine ⟨b1, ci, fs, ?_, b3⟩
    rw [← eA _ _ (bA p.1 _ (List.getElem?_eq_getElem hl))]
    exact b2) h2 h3
  obtain ⟨t1, t2, t3, t4, t5, t6⟩ := o4 x hx
  have q := Bool.and_eq_true_iff.mp (List.all_eq_true.mp hF x hx)
  have sA := wSy t1 t3 (by omega) pA bA a2 a4
  have sB := wSy t2 t4 (by omega) pB bB a3 a5
  exact ⟨x, hx, ρ2, σA2, σB2, a1, a2, a3, fun f hf => vHolds_eq (eA _ _ (sA f.1 _ (List.getElem?_eq_getElem (of_decide_eq_true (List.all_eq_true.mp q.1 f hf))))) (a4 f hf), fun f hf => vHolds_eq (eB _ _ (sB f.1 _ (List.getElem?_eq_getElem (of_decide_eq_true (List.all_eq_true.mp q.2 f hf))))) (a5 f hf), a6⟩
/-- more ints that are told -/
def wMo (s : vSt) (bd : List (Int × Int)) : vSt := (sN s + bd.length, sG s, sF s, zipI (sN s) bd ++ sI s, sC s, sM s, sRw s)
theorem wMo_spec {KT : vKT} {ρ ρ2 : Nat → Int} {σ : Nat → Nat} {ty : Nat → Option Nat} {H : List (XC Int32)} {s : vSt} (h : vRel KT ρ σ ty H s) (hb : sBd s = true) {bd : List (Int × Int)} (h1 : ∀ i, i < sN s → ρ2 i = ρ i) (h2 : ∀ (j : Nat) (p : Int × Int), bd[j]? = some p → p.1 ≤ ρ2 (sN s + j) ∧ ρ2 (sN s + j) ≤ p.2) : vRel KT ρ2 σ ty H (wMo s bd) := by
  have g := vRel_ext h hb h1 (fun _ _ => rfl)
  refine ⟨g.1, g.2.1, g.2.2.1, fun q hq => ?_, g.2.2.2.2.1, g.2.2.2.2.2.1, g.2.2.2.2.2.2⟩
  rcases List.mem_append.mp hq with hq | hq
  · exact zipI_spec.mpr (fun i p hp => h2 i p hp) q hq
  · exact g.2.2.2.1 q hq
def wTold (n k : Nat) : List lT := (List.range k).map (fun j => lSy (n + j))
theorem wTold_at {ρ : Nat → Int} {n k j : Nat} (hj : j < k) : rO ρ (wTold n k) j = ρ (n + j) := by
  unfold rO wTold
  rw [List.getD_eq_getElem?_getD, List.getElem?_map, List.getElem?_range hj]
  exact lSy_ev ρ _
/-- what a family supposes can't be -/
def wVc (u : wN) (s : vSt) : Bool := sBd s && (wPr u).all (lBd (wNp u)) && (match wSm s (wPi u) with
  | none => false
  | some P => (uCo ((wPr u).map (lSb (P ++ wTold (sN s) (wBd u).length))) (wMo s (wBd u))).isNone || (wPr u).any (fun c => lGe (sI (wMo s (wBd u))) (sC s) (lSub (lK (-1)) (lSb (P ++ wTold (sN s) (wBd u).length) c))))
theorem wVc_spec {KT : vKT} {ρ : Nat → Int} {σ : Nat → Nat} {ty : Nat → Option Nat} {H : List (XC Int32)} {s : vSt} (h : vRel KT ρ σ ty H s) {u : wN} (hk : wVc u s = true) {gA gB : Nat} {σB : Nat → Nat} {HB : List (XC Int32)} : wHd gA gB u σ σB H HB := by
  intro ρ1 h1 h2 h3
  exfalso
  unfold wVc at hk
  simp only [Bool.and_eq_true] at hk
  obtain ⟨⟨k1, k2⟩, k3⟩ := hk
  split at k3
  · cases k3
  rename_i P hS
  let ρ2 : Nat → Int := fun i => if i < sN s then ρ i else ρ1 ((wPi u).length + (i - sN s))
  have e1 : ∀ i, i < sN s → ρ2 i = ρ i := fun i hi => if_pos hi
  have e2 : ∀ j, ρ2 (sN s + j) = ρ1 ((wPi u).length + j) := fun j => by
    show (if sN s + j < sN s then _ else ρ1 ((wPi u).length + (sN s + j - sN s))) = _
    rw [if_neg (by omega), Nat.add_sub_cancel_left]
  have g := wMo_spec h k1 (bd := wBd u) e1 (fun j p hp => by
    rw [e2]
    exact h2 j p hp)
  have g0 := vRel_ext h k1 e1 (fun _ _ => rfl)
  obtain ⟨w1, w2⟩ := wSm_spec g0 hS
  have w3 := wPn_one w2 h1
  have e3 : ∀ i, i < wNp u → rO ρ2 (P ++ wTold (sN s) (wBd u).length) i = ρ1 i := fun i hi => by
    by_cases c : i < P.length
    · rw [rO_l c]
      exact w3 i (by omega)
    · have hj : i - P.length < (wBd u).length := by
        have hi : i < (wPi u).length + (wBd u).length := hi
        omega
      have := rO_r (ρ := ρ2) (P := P) (θ := wTold (sN s) (wBd u).length) (j := i - P.length)
      rw [show P.length + (i - P.length) = i by omega] at this
      rw [this, wTold_at hj, e2]
      congr 1
      omega
  have h4 : ∀ c ∈ wPr u, 0 ≤ lEv ρ2 (lSb (P ++ wTold (sN s) (wBd u).length) c) := fun c hc => by
    rw [lSb_ev, lBd_spec e3 (List.all_eq_true.mp k2 c hc)]
    exact h3 c hc
  rcases Bool.or_eq_true_iff.mp k3 with k3 | k3
  · obtain ⟨s2, g1, -⟩ := uCo_spec (l := (wPr u).map (lSb (P ++ wTold (sN s) (wBd u).length))) g (fun x hx => by
      obtain ⟨c, hc, rfl⟩ := List.mem_map.mp hx
      exact h4 c hc)
    rw [g1] at k3
    cases k3
  · obtain ⟨c, hc, k3⟩ := List.any_eq_true.mp k3
    have q := lGe_spec g.2.2.2.1 g.2.2.2.2.1 k3
    rw [lSub_ev, lK_ev] at q
    have := h4 c hc
    omega
def wKp (FS : List wN) (GA0 : List Nat) (WA WB : List (Nat × Nat)) (us : List Nat) (o : wE) : Bool := (wUs o).all (fun i => match FS[i]? with
  | some u => (us.any (Nat.beq i) && wFk WA WB GA0 u) || wVc u (aSt (wNA o))
  | none => false)
/-- what is asked of a stand -/
def wSd (n0 mA mB : Nat) (GA0 GB0 : List Nat) (e : wE) : Bool := decide (n0 ≤ (aI (wNA e)).length) && decide (mA ≤ (aG (wNA e)).length) && decide (mB ≤ (aG (wNB e)).length) && decide ((aG (wNA e)).length ≤ 1000000) && decide ((aG (wNB e)).length ≤ 1000000) && decide (GA0.length ≤ mA) && decide (GB0.length ≤ mB) && decide ((aG (wNA e)).take GA0.length = GA0) && decide ((aG (wNB e)).take GB0.length = GB0) && lBd (aI (wNA e)).length (aRk (wNA e)) &&
  (aL (wNA e)).all (fun q => vBd (aI (wNA e)).length (aG (wNA e)).length q.2) && (aS (wNA e)).all (vBd (aI (wNA e)).length (aG (wNA e)).length) && lBd (aI (wNA e)).length (aCn (wNA e)) && lBd (aI (wNA e)).length (aSn (wNA e)) &&
  (aL (wNB e)).all (fun q => vBd (aI (wNA e)).length (aG (wNB e)).length q.2) && (aS (wNB e)).all (vBd (aI (wNA e)).length (aG (wNB e)).length) && lBd (aI (wNA e)).length (aCn (wNB e)) && lBd (aI (wNA e)).length (aSn (wNB e))
def wSel (FS : List wN) (us : List Nat) : List wN := us.filterMap (fun i => FS[i]?)
noncomputable def wEd (KT : vKT) (tb : XT) (tyl : List FieldType) (ov : vOt) (CT : Nat → List vCt) (hs : Nat → Nat → Option (List vHn)) (kn : Nat → Nat → Option Nat) (FS : List wN) (GA0 GB0 : List Nat) (n0 mA mB : Nat) (WA WB : List (Nat × Nat)) (f goA dpA kA goB dpB kB : Nat) (e : wE) (ops : List uOp) (outs : List (Bool × wE)) : Bool :=
  wSd n0 mA mB GA0 GB0 e && outs.all (fun o => wKp FS GA0 WA WB (wUs e) o.2) && (match wQA e, wQB e with
    | some pcA, some pcB => wGo GA0 GB0 (wSel FS (wUs e)) (fun _ s g => wPx KT tb tyl ov CT hs kn WA WB f goA dpA kA pcA goB dpB kB pcB (aL (wNA e)) (aS (wNA e)) (aCn (wNA e)) (aSn (wNA e)) (aL (wNB e)) (aS (wNB e)) (aCn (wNB e)) (aSn (wNB e)) (fun pc => outs.any (fun o => decide (wQA o.2 = some pc))) (fun pc => outs.any (fun o => decide (wQB o.2 = some pc)))
      (fun xA L S s1 cn sn xB L2 S2 s2 cn2 sn2 => outs.any (fun o => wMt n0 mA mB (aRk (wNA e)) o xA L S s1 cn sn xB L2 S2 s2 cn2 sn2)) s g) ops [] false (aSt (wNA e)) (aG (wNB e), aF (wNB e))
    | _, _ => false)
theorem wSel_mem {FS : List wN} {us : List Nat} {u : wN} (h : u ∈ wSel FS us) : ∃ i, i ∈ us ∧ FS[i]? = some u := by
  obtain ⟨i, hi, e⟩ := List.mem_filterMap.mp h
  exact ⟨i, hi, e⟩
theorem wEd_spec {KT : vKT} {tb : XT} {tyl : List FieldType} {ot : XO Int32} {ov : vOt} (hov : vOvLe ov (o4 ot)) {CT : Nat → List vCt} {hs : Nat → Nat → Option (List vHn)} {kn : Nat → Nat → Option Nat} (hCT : ∀ j c, c ∈ CT j → vCtSem KT tb tyl ot j c) {FS : List wN} {GA0 GB0 : List Nat} (hFS : ∀ u ∈ FS, wOk KT GA0 GB0 u = true) {n0 mA mB : Nat} {WA WB : List (Nat × Nat)} {f goA dpA kA goB dpB kB : Nat} {e : wE} {ops : List uOp} {outs : List (Bool × wE)}
    (hk : wEd KT tb tyl ov CT hs kn FS GA0 GB0 n0 mA mB WA WB f goA dpA kA goB dpB kB e ops outs = true) : wGoes KT tb tyl ot FS GA0.length GB0.length n0 mA mB WA WB kA kB dpA dpB e outs := by
  intro qA qB dA dB BA BB hqA hqB hdA hdB hBA hBB c LA LB a1 a2 b1 b2 hat R hout
  obtain ⟨h1, h2, h3, h4, h5⟩ := hat
  unfold wEd at hk
  simp only [Bool.and_eq_true] at hk
  obtain ⟨⟨k1, k2⟩, k3⟩ := hk
  unfold wSd at k1
  simp only [Bool.and_eq_true] at k1
  obtain ⟨⟨⟨⟨⟨⟨⟨⟨⟨⟨⟨⟨⟨⟨⟨⟨⟨e1, e2⟩, e3⟩, e4⟩, e5⟩, e6⟩, e7⟩, e8⟩, e9⟩, e10⟩, e11⟩, e12⟩, e13⟩, e14⟩, e15⟩, e16⟩, e17⟩, e18⟩ := k1
  have e1 := of_decide_eq_true e1
  have e2 := of_decide_eq_true e2
  have e3 := of_decide_eq_true e3
  have e4 := of_decide_eq_true e4
  have e5 := of_decide_eq_true e5
  have e6 := of_decide_eq_true e6
  have e7 := of_decide_eq_true e7
  have e8 := of_decide_eq_true e8
  have e9 := of_decide_eq_true e9
  have nrB : ∀ a d, cTB c a = some d → kRaw KT d = none := vRel_noraw h2 rfl
  split at k3
  rotate_left
  · cases k3
  rename_i pcA pcB hpA hpB
  rw [hpA] at h3
  rw [hpB] at h4
  have gA := take_at e8
  have gB := take_at e9
  obtain ⟨ρ2, σA2, σB2, s2, g2, sk2, x1, x2, x3, x4, x5, -, -, x8⟩ := wGo_spec (KT := KT) (GA0 := GA0) (GB0 := GB0) (US := wSel FS (wUs e)) (fun u hu => by
    obtain ⟨i, -, hi⟩ := wSel_mem hu
    exact hFS u (List.mem_of_getElem? hi)) ops [] false h1 (wB_of h1 h2 rfl rfl nrB : vRel KT (cR c) (cSB c) (cTB c) (cHB c) (wB (aSt (wNA e)) (aG (wNB e), aF (wNB e)))) gA gB (fun u hu => by
    obtain ⟨i, hi, hu⟩ := wSel_mem hu
    exact h5 i hi u hu) k3
  have r1 : ∀ i, i < (aI (wNA e)).length → ρ2 i = cR c i := fun i hi => x1.1 i hi
  have r2 : ∀ i, i < (aG (wNA e)).length → σA2 i = cSA c i := fun i hi => x1.2.1 i hi
  have r3 : ∀ i, i < (aG (wNB e)).length → σB2 i = cSB c i := fun i hi => x2 i hi
  have l1 : (aI (wNA e)).length ≤ sN s2 := x1.2.2.1
  have l2 : (aG (wNA e)).length ≤ (sG s2).length := x1.2.2.2
  have l3 : (aG (wNB e)).length ≤ g2.1.length := x3
  have pA : eCov ρ2 σA2 (some pcA) BA (mMc qA) (aL (wNA e)) (aCn (wNA e)) (aSn (wNA e)) (cHA c) LA a1 a2 := ⟨h3.1, vBd_loc r1 r2 e11 h3.2.1, by rw [lBd_spec r1 e13]; exact h3.2.2.1, by rw [lBd_spec r1 e14]; exact h3.2.2.2⟩
  have pB : eCov ρ2 σB2 (some pcB) BB (mMc qB) (aL (wNB e)) (aCn (wNB e)) (aSn (wNB e)) (cHB c) LB b1 b2 := ⟨h4.1, vBd_loc r1 r3 e15 h4.2.1, by rw [lBd_spec r1 e17]; exact h4.2.2.1, by rw [lBd_spec r1 e18]; exact h4.2.2.2⟩
  obtain ⟨vA, H1, vB, H2, z1, z2, z3⟩ := wPx_spec (R := R) hov hCT x8 hqA hqB hdA hdB hBA hBB x4 x5 pA pB (fun xA L S s1 cn sn xB L2 S2 s3 cn2 sn2 hfin r0 r0' ρ3 σA3 σB3 tyA3 tyB3 HA HB La Lb ca sa cb sb y1 y2 y3 y4 y5 y6 y7 y8 y9 y10 y11 => by
    obtain ⟨o, ho, hm⟩ := List.any_eq_true.mp hfin
    obtain ⟨d, d1, d2, d3, d4, d5, d6, d7, d8, d9, d10, d11, d12, d13, d14, d15, d16⟩ := wMt_spec hm y8 y9 y10 y11 (by omega) (by omega)
    subst d1
    subst d2
    subst d3
    subst d4
    have f1 : ∀ i, i < mA → cSA d i = cSA c i := fun i hi => by
      rw [d6 i hi, y2 i (by omega), r2 i (by omega)]
    have f2 : ∀ i, i < mB → cSB d i = cSB c i := fun i hi => by
      rw [d7 i hi, y3 i (by omega), r3 i (by omega)]
    rw [d14, d15]
    have res := hout o ho d La Lb ca sa cb sb ⟨d10, d11, by rw [d8]; exact d12, by rw [d9]; exact d13, fun i hi u hu => ?_⟩ ⟨fun i hi => by rw [d5 i hi, y1 i (by omega), r1 i (by omega)], f1, f2, y4, y5, y6, y7⟩ (fun hfl => by
      obtain ⟨t1, t2⟩ := d16 hfl
      refine ⟨t1, ?_⟩
      rw [lBd_spec (n := (aI (wNA e)).length) (fun i hi => (y1 i (by omega)).trans (r1 i hi)) e10] at t2
      exact t2)
    · rw [d8, d9] at res
      exact res
    · have k4 := List.all_eq_true.mp (List.all_eq_true.mp k2 o ho) i hi
      rw [hu] at k4
      have hoku := hFS u (List.mem_of_getElem? hu)
      rcases Bool.or_eq_true_iff.mp k4 with k4 | k4
      · obtain ⟨k5, k6⟩ := Bool.and_eq_true_iff.mp k4
        obtain ⟨j, hj, k5⟩ := List.any_eq_true.mp k5
        have k5 : i = j := Nat.eq_of_beq_eq_true k5
        subst k5
        have w := h5 i hj u hu
        have w2 := wHd_frm hoku k6 h1.1 h2.1 (fun i c hc => h1.2.1 i c (gA i c hc)) (fun i c hc => h2.2.1 i c (gB i c hc)) y6 y7 w
        exact wHd_ext (wOk_a hoku).1 w2 (fun i hi => by
          unfold sR
          rw [f1 i (by omega)]) (fun i hi => by
          unfold sR
          rw [f2 i (by omega)])
      · exact wVc_spec d10 k4)
  refine ⟨vA, H1, vB, H2, ?_, ?_, z3⟩
  · rw [hpA]
    rw [vBd_list r1 r2 e12] at z1
    exact z1
  · rw [hpB]
    rw [vBd_list r1 r3 e16] at z2
    exact z2
/-- the same, one class of leaves -/
noncomputable def wEdF (es : List lT) (i : Nat) (KT : vKT) (tb : XT) (tyl : List FieldType) (ov : vOt) (CT : Nat → List vCt) (hs : Nat → Nat → Option (List vHn)) (kn : Nat → Nat → Option Nat) (FS : List wN) (GA0 GB0 : List Nat) (n0 mA mB : Nat) (WA WB : List (Nat × Nat)) (f goA dpA kA goB dpB kB : Nat) (e : wE) (ops : List uOp) (outs : List (Bool × wE)) : Bool :=
  wSd n0 mA mB GA0 GB0 e && outs.all (fun o => wKp FS GA0 WA WB (wUs e) o.2) && (match wQA e, wQB e with
    | some pcA, some pcB => wGo GA0 GB0 (wSel FS (wUs e)) (fun _ s g => !(Nat.beq (wSg es s) i) || wPx KT tb tyl ov CT hs kn WA WB f goA dpA kA pcA goB dpB kB pcB (aL (wNA e)) (aS (wNA e)) (aCn (wNA e)) (aSn (wNA e)) (aL (wNB e)) (aS (wNB e)) (aCn (wNB e)) (aSn (wNB e)) (fun pc => outs.any (fun o => decide (wQA o.2 = some pc))) (fun pc => outs.any (fun o => decide (wQB o.2 = some pc)))
      (fun xA L S s1 cn sn xB L2 S2 s2 cn2 sn2 => outs.any (fun o => wMt n0 mA mB (aRk (wNA e)) o xA L S s1 cn sn xB L2 S2 s2 cn2 sn2)) s g) ops [] false (aSt (wNA e)) (aG (wNB e), aF (wNB e))
    | _, _ => false)
theorem wEd_F (es : List lT) {KT : vKT} {tb : XT} {tyl : List FieldType} {ov : vOt} {CT : Nat → List vCt} {hs : Nat → Nat → Option (List vHn)} {kn : Nat → Nat → Option Nat} {FS : List wN} {GA0 GB0 : List Nat} {n0 mA mB : Nat} {WA WB : List (Nat × Nat)} {f goA dpA kA goB dpB kB : Nat} {e : wE} {ops : List uOp} {outs : List (Bool × wE)} (h : ∀ i, i < 2 ^ es.length → wEdF es i KT tb tyl ov CT hs kn FS GA0 GB0 n0 mA mB WA WB f goA dpA kA goB dpB kB e ops outs = true) : wEd KT tb tyl ov CT hs kn FS GA0 GB0 n0 mA mB WA WB f goA dpA kA goB dpB kB e ops outs = true := by
  have h0 := h 0 (Nat.pow_pos (by decide))
  unfold wEdF at h h0
  unfold wEd
  obtain ⟨a1, a2⟩ := Bool.and_eq_true_iff.mp h0
  refine Bool.and_eq_true_iff.mpr ⟨a1, ?_⟩
  split at a2
  · rename_i pcA pcB hpA hpB
    exact wGo_and (f := wSg es) (wSg_lt es) ops [] false _ _ (fun i hi => by
      have k := (Bool.and_eq_true_iff.mp (h i hi)).2
      rw [hpA, hpB] at k
      exact k)
  · cases a2
end XEdge
