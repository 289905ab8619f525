/-! Pairs of runs: calls of both, families gone through again, blocks of the law. -/
noncomputable section XCalls
/-- a family after both have ended, at the ints that were told -/
noncomputable def wPo (gA gB : Nat) (u : wN) (tk : List lT) (J : vSt) (g : wGs) : Bool := decide (tk.length = (wBd u).length) && (wPr u).all (lBd (wNp u)) && (match wSm J (wPi u) with
  | none => false
  | some P => (wPr u).any (fun c => lGe (sI J) (sC J) (lSub (lK (-1)) (lSb (P ++ tk) c))) || (match uCo ((wPr u).map (lSb (P ++ tk))) J with
    | none => true
    | some J2 => (wAl u).any (fun x => match rcs [] [] J2 (aRc x.1) (P ++ tk) (List.range gA) with
      | none => false
      | some p => match rcs [] [] (wB J2 g) (aRc x.2) p.1 (List.range gB) with
        | none => false
        | some q => vMcQ (aNl x.1) q.1 p.2 [] [] J2 && vMcQ (aNl (wNb x)) q.1 q.2 [] [] (wB J2 g))))
theorem wPo_spec {KT : vKT} {ρ : Nat → Int} {σA σB : Nat → Nat} {tyA tyB : Nat → Option Nat} {HA HB : List (XC Int32)} {J : vSt} {g : wGs} (hA : vRel KT ρ σA tyA HA J) (hB : vRel KT ρ σB tyB HB (wB J g)) {gA gB : Nat} {u : wN} {tk : List lT} (hk : wPo gA gB u tk J g = true) {ρ1 : Nat → Int} (h1 : wPn (wPi u) ρ1 σA HA) (h2 : ∀ j, j < (wBd u).length → rO ρ tk j = ρ1 ((wPi u).length + j)) (h3 : ∀ c ∈ wPr u, 0 ≤ lEv ρ1 c) : wCon gA gB u ρ1 σA σB HA HB := by
  have nrB := vRel_noraw hB rfl
  unfold wPo at hk
  simp only [Bool.and_eq_true] at hk
  obtain ⟨⟨k1, k2⟩, k3⟩ := hk
  have k1 := of_decide_eq_true k1
  split at k3
  · cases k3
  rename_i P hS
  obtain ⟨w1, w2⟩ := wSm_spec hA hS
  have w3 := wPn_one w2 h1
  have e3 : ∀ i, i < wNp u → rO ρ (P ++ tk) i = ρ1 i := fun i hi => by
    by_cases c : i < P.length
    · rw [rO_l c]
      exact w3 i (by omega)
    · have hj : i - P.length < (wBd u).length := by
        have hi : i < (wPi u).length + (wBd u).length := hi
        omega
      have := rO_r (ρ := ρ) (P := P) (θ := tk) (j := i - P.length)
      rw [show P.length + (i - P.length) = i by omega] at this
      rw [this, h2 _ hj]
      congr 1
      omega
  have h4 : ∀ c ∈ wPr u, 0 ≤ lEv ρ (lSb (P ++ tk) c) := fun c hc => by
    rw [lSb_ev, lBd_spec e3 (List.all_eq_true.mp k2 c hc)]
    exact h3 c hc
  rcases Bool.or_eq_true_iff.mp k3 with k3 | k3
  · exfalso
    obtain ⟨c, hc, k3⟩ := List.any_eq_true.mp k3
    have q := lGe_spec hA.2.2.2.1 hA.2.2.2.2.1 k3
    rw [lSub_ev, lK_ev] at q
    have := h4 c hc
    omega
  obtain ⟨J2, g1, g2⟩ := uCo_spec (l := (wPr u).map (lSb (P ++ tk))) hA (fun x hx => by
    obtain ⟨c, hc, rfl⟩ := List.mem_map.mp hx
    exact h4 c hc)
  rw [g1] at k3
  dsimp only at k3
  obtain ⟨x, hx, k4⟩ := List.any_eq_true.mp k3
  split at k4
  · cases k4
  rename_i p hp
  split at k4
  · cases k4
  rename_i q hq
  obtain ⟨k5, k6⟩ := Bool.and_eq_true_iff.mp k4
  obtain ⟨⟨t1, ht1⟩, ⟨t2, ht2⟩⟩ := rcs_pre hp
  obtain ⟨⟨t3, ht3⟩, ⟨t4, ht4⟩⟩ := rcs_pre hq
  obtain ⟨v1, -, -, -, -, -⟩ := vMcQ_spec g2 k5
  obtain ⟨v2, -, -, -, -, -⟩ := vMcQ_spec (wB_of (g := g) g2 hB rfl rfl nrB) k6
  have so : ∀ {m : Nat} {σ : Nat → Nat} {τ t : List Nat}, τ = List.range m ++ t → ∀ i, i < m → sO σ τ i = sR σ i := fun {m σ τ t} hτ i hi => by
    unfold sO
    rw [hτ, List.getD_eq_getElem?_getD, List.getElem?_append_left (by rw [List.length_range]; exact hi), List.getElem?_range hi]
    rfl
  refine ⟨x, hx, rO ρ q.1, sO σA p.2, sO σB q.2, fun i hi => ?_, so ht2, so ht4, v1.2.2.1, v2.2.2.1, v1.2.2.2.1, v1.2.2.2.2.1⟩
  have hl : i < (P ++ tk).length := by
    have hi : i < (wPi u).length + (wBd u).length := hi
    rw [List.length_append]
    omega
  rw [ht3, ht1, List.append_assoc, rO_l hl]
  exact e3 i hi
/-- both calls once more, with ints that are told: what the family says then -/
def wRe (KT : vKT) (tb : XT) (tyl : List FieldType) (ot : XO Int32) (FS : List wN) (gA gB kA kB dpA dpB : Nat) (cmp : Bool) (e : wE) (u : wN) : Prop :=
  ∀ (qA qB : XM) (dA dB BA BB : Nat), tMth tb kA = some qA → tMth tb kB = some qB → dpA ≤ dA → dpB ≤ dB → BA + mMc qA ≤ 1000000 → BB + mMc qB ≤ 1000000 → ∀ (c : pC) (LA LB : List (Nat × XV Int32)) (a1 a2 b1 b2 : Nat), wAt KT FS gA gB (mMc qA) (mMc qB) BA BB e c LA LB a1 a2 b1 b2 →
    ∀ v : Nat → Int, (∀ (j : Nat) (p : Int × Int), (wBd u)[j]? = some p → p.1 ≤ v j ∧ v j ≤ p.2) →
      ∃ vA H1 vB H2, x_To tb tyl ot dA kA 0 LA [] (cHA c) a1 a2 vA H1 ∧ x_To tb tyl ot dB kB 0 LB [] (cHB c) b1 b2 vB H2 ∧ (H1.length ≤ BA + mMc qA ∧ H2.length ≤ BB + mMc qB ∧ ∃ W, vFrm W (cTA c) (cHA c) H1) ∧ ((cmp = true → vA = vB) → ∀ ρ1 : Nat → Int, wPn (wPi u) ρ1 (cSA c) H1 → (∀ j, j < (wBd u).length → ρ1 ((wPi u).length + j) = v j) → (∀ x ∈ wPr u, 0 ≤ lEv ρ1 x) → wCon gA gB u ρ1 (cSA c) (cSB c) H1 H2)
theorem optOf {S : List (XV Int32)} (h : S.length ≤ 1) : ∃ v : Option (XV Int32), v.toList = S := by
  rcases S with _ | ⟨a, _ | ⟨b, r⟩⟩
  · exact ⟨none, rfl⟩
  · exact ⟨some a, rfl⟩
  · simp only [List.length_cons] at h
    omega
def wEn (e : wE) : Bool := decide (wQA e = some 0) && decide (wQB e = some 0) && decide (aS (wNA e) = []) && decide (aS (wNB e) = [])
noncomputable def wRk (KT : vKT) (tb : XT) (tyl : List FieldType) (ov : vOt) (CT : Nat → List vCt) (hs : Nat → Nat → Option (List vHn)) (kn : Nat → Nat → Option Nat) (FS : List wN) (GA0 GB0 : List Nat) (WA WB : List (Nat × Nat)) (f dpA kA dpB kB : Nat) (cmp : Bool) (e : wE) (u : wN) (ops : List uOp) : Bool :=
  wEn e && wSd 0 GA0.length GB0.length GA0 GB0 e && sBd (aSt (wNA e)) && sBd (wB (aSt (wNA e)) (aG (wNB e), aF (wNB e))) && (wPi u).all (fun p => decide (p.1 < GA0.length)) && 
  wGo GA0 GB0 (wSel FS (wUs e)) (fun sk s g => sk.all (lBd (sN s)) && wPx KT tb tyl ov CT hs kn WA WB f 0 dpA kA 0 0 dpB kB 0 (aL (wNA e)) [] (aCn (wNA e)) (aSn (wNA e)) (aL (wNB e)) [] (aCn (wNB e)) (aSn (wNB e)) (fun _ => false) (fun _ => false)
    (fun xA _ S s1 _ _ xB _ S2 s2 _ _ => decide (xA = none) && decide (xB = none) && decide (S.length ≤ 1) && decide (S2.length ≤ 1) && ((cmp && (match S, S2 with | [.inl a], [.inl b] => uNe s2 a b | _, _ => false)) || wPo GA0.length GB0.length u sk (sJn s1 s2) (sG s2, sF s2))) s g) ops (wTold (aI (wNA e)).length (wBd u).length) false (wMo (aSt (wNA e)) (wBd u)) (aG (wNB e), aF (wNB e))
/-- the same, one class of leaves -/
noncomputable def wRkF (es : List lT) (i : Nat) (KT : vKT) (tb : XT) (tyl : List FieldType) (ov : vOt) (CT : Nat → List vCt) (hs : Nat → Nat → Option (List vHn)) (kn : Nat → Nat → Option Nat) (FS : List wN) (GA0 GB0 : List Nat) (WA WB : List (Nat × Nat)) (f dpA kA dpB kB : Nat) (cmp : Bool) (e : wE) (u : wN) (ops : List uOp) : Bool :=
  wEn e && wSd 0 GA0.length GB0.length GA0 GB0 e && sBd (aSt (wNA e)) && sBd (wB (aSt (wNA e)) (aG (wNB e), aF (wNB e))) && (wPi u).all (fun p => decide (p.1 < GA0.length)) && 
  wGo GA0 GB0 (wSel FS (wUs e)) (fun sk s g => !(Nat.beq (wSg es s) i) || (sk.all (lBd (sN s)) && wPx KT tb tyl ov CT hs kn WA WB f 0 dpA kA 0 0 dpB kB 0 (aL (wNA e)) [] (aCn (wNA e)) (aSn (wNA e)) (aL (wNB e)) [] (aCn (wNB e)) (aSn (wNB e)) (fun _ => false) (fun _ => false)
    (fun xA _ S s1 _ _ xB _ S2 s2 _ _ => decide (xA = none) && decide (xB = none) && decide (S.length ≤ 1) && decide (S2.length ≤ 1) && ((cmp && (match S, S2 with | [.inl a], [.inl b] => uNe s2 a b | _, _ => false)) || wPo GA0.length GB0.length u sk (sJn s1 s2) (sG s2, sF s2))) s g)) ops (wTold (aI (wNA e)).length (wBd u).length) false (wMo (aSt (wNA e)) (wBd u)) (aG (wNB e), aF (wNB e))
theorem wRk_F (es : List lT) {KT : vKT} {tb : XT} {tyl : List FieldType} {ov : vOt} {CT : Nat → List vCt} {hs : Nat → Nat → Option (List vHn)} {kn : Nat → Nat → Option Nat} {FS : List wN} {GA0 GB0 : List Nat} {WA WB : List (Nat × Nat)} {f dpA kA dpB kB : Nat} {cmp : Bool} {e : wE} {u : wN} {ops : List uOp} (h : ∀ i, i < 2 ^ es.length → wRkF es i KT tb tyl ov CT hs kn FS GA0 GB0 WA WB f dpA kA dpB kB cmp e u ops = true) : wRk KT tb tyl ov CT hs kn FS GA0 GB0 WA WB f dpA kA dpB kB cmp e u ops = true := by
  have h0 := h 0 (Nat.pow_pos (by decide))
  unfold wRkF at h h0
  unfold wRk
  obtain ⟨a1, a2⟩ := Bool.and_eq_true_iff.mp h0
  exact Bool.and_eq_true_iff.mpr ⟨a1, wGo_and (f := wSg es) (wSg_lt es) ops _ false _ _ (fun i hi => (Bool.and_eq_true_iff.mp (h i hi)).2)⟩
theorem wRk_spec {KT : vKT} {tb : XT} {tyl : List FieldType} {ot : XO Int32} {ov : vOt} (hov : vOvLe ov (o4 ot)) {CT : Nat → List vCt} {hs : Nat → Nat → Option (List vHn)} {kn : Nat → Nat → Option Nat} (hCT : ∀ j c, c ∈ CT j → vCtSem KT tb tyl ot j c) {FS : List wN} {GA0 GB0 : List Nat} (hFS : ∀ u ∈ FS, wOk KT GA0 GB0 u = true) {WA WB : List (Nat × Nat)} {f dpA kA dpB kB : Nat} {cmp : Bool} {e : wE} {u : wN} {ops : List uOp}
    (hk : wRk KT tb tyl ov CT hs kn FS GA0 GB0 WA WB f dpA kA dpB kB cmp e u ops = true) : wRe KT tb tyl ot FS GA0.length GB0.length kA kB dpA dpB cmp e u := by
  intro qA qB dA dB BA BB hqA hqB hdA hdB hBA hBB c LA LB a1 a2 b1 b2 hat v hv
  obtain ⟨h1, h2, h3, h4, h5⟩ := hat
  unfold wRk at hk
  simp only [Bool.and_eq_true] at hk
  obtain ⟨⟨⟨⟨⟨k1, k2⟩, k3⟩, k4⟩, k5⟩, k6⟩ := hk
  unfold wEn at k1
  simp only [Bool.and_eq_true] at k1
  obtain ⟨⟨⟨n1, n2⟩, n3⟩, n4⟩ := k1
  have n1 := of_decide_eq_true n1
  have n2 := of_decide_eq_true n2
  unfold wSd at k2
  simp only [Bool.and_eq_true] at k2
  obtain ⟨⟨⟨⟨⟨⟨⟨⟨⟨⟨⟨⟨⟨⟨⟨⟨⟨e1, e2⟩, e3⟩, e4⟩, e5⟩, e6⟩, e7⟩, e8⟩, e9⟩, e10⟩, e11⟩, e12⟩, e13⟩, e14⟩, e15⟩, e16⟩, e17⟩, e18⟩ := k2
  have e2 := of_decide_eq_true e2
  have e3 := of_decide_eq_true e3
  have e4 := of_decide_eq_true e4
  have e5 := of_decide_eq_true e5
  have e8 := of_decide_eq_true e8
  have e9 := of_decide_eq_true e9
  have nrB : ∀ a d, cTB c a = some d → kRaw KT d = none := vRel_noraw h2 rfl
  rw [n1] at h3
  rw [n2] at h4
  have gA := take_at e8
  have gB := take_at e9
  let ρ0 : Nat → Int := fun i => if i < (aI (wNA e)).length then cR c i else v (i - (aI (wNA e)).length)
  have t1 : ∀ i, i < (aI (wNA e)).length → ρ0 i = cR c i := fun i hi => if_pos hi
  have t2 : ∀ j, ρ0 ((aI (wNA e)).length + j) = v j := fun j => by
    show (if (aI (wNA e)).length + j < (aI (wNA e)).length then _ else v ((aI (wNA e)).length + j - (aI (wNA e)).length)) = v j
    rw [if_neg (by omega), Nat.add_sub_cancel_left]
  have hA0 : vRel KT ρ0 (cSA c) (cTA c) (cHA c) (wMo (aSt (wNA e)) (wBd u)) := wMo_spec h1 k3 (bd := wBd u) t1 (fun j p hp => by
    have q := hv j p hp
    show p.1 ≤ ρ0 ((aI (wNA e)).length + j) ∧ ρ0 ((aI (wNA e)).length + j) ≤ p.2
    rw [t2]
    exact q)
  have hB00 : vRel KT (cR c) (cSB c) (cTB c) (cHB c) (wB (aSt (wNA e)) (aG (wNB e), aF (wNB e))) := wB_of h1 h2 rfl rfl nrB
  have hB0 : vRel KT ρ0 (cSB c) (cTB c) (cHB c) (wB (wMo (aSt (wNA e)) (wBd u)) (aG (wNB e), aF (wNB e))) := wB_of hA0 (vRel_ext hB00 k4 (fun i hi => t1 i hi) (fun _ _ => rfl)) rfl rfl nrB
  obtain ⟨ρ2, σA2, σB2, s2, g2, sk2, x1, x2, x3, x4, x5, x6, x7, x8⟩ := wGo_spec (KT := KT) (GA0 := GA0) (GB0 := GB0) (US := wSel FS (wUs e)) (fun u hu => by
    obtain ⟨i, -, hi⟩ := wSel_mem hu
    exact hFS u (List.mem_of_getElem? hi)) ops (wTold (aI (wNA e)).length (wBd u).length) false hA0 hB0 gA gB (fun u hu => by
    obtain ⟨i, hi, hu⟩ := wSel_mem hu
    exact h5 i hi u hu) k6
  obtain ⟨x8, x9⟩ := Bool.and_eq_true_iff.mp x8
  have l0 : (aI (wNA e)).length + (wBd u).length ≤ sN s2 := x1.2.2.1
  have r1 : ∀ i, i < (aI (wNA e)).length → ρ2 i = cR c i := fun i hi => (x1.1 i (by
    show i < (aI (wNA e)).length + (wBd u).length
    omega)).trans (t1 i hi)
  have r2 : ∀ i, i < (aG (wNA e)).length → σA2 i = cSA c i := fun i hi => x1.2.1 i hi
  have r3 : ∀ i, i < (aG (wNB e)).length → σB2 i = cSB c i := fun i hi => x2 i hi
  have l2 : (aG (wNA e)).length ≤ (sG s2).length := x1.2.2.2
  have l3 : (aG (wNB e)).length ≤ g2.1.length := x3
  have pA : eCov ρ2 σA2 (some 0) BA (mMc qA) (aL (wNA e)) (aCn (wNA e)) (aSn (wNA e)) (cHA c) LA a1 a2 := ⟨h3.1, vBd_loc r1 r2 e11 h3.2.1, by rw [lBd_spec r1 e13]; exact h3.2.2.1, by rw [lBd_spec r1 e14]; exact h3.2.2.2⟩
  have pB : eCov ρ2 σB2 (some 0) BB (mMc qB) (aL (wNB e)) (aCn (wNB e)) (aSn (wNB e)) (cHB c) LB b1 b2 := ⟨h4.1, vBd_loc r1 r3 e15 h4.2.1, by rw [lBd_spec r1 e17]; exact h4.2.2.1, by rw [lBd_spec r1 e18]; exact h4.2.2.2⟩
  obtain ⟨vA, H1, vB, H2, z1, z2, z3⟩ := wPx_spec (R := fun vA H1 vB H2 => (H1.length ≤ BA + mMc qA ∧ H2.length ≤ BB + mMc qB ∧ ∃ W, vFrm W (cTA c) (cHA c) H1) ∧ ((cmp = true → vA = vB) → ∀ ρ1 : Nat → Int, wPn (wPi u) ρ1 (cSA c) H1 → (∀ j, j < (wBd u).length → ρ1 ((wPi u).length + j) = v j) → (∀ x ∈ wPr u, 0 ≤ lEv ρ1 x) → wCon GA0.length GB0.length u ρ1 (cSA c) (cSB c) H1 H2)) hov hCT x9 hqA hqB hdA hdB hBA hBB x4 x5 pA pB (fun xA L S s1 cn sn xB L2 S2 s3 cn2 sn2 hfin r0 r0' ρ3 σA3 σB3 tyA3 tyB3 HA HB La Lb ca sa cb sb y1 y2 y3 y4 y5 y6 y7 y8 y9 y10 y11 => by
    simp only [Bool.and_eq_true] at hfin
    obtain ⟨⟨⟨⟨f1, f2⟩, f3⟩, f4⟩, f5⟩ := hfin
    have f1 := of_decide_eq_true f1
    have f2 := of_decide_eq_true f2
    subst f1
    subst f2
    obtain ⟨wA, hwA⟩ := optOf (S := S.map (cv ρ3 σA3)) (by rw [List.length_map]; exact of_decide_eq_true f3)
    obtain ⟨wC, hwC⟩ := optOf (S := S2.map (cv ρ3 σB3)) (by rw [List.length_map]; exact of_decide_eq_true f4)
    refine ⟨wA, HA, wC, HB, ⟨hwA, rfl⟩, ⟨hwC, rfl⟩, ⟨y10, y11, WA, y6⟩, fun hcmp ρ1 p1 p2 p3 => ?_⟩
    have sA : ∀ i, i < GA0.length → sR σA3 i = sR (cSA c) i := fun i hi => by
      unfold sR
      rw [y2 i (by omega), r2 i (by omega)]
    have sB : ∀ i, i < GB0.length → sR σB3 i = sR (cSB c) i := fun i hi => by
      unfold sR
      rw [y3 i (by omega), r3 i (by omega)]
    have hB3 : vRel KT ρ3 σB3 tyB3 HB (wB (sJn s1 s3) (sG s3, sF s3)) := wB_of y8 y9 rfl rfl (vRel_noraw y9 r0')
    have f5 : wPo GA0.length GB0.length u sk2 (sJn s1 s3) (sG s3, sF s3) = true := by
      rcases Bool.or_eq_true_iff.mp f5 with f6 | f6
      rotate_left
      · exact f6
      exfalso
      obtain ⟨f7, f8⟩ := Bool.and_eq_true_iff.mp f6
      have ev := hcmp f7
      split at f8
      rotate_left
      · cases f8
      rename_i a b
      rw [ev] at hwA
      have hwA : wC.toList = [Sum.inl (Int32.ofInt (lEv ρ3 a))] := hwA
      have hwC : wC.toList = [Sum.inl (Int32.ofInt (lEv ρ3 b))] := hwC
      rw [hwA] at hwC
      refine uNe_spec y9 f8 ?_
      injection hwC with h1 h2
      injection h1
    refine wCon_ext (wPo_spec y8 hB3 f5 (wPn_ext p1 (fun p hp => sA _ (of_decide_eq_true (List.all_eq_true.mp k5 p hp)))) (fun j hj => ?_) p3) (fun i hi => (sA i hi).symm) (fun i hi => (sB i hi).symm)
    rw [p2 j hj]
    have lk : sk2.length = (wBd u).length := by
      rw [x6]
      unfold wTold
      rw [List.length_map, List.length_range]
    have hs : sk2[j]? = some (sk2[j]'(by omega)) := List.getElem?_eq_getElem (by omega)
    have e4 := x7 j
    unfold rO
    rw [List.getD_eq_getElem?_getD, hs] at e4 ⊢
    have e5 : lEv ρ3 (sk2[j]'(by omega)) = lEv ρ2 (sk2[j]'(by omega)) := lBd_spec y1 (List.all_eq_true.mp x8 _ (List.mem_of_getElem? hs))
    show lEv ρ3 (sk2[j]'(by omega)) = v j
    rw [e5]
    refine Eq.trans e4 ?_
    have := wTold_at (ρ := ρ0) (n := (aI (wNA e)).length) hj
    unfold rO at this
    rw [this, t2])
  exact ⟨vA, H1, vB, H2, z1, z2, z3⟩
def wAdd (V : List Nat) (o : Bool × wE) : Bool × wE := (o.1, wQA o.2, wQB o.2, wNA o.2, wNB o.2, V ++ wUs o.2)
def wEx (o : Bool × wE) : Bool := decide (wQA o.2 = none) && decide (wQB o.2 = none) && decide ((aS (wNA o.2)).length ≤ 1) && decide ((aS (wNB o.2)).length ≤ 1)
/-- what both came to, and all families that were gone through -/
theorem wFam {KT : vKT} {tb : XT} {tyl : List FieldType} {ot : XO Int32} {FS : List wN} {GA0 GB0 : List Nat} (hFS : ∀ u ∈ FS, wOk KT GA0 GB0 u = true) {n0 mA mB : Nat} {WA WB : List (Nat × Nat)} {kA kB dpA dpB : Nat} {e : wE} {outs : List (Bool × wE)} (hE : wEn e = true) (hO : outs.all wEx = true) (hm : wGoes KT tb tyl ot FS GA0.length GB0.length n0 mA mB WA WB kA kB dpA dpB e outs) (gA : GA0.length ≤ mA) (gB : GB0.length ≤ mB) {V : List Nat} (hV : ∀ i ∈ V, ∀ u, FS[i]? = some u → wRe KT tb tyl ot FS GA0.length GB0.length kA kB dpA dpB false e u) :
    wGoes KT tb tyl ot FS GA0.length GB0.length n0 mA mB WA WB kA kB dpA dpB e (outs.map (wAdd V)) := by
  unfold wEn at hE
  simp only [Bool.and_eq_true] at hE
  obtain ⟨⟨⟨n1, n2⟩, n3⟩, n4⟩ := hE
  have n1 := of_decide_eq_true n1
  have n2 := of_decide_eq_true n2
  have n3 := of_decide_eq_true n3
  have n4 := of_decide_eq_true n4
  intro qA qB dA dB BA BB hqA hqB hdA hdB hBA hBB c LA LB a1 a2 b1 b2 hat R hout
  have hEx : ∀ o ∈ outs, wQA o.2 = none ∧ wQB o.2 = none ∧ (aS (wNA o.2)).length ≤ 1 ∧ (aS (wNB o.2)).length ≤ 1 := fun o ho => by
    have k := List.all_eq_true.mp hO o ho
    unfold wEx at k
    simp only [Bool.and_eq_true] at k
    obtain ⟨⟨⟨k1, k2⟩, k3⟩, k4⟩ := k
    exact ⟨of_decide_eq_true k1, of_decide_eq_true k2, of_decide_eq_true k3, of_decide_eq_true k4⟩
  obtain ⟨vA, H1, vB, H2, z1, z2, o, ho, d, LA2, LB2, c1, c2, d1, d2, w1, w2, w3, w4, w5, w6, w7⟩ := hm qA qB dA dB BA BB hqA hqB hdA hdB hBA hBB c LA LB a1 a2 b1 b2 hat (fun vA H1 vB H2 => ∃ o, o ∈ outs ∧ ∃ (d : pC) (LA2 LB2 : List (Nat × XV Int32)) (c1 c2 d1 d2 : Nat), wAt KT FS GA0.length GB0.length (mMc qA) (mMc qB) BA BB o.2 d LA2 LB2 c1 c2 d1 d2 ∧ wFar n0 mA mB WA WB c d ∧ (o.1 = true → 0 ≤ lEv (cR d) (aRk (wNA o.2)) ∧ lEv (cR d) (aRk (wNA o.2)) < lEv (cR c) (aRk (wNA e))) ∧ vA.toList = (aS (wNA o.2)).map (cv (cR d) (cSA d)) ∧ vB.toList = (aS (wNB o.2)).map (cv (cR d) (cSB d)) ∧ H1 = cHA d ∧ H2 = cHB d) (fun o ho d LA2 LB2 c1 c2 d1 d2 w1 w2 w3 => by
    obtain ⟨k1, k2, k3, k4⟩ := hEx o ho
    obtain ⟨wA, hwA⟩ := optOf (S := (aS (wNA o.2)).map (cv (cR d) (cSA d))) (by rw [List.length_map]; exact k3)
    obtain ⟨wC, hwC⟩ := optOf (S := (aS (wNB o.2)).map (cv (cR d) (cSB d))) (by rw [List.length_map]; exact k4)
    refine ⟨wA, cHA d, wC, cHB d, ?_, ?_, o, ho, d, LA2, LB2, c1, c2, d1, d2, w1, w2, w3, hwA, hwC, rfl, rfl⟩
    · rw [k1]
      exact ⟨hwA, rfl⟩
    · rw [k2]
      exact ⟨hwC, rfl⟩)
  have sA : ∀ i, i < GA0.length → sR (cSA d) i = sR (cSA c) i := fun i hi => by
    unfold sR
    rw [w2.2.1 i (by omega)]
  have sB : ∀ i, i < GB0.length → sR (cSB d) i = sR (cSB c) i := fun i hi => by
    unfold sR
    rw [w2.2.2.1 i (by omega)]
  rw [n1, n3] at z1
  rw [n2, n4] at z2
  have z1 : x_To tb tyl ot dA kA 0 LA [] (cHA c) a1 a2 vA H1 := z1
  have z2 : x_To tb tyl ot dB kB 0 LB [] (cHB c) b1 b2 vB H2 := z2
  have fam : wHs FS GA0.length GB0.length (V ++ wUs o.2) d := fun i hi u hu => by
    rcases List.mem_append.mp hi with hi | hi
    · intro ρ1 p1 p2 p3
      obtain ⟨vA', H1', vB', H2', y1, y2, -, y3⟩ := hV i hi u hu qA qB dA dB BA BB hqA hqB hdA hdB hBA hBB c LA LB a1 a2 b1 b2 hat (fun j => ρ1 ((wPi u).length + j)) p2
      obtain ⟨-, e1⟩ := x_To_one z1 y1
      obtain ⟨-, e2⟩ := x_To_one z2 y2
      have y3 := y3 (fun h => absurd h Bool.false_ne_true)
      rw [e1, e2, w6, w7] at y3
      have hp := (wOk_a (hFS u (List.mem_of_getElem? hu))).1
      exact wCon_ext (y3 ρ1 (wPn_ext p1 (fun p hq => (sA _ (hp p hq)).symm)) (fun _ _ => rfl) p3) sA sB
    · exact w1.2.2.2.2 i hi u hu
  obtain ⟨k1, k2, k3, k4⟩ := hEx o ho
  obtain ⟨vA', H1', vB', H2', y1, y2, y3⟩ := hout (wAdd V o) (List.mem_map.mpr ⟨o, ho, rfl⟩) d LA2 LB2 c1 c2 d1 d2 ⟨w1.1, w1.2.1, w1.2.2.1, w1.2.2.2.1, fam⟩ w2 w3
  have y1 : xE tb tyl ot (wQA o.2) dA kA LA2 ((aS (wNA o.2)).map (cv (cR d) (cSA d))) (cHA d) c1 c2 vA' H1' := y1
  have y2 : xE tb tyl ot (wQB o.2) dB kB LB2 ((aS (wNB o.2)).map (cv (cR d) (cSB d))) (cHB d) d1 d2 vB' H2' := y2
  rw [k1] at y1
  rw [k2] at y2
  have e1 : vA' = vA := optList (y1.1.trans w4.symm)
  have e2 : vB' = vB := optList (y2.1.trans w5.symm)
  have e3 : H1' = H1 := y1.2.trans w6.symm
  have e4 : H2' = H2 := y2.2.trans w7.symm
  rw [e1, e2, e3, e4] at y3
  refine ⟨vA, H1, vB, H2, ?_, ?_, y3⟩
  · rw [n1, n3]
    exact z1
  · rw [n2, n4]
    exact z2
/-- the note behind a call: that at the call's end, with the caller's locals and the rest of its stack -/
def wBk (E X : vAn) (rest : List vA) (mc ms : Nat) : vAn := (aG X, aI X, aL E, aS X ++ rest, aF X, aC X, aM X, (aRk X, lAdd (aCn E) (lK (mc : Int)), lAdd (aSn E) (lK (ms : Int)), 0, 0, [], none), aRc X)
/-- a note with other locals, another stack, other costs -/
def wCl (X : vAn) (L : List (Nat × vA)) (S : List vA) (cn sn : lT) : vAn := (aG X, aI X, L, S, aF X, aC X, aM X, (aRk X, cn, sn, 0, 0, [], none), aRc X)
theorem wCl_st (X : vAn) (L : List (Nat × vA)) (S : List vA) (cn sn : lT) : aSt (wCl X L S cn sn) = aSt X := rfl
def wCk (KT : vKT) (tb : XT) (n1 m1 : Nat) (q qj : XM) (pc j ix nx recv : Nat) (args rest : List vA) (LE : List (Nat × vA)) (cE sE : lT) (E' : vAn) (s : vSt) : Bool :=
  decide (aL E' = x_en 0 (.inr (some recv) :: args)) && decide (aS E' = []) && decide (aCn E' = lK 0) && decide (aSn E' = lK 0) &&
  decide (mNp qj = args.length) && decide (rest.length ≤ 8) && decide (args.length + 1 ≤ mL qj) && decide (gRc KT E' recv = some (mRc qj)) && decide (recv < 1000000) &&
  LE.all (fun q => vBd n1 m1 q.2) && rest.all (vBd n1 m1) && lBd n1 cE && lBd n1 sE && lGe (sI s) (sC s) (lSub (lK (mMc q : Int)) (lAdd cE (lK (mMc qj : Int)))) && lGe (sI s) (sC s) (lSub (lK (mMs q : Int)) (lAdd sE (lK (mMs qj : Int))))
theorem x_push_l (v : Option (XV Int32)) (S : List (XV Int32)) : x_push v S = v.toList ++ S := by
  rcases v with _ | v <;> rfl
theorem wCk_spec {KT : vKT} {tb : XT} {n1 m1 : Nat} {q qj : XM} {pc j ix nx recv : Nat} {args rest : List vA} {LE : List (Nat × vA)} {cE sE : lT} {E' : vAn} {s : vSt} (hk : wCk KT tb n1 m1 q qj pc j ix nx recv args rest LE cE sE E' s = true) : aL E' = x_en 0 (.inr (some recv) :: args) ∧ aS E' = [] ∧ aCn E' = lK 0 ∧ aSn E' = lK 0 ∧ mNp qj = args.length ∧ rest.length ≤ 8 ∧ args.length + 1 ≤ mL qj ∧ gRc KT E' recv = some (mRc qj) ∧ recv < 1000000 ∧ LE.all (fun q => vBd n1 m1 q.2) = true ∧ rest.all (vBd n1 m1) = true ∧ lBd n1 cE = true ∧ lBd n1 sE = true ∧ lGe (sI s) (sC s) (lSub (lK (mMc q : Int)) (lAdd cE (lK (mMc qj : Int)))) = true ∧ lGe (sI s) (sC s) (lSub (lK (mMs q : Int)) (lAdd sE (lK (mMs qj : Int)))) = true := by
  unfold wCk at hk
  simp only [Bool.and_eq_true] at hk
  obtain ⟨⟨⟨⟨⟨⟨⟨⟨⟨⟨⟨⟨⟨⟨k3, k4⟩, k5⟩, k6⟩, k7⟩, k8⟩, k9⟩, k10⟩, k11⟩, k12⟩, k13⟩, k14⟩, k15⟩, k16⟩, k17⟩ := hk
  exact ⟨of_decide_eq_true k3, of_decide_eq_true k4, of_decide_eq_true k5, of_decide_eq_true k6, of_decide_eq_true k7, of_decide_eq_true k8, of_decide_eq_true k9, of_decide_eq_true k10, of_decide_eq_true k11, k12, k13, k14, k15, k16, k17⟩
/-- the second enters a call -/
theorem wCallB {KT : vKT} {tb : XT} {tyl : List FieldType} {ot : XO Int32} {FS : List wN} {gA gB n1 m1 m2 : Nat} {WA WB : List (Nat × Nat)} {kA kB j dpA dpj : Nat} {e' : wE} {outs' : List (Bool × wE)} (hI : wGoes KT tb tyl ot FS gA gB n1 m1 m2 WA WB kA j dpA dpj e' outs') {pc ix nx recv : Nat} {args rest : List vA} {qB qj : XM} (hqB : tMth tb kB = some qB) (hqj : tMth tb j = some qj) (i1 : mC qB pc = some (.invokevirtual ix, nx)) (i2 : tCal tb (mO qB) ix = some (j, 0)) {LE : List (Nat × vA)} {cE sE : lT} (hk : wCk KT tb n1 m2 qB qj pc j ix nx recv args rest LE cE sE (wNB e') (aSt (wNA e')) = true) (h0 : wQB e' = some 0) (hO : outs'.all (fun o => decide (wQB o.2 = none) && decide ((aS (wNB o.2)).length ≤ 1)) = true) :
    wGoes KT tb tyl ot FS gA gB n1 m1 m2 WA WB kA kB dpA (dpj + 1) (wQA e', some pc, wNA e', (wCl (wNB e') LE (args.reverse ++ .inr (some recv) :: rest) cE sE), wUs e') (outs'.map (fun o => (o.1, wQA o.2, some (pc + 3), wNA o.2, wBk (wCl (wNB e') LE (args.reverse ++ .inr (some recv) :: rest) cE sE) (wNB o.2) rest (mMc qj) (mMs qj), wUs o.2))) := by
  obtain ⟨k3, k4, k5, k6, k7, k8, k9, k10, k11, k12, k13, k14, k15, k16, k17⟩ := wCk_spec hk
  intro qA qB' dA dB BA BB hqA hqB2 hdA hdB hBA hBB c LA LB a1 a2 b1 b2 hat R hout
  obtain ⟨h1, h2, h3, h4, h5⟩ := hat
  rw [hqB] at hqB2
  cases hqB2
  obtain ⟨dp, rfl⟩ : ∃ dp, dB = dp + 1 := ⟨dB - 1, by omega⟩
  have h1 : vRel KT (cR c) (cSA c) (cTA c) (cHA c) (aSt (wNA e')) := h1
  have h2 : vRel KT (cR c) (cSB c) (cTB c) (cHB c) (aSt (wNB e')) := h2
  obtain ⟨⟨l1, l2⟩, cov, p1, p2⟩ := h4
  have p1 : (b1 : Int) ≤ lEv (cR c) cE := p1
  have p2 : (b2 : Int) ≤ lEv (cR c) sE := p2
  have r1 := lGe_spec h1.2.2.2.1 h1.2.2.2.2.1 k16
  have r2 := lGe_spec h1.2.2.2.1 h1.2.2.2.2.1 k17
  rw [lSub_ev, lAdd_ev, lK_ev, lK_ev] at r1 r2
  have r3 : b1 + mMc qj ≤ mMc qB := by omega
  have r4 : b2 + mMs qj ≤ mMs qB := by omega
  have h2' : vRel KT (cR c) (cSB c) (cTB c) (cHB c) (aSt (wNB e')) := by
    exact h2
  obtain ⟨vA, H1, vB, H2, z1, z2, vB', H2', z3, z4⟩ := hI qA qj dA dp BA (cHB c).length hqA hqj hdA (by omega) hBA (by omega) c LA (x_en 0 ((.inr (some recv) :: args).map (cv (cR c) (cSB c)))) a1 a2 0 0 ⟨h1, h2', h3, by
    rw [h0]
    refine ⟨⟨Nat.le_refl _, l2⟩, ?_, ?_, ?_⟩
    · rw [k3]
      exact vCov_en _ 0
    · rw [k5, lK_ev]
      exact Int.le_refl _
    · rw [k6, lK_ev]
      exact Int.le_refl _, h5⟩ (fun vA H1 vB H2 => ∃ vB' H2', x_To tb tyl ot (dp + 1) kB (pc + 3) LB (x_push vB (rest.map (cv (cR c) (cSB c)))) H2 (b1 + mMc qj) (b2 + mMs qj) vB' H2' ∧ R vA H1 vB' H2') (fun o ho d LA2 LB2 c1 c2 d1 d2 w1 w2 w3 => by
    have q := Bool.and_eq_true_iff.mp (List.all_eq_true.mp hO o ho)
    have q1 := of_decide_eq_true q.1
    have q2 := of_decide_eq_true q.2
    obtain ⟨u1, u2, u3, u4, u5⟩ := w1
    rw [q1] at u4
    have u4 : (cHB d).length ≤ (cHB c).length + mMc qj := u4
    obtain ⟨vA, H1, vB2, G2, y1, y2, y3⟩ := hout (o.1, wQA o.2, some (pc + 3), wNA o.2, wBk (wCl (wNB e') LE (args.reverse ++ .inr (some recv) :: rest) cE sE) (wNB o.2) rest (mMc qj) (mMs qj), wUs o.2) (List.mem_map.mpr ⟨o, ho, rfl⟩) d LA2 LB c1 c2 (b1 + mMc qj) (b2 + mMs qj) ⟨u1, u2, u3, ⟨⟨by
      show (cHB d).length ≤ BB + (b1 + mMc qj)
      omega, by omega⟩, vBd_loc w2.1 w2.2.2.1 k12 cov, by
      show ((b1 + mMc qj : Nat) : Int) ≤ lEv (cR d) (lAdd cE (lK (mMc qj : Int)))
      rw [lAdd_ev, lK_ev, lBd_spec w2.1 k14]
      omega, by
      show ((b2 + mMs qj : Nat) : Int) ≤ lEv (cR d) (lAdd sE (lK (mMs qj : Int)))
      rw [lAdd_ev, lK_ev, lBd_spec w2.1 k15]
      omega⟩, u5⟩ w2 w3
    obtain ⟨wC, hwC⟩ := optOf (S := (aS (wNB o.2)).map (cv (cR d) (cSB d))) (by rw [List.length_map]; exact q2)
    refine ⟨vA, H1, wC, cHB d, y1, ?_, vB2, G2, ?_, y3⟩
    · rw [q1]
      exact ⟨hwC, rfl⟩
    · have y2 : x_To tb tyl ot (dp + 1) kB (pc + 3) LB ((aS (wNB o.2) ++ rest).map (cv (cR d) (cSB d))) (cHB d) (b1 + mMc qj) (b2 + mMs qj) vB2 G2 := y2
      rw [x_push_l, hwC, ← vBd_list w2.1 w2.2.2.1 k13, ← List.map_append]
      exact y2)
  rw [h0, k4] at z2
  have z2 : x_To tb tyl ot dp j 0 (x_en 0 ((.inr (some recv) :: args).map (cv (cR c) (cSB c)))) [] (cHB c) 0 0 vB H2 := z2
  obtain ⟨ck, ok, m1', m2', m3'⟩ := gRc_spec k10
  refine ⟨vA, H1, vB', H2', z1, ?_, z4⟩
  show x_To tb tyl ot (dp + 1) kB pc LB ((args.reverse ++ .inr (some recv) :: rest : List (XV lT)).map (cv (cR c) (cSB c))) (cHB c) b1 b2 vB' H2'
  rw [List.map_append, List.map_reverse, List.map_cons]
  exact bCall (a := sR (cSB c) recv) hqB i1 i2 hqj k7 (List.length_map ..) (by rw [List.length_map]; exact k8) k9 (by rw [xRc h2 l2 (show (sG (aSt (wNB e')))[recv]? = some ck from m1') m2' rfl, m3']) r3 r4 z2 z3
/-- the first enters a call -/
theorem wCallA {KT : vKT} {tb : XT} {tyl : List FieldType} {ot : XO Int32} {FS : List wN} {gA gB n1 m1 m2 : Nat} {WA WB : List (Nat × Nat)} {kA kB j dpB dpj : Nat} {e' : wE} {outs' : List (Bool × wE)} (hI : wGoes KT tb tyl ot FS gA gB n1 m1 m2 WA WB j kB dpj dpB e' outs') {pc ix nx recv : Nat} {args rest : List vA} {qA qj : XM} (hqA : tMth tb kA = some qA) (hqj : tMth tb j = some qj) (i1 : mC qA pc = some (.invokevirtual ix, nx)) (i2 : tCal tb (mO qA) ix = some (j, 0)) {LE : List (Nat × vA)} {cE sE : lT} (hk : wCk KT tb n1 m1 qA qj pc j ix nx recv args rest LE cE sE (wNA e') (aSt (wNA e')) = true) (h0 : wQA e' = some 0) (hO : outs'.all (fun o => decide (wQA o.2 = none) && decide ((aS (wNA o.2)).length ≤ 1)) = true) :
    wGoes KT tb tyl ot FS gA gB n1 m1 m2 WA WB kA kB (dpj + 1) dpB (some pc, wQB e', (wCl (wNA e') LE (args.reverse ++ .inr (some recv) :: rest) cE sE), wNB e', wUs e') (outs'.map (fun o => (o.1, some (pc + 3), wQB o.2, wBk (wCl (wNA e') LE (args.reverse ++ .inr (some recv) :: rest) cE sE) (wNA o.2) rest (mMc qj) (mMs qj), wNB o.2, wUs o.2))) := by
  obtain ⟨k3, k4, k5, k6, k7, k8, k9, k10, k11, k12, k13, k14, k15, k16, k17⟩ := wCk_spec hk
  intro qA' qB dA dB BA BB hqA2 hqB hdA hdB hBA hBB c LA LB a1 a2 b1 b2 hat R hout
  obtain ⟨h1, h2, h3, h4, h5⟩ := hat
  rw [hqA] at hqA2
  cases hqA2
  obtain ⟨dp, rfl⟩ : ∃ dp, dA = dp + 1 := ⟨dA - 1, by omega⟩
  have h1 : vRel KT (cR c) (cSA c) (cTA c) (cHA c) (aSt (wNA e')) := h1
  obtain ⟨⟨l1, l2⟩, cov, p1, p2⟩ := h3
  have p1 : (a1 : Int) ≤ lEv (cR c) cE := p1
  have p2 : (a2 : Int) ≤ lEv (cR c) sE := p2
  have h1' : vRel KT (cR c) (cSA c) (cTA c) (cHA c) (aSt (wNA e')) := by
    exact h1
  have r1 := lGe_spec h1'.2.2.2.1 h1'.2.2.2.2.1 k16
  have r2 := lGe_spec h1'.2.2.2.1 h1'.2.2.2.2.1 k17
  rw [lSub_ev, lAdd_ev, lK_ev, lK_ev] at r1 r2
  have r3 : a1 + mMc qj ≤ mMc qA := by omega
  have r4 : a2 + mMs qj ≤ mMs qA := by omega
  obtain ⟨vA, H1, vB, H2, z1, z2, vA', H1', z3, z4⟩ := hI qj qB dp dB (cHA c).length BB hqj hqB (by omega) hdB (by omega) hBB c (x_en 0 ((.inr (some recv) :: args).map (cv (cR c) (cSA c)))) LB 0 0 b1 b2 ⟨h1', h2, by
    rw [h0]
    refine ⟨⟨Nat.le_refl _, l2⟩, ?_, ?_, ?_⟩
    · rw [k3]
      exact vCov_en _ 0
    · rw [k5, lK_ev]
      exact Int.le_refl _
    · rw [k6, lK_ev]
      exact Int.le_refl _, h4, h5⟩ (fun vA H1 vB H2 => ∃ vA' H1', x_To tb tyl ot (dp + 1) kA (pc + 3) LA (x_push vA (rest.map (cv (cR c) (cSA c)))) H1 (a1 + mMc qj) (a2 + mMs qj) vA' H1' ∧ R vA' H1' vB H2) (fun o ho d LA2 LB2 c1 c2 d1 d2 w1 w2 w3 => by
    have q := Bool.and_eq_true_iff.mp (List.all_eq_true.mp hO o ho)
    have q1 := of_decide_eq_true q.1
    have q2 := of_decide_eq_true q.2
    obtain ⟨u1, u2, u3, u4, u5⟩ := w1
    rw [q1] at u3
    have u3 : (cHA d).length ≤ (cHA c).length + mMc qj := u3
    obtain ⟨vA2, G2, vB, H2, y1, y2, y3⟩ := hout (o.1, some (pc + 3), wQB o.2, wBk (wCl (wNA e') LE (args.reverse ++ .inr (some recv) :: rest) cE sE) (wNA o.2) rest (mMc qj) (mMs qj), wNB o.2, wUs o.2) (List.mem_map.mpr ⟨o, ho, rfl⟩) d LA LB2 (a1 + mMc qj) (a2 + mMs qj) d1 d2 ⟨u1, u2, ⟨⟨by
      show (cHA d).length ≤ BA + (a1 + mMc qj)
      omega, by omega⟩, vBd_loc w2.1 w2.2.1 k12 cov, by
      show ((a1 + mMc qj : Nat) : Int) ≤ lEv (cR d) (lAdd cE (lK (mMc qj : Int)))
      rw [lAdd_ev, lK_ev, lBd_spec w2.1 k14]
      omega, by
      show ((a2 + mMs qj : Nat) : Int) ≤ lEv (cR d) (lAdd sE (lK (mMs qj : Int)))
      rw [lAdd_ev, lK_ev, lBd_spec w2.1 k15]
      omega⟩, u4, u5⟩ w2 (fun hfl => by
      have w4 := w3 hfl
      refine ⟨w4.1, ?_⟩
      show lEv (cR d) (aRk (wNA o.2)) < lEv (cR c) (aRk (wNA e'))
      exact w4.2)
    obtain ⟨wC, hwC⟩ := optOf (S := (aS (wNA o.2)).map (cv (cR d) (cSA d))) (by rw [List.length_map]; exact q2)
    refine ⟨wC, cHA d, vB, H2, ?_, y2, vA2, G2, ?_, y3⟩
    · rw [q1]
      exact ⟨hwC, rfl⟩
    · have y1 : x_To tb tyl ot (dp + 1) kA (pc + 3) LA ((aS (wNA o.2) ++ rest).map (cv (cR d) (cSA d))) (cHA d) (a1 + mMc qj) (a2 + mMs qj) vA2 G2 := y1
      rw [x_push_l, hwC, ← vBd_list w2.1 w2.2.1 k13, ← List.map_append]
      exact y1)
  rw [h0, k4] at z1
  have z1 : x_To tb tyl ot dp j 0 (x_en 0 ((.inr (some recv) :: args).map (cv (cR c) (cSA c)))) [] (cHA c) 0 0 vA H1 := z1
  obtain ⟨ck, ok, m1', m2', m3'⟩ := gRc_spec k10
  refine ⟨vA', H1', vB, H2, ?_, z2, z4⟩
  show x_To tb tyl ot (dp + 1) kA pc LA ((args.reverse ++ .inr (some recv) :: rest : List (XV lT)).map (cv (cR c) (cSA c))) (cHA c) a1 a2 vA' H1'
  rw [List.map_append, List.map_reverse, List.map_cons]
  exact bCall (a := sR (cSA c) recv) hqA i1 i2 hqj k7 (List.length_map ..) (by rw [List.length_map]; exact k8) k9 (by rw [xRc h1 l2 (show (sG (aSt (wNA e')))[recv]? = some ck from m1') m2' rfl, m3']) r3 r4 z1 z3
/-- two notes at an end: one of them stands for the other (weaker) -/
theorem wOut {KT : vKT} {tb : XT} {tyl : List FieldType} {ot : XO Int32} {FS : List wN} {gA gB n0 mA mB : Nat} {WA WB : List (Nat × Nat)} {kA kB dpA dpB : Nat} {e : wE} {outs outs2 : List (Bool × wE)} (h : wGoes KT tb tyl ot FS gA gB n0 mA mB WA WB kA kB dpA dpB e outs) (g : ∀ o ∈ outs, o ∈ outs2 ∨ (false, o.2) ∈ outs2) : wGoes KT tb tyl ot FS gA gB n0 mA mB WA WB kA kB dpA dpB e outs2 := by
  intro qA qB dA dB BA BB hqA hqB hdA hdB hBA hBB c LA LB a1 a2 b1 b2 hat R hout
  refine h qA qB dA dB BA BB hqA hqB hdA hdB hBA hBB c LA LB a1 a2 b1 b2 hat R (fun o ho d LA2 LB2 c1 c2 d1 d2 w1 w2 w3 => ?_)
  rcases g o ho with g | g
  · exact hout o g d LA2 LB2 c1 c2 d1 d2 w1 w2 w3
  · exact hout (false, o.2) g d LA2 LB2 c1 c2 d1 d2 w1 w2 (fun h => absurd h Bool.false_ne_true)
/-- for fewer ints, fewer cells, more that is written -/
theorem wWk {KT : vKT} {tb : XT} {tyl : List FieldType} {ot : XO Int32} {FS : List wN} {gA gB n0 mA mB n1 m1 m2 : Nat} {WA WB WA2 WB2 : List (Nat × Nat)} {kA kB dpA dpB : Nat} {e : wE} {outs : List (Bool × wE)} (h : wGoes KT tb tyl ot FS gA gB n1 m1 m2 WA2 WB2 kA kB dpA dpB e outs) (hn : n0 ≤ n1) (hA : mA ≤ m1) (hB : mB ≤ m2) (wA : wSub WA2 WA = true) (wB : wSub WB2 WB = true) : wGoes KT tb tyl ot FS gA gB n0 mA mB WA WB kA kB dpA dpB e outs := by
  intro qA qB dA dB BA BB hqA hqB hdA hdB hBA hBB c LA LB a1 a2 b1 b2 hat R hout
  exact h qA qB dA dB BA BB hqA hqB hdA hdB hBA hBB c LA LB a1 a2 b1 b2 hat R (fun o ho d LA2 LB2 c1 c2 d1 d2 w1 w2 w3 => hout o ho d LA2 LB2 c1 c2 d1 d2 w1 (wFar_mono hn hA hB (wSub_spec wA) (wSub_spec wB) w2) w3)
end XCalls
