/-! Edges gone once more: families. -/
noncomputable section XEdS
/-- what both first come to from a stand -/
def wRuns (tb : XT) (tyl : List FieldType) (ot : XO Int32) (kA kB dA dB : Nat) (cuA cuB : Nat → Bool) (gA gB : Bool) (e : wE) (c : pC) (LA LB : List (Nat × XV Int32)) (a1 a2 b1 b2 : Nat) (oA oB : XOu) : Prop :=
  ∃ pcA pcB, wQA e = some pcA ∧ wQB e = some pcB ∧ xRC tb tyl ot dA kA cuA gA pcA LA ((aS (wNA e)).map (cv (cR c) (cSA c))) (cHA c) a1 a2 oA ∧ xRC tb tyl ot dB kB cuB gB pcB LB ((aS (wNB e)).map (cv (cR c) (cSB c))) (cHB c) b1 b2 oB
theorem wRuns_one {tb : XT} {tyl : List FieldType} {ot : XO Int32} {kA kB dA dB : Nat} {cuA cuB : Nat → Bool} {gA gB : Bool} {e : wE} {c : pC} {LA LB : List (Nat × XV Int32)} {a1 a2 b1 b2 : Nat} {oA oB oA2 oB2 : XOu} (h : wRuns tb tyl ot kA kB dA dB cuA cuB gA gB e c LA LB a1 a2 b1 b2 oA oB) (g : wRuns tb tyl ot kA kB dA dB cuA cuB gA gB e c LA LB a1 a2 b1 b2 oA2 oB2) : oA2 = oA ∧ oB2 = oB := by
  obtain ⟨pA, pB, h1, h2, h3, h4⟩ := h
  obtain ⟨qA, qB, g1, g2, g3, g4⟩ := g
  rw [h1] at g1
  rw [h2] at g2
  cases g1
  cases g2
  exact ⟨xRC_one h3 g3, xRC_one h4 g4⟩
def wCA (outs : List (Bool × wE)) (pc : Nat) : Bool := outs.any (fun o => decide (wQA o.2 = some pc))
def wCB (outs : List (Bool × wE)) (pc : Nat) : Bool := outs.any (fun o => decide (wQB o.2 = some pc))
theorem wEd_R {KT : vKT} {tb : XT} {tyl : List FieldType} {ot : XO Int32} {ov : vOt} (hov : vOvLe ov (o4 ot)) {CT : Nat → List vCt} {hs : Nat → Nat → Option (List vHn)} {kn : Nat → Nat → Option Nat} (hCT : ∀ j c, c ∈ CT j → vCtSem KT tb tyl ot j c) {FS : List wN} {GA0 GB0 : List Nat} (hFS : ∀ u ∈ FS, wOk KT GA0 GB0 u = true) {n0 mA mB : Nat} {WA WB : List (Nat × Nat)} {f goA dpA kA goB dpB kB : Nat} {e : wE} {ops : List uOp} {outs : List (Bool × wE)}
    (hk : wEd KT tb tyl ov CT hs kn FS GA0 GB0 n0 mA mB WA WB f goA dpA kA goB dpB kB e ops outs = true) : ∀ (qA qB : XM) (dA dB BA BB : Nat), tMth tb kA = some qA → tMth tb kB = some qB → dpA ≤ dA → dpB ≤ dB → BA + mMc qA ≤ 1000000 → BB + mMc qB ≤ 1000000 → ∀ (c : pC) (LA LB : List (Nat × XV Int32)) (a1 a2 b1 b2 : Nat), wAt KT FS GA0.length GB0.length (mMc qA) (mMc qB) BA BB e c LA LB a1 a2 b1 b2 →
      ∃ oA oB, wRuns tb tyl ot kA kB dA dB (wCA outs) (wCB outs) (Nat.ble 1 goA) (Nat.ble 1 goB) e c LA LB a1 a2 b1 b2 oA oB ∧ ∃ o, o ∈ outs ∧ ∃ (d : pC) (LA2 LB2 : List (Nat × XV Int32)) (c1 c2 d1 d2 : Nat), wAt KT FS GA0.length GB0.length (mMc qA) (mMc qB) BA BB o.2 d LA2 LB2 c1 c2 d1 d2 ∧ wFar n0 mA mB WA WB c d ∧ (o.1 = true → 0 ≤ lEv (cR d) (aRk (wNA o.2)) ∧ lEv (cR d) (aRk (wNA o.2)) < lEv (cR c) (aRk (wNA e))) ∧ xOf (wQA o.2) LA2 ((aS (wNA o.2)).map (cv (cR d) (cSA d))) (cHA d) c1 c2 oA ∧ xOf (wQB o.2) LB2 ((aS (wNB o.2)).map (cv (cR d) (cSB d))) (cHB d) d1 d2 oB := by
  intro qA qB dA dB BA BB hqA hqB hdA hdB hBA hBB c LA LB a1 a2 b1 b2 hat
  obtain ⟨h1, h2, h3, h4, h5⟩ := hat
  unfold wEd at hk
  simp only [Bool.and_eq_true] at hk
  obtain ⟨⟨k1, k2⟩, k3⟩ := hk
  unfold wSd at k1
  simp only [Bool.and_eq_true] at k1
  obtain ⟨⟨⟨⟨⟨⟨⟨⟨⟨⟨⟨⟨⟨⟨⟨⟨⟨e1, e2⟩, e3⟩, e4⟩, e5⟩, e6⟩, e7⟩, e8⟩, e9⟩, e10⟩, e11⟩, e12⟩, e13⟩, e14⟩, e15⟩, e16⟩, e17⟩, e18⟩ := k1
  have e1 := of_decide_eq_true e1
  have e2 := of_decide_eq_true e2
  have e3 := of_decide_eq_true e3
  have e4 := of_decide_eq_true e4
  have e5 := of_decide_eq_true e5
  have e6 := of_decide_eq_true e6
  have e7 := of_decide_eq_true e7
  have e8 := of_decide_eq_true e8
  have e9 := of_decide_eq_true e9
  have nrB : ∀ a d, cTB c a = some d → kRaw KT d = none := vRel_noraw h2 rfl
  split at k3
  rotate_left
  · cases k3
  rename_i pcA pcB hpA hpB
  rw [hpA] at h3
  rw [hpB] at h4
  have gA := take_at e8
  have gB := take_at e9
  obtain ⟨ρ2, σA2, σB2, s2, g2, sk2, x1, x2, x3, x4, x5, -, -, x8⟩ := wGo_spec (KT := KT) (GA0 := GA0) (GB0 := GB0) (US := wSel FS (wUs e)) (fun u hu => by
    obtain ⟨i, -, hi⟩ := wSel_mem hu
    exact hFS u (List.mem_of_getElem? hi)) ops [] false h1 (wB_of h1 h2 rfl rfl nrB : vRel KT (cR c) (cSB c) (cTB c) (cHB c) (wB (aSt (wNA e)) (aG (wNB e), aF (wNB e)))) gA gB (fun u hu => by
    obtain ⟨i, hi, hu⟩ := wSel_mem hu
    exact h5 i hi u hu) k3
  have r1 : ∀ i, i < (aI (wNA e)).length → ρ2 i = cR c i := fun i hi => x1.1 i hi
  have r2 : ∀ i, i < (aG (wNA e)).length → σA2 i = cSA c i := fun i hi => x1.2.1 i hi
  have r3 : ∀ i, i < (aG (wNB e)).length → σB2 i = cSB c i := fun i hi => x2 i hi
  have l1 : (aI (wNA e)).length ≤ sN s2 := x1.2.2.1
  have l2 : (aG (wNA e)).length ≤ (sG s2).length := x1.2.2.2
  have l3 : (aG (wNB e)).length ≤ g2.1.length := x3
  have pA : eCov ρ2 σA2 (some pcA) BA (mMc qA) (aL (wNA e)) (aCn (wNA e)) (aSn (wNA e)) (cHA c) LA a1 a2 := ⟨h3.1, vBd_loc r1 r2 e11 h3.2.1, by rw [lBd_spec r1 e13]; exact h3.2.2.1, by rw [lBd_spec r1 e14]; exact h3.2.2.2⟩
  have pB : eCov ρ2 σB2 (some pcB) BB (mMc qB) (aL (wNB e)) (aCn (wNB e)) (aSn (wNB e)) (cHB c) LB b1 b2 := ⟨h4.1, vBd_loc r1 r3 e15 h4.2.1, by rw [lBd_spec r1 e17]; exact h4.2.2.1, by rw [lBd_spec r1 e18]; exact h4.2.2.2⟩
  obtain ⟨oA, oB, z1, z2, z3⟩ := wPx_R (R := fun oA oB => ∃ o, o ∈ outs ∧ ∃ (d : pC) (LA2 LB2 : List (Nat × XV Int32)) (c1 c2 d1 d2 : Nat), wAt KT FS GA0.length GB0.length (mMc qA) (mMc qB) BA BB o.2 d LA2 LB2 c1 c2 d1 d2 ∧ wFar n0 mA mB WA WB c d ∧ (o.1 = true → 0 ≤ lEv (cR d) (aRk (wNA o.2)) ∧ lEv (cR d) (aRk (wNA o.2)) < lEv (cR c) (aRk (wNA e))) ∧ xOf (wQA o.2) LA2 ((aS (wNA o.2)).map (cv (cR d) (cSA d))) (cHA d) c1 c2 oA ∧ xOf (wQB o.2) LB2 ((aS (wNB o.2)).map (cv (cR d) (cSB d))) (cHB d) d1 d2 oB) hov hCT x8 hqA hqB hdA hdB hBA hBB x4 x5 pA pB (fun xA L S s1 cn sn xB L2 S2 s3 cn2 sn2 hfin r0 r0' ρ3 σA3 σB3 tyA3 tyB3 HA HB La Lb ca sa cb sb y1 y2 y3 y4 y5 y6 y7 y8 y9 y10 y11 oA oB v1 v2 => by
    obtain ⟨o, ho, hm⟩ := List.any_eq_true.mp hfin
    obtain ⟨d, d1, d2, d3, d4, d5, d6, d7, d8, d9, d10, d11, d12, d13, d14, d15, d16⟩ := wMt_spec hm y8 y9 y10 y11 (by omega) (by omega)
    subst d1
    subst d2
    subst d3
    subst d4
    have f1 : ∀ i, i < mA → cSA d i = cSA c i := fun i hi => by
      rw [d6 i hi, y2 i (by omega), r2 i (by omega)]
    have f2 : ∀ i, i < mB → cSB d i = cSB c i := fun i hi => by
      rw [d7 i hi, y3 i (by omega), r3 i (by omega)]
    rw [d14] at v1
    rw [d15] at v2
    refine ⟨o, ho, d, La, Lb, ca, sa, cb, sb, ⟨d10, d11, by rw [d8]; exact d12, by rw [d9]; exact d13, fun i hi u hu => ?_⟩, ⟨fun i hi => by rw [d5 i hi, y1 i (by omega), r1 i (by omega)], f1, f2, y4, y5, y6, y7⟩, (fun hfl => by
      obtain ⟨t1, t2⟩ := d16 hfl
      refine ⟨t1, ?_⟩
      rw [lBd_spec (n := (aI (wNA e)).length) (fun i hi => (y1 i (by omega)).trans (r1 i hi)) e10] at t2
      exact t2), by rw [d8]; exact v1, by rw [d9]; exact v2⟩
    · have k4 := List.all_eq_true.mp (List.all_eq_true.mp k2 o ho) i hi
      rw [hu] at k4
      have hoku := hFS u (List.mem_of_getElem? hu)
      rcases Bool.or_eq_true_iff.mp k4 with k4 | k4
      · obtain ⟨k5, k6⟩ := Bool.and_eq_true_iff.mp k4
        obtain ⟨j, hj, k5⟩ := List.any_eq_true.mp k5
        have k5 : i = j := Nat.eq_of_beq_eq_true k5
        subst k5
        have w := h5 i hj u hu
        have w2 := wHd_frm hoku k6 h1.1 h2.1 (fun i c hc => h1.2.1 i c (gA i c hc)) (fun i c hc => h2.2.1 i c (gB i c hc)) y6 y7 w
        exact wHd_ext (wOk_a hoku).1 w2 (fun i hi => by
          unfold sR
          rw [f1 i (by omega)]) (fun i hi => by
          unfold sR
          rw [f2 i (by omega)])
      · exact wVc_spec d10 k4)
  refine ⟨oA, oB, ⟨pcA, pcB, hpA, hpB, ?_, ?_⟩, z3⟩
  · rw [vBd_list r1 r2 e12] at z1
    exact z1
  · rw [vBd_list r1 r3 e16] at z2
    exact z2
/-- an edge once more, with ints that are told: what the family says then -/
def wReE (KT : vKT) (tb : XT) (tyl : List FieldType) (ot : XO Int32) (FS : List wN) (gA gB kA kB dpA dpB goA goB : Nat) (outs : List (Bool × wE)) (e : wE) (u : wN) : Prop :=
  ∀ (qA qB : XM) (dA dB BA BB : Nat), tMth tb kA = some qA → tMth tb kB = some qB → dpA ≤ dA → dpB ≤ dB → BA + mMc qA ≤ 1000000 → BB + mMc qB ≤ 1000000 → ∀ (c : pC) (LA LB : List (Nat × XV Int32)) (a1 a2 b1 b2 : Nat), wAt KT FS gA gB (mMc qA) (mMc qB) BA BB e c LA LB a1 a2 b1 b2 →
    ∀ v : Nat → Int, (∀ (j : Nat) (p : Int × Int), (wBd u)[j]? = some p → p.1 ≤ v j ∧ v j ≤ p.2) →
      ∃ oA oB, wRuns tb tyl ot kA kB dA dB (wCA outs) (wCB outs) (Nat.ble 1 goA) (Nat.ble 1 goB) e c LA LB a1 a2 b1 b2 oA oB ∧ ∀ ρ1 : Nat → Int, wPn (wPi u) ρ1 (cSA c) (xOh oA) → (∀ j, j < (wBd u).length → ρ1 ((wPi u).length + j) = v j) → (∀ x ∈ wPr u, 0 ≤ lEv ρ1 x) → wCon gA gB u ρ1 (cSA c) (cSB c) (xOh oA) (xOh oB)
noncomputable def wRkE (KT : vKT) (tb : XT) (tyl : List FieldType) (ov : vOt) (CT : Nat → List vCt) (hs : Nat → Nat → Option (List vHn)) (kn : Nat → Nat → Option Nat) (FS : List wN) (GA0 GB0 : List Nat) (WA WB : List (Nat × Nat)) (f goA dpA kA goB dpB kB : Nat) (outs : List (Bool × wE)) (e : wE) (u : wN) (ops : List uOp) : Bool :=
  wSd 0 GA0.length GB0.length GA0 GB0 e && sBd (aSt (wNA e)) && sBd (wB (aSt (wNA e)) (aG (wNB e), aF (wNB e))) && (wPi u).all (fun p => decide (p.1 < GA0.length)) && (match wQA e, wQB e with
    | some pcA, some pcB => wGo GA0 GB0 (wSel FS (wUs e)) (fun sk s g => sk.all (lBd (sN s)) && wPx KT tb tyl ov CT hs kn WA WB f goA dpA kA pcA goB dpB kB pcB (aL (wNA e)) (aS (wNA e)) (aCn (wNA e)) (aSn (wNA e)) (aL (wNB e)) (aS (wNB e)) (aCn (wNB e)) (aSn (wNB e)) (wCA outs) (wCB outs)
      (fun _ _ _ s1 _ _ _ _ _ s2 _ _ => wPo GA0.length GB0.length u sk (sJn s1 s2) (sG s2, sF s2)) s g) ops (wTold (aI (wNA e)).length (wBd u).length) false (wMo (aSt (wNA e)) (wBd u)) (aG (wNB e), aF (wNB e))
    | _, _ => false)
/-- the same, one class of leaves -/
noncomputable def wRkEF (es : List lT) (i : Nat) (KT : vKT) (tb : XT) (tyl : List FieldType) (ov : vOt) (CT : Nat → List vCt) (hs : Nat → Nat → Option (List vHn)) (kn : Nat → Nat → Option Nat) (FS : List wN) (GA0 GB0 : List Nat) (WA WB : List (Nat × Nat)) (f goA dpA kA goB dpB kB : Nat) (outs : List (Bool × wE)) (e : wE) (u : wN) (ops : List uOp) : Bool :=
  wSd 0 GA0.length GB0.length GA0 GB0 e && sBd (aSt (wNA e)) && sBd (wB (aSt (wNA e)) (aG (wNB e), aF (wNB e))) && (wPi u).all (fun p => decide (p.1 < GA0.length)) && (match wQA e, wQB e with
    | some pcA, some pcB => wGo GA0 GB0 (wSel FS (wUs e)) (fun sk s g => !(Nat.beq (wSg es s) i) || (sk.all (lBd (sN s)) && wPx KT tb tyl ov CT hs kn WA WB f goA dpA kA pcA goB dpB kB pcB (aL (wNA e)) (aS (wNA e)) (aCn (wNA e)) (aSn (wNA e)) (aL (wNB e)) (aS (wNB e)) (aCn (wNB e)) (aSn (wNB e)) (wCA outs) (wCB outs)
      (fun _ _ _ s1 _ _ _ _ _ s2 _ _ => wPo GA0.length GB0.length u sk (sJn s1 s2) (sG s2, sF s2)) s g)) ops (wTold (aI (wNA e)).length (wBd u).length) false (wMo (aSt (wNA e)) (wBd u)) (aG (wNB e), aF (wNB e))
    | _, _ => false)
theorem wRkE_F (es : List lT) {KT : vKT} {tb : XT} {tyl : List FieldType} {ov : vOt} {CT : Nat → List vCt} {hs : Nat → Nat → Option (List vHn)} {kn : Nat → Nat → Option Nat} {FS : List wN} {GA0 GB0 : List Nat} {WA WB : List (Nat × Nat)} {f goA dpA kA goB dpB kB : Nat} {outs : List (Bool × wE)} {e : wE} {u : wN} {ops : List uOp} (h : ∀ i, i < 2 ^ es.length → wRkEF es i KT tb tyl ov CT hs kn FS GA0 GB0 WA WB f goA dpA kA goB dpB kB outs e u ops = true) : wRkE KT tb tyl ov CT hs kn FS GA0 GB0 WA WB f goA dpA kA goB dpB kB outs e u ops = true := by
  have h0 := h 0 (Nat.pow_pos (by decide))
  unfold wRkEF at h h0
  unfold wRkE
  obtain ⟨a1, a2⟩ := Bool.and_eq_true_iff.mp h0
  refine Bool.and_eq_true_iff.mpr ⟨a1, ?_⟩
  split at a2
  · rename_i pcA pcB hpA hpB
    exact wGo_and (f := wSg es) (wSg_lt es) ops _ false _ _ (fun i hi => by
      have k := (Bool.and_eq_true_iff.mp (h i hi)).2
      rw [hpA, hpB] at k
      exact k)
  · cases a2
theorem wRkE_spec {KT : vKT} {tb : XT} {tyl : List FieldType} {ot : XO Int32} {ov : vOt} (hov : vOvLe ov (o4 ot)) {CT : Nat → List vCt} {hs : Nat → Nat → Option (List vHn)} {kn : Nat → Nat → Option Nat} (hCT : ∀ j c, c ∈ CT j → vCtSem KT tb tyl ot j c) {FS : List wN} {GA0 GB0 : List Nat} (hFS : ∀ u ∈ FS, wOk KT GA0 GB0 u = true) {WA WB : List (Nat × Nat)} {f goA dpA kA goB dpB kB : Nat} {outs : List (Bool × wE)} {e : wE} {u : wN} {ops : List uOp}
    (hk : wRkE KT tb tyl ov CT hs kn FS GA0 GB0 WA WB f goA dpA kA goB dpB kB outs e u ops = true) : wReE KT tb tyl ot FS GA0.length GB0.length kA kB dpA dpB goA goB outs e u := by
  intro qA qB dA dB BA BB hqA hqB hdA hdB hBA hBB c LA LB a1 a2 b1 b2 hat v hv
  obtain ⟨h1, h2, h3, h4, h5⟩ := hat
  unfold wRkE at hk
  simp only [Bool.and_eq_true] at hk
  obtain ⟨⟨⟨⟨k2, k3⟩, k4⟩, k5⟩, k6⟩ := hk
  unfold wSd at k2
  simp only [Bool.and_eq_true] at k2
  obtain ⟨⟨⟨⟨⟨⟨⟨⟨⟨⟨⟨⟨⟨⟨⟨⟨⟨e1, e2⟩, e3⟩, e4⟩, e5⟩, e6⟩, e7⟩, e8⟩, e9⟩, e10⟩, e11⟩, e12⟩, e13⟩, e14⟩, e15⟩, e16⟩, e17⟩, e18⟩ := k2
  have e2 := of_decide_eq_true e2
  have e3 := of_decide_eq_true e3
  have e4 := of_decide_eq_true e4
  have e5 := of_decide_eq_true e5
  have e8 := of_decide_eq_true e8
  have e9 := of_decide_eq_true e9
  have nrB : ∀ a d, cTB c a = some d → kRaw KT d = none := vRel_noraw h2 rfl
  split at k6
  rotate_left
  · cases k6
  rename_i pcA pcB hpA hpB
  rw [hpA] at h3
  rw [hpB] at h4
  have gA := take_at e8
  have gB := take_at e9
  let ρ0 : Nat → Int := fun i => if i < (aI (wNA e)).length then cR c i else v (i - (aI (wNA e)).length)
  have t1 : ∀ i, i < (aI (wNA e)).length → ρ0 i = cR c i := fun i hi => if_pos hi
  have t2 : ∀ j, ρ0 ((aI (wNA e)).length + j) = v j := fun j => by
    show (if (aI (wNA e)).length + j < (aI (wNA e)).length then _ else v ((aI (wNA e)).length + j - (aI (wNA e)).length)) = v j
    rw [if_neg (by omega), Nat.add_sub_cancel_left]
  have hA0 : vRel KT ρ0 (cSA c) (cTA c) (cHA c) (wMo (aSt (wNA e)) (wBd u)) := wMo_spec h1 k3 (bd := wBd u) t1 (fun j p hp => by
    have q := hv j p hp
    show p.1 ≤ ρ0 ((aI (wNA e)).length + j) ∧ ρ0 ((aI (wNA e)).length + j) ≤ p.2
    rw [t2]
    exact q)
  have hB00 : vRel KT (cR c) (cSB c) (cTB c) (cHB c) (wB (aSt (wNA e)) (aG (wNB e), aF (wNB e))) := wB_of h1 h2 rfl rfl nrB
  have hB0 : vRel KT ρ0 (cSB c) (cTB c) (cHB c) (wB (wMo (aSt (wNA e)) (wBd u)) (aG (wNB e), aF (wNB e))) := wB_of hA0 (vRel_ext hB00 k4 (fun i hi => t1 i hi) (fun _ _ => rfl)) rfl rfl nrB
  obtain ⟨ρ2, σA2, σB2, s2, g2, sk2, x1, x2, x3, x4, x5, x6, x7, x8⟩ := wGo_spec (KT := KT) (GA0 := GA0) (GB0 := GB0) (US := wSel FS (wUs e)) (fun u hu => by
    obtain ⟨i, -, hi⟩ := wSel_mem hu
    exact hFS u (List.mem_of_getElem? hi)) ops (wTold (aI (wNA e)).length (wBd u).length) false hA0 hB0 gA gB (fun u hu => by
    obtain ⟨i, hi, hu⟩ := wSel_mem hu
    exact h5 i hi u hu) k6
  obtain ⟨x8, x9⟩ := Bool.and_eq_true_iff.mp x8
  have l0 : (aI (wNA e)).length + (wBd u).length ≤ sN s2 := x1.2.2.1
  have r1 : ∀ i, i < (aI (wNA e)).length → ρ2 i = cR c i := fun i hi => (x1.1 i (by
    show i < (aI (wNA e)).length + (wBd u).length
    omega)).trans (t1 i hi)
  have r2 : ∀ i, i < (aG (wNA e)).length → σA2 i = cSA c i := fun i hi => x1.2.1 i hi
  have r3 : ∀ i, i < (aG (wNB e)).length → σB2 i = cSB c i := fun i hi => x2 i hi
  have l2 : (aG (wNA e)).length ≤ (sG s2).length := x1.2.2.2
  have l3 : (aG (wNB e)).length ≤ g2.1.length := x3
  have pA : eCov ρ2 σA2 (some pcA) BA (mMc qA) (aL (wNA e)) (aCn (wNA e)) (aSn (wNA e)) (cHA c) LA a1 a2 := ⟨h3.1, vBd_loc r1 r2 e11 h3.2.1, by rw [lBd_spec r1 e13]; exact h3.2.2.1, by rw [lBd_spec r1 e14]; exact h3.2.2.2⟩
  have pB : eCov ρ2 σB2 (some pcB) BB (mMc qB) (aL (wNB e)) (aCn (wNB e)) (aSn (wNB e)) (cHB c) LB b1 b2 := ⟨h4.1, vBd_loc r1 r3 e15 h4.2.1, by rw [lBd_spec r1 e17]; exact h4.2.2.1, by rw [lBd_spec r1 e18]; exact h4.2.2.2⟩
  obtain ⟨oA, oB, z1, z2, z3⟩ := wPx_R (R := fun oA oB => ∀ ρ1 : Nat → Int, wPn (wPi u) ρ1 (cSA c) (xOh oA) → (∀ j, j < (wBd u).length → ρ1 ((wPi u).length + j) = v j) → (∀ x ∈ wPr u, 0 ≤ lEv ρ1 x) → wCon GA0.length GB0.length u ρ1 (cSA c) (cSB c) (xOh oA) (xOh oB)) hov hCT x9 hqA hqB hdA hdB hBA hBB x4 x5 pA pB (fun xA L S s1 cn sn xB L2 S2 s3 cn2 sn2 f5 r0 r0' ρ3 σA3 σB3 tyA3 tyB3 HA HB La Lb ca sa cb sb y1 y2 y3 y4 y5 y6 y7 y8 y9 y10 y11 oA oB v1 v2 => by
    rw [xOf_h v1, xOf_h v2]
    intro ρ1 p1 p2 p3
    have sA : ∀ i, i < GA0.length → sR σA3 i = sR (cSA c) i := fun i hi => by
      unfold sR
      rw [y2 i (by omega), r2 i (by omega)]
    have sB : ∀ i, i < GB0.length → sR σB3 i = sR (cSB c) i := fun i hi => by
      unfold sR
      rw [y3 i (by omega), r3 i (by omega)]
    have hB3 : vRel KT ρ3 σB3 tyB3 HB (wB (sJn s1 s3) (sG s3, sF s3)) := wB_of y8 y9 rfl rfl (vRel_noraw y9 r0')
    refine wCon_ext (wPo_spec y8 hB3 f5 (wPn_ext p1 (fun p hp => sA _ (of_decide_eq_true (List.all_eq_true.mp k5 p hp)))) (fun j hj => ?_) p3) (fun i hi => (sA i hi).symm) (fun i hi => (sB i hi).symm)
    rw [p2 j hj]
    have lk : sk2.length = (wBd u).length := by
      rw [x6]
      unfold wTold
      rw [List.length_map, List.length_range]
    have hs : sk2[j]? = some (sk2[j]'(by omega)) := List.getElem?_eq_getElem (by omega)
    have e4 := x7 j
    unfold rO
    rw [List.getD_eq_getElem?_getD, hs] at e4 ⊢
    have e5 : lEv ρ3 (sk2[j]'(by omega)) = lEv ρ2 (sk2[j]'(by omega)) := lBd_spec y1 (List.all_eq_true.mp x8 _ (List.mem_of_getElem? hs))
    show lEv ρ3 (sk2[j]'(by omega)) = v j
    rw [e5]
    refine Eq.trans e4 ?_
    have := wTold_at (ρ := ρ0) (n := (aI (wNA e)).length) hj
    unfold rO at this
    rw [this, t2])
  refine ⟨oA, oB, ⟨pcA, pcB, hpA, hpB, ?_, ?_⟩, z3⟩
  · rw [vBd_list r1 r2 e12] at z1
    exact z1
  · rw [vBd_list r1 r3 e16] at z2
    exact z2
/-- an edge, with families that were gone through again -/
theorem wFamE {KT : vKT} {tb : XT} {tyl : List FieldType} {ot : XO Int32} {ov : vOt} (hov : vOvLe ov (o4 ot)) {CT : Nat → List vCt} {hs : Nat → Nat → Option (List vHn)} {kn : Nat → Nat → Option Nat} (hCT : ∀ j c, c ∈ CT j → vCtSem KT tb tyl ot j c) {FS : List wN} {GA0 GB0 : List Nat} (hFS : ∀ u ∈ FS, wOk KT GA0 GB0 u = true) {n0 mA mB : Nat} {WA WB : List (Nat × Nat)} {f goA dpA kA goB dpB kB : Nat} {e : wE} {ops : List uOp} {outs : List (Bool × wE)}
    (hk : wEd KT tb tyl ov CT hs kn FS GA0 GB0 n0 mA mB WA WB f goA dpA kA goB dpB kB e ops outs = true) (gA : GA0.length ≤ mA) (gB : GB0.length ≤ mB) {V : List Nat} (hV : ∀ i ∈ V, ∀ u, FS[i]? = some u → wReE KT tb tyl ot FS GA0.length GB0.length kA kB dpA dpB goA goB outs e u) : wGoes KT tb tyl ot FS GA0.length GB0.length n0 mA mB WA WB kA kB dpA dpB e (outs.map (wAdd V)) := by
  intro qA qB dA dB BA BB hqA hqB hdA hdB hBA hBB c LA LB a1 a2 b1 b2 hat R hout
  obtain ⟨oA, oB, hr, o, ho, d, LA2, LB2, c1, c2, d1, d2, w1, w2, w3, w4, w5⟩ := wEd_R (ot := ot) hov hCT hFS hk qA qB dA dB BA BB hqA hqB hdA hdB hBA hBB c LA LB a1 a2 b1 b2 hat
  have sA : ∀ i, i < GA0.length → sR (cSA d) i = sR (cSA c) i := fun i hi => by
    unfold sR
    rw [w2.2.1 i (by omega)]
  have sB : ∀ i, i < GB0.length → sR (cSB d) i = sR (cSB c) i := fun i hi => by
    unfold sR
    rw [w2.2.2.1 i (by omega)]
  have fam : wHs FS GA0.length GB0.length (V ++ wUs o.2) d := fun i hi u hu => by
    rcases List.mem_append.mp hi with hi | hi
    · intro ρ1 p1 p2 p3
      obtain ⟨oA', oB', y1, y3⟩ := hV i hi u hu qA qB dA dB BA BB hqA hqB hdA hdB hBA hBB c LA LB a1 a2 b1 b2 hat (fun j => ρ1 ((wPi u).length + j)) p2
      obtain ⟨e1, e2⟩ := wRuns_one hr y1
      rw [e1, e2, xOf_h w4, xOf_h w5] at y3
      have hp := (wOk_a (hFS u (List.mem_of_getElem? hu))).1
      exact wCon_ext (y3 ρ1 (wPn_ext p1 (fun p hq => (sA _ (hp p hq)).symm)) (fun _ _ => rfl) p3) sA sB
    · exact w1.2.2.2.2 i hi u hu
  obtain ⟨vA, H1, vB, H2, y1, y2, y3⟩ := hout (wAdd V o) (List.mem_map.mpr ⟨o, ho, rfl⟩) d LA2 LB2 c1 c2 d1 d2 ⟨w1.1, w1.2.1, w1.2.2.1, w1.2.2.2.1, fam⟩ w2 w3
  have y1 : xE tb tyl ot (wQA o.2) dA kA LA2 ((aS (wNA o.2)).map (cv (cR d) (cSA d))) (cHA d) c1 c2 vA H1 := y1
  have y2 : xE tb tyl ot (wQB o.2) dB kB LB2 ((aS (wNB o.2)).map (cv (cR d) (cSB d))) (cHB d) d1 d2 vB H2 := y2
  obtain ⟨pcA, pcB, hA, hB, r1, r2⟩ := hr
  refine ⟨vA, H1, vB, H2, ?_, ?_, y3⟩
  · rw [hA]
    exact xRC_to r1 (xOf_fin w4 y1)
  · rw [hB]
    exact xRC_to r2 (xOf_fin w5 y2)
end XEdS
