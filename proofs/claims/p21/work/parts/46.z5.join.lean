/-! A pair of calls, from one heap of both sorts to the next. -/
noncomputable section XJoin
/-- unknowns, symbols, kinds and cells of both -/
abbrev pC : Type := (Nat → Int) × (Nat → Nat) × (Nat → Nat) × (Nat → Option Nat) × (Nat → Option Nat) × List (XC Int32) × List (XC Int32)
/-- from a first state on: where a pair stands -/
def pSt (KT : vKT) (n0 mA mB : Nat) (WA WB : List (Nat × Nat)) (b c : pC) (NA NB : vAn) : Prop :=
  vRel KT c.1 c.2.1 c.2.2.2.1 c.2.2.2.2.2.1 (aSt NA) ∧ vRel KT c.1 c.2.2.1 c.2.2.2.2.1 c.2.2.2.2.2.2 (aSt NB) ∧ (∀ i, i < n0 → c.1 i = b.1 i) ∧ (∀ i, i < mA → c.2.1 i = b.2.1 i) ∧ (∀ i, i < mB → c.2.2.1 i = b.2.2.1 i) ∧ vLe b.2.2.2.1 c.2.2.2.1 ∧ vLe b.2.2.2.2.1 c.2.2.2.2.1 ∧ vFrm WA b.2.2.2.1 b.2.2.2.2.2.1 c.2.2.2.2.2.1 ∧ vFrm WB b.2.2.2.2.1 b.2.2.2.2.2.2 c.2.2.2.2.2.2
/-- rows that stand in rows, never written -/
def pTl (KT : vKT) (mA mB : Nat) (WA WB : List (Nat × Nat)) (tl : vTl) (b : pC) : Prop :=
  vHp (fun c => KT.1[c]?) b.2.2.2.1 b.2.2.2.2.2.1 ∧ mA < 1000000 ∧ mB < 1000000 ∧ (∀ p ∈ tl, p.1 < mA ∧ p.2.1 < mB ∧ (∃ c, b.2.2.2.1 (sR b.2.1 p.1) = some c ∧ wIn WA c 0 = false ∧ wIn WA c 1 = false) ∧ ∃ c, b.2.2.2.2.1 (sR b.2.2.1 p.2.1) = some c ∧ wIn WB c 0 = false ∧ wIn WB c 1 = false) ∧ tHd tl b.2.1 b.2.2.1 b.2.2.2.2.2.1 b.2.2.2.2.2.2
theorem pTl_mv {KT : vKT} {n0 mA mB : Nat} {WA WB : List (Nat × Nat)} {tl : vTl} {b c : pC} {NA NB : vAn} (h : pTl KT mA mB WA WB tl b) (g : pSt KT n0 mA mB WA WB b c NA NB) : tHd tl c.2.1 c.2.2.1 c.2.2.2.2.2.1 c.2.2.2.2.2.2 := by
  obtain ⟨h1, h2, h3, h4, h5⟩ := h
  obtain ⟨-, -, -, g4, g5, -, -, g8, g9⟩ := g
  refine tHd_mv h5 (fun p hp => ?_) (fun p hp => ?_)
  · obtain ⟨p1, -, ⟨k, p3, p4, p5⟩, -⟩ := h4 p hp
    refine ⟨?_, fun t vs hv => vFrm_rowB g8 h1 p3 p4 p5 hv⟩
    unfold sR
    rw [if_pos (by omega), if_pos (by omega)]
    exact g4 _ p1
  · obtain ⟨-, p2, -, ⟨k, p3, p4, p5⟩⟩ := h4 p hp
    refine ⟨?_, fun t vs hv => vFrm_row g9 p3 p4 p5 hv⟩
    unfold sR
    rw [if_pos (by omega), if_pos (by omega)]
    exact g5 _ p2
/-- a way of both, from a first state on -/
theorem vPe_st {KT : vKT} {tb : XT} {tyl : List FieldType} {ot : XO Int32} {ov : vOt} (hov : vOvLe ov (o4 ot)) {CT : Nat → List vCt} {hs : Nat → Nat → Option (List vHn)} {kn : Nat → Nat → Option Nat} {WA WB : List (Nat × Nat)} (hCT : ∀ j c, c ∈ CT j → vCtSem KT tb tyl ot j c) {n0 mA mB : Nat} {tl : vTl} {f goA dpA kA pcA goB dpB kB pcB dA dB : Nat} {NA NB : vAn} {outs : List vPo}
    (hk : vPe KT tb tyl ov CT hs kn WA WB n0 mA mB tl f goA dpA kA pcA goB dpB kB pcB NA NB outs = true) {qA qB : XM} (hqA : tMth tb kA = some qA) (hqB : tMth tb kB = some qB) (hdA : dpA ≤ dA) (hdB : dpB ≤ dB) {BA BB : Nat} (hBA : BA + mMc qA ≤ 1000000) (hBB : BB + mMc qB ≤ 1000000)
    {b c : pC} (hl : pTl KT mA mB WA WB tl b) (hp : pSt KT n0 mA mB WA WB b c NA NB) {LA LB : List (Nat × XV Int32)} {cA sA cB sB : Nat} (eA : eAt c.1 c.2.1 (some pcA) BA (mMc qA) NA c.2.2.2.2.2.1 LA cA sA) (eB : eAt c.1 c.2.2.1 (some pcB) BB (mMc qB) NB c.2.2.2.2.2.2 LB cB sB)
    {R : Option (XV Int32) → List (XC Int32) → Option (XV Int32) → List (XC Int32) → Prop}
    (hout : ∀ o ∈ outs, ∀ (d : pC) LA2 LB2 cA2 sA2 cB2 sB2, pSt KT n0 mA mB WA WB b d o.2.2.1 o.2.2.2.1 → (o.2.2.2.2 = true → 0 ≤ lEv d.1 (aRk o.2.2.1) ∧ lEv d.1 (aRk o.2.2.1) < lEv c.1 (aRk NA)) → eAt d.1 d.2.1 o.1 BA (mMc qA) o.2.2.1 d.2.2.2.2.2.1 LA2 cA2 sA2 → eAt d.1 d.2.2.1 o.2.1 BB (mMc qB) o.2.2.2.1 d.2.2.2.2.2.2 LB2 cB2 sB2 →
      ∃ vA H1 vB H2, xE tb tyl ot o.1 dA kA LA2 ((aS o.2.2.1).map (cv d.1 d.2.1)) d.2.2.2.2.2.1 cA2 sA2 vA H1 ∧ xE tb tyl ot o.2.1 dB kB LB2 ((aS o.2.2.2.1).map (cv d.1 d.2.2.1)) d.2.2.2.2.2.2 cB2 sB2 vB H2 ∧ R vA H1 vB H2) :
    ∃ vA H1 vB H2, x_To tb tyl ot dA kA pcA LA ((aS NA).map (cv c.1 c.2.1)) c.2.2.2.2.2.1 cA sA vA H1 ∧ x_To tb tyl ot dB kB pcB LB ((aS NB).map (cv c.1 c.2.2.1)) c.2.2.2.2.2.2 cB sB vB H2 ∧ R vA H1 vB H2 := by
  have hl2 := pTl_mv hl hp
  obtain ⟨p1, p2, p3, p4, p5, p6, p7, p8, p9⟩ := hp
  refine vPe_spec hov hCT hk hqA hqB hdA hdB hBA hBB p1 p2 hl2 eA eB (fun o ho ρ2 σA2 σB2 tyA2 tyB2 HA HB LA2 LB2 cA2 sA2 cB2 sB2 x1 x2 x3 x4 x5 x6 x7 x8 x9 x10 x11 x12 => ?_)
  exact hout o ho (ρ2, σA2, σB2, tyA2, tyB2, HA, HB) LA2 LB2 cA2 sA2 cB2 sB2 ⟨x9, x10, fun i hi => (x1 i hi).trans (p3 i hi), fun i hi => (x2 i hi).trans (p4 i hi), fun i hi => (x3 i hi).trans (p5 i hi), vLe_tr p6 x5, vLe_tr p7 x6, vFrm_tr p8 p6 (fun _ _ h => h) x7, vFrm_tr p9 p7 (fun _ _ h => h) x8⟩ x4 x11 x12
/-- what a pair of calls came to: one of these -/
def pQ (KT : vKT) (n0 mA mB : Nat) (WA WB : List (Nat × Nat)) (mcA mcB : Nat) (XS : List (vAn × vAn)) (b : pC) (vA : Option (XV Int32)) (H1 : List (XC Int32)) (vB : Option (XV Int32)) (H2 : List (XC Int32)) : Prop :=
  ∃ x ∈ XS, ∃ (ρ2 : Nat → Int) (σA2 σB2 : Nat → Nat) (tyA2 tyB2 : Nat → Option Nat), pSt KT n0 mA mB WA WB b (ρ2, σA2, σB2, tyA2, tyB2, H1, H2) x.1 x.2 ∧ vA.toList = (aS x.1).map (cv ρ2 σA2) ∧ vB.toList = (aS x.2).map (cv ρ2 σB2) ∧ H1.length ≤ b.2.2.2.2.2.1.length + mcA ∧ H2.length ≤ b.2.2.2.2.2.2.length + mcB
/-- both ended so -/
theorem pQ_end {KT : vKT} {tb : XT} {tyl : List FieldType} {ot : XO Int32} {n0 mA mB dA kA dB kB mcA mcB cA sA cB sB : Nat} {WA WB : List (Nat × Nat)} {XS : List (vAn × vAn)} {b d : pC} {X Y : vAn} {LA LB : List (Nat × XV Int32)} (hx : (X, Y) ∈ XS) (hp : pSt KT n0 mA mB WA WB b d X Y) {u w : vA} (hu : aS X = [u]) (hw : aS Y = [w]) (l1 : d.2.2.2.2.2.1.length ≤ b.2.2.2.2.2.1.length + mcA) (l2 : d.2.2.2.2.2.2.length ≤ b.2.2.2.2.2.2.length + mcB) :
    ∃ vA H1 vB H2, xE tb tyl ot none dA kA LA ((aS X).map (cv d.1 d.2.1)) d.2.2.2.2.2.1 cA sA vA H1 ∧ xE tb tyl ot none dB kB LB ((aS Y).map (cv d.1 d.2.2.1)) d.2.2.2.2.2.2 cB sB vB H2 ∧ pQ KT n0 mA mB WA WB mcA mcB XS b vA H1 vB H2 := by
  refine ⟨some (cv d.1 d.2.1 u), _, some (cv d.1 d.2.2.1 w), _, ⟨by rw [hu]; rfl, rfl⟩, ⟨by rw [hw]; rfl, rfl⟩, (X, Y), hx, d.1, d.2.1, d.2.2.1, d.2.2.2.1, d.2.2.2.2.1, hp, by rw [hu]; rfl, by rw [hw]; rfl, l1, l2⟩
def jTa (n : Nat) (ps : List (Bool × Nat)) : List Nat := ps.map (fun p => if p.1 = true then n + p.2 else p.2)
/-- what the notes at the ends must give: the answers alike, and the head's note again; ps: where the head's symbols stand (true: in the second) -/
def jOk (N : vAn) (n0 mA mB : Nat) (τA τB : List Nat) (ps : List (Bool × Nat)) (x : vAn × vAn × List lT) : Bool :=
  aBd x.1 && aBd x.2.1 && decide ((aG x.1).length + (aG x.2.1).length < 1000000) &&
  vMc N x.2.2 (jTa (aG x.1).length ps) [] [] (jSt x.1 x.2.1) &&
  decide (2 ≤ n0) && lEq (x.2.2.getD 0 (lK 0)) (lSy 0) && lEq (x.2.2.getD 1 (lK 0)) (lAdd (lSy 1) (lK 7)) &&
  (List.range ps.length).all (fun i => match ps[i]? with
    | some q => if q.1 = true then decide (τB[q.2]? = some i) && decide (q.2 < mB) && decide (q.2 < (aG x.2.1).length) else decide (τA[q.2]? = some i) && decide (q.2 < mA) && decide (q.2 < (aG x.1).length)
    | none => false) &&
  (match aS x.1, aS x.2.1 with
    | [.inl e], [.inl g] => lQ (zipI 0 (aI x.1)) (aC x.1) e g
    | _, _ => false)
/-- notes without what a call's own state asks -/
def aNl (A : vAn) : vAn := (aG A, aI A, [], [], aF A, aC A, aM A, A.2.2.2.2.2.2.2.1, aRc A)
theorem aNl_st (A : vAn) : aSt (aNl A) = aSt A := rfl
theorem pJoinX {KT : vKT} {tb : XT} {tyl : List FieldType} {ot : XO Int32} {N NE EA EB : vAn} {pA pB : Nat → Bool} (cA : kCl KT.1 pA = true) (cB : kCl KT.1 pB = true) (qA : pA KT.2.1.1 = true → pA KT.2.1.2.2.2.1 = true) (qB : pB KT.2.1.1 = true → pB KT.2.1.2.2.2.1 = true) (hd : ∀ c, pA c = true → pB c = true → False) (hJ : KT.1.all (fun kd => match kd with | .inr o => decide (o.1 ≠ 77) | _ => true) = true)
    {τA τB : List Nat} {ps : List (Bool × Nat)} (mA1 : vMc (aNl EA) ((List.range (aI NE).length).map lSy) τA [] [] (aSt NE) = true) (mB1 : vMc (aNl EB) ((List.range (aI NE).length).map lSy) τB [] [] (aSt NE) = true) (gA : (aG EA).all pA = true) (gB : (aG EB).all pB = true) (bA : aBd EA = true) (bB : aBd EB = true) (hnN : (aG NE).length < 1000000) (hNp : ps.length = (aG N).length) (hNs : aS N = []) (htA : τA.all (fun i => decide (i < 1000000)) = true) (htB : τB.all (fun i => decide (i < 1000000)) = true)
    {n0 mA mB kA kB d mcA mcB : Nat} {WA WB : List (Nat × Nat)} {XS : List (vAn × vAn × List lT)} (hn0 : n0 ≤ (aI NE).length) (hXS : XS.all (jOk (aNl N) n0 mA mB τA τB ps) = true)
    {ρ : Nat → Int} {σ : Nat → Nat} {ty : Nat → Option Nat} {H : List (XC Int32)} (h : vRel KT ρ σ ty H (aSt NE)) {LA LB : List (Nat × XV Int32)}
    {Q : pC → Option (XV Int32) → List (XC Int32) → Option (XV Int32) → List (XC Int32) → Prop} (hQ : ∀ b vA H1 vB H2, Q b vA H1 vB H2 → pQ KT n0 mA mB WA WB mcA mcB (XS.map (fun x => (x.1, x.2.1))) b vA H1 vB H2)
    (hP2 : ∀ b : pC, pSt KT n0 mA mB WA WB b b EA EB → b.1 = rO ρ ((List.range (aI NE).length).map lSy) → b.2.1 = sO σ τA → b.2.2.1 = sO σ τB → b.2.2.2.1 = tyP pA ty → b.2.2.2.2.1 = tyP pB ty → (∀ a c, tyP pA ty a = some c → b.2.2.2.2.2.1[a]? = H[a]?) → (∀ a c, tyP pB ty a = some c → b.2.2.2.2.2.2[a]? = H[a]?) → b.2.2.2.2.2.1.length = H.length → b.2.2.2.2.2.2.length ≤ H.length + mcA →
      ∃ vA H1 vB H2, x_To tb tyl ot d kA 0 LA [] b.2.2.2.2.2.1 0 0 vA H1 ∧ x_To tb tyl ot d kB 0 LB [] b.2.2.2.2.2.2 0 0 vB H2 ∧ Q b vA H1 vB H2) :
    ∃ (b : pC) (H1 H2 : List (XC Int32)) (a : Int32) (HA HH : List (XC Int32)) (ρ2 : Nat → Int) (σ2 : Nat → Nat) (ty2 : Nat → Option Nat), x_To tb tyl ot d kA 0 LA [] H 0 0 (some (.inl a)) HA ∧ x_To tb tyl ot d kB 0 LB [] HA 0 0 (some (.inl a)) HH ∧ ρ2 0 = ρ 0 ∧ ρ2 1 = ρ 1 + 7 ∧ (∀ i, i < ps.length → sR σ2 i = sR σ i) ∧ vRel KT ρ2 σ2 ty2 HH (aSt N) ∧ HH.length ≤ H.length + (mcA + mcB) ∧
      (∃ vA vB, Q b vA H1 vB H2) ∧ b.1 = rO ρ ((List.range (aI NE).length).map lSy) ∧ b.2.1 = sO σ τA ∧ b.2.2.1 = sO σ τB ∧ b.2.2.2.1 = tyP pA ty ∧ b.2.2.2.2.1 = tyP pB ty ∧ (∀ a c, tyP pA ty a = some c → b.2.2.2.2.2.1[a]? = H[a]?) ∧ (∀ a c, tyP pB ty a = some c → b.2.2.2.2.2.2[a]? = H[a]? ∧ HA[a]? = H[a]?) ∧ (∀ a c, tyP pA ty a = some c → HH[a]? = H1[a]?) ∧ (∀ a c, tyP pB ty a = some c → HH[a]? = H2[a]?) ∧ ∃ z ∈ XS, ∀ (A : vAn) (θ2 : List lT), vMc A θ2 (jTa (aG z.1).length ps) [] [] (jSt z.1 z.2.1) = true → ∃ ρ4, vRel KT ρ4 σ2 ty2 HH (aSt A) := by
  obtain ⟨eA, -, -, -, -, -⟩ := vMc_spec h mA1
  obtain ⟨eB, -, -, -, -, -⟩ := vMc_spec h mB1
  have fA : (sF (aSt EA)).all (fun f => decide (f.1 < (sG (aSt EA)).length)) = true := by
    unfold aBd at bA
    simp only [Bool.and_eq_true] at bA
    refine List.all_eq_true.mpr fun f hf => ?_
    have h0 := List.all_eq_true.mp bA.1.1.1.1 f hf
    simp only [Bool.and_eq_true] at h0
    exact h0.1.1
  have fB : (sF (aSt EB)).all (fun f => decide (f.1 < (sG (aSt EB)).length)) = true := by
    unfold aBd at bB
    simp only [Bool.and_eq_true] at bB
    refine List.all_eq_true.mpr fun f hf => ?_
    have h0 := List.all_eq_true.mp bB.1.1.1.1 f hf
    simp only [Bool.and_eq_true] at h0
    exact h0.1.1
  have rA := vRel_kp (s := aSt EA) cA qA eA gA fA
  have rB := vRel_kp (s := aSt EB) cB qB eB gB fB
  have hlt : ∀ a c, ty a = some c → a < H.length := fun a c ha => vHp_lt h.1 ha
  have hAB : ∀ a c, tyP pB ty a = some c → tyP pA ty a = none ∧ a < H.length := fun a c hc => by
    obtain ⟨z1, z2⟩ := tyP_iff.mp hc
    refine ⟨?_, hlt a c z1⟩
    rcases hx : tyP pA ty a with _ | e
    · rfl
    · obtain ⟨z3, z4⟩ := tyP_iff.mp hx
      rw [z1] at z3
      cases z3
      exact (hd c z4 z2).elim
  -- the first states, by how many cells the first call makes
  let b : Nat → pC := fun n => (rO ρ ((List.range (aI NE).length).map lSy), sO σ τA, sO σ τB, tyP pA ty, tyP pB ty, zKp (tyP pA ty) H, zKp (tyP pB ty) H ++ List.replicate n zJ)
  have hb : ∀ n, pSt KT n0 mA mB WA WB (b n) (b n) EA EB := fun n => ⟨rA, vRel_pad rB fB _, fun _ _ => rfl, fun _ _ => rfl, fun _ _ => rfl, vLe_rf _, vLe_rf _, vFrm_rf _ _ _, vFrm_rf _ _ _⟩
  have hb1 : ∀ a c, tyP pA ty a = some c → (zKp (tyP pA ty) H)[a]? = H[a]? := fun a c ha => zKp_ty H ha
  have hb2 : ∀ n a c, tyP pB ty a = some c → (zKp (tyP pB ty) H ++ List.replicate n zJ)[a]? = H[a]? := fun n a c ha => by
    rw [List.getElem?_append_left (by rw [zKp_len]; exact (hAB a c ha).2), zKp_ty H ha]
  have hgo : ∀ n, n ≤ mcA → ∃ vA H1 vB H2, x_To tb tyl ot d kA 0 LA [] (zKp (tyP pA ty) H) 0 0 vA H1 ∧ x_To tb tyl ot d kB 0 LB [] (zKp (tyP pB ty) H ++ List.replicate n zJ) 0 0 vB H2 ∧ Q (b n) vA H1 vB H2 := fun n hn => hP2 (b n) (hb n) rfl rfl rfl rfl rfl hb1 (hb2 n) (zKp_len _ _) (by
    show (zKp (tyP pB ty) H ++ List.replicate n zJ).length ≤ H.length + mcA
    rw [List.length_append, zKp_len, List.length_replicate]
    omega)
  obtain ⟨v0, J1, u0, K1, p1, -, p3⟩ := hgo 0 (Nat.zero_le _)
  obtain ⟨x0, -, r0, s0, s1, t0, t1, -, -, -, l1, -⟩ := hQ _ _ _ _ _ p3
  have l1 : J1.length ≤ H.length + mcA := by
    have l1 : J1.length ≤ (zKp (tyP pA ty) H).length + mcA := l1
    rw [zKp_len] at l1
    exact l1
  obtain ⟨vA, H1, vB, H2, q1, q2, q3⟩ := hgo (J1.length - H.length) (by omega)
  obtain ⟨e1, e2⟩ := x_To_one p1 q1
  subst e1
  subst e2
  obtain ⟨x, hx, ρ2, σA2, σB2, tyA2, tyB2, ⟨y1, y2, y3, y4, y5, y6, y7, y8, y9⟩, y10, y11, y12, y13⟩ := hQ _ _ _ _ _ q3
  have y1 : vRel KT ρ2 σA2 tyA2 H1 (aSt x.1) := y1
  have y2 : vRel KT ρ2 σB2 tyB2 H2 (aSt x.2) := y2
  have y6 : vLe (tyP pA ty) tyA2 := y6
  have y7 : vLe (tyP pB ty) tyB2 := y7
  have dT : ∀ (ty : Nat → Option Nat) (n a : Nat), a < n ∧ ty a = none → zD ty n a = true := fun ty n a h => by
    unfold zD
    rw [decide_eq_true h.1, h.2]
    rfl
  have dF : ∀ (ty : Nat → Option Nat) (n a : Nat), ¬ (a < n ∧ ty a = none) → zD ty n a = false := fun ty n a h => by
    unfold zD
    by_cases c : a < n
    · rw [decide_eq_true c]
      rcases ht : ty a with _ | d
      · exact absurd ⟨c, ht⟩ h
      · rfl
    · rw [decide_eq_false c]
      rfl
  obtain ⟨a1, a2⟩ := x_To_fr p1 (zKp_tr (tyP pA ty) H) (zKp_mx (tyP pA ty) H)
  have hle : H.length ≤ H1.length := Classical.byContradiction fun hc => by
    rcases ht : tyP pA ty H1.length with _ | c
    · exact absurd (zTr_lt a2 (dT (tyP pA ty) H.length H1.length ⟨by omega, ht⟩)) (by omega)
    · exact absurd (vHp_lt y1.1 (y6 _ c ht)) (by omega)
  have hA1 : ∀ a, a < H.length ∧ tyP pA ty a = none → (zMx (zD (tyP pA ty) H.length) H H1)[a]? = H[a]? := fun a h => zMx_old a2 (dT _ _ _ h) h.1
  have hA2 : ∀ a, ¬ (a < H.length ∧ tyP pA ty a = none) → (zMx (zD (tyP pA ty) H.length) H H1)[a]? = H1[a]? := fun a h => zMx_get H (dF _ _ _ h)
  have hlA : (zMx (zD (tyP pA ty) H.length) H H1).length = H1.length := zMx_len _ _ _
  have hG : ∀ a, tyP pB ty a = none → a < H1.length → (zKp (tyP pB ty) H ++ List.replicate (H1.length - H.length) zJ)[a]? = some zJ := fun a h1 h2 => by
    by_cases c : a < H.length
    · rw [List.getElem?_append_left (by rw [zKp_len]; exact c)]
      exact zKp_tr (tyP pB ty) H a (dT (tyP pB ty) H.length a ⟨c, h1⟩)
    · rw [List.getElem?_append_right (by rw [zKp_len]; omega), zKp_len, List.getElem?_replicate, if_pos (by omega)]
  obtain ⟨b1, b2⟩ := x_To_fr (D := zD (tyP pB ty) H1.length) (HX := zMx (zD (tyP pA ty) H.length) H H1) q2 (fun a ha => by
      unfold zD at ha
      have h := Bool.and_eq_true_iff.mp ha
      exact hG a (by simpa using h.2) (of_decide_eq_true h.1)) (List.ext_getElem? fun a => by
      by_cases c : a < H1.length
      · rcases ht : tyP pB ty a with _ | d
        · rw [zMx_at, hG a ht c, dT (tyP pB ty) H1.length a ⟨c, ht⟩, List.getElem?_eq_getElem (by rw [hlA]; exact c)]
          rfl
        · obtain ⟨g1, g2⟩ := hAB a d ht
          rw [zMx_get _ (dF (tyP pB ty) H1.length a (fun h => by rw [ht] at h; cases h.2)), hA1 a ⟨g2, g1⟩, List.getElem?_append_left (by rw [zKp_len]; exact g2), zKp_ty H ht]
      · rw [List.getElem?_eq_none (by rw [zMx_len, List.length_append, zKp_len, List.length_replicate]; omega), List.getElem?_eq_none (by rw [hlA]; omega)])
  have hB1 : ∀ a, a < H1.length ∧ tyP pB ty a = none → (zMx (zD (tyP pB ty) H1.length) (zMx (zD (tyP pA ty) H.length) H H1) H2)[a]? = (zMx (zD (tyP pA ty) H.length) H H1)[a]? := fun a h => zMx_old b2 (dT _ _ _ h) (by rw [hlA]; exact h.1)
  have hB2 : ∀ a, ¬ (a < H1.length ∧ tyP pB ty a = none) → (zMx (zD (tyP pB ty) H1.length) (zMx (zD (tyP pA ty) H.length) H H1) H2)[a]? = H2[a]? := fun a h => zMx_get _ (dF _ _ _ h)
  have noJ : ∀ (ty' : Nat → Option Nat) (G : List (XC Int32)), vHp (fun c => KT.1[c]?) ty' G → ∀ a c, ty' a = some c → G[a]? = some zJ → False := fun ty' G hp a c ha hz => by
    obtain ⟨kd, z, k1, k2, k3⟩ := hp a c ha
    rw [hz] at k2
    cases k2
    have k4 := List.all_eq_true.mp hJ kd (List.mem_of_getElem? k1)
    rcases kd with o | o
    · exact k3
    · have k5 : (77 : Nat) = o.1 := k3.1
      exact (of_decide_eq_true k4) k5.symm
  have nA : ∀ a c, tyA2 a = some c → ¬ (a < H.length ∧ tyP pA ty a = none) := fun a c ha hz => noJ _ _ y1.1 a c ha (a2 a (dT _ _ _ hz))
  have nB : ∀ a c, tyB2 a = some c → ¬ (a < H1.length ∧ tyP pB ty a = none) := fun a c ha hz => noJ _ _ y2.1 a c ha (b2 a (dT _ _ _ hz))
  have oA : ∀ a c, tyA2 a = some c → tyP pB ty a = none := fun a c ha => by
    rcases ht : tyP pB ty a with _ | e
    · rfl
    · obtain ⟨g1, g2⟩ := hAB a e ht
      exact (nA a c ha ⟨g2, g1⟩).elim
  have oB : ∀ a c, tyB2 a = some c → tyA2 a = none := fun a c ha => by
    rcases ht : tyA2 a with _ | e
    · rfl
    · exact (nB a c ha ⟨vHp_lt y1.1 ht, oA a e ht⟩).elim
  have HHA : ∀ a c, tyA2 a = some c → (zMx (zD (tyP pB ty) H1.length) (zMx (zD (tyP pA ty) H.length) H H1) H2)[a]? = H1[a]? := fun a c ha => by
    rw [hB1 a ⟨vHp_lt y1.1 ha, oA a c ha⟩]
    exact hA2 a (nA a c ha)
  have HHB : ∀ a c, tyB2 a = some c → (zMx (zD (tyP pB ty) H1.length) (zMx (zD (tyP pA ty) H.length) H H1) H2)[a]? = H2[a]? := fun a c ha => hB2 a (nB a c ha)
  obtain ⟨z, hz, rfl⟩ := List.mem_map.mp hx
  have hj := List.all_eq_true.mp hXS z hz
  unfold jOk at hj
  simp only [Bool.and_eq_true] at hj
  obtain ⟨⟨⟨⟨⟨⟨⟨⟨j1, j2⟩, j3⟩, j4⟩, j5⟩, j6⟩, j7⟩, j8⟩, j9⟩ := hj
  have j3 := of_decide_eq_true j3
  have j5 := of_decide_eq_true j5
  have hjn := vRel_jn (ty := fun a => match tyA2 a with | some c => some c | none => tyB2 a) (H := zMx (zD (tyP pB ty) H1.length) (zMx (zD (tyP pA ty) H.length) H H1) H2) y1 y2 j1 j2 j3 (fun a c ha => ⟨by
      try dsimp only
      rw [ha], HHA a c ha⟩) (fun a c ha => ⟨by
      try dsimp only
      rw [oB a c ha]
      exact ha, HHB a c ha⟩) (fun a c ha => by
      try dsimp only at ha
      rcases ht : tyA2 a with _ | e
      · rw [ht] at ha
        exact Or.inr ha
      · rw [ht] at ha
        exact Or.inl ha)
  obtain ⟨w1, -, -, -, -, -⟩ := vMc_spec hjn j4
  have w1 : vRel KT (rO ρ2 z.2.2) (sO (sJo (aG z.1).length σA2 σB2) (jTa (aG z.1).length ps)) (fun a => match tyA2 a with | some c => some c | none => tyB2 a) (zMx (zD (tyP pB ty) H1.length) (zMx (zD (tyP pA ty) H.length) H H1) H2) (aSt N) := w1
  have hρ : ∀ i, i < n0 → ρ2 i = ρ i := fun i hi => by
    have y3 : ρ2 i = rO ρ ((List.range (aI NE).length).map lSy) i := y3 i hi
    rw [y3]
    unfold rO
    rw [List.getD_eq_getElem?_getD, List.getElem?_map, List.getElem?_range (by omega)]
    exact lSy_ev ρ i
  have hs : ∀ i, i < ps.length → sR (sO (sJo (aG z.1).length σA2 σB2) (jTa (aG z.1).length ps)) i = sR σ i := fun i hi => by
    have hN : (aG N).length < 1000000 := by
      have k := j4
      unfold vMc at k
      simp only [Bool.and_eq_true] at k
      exact of_decide_eq_true k.2
    have hp : ps[i]? = some (ps[i]'hi) := List.getElem?_eq_getElem hi
    have j8 := List.all_eq_true.mp j8 i (List.mem_range.mpr hi)
    rw [hp] at j8
    generalize ps[i]'hi = q at hp j8
    obtain ⟨q1, q2⟩ := q
    dsimp only at j8
    have ht : (jTa (aG z.1).length ps).getD i 0 = if q1 = true then (aG z.1).length + q2 else q2 := by
      unfold jTa
      rw [List.getD_eq_getElem?_getD, List.getElem?_map, hp]
      rfl
    have hl : sR (sO (sJo (aG z.1).length σA2 σB2) (jTa (aG z.1).length ps)) i = sR (sJo (aG z.1).length σA2 σB2) (if q1 = true then (aG z.1).length + q2 else q2) := by
      rw [← ht]
      exact if_pos (by omega)
    have tm : ∀ (τ : List Nat), τ.all (fun i => decide (i < 1000000)) = true → τ[q2]? = some i → sO σ τ q2 = sR σ i := fun τ _ hτ => by
      unfold sO
      rw [List.getD_eq_getElem?_getD, hτ]
      rfl
    rw [hl]
    rcases q1 with _ | _
    · rw [if_neg (by decide)] at j8 ⊢
      simp only [Bool.and_eq_true, decide_eq_true_eq] at j8
      obtain ⟨⟨u1, u2⟩, u3⟩ := j8
      have y4 : σA2 q2 = sO σ τA q2 := y4 q2 u2
      show (if q2 < 1000000 then sJo (aG z.1).length σA2 σB2 q2 else q2) = _
      rw [if_pos (by omega)]
      show (if q2 < (aG z.1).length then sR σA2 q2 else _) = _
      rw [if_pos u3]
      show (if q2 < 1000000 then σA2 q2 else q2) = _
      rw [if_pos (by omega), y4]
      exact tm τA htA u1
    · rw [if_pos rfl] at j8 ⊢
      simp only [Bool.and_eq_true, decide_eq_true_eq] at j8
      obtain ⟨⟨u1, u2⟩, u3⟩ := j8
      have y5 : σB2 q2 = sO σ τB q2 := y5 q2 u2
      show (if (aG z.1).length + q2 < 1000000 then sJo (aG z.1).length σA2 σB2 ((aG z.1).length + q2) else _) = _
      rw [if_pos (by omega)]
      show (if (aG z.1).length + q2 < (aG z.1).length then _ else sR σB2 ((aG z.1).length + q2 - (aG z.1).length)) = _
      rw [if_neg (by omega), Nat.add_sub_cancel_left]
      show (if q2 < 1000000 then σB2 q2 else q2) = _
      rw [if_pos (by omega), y5]
      exact tm τB htB u1
  have hval : ∃ a : Int32, vA = some (.inl a) ∧ vB = some (.inl a) := by
    have y10 : vA.toList = (aS z.1).map (cv ρ2 σA2) := y10
    have y11 : vB.toList = (aS z.2.1).map (cv ρ2 σB2) := y11
    split at j9
    · rename_i e g h1 h2
      have e2 := lQ_spec y1.2.2.2.1 y1.2.2.2.2.1 j9
      rw [h1] at y10
      rw [h2] at y11
      refine ⟨Int32.ofInt (lEv ρ2 e), optList y10, optList ?_⟩
      rw [y11]
      show [Sum.inl (Int32.ofInt (lEv ρ2 g))] = [Sum.inl (Int32.ofInt (lEv ρ2 e))]
      rw [e2]
    · cases j9
  obtain ⟨a, va, vb⟩ := hval
  subst va
  subst vb
  have y13 : H2.length ≤ (zKp (tyP pB ty) H ++ List.replicate (H1.length - H.length) zJ).length + mcB := y13
  refine ⟨b (H1.length - H.length), H1, H2, a, _, _, rO ρ2 z.2.2, sO (sJo (aG z.1).length σA2 σB2) (jTa (aG z.1).length ps), _, a1, b1, ?_, ?_, hs, w1, ?_, ⟨_, _, q3⟩, rfl, rfl, rfl, rfl, rfl, hb1, fun a c ha => ⟨hb2 _ a c ha, hA1 a ⟨(hAB a c ha).2, (hAB a c ha).1⟩⟩, fun a c ha => HHA a c (y6 a c ha), fun a c ha => HHB a c (y7 a c ha), z, hz, fun A θ2 hA => ⟨_, (vMc_spec hjn hA).1⟩⟩
  · show lEv ρ2 (z.2.2.getD 0 (lK 0)) = ρ 0
    rw [lEq_spec j6, lSy_ev, hρ 0 (by omega)]
  · show lEv ρ2 (z.2.2.getD 1 (lK 0)) = ρ 1 + 7
    rw [lEq_spec j7, lAdd_ev, lSy_ev, lK_ev, hρ 1 (by omega)]
  · rw [zMx_len]
    rw [List.length_append, zKp_len, List.length_replicate] at y13
    omega
theorem pJoin {KT : vKT} {tb : XT} {tyl : List FieldType} {ot : XO Int32} {N NE EA EB : vAn} {pA pB : Nat → Bool} (cA : kCl KT.1 pA = true) (cB : kCl KT.1 pB = true) (qA : pA KT.2.1.1 = true → pA KT.2.1.2.2.2.1 = true) (qB : pB KT.2.1.1 = true → pB KT.2.1.2.2.2.1 = true) (hd : ∀ c, pA c = true → pB c = true → False) (hJ : KT.1.all (fun kd => match kd with | .inr o => decide (o.1 ≠ 77) | _ => true) = true)
    {τA τB : List Nat} {ps : List (Bool × Nat)} (mA1 : vMc (aNl EA) ((List.range (aI NE).length).map lSy) τA [] [] (aSt NE) = true) (mB1 : vMc (aNl EB) ((List.range (aI NE).length).map lSy) τB [] [] (aSt NE) = true) (gA : (aG EA).all pA = true) (gB : (aG EB).all pB = true) (bA : aBd EA = true) (bB : aBd EB = true) (hnN : (aG NE).length < 1000000) (hNp : ps.length = (aG N).length) (hNs : aS N = []) (htA : τA.all (fun i => decide (i < 1000000)) = true) (htB : τB.all (fun i => decide (i < 1000000)) = true)
    {n0 mA mB kA kB d mcA mcB : Nat} {WA WB : List (Nat × Nat)} {XS : List (vAn × vAn × List lT)} (hn0 : n0 ≤ (aI NE).length) (hXS : XS.all (jOk (aNl N) n0 mA mB τA τB ps) = true)
    {ρ : Nat → Int} {σ : Nat → Nat} {ty : Nat → Option Nat} {H : List (XC Int32)} (h : vRel KT ρ σ ty H (aSt NE)) {LA LB : List (Nat × XV Int32)}
    {Q : pC → Option (XV Int32) → List (XC Int32) → Option (XV Int32) → List (XC Int32) → Prop} (hQ : ∀ b vA H1 vB H2, Q b vA H1 vB H2 → pQ KT n0 mA mB WA WB mcA mcB (XS.map (fun x => (x.1, x.2.1))) b vA H1 vB H2)
    (hP2 : ∀ b : pC, pSt KT n0 mA mB WA WB b b EA EB → b.1 = rO ρ ((List.range (aI NE).length).map lSy) → b.2.1 = sO σ τA → b.2.2.1 = sO σ τB → b.2.2.2.1 = tyP pA ty → b.2.2.2.2.1 = tyP pB ty → (∀ a c, tyP pA ty a = some c → b.2.2.2.2.2.1[a]? = H[a]?) → (∀ a c, tyP pB ty a = some c → b.2.2.2.2.2.2[a]? = H[a]?) → b.2.2.2.2.2.1.length = H.length → b.2.2.2.2.2.2.length ≤ H.length + mcA →
      ∃ vA H1 vB H2, x_To tb tyl ot d kA 0 LA [] b.2.2.2.2.2.1 0 0 vA H1 ∧ x_To tb tyl ot d kB 0 LB [] b.2.2.2.2.2.2 0 0 vB H2 ∧ Q b vA H1 vB H2) :
    ∃ (b : pC) (H1 H2 : List (XC Int32)) (a : Int32) (HA HH : List (XC Int32)) (ρ2 : Nat → Int) (σ2 : Nat → Nat) (ty2 : Nat → Option Nat), x_To tb tyl ot d kA 0 LA [] H 0 0 (some (.inl a)) HA ∧ x_To tb tyl ot d kB 0 LB [] HA 0 0 (some (.inl a)) HH ∧ ρ2 0 = ρ 0 ∧ ρ2 1 = ρ 1 + 7 ∧ (∀ i, i < ps.length → sR σ2 i = sR σ i) ∧ vRel KT ρ2 σ2 ty2 HH (aSt N) ∧ HH.length ≤ H.length + (mcA + mcB) ∧
      (∃ vA vB, Q b vA H1 vB H2) ∧ b.1 = rO ρ ((List.range (aI NE).length).map lSy) ∧ b.2.1 = sO σ τA ∧ b.2.2.1 = sO σ τB ∧ b.2.2.2.1 = tyP pA ty ∧ b.2.2.2.2.1 = tyP pB ty ∧ (∀ a c, tyP pA ty a = some c → b.2.2.2.2.2.1[a]? = H[a]?) ∧ (∀ a c, tyP pB ty a = some c → b.2.2.2.2.2.2[a]? = H[a]? ∧ HA[a]? = H[a]?) ∧ (∀ a c, tyP pA ty a = some c → HH[a]? = H1[a]?) ∧ (∀ a c, tyP pB ty a = some c → HH[a]? = H2[a]?) := by
  obtain ⟨b, H1, H2, a, HA, HH, ρ2, σ2, ty2, q1, q2, q3, q4, q5, q6, q7, q8, q9, q10, q11, q12, q13, q14, q15, q16, q17, -⟩ := pJoinX cA cB qA qB hd hJ mA1 mB1 gA gB bA bB hnN hNp hNs htA htB hn0 hXS h hQ hP2
  exact ⟨b, H1, H2, a, HA, HH, ρ2, σ2, ty2, q1, q2, q3, q4, q5, q6, q7, q8, q9, q10, q11, q12, q13, q14, q15, q16, q17⟩
end XJoin
