/-! Pairs of runs: blocks of the law with families at its head. -/
noncomputable section XHead
/-- what a pair of calls came to, and what holds there -/
def pW (KT : vKT) (n0 mA mB : Nat) (WA WB : List (Nat × Nat)) (mcA mcB : Nat) (XS : List (vAn × vAn)) (Φ : pC → Prop) (b : pC) (vA : Option (XV Int32)) (H1 : List (XC Int32)) (vB : Option (XV Int32)) (H2 : List (XC Int32)) : Prop :=
  ∃ x ∈ XS, ∃ d : pC, d.2.2.2.2.2.1 = H1 ∧ d.2.2.2.2.2.2 = H2 ∧ pSt KT n0 mA mB WA WB b d x.1 x.2 ∧ Φ d ∧ vA.toList = (aS x.1).map (cv d.1 d.2.1) ∧ vB.toList = (aS x.2).map (cv d.1 d.2.2.1) ∧ H1.length ≤ b.2.2.2.2.2.1.length + mcA ∧ H2.length ≤ b.2.2.2.2.2.2.length + mcB
theorem pJoinW {KT : vKT} {tb : XT} {tyl : List FieldType} {ot : XO Int32} {N NE EA EB : vAn} {pA pB : Nat → Bool} (cA : kCl KT.1 pA = true) (cB : kCl KT.1 pB = true) (qA : pA KT.2.1.1 = true → pA KT.2.1.2.2.2.1 = true) (qB : pB KT.2.1.1 = true → pB KT.2.1.2.2.2.1 = true) (hd : ∀ c, pA c = true → pB c = true → False) (hJ : KT.1.all (fun kd => match kd with | .inr o => decide (o.1 ≠ 77) | _ => true) = true)
    {τA τB : List Nat} {ps : List (Bool × Nat)} (mA1 : vMc (aNl EA) ((List.range (aI NE).length).map lSy) τA [] [] (aSt NE) = true) (mB1 : vMc (aNl EB) ((List.range (aI NE).length).map lSy) τB [] [] (aSt NE) = true) (gA : (aG EA).all pA = true) (gB : (aG EB).all pB = true) (bA : aBd EA = true) (bB : aBd EB = true) (hnN : (aG NE).length < 1000000) (hNp : ps.length = (aG N).length) (hNs : aS N = []) (htA : τA.all (fun i => decide (i < 1000000)) = true) (htB : τB.all (fun i => decide (i < 1000000)) = true)
    {n0 mA mB kA kB d mcA mcB : Nat} {WA WB : List (Nat × Nat)} {XS : List (vAn × vAn × List lT)} (hn0 : n0 ≤ (aI NE).length) (hXS : XS.all (jOk (aNl N) n0 mA mB τA τB ps) = true)
    {ρ : Nat → Int} {σ : Nat → Nat} {ty : Nat → Option Nat} {H : List (XC Int32)} (h : vRel KT ρ σ ty H (aSt NE)) {LA LB : List (Nat × XV Int32)}
    {Φ : pC → Prop}
    (hP2 : ∀ b : pC, pSt KT n0 mA mB WA WB b b EA EB → b.1 = rO ρ ((List.range (aI NE).length).map lSy) → b.2.1 = sO σ τA → b.2.2.1 = sO σ τB → b.2.2.2.1 = tyP pA ty → b.2.2.2.2.1 = tyP pB ty → (∀ a c, tyP pA ty a = some c → b.2.2.2.2.2.1[a]? = H[a]?) → (∀ a c, tyP pB ty a = some c → b.2.2.2.2.2.2[a]? = H[a]?) → b.2.2.2.2.2.1.length = H.length → b.2.2.2.2.2.2.length ≤ H.length + mcA →
      ∃ vA H1 vB H2, x_To tb tyl ot d kA 0 LA [] b.2.2.2.2.2.1 0 0 vA H1 ∧ x_To tb tyl ot d kB 0 LB [] b.2.2.2.2.2.2 0 0 vB H2 ∧ pW KT n0 mA mB WA WB mcA mcB (XS.map (fun x => (x.1, x.2.1))) Φ b vA H1 vB H2) :
    ∃ (a : Int32) (HA HH : List (XC Int32)) (ρ2 : Nat → Int) (σ2 : Nat → Nat) (ty2 : Nat → Option Nat) (d0 : pC), x_To tb tyl ot d kA 0 LA [] H 0 0 (some (.inl a)) HA ∧ x_To tb tyl ot d kB 0 LB [] HA 0 0 (some (.inl a)) HH ∧ ρ2 0 = ρ 0 ∧ ρ2 1 = ρ 1 + 7 ∧ (∀ i, i < ps.length → sR σ2 i = sR σ i) ∧ vRel KT ρ2 σ2 ty2 HH (aSt N) ∧ HH.length ≤ H.length + (mcA + mcB) ∧
      Φ d0 ∧ (∀ i, i < mA → d0.2.1 i = sO σ τA i) ∧ (∀ i, i < mB → d0.2.2.1 i = sO σ τB i) ∧ vHp (fun c => KT.1[c]?) d0.2.2.2.1 d0.2.2.2.2.2.1 ∧ vHp (fun c => KT.1[c]?) d0.2.2.2.2.1 d0.2.2.2.2.2.2 ∧ vLe (tyP pA ty) d0.2.2.2.1 ∧ vLe (tyP pB ty) d0.2.2.2.2.1 ∧ (∀ a c, tyP pB ty a = some c → HA[a]? = H[a]?) ∧ (∀ a c, d0.2.2.2.1 a = some c → HH[a]? = d0.2.2.2.2.2.1[a]?) ∧ (∀ a c, d0.2.2.2.2.1 a = some c → HH[a]? = d0.2.2.2.2.2.2[a]?) ∧ vFrm WA (tyP pA ty) H HH ∧ vFrm WB (tyP pB ty) H HH := by
  obtain ⟨eA, -, -, -, -, -⟩ := vMc_spec h mA1
  obtain ⟨eB, -, -, -, -, -⟩ := vMc_spec h mB1
  have fA : (sF (aSt EA)).all (fun f => decide (f.1 < (sG (aSt EA)).length)) = true := by
    unfold aBd at bA
    simp only [Bool.and_eq_true] at bA
    refine List.all_eq_true.mpr fun f hf => ?_
    have h0 := List.all_eq_true.mp bA.1.1.1.1 f hf
    simp only [Bool.and_eq_true] at h0
    exact h0.1.1
  have fB : (sF (aSt EB)).all (fun f => decide (f.1 < (sG (aSt EB)).length)) = true := by
    unfold aBd at bB
    simp only [Bool.and_eq_true] at bB
    refine List.all_eq_true.mpr fun f hf => ?_
    have h0 := List.all_eq_true.mp bB.1.1.1.1 f hf
    simp only [Bool.and_eq_true] at h0
    exact h0.1.1
  have rA := vRel_kp (s := aSt EA) cA qA eA gA fA
  have rB := vRel_kp (s := aSt EB) cB qB eB gB fB
  have hlt : ∀ a c, ty a = some c → a < H.length := fun a c ha => vHp_lt h.1 ha
  have hAB : ∀ a c, tyP pB ty a = some c → tyP pA ty a = none ∧ a < H.length := fun a c hc => by
    obtain ⟨z1, z2⟩ := tyP_iff.mp hc
    refine ⟨?_, hlt a c z1⟩
    rcases hx : tyP pA ty a with _ | e
    · rfl
    · obtain ⟨z3, z4⟩ := tyP_iff.mp hx
      rw [z1] at z3
      cases z3
      exact (hd c z4 z2).elim
  -- the first states, by how many cells the first call makes
  let b : Nat → pC := fun n => (rO ρ ((List.range (aI NE).length).map lSy), sO σ τA, sO σ τB, tyP pA ty, tyP pB ty, zKp (tyP pA ty) H, zKp (tyP pB ty) H ++ List.replicate n zJ)
  have hb : ∀ n, pSt KT n0 mA mB WA WB (b n) (b n) EA EB := fun n => ⟨rA, vRel_pad rB fB _, fun _ _ => rfl, fun _ _ => rfl, fun _ _ => rfl, vLe_rf _, vLe_rf _, vFrm_rf _ _ _, vFrm_rf _ _ _⟩
  have hb1 : ∀ a c, tyP pA ty a = some c → (zKp (tyP pA ty) H)[a]? = H[a]? := fun a c ha => zKp_ty H ha
  have hb2 : ∀ n a c, tyP pB ty a = some c → (zKp (tyP pB ty) H ++ List.replicate n zJ)[a]? = H[a]? := fun n a c ha => by
    rw [List.getElem?_append_left (by rw [zKp_len]; exact (hAB a c ha).2), zKp_ty H ha]
  have hgo : ∀ n, n ≤ mcA → ∃ vA H1 vB H2, x_To tb tyl ot d kA 0 LA [] (zKp (tyP pA ty) H) 0 0 vA H1 ∧ x_To tb tyl ot d kB 0 LB [] (zKp (tyP pB ty) H ++ List.replicate n zJ) 0 0 vB H2 ∧ pW KT n0 mA mB WA WB mcA mcB (XS.map (fun x => (x.1, x.2.1))) Φ (b n) vA H1 vB H2 := fun n hn => hP2 (b n) (hb n) rfl rfl rfl rfl rfl hb1 (hb2 n) (zKp_len _ _) (by
    show (zKp (tyP pB ty) H ++ List.replicate n zJ).length ≤ H.length + mcA
    rw [List.length_append, zKp_len, List.length_replicate]
    omega)
  obtain ⟨v0, J1, u0, K1, p1, -, p3⟩ := hgo 0 (Nat.zero_le _)
  obtain ⟨x0, -, d9, -, -, -, -, -, -, l1, -⟩ := p3
  have l1 : J1.length ≤ H.length + mcA := by
    have l1 : J1.length ≤ (zKp (tyP pA ty) H).length + mcA := l1
    rw [zKp_len] at l1
    exact l1
  obtain ⟨vA, H1, vB, H2, q1, q2, q3⟩ := hgo (J1.length - H.length) (by omega)
  obtain ⟨e1, e2⟩ := x_To_one p1 q1
  subst e1
  subst e2
  obtain ⟨x, hx, ⟨ρ2, σA2, σB2, tyA2, tyB2, G1, G2⟩, yh1, yh2, ⟨y1, y2, y3, y4, y5, y6, y7, y8, y9⟩, yP, y10, y11, y12, y13⟩ := q3
  have yh1 : H1 = G1 := yh1.symm
  have yh2 : G2 = H2 := yh2
  subst yh1
  subst yh2
  have y1 : vRel KT ρ2 σA2 tyA2 H1 (aSt x.1) := y1
  have y2 : vRel KT ρ2 σB2 tyB2 G2 (aSt x.2) := y2
  have y6 : vLe (tyP pA ty) tyA2 := y6
  have y7 : vLe (tyP pB ty) tyB2 := y7
  have dT : ∀ (ty : Nat → Option Nat) (n a : Nat), a < n ∧ ty a = none → zD ty n a = true := fun ty n a h => by
    unfold zD
    rw [decide_eq_true h.1, h.2]
    rfl
  have dF : ∀ (ty : Nat → Option Nat) (n a : Nat), ¬ (a < n ∧ ty a = none) → zD ty n a = false := fun ty n a h => by
    unfold zD
    by_cases c : a < n
    · rw [decide_eq_true c]
      rcases ht : ty a with _ | d
      · exact absurd ⟨c, ht⟩ h
      · rfl
    · rw [decide_eq_false c]
      rfl
  obtain ⟨a1, a2⟩ := x_To_fr p1 (zKp_tr (tyP pA ty) H) (zKp_mx (tyP pA ty) H)
  have hle : H.length ≤ H1.length := Classical.byContradiction fun hc => by
    rcases ht : tyP pA ty H1.length with _ | c
    · exact absurd (zTr_lt a2 (dT (tyP pA ty) H.length H1.length ⟨by omega, ht⟩)) (by omega)
    · exact absurd (vHp_lt y1.1 (y6 _ c ht)) (by omega)
  have hA1 : ∀ a, a < H.length ∧ tyP pA ty a = none → (zMx (zD (tyP pA ty) H.length) H H1)[a]? = H[a]? := fun a h => zMx_old a2 (dT _ _ _ h) h.1
  have hA2 : ∀ a, ¬ (a < H.length ∧ tyP pA ty a = none) → (zMx (zD (tyP pA ty) H.length) H H1)[a]? = H1[a]? := fun a h => zMx_get H (dF _ _ _ h)
  have hlA : (zMx (zD (tyP pA ty) H.length) H H1).length = H1.length := zMx_len _ _ _
  have hG : ∀ a, tyP pB ty a = none → a < H1.length → (zKp (tyP pB ty) H ++ List.replicate (H1.length - H.length) zJ)[a]? = some zJ := fun a h1 h2 => by
    by_cases c : a < H.length
    · rw [List.getElem?_append_left (by rw [zKp_len]; exact c)]
      exact zKp_tr (tyP pB ty) H a (dT (tyP pB ty) H.length a ⟨c, h1⟩)
    · rw [List.getElem?_append_right (by rw [zKp_len]; omega), zKp_len, List.getElem?_replicate, if_pos (by omega)]
  obtain ⟨b1, b2⟩ := x_To_fr (D := zD (tyP pB ty) H1.length) (HX := zMx (zD (tyP pA ty) H.length) H H1) q2 (fun a ha => by
      unfold zD at ha
      have h := Bool.and_eq_true_iff.mp ha
      exact hG a (by simpa using h.2) (of_decide_eq_true h.1)) (List.ext_getElem? fun a => by
      by_cases c : a < H1.length
      · rcases ht : tyP pB ty a with _ | d
        · rw [zMx_at, hG a ht c, dT (tyP pB ty) H1.length a ⟨c, ht⟩, List.getElem?_eq_getElem (by rw [hlA]; exact c)]
          rfl
        · obtain ⟨g1, g2⟩ := hAB a d ht
          rw [zMx_get _ (dF (tyP pB ty) H1.length a (fun h => by rw [ht] at h; cases h.2)), hA1 a ⟨g2, g1⟩, List.getElem?_append_left (by rw [zKp_len]; exact g2), zKp_ty H ht]
      · rw [List.getElem?_eq_none (by rw [zMx_len, List.length_append, zKp_len, List.length_replicate]; omega), List.getElem?_eq_none (by rw [hlA]; omega)])
  have hB1 : ∀ a, a < H1.length ∧ tyP pB ty a = none → (zMx (zD (tyP pB ty) H1.length) (zMx (zD (tyP pA ty) H.length) H H1) G2)[a]? = (zMx (zD (tyP pA ty) H.length) H H1)[a]? := fun a h => zMx_old b2 (dT _ _ _ h) (by rw [hlA]; exact h.1)
  have hB2 : ∀ a, ¬ (a < H1.length ∧ tyP pB ty a = none) → (zMx (zD (tyP pB ty) H1.length) (zMx (zD (tyP pA ty) H.length) H H1) G2)[a]? = G2[a]? := fun a h => zMx_get _ (dF _ _ _ h)
  have noJ : ∀ (ty' : Nat → Option Nat) (G : List (XC Int32)), vHp (fun c => KT.1[c]?) ty' G → ∀ a c, ty' a = some c → G[a]? = some zJ → False := fun ty' G hp a c ha hz => by
    obtain ⟨kd, z, k1, k2, k3⟩ := hp a c ha
    rw [hz] at k2
    cases k2
    have k4 := List.all_eq_true.mp hJ kd (List.mem_of_getElem? k1)
    rcases kd with o | o
    · exact k3
    · have k5 : (77 : Nat) = o.1 := k3.1
      exact (of_decide_eq_true k4) k5.symm
  have nA : ∀ a c, tyA2 a = some c → ¬ (a < H.length ∧ tyP pA ty a = none) := fun a c ha hz => noJ _ _ y1.1 a c ha (a2 a (dT _ _ _ hz))
  have nB : ∀ a c, tyB2 a = some c → ¬ (a < H1.length ∧ tyP pB ty a = none) := fun a c ha hz => noJ _ _ y2.1 a c ha (b2 a (dT _ _ _ hz))
  have oA : ∀ a c, tyA2 a = some c → tyP pB ty a = none := fun a c ha => by
    rcases ht : tyP pB ty a with _ | e
    · rfl
    · obtain ⟨g1, g2⟩ := hAB a e ht
      exact (nA a c ha ⟨g2, g1⟩).elim
  have oB : ∀ a c, tyB2 a = some c → tyA2 a = none := fun a c ha => by
    rcases ht : tyA2 a with _ | e
    · rfl
    · exact (nB a c ha ⟨vHp_lt y1.1 ht, oA a e ht⟩).elim
  have HHA : ∀ a c, tyA2 a = some c → (zMx (zD (tyP pB ty) H1.length) (zMx (zD (tyP pA ty) H.length) H H1) G2)[a]? = H1[a]? := fun a c ha => by
    rw [hB1 a ⟨vHp_lt y1.1 ha, oA a c ha⟩]
    exact hA2 a (nA a c ha)
  have HHB : ∀ a c, tyB2 a = some c → (zMx (zD (tyP pB ty) H1.length) (zMx (zD (tyP pA ty) H.length) H H1) G2)[a]? = G2[a]? := fun a c ha => hB2 a (nB a c ha)
  obtain ⟨z, hz, rfl⟩ := List.mem_map.mp hx
  have hj := List.all_eq_true.mp hXS z hz
  unfold jOk at hj
  simp only [Bool.and_eq_true] at hj
  obtain ⟨⟨⟨⟨⟨⟨⟨⟨j1, j2⟩, j3⟩, j4⟩, j5⟩, j6⟩, j7⟩, j8⟩, j9⟩ := hj
  have j3 := of_decide_eq_true j3
  have j5 := of_decide_eq_true j5
  have hjn := vRel_jn (ty := fun a => match tyA2 a with | some c => some c | none => tyB2 a) (H := zMx (zD (tyP pB ty) H1.length) (zMx (zD (tyP pA ty) H.length) H H1) G2) y1 y2 j1 j2 j3 (fun a c ha => ⟨by
      try dsimp only
      rw [ha], HHA a c ha⟩) (fun a c ha => ⟨by
      try dsimp only
      rw [oB a c ha]
      exact ha, HHB a c ha⟩) (fun a c ha => by
      try dsimp only at ha
      rcases ht : tyA2 a with _ | e
      · rw [ht] at ha
        exact Or.inr ha
      · rw [ht] at ha
        exact Or.inl ha)
  obtain ⟨w1, -, -, -, -, -⟩ := vMc_spec hjn j4
  have w1 : vRel KT (rO ρ2 z.2.2) (sO (sJo (aG z.1).length σA2 σB2) (jTa (aG z.1).length ps)) (fun a => match tyA2 a with | some c => some c | none => tyB2 a) (zMx (zD (tyP pB ty) H1.length) (zMx (zD (tyP pA ty) H.length) H H1) G2) (aSt N) := w1
  have hρ : ∀ i, i < n0 → ρ2 i = ρ i := fun i hi => by
    have y3 : ρ2 i = rO ρ ((List.range (aI NE).length).map lSy) i := y3 i hi
    rw [y3]
    unfold rO
    rw [List.getD_eq_getElem?_getD, List.getElem?_map, List.getElem?_range (by omega)]
    exact lSy_ev ρ i
  have hs : ∀ i, i < ps.length → sR (sO (sJo (aG z.1).length σA2 σB2) (jTa (aG z.1).length ps)) i = sR σ i := fun i hi => by
    have hN : (aG N).length < 1000000 := by
      have k := j4
      unfold vMc at k
      simp only [Bool.and_eq_true] at k
      exact of_decide_eq_true k.2
    have hp : ps[i]? = some (ps[i]'hi) := List.getElem?_eq_getElem hi
    have j8 := List.all_eq_true.mp j8 i (List.mem_range.mpr hi)
    rw [hp] at j8
    generalize ps[i]'hi = q at hp j8
    obtain ⟨q1, q2⟩ := q
    dsimp only at j8
    have ht : (jTa (aG z.1).length ps).getD i 0 = if q1 = true then (aG z.1).length + q2 else q2 := by
      unfold jTa
      rw [List.getD_eq_getElem?_getD, List.getElem?_map, hp]
      rfl
    have hl : sR (sO (sJo (aG z.1).length σA2 σB2) (jTa (aG z.1).length ps)) i = sR (sJo (aG z.1).length σA2 σB2) (if q1 = true then (aG z.1).length + q2 else q2) := by
      rw [← ht]
      exact if_pos (by omega)
    have tm : ∀ (τ : List Nat), τ.all (fun i => decide (i < 1000000)) = true → τ[q2]? = some i → sO σ τ q2 = sR σ i := fun τ _ hτ => by
      unfold sO
      rw [List.getD_eq_getElem?_getD, hτ]
      rfl
    rw [hl]
    rcases q1 with _ | _
    · rw [if_neg (by decide)] at j8 ⊢
      simp only [Bool.and_eq_true, decide_eq_true_eq] at j8
      obtain ⟨⟨u1, u2⟩, u3⟩ := j8
      have y4 : σA2 q2 = sO σ τA q2 := y4 q2 u2
      show (if q2 < 1000000 then sJo (aG z.1).length σA2 σB2 q2 else q2) = _
      rw [if_pos (by omega)]
      show (if q2 < (aG z.1).length then sR σA2 q2 else _) = _
      rw [if_pos u3]
      show (if q2 < 1000000 then σA2 q2 else q2) = _
      rw [if_pos (by omega), y4]
      exact tm τA htA u1
    · rw [if_pos rfl] at j8 ⊢
      simp only [Bool.and_eq_true, decide_eq_true_eq] at j8
      obtain ⟨⟨u1, u2⟩, u3⟩ := j8
      have y5 : σB2 q2 = sO σ τB q2 := y5 q2 u2
      show (if (aG z.1).length + q2 < 1000000 then sJo (aG z.1).length σA2 σB2 ((aG z.1).length + q2) else _) = _
      rw [if_pos (by omega)]
      show (if (aG z.1).length + q2 < (aG z.1).length then _ else sR σB2 ((aG z.1).length + q2 - (aG z.1).length)) = _
      rw [if_neg (by omega), Nat.add_sub_cancel_left]
      show (if q2 < 1000000 then σB2 q2 else q2) = _
      rw [if_pos (by omega), y5]
      exact tm τB htB u1
  have hval : ∃ a : Int32, vA = some (.inl a) ∧ vB = some (.inl a) := by
    have y10 : vA.toList = (aS z.1).map (cv ρ2 σA2) := y10
    have y11 : vB.toList = (aS z.2.1).map (cv ρ2 σB2) := y11
    split at j9
    · rename_i e g h1 h2
      have e2 := lQ_spec y1.2.2.2.1 y1.2.2.2.2.1 j9
      rw [h1] at y10
      rw [h2] at y11
      refine ⟨Int32.ofInt (lEv ρ2 e), optList y10, optList ?_⟩
      rw [y11]
      show [Sum.inl (Int32.ofInt (lEv ρ2 g))] = [Sum.inl (Int32.ofInt (lEv ρ2 e))]
      rw [e2]
    · cases j9
  obtain ⟨a, va, vb⟩ := hval
  subst va
  subst vb
  have y13 : G2.length ≤ (zKp (tyP pB ty) H ++ List.replicate (H1.length - H.length) zJ).length + mcB := y13
  refine ⟨a, _, _, rO ρ2 z.2.2, sO (sJo (aG z.1).length σA2 σB2) (jTa (aG z.1).length ps), _, (ρ2, σA2, σB2, tyA2, tyB2, H1, G2), a1, b1, ?_, ?_, hs, w1, ?_, yP, fun i hi => y4 i hi, fun i hi => y5 i hi, y1.1, y2.1, y6, y7, fun a c ha => hA1 a ⟨(hAB a c ha).2, (hAB a c ha).1⟩, HHA, HHB, ?_, ?_⟩
  · show lEv ρ2 (z.2.2.getD 0 (lK 0)) = ρ 0
    rw [lEq_spec j6, lSy_ev, hρ 0 (by omega)]
  · show lEv ρ2 (z.2.2.getD 1 (lK 0)) = ρ 1 + 7
    rw [lEq_spec j7, lAdd_ev, lSy_ev, lK_ev, hρ 1 (by omega)]
  · rw [zMx_len]
    rw [List.length_append, zKp_len, List.length_replicate] at y13
    show G2.length ≤ H.length + (mcA + mcB)
    omega
  · intro x k u hk hu
    have y8 : vFrm WA (tyP pA ty) (zKp (tyP pA ty) H) H1 := y8
    obtain ⟨u2, g1, g2⟩ := y8 x k u hk (by rw [zKp_ty H hk]; exact hu)
    exact ⟨u2, by rw [HHA x k (y6 x k hk)]; exact g1, g2⟩
  · intro x k u hk hu
    have y9 : vFrm WB (tyP pB ty) (zKp (tyP pB ty) H ++ List.replicate (H1.length - H.length) zJ) G2 := y9
    obtain ⟨u2, g1, g2⟩ := y9 x k u hk (by rw [hb2 _ x k hk]; exact hu)
    exact ⟨u2, by rw [HHB x k (y7 x k hk)]; exact g1, g2⟩
/-- the families at the law's head; τA, τB: which of the head's symbols are the first's, the second's -/
def lwPw (FS : List wN) (τA τB : List Nat) (σ : Nat → Nat) (_ : Nat → Option Nat) (H : List (XC Int32)) : Prop := ∀ u ∈ FS, wHd τA.length τB.length u (sO σ τA) (sO σ τB) H H
def wFB (FS : List wN) : Bool := FS.all (fun u => (wAl u).all (fun x => (aF x.1).all (fun f => decide (f.1 < (aG x.1).length)) && (aF x.2).all (fun f => decide (f.1 < (aG x.2).length))))
/-- what is asked of a block's notes -/
def wBc (N : vAn) (nF n : Nat) (τA τB : List Nat) (GA0 GB0 : List Nat) (n0 mA mB : Nat) (ps : List (Bool × Nat)) (pA pB : Nat → Bool) (e : wE) (OX : List ((Bool × wE) × List lT)) : Bool :=
  wEn e && decide (aL (wNA e) = x_en 0 (.inr (some 0) :: argVs (aI N).length n)) && decide (aL (wNB e) = x_en 0 (.inr (some 0) :: argVs (aI N).length n)) && decide (aCn (wNA e) = lK 0) && decide (aSn (wNA e) = lK 0) && decide (aCn (wNB e) = lK 0) && decide (aSn (wNB e) = lK 0) && decide (wUs e = List.range nF) && decide (aG (wNA e) = GA0) && decide (aG (wNB e) = GB0) && decide (τA.length = GA0.length) && decide (τB.length = GB0.length) && decide (τA.length ≤ mA) && decide (τB.length ≤ mB) && decide (τA[0]? = some 0) && decide (τB[0]? = some 1) &&
  vMc (aNl (wNA e)) ((List.range (aI (aArg n N)).length).map lSy) τA [] [] (aSt (aArg n N)) && vMc (aNl (wNB e)) ((List.range (aI (aArg n N)).length).map lSy) τB [] [] (aSt (aArg n N)) && (aG (wNA e)).all pA && (aG (wNB e)).all pB && aBd (wNA e) && aBd (wNB e) && decide ((aG N).length < 1000000) && decide (ps.length = (aG N).length) && decide (aS N = []) && τA.all (fun i => decide (i < ps.length)) && τB.all (fun i => decide (i < ps.length)) && decide (n0 ≤ (aI (aArg n N)).length) && sBd (aSt N) && decide (2 ≤ (aI N).length) &&
  OX.all (fun x => wEx x.1 && !x.1.1 && (List.range nF).all (fun i => (wUs x.1.2).any (Nat.beq i)) && jOk (aNl N) n0 mA mB τA τB ps (wNA x.1.2, wNB x.1.2, x.2))
theorem wBlk {KT : vKT} {tb : XT} {tyl : List FieldType} {ot : XO Int32} {N : vAn} {FS : List wN} {GA0 GB0 : List Nat} (hFS : ∀ u ∈ FS, wOk KT GA0 GB0 u = true) (hFB : wFB FS = true) {pA pB : Nat → Bool} (cA : kCl KT.1 pA = true) (cB : kCl KT.1 pB = true) (qA : pA KT.2.1.1 = true → pA KT.2.1.2.2.2.1 = true) (qB : pB KT.2.1.1 = true → pB KT.2.1.2.2.2.1 = true) (hd : ∀ c, pA c = true → pB c = true → False) (hJ : KT.1.all (fun kd => match kd with | .inr o => decide (o.1 ≠ 77) | _ => true) = true)
    {τA τB : List Nat} {ps : List (Bool × Nat)} {n n0 mA mB kA kB d dpA dpB : Nat} {WA WB : List (Nat × Nat)} {e : wE} {OX : List ((Bool × wE) × List lT)} (hk : wBc N FS.length n τA τB GA0 GB0 n0 mA mB ps pA pB e OX = true) (hG : wGoes KT tb tyl ot FS GA0.length GB0.length n0 mA mB WA WB kA kB dpA dpB e (OX.map (fun x => x.1))) {xA xB : XM} (hxA : tMth tb kA = some xA) (hxB : tMth tb kB = some xB) (hdA : dpA ≤ d) (hdB : dpB ≤ d)
    {P : (Nat → Nat) → (Nat → Option Nat) → List (XC Int32) → Prop} (hkeep : ∀ (ρ : Nat → Int) (σ : Nat → Nat) (ty : Nat → Option Nat) (H : List (XC Int32)) (ρ2 : Nat → Int) (σ2 : Nat → Nat) (ty2 : Nat → Option Nat) (HH : List (XC Int32)), vRel KT ρ σ ty H (aSt N) → P σ ty H → (∀ i, i < ps.length → sR σ2 i = sR σ i) → vRel KT ρ2 σ2 ty2 HH (aSt N) → vFrm WA (tyP pA ty) H HH → vFrm WB (tyP pB ty) H HH → P σ2 ty2 HH)
    {rA rB : Nat} (hrA : gRc KT N 0 = some rA) (hrB : gRc KT N 1 = some rB) (hpB : ∀ c, (aG N)[1]? = some c → pB c = true) :
    bPP KT tb tyl ot N (fun σ ty H => P σ ty H ∧ lwPw FS τA τB σ ty H) d kA kB n (mMc xA + mMc xB) rA rB True := by
  unfold wBc at hk
  simp only [Bool.and_eq_true] at hk
  obtain ⟨⟨⟨⟨⟨⟨⟨⟨⟨⟨⟨⟨⟨⟨⟨⟨⟨⟨⟨⟨⟨⟨⟨⟨⟨⟨⟨⟨⟨⟨k1, k2⟩, k3⟩, k4⟩, k5⟩, k6⟩, k7⟩, k8⟩, k9⟩, k10⟩, k11⟩, k12⟩, k13⟩, k14⟩, k15⟩, k16⟩, k17⟩, k18⟩, k19⟩, k20⟩, k21⟩, k22⟩, k23⟩, k24⟩, k25⟩, k26⟩, k27⟩, k28⟩, k29⟩, k30⟩, k31⟩ := hk
  unfold wEn at k1
  simp only [Bool.and_eq_true] at k1
  obtain ⟨⟨⟨n1, n2⟩, n3⟩, n4⟩ := k1
  have n1 := of_decide_eq_true n1
  have n2 := of_decide_eq_true n2
  have n3 := of_decide_eq_true n3
  have n4 := of_decide_eq_true n4
  have k2 := of_decide_eq_true k2
  have k3 := of_decide_eq_true k3
  have k4 := of_decide_eq_true k4
  have k5 := of_decide_eq_true k5
  have k6 := of_decide_eq_true k6
  have k7 := of_decide_eq_true k7
  have k8 := of_decide_eq_true k8
  have k9 := of_decide_eq_true k9
  have k10 := of_decide_eq_true k10
  have k11 := of_decide_eq_true k11
  have k12 := of_decide_eq_true k12
  have k13 := of_decide_eq_true k13
  have k14 := of_decide_eq_true k14
  have k15 := of_decide_eq_true k15
  have k16 := of_decide_eq_true k16
  have k23 := of_decide_eq_true k23
  have k24 := of_decide_eq_true k24
  have k25 := of_decide_eq_true k25
  have k28 := of_decide_eq_true k28
  have k30 := of_decide_eq_true k30
  obtain ⟨c0, o0, y1, y2, y3⟩ := gRc_spec hrA
  obtain ⟨c1, o1, x1, x2, x3⟩ := gRc_spec hrB
  have l2 : 2 ≤ ps.length := by
    rw [k24]
    have := (List.getElem?_eq_some_iff.mp x1).1
    omega
  intro ρ σ ty H t h0 h1 ht hlen h hP0
  obtain ⟨hP9, hP⟩ := hP0
  let ρ1 : Nat → Int := fun j => if j < (aI N).length then ρ j else (oSc ot (t + (1 + (j - (aI N).length)))).toInt
  have eρ : ∀ j, j < (aI N).length → ρ1 j = ρ j := fun j hj => if_pos hj
  have eV : ∀ j, j < n → ρ1 ((aI N).length + j) = (oSc ot (t + (1 + j))).toInt := fun j _ => by
    show (if (aI N).length + j < (aI N).length then _ else (oSc ot (t + (1 + ((aI N).length + j - (aI N).length)))).toInt) = _
    rw [if_neg (by omega), Nat.add_sub_cancel_left]
  have hA1 := vRel_arg h k29 (by omega) k30 (n := n) (vals := fun j => oSc ot (t + (1 + j))) eρ eV
  have lenA : (aI (aArg n N)).length = (aI N).length + n := by
    show (aI N ++ List.replicate n _).length = _
    rw [List.length_append, List.length_replicate]
  have bas : ∀ {p : Nat → Bool} {G0 G : List Nat} {ρ' : Nat → Int} {σ' : Nat → Nat} {ty' : Nat → Option Nat} {H' : List (XC Int32)} {A : vAn}, aG A = G0 → vRel KT ρ' σ' ty' H' (aSt A) → ∀ (i c : Nat), G0[i]? = some c → ty' (sR σ' i) = some c := fun {p G0 G ρ' σ' ty' H' A} e hA i c hc => hA.2.1 i c (by
    rw [← e] at hc
    exact hc)
  obtain ⟨a, HA, HH, ρ2, σ2, ty2, d0, q1, q2, q3, q4, q5, q6, q7, q8, q9, q10, q11, q12, q13, q14, q15, q16, q17, q18, q19⟩ := pJoinW (tb := tb) (tyl := tyl) (ot := ot) (N := N) (NE := aArg n N) (EA := wNA e) (EB := wNB e) (pA := pA) (pB := pB) cA cB qA qB hd hJ (τA := τA) (τB := τB) (ps := ps) k17 k18 k19 k20 k21 k22 k23 k24 k25 (List.all_eq_true.mpr fun i hi => by
      have := of_decide_eq_true (List.all_eq_true.mp k26 i hi)
      exact decide_eq_true (by omega)) (List.all_eq_true.mpr fun i hi => by
      have := of_decide_eq_true (List.all_eq_true.mp k27 i hi)
      exact decide_eq_true (by omega)) (n0 := n0) (mA := mA) (mB := mB) (kA := kA) (kB := kB) (d := d) (mcA := mMc xA) (mcB := mMc xB) (WA := WA) (WB := WB) (XS := OX.map (fun x => (wNA x.1.2, wNB x.1.2, x.2))) k28 (by
      rw [List.all_map]
      refine List.all_eq_true.mpr fun x hx => ?_
      have k := List.all_eq_true.mp k31 x hx
      simp only [Bool.and_eq_true] at k
      exact k.2) hA1 (LA := x_en 0 (.inr (some (sR σ 0)) :: bVs ot t n 1)) (LB := x_en 0 (.inr (some (sR σ 1)) :: bVs ot t n 1))
      (Φ := fun d0 => wHs FS GA0.length GB0.length (List.range FS.length) d0 ∧ vLe (tyP pA ty) (cTA d0) ∧ vLe (tyP pB ty) (cTB d0) ∧ (∀ (i c : Nat), GA0[i]? = some c → tyP pA ty (sR (sO σ τA) i) = some c) ∧ (∀ (i c : Nat), GB0[i]? = some c → tyP pB ty (sR (sO σ τB) i) = some c)) (fun b hb e1 e2 e3 e4 e5 e6 e7 e8 e9 => by
    have bv : ∀ i, i < n → b.1 ((aI N).length + i) = (oSc ot (t + (1 + i))).toInt := fun i hi => by
      rw [e1]
      unfold rO
      rw [List.getD_eq_getElem?_getD, List.getElem?_map, List.getElem?_range (by omega)]
      show lEv ρ1 (lSy ((aI N).length + i)) = _
      rw [lSy_ev]
      exact eV i hi
    have u0 : sR b.2.1 0 = sR σ 0 := by rw [e2]; exact sOx k15 (by omega)
    have u1 : sR b.2.2.1 0 = sR σ 1 := by rw [e3]; exact sOx k16 (by omega)
    have lA2 : (.inr (some 0) :: argVs (aI N).length n : List vA).map (cv b.1 b.2.1) = .inr (some (sR σ 0)) :: bVs ot t n 1 := by
      rw [List.map_cons, argVs_cv n _ 1 bv, ← u0]
      rfl
    have lB2 : (.inr (some 0) :: argVs (aI N).length n : List vA).map (cv b.1 b.2.2.1) = .inr (some (sR σ 1)) :: bVs ot t n 1 := by
      rw [List.map_cons, argVs_cv n _ 1 bv, ← u1]
      rfl
    have hpAb : vHp (fun c => KT.1[c]?) (tyP pA ty) H := fun a c ha => by
      rw [← e4] at ha
      obtain ⟨kd, z, g1, g2, g3⟩ := hb.1.1 a c ha
      rw [e4] at ha g3
      exact ⟨kd, z, g1, by rw [← e6 a c ha]; exact g2, g3⟩
    have hpBb : vHp (fun c => KT.1[c]?) (tyP pB ty) H := fun a c ha => by
      rw [← e5] at ha
      obtain ⟨kd, z, g1, g2, g3⟩ := hb.2.1.1 a c ha
      rw [e5] at ha g3
      exact ⟨kd, z, g1, by rw [← e7 a c ha]; exact g2, g3⟩
    have bsA : ∀ (i c : Nat), GA0[i]? = some c → tyP pA ty (sR (sO σ τA) i) = some c := fun i c hc => by
      have g := hb.1.2.1 i c (by
        rw [← k9] at hc
        exact hc)
      rw [e4, e2] at g
      exact g
    have bsB : ∀ (i c : Nat), GB0[i]? = some c → tyP pB ty (sR (sO σ τB) i) = some c := fun i c hc => by
      have g := hb.2.1.2.1 i c (by
        rw [← k10] at hc
        exact hc)
      rw [e5, e3] at g
      exact g
    have hFSb : ∀ u ∈ FS, wHd GA0.length GB0.length u b.2.1 b.2.2.1 b.2.2.2.2.2.1 b.2.2.2.2.2.2 := fun u hu => by
      have w := hP u hu
      rw [k11, k12] at w
      rw [e2, e3]
      exact wHd_typ (hFS u hu) (List.all_eq_true.mp hFB u hu) hpAb hpBb bsA bsB e6 e7 w
    obtain ⟨vA, H1, vB, H2, z1, z2, z3⟩ := hG xA xB d d b.2.2.2.2.2.1.length b.2.2.2.2.2.2.length hxA hxB hdA hdB (by rw [e8]; omega) (by omega) b (x_en 0 (.inr (some (sR σ 0)) :: bVs ot t n 1)) (x_en 0 (.inr (some (sR σ 1)) :: bVs ot t n 1)) 0 0 0 0 ⟨hb.1, hb.2.1, by
        rw [n1]
        refine ⟨⟨Nat.le_refl _, by
          show b.2.2.2.2.2.1.length ≤ 1000000
          rw [e8]
          omega⟩, ?_, ?_, ?_⟩
        · rw [k2, ← lA2]
          exact vCov_en _ 0
        · rw [k4, lK_ev]
          exact Int.le_refl _
        · rw [k5, lK_ev]
          exact Int.le_refl _, by
        rw [n2]
        refine ⟨⟨Nat.le_refl _, by
          show b.2.2.2.2.2.2.length ≤ 1000000
          omega⟩, ?_, ?_, ?_⟩
        · rw [k3, ← lB2]
          exact vCov_en _ 0
        · rw [k6, lK_ev]
          exact Int.le_refl _
        · rw [k7, lK_ev]
          exact Int.le_refl _, fun i hi u hu => hFSb u (List.mem_of_getElem? hu)⟩ (fun vA H1 vB H2 => pW KT n0 mA mB WA WB (mMc xA) (mMc xB) ((OX.map (fun x => (wNA x.1.2, wNB x.1.2, x.2))).map (fun x => (x.1, x.2.1))) (fun d0 => wHs FS GA0.length GB0.length (List.range FS.length) d0 ∧ vLe (tyP pA ty) (cTA d0) ∧ vLe (tyP pB ty) (cTB d0) ∧ (∀ (i c : Nat), GA0[i]? = some c → tyP pA ty (sR (sO σ τA) i) = some c) ∧ (∀ (i c : Nat), GB0[i]? = some c → tyP pB ty (sR (sO σ τB) i) = some c)) b vA H1 vB H2) (fun o ho d2 LA2 LB2 c1 c2 d1 d3 w1 w2 w3 => by
      obtain ⟨x, hx, hxo⟩ := List.mem_map.mp ho
      have k := List.all_eq_true.mp k31 x hx
      simp only [Bool.and_eq_true] at k
      obtain ⟨⟨⟨kx, -⟩, ku⟩, -⟩ := k
      have hxo : x.1 = o := hxo
      rw [hxo] at kx ku
      unfold wEx at kx
      simp only [Bool.and_eq_true] at kx
      obtain ⟨⟨⟨f1, f2⟩, f3⟩, f4⟩ := kx
      have f1 := of_decide_eq_true f1
      have f2 := of_decide_eq_true f2
      obtain ⟨wA, hwA⟩ := optOf (S := (aS (wNA o.2)).map (cv (cR d2) (cSA d2))) (by rw [List.length_map]; exact of_decide_eq_true f3)
      obtain ⟨wC, hwC⟩ := optOf (S := (aS (wNB o.2)).map (cv (cR d2) (cSB d2))) (by rw [List.length_map]; exact of_decide_eq_true f4)
      obtain ⟨u1', u2', u3', u4', u5'⟩ := w1
      rw [f1] at u3'
      rw [f2] at u4'
      refine ⟨wA, cHA d2, wC, cHB d2, ?_, ?_, (wNA o.2, wNB o.2), ?_, d2, rfl, rfl, ⟨u1', u2', w2.1, w2.2.1, w2.2.2.1, w2.2.2.2.1, w2.2.2.2.2.1, w2.2.2.2.2.2.1, w2.2.2.2.2.2.2⟩, ⟨fun i hi u hu => ?_, ?_, ?_, bsA, bsB⟩, hwA, hwC, u3', u4'⟩
      · rw [f1]
        exact ⟨hwA, rfl⟩
      · rw [f2]
        exact ⟨hwC, rfl⟩
      · rw [List.map_map]
        exact List.mem_map.mpr ⟨x, hx, by rw [← hxo]; rfl⟩
      · have kk := List.all_eq_true.mp ku i hi
        obtain ⟨j, hj, ej⟩ := List.any_eq_true.mp kk
        have ej : i = j := Nat.eq_of_beq_eq_true ej
        rw [← ej] at hj
        exact u5' i hj u hu
      · have g : vLe b.2.2.2.1 (cTA d2) := w2.2.2.2.1
        rw [e4] at g
        exact g
      · have g : vLe b.2.2.2.2.1 (cTB d2) := w2.2.2.2.2.1
        rw [e5] at g
        exact g)
    rw [n1, n3] at z1
    rw [n2, n4] at z2
    exact ⟨vA, H1, vB, H2, z1, z2, z3⟩)
  obtain ⟨p1, p2, p3, p4, p5⟩ := q8
  have sx : ∀ {m : Nat} {τ : List Nat} {σ' : Nat → Nat}, τ.length < 1000000 → τ.all (fun i => decide (i < ps.length)) = true → τ.length ≤ m → (∀ i, i < m → σ' i = sO σ τ i) → ∀ i, i < τ.length → sR (sO σ2 τ) i = sR σ' i := fun {m τ σ'} hl ha hm hs i hi => by
    have e0 : τ[i]? = some (τ[i]'hi) := List.getElem?_eq_getElem hi
    have l0 := of_decide_eq_true (List.all_eq_true.mp ha _ (List.mem_of_getElem? e0))
    unfold sR
    rw [if_pos (by omega), if_pos (by omega), hs i (by omega)]
    unfold sO
    rw [List.getD_eq_getElem?_getD, e0]
    exact q5 _ l0
  have lA9 : GA0.length < 1000000 ∧ GB0.length < 1000000 := by
    have a1 := (vMc_spec hA1 k17).2.2.2.2.1
    have a2 := (vMc_spec hA1 k18).2.2.2.2.1
    have b1 : (aG (aNl (wNA e))).length < 1000000 := by
      have k := k17
      unfold vMc at k
      simp only [Bool.and_eq_true] at k
      exact of_decide_eq_true k.2
    have b2 : (aG (aNl (wNB e))).length < 1000000 := by
      have k := k18
      unfold vMc at k
      simp only [Bool.and_eq_true] at k
      exact of_decide_eq_true k.2
    omega
  refine ⟨a, a, HA, HH, ρ2, σ2, ty2, ?_, q1, ?_, q2, fun _ => rfl, q3.trans (eρ 0 (by omega)), q4.trans (by rw [eρ 1 (by omega)]), q5 0 (by omega), q5 1 (by omega), q6, ⟨hkeep ρ σ ty H ρ2 σ2 ty2 HH h hP9 q5 q6 q18 q19, fun u hu => ?_⟩, q7⟩
  · rw [xRc h (by omega) (show (sG (aSt N))[0]? = some c0 from y1) y2 rfl, y3]
  · rw [xRc h (by omega) (show (sG (aSt N))[1]? = some c1 from x1) x2 (q15 _ c1 (tyP_iff.mpr ⟨h.2.1 1 c1 x1, hpB c1 x1⟩)), x3]
  · obtain ⟨i, hi, hiu⟩ := List.getElem_of_mem hu
    have w := p1 i (List.mem_range.mpr hi) u (by rw [List.getElem?_eq_getElem hi, hiu])
    have hok := hFS u hu
    rw [k11, k12]
    have bd1 : ∀ (i c : Nat), GA0[i]? = some c → cTA d0 (sR (cSA d0) i) = some c := fun i c hc => by
      have hlt := (List.getElem?_eq_some_iff.mp hc).1
      have g := p2 _ _ (p4 i c hc)
      have e9 : sR (cSA d0) i = sR (sO σ τA) i := by
        unfold sR
        rw [if_pos (by omega), if_pos (by omega)]
        exact q9 i (by omega)
      rw [e9]
      exact g
    have bd2 : ∀ (i c : Nat), GB0[i]? = some c → cTB d0 (sR (cSB d0) i) = some c := fun i c hc => by
      have hlt := (List.getElem?_eq_some_iff.mp hc).1
      have g := p3 _ _ (p5 i c hc)
      have e9 : sR (cSB d0) i = sR (sO σ τB) i := by
        unfold sR
        rw [if_pos (by omega), if_pos (by omega)]
        exact q10 i (by omega)
      rw [e9]
      exact g
    exact wHd_ext (wOk_a hok).1 (wHd_typ hok (List.all_eq_true.mp hFB u hu) q11 q12 bd1 bd2 q16 q17 w) (fun i hi => sx (by omega) k26 k13 q9 i (by omega)) (fun i hi => sx (by omega) k27 k14 q10 i (by omega))
/-- what isn't written stays -/
theorem lwPw_kp {KT : vKT} {N : vAn} {FS : List wN} {GA0 GB0 : List Nat} {τA τB : List Nat} {W : List (Nat × Nat)} {m0 : Nat} (hFS : ∀ u ∈ FS, wOk KT GA0 GB0 u = true) (hk : (FS.all (wFk W W GA0) && decide (τA.length = GA0.length) && decide (τB.length = GB0.length) && τA.all (fun i => decide (i < m0)) && τB.all (fun i => decide (i < m0)) && decide (m0 ≤ 1000000) && (List.range GA0.length).all (fun i => decide ((aG N)[τA.getD i 0]? = GA0[i]?)) && (List.range GB0.length).all (fun i => decide ((aG N)[τB.getD i 0]? = GB0[i]?))) = true) :
    ∀ (ρ : Nat → Int) (σ : Nat → Nat) (ty : Nat → Option Nat) (H : List (XC Int32)) (σ2 : Nat → Nat) (ty2 : Nat → Option Nat) (H2 : List (XC Int32)), vRel KT ρ σ ty H (aSt N) → lwPw FS τA τB σ ty H → (∀ i, i < m0 → σ2 i = σ i) → vFrm W ty H H2 → lwPw FS τA τB σ2 ty2 H2 := by
  intro ρ σ ty H σ2 ty2 H2 h hP hs hf u hu
  simp only [Bool.and_eq_true] at hk
  obtain ⟨⟨⟨⟨⟨⟨⟨k1, k2⟩, k3⟩, k4⟩, k5⟩, k6⟩, k7⟩, k8⟩ := hk
  have k2 := of_decide_eq_true k2
  have k3 := of_decide_eq_true k3
  have k6 := of_decide_eq_true k6
  have hok := hFS u hu
  obtain ⟨o1, o2, o3, o4⟩ := wOk_a hok
  have bs : ∀ {G0 : List Nat} {τ : List Nat}, τ.length = G0.length → G0.length < 1000000 → (List.range G0.length).all (fun i => decide ((aG N)[τ.getD i 0]? = G0[i]?)) = true → ∀ (i c : Nat), G0[i]? = some c → ty (sR (sO σ τ) i) = some c := fun {G0 τ} hl h9 hk i c hc => by
    have hlt := (List.getElem?_eq_some_iff.mp hc).1
    have e := of_decide_eq_true (List.all_eq_true.mp hk i (List.mem_range.mpr hlt))
    rw [hc] at e
    have g := h.2.1 _ c e
    unfold sR
    rw [if_pos (by omega)]
    exact g
  have w := hP u hu
  rw [k2, k3] at w
  have w2 := wHd_frm hok (List.all_eq_true.mp k1 u hu) h.1 h.1 (bs k2 o2 k7) (bs k3 o3 k8) hf hf w
  have es : ∀ {τ : List Nat} {m : Nat}, τ.length = m → m < 1000000 → τ.all (fun i => decide (i < m0)) = true → ∀ i, i < m → sR (sO σ2 τ) i = sR (sO σ τ) i := fun {τ m} hl h9 ha i hi => by
    have e0 : τ[i]? = some (τ[i]'(by omega)) := List.getElem?_eq_getElem (by omega)
    have l0 := of_decide_eq_true (List.all_eq_true.mp ha _ (List.mem_of_getElem? e0))
    unfold sR
    rw [if_pos (by omega), if_pos (by omega)]
    unfold sO
    rw [List.getD_eq_getElem?_getD, e0]
    show (if τ[i]'(by omega) < 1000000 then σ2 (τ[i]'(by omega)) else τ[i]'(by omega)) = (if τ[i]'(by omega) < 1000000 then σ (τ[i]'(by omega)) else τ[i]'(by omega))
    rw [if_pos (by omega), if_pos (by omega)]
    exact hs _ l0
  rw [k2, k3]
  exact wHd_ext o1 w2 (es k2 o2 k4) (es k3 o3 k5)
theorem lwPw_keep {KT : vKT} {N : vAn} {FS : List wN} {GA0 GB0 : List Nat} {τA τB : List Nat} {W : List (Nat × Nat)} {m0 : Nat} (hFS : ∀ u ∈ FS, wOk KT GA0 GB0 u = true) (hk : (FS.all (wFk W W GA0) && decide (τA.length = GA0.length) && decide (τB.length = GB0.length) && τA.all (fun i => decide (i < m0)) && τB.all (fun i => decide (i < m0)) && decide (m0 ≤ 1000000) && (List.range GA0.length).all (fun i => decide ((aG N)[τA.getD i 0]? = GA0[i]?)) && (List.range GB0.length).all (fun i => decide ((aG N)[τB.getD i 0]? = GB0[i]?))) = true) :
    ∀ (ρ : Nat → Int) (σ : Nat → Nat) (ty : Nat → Option Nat) (H : List (XC Int32)) (ρ2 : Nat → Int) (σ2 : Nat → Nat) (ty2 : Nat → Option Nat) (H2 : List (XC Int32)), vRel KT ρ σ ty H (aSt N) → lwPw FS τA τB σ ty H → (∀ i, i < m0 → σ2 i = σ i) → vLe ty ty2 → vFrm W ty H H2 → vRel KT ρ2 σ2 ty2 H2 (aSt N) → lwPw FS τA τB σ2 ty2 H2 :=
  fun ρ σ ty H _ σ2 ty2 H2 h hP hs _ hf _ => lwPw_kp hFS hk ρ σ ty H σ2 ty2 H2 h hP hs hf
/-- at the start: what is supposed can't be, or the facts are there; w: the other ints -/
def wIv (H : List (XC Int32)) (sg : List Nat) : List (Nat × Nat) → Option (List Int)
  | [] => some []
  | p :: r => match H[sg.getD p.1 0]?, wIv H sg r with
    | some (.inl o), some t => (match (o.2[p.2]? : Option (XV Int32)) with
      | some (.inl x) => some (x.toInt :: t)
      | _ => none)
    | _, _ => none
theorem wIv_spec {H : List (XC Int32)} {sg : List Nat} {ρ : Nat → Int} : ∀ {P : List (Nat × Nat)} {l : List Int} {m : Nat}, wIv H sg P = some l → (∀ p ∈ P, p.1 < 1000000) → wPn P (fun i => ρ (m + i)) (fun i => sg.getD i 0) H → l.length = P.length ∧ ∀ i, i < P.length → ρ (m + i) = l.getD i 0
  | [], l, m, hk, _, _ => by
    cases hk
    exact ⟨rfl, fun i hi => absurd hi (Nat.not_lt_zero i)⟩
  | q :: r, l, m, hk, hb, h => by
    unfold wIv at hk
    split at hk
    rotate_left
    · cases hk
    rename_i o t ho ht
    split at hk
    rotate_left
    · cases hk
    rename_i x hx
    cases hk
    obtain ⟨a1, a2⟩ := wIv_spec (m := m + 1) ht (fun p hp => hb p (List.mem_cons_of_mem _ hp)) (fun i p hp => by
      have g := h (i + 1) p hp
      obtain ⟨g1, ci, fs, g2, g3⟩ := g
      have e : m + (i + 1) = m + 1 + i := by omega
      have g1 : -2147483648 ≤ ρ (m + (i + 1)) ∧ ρ (m + (i + 1)) ≤ 2147483647 := g1
      have g3 : fs[p.2]? = some (Sum.inl (Int32.ofInt (ρ (m + (i + 1))))) := g3
      rw [e] at g1 g3
      exact ⟨g1, ci, fs, g2, g3⟩)
    refine ⟨congrArg (· + 1) a1, fun i hi => ?_⟩
    rcases i with _ | i
    · obtain ⟨g1, ci, fs, g2, g3⟩ := h 0 q rfl
      have g1 : -2147483648 ≤ ρ (m + 0) ∧ ρ (m + 0) ≤ 2147483647 := g1
      have g2 : H[(if q.1 < 1000000 then sg.getD q.1 0 else q.1)]? = some (.inl (ci, fs)) := g2
      rw [if_pos (hb q List.mem_cons_self), ho] at g2
      cases g2
      have g3 : fs[q.2]? = some (Sum.inl (Int32.ofInt (ρ (m + 0)))) := g3
      have hx : fs[q.2]? = some (Sum.inl x) := hx
      rw [hx] at g3
      have e : x = Int32.ofInt (ρ (m + 0)) := by
        injection g3 with g3
        injection g3
      show ρ (m + 0) = x.toInt
      rw [e, ofInt_toInt (by omega) (by omega)]
    · have g := a2 i (by
        have hi : i + 1 < r.length + 1 := hi
        omega)
      rw [show m + (i + 1) = m + 1 + i by omega, g]
      rfl
/-- the cells that facts name, looked up -/
def wCl1 (H : List (XC Int32)) (iv : List Int) (sg : List Nat) (f : vK) : Option Nat := match H[sg.getD f.1 0]?, f.2.1 with
  | some (.inl o), .inl j => (match (o.2[j]? : Option (XV Int32)) with
    | some (.inr (some a)) => some a
    | _ => none)
  | some (.inr o), .inr l => (match (o.2[(lEv (fun i => iv.getD i 0) l).toNat]? : Option (XV Int32)) with
    | some (.inr (some a)) => some a
    | _ => none)
  | _, _ => none
def wCel (H : List (XC Int32)) (iv : List Int) : List vK → List Nat → List Nat
  | [], sg => sg
  | f :: r, sg => match f.2.2 with
    | .inr (some k) => if k = sg.length then (match wCl1 H iv sg f with
      | some a => wCel H iv r (sg ++ [a])
      | none => wCel H iv r sg) else wCel H iv r sg
    | _ => wCel H iv r sg
theorem wCel_pre {H : List (XC Int32)} {iv : List Int} : ∀ (fs : List vK) (sg : List Nat), ∃ t, wCel H iv fs sg = sg ++ t
  | [], sg => ⟨[], (List.append_nil sg).symm⟩
  | f :: r, sg => by
    unfold wCel
    split
    · split
      · split
        · rename_i a _
          obtain ⟨t, e⟩ := wCel_pre r (sg ++ [a])
          exact ⟨a :: t, by rw [e, List.append_assoc]; rfl⟩
        · exact wCel_pre r sg
      · exact wCel_pre r sg
    · exact wCel_pre r sg
def wCe (H : List (XC Int32)) (iv : List Int) (fs : List vK) (sg : List Nat) : List Nat := wCel H iv (fs ++ fs ++ fs) sg
theorem wCe_at {H : List (XC Int32)} {iv : List Int} {fs : List vK} {sg : List Nat} {i : Nat} (hi : i < sg.length) : (wCe H iv fs sg).getD i 0 = sg.getD i 0 := by
  obtain ⟨t, e⟩ := wCel_pre (H := H) (iv := iv) (fs ++ fs ++ fs) sg
  unfold wCe
  rw [e, List.getD_eq_getElem?_getD, List.getElem?_append_left hi, List.getD_eq_getElem?_getD]
def wIni (H : List (XC Int32)) (sgA sgB : List Nat) (u : wN) (w : List Int) : Bool := (wPi u).all (fun p => decide (p.1 < 1000000)) && (match wIv H sgA (wPi u) with
  | none => false
  | some iv => (uCoI (wPr u) (zipI 0 (iv.map (fun x => (x, x)) ++ wBd u))).isNone || (uCmb (wBd u)).all (fun v => (wPr u).any (fun c => lBd (iv ++ v).length c && decide (lEv (fun i => (iv ++ v).getD i 0) c < 0)) || (wAl u).any (fun x => decide ((aI x.1).length = (iv ++ v ++ w).length) && decide (aC x.1 = []) && sBd (aSt x.1) && sBd (aSt (wNb x)) && decide ((aG x.1).length ≤ 1000000) && decide ((aG x.2).length ≤ 1000000) && (aF x.1).all (uKg H (iv ++ v ++ w) (wCe H (iv ++ v ++ w) (aF x.1) sgA)) && (aF x.2).all (uKg H (iv ++ v ++ w) (wCe H (iv ++ v ++ w) (aF x.2) sgB)) && (List.range (aI x.1).length).all (fun i => match (aI x.1)[i]? with
    | some p => decide (p.1 ≤ (iv ++ v ++ w).getD i 0) && decide ((iv ++ v ++ w).getD i 0 ≤ p.2)
    | none => false))))
theorem wIni_spec {H : List (XC Int32)} {sgA sgB : List Nat} {u : wN} {w : List Int} (hk : wIni H sgA sgB u w = true) {gA gB : Nat} (hA : gA ≤ 1000000) (hB : gB ≤ 1000000) (lA : gA ≤ sgA.length) (lB : gB ≤ sgB.length) : wHd gA gB u (fun i => sgA.getD i 0) (fun i => sgB.getD i 0) H H := by
  intro ρ1 h1 h2 h3
  unfold wIni at hk
  obtain ⟨k0, hk⟩ := Bool.and_eq_true_iff.mp hk
  split at hk
  · cases hk
  rename_i iv hiv
  obtain ⟨a1, a2⟩ := wIv_spec (m := 0) (ρ := ρ1) hiv (fun p hp => of_decide_eq_true (List.all_eq_true.mp k0 p hp)) (fun i p hp => by
    obtain ⟨g1, ci, fs, g2, g3⟩ := h1 i p hp
    rw [← Nat.zero_add i] at g1 g3
    exact ⟨g1, ci, fs, g2, g3⟩)
  have a2 : ∀ i, i < (wPi u).length → ρ1 i = iv.getD i 0 := fun i hi => by
    have := a2 i hi
    rw [Nat.zero_add] at this
    exact this
  rcases Bool.or_eq_true_iff.mp hk with hk | hk
  · exfalso
    obtain ⟨I2, g⟩ := uCoI_spec (ρ := ρ1) (l := wPr u) (I := zipI 0 (iv.map (fun x => (x, x)) ++ wBd u)) (zipI_spec.mpr (fun i p hp => by
      rw [Nat.zero_add]
      by_cases c : i < iv.length
      · rw [List.getElem?_append_left (by rw [List.length_map]; exact c), List.getElem?_map] at hp
        have hl : iv[i]? = some (iv[i]'c) := List.getElem?_eq_getElem c
        rw [hl] at hp
        cases hp
        have e : ρ1 i = iv[i]'c := by
          rw [a2 i (by omega), List.getD_eq_getElem?_getD, hl]
          rfl
        rw [e]
        exact ⟨Int.le_refl _, Int.le_refl _⟩
      · rw [List.getElem?_append_right (by rw [List.length_map]; omega), List.length_map] at hp
        have q := h2 (i - iv.length) p hp
        rw [show (wPi u).length + (i - iv.length) = i by omega] at q
        exact q)) h3
    rw [g] at hk
    cases hk
  have hc := uCmb_mem (fun j => ρ1 ((wPi u).length + j)) h2
  have ev0 : ∀ i, i < (iv ++ (List.range (wBd u).length).map (fun j => ρ1 ((wPi u).length + j))).length → (iv ++ (List.range (wBd u).length).map (fun j => ρ1 ((wPi u).length + j))).getD i 0 = ρ1 i := fun i hi => by
    rw [List.length_append, List.length_map, List.length_range] at hi
    rw [List.getD_eq_getElem?_getD]
    by_cases c : i < iv.length
    · rw [List.getElem?_append_left c, a2 i (by omega), List.getD_eq_getElem?_getD]
    · rw [List.getElem?_append_right (by omega), List.getElem?_map, List.getElem?_range (by omega)]
      show ρ1 ((wPi u).length + (i - iv.length)) = ρ1 i
      rw [show (wPi u).length + (i - iv.length) = i by omega]
  rcases Bool.or_eq_true_iff.mp (List.all_eq_true.mp hk _ hc) with kk | kk
  · exfalso
    obtain ⟨c, hc1, hc2⟩ := List.any_eq_true.mp kk
    obtain ⟨hc3, hc4⟩ := Bool.and_eq_true_iff.mp hc2
    have hc4 := of_decide_eq_true hc4
    have := h3 c hc1
    rw [lBd_spec ev0 hc3] at hc4
    omega
  obtain ⟨x, hx, kx⟩ := List.any_eq_true.mp kk
  simp only [Bool.and_eq_true] at kx
  obtain ⟨⟨⟨⟨⟨⟨⟨⟨b1, b2⟩, b3⟩, b4⟩, b5⟩, b6⟩, b7⟩, b8⟩, b9⟩ := kx
  have b1 := of_decide_eq_true b1
  have b2 := of_decide_eq_true b2
  have ev : ∀ i, i < wNp u → (iv ++ (List.range (wBd u).length).map (fun j => ρ1 ((wPi u).length + j)) ++ w).getD i 0 = ρ1 i := fun i hi => by
    have hi : i < (wPi u).length + (wBd u).length := hi
    rw [List.getD_eq_getElem?_getD, List.getElem?_append_left (by rw [List.length_append, List.length_map, List.length_range]; omega)]
    by_cases c : i < iv.length
    · rw [List.getElem?_append_left c, a2 i (by omega), List.getD_eq_getElem?_getD]
    · rw [List.getElem?_append_right (by omega), List.getElem?_map, List.getElem?_range (by omega)]
      show ρ1 ((wPi u).length + (i - iv.length)) = ρ1 i
      rw [show (wPi u).length + (i - iv.length) = i by omega]
  have sg : ∀ {m : Nat} {s : List Nat} {iv : List Int} {fs : List vK}, m ≤ 1000000 → m ≤ s.length → ∀ i, i < m → (fun i => (wCe H iv fs s).getD i 0) i = sR (fun i => s.getD i 0) i := fun {m s iv fs} hm hl i hi => by
    show (wCe H iv fs s).getD i 0 = (if i < 1000000 then s.getD i 0 else i)
    rw [if_pos (by omega)]
    exact wCe_at (by omega)
  refine ⟨x, hx, fun i => (iv ++ (List.range (wBd u).length).map (fun j => ρ1 ((wPi u).length + j)) ++ w).getD i 0, fun i => (wCe H _ (aF x.1) sgA).getD i 0, fun i => (wCe H _ (aF x.2) sgB).getD i 0, ev, sg hA lA, sg hB lB, fun f hf => uKg_spec (List.all_eq_true.mp b7 f hf), fun f hf => uKg_spec (List.all_eq_true.mp b8 f hf), zipI_spec.mpr (fun i p hp => ?_), fun c hc => ?_⟩
  · have hl := (List.getElem?_eq_some_iff.mp hp).1
    have k8 := List.all_eq_true.mp b9 i (List.mem_range.mpr hl)
    rw [hp] at k8
    obtain ⟨k9, k10⟩ := Bool.and_eq_true_iff.mp k8
    rw [Nat.zero_add]
    exact ⟨of_decide_eq_true k9, of_decide_eq_true k10⟩
  · rw [b2] at hc
    cases hc
def wIn0 (H : List (XC Int32)) (sg : List Nat) (FS : List wN) (ws : List (List Int)) (τA τB : List Nat) : Bool := decide (ws.length = FS.length) && decide (τA.length ≤ 1000000) && decide (τB.length ≤ 1000000) && τA.all (fun i => decide (i < 1000000)) && τB.all (fun i => decide (i < 1000000)) && FS.all (fun u => (wPi u).all (fun p => decide (p.1 < τA.length))) && (FS.zip ws).all (fun p => wIni H (τA.map (fun i => sg.getD i 0)) (τB.map (fun i => sg.getD i 0)) p.1 p.2)
theorem wIn0_spec {H : List (XC Int32)} {sg : List Nat} {FS : List wN} {ws : List (List Int)} {τA τB : List Nat} (hk : wIn0 H sg FS ws τA τB = true) (ty : Nat → Option Nat) : lwPw FS τA τB (fun i => sg.getD i 0) ty H := by
  unfold wIn0 at hk
  simp only [Bool.and_eq_true] at hk
  obtain ⟨⟨⟨⟨⟨⟨k1, k2⟩, k3⟩, k4⟩, k5⟩, k6⟩, k7⟩ := hk
  have k1 := of_decide_eq_true k1
  have k2 := of_decide_eq_true k2
  have k3 := of_decide_eq_true k3
  intro u hu
  obtain ⟨i, hi, hiu⟩ := List.getElem_of_mem hu
  have hz : (FS.zip ws)[i]? = some (u, ws[i]'(by omega)) := by
    rw [List.getElem?_eq_getElem (by rw [List.length_zip]; omega), List.getElem_zip, hiu]
  have w := wIni_spec (List.all_eq_true.mp k7 _ (List.mem_of_getElem? hz)) k2 k3 (by rw [List.length_map]; exact Nat.le_refl _) (by rw [List.length_map]; exact Nat.le_refl _)
  have es : ∀ {τ : List Nat}, τ.length ≤ 1000000 → τ.all (fun i => decide (i < 1000000)) = true → ∀ i, i < τ.length → sR (sO (fun i => sg.getD i 0) τ) i = sR (fun j => (τ.map (fun i => sg.getD i 0)).getD j 0) i := fun {τ} hl ha i hi => by
    have e0 : τ[i]? = some (τ[i]'hi) := List.getElem?_eq_getElem hi
    have l0 := of_decide_eq_true (List.all_eq_true.mp ha _ (List.mem_of_getElem? e0))
    unfold sR
    rw [if_pos (by omega), if_pos (by omega)]
    unfold sO
    show sR (fun i => sg.getD i 0) (τ.getD i 0) = (τ.map (fun i => sg.getD i 0)).getD i 0
    rw [List.getD_eq_getElem?_getD, e0, List.getD_eq_getElem?_getD, List.getElem?_map, e0]
    show (if τ[i]'hi < 1000000 then sg.getD (τ[i]'hi) 0 else τ[i]'hi) = sg.getD (τ[i]'hi) 0
    rw [if_pos l0]
  exact wHd_ext (fun p hp => of_decide_eq_true (List.all_eq_true.mp (List.all_eq_true.mp k6 u hu) p hp)) w (es k2 k4) (es k3 k5)
end XHead
