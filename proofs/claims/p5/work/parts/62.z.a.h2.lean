/-! Blocks whose both calls are known by contract, and what they answer by hand: kinds only grow. -/
noncomputable section XHandB
def bHk (N : vAn) (n : Nat) (WA WB : List (Nat × Nat)) (dpA dpB : Nat) (lA lB : List vCt) : Bool :=
  sBd (aSt N) && decide (2 ≤ (aI N).length) && decide ((aG N).length < 1000000) &&
  vCal WA dpA (.inr (some 0) :: argVs (aI N).length n) (aSt (aArg n N)) (fun s1 S1 => (match S1 with
    | [.inl _] => true
    | _ => false) && decide ((sG s1)[1]? = (aG N)[1]?) && vCal WB dpB (.inr (some 1) :: argVs (aI N).length n) s1 (fun s2 S2 => (match S2 with
      | [.inl _] => true
      | _ => false) && vMc (aNl N) (lSy 0 :: lAdd (lSy 1) (lK 7) :: (List.range ((aI N).length - 2)).map (fun j => lSy (j + 2))) (List.range (aG N).length) [] [] s2) lB) lA
/-- what both calls of a block come to, whatever they answer -/
def bHS (KT : vKT) (tb : XT) (tyl : List FieldType) (ot : XO Int32) (N : vAn) (W : List (Nat × Nat)) (dp kA kB n mc rA rB : Nat) : Prop :=
  ∀ (ρ : Nat → Int) (σ : Nat → Nat) (ty : Nat → Option Nat) (H : List (XC Int32)) (t : Nat), ρ 0 = (oSn ot : Int) → ρ 1 = (t : Int) → t + 7 ≤ oSn ot → H.length + mc ≤ 1000000 → vRel KT ρ σ ty H (aSt N) →
    ∃ (a b : Int32) (HA HH : List (XC Int32)) (ρ2 : Nat → Int) (σ2 : Nat → Nat) (ty2 : Nat → Option Nat), x_rc ot H (sR σ 0) = some rA ∧ x_To tb tyl ot dp kA 0 (x_en 0 (.inr (some (sR σ 0)) :: bVs ot t n 1)) [] H 0 0 (some (.inl a)) HA ∧ x_rc ot HA (sR σ 1) = some rB ∧ x_To tb tyl ot dp kB 0 (x_en 0 (.inr (some (sR σ 1)) :: bVs ot t n 1)) [] HA 0 0 (some (.inl b)) HH ∧
      ρ2 0 = ρ 0 ∧ ρ2 1 = ρ 1 + 7 ∧ (∀ i, i < (aG N).length → sR σ2 i = sR σ i) ∧ vRel KT ρ2 σ2 ty2 HH (aSt N) ∧ vLe ty ty2 ∧ vFrm W ty H HH ∧ HH.length ≤ H.length + mc
theorem lst1 {S : List vA} (h : (match S with
    | [.inl _] => true
    | _ => false) = true) {ρ : Nat → Int} {σ : Nat → Nat} {v : Option (XV Int32)} (e : S.map (cv ρ σ) = v.toList) : ∃ a : Int32, v = some (.inl a) := by
  split at h
  · rcases v with _ | v
    · cases e
    · rename_i x
      refine ⟨Int32.ofInt (lEv ρ x), ?_⟩
      have e : [cv ρ σ (.inl x)] = [v] := e
      injection e with e
      rw [← e]
      rfl
  · cases h
theorem bHS_of {KT : vKT} {tb : XT} {tyl : List FieldType} {ot : XO Int32} {N : vAn} {n dpA dpB d kA kB : Nat} {WA WB W : List (Nat × Nat)} {lA lB : List vCt} (hk : bHk N n WA WB dpA dpB lA lB = true) (hA : ∀ c ∈ lA, vCtSem KT tb tyl ot kA c) (hB : ∀ c ∈ lB, vCtSem KT tb tyl ot kB c) {xA xB : XM} (hxA : tMth tb kA = some xA) (hxB : tMth tb kB = some xB) (hdA : dpA ≤ d) (hdB : dpB ≤ d) (w1 : wSub WA W = true) (w2 : wSub WB W = true) {rA rB : Nat} (hrA : gRc KT N 0 = some rA) (hrB : gRc KT N 1 = some rB) :
    bHS KT tb tyl ot N W d kA kB n (mMc xA + mMc xB) rA rB := by
  unfold bHk at hk
  simp only [Bool.and_eq_true] at hk
  obtain ⟨⟨⟨k1, k2⟩, k3⟩, k4⟩ := hk
  have k2 := of_decide_eq_true k2
  have k3 := of_decide_eq_true k3
  intro ρ σ ty H t h0 h1 ht hlen h
  let ρ1 : Nat → Int := fun j => if j < (aI N).length then ρ j else (oSc ot (t + (1 + (j - (aI N).length)))).toInt
  have eρ : ∀ j, j < (aI N).length → ρ1 j = ρ j := fun j hj => if_pos hj
  have eV : ∀ j, j < n → ρ1 ((aI N).length + j) = (oSc ot (t + (1 + j))).toInt := fun j _ => by
    show (if (aI N).length + j < (aI N).length then _ else (oSc ot (t + (1 + ((aI N).length + j - (aI N).length)))).toInt) = _
    rw [if_neg (by omega), Nat.add_sub_cancel_left]
  have hA1 := vRel_arg h k1 (by omega) k2 (n := n) (vals := fun j => oSc ot (t + (1 + j))) eρ eV
  have lenA : sN (aSt (aArg n N)) = (aI N).length + n := by
    show (aI N ++ List.replicate n _).length = _
    rw [List.length_append, List.length_replicate]
  obtain ⟨c0, o0, y1, y2, y3⟩ := gRc_spec hrA
  obtain ⟨c1, o1, z1, z2, z3⟩ := gRc_spec hrB
  obtain ⟨vA, HA, ρ3, σ3, ty3, s1, S1, x1, e1, r1, m1, le1, f1, l1, q1⟩ := vCal_spec (ty0 := ty) (H0 := H) hxA hdA hA1 (by omega) (vLe_rf ty) (vFrm_rf WA ty H) hA k4
  simp only [Bool.and_eq_true] at q1
  obtain ⟨⟨q1, q2⟩, q3⟩ := q1
  have q2 := of_decide_eq_true q2
  obtain ⟨a, rfl⟩ := lst1 q1 m1
  obtain ⟨vB, HH, ρ4, σ4, ty4, s2, S2, x2, e2, r2, m2, le2, f2, l2, q4⟩ := vCal_spec (ty0 := ty3) (H0 := HA) hxB hdB r1 (by omega) (vLe_rf ty3) (vFrm_rf WB ty3 HA) hB q3
  simp only [Bool.and_eq_true] at q4
  obtain ⟨q4, q5⟩ := q4
  obtain ⟨b, rfl⟩ := lst1 q4 m2
  have lG : (sG (aSt (aArg n N))).length = (aG N).length := rfl
  have l2G : 2 ≤ (aG N).length := by
    have := (List.getElem?_eq_some_iff.mp z1).1
    omega
  have s31 : ∀ i, i < (aG N).length → sR σ3 i = sR σ i := fun i hi => by
    unfold sR
    rw [if_pos (by omega), if_pos (by omega)]
    exact e1.2.1 i (by rw [lG]; exact hi)
  have s41 : ∀ i, i < (aG N).length → sR σ4 i = sR σ i := fun i hi => by
    rw [← s31 i hi]
    unfold sR
    rw [if_pos (by omega), if_pos (by omega)]
    exact e2.2.1 i (by
      have := e1.2.2.2
      rw [lG] at this
      omega)
  have a1 : (.inr (some 0) :: argVs (aI N).length n : List vA).map (cv ρ1 σ) = .inr (some (sR σ 0)) :: bVs ot t n 1 := by
    rw [List.map_cons, argVs_cv n _ 1 (fun i hi => eV i hi)]
    rfl
  have a2 : (.inr (some 1) :: argVs (aI N).length n : List vA).map (cv ρ3 σ3) = .inr (some (sR σ 1)) :: bVs ot t n 1 := by
    rw [List.map_cons, argVs_cv n _ 1 (fun i hi => by
      rw [e1.1 _ (by rw [lenA]; omega)]
      exact eV i hi), ← s31 1 (by omega)]
    rfl
  rw [a1] at x1
  rw [a2] at x2
  obtain ⟨v1, -, -, -, -, -⟩ := vMc_spec r2 q5
  have g4 : ∀ j, j < (aI N).length → ρ4 j = ρ j := fun j hj => by
    have n1 := e1.2.2.1
    rw [lenA] at n1
    rw [e2.1 j (by omega), e1.1 j (by rw [lenA]; omega)]
    exact eρ j hj
  have hx := xRc (ot := ot) r1 (by omega) (q2.trans z1) z2 (G := HA) rfl
  rw [s31 1 (by omega), z3] at hx
  have hx0 := xRc (ot := ot) h (by omega) y1 y2 (G := H) rfl
  rw [y3] at hx0
  refine ⟨a, b, HA, HH, _, _, ty4, hx0, x1, hx, x2, ?_, ?_, fun i hi => ?_, v1, vLe_tr le1 le2, ?_, by omega⟩
  · show lEv ρ4 (lSy 0) = ρ 0
    rw [lSy_ev]
    exact g4 0 (by omega)
  · show lEv ρ4 (lAdd (lSy 1) (lK 7)) = ρ 1 + 7
    rw [lAdd_ev, lSy_ev, lK_ev, g4 1 (by omega)]
  · rw [sOx (List.getElem?_range hi) (by omega)]
    exact s41 i hi
  · exact vFrm_tr (vFrm_tr (vFrm_rf W ty H) (vLe_rf ty) (wSub_spec w1) f1) le1 (wSub_spec w2) f2
theorem bPP_of {KT : vKT} {tb : XT} {tyl : List FieldType} {ot : XO Int32} {N : vAn} (l2 : 1 < (aG N).length) {W : List (Nat × Nat)} {d kA kB n mc rA rB : Nat} (h : bHS KT tb tyl ot N W d kA kB n mc rA rB) {P : (Nat → Nat) → (Nat → Option Nat) → List (XC Int32) → Prop} {cmp : Prop}
    (hp : ∀ (ρ : Nat → Int) (σ : Nat → Nat) (ty : Nat → Option Nat) (H : List (XC Int32)) (t : Nat) (a b : Int32) (HA HH : List (XC Int32)) (ρ2 : Nat → Int) (σ2 : Nat → Nat) (ty2 : Nat → Option Nat), H.length + mc ≤ 1000000 → vRel KT ρ σ ty H (aSt N) → P σ ty H → x_To tb tyl ot d kA 0 (x_en 0 (.inr (some (sR σ 0)) :: bVs ot t n 1)) [] H 0 0 (some (.inl a)) HA → x_To tb tyl ot d kB 0 (x_en 0 (.inr (some (sR σ 1)) :: bVs ot t n 1)) [] HA 0 0 (some (.inl b)) HH → (∀ i, i < (aG N).length → sR σ2 i = sR σ i) → vRel KT ρ2 σ2 ty2 HH (aSt N) → vLe ty ty2 → vFrm W ty H HH → (cmp → a = b) ∧ P σ2 ty2 HH) : bPP KT tb tyl ot N P d kA kB n mc rA rB cmp := by
  intro ρ σ ty H t h0 h1 ht hlen hr hP
  obtain ⟨a, b, HA, HH, ρ2, σ2, ty2, z0, z1, z2, z3, z4, z5, z6, z7, zl, z8, z9⟩ := h ρ σ ty H t h0 h1 ht hlen hr
  obtain ⟨p1, p2⟩ := hp ρ σ ty H t a b HA HH ρ2 σ2 ty2 hlen hr hP z1 z3 z6 z7 zl z8
  exact ⟨a, b, HA, HH, ρ2, σ2, ty2, z0, z1, z2, z3, p1, z4, z5, z6 0 (by omega), z6 1 l2, z7, p2, z9⟩
end XHandB
