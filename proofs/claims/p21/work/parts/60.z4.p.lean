/-! A family gone through again by a graph of its own, with ints that are told. -/
noncomputable section XGo
noncomputable def wGkE (FS : List wN) (gA gB nT iu : Nat) (u : wN) (x : (Bool × wE) × List lT) : Bool := decide (wQA x.1.2 = none) && decide (wQB x.1.2 = none) && decide ((aS (wNA x.1.2)).length ≤ 1) && decide ((aS (wNB x.1.2)).length ≤ 1) && ((wUs x.1.2).any (Nat.beq iu) || (decide (x.2.length = (wBd u).length) && (List.range (wBd u).length).all (fun j => lQ (sI (aSt (wNA x.1.2))) (sC (aSt (wNA x.1.2))) (x.2.getD j (lK 0)) (lSy (nT + j))) && wPo gA gB u x.2 (aSt (wNA x.1.2)) (aG (wNB x.1.2), aF (wNB x.1.2))))
/-- an entry with ints that are told -/
def wEt1 (u : wN) (e : wE) (e2 : wE) : Bool := decide (wQA e2 = wQA e) && decide (wQB e2 = wQB e) && decide (wUs e2 = wUs e) && decide (aI (wNB e) = aI (wNA e)) && sBd (aSt (wNA e)) && sBd (aSt (wNB e))
def wEt2 (I : List (Int × Int)) (A A2 : vAn) : Bool := decide (aG A2 = aG A) && decide (aI A2 = I) && decide (aL A2 = aL A) && decide (aS A2 = aS A) && fKs (aF A2) (aF A) && decide (aC A2 = aC A) && ((aM A2).isEmpty && (aM A).isEmpty) && decide (aCn A2 = aCn A) && decide (aSn A2 = aSn A) && (aL A).all (fun q => vBd (aI A).length (aG A).length q.2) && lBd (aI A).length (aCn A) && lBd (aI A).length (aSn A)
theorem wEt2_spec {I : List (Int × Int)} {A A2 : vAn} (h : wEt2 I A A2 = true) : aG A2 = aG A ∧ aI A2 = I ∧ aL A2 = aL A ∧ aS A2 = aS A ∧ aF A2 = aF A ∧ aC A2 = aC A ∧ aM A2 = aM A ∧ aCn A2 = aCn A ∧ aSn A2 = aSn A ∧ (aL A).all (fun q => vBd (aI A).length (aG A).length q.2) = true ∧ lBd (aI A).length (aCn A) = true ∧ lBd (aI A).length (aSn A) = true := by
  unfold wEt2 at h
  simp only [Bool.and_eq_true] at h
  obtain ⟨⟨⟨⟨⟨⟨⟨⟨⟨⟨⟨a, b⟩, c⟩, d⟩, e⟩, f⟩, g⟩, h⟩, i⟩, j⟩, k⟩, l⟩ := h
  exact ⟨of_decide_eq_true a, of_decide_eq_true b, of_decide_eq_true c, of_decide_eq_true d, fKs_spec e, of_decide_eq_true f, (List.isEmpty_iff.mp g.1).trans (List.isEmpty_iff.mp g.2).symm, of_decide_eq_true h, of_decide_eq_true i, j, k, l⟩
theorem wMo_st {A A2 : vAn} {bd : List (Int × Int)} (e1 : aG A2 = aG A) (e2 : aI A2 = aI A ++ bd) (e3 : aF A2 = aF A) (e4 : aC A2 = aC A) (e5 : aM A2 = aM A) {KT : vKT} {ρ : Nat → Int} {σ : Nat → Nat} {ty : Nat → Option Nat} {H : List (XC Int32)} (h : vRel KT ρ σ ty H (wMo (aSt A) bd)) : vRel KT ρ σ ty H (aSt A2) := by
  obtain ⟨h1, h2, h3, h4, h5, h6, h7, h8⟩ := h
  refine ⟨h1, by show vSym ty σ (aG A2); rw [e1]; exact h2, by show ∀ f ∈ aF A2, _; rw [e3]; exact h3, ?_, by show ∀ c ∈ aC A2, _; rw [e4]; exact h5, by show ∀ m ∈ aM A2, _; rw [e5]; exact h6, h7, h8⟩
  show iHd ρ (zipI 0 (aI A2))
  rw [e2]
  refine zipI_spec.mpr (fun i p hp => ?_)
  rw [Nat.zero_add]
  by_cases c : i < (aI A).length
  · rw [List.getElem?_append_left c] at hp
    have k : iHd ρ (zipI 0 (aI A)) := fun q hq => h4 q (List.mem_append.mpr (Or.inr hq))
    have := zipI_spec.mp k i p hp
    rw [Nat.zero_add] at this
    exact this
  · rw [List.getElem?_append_right (by omega)] at hp
    have k : iHd ρ (zipI (aI A).length bd) := fun q hq => h4 q (List.mem_append.mpr (Or.inl hq))
    have := zipI_spec.mp k (i - (aI A).length) p hp
    rw [show (aI A).length + (i - (aI A).length) = i by omega] at this
    exact this
theorem wReG {KT : vKT} {tb : XT} {tyl : List FieldType} {ot : XO Int32} {FS : List wN} {GA0 GB0 : List Nat} (hFS : ∀ u ∈ FS, wOk KT GA0 GB0 u = true) {n0 mA mB : Nat} {WA WB : List (Nat × Nat)} {kA kB dpA dpB : Nat} {e e2 : wE} {OX : List ((Bool × wE) × List lT)} (hG : wGoes KT tb tyl ot FS GA0.length GB0.length n0 mA mB WA WB kA kB dpA dpB e2 (OX.map (fun x => x.1))) {iu : Nat} {u : wN} (hu : FS[iu]? = some u) {cmp : Bool} (h0 : wEn e = true) (he : wEt1 u e e2 = true) (heA : wEt2 (aI (wNA e) ++ wBd u) (wNA e) (wNA e2) = true) (heB : wEt2 (aI (wNA e) ++ wBd u) (wNB e) (wNB e2) = true) (hO : OX.all (wGkE FS GA0.length GB0.length (aI (wNA e)).length iu u) = true) (hn : (aI (wNA e)).length + (wBd u).length ≤ n0) (hA : GA0.length ≤ mA) (hB : GB0.length ≤ mB) : wRe KT tb tyl ot FS GA0.length GB0.length kA kB dpA dpB cmp e u := by
  intro qA qB dA dB BA BB hqA hqB hdA hdB hBA hBB c LA LB a1 a2 b1 b2 hat v hv
  obtain ⟨h1, h2, h3, h4, h5⟩ := hat
  have hok := hFS u (List.mem_of_getElem? hu)
  obtain ⟨o1, o2, o3, -⟩ := wOk_a hok
  unfold wEn at h0
  simp only [Bool.and_eq_true] at h0
  obtain ⟨⟨⟨n1, n2⟩, n3⟩, n4⟩ := h0
  have n1 := of_decide_eq_true n1
  have n2 := of_decide_eq_true n2
  have n3 := of_decide_eq_true n3
  have n4 := of_decide_eq_true n4
  unfold wEt1 at he
  simp only [Bool.and_eq_true] at he
  obtain ⟨⟨⟨⟨⟨e1, e2_⟩, e21⟩, e13b⟩, s1⟩, s2⟩ := he
  have e1 := of_decide_eq_true e1
  have e2_ := of_decide_eq_true e2_
  have e21 := of_decide_eq_true e21
  have e13b := of_decide_eq_true e13b
  obtain ⟨e3, e4, e5, e6, e7, e8, e9, e10, e11, l1, l2, l3⟩ := wEt2_spec heA
  obtain ⟨e12, e13, e14, e15, e16, e17, e18, e19, e20, l4, l5, l6⟩ := wEt2_spec heB
  rw [e13b] at l4 l5 l6
  let ρ0 : Nat → Int := fun i => if i < (aI (wNA e)).length then cR c i else v (i - (aI (wNA e)).length)
  have t1 : ∀ i, i < (aI (wNA e)).length → ρ0 i = cR c i := fun i hi => if_pos hi
  have t2 : ∀ j, ρ0 ((aI (wNA e)).length + j) = v j := fun j => by
    show (if (aI (wNA e)).length + j < (aI (wNA e)).length then _ else v ((aI (wNA e)).length + j - (aI (wNA e)).length)) = v j
    rw [if_neg (by omega), Nat.add_sub_cancel_left]
  have t3 : ∀ (j : Nat) (p : Int × Int), (wBd u)[j]? = some p → p.1 ≤ ρ0 ((aI (wNA e)).length + j) ∧ ρ0 ((aI (wNA e)).length + j) ≤ p.2 := fun j p hp => by
    rw [t2]
    exact hv j p hp
  have hA0 : vRel KT ρ0 (cSA c) (cTA c) (cHA c) (aSt (wNA e2)) := wMo_st e3 e4 e7 e8 e9 (wMo_spec h1 s1 (bd := wBd u) t1 t3)
  have hB0 : vRel KT ρ0 (cSB c) (cTB c) (cHB c) (aSt (wNB e2)) := wMo_st e12 (by rw [e13, e13b]) e16 e17 e18 (wMo_spec h2 s2 (bd := wBd u) (fun i hi => t1 i (by rw [← e13b]; exact hi)) (fun j p hp => by
    show p.1 ≤ ρ0 ((aI (wNB e)).length + j) ∧ ρ0 ((aI (wNB e)).length + j) ≤ p.2
    rw [e13b]
    exact t3 j p hp))
  rw [n1] at h3
  rw [n2] at h4
  obtain ⟨vA, H1, vB, H2, z1, z2, z3⟩ := hG qA qB dA dB BA BB hqA hqB hdA hdB hBA hBB (ρ0, cSA c, cSB c, cTA c, cTB c, cHA c, cHB c) LA LB a1 a2 b1 b2 ⟨hA0, hB0, by
    rw [e1, n1]
    exact ⟨h3.1, by rw [e5]; exact vBd_loc t1 (fun _ _ => rfl) l1 h3.2.1, by rw [e10]; show _ ≤ lEv ρ0 _; rw [lBd_spec t1 l2]; exact h3.2.2.1, by rw [e11]; show _ ≤ lEv ρ0 _; rw [lBd_spec t1 l3]; exact h3.2.2.2⟩, by
    rw [e2_, n2]
    exact ⟨h4.1, by rw [e14]; exact vBd_loc t1 (fun _ _ => rfl) l4 h4.2.1, by rw [e19]; show _ ≤ lEv ρ0 _; rw [lBd_spec t1 l5]; exact h4.2.2.1, by rw [e20]; show _ ≤ lEv ρ0 _; rw [lBd_spec t1 l6]; exact h4.2.2.2⟩, by
    rw [e21]
    exact h5⟩ (fun vA H1 vB H2 => (H1.length ≤ BA + mMc qA ∧ H2.length ≤ BB + mMc qB ∧ ∃ W, vFrm W (cTA c) (cHA c) H1) ∧ ((cmp = true → vA = vB) → ∀ ρ1 : Nat → Int, wPn (wPi u) ρ1 (cSA c) H1 → (∀ j, j < (wBd u).length → ρ1 ((wPi u).length + j) = v j) → (∀ x ∈ wPr u, 0 ≤ lEv ρ1 x) → wCon GA0.length GB0.length u ρ1 (cSA c) (cSB c) H1 H2)) (fun o ho d LA2 LB2 c1 c2 d1 d2 w1 w2 w3 => by
    obtain ⟨x, hx, rfl⟩ := List.mem_map.mp ho
    have hk := List.all_eq_true.mp hO x hx
    unfold wGkE at hk
    simp only [Bool.and_eq_true] at hk
    obtain ⟨⟨⟨⟨k1, k2⟩, k3⟩, k4⟩, k5⟩ := hk
    have k1 := of_decide_eq_true k1
    have k2 := of_decide_eq_true k2
    obtain ⟨u1, u2, u3, u4, u5⟩ := w1
    obtain ⟨f1, f2, f3, f4, f5, f6, f7⟩ := w2
    rw [k1] at u3
    rw [k2] at u4
    obtain ⟨wA, hwA⟩ := optOf (S := (aS (wNA x.1.2)).map (cv (cR d) (cSA d))) (by rw [List.length_map]; exact of_decide_eq_true k3)
    obtain ⟨wC, hwC⟩ := optOf (S := (aS (wNB x.1.2)).map (cv (cR d) (cSB d))) (by rw [List.length_map]; exact of_decide_eq_true k4)
    rw [k1, k2]
    refine ⟨wA, cHA d, wC, cHB d, ⟨hwA, rfl⟩, ⟨hwC, rfl⟩, ⟨u3, u4, WA, f6⟩, fun hcmp ρ1 p1 p2 p3 => ?_⟩
    have sA : ∀ i, i < GA0.length → sR (cSA d) i = sR (cSA c) i := fun i hi => by
      unfold sR
      rw [show cSA d i = cSA c i from f2 i (by omega)]
    have sB : ∀ i, i < GB0.length → sR (cSB d) i = sR (cSB c) i := fun i hi => by
      unfold sR
      rw [show cSB d i = cSB c i from f3 i (by omega)]
    have p1' : wPn (wPi u) ρ1 (cSA d) (cHA d) := wPn_ext p1 (fun p hp => sA _ (o1 p hp))
    rcases Bool.or_eq_true_iff.mp k5 with k5 | k5
    · obtain ⟨i, hi, k6⟩ := List.any_eq_true.mp k5
      have k6 := Nat.eq_of_beq_eq_true k6
      subst k6
      have w := u5 iu hi u hu ρ1 p1' (fun j p hj => by
        rw [p2 j (List.getElem?_eq_some_iff.mp hj).1]
        exact hv j p hj) p3
      exact wCon_ext w (fun i hi => (sA i hi).symm) (fun i hi => (sB i hi).symm)
    · simp only [Bool.and_eq_true] at k5
      obtain ⟨⟨q1, q2⟩, q3⟩ := k5
      have q1 := of_decide_eq_true q1
      refine wCon_ext (wPo_spec u1 (wB_of u1 u2 rfl rfl (vRel_noraw u2 rfl)) q3 p1' (fun j hj => ?_) p3) (fun i hi => (sA i hi).symm) (fun i hi => (sB i hi).symm)
      have q4 := lQ_spec u1.2.2.2.1 u1.2.2.2.2.1 (List.all_eq_true.mp q2 j (List.mem_range.mpr hj))
      rw [lSy_ev] at q4
      rw [p2 j hj, ← t2 j, ← show cR d ((aI (wNA e)).length + j) = ρ0 ((aI (wNA e)).length + j) from f1 _ (by omega)]
      exact q4)
  refine ⟨vA, H1, vB, H2, ?_, ?_, z3⟩
  · rw [e1, n1, e6, n3] at z1
    exact z1
  · rw [e2_, n2, e15, n4] at z2
    exact z2
end XGo
