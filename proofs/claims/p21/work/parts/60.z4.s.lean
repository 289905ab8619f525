/-! The second parked: a graph where the first alone goes on, at any place of the second. -/
noncomputable section XLf
def wCkL (n1 m2 : Nat) (qP : XM) (LE : List (Nat × vA)) (SE : List vA) (cE sE : lT) (E' : vAn) : Bool :=
  (aL E').isEmpty && (aS E').isEmpty && decide (aCn E' = lK 0) && decide (aSn E' = lK 0) && decide (mR qP = none) && decide (mMc qP = 0) && LE.all (fun q => vBd n1 m2 q.2) && SE.all (vBd n1 m2) && lBd n1 cE && lBd n1 sE
theorem wLift {KT : vKT} {tb : XT} {tyl : List FieldType} {ot : XO Int32} {FS : List wN} {gA gB n1 m1 m2 : Nat} {WA WB : List (Nat × Nat)} {kA kB kP dpA dpB dpP : Nat} {e' : wE} {outs' : List (Bool × wE)} (hI : wGoes KT tb tyl ot FS gA gB n1 m1 m2 WA WB kA kP dpA dpP e' outs') {pc pcP nx : Nat} {qB qP : XM} (hqB : tMth tb kB = some qB) (hqP : tMth tb kP = some qP) (iP : mC qP pcP = some (.return_, nx)) {LE : List (Nat × vA)} {SE : List vA} {cE sE : lT} (hk : wCkL n1 m2 qP LE SE cE sE (wNB e') = true) (h0 : wQB e' = some pcP) (hO : outs'.all (fun o => decide (wQB o.2 = some pcP) && (aS (wNB o.2)).isEmpty && decide (aCn (wNB o.2) = lK 0) && decide (aSn (wNB o.2) = lK 0)) = true) :
    wGoes KT tb tyl ot FS gA gB n1 m1 m2 WA WB kA kB dpA dpB (wQA e', some pc, wNA e', wCl (wNB e') LE SE cE sE, wUs e') (outs'.map (fun o => (o.1, wQA o.2, some pc, wNA o.2, wCl (wNB o.2) LE SE cE sE, wUs o.2))) := by
  unfold wCkL at hk
  simp only [Bool.and_eq_true] at hk
  obtain ⟨⟨⟨⟨⟨⟨⟨⟨⟨k3, k4⟩, k5⟩, k6⟩, k7⟩, k8⟩, k12⟩, k13⟩, k14⟩, k15⟩ := hk
  have k3 := List.isEmpty_iff.mp k3
  have k4 := List.isEmpty_iff.mp k4
  have k5 := of_decide_eq_true k5
  have k6 := of_decide_eq_true k6
  have k7 := of_decide_eq_true k7
  have k8 := of_decide_eq_true k8
  intro qA qB' dA dB BA BB hqA hqB2 hdA hdB hBA hBB c LA LB a1 a2 b1 b2 hat R hout
  obtain ⟨h1, h2, h3, h4, h5⟩ := hat
  rw [hqB] at hqB2
  cases hqB2
  have h1 : vRel KT (cR c) (cSA c) (cTA c) (cHA c) (aSt (wNA e')) := h1
  have h2 : vRel KT (cR c) (cSB c) (cTB c) (cHB c) (aSt (wNB e')) := h2
  obtain ⟨⟨l1, l2⟩, cov, p1, p2⟩ := h4
  have p1 : (b1 : Int) ≤ lEv (cR c) cE := p1
  have p2 : (b2 : Int) ≤ lEv (cR c) sE := p2
  have rt : ∀ (H : List (XC Int32)) (L : List (Nat × XV Int32)), x_To tb tyl ot dpP kP pcP L [] H 0 0 none H := fun H L => xT_return_ hqP iP (by rw [k7]; rfl)
  obtain ⟨vA, H1, vB, H2, z1, z2, vB', H2', z3, z4⟩ := hI qA qP dA dpP BA (cHB c).length hqA hqP hdA (Nat.le_refl _) hBA (by omega) c LA [] a1 a2 0 0 ⟨h1, h2, h3, by
    rw [h0]
    refine ⟨⟨Nat.le_refl _, l2⟩, ?_, ?_, ?_⟩
    · rw [k3]
      exact fun _ _ hq => by cases hq
    · rw [k5, lK_ev]
      exact Int.le_refl _
    · rw [k6, lK_ev]
      exact Int.le_refl _, h5⟩ (fun vA H1 vB H2 => ∃ vB' H2', x_To tb tyl ot dB kB pc LB (SE.map (cv (cR c) (cSB c))) H2 b1 b2 vB' H2' ∧ R vA H1 vB' H2') (fun o ho d LA2 LB2 c1 c2 d1 d2 w1 w2 w3 => by
    have q := List.all_eq_true.mp hO o ho
    simp only [Bool.and_eq_true] at q
    obtain ⟨⟨⟨q1, q2⟩, q3⟩, q4⟩ := q
    have q1 := of_decide_eq_true q1
    have q2 := List.isEmpty_iff.mp q2
    have q3 := of_decide_eq_true q3
    have q4 := of_decide_eq_true q4
    obtain ⟨u1, u2, u3, u4, u5⟩ := w1
    rw [q1] at u4
    obtain ⟨⟨m1, m2⟩, -, m3, m4⟩ := u4
    rw [q3, lK_ev] at m3
    rw [q4, lK_ev] at m4
    obtain rfl : d1 = 0 := by omega
    obtain rfl : d2 = 0 := by omega
    obtain ⟨vA, H1, vB2, G2, y1, y2, y3⟩ := hout (o.1, wQA o.2, some pc, wNA o.2, wCl (wNB o.2) LE SE cE sE, wUs o.2) (List.mem_map.mpr ⟨o, ho, rfl⟩) d LA2 LB c1 c2 b1 b2 ⟨u1, u2, u3, ⟨⟨by
      show (cHB d).length ≤ BB + b1
      omega, m2⟩, vBd_loc w2.1 w2.2.2.1 k12 cov, by
      show (b1 : Int) ≤ lEv (cR d) cE
      rw [lBd_spec w2.1 k14]
      exact p1, by
      show (b2 : Int) ≤ lEv (cR d) sE
      rw [lBd_spec w2.1 k15]
      exact p2⟩, u5⟩ w2 w3
    have y2 : x_To tb tyl ot dB kB pc LB (SE.map (cv (cR d) (cSB d))) (cHB d) b1 b2 vB2 G2 := y2
    refine ⟨vA, H1, none, cHB d, y1, ?_, vB2, G2, ?_, y3⟩
    · rw [q1, q2]
      exact rt _ _
    · rw [← vBd_list w2.1 w2.2.2.1 k13]
      exact y2)
  rw [h0, k4] at z2
  have z2 : x_To tb tyl ot dpP kP pcP [] [] (cHB c) 0 0 vB H2 := z2
  obtain ⟨-, rfl⟩ := x_To_one (rt (cHB c) []) z2
  exact ⟨vA, H1, vB', _, z1, z3, z4⟩
theorem wLiftA {KT : vKT} {tb : XT} {tyl : List FieldType} {ot : XO Int32} {FS : List wN} {gA gB n1 m1 m2 : Nat} {WA WB : List (Nat × Nat)} {kA kB kP dpA dpB dpP : Nat} {e' : wE} {outs' : List (Bool × wE)} (hI : wGoes KT tb tyl ot FS gA gB n1 m1 m2 WA WB kP kB dpP dpB e' outs') {pc pcP nx : Nat} {qA qP : XM} (hqA : tMth tb kA = some qA) (hqP : tMth tb kP = some qP) (iP : mC qP pcP = some (.return_, nx)) {LE : List (Nat × vA)} {SE : List vA} {cE sE : lT} (hk : wCkL n1 m1 qP LE SE cE sE (wNA e') = true) (h0 : wQA e' = some pcP) (hO : outs'.all (fun o => decide (wQA o.2 = some pcP) && (aS (wNA o.2)).isEmpty && decide (aCn (wNA o.2) = lK 0) && decide (aSn (wNA o.2) = lK 0)) = true) :
    wGoes KT tb tyl ot FS gA gB n1 m1 m2 WA WB kA kB dpA dpB (some pc, wQB e', wCl (wNA e') LE SE cE sE, wNB e', wUs e') (outs'.map (fun o => (o.1, some pc, wQB o.2, wCl (wNA o.2) LE SE cE sE, wNB o.2, wUs o.2))) := by
  unfold wCkL at hk
  simp only [Bool.and_eq_true] at hk
  obtain ⟨⟨⟨⟨⟨⟨⟨⟨⟨k3, k4⟩, k5⟩, k6⟩, k7⟩, k8⟩, k12⟩, k13⟩, k14⟩, k15⟩ := hk
  have k3 := List.isEmpty_iff.mp k3
  have k4 := List.isEmpty_iff.mp k4
  have k5 := of_decide_eq_true k5
  have k6 := of_decide_eq_true k6
  have k7 := of_decide_eq_true k7
  have k8 := of_decide_eq_true k8
  intro qA' qB dA dB BA BB hqA2 hqB hdA hdB hBA hBB c LA LB a1 a2 b1 b2 hat R hout
  obtain ⟨h1, h2, h3, h4, h5⟩ := hat
  rw [hqA] at hqA2
  cases hqA2
  have h1 : vRel KT (cR c) (cSA c) (cTA c) (cHA c) (aSt (wNA e')) := h1
  have h2 : vRel KT (cR c) (cSB c) (cTB c) (cHB c) (aSt (wNB e')) := h2
  obtain ⟨⟨l1, l2⟩, cov, p1, p2⟩ := h3
  have p1 : (a1 : Int) ≤ lEv (cR c) cE := p1
  have p2 : (a2 : Int) ≤ lEv (cR c) sE := p2
  have rt : ∀ (H : List (XC Int32)) (L : List (Nat × XV Int32)), x_To tb tyl ot dpP kP pcP L [] H 0 0 none H := fun H L => xT_return_ hqP iP (by rw [k7]; rfl)
  obtain ⟨vA, H1, vB, H2, z1, z2, vA', H1', z3, z4⟩ := hI qP qB dpP dB (cHA c).length BB hqP hqB (Nat.le_refl _) hdB (by omega) hBB c [] LB 0 0 b1 b2 ⟨h1, h2, by
    rw [h0]
    refine ⟨⟨Nat.le_refl _, l2⟩, ?_, ?_, ?_⟩
    · rw [k3]
      exact fun _ _ hq => by cases hq
    · rw [k5, lK_ev]
      exact Int.le_refl _
    · rw [k6, lK_ev]
      exact Int.le_refl _, h4, h5⟩ (fun vA H1 vB H2 => ∃ vA' H1', x_To tb tyl ot dA kA pc LA (SE.map (cv (cR c) (cSA c))) H1 a1 a2 vA' H1' ∧ R vA' H1' vB H2) (fun o ho d LA2 LB2 c1 c2 d1 d2 w1 w2 w3 => by
    have q := List.all_eq_true.mp hO o ho
    simp only [Bool.and_eq_true] at q
    obtain ⟨⟨⟨q1, q2⟩, q3⟩, q4⟩ := q
    have q1 := of_decide_eq_true q1
    have q2 := List.isEmpty_iff.mp q2
    have q3 := of_decide_eq_true q3
    have q4 := of_decide_eq_true q4
    obtain ⟨u1, u2, u3, u4, u5⟩ := w1
    rw [q1] at u3
    obtain ⟨⟨m1, m2⟩, -, m3, m4⟩ := u3
    rw [q3, lK_ev] at m3
    rw [q4, lK_ev] at m4
    obtain rfl : c1 = 0 := by omega
    obtain rfl : c2 = 0 := by omega
    obtain ⟨vA2, G1, vB, H2, y1, y2, y3⟩ := hout (o.1, some pc, wQB o.2, wCl (wNA o.2) LE SE cE sE, wNB o.2, wUs o.2) (List.mem_map.mpr ⟨o, ho, rfl⟩) d LA LB2 a1 a2 d1 d2 ⟨u1, u2, ⟨⟨by
      show (cHA d).length ≤ BA + a1
      omega, m2⟩, vBd_loc w2.1 w2.2.1 k12 cov, by
      show (a1 : Int) ≤ lEv (cR d) cE
      rw [lBd_spec w2.1 k14]
      exact p1, by
      show (a2 : Int) ≤ lEv (cR d) sE
      rw [lBd_spec w2.1 k15]
      exact p2⟩, u4, u5⟩ w2 w3
    have y1 : x_To tb tyl ot dA kA pc LA (SE.map (cv (cR d) (cSA d))) (cHA d) a1 a2 vA2 G1 := y1
    refine ⟨none, cHA d, vB, H2, ?_, y2, vA2, G1, ?_, y3⟩
    · rw [q1, q2]
      exact rt _ _
    · rw [← vBd_list w2.1 w2.2.1 k13]
      exact y1)
  rw [h0, k4] at z1
  have z1 : x_To tb tyl ot dpP kP pcP [] [] (cHA c) 0 0 vA H1 := z1
  obtain ⟨-, rfl⟩ := x_To_one (rt (cHA c) []) z1
  exact ⟨vA', _, vB, H2, z3, z2, z4⟩
end XLf
