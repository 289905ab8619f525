/-! Calls of both at once; ranks behind calls. -/
noncomputable section XEdU
/-- ranks of ints that stay: one less behind a call -/
theorem wUp {KT : vKT} {tb : XT} {tyl : List FieldType} {ot : XO Int32} {FS : List wN} {gA gB n0 mA mB : Nat} {WA WB : List (Nat × Nat)} {kA kB dpA dpB : Nat} {e : wE} {outs : List (Bool × wE)} (h : wGoes KT tb tyl ot FS gA gB n0 mA mB WA WB kA kB dpA dpB e outs) (hk : (lBd n0 (aRk (wNA e)) && outs.all (fun o => lBd n0 (aRk (wNA o.2)) && lGe (sI (aSt (wNA o.2))) (sC (aSt (wNA o.2))) (aRk (wNA o.2)) && decide (aRk (wNA e) = lAdd (aRk (wNA o.2)) (lK 1)))) = true) : wGoes KT tb tyl ot FS gA gB n0 mA mB WA WB kA kB dpA dpB e (outs.map (fun o => (true, o.2))) := by
  obtain ⟨k1, k2⟩ := Bool.and_eq_true_iff.mp hk
  intro qA qB dA dB BA BB hqA hqB hdA hdB hBA hBB c LA LB a1 a2 b1 b2 hat R hout
  refine h qA qB dA dB BA BB hqA hqB hdA hdB hBA hBB c LA LB a1 a2 b1 b2 hat R (fun o ho d LA2 LB2 c1 c2 d1 d2 w1 w2 w3 => ?_)
  have k3 := List.all_eq_true.mp k2 o ho
  simp only [Bool.and_eq_true] at k3
  obtain ⟨⟨k3, k4⟩, k5⟩ := k3
  have k5 := of_decide_eq_true k5
  have r1 := lGe_spec w1.1.2.2.2.1 w1.1.2.2.2.2.1 k4
  refine hout (true, o.2) (List.mem_map.mpr ⟨o, ho, rfl⟩) d LA2 LB2 c1 c2 d1 d2 w1 w2 (fun _ => ⟨r1, ?_⟩)
  show lEv (cR d) (aRk (wNA o.2)) < lEv (cR c) (aRk (wNA e))
  rw [k5, lAdd_ev, lK_ev, lBd_spec w2.1 k3]
  omega
/-- both enter a call -/
theorem wCall2 {KT : vKT} {tb : XT} {tyl : List FieldType} {ot : XO Int32} {FS : List wN} {gA gB n1 m1 m2 : Nat} {WA WB : List (Nat × Nat)} {kA kB jA jB dA' dB' : Nat} {e' : wE} {outs' : List (Bool × wE)} (hI : wGoes KT tb tyl ot FS gA gB n1 m1 m2 WA WB jA jB dA' dB' e' outs')
    {pcA ixA nxA rA : Nat} {argsA restA : List vA} {qA qjA : XM} (hqA : tMth tb kA = some qA) (hqjA : tMth tb jA = some qjA) (i1 : mC qA pcA = some (.invokevirtual ixA, nxA)) (i2 : tCal tb (mO qA) ixA = some (jA, 0)) {LA : List (Nat × vA)} {cA sA : lT} (hkA : wCk KT tb n1 m1 qA qjA pcA jA ixA nxA rA argsA restA LA cA sA (wNA e') (aSt (wNA e')) = true) (h0A : wQA e' = some 0) (hOA : outs'.all (fun o => decide (wQA o.2 = none) && decide ((aS (wNA o.2)).length ≤ 1)) = true)
    {pcB ixB nxB rB : Nat} {argsB restB : List vA} {qB qjB : XM} (hqB : tMth tb kB = some qB) (hqjB : tMth tb jB = some qjB) (j1 : mC qB pcB = some (.invokevirtual ixB, nxB)) (j2 : tCal tb (mO qB) ixB = some (jB, 0)) {LB : List (Nat × vA)} {cB sB : lT} (hkB : wCk KT tb n1 m2 qB qjB pcB jB ixB nxB rB argsB restB LB cB sB (wNB e') (aSt (wNA e')) = true) (h0B : wQB e' = some 0) (hOB : outs'.all (fun o => decide (wQB o.2 = none) && decide ((aS (wNB o.2)).length ≤ 1)) = true) :
    wGoes KT tb tyl ot FS gA gB n1 m1 m2 WA WB kA kB (dA' + 1) (dB' + 1) (some pcA, some pcB, wCl (wNA e') LA (argsA.reverse ++ .inr (some rA) :: restA) cA sA, wCl (wNB e') LB (argsB.reverse ++ .inr (some rB) :: restB) cB sB, wUs e') (outs'.map (fun o => (o.1, some (pcA + 3), some (pcB + 3), wBk (wCl (wNA e') LA (argsA.reverse ++ .inr (some rA) :: restA) cA sA) (wNA o.2) restA (mMc qjA) (mMs qjA), wBk (wCl (wNB e') LB (argsB.reverse ++ .inr (some rB) :: restB) cB sB) (wNB o.2) restB (mMc qjB) (mMs qjB), wUs o.2))) := by
  have h1 := wCallB hI hqB hqjB j1 j2 (LE := LB) (cE := cB) (sE := sB) hkB h0B hOB
  have h2 := wCallA h1 hqA hqjA i1 i2 (LE := LA) (cE := cA) (sE := sA) hkA h0A (by
    rw [List.all_map]
    exact hOA)
  rw [List.map_map] at h2
  exact h2
end XEdU
