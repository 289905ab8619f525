/-! Static calls. -/
noncomputable section XGs
def wCkS (n1 m1 : Nat) (q qj : XM) (so : Nat) (args rest : List vA) (LE : List (Nat × vA)) (cE sE : lT) (E' : vAn) (s : vSt) : Bool :=
  decide (aL E' = x_en 0 args) && decide (aS E' = []) && decide (aCn E' = lK 0) && decide (aSn E' = lK 0) &&
  decide (mNp qj = args.length) && decide (2 ≤ so) && decide (rest.length ≤ 8) && decide (args.length ≤ mL qj) &&
  LE.all (fun q => vBd n1 m1 q.2) && rest.all (vBd n1 m1) && lBd n1 cE && lBd n1 sE && lGe (sI s) (sC s) (lSub (lK (mMc q : Int)) (lAdd cE (lK (mMc qj : Int)))) && lGe (sI s) (sC s) (lSub (lK (mMs q : Int)) (lAdd sE (lK (mMs qj : Int))))
theorem wCkS_spec {n1 m1 : Nat} {q qj : XM} {so : Nat} {args rest : List vA} {LE : List (Nat × vA)} {cE sE : lT} {E' : vAn} {s : vSt} (hk : wCkS n1 m1 q qj so args rest LE cE sE E' s = true) : aL E' = x_en 0 args ∧ aS E' = [] ∧ aCn E' = lK 0 ∧ aSn E' = lK 0 ∧ mNp qj = args.length ∧ 2 ≤ so ∧ rest.length ≤ 8 ∧ args.length ≤ mL qj ∧ LE.all (fun q => vBd n1 m1 q.2) = true ∧ rest.all (vBd n1 m1) = true ∧ lBd n1 cE = true ∧ lBd n1 sE = true ∧ lGe (sI s) (sC s) (lSub (lK (mMc q : Int)) (lAdd cE (lK (mMc qj : Int)))) = true ∧ lGe (sI s) (sC s) (lSub (lK (mMs q : Int)) (lAdd sE (lK (mMs qj : Int)))) = true := by
  unfold wCkS at hk
  simp only [Bool.and_eq_true] at hk
  obtain ⟨⟨⟨⟨⟨⟨⟨⟨⟨⟨⟨⟨⟨k3, k4⟩, k5⟩, k6⟩, k7⟩, k8⟩, k9⟩, k10⟩, k11⟩, k12⟩, k13⟩, k14⟩, k15⟩, k16⟩ := hk
  exact ⟨of_decide_eq_true k3, of_decide_eq_true k4, of_decide_eq_true k5, of_decide_eq_true k6, of_decide_eq_true k7, of_decide_eq_true k8, of_decide_eq_true k9, of_decide_eq_true k10, k11, k12, k13, k14, k15, k16⟩
/-- the second enters a static call -/
theorem wCallBs {KT : vKT} {tb : XT} {tyl : List FieldType} {ot : XO Int32} {FS : List wN} {gA gB n1 m1 m2 : Nat} {WA WB : List (Nat × Nat)} {kA kB j dpA dpj : Nat} {e' : wE} {outs' : List (Bool × wE)} (hI : wGoes KT tb tyl ot FS gA gB n1 m1 m2 WA WB kA j dpA dpj e' outs') {pc ix nx so : Nat} {args rest : List vA} {qB qj : XM} (hqB : tMth tb kB = some qB) (hqj : tMth tb j = some qj) (i1 : mC qB pc = some (.invokestatic ix, nx)) (i2 : tCal tb (mO qB) ix = some (j, so)) {LE : List (Nat × vA)} {cE sE : lT} (hk : wCkS n1 m2 qB qj so args rest LE cE sE (wNB e') (aSt (wNA e')) = true) (h0 : wQB e' = some 0) (hO : outs'.all (fun o => decide (wQB o.2 = none) && decide ((aS (wNB o.2)).length ≤ 1)) = true) :
    wGoes KT tb tyl ot FS gA gB n1 m1 m2 WA WB kA kB dpA (dpj + 1) (wQA e', some pc, wNA e', (wCl (wNB e') LE (args.reverse ++ rest) cE sE), wUs e') (outs'.map (fun o => (o.1, wQA o.2, some (pc + 3), wNA o.2, wBk (wCl (wNB e') LE (args.reverse ++ rest) cE sE) (wNB o.2) rest (mMc qj) (mMs qj), wUs o.2))) := by
  obtain ⟨k3, k4, k5, k6, k7, k8, k9, k10, k12, k13, k14, k15, k16, k17⟩ := wCkS_spec hk
  intro qA qB' dA dB BA BB hqA hqB2 hdA hdB hBA hBB c LA LB a1 a2 b1 b2 hat R hout
  obtain ⟨h1, h2, h3, h4, h5⟩ := hat
  rw [hqB] at hqB2
  cases hqB2
  obtain ⟨dp, rfl⟩ : ∃ dp, dB = dp + 1 := ⟨dB - 1, by omega⟩
  have h1 : vRel KT (cR c) (cSA c) (cTA c) (cHA c) (aSt (wNA e')) := h1
  have h2 : vRel KT (cR c) (cSB c) (cTB c) (cHB c) (aSt (wNB e')) := h2
  obtain ⟨⟨l1, l2⟩, cov, p1, p2⟩ := h4
  have p1 : (b1 : Int) ≤ lEv (cR c) cE := p1
  have p2 : (b2 : Int) ≤ lEv (cR c) sE := p2
  have r1 := lGe_spec h1.2.2.2.1 h1.2.2.2.2.1 k16
  have r2 := lGe_spec h1.2.2.2.1 h1.2.2.2.2.1 k17
  rw [lSub_ev, lAdd_ev, lK_ev, lK_ev] at r1 r2
  have r3 : b1 + mMc qj ≤ mMc qB := by omega
  have r4 : b2 + mMs qj ≤ mMs qB := by omega
  have h2' : vRel KT (cR c) (cSB c) (cTB c) (cHB c) (aSt (wNB e')) := by
    exact h2
  obtain ⟨vA, H1, vB, H2, z1, z2, vB', H2', z3, z4⟩ := hI qA qj dA dp BA (cHB c).length hqA hqj hdA (by omega) hBA (by omega) c LA (x_en 0 (args.map (cv (cR c) (cSB c)))) a1 a2 0 0 ⟨h1, h2', h3, by
    rw [h0]
    refine ⟨⟨Nat.le_refl _, l2⟩, ?_, ?_, ?_⟩
    · rw [k3]
      exact vCov_en _ 0
    · rw [k5, lK_ev]
      exact Int.le_refl _
    · rw [k6, lK_ev]
      exact Int.le_refl _, h5⟩ (fun vA H1 vB H2 => ∃ vB' H2', x_To tb tyl ot (dp + 1) kB (pc + 3) LB (x_push vB (rest.map (cv (cR c) (cSB c)))) H2 (b1 + mMc qj) (b2 + mMs qj) vB' H2' ∧ R vA H1 vB' H2') (fun o ho d LA2 LB2 c1 c2 d1 d2 w1 w2 w3 => by
    have q := Bool.and_eq_true_iff.mp (List.all_eq_true.mp hO o ho)
    have q1 := of_decide_eq_true q.1
    have q2 := of_decide_eq_true q.2
    obtain ⟨u1, u2, u3, u4, u5⟩ := w1
    rw [q1] at u4
    have u4 : (cHB d).length ≤ (cHB c).length + mMc qj := u4
    obtain ⟨vA, H1, vB2, G2, y1, y2, y3⟩ := hout (o.1, wQA o.2, some (pc + 3), wNA o.2, wBk (wCl (wNB e') LE (args.reverse ++ rest) cE sE) (wNB o.2) rest (mMc qj) (mMs qj), wUs o.2) (List.mem_map.mpr ⟨o, ho, rfl⟩) d LA2 LB c1 c2 (b1 + mMc qj) (b2 + mMs qj) ⟨u1, u2, u3, ⟨⟨by
      show (cHB d).length ≤ BB + (b1 + mMc qj)
      omega, by omega⟩, vBd_loc w2.1 w2.2.2.1 k12 cov, by
      show ((b1 + mMc qj : Nat) : Int) ≤ lEv (cR d) (lAdd cE (lK (mMc qj : Int)))
      rw [lAdd_ev, lK_ev, lBd_spec w2.1 k14]
      omega, by
      show ((b2 + mMs qj : Nat) : Int) ≤ lEv (cR d) (lAdd sE (lK (mMs qj : Int)))
      rw [lAdd_ev, lK_ev, lBd_spec w2.1 k15]
      omega⟩, u5⟩ w2 w3
    obtain ⟨wC, hwC⟩ := optOf (S := (aS (wNB o.2)).map (cv (cR d) (cSB d))) (by rw [List.length_map]; exact q2)
    refine ⟨vA, H1, wC, cHB d, y1, ?_, vB2, G2, ?_, y3⟩
    · rw [q1]
      exact ⟨hwC, rfl⟩
    · have y2 : x_To tb tyl ot (dp + 1) kB (pc + 3) LB ((aS (wNB o.2) ++ rest).map (cv (cR d) (cSB d))) (cHB d) (b1 + mMc qj) (b2 + mMs qj) vB2 G2 := y2
      rw [x_push_l, hwC, ← vBd_list w2.1 w2.2.2.1 k13, ← List.map_append]
      exact y2)
  rw [h0, k4] at z2
  have z2 : x_To tb tyl ot dp j 0 (x_en 0 (args.map (cv (cR c) (cSB c)))) [] (cHB c) 0 0 vB H2 := z2
  refine ⟨vA, H1, vB', H2', z1, ?_, z4⟩
  show x_To tb tyl ot (dp + 1) kB pc LB ((args.reverse ++ rest : List (XV lT)).map (cv (cR c) (cSB c))) (cHB c) b1 b2 vB' H2'
  have e1 : ((args.reverse ++ rest : List (XV lT)).map (cv (cR c) (cSB c))).take (mNp qj) = (args.map (cv (cR c) (cSB c))).reverse := by
    rw [List.map_append, List.map_reverse, List.take_append_of_le_length (by rw [List.length_reverse, List.length_map, k7]; exact Nat.le_refl _), List.take_of_length_le (by rw [List.length_reverse, List.length_map, k7]; exact Nat.le_refl _)]
  have e2 : ((args.reverse ++ rest : List (XV lT)).map (cv (cR c) (cSB c))).drop (mNp qj) = rest.map (cv (cR c) (cSB c)) := by
    rw [List.map_append, List.map_reverse, List.drop_append_of_le_length (by rw [List.length_reverse, List.length_map, k7]; exact Nat.le_refl _), List.drop_of_length_le (by rw [List.length_reverse, List.length_map, k7]; exact Nat.le_refl _)]
    rfl
  refine xT_invokestatic (r := []) hqB i1 i2 hqj ?_ (u := vB) (H1 := H2) ?_ ?_
  · rw [e2]
    simp only [Bool.and_eq_true, decide_eq_true_eq]
    refine ⟨⟨⟨⟨⟨?_, k8⟩, ?_⟩, ?_⟩, r3⟩, r4⟩
    · rw [List.length_map, List.length_append, List.length_reverse, k7]
      omega
    · rw [List.length_map]
      exact k9
    · rw [k7]
      exact k10
  · rw [e1, List.reverse_reverse]
    exact z2
  · rw [e2]
    exact z3
end XGs
