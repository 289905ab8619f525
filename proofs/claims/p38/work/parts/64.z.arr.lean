/-! Calls at the head beside each other. -/
section XAr
theorem arKa : kCl x_KT.1 arPA = true := by decide +kernel
theorem arKb : kCl x_KT.1 arPB = true := by decide +kernel
theorem arKj : x_KT.1.all (fun kd => match kd with | .inr o => decide (o.1 ≠ 77) | _ => true) = true := by decide +kernel
theorem arKd : ∀ c, arPA c = true → arPB c = true → False := fun c h1 h2 => by
  have h1 := of_decide_eq_true h1
  have h2 := of_decide_eq_true h2
  omega
set_option maxRecDepth 1000000 in
theorem thingqA : tMth x_tb 157 = some xm157 := rfl
set_option maxRecDepth 1000000 in
theorem thingqB : tMth x_tb 262 = some xm262 := rfl
theorem thingmA : mMc xm157 = 0 := by decide +kernel
theorem thingmB : mMc xm262 = 0 := by decide +kernel
set_option maxRecDepth 1000000 in
theorem thingPP {xs : Nat → Int32} {n : Nat} {sf : Option Nat} : bPP x_KT x_tb x_tyl (x_otS xs n sf) lwN lwP 1299 157 262 2 (0 + 0) (mRc xm157) (mRc xm262) True :=
  aPP (qs := [(3, 4, 2, 1), (5, 6, 3, 2), (7, 8, 4, 3)]) (x_ov0_le sf) x_caS arKa arKb (by decide +kernel) (by decide +kernel) arKd arKj (τA := [0, 2, 3, 5, 7]) (τB := [1, 4, 6, 8]) (ps := [(false, 0), (true, 0), (false, 1), (false, 2), (true, 1), (false, 3), (true, 2), (false, 4), (true, 3)]) (by decide +kernel) (by decide +kernel) (by decide +kernel) (by decide +kernel) (by decide +kernel) (by decide +kernel) (by decide +kernel) (by decide +kernel) (by decide +kernel) (by decide +kernel) (by decide +kernel) (XS := thingXS) (by decide +kernel) (by decide +kernel) (by decide +kernel) (by decide) (by decide) thingE thingqA thingqB thingmA thingmB (by decide) (by decide) rfl rfl rfl rfl ⟨lK_ev _ 0, rfl, rfl⟩ ⟨rfl, rfl⟩ (by decide +kernel) rfl rfl (by decide) (by decide +kernel) (by decide +kernel) (by decide +kernel) (by decide +kernel) (by decide +kernel) (fun q hq0 b x hb hx hlA hlB hTl hr vA H1 vB H2 g1 g2 hq => by
    have hq0 : q ∈ ([(3, 4, 2, 1), (5, 6, 3, 2), (7, 8, 4, 3)] : List (Nat × Nat × Nat × Nat)) := hq0
    simp only [List.mem_cons, List.not_mem_nil, or_false] at hq0
    rcases hq0 with rfl | rfl | rfl
    · exact aRowV (x_ov0_le sf) x_caS thingqA thingqB thingmA thingmB (by decide) (by decide) hb hlA hlB hTl (i := 2) (j := 1) (m := 40) (cA := 19) (cB := 88) (r := ((0), (6))) (rr := ((0), (6))) rfl rfl rfl rfl (by decide) (by decide) (by decide) (by decide) (Lv := .inr (some 0) :: argVs 5 2) rfl rfl (by decide +kernel) rfl rfl (by decide +kernel) (by decide +kernel) (nv := 3) (lim := 40) (key := thingR0Ky) (VA := thingR0VA) (VB := thingR0VB) (YA := thingR0YA) (YB := thingR0YB) (fun v _ => ⟨rfl, rfl, rfl, rfl, rfl⟩) (fun v _ => ⟨rfl, rfl, rfl, rfl, rfl⟩) (fun v _ => ⟨⟨_, rfl⟩, ⟨_, rfl⟩, ⟨_, rfl⟩, ⟨_, rfl⟩⟩) thingR0E thingR0Pk hr g1 g2 hq
    · exact aRowV (x_ov0_le sf) x_caS thingqA thingqB thingmA thingmB (by decide) (by decide) hb hlA hlB hTl (i := 3) (j := 2) (m := 40) (cA := 20) (cB := 89) (r := ((-2147483648), (2147483647))) (rr := ((-2147483648), (2147483647))) rfl rfl rfl rfl (by decide) (by decide) (by decide) (by decide) (Lv := .inr (some 0) :: argVs 5 2) rfl rfl (by decide +kernel) rfl rfl (by decide +kernel) (by decide +kernel) (nv := 3) (lim := 40) (key := thingR1Ky) (VA := thingR1VA) (VB := thingR1VB) (YA := thingR1YA) (YB := thingR1YB) (fun v _ => ⟨rfl, rfl, rfl, rfl, rfl⟩) (fun v _ => ⟨rfl, rfl, rfl, rfl, rfl⟩) (fun v _ => ⟨⟨_, rfl⟩, ⟨_, rfl⟩, ⟨_, rfl⟩, ⟨_, rfl⟩⟩) thingR1E thingR1Pk hr g1 g2 hq
    · exact aRowW hb (by decide +kernel) (by decide +kernel) hr hq)
theorem thingcn : ∀ ρ : Nat → Int, 0 ≤ ρ 1 → ρ 1 + 7 ≤ ρ 0 → ρ 0 ≤ 3584 → lEv ρ (aCn lwN) + ((mMc xm157 + mMc xm262 : Nat) : Int) ≤ ((mMc xm0 : Nat) : Int) ∧ lEv ρ (aSn lwN) + ((mMs xm157 + mMs xm262 : Nat) : Int) ≤ ((mMs xm0 : Nat) : Int) := fun ρ h1 h2 h3 => by
  have e1 : lEv ρ (aCn lwN) = 536 + 58 * ρ 1 := by
    show lEv ρ (lAdd (lK 536) (lSc 58 (lSy 1))) = _
    rw [lAdd_ev, lK_ev, lSc_ev, lSy_ev]
  have e2 : lEv ρ (aSn lwN) = 9690 + 229 * ρ 1 := by
    show lEv ρ (lAdd (lK 9690) (lSc 229 (lSy 1))) = _
    rw [lAdd_ev, lK_ev, lSc_ev, lSy_ev]
  have k : 536 + 58 * 3577 + (mMc xm157 + mMc xm262) ≤ mMc xm0 ∧ 9690 + 229 * 3577 + (mMs xm157 + mMs xm262) ≤ mMs xm0 := by decide +kernel
  rw [e1, e2]
  constructor <;> omega
theorem thingcd : ∀ ρ ρ2 : Nat → Int, ρ2 0 = ρ 0 → ρ2 1 = ρ 1 + 7 → lEv ρ (aCn lwN) + ((mMc xm157 + mMc xm262 : Nat) : Int) ≤ lEv ρ2 (aCn lwN) ∧ lEv ρ (aSn lwN) + ((mMs xm157 + mMs xm262 : Nat) : Int) ≤ lEv ρ2 (aSn lwN) := fun ρ ρ2 _ h => by
  have e1 : ∀ ρ : Nat → Int, lEv ρ (aCn lwN) = 536 + 58 * ρ 1 := fun ρ => by
    show lEv ρ (lAdd (lK 536) (lSc 58 (lSy 1))) = _
    rw [lAdd_ev, lK_ev, lSc_ev, lSy_ev]
  have e2 : ∀ ρ : Nat → Int, lEv ρ (aSn lwN) = 9690 + 229 * ρ 1 := fun ρ => by
    show lEv ρ (lAdd (lK 9690) (lSc 229 (lSy 1))) = _
    rw [lAdd_ev, lK_ev, lSc_ev, lSy_ev]
  have k : mMc xm157 + mMc xm262 ≤ 406 ∧ mMs xm157 + mMs xm262 ≤ 1603 := by decide +kernel
  rw [e1, e1, e2, e2, h]
  constructor <;> omega
theorem thing_blk {xs : Nat → Int32} {n : Nat} {sf : Option Nat} (hn : n ≤ 3584) : lwBk (x_otS xs n sf) 1602 := fun ρ σ ty H Lc cn2 sn2 hat h0 h7 cont =>
  cBlkP (p1 := 1613) (p2 := 1628) (pi := 1906) (n := 2) (ixA := 158) (ixB := 161) (n1 := 1) (n2 := 3) (n3 := 1) (n4 := 1) (n5 := 3) (n6 := 1) (n7 := 3) (n8 := 3) (n9 := 3) (x6 := (274)) (x7 := 7) (x8 := (-1891)) (dp := 1299) (hd := 18) (cmp := True) p_q0 rfl thingqA thingqB (show n < 1000000 by omega) (by decide) (by decide +kernel) (by decide +kernel) (by decide +kernel) (by decide +kernel) (by decide +kernel) (by decide +kernel) (by decide +kernel) (by decide +kernel) (by decide +kernel) (by decide +kernel) (by decide +kernel) (by decide +kernel) (by decide +kernel) (by decide +kernel) (by decide +kernel) (by decide +kernel) (by decide +kernel) rfl (by decide +kernel) rfl (by decide +kernel) thingcn (by decide +kernel) thingcd hn (by rw [thingmA, thingmB]; exact thingPP) hat h0 h7 cont
set_option maxRecDepth 1000000 in
theorem actqA : tMth x_tb 159 = some xm159 := rfl
set_option maxRecDepth 1000000 in
theorem actqB : tMth x_tb 263 = some xm263 := rfl
theorem actmA : mMc xm159 = 0 := by decide +kernel
theorem actmB : mMc xm263 = 0 := by decide +kernel
set_option maxRecDepth 1000000 in
theorem actPP {xs : Nat → Int32} {n : Nat} {sf : Option Nat} : bPP x_KT x_tb x_tyl (x_otS xs n sf) lwN lwP 1299 159 263 3 (0 + 0) (mRc xm159) (mRc xm263) True :=
  aPP (qs := [(3, 4, 2, 1), (5, 6, 3, 2), (7, 8, 4, 3)]) (x_ov0_le sf) x_caS arKa arKb (by decide +kernel) (by decide +kernel) arKd arKj (τA := [0, 2, 3, 5, 7]) (τB := [1, 4, 6, 8]) (ps := [(false, 0), (true, 0), (false, 1), (false, 2), (true, 1), (false, 3), (true, 2), (false, 4), (true, 3)]) (by decide +kernel) (by decide +kernel) (by decide +kernel) (by decide +kernel) (by decide +kernel) (by decide +kernel) (by decide +kernel) (by decide +kernel) (by decide +kernel) (by decide +kernel) (by decide +kernel) (XS := actXS) (by decide +kernel) (by decide +kernel) (by decide +kernel) (by decide) (by decide) actE actqA actqB actmA actmB (by decide) (by decide) rfl rfl rfl rfl ⟨lK_ev _ 0, rfl, rfl⟩ ⟨rfl, rfl⟩ (by decide +kernel) rfl rfl (by decide) (by decide +kernel) (by decide +kernel) (by decide +kernel) (by decide +kernel) (by decide +kernel) (fun q hq0 b x hb hx hlA hlB hTl hr vA H1 vB H2 g1 g2 hq => by
    have hq0 : q ∈ ([(3, 4, 2, 1), (5, 6, 3, 2), (7, 8, 4, 3)] : List (Nat × Nat × Nat × Nat)) := hq0
    simp only [List.mem_cons, List.not_mem_nil, or_false] at hq0
    rcases hq0 with rfl | rfl | rfl
    · exact aRowW hb (by decide +kernel) (by decide +kernel) hr hq
    · exact aRowW hb (by decide +kernel) (by decide +kernel) hr hq
    · exact aRowV (x_ov0_le sf) x_caS actqA actqB actmA actmB (by decide) (by decide) hb hlA hlB hTl (i := 4) (j := 3) (m := 20) (cA := 21) (cB := 94) (r := ((-2147483648), (2147483647))) (rr := ((-2147483648), (2147483647))) rfl rfl rfl rfl (by decide) (by decide) (by decide) (by decide) (Lv := .inr (some 0) :: argVs 5 3) rfl rfl (by decide +kernel) rfl rfl (by decide +kernel) (by decide +kernel) (nv := 10) (lim := 10) (key := actR2Ky) (VA := actR2VA) (VB := actR2VB) (YA := actR2YA) (YB := actR2YB) (fun v _ => ⟨rfl, rfl, rfl, rfl, rfl⟩) (fun v _ => ⟨rfl, rfl, rfl, rfl, rfl⟩) (fun v _ => ⟨⟨_, rfl⟩, ⟨_, rfl⟩, ⟨_, rfl⟩, ⟨_, rfl⟩⟩) actR2E actR2Pk hr g1 g2 hq)
theorem actcn : ∀ ρ : Nat → Int, 0 ≤ ρ 1 → ρ 1 + 7 ≤ ρ 0 → ρ 0 ≤ 3584 → lEv ρ (aCn lwN) + ((mMc xm159 + mMc xm263 : Nat) : Int) ≤ ((mMc xm0 : Nat) : Int) ∧ lEv ρ (aSn lwN) + ((mMs xm159 + mMs xm263 : Nat) : Int) ≤ ((mMs xm0 : Nat) : Int) := fun ρ h1 h2 h3 => by
  have e1 : lEv ρ (aCn lwN) = 536 + 58 * ρ 1 := by
    show lEv ρ (lAdd (lK 536) (lSc 58 (lSy 1))) = _
    rw [lAdd_ev, lK_ev, lSc_ev, lSy_ev]
  have e2 : lEv ρ (aSn lwN) = 9690 + 229 * ρ 1 := by
    show lEv ρ (lAdd (lK 9690) (lSc 229 (lSy 1))) = _
    rw [lAdd_ev, lK_ev, lSc_ev, lSy_ev]
  have k : 536 + 58 * 3577 + (mMc xm159 + mMc xm263) ≤ mMc xm0 ∧ 9690 + 229 * 3577 + (mMs xm159 + mMs xm263) ≤ mMs xm0 := by decide +kernel
  rw [e1, e2]
  constructor <;> omega
theorem actcd : ∀ ρ ρ2 : Nat → Int, ρ2 0 = ρ 0 → ρ2 1 = ρ 1 + 7 → lEv ρ (aCn lwN) + ((mMc xm159 + mMc xm263 : Nat) : Int) ≤ lEv ρ2 (aCn lwN) ∧ lEv ρ (aSn lwN) + ((mMs xm159 + mMs xm263 : Nat) : Int) ≤ lEv ρ2 (aSn lwN) := fun ρ ρ2 _ h => by
  have e1 : ∀ ρ : Nat → Int, lEv ρ (aCn lwN) = 536 + 58 * ρ 1 := fun ρ => by
    show lEv ρ (lAdd (lK 536) (lSc 58 (lSy 1))) = _
    rw [lAdd_ev, lK_ev, lSc_ev, lSy_ev]
  have e2 : ∀ ρ : Nat → Int, lEv ρ (aSn lwN) = 9690 + 229 * ρ 1 := fun ρ => by
    show lEv ρ (lAdd (lK 9690) (lSc 229 (lSy 1))) = _
    rw [lAdd_ev, lK_ev, lSc_ev, lSy_ev]
  have k : mMc xm159 + mMc xm263 ≤ 406 ∧ mMs xm159 + mMs xm263 ≤ 1603 := by decide +kernel
  rw [e1, e1, e2, e2, h]
  constructor <;> omega
theorem act_blk {xs : Nat → Int32} {n : Nat} {sf : Option Nat} (hn : n ≤ 3584) : lwBk (x_otS xs n sf) 1635 := fun ρ σ ty H Lc cn2 sn2 hat h0 h7 cont =>
  cBlkP (p1 := 1651) (p2 := 1671) (pi := 1906) (n := 3) (ixA := 162) (ixB := 165) (n1 := 1) (n2 := 3) (n3 := 1) (n4 := 1) (n5 := 3) (n6 := 1) (n7 := 3) (n8 := 3) (n9 := 3) (x6 := (231)) (x7 := 7) (x8 := (-1891)) (dp := 1299) (hd := 18) (cmp := True) p_q0 rfl actqA actqB (show n < 1000000 by omega) (by decide) (by decide +kernel) (by decide +kernel) (by decide +kernel) (by decide +kernel) (by decide +kernel) (by decide +kernel) (by decide +kernel) (by decide +kernel) (by decide +kernel) (by decide +kernel) (by decide +kernel) (by decide +kernel) (by decide +kernel) (by decide +kernel) (by decide +kernel) (by decide +kernel) (by decide +kernel) rfl (by decide +kernel) rfl (by decide +kernel) actcn (by decide +kernel) actcd hn (by rw [actmA, actmB]; exact actPP) hat h0 h7 cont
set_option maxRecDepth 1000000 in
theorem traceqA : tMth x_tb 166 = some xm166 := rfl
set_option maxRecDepth 1000000 in
theorem traceqB : tMth x_tb 268 = some xm268 := rfl
theorem tracemA : mMc xm166 = 0 := by decide +kernel
theorem tracemB : mMc xm268 = 0 := by decide +kernel
set_option maxRecDepth 1000000 in
theorem tracePP {xs : Nat → Int32} {n : Nat} {sf : Option Nat} : bPP x_KT x_tb x_tyl (x_otS xs n sf) lwN lwP 1299 166 268 1 (0 + 0) (mRc xm166) (mRc xm268) True :=
  aPP (qs := [(3, 4, 2, 1), (5, 6, 3, 2), (7, 8, 4, 3)]) (x_ov0_le sf) x_caS arKa arKb (by decide +kernel) (by decide +kernel) arKd arKj (τA := [0, 2, 3, 5, 7]) (τB := [1, 4, 6, 8]) (ps := [(false, 0), (true, 0), (false, 1), (false, 2), (true, 1), (false, 3), (true, 2), (false, 4), (true, 3)]) (by decide +kernel) (by decide +kernel) (by decide +kernel) (by decide +kernel) (by decide +kernel) (by decide +kernel) (by decide +kernel) (by decide +kernel) (by decide +kernel) (by decide +kernel) (by decide +kernel) (XS := traceXS) (by decide +kernel) (by decide +kernel) (by decide +kernel) (by decide) (by decide) traceE traceqA traceqB tracemA tracemB (by decide) (by decide) rfl rfl rfl rfl ⟨lK_ev _ 0, rfl, rfl⟩ ⟨rfl, rfl⟩ (by decide +kernel) rfl rfl (by decide) (by decide +kernel) (by decide +kernel) (by decide +kernel) (by decide +kernel) (by decide +kernel) (fun q hq0 b x hb hx hlA hlB hTl hr vA H1 vB H2 g1 g2 hq => by
    have hq0 : q ∈ ([(3, 4, 2, 1), (5, 6, 3, 2), (7, 8, 4, 3)] : List (Nat × Nat × Nat × Nat)) := hq0
    simp only [List.mem_cons, List.not_mem_nil, or_false] at hq0
    rcases hq0 with rfl | rfl | rfl
    · exact aRowW hb (by decide +kernel) (by decide +kernel) hr hq
    · exact aRowW hb (by decide +kernel) (by decide +kernel) hr hq
    · exact aRowW hb (by decide +kernel) (by decide +kernel) hr hq)
theorem tracecn : ∀ ρ : Nat → Int, 0 ≤ ρ 1 → ρ 1 + 7 ≤ ρ 0 → ρ 0 ≤ 3584 → lEv ρ (aCn lwN) + ((mMc xm166 + mMc xm268 : Nat) : Int) ≤ ((mMc xm0 : Nat) : Int) ∧ lEv ρ (aSn lwN) + ((mMs xm166 + mMs xm268 : Nat) : Int) ≤ ((mMs xm0 : Nat) : Int) := fun ρ h1 h2 h3 => by
  have e1 : lEv ρ (aCn lwN) = 536 + 58 * ρ 1 := by
    show lEv ρ (lAdd (lK 536) (lSc 58 (lSy 1))) = _
    rw [lAdd_ev, lK_ev, lSc_ev, lSy_ev]
  have e2 : lEv ρ (aSn lwN) = 9690 + 229 * ρ 1 := by
    show lEv ρ (lAdd (lK 9690) (lSc 229 (lSy 1))) = _
    rw [lAdd_ev, lK_ev, lSc_ev, lSy_ev]
  have k : 536 + 58 * 3577 + (mMc xm166 + mMc xm268) ≤ mMc xm0 ∧ 9690 + 229 * 3577 + (mMs xm166 + mMs xm268) ≤ mMs xm0 := by decide +kernel
  rw [e1, e2]
  constructor <;> omega
theorem tracecd : ∀ ρ ρ2 : Nat → Int, ρ2 0 = ρ 0 → ρ2 1 = ρ 1 + 7 → lEv ρ (aCn lwN) + ((mMc xm166 + mMc xm268 : Nat) : Int) ≤ lEv ρ2 (aCn lwN) ∧ lEv ρ (aSn lwN) + ((mMs xm166 + mMs xm268 : Nat) : Int) ≤ lEv ρ2 (aSn lwN) := fun ρ ρ2 _ h => by
  have e1 : ∀ ρ : Nat → Int, lEv ρ (aCn lwN) = 536 + 58 * ρ 1 := fun ρ => by
    show lEv ρ (lAdd (lK 536) (lSc 58 (lSy 1))) = _
    rw [lAdd_ev, lK_ev, lSc_ev, lSy_ev]
  have e2 : ∀ ρ : Nat → Int, lEv ρ (aSn lwN) = 9690 + 229 * ρ 1 := fun ρ => by
    show lEv ρ (lAdd (lK 9690) (lSc 229 (lSy 1))) = _
    rw [lAdd_ev, lK_ev, lSc_ev, lSy_ev]
  have k : mMc xm166 + mMc xm268 ≤ 406 ∧ mMs xm166 + mMs xm268 ≤ 1603 := by decide +kernel
  rw [e1, e1, e2, e2, h]
  constructor <;> omega
theorem trace_blk {xs : Nat → Int32} {n : Nat} {sf : Option Nat} (hn : n ≤ 3584) : lwBk (x_otS xs n sf) 1678 := fun ρ σ ty H Lc cn2 sn2 hat h0 h7 cont =>
  cBlkD (p1 := 1684) (p2 := 1693) (pi := 1906) (n := 1) (ixA := 166) (ixB := 169) (n1 := 1) (n2 := 3) (n4 := 1) (n5 := 3) (n6 := 3) (n8 := 3) (n9 := 3) (x5 := (210)) (x7 := 7) (x8 := (-1891)) (dp := 1299) (hd := 18) (cmp := True) trivial p_q0 rfl traceqA traceqB (show n < 1000000 by omega) (by decide) (by decide +kernel) (by decide +kernel) (by decide +kernel) (by decide +kernel) (by decide +kernel) (by decide +kernel) (by decide +kernel) (by decide +kernel) (by decide +kernel) (by decide +kernel) (by decide +kernel) (by decide +kernel) (by decide +kernel) (by decide +kernel) (by decide +kernel) rfl (by decide +kernel) rfl (by decide +kernel) tracecn (by decide +kernel) tracecd hn (by rw [tracemA, tracemB]; exact tracePP) hat h0 h7 cont
theorem p_blk (xs : Nat → Int32) (n : Nat) (hn : n ≤ 3584) {sf : Option Nat} (hsf : sf = none ∨ sf = some 1200000) : ∀ pc ∈ lwCb, lwBk (x_otS xs n sf) pc := by
  intro pc hpc
  have hpc : pc ∈ ([1602, 1635, 1678] : List Nat) := hpc
  simp only [List.mem_cons, List.not_mem_nil, or_false] at hpc
  rcases hpc with rfl | rfl | rfl
  · exact thing_blk hn
  · exact act_blk hn
  · exact trace_blk hn
end XAr
