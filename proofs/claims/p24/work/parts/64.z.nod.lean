/-! Families of pairs: blocks. -/
section XNd
theorem uKa : kCl x_KT.1 uPA = true := by decide +kernel
theorem uKb : kCl x_KT.1 uPB = true := by decide +kernel
theorem uKj : x_KT.1.all (fun kd => match kd with | .inr o => decide (o.1 ≠ 77) | _ => true) = true := by decide +kernel
theorem uKdj : ∀ c, uPA c = true → uPB c = true → False := fun c h1 h2 => by
  have h1 := Nat.le_of_ble_eq_true h1
  have h2 := Nat.le_of_ble_eq_true h2
  omega
theorem uKt (c : Nat) : uPA c = true ∨ uPB c = true := by
  rcases Nat.lt_or_ge 47 c with h | h
  · exact Or.inr (Nat.ble_eq_true_of_le (by omega))
  · exact Or.inl (Nat.ble_eq_true_of_le (by omega))
/-- rows that stand in both alike stay so -/
theorem uKeep {WA WB : List (Nat × Nat)} (hk : lwPr.all (fun p => decide (p.1 < 6) && decide (p.2 < 6) && unW (WA ++ WB) (aG lwN) p.1 && unW (WA ++ WB) (aG lwN) p.2) = true) : ∀ (ρ : Nat → Int) (σ : Nat → Nat) (ty : Nat → Option Nat) (H : List (XC Int32)) (ρ2 : Nat → Int) (σ2 : Nat → Nat) (ty2 : Nat → Option Nat) (HH : List (XC Int32)), vRel x_KT ρ σ ty H (aSt lwN) → lwP1 σ ty H → (∀ i, i < u_ps.length → sR σ2 i = sR σ i) → vRel x_KT ρ2 σ2 ty2 HH (aSt lwN) → vFrm WA (tyP uPA ty) H HH → vFrm WB (tyP uPB ty) H HH → lwP1 σ2 ty2 HH := by
  intro ρ σ ty H ρ2 σ2 ty2 HH h hP hs h2 fA fB p hp
  obtain ⟨t, vs, h1, h2⟩ := hP p hp
  have k := List.all_eq_true.mp hk p hp
  simp only [Bool.and_eq_true] at k
  obtain ⟨⟨⟨k1, k2⟩, k3⟩, k4⟩ := k
  have k1 := of_decide_eq_true k1
  have k2 := of_decide_eq_true k2
  have hf := vFrm_two uKt fA fB
  have hl : u_ps.length = 6 := rfl
  obtain ⟨c, c1, c2, c3⟩ := unW_spec k3
  obtain ⟨d, d1, d2, d3⟩ := unW_spec k4
  exact ⟨t, vs, by rw [hs _ (by omega)]; exact vFrm_row hf (h.2.1 _ c c1) c2 c3 h1, by rw [hs _ (by omega)]; exact vFrm_row hf (h.2.1 _ d d1) d2 d3 h2⟩
def chipnd : List wE := [chip_in]
def chipex : List wE := [chip_out]
def chipOX : List ((Bool × wE) × List lT) := [(wAdd [0, 1, 2] (false, chip_out), [(lSy 0), (lAdd (lSy 1) (lK 7)), (lSy 2), (lSy 7)])]
theorem chipG {xs : Nat → Int32} {n : Nat} {sf : Option Nat} : ∀ nd ∈ chipnd, wGoes x_KT x_tb x_tyl (x_otS xs n sf) lwFS lwGA.length lwGB.length 6 2 4 chipWA chipWB 117 250 60 60 nd (chipex.map (fun x => (false, x))) := wGraph (fun nd hnd => by
  have hnd : nd ∈ ([chip_in] : List wE) := hnd
  simp only [List.mem_cons, List.not_mem_nil, or_false] at hnd
  rcases hnd with rfl
  · refine ⟨chipo0, wEd_spec (x_ov0_le sf) u_ctS lwFok chipE0, fun o ho => ?_⟩
    have ho : o ∈ ([(false, chip_out)] : List (Bool × wE)) := ho
    simp only [List.mem_cons, List.not_mem_nil, or_false] at ho
    rcases ho with rfl
    · exact Or.inl (List.mem_cons_self))
theorem chipH {xs : Nat → Int32} {n : Nat} {sf : Option Nat} : wGoes x_KT x_tb x_tyl (x_otS xs n sf) lwFS lwGA.length lwGB.length 6 2 4 chipWA chipWB 117 250 60 60 chip_in (chipOX.map (fun x => x.1)) := wFam (V := [0, 1, 2]) lwFok (by decide +kernel) (by decide +kernel) (chipG _ List.mem_cons_self) (by decide +kernel) (by decide +kernel) (fun i hi u hu => by
  have hi : i ∈ ([0, 1, 2] : List Nat) := hi
  simp only [List.mem_cons, List.not_mem_nil, or_false] at hi
  rcases hi with rfl | rfl | rfl
  · cases hu
    exact wRk_spec (x_ov0_le sf) u_ctS lwFok chipR0
  · cases hu
    exact wRk_spec (x_ov0_le sf) u_ctS lwFok chipR1
  · cases hu
    exact wRk_spec (x_ov0_le sf) u_ctS lwFok chipR2)
set_option maxRecDepth 1000000 in
theorem chipqA : tMth x_tb 117 = some xm117 := rfl
set_option maxRecDepth 1000000 in
theorem chipqB : tMth x_tb 250 = some xm250 := rfl
set_option maxRecDepth 1000000 in
theorem chipbc : wBc lwN lwFS.length 2 lwTA lwTB lwGA lwGB 6 2 4 u_ps uPA uPB chip_in chipOX = true := by decide +kernel
theorem chipPP {xs : Nat → Int32} {n : Nat} {sf : Option Nat} : bPP x_KT x_tb x_tyl (x_otS xs n sf) lwN lwP 1299 117 250 2 (mMc xm117 + mMc xm250) (mRc xm117) (mRc xm250) True :=
  wBlk lwFok lwFB uKa uKb (by decide +kernel) (by decide +kernel) uKdj uKj chipbc chipH chipqA chipqB (by decide) (by decide) (uKeep (by decide +kernel)) (by decide +kernel) (by decide +kernel) (by decide +kernel)
theorem chipcn : ∀ ρ : Nat → Int, 0 ≤ ρ 1 → ρ 1 + 7 ≤ ρ 0 → ρ 0 ≤ 3584 → lEv ρ (aCn lwN) + ((mMc xm117 + mMc xm250 : Nat) : Int) ≤ ((mMc xm0 : Nat) : Int) ∧ lEv ρ (aSn lwN) + ((mMs xm117 + mMs xm250 : Nat) : Int) ≤ ((mMs xm0 : Nat) : Int) := fun ρ h1 h2 h3 => by
  have e1 : lEv ρ (aCn lwN) = 536 + 58 * ρ 1 := by
    show lEv ρ (lAdd (lK 536) (lSc 58 (lSy 1))) = _
    rw [lAdd_ev, lK_ev, lSc_ev, lSy_ev]
  have e2 : lEv ρ (aSn lwN) = 9690 + 229 * ρ 1 := by
    show lEv ρ (lAdd (lK 9690) (lSc 229 (lSy 1))) = _
    rw [lAdd_ev, lK_ev, lSc_ev, lSy_ev]
  have k : 536 + 58 * 3577 + (mMc xm117 + mMc xm250) ≤ mMc xm0 ∧ 9690 + 229 * 3577 + (mMs xm117 + mMs xm250) ≤ mMs xm0 := by decide +kernel
  rw [e1, e2]
  constructor <;> omega
theorem chipcd : ∀ ρ ρ2 : Nat → Int, ρ2 0 = ρ 0 → ρ2 1 = ρ 1 + 7 → lEv ρ (aCn lwN) + ((mMc xm117 + mMc xm250 : Nat) : Int) ≤ lEv ρ2 (aCn lwN) ∧ lEv ρ (aSn lwN) + ((mMs xm117 + mMs xm250 : Nat) : Int) ≤ lEv ρ2 (aSn lwN) := fun ρ ρ2 _ h => by
  have e1 : ∀ ρ : Nat → Int, lEv ρ (aCn lwN) = 536 + 58 * ρ 1 := fun ρ => by
    show lEv ρ (lAdd (lK 536) (lSc 58 (lSy 1))) = _
    rw [lAdd_ev, lK_ev, lSc_ev, lSy_ev]
  have e2 : ∀ ρ : Nat → Int, lEv ρ (aSn lwN) = 9690 + 229 * ρ 1 := fun ρ => by
    show lEv ρ (lAdd (lK 9690) (lSc 229 (lSy 1))) = _
    rw [lAdd_ev, lK_ev, lSc_ev, lSy_ev]
  have k : mMc xm117 + mMc xm250 ≤ 406 ∧ mMs xm117 + mMs xm250 ≤ 1603 := by decide +kernel
  rw [e1, e1, e2, e2, h]
  constructor <;> omega
theorem chip_blk {xs : Nat → Int32} {n : Nat} {sf : Option Nat} (hn : n ≤ 3584) : lwBk (x_otS xs n sf) 1087 := fun ρ σ ty H Lc cn2 sn2 hat h0 h7 cont =>
  cBlkP (p1 := 1098) (p2 := 1113) (pi := 1906) (n := 2) (ixA := 105) (ixB := 108) (n1 := 1) (n2 := 3) (n3 := 1) (n4 := 1) (n5 := 3) (n6 := 1) (n7 := 3) (n8 := 3) (n9 := 3) (x6 := (789)) (x7 := 7) (x8 := (-1891)) (dp := 1299) (hd := 18) (cmp := True) p_q0 rfl chipqA chipqB (show n < 1000000 by omega) (by decide) (by decide +kernel) (by decide +kernel) (by decide +kernel) (by decide +kernel) (by decide +kernel) (by decide +kernel) (by decide +kernel) (by decide +kernel) (by decide +kernel) (by decide +kernel) (by decide +kernel) (by decide +kernel) (by decide +kernel) (by decide +kernel) (by decide +kernel) (by decide +kernel) (by decide +kernel) rfl (by decide +kernel) rfl (by decide +kernel) chipcn (by decide +kernel) chipcd hn chipPP hat h0 h7 cont
def asknd : List wE := [ask_in]
def askex : List wE := [ask_out]
def askOX : List ((Bool × wE) × List lT) := [(wAdd [0, 2] (false, ask_out), [(lSy 0), (lAdd (lSy 1) (lK 7)), (lSy 2), (lSy 3)])]
theorem askG {xs : Nat → Int32} {n : Nat} {sf : Option Nat} : ∀ nd ∈ asknd, wGoes x_KT x_tb x_tyl (x_otS xs n sf) lwFS lwGA.length lwGB.length 6 2 4 askWA askWB 119 251 60 60 nd (askex.map (fun x => (false, x))) := wGraph (fun nd hnd => by
  have hnd : nd ∈ ([ask_in] : List wE) := hnd
  simp only [List.mem_cons, List.not_mem_nil, or_false] at hnd
  rcases hnd with rfl
  · refine ⟨asko0, wEd_spec (x_ov0_le sf) u_ctS lwFok askE0, fun o ho => ?_⟩
    have ho : o ∈ ([(false, ask_out)] : List (Bool × wE)) := ho
    simp only [List.mem_cons, List.not_mem_nil, or_false] at ho
    rcases ho with rfl
    · exact Or.inl (List.mem_cons_self))
theorem askH {xs : Nat → Int32} {n : Nat} {sf : Option Nat} : wGoes x_KT x_tb x_tyl (x_otS xs n sf) lwFS lwGA.length lwGB.length 6 2 4 askWA askWB 119 251 60 60 ask_in (askOX.map (fun x => x.1)) := wFam (V := [0, 2]) lwFok (by decide +kernel) (by decide +kernel) (askG _ List.mem_cons_self) (by decide +kernel) (by decide +kernel) (fun i hi u hu => by
  have hi : i ∈ ([0, 2] : List Nat) := hi
  simp only [List.mem_cons, List.not_mem_nil, or_false] at hi
  rcases hi with rfl | rfl
  · cases hu
    exact wRk_spec (x_ov0_le sf) u_ctS lwFok askR0
  · cases hu
    exact wRk_spec (x_ov0_le sf) u_ctS lwFok askR2)
set_option maxRecDepth 1000000 in
theorem askqA : tMth x_tb 119 = some xm119 := rfl
set_option maxRecDepth 1000000 in
theorem askqB : tMth x_tb 251 = some xm251 := rfl
set_option maxRecDepth 1000000 in
theorem askbc : wBc lwN lwFS.length 2 lwTA lwTB lwGA lwGB 6 2 4 u_ps uPA uPB ask_in askOX = true := by decide +kernel
theorem askPP {xs : Nat → Int32} {n : Nat} {sf : Option Nat} : bPP x_KT x_tb x_tyl (x_otS xs n sf) lwN lwP 1299 119 251 2 (mMc xm119 + mMc xm251) (mRc xm119) (mRc xm251) True :=
  wBlk lwFok lwFB uKa uKb (by decide +kernel) (by decide +kernel) uKdj uKj askbc askH askqA askqB (by decide) (by decide) (uKeep (by decide +kernel)) (by decide +kernel) (by decide +kernel) (by decide +kernel)
theorem askcn : ∀ ρ : Nat → Int, 0 ≤ ρ 1 → ρ 1 + 7 ≤ ρ 0 → ρ 0 ≤ 3584 → lEv ρ (aCn lwN) + ((mMc xm119 + mMc xm251 : Nat) : Int) ≤ ((mMc xm0 : Nat) : Int) ∧ lEv ρ (aSn lwN) + ((mMs xm119 + mMs xm251 : Nat) : Int) ≤ ((mMs xm0 : Nat) : Int) := fun ρ h1 h2 h3 => by
  have e1 : lEv ρ (aCn lwN) = 536 + 58 * ρ 1 := by
    show lEv ρ (lAdd (lK 536) (lSc 58 (lSy 1))) = _
    rw [lAdd_ev, lK_ev, lSc_ev, lSy_ev]
  have e2 : lEv ρ (aSn lwN) = 9690 + 229 * ρ 1 := by
    show lEv ρ (lAdd (lK 9690) (lSc 229 (lSy 1))) = _
    rw [lAdd_ev, lK_ev, lSc_ev, lSy_ev]
  have k : 536 + 58 * 3577 + (mMc xm119 + mMc xm251) ≤ mMc xm0 ∧ 9690 + 229 * 3577 + (mMs xm119 + mMs xm251) ≤ mMs xm0 := by decide +kernel
  rw [e1, e2]
  constructor <;> omega
theorem askcd : ∀ ρ ρ2 : Nat → Int, ρ2 0 = ρ 0 → ρ2 1 = ρ 1 + 7 → lEv ρ (aCn lwN) + ((mMc xm119 + mMc xm251 : Nat) : Int) ≤ lEv ρ2 (aCn lwN) ∧ lEv ρ (aSn lwN) + ((mMs xm119 + mMs xm251 : Nat) : Int) ≤ lEv ρ2 (aSn lwN) := fun ρ ρ2 _ h => by
  have e1 : ∀ ρ : Nat → Int, lEv ρ (aCn lwN) = 536 + 58 * ρ 1 := fun ρ => by
    show lEv ρ (lAdd (lK 536) (lSc 58 (lSy 1))) = _
    rw [lAdd_ev, lK_ev, lSc_ev, lSy_ev]
  have e2 : ∀ ρ : Nat → Int, lEv ρ (aSn lwN) = 9690 + 229 * ρ 1 := fun ρ => by
    show lEv ρ (lAdd (lK 9690) (lSc 229 (lSy 1))) = _
    rw [lAdd_ev, lK_ev, lSc_ev, lSy_ev]
  have k : mMc xm119 + mMc xm251 ≤ 406 ∧ mMs xm119 + mMs xm251 ≤ 1603 := by decide +kernel
  rw [e1, e1, e2, e2, h]
  constructor <;> omega
theorem ask_blk {xs : Nat → Int32} {n : Nat} {sf : Option Nat} (hn : n ≤ 3584) : lwBk (x_otS xs n sf) 1120 := fun ρ σ ty H Lc cn2 sn2 hat h0 h7 cont =>
  cBlkD (p1 := 1131) (p2 := 1145) (pi := 1906) (n := 2) (ixA := 109) (ixB := 112) (n1 := 1) (n2 := 3) (n4 := 1) (n5 := 3) (n6 := 3) (n8 := 3) (n9 := 3) (x5 := (758)) (x7 := 7) (x8 := (-1891)) (dp := 1299) (hd := 18) (cmp := True) trivial p_q0 rfl askqA askqB (show n < 1000000 by omega) (by decide) (by decide +kernel) (by decide +kernel) (by decide +kernel) (by decide +kernel) (by decide +kernel) (by decide +kernel) (by decide +kernel) (by decide +kernel) (by decide +kernel) (by decide +kernel) (by decide +kernel) (by decide +kernel) (by decide +kernel) (by decide +kernel) (by decide +kernel) rfl (by decide +kernel) rfl (by decide +kernel) askcn (by decide +kernel) askcd hn askPP hat h0 h7 cont
theorem p_blk (xs : Nat → Int32) (n : Nat) (hn : n ≤ 3584) {sf : Option Nat} (hsf : sf = none ∨ sf = some 1200000) : ∀ pc ∈ lwCb, lwBk (x_otS xs n sf) pc := by
  intro pc hpc
  have hpc : pc ∈ ([1087, 1120] : List Nat) := hpc
  simp only [List.mem_cons, List.not_mem_nil, or_false] at hpc
  rcases hpc with rfl | rfl
  · exact chip_blk hn
  · exact ask_blk hn
end XNd
