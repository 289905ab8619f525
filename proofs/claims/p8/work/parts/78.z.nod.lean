/-! Families of pairs: blocks. -/
section XNd
theorem uKa : kCl x_KT.1 uPA = true := by decide +kernel
theorem uKb : kCl x_KT.1 uPB = true := by decide +kernel
theorem uKj : x_KT.1.all (fun kd => match kd with | .inr o => decide (o.1 ≠ 77) | _ => true) = true := by decide +kernel
theorem uKdj : ∀ c, uPA c = true → uPB c = true → False := fun c h1 h2 => by
  have h1 := Nat.le_of_ble_eq_true h1
  have h2 := Nat.le_of_ble_eq_true h2
  omega
theorem uKt (c : Nat) : uPA c = true ∨ uPB c = true := by
  rcases Nat.lt_or_ge 47 c with h | h
  · exact Or.inr (Nat.ble_eq_true_of_le (by omega))
  · exact Or.inl (Nat.ble_eq_true_of_le (by omega))
/-- rows that stand in both alike stay so -/
theorem uKeep {WA WB : List (Nat × Nat)} (hk : lwPr.all (fun p => decide (p.1 < 12) && decide (p.2 < 12) && unW (WA ++ WB) (aG lwN) p.1 && unW (WA ++ WB) (aG lwN) p.2) = true) : ∀ (ρ : Nat → Int) (σ : Nat → Nat) (ty : Nat → Option Nat) (H : List (XC Int32)) (ρ2 : Nat → Int) (σ2 : Nat → Nat) (ty2 : Nat → Option Nat) (HH : List (XC Int32)), vRel x_KT ρ σ ty H (aSt lwN) → lwP1 σ ty H → (∀ i, i < u_ps.length → sR σ2 i = sR σ i) → vRel x_KT ρ2 σ2 ty2 HH (aSt lwN) → vFrm WA (tyP uPA ty) H HH → vFrm WB (tyP uPB ty) H HH → lwP1 σ2 ty2 HH := by
  intro ρ σ ty H ρ2 σ2 ty2 HH h hP hs h2 fA fB p hp
  obtain ⟨t, vs, h1, h2⟩ := hP p hp
  have k := List.all_eq_true.mp hk p hp
  simp only [Bool.and_eq_true] at k
  obtain ⟨⟨⟨k1, k2⟩, k3⟩, k4⟩ := k
  have k1 := of_decide_eq_true k1
  have k2 := of_decide_eq_true k2
  have hf := vFrm_two uKt fA fB
  have hl : u_ps.length = 12 := rfl
  obtain ⟨c, c1, c2, c3⟩ := unW_spec k3
  obtain ⟨d, d1, d2, d3⟩ := unW_spec k4
  exact ⟨t, vs, by rw [hs _ (by omega)]; exact vFrm_row hf (h.2.1 _ c c1) c2 c3 h1, by rw [hs _ (by omega)]; exact vFrm_row hf (h.2.1 _ d d1) d2 d3 h2⟩
theorem u_ctKS {xs : Nat → Int32} {n : Nat} {sf : Option Nat} (hsf : sf = none ∨ sf = some 1200000) : ∀ j c, c ∈ u_ctK j → vCtSem x_KT x_tb x_tyl (x_otS xs n sf) j c := fun j c h => by
  unfold u_ctK at h
  split at h
  · exact x_allS xs n hsf j c h
  · exact absurd h List.not_mem_nil
set_option maxRecDepth 1000000 in
theorem feedqA : tMth x_tb 11 = some xm11 := rfl
set_option maxRecDepth 1000000 in
theorem feedqB : tMth x_tb 180 = some xm180 := rfl
theorem feedPP {xs : Nat → Int32} {n : Nat} {sf : Option Nat} (hsf : sf = none ∨ sf = some 1200000) (hn : n ≤ 3584) : bPP x_KT x_tb x_tyl (x_otS xs n sf) lwN lwP 1299 11 180 2 (mMc xm11 + mMc xm180) (mRc xm11) (mRc xm180) True :=
  wBlk3 (W := fdWA ++ fdWB) (m := 12) lwFok (by decide +kernel) (bPQ_cv (fdPP hsf hn) lwPt_iff) (by decide)
theorem feedcn : ∀ ρ : Nat → Int, 0 ≤ ρ 1 → ρ 1 + 7 ≤ ρ 0 → ρ 0 ≤ 3584 → lEv ρ (aCn lwN) + ((mMc xm11 + mMc xm180 : Nat) : Int) ≤ ((mMc xm0 : Nat) : Int) ∧ lEv ρ (aSn lwN) + ((mMs xm11 + mMs xm180 : Nat) : Int) ≤ ((mMs xm0 : Nat) : Int) := fun ρ h1 h2 h3 => by
  have e1 : lEv ρ (aCn lwN) = 536 + 58 * ρ 1 := by
    show lEv ρ (lAdd (lK 536) (lSc 58 (lSy 1))) = _
    rw [lAdd_ev, lK_ev, lSc_ev, lSy_ev]
  have e2 : lEv ρ (aSn lwN) = 9690 + 229 * ρ 1 := by
    show lEv ρ (lAdd (lK 9690) (lSc 229 (lSy 1))) = _
    rw [lAdd_ev, lK_ev, lSc_ev, lSy_ev]
  have k : 536 + 58 * 3577 + (mMc xm11 + mMc xm180) ≤ mMc xm0 ∧ 9690 + 229 * 3577 + (mMs xm11 + mMs xm180) ≤ mMs xm0 := by decide +kernel
  rw [e1, e2]
  constructor <;> omega
theorem feedcd : ∀ ρ ρ2 : Nat → Int, ρ2 0 = ρ 0 → ρ2 1 = ρ 1 + 7 → lEv ρ (aCn lwN) + ((mMc xm11 + mMc xm180 : Nat) : Int) ≤ lEv ρ2 (aCn lwN) ∧ lEv ρ (aSn lwN) + ((mMs xm11 + mMs xm180 : Nat) : Int) ≤ lEv ρ2 (aSn lwN) := fun ρ ρ2 _ h => by
  have e1 : ∀ ρ : Nat → Int, lEv ρ (aCn lwN) = 536 + 58 * ρ 1 := fun ρ => by
    show lEv ρ (lAdd (lK 536) (lSc 58 (lSy 1))) = _
    rw [lAdd_ev, lK_ev, lSc_ev, lSy_ev]
  have e2 : ∀ ρ : Nat → Int, lEv ρ (aSn lwN) = 9690 + 229 * ρ 1 := fun ρ => by
    show lEv ρ (lAdd (lK 9690) (lSc 229 (lSy 1))) = _
    rw [lAdd_ev, lK_ev, lSc_ev, lSy_ev]
  have k : mMc xm11 + mMc xm180 ≤ 406 ∧ mMs xm11 + mMs xm180 ≤ 1603 := by decide +kernel
  rw [e1, e1, e2, e2, h]
  constructor <;> omega
theorem feed_blk {xs : Nat → Int32} {n : Nat} {sf : Option Nat} (hsf : sf = none ∨ sf = some 1200000) (hn : n ≤ 3584) : lwBk (x_otS xs n sf) 216 := fun ρ σ ty H Lc cn2 sn2 hat h0 h7 cont =>
  cBlkP (p1 := 227) (p2 := 242) (pi := 1906) (n := 2) (ixA := 13) (ixB := 17) (n1 := 1) (n2 := 3) (n3 := 1) (n4 := 1) (n5 := 3) (n6 := 1) (n7 := 3) (n8 := 3) (n9 := 3) (x6 := (1660)) (x7 := 7) (x8 := (-1891)) (dp := 1299) (hd := 18) (cmp := True) p_q0 rfl feedqA feedqB (show n < 1000000 by omega) (by decide) (by decide +kernel) (by decide +kernel) (by decide +kernel) (by decide +kernel) (by decide +kernel) (by decide +kernel) (by decide +kernel) (by decide +kernel) (by decide +kernel) (by decide +kernel) (by decide +kernel) (by decide +kernel) (by decide +kernel) (by decide +kernel) (by decide +kernel) (by decide +kernel) (by decide +kernel) rfl (by decide +kernel) rfl (by decide +kernel) feedcn (by decide +kernel) feedcd hn (feedPP hsf hn) hat h0 h7 cont
set_option maxRecDepth 1000000 in
theorem programqA : tMth x_tb 13 = some xm13 := rfl
set_option maxRecDepth 1000000 in
theorem programqB : tMth x_tb 182 = some xm182 := rfl
set_option maxRecDepth 1000000 in
theorem programbc : wBc lwN lwFS.length 0 lwTA lwTB lwGA lwGB 5 8 4 u_ps uPA uPB program_in [] = true := by decide +kernel
theorem programPP {xs : Nat → Int32} {n : Nat} {sf : Option Nat} (hsf : sf = none ∨ sf = some 1200000) (hn : n ≤ 3584) : bPP x_KT x_tb x_tyl (x_otS xs n sf) lwN lwP 1299 13 182 0 (mMc xm13 + mMc xm182) (mRc xm13) (mRc xm182) True :=
  wBlk2 (dpA := 60) (dpB := 60) (ps := u_ps) (W := pgWA ++ pgWB) (m := 12) lwFok lwFB uKa uKb (by decide +kernel) (by decide +kernel) uKdj programbc programqA programqB (by decide) (by decide) (bPQ_cv (pgPP hsf hn) lwPt_iff) (by decide) (by decide) (fun u hu => by
    have hu : u ∈ ([lwF0, lwF1, lwF2, lwF3] : List wN) := hu
    simp only [List.mem_cons, List.not_mem_nil, or_false] at hu
    rcases hu with rfl | rfl | rfl | rfl
    · exact wRk_spec (x_ov0_le sf) (u_ctKS hsf) lwFok programR0
    · exact wRk_spec (x_ov0_le sf) (u_ctKS hsf) lwFok programR1
    · exact wRk_spec (x_ov0_le sf) (u_ctKS hsf) lwFok programR2
    · exact wRk_spec (x_ov0_le sf) (u_ctKS hsf) lwFok programR3)
theorem programcn : ∀ ρ : Nat → Int, 0 ≤ ρ 1 → ρ 1 + 7 ≤ ρ 0 → ρ 0 ≤ 3584 → lEv ρ (aCn lwN) + ((mMc xm13 + mMc xm182 : Nat) : Int) ≤ ((mMc xm0 : Nat) : Int) ∧ lEv ρ (aSn lwN) + ((mMs xm13 + mMs xm182 : Nat) : Int) ≤ ((mMs xm0 : Nat) : Int) := fun ρ h1 h2 h3 => by
  have e1 : lEv ρ (aCn lwN) = 536 + 58 * ρ 1 := by
    show lEv ρ (lAdd (lK 536) (lSc 58 (lSy 1))) = _
    rw [lAdd_ev, lK_ev, lSc_ev, lSy_ev]
  have e2 : lEv ρ (aSn lwN) = 9690 + 229 * ρ 1 := by
    show lEv ρ (lAdd (lK 9690) (lSc 229 (lSy 1))) = _
    rw [lAdd_ev, lK_ev, lSc_ev, lSy_ev]
  have k : 536 + 58 * 3577 + (mMc xm13 + mMc xm182) ≤ mMc xm0 ∧ 9690 + 229 * 3577 + (mMs xm13 + mMs xm182) ≤ mMs xm0 := by decide +kernel
  rw [e1, e2]
  constructor <;> omega
theorem programcd : ∀ ρ ρ2 : Nat → Int, ρ2 0 = ρ 0 → ρ2 1 = ρ 1 + 7 → lEv ρ (aCn lwN) + ((mMc xm13 + mMc xm182 : Nat) : Int) ≤ lEv ρ2 (aCn lwN) ∧ lEv ρ (aSn lwN) + ((mMs xm13 + mMs xm182 : Nat) : Int) ≤ lEv ρ2 (aSn lwN) := fun ρ ρ2 _ h => by
  have e1 : ∀ ρ : Nat → Int, lEv ρ (aCn lwN) = 536 + 58 * ρ 1 := fun ρ => by
    show lEv ρ (lAdd (lK 536) (lSc 58 (lSy 1))) = _
    rw [lAdd_ev, lK_ev, lSc_ev, lSy_ev]
  have e2 : ∀ ρ : Nat → Int, lEv ρ (aSn lwN) = 9690 + 229 * ρ 1 := fun ρ => by
    show lEv ρ (lAdd (lK 9690) (lSc 229 (lSy 1))) = _
    rw [lAdd_ev, lK_ev, lSc_ev, lSy_ev]
  have k : mMc xm13 + mMc xm182 ≤ 406 ∧ mMs xm13 + mMs xm182 ≤ 1603 := by decide +kernel
  rw [e1, e1, e2, e2, h]
  constructor <;> omega
theorem program_blk {xs : Nat → Int32} {n : Nat} {sf : Option Nat} (hsf : sf = none ∨ sf = some 1200000) (hn : n ≤ 3584) : lwBk (x_otS xs n sf) 249 := fun ρ σ ty H Lc cn2 sn2 hat h0 h7 cont =>
  cBlkP (p1 := 250) (p2 := 255) (pi := 1906) (n := 0) (ixA := 18) (ixB := 22) (n1 := 1) (n2 := 3) (n3 := 1) (n4 := 1) (n5 := 3) (n6 := 1) (n7 := 3) (n8 := 3) (n9 := 3) (x6 := (1647)) (x7 := 7) (x8 := (-1891)) (dp := 1299) (hd := 18) (cmp := True) p_q0 rfl programqA programqB (show n < 1000000 by omega) (by decide) (by decide +kernel) (by decide +kernel) (by decide +kernel) (by decide +kernel) (by decide +kernel) (by decide +kernel) (by decide +kernel) (by decide +kernel) (by decide +kernel) (by decide +kernel) (by decide +kernel) (by decide +kernel) (by decide +kernel) (by decide +kernel) (by decide +kernel) (by decide +kernel) (by decide +kernel) rfl (by decide +kernel) rfl (by decide +kernel) programcn (by decide +kernel) programcd hn (programPP hsf hn) hat h0 h7 cont
def sheetnd : List wE := [sheet_in]
def sheetex : List wE := [sheet_out]
def sheetOX : List ((Bool × wE) × List lT) := [(wAdd [0, 1, 2] (false, sheet_out), [(lSy 0), (lAdd (lSy 1) (lK 7)), (lSy 2), (lSy 3), (lSy 4)])]
theorem sheetG {xs : Nat → Int32} {n : Nat} {sf : Option Nat} : ∀ nd ∈ sheetnd, wGoes x_KT x_tb x_tyl (x_otS xs n sf) lwFS lwGA.length lwGB.length 8 8 4 sheetWA sheetWB 174 272 60 60 nd (sheetex.map (fun x => (false, x))) := wGraph (fun nd hnd => by
  have hnd : nd ∈ ([sheet_in] : List wE) := hnd
  simp only [List.mem_cons, List.not_mem_nil, or_false] at hnd
  rcases hnd with rfl
  · refine ⟨sheeto0, wEd_spec (x_ov0_le sf) u_ctS lwFok sheetE0, fun o ho => ?_⟩
    have ho : o ∈ ([(false, sheet_out)] : List (Bool × wE)) := ho
    simp only [List.mem_cons, List.not_mem_nil, or_false] at ho
    rcases ho with rfl
    · exact Or.inl (List.mem_cons_self))
theorem sheetH {xs : Nat → Int32} {n : Nat} {sf : Option Nat} : wGoes x_KT x_tb x_tyl (x_otS xs n sf) lwFS lwGA.length lwGB.length 8 8 4 sheetWA sheetWB 174 272 60 60 sheet_in (sheetOX.map (fun x => x.1)) := wFam (V := [0, 1, 2]) lwFok (by decide +kernel) (by decide +kernel) (sheetG _ List.mem_cons_self) (by decide +kernel) (by decide +kernel) (fun i hi u hu => by
  have hi : i ∈ ([0, 1, 2] : List Nat) := hi
  simp only [List.mem_cons, List.not_mem_nil, or_false] at hi
  rcases hi with rfl | rfl | rfl
  · cases hu
    exact wRk_spec (x_ov0_le sf) u_ctS lwFok sheetR0
  · cases hu
    exact wRk_spec (x_ov0_le sf) u_ctS lwFok sheetR1
  · cases hu
    exact wRk_spec (x_ov0_le sf) u_ctS lwFok sheetR2)
set_option maxRecDepth 1000000 in
theorem sheetqA : tMth x_tb 174 = some xm174 := rfl
set_option maxRecDepth 1000000 in
theorem sheetqB : tMth x_tb 272 = some xm272 := rfl
set_option maxRecDepth 1000000 in
theorem sheetbc : wBc lwN lwFS.length 3 lwTA lwTB lwGA lwGB 8 8 4 u_ps uPA uPB sheet_in sheetOX = true := by decide +kernel
theorem sheetPP {xs : Nat → Int32} {n : Nat} {sf : Option Nat} : bPP x_KT x_tb x_tyl (x_otS xs n sf) lwN lwP 1299 174 272 3 (mMc xm174 + mMc xm272) (mRc xm174) (mRc xm272) True :=
  wBlk lwFok lwFB uKa uKb (by decide +kernel) (by decide +kernel) uKdj uKj sheetbc sheetH sheetqA sheetqB (by decide) (by decide) (uKeep (by decide +kernel)) (by decide +kernel) (by decide +kernel) (by decide +kernel)
theorem sheetcn : ∀ ρ : Nat → Int, 0 ≤ ρ 1 → ρ 1 + 7 ≤ ρ 0 → ρ 0 ≤ 3584 → lEv ρ (aCn lwN) + ((mMc xm174 + mMc xm272 : Nat) : Int) ≤ ((mMc xm0 : Nat) : Int) ∧ lEv ρ (aSn lwN) + ((mMs xm174 + mMs xm272 : Nat) : Int) ≤ ((mMs xm0 : Nat) : Int) := fun ρ h1 h2 h3 => by
  have e1 : lEv ρ (aCn lwN) = 536 + 58 * ρ 1 := by
    show lEv ρ (lAdd (lK 536) (lSc 58 (lSy 1))) = _
    rw [lAdd_ev, lK_ev, lSc_ev, lSy_ev]
  have e2 : lEv ρ (aSn lwN) = 9690 + 229 * ρ 1 := by
    show lEv ρ (lAdd (lK 9690) (lSc 229 (lSy 1))) = _
    rw [lAdd_ev, lK_ev, lSc_ev, lSy_ev]
  have k : 536 + 58 * 3577 + (mMc xm174 + mMc xm272) ≤ mMc xm0 ∧ 9690 + 229 * 3577 + (mMs xm174 + mMs xm272) ≤ mMs xm0 := by decide +kernel
  rw [e1, e2]
  constructor <;> omega
theorem sheetcd : ∀ ρ ρ2 : Nat → Int, ρ2 0 = ρ 0 → ρ2 1 = ρ 1 + 7 → lEv ρ (aCn lwN) + ((mMc xm174 + mMc xm272 : Nat) : Int) ≤ lEv ρ2 (aCn lwN) ∧ lEv ρ (aSn lwN) + ((mMs xm174 + mMs xm272 : Nat) : Int) ≤ lEv ρ2 (aSn lwN) := fun ρ ρ2 _ h => by
  have e1 : ∀ ρ : Nat → Int, lEv ρ (aCn lwN) = 536 + 58 * ρ 1 := fun ρ => by
    show lEv ρ (lAdd (lK 536) (lSc 58 (lSy 1))) = _
    rw [lAdd_ev, lK_ev, lSc_ev, lSy_ev]
  have e2 : ∀ ρ : Nat → Int, lEv ρ (aSn lwN) = 9690 + 229 * ρ 1 := fun ρ => by
    show lEv ρ (lAdd (lK 9690) (lSc 229 (lSy 1))) = _
    rw [lAdd_ev, lK_ev, lSc_ev, lSy_ev]
  have k : mMc xm174 + mMc xm272 ≤ 406 ∧ mMs xm174 + mMs xm272 ≤ 1603 := by decide +kernel
  rw [e1, e1, e2, e2, h]
  constructor <;> omega
theorem sheet_blk {xs : Nat → Int32} {n : Nat} {sf : Option Nat} (hn : n ≤ 3584) : lwBk (x_otS xs n sf) 1757 := fun ρ σ ty H Lc cn2 sn2 hat h0 h7 cont =>
  cBlkP (p1 := 1773) (p2 := 1793) (pi := 1906) (n := 3) (ixA := 178) (ixB := 181) (n1 := 1) (n2 := 3) (n3 := 1) (n4 := 1) (n5 := 3) (n6 := 1) (n7 := 3) (n8 := 3) (n9 := 3) (x6 := (109)) (x7 := 7) (x8 := (-1891)) (dp := 1299) (hd := 18) (cmp := True) p_q0 rfl sheetqA sheetqB (show n < 1000000 by omega) (by decide) (by decide +kernel) (by decide +kernel) (by decide +kernel) (by decide +kernel) (by decide +kernel) (by decide +kernel) (by decide +kernel) (by decide +kernel) (by decide +kernel) (by decide +kernel) (by decide +kernel) (by decide +kernel) (by decide +kernel) (by decide +kernel) (by decide +kernel) (by decide +kernel) (by decide +kernel) rfl (by decide +kernel) rfl (by decide +kernel) sheetcn (by decide +kernel) sheetcd hn sheetPP hat h0 h7 cont
def cellnd : List wE := [cell_in]
def cellex : List wE := [cell_out]
def cellOX : List ((Bool × wE) × List lT) := [(wAdd [] (false, cell_out), [(lSy 0), (lAdd (lSy 1) (lK 7)), (lSy 2), (lSy 3), (lSy 4)])]
theorem cellG {xs : Nat → Int32} {n : Nat} {sf : Option Nat} : ∀ nd ∈ cellnd, wGoes x_KT x_tb x_tyl (x_otS xs n sf) lwFS lwGA.length lwGB.length 8 8 4 cellWA cellWB 176 273 60 60 nd (cellex.map (fun x => (false, x))) := wGraph (fun nd hnd => by
  have hnd : nd ∈ ([cell_in] : List wE) := hnd
  simp only [List.mem_cons, List.not_mem_nil, or_false] at hnd
  rcases hnd with rfl
  · refine ⟨cello0, wEd_spec (x_ov0_le sf) u_ctS lwFok cellE0, fun o ho => ?_⟩
    have ho : o ∈ ([(false, cell_out)] : List (Bool × wE)) := ho
    simp only [List.mem_cons, List.not_mem_nil, or_false] at ho
    rcases ho with rfl
    · exact Or.inl (List.mem_cons_self))
theorem cellH {xs : Nat → Int32} {n : Nat} {sf : Option Nat} : wGoes x_KT x_tb x_tyl (x_otS xs n sf) lwFS lwGA.length lwGB.length 8 8 4 cellWA cellWB 176 273 60 60 cell_in (cellOX.map (fun x => x.1)) := wFam (V := []) lwFok (by decide +kernel) (by decide +kernel) (cellG _ List.mem_cons_self) (by decide +kernel) (by decide +kernel) (fun i hi u hu => by
  have hi : i ∈ ([] : List Nat) := hi
  simp only [List.mem_cons, List.not_mem_nil, or_false] at hi)
set_option maxRecDepth 1000000 in
theorem cellqA : tMth x_tb 176 = some xm176 := rfl
set_option maxRecDepth 1000000 in
theorem cellqB : tMth x_tb 273 = some xm273 := rfl
set_option maxRecDepth 1000000 in
theorem cellbc : wBc lwN lwFS.length 3 lwTA lwTB lwGA lwGB 8 8 4 u_ps uPA uPB cell_in cellOX = true := by decide +kernel
theorem cellPP {xs : Nat → Int32} {n : Nat} {sf : Option Nat} : bPP x_KT x_tb x_tyl (x_otS xs n sf) lwN lwP 1299 176 273 3 (mMc xm176 + mMc xm273) (mRc xm176) (mRc xm273) True :=
  wBlk lwFok lwFB uKa uKb (by decide +kernel) (by decide +kernel) uKdj uKj cellbc cellH cellqA cellqB (by decide) (by decide) (uKeep (by decide +kernel)) (by decide +kernel) (by decide +kernel) (by decide +kernel)
theorem cellcn : ∀ ρ : Nat → Int, 0 ≤ ρ 1 → ρ 1 + 7 ≤ ρ 0 → ρ 0 ≤ 3584 → lEv ρ (aCn lwN) + ((mMc xm176 + mMc xm273 : Nat) : Int) ≤ ((mMc xm0 : Nat) : Int) ∧ lEv ρ (aSn lwN) + ((mMs xm176 + mMs xm273 : Nat) : Int) ≤ ((mMs xm0 : Nat) : Int) := fun ρ h1 h2 h3 => by
  have e1 : lEv ρ (aCn lwN) = 536 + 58 * ρ 1 := by
    show lEv ρ (lAdd (lK 536) (lSc 58 (lSy 1))) = _
    rw [lAdd_ev, lK_ev, lSc_ev, lSy_ev]
  have e2 : lEv ρ (aSn lwN) = 9690 + 229 * ρ 1 := by
    show lEv ρ (lAdd (lK 9690) (lSc 229 (lSy 1))) = _
    rw [lAdd_ev, lK_ev, lSc_ev, lSy_ev]
  have k : 536 + 58 * 3577 + (mMc xm176 + mMc xm273) ≤ mMc xm0 ∧ 9690 + 229 * 3577 + (mMs xm176 + mMs xm273) ≤ mMs xm0 := by decide +kernel
  rw [e1, e2]
  constructor <;> omega
theorem cellcd : ∀ ρ ρ2 : Nat → Int, ρ2 0 = ρ 0 → ρ2 1 = ρ 1 + 7 → lEv ρ (aCn lwN) + ((mMc xm176 + mMc xm273 : Nat) : Int) ≤ lEv ρ2 (aCn lwN) ∧ lEv ρ (aSn lwN) + ((mMs xm176 + mMs xm273 : Nat) : Int) ≤ lEv ρ2 (aSn lwN) := fun ρ ρ2 _ h => by
  have e1 : ∀ ρ : Nat → Int, lEv ρ (aCn lwN) = 536 + 58 * ρ 1 := fun ρ => by
    show lEv ρ (lAdd (lK 536) (lSc 58 (lSy 1))) = _
    rw [lAdd_ev, lK_ev, lSc_ev, lSy_ev]
  have e2 : ∀ ρ : Nat → Int, lEv ρ (aSn lwN) = 9690 + 229 * ρ 1 := fun ρ => by
    show lEv ρ (lAdd (lK 9690) (lSc 229 (lSy 1))) = _
    rw [lAdd_ev, lK_ev, lSc_ev, lSy_ev]
  have k : mMc xm176 + mMc xm273 ≤ 406 ∧ mMs xm176 + mMs xm273 ≤ 1603 := by decide +kernel
  rw [e1, e1, e2, e2, h]
  constructor <;> omega
theorem cell_blk {xs : Nat → Int32} {n : Nat} {sf : Option Nat} (hn : n ≤ 3584) : lwBk (x_otS xs n sf) 1800 := fun ρ σ ty H Lc cn2 sn2 hat h0 h7 cont =>
  cBlkP (p1 := 1816) (p2 := 1836) (pi := 1906) (n := 3) (ixA := 182) (ixB := 185) (n1 := 1) (n2 := 3) (n3 := 1) (n4 := 1) (n5 := 3) (n6 := 1) (n7 := 3) (n8 := 3) (n9 := 3) (x6 := (66)) (x7 := 7) (x8 := (-1891)) (dp := 1299) (hd := 18) (cmp := True) p_q0 rfl cellqA cellqB (show n < 1000000 by omega) (by decide) (by decide +kernel) (by decide +kernel) (by decide +kernel) (by decide +kernel) (by decide +kernel) (by decide +kernel) (by decide +kernel) (by decide +kernel) (by decide +kernel) (by decide +kernel) (by decide +kernel) (by decide +kernel) (by decide +kernel) (by decide +kernel) (by decide +kernel) (by decide +kernel) (by decide +kernel) rfl (by decide +kernel) rfl (by decide +kernel) cellcn (by decide +kernel) cellcd hn cellPP hat h0 h7 cont
def copynd : List wE := [copy_in]
def copyex : List wE := [copy_out]
def copyOX : List ((Bool × wE) × List lT) := [(wAdd [] (false, copy_out), [(lSy 0), (lAdd (lSy 1) (lK 7)), (lSy 2), (lSy 3), (lSy 4)])]
theorem copyG {xs : Nat → Int32} {n : Nat} {sf : Option Nat} : ∀ nd ∈ copynd, wGoes x_KT x_tb x_tyl (x_otS xs n sf) lwFS lwGA.length lwGB.length 10 8 4 copyWA copyWB 178 274 60 60 nd (copyex.map (fun x => (false, x))) := wGraph (fun nd hnd => by
  have hnd : nd ∈ ([copy_in] : List wE) := hnd
  simp only [List.mem_cons, List.not_mem_nil, or_false] at hnd
  rcases hnd with rfl
  · refine ⟨copyo0, wEd_spec (x_ov0_le sf) u_ctS lwFok copyE0, fun o ho => ?_⟩
    have ho : o ∈ ([(false, copy_out)] : List (Bool × wE)) := ho
    simp only [List.mem_cons, List.not_mem_nil, or_false] at ho
    rcases ho with rfl
    · exact Or.inl (List.mem_cons_self))
theorem copyH {xs : Nat → Int32} {n : Nat} {sf : Option Nat} : wGoes x_KT x_tb x_tyl (x_otS xs n sf) lwFS lwGA.length lwGB.length 10 8 4 copyWA copyWB 178 274 60 60 copy_in (copyOX.map (fun x => x.1)) := wFam (V := []) lwFok (by decide +kernel) (by decide +kernel) (copyG _ List.mem_cons_self) (by decide +kernel) (by decide +kernel) (fun i hi u hu => by
  have hi : i ∈ ([] : List Nat) := hi
  simp only [List.mem_cons, List.not_mem_nil, or_false] at hi)
set_option maxRecDepth 1000000 in
theorem copyqA : tMth x_tb 178 = some xm178 := rfl
set_option maxRecDepth 1000000 in
theorem copyqB : tMth x_tb 274 = some xm274 := rfl
set_option maxRecDepth 1000000 in
theorem copybc : wBc lwN lwFS.length 5 lwTA lwTB lwGA lwGB 10 8 4 u_ps uPA uPB copy_in copyOX = true := by decide +kernel
theorem copyPP {xs : Nat → Int32} {n : Nat} {sf : Option Nat} : bPP x_KT x_tb x_tyl (x_otS xs n sf) lwN lwP 1299 178 274 5 (mMc xm178 + mMc xm274) (mRc xm178) (mRc xm274) True :=
  wBlk lwFok lwFB uKa uKb (by decide +kernel) (by decide +kernel) uKdj uKj copybc copyH copyqA copyqB (by decide) (by decide) (uKeep (by decide +kernel)) (by decide +kernel) (by decide +kernel) (by decide +kernel)
theorem copycn : ∀ ρ : Nat → Int, 0 ≤ ρ 1 → ρ 1 + 7 ≤ ρ 0 → ρ 0 ≤ 3584 → lEv ρ (aCn lwN) + ((mMc xm178 + mMc xm274 : Nat) : Int) ≤ ((mMc xm0 : Nat) : Int) ∧ lEv ρ (aSn lwN) + ((mMs xm178 + mMs xm274 : Nat) : Int) ≤ ((mMs xm0 : Nat) : Int) := fun ρ h1 h2 h3 => by
  have e1 : lEv ρ (aCn lwN) = 536 + 58 * ρ 1 := by
    show lEv ρ (lAdd (lK 536) (lSc 58 (lSy 1))) = _
    rw [lAdd_ev, lK_ev, lSc_ev, lSy_ev]
  have e2 : lEv ρ (aSn lwN) = 9690 + 229 * ρ 1 := by
    show lEv ρ (lAdd (lK 9690) (lSc 229 (lSy 1))) = _
    rw [lAdd_ev, lK_ev, lSc_ev, lSy_ev]
  have k : 536 + 58 * 3577 + (mMc xm178 + mMc xm274) ≤ mMc xm0 ∧ 9690 + 229 * 3577 + (mMs xm178 + mMs xm274) ≤ mMs xm0 := by decide +kernel
  rw [e1, e2]
  constructor <;> omega
theorem copycd : ∀ ρ ρ2 : Nat → Int, ρ2 0 = ρ 0 → ρ2 1 = ρ 1 + 7 → lEv ρ (aCn lwN) + ((mMc xm178 + mMc xm274 : Nat) : Int) ≤ lEv ρ2 (aCn lwN) ∧ lEv ρ (aSn lwN) + ((mMs xm178 + mMs xm274 : Nat) : Int) ≤ lEv ρ2 (aSn lwN) := fun ρ ρ2 _ h => by
  have e1 : ∀ ρ : Nat → Int, lEv ρ (aCn lwN) = 536 + 58 * ρ 1 := fun ρ => by
    show lEv ρ (lAdd (lK 536) (lSc 58 (lSy 1))) = _
    rw [lAdd_ev, lK_ev, lSc_ev, lSy_ev]
  have e2 : ∀ ρ : Nat → Int, lEv ρ (aSn lwN) = 9690 + 229 * ρ 1 := fun ρ => by
    show lEv ρ (lAdd (lK 9690) (lSc 229 (lSy 1))) = _
    rw [lAdd_ev, lK_ev, lSc_ev, lSy_ev]
  have k : mMc xm178 + mMc xm274 ≤ 406 ∧ mMs xm178 + mMs xm274 ≤ 1603 := by decide +kernel
  rw [e1, e1, e2, e2, h]
  constructor <;> omega
theorem copy_blk {xs : Nat → Int32} {n : Nat} {sf : Option Nat} (hn : n ≤ 3584) : lwBk (x_otS xs n sf) 1843 := fun ρ σ ty H Lc cn2 sn2 hat h0 h7 cont =>
  cBlkP (p1 := 1869) (p2 := 1899) (pi := 1906) (n := 5) (ixA := 186) (ixB := 189) (n1 := 1) (n2 := 3) (n3 := 1) (n4 := 1) (n5 := 3) (n6 := 1) (n7 := 3) (n8 := 3) (n9 := 3) (x6 := (3)) (x7 := 7) (x8 := (-1891)) (dp := 1299) (hd := 18) (cmp := True) p_q0 rfl copyqA copyqB (show n < 1000000 by omega) (by decide) (by decide +kernel) (by decide +kernel) (by decide +kernel) (by decide +kernel) (by decide +kernel) (by decide +kernel) (by decide +kernel) (by decide +kernel) (by decide +kernel) (by decide +kernel) (by decide +kernel) (by decide +kernel) (by decide +kernel) (by decide +kernel) (by decide +kernel) (by decide +kernel) (by decide +kernel) rfl (by decide +kernel) rfl (by decide +kernel) copycn (by decide +kernel) copycd hn copyPP hat h0 h7 cont
def shelfnd : List wE := [shelf_in, shelf_loop0, shelf_none0, shelf_loop1, shelf_none1, shelf_loop2, shelf_none2]
def shelfex : List wE := [shelf_out]
def shelfOX : List ((Bool × wE) × List lT) := [(wAdd [] (false, shelf_out), [(lSy 0), (lAdd (lSy 1) (lK 7)), (lSy 2), (lSy 3), (lSy 4)])]
theorem shelfG {xs : Nat → Int32} {n : Nat} {sf : Option Nat} : ∀ nd ∈ shelfnd, wGoes x_KT x_tb x_tyl (x_otS xs n sf) lwFS lwGA.length lwGB.length 10 8 4 shelfWA shelfWB 54 218 60 60 nd (shelfex.map (fun x => (false, x))) := wGraph (fun nd hnd => by
  have hnd : nd ∈ ([shelf_in, shelf_loop0, shelf_none0, shelf_loop1, shelf_none1, shelf_loop2, shelf_none2] : List wE) := hnd
  simp only [List.mem_cons, List.not_mem_nil, or_false] at hnd
  rcases hnd with rfl | rfl | rfl | rfl | rfl | rfl | rfl
  · refine ⟨shelfo0, wEd_spec (x_ov0_le sf) u_ctS lwFok shelfE0, fun o ho => ?_⟩
    have ho : o ∈ ([(true, shelf_loop0), (true, shelf_loop1), (true, shelf_loop2), (true, shelf_none0), (true, shelf_none1), (true, shelf_none2), (false, shelf_out)] : List (Bool × wE)) := ho
    simp only [List.mem_cons, List.not_mem_nil, or_false] at ho
    rcases ho with rfl | rfl | rfl | rfl | rfl | rfl | rfl
    · exact Or.inr ⟨rfl, List.mem_cons_of_mem _ (List.mem_cons_self)⟩
    · exact Or.inr ⟨rfl, List.mem_cons_of_mem _ (List.mem_cons_of_mem _ (List.mem_cons_of_mem _ (List.mem_cons_self)))⟩
    · exact Or.inr ⟨rfl, List.mem_cons_of_mem _ (List.mem_cons_of_mem _ (List.mem_cons_of_mem _ (List.mem_cons_of_mem _ (List.mem_cons_of_mem _ (List.mem_cons_self)))))⟩
    · exact Or.inr ⟨rfl, List.mem_cons_of_mem _ (List.mem_cons_of_mem _ (List.mem_cons_self))⟩
    · exact Or.inr ⟨rfl, List.mem_cons_of_mem _ (List.mem_cons_of_mem _ (List.mem_cons_of_mem _ (List.mem_cons_of_mem _ (List.mem_cons_self))))⟩
    · exact Or.inr ⟨rfl, List.mem_cons_of_mem _ (List.mem_cons_of_mem _ (List.mem_cons_of_mem _ (List.mem_cons_of_mem _ (List.mem_cons_of_mem _ (List.mem_cons_of_mem _ (List.mem_cons_self))))))⟩
    · exact Or.inl (List.mem_cons_self)
  · refine ⟨shelfo1, wEd_spec (x_ov0_le sf) u_ctS lwFok shelfE1, fun o ho => ?_⟩
    have ho : o ∈ ([(true, shelf_loop0), (false, shelf_out)] : List (Bool × wE)) := ho
    simp only [List.mem_cons, List.not_mem_nil, or_false] at ho
    rcases ho with rfl | rfl
    · exact Or.inr ⟨rfl, List.mem_cons_of_mem _ (List.mem_cons_self)⟩
    · exact Or.inl (List.mem_cons_self)
  · refine ⟨shelfo2, wEd_spec (x_ov0_le sf) u_ctS lwFok shelfE2, fun o ho => ?_⟩
    have ho : o ∈ ([(false, shelf_out)] : List (Bool × wE)) := ho
    simp only [List.mem_cons, List.not_mem_nil, or_false] at ho
    rcases ho with rfl
    · exact Or.inl (List.mem_cons_self)
  · refine ⟨shelfo3, wEd_spec (x_ov0_le sf) u_ctS lwFok shelfE3, fun o ho => ?_⟩
    have ho : o ∈ ([(true, shelf_loop1), (false, shelf_out)] : List (Bool × wE)) := ho
    simp only [List.mem_cons, List.not_mem_nil, or_false] at ho
    rcases ho with rfl | rfl
    · exact Or.inr ⟨rfl, List.mem_cons_of_mem _ (List.mem_cons_of_mem _ (List.mem_cons_of_mem _ (List.mem_cons_self)))⟩
    · exact Or.inl (List.mem_cons_self)
  · refine ⟨shelfo4, wEd_spec (x_ov0_le sf) u_ctS lwFok shelfE4, fun o ho => ?_⟩
    have ho : o ∈ ([(false, shelf_out)] : List (Bool × wE)) := ho
    simp only [List.mem_cons, List.not_mem_nil, or_false] at ho
    rcases ho with rfl
    · exact Or.inl (List.mem_cons_self)
  · refine ⟨shelfo5, wEd_spec (x_ov0_le sf) u_ctS lwFok shelfE5, fun o ho => ?_⟩
    have ho : o ∈ ([(true, shelf_loop2), (false, shelf_out)] : List (Bool × wE)) := ho
    simp only [List.mem_cons, List.not_mem_nil, or_false] at ho
    rcases ho with rfl | rfl
    · exact Or.inr ⟨rfl, List.mem_cons_of_mem _ (List.mem_cons_of_mem _ (List.mem_cons_of_mem _ (List.mem_cons_of_mem _ (List.mem_cons_of_mem _ (List.mem_cons_self)))))⟩
    · exact Or.inl (List.mem_cons_self)
  · refine ⟨shelfo6, wEd_spec (x_ov0_le sf) u_ctS lwFok shelfE6, fun o ho => ?_⟩
    have ho : o ∈ ([(false, shelf_out)] : List (Bool × wE)) := ho
    simp only [List.mem_cons, List.not_mem_nil, or_false] at ho
    rcases ho with rfl
    · exact Or.inl (List.mem_cons_self))
theorem shelfH {xs : Nat → Int32} {n : Nat} {sf : Option Nat} : wGoes x_KT x_tb x_tyl (x_otS xs n sf) lwFS lwGA.length lwGB.length 10 8 4 shelfWA shelfWB 54 218 60 60 shelf_in (shelfOX.map (fun x => x.1)) := wFam (V := []) lwFok (by decide +kernel) (by decide +kernel) (shelfG _ List.mem_cons_self) (by decide +kernel) (by decide +kernel) (fun i hi u hu => by
  have hi : i ∈ ([] : List Nat) := hi
  simp only [List.mem_cons, List.not_mem_nil, or_false] at hi)
set_option maxRecDepth 1000000 in
theorem shelfqA : tMth x_tb 54 = some xm54 := rfl
set_option maxRecDepth 1000000 in
theorem shelfqB : tMth x_tb 218 = some xm218 := rfl
set_option maxRecDepth 1000000 in
theorem shelfbc : wBc lwN lwFS.length 5 lwTA lwTB lwGA lwGB 10 8 4 u_ps uPA uPB shelf_in shelfOX = true := by decide +kernel
theorem shelfPP {xs : Nat → Int32} {n : Nat} {sf : Option Nat} : bPP x_KT x_tb x_tyl (x_otS xs n sf) lwN lwP 1299 54 218 5 (mMc xm54 + mMc xm218) (mRc xm54) (mRc xm218) True :=
  wBlk lwFok lwFB uKa uKb (by decide +kernel) (by decide +kernel) uKdj uKj shelfbc shelfH shelfqA shelfqB (by decide) (by decide) (uKeep (by decide +kernel)) (by decide +kernel) (by decide +kernel) (by decide +kernel)
theorem shelfcn : ∀ ρ : Nat → Int, 0 ≤ ρ 1 → ρ 1 + 7 ≤ ρ 0 → ρ 0 ≤ 3584 → lEv ρ (aCn lwN) + ((mMc xm54 + mMc xm218 : Nat) : Int) ≤ ((mMc xm0 : Nat) : Int) ∧ lEv ρ (aSn lwN) + ((mMs xm54 + mMs xm218 : Nat) : Int) ≤ ((mMs xm0 : Nat) : Int) := fun ρ h1 h2 h3 => by
  have e1 : lEv ρ (aCn lwN) = 536 + 58 * ρ 1 := by
    show lEv ρ (lAdd (lK 536) (lSc 58 (lSy 1))) = _
    rw [lAdd_ev, lK_ev, lSc_ev, lSy_ev]
  have e2 : lEv ρ (aSn lwN) = 9690 + 229 * ρ 1 := by
    show lEv ρ (lAdd (lK 9690) (lSc 229 (lSy 1))) = _
    rw [lAdd_ev, lK_ev, lSc_ev, lSy_ev]
  have k : 536 + 58 * 3577 + (mMc xm54 + mMc xm218) ≤ mMc xm0 ∧ 9690 + 229 * 3577 + (mMs xm54 + mMs xm218) ≤ mMs xm0 := by decide +kernel
  rw [e1, e2]
  constructor <;> omega
theorem shelfcd : ∀ ρ ρ2 : Nat → Int, ρ2 0 = ρ 0 → ρ2 1 = ρ 1 + 7 → lEv ρ (aCn lwN) + ((mMc xm54 + mMc xm218 : Nat) : Int) ≤ lEv ρ2 (aCn lwN) ∧ lEv ρ (aSn lwN) + ((mMs xm54 + mMs xm218 : Nat) : Int) ≤ lEv ρ2 (aSn lwN) := fun ρ ρ2 _ h => by
  have e1 : ∀ ρ : Nat → Int, lEv ρ (aCn lwN) = 536 + 58 * ρ 1 := fun ρ => by
    show lEv ρ (lAdd (lK 536) (lSc 58 (lSy 1))) = _
    rw [lAdd_ev, lK_ev, lSc_ev, lSy_ev]
  have e2 : ∀ ρ : Nat → Int, lEv ρ (aSn lwN) = 9690 + 229 * ρ 1 := fun ρ => by
    show lEv ρ (lAdd (lK 9690) (lSc 229 (lSy 1))) = _
    rw [lAdd_ev, lK_ev, lSc_ev, lSy_ev]
  have k : mMc xm54 + mMc xm218 ≤ 406 ∧ mMs xm54 + mMs xm218 ≤ 1603 := by decide +kernel
  rw [e1, e1, e2, e2, h]
  constructor <;> omega
theorem shelf_blk {xs : Nat → Int32} {n : Nat} {sf : Option Nat} (hn : n ≤ 3584) : lwBk (x_otS xs n sf) 414 := fun ρ σ ty H Lc cn2 sn2 hat h0 h7 cont =>
  cBlkD (p1 := 440) (p2 := 469) (pi := 1906) (n := 5) (ixA := 40) (ixB := 44) (n1 := 1) (n2 := 3) (n4 := 1) (n5 := 3) (n6 := 3) (n8 := 3) (n9 := 3) (x5 := (1434)) (x7 := 7) (x8 := (-1891)) (dp := 1299) (hd := 18) (cmp := True) trivial p_q0 rfl shelfqA shelfqB (show n < 1000000 by omega) (by decide) (by decide +kernel) (by decide +kernel) (by decide +kernel) (by decide +kernel) (by decide +kernel) (by decide +kernel) (by decide +kernel) (by decide +kernel) (by decide +kernel) (by decide +kernel) (by decide +kernel) (by decide +kernel) (by decide +kernel) (by decide +kernel) (by decide +kernel) rfl (by decide +kernel) rfl (by decide +kernel) shelfcn (by decide +kernel) shelfcd hn shelfPP hat h0 h7 cont
theorem p_blk (xs : Nat → Int32) (n : Nat) (hn : n ≤ 3584) {sf : Option Nat} (hsf : sf = none ∨ sf = some 1200000) : ∀ pc ∈ lwCb, lwBk (x_otS xs n sf) pc := by
  intro pc hpc
  have hpc : pc ∈ ([216, 249, 414, 1757, 1800, 1843] : List Nat) := hpc
  simp only [List.mem_cons, List.not_mem_nil, or_false] at hpc
  rcases hpc with rfl | rfl | rfl | rfl | rfl | rfl
  · exact feed_blk hsf hn
  · exact program_blk hsf hn
  · exact shelf_blk hn
  · exact sheet_blk hn
  · exact cell_blk hn
  · exact copy_blk hn
end XNd
