/-! Families of pairs: blocks. -/
section XNd
theorem uKa : kCl x_KT.1 uPA = true := by decide +kernel
theorem uKb : kCl x_KT.1 uPB = true := by decide +kernel
theorem uKj : x_KT.1.all (fun kd => match kd with | .inr o => decide (o.1 ≠ 77) | _ => true) = true := by decide +kernel
theorem uKdj : ∀ c, uPA c = true → uPB c = true → False := fun c h1 h2 => by
  have h1 := Nat.le_of_ble_eq_true h1
  have h2 := Nat.le_of_ble_eq_true h2
  omega
theorem uKt (c : Nat) : uPA c = true ∨ uPB c = true := by
  rcases Nat.lt_or_ge 47 c with h | h
  · exact Or.inr (Nat.ble_eq_true_of_le (by omega))
  · exact Or.inl (Nat.ble_eq_true_of_le (by omega))
/-- rows that stand in both alike stay so -/
theorem uKeep {WA WB : List (Nat × Nat)} (hk : lwPr.all (fun p => decide (p.1 < 7) && decide (p.2 < 7) && unW (WA ++ WB) (aG lwN) p.1 && unW (WA ++ WB) (aG lwN) p.2) = true) : ∀ (ρ : Nat → Int) (σ : Nat → Nat) (ty : Nat → Option Nat) (H : List (XC Int32)) (ρ2 : Nat → Int) (σ2 : Nat → Nat) (ty2 : Nat → Option Nat) (HH : List (XC Int32)), vRel x_KT ρ σ ty H (aSt lwN) → lwP1 σ ty H → (∀ i, i < u_ps.length → sR σ2 i = sR σ i) → vRel x_KT ρ2 σ2 ty2 HH (aSt lwN) → vFrm WA (tyP uPA ty) H HH → vFrm WB (tyP uPB ty) H HH → lwP1 σ2 ty2 HH := by
  intro ρ σ ty H ρ2 σ2 ty2 HH h hP hs h2 fA fB p hp
  obtain ⟨t, vs, h1, h2⟩ := hP p hp
  have k := List.all_eq_true.mp hk p hp
  simp only [Bool.and_eq_true] at k
  obtain ⟨⟨⟨k1, k2⟩, k3⟩, k4⟩ := k
  have k1 := of_decide_eq_true k1
  have k2 := of_decide_eq_true k2
  have hf := vFrm_two uKt fA fB
  have hl : u_ps.length = 7 := rfl
  obtain ⟨c, c1, c2, c3⟩ := unW_spec k3
  obtain ⟨d, d1, d2, d3⟩ := unW_spec k4
  exact ⟨t, vs, by rw [hs _ (by omega)]; exact vFrm_row hf (h.2.1 _ c c1) c2 c3 h1, by rw [hs _ (by omega)]; exact vFrm_row hf (h.2.1 _ d d1) d2 d3 h2⟩
theorem u_ctKS {xs : Nat → Int32} {n : Nat} {sf : Option Nat} (hsf : sf = none ∨ sf = some 1200000) : ∀ j c, c ∈ u_ctK j → vCtSem x_KT x_tb x_tyl (x_otS xs n sf) j c := fun j c h => by
  unfold u_ctK at h
  split at h
  · exact x_allS xs n hsf j c h
  · exact absurd h List.not_mem_nil
set_option maxRecDepth 1000000 in
theorem feedqA : tMth x_tb 11 = some xm11 := rfl
set_option maxRecDepth 1000000 in
theorem feedqB : tMth x_tb 180 = some xm180 := rfl
theorem feedPP {xs : Nat → Int32} {n : Nat} {sf : Option Nat} (hsf : sf = none ∨ sf = some 1200000) (hn : n ≤ 3584) : bPP x_KT x_tb x_tyl (x_otS xs n sf) lwN lwP 1299 11 180 2 (mMc xm11 + mMc xm180) (mRc xm11) (mRc xm180) True :=
  wBlk3 (W := fdWA ++ fdWB) (m := 7) lwFok (by decide +kernel) (bPQ_cv (fdPP hsf hn) lwPt_iff) (by decide)
theorem feedcn : ∀ ρ : Nat → Int, 0 ≤ ρ 1 → ρ 1 + 7 ≤ ρ 0 → ρ 0 ≤ 3584 → lEv ρ (aCn lwN) + ((mMc xm11 + mMc xm180 : Nat) : Int) ≤ ((mMc xm0 : Nat) : Int) ∧ lEv ρ (aSn lwN) + ((mMs xm11 + mMs xm180 : Nat) : Int) ≤ ((mMs xm0 : Nat) : Int) := fun ρ h1 h2 h3 => by
  have e1 : lEv ρ (aCn lwN) = 536 + 58 * ρ 1 := by
    show lEv ρ (lAdd (lK 536) (lSc 58 (lSy 1))) = _
    rw [lAdd_ev, lK_ev, lSc_ev, lSy_ev]
  have e2 : lEv ρ (aSn lwN) = 9690 + 229 * ρ 1 := by
    show lEv ρ (lAdd (lK 9690) (lSc 229 (lSy 1))) = _
    rw [lAdd_ev, lK_ev, lSc_ev, lSy_ev]
  have k : 536 + 58 * 3577 + (mMc xm11 + mMc xm180) ≤ mMc xm0 ∧ 9690 + 229 * 3577 + (mMs xm11 + mMs xm180) ≤ mMs xm0 := by decide +kernel
  rw [e1, e2]
  constructor <;> omega
theorem feedcd : ∀ ρ ρ2 : Nat → Int, ρ2 0 = ρ 0 → ρ2 1 = ρ 1 + 7 → lEv ρ (aCn lwN) + ((mMc xm11 + mMc xm180 : Nat) : Int) ≤ lEv ρ2 (aCn lwN) ∧ lEv ρ (aSn lwN) + ((mMs xm11 + mMs xm180 : Nat) : Int) ≤ lEv ρ2 (aSn lwN) := fun ρ ρ2 _ h => by
  have e1 : ∀ ρ : Nat → Int, lEv ρ (aCn lwN) = 536 + 58 * ρ 1 := fun ρ => by
    show lEv ρ (lAdd (lK 536) (lSc 58 (lSy 1))) = _
    rw [lAdd_ev, lK_ev, lSc_ev, lSy_ev]
  have e2 : ∀ ρ : Nat → Int, lEv ρ (aSn lwN) = 9690 + 229 * ρ 1 := fun ρ => by
    show lEv ρ (lAdd (lK 9690) (lSc 229 (lSy 1))) = _
    rw [lAdd_ev, lK_ev, lSc_ev, lSy_ev]
  have k : mMc xm11 + mMc xm180 ≤ 406 ∧ mMs xm11 + mMs xm180 ≤ 1603 := by decide +kernel
  rw [e1, e1, e2, e2, h]
  constructor <;> omega
theorem feed_blk {xs : Nat → Int32} {n : Nat} {sf : Option Nat} (hsf : sf = none ∨ sf = some 1200000) (hn : n ≤ 3584) : lwBk (x_otS xs n sf) 216 := fun ρ σ ty H Lc cn2 sn2 hat h0 h7 cont =>
  cBlkP (p1 := 227) (p2 := 242) (pi := 1906) (n := 2) (ixA := 13) (ixB := 17) (n1 := 1) (n2 := 3) (n3 := 1) (n4 := 1) (n5 := 3) (n6 := 1) (n7 := 3) (n8 := 3) (n9 := 3) (x6 := (1660)) (x7 := 7) (x8 := (-1891)) (dp := 1299) (hd := 18) (cmp := True) p_q0 rfl feedqA feedqB (show n < 1000000 by omega) (by decide) (by decide +kernel) (by decide +kernel) (by decide +kernel) (by decide +kernel) (by decide +kernel) (by decide +kernel) (by decide +kernel) (by decide +kernel) (by decide +kernel) (by decide +kernel) (by decide +kernel) (by decide +kernel) (by decide +kernel) (by decide +kernel) (by decide +kernel) (by decide +kernel) (by decide +kernel) rfl (by decide +kernel) rfl (by decide +kernel) feedcn (by decide +kernel) feedcd hn (feedPP hsf hn) hat h0 h7 cont
set_option maxRecDepth 1000000 in
theorem programqA : tMth x_tb 13 = some xm13 := rfl
set_option maxRecDepth 1000000 in
theorem programqB : tMth x_tb 182 = some xm182 := rfl
set_option maxRecDepth 1000000 in
theorem programbc : wBc lwN lwFS.length 0 lwTA lwTB lwGA lwGB 5 4 3 u_ps uPA uPB program_in [] = true := by decide +kernel
theorem programPP {xs : Nat → Int32} {n : Nat} {sf : Option Nat} (hsf : sf = none ∨ sf = some 1200000) (hn : n ≤ 3584) : bPP x_KT x_tb x_tyl (x_otS xs n sf) lwN lwP 1299 13 182 0 (mMc xm13 + mMc xm182) (mRc xm13) (mRc xm182) True :=
  wBlk2 (dpA := 60) (dpB := 60) (ps := u_ps) (W := pgWA ++ pgWB) (m := 7) lwFok lwFB uKa uKb (by decide +kernel) (by decide +kernel) uKdj programbc programqA programqB (by decide) (by decide) (bPQ_cv (pgPP hsf hn) lwPt_iff) (by decide) (by decide) (fun u hu => by
    have hu : u ∈ ([lwF0, lwF1] : List wN) := hu
    simp only [List.mem_cons, List.not_mem_nil, or_false] at hu
    rcases hu with rfl | rfl
    · exact wRk_spec (x_ov0_le sf) (u_ctKS hsf) lwFok programR0
    · exact wRk_spec (x_ov0_le sf) (u_ctKS hsf) lwFok programR1)
theorem programcn : ∀ ρ : Nat → Int, 0 ≤ ρ 1 → ρ 1 + 7 ≤ ρ 0 → ρ 0 ≤ 3584 → lEv ρ (aCn lwN) + ((mMc xm13 + mMc xm182 : Nat) : Int) ≤ ((mMc xm0 : Nat) : Int) ∧ lEv ρ (aSn lwN) + ((mMs xm13 + mMs xm182 : Nat) : Int) ≤ ((mMs xm0 : Nat) : Int) := fun ρ h1 h2 h3 => by
  have e1 : lEv ρ (aCn lwN) = 536 + 58 * ρ 1 := by
    show lEv ρ (lAdd (lK 536) (lSc 58 (lSy 1))) = _
    rw [lAdd_ev, lK_ev, lSc_ev, lSy_ev]
  have e2 : lEv ρ (aSn lwN) = 9690 + 229 * ρ 1 := by
    show lEv ρ (lAdd (lK 9690) (lSc 229 (lSy 1))) = _
    rw [lAdd_ev, lK_ev, lSc_ev, lSy_ev]
  have k : 536 + 58 * 3577 + (mMc xm13 + mMc xm182) ≤ mMc xm0 ∧ 9690 + 229 * 3577 + (mMs xm13 + mMs xm182) ≤ mMs xm0 := by decide +kernel
  rw [e1, e2]
  constructor <;> omega
theorem programcd : ∀ ρ ρ2 : Nat → Int, ρ2 0 = ρ 0 → ρ2 1 = ρ 1 + 7 → lEv ρ (aCn lwN) + ((mMc xm13 + mMc xm182 : Nat) : Int) ≤ lEv ρ2 (aCn lwN) ∧ lEv ρ (aSn lwN) + ((mMs xm13 + mMs xm182 : Nat) : Int) ≤ lEv ρ2 (aSn lwN) := fun ρ ρ2 _ h => by
  have e1 : ∀ ρ : Nat → Int, lEv ρ (aCn lwN) = 536 + 58 * ρ 1 := fun ρ => by
    show lEv ρ (lAdd (lK 536) (lSc 58 (lSy 1))) = _
    rw [lAdd_ev, lK_ev, lSc_ev, lSy_ev]
  have e2 : ∀ ρ : Nat → Int, lEv ρ (aSn lwN) = 9690 + 229 * ρ 1 := fun ρ => by
    show lEv ρ (lAdd (lK 9690) (lSc 229 (lSy 1))) = _
    rw [lAdd_ev, lK_ev, lSc_ev, lSy_ev]
  have k : mMc xm13 + mMc xm182 ≤ 406 ∧ mMs xm13 + mMs xm182 ≤ 1603 := by decide +kernel
  rw [e1, e1, e2, e2, h]
  constructor <;> omega
theorem program_blk {xs : Nat → Int32} {n : Nat} {sf : Option Nat} (hsf : sf = none ∨ sf = some 1200000) (hn : n ≤ 3584) : lwBk (x_otS xs n sf) 249 := fun ρ σ ty H Lc cn2 sn2 hat h0 h7 cont =>
  cBlkP (p1 := 250) (p2 := 255) (pi := 1906) (n := 0) (ixA := 18) (ixB := 22) (n1 := 1) (n2 := 3) (n3 := 1) (n4 := 1) (n5 := 3) (n6 := 1) (n7 := 3) (n8 := 3) (n9 := 3) (x6 := (1647)) (x7 := 7) (x8 := (-1891)) (dp := 1299) (hd := 18) (cmp := True) p_q0 rfl programqA programqB (show n < 1000000 by omega) (by decide) (by decide +kernel) (by decide +kernel) (by decide +kernel) (by decide +kernel) (by decide +kernel) (by decide +kernel) (by decide +kernel) (by decide +kernel) (by decide +kernel) (by decide +kernel) (by decide +kernel) (by decide +kernel) (by decide +kernel) (by decide +kernel) (by decide +kernel) (by decide +kernel) (by decide +kernel) rfl (by decide +kernel) rfl (by decide +kernel) programcn (by decide +kernel) programcd hn (programPP hsf hn) hat h0 h7 cont
def inputnd : List wE := [input_in]
def inputex : List wE := [input_out]
def inputOX : List ((Bool × wE) × List lT) := [(wAdd [0] (false, input_out), [(lSy 0), (lAdd (lSy 1) (lK 7)), (lSy 2), (lSy 3), (lSy 4)])]
theorem inputG {xs : Nat → Int32} {n : Nat} {sf : Option Nat} : ∀ nd ∈ inputnd, wGoes x_KT x_tb x_tyl (x_otS xs n sf) lwFS lwGA.length lwGB.length 7 4 3 inputWA inputWB 53 217 60 60 nd (inputex.map (fun x => (false, x))) := wGraph (fun nd hnd => by
  have hnd : nd ∈ ([input_in] : List wE) := hnd
  simp only [List.mem_cons, List.not_mem_nil, or_false] at hnd
  rcases hnd with rfl
  · refine ⟨inputo0, wEd_spec (x_ov0_le sf) u_ctS lwFok inputE0, fun o ho => ?_⟩
    have ho : o ∈ ([(false, input_out)] : List (Bool × wE)) := ho
    simp only [List.mem_cons, List.not_mem_nil, or_false] at ho
    rcases ho with rfl
    · exact Or.inl (List.mem_cons_self))
theorem inputH {xs : Nat → Int32} {n : Nat} {sf : Option Nat} : wGoes x_KT x_tb x_tyl (x_otS xs n sf) lwFS lwGA.length lwGB.length 7 4 3 inputWA inputWB 53 217 60 60 input_in (inputOX.map (fun x => x.1)) := wFam (V := [0]) lwFok (by decide +kernel) (by decide +kernel) (inputG _ List.mem_cons_self) (by decide +kernel) (by decide +kernel) (fun i hi u hu => by
  have hi : i ∈ ([0] : List Nat) := hi
  simp only [List.mem_cons, List.not_mem_nil, or_false] at hi
  rcases hi with rfl
  · cases hu
    exact wRk_spec (x_ov0_le sf) u_ctS lwFok inputR0)
set_option maxRecDepth 1000000 in
theorem inputqA : tMth x_tb 53 = some xm53 := rfl
set_option maxRecDepth 1000000 in
theorem inputqB : tMth x_tb 217 = some xm217 := rfl
set_option maxRecDepth 1000000 in
theorem inputbc : wBc lwN lwFS.length 2 lwTA lwTB lwGA lwGB 7 4 3 u_ps uPA uPB input_in inputOX = true := by decide +kernel
theorem inputPP {xs : Nat → Int32} {n : Nat} {sf : Option Nat} : bPP x_KT x_tb x_tyl (x_otS xs n sf) lwN lwP 1299 53 217 2 (mMc xm53 + mMc xm217) (mRc xm53) (mRc xm217) True :=
  wBlk lwFok lwFB uKa uKb (by decide +kernel) (by decide +kernel) uKdj uKj inputbc inputH inputqA inputqB (by decide) (by decide) (uKeep (by decide +kernel)) (by decide +kernel) (by decide +kernel) (by decide +kernel)
theorem inputcn : ∀ ρ : Nat → Int, 0 ≤ ρ 1 → ρ 1 + 7 ≤ ρ 0 → ρ 0 ≤ 3584 → lEv ρ (aCn lwN) + ((mMc xm53 + mMc xm217 : Nat) : Int) ≤ ((mMc xm0 : Nat) : Int) ∧ lEv ρ (aSn lwN) + ((mMs xm53 + mMs xm217 : Nat) : Int) ≤ ((mMs xm0 : Nat) : Int) := fun ρ h1 h2 h3 => by
  have e1 : lEv ρ (aCn lwN) = 536 + 58 * ρ 1 := by
    show lEv ρ (lAdd (lK 536) (lSc 58 (lSy 1))) = _
    rw [lAdd_ev, lK_ev, lSc_ev, lSy_ev]
  have e2 : lEv ρ (aSn lwN) = 9690 + 229 * ρ 1 := by
    show lEv ρ (lAdd (lK 9690) (lSc 229 (lSy 1))) = _
    rw [lAdd_ev, lK_ev, lSc_ev, lSy_ev]
  have k : 536 + 58 * 3577 + (mMc xm53 + mMc xm217) ≤ mMc xm0 ∧ 9690 + 229 * 3577 + (mMs xm53 + mMs xm217) ≤ mMs xm0 := by decide +kernel
  rw [e1, e2]
  constructor <;> omega
theorem inputcd : ∀ ρ ρ2 : Nat → Int, ρ2 0 = ρ 0 → ρ2 1 = ρ 1 + 7 → lEv ρ (aCn lwN) + ((mMc xm53 + mMc xm217 : Nat) : Int) ≤ lEv ρ2 (aCn lwN) ∧ lEv ρ (aSn lwN) + ((mMs xm53 + mMs xm217 : Nat) : Int) ≤ lEv ρ2 (aSn lwN) := fun ρ ρ2 _ h => by
  have e1 : ∀ ρ : Nat → Int, lEv ρ (aCn lwN) = 536 + 58 * ρ 1 := fun ρ => by
    show lEv ρ (lAdd (lK 536) (lSc 58 (lSy 1))) = _
    rw [lAdd_ev, lK_ev, lSc_ev, lSy_ev]
  have e2 : ∀ ρ : Nat → Int, lEv ρ (aSn lwN) = 9690 + 229 * ρ 1 := fun ρ => by
    show lEv ρ (lAdd (lK 9690) (lSc 229 (lSy 1))) = _
    rw [lAdd_ev, lK_ev, lSc_ev, lSy_ev]
  have k : mMc xm53 + mMc xm217 ≤ 406 ∧ mMs xm53 + mMs xm217 ≤ 1603 := by decide +kernel
  rw [e1, e1, e2, e2, h]
  constructor <;> omega
theorem input_blk {xs : Nat → Int32} {n : Nat} {sf : Option Nat} (hn : n ≤ 3584) : lwBk (x_otS xs n sf) 381 := fun ρ σ ty H Lc cn2 sn2 hat h0 h7 cont =>
  cBlkP (p1 := 392) (p2 := 407) (pi := 1906) (n := 2) (ixA := 36) (ixB := 39) (n1 := 1) (n2 := 3) (n3 := 1) (n4 := 1) (n5 := 3) (n6 := 1) (n7 := 3) (n8 := 3) (n9 := 3) (x6 := (1495)) (x7 := 7) (x8 := (-1891)) (dp := 1299) (hd := 18) (cmp := True) p_q0 rfl inputqA inputqB (show n < 1000000 by omega) (by decide) (by decide +kernel) (by decide +kernel) (by decide +kernel) (by decide +kernel) (by decide +kernel) (by decide +kernel) (by decide +kernel) (by decide +kernel) (by decide +kernel) (by decide +kernel) (by decide +kernel) (by decide +kernel) (by decide +kernel) (by decide +kernel) (by decide +kernel) (by decide +kernel) (by decide +kernel) rfl (by decide +kernel) rfl (by decide +kernel) inputcn (by decide +kernel) inputcd hn inputPP hat h0 h7 cont
def reachnd : List wE := [reach_in, reach_outer, reach_inner]
def reachex : List wE := [reach_out]
def reachOX : List ((Bool × wE) × List lT) := [(wAdd [] (false, reach_out), [(lSy 0), (lAdd (lSy 1) (lK 7)), (lSy 2), (lSy 3), (lSy 4)])]
theorem reachG {xs : Nat → Int32} {n : Nat} {sf : Option Nat} : ∀ nd ∈ reachnd, wGoes x_KT x_tb x_tyl (x_otS xs n sf) lwFS lwGA.length lwGB.length 6 4 3 reachWA reachWB 91 224 60 60 nd (reachex.map (fun x => (false, x))) := wGraph (fun nd hnd => by
  have hnd : nd ∈ ([reach_in, reach_outer, reach_inner] : List wE) := hnd
  simp only [List.mem_cons, List.not_mem_nil, or_false] at hnd
  rcases hnd with rfl | rfl | rfl
  · refine ⟨reacho0, wEd_spec (x_ov0_le sf) u_ctS lwFok reachE0, fun o ho => ?_⟩
    have ho : o ∈ ([(true, reach_outer), (false, reach_out)] : List (Bool × wE)) := ho
    simp only [List.mem_cons, List.not_mem_nil, or_false] at ho
    rcases ho with rfl | rfl
    · exact Or.inr ⟨rfl, List.mem_cons_of_mem _ (List.mem_cons_self)⟩
    · exact Or.inl (List.mem_cons_self)
  · refine ⟨reacho1, wEd_spec (x_ov0_le sf) u_ctS lwFok reachE1, fun o ho => ?_⟩
    have ho : o ∈ ([(true, reach_inner), (false, reach_out)] : List (Bool × wE)) := ho
    simp only [List.mem_cons, List.not_mem_nil, or_false] at ho
    rcases ho with rfl | rfl
    · exact Or.inr ⟨rfl, List.mem_cons_of_mem _ (List.mem_cons_of_mem _ (List.mem_cons_self))⟩
    · exact Or.inl (List.mem_cons_self)
  · refine ⟨reacho2, wEd_spec (x_ov0_le sf) u_ctS lwFok reachE2, fun o ho => ?_⟩
    have ho : o ∈ ([(true, reach_inner), (true, reach_outer)] : List (Bool × wE)) := ho
    simp only [List.mem_cons, List.not_mem_nil, or_false] at ho
    rcases ho with rfl | rfl
    · exact Or.inr ⟨rfl, List.mem_cons_of_mem _ (List.mem_cons_of_mem _ (List.mem_cons_self))⟩
    · exact Or.inr ⟨rfl, List.mem_cons_of_mem _ (List.mem_cons_self)⟩)
theorem reachH {xs : Nat → Int32} {n : Nat} {sf : Option Nat} : wGoes x_KT x_tb x_tyl (x_otS xs n sf) lwFS lwGA.length lwGB.length 6 4 3 reachWA reachWB 91 224 60 60 reach_in (reachOX.map (fun x => x.1)) := wFam (V := []) lwFok (by decide +kernel) (by decide +kernel) (reachG _ List.mem_cons_self) (by decide +kernel) (by decide +kernel) (fun i hi u hu => by
  have hi : i ∈ ([] : List Nat) := hi
  simp only [List.mem_cons, List.not_mem_nil, or_false] at hi)
set_option maxRecDepth 1000000 in
theorem reachqA : tMth x_tb 91 = some xm91 := rfl
set_option maxRecDepth 1000000 in
theorem reachqB : tMth x_tb 224 = some xm224 := rfl
set_option maxRecDepth 1000000 in
theorem reachbc : wBc lwN lwFS.length 1 lwTA lwTB lwGA lwGB 6 4 3 u_ps uPA uPB reach_in reachOX = true := by decide +kernel
theorem reachPP {xs : Nat → Int32} {n : Nat} {sf : Option Nat} : bPP x_KT x_tb x_tyl (x_otS xs n sf) lwN lwP 1299 91 224 1 (mMc xm91 + mMc xm224) (mRc xm91) (mRc xm224) True :=
  wBlk lwFok lwFB uKa uKb (by decide +kernel) (by decide +kernel) uKdj uKj reachbc reachH reachqA reachqB (by decide) (by decide) (uKeep (by decide +kernel)) (by decide +kernel) (by decide +kernel) (by decide +kernel)
theorem reachcn : ∀ ρ : Nat → Int, 0 ≤ ρ 1 → ρ 1 + 7 ≤ ρ 0 → ρ 0 ≤ 3584 → lEv ρ (aCn lwN) + ((mMc xm91 + mMc xm224 : Nat) : Int) ≤ ((mMc xm0 : Nat) : Int) ∧ lEv ρ (aSn lwN) + ((mMs xm91 + mMs xm224 : Nat) : Int) ≤ ((mMs xm0 : Nat) : Int) := fun ρ h1 h2 h3 => by
  have e1 : lEv ρ (aCn lwN) = 536 + 58 * ρ 1 := by
    show lEv ρ (lAdd (lK 536) (lSc 58 (lSy 1))) = _
    rw [lAdd_ev, lK_ev, lSc_ev, lSy_ev]
  have e2 : lEv ρ (aSn lwN) = 9690 + 229 * ρ 1 := by
    show lEv ρ (lAdd (lK 9690) (lSc 229 (lSy 1))) = _
    rw [lAdd_ev, lK_ev, lSc_ev, lSy_ev]
  have k : 536 + 58 * 3577 + (mMc xm91 + mMc xm224) ≤ mMc xm0 ∧ 9690 + 229 * 3577 + (mMs xm91 + mMs xm224) ≤ mMs xm0 := by decide +kernel
  rw [e1, e2]
  constructor <;> omega
theorem reachcd : ∀ ρ ρ2 : Nat → Int, ρ2 0 = ρ 0 → ρ2 1 = ρ 1 + 7 → lEv ρ (aCn lwN) + ((mMc xm91 + mMc xm224 : Nat) : Int) ≤ lEv ρ2 (aCn lwN) ∧ lEv ρ (aSn lwN) + ((mMs xm91 + mMs xm224 : Nat) : Int) ≤ lEv ρ2 (aSn lwN) := fun ρ ρ2 _ h => by
  have e1 : ∀ ρ : Nat → Int, lEv ρ (aCn lwN) = 536 + 58 * ρ 1 := fun ρ => by
    show lEv ρ (lAdd (lK 536) (lSc 58 (lSy 1))) = _
    rw [lAdd_ev, lK_ev, lSc_ev, lSy_ev]
  have e2 : ∀ ρ : Nat → Int, lEv ρ (aSn lwN) = 9690 + 229 * ρ 1 := fun ρ => by
    show lEv ρ (lAdd (lK 9690) (lSc 229 (lSy 1))) = _
    rw [lAdd_ev, lK_ev, lSc_ev, lSy_ev]
  have k : mMc xm91 + mMc xm224 ≤ 406 ∧ mMs xm91 + mMs xm224 ≤ 1603 := by decide +kernel
  rw [e1, e1, e2, e2, h]
  constructor <;> omega
theorem reach_blk {xs : Nat → Int32} {n : Nat} {sf : Option Nat} (hn : n ≤ 3584) : lwBk (x_otS xs n sf) 691 := fun ρ σ ty H Lc cn2 sn2 hat h0 h7 cont =>
  cBlkD (p1 := 697) (p2 := 706) (pi := 1906) (n := 1) (ixA := 71) (ixB := 74) (n1 := 1) (n2 := 3) (n4 := 1) (n5 := 3) (n6 := 3) (n8 := 3) (n9 := 3) (x5 := (1197)) (x7 := 7) (x8 := (-1891)) (dp := 1299) (hd := 18) (cmp := True) trivial p_q0 rfl reachqA reachqB (show n < 1000000 by omega) (by decide) (by decide +kernel) (by decide +kernel) (by decide +kernel) (by decide +kernel) (by decide +kernel) (by decide +kernel) (by decide +kernel) (by decide +kernel) (by decide +kernel) (by decide +kernel) (by decide +kernel) (by decide +kernel) (by decide +kernel) (by decide +kernel) (by decide +kernel) rfl (by decide +kernel) rfl (by decide +kernel) reachcn (by decide +kernel) reachcd hn reachPP hat h0 h7 cont
theorem p_blk (xs : Nat → Int32) (n : Nat) (hn : n ≤ 3584) {sf : Option Nat} (hsf : sf = none ∨ sf = some 1200000) : ∀ pc ∈ lwCb, lwBk (x_otS xs n sf) pc := by
  intro pc hpc
  have hpc : pc ∈ ([216, 249, 381, 691] : List Nat) := hpc
  simp only [List.mem_cons, List.not_mem_nil, or_false] at hpc
  rcases hpc with rfl | rfl | rfl | rfl
  · exact feed_blk hsf hn
  · exact program_blk hsf hn
  · exact input_blk hn
  · exact reach_blk hn
end XNd
