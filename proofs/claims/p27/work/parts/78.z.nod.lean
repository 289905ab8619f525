/-! Families of pairs: blocks. -/
section XNd
theorem uKa : kCl x_KT.1 uPA = true := by decide +kernel
theorem uKb : kCl x_KT.1 uPB = true := by decide +kernel
theorem uKj : x_KT.1.all (fun kd => match kd with | .inr o => decide (o.1 ≠ 77) | _ => true) = true := by decide +kernel
theorem uKdj : ∀ c, uPA c = true → uPB c = true → False := fun c h1 h2 => by
  have h1 := Nat.le_of_ble_eq_true h1
  have h2 := Nat.le_of_ble_eq_true h2
  omega
theorem uKt (c : Nat) : uPA c = true ∨ uPB c = true := by
  rcases Nat.lt_or_ge 47 c with h | h
  · exact Or.inr (Nat.ble_eq_true_of_le (by omega))
  · exact Or.inl (Nat.ble_eq_true_of_le (by omega))
/-- rows that stand in both alike stay so -/
theorem uKeep {WA WB : List (Nat × Nat)} (hk : lwPr.all (fun p => decide (p.1 < 8) && decide (p.2 < 8) && unW (WA ++ WB) (aG lwN) p.1 && unW (WA ++ WB) (aG lwN) p.2) = true) : ∀ (ρ : Nat → Int) (σ : Nat → Nat) (ty : Nat → Option Nat) (H : List (XC Int32)) (ρ2 : Nat → Int) (σ2 : Nat → Nat) (ty2 : Nat → Option Nat) (HH : List (XC Int32)), vRel x_KT ρ σ ty H (aSt lwN) → lwP1 σ ty H → (∀ i, i < u_ps.length → sR σ2 i = sR σ i) → vRel x_KT ρ2 σ2 ty2 HH (aSt lwN) → vFrm WA (tyP uPA ty) H HH → vFrm WB (tyP uPB ty) H HH → lwP1 σ2 ty2 HH := by
  intro ρ σ ty H ρ2 σ2 ty2 HH h hP hs h2 fA fB p hp
  obtain ⟨t, vs, h1, h2⟩ := hP p hp
  have k := List.all_eq_true.mp hk p hp
  simp only [Bool.and_eq_true] at k
  obtain ⟨⟨⟨k1, k2⟩, k3⟩, k4⟩ := k
  have k1 := of_decide_eq_true k1
  have k2 := of_decide_eq_true k2
  have hf := vFrm_two uKt fA fB
  have hl : u_ps.length = 8 := rfl
  obtain ⟨c, c1, c2, c3⟩ := unW_spec k3
  obtain ⟨d, d1, d2, d3⟩ := unW_spec k4
  exact ⟨t, vs, by rw [hs _ (by omega)]; exact vFrm_row hf (h.2.1 _ c c1) c2 c3 h1, by rw [hs _ (by omega)]; exact vFrm_row hf (h.2.1 _ d d1) d2 d3 h2⟩
theorem u_ctKS {xs : Nat → Int32} {n : Nat} {sf : Option Nat} (hsf : sf = none ∨ sf = some 1200000) : ∀ j c, c ∈ u_ctK j → vCtSem x_KT x_tb x_tyl (x_otS xs n sf) j c := fun j c h => by
  unfold u_ctK at h
  split at h
  · exact x_allS xs n hsf j c h
  · exact absurd h List.not_mem_nil
set_option maxRecDepth 1000000 in
theorem feedqA : tMth x_tb 11 = some xm11 := rfl
set_option maxRecDepth 1000000 in
theorem feedqB : tMth x_tb 180 = some xm180 := rfl
theorem feedPP {xs : Nat → Int32} {n : Nat} {sf : Option Nat} (hsf : sf = none ∨ sf = some 1200000) (hn : n ≤ 3584) : bPP x_KT x_tb x_tyl (x_otS xs n sf) lwN lwP 1299 11 180 2 (mMc xm11 + mMc xm180) (mRc xm11) (mRc xm180) True :=
  wBlk3 (W := fdWA ++ fdWB) (m := 8) lwFok (by decide +kernel) (bPQ_cv (fdPP hsf hn) lwPt_iff) (by decide)
theorem feedcn : ∀ ρ : Nat → Int, 0 ≤ ρ 1 → ρ 1 + 7 ≤ ρ 0 → ρ 0 ≤ 3584 → lEv ρ (aCn lwN) + ((mMc xm11 + mMc xm180 : Nat) : Int) ≤ ((mMc xm0 : Nat) : Int) ∧ lEv ρ (aSn lwN) + ((mMs xm11 + mMs xm180 : Nat) : Int) ≤ ((mMs xm0 : Nat) : Int) := fun ρ h1 h2 h3 => by
  have e1 : lEv ρ (aCn lwN) = 536 + 58 * ρ 1 := by
    show lEv ρ (lAdd (lK 536) (lSc 58 (lSy 1))) = _
    rw [lAdd_ev, lK_ev, lSc_ev, lSy_ev]
  have e2 : lEv ρ (aSn lwN) = 9690 + 229 * ρ 1 := by
    show lEv ρ (lAdd (lK 9690) (lSc 229 (lSy 1))) = _
    rw [lAdd_ev, lK_ev, lSc_ev, lSy_ev]
  have k : 536 + 58 * 3577 + (mMc xm11 + mMc xm180) ≤ mMc xm0 ∧ 9690 + 229 * 3577 + (mMs xm11 + mMs xm180) ≤ mMs xm0 := by decide +kernel
  rw [e1, e2]
  constructor <;> omega
theorem feedcd : ∀ ρ ρ2 : Nat → Int, ρ2 0 = ρ 0 → ρ2 1 = ρ 1 + 7 → lEv ρ (aCn lwN) + ((mMc xm11 + mMc xm180 : Nat) : Int) ≤ lEv ρ2 (aCn lwN) ∧ lEv ρ (aSn lwN) + ((mMs xm11 + mMs xm180 : Nat) : Int) ≤ lEv ρ2 (aSn lwN) := fun ρ ρ2 _ h => by
  have e1 : ∀ ρ : Nat → Int, lEv ρ (aCn lwN) = 536 + 58 * ρ 1 := fun ρ => by
    show lEv ρ (lAdd (lK 536) (lSc 58 (lSy 1))) = _
    rw [lAdd_ev, lK_ev, lSc_ev, lSy_ev]
  have e2 : ∀ ρ : Nat → Int, lEv ρ (aSn lwN) = 9690 + 229 * ρ 1 := fun ρ => by
    show lEv ρ (lAdd (lK 9690) (lSc 229 (lSy 1))) = _
    rw [lAdd_ev, lK_ev, lSc_ev, lSy_ev]
  have k : mMc xm11 + mMc xm180 ≤ 406 ∧ mMs xm11 + mMs xm180 ≤ 1603 := by decide +kernel
  rw [e1, e1, e2, e2, h]
  constructor <;> omega
theorem feed_blk {xs : Nat → Int32} {n : Nat} {sf : Option Nat} (hsf : sf = none ∨ sf = some 1200000) (hn : n ≤ 3584) : lwBk (x_otS xs n sf) 216 := fun ρ σ ty H Lc cn2 sn2 hat h0 h7 cont =>
  cBlkP (p1 := 227) (p2 := 242) (pi := 1906) (n := 2) (ixA := 13) (ixB := 17) (n1 := 1) (n2 := 3) (n3 := 1) (n4 := 1) (n5 := 3) (n6 := 1) (n7 := 3) (n8 := 3) (n9 := 3) (x6 := (1660)) (x7 := 7) (x8 := (-1891)) (dp := 1299) (hd := 18) (cmp := True) p_q0 rfl feedqA feedqB (show n < 1000000 by omega) (by decide) (by decide +kernel) (by decide +kernel) (by decide +kernel) (by decide +kernel) (by decide +kernel) (by decide +kernel) (by decide +kernel) (by decide +kernel) (by decide +kernel) (by decide +kernel) (by decide +kernel) (by decide +kernel) (by decide +kernel) (by decide +kernel) (by decide +kernel) (by decide +kernel) (by decide +kernel) rfl (by decide +kernel) rfl (by decide +kernel) feedcn (by decide +kernel) feedcd hn (feedPP hsf hn) hat h0 h7 cont
set_option maxRecDepth 1000000 in
theorem programqA : tMth x_tb 13 = some xm13 := rfl
set_option maxRecDepth 1000000 in
theorem programqB : tMth x_tb 182 = some xm182 := rfl
set_option maxRecDepth 1000000 in
theorem programbc : wBc lwN lwFS.length 0 lwTA lwTB lwGA lwGB 6 5 3 u_ps uPA uPB program_in [] = true := by decide +kernel
theorem programPP {xs : Nat → Int32} {n : Nat} {sf : Option Nat} (hsf : sf = none ∨ sf = some 1200000) (hn : n ≤ 3584) : bPP x_KT x_tb x_tyl (x_otS xs n sf) lwN lwP 1299 13 182 0 (mMc xm13 + mMc xm182) (mRc xm13) (mRc xm182) True :=
  wBlk2 (dpA := 60) (dpB := 60) (ps := u_ps) (W := pgWA ++ pgWB) (m := 8) lwFok lwFB uKa uKb (by decide +kernel) (by decide +kernel) uKdj programbc programqA programqB (by decide) (by decide) (bPQ_cv (pgPP hsf hn) lwPt_iff) (by decide) (by decide) (fun u hu => by
    have hu : u ∈ ([lwF0, lwF1] : List wN) := hu
    simp only [List.mem_cons, List.not_mem_nil, or_false] at hu
    rcases hu with rfl | rfl
    · exact wRk_spec (x_ov0_le sf) (u_ctKS hsf) lwFok programR0
    · exact wRk_spec (x_ov0_le sf) (u_ctKS hsf) lwFok programR1)
theorem programcn : ∀ ρ : Nat → Int, 0 ≤ ρ 1 → ρ 1 + 7 ≤ ρ 0 → ρ 0 ≤ 3584 → lEv ρ (aCn lwN) + ((mMc xm13 + mMc xm182 : Nat) : Int) ≤ ((mMc xm0 : Nat) : Int) ∧ lEv ρ (aSn lwN) + ((mMs xm13 + mMs xm182 : Nat) : Int) ≤ ((mMs xm0 : Nat) : Int) := fun ρ h1 h2 h3 => by
  have e1 : lEv ρ (aCn lwN) = 536 + 58 * ρ 1 := by
    show lEv ρ (lAdd (lK 536) (lSc 58 (lSy 1))) = _
    rw [lAdd_ev, lK_ev, lSc_ev, lSy_ev]
  have e2 : lEv ρ (aSn lwN) = 9690 + 229 * ρ 1 := by
    show lEv ρ (lAdd (lK 9690) (lSc 229 (lSy 1))) = _
    rw [lAdd_ev, lK_ev, lSc_ev, lSy_ev]
  have k : 536 + 58 * 3577 + (mMc xm13 + mMc xm182) ≤ mMc xm0 ∧ 9690 + 229 * 3577 + (mMs xm13 + mMs xm182) ≤ mMs xm0 := by decide +kernel
  rw [e1, e2]
  constructor <;> omega
theorem programcd : ∀ ρ ρ2 : Nat → Int, ρ2 0 = ρ 0 → ρ2 1 = ρ 1 + 7 → lEv ρ (aCn lwN) + ((mMc xm13 + mMc xm182 : Nat) : Int) ≤ lEv ρ2 (aCn lwN) ∧ lEv ρ (aSn lwN) + ((mMs xm13 + mMs xm182 : Nat) : Int) ≤ lEv ρ2 (aSn lwN) := fun ρ ρ2 _ h => by
  have e1 : ∀ ρ : Nat → Int, lEv ρ (aCn lwN) = 536 + 58 * ρ 1 := fun ρ => by
    show lEv ρ (lAdd (lK 536) (lSc 58 (lSy 1))) = _
    rw [lAdd_ev, lK_ev, lSc_ev, lSy_ev]
  have e2 : ∀ ρ : Nat → Int, lEv ρ (aSn lwN) = 9690 + 229 * ρ 1 := fun ρ => by
    show lEv ρ (lAdd (lK 9690) (lSc 229 (lSy 1))) = _
    rw [lAdd_ev, lK_ev, lSc_ev, lSy_ev]
  have k : mMc xm13 + mMc xm182 ≤ 406 ∧ mMs xm13 + mMs xm182 ≤ 1603 := by decide +kernel
  rw [e1, e1, e2, e2, h]
  constructor <;> omega
theorem program_blk {xs : Nat → Int32} {n : Nat} {sf : Option Nat} (hsf : sf = none ∨ sf = some 1200000) (hn : n ≤ 3584) : lwBk (x_otS xs n sf) 249 := fun ρ σ ty H Lc cn2 sn2 hat h0 h7 cont =>
  cBlkP (p1 := 250) (p2 := 255) (pi := 1906) (n := 0) (ixA := 18) (ixB := 22) (n1 := 1) (n2 := 3) (n3 := 1) (n4 := 1) (n5 := 3) (n6 := 1) (n7 := 3) (n8 := 3) (n9 := 3) (x6 := (1647)) (x7 := 7) (x8 := (-1891)) (dp := 1299) (hd := 18) (cmp := True) p_q0 rfl programqA programqB (show n < 1000000 by omega) (by decide) (by decide +kernel) (by decide +kernel) (by decide +kernel) (by decide +kernel) (by decide +kernel) (by decide +kernel) (by decide +kernel) (by decide +kernel) (by decide +kernel) (by decide +kernel) (by decide +kernel) (by decide +kernel) (by decide +kernel) (by decide +kernel) (by decide +kernel) (by decide +kernel) (by decide +kernel) rfl (by decide +kernel) rfl (by decide +kernel) programcn (by decide +kernel) programcd hn (programPP hsf hn) hat h0 h7 cont
def knewnd : List wE := [knew_in, knew_none, knew_some]
def knewex : List wE := [knew_out]
def knewOX : List ((Bool × wE) × List lT) := [(wAdd [] (false, knew_out), [(lSy 0), (lAdd (lSy 1) (lK 7)), (lSy 2), (lSy 3), (lSy 4), (lSy 5)])]
theorem knewG {xs : Nat → Int32} {n : Nat} {sf : Option Nat} : ∀ nd ∈ knewnd, wGoes x_KT x_tb x_tyl (x_otS xs n sf) lwFS lwGA.length lwGB.length 9 5 3 knewWA knewWB 132 257 60 60 nd (knewex.map (fun x => (false, x))) := wGraph (fun nd hnd => by
  have hnd : nd ∈ ([knew_in, knew_none, knew_some] : List wE) := hnd
  simp only [List.mem_cons, List.not_mem_nil, or_false] at hnd
  rcases hnd with rfl | rfl | rfl
  · refine ⟨knewo0, wEd_spec (x_ov0_le sf) u_ctS lwFok knewE0, fun o ho => ?_⟩
    have ho : o ∈ ([(true, knew_none), (false, knew_out)] : List (Bool × wE)) := ho
    simp only [List.mem_cons, List.not_mem_nil, or_false] at ho
    rcases ho with rfl | rfl
    · exact Or.inr ⟨rfl, List.mem_cons_of_mem _ (List.mem_cons_self)⟩
    · exact Or.inl (List.mem_cons_self)
  · refine ⟨knewo1, wEd_spec (x_ov0_le sf) u_ctS lwFok knewE1, fun o ho => ?_⟩
    have ho : o ∈ ([(true, knew_none), (true, knew_some), (false, knew_out)] : List (Bool × wE)) := ho
    simp only [List.mem_cons, List.not_mem_nil, or_false] at ho
    rcases ho with rfl | rfl | rfl
    · exact Or.inr ⟨rfl, List.mem_cons_of_mem _ (List.mem_cons_self)⟩
    · exact Or.inr ⟨rfl, List.mem_cons_of_mem _ (List.mem_cons_of_mem _ (List.mem_cons_self))⟩
    · exact Or.inl (List.mem_cons_self)
  · refine ⟨knewo2, wEd_spec (x_ov0_le sf) u_ctS lwFok knewE2, fun o ho => ?_⟩
    have ho : o ∈ ([(true, knew_some), (false, knew_out)] : List (Bool × wE)) := ho
    simp only [List.mem_cons, List.not_mem_nil, or_false] at ho
    rcases ho with rfl | rfl
    · exact Or.inr ⟨rfl, List.mem_cons_of_mem _ (List.mem_cons_of_mem _ (List.mem_cons_self))⟩
    · exact Or.inl (List.mem_cons_self))
theorem knewH {xs : Nat → Int32} {n : Nat} {sf : Option Nat} : wGoes x_KT x_tb x_tyl (x_otS xs n sf) lwFS lwGA.length lwGB.length 9 5 3 knewWA knewWB 132 257 60 60 knew_in (knewOX.map (fun x => x.1)) := wFam (V := []) lwFok (by decide +kernel) (by decide +kernel) (knewG _ List.mem_cons_self) (by decide +kernel) (by decide +kernel) (fun i hi u hu => by
  have hi : i ∈ ([] : List Nat) := hi
  simp only [List.mem_cons, List.not_mem_nil, or_false] at hi)
set_option maxRecDepth 1000000 in
theorem knewqA : tMth x_tb 132 = some xm132 := rfl
set_option maxRecDepth 1000000 in
theorem knewqB : tMth x_tb 257 = some xm257 := rfl
set_option maxRecDepth 1000000 in
theorem knewbc : wBc lwN lwFS.length 3 lwTA lwTB lwGA lwGB 9 5 3 u_ps uPA uPB knew_in knewOX = true := by decide +kernel
theorem knewPP {xs : Nat → Int32} {n : Nat} {sf : Option Nat} : bPP x_KT x_tb x_tyl (x_otS xs n sf) lwN lwP 1299 132 257 3 (mMc xm132 + mMc xm257) (mRc xm132) (mRc xm257) True :=
  wBlk lwFok lwFB uKa uKb (by decide +kernel) (by decide +kernel) uKdj uKj knewbc knewH knewqA knewqB (by decide) (by decide) (uKeep (by decide +kernel)) (by decide +kernel) (by decide +kernel) (by decide +kernel)
theorem knewcn : ∀ ρ : Nat → Int, 0 ≤ ρ 1 → ρ 1 + 7 ≤ ρ 0 → ρ 0 ≤ 3584 → lEv ρ (aCn lwN) + ((mMc xm132 + mMc xm257 : Nat) : Int) ≤ ((mMc xm0 : Nat) : Int) ∧ lEv ρ (aSn lwN) + ((mMs xm132 + mMs xm257 : Nat) : Int) ≤ ((mMs xm0 : Nat) : Int) := fun ρ h1 h2 h3 => by
  have e1 : lEv ρ (aCn lwN) = 536 + 58 * ρ 1 := by
    show lEv ρ (lAdd (lK 536) (lSc 58 (lSy 1))) = _
    rw [lAdd_ev, lK_ev, lSc_ev, lSy_ev]
  have e2 : lEv ρ (aSn lwN) = 9690 + 229 * ρ 1 := by
    show lEv ρ (lAdd (lK 9690) (lSc 229 (lSy 1))) = _
    rw [lAdd_ev, lK_ev, lSc_ev, lSy_ev]
  have k : 536 + 58 * 3577 + (mMc xm132 + mMc xm257) ≤ mMc xm0 ∧ 9690 + 229 * 3577 + (mMs xm132 + mMs xm257) ≤ mMs xm0 := by decide +kernel
  rw [e1, e2]
  constructor <;> omega
theorem knewcd : ∀ ρ ρ2 : Nat → Int, ρ2 0 = ρ 0 → ρ2 1 = ρ 1 + 7 → lEv ρ (aCn lwN) + ((mMc xm132 + mMc xm257 : Nat) : Int) ≤ lEv ρ2 (aCn lwN) ∧ lEv ρ (aSn lwN) + ((mMs xm132 + mMs xm257 : Nat) : Int) ≤ lEv ρ2 (aSn lwN) := fun ρ ρ2 _ h => by
  have e1 : ∀ ρ : Nat → Int, lEv ρ (aCn lwN) = 536 + 58 * ρ 1 := fun ρ => by
    show lEv ρ (lAdd (lK 536) (lSc 58 (lSy 1))) = _
    rw [lAdd_ev, lK_ev, lSc_ev, lSy_ev]
  have e2 : ∀ ρ : Nat → Int, lEv ρ (aSn lwN) = 9690 + 229 * ρ 1 := fun ρ => by
    show lEv ρ (lAdd (lK 9690) (lSc 229 (lSy 1))) = _
    rw [lAdd_ev, lK_ev, lSc_ev, lSy_ev]
  have k : mMc xm132 + mMc xm257 ≤ 406 ∧ mMs xm132 + mMs xm257 ≤ 1603 := by decide +kernel
  rw [e1, e1, e2, e2, h]
  constructor <;> omega
theorem knew_blk {xs : Nat → Int32} {n : Nat} {sf : Option Nat} (hn : n ≤ 3584) : lwBk (x_otS xs n sf) 1265 := fun ρ σ ty H Lc cn2 sn2 hat h0 h7 cont =>
  cBlkD (p1 := 1281) (p2 := 1300) (pi := 1906) (n := 3) (ixA := 122) (ixB := 125) (n1 := 1) (n2 := 3) (n4 := 1) (n5 := 3) (n6 := 3) (n8 := 3) (n9 := 3) (x5 := (603)) (x7 := 7) (x8 := (-1891)) (dp := 1299) (hd := 18) (cmp := True) trivial p_q0 rfl knewqA knewqB (show n < 1000000 by omega) (by decide) (by decide +kernel) (by decide +kernel) (by decide +kernel) (by decide +kernel) (by decide +kernel) (by decide +kernel) (by decide +kernel) (by decide +kernel) (by decide +kernel) (by decide +kernel) (by decide +kernel) (by decide +kernel) (by decide +kernel) (by decide +kernel) (by decide +kernel) rfl (by decide +kernel) rfl (by decide +kernel) knewcn (by decide +kernel) knewcd hn knewPP hat h0 h7 cont
def signnd : List wE := [sign_in]
def signex : List wE := [sign_out]
def signOX : List ((Bool × wE) × List lT) := [(wAdd [0] (false, sign_out), [(lSy 0), (lAdd (lSy 1) (lK 7)), (lSy 2), (lSy 3), (lSy 4), (lSy 12)])]
theorem signG {xs : Nat → Int32} {n : Nat} {sf : Option Nat} : ∀ nd ∈ signnd, wGoes x_KT x_tb x_tyl (x_otS xs n sf) lwFS lwGA.length lwGB.length 11 5 3 signWA signWB 131 256 60 60 nd (signex.map (fun x => (false, x))) := wGraph (fun nd hnd => by
  have hnd : nd ∈ ([sign_in] : List wE) := hnd
  simp only [List.mem_cons, List.not_mem_nil, or_false] at hnd
  rcases hnd with rfl
  · refine ⟨signo0, wEd_spec (x_ov0_le sf) u_ctS lwFok signE0, fun o ho => ?_⟩
    have ho : o ∈ ([(false, sign_out)] : List (Bool × wE)) := ho
    simp only [List.mem_cons, List.not_mem_nil, or_false] at ho
    rcases ho with rfl
    · exact Or.inl (List.mem_cons_self))
theorem signH {xs : Nat → Int32} {n : Nat} {sf : Option Nat} : wGoes x_KT x_tb x_tyl (x_otS xs n sf) lwFS lwGA.length lwGB.length 11 5 3 signWA signWB 131 256 60 60 sign_in (signOX.map (fun x => x.1)) := wFam (V := [0]) lwFok (by decide +kernel) (by decide +kernel) (signG _ List.mem_cons_self) (by decide +kernel) (by decide +kernel) (fun i hi u hu => by
  have hi : i ∈ ([0] : List Nat) := hi
  simp only [List.mem_cons, List.not_mem_nil, or_false] at hi
  rcases hi with rfl
  · cases hu
    exact wRk_spec (x_ov0_le sf) u_ctS lwFok signR0)
set_option maxRecDepth 1000000 in
theorem signqA : tMth x_tb 131 = some xm131 := rfl
set_option maxRecDepth 1000000 in
theorem signqB : tMth x_tb 256 = some xm256 := rfl
set_option maxRecDepth 1000000 in
theorem signbc : wBc lwN lwFS.length 5 lwTA lwTB lwGA lwGB 11 5 3 u_ps uPA uPB sign_in signOX = true := by decide +kernel
theorem signPP {xs : Nat → Int32} {n : Nat} {sf : Option Nat} : bPA x_KT x_tb x_tyl (x_otS xs n sf) lwN lwP 1299 131 256 5 (mMc xm131 + mMc xm256) (mRc xm131) (mRc xm256) True :=
  wBlkA lwFok lwFB uKa uKb (by decide +kernel) (by decide +kernel) uKdj uKj signbc signH signqA signqB (by decide) (by decide) (uKeep (by decide +kernel)) (by decide +kernel) (by decide +kernel) (by decide +kernel)
theorem signcn : ∀ ρ : Nat → Int, 0 ≤ ρ 1 → ρ 1 + 7 ≤ ρ 0 → ρ 0 ≤ 3584 → lEv ρ (aCn lwN) + ((mMc xm131 + mMc xm256 : Nat) : Int) ≤ ((mMc xm0 : Nat) : Int) ∧ lEv ρ (aSn lwN) + ((mMs xm131 + mMs xm256 : Nat) : Int) ≤ ((mMs xm0 : Nat) : Int) := fun ρ h1 h2 h3 => by
  have e1 : lEv ρ (aCn lwN) = 536 + 58 * ρ 1 := by
    show lEv ρ (lAdd (lK 536) (lSc 58 (lSy 1))) = _
    rw [lAdd_ev, lK_ev, lSc_ev, lSy_ev]
  have e2 : lEv ρ (aSn lwN) = 9690 + 229 * ρ 1 := by
    show lEv ρ (lAdd (lK 9690) (lSc 229 (lSy 1))) = _
    rw [lAdd_ev, lK_ev, lSc_ev, lSy_ev]
  have k : 536 + 58 * 3577 + (mMc xm131 + mMc xm256) ≤ mMc xm0 ∧ 9690 + 229 * 3577 + (mMs xm131 + mMs xm256) ≤ mMs xm0 := by decide +kernel
  rw [e1, e2]
  constructor <;> omega
theorem signcd : ∀ ρ ρ2 : Nat → Int, ρ2 0 = ρ 0 → ρ2 1 = ρ 1 + 7 → lEv ρ (aCn lwN) + ((mMc xm131 + mMc xm256 : Nat) : Int) ≤ lEv ρ2 (aCn lwN) ∧ lEv ρ (aSn lwN) + ((mMs xm131 + mMs xm256 : Nat) : Int) ≤ lEv ρ2 (aSn lwN) := fun ρ ρ2 _ h => by
  have e1 : ∀ ρ : Nat → Int, lEv ρ (aCn lwN) = 536 + 58 * ρ 1 := fun ρ => by
    show lEv ρ (lAdd (lK 536) (lSc 58 (lSy 1))) = _
    rw [lAdd_ev, lK_ev, lSc_ev, lSy_ev]
  have e2 : ∀ ρ : Nat → Int, lEv ρ (aSn lwN) = 9690 + 229 * ρ 1 := fun ρ => by
    show lEv ρ (lAdd (lK 9690) (lSc 229 (lSy 1))) = _
    rw [lAdd_ev, lK_ev, lSc_ev, lSy_ev]
  have k : mMc xm131 + mMc xm256 ≤ 406 ∧ mMs xm131 + mMs xm256 ≤ 1603 := by decide +kernel
  rw [e1, e1, e2, e2, h]
  constructor <;> omega
theorem sign_blk {xs : Nat → Int32} {n : Nat} {sf : Option Nat} (hn : n ≤ 3584) : lwBk (x_otS xs n sf) 1186 := fun ρ σ ty H Lc cn2 sn2 hat h0 h7 cont =>
  cBlkPA (p1 := 1220) (p2 := 1258) (pi := 1906) (n := 5) (ixA := 117) (ixB := 121) (n1 := 1) (n2 := 3) (n3 := 1) (n4 := 1) (n5 := 3) (n6 := 1) (n7 := 3) (n8 := 3) (n9 := 3) (x6 := (644)) (x7 := 7) (x8 := (-1891)) (dp := 1299) (hd := 18) (cmp := True) (fun t => by simp only [List.length_append, bIs_len, List.length_cons, List.length_nil]) p_q0 rfl signqA signqB (show n < 1000000 by omega) (by decide) (by decide +kernel) (bPush_app (bPush_app (bPush_args (n := 2) (j := 1) (pc := 1187) (p2 := 1197) p_q0 (by decide +kernel) (by decide)) (bPush_mask (j := 3) (pc := 1197) (p1 := 1202) (p3 := 1209) (p4 := 1210) (n1 := 3) (n2 := 1) (n3 := 3) (n4 := 1) (x := 7) (y := 4) p_q0 (by decide +kernel) (by decide) (by decide +kernel) rfl (by decide +kernel) (by decide +kernel) rfl (by decide +kernel) rfl)) (bPush_args (n := 2) (j := 4) (pc := 1210) (p2 := 1220) p_q0 (by decide +kernel) (by decide))) (by decide +kernel) (by decide +kernel) (by decide +kernel) (by decide +kernel) (bPush_app (bPush_app (bPush_args (n := 2) (j := 1) (pc := 1225) (p2 := 1235) p_q0 (by decide +kernel) (by decide)) (bPush_mask (j := 3) (pc := 1235) (p1 := 1240) (p3 := 1247) (p4 := 1248) (n1 := 3) (n2 := 1) (n3 := 3) (n4 := 1) (x := 7) (y := 4) p_q0 (by decide +kernel) (by decide) (by decide +kernel) rfl (by decide +kernel) (by decide +kernel) rfl (by decide +kernel) rfl)) (bPush_args (n := 2) (j := 4) (pc := 1248) (p2 := 1258) p_q0 (by decide +kernel) (by decide))) (by decide +kernel) (by decide +kernel) (by decide +kernel) (by decide +kernel) (by decide +kernel) (by decide +kernel) (by decide +kernel) (by decide +kernel) (by decide +kernel) (by decide +kernel) rfl (by decide +kernel) rfl (by decide +kernel) signcn (by decide +kernel) signcd hn signPP hat h0 h7 cont
theorem p_blk (xs : Nat → Int32) (n : Nat) (hn : n ≤ 3584) {sf : Option Nat} (hsf : sf = none ∨ sf = some 1200000) : ∀ pc ∈ lwCb, lwBk (x_otS xs n sf) pc := by
  intro pc hpc
  have hpc : pc ∈ ([216, 249, 1186, 1265] : List Nat) := hpc
  simp only [List.mem_cons, List.not_mem_nil, or_false] at hpc
  rcases hpc with rfl | rfl | rfl | rfl
  · exact feed_blk hsf hn
  · exact program_blk hsf hn
  · exact sign_blk hn
  · exact knew_blk hn
end XNd
