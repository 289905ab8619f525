/-! p25: the blocks. -/
noncomputable section XBlk25
theorem chipqA : tMth x_tb 117 = some xm117 := g_q117
theorem chipqB : tMth x_tb 250 = some xm250 := g_q250
def chipWA : List (Nat × Nat) := ((x_CT 117).map cW).flatten
def chipWB : List (Nat × Nat) := ((x_CT 250).map cW).flatten
theorem chipHk : bHk lwN 2 chipWA chipWB 60 60 (x_CT 117) (x_CT 250) = true := by decide +kernel
theorem chipPP {xs : Nat → Int32} {n : Nat} {sf : Option Nat} (hsf : sf = none ∨ sf = some 1200000) : bPP x_KT x_tb x_tyl (x_otS xs n sf) lwN lwP 1299 117 250 2 (mMc xm117 + mMc xm250) (mRc xm117) (mRc xm250) False :=
  bPP_of (W := chipWA ++ chipWB) (by decide) (bHS_of chipHk (fun c h => x_allS xs n hsf 117 c h) (fun c h => x_allS xs n hsf 250 c h) chipqA chipqB (by decide) (by decide) (by decide +kernel) (by decide +kernel) (by decide +kernel) (by decide +kernel)) (fun ρ σ ty H t a b HA HH ρ2 σ2 ty2 hl hr hq z1 z2 hs hr2 hf => ⟨False.elim, ⟨fun p hp => absurd hp List.not_mem_nil, fun u hu => absurd hu List.not_mem_nil⟩, by
    rw [hs 0 (by decide), hs 1 (by decide)]
    have : mMc xm117 = 1 := rfl
    exact hP_chip (dp := 1297) hq.2 (by omega) z1 z2⟩)
theorem chipcn : ∀ ρ : Nat → Int, 0 ≤ ρ 1 → ρ 1 + 7 ≤ ρ 0 → ρ 0 ≤ 3584 → lEv ρ (aCn lwN) + ((mMc xm117 + mMc xm250 : Nat) : Int) ≤ ((mMc xm0 : Nat) : Int) ∧ lEv ρ (aSn lwN) + ((mMs xm117 + mMs xm250 : Nat) : Int) ≤ ((mMs xm0 : Nat) : Int) := fun ρ h1 h2 h3 => by
  have e1 : lEv ρ (aCn lwN) = 536 + 58 * ρ 1 := by
    show lEv ρ (lAdd (lK 536) (lSc 58 (lSy 1))) = _
    rw [lAdd_ev, lK_ev, lSc_ev, lSy_ev]
  have e2 : lEv ρ (aSn lwN) = 9690 + 229 * ρ 1 := by
    show lEv ρ (lAdd (lK 9690) (lSc 229 (lSy 1))) = _
    rw [lAdd_ev, lK_ev, lSc_ev, lSy_ev]
  have k : 536 + 58 * 3577 + (mMc xm117 + mMc xm250) ≤ mMc xm0 ∧ 9690 + 229 * 3577 + (mMs xm117 + mMs xm250) ≤ mMs xm0 := by decide +kernel
  rw [e1, e2]
  constructor <;> omega
theorem chipcd : ∀ ρ ρ2 : Nat → Int, ρ2 0 = ρ 0 → ρ2 1 = ρ 1 + 7 → lEv ρ (aCn lwN) + ((mMc xm117 + mMc xm250 : Nat) : Int) ≤ lEv ρ2 (aCn lwN) ∧ lEv ρ (aSn lwN) + ((mMs xm117 + mMs xm250 : Nat) : Int) ≤ lEv ρ2 (aSn lwN) := fun ρ ρ2 _ h => by
  have e1 : ∀ ρ : Nat → Int, lEv ρ (aCn lwN) = 536 + 58 * ρ 1 := fun ρ => by
    show lEv ρ (lAdd (lK 536) (lSc 58 (lSy 1))) = _
    rw [lAdd_ev, lK_ev, lSc_ev, lSy_ev]
  have e2 : ∀ ρ : Nat → Int, lEv ρ (aSn lwN) = 9690 + 229 * ρ 1 := fun ρ => by
    show lEv ρ (lAdd (lK 9690) (lSc 229 (lSy 1))) = _
    rw [lAdd_ev, lK_ev, lSc_ev, lSy_ev]
  have k : mMc xm117 + mMc xm250 ≤ 406 ∧ mMs xm117 + mMs xm250 ≤ 1603 := by decide +kernel
  rw [e1, e1, e2, e2, h]
  constructor <;> omega
theorem chip_blk {xs : Nat → Int32} {n : Nat} {sf : Option Nat} (hsf : sf = none ∨ sf = some 1200000) (hn : n ≤ 3584) : lwBk (x_otS xs n sf) 1087 := fun ρ σ ty H Lc cn2 sn2 hat h0 h7 cont =>
  cBlkP (p1 := 1098) (p2 := 1113) (pi := 1906) (n := 2) (ixA := 105) (ixB := 108) (n1 := 1) (n2 := 3) (n3 := 1) (n4 := 1) (n5 := 3) (n6 := 1) (n7 := 3) (n8 := 3) (n9 := 3) (x6 := (789)) (x7 := 7) (x8 := (-1891)) (dp := 1299) (hd := 18) (cmp := False) p_q0 rfl chipqA chipqB (show n < 1000000 by omega) (by decide) (by decide +kernel) (by decide +kernel) (by decide +kernel) (by decide +kernel) (by decide +kernel) (by decide +kernel) (by decide +kernel) (by decide +kernel) (by decide +kernel) (by decide +kernel) (by decide +kernel) (by decide +kernel) (by decide +kernel) (by decide +kernel) (by decide +kernel) (by decide +kernel) (by decide +kernel) rfl (by decide +kernel) rfl (by decide +kernel) chipcn (by decide +kernel) chipcd hn (chipPP hsf) hat h0 h7 cont
theorem askqA : tMth x_tb 119 = some xm119 := g_q119
theorem askqB : tMth x_tb 251 = some xm251 := g_q251
def askWA : List (Nat × Nat) := ((x_CT 119).map cW).flatten
def askWB : List (Nat × Nat) := ((x_CT 251).map cW).flatten
theorem askHk : bHk lwN 2 askWA askWB 60 60 (x_CT 119) (x_CT 251) = true := by decide +kernel
theorem askPP {xs : Nat → Int32} {n : Nat} {sf : Option Nat} (hsf : sf = none ∨ sf = some 1200000) : bPP x_KT x_tb x_tyl (x_otS xs n sf) lwN lwP 1299 119 251 2 (mMc xm119 + mMc xm251) (mRc xm119) (mRc xm251) False :=
  bPP_of (W := askWA ++ askWB) (by decide) (bHS_of askHk (fun c h => x_allS xs n hsf 119 c h) (fun c h => x_allS xs n hsf 251 c h) askqA askqB (by decide) (by decide) (by decide +kernel) (by decide +kernel) (by decide +kernel) (by decide +kernel)) (fun ρ σ ty H t a b HA HH ρ2 σ2 ty2 hl hr hq z1 z2 hs hr2 hf => ⟨False.elim, ⟨fun p hp => absurd hp List.not_mem_nil, fun u hu => absurd hu List.not_mem_nil⟩, by
    rw [hs 0 (by decide), hs 1 (by decide)]
    exact hP_ask (dp := 1296) hq.2 z1 z2⟩)
theorem askcn : ∀ ρ : Nat → Int, 0 ≤ ρ 1 → ρ 1 + 7 ≤ ρ 0 → ρ 0 ≤ 3584 → lEv ρ (aCn lwN) + ((mMc xm119 + mMc xm251 : Nat) : Int) ≤ ((mMc xm0 : Nat) : Int) ∧ lEv ρ (aSn lwN) + ((mMs xm119 + mMs xm251 : Nat) : Int) ≤ ((mMs xm0 : Nat) : Int) := fun ρ h1 h2 h3 => by
  have e1 : lEv ρ (aCn lwN) = 536 + 58 * ρ 1 := by
    show lEv ρ (lAdd (lK 536) (lSc 58 (lSy 1))) = _
    rw [lAdd_ev, lK_ev, lSc_ev, lSy_ev]
  have e2 : lEv ρ (aSn lwN) = 9690 + 229 * ρ 1 := by
    show lEv ρ (lAdd (lK 9690) (lSc 229 (lSy 1))) = _
    rw [lAdd_ev, lK_ev, lSc_ev, lSy_ev]
  have k : 536 + 58 * 3577 + (mMc xm119 + mMc xm251) ≤ mMc xm0 ∧ 9690 + 229 * 3577 + (mMs xm119 + mMs xm251) ≤ mMs xm0 := by decide +kernel
  rw [e1, e2]
  constructor <;> omega
theorem askcd : ∀ ρ ρ2 : Nat → Int, ρ2 0 = ρ 0 → ρ2 1 = ρ 1 + 7 → lEv ρ (aCn lwN) + ((mMc xm119 + mMc xm251 : Nat) : Int) ≤ lEv ρ2 (aCn lwN) ∧ lEv ρ (aSn lwN) + ((mMs xm119 + mMs xm251 : Nat) : Int) ≤ lEv ρ2 (aSn lwN) := fun ρ ρ2 _ h => by
  have e1 : ∀ ρ : Nat → Int, lEv ρ (aCn lwN) = 536 + 58 * ρ 1 := fun ρ => by
    show lEv ρ (lAdd (lK 536) (lSc 58 (lSy 1))) = _
    rw [lAdd_ev, lK_ev, lSc_ev, lSy_ev]
  have e2 : ∀ ρ : Nat → Int, lEv ρ (aSn lwN) = 9690 + 229 * ρ 1 := fun ρ => by
    show lEv ρ (lAdd (lK 9690) (lSc 229 (lSy 1))) = _
    rw [lAdd_ev, lK_ev, lSc_ev, lSy_ev]
  have k : mMc xm119 + mMc xm251 ≤ 406 ∧ mMs xm119 + mMs xm251 ≤ 1603 := by decide +kernel
  rw [e1, e1, e2, e2, h]
  constructor <;> omega
theorem ask_blk {xs : Nat → Int32} {n : Nat} {sf : Option Nat} (hsf : sf = none ∨ sf = some 1200000) (hn : n ≤ 3584) : lwBk (x_otS xs n sf) 1120 := fun ρ σ ty H Lc cn2 sn2 hat h0 h7 cont =>
  cBlkP (p1 := 1131) (p2 := 1146) (pi := 1906) (n := 2) (ixA := 109) (ixB := 112) (n1 := 1) (n2 := 3) (n3 := 1) (n4 := 1) (n5 := 3) (n6 := 1) (n7 := 3) (n8 := 3) (n9 := 3) (x6 := (756)) (x7 := 7) (x8 := (-1891)) (dp := 1299) (hd := 18) (cmp := False) p_q0 rfl askqA askqB (show n < 1000000 by omega) (by decide) (by decide +kernel) (by decide +kernel) (by decide +kernel) (by decide +kernel) (by decide +kernel) (by decide +kernel) (by decide +kernel) (by decide +kernel) (by decide +kernel) (by decide +kernel) (by decide +kernel) (by decide +kernel) (by decide +kernel) (by decide +kernel) (by decide +kernel) (by decide +kernel) (by decide +kernel) rfl (by decide +kernel) rfl (by decide +kernel) askcn (by decide +kernel) askcd hn (askPP hsf) hat h0 h7 cont
theorem fitqA : tMth x_tb 124 = some xm124 := g_q124
theorem fitqB : tMth x_tb 253 = some xm253 := g_q253
def fitWA : List (Nat × Nat) := ((x_CT 124).map cW).flatten
def fitWB : List (Nat × Nat) := ((x_CT 253).map cW).flatten
theorem fitHk : bHk lwN 2 fitWA fitWB 60 60 (x_CT 124) (x_CT 253) = true := by decide +kernel
theorem fitPP {xs : Nat → Int32} {n : Nat} {sf : Option Nat} (hsf : sf = none ∨ sf = some 1200000) : bPP x_KT x_tb x_tyl (x_otS xs n sf) lwN lwP 1299 124 253 2 (mMc xm124 + mMc xm253) (mRc xm124) (mRc xm253) True :=
  bPP_of (W := fitWA ++ fitWB) (by decide) (bHS_of fitHk (fun c h => x_allS xs n hsf 124 c h) (fun c h => x_allS xs n hsf 253 c h) fitqA fitqB (by decide) (by decide) (by decide +kernel) (by decide +kernel) (by decide +kernel) (by decide +kernel)) (fun ρ σ ty H t a b HA HH ρ2 σ2 ty2 hl hr hq z1 z2 hs hr2 hf => by
    have t0 := hr.2.1 0 47 rfl
    have t1 := hr.2.1 1 117 rfl
    have hm : mMc xm253 = 400 := rfl
    obtain ⟨gs, g1⟩ : ∃ gs, H[sR σ 1]? = some (.inl (12, gs)) := by
      obtain ⟨m, r, d, y, -, ⟨gs, vp, vr, va, vy, cp, cr, sa, ya, row, ⟨-, g, -⟩, -⟩, -⟩ := hq.2
      exact ⟨gs, g⟩
    obtain ⟨fa, g2, g3⟩ := cell_fx (j := 67) hr.1 t1 (by rfl) g1
    obtain ⟨vf, g4, g5⟩ := cell_r hr.1 g3 (by rfl)
    have g6 := vHp_lt hr.1 g3
    exact ⟨fun _ => hP_fit (dp := 1292) hq.2 (by omega) g1 g2 (by omega) g4 g5 z1 z2, ⟨fun p hp => absurd hp List.not_mem_nil, fun u hu => absurd hu List.not_mem_nil⟩, by
      rw [hs 0 (by decide), hs 1 (by decide)]
      exact hP_keep hr.1 t0 t1 (by decide +kernel) hf hq.2⟩)
theorem fitcn : ∀ ρ : Nat → Int, 0 ≤ ρ 1 → ρ 1 + 7 ≤ ρ 0 → ρ 0 ≤ 3584 → lEv ρ (aCn lwN) + ((mMc xm124 + mMc xm253 : Nat) : Int) ≤ ((mMc xm0 : Nat) : Int) ∧ lEv ρ (aSn lwN) + ((mMs xm124 + mMs xm253 : Nat) : Int) ≤ ((mMs xm0 : Nat) : Int) := fun ρ h1 h2 h3 => by
  have e1 : lEv ρ (aCn lwN) = 536 + 58 * ρ 1 := by
    show lEv ρ (lAdd (lK 536) (lSc 58 (lSy 1))) = _
    rw [lAdd_ev, lK_ev, lSc_ev, lSy_ev]
  have e2 : lEv ρ (aSn lwN) = 9690 + 229 * ρ 1 := by
    show lEv ρ (lAdd (lK 9690) (lSc 229 (lSy 1))) = _
    rw [lAdd_ev, lK_ev, lSc_ev, lSy_ev]
  have k : 536 + 58 * 3577 + (mMc xm124 + mMc xm253) ≤ mMc xm0 ∧ 9690 + 229 * 3577 + (mMs xm124 + mMs xm253) ≤ mMs xm0 := by decide +kernel
  rw [e1, e2]
  constructor <;> omega
theorem fitcd : ∀ ρ ρ2 : Nat → Int, ρ2 0 = ρ 0 → ρ2 1 = ρ 1 + 7 → lEv ρ (aCn lwN) + ((mMc xm124 + mMc xm253 : Nat) : Int) ≤ lEv ρ2 (aCn lwN) ∧ lEv ρ (aSn lwN) + ((mMs xm124 + mMs xm253 : Nat) : Int) ≤ lEv ρ2 (aSn lwN) := fun ρ ρ2 _ h => by
  have e1 : ∀ ρ : Nat → Int, lEv ρ (aCn lwN) = 536 + 58 * ρ 1 := fun ρ => by
    show lEv ρ (lAdd (lK 536) (lSc 58 (lSy 1))) = _
    rw [lAdd_ev, lK_ev, lSc_ev, lSy_ev]
  have e2 : ∀ ρ : Nat → Int, lEv ρ (aSn lwN) = 9690 + 229 * ρ 1 := fun ρ => by
    show lEv ρ (lAdd (lK 9690) (lSc 229 (lSy 1))) = _
    rw [lAdd_ev, lK_ev, lSc_ev, lSy_ev]
  have k : mMc xm124 + mMc xm253 ≤ 406 ∧ mMs xm124 + mMs xm253 ≤ 1603 := by decide +kernel
  rw [e1, e1, e2, e2, h]
  constructor <;> omega
theorem fit_blk {xs : Nat → Int32} {n : Nat} {sf : Option Nat} (hsf : sf = none ∨ sf = some 1200000) (hn : n ≤ 3584) : lwBk (x_otS xs n sf) 1153 := fun ρ σ ty H Lc cn2 sn2 hat h0 h7 cont =>
  cBlkD (p1 := 1164) (p2 := 1178) (pi := 1906) (n := 2) (ixA := 113) (ixB := 116) (n1 := 1) (n2 := 3) (n4 := 1) (n5 := 3) (n6 := 3) (n8 := 3) (n9 := 3) (x5 := (725)) (x7 := 7) (x8 := (-1891)) (dp := 1299) (hd := 18) (cmp := True) trivial p_q0 rfl fitqA fitqB (show n < 1000000 by omega) (by decide) (by decide +kernel) (by decide +kernel) (by decide +kernel) (by decide +kernel) (by decide +kernel) (by decide +kernel) (by decide +kernel) (by decide +kernel) (by decide +kernel) (by decide +kernel) (by decide +kernel) (by decide +kernel) (by decide +kernel) (by decide +kernel) (by decide +kernel) rfl (by decide +kernel) rfl (by decide +kernel) fitcn (by decide +kernel) fitcd hn (fitPP hsf) hat h0 h7 cont
theorem p_blk (xs : Nat → Int32) (n : Nat) (hn : n ≤ 3584) {sf : Option Nat} (hsf : sf = none ∨ sf = some 1200000) : ∀ pc ∈ lwCb, lwBk (x_otS xs n sf) pc := by
  intro pc hpc
  have hpc : pc ∈ ([1087, 1120, 1153] : List Nat) := hpc
  simp only [List.mem_cons, List.not_mem_nil, or_false] at hpc
  rcases hpc with rfl | rfl | rfl
  · exact chip_blk hsf hn
  · exact ask_blk hsf hn
  · exact fit_blk hsf hn
end XBlk25
