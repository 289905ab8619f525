/-! p35: the blocks. -/
noncomputable section XBlk25
theorem stopqA : tMth x_tb 147 = some xm147 := g_q147
theorem stopqB : tMth x_tb 258 = some xm258 := g_q258
def stopWA : List (Nat × Nat) := ((x_CT 147).map cW).flatten
def stopWB : List (Nat × Nat) := ((x_CT 258).map cW).flatten
theorem stopHk : bHk lwN 4 stopWA stopWB 60 60 (x_CT 147) (x_CT 258) = true := by decide +kernel
theorem stopPP {xs : Nat → Int32} {n : Nat} {sf : Option Nat} (hsf : sf = none ∨ sf = some 1200000) : bPP x_KT x_tb x_tyl (x_otS xs n sf) lwN lwP 1299 147 258 4 (mMc xm147 + mMc xm258) (mRc xm147) (mRc xm258) False :=
  bPP_of (W := stopWA ++ stopWB) (by decide) (bHS_of stopHk (fun c h => x_allS xs n hsf 147 c h) (fun c h => x_allS xs n hsf 258 c h) stopqA stopqB (by decide) (by decide) (by decide +kernel) (by decide +kernel) (by decide +kernel) (by decide +kernel)) (fun ρ σ ty H t a b HA HH ρ2 σ2 ty2 hl hr hq z1 z2 hs hr2 hf => ⟨False.elim, ⟨fun p hp => absurd hp List.not_mem_nil, fun u hu => absurd hu List.not_mem_nil⟩, by
    rw [hs 0 (by decide), hs 1 (by decide)]
    exact hQ_stop (dp := 1295) hr.1 (hr.2.1 1 117 rfl) hq.2 z1 z2⟩)
theorem stopcn : ∀ ρ : Nat → Int, 0 ≤ ρ 1 → ρ 1 + 7 ≤ ρ 0 → ρ 0 ≤ 3584 → lEv ρ (aCn lwN) + ((mMc xm147 + mMc xm258 : Nat) : Int) ≤ ((mMc xm0 : Nat) : Int) ∧ lEv ρ (aSn lwN) + ((mMs xm147 + mMs xm258 : Nat) : Int) ≤ ((mMs xm0 : Nat) : Int) := fun ρ h1 h2 h3 => by
  have e1 : lEv ρ (aCn lwN) = 536 + 58 * ρ 1 := by
    show lEv ρ (lAdd (lK 536) (lSc 58 (lSy 1))) = _
    rw [lAdd_ev, lK_ev, lSc_ev, lSy_ev]
  have e2 : lEv ρ (aSn lwN) = 9690 + 229 * ρ 1 := by
    show lEv ρ (lAdd (lK 9690) (lSc 229 (lSy 1))) = _
    rw [lAdd_ev, lK_ev, lSc_ev, lSy_ev]
  have k : 536 + 58 * 3577 + (mMc xm147 + mMc xm258) ≤ mMc xm0 ∧ 9690 + 229 * 3577 + (mMs xm147 + mMs xm258) ≤ mMs xm0 := by decide +kernel
  rw [e1, e2]
  constructor <;> omega
theorem stopcd : ∀ ρ ρ2 : Nat → Int, ρ2 0 = ρ 0 → ρ2 1 = ρ 1 + 7 → lEv ρ (aCn lwN) + ((mMc xm147 + mMc xm258 : Nat) : Int) ≤ lEv ρ2 (aCn lwN) ∧ lEv ρ (aSn lwN) + ((mMs xm147 + mMs xm258 : Nat) : Int) ≤ lEv ρ2 (aSn lwN) := fun ρ ρ2 _ h => by
  have e1 : ∀ ρ : Nat → Int, lEv ρ (aCn lwN) = 536 + 58 * ρ 1 := fun ρ => by
    show lEv ρ (lAdd (lK 536) (lSc 58 (lSy 1))) = _
    rw [lAdd_ev, lK_ev, lSc_ev, lSy_ev]
  have e2 : ∀ ρ : Nat → Int, lEv ρ (aSn lwN) = 9690 + 229 * ρ 1 := fun ρ => by
    show lEv ρ (lAdd (lK 9690) (lSc 229 (lSy 1))) = _
    rw [lAdd_ev, lK_ev, lSc_ev, lSy_ev]
  have k : mMc xm147 + mMc xm258 ≤ 406 ∧ mMs xm147 + mMs xm258 ≤ 1603 := by decide +kernel
  rw [e1, e1, e2, e2, h]
  constructor <;> omega
theorem stop_blk {xs : Nat → Int32} {n : Nat} {sf : Option Nat} (hsf : sf = none ∨ sf = some 1200000) (hn : n ≤ 3584) : lwBk (x_otS xs n sf) 1516 := fun ρ σ ty H Lc cn2 sn2 hat h0 h7 cont =>
  cBlkP (p1 := 1537) (p2 := 1562) (pi := 1906) (n := 4) (ixA := 150) (ixB := 153) (n1 := 1) (n2 := 3) (n3 := 1) (n4 := 1) (n5 := 3) (n6 := 1) (n7 := 3) (n8 := 3) (n9 := 3) (x6 := (340)) (x7 := 7) (x8 := (-1891)) (dp := 1299) (hd := 18) (cmp := False) p_q0 rfl stopqA stopqB (show n < 1000000 by omega) (by decide) (by decide +kernel) (by decide +kernel) (by decide +kernel) (by decide +kernel) (by decide +kernel) (by decide +kernel) (by decide +kernel) (by decide +kernel) (by decide +kernel) (by decide +kernel) (by decide +kernel) (by decide +kernel) (by decide +kernel) (by decide +kernel) (by decide +kernel) (by decide +kernel) (by decide +kernel) rfl (by decide +kernel) rfl (by decide +kernel) stopcn (by decide +kernel) stopcd hn (stopPP hsf) hat h0 h7 cont
theorem postsqA : tMth x_tb 152 = some xm152 := g_q152
theorem postsqB : tMth x_tb 259 = some xm259 := g_q259
def postsWA : List (Nat × Nat) := ((x_CT 152).map cW).flatten
def postsWB : List (Nat × Nat) := ([x_c259].map cW).flatten
theorem postsHk : bHk lwN 2 postsWA postsWB 60 60 (x_CT 152) [x_c259] = true := by decide +kernel
theorem postsPP {xs : Nat → Int32} {n : Nat} {sf : Option Nat} (hsf : sf = none ∨ sf = some 1200000) : bPP x_KT x_tb x_tyl (x_otS xs n sf) lwN lwP 1299 152 259 2 (mMc xm152 + mMc xm259) (mRc xm152) (mRc xm259) True :=
  bPP_of (W := postsWA ++ postsWB) (by decide) (bHS_of postsHk (fun c h => x_allS xs n hsf 152 c h) (fun c h => by rw [List.mem_singleton.mp h]; exact p_posts) postsqA postsqB (by decide) (by decide) (by decide +kernel) (by decide +kernel) (by decide +kernel) (by decide +kernel)) (fun ρ σ ty H t a b HA HH ρ2 σ2 ty2 hl hr hq z1 z2 hs hr2 hf => by
    have t0 := hr.2.1 0 47 rfl
    have t1 := hr.2.1 1 117 rfl
    exact ⟨fun _ => hQ_posts (dp := 1296) hr.1 t1 (by omega) hq.2 z1 z2, ⟨fun p hp => absurd hp List.not_mem_nil, fun u hu => absurd hu List.not_mem_nil⟩, by
      rw [hs 0 (by decide), hs 1 (by decide)]
      exact hQ_keep hr.1 t0 t1 (by decide +kernel) hf hq.2⟩)
theorem postscn : ∀ ρ : Nat → Int, 0 ≤ ρ 1 → ρ 1 + 7 ≤ ρ 0 → ρ 0 ≤ 3584 → lEv ρ (aCn lwN) + ((mMc xm152 + mMc xm259 : Nat) : Int) ≤ ((mMc xm0 : Nat) : Int) ∧ lEv ρ (aSn lwN) + ((mMs xm152 + mMs xm259 : Nat) : Int) ≤ ((mMs xm0 : Nat) : Int) := fun ρ h1 h2 h3 => by
  have e1 : lEv ρ (aCn lwN) = 536 + 58 * ρ 1 := by
    show lEv ρ (lAdd (lK 536) (lSc 58 (lSy 1))) = _
    rw [lAdd_ev, lK_ev, lSc_ev, lSy_ev]
  have e2 : lEv ρ (aSn lwN) = 9690 + 229 * ρ 1 := by
    show lEv ρ (lAdd (lK 9690) (lSc 229 (lSy 1))) = _
    rw [lAdd_ev, lK_ev, lSc_ev, lSy_ev]
  have k : 536 + 58 * 3577 + (mMc xm152 + mMc xm259) ≤ mMc xm0 ∧ 9690 + 229 * 3577 + (mMs xm152 + mMs xm259) ≤ mMs xm0 := by decide +kernel
  rw [e1, e2]
  constructor <;> omega
theorem postscd : ∀ ρ ρ2 : Nat → Int, ρ2 0 = ρ 0 → ρ2 1 = ρ 1 + 7 → lEv ρ (aCn lwN) + ((mMc xm152 + mMc xm259 : Nat) : Int) ≤ lEv ρ2 (aCn lwN) ∧ lEv ρ (aSn lwN) + ((mMs xm152 + mMs xm259 : Nat) : Int) ≤ lEv ρ2 (aSn lwN) := fun ρ ρ2 _ h => by
  have e1 : ∀ ρ : Nat → Int, lEv ρ (aCn lwN) = 536 + 58 * ρ 1 := fun ρ => by
    show lEv ρ (lAdd (lK 536) (lSc 58 (lSy 1))) = _
    rw [lAdd_ev, lK_ev, lSc_ev, lSy_ev]
  have e2 : ∀ ρ : Nat → Int, lEv ρ (aSn lwN) = 9690 + 229 * ρ 1 := fun ρ => by
    show lEv ρ (lAdd (lK 9690) (lSc 229 (lSy 1))) = _
    rw [lAdd_ev, lK_ev, lSc_ev, lSy_ev]
  have k : mMc xm152 + mMc xm259 ≤ 406 ∧ mMs xm152 + mMs xm259 ≤ 1603 := by decide +kernel
  rw [e1, e1, e2, e2, h]
  constructor <;> omega
theorem posts_blk {xs : Nat → Int32} {n : Nat} {sf : Option Nat} (hsf : sf = none ∨ sf = some 1200000) (hn : n ≤ 3584) : lwBk (x_otS xs n sf) 1569 := fun ρ σ ty H Lc cn2 sn2 hat h0 h7 cont =>
  cBlkD (p1 := 1580) (p2 := 1594) (pi := 1906) (n := 2) (ixA := 154) (ixB := 157) (n1 := 1) (n2 := 3) (n4 := 1) (n5 := 3) (n6 := 3) (n8 := 3) (n9 := 3) (x5 := (309)) (x7 := 7) (x8 := (-1891)) (dp := 1299) (hd := 18) (cmp := True) trivial p_q0 rfl postsqA postsqB (show n < 1000000 by omega) (by decide) (by decide +kernel) (by decide +kernel) (by decide +kernel) (by decide +kernel) (by decide +kernel) (by decide +kernel) (by decide +kernel) (by decide +kernel) (by decide +kernel) (by decide +kernel) (by decide +kernel) (by decide +kernel) (by decide +kernel) (by decide +kernel) (by decide +kernel) rfl (by decide +kernel) rfl (by decide +kernel) postscn (by decide +kernel) postscd hn (postsPP hsf) hat h0 h7 cont
theorem p_blk (xs : Nat → Int32) (n : Nat) (hn : n ≤ 3584) {sf : Option Nat} (hsf : sf = none ∨ sf = some 1200000) : ∀ pc ∈ lwCb, lwBk (x_otS xs n sf) pc := by
  intro pc hpc
  have hpc : pc ∈ ([1516, 1569] : List Nat) := hpc
  simp only [List.mem_cons, List.not_mem_nil, or_false] at hpc
  rcases hpc with rfl | rfl
  · exact stop_blk hsf hn
  · exact posts_blk hsf hn
end XBlk25
