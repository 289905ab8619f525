/-! p5: the block. -/
noncomputable section XBlk5
theorem fieldcn : ∀ ρ : Nat → Int, 0 ≤ ρ 1 → ρ 1 + 7 ≤ ρ 0 → ρ 0 ≤ 3584 → lEv ρ (aCn lwN) + ((mMc xm43 + mMc xm225 : Nat) : Int) ≤ ((mMc xm0 : Nat) : Int) ∧ lEv ρ (aSn lwN) + ((mMs xm43 + mMs xm225 : Nat) : Int) ≤ ((mMs xm0 : Nat) : Int) := fun ρ h1 h2 h3 => by
  have e1 : lEv ρ (aCn lwN) = 536 + 58 * ρ 1 := by
    show lEv ρ (lAdd (lK 536) (lSc 58 (lSy 1))) = _
    rw [lAdd_ev, lK_ev, lSc_ev, lSy_ev]
  have e2 : lEv ρ (aSn lwN) = 9690 + 229 * ρ 1 := by
    show lEv ρ (lAdd (lK 9690) (lSc 229 (lSy 1))) = _
    rw [lAdd_ev, lK_ev, lSc_ev, lSy_ev]
  have k : 536 + 58 * 3577 + (mMc xm43 + mMc xm225) ≤ mMc xm0 ∧ 9690 + 229 * 3577 + (mMs xm43 + mMs xm225) ≤ mMs xm0 := by decide +kernel
  rw [e1, e2]
  constructor <;> omega
theorem fieldcd : ∀ ρ ρ2 : Nat → Int, ρ2 0 = ρ 0 → ρ2 1 = ρ 1 + 7 → lEv ρ (aCn lwN) + ((mMc xm43 + mMc xm225 : Nat) : Int) ≤ lEv ρ2 (aCn lwN) ∧ lEv ρ (aSn lwN) + ((mMs xm43 + mMs xm225 : Nat) : Int) ≤ lEv ρ2 (aSn lwN) := fun ρ ρ2 _ h => by
  have e1 : ∀ ρ : Nat → Int, lEv ρ (aCn lwN) = 536 + 58 * ρ 1 := fun ρ => by
    show lEv ρ (lAdd (lK 536) (lSc 58 (lSy 1))) = _
    rw [lAdd_ev, lK_ev, lSc_ev, lSy_ev]
  have e2 : ∀ ρ : Nat → Int, lEv ρ (aSn lwN) = 9690 + 229 * ρ 1 := fun ρ => by
    show lEv ρ (lAdd (lK 9690) (lSc 229 (lSy 1))) = _
    rw [lAdd_ev, lK_ev, lSc_ev, lSy_ev]
  have k : mMc xm43 + mMc xm225 ≤ 406 ∧ mMs xm43 + mMs xm225 ≤ 1603 := by decide +kernel
  rw [e1, e1, e2, e2, h]
  constructor <;> omega
theorem field_blk {xs : Nat → Int32} {n : Nat} {sf : Option Nat} (hsf : sf = none ∨ sf = some 1200000) (hn : n ≤ 3584) : lwBk (x_otS xs n sf) 295 := fun ρ σ ty H Lc cn2 sn2 hat h0 h7 cont =>
  cBlkD (p1 := 311) (p2 := 330) (pi := 1906) (n := 3) (ixA := 27) (ixB := 31) (n1 := 1) (n2 := 3) (n4 := 1) (n5 := 3) (n6 := 3) (n8 := 3) (n9 := 3) (x5 := (1573)) (x7 := 7) (x8 := (-1891)) (dp := 1299) (hd := 18) (cmp := True) trivial p_q0 rfl fieldqA fieldqB (show n < 1000000 by omega) (by decide) (by decide +kernel) (by decide +kernel) (by decide +kernel) (by decide +kernel) (by decide +kernel) (by decide +kernel) (by decide +kernel) (by decide +kernel) (by decide +kernel) (by decide +kernel) (by decide +kernel) (by decide +kernel) (by decide +kernel) (by decide +kernel) (by decide +kernel) rfl (by decide +kernel) rfl (by decide +kernel) fieldcn (by decide +kernel) fieldcd hn (fieldPP (x_allS xs n hsf)) hat h0 h7 cont
end XBlk5
