/-! Rows by hand, more. -/
noncomputable section XNatX
variable {tb : XT} {tyl : List FieldType} {ot : XO Int32} {dp k pc n cn sn : Nat} {q : XM} {L : List (Nat × XV Int32)} {S : List (XV Int32)} {H H2 : List (XC Int32)} {v : Option (XV Int32)}
theorem xT_absNV {ix : Nat} {a y : Int32} (hq : tMth tb k = some q) (hi : mC q pc = some (.invokestatic ix, n)) (h0 : tCal tb (mO q) ix = none) (h1 : tBi tb (mO q) ix = some 4) (h2 : (decide (S.length ≤ 8) && decide (cn ≤ mMc q) && decide (sn ≤ mMs q)) = true) (h3 : x_cmp 3 a 0 = false) (hy : x_bin 1 0 a = y) (h : x_To tb tyl ot dp k (pc + 3) L (.inl y :: S) H cn sn v H2) : x_To tb tyl ot dp k pc L (.inl a :: S) H cn sn v H2 := xT_absN hq hi h0 h1 h2 h3 (by
  rw [hy]
  exact h)
theorem b_abs {a b : Nat} (h : a < b) (hb : b < 2 ^ 31) : x_cmp 3 (x_bin 1 (nI a) (nI b)) 0 = false ∧ x_bin 1 0 (x_bin 1 (nI a) (nI b)) = nI (b - a) := by
  have e : x_bin 1 0 (x_bin 1 (nI a) (nI b)) = nI (b - a) := by
    show 0 - (nI a - nI b) = nI (b - a)
    rw [Int32.zero_sub, Int32.neg_sub]
    exact bSubN (by omega)
  refine ⟨decide_eq_false fun z => ?_, e⟩
  have z : (0 : Int32) ≤ nI a - nI b := z
  have z := Int32.le_iff_toInt_le.mp z
  rw [Int32.toInt_sub, nI_toInt (by omega), nI_toInt hb, Int.bmod_eq_of_le (by simp; omega) (by simp; omega)] at z
  have z0 : (0 : Int32).toInt = 0 := rfl
  rw [z0] at z
  omega
end XNatX
