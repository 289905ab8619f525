/-! Bounds of ints: of sums, products, rests. -/
noncomputable section XIv
abbrev vIn (p : Int × Int) (x : Int32) : Prop := p.1 ≤ x.toInt ∧ x.toInt ≤ p.2
def vTop : Int × Int := (-2147483648, 2147483647)
def vCl (lo hi : Int) : Int × Int := if -2147483648 ≤ lo ∧ hi ≤ 2147483647 then (lo, hi) else vTop
def vMeet (p q : Int × Int) : Int × Int := (if p.1 ≤ q.1 then q.1 else p.1, if p.2 ≤ q.2 then p.2 else q.2)
theorem vTop_spec (x : Int32) : vIn vTop x := by
  have h1 := Int32.le_toInt x
  have h2 := Int32.toInt_lt x
  constructor
  · show (-2147483648 : Int) ≤ x.toInt
    omega
  · show x.toInt ≤ (2147483647 : Int)
    omega
theorem vMeet_spec {p q : Int × Int} {x : Int32} (h1 : vIn p x) (h2 : vIn q x) : vIn (vMeet p q) x := by
  unfold vMeet
  constructor
  · show (if p.1 ≤ q.1 then q.1 else p.1) ≤ x.toInt
    split
    · exact h2.1
    · exact h1.1
  · show x.toInt ≤ (if p.2 ≤ q.2 then p.2 else q.2)
    split
    · exact h1.2
    · exact h2.2
theorem vBm {n : Int} (h1 : -2147483648 ≤ n) (h2 : n ≤ 2147483647) : n.bmod (2 ^ 32) = n := Int.bmod_eq_of_le (by simp; omega) (by simp; omega)
theorem vCl_spec {lo hi n : Int} {x : Int32} (h1 : lo ≤ n) (h2 : n ≤ hi) (hx : x.toInt = n.bmod (2 ^ 32)) : vIn (vCl lo hi) x := by
  unfold vCl
  split
  · rename_i h
    rw [vBm (by omega) (by omega)] at hx
    exact ⟨by rw [hx]; exact h1, by rw [hx]; exact h2⟩
  · exact vTop_spec x
theorem vAnd {x y : Int32} (h : 0 ≤ y.toInt) : 0 ≤ (x &&& y).toInt ∧ (x &&& y).toInt ≤ y.toInt := by
  have e1 : (x &&& y).toInt = (x.toBitVec &&& y.toBitVec).toInt := rfl
  have e2 : y.toInt = y.toBitVec.toInt := rfl
  have m1 : y.toBitVec.msb = false := by
    rw [BitVec.msb_eq_toInt]
    exact decide_eq_false (by rw [← e2]; omega)
  have m2 : (x.toBitVec &&& y.toBitVec).msb = false := by
    rw [BitVec.msb_and, m1, Bool.and_false]
  rw [e1, e2, BitVec.toInt_eq_toNat_of_msb m1, BitVec.toInt_eq_toNat_of_msb m2, BitVec.toNat_and]
  have := @Nat.and_le_right x.toBitVec.toNat y.toBitVec.toNat
  omega
theorem vAnd2 {x y : Int32} (h : 0 ≤ x.toInt) : 0 ≤ (x &&& y).toInt ∧ (x &&& y).toInt ≤ x.toInt := by
  have e : x &&& y = y &&& x := Int32.and_comm x y
  rw [e]
  exact vAnd h
theorem vRem {x y : Int32} (h : 0 < y.toInt) : (x - x / y * y).toInt = x.toInt.tmod y.toInt := by
  have hy : y ≠ -1 := fun e => by
    rw [e] at h
    revert h
    decide
  have h1 := Int.tmod_lt_of_pos x.toInt h
  have h2 := Int.lt_tmod_of_pos x.toInt h
  have h3 := Int32.toInt_lt y
  rw [Int32.toInt_sub, Int32.toInt_mul, Int32.toInt_div_of_ne_right _ _ hy, Int.sub_bmod_bmod]
  have e : x.toInt - x.toInt.tdiv y.toInt * y.toInt = x.toInt.tmod y.toInt := by
    rw [Int.tmod_def, Int.mul_comm]
  rw [e]
  exact vBm (by omega) (by omega)
def vOp (o : Nat) (p q : Int × Int) : Int × Int :=
  if o = 0 then vCl (p.1 + q.1) (p.2 + q.2)
  else if o = 1 then vCl (p.1 - q.2) (p.2 - q.1)
  else if o = 2 then (if 0 ≤ p.1 ∧ 0 ≤ q.1 then vCl (p.1 * q.1) (p.2 * q.2) else vTop)
  else if o = 3 then (if 0 ≤ q.1 then (0, q.2) else if 0 ≤ p.1 then (0, p.2) else vTop)
  else if o = 9 then (if 0 < q.1 then (if 0 ≤ p.1 then 0 else 1 - q.2, q.2 - 1) else vTop)
  else vTop
theorem vOp_spec {o : Nat} {p q : Int × Int} {x y : Int32} (hp : vIn p x) (hq : vIn q y) : vIn (vOp o p q) (x_bin o x y) := by
  obtain ⟨p1, p2⟩ := hp
  obtain ⟨q1, q2⟩ := hq
  unfold vOp
  split
  · rename_i h
    subst h
    exact vCl_spec (n := x.toInt + y.toInt) (by omega) (by omega) (Int32.toInt_add x y)
  split
  · rename_i h
    subst h
    exact vCl_spec (n := x.toInt - y.toInt) (by omega) (by omega) (Int32.toInt_sub x y)
  split
  · rename_i h
    subst h
    split
    · rename_i hh
      exact vCl_spec (n := x.toInt * y.toInt) (Int.mul_le_mul p1 q1 hh.2 (by omega)) (Int.mul_le_mul p2 q2 (by omega) (by omega)) (Int32.toInt_mul x y)
    · exact vTop_spec _
  split
  · rename_i h
    subst h
    split
    · rename_i hh
      have h1 := vAnd (x := x) (y := y) (by omega)
      exact ⟨h1.1, Int.le_trans h1.2 q2⟩
    split
    · rename_i hh
      have h1 := vAnd2 (x := x) (y := y) (by omega)
      exact ⟨h1.1, Int.le_trans h1.2 p2⟩
    · exact vTop_spec _
  split
  · rename_i h
    subst h
    split
    · rename_i hh
      have hy : 0 < y.toInt := by omega
      have h1 := Int.tmod_lt_of_pos x.toInt hy
      have h2 := Int.lt_tmod_of_pos x.toInt hy
      have e : (x_bin 9 x y).toInt = x.toInt.tmod y.toInt := vRem hy
      constructor
      · show (if 0 ≤ p.1 then 0 else 1 - q.2) ≤ (x_bin 9 x y).toInt
        rw [e]
        split
        · exact Int.tmod_nonneg _ (by omega)
        · omega
      · show (x_bin 9 x y).toInt ≤ q.2 - 1
        rw [e]
        omega
    · exact vTop_spec _
  · exact vTop_spec _
end XIv
