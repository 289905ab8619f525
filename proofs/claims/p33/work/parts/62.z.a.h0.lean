/-! Rows by hand: ints that are naturals. -/
noncomputable section XNat
theorem bAddN (a b : Nat) : x_bin 0 (nI a) (nI b) = nI (a + b) := nI_add a b
theorem bSubN {a b : Nat} (h : b ≤ a) : x_bin 1 (nI a) (nI b) = nI (a - b) := by
  obtain ⟨d, rfl⟩ := Nat.exists_eq_add_of_le h
  rw [Nat.add_sub_cancel_left]
  show nI (b + d) - nI b = nI d
  rw [← nI_add, Int32.add_comm, Int32.add_sub_cancel]
theorem bMulN (a b : Nat) : x_bin 2 (nI a) (nI b) = nI (a * b) := (Int32.ofNat_mul a b).symm
theorem bDivN {a b : Nat} (ha : a < 2 ^ 31) (hb : b < 2 ^ 31) (h0 : 0 < b) : x_bin 8 (nI a) (nI b) = nI (a / b) := Int32.toInt_inj.mp (by
  have h1 : a / b ≤ a := Nat.div_le_self a b
  have h2 : (0 : Int) ≤ (a : Int) / (b : Int) := Int.ediv_nonneg (by omega) (by omega)
  have h3 : ((a / b : Nat) : Int) ≤ (a : Int) := by omega
  show (nI a / nI b).toInt = _
  rw [Int32.toInt_div, nI_toInt ha, nI_toInt hb, nI_toInt (by omega), ← Int.ofNat_tdiv, Int.bmod_eq_of_le (by simp; omega) (by simp; omega)])
theorem bRemN {a b : Nat} (ha : a < 2 ^ 31) (hb : b < 2 ^ 31) (h0 : 0 < b) : x_bin 9 (nI a) (nI b) = nI (a % b) := by
  have h1 := bDivN ha hb h0
  have h1 : nI a / nI b = nI (a / b) := h1
  have h2 := Nat.div_add_mod a b
  have h3 : nI (a / b) * nI b = nI (a / b * b) := bMulN _ _
  have h5 : a / b * b = b * (a / b) := Nat.mul_comm _ _
  have h4 : nI a - nI (a / b * b) = nI (a - a / b * b) := bSubN (by omega)
  show nI a - nI a / nI b * nI b = _
  rw [h1, h3, h4]
  congr 1
  omega
theorem c0Y {a b : Nat} (h : a = b) : x_cmp 0 (nI a) (nI b) = true := decide_eq_true (by rw [h])
theorem c0N {a b : Nat} (h : a ≠ b) (ha : a < 2 ^ 31) (hb : b < 2 ^ 31) : x_cmp 0 (nI a) (nI b) = false := decide_eq_false (fun e => h ((nI_eq ha hb).mp e))
theorem c1Y {a b : Nat} (h : a ≠ b) (ha : a < 2 ^ 31) (hb : b < 2 ^ 31) : x_cmp 1 (nI a) (nI b) = true := decide_eq_true (fun e => h ((nI_eq ha hb).mp e))
theorem c1N {a b : Nat} (h : a = b) : x_cmp 1 (nI a) (nI b) = false := decide_eq_false (fun e => e (by rw [h]))
theorem c2Y {a b : Nat} (h : a < b) (ha : a < 2 ^ 31) (hb : b < 2 ^ 31) : x_cmp 2 (nI a) (nI b) = true := decide_eq_true ((nI_ltI ha hb).mpr h)
theorem c2N {a b : Nat} (h : b ≤ a) (ha : a < 2 ^ 31) (hb : b < 2 ^ 31) : x_cmp 2 (nI a) (nI b) = false := decide_eq_false (fun e => by
  have := (nI_ltI ha hb).mp e
  omega)
theorem c3Y {a b : Nat} (h : b ≤ a) (ha : a < 2 ^ 31) (hb : b < 2 ^ 31) : x_cmp 3 (nI a) (nI b) = true := decide_eq_true ((nI_leI hb ha).mpr h)
theorem c3N {a b : Nat} (h : a < b) (ha : a < 2 ^ 31) (hb : b < 2 ^ 31) : x_cmp 3 (nI a) (nI b) = false := decide_eq_false (fun e => by
  have := (nI_leI hb ha).mp e
  omega)
theorem c4Y {a b : Nat} (h : b < a) (ha : a < 2 ^ 31) (hb : b < 2 ^ 31) : x_cmp 4 (nI a) (nI b) = true := decide_eq_true ((nI_ltI hb ha).mpr h)
theorem c4N {a b : Nat} (h : a ≤ b) (ha : a < 2 ^ 31) (hb : b < 2 ^ 31) : x_cmp 4 (nI a) (nI b) = false := decide_eq_false (fun e => by
  have := (nI_ltI hb ha).mp e
  omega)
theorem c5Y {a b : Nat} (h : a ≤ b) (ha : a < 2 ^ 31) (hb : b < 2 ^ 31) : x_cmp 5 (nI a) (nI b) = true := decide_eq_true ((nI_leI ha hb).mpr h)
theorem c5N {a b : Nat} (h : b < a) (ha : a < 2 ^ 31) (hb : b < 2 ^ 31) : x_cmp 5 (nI a) (nI b) = false := decide_eq_false (fun e => by
  have := (nI_leI ha hb).mp e
  omega)
theorem gself {α : Type} {H : List α} {i : Nat} {z w : α} (h : H[i]? = some z) : (H.set i w)[i]? = some w := List.getElem?_set_self (List.getElem?_eq_some_iff.mp h).1
theorem gne {α : Type} {H : List α} {i j : Nat} {z w : α} (h : H[j]? = some z) (e : i ≠ j) : (H.set i w)[j]? = some z := (List.getElem?_set_ne e).trans h
theorem gtag {α : Type} {H : List α} {i j : Nat} {x z w : α} (hi : H[i]? = some x) (hj : H[j]? = some z) (e : x ≠ z) : (H.set i w)[j]? = some z := gne hj (fun q => e (by
  subst q
  rw [hi] at hj
  exact Option.some.inj hj))
theorem set_same {α : Type} {l : List α} {i : Nat} {z : α} (h : l[i]? = some z) : l.set i z = l := List.ext_getElem? fun j => by
  by_cases e : i = j
  · subst e
    rw [List.getElem?_set_self (List.getElem?_eq_some_iff.mp h).1, h]
  · rw [List.getElem?_set_ne e]
theorem set_set {α : Type} (l : List α) (i : Nat) (x z : α) : (l.set i x).set i z = l.set i z := List.set_set ..
variable {tb : XT} {tyl : List FieldType} {ot : XO Int32} {dp k pc n cn sn : Nat} {q : XM} {L : List (Nat × XV Int32)} {S : List (XV Int32)} {H H2 : List (XC Int32)} {v : Option (XV Int32)}
theorem xT_biV {x : Int} {y : Int32} (hq : tMth tb k = some q) (hi : mC q pc = some (.bipush x, n)) (hx : (Int8.ofInt x).toInt32 = y) (h : x_To tb tyl ot dp k (pc + 2) L (.inl y :: S) H cn sn v H2) : x_To tb tyl ot dp k pc L S H cn sn v H2 := xT_bipush hq hi (by
  rw [show dKc dC (Int8.ofInt x).toInt32 = y from hx]
  exact h)
theorem xT_siV {x : Int} {y : Int32} (hq : tMth tb k = some q) (hi : mC q pc = some (.sipush x, n)) (hx : (Int16.ofInt x).toInt32 = y) (h : x_To tb tyl ot dp k (pc + 3) L (.inl y :: S) H cn sn v H2) : x_To tb tyl ot dp k pc L S H cn sn v H2 := xT_sipush hq hi (by
  rw [show dKc dC (Int16.ofInt x).toInt32 = y from hx]
  exact h)
theorem xT_iincV {j : Nat} {x : Int} {a y : Int32} (hq : tMth tb k = some q) (hi : mC q pc = some (.iinc j x, n)) (h1 : x_lk L j = some (.inl a)) (h2 : j < mL q) (hy : x_bin 0 a (Int32.ofInt x) = y) (h : x_To tb tyl ot dp k (pc + 3) (x_st L j (.inl y)) S H cn sn v H2) : x_To tb tyl ot dp k pc L S H cn sn v H2 := xT_iinc hq hi h1 h2 (by
  rw [show dBin dC 0 a (dKc dC (Int32.ofInt x)) = y from hy]
  exact h)
theorem bIncN (a : Nat) : x_bin 0 (nI a) (Int32.ofInt 1) = nI (a + 1) := nI_add a 1
theorem bDecN {a : Nat} (h : 0 < a) : x_bin 0 (nI a) (Int32.ofInt (-1)) = nI (a - 1) := dec_nI h
theorem xT_iaddV {a b y : Int32} (hq : tMth tb k = some q) (hi : mC q pc = some (.iadd, n)) (hy : x_bin 0 a b = y) (h : x_To tb tyl ot dp k (pc + 1) L (.inl y :: S) H cn sn v H2) : x_To tb tyl ot dp k pc L (.inl b :: .inl a :: S) H cn sn v H2 := xT_iadd hq hi (by
  rw [show dBin dC 0 a b = y from hy]
  exact h)
theorem xT_isubV {a b y : Int32} (hq : tMth tb k = some q) (hi : mC q pc = some (.isub, n)) (hy : x_bin 1 a b = y) (h : x_To tb tyl ot dp k (pc + 1) L (.inl y :: S) H cn sn v H2) : x_To tb tyl ot dp k pc L (.inl b :: .inl a :: S) H cn sn v H2 := xT_isub hq hi (by
  rw [show dBin dC 1 a b = y from hy]
  exact h)
theorem xT_imulV {a b y : Int32} (hq : tMth tb k = some q) (hi : mC q pc = some (.imul, n)) (hy : x_bin 2 a b = y) (h : x_To tb tyl ot dp k (pc + 1) L (.inl y :: S) H cn sn v H2) : x_To tb tyl ot dp k pc L (.inl b :: .inl a :: S) H cn sn v H2 := xT_imul hq hi (by
  rw [show dBin dC 2 a b = y from hy]
  exact h)
theorem xT_iandV {a b y : Int32} (hq : tMth tb k = some q) (hi : mC q pc = some (.iand, n)) (hy : x_bin 3 a b = y) (h : x_To tb tyl ot dp k (pc + 1) L (.inl y :: S) H cn sn v H2) : x_To tb tyl ot dp k pc L (.inl b :: .inl a :: S) H cn sn v H2 := xT_iand hq hi (by
  rw [show dBin dC 3 a b = y from hy]
  exact h)
theorem xT_iorV {a b y : Int32} (hq : tMth tb k = some q) (hi : mC q pc = some (.ior, n)) (hy : x_bin 4 a b = y) (h : x_To tb tyl ot dp k (pc + 1) L (.inl y :: S) H cn sn v H2) : x_To tb tyl ot dp k pc L (.inl b :: .inl a :: S) H cn sn v H2 := xT_ior hq hi (by
  rw [show dBin dC 4 a b = y from hy]
  exact h)
theorem xT_ixorV {a b y : Int32} (hq : tMth tb k = some q) (hi : mC q pc = some (.ixor, n)) (hy : x_bin 5 a b = y) (h : x_To tb tyl ot dp k (pc + 1) L (.inl y :: S) H cn sn v H2) : x_To tb tyl ot dp k pc L (.inl b :: .inl a :: S) H cn sn v H2 := xT_ixor hq hi (by
  rw [show dBin dC 5 a b = y from hy]
  exact h)
theorem xT_ishlV {a b y : Int32} (hq : tMth tb k = some q) (hi : mC q pc = some (.ishl, n)) (hy : x_bin 6 a b = y) (h : x_To tb tyl ot dp k (pc + 1) L (.inl y :: S) H cn sn v H2) : x_To tb tyl ot dp k pc L (.inl b :: .inl a :: S) H cn sn v H2 := xT_ishl hq hi (by
  rw [show dBin dC 6 a b = y from hy]
  exact h)
theorem xT_ishrV {a b y : Int32} (hq : tMth tb k = some q) (hi : mC q pc = some (.ishr, n)) (hy : x_bin 7 a b = y) (h : x_To tb tyl ot dp k (pc + 1) L (.inl y :: S) H cn sn v H2) : x_To tb tyl ot dp k pc L (.inl b :: .inl a :: S) H cn sn v H2 := xT_ishr hq hi (by
  rw [show dBin dC 7 a b = y from hy]
  exact h)
theorem xT_iushrV {a b y : Int32} (hq : tMth tb k = some q) (hi : mC q pc = some (.iushr, n)) (hy : x_bin 10 a b = y) (h : x_To tb tyl ot dp k (pc + 1) L (.inl y :: S) H cn sn v H2) : x_To tb tyl ot dp k pc L (.inl b :: .inl a :: S) H cn sn v H2 := xT_iushr hq hi (by
  rw [show dBin dC 10 a b = y from hy]
  exact h)
theorem xT_idivV {a b y : Int32} (hq : tMth tb k = some q) (hi : mC q pc = some (.idiv, n)) (h0 : x_cmp 0 b 0 = false) (hy : x_bin 8 a b = y) (h : x_To tb tyl ot dp k (pc + 1) L (.inl y :: S) H cn sn v H2) : x_To tb tyl ot dp k pc L (.inl b :: .inl a :: S) H cn sn v H2 := xT_idiv hq hi h0 (by
  rw [show dBin dC 8 a b = y from hy]
  exact h)
theorem xT_iremV {a b y : Int32} (hq : tMth tb k = some q) (hi : mC q pc = some (.irem, n)) (h0 : x_cmp 0 b 0 = false) (hy : x_bin 9 a b = y) (h : x_To tb tyl ot dp k (pc + 1) L (.inl y :: S) H cn sn v H2) : x_To tb tyl ot dp k pc L (.inl b :: .inl a :: S) H cn sn v H2 := xT_irem hq hi h0 (by
  rw [show dBin dC 9 a b = y from hy]
  exact h)
end XNat
