/-! p31 by hand, 6. -/
noncomputable section XH31_6
variable {ot : XO Int32} {dp : Nat} {H : List (XC Int32)} {a b tr tc fr r n m : Nat} {vs wl : List (XV Int32)}
def dnI : Nat → Int32
  | 0 => -1
  | k + 1 => nI k
theorem b_dn {M : Nat} (h : M < 256) : x_bin 1 (nI M) (nI 1) = dnI M := by
  rcases M with _ | M
  · rfl
  · show x_bin 1 (nI (M + 1)) (nI 1) = nI M
    exact bSubN (by omega)
theorem b_di {k : Nat} (h : k < 256) : x_bin 0 (nI k) (Int32.ofInt (-1)) = dnI k := by
  rcases k with _ | k
  · rfl
  · show x_bin 0 (nI (k + 1)) (Int32.ofInt (-1)) = nI k
    exact bDecN (by omega)
theorem b_sh : ∀ n, n ≤ 8 → x_bin 6 (nI 1) (nI n) = nI (2 ^ n) ∧ 2 ^ n ≤ 256 ∧ 0 < 2 ^ n := by decide +kernel
def fC (s : Nat) : Int := (bcI (nI s)).toInt
def pS (B : Nat → Int32) (n : Nat) (s : Nat) : Bool := decide (fS B s n 0 0 = fA B n 0 0)
theorem b_le {k b : Nat} : fC k ≤ fC b ↔ ¬ bcI (nI b) < bcI (nI k) := by
  rw [Int32.lt_iff_toInt_lt]
  show (bcI (nI k)).toInt ≤ (bcI (nI b)).toInt ↔ _
  omega
end XH31_6
