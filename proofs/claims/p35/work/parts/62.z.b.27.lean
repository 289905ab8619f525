/-! p35 by hand, 26. -/
noncomputable section XH3526
variable {ot : XO Int32} {dp : Nat} {H : List (XC Int32)} {p n m : Nat} {r : Nat → Nat} {pl mi la we ord hf : Nat → Nat}
/-- what posts answers -/
def poN (hf we : Nat → Nat) (n g : Nat) : Nat → Nat
  | 0 => wtD we (bsN (fun j => decide (hf j ≤ g)) (fun j => wtD we j n) (2 ^ n)) n
  | 1 => (bsN (fun j => decide (hf j ≤ g)) (fun j => wtD we j n) (2 ^ n))
  | z + 2 => gpN hf (rsN hf g (bsN (fun j => decide (hf j ≤ g)) (fun j => wtD we j n) (2 ^ n)) z) (g - 1 - z) (rsN hf g (bsN (fun j => decide (hf j ≤ g)) (fun j => wtD we j n) (2 ^ n)) z)
theorem b_m2 : ∀ g, g < 4 → 1 ≤ g → x_cmp 2 (x_bin 1 (nI 0) (nI 2)) (nI g) = true ∧ x_cmp 2 (x_bin 1 (nI 1) (nI 2)) (nI g) = true := by decide
end XH3526
