/-! p35 by hand, 2. -/
noncomputable section XH352
variable {ot : XO Int32} {dp : Nat} {H : List (XC Int32)} {p n m : Nat} {r : Nat → Nat} {pl mi la we ord hf : Nat → Nat}
theorem few_9 {hf : Nat → Nat} {s : Nat} : ∀ b, fewL hf s b ≤ 9
  | 0 => Nat.le_refl 9
  | b + 1 => by
    have := few_9 (hf := hf) (s := s) b
    show (if b ≠ 0 ∧ andn b s = 0 ∧ hf b = 1 then mnP (fewL hf s b) (1 + hf (s - b)) else fewL hf s b) ≤ 9
    unfold mnP
    repeat' split
    all_goals omega
end XH352
