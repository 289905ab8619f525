/-! p33 by hand, 36. -/
noncomputable section XH33_36
variable {ot : XO Int32} {dp : Nat} {H H0 : List (XC Int32)}
def lkR (av bv : Nat → Int32) : Nat → Nat → Bool
  | 0, _ => true
  | d + 1, i => decide (av i = bv i) && lkR av bv d (i + 1)
/-- as many numbers, the same ones -/
def lkB (n : Nat) (av : Nat → Int32) (m : Nat) (bv : Nat → Int32) : Bool := decide (n = m) && lkR av bv n 0
theorem lkR_cg {a1 b1 a2 b2 : Nat → Int32} : ∀ d i, (∀ k, i ≤ k → k < i + d → a1 k = a2 k ∧ b1 k = b2 k) → lkR a1 b1 d i = lkR a2 b2 d i
  | 0, _, _ => rfl
  | d + 1, i, h => by
    show (decide (a1 i = b1 i) && lkR a1 b1 d (i + 1)) = (decide (a2 i = b2 i) && lkR a2 b2 d (i + 1))
    obtain ⟨e1, e2⟩ := h i (Nat.le_refl _) (by omega)
    rw [e1, e2, lkR_cg d (i + 1) (fun k h1 h2 => h k (by omega) (by omega))]
end XH33_36
