/-! p31 by hand, 2. -/
noncomputable section XH31_2
variable {ot : XO Int32} {dp : Nat} {H : List (XC Int32)} {a b tr tc fr r n m : Nat} {vs wl : List (XV Int32)}
/-- the class: its tests (n of them, the row of their cells), its faults (m) -/
def kT (H : List (XC Int32)) (a tr tc fr n m : Nat) (vs : List (XV Int32)) : Prop := ¬ 1000000 < a ∧ ¬ 1000000 < tr ∧ ¬ 1000000 < fr ∧ tc < 1000000 ∧ n ≤ 8 ∧ m ≤ 8 ∧ ∃ gs ts us, H[a]? = some (.inl (0, gs)) ∧ gs[14]? = some (.inr (some tr)) ∧ gs[15]? = some (.inr (some fr)) ∧ H[tr]? = some (.inl (6, ts)) ∧ ts[1]? = some (.inl (nI 2)) ∧ ts[2]? = some (.inr (some tc)) ∧ ts[3]? = some (.inl (nI n)) ∧ H[fr]? = some (.inl (6, us)) ∧ us[3]? = some (.inl (nI m)) ∧ H[tc]? = some (.inr (0, vs)) ∧ vs.length = 16
/-- the reference: how many tests, faults -/
def kM (H : List (XC Int32)) (b n m : Nat) : Prop := ¬ 1000000 < b ∧ n ≤ 8 ∧ m ≤ 8 ∧ ∃ gs, H[b]? = some (.inl (12, gs)) ∧ gs[32]? = some (.inl (nI n)) ∧ gs[34]? = some (.inl (nI m))
def isBy (H : List (XC Int32)) (r : Nat) (wl : List (XV Int32)) : Prop := r < 1000000 ∧ H[r]? = some (.inr (0, wl)) ∧ wl.length = 8
end XH31_2
