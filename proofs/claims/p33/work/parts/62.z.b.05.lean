/-! p33 by hand, 4. -/
noncomputable section XH33_4
variable {ot : XO Int32} {dp : Nat} {H H0 : List (XC Int32)}
/-- a cell that is not among those that are told -/
def c3R (H0 : List (XC Int32)) (As : List Nat) (x : Nat) (z : XC Int32) : Prop := H0[x]? = some z ∧ ∀ k : Nat, As[k]? ≠ some x
theorem hm_c {H0 H : List (XC Int32)} {As : List Nat} {Zs : List (XC Int32)} (h : hm H0 H As Zs) {x : Nat} {z : XC Int32} (g : c3R H0 As x z) : H[x]? = some z := hm_ro h g.1 g.2
/-- a row of ints, of which n are told -/
def c3W (H0 : List (XC Int32)) (As : List Nat) (r len : Nat) (f : Nat → Int32) (n : Nat) : Prop := ¬ r = 1000000 ∧ ∃ l, c3R H0 As r (.inr (0, l)) ∧ l.length = len ∧ ∀ k, k < n → l[k]? = some (.inl (f k))
/-- the class's code of a program -/
def cC (H0 : List (XC Int32)) (As : List Nat) (co : Nat) (p : rP) : Prop := ¬ 1000000 < co ∧ ∃ ro rl rr rn, c3R H0 As co (.inl (2, [.inr (some ro), .inr (some rl), .inr (some rr), .inr (some rn), .inl (nI (pNl p))])) ∧ c3W H0 As ro 12 (fun l => nI (pOp p l)) (pNl p) ∧ c3W H0 As rl 12 (fun l => nI (pLf p l)) (pNl p) ∧ c3W H0 As rr 12 (fun l => nI (pRt p l)) (pNl p) ∧ c3W H0 As rn 12 (fun l => nI (pNm p l)) (pNl p)
/-- its input -/
def cI (H0 : List (XC Int32)) (As : List Nat) (inp : Nat) (p : rP) : Prop := ¬ 1000000 < inp ∧ ∃ it, c3R H0 As inp (.inl (5, [.inr (some it), .inl (nI (pNi p))])) ∧ c3W H0 As it 12 (pIv p) (pNi p)
/-- its setting: two figures everywhere and no window, or all figures -/
def cS (H0 : List (XC Int32)) (As : List Nat) (se : Nat) (p : rP) : Prop := ¬ 1000000 < se ∧ ((∃ dr pr, c3R H0 As se (.inl (3, [.inl (nI 0), .inr (some dr), .inr (some pr), .inl (nI 0)])) ∧ c3W H0 As dr 6 (fun _ => nI 2) 6 ∧ c3W H0 As pr 6 (fun _ => -1) 6 ∧ pCut p = fmI ∧ pLp p = fun v => lpB 0 (if v < nI 100 then x_bin 0 (nI 1900) v else v)) ∨ ∃ dr pr, c3R H0 As se (.inl (3, [.inl (nI 1), .inr (some dr), .inr (some pr), .inl (nI 2)])) ∧ pCut p = (fun v => v) ∧ pLp p = lpB 2)
/-- what a program's lines are -/
def pOk (p : rP) : Prop := 0 < pNl p ∧ pNl p ≤ 12 ∧ pNi p ≤ 12 ∧ ∀ l, l < pNl p → pOp p l ≤ 11 ∧ pLf p l < 6 ∧ pRt p l < 6 ∧ pNm p l < 10000
end XH33_4
