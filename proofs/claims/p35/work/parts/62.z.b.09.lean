/-! p35 by hand, 8. -/
noncomputable section XH358
variable {ot : XO Int32} {dp : Nat} {H : List (XC Int32)} {p n m : Nat} {r : Nat → Nat} {pl mi la we ord hf : Nat → Nat}
/-- the reference's stops -/
def isSt (H : List (XC Int32)) (b n : Nat) (pl mi la we : Nat → Nat) : Prop := ∃ (fs sr : List (XV Int32)) (st : Nat) (rr : Nat → Nat), (¬ 1000000 < b ∧ H[b]? = some (.inl (12, fs)) ∧ fs[36]? = some (.inl (nI n)) ∧ n ≤ 8 ∧ fs[37]? = some (.inr (some st)) ∧ H[st]? = some (.inr (5, sr)) ∧ sr.length = 8) ∧ (∀ x, x < 8 → sr[x]? = some (.inr (some (rr x))) ∧ rr x < 1000000 ∧ ∃ w, H[rr x]? = some (.inr (0, w)) ∧ w.length = 4 ∧ (x < n → w = [.inl (nI (pl x)), .inl (nI (mi x)), .inl (nI (la x)), .inl (nI (we x))])) ∧ ∀ x y, x < 8 → y < 8 → rr x = rr y → x = y
/-- an order of the stops by minute, then by number -/
def ordOk (n : Nat) (ord mi : Nat → Nat) : Prop := (∀ k, k < n → ord k < n) ∧ (∀ j k, j < k → k < n → mi (ord j) < mi (ord k) ∨ (mi (ord j) = mi (ord k) ∧ ord j < ord k)) ∧ ∀ x, x < n → ∃ j, j < n ∧ ord j = x
theorem ord_inj {n : Nat} {ord mi : Nat → Nat} (h : ordOk n ord mi) {j k : Nat} (hj : j < n) (hk : k < n) (e : ord j = ord k) : j = k := by
  rcases Nat.lt_trichotomy j k with c | c | c
  · rcases h.2.1 j k c hk with z | z
    · rw [e] at z
      omega
    · omega
  · exact c
  · rcases h.2.1 k j c hj with z | z
    · rw [e] at z
      omega
    · omega
set_option maxRecDepth 1000000 in
theorem b_clrb : ∀ l, l < 256 → ∀ k, k < 8 → bitP l k = 1 → ∀ x, x < 8 → bitP (l - 2 ^ k) x = if x = k then 0 else bitP l x := by decide +kernel
theorem bitP_b {a s : Nat} : bitP a s = 0 ∨ bitP a s = 1 := by
  have h : bitP a s ≤ 1 := Nat.and_le_right
  omega
set_option maxRecDepth 1000000 in
theorem b_big0 : ∀ n, n < 9 → ∀ s, s < 256 → ∀ x, x < 8 → (decide (s < 2 ^ n) && decide (n ≤ x)) = true → ¬ bitP s x = 1 := by decide +kernel
theorem b_big (n : Nat) (hn : n < 9) (s : Nat) (hs : s < 2 ^ n) (x : Nat) (hx : x < 8) (h : n ≤ x) : ¬ bitP s x = 1 := by
  have := (b_shl n hn).2.1
  exact b_big0 n hn s (by omega) x hx (by rw [decide_eq_true hs, decide_eq_true h]; rfl)
end XH358
