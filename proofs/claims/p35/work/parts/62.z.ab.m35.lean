/-! Stops and hands: the arithmetic. -/
noncomputable section XM35
def bitP (a s : Nat) : Nat := (a >>> s) &&& 1
def dN (a b : Nat) : Nat := if a < b then b - a else a - b
def mnP (a b : Nat) : Nat := if b < a then b else a
/-- does one hand meet the set: d of the order are left from the k-th on, the hand stands at w, is free at f -/
def mtD (ord pl mi la : Nat → Nat) (s : Nat) : Nat → Nat → Nat → Nat → Nat
  | 0, _, _, _ => 1
  | d + 1, k, w, f => if bitP s (ord k) = 1 then (if mi (ord k) < f + dN (pl (ord k)) w then 0 else mtD ord pl mi la s d (k + 1) (pl (ord k)) (mi (ord k) + la (ord k))) else mtD ord pl mi la s d (k + 1) w f
theorem mtD_b {ord pl mi la : Nat → Nat} {s : Nat} : ∀ d k w f, mtD ord pl mi la s d k w f = 0 ∨ mtD ord pl mi la s d k w f = 1
  | 0, _, _, _ => Or.inr rfl
  | d + 1, k, w, f => by
    show (if bitP s (ord k) = 1 then (if mi (ord k) < f + dN (pl (ord k)) w then 0 else mtD ord pl mi la s d (k + 1) (pl (ord k)) (mi (ord k) + la (ord k))) else mtD ord pl mi la s d (k + 1) w f) = 0 ∨ (if bitP s (ord k) = 1 then (if mi (ord k) < f + dN (pl (ord k)) w then 0 else mtD ord pl mi la s d (k + 1) (pl (ord k)) (mi (ord k) + la (ord k))) else mtD ord pl mi la s d (k + 1) w f) = 1
    split
    · split
      · exact Or.inl rfl
      · exact mtD_b d _ _ _
    · exact mtD_b d _ _ _
theorem bit0 (k : Nat) : bitP 0 k = 0 := by
  unfold bitP
  rw [Nat.zero_shiftRight]
  rfl
theorem mtD_0 {ord pl mi la : Nat → Nat} : ∀ d k w f, mtD ord pl mi la 0 d k w f = 1
  | 0, _, _, _ => rfl
  | d + 1, k, w, f => by
    show (if bitP 0 (ord k) = 1 then _ else mtD ord pl mi la 0 d (k + 1) w f) = 1
    rw [if_neg (by rw [bit0]; decide)]
    exact mtD_0 d _ _ _
theorem mtD_cg {ord pl mi la ord2 pl2 mi2 la2 : Nat → Nat} {s n : Nat} (ho : ∀ k, k < n → ord2 k = ord k) (hl : ∀ k, k < n → pl2 (ord k) = pl (ord k) ∧ mi2 (ord k) = mi (ord k) ∧ la2 (ord k) = la (ord k)) : ∀ d k w f, k + d ≤ n → mtD ord2 pl2 mi2 la2 s d k w f = mtD ord pl mi la s d k w f
  | 0, _, _, _, _ => rfl
  | d + 1, k, w, f, h => by
    obtain ⟨h1, h2, h3⟩ := hl k (by omega)
    have i1 := mtD_cg (s := s) ho hl d (k + 1) (pl (ord k)) (mi (ord k) + la (ord k)) (by omega)
    have i2 := mtD_cg (s := s) ho hl d (k + 1) w f (by omega)
    show (if bitP s (ord2 k) = 1 then (if mi2 (ord2 k) < f + dN (pl2 (ord2 k)) w then 0 else mtD ord2 pl2 mi2 la2 s d (k + 1) (pl2 (ord2 k)) (mi2 (ord2 k) + la2 (ord2 k))) else mtD ord2 pl2 mi2 la2 s d (k + 1) w f) = _
    rw [ho k (by omega), h1, h2, h3, i1, i2]
    rfl
/-- the order with one more at q -/
def insO (ord : Nat → Nat) (q n : Nat) : Nat → Nat := fun j => if j < q then ord j else if j = q then n else ord (j - 1)
theorem mtD_hi {ord pl mi la : Nat → Nat} {s q n : Nat} : ∀ d k w f, q < k → mtD (insO ord q n) pl mi la s d k w f = mtD ord pl mi la s d (k - 1) w f
  | 0, _, _, _, _ => rfl
  | d + 1, k, w, f, h => by
    have e : insO ord q n k = ord (k - 1) := by
      unfold insO
      rw [if_neg (by omega), if_neg (by omega)]
    have i : ∀ w f, mtD (insO ord q n) pl mi la s d (k + 1) w f = mtD ord pl mi la s d (k - 1 + 1) w f := fun w f => by
      rw [mtD_hi d (k + 1) w f (by omega), show k + 1 - 1 = k - 1 + 1 by omega]
    show (if bitP s (insO ord q n k) = 1 then (if mi (insO ord q n k) < f + dN (pl (insO ord q n k)) w then 0 else mtD (insO ord q n) pl mi la s d (k + 1) (pl (insO ord q n k)) (mi (insO ord q n k) + la (insO ord q n k))) else mtD (insO ord q n) pl mi la s d (k + 1) w f) = _
    rw [e, i, i]
    rfl
theorem mtD_lo {ord pl mi la : Nat → Nat} {s q n : Nat} (hs : ¬ bitP s n = 1) : ∀ d k w f, k ≤ q → q ≤ k + d → mtD (insO ord q n) pl mi la s (d + 1) k w f = mtD ord pl mi la s d k w f
  | d, k, w, f, h1, h2 => by
    by_cases e : k = q
    · subst e
      have z : insO ord k n k = n := by
        unfold insO
        rw [if_neg (by omega), if_pos rfl]
      show (if bitP s (insO ord k n k) = 1 then _ else mtD (insO ord k n) pl mi la s d (k + 1) w f) = _
      rw [z, if_neg hs, mtD_hi d (k + 1) w f (by omega)]
      rfl
    · rcases d with _ | d
      · omega
      · have z : insO ord q n k = ord k := if_pos (by omega)
        have i : ∀ w f, mtD (insO ord q n) pl mi la s (d + 1) (k + 1) w f = mtD ord pl mi la s d (k + 1) w f := fun w f => mtD_lo hs d (k + 1) w f (by omega) (by omega)
        show (if bitP s (insO ord q n k) = 1 then (if mi (insO ord q n k) < f + dN (pl (insO ord q n k)) w then 0 else mtD (insO ord q n) pl mi la s (d + 1) (k + 1) (pl (insO ord q n k)) (mi (insO ord q n k) + la (insO ord q n k))) else mtD (insO ord q n) pl mi la s (d + 1) (k + 1) w f) = _
        rw [z, i, i]
        rfl
/-- the fewest hands by the parts below b -/
def fewL (hf : Nat → Nat) (s : Nat) : Nat → Nat
  | 0 => 9
  | b + 1 => if b ≠ 0 ∧ andn b s = 0 ∧ hf b = 1 then mnP (fewL hf s b) (1 + hf (s - b)) else fewL hf s b
set_option maxRecDepth 1000000 in
theorem b_sub1 : ∀ o, o < 128 → ∀ s, s < 256 → andn o s = 0 → o ≤ s ∧ x_bin 5 (nI s) (nI o) = nI (s - o) ∧ andn s o = s - o := by decide +kernel
set_option maxRecDepth 1000000 in
theorem b_sub2 : ∀ o, o < 128 → ∀ s, s < 256 → andn (128 + o) s = 0 → 128 + o ≤ s ∧ x_bin 5 (nI s) (nI (128 + o)) = nI (s - (128 + o)) ∧ andn s (128 + o) = s - (128 + o) := by decide +kernel
theorem b_sub {o s : Nat} (hs : s < 256) (ho : o < 256) (h : andn o s = 0) : o ≤ s ∧ x_bin 5 (nI s) (nI o) = nI (s - o) ∧ andn s o = s - o := by
  by_cases c : o < 128
  · exact b_sub1 o c s hs h
  · have e : 128 + (o - 128) = o := by omega
    have := b_sub2 (o - 128) (by omega) s hs (by rw [e]; exact h)
    rw [e] at this
    exact this
end XM35
