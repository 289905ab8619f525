/-! What a chip's answers leave: the arithmetic. -/
noncomputable section XM25
def zrN (pv rl : Nat) : Nat := if pv = 0 then (if rl = 0 then 1 else 6) else (if rl = 1 then 2 else 5)
def chOk (pv rl lo hi R n : Nat) (y : Nat → Nat) : Prop := (rl < 3) ∧ (lo ≤ pv) ∧ (pv ≤ hi) ∧ (hi ≤ 100) ∧ (n ≤ 30) ∧ (∀ k, k < n → 1900 ≤ y k ∧ y k < 2100) ∧ (∀ k, k < n → (pv ≤ y k % 100 → hi ≤ y k % 100) ∧ (y k % 100 < pv → y k % 100 + 1 ≤ lo)) ∧ ((R = 7 ∧ ∀ k, k < n → y k % 100 ≠ 0) ∨ (R = zrN pv rl ∧ ∃ k, k < n ∧ y k % 100 = 0)) ∧ (lo = 0 ∨ ∃ k, k < n ∧ y k % 100 + 1 = lo) ∧ (hi = 100 ∨ ∃ k, k < n ∧ y k % 100 = hi)
theorem chOk.r3 {pv rl lo hi R n : Nat} {y : Nat → Nat} (h : chOk pv rl lo hi R n y) : rl < 3 := h.1
theorem chOk.lp {pv rl lo hi R n : Nat} {y : Nat → Nat} (h : chOk pv rl lo hi R n y) : lo ≤ pv := h.2.1
theorem chOk.ph {pv rl lo hi R n : Nat} {y : Nat → Nat} (h : chOk pv rl lo hi R n y) : pv ≤ hi := h.2.2.1
theorem chOk.h1 {pv rl lo hi R n : Nat} {y : Nat → Nat} (h : chOk pv rl lo hi R n y) : hi ≤ 100 := h.2.2.2.1
theorem chOk.n3 {pv rl lo hi R n : Nat} {y : Nat → Nat} (h : chOk pv rl lo hi R n y) : n ≤ 30 := h.2.2.2.2.1
theorem chOk.yr {pv rl lo hi R n : Nat} {y : Nat → Nat} (h : chOk pv rl lo hi R n y) : ∀ k, k < n → 1900 ≤ y k ∧ y k < 2100 := h.2.2.2.2.2.1
theorem chOk.el {pv rl lo hi R n : Nat} {y : Nat → Nat} (h : chOk pv rl lo hi R n y) : ∀ k, k < n → (pv ≤ y k % 100 → hi ≤ y k % 100) ∧ (y k % 100 < pv → y k % 100 + 1 ≤ lo) := h.2.2.2.2.2.2.1
theorem chOk.zz {pv rl lo hi R n : Nat} {y : Nat → Nat} (h : chOk pv rl lo hi R n y) : (R = 7 ∧ ∀ k, k < n → y k % 100 ≠ 0) ∨ (R = zrN pv rl ∧ ∃ k, k < n ∧ y k % 100 = 0) := h.2.2.2.2.2.2.2.1
theorem chOk.wl {pv rl lo hi R n : Nat} {y : Nat → Nat} (h : chOk pv rl lo hi R n y) : lo = 0 ∨ ∃ k, k < n ∧ y k % 100 + 1 = lo := h.2.2.2.2.2.2.2.2.1
theorem chOk.wh {pv rl lo hi R n : Nat} {y : Nat → Nat} (h : chOk pv rl lo hi R n y) : hi = 100 ∨ ∃ k, k < n ∧ y k % 100 = hi := h.2.2.2.2.2.2.2.2.2
theorem zr_8 {pv rl : Nat} : zrN pv rl < 8 ∧ zrN pv rl ≠ 0 := by
  unfold zrN
  split <;> split <;> decide
theorem chOk.R8 {pv rl lo hi R n : Nat} {y : Nat → Nat} (h : chOk pv rl lo hi R n y) : R < 8 ∧ R ≠ 0 := by
  rcases h.zz with ⟨rfl, -⟩ | ⟨rfl, -⟩
  · decide
  · exact zr_8
theorem b_7 : ∀ s, s < 3 → bitN 7 s = 1 := by decide
theorem l1900 : ∀ r, r < 3 → leapN 1900 r = if r = 0 then 1 else 0 := by decide
theorem l2000 : ∀ r, r < 3 → leapN 2000 r = if r = 1 then 0 else 1 := by decide
theorem zr_bit : ∀ s, s < 3 → ∀ r, r < 3 → (bitN (if r = 0 then 1 else 6) s = 1 ↔ leapN 1900 s = leapN 1900 r) ∧ (bitN (if r = 1 then 2 else 5) s = 1 ↔ leapN 2000 s = leapN 2000 r) := by decide
theorem zr_p {pv s r : Nat} (hs : s < 3) (hr : r < 3) : bitN (zrN pv r) s = 1 ↔ leapN (meanN 0 pv) s = leapN (meanN 0 pv) r := by
  obtain ⟨h1, h2⟩ := zr_bit s hs r hr
  by_cases h : pv = 0
  · rw [show zrN pv r = (if r = 0 then 1 else 6) from if_pos h, show meanN 0 pv = 1900 from if_pos (by omega)]
    exact h1
  · rw [show zrN pv r = (if r = 1 then 2 else 5) from if_neg h, show meanN 0 pv = 2000 from if_neg (by omega)]
    exact h2
theorem leap_any {Y r s : Nat} (h : Y % 100 ≠ 0) : leapN Y r = leapN Y s := by
  unfold leapN
  by_cases h4 : Y % 4 = 0
  · rw [if_pos ⟨h4, Or.inr (Or.inl h)⟩, if_pos ⟨h4, Or.inr (Or.inl h)⟩]
  · rw [if_neg (fun e => h4 e.1), if_neg (fun e => h4 e.1)]
theorem fit_iff {pv rl lo hi R n : Nat} {y : Nat → Nat} (h : chOk pv rl lo hi R n y) {g : Nat} (hg : g < 303) : fitV pv rl y g n = 1 ↔ lo ≤ g / 3 ∧ g / 3 ≤ hi ∧ bitN R (g % 3) = 1 := by
  have hs : g % 3 < 3 := Nat.mod_lt _ (by decide)
  constructor
  · intro hf
    have all : ∀ k, k < n → ansN (g / 3) (g % 3) (y k) = ansN pv rl (y k) := fun k hk => Classical.byContradiction fun hc => by
      rw [fitV_0 n k hk hc] at hf
      exact absurd hf (by decide)
    have cmp : ∀ k, k < n → (g / 3 ≤ y k % 100 ↔ pv ≤ y k % 100) ∧ leapN (meanN (y k % 100) pv) (g % 3) = leapN (meanN (y k % 100) pv) rl := fun k hk => by
      have e := all k hk
      have l1 := leapN_le (meanN (y k % 100) (g / 3)) (g % 3)
      have l2 := leapN_le (meanN (y k % 100) pv) rl
      unfold ansN at e
      by_cases a : g / 3 ≤ y k % 100 <;> by_cases b : pv ≤ y k % 100
      · rw [show meanN (y k % 100) (g / 3) = 1900 + y k % 100 from if_pos a, show meanN (y k % 100) pv = 1900 + y k % 100 from if_pos b] at *
        exact ⟨⟨fun _ => b, fun _ => a⟩, by omega⟩
      · rw [show meanN (y k % 100) (g / 3) = 1900 + y k % 100 from if_pos a, show meanN (y k % 100) pv = 2000 + y k % 100 from if_neg b] at *
        omega
      · rw [show meanN (y k % 100) (g / 3) = 2000 + y k % 100 from if_neg a, show meanN (y k % 100) pv = 1900 + y k % 100 from if_pos b] at *
        omega
      · rw [show meanN (y k % 100) (g / 3) = 2000 + y k % 100 from if_neg a, show meanN (y k % 100) pv = 2000 + y k % 100 from if_neg b] at *
        exact ⟨⟨fun c => absurd c a, fun c => absurd c b⟩, by omega⟩
    have lp := h.lp
    have ph := h.ph
    refine ⟨?_, ?_, ?_⟩
    · rcases h.wl with e | ⟨k, hk, e⟩
      · omega
      · have c := (cmp k hk).1
        by_cases d : g / 3 ≤ y k % 100
        · have := c.mp d
          omega
        · omega
    · rcases h.wh with e | ⟨k, hk, e⟩
      · omega
      · have c := (cmp k hk).1.mpr (by omega)
        omega
    · rcases h.zz with ⟨e, -⟩ | ⟨e, k, hk, e0⟩
      · rw [e]
        exact b_7 _ hs
      · rw [e]
        have c := (cmp k hk).2
        rw [e0] at c
        exact (zr_p hs h.r3).mpr c
  · rintro ⟨h1, h2, h3⟩
    refine fitV_1 n (fun k hk => ?_)
    obtain ⟨e1, e2⟩ := h.el k hk
    have key : meanN (y k % 100) (g / 3) = meanN (y k % 100) pv := by
      unfold meanN
      by_cases b : pv ≤ y k % 100
      · rw [if_pos b, if_pos (by have := e1 b; omega)]
      · rw [if_neg b, if_neg (by have := e2 (by omega); omega)]
    show 2 * meanN (y k % 100) (g / 3) + leapN (meanN (y k % 100) (g / 3)) (g % 3) = 2 * meanN (y k % 100) pv + leapN (meanN (y k % 100) pv) rl
    rw [key]
    congr 1
    by_cases z : y k % 100 = 0
    · rcases h.zz with ⟨-, nz⟩ | ⟨e, -⟩
      · exact absurd z (nz k hk)
      · rw [z]
        rw [e] at h3
        exact (zr_p hs h.r3).mp h3
    · refine leap_any ?_
      unfold meanN
      have : y k % 100 < 100 := Nat.mod_lt _ (by decide)
      split <;> omega
/-! counting over guesses: threes -/
def sumN (fv : Nat → Nat) : Nat → Nat
  | 0 => 0
  | g + 1 => sumN fv g + fv g
theorem nDn_sum {fv : Nat → Nat} : ∀ j, j ≤ 303 → nDn fv j + sumN fv (303 - j) = sumN fv 303
  | 0, _ => by
    show 0 + sumN fv 303 = _
    omega
  | j + 1, h => by
    have ih := nDn_sum (fv := fv) j (by omega)
    have e : sumN fv (303 - j) = sumN fv (302 - j) + fv (302 - j) := by
      rw [show 303 - j = (302 - j) + 1 by omega]
      rfl
    have e2 : nDn fv (j + 1) = nDn fv j + fv (302 - j) := rfl
    rw [e2, show 303 - (j + 1) = 302 - j by omega]
    omega
/-- how many of the first v are from a to b -/
def inN (a b : Nat) : Nat → Nat
  | 0 => 0
  | v + 1 => if a ≤ v ∧ v ≤ b then inN a b v + 1 else inN a b v
theorem inN_eq {a b : Nat} : ∀ v, inN a b v = if a < v ∧ a ≤ b then min v (b + 1) - a else 0
  | 0 => by
    rw [if_neg (by omega)]
    rfl
  | v + 1 => by
    have ih := inN_eq (a := a) (b := b) v
    show (if a ≤ v ∧ v ≤ b then inN a b v + 1 else inN a b v) = _
    rw [ih]
    split <;> split <;> split <;> omega
theorem b_popb : ∀ a, a < 8 → popN a = bitN a 0 + bitN a 1 + bitN a 2 ∧ (bitN a 0 ≤ 1 ∧ bitN a 1 ≤ 1 ∧ bitN a 2 ≤ 1) := by decide +kernel
theorem b_andb : ∀ a, a < 8 → ∀ l, l < 8 → popN (a &&& l) = bitN a 0 * bitN l 0 + bitN a 1 * bitN l 1 + bitN a 2 * bitN l 2 := by decide +kernel
theorem b_lr : ∀ a, a < 2 → ∀ b, b < 2 → ∀ c, c < 2 → bitN (a + 2 * b + 4 * c) 0 = a ∧ bitN (a + 2 * b + 4 * c) 1 = b ∧ bitN (a + 2 * b + 4 * c) 2 = c := by decide +kernel
theorem lr_bit (y : Nat) : bitN (lrN y) 0 = leapN y 0 ∧ bitN (lrN y) 1 = leapN y 1 ∧ bitN (lrN y) 2 = leapN y 2 := by
  have h0 := leapN_le y 0
  have h1 := leapN_le y 1
  have h2 := leapN_le y 2
  exact b_lr _ (by omega) _ (by omega) _ (by omega)
/-- those that fit, as told by interval and rules -/
def fvOk (lo hi R : Nat) (fv : Nat → Nat) : Prop := ∀ v s, v < 101 → s < 3 → fv (3 * v + s) = if lo ≤ v ∧ v ≤ hi then bitN R s else 0
theorem fv_ok {pv rl lo hi R n : Nat} {y : Nat → Nat} (h : chOk pv rl lo hi R n y) : fvOk lo hi R (fun g => fitV pv rl y g n) := fun v s hv hs => by
  have e := fit_iff h (g := 3 * v + s) (by omega)
  rw [show (3 * v + s) / 3 = v by omega, show (3 * v + s) % 3 = s by omega] at e
  have hb := (b_popb R h.R8.1).2
  have hb2 : bitN R s = 0 ∨ bitN R s = 1 := by
    rcases (show s = 0 ∨ s = 1 ∨ s = 2 by omega) with rfl | rfl | rfl <;> omega
  show fitV pv rl y (3 * v + s) n = _
  rcases fitV_b (pv := pv) (rl := rl) (y := y) (g := 3 * v + s) n with z | z
  · rw [z]
    split
    · rename_i c
      rcases hb2 with b | b
      · exact b.symm
      · rw [e.mpr ⟨c.1, c.2, b⟩] at z
        exact absurd z (by decide)
    · rfl
  · obtain ⟨c1, c2, c3⟩ := e.mp z
    rw [z, if_pos ⟨c1, c2⟩, c3]
theorem sum_3 {lo hi R : Nat} {fv : Nat → Nat} (h : fvOk lo hi R fv) (hR : R < 8) : ∀ v, v ≤ 101 → sumN fv (3 * v) = inN lo hi v * popN R
  | 0, _ => by
    rw [show inN lo hi 0 = 0 from rfl, Nat.zero_mul]
    rfl
  | v + 1, hv => by
    have ih := sum_3 h hR v (by omega)
    have e : sumN fv (3 * (v + 1)) = sumN fv (3 * v) + fv (3 * v + 0) + fv (3 * v + 1) + fv (3 * v + 2) := rfl
    have e0 := h v 0 (by omega) (by decide)
    have e1 := h v 1 (by omega) (by decide)
    have e2 := h v 2 (by omega) (by decide)
    have p := (b_popb R hR).1
    have s : inN lo hi (v + 1) = if lo ≤ v ∧ v ≤ hi then inN lo hi v + 1 else inN lo hi v := rfl
    rw [e, ih, e0, e1, e2, s]
    split
    · rw [Nat.succ_mul]
      omega
    · omega
theorem m25_0 {pv rl lo hi R n : Nat} {y : Nat → Nat} (h : chOk pv rl lo hi R n y) : nDn (fun g => fitV pv rl y g n) 303 = (hi - lo + 1) * popN R := by
  have a := nDn_sum (fv := fun g => fitV pv rl y g n) 303 (Nat.le_refl _)
  have b := sum_3 (fv_ok h) h.R8.1 101 (Nat.le_refl _)
  have c := inN_eq (a := lo) (b := hi) 101
  have lp := h.lp
  have ph := h.ph
  have h1 := h.h1
  rw [if_pos (by omega)] at c
  rw [show 303 - 303 = 0 from rfl, show sumN (fun g => fitV pv rl y g n) 0 = 0 from rfl] at a
  rw [show (303 : Nat) = 3 * 101 from rfl] at a ⊢
  rw [b, c] at a
  rw [show hi - lo + 1 = min 101 (hi + 1) - lo by omega]
  omega
theorem b_low : ∀ a, a < 8 → a ≠ 0 → bitN a (lowB a) = 1 ∧ lowB a < 3 ∧ (∀ s, s < 3 → s < lowB a → bitN a s = 0) := by decide +kernel
theorem m25_1 {pv rl lo hi R n : Nat} {y : Nat → Nat} (h : chOk pv rl lo hi R n y) : lDn (fun g => fitV pv rl y g n) 303 = nI (lo * 3 + lowB R) := by
  have lp := h.lp
  have ph := h.ph
  have h1 := h.h1
  obtain ⟨b1, b2, b3⟩ := b_low R h.R8.1 h.R8.2
  have ok := fv_ok h
  generalize (fun g => fitV pv rl y g n) = fv at ok ⊢
  have f1 : fv (lo * 3 + lowB R) = 1 := by
    rw [show lo * 3 + lowB R = 3 * lo + lowB R by omega, ok lo _ (by omega) b2, if_pos (by omega)]
    exact b1
  have f0 : ∀ g, g < lo * 3 + lowB R → fv g = 0 := fun g hg => by
    rw [show g = 3 * (g / 3) + g % 3 by omega, ok _ _ (by omega) (Nat.mod_lt _ (by decide))]
    split
    · rename_i c
      exact b3 _ (Nat.mod_lt _ (by decide)) (by omega)
    · rfl
  have key : ∀ d, d ≤ lo * 3 + lowB R → lDn fv (303 - (lo * 3 + lowB R) + d) = nI (lo * 3 + lowB R) := by
    intro d
    induction d with
    | zero =>
      intro _
      rw [show 303 - (lo * 3 + lowB R) + 0 = (302 - (lo * 3 + lowB R)) + 1 by omega]
      show (if fv (302 - (302 - (lo * 3 + lowB R))) = 1 then nI (302 - (302 - (lo * 3 + lowB R))) else _) = _
      rw [show 302 - (302 - (lo * 3 + lowB R)) = lo * 3 + lowB R by omega, if_pos f1]
    | succ d ih =>
      intro hd
      rw [show 303 - (lo * 3 + lowB R) + (d + 1) = (303 - (lo * 3 + lowB R) + d) + 1 by omega]
      show (if fv (302 - (303 - (lo * 3 + lowB R) + d)) = 1 then _ else lDn fv (303 - (lo * 3 + lowB R) + d)) = _
      rw [f0 _ (by omega), if_neg (by decide)]
      exact ih (by omega)
  have := key (lo * 3 + lowB R) (Nat.le_refl _)
  rw [show 303 - (lo * 3 + lowB R) + (lo * 3 + lowB R) = 303 by omega] at this
  exact this
/-! like answers in a year -/
theorem mst_4 {fv cl : Nat → Nat} (hc : ∀ g, cl g < 4) : ∀ g, mstN fv cl g = mxN (mxN (cntN fv cl g 0) (cntN fv cl g 1)) (mxN (cntN fv cl g 2) (cntN fv cl g 3))
  | 0 => rfl
  | g + 1 => by
    have ih := mst_4 (fv := fv) hc g
    have hg := hc g
    show (if fv g = 1 then mxN (mstN fv cl g) (if fv g = 1 ∧ cl g = cl g then cntN fv cl g (cl g) + 1 else cntN fv cl g (cl g)) else mstN fv cl g) = mxN (mxN (if fv g = 1 ∧ cl g = 0 then cntN fv cl g 0 + 1 else cntN fv cl g 0) (if fv g = 1 ∧ cl g = 1 then cntN fv cl g 1 + 1 else cntN fv cl g 1)) (mxN (if fv g = 1 ∧ cl g = 2 then cntN fv cl g 2 + 1 else cntN fv cl g 2) (if fv g = 1 ∧ cl g = 3 then cntN fv cl g 3 + 1 else cntN fv cl g 3))
    rw [ih]
    by_cases hf : fv g = 1
    · rcases (show cl g = 0 ∨ cl g = 1 ∨ cl g = 2 ∨ cl g = 3 by omega) with e | e | e | e <;> simp only [hf, e, true_and, if_true, if_false, Nat.reduceEqDiff, and_false, and_true, reduceCtorEq] <;> unfold mxN <;> (repeat' split) <;> omega
    · simp only [hf, false_and, if_false]
theorem cls_at {Y v s : Nat} (hs : s < 3) : clsN Y (3 * v + s) = if v ≤ Y % 100 then leapN (1900 + Y % 100) s else 2 + leapN (2000 + Y % 100) s := by
  unfold clsN ansN
  rw [show (3 * v + s) / 3 = v by omega, show (3 * v + s) % 3 = s by omega]
  by_cases h : v ≤ Y % 100
  · rw [show meanN (Y % 100) v = 1900 + Y % 100 from if_pos h, if_pos h]
    have := leapN_le (1900 + Y % 100) s
    split <;> omega
  · rw [show meanN (Y % 100) v = 2000 + Y % 100 from if_neg h, if_neg h]
    have := leapN_le (2000 + Y % 100) s
    split <;> omega
/-- of the first v those up to f, those behind f -/
theorem cnt_3 {lo hi R : Nat} {fv : Nat → Nat} (h : fvOk lo hi R fv) (hR : R < 8) {Y : Nat} : ∀ v, v ≤ 101 → cntN fv (clsN Y) (3 * v) 1 = inN lo (minN (Y % 100) hi) v * popN (R &&& lrN (1900 + Y % 100)) ∧ cntN fv (clsN Y) (3 * v) 0 = inN lo (minN (Y % 100) hi) v * (popN R - popN (R &&& lrN (1900 + Y % 100))) ∧ cntN fv (clsN Y) (3 * v) 3 = (inN lo hi v - inN lo (minN (Y % 100) hi) v) * popN (R &&& lrN (2000 + Y % 100)) ∧ cntN fv (clsN Y) (3 * v) 2 = (inN lo hi v - inN lo (minN (Y % 100) hi) v) * (popN R - popN (R &&& lrN (2000 + Y % 100))) ∧ inN lo (minN (Y % 100) hi) v ≤ inN lo hi v
  | 0, _ => by
    refine ⟨?_, ?_, ?_, ?_, Nat.le_refl _⟩
    · rw [show inN lo (minN (Y % 100) hi) 0 = 0 from rfl, Nat.zero_mul]
      rfl
    · rw [show inN lo (minN (Y % 100) hi) 0 = 0 from rfl, Nat.zero_mul]
      rfl
    · rw [show inN lo hi 0 - inN lo (minN (Y % 100) hi) 0 = 0 from rfl, Nat.zero_mul]
      rfl
    · rw [show inN lo hi 0 - inN lo (minN (Y % 100) hi) 0 = 0 from rfl, Nat.zero_mul]
      rfl
  | v + 1, hv => by
    obtain ⟨i1, i0, i3, i2, ile⟩ := cnt_3 h hR (Y := Y) v (by omega)
    have st : ∀ j, cntN fv (clsN Y) (3 * (v + 1)) j = cntN fv (clsN Y) (3 * v) j + (if fv (3 * v + 0) = 1 ∧ clsN Y (3 * v + 0) = j then 1 else 0) + (if fv (3 * v + 1) = 1 ∧ clsN Y (3 * v + 1) = j then 1 else 0) + (if fv (3 * v + 2) = 1 ∧ clsN Y (3 * v + 2) = j then 1 else 0) := fun j => by
      show (if fv (3 * v + 2) = 1 ∧ clsN Y (3 * v + 2) = j then (if fv (3 * v + 1) = 1 ∧ clsN Y (3 * v + 1) = j then (if fv (3 * v + 0) = 1 ∧ clsN Y (3 * v + 0) = j then cntN fv (clsN Y) (3 * v) j + 1 else cntN fv (clsN Y) (3 * v) j) + 1 else (if fv (3 * v + 0) = 1 ∧ clsN Y (3 * v + 0) = j then cntN fv (clsN Y) (3 * v) j + 1 else cntN fv (clsN Y) (3 * v) j)) + 1 else (if fv (3 * v + 1) = 1 ∧ clsN Y (3 * v + 1) = j then (if fv (3 * v + 0) = 1 ∧ clsN Y (3 * v + 0) = j then cntN fv (clsN Y) (3 * v) j + 1 else cntN fv (clsN Y) (3 * v) j) + 1 else (if fv (3 * v + 0) = 1 ∧ clsN Y (3 * v + 0) = j then cntN fv (clsN Y) (3 * v) j + 1 else cntN fv (clsN Y) (3 * v) j))) = _
      by_cases a : fv (3 * v + 0) = 1 ∧ clsN Y (3 * v + 0) = j <;> by_cases b : fv (3 * v + 1) = 1 ∧ clsN Y (3 * v + 1) = j <;> by_cases c : fv (3 * v + 2) = 1 ∧ clsN Y (3 * v + 2) = j <;> simp only [a, b, c, if_true, if_false, and_self] <;> omega
    have e0 := h v 0 (by omega) (by decide)
    have e1 := h v 1 (by omega) (by decide)
    have e2 := h v 2 (by omega) (by decide)
    have p := b_popb R hR
    have q1 := b_andb R hR _ (lrN_lt (1900 + Y % 100))
    have q2 := b_andb R hR _ (lrN_lt (2000 + Y % 100))
    obtain ⟨x0, x1, x2⟩ := lr_bit (1900 + Y % 100)
    obtain ⟨z0, z1, z2⟩ := lr_bit (2000 + Y % 100)
    rw [x0, x1, x2] at q1
    rw [z0, z1, z2] at q2
    have d0 := cls_at (Y := Y) (v := v) (s := 0) (by decide)
    have d1 := cls_at (Y := Y) (v := v) (s := 1) (by decide)
    have d2 := cls_at (Y := Y) (v := v) (s := 2) (by decide)
    have a0 := leapN_le (1900 + Y % 100) 0
    have a1 := leapN_le (1900 + Y % 100) 1
    have a2 := leapN_le (1900 + Y % 100) 2
    have c0 := leapN_le (2000 + Y % 100) 0
    have c1 := leapN_le (2000 + Y % 100) 1
    have c2 := leapN_le (2000 + Y % 100) 2
    have s1 : inN lo (minN (Y % 100) hi) (v + 1) = if lo ≤ v ∧ v ≤ minN (Y % 100) hi then inN lo (minN (Y % 100) hi) v + 1 else inN lo (minN (Y % 100) hi) v := rfl
    have s2 : inN lo hi (v + 1) = if lo ≤ v ∧ v ≤ hi then inN lo hi v + 1 else inN lo hi v := rfl
    have mm : minN (Y % 100) hi ≤ hi ∧ (v ≤ minN (Y % 100) hi ↔ v ≤ Y % 100 ∧ v ≤ hi) := by
      unfold minN
      split <;> omega
    have w0 : bitN R 0 = 0 ∨ bitN R 0 = 1 := by omega
    have w1 : bitN R 1 = 0 ∨ bitN R 1 = 1 := by omega
    have w2 : bitN R 2 = 0 ∨ bitN R 2 = 1 := by omega
    rw [st 0, st 1, st 2, st 3, i0, i1, i2, i3, s1, s2]
    by_cases r : lo ≤ v ∧ v ≤ hi
    · rw [if_pos r] at e0 e1 e2 ⊢
      by_cases u : v ≤ Y % 100
      · rw [if_pos u] at d0 d1 d2
        rw [if_pos (show lo ≤ v ∧ v ≤ minN (Y % 100) hi from ⟨r.1, mm.2.mpr ⟨u, r.2⟩⟩), show inN lo hi v + 1 - (inN lo (minN (Y % 100) hi) v + 1) = inN lo hi v - inN lo (minN (Y % 100) hi) v by omega, e0, e1, e2, d0, d1, d2, Nat.succ_mul (inN lo (minN (Y % 100) hi) v), Nat.succ_mul (inN lo (minN (Y % 100) hi) v)]
        rcases w0 with w0 | w0 <;> rcases w1 with w1 | w1 <;> rcases w2 with w2 | w2 <;> rcases a0 with a0 | a0 <;> rcases a1 with a1 | a1 <;> rcases a2 with a2 | a2 <;> rw [w0, w1, w2] at p <;> rw [w0, w1, w2, a0, a1, a2] at q1 <;> simp only [w0, w1, w2, a0, a1, a2] <;> refine ⟨?_, ?_, ?_, ?_, ?_⟩ <;> (try simp) <;> (try omega)
      · rw [if_neg u] at d0 d1 d2
        rw [if_neg (show ¬ (lo ≤ v ∧ v ≤ minN (Y % 100) hi) from fun e => u (mm.2.mp e.2).1), show inN lo hi v + 1 - inN lo (minN (Y % 100) hi) v = (inN lo hi v - inN lo (minN (Y % 100) hi) v) + 1 by omega, e0, e1, e2, d0, d1, d2, Nat.succ_mul (inN lo hi v - inN lo (minN (Y % 100) hi) v), Nat.succ_mul (inN lo hi v - inN lo (minN (Y % 100) hi) v)]
        rcases w0 with w0 | w0 <;> rcases w1 with w1 | w1 <;> rcases w2 with w2 | w2 <;> rcases c0 with c0 | c0 <;> rcases c1 with c1 | c1 <;> rcases c2 with c2 | c2 <;> rw [w0, w1, w2] at p <;> rw [w0, w1, w2, c0, c1, c2] at q2 <;> simp only [w0, w1, w2, c0, c1, c2] <;> refine ⟨?_, ?_, ?_, ?_, ?_⟩ <;> (try simp) <;> (try omega)
    · rw [if_neg r] at e0 e1 e2 ⊢
      rw [if_neg (show ¬ (lo ≤ v ∧ v ≤ minN (Y % 100) hi) from fun e => r ⟨e.1, (mm.2.mp e.2).2⟩), e0, e1, e2]
      refine ⟨?_, ?_, ?_, ?_, ile⟩ <;> simp
theorem mul_mx (e a b : Nat) : mxN (e * a) (e * b) = e * mxN a b := by
  unfold mxN
  by_cases h : a < b
  · rw [if_pos h]
    by_cases z : e = 0
    · subst z
      rw [Nat.zero_mul, Nat.zero_mul]
      rfl
    · rw [if_pos (Nat.mul_lt_mul_of_pos_left h (Nat.pos_of_ne_zero z))]
  · rw [if_neg h, if_neg (Nat.not_lt.mpr (Nat.mul_le_mul_left e (Nat.le_of_not_lt h)))]
theorem mx_comm (a b : Nat) : mxN a b = mxN b a := by
  unfold mxN
  split <;> split <;> omega
theorem mra_mx {R y : Nat} : mraN R y = mxN (popN R - popN (R &&& lrN y)) (popN (R &&& lrN y)) := by
  unfold mraN mxN
  split <;> split <;> omega
theorem alk_ma {pv rl lo hi R n : Nat} {y : Nat → Nat} (h : chOk pv rl lo hi R n y) {Y : Nat} : alkN (fun g => fitV pv rl y g n) Y = maN lo hi R (Y % 100) := by
  have lp := h.lp
  have ph := h.ph
  have h1 := h.h1
  obtain ⟨i1, i0, i3, i2, -⟩ := cnt_3 (fv_ok h) h.R8.1 (Y := Y) 101 (Nat.le_refl _)
  have e1 : inN lo (minN (Y % 100) hi) 101 = earN lo hi (Y % 100) := by
    rw [inN_eq]
    unfold earN minN
    repeat' split
    all_goals omega
  have e2 : inN lo hi 101 = hi - lo + 1 := by
    rw [inN_eq, if_pos (by omega)]
    omega
  unfold alkN
  rw [mst_4 (clsN_lt Y), show (303 : Nat) = 3 * 101 from rfl, i0, i1, i2, i3, e1, e2, mul_mx, mul_mx, ← mra_mx, ← mra_mx]
  rfl
theorem ma_min {lo hi R : Nat} : ∀ F f, f < F → maN lo hi R (bstN lo hi R F) ≤ maN lo hi R f
  | 0, f, h => absurd h (Nat.not_lt_zero f)
  | F + 1, f, h => by
    show maN lo hi R (if maN lo hi R F < maN lo hi R (bstN lo hi R F) then F else bstN lo hi R F) ≤ maN lo hi R f
    by_cases e : f = F
    · subst e
      split
      · exact Nat.le_refl _
      · omega
    · have ih := ma_min (lo := lo) (hi := hi) (R := R) F f (by omega)
      split
      · omega
      · exact ih
theorem few_1 {pv rl lo hi R n : Nat} {y : Nat → Nat} (h : chOk pv rl lo hi R n y) : ∀ t, t ≤ 99 → fewN (fun g => fitV pv rl y g n) t = maN lo hi R (bstN lo hi R (t + 1)) ∧ besN (fun g => fitV pv rl y g n) t = 1900 + bstN lo hi R (t + 1)
  | 0, _ => by
    have e : bstN lo hi R 1 = 0 := by
      show (if maN lo hi R 0 < maN lo hi R (bstN lo hi R 0) then 0 else bstN lo hi R 0) = 0
      split <;> rfl
    rw [e]
    exact ⟨alk_ma h (Y := 1900), rfl⟩
  | t + 1, ht => by
    obtain ⟨i1, i2⟩ := few_1 h t (by omega)
    have a := alk_ma h (Y := 1901 + t)
    rw [show (1901 + t) % 100 = t + 1 by omega] at a
    have s : bstN lo hi R (t + 1 + 1) = if maN lo hi R (t + 1) < maN lo hi R (bstN lo hi R (t + 1)) then t + 1 else bstN lo hi R (t + 1) := rfl
    have f : fewN (fun g => fitV pv rl y g n) (t + 1) = if alkN (fun g => fitV pv rl y g n) (1901 + t) < fewN (fun g => fitV pv rl y g n) t then alkN (fun g => fitV pv rl y g n) (1901 + t) else fewN (fun g => fitV pv rl y g n) t := rfl
    have b : besN (fun g => fitV pv rl y g n) (t + 1) = if alkN (fun g => fitV pv rl y g n) (1901 + t) < fewN (fun g => fitV pv rl y g n) t then 1901 + t else besN (fun g => fitV pv rl y g n) t := rfl
    rw [s, f, b, a, i1, i2]
    split
    · exact ⟨rfl, by omega⟩
    · exact ⟨rfl, rfl⟩
theorem few_2 {pv rl lo hi R n : Nat} {y : Nat → Nat} (h : chOk pv rl lo hi R n y) : ∀ d, d ≤ 100 → fewN (fun g => fitV pv rl y g n) (99 + d) = maN lo hi R (bstN lo hi R 100) ∧ besN (fun g => fitV pv rl y g n) (99 + d) = 1900 + bstN lo hi R 100
  | 0, _ => few_1 h 99 (Nat.le_refl _)
  | d + 1, hd => by
    obtain ⟨i1, i2⟩ := few_2 h d (by omega)
    have a := alk_ma h (Y := 1901 + (99 + d))
    have m := ma_min (lo := lo) (hi := hi) (R := R) 100 ((1901 + (99 + d)) % 100) (Nat.mod_lt _ (by decide))
    have f : fewN (fun g => fitV pv rl y g n) (99 + (d + 1)) = if alkN (fun g => fitV pv rl y g n) (1901 + (99 + d)) < fewN (fun g => fitV pv rl y g n) (99 + d) then alkN (fun g => fitV pv rl y g n) (1901 + (99 + d)) else fewN (fun g => fitV pv rl y g n) (99 + d) := rfl
    have b : besN (fun g => fitV pv rl y g n) (99 + (d + 1)) = if alkN (fun g => fitV pv rl y g n) (1901 + (99 + d)) < fewN (fun g => fitV pv rl y g n) (99 + d) then 1901 + (99 + d) else besN (fun g => fitV pv rl y g n) (99 + d) := rfl
    rw [f, b, a, i1, i2, if_neg (by omega), if_neg (by omega)]
    exact ⟨rfl, rfl⟩
theorem m25_2 {pv rl lo hi R n : Nat} {y : Nat → Nat} (h : chOk pv rl lo hi R n y) : besN (fun g => fitV pv rl y g n) 199 = 1900 + bstN lo hi R 100 := (few_2 h 100 (Nat.le_refl _)).2
theorem m25_3 {pv rl lo hi R n : Nat} {y : Nat → Nat} (h : chOk pv rl lo hi R n y) : fewN (fun g => fitV pv rl y g n) 199 = maN lo hi R (bstN lo hi R 100) := (few_2 h 100 (Nat.le_refl _)).1
end XM25
