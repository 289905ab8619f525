/-! The fewest tests: the arithmetic. -/
noncomputable section XM31
/-- what a set of tests shows: d of them from the t-th on -/
def fS (B : Nat → Int32) (s : Nat) : Nat → Nat → Int32 → Int32
  | 0, _, acc => acc
  | d + 1, t, acc => fS B s d (t + 1) (if (s >>> t) &&& 1 = 1 then acc ||| B t else acc)
/-- what all show -/
def fA (B : Nat → Int32) : Nat → Nat → Int32 → Int32
  | 0, _, acc => acc
  | d + 1, t, acc => fA B d (t + 1) (acc ||| B t)
theorem fS_cg {B B2 : Nat → Int32} {s : Nat} : ∀ d t acc, (∀ k, t ≤ k → k < t + d → B k = B2 k) → fS B s d t acc = fS B2 s d t acc
  | 0, _, _, _ => rfl
  | d + 1, t, acc, h => by
    show fS B s d (t + 1) (if (s >>> t) &&& 1 = 1 then acc ||| B t else acc) = fS B2 s d (t + 1) (if (s >>> t) &&& 1 = 1 then acc ||| B2 t else acc)
    rw [h t (by omega) (by omega)]
    exact fS_cg d (t + 1) _ (fun k h1 h2 => h k (by omega) (by omega))
theorem fA_cg {B B2 : Nat → Int32} : ∀ d t acc, (∀ k, t ≤ k → k < t + d → B k = B2 k) → fA B d t acc = fA B2 d t acc
  | 0, _, _, _ => rfl
  | d + 1, t, acc, h => by
    show fA B d (t + 1) (acc ||| B t) = fA B2 d (t + 1) (acc ||| B2 t)
    rw [h t (by omega) (by omega)]
    exact fA_cg d (t + 1) _ (fun k h1 h2 => h k (by omega) (by omega))
theorem fA_sn (B : Nat → Int32) : ∀ d t acc, fA B (d + 1) t acc = fA B d t acc ||| B (t + d)
  | 0, _, _ => rfl
  | d + 1, t, acc => by
    show fA B (d + 1) (t + 1) (acc ||| B t) = fA B d (t + 1) (acc ||| B t) ||| B (t + (d + 1))
    rw [fA_sn B d (t + 1) (acc ||| B t), show t + 1 + d = t + (d + 1) by omega]
variable (P : Nat → Bool) (f : Nat → Int)
def mnD : Nat → Nat → Nat
  | 0, b => b
  | k + 1, b => mnD k (if P k = true ∧ f k ≤ f b then k else b)
def mnU : Nat → Nat → Nat → Nat
  | 0, _, b => b
  | d + 1, s, b => mnU d (s + 1) (if P s = true ∧ (f s < f b ∨ (f s = f b ∧ s < b)) then s else b)
def mnL (r s : Nat) : Prop := f r < f s ∨ (f r = f s ∧ r ≤ s)
variable {P} {f}
theorem mnL_tr {a b c : Nat} (h : mnL f a b) (g : mnL f b c) : mnL f a c := by
  unfold mnL at *
  omega
theorem mnD_p : ∀ k b, k ≤ b → (mnD P f k b = b ∨ (mnD P f k b < k ∧ P (mnD P f k b) = true)) ∧ (∀ s, s < k → P s = true → mnL f (mnD P f k b) s) ∧ mnL f (mnD P f k b) b
  | 0, b, _ => ⟨Or.inl rfl, fun s hs => absurd hs (Nat.not_lt_zero _), Or.inr ⟨rfl, Nat.le_refl _⟩⟩
  | k + 1, b, hb => by
    have e : mnD P f (k + 1) b = mnD P f k (if P k = true ∧ f k ≤ f b then k else b) := rfl
    rw [e]
    by_cases c : P k = true ∧ f k ≤ f b
    · rw [if_pos c]
      obtain ⟨h1, h2, h3⟩ := mnD_p k k (Nat.le_refl _)
      refine ⟨Or.inr ?_, fun s hs hp => ?_, ?_⟩
      · rcases h1 with h1 | ⟨h1, h4⟩
        · rw [h1]
          exact ⟨by omega, c.1⟩
        · exact ⟨by omega, h4⟩
      · rcases Nat.lt_or_ge s k with z | z
        · exact h2 s z hp
        · rw [show s = k by omega]
          exact h3
      · refine mnL_tr h3 ?_
        unfold mnL
        omega
    · rw [if_neg c]
      obtain ⟨h1, h2, h3⟩ := mnD_p k b (by omega)
      refine ⟨?_, fun s hs hp => ?_, h3⟩
      · rcases h1 with h1 | ⟨h1, h4⟩
        · exact Or.inl h1
        · exact Or.inr ⟨by omega, h4⟩
      · rcases Nat.lt_or_ge s k with z | z
        · exact h2 s z hp
        · have es : s = k := by omega
          subst es
          refine mnL_tr h3 ?_
          have : ¬ f s ≤ f b := fun y => c ⟨hp, y⟩
          unfold mnL
          omega
theorem mnU_p : ∀ d s b, (mnU P f d s b = b ∨ (s ≤ mnU P f d s b ∧ mnU P f d s b < s + d ∧ P (mnU P f d s b) = true)) ∧ (∀ x, s ≤ x → x < s + d → P x = true → mnL f (mnU P f d s b) x) ∧ mnL f (mnU P f d s b) b
  | 0, s, b => ⟨Or.inl rfl, fun x h1 h2 => absurd h2 (by omega), Or.inr ⟨rfl, Nat.le_refl _⟩⟩
  | d + 1, s, b => by
    have e : mnU P f (d + 1) s b = mnU P f d (s + 1) (if P s = true ∧ (f s < f b ∨ (f s = f b ∧ s < b)) then s else b) := rfl
    rw [e]
    by_cases c : P s = true ∧ (f s < f b ∨ (f s = f b ∧ s < b))
    · rw [if_pos c]
      obtain ⟨h1, h2, h3⟩ := mnU_p d (s + 1) s
      refine ⟨Or.inr ?_, fun x g1 g2 hp => ?_, ?_⟩
      · rcases h1 with h1 | ⟨h1, h4, h5⟩
        · rw [h1]
          exact ⟨by omega, by omega, c.1⟩
        · exact ⟨by omega, by omega, h5⟩
      · rcases Nat.lt_or_ge s x with z | z
        · exact h2 x z (by omega) hp
        · rw [show x = s by omega]
          exact h3
      · refine mnL_tr h3 ?_
        unfold mnL
        omega
    · rw [if_neg c]
      obtain ⟨h1, h2, h3⟩ := mnU_p d (s + 1) b
      refine ⟨?_, fun x g1 g2 hp => ?_, h3⟩
      · rcases h1 with h1 | ⟨h1, h4, h5⟩
        · exact Or.inl h1
        · exact Or.inr ⟨by omega, by omega, h5⟩
      · rcases Nat.lt_or_ge s x with z | z
        · exact h2 x z (by omega) hp
        · have es : x = s := by omega
          subst es
          refine mnL_tr h3 ?_
          have : ¬ (f x < f b ∨ (f x = f b ∧ x < b)) := fun y => c ⟨hp, y⟩
          unfold mnL
          omega
theorem mn_eq (N : Nat) : mnD P f N N = mnU P f (N + 1) 0 N := by
  obtain ⟨h1, h2, h3⟩ := mnD_p (P := P) (f := f) N N (Nat.le_refl _)
  obtain ⟨g1, g2, g3⟩ := mnU_p (P := P) (f := f) (N + 1) 0 N
  have a1 : mnL f (mnD P f N N) (mnU P f (N + 1) 0 N) := by
    rcases g1 with g1 | ⟨-, g4, g5⟩
    · rw [g1]
      exact h3
    · rcases Nat.lt_or_ge (mnU P f (N + 1) 0 N) N with z | z
      · exact h2 _ z g5
      · rw [show mnU P f (N + 1) 0 N = N by omega]
        exact h3
  have a2 : mnL f (mnU P f (N + 1) 0 N) (mnD P f N N) := by
    rcases h1 with h1 | ⟨h4, h5⟩
    · rw [h1]
      exact g3
    · exact g2 _ (Nat.zero_le _) (by omega) h5
  unfold mnL at a1 a2
  omega
end XM31
