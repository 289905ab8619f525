/-! Stops and hands: the hands. -/
noncomputable section XM35a
def hfOk (M hf : Nat → Nat) (m : Nat) : Prop := hf 0 = 0 ∧ ∀ s, 1 ≤ s → s < m → hf s = if M s = 1 then 1 else fewL hf s s
theorem few_ge {hf : Nat → Nat} {s : Nat} (hs : s < 256) (h : ∀ t, 1 ≤ t → t < s → 1 ≤ hf t) : ∀ b, b ≤ s → 2 ≤ fewL hf s b
  | 0, _ => (show 2 ≤ 9 by decide)
  | b + 1, hb => by
    have ih := few_ge hs h b (by omega)
    show 2 ≤ if b ≠ 0 ∧ andn b s = 0 ∧ hf b = 1 then mnP (fewL hf s b) (1 + hf (s - b)) else fewL hf s b
    split
    · rename_i c
      have := h (s - b) (by omega) (by omega)
      unfold mnP
      split <;> omega
    · exact ih
theorem hf_pos {M hf : Nat → Nat} {m : Nat} (hm : m ≤ 256) (h : hfOk M hf m) : ∀ B s, s < B → 1 ≤ s → s < m → 1 ≤ hf s
  | 0, s, hs, _, _ => absurd hs (Nat.not_lt_zero s)
  | B + 1, s, hs, h1, h2 => by
    have ih := hf_pos hm h B
    rw [h.2 s h1 h2]
    split
    · exact Nat.le_refl 1
    · have := few_ge (hf := hf) (s := s) (by omega) (fun t t1 t2 => ih t (by omega) t1 (by omega)) s (Nat.le_refl s)
      omega
theorem hf_1 {M hf : Nat → Nat} {m : Nat} (hm : m ≤ 256) (h : hfOk M hf m) {s : Nat} (h1 : 1 ≤ s) (h2 : s < m) : hf s = 1 ↔ M s = 1 := by
  have e := h.2 s h1 h2
  constructor
  · intro z
    rw [e] at z
    by_cases c : M s = 1
    · exact c
    · rw [if_neg c] at z
      have := few_ge (hf := hf) (s := s) (by omega) (fun t t1 t2 => hf_pos hm h (t + 1) t (Nat.lt_succ_self t) t1 (by omega)) s (Nat.le_refl s)
      omega
  · intro z
    rw [e, if_pos z]
theorem few_le {hf : Nat → Nat} {s v : Nat} (hv : v < 9) : ∀ B, fewL hf s B ≤ v ↔ ∃ b, b < B ∧ b ≠ 0 ∧ andn b s = 0 ∧ hf b = 1 ∧ 1 + hf (s - b) ≤ v
  | 0 => by
    constructor
    · intro h
      have h : 9 ≤ v := h
      omega
    · rintro ⟨b, hb, -⟩
      exact absurd hb (Nat.not_lt_zero b)
  | B + 1 => by
    have ih := few_le (hf := hf) (s := s) hv B
    show (if B ≠ 0 ∧ andn B s = 0 ∧ hf B = 1 then mnP (fewL hf s B) (1 + hf (s - B)) else fewL hf s B) ≤ v ↔ _
    constructor
    · intro h
      split at h
      · rename_i c
        unfold mnP at h
        split at h
        · exact ⟨B, Nat.lt_succ_self B, c.1, c.2.1, c.2.2, h⟩
        · obtain ⟨b, hb, z⟩ := ih.mp h
          exact ⟨b, by omega, z⟩
      · obtain ⟨b, hb, z⟩ := ih.mp h
        exact ⟨b, by omega, z⟩
    · rintro ⟨b, hb, z⟩
      by_cases e : b = B
      · subst e
        rw [if_pos ⟨z.1, z.2.1, z.2.2.1⟩]
        unfold mnP
        have := z.2.2.2
        split <;> omega
      · have := ih.mpr ⟨b, by omega, z⟩
        split
        · unfold mnP
          split <;> omega
        · exact this
def exD (P : Nat → Bool) : Nat → Nat
  | 0 => 0
  | o + 1 => if P o = true then 1 else exD P o
theorem exD_iff {P : Nat → Bool} : ∀ b, exD P b = 1 ↔ ∃ o, o < b ∧ P o = true
  | 0 => ⟨fun h => absurd (show 0 = 1 from h) (by decide), fun ⟨o, ho, _⟩ => absurd ho (Nat.not_lt_zero o)⟩
  | b + 1 => by
    have ih := exD_iff (P := P) b
    show (if P b = true then 1 else exD P b) = 1 ↔ _
    constructor
    · intro h
      split at h
      · rename_i c
        exact ⟨b, Nat.lt_succ_self b, c⟩
      · obtain ⟨o, ho, z⟩ := ih.mp h
        exact ⟨o, by omega, z⟩
    · rintro ⟨o, ho, z⟩
      split
      · rfl
      · rename_i c
        refine ih.mpr ⟨o, ?_, z⟩
        rcases Nat.lt_or_ge o b with q | q
        · exact q
        · exact absurd (by rw [show b = o by omega]; exact z) c
theorem exD_b {P : Nat → Bool} : ∀ b, exD P b = 0 ∨ exD P b = 1
  | 0 => Or.inl rfl
  | b + 1 => by
    show (if P b = true then 1 else exD P b) = 0 ∨ (if P b = true then 1 else exD P b) = 1
    split
    · exact Or.inr rfl
    · exact exD_b b
/-- may h hands meet a set -/
def canN (M : Nat → Nat) : Nat → Nat → Nat
  | 0, s => if s = 0 then 1 else 0
  | 1, s => M s
  | h + 2, s => exD (fun o => decide (andn o s = 0) && decide (M o = 1) && decide (canN M (h + 1) (s - o) = 1)) (s + 1)
theorem canN_b {M : Nat → Nat} (hM : ∀ s, M s = 0 ∨ M s = 1) : ∀ h s, canN M h s = 0 ∨ canN M h s = 1
  | 0, s => by
    show (if s = 0 then 1 else 0) = 0 ∨ (if s = 0 then 1 else 0) = 1
    split
    · exact Or.inr rfl
    · exact Or.inl rfl
  | 1, s => hM s
  | h + 2, s => exD_b _
theorem can_hf {M hf : Nat → Nat} {m : Nat} (hm : m ≤ 256) (h : hfOk M hf m) (h0 : M 0 = 1) : ∀ k, k ≤ 3 → ∀ s, s < m → (canN M k s = 1 ↔ hf s ≤ k)
  | 0, _, s, hs => by
    show (if s = 0 then 1 else 0) = 1 ↔ _
    by_cases e : s = 0
    · subst e
      rw [if_pos rfl, h.1]
      exact ⟨fun _ => Nat.le_refl 0, fun _ => rfl⟩
    · have := hf_pos hm h (s + 1) s (Nat.lt_succ_self s) (by omega) hs
      rw [if_neg e]
      omega
  | 1, _, s, hs => by
    show M s = 1 ↔ _
    by_cases e : s = 0
    · subst e
      rw [h0, h.1]
      exact ⟨fun _ => Nat.zero_le 1, fun _ => rfl⟩
    · have p := hf_pos hm h (s + 1) s (Nat.lt_succ_self s) (by omega) hs
      have q := hf_1 hm h (by omega) hs
      rw [← q]
      omega
  | k + 2, hk, s, hs => by
    have ih := can_hf hm h h0 (k + 1) (by omega)
    show exD (fun o => decide (andn o s = 0) && decide (M o = 1) && decide (canN M (k + 1) (s - o) = 1)) (s + 1) = 1 ↔ _
    rw [exD_iff]
    by_cases e : s = 0
    · subst e
      rw [h.1]
      refine ⟨fun _ => Nat.zero_le _, fun _ => ⟨0, by omega, ?_⟩⟩
      rw [decide_eq_true (b_self 0 (by decide)).1, decide_eq_true h0, decide_eq_true ((ih 0 hs).mpr (by rw [h.1]; exact Nat.zero_le _))]
      rfl
    · constructor
      · rintro ⟨o, ho, z⟩
        simp only [Bool.and_eq_true, decide_eq_true_eq] at z
        obtain ⟨⟨z1, z2⟩, z3⟩ := z
        obtain ⟨l1, -, -⟩ := b_sub (s := s) (o := o) (by omega) (by omega) z1
        have z4 := (ih (s - o) (by omega)).mp z3
        by_cases o0 : o = 0
        · subst o0
          rw [Nat.sub_zero] at z4
          omega
        · by_cases os : o = s
          · subst os
            have := (hf_1 hm h (by omega) hs).mpr z2
            omega
          · rw [h.2 s (by omega) hs]
            split
            · omega
            · refine (few_le (by omega) s).mpr ⟨o, by omega, o0, z1, (hf_1 hm h (by omega) (by omega)).mpr z2, by omega⟩
      · intro hh
        by_cases c : M s = 1
        · refine ⟨s, Nat.lt_succ_self s, ?_⟩
          rw [decide_eq_true (b_self s (by omega)).1, decide_eq_true c, Nat.sub_self, decide_eq_true ((ih 0 (by omega)).mpr (by rw [h.1]; exact Nat.zero_le _))]
          rfl
        · rw [h.2 s (by omega) hs, if_neg c] at hh
          obtain ⟨b, hb, b0, b1, b2, b3⟩ := (few_le (by omega) s).mp hh
          refine ⟨b, by omega, ?_⟩
          rw [decide_eq_true b1, decide_eq_true ((hf_1 hm h (by omega) (by omega)).mp b2), decide_eq_true ((ih (s - b) (by omega)).mpr (by omega))]
          rfl
/-- what a set weighs, by its first k -/
def wtD (we : Nat → Nat) (s : Nat) : Nat → Nat
  | 0 => 0
  | k + 1 => wtD we s k + (if bitP s k = 1 then we k else 0)
theorem wtD_0 {we : Nat → Nat} : ∀ k, wtD we 0 k = 0
  | 0 => rfl
  | k + 1 => by
    show wtD we 0 k + (if bitP 0 k = 1 then we k else 0) = 0
    rw [wtD_0 k, if_neg (by rw [bit0]; decide)]
theorem wtD_le {we : Nat → Nat} {s : Nat} (h : ∀ k, we k ≤ 99) : ∀ k, wtD we s k ≤ 99 * k
  | 0 => Nat.le_refl 0
  | k + 1 => by
    have := wtD_le (s := s) h k
    have h2 := h k
    show wtD we s k + (if bitP s k = 1 then we k else 0) ≤ 99 * (k + 1)
    split <;> omega
/-- the heaviest of the sets below j that may be met -/
def bsN (ok : Nat → Bool) (wt : Nat → Nat) : Nat → Nat
  | 0 => 0
  | j + 1 => if ok j = true ∧ wt (bsN ok wt j) < wt j then j else bsN ok wt j
theorem bsN_lt {ok : Nat → Bool} {wt : Nat → Nat} : ∀ j, 0 < j → bsN ok wt j < j := by
  intro j
  induction j with
  | zero => exact fun h => absurd h (Nat.lt_irrefl 0)
  | succ j ih =>
    intro _
    show (if ok j = true ∧ wt (bsN ok wt j) < wt j then j else bsN ok wt j) < j + 1
    split
    · exact Nat.lt_succ_self j
    · rcases Nat.eq_zero_or_pos j with e | e
      · subst e
        exact Nat.lt_succ_self 0
      · have := ih e
        omega
theorem bsN_ok {ok : Nat → Bool} {wt : Nat → Nat} (h0 : ok 0 = true) : ∀ j, ok (bsN ok wt j) = true
  | 0 => h0
  | j + 1 => by
    show ok (if ok j = true ∧ wt (bsN ok wt j) < wt j then j else bsN ok wt j) = true
    split
    · rename_i c
      exact c.1
    · exact bsN_ok h0 j
theorem bsN_cg {ok ok2 : Nat → Bool} {wt : Nat → Nat} {m : Nat} (h : ∀ j, j < m → ok2 j = ok j) : ∀ j, j ≤ m → bsN ok2 wt j = bsN ok wt j
  | 0, _ => rfl
  | j + 1, hj => by
    show (if ok2 j = true ∧ wt (bsN ok2 wt j) < wt j then j else bsN ok2 wt j) = (if ok j = true ∧ wt (bsN ok wt j) < wt j then j else bsN ok wt j)
    rw [h j (by omega), bsN_cg h j (by omega)]
/-- the greatest part of a set that is one hand's, the rest that of k -/
def gpN (hf : Nat → Nat) (rest k : Nat) : Nat → Nat
  | 0 => 0
  | p + 1 => if andn (p + 1) rest = 0 ∧ hf (p + 1) = 1 ∧ hf (rest - (p + 1)) ≤ k then p + 1 else gpN hf rest k p
theorem gpN_sub {hf : Nat → Nat} {rest k : Nat} (hr : rest < 256) : ∀ p, andn (gpN hf rest k p) rest = 0 ∧ gpN hf rest k p ≤ p
  | 0 => ⟨(b_self rest hr).2.1, Nat.le_refl 0⟩
  | p + 1 => by
    have ih := gpN_sub (hf := hf) (k := k) hr p
    show andn (if andn (p + 1) rest = 0 ∧ hf (p + 1) = 1 ∧ hf (rest - (p + 1)) ≤ k then p + 1 else gpN hf rest k p) rest = 0 ∧ (if andn (p + 1) rest = 0 ∧ hf (p + 1) = 1 ∧ hf (rest - (p + 1)) ≤ k then p + 1 else gpN hf rest k p) ≤ p + 1
    split
    · rename_i c
      exact ⟨c.1, Nat.le_refl _⟩
    · exact ⟨ih.1, by omega⟩
/-- what is left behind h hands -/
def rsN (hf : Nat → Nat) (hands met : Nat) : Nat → Nat
  | 0 => met
  | h + 1 => rsN hf hands met h - gpN hf (rsN hf hands met h) (hands - 1 - h) (rsN hf hands met h)
theorem rsN_le {hf : Nat → Nat} {hands met : Nat} : ∀ h, rsN hf hands met h ≤ met
  | 0 => Nat.le_refl met
  | h + 1 => by
    have := rsN_le (hf := hf) (hands := hands) (met := met) h
    show rsN hf hands met h - gpN hf (rsN hf hands met h) (hands - 1 - h) (rsN hf hands met h) ≤ met
    omega
end XM35a
