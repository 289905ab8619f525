/-! Questions and indices, of a state in symbols. -/
section XBr
def vCo (k : TK) (s : vSt) : vSt := (s.1, s.2.1, s.2.2.1, k :: s.2.2.2)
theorem vCo_spec {KT : Nat → Option vKd} {ρ : Nat → Int32} {σ : Nat → Nat} {ty : Nat → Option Nat} {H : List (XC Int32)} {s : vSt} (h : vRel KT ρ σ ty H s) {k : TK} (hk : tHd ρ k) : vRel KT ρ σ ty H (vCo k s) ∧ vExt s (vCo k s) ρ ρ σ σ :=
  ⟨⟨h.1, h.2.1, h.2.2.1, tCons h.2.2.2 hk⟩, fun _ _ => rfl, fun _ _ => rfl, Nat.le_refl _, Nat.le_refl _⟩
def vAsk (b : Bool) (x y : Jvm.Term) (s : vSt) (kt kf : vSt → Bool) : Bool := match vDec s.2.2.2 3 b x y with
  | some true => kt s
  | some false => kf s
  | none => kt (vCo (b, x, y, true) s) && kf (vCo (b, x, y, false) s)
theorem vAsk_spec {KT : Nat → Option vKd} {ρ : Nat → Int32} {σ : Nat → Nat} {ty : Nat → Option Nat} {H : List (XC Int32)} {s : vSt} (h : vRel KT ρ σ ty H s) {b : Bool} {x y : Jvm.Term} {kt kf : vSt → Bool} (hk : vAsk b x y s kt kf = true) :
    ∃ s2, vRel KT ρ σ ty H s2 ∧ vExt s s2 ρ ρ σ σ ∧ ((tRel ρ (b, x, y, true) = true ∧ kt s2 = true) ∨ (tRel ρ (b, x, y, true) = false ∧ kf s2 = true)) := by
  unfold vAsk at hk
  split at hk
  · rename_i hd
    exact ⟨s, h, vExt_rf s ρ σ, Or.inl ⟨vDec_spec h.2.2.2 hd, hk⟩⟩
  · rename_i hd
    exact ⟨s, h, vExt_rf s ρ σ, Or.inr ⟨vDec_spec h.2.2.2 hd, hk⟩⟩
  · have hk2 := Bool.and_eq_true_iff.mp hk
    by_cases hr : tRel ρ (b, x, y, true) = true
    · obtain ⟨g1, g2⟩ := vCo_spec h (k := (b, x, y, true)) hr
      exact ⟨_, g1, g2, Or.inl ⟨hr, hk2.1⟩⟩
    · have hr2 : tRel ρ (b, x, y, true) = false := by simpa using hr
      obtain ⟨g1, g2⟩ := vCo_spec h (k := (b, x, y, false)) (show tRel ρ (b, x, y, false) = false from hr2)
      exact ⟨_, g1, g2, Or.inr ⟨hr2, hk2.2⟩⟩
def vBr (o : Nat) (a b : Jvm.Term) (s : vSt) (kt kf : vSt → Bool) : Bool := match o with
  | 0 => vAsk false a b s kt kf
  | 1 => vAsk false a b s kf kt
  | 2 => vAsk true a b s kt kf
  | 3 => vAsk true a b s kf kt
  | 4 => vAsk true b a s kt kf
  | _ => vAsk true b a s kf kt
theorem vBr_spec {KT : Nat → Option vKd} {ρ : Nat → Int32} {σ : Nat → Nat} {ty : Nat → Option Nat} {H : List (XC Int32)} {s : vSt} (h : vRel KT ρ σ ty H s) {o : Nat} {a b : Jvm.Term} {kt kf : vSt → Bool} (hk : vBr o a b s kt kf = true) :
    ∃ s2, vRel KT ρ σ ty H s2 ∧ vExt s s2 ρ ρ σ σ ∧ ((x_cmp o (tEv ρ a) (tEv ρ b) = true ∧ kt s2 = true) ∨ (x_cmp o (tEv ρ a) (tEv ρ b) = false ∧ kf s2 = true)) := by
  have neg : ∀ (p : Prop) (i : Decidable p) (q : Prop) (j : Decidable q), (q ↔ ¬ p) → @decide p i = !(@decide q j) := fun p i q j hq => by
    by_cases hp : p
    · simp [hp, hq]
    · simp [hp, hq]
  unfold vBr at hk
  split at hk
  · exact vAsk_spec h hk
  · obtain ⟨s2, g0, g1, g2⟩ := vAsk_spec h hk
    have e : tRel ρ (false, a, b, true) = !(x_cmp 1 (tEv ρ a) (tEv ρ b)) := neg _ _ _ _ Iff.rfl
    rw [e] at g2
    refine ⟨s2, g0, g1, ?_⟩
    rcases g2 with ⟨z1, z2⟩ | ⟨z1, z2⟩
    · exact Or.inr ⟨by simpa using z1, z2⟩
    · exact Or.inl ⟨by simpa using z1, z2⟩
  · exact vAsk_spec h hk
  · obtain ⟨s2, g0, g1, g2⟩ := vAsk_spec h hk
    have e : tRel ρ (true, a, b, true) = !(x_cmp 3 (tEv ρ a) (tEv ρ b)) := neg _ _ _ _ Int32.not_lt.symm
    rw [e] at g2
    refine ⟨s2, g0, g1, ?_⟩
    rcases g2 with ⟨z1, z2⟩ | ⟨z1, z2⟩
    · exact Or.inr ⟨by simpa using z1, z2⟩
    · exact Or.inl ⟨by simpa using z1, z2⟩
  · exact vAsk_spec h hk
  · rename_i o' h0 h1 h2 h3 h4
    obtain ⟨s2, g0, g1, g2⟩ := vAsk_spec h hk
    have e0 : x_cmp o (tEv ρ a) (tEv ρ b) = decide (tEv ρ a ≤ tEv ρ b) := by
      unfold x_cmp
      split <;> first | rfl | (exfalso; simp_all; done)
    have e : tRel ρ (true, b, a, true) = !(decide (tEv ρ a ≤ tEv ρ b)) := neg _ _ _ _ Int32.not_lt.symm
    rw [e] at g2
    rw [e0]
    refine ⟨s2, g0, g1, ?_⟩
    rcases g2 with ⟨z1, z2⟩ | ⟨z1, z2⟩
    · exact Or.inr ⟨by simpa using z1, z2⟩
    · exact Or.inl ⟨by simpa using z1, z2⟩
/-- an index that is surely one of n -/
def vIdx (e : Jvm.Term) (n : Nat) (s : vSt) : Bool := decide (0 ≤ (vRng s.2.2.2 3 e).1) && decide ((vRng s.2.2.2 3 e).2 < (n : Int))
theorem vIdx_spec {KT : Nat → Option vKd} {ρ : Nat → Int32} {σ : Nat → Nat} {ty : Nat → Option Nat} {H : List (XC Int32)} {s : vSt} (h : vRel KT ρ σ ty H s) {e : Jvm.Term} {n : Nat} (hk : vIdx e n s = true) : (decide (tEv ρ e < 0) || decide (n ≤ (tEv ρ e).toNatClampNeg)) = false ∧ (tEv ρ e).toNatClampNeg < n := by
  obtain ⟨r1, r2⟩ := vRng_spec h.2.2.2 3 e
  have hk2 := Bool.and_eq_true_iff.mp hk
  have k1 := of_decide_eq_true hk2.1
  have k2 := of_decide_eq_true hk2.2
  have e1 : (tEv ρ e).toNatClampNeg = (tEv ρ e).toInt.toNat := rfl
  have e2 : (tEv ρ e).toNatClampNeg < n := by omega
  refine ⟨?_, e2⟩
  rw [Bool.or_eq_false_iff]
  refine ⟨decide_eq_false (fun z => ?_), decide_eq_false (by omega)⟩
  have z2 : (tEv ρ e).toInt < (0 : Int) := Int32.lt_iff_toInt_lt.mp z
  omega
end XBr
