/-! Sums over unknowns with whole coefficients, and their bounds. -/
noncomputable section XLin
/-- a constant, and unknowns with their coefficients -/
abbrev lT : Type := Int × List (Nat × Int)
def lS (ρ : Nat → Int) : List (Nat × Int) → Int
  | [] => 0
  | p :: r => p.2 * ρ p.1 + lS ρ r
def lEv (ρ : Nat → Int) (l : lT) : Int := l.1 + lS ρ l.2
def lK (n : Int) : lT := (n, [])
def lSy (i : Nat) : lT := (0, [(i, 1)])
theorem bif_if {α : Type} {b : Bool} {P : Prop} [Decidable P] (h : b = true ↔ P) (x y : α) : (bif b then x else y) = if P then x else y := by
  cases b with
  | true => exact (if_pos (h.mp rfl)).symm
  | false => exact (if_neg (fun q => Bool.noConfusion (h.mpr q))).symm
theorem beq_iff_n {a b : Nat} : Nat.beq a b = true ↔ a = b := ⟨Nat.eq_of_beq_eq_true, fun h => by
  cases e : Nat.beq a b with
  | true => rfl
  | false => exact absurd h (Nat.ne_of_beq_eq_false e)⟩
theorem nb_ne {a b : Nat} (h : (!(Nat.beq a b)) = true) : a ≠ b := fun e => by
  rw [beq_iff_n.mpr e] at h
  cases h
def iZ (a : Int) : Bool := Int.rec (motive := fun _ => Bool) (fun n => Nat.beq n 0) (fun _ => false) a
theorem iZ_iff : ∀ {a : Int}, iZ a = true ↔ a = 0
  | .ofNat n => ⟨fun h => congrArg Int.ofNat (Nat.eq_of_beq_eq_true h), fun h => by
    have h2 : Int.ofNat n = Int.ofNat 0 := h
    exact beq_iff_n.mpr (Int.ofNat.inj h2)⟩
  | .negSucc n => ⟨fun h => absurd (show false = true from h) Bool.false_ne_true, fun h => by
    have h2 : Int.negSucc n = Int.ofNat 0 := h
    cases h2⟩
def iNn (a : Int) : Bool := Int.rec (motive := fun _ => Bool) (fun _ => true) (fun _ => false) a
theorem iNn_iff : ∀ {a : Int}, iNn a = true ↔ 0 ≤ a
  | .ofNat n => ⟨fun _ => Int.natCast_nonneg n, fun _ => rfl⟩
  | .negSucc n => ⟨fun h => absurd (show false = true from h) Bool.false_ne_true, fun h => absurd h (Int.not_le.mpr (Int.negSucc_lt_zero n))⟩
def iPs (a : Int) : Bool := Int.rec (motive := fun _ => Bool) (fun n => Nat.ble 1 n) (fun _ => false) a
theorem iPs_spec : ∀ {a : Int}, iPs a = true → 0 < a
  | .ofNat n, h => by
    have h2 : 1 ≤ n := Nat.le_of_ble_eq_true h
    show (0 : Int) < (n : Int)
    omega
  | .negSucc _, h => absurd (show false = true from h) Bool.false_ne_true
def iMi (a : Int) : Bool := Int.rec (motive := fun _ => Bool) (fun _ => false) (fun _ => true) a
theorem iMi_spec : ∀ {a : Int}, iMi a = true → a < 0
  | .ofNat _, h => absurd (show false = true from h) Bool.false_ne_true
  | .negSucc n, _ => Int.negSucc_lt_zero n
def iNg (a : Int) : Int := Int.rec (motive := fun _ => Int) (fun n => Nat.rec (motive := fun _ => Int) (Int.ofNat 0) (fun m _ => Int.negSucc m) n) (fun n => Int.ofNat (Nat.succ n)) a
theorem iNg_eq : ∀ a : Int, iNg a = -a
  | .ofNat 0 => rfl
  | .ofNat (_ + 1) => rfl
  | .negSucc _ => rfl
def lAny {α : Type} (p : α → Bool) (l : List α) : Bool := List.rec (motive := fun _ => Bool) false (fun a _ h => Bool.rec (motive := fun _ => Bool) h true (p a)) l
theorem lAny_eq {α : Type} (p : α → Bool) : ∀ l : List α, lAny p l = l.any p
  | [] => rfl
  | a :: l => by
    have ih := lAny_eq p l
    show Bool.rec (motive := fun _ => Bool) (lAny p l) true (p a) = (p a || l.any p)
    rw [ih]
    cases p a <;> rfl
def lFil {α : Type} (p : α → Bool) (l : List α) : List α := List.rec (motive := fun _ => List α) [] (fun a _ h => Bool.rec (motive := fun _ => List α) h (a :: h) (p a)) l
theorem lFil_mem {α : Type} (p : α → Bool) {x : α} : ∀ {l : List α}, x ∈ lFil p l → x ∈ l ∧ p x = true
  | [], h => absurd (show x ∈ ([] : List α) from h) List.not_mem_nil
  | a :: l, h => by
    have e : lFil p (a :: l) = bif p a then a :: lFil p l else lFil p l := by
      show Bool.rec (motive := fun _ => List α) (lFil p l) (a :: lFil p l) (p a) = _
      cases p a <;> rfl
    rw [e] at h
    cases hp : p a with
    | true =>
      rw [hp] at h
      have h : x ∈ a :: lFil p l := h
      rcases List.mem_cons.mp h with h | h
      · rw [h]
        exact ⟨List.mem_cons_self, hp⟩
      · have ih := lFil_mem p h
        exact ⟨List.mem_cons_of_mem _ ih.1, ih.2⟩
    | false =>
      rw [hp] at h
      have h : x ∈ lFil p l := h
      have ih := lFil_mem p h
      exact ⟨List.mem_cons_of_mem _ ih.1, ih.2⟩
def lIns (s : Nat) (c : Int) (l : List (Nat × Int)) : List (Nat × Int) := List.rec (motive := fun _ => List (Nat × Int)) [(s, c)] (fun p r h => Bool.rec (motive := fun _ => List (Nat × Int)) (Bool.rec (motive := fun _ => List (Nat × Int)) (p :: h) ((s, c) :: p :: r) (Nat.ble (Nat.succ p.1) s)) (Bool.rec (motive := fun _ => List (Nat × Int)) ((s, Int.add c p.2) :: r) r (iZ (Int.add c p.2))) (Nat.beq s p.1)) l
theorem lIns_c (s : Nat) (c : Int) (p : Nat × Int) (r : List (Nat × Int)) : lIns s c (p :: r) = if s = p.1 then (if c + p.2 = 0 then r else (s, c + p.2) :: r) else if p.1 < s then (s, c) :: p :: r else p :: lIns s c r := by
  have e : lIns s c (p :: r) = bif Nat.beq s p.1 then (bif iZ (c + p.2) then r else (s, c + p.2) :: r) else (bif Nat.ble (Nat.succ p.1) s then (s, c) :: p :: r else p :: lIns s c r) := by
    show Bool.rec (motive := fun _ => List (Nat × Int)) (Bool.rec (motive := fun _ => List (Nat × Int)) (p :: lIns s c r) ((s, c) :: p :: r) (Nat.ble (Nat.succ p.1) s)) (Bool.rec (motive := fun _ => List (Nat × Int)) ((s, c + p.2) :: r) r (iZ (c + p.2))) (Nat.beq s p.1) = _
    cases Nat.beq s p.1
    · cases Nat.ble (Nat.succ p.1) s <;> rfl
    · cases iZ (c + p.2) <;> rfl
  have e2 := bif_if (iZ_iff (a := c + p.2)) r ((s, c + p.2) :: r)
  have e3 := bif_if (P := p.1 < s) ⟨Nat.le_of_ble_eq_true, Nat.ble_eq_true_of_le⟩ ((s, c) :: p :: r) (p :: lIns s c r)
  have e4 := bif_if (beq_iff_n (a := s) (b := p.1)) (bif iZ (c + p.2) then r else (s, c + p.2) :: r) (bif Nat.ble (Nat.succ p.1) s then (s, c) :: p :: r else p :: lIns s c r)
  rw [e, e4, e2, e3]
def lMrg (a b : List (Nat × Int)) : List (Nat × Int) := List.rec (motive := fun _ => List (Nat × Int)) b (fun p _ h => lIns p.1 p.2 h) a
def lAdd (a b : lT) : lT := (Int.add a.1 b.1, lMrg a.2 b.2)
def lScs (k : Int) (l : List (Nat × Int)) : List (Nat × Int) := List.rec (motive := fun _ => List (Nat × Int)) [] (fun p _ h => (p.1, Int.mul k p.2) :: h) l
def lSc (k : Int) (a : lT) : lT := Bool.rec (motive := fun _ => lT) (Int.mul k a.1, lScs k a.2) (lK 0) (iZ k)
theorem lSc_c (k : Int) (a : lT) : lSc k a = if k = 0 then lK 0 else (k * a.1, lScs k a.2) := by
  have e : lSc k a = bif iZ k then lK 0 else (k * a.1, lScs k a.2) := by
    show Bool.rec (motive := fun _ => lT) (k * a.1, lScs k a.2) (lK 0) (iZ k) = _
    cases iZ k <;> rfl
  exact e.trans (bif_if iZ_iff _ _)
def lNgs (l : List (Nat × Int)) : List (Nat × Int) := List.rec (motive := fun _ => List (Nat × Int)) [] (fun p _ h => (p.1, iNg p.2) :: h) l
def lSub (a b : lT) : lT := (Int.add a.1 (iNg b.1), lMrg a.2 (lNgs b.2))
theorem lK_ev (ρ : Nat → Int) (n : Int) : lEv ρ (lK n) = n := Int.add_zero n
theorem lSy_ev (ρ : Nat → Int) (i : Nat) : lEv ρ (lSy i) = ρ i := by
  show 0 + (1 * ρ i + 0) = ρ i
  omega
theorem lIns_ev (ρ : Nat → Int) (s : Nat) (c : Int) : ∀ r, lS ρ (lIns s c r) = c * ρ s + lS ρ r
  | [] => rfl
  | p :: r => by
    rw [lIns_c]
    split
    · rename_i h
      have e : p.2 * ρ p.1 = p.2 * ρ s := by rw [h]
      have d : (c + p.2) * ρ s = c * ρ s + p.2 * ρ s := Int.add_mul _ _ _
      split
      · rename_i h2
        rw [h2, Int.zero_mul] at d
        show lS ρ r = c * ρ s + (p.2 * ρ p.1 + lS ρ r)
        omega
      · show (c + p.2) * ρ s + lS ρ r = c * ρ s + (p.2 * ρ p.1 + lS ρ r)
        omega
    split
    · rfl
    · have ih := lIns_ev ρ s c r
      show p.2 * ρ p.1 + lS ρ (lIns s c r) = c * ρ s + (p.2 * ρ p.1 + lS ρ r)
      omega
theorem lMrg_ev (ρ : Nat → Int) (b : List (Nat × Int)) : ∀ a, lS ρ (lMrg a b) = lS ρ a + lS ρ b
  | [] => (Int.zero_add _).symm
  | p :: r => by
    have ih := lMrg_ev ρ b r
    show lS ρ (lIns p.1 p.2 (lMrg r b)) = p.2 * ρ p.1 + lS ρ r + lS ρ b
    rw [lIns_ev]
    omega
theorem lAdd_ev (ρ : Nat → Int) (a b : lT) : lEv ρ (lAdd a b) = lEv ρ a + lEv ρ b := by
  show a.1 + b.1 + lS ρ (lMrg a.2 b.2) = a.1 + lS ρ a.2 + (b.1 + lS ρ b.2)
  rw [lMrg_ev]
  omega
theorem lScs_ev (ρ : Nat → Int) (k : Int) : ∀ a, lS ρ (lScs k a) = k * lS ρ a
  | [] => (Int.mul_zero k).symm
  | p :: r => by
    have ih := lScs_ev ρ k r
    show k * p.2 * ρ p.1 + lS ρ (lScs k r) = k * (p.2 * ρ p.1 + lS ρ r)
    rw [ih, Int.mul_add, Int.mul_assoc]
theorem lSc_ev (ρ : Nat → Int) (k : Int) (a : lT) : lEv ρ (lSc k a) = k * lEv ρ a := by
  rw [lSc_c]
  split
  · rename_i h
    rw [h, lK_ev, Int.zero_mul]
  · show k * a.1 + lS ρ (lScs k a.2) = k * (a.1 + lS ρ a.2)
    rw [lScs_ev, Int.mul_add]
theorem lNgs_ev (ρ : Nat → Int) : ∀ a, lS ρ (lNgs a) = -lS ρ a
  | [] => rfl
  | p :: r => by
    have ih := lNgs_ev ρ r
    show iNg p.2 * ρ p.1 + lS ρ (lNgs r) = -(p.2 * ρ p.1 + lS ρ r)
    rw [ih, iNg_eq, Int.neg_mul]
    omega
theorem lSub_ev (ρ : Nat → Int) (a b : lT) : lEv ρ (lSub a b) = lEv ρ a - lEv ρ b := by
  show a.1 + iNg b.1 + lS ρ (lMrg a.2 (lNgs b.2)) = a.1 + lS ρ a.2 - (b.1 + lS ρ b.2)
  rw [lMrg_ev, lNgs_ev, iNg_eq]
  omega
/-- equal as they stand -/
def iE (a b : Int) : Bool := Int.rec (motive := fun _ => Bool) (fun m => Int.rec (motive := fun _ => Bool) (fun n => Nat.beq m n) (fun _ => false) b) (fun m => Int.rec (motive := fun _ => Bool) (fun _ => false) (fun n => Nat.beq m n) b) a
theorem iE_spec : ∀ {a b : Int}, iE a b = true → a = b
  | .ofNat a, .ofNat b, h => congrArg Int.ofNat (Nat.eq_of_beq_eq_true h)
  | .negSucc a, .negSucc b, h => congrArg Int.negSucc (Nat.eq_of_beq_eq_true h)
  | .ofNat a, .negSucc b, h => by cases h
  | .negSucc a, .ofNat b, h => by cases h
def lEqs (a : List (Nat × Int)) : List (Nat × Int) → Bool := List.rec (motive := fun _ => List (Nat × Int) → Bool) (fun b => List.rec (motive := fun _ => Bool) true (fun _ _ _ => false) b) (fun p _ h b => List.rec (motive := fun _ => Bool) false (fun q t _ => Bool.rec (motive := fun _ => Bool) false (Bool.rec (motive := fun _ => Bool) false (h t) (iE p.2 q.2)) (Nat.beq p.1 q.1)) b) a
theorem lEqs_c (p q : Nat × Int) (r t : List (Nat × Int)) : lEqs (p :: r) (q :: t) = (Nat.beq p.1 q.1 && iE p.2 q.2 && lEqs r t) := by
  show Bool.rec (motive := fun _ => Bool) false (Bool.rec (motive := fun _ => Bool) false (lEqs r t) (iE p.2 q.2)) (Nat.beq p.1 q.1) = _
  cases Nat.beq p.1 q.1
  · rfl
  · cases iE p.2 q.2 <;> rfl
def lEq (a b : lT) : Bool := Bool.rec (motive := fun _ => Bool) false (lEqs a.2 b.2) (iE a.1 b.1)
theorem lEqs_spec : ∀ {a b : List (Nat × Int)}, lEqs a b = true → a = b
  | [], [], _ => rfl
  | [], _ :: _, h => by cases h
  | _ :: _, [], h => by cases h
  | p :: r, q :: t, h => by
    rw [lEqs_c] at h
    have h1 := Bool.and_eq_true_iff.mp h
    have h2 := Bool.and_eq_true_iff.mp h1.1
    have e : p = q := Prod.ext (Nat.eq_of_beq_eq_true h2.1) (iE_spec h2.2)
    rw [e, lEqs_spec h1.2]
theorem lEq_spec {a b : lT} (h : lEq a b = true) : a = b := by
  have e : lEq a b = (iE a.1 b.1 && lEqs a.2 b.2) := by
    show Bool.rec (motive := fun _ => Bool) false (lEqs a.2 b.2) (iE a.1 b.1) = _
    cases iE a.1 b.1 <;> rfl
  rw [e] at h
  have h1 := Bool.and_eq_true_iff.mp h
  exact Prod.ext (iE_spec h1.1) (lEqs_spec h1.2)
/-- only unknowns below n -/
def lBds (n : Nat) : List (Nat × Int) → Bool
  | [] => true
  | p :: r => Nat.ble (p.1 + 1) n && lBds n r
def lBd (n : Nat) (l : lT) : Bool := lBds n l.2
theorem lBds_spec {n : Nat} {ρ ρ2 : Nat → Int} (h : ∀ i, i < n → ρ2 i = ρ i) : ∀ l, lBds n l = true → lS ρ2 l = lS ρ l
  | [], _ => rfl
  | p :: r, hb => by
    have h1 := Bool.and_eq_true_iff.mp hb
    show p.2 * ρ2 p.1 + lS ρ2 r = p.2 * ρ p.1 + lS ρ r
    rw [h p.1 (Nat.le_of_ble_eq_true h1.1), lBds_spec h r h1.2]
theorem lBd_spec {n : Nat} {ρ ρ2 : Nat → Int} (h : ∀ i, i < n → ρ2 i = ρ i) {l : lT} (hb : lBd n l = true) : lEv ρ2 l = lEv ρ l := by
  show l.1 + lS ρ2 l.2 = l.1 + lS ρ l.2
  rw [lBds_spec h l.2 hb]
/-- bounds of the unknowns: a list, the newest first -/
abbrev lI : Type := List (Nat × Int × Int)
def iHd (ρ : Nat → Int) (I : lI) : Prop := ∀ q ∈ I, q.2.1 ≤ ρ q.1 ∧ ρ q.1 ≤ q.2.2
def iLk (I : lI) (i : Nat) : Option (Int × Int) := List.rec (motive := fun _ => Option (Int × Int)) none (fun q _ h => Bool.rec (motive := fun _ => Option (Int × Int)) h (some q.2) (Nat.beq q.1 i)) I
theorem iLk_c (q : Nat × Int × Int) (r : lI) (i : Nat) : iLk (q :: r) i = bif Nat.beq q.1 i then some q.2 else iLk r i := by
  show Bool.rec (motive := fun _ => Option (Int × Int)) (iLk r i) (some q.2) (Nat.beq q.1 i) = _
  cases Nat.beq q.1 i <;> rfl
theorem iLk_spec {ρ : Nat → Int} {i : Nat} {p : Int × Int} : ∀ {I : lI}, iHd ρ I → iLk I i = some p → p.1 ≤ ρ i ∧ ρ i ≤ p.2
  | [], _, h => by cases h
  | q :: r, hI, h => by
    rw [iLk_c] at h
    rcases e : Nat.beq q.1 i with _ | _
    · rw [e] at h
      exact iLk_spec (fun z hz => hI z (List.mem_cons_of_mem _ hz)) h
    · rw [e] at h
      have h : some q.2 = some p := h
      cases h
      rw [← Nat.eq_of_beq_eq_true e]
      exact hI q List.mem_cons_self
def lRg (I : lI) (l : List (Nat × Int)) : Option (Int × Int) := List.rec (motive := fun _ => Option (Int × Int)) (some (Int.ofNat 0, Int.ofNat 0)) (fun p _ h => Option.rec (motive := fun _ => Option (Int × Int)) none (fun q => Option.rec (motive := fun _ => Option (Int × Int)) none (fun t => some (Bool.rec (motive := fun _ => Int × Int) (Int.add (Int.mul p.2 q.2) t.1, Int.add (Int.mul p.2 q.1) t.2) (Int.add (Int.mul p.2 q.1) t.1, Int.add (Int.mul p.2 q.2) t.2) (iNn p.2))) h) (iLk I p.1)) l
theorem lRg_c (I : lI) (p : Nat × Int) (r : List (Nat × Int)) : lRg I (p :: r) = match iLk I p.1 with
    | none => none
    | some q => match lRg I r with
      | none => none
      | some t => some (if 0 ≤ p.2 then (p.2 * q.1 + t.1, p.2 * q.2 + t.2) else (p.2 * q.2 + t.1, p.2 * q.1 + t.2)) := by
  show Option.rec (motive := fun _ => Option (Int × Int)) none (fun q => Option.rec (motive := fun _ => Option (Int × Int)) none (fun t => some (Bool.rec (motive := fun _ => Int × Int) (p.2 * q.2 + t.1, p.2 * q.1 + t.2) (p.2 * q.1 + t.1, p.2 * q.2 + t.2) (iNn p.2))) (lRg I r)) (iLk I p.1) = _
  cases iLk I p.1 with
  | none => rfl
  | some q => cases lRg I r with
    | none => rfl
    | some t =>
      show some (Bool.rec (motive := fun _ => Int × Int) (p.2 * q.2 + t.1, p.2 * q.1 + t.2) (p.2 * q.1 + t.1, p.2 * q.2 + t.2) (iNn p.2)) = some (if 0 ≤ p.2 then (p.2 * q.1 + t.1, p.2 * q.2 + t.2) else (p.2 * q.2 + t.1, p.2 * q.1 + t.2))
      have e : (Bool.rec (motive := fun _ => Int × Int) (p.2 * q.2 + t.1, p.2 * q.1 + t.2) (p.2 * q.1 + t.1, p.2 * q.2 + t.2) (iNn p.2) : Int × Int) = bif iNn p.2 then (p.2 * q.1 + t.1, p.2 * q.2 + t.2) else (p.2 * q.2 + t.1, p.2 * q.1 + t.2) := by
        cases iNn p.2 <;> rfl
      exact congrArg some (e.trans (bif_if iNn_iff _ _))
theorem lRg_spec {ρ : Nat → Int} {I : lI} (hI : iHd ρ I) : ∀ {l : List (Nat × Int)} {t : Int × Int}, lRg I l = some t → t.1 ≤ lS ρ l ∧ lS ρ l ≤ t.2
  | [], t, h => by
    cases h
    exact ⟨Int.le_refl _, Int.le_refl _⟩
  | p :: r, t, h => by
    rw [lRg_c] at h
    split at h
    · cases h
    rename_i q hq
    split at h
    · cases h
    rename_i u hu
    have h1 := iLk_spec hI hq
    have h2 := lRg_spec hI hu
    cases h
    show (if 0 ≤ p.2 then _ else _ : Int × Int).1 ≤ p.2 * ρ p.1 + lS ρ r ∧ p.2 * ρ p.1 + lS ρ r ≤ (if 0 ≤ p.2 then _ else _ : Int × Int).2
    split
    · rename_i hp
      have a1 := Int.mul_le_mul_of_nonneg_left h1.1 hp
      have a2 := Int.mul_le_mul_of_nonneg_left h1.2 hp
      constructor
      · show p.2 * q.1 + u.1 ≤ _
        omega
      · show _ ≤ p.2 * q.2 + u.2
        omega
    · rename_i hp
      have a1 := Int.mul_le_mul_of_nonpos_left (a := p.2) (show p.2 ≤ 0 by omega) h1.1
      have a2 := Int.mul_le_mul_of_nonpos_left (a := p.2) (show p.2 ≤ 0 by omega) h1.2
      constructor
      · show p.2 * q.2 + u.1 ≤ _
        omega
      · show _ ≤ p.2 * q.1 + u.2
        omega
def lRn (I : lI) (l : lT) : Option (Int × Int) := Option.rec (motive := fun _ => Option (Int × Int)) none (fun t => some (Int.add l.1 t.1, Int.add l.1 t.2)) (lRg I l.2)
theorem lRn_c (I : lI) (l : lT) : lRn I l = match lRg I l.2 with
    | none => none
    | some t => some (l.1 + t.1, l.1 + t.2) := by
  show Option.rec (motive := fun _ => Option (Int × Int)) none (fun t => some (l.1 + t.1, l.1 + t.2)) (lRg I l.2) = _
  cases lRg I l.2 <;> rfl
theorem lRn_spec {ρ : Nat → Int} {I : lI} (hI : iHd ρ I) {l : lT} {t : Int × Int} (h : lRn I l = some t) : t.1 ≤ lEv ρ l ∧ lEv ρ l ≤ t.2 := by
  rw [lRn_c] at h
  split at h
  · cases h
  rename_i u hu
  have h1 := lRg_spec hI hu
  cases h
  show l.1 + u.1 ≤ l.1 + lS ρ l.2 ∧ l.1 + lS ρ l.2 ≤ l.1 + u.2
  omega
/-- an int, as it is -/
def iLo (a : Int) : Bool := Int.rec (motive := fun _ => Bool) (fun _ => true) (fun n => Nat.ble n 2147483647) a
def iHi (a : Int) : Bool := Int.rec (motive := fun _ => Bool) (fun n => Nat.ble n 2147483647) (fun _ => true) a
theorem iLo_spec : ∀ {a : Int}, iLo a = true → -2147483648 ≤ a
  | .ofNat n, _ => Int.le_trans (by decide) (Int.natCast_nonneg n)
  | .negSucc n, h => by
    have h2 : n ≤ 2147483647 := Nat.le_of_ble_eq_true h
    rw [Int.negSucc_eq]
    omega
theorem iHi_spec : ∀ {a : Int}, iHi a = true → a ≤ 2147483647
  | .ofNat n, h => by
    have h2 : n ≤ 2147483647 := Nat.le_of_ble_eq_true h
    show (n : Int) ≤ 2147483647
    omega
  | .negSucc n, _ => Int.le_trans (Int.le_of_lt (Int.negSucc_lt_zero n)) (by decide)
def iFit (t : Int × Int) : Bool := Bool.rec (motive := fun _ => Bool) false (iHi t.2) (iLo t.1)
theorem iFit_spec {t : Int × Int} (h : iFit t = true) : -2147483648 ≤ t.1 ∧ t.2 ≤ 2147483647 := by
  have e : iFit t = (iLo t.1 && iHi t.2) := by
    show Bool.rec (motive := fun _ => Bool) false (iHi t.2) (iLo t.1) = _
    cases iLo t.1 <;> rfl
  rw [e] at h
  have h2 := Bool.and_eq_true_iff.mp h
  exact ⟨iLo_spec h2.1, iHi_spec h2.2⟩
theorem ofInt_toInt {n : Int} (h1 : -2147483648 ≤ n) (h2 : n ≤ 2147483647) : (Int32.ofInt n).toInt = n := by
  rw [Int32.toInt_ofInt]
  exact vBm h1 h2
def lFit (I : lI) (l : lT) : Bool := Option.rec (motive := fun _ => Bool) false (fun t => iFit t) (lRn I l)
theorem lFit_c (I : lI) (l : lT) : lFit I l = match lRn I l with
    | none => false
    | some t => iFit t := by
  show Option.rec (motive := fun _ => Bool) false (fun t => iFit t) (lRn I l) = _
  cases lRn I l <;> rfl
theorem lFit_spec {ρ : Nat → Int} {I : lI} (hI : iHd ρ I) {l : lT} (h : lFit I l = true) : (Int32.ofInt (lEv ρ l)).toInt = lEv ρ l := by
  rw [lFit_c] at h
  split at h
  · cases h
  rename_i t ht
  have h1 := lRn_spec hI ht
  have h2 := iFit_spec h
  have h3 := h2.1
  have h4 := h2.2
  exact ofInt_toInt (by omega) (by omega)
/-- bounds of the int that a sum is -/
def vR (I : lI) (l : lT) : Int × Int := match lRn I l with
  | none => vTop
  | some t => if iFit t then t else vTop
theorem vR_spec {ρ : Nat → Int} {I : lI} (hI : iHd ρ I) (l : lT) : vIn (vR I l) (Int32.ofInt (lEv ρ l)) := by
  unfold vR
  split
  · exact vTop_spec _
  · rename_i t ht
    split
    · rename_i hf
      have h1 := lRn_spec hI ht
      have h2 := iFit_spec hf
      have h3 := h2.1
      have h4 := h2.2
      have e := ofInt_toInt (n := lEv ρ l) (by omega) (by omega)
      constructor
      · rw [e]
        exact h1.1
      · rw [e]
        exact h1.2
    · exact vTop_spec _
/-- is a sum surely not below 0 -/
def lCom (a b : List (Nat × Int)) : Bool := lAny (fun p => lAny (fun q => Nat.beq p.1 q.1) b) a
def lGe (I : lI) (C : List lT) (e : lT) : Bool := Option.rec (motive := fun _ => Bool) false (fun t => Bool.rec (motive := fun _ => Bool) (lAny (fun c => Bool.rec (motive := fun _ => Bool) false (Option.rec (motive := fun _ => Bool) false (fun q => iNn q.1) (lRn I (lSub e c))) (lCom e.2 c.2)) C) true (iNn t.1)) (lRn I e)
theorem lGe_c (I : lI) (C : List lT) (e : lT) : lGe I C e = match lRn I e with
    | none => false
    | some t => iNn t.1 || C.any (fun c => lCom e.2 c.2 && (match lRn I (lSub e c) with
      | none => false
      | some q => iNn q.1)) := by
  have e1 : (fun c : lT => Bool.rec (motive := fun _ => Bool) false (Option.rec (motive := fun _ => Bool) false (fun q => iNn q.1) (lRn I (lSub e c))) (lCom e.2 c.2)) = (fun c => lCom e.2 c.2 && (match lRn I (lSub e c) with
      | none => false
      | some q => iNn q.1)) := by
    refine funext fun c => ?_
    show Bool.rec (motive := fun _ => Bool) false (Option.rec (motive := fun _ => Bool) false (fun q => iNn q.1) (lRn I (lSub e c))) (lCom e.2 c.2) = (lCom e.2 c.2 && _)
    cases lCom e.2 c.2
    · rfl
    · cases lRn I (lSub e c) <;> rfl
  show Option.rec (motive := fun _ => Bool) false (fun t => Bool.rec (motive := fun _ => Bool) (lAny (fun c => Bool.rec (motive := fun _ => Bool) false (Option.rec (motive := fun _ => Bool) false (fun q => iNn q.1) (lRn I (lSub e c))) (lCom e.2 c.2)) C) true (iNn t.1)) (lRn I e) = _
  rw [e1, lAny_eq]
  cases lRn I e with
  | none => rfl
  | some t =>
    show Bool.rec (motive := fun _ => Bool) _ true (iNn t.1) = (iNn t.1 || _)
    cases iNn t.1 <;> rfl
theorem lGe_spec {ρ : Nat → Int} {I : lI} (hI : iHd ρ I) {C : List lT} (hC : ∀ c ∈ C, 0 ≤ lEv ρ c) {e : lT} (h : lGe I C e = true) : 0 ≤ lEv ρ e := by
  rw [lGe_c] at h
  split at h
  · cases h
  rename_i t ht
  have h1 := lRn_spec hI ht
  rcases Bool.or_eq_true_iff.mp h with h | h
  · have := iNn_iff.mp h
    omega
  · obtain ⟨c, hc, h⟩ := List.any_eq_true.mp h
    have h2 := hC c hc
    have h := (Bool.and_eq_true_iff.mp h).2
    split at h
    · cases h
    rename_i q hq
    have h3 := lRn_spec hI hq
    rw [lSub_ev] at h3
    have := iNn_iff.mp h
    omega
/-- what e ≥ 0 says of its unknowns; top: the most that e may be; none: e is below 0 -/
def iRefs (I0 : lI) (top : Int) : List (Nat × Int) → lI → Option lI
  | [], I => some I
  | p :: r, I => match iLk I0 p.1 with
    | none => iRefs I0 top r I
    | some q => if 0 < p.2 then (if q.1 < q.2 - top / p.2 then (if q.2 < q.2 - top / p.2 then none else iRefs I0 top r ((p.1, q.2 - top / p.2, q.2) :: I)) else iRefs I0 top r I)
      else if p.2 < 0 then (if q.1 + top / (-p.2) < q.2 then (if q.1 + top / (-p.2) < q.1 then none else iRefs I0 top r ((p.1, q.1, q.1 + top / (-p.2)) :: I)) else iRefs I0 top r I)
      else iRefs I0 top r I
/-- how far an unknown is from where the sum is most -/
def iGap (ρ : Nat → Int) (q : Int × Int) (p : Nat × Int) : Int := if 0 ≤ p.2 then p.2 * (q.2 - ρ p.1) else p.2 * (q.1 - ρ p.1)
theorem iGap_spec {ρ : Nat → Int} {I : lI} (hI : iHd ρ I) : ∀ {l : List (Nat × Int)} {t : Int × Int}, lRg I l = some t → ∀ p ∈ l, ∀ q, iLk I p.1 = some q → iGap ρ q p ≤ t.2 - lS ρ l
  | [], _, _, _, hp, _, _ => by cases hp
  | p :: r, t, h, p2, hp, q2, hq2 => by
    rw [lRg_c] at h
    split at h
    · cases h
    rename_i q hq
    split at h
    · cases h
    rename_i u hu
    have h1 := iLk_spec hI hq
    have h2 := lRg_spec hI hu
    have hg : t.2 - lS ρ (p :: r) = iGap ρ q p + (u.2 - lS ρ r) := by
      cases h
      show (if 0 ≤ p.2 then _ else _ : Int × Int).2 - (p.2 * ρ p.1 + lS ρ r) = _
      unfold iGap
      split
      · show p.2 * q.2 + u.2 - _ = _
        rw [Int.mul_sub]
        omega
      · show p.2 * q.1 + u.2 - _ = _
        rw [Int.mul_sub]
        omega
    have hn : ∀ (p : Nat × Int) (q : Int × Int), q.1 ≤ ρ p.1 ∧ ρ p.1 ≤ q.2 → 0 ≤ iGap ρ q p := fun p q hq => by
      unfold iGap
      split
      · rename_i h0
        exact Int.mul_nonneg h0 (by omega)
      · rename_i h0
        exact Int.mul_nonneg_of_nonpos_of_nonpos (by omega) (by omega)
    have hn1 := hn p q h1
    rcases List.mem_cons.mp hp with rfl | hp
    · rw [hq] at hq2
      cases hq2
      omega
    · have ih := iGap_spec hI hu p2 hp q2 hq2
      omega
theorem iRefs_spec {ρ : Nat → Int} {I0 : lI} (h0 : iHd ρ I0) {top : Int} (htop : 0 ≤ top) : ∀ {l : List (Nat × Int)} {I : lI}, (∀ p ∈ l, ∀ q, iLk I0 p.1 = some q → iGap ρ q p ≤ top) → iHd ρ I → ∃ I2, iRefs I0 top l I = some I2 ∧ iHd ρ I2
  | [], I, _, hI => ⟨I, rfl, hI⟩
  | p :: r, I, hg, hI => by
    have hr : ∀ p ∈ r, ∀ q, iLk I0 p.1 = some q → iGap ρ q p ≤ top := fun p2 hp => hg p2 (List.mem_cons_of_mem _ hp)
    unfold iRefs
    split
    · exact iRefs_spec h0 htop hr hI
    · rename_i q hq
      have h1 := hg p List.mem_cons_self q hq
      have h2 := iLk_spec h0 hq
      unfold iGap at h1
      split
      · rename_i hp
        rw [if_pos (Int.le_of_lt hp)] at h1
        have h3 : q.2 - ρ p.1 ≤ top / p.2 := (Int.le_ediv_iff_mul_le hp).mpr (by rw [Int.mul_comm]; exact h1)
        split
        · rw [if_neg (by omega)]
          refine iRefs_spec h0 htop hr (fun z hz => ?_)
          rcases List.mem_cons.mp hz with rfl | hz
          · show q.2 - top / p.2 ≤ ρ p.1 ∧ ρ p.1 ≤ q.2
            omega
          · exact hI z hz
        · exact iRefs_spec h0 htop hr hI
      split
      · rename_i hp0 hp
        rw [if_neg (by omega)] at h1
        have h4 : (ρ p.1 - q.1) * (-p.2) ≤ top := by
          have : p.2 * (q.1 - ρ p.1) = (ρ p.1 - q.1) * (-p.2) := by
            rw [Int.mul_neg, Int.mul_comm (ρ p.1 - q.1), ← Int.mul_neg]
            congr 1
            omega
          omega
        have h3 : ρ p.1 - q.1 ≤ top / (-p.2) := (Int.le_ediv_iff_mul_le (by omega)).mpr h4
        split
        · rw [if_neg (by omega)]
          refine iRefs_spec h0 htop hr (fun z hz => ?_)
          rcases List.mem_cons.mp hz with rfl | hz
          · show q.1 ≤ ρ p.1 ∧ ρ p.1 ≤ q.1 + top / (-p.2)
            omega
          · exact hI z hz
        · exact iRefs_spec h0 htop hr hI
      · exact iRefs_spec h0 htop hr hI
def iRef (I : lI) (e : lT) : Option lI := match lRn I e with
  | none => some I
  | some t => if t.2 < 0 then none else iRefs I t.2 e.2 I
theorem iRef_spec {ρ : Nat → Int} {I : lI} (hI : iHd ρ I) {e : lT} (he : 0 ≤ lEv ρ e) : ∃ I2, iRef I e = some I2 ∧ iHd ρ I2 := by
  unfold iRef
  split
  · exact ⟨I, rfl, hI⟩
  · rename_i t ht
    have h1 := lRn_spec hI ht
    rw [if_neg (by omega)]
    refine iRefs_spec hI (by omega) (fun p hp q hq => ?_) hI
    rw [lRn_c] at ht
    split at ht
    · cases ht
    rename_i u hu
    have h2 := iGap_spec hI hu p hp q hq
    cases ht
    have he : 0 ≤ e.1 + lS ρ e.2 := he
    show iGap ρ q p ≤ e.1 + u.2
    omega
end XLin
