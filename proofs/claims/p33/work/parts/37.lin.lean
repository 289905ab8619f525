/-! Sums over unknowns with whole coefficients, and their bounds. -/
section XLin
/-- a constant, and unknowns with their coefficients -/
abbrev lT : Type := Int × List (Nat × Int)
def lS (ρ : Nat → Int) : List (Nat × Int) → Int
  | [] => 0
  | p :: r => p.2 * ρ p.1 + lS ρ r
def lEv (ρ : Nat → Int) (l : lT) : Int := l.1 + lS ρ l.2
def lK (n : Int) : lT := (n, [])
def lSy (i : Nat) : lT := (0, [(i, 1)])
def lIns (s : Nat) (c : Int) : List (Nat × Int) → List (Nat × Int)
  | [] => [(s, c)]
  | p :: r => if s = p.1 then (if c + p.2 = 0 then r else (s, c + p.2) :: r) else if p.1 < s then (s, c) :: p :: r else p :: lIns s c r
def lMrg : List (Nat × Int) → List (Nat × Int) → List (Nat × Int)
  | [], b => b
  | p :: r, b => lIns p.1 p.2 (lMrg r b)
def lAdd (a b : lT) : lT := (a.1 + b.1, lMrg a.2 b.2)
def lScs (k : Int) : List (Nat × Int) → List (Nat × Int)
  | [] => []
  | p :: r => (p.1, k * p.2) :: lScs k r
def lSc (k : Int) (a : lT) : lT := if k = 0 then lK 0 else (k * a.1, lScs k a.2)
def lSub (a b : lT) : lT := lAdd a (lSc (-1) b)
theorem lK_ev (ρ : Nat → Int) (n : Int) : lEv ρ (lK n) = n := Int.add_zero n
theorem lSy_ev (ρ : Nat → Int) (i : Nat) : lEv ρ (lSy i) = ρ i := by
  show 0 + (1 * ρ i + 0) = ρ i
  omega
theorem lIns_ev (ρ : Nat → Int) (s : Nat) (c : Int) : ∀ r, lS ρ (lIns s c r) = c * ρ s + lS ρ r
  | [] => rfl
  | p :: r => by
    unfold lIns
    split
    · rename_i h
      have e : p.2 * ρ p.1 = p.2 * ρ s := by rw [h]
      have d : (c + p.2) * ρ s = c * ρ s + p.2 * ρ s := Int.add_mul _ _ _
      split
      · rename_i h2
        rw [h2, Int.zero_mul] at d
        show lS ρ r = c * ρ s + (p.2 * ρ p.1 + lS ρ r)
        omega
      · show (c + p.2) * ρ s + lS ρ r = c * ρ s + (p.2 * ρ p.1 + lS ρ r)
        omega
    split
    · rfl
    · have ih := lIns_ev ρ s c r
      show p.2 * ρ p.1 + lS ρ (lIns s c r) = c * ρ s + (p.2 * ρ p.1 + lS ρ r)
      omega
theorem lMrg_ev (ρ : Nat → Int) (b : List (Nat × Int)) : ∀ a, lS ρ (lMrg a b) = lS ρ a + lS ρ b
  | [] => (Int.zero_add _).symm
  | p :: r => by
    have ih := lMrg_ev ρ b r
    show lS ρ (lIns p.1 p.2 (lMrg r b)) = p.2 * ρ p.1 + lS ρ r + lS ρ b
    rw [lIns_ev]
    omega
theorem lAdd_ev (ρ : Nat → Int) (a b : lT) : lEv ρ (lAdd a b) = lEv ρ a + lEv ρ b := by
  show a.1 + b.1 + lS ρ (lMrg a.2 b.2) = a.1 + lS ρ a.2 + (b.1 + lS ρ b.2)
  rw [lMrg_ev]
  omega
theorem lScs_ev (ρ : Nat → Int) (k : Int) : ∀ a, lS ρ (lScs k a) = k * lS ρ a
  | [] => (Int.mul_zero k).symm
  | p :: r => by
    have ih := lScs_ev ρ k r
    show k * p.2 * ρ p.1 + lS ρ (lScs k r) = k * (p.2 * ρ p.1 + lS ρ r)
    rw [ih, Int.mul_add, Int.mul_assoc]
theorem lSc_ev (ρ : Nat → Int) (k : Int) (a : lT) : lEv ρ (lSc k a) = k * lEv ρ a := by
  unfold lSc
  split
  · rename_i h
    rw [h, lK_ev, Int.zero_mul]
  · show k * a.1 + lS ρ (lScs k a.2) = k * (a.1 + lS ρ a.2)
    rw [lScs_ev, Int.mul_add]
theorem lSub_ev (ρ : Nat → Int) (a b : lT) : lEv ρ (lSub a b) = lEv ρ a - lEv ρ b := by
  show lEv ρ (lAdd a (lSc (-1) b)) = _
  rw [lAdd_ev, lSc_ev]
  omega
/-- equal as they stand -/
def lEqs : List (Nat × Int) → List (Nat × Int) → Bool
  | [], [] => true
  | p :: r, q :: t => decide (p.1 = q.1) && decide (p.2 = q.2) && lEqs r t
  | _, _ => false
def lEq (a b : lT) : Bool := decide (a.1 = b.1) && lEqs a.2 b.2
theorem lEqs_spec : ∀ {a b : List (Nat × Int)}, lEqs a b = true → a = b
  | [], [], _ => rfl
  | [], _ :: _, h => by cases h
  | _ :: _, [], h => by cases h
  | p :: r, q :: t, h => by
    have h1 := Bool.and_eq_true_iff.mp h
    have h2 := Bool.and_eq_true_iff.mp h1.1
    have e : p = q := Prod.ext (of_decide_eq_true h2.1) (of_decide_eq_true h2.2)
    rw [e, lEqs_spec h1.2]
theorem lEq_spec {a b : lT} (h : lEq a b = true) : a = b := by
  have h1 := Bool.and_eq_true_iff.mp h
  exact Prod.ext (of_decide_eq_true h1.1) (lEqs_spec h1.2)
/-- only unknowns below n -/
def lBds (n : Nat) : List (Nat × Int) → Bool
  | [] => true
  | p :: r => decide (p.1 < n) && lBds n r
def lBd (n : Nat) (l : lT) : Bool := lBds n l.2
theorem lBds_spec {n : Nat} {ρ ρ2 : Nat → Int} (h : ∀ i, i < n → ρ2 i = ρ i) : ∀ l, lBds n l = true → lS ρ2 l = lS ρ l
  | [], _ => rfl
  | p :: r, hb => by
    have h1 := Bool.and_eq_true_iff.mp hb
    show p.2 * ρ2 p.1 + lS ρ2 r = p.2 * ρ p.1 + lS ρ r
    rw [h p.1 (of_decide_eq_true h1.1), lBds_spec h r h1.2]
theorem lBd_spec {n : Nat} {ρ ρ2 : Nat → Int} (h : ∀ i, i < n → ρ2 i = ρ i) {l : lT} (hb : lBd n l = true) : lEv ρ2 l = lEv ρ l := by
  show l.1 + lS ρ2 l.2 = l.1 + lS ρ l.2
  rw [lBds_spec h l.2 hb]
/-- bounds of the unknowns: a list, the newest first -/
abbrev lI : Type := List (Nat × Int × Int)
def iHd (ρ : Nat → Int) (I : lI) : Prop := ∀ q ∈ I, q.2.1 ≤ ρ q.1 ∧ ρ q.1 ≤ q.2.2
def iLk : lI → Nat → Option (Int × Int)
  | [], _ => none
  | q :: r, i => if q.1 = i then some q.2 else iLk r i
theorem iLk_spec {ρ : Nat → Int} {i : Nat} {p : Int × Int} : ∀ {I : lI}, iHd ρ I → iLk I i = some p → p.1 ≤ ρ i ∧ ρ i ≤ p.2
  | [], _, h => by cases h
  | q :: r, hI, h => by
    unfold iLk at h
    split at h
    · rename_i e
      cases h
      rw [← e]
      exact hI q List.mem_cons_self
    · exact iLk_spec (fun z hz => hI z (List.mem_cons_of_mem _ hz)) h
def lRg (I : lI) : List (Nat × Int) → Option (Int × Int)
  | [] => some (0, 0)
  | p :: r => match iLk I p.1 with
    | none => none
    | some q => match lRg I r with
      | none => none
      | some t => some (if 0 ≤ p.2 then (p.2 * q.1 + t.1, p.2 * q.2 + t.2) else (p.2 * q.2 + t.1, p.2 * q.1 + t.2))
theorem lRg_spec {ρ : Nat → Int} {I : lI} (hI : iHd ρ I) : ∀ {l : List (Nat × Int)} {t : Int × Int}, lRg I l = some t → t.1 ≤ lS ρ l ∧ lS ρ l ≤ t.2
  | [], t, h => by
    cases h
    exact ⟨Int.le_refl _, Int.le_refl _⟩
  | p :: r, t, h => by
    unfold lRg at h
    split at h
    · cases h
    rename_i q hq
    split at h
    · cases h
    rename_i u hu
    have h1 := iLk_spec hI hq
    have h2 := lRg_spec hI hu
    cases h
    show (if 0 ≤ p.2 then _ else _ : Int × Int).1 ≤ p.2 * ρ p.1 + lS ρ r ∧ p.2 * ρ p.1 + lS ρ r ≤ (if 0 ≤ p.2 then _ else _ : Int × Int).2
    split
    · rename_i hp
      have a1 := Int.mul_le_mul_of_nonneg_left h1.1 hp
      have a2 := Int.mul_le_mul_of_nonneg_left h1.2 hp
      constructor
      · show p.2 * q.1 + u.1 ≤ _
        omega
      · show _ ≤ p.2 * q.2 + u.2
        omega
    · rename_i hp
      have a1 := Int.mul_le_mul_of_nonpos_left (a := p.2) (show p.2 ≤ 0 by omega) h1.1
      have a2 := Int.mul_le_mul_of_nonpos_left (a := p.2) (show p.2 ≤ 0 by omega) h1.2
      constructor
      · show p.2 * q.2 + u.1 ≤ _
        omega
      · show _ ≤ p.2 * q.1 + u.2
        omega
def lRn (I : lI) (l : lT) : Option (Int × Int) := match lRg I l.2 with
  | none => none
  | some t => some (l.1 + t.1, l.1 + t.2)
theorem lRn_spec {ρ : Nat → Int} {I : lI} (hI : iHd ρ I) {l : lT} {t : Int × Int} (h : lRn I l = some t) : t.1 ≤ lEv ρ l ∧ lEv ρ l ≤ t.2 := by
  unfold lRn at h
  split at h
  · cases h
  rename_i u hu
  have h1 := lRg_spec hI hu
  cases h
  show l.1 + u.1 ≤ l.1 + lS ρ l.2 ∧ l.1 + lS ρ l.2 ≤ l.1 + u.2
  omega
/-- an int, as it is -/
def iFit (t : Int × Int) : Bool := decide (-2147483648 ≤ t.1) && decide (t.2 ≤ 2147483647)
theorem ofInt_toInt {n : Int} (h1 : -2147483648 ≤ n) (h2 : n ≤ 2147483647) : (Int32.ofInt n).toInt = n := by
  rw [Int32.toInt_ofInt]
  exact vBm h1 h2
def lFit (I : lI) (l : lT) : Bool := match lRn I l with
  | none => false
  | some t => iFit t
theorem lFit_spec {ρ : Nat → Int} {I : lI} (hI : iHd ρ I) {l : lT} (h : lFit I l = true) : (Int32.ofInt (lEv ρ l)).toInt = lEv ρ l := by
  unfold lFit at h
  split at h
  · cases h
  rename_i t ht
  have h1 := lRn_spec hI ht
  have h2 := Bool.and_eq_true_iff.mp h
  have h3 := of_decide_eq_true h2.1
  have h4 := of_decide_eq_true h2.2
  exact ofInt_toInt (by omega) (by omega)
/-- bounds of the int that a sum is -/
def vR (I : lI) (l : lT) : Int × Int := match lRn I l with
  | none => vTop
  | some t => if iFit t then t else vTop
theorem vR_spec {ρ : Nat → Int} {I : lI} (hI : iHd ρ I) (l : lT) : vIn (vR I l) (Int32.ofInt (lEv ρ l)) := by
  unfold vR
  split
  · exact vTop_spec _
  · rename_i t ht
    split
    · rename_i hf
      have h1 := lRn_spec hI ht
      have h2 := Bool.and_eq_true_iff.mp hf
      have h3 := of_decide_eq_true h2.1
      have h4 := of_decide_eq_true h2.2
      have e := ofInt_toInt (n := lEv ρ l) (by omega) (by omega)
      constructor
      · rw [e]
        exact h1.1
      · rw [e]
        exact h1.2
    · exact vTop_spec _
/-- is a sum surely not below 0 -/
def lGe (I : lI) (C : List lT) (e : lT) : Bool := match lRn I e with
  | none => false
  | some t => decide (0 ≤ t.1) || C.any (fun c => match lRn I (lSub e c) with
    | none => false
    | some q => decide (0 ≤ q.1))
theorem lGe_spec {ρ : Nat → Int} {I : lI} (hI : iHd ρ I) {C : List lT} (hC : ∀ c ∈ C, 0 ≤ lEv ρ c) {e : lT} (h : lGe I C e = true) : 0 ≤ lEv ρ e := by
  unfold lGe at h
  split at h
  · cases h
  rename_i t ht
  have h1 := lRn_spec hI ht
  rcases Bool.or_eq_true_iff.mp h with h | h
  · have := of_decide_eq_true h
    omega
  · obtain ⟨c, hc, h⟩ := List.any_eq_true.mp h
    have h2 := hC c hc
    split at h
    · cases h
    rename_i q hq
    have h3 := lRn_spec hI hq
    rw [lSub_ev] at h3
    have := of_decide_eq_true h
    omega
/-- what e ≥ 0 says of its unknowns; top: the most that e may be; none: e is below 0 -/
def iRefs (I0 : lI) (top : Int) : List (Nat × Int) → lI → Option lI
  | [], I => some I
  | p :: r, I => match iLk I0 p.1 with
    | none => iRefs I0 top r I
    | some q => if 0 < p.2 then (if q.1 < q.2 - top / p.2 then (if q.2 < q.2 - top / p.2 then none else iRefs I0 top r ((p.1, q.2 - top / p.2, q.2) :: I)) else iRefs I0 top r I)
      else if p.2 < 0 then (if q.1 + top / (-p.2) < q.2 then (if q.1 + top / (-p.2) < q.1 then none else iRefs I0 top r ((p.1, q.1, q.1 + top / (-p.2)) :: I)) else iRefs I0 top r I)
      else iRefs I0 top r I
/-- how far an unknown is from where the sum is most -/
def iGap (ρ : Nat → Int) (q : Int × Int) (p : Nat × Int) : Int := if 0 ≤ p.2 then p.2 * (q.2 - ρ p.1) else p.2 * (q.1 - ρ p.1)
theorem iGap_spec {ρ : Nat → Int} {I : lI} (hI : iHd ρ I) : ∀ {l : List (Nat × Int)} {t : Int × Int}, lRg I l = some t → ∀ p ∈ l, ∀ q, iLk I p.1 = some q → iGap ρ q p ≤ t.2 - lS ρ l
  | [], _, _, _, hp, _, _ => by cases hp
  | p :: r, t, h, p2, hp, q2, hq2 => by
    unfold lRg at h
    split at h
    · cases h
    rename_i q hq
    split at h
    · cases h
    rename_i u hu
    have h1 := iLk_spec hI hq
    have h2 := lRg_spec hI hu
    have hg : t.2 - lS ρ (p :: r) = iGap ρ q p + (u.2 - lS ρ r) := by
      cases h
      show (if 0 ≤ p.2 then _ else _ : Int × Int).2 - (p.2 * ρ p.1 + lS ρ r) = _
      unfold iGap
      split
      · show p.2 * q.2 + u.2 - _ = _
        rw [Int.mul_sub]
        omega
      · show p.2 * q.1 + u.2 - _ = _
        rw [Int.mul_sub]
        omega
    have hn : ∀ (p : Nat × Int) (q : Int × Int), q.1 ≤ ρ p.1 ∧ ρ p.1 ≤ q.2 → 0 ≤ iGap ρ q p := fun p q hq => by
      unfold iGap
      split
      · rename_i h0
        exact Int.mul_nonneg h0 (by omega)
      · rename_i h0
        exact Int.mul_nonneg_of_nonpos_of_nonpos (by omega) (by omega)
    have hn1 := hn p q h1
    rcases List.mem_cons.mp hp with rfl | hp
    · rw [hq] at hq2
      cases hq2
      omega
    · have ih := iGap_spec hI hu p2 hp q2 hq2
      omega
theorem iRefs_spec {ρ : Nat → Int} {I0 : lI} (h0 : iHd ρ I0) {top : Int} (htop : 0 ≤ top) : ∀ {l : List (Nat × Int)} {I : lI}, (∀ p ∈ l, ∀ q, iLk I0 p.1 = some q → iGap ρ q p ≤ top) → iHd ρ I → ∃ I2, iRefs I0 top l I = some I2 ∧ iHd ρ I2
  | [], I, _, hI => ⟨I, rfl, hI⟩
  | p :: r, I, hg, hI => by
    have hr : ∀ p ∈ r, ∀ q, iLk I0 p.1 = some q → iGap ρ q p ≤ top := fun p2 hp => hg p2 (List.mem_cons_of_mem _ hp)
    unfold iRefs
    split
    · exact iRefs_spec h0 htop hr hI
    · rename_i q hq
      have h1 := hg p List.mem_cons_self q hq
      have h2 := iLk_spec h0 hq
      unfold iGap at h1
      split
      · rename_i hp
        rw [if_pos (Int.le_of_lt hp)] at h1
        have h3 : q.2 - ρ p.1 ≤ top / p.2 := (Int.le_ediv_iff_mul_le hp).mpr (by rw [Int.mul_comm]; exact h1)
        split
        · rw [if_neg (by omega)]
          refine iRefs_spec h0 htop hr (fun z hz => ?_)
          rcases List.mem_cons.mp hz with rfl | hz
          · show q.2 - top / p.2 ≤ ρ p.1 ∧ ρ p.1 ≤ q.2
            omega
          · exact hI z hz
        · exact iRefs_spec h0 htop hr hI
      split
      · rename_i hp0 hp
        rw [if_neg (by omega)] at h1
        have h4 : (ρ p.1 - q.1) * (-p.2) ≤ top := by
          have : p.2 * (q.1 - ρ p.1) = (ρ p.1 - q.1) * (-p.2) := by
            rw [Int.mul_neg, Int.mul_comm (ρ p.1 - q.1), ← Int.mul_neg]
            congr 1
            omega
          omega
        have h3 : ρ p.1 - q.1 ≤ top / (-p.2) := (Int.le_ediv_iff_mul_le (by omega)).mpr h4
        split
        · rw [if_neg (by omega)]
          refine iRefs_spec h0 htop hr (fun z hz => ?_)
          rcases List.mem_cons.mp hz with rfl | hz
          · show q.1 ≤ ρ p.1 ∧ ρ p.1 ≤ q.1 + top / (-p.2)
            omega
          · exact hI z hz
        · exact iRefs_spec h0 htop hr hI
      · exact iRefs_spec h0 htop hr hI
def iRef (I : lI) (e : lT) : Option lI := match lRn I e with
  | none => some I
  | some t => if t.2 < 0 then none else iRefs I t.2 e.2 I
theorem iRef_spec {ρ : Nat → Int} {I : lI} (hI : iHd ρ I) {e : lT} (he : 0 ≤ lEv ρ e) : ∃ I2, iRef I e = some I2 ∧ iHd ρ I2 := by
  unfold iRef
  split
  · exact ⟨I, rfl, hI⟩
  · rename_i t ht
    have h1 := lRn_spec hI ht
    rw [if_neg (by omega)]
    refine iRefs_spec hI (by omega) (fun p hp q hq => ?_) hI
    unfold lRn at ht
    split at ht
    · cases ht
    rename_i u hu
    have h2 := iGap_spec hI hu p hp q hq
    cases ht
    have he : 0 ≤ e.1 + lS ρ e.2 := he
    show iGap ρ q p ≤ e.1 + u.2
    omega
end XLin
