/-! Chips at the start: none. -/
noncomputable section XP25c
variable {H : List (XC Int32)}
def gO (H : List (XC Int32)) (a ci : Nat) : List (XV Int32) := match H[a]? with
  | some (.inl z) => if Nat.beq z.1 ci = true then z.2 else []
  | _ => []
def gR (H : List (XC Int32)) (a t : Nat) : List (XV Int32) := match H[a]? with
  | some (.inr z) => if Nat.beq z.1 t = true then z.2 else []
  | _ => []
theorem gO_spec {a ci : Nat} (h : (gO H a ci).length ≠ 0) : H[a]? = some (.inl (ci, gO H a ci)) := by
  rcases hz : H[a]? with _ | (z | z)
  · exact absurd (by
      unfold gO
      rw [hz]
      rfl) h
  · have e : gO H a ci = if Nat.beq z.1 ci = true then z.2 else [] := by
      unfold gO
      rw [hz]
    by_cases c : Nat.beq z.1 ci = true
    · rw [if_pos c] at e
      rw [e, ← Nat.eq_of_beq_eq_true c]
    · rw [if_neg c] at e
      rw [e] at h
      exact absurd rfl h
  · exact absurd (by
      unfold gO
      rw [hz]
      rfl) h
theorem gR_spec {a t : Nat} (h : (gR H a t).length ≠ 0) : H[a]? = some (.inr (t, gR H a t)) := by
  rcases hz : H[a]? with _ | (z | z)
  · exact absurd (by
      unfold gR
      rw [hz]
      rfl) h
  · exact absurd (by
      unfold gR
      rw [hz]
      rfl) h
  · have e : gR H a t = if Nat.beq z.1 t = true then z.2 else [] := by
      unfold gR
      rw [hz]
    by_cases c : Nat.beq z.1 t = true
    · rw [if_pos c] at e
      rw [e, ← Nat.eq_of_beq_eq_true c]
    · rw [if_neg c] at e
      rw [e] at h
      exact absurd rfl h
def gI (l : List (XV Int32)) (j : Nat) : Nat := match l[j]? with
  | some (.inr (some r)) => r
  | _ => 0
def isR (l : List (XV Int32)) (j r : Nat) : Bool := match l[j]? with
  | some (.inr (some u)) => Nat.beq u r
  | _ => false
theorem isR_spec {l : List (XV Int32)} {j r : Nat} (h : isR l j r = true) : l[j]? = some (.inr (some r)) := by
  unfold isR at h
  split at h
  · rename_i u hu
    rw [hu, Nat.eq_of_beq_eq_true h]
  · cases h
def isZ (l : List (XV Int32)) (j : Nat) : Bool := match l[j]? with
  | some (.inl x) => decide (x = nI 0)
  | _ => false
theorem isZ_spec {l : List (XV Int32)} {j : Nat} (h : isZ l j = true) : l[j]? = some (.inl (nI 0)) := by
  unfold isZ at h
  split at h
  · rename_i x hx
    rw [hx, of_decide_eq_true h]
  · cases h
def hA0 (H : List (XC Int32)) (a : Nat) : Bool := decide (a ≤ 1000000) && isZ (gO H a 0) 12 && isR (gO H a 0) 11 (gI (gO H a 0) 11) && decide ((gR H (gI (gO H a 0) 11) 3).length = 6)
def hB0 (H : List (XC Int32)) (b : Nat) : Bool := (fun gs => (fun cp cr sa ya => (fun vy => decide (b ≤ 1000000) && isZ gs 25 && isR gs 26 cp && isR gs 27 cr && isR gs 28 sa && isR gs 29 ya && decide (cp < 1000000) && decide (cr < 1000000) && decide (sa < 1000000) && decide (cp ≠ cr) && decide (sa ≠ cp) && decide (sa ≠ cr) && decide ((gR H cp 0).length = 6) && decide ((gR H cr 0).length = 6) && decide ((gR H sa 0).length = 6) && decide (vy.length = 6) && (List.range 6).all (fun i => isZ (gR H sa 0) i) && (List.range 6).all (fun i => isR vy i (gI vy i) && decide (gI vy i < 1000000) && decide (gI vy i ≠ sa) && decide (gI vy i ≠ cp) && decide (gI vy i ≠ cr) && decide ((gR H (gI vy i) 0).length = 30)) && (List.range 6).all (fun i => (List.range 6).all (fun j => decide (gI vy i ≠ gI vy j) || decide (i = j)))) (gR H ya 5)) (gI gs 26) (gI gs 27) (gI gs 28) (gI gs 29)) (gO H b 12)
theorem hP0_spec {a b : Nat} (ha : hA0 H a = true) (hb : hB0 H b = true) : hP a b H := by
  unfold hA0 at ha
  unfold hB0 at hb
  dsimp only at hb
  simp only [Bool.and_eq_true] at ha hb
  obtain ⟨⟨⟨a1, a2⟩, a3⟩, a4⟩ := ha
  obtain ⟨⟨⟨⟨⟨⟨⟨⟨⟨⟨⟨⟨⟨⟨⟨⟨⟨⟨b1, b2⟩, b3⟩, b4⟩, b5⟩, b6⟩, c1⟩, c2⟩, c3⟩, c4⟩, c5⟩, c6⟩, l1⟩, l2⟩, l3⟩, l4⟩, z1⟩, z2⟩, z3⟩ := hb
  have a1 := of_decide_eq_true a1
  have a4 := of_decide_eq_true a4
  have a2 := isZ_spec a2
  have a3 := isR_spec a3
  have b1 := of_decide_eq_true b1
  have b2 := isZ_spec b2
  have b3 := isR_spec b3
  have b4 := isR_spec b4
  have b5 := isR_spec b5
  have b6 := isR_spec b6
  have c1 := of_decide_eq_true c1
  have c2 := of_decide_eq_true c2
  have c3 := of_decide_eq_true c3
  have c4 := of_decide_eq_true c4
  have c5 := of_decide_eq_true c5
  have c6 := of_decide_eq_true c6
  have l1 := of_decide_eq_true l1
  have l2 := of_decide_eq_true l2
  have l3 := of_decide_eq_true l3
  have l4 := of_decide_eq_true l4
  have ga := gO_spec (H := H) (a := a) (ci := 0) (by
    have := (List.getElem?_eq_some_iff.mp a2).1
    omega)
  have gb := gO_spec (H := H) (a := b) (ci := 12) (by
    have := (List.getElem?_eq_some_iff.mp b2).1
    omega)
  refine ⟨0, fun _ => 0, fun _ _ => 0, fun _ _ => 0, ⟨_, _, ⟨_, by omega, ga, a2, a3, gR_spec (by omega), a4, by decide⟩, fun i hi => absurd hi (Nat.not_lt_zero i), fun i j hi => absurd hi (Nat.not_lt_zero i)⟩, ⟨_, _, _, _, _, _, _, _, _, fun i => gI (gR H (gI (gO H b 12) 29) 5) i, ⟨by omega, gb, b2, b3, b4, b5, b6⟩, ⟨c1, c2, c3, c4, c5, c6⟩, ⟨gR_spec (by omega), l1⟩, ⟨gR_spec (by omega), l2⟩, ⟨gR_spec (by omega), l3⟩, ⟨gR_spec (by omega), l4⟩, fun i hi => absurd hi (Nat.not_lt_zero i), fun i _ hi => isZ_spec (List.all_eq_true.mp z1 i (List.mem_range.mpr hi)), fun i hi => ?_, fun i j hi hj e => ?_⟩, fun i hi => absurd hi (Nat.not_lt_zero i)⟩
  · have q := List.all_eq_true.mp z2 i (List.mem_range.mpr hi)
    simp only [Bool.and_eq_true] at q
    obtain ⟨⟨⟨⟨⟨q1, q2⟩, q3⟩, q4⟩, q5⟩, q6⟩ := q
    have q6 := of_decide_eq_true q6
    exact ⟨isR_spec q1, of_decide_eq_true q2, ⟨of_decide_eq_true q3, of_decide_eq_true q4, of_decide_eq_true q5⟩, _, gR_spec (a := gI (gR H (gI (gO H b 12) 29) 5) i) (t := 0) (by omega), q6, fun k h0 => absurd h0 (Nat.not_lt_zero i)⟩
  · have q := List.all_eq_true.mp (List.all_eq_true.mp z3 i (List.mem_range.mpr hi)) j (List.mem_range.mpr hj)
    rcases Bool.or_eq_true_iff.mp q with q | q
    · exact absurd e (of_decide_eq_true q)
    · exact of_decide_eq_true q
end XP25c
