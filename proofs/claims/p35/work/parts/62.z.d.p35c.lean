/-! Stops at the start: none. -/
noncomputable section XP35c
variable {H : List (XC Int32)}
def gO (H : List (XC Int32)) (a ci : Nat) : List (XV Int32) := match H[a]? with
  | some (.inl z) => if Nat.beq z.1 ci = true then z.2 else []
  | _ => []
def gR (H : List (XC Int32)) (a t : Nat) : List (XV Int32) := match H[a]? with
  | some (.inr z) => if Nat.beq z.1 t = true then z.2 else []
  | _ => []
theorem gO_spec {a ci : Nat} (h : (gO H a ci).length ≠ 0) : H[a]? = some (.inl (ci, gO H a ci)) := by
  rcases hz : H[a]? with _ | (z | z)
  · exact absurd (by
      unfold gO
      rw [hz]
      rfl) h
  · have e : gO H a ci = if Nat.beq z.1 ci = true then z.2 else [] := by
      unfold gO
      rw [hz]
    by_cases c : Nat.beq z.1 ci = true
    · rw [if_pos c] at e
      rw [e, ← Nat.eq_of_beq_eq_true c]
    · rw [if_neg c] at e
      rw [e] at h
      exact absurd rfl h
  · exact absurd (by
      unfold gO
      rw [hz]
      rfl) h
theorem gR_spec {a t : Nat} (h : (gR H a t).length ≠ 0) : H[a]? = some (.inr (t, gR H a t)) := by
  rcases hz : H[a]? with _ | (z | z)
  · exact absurd (by
      unfold gR
      rw [hz]
      rfl) h
  · exact absurd (by
      unfold gR
      rw [hz]
      rfl) h
  · have e : gR H a t = if Nat.beq z.1 t = true then z.2 else [] := by
      unfold gR
      rw [hz]
    by_cases c : Nat.beq z.1 t = true
    · rw [if_pos c] at e
      rw [e, ← Nat.eq_of_beq_eq_true c]
    · rw [if_neg c] at e
      rw [e] at h
      exact absurd rfl h
def gI (l : List (XV Int32)) (j : Nat) : Nat := match l[j]? with
  | some (.inr (some r)) => r
  | _ => 0
def isR (l : List (XV Int32)) (j r : Nat) : Bool := match l[j]? with
  | some (.inr (some u)) => Nat.beq u r
  | _ => false
theorem isR_spec {l : List (XV Int32)} {j r : Nat} (h : isR l j r = true) : l[j]? = some (.inr (some r)) := by
  unfold isR at h
  split at h
  · rename_i u hu
    rw [hu, Nat.eq_of_beq_eq_true h]
  · cases h
def isZ (l : List (XV Int32)) (j : Nat) : Bool := match l[j]? with
  | some (.inl x) => decide (x = nI 0)
  | _ => false
theorem isZ_spec {l : List (XV Int32)} {j : Nat} (h : isZ l j = true) : l[j]? = some (.inl (nI 0)) := by
  unfold isZ at h
  split at h
  · rename_i x hx
    rw [hx, of_decide_eq_true h]
  · cases h
def hA0 (H : List (XC Int32)) (a : Nat) : Bool := (fun p => (fun po => decide (a ≤ 1000000) && isR (gO H a 0) 16 p && decide (p ≤ 1000000) && decide (po.length = 7) && isZ po 6 && isZ (gR H (gI po 5) 0) 0 && (List.range 6).all (fun j => isR po j (gI po j) && decide (gI po j < 1000000) && decide ((gR H (gI po j) 0).length = if j = 5 then 256 else 8)) && (List.range 6).all (fun i => (List.range 6).all (fun j => decide (gI po i ≠ gI po j) || decide (i = j)))) (gO H p 7)) (gI (gO H a 0) 16)
def hB0 (H : List (XC Int32)) (b : Nat) : Bool := (fun gs => (fun sr => decide (b ≤ 1000000) && isZ gs 36 && isR gs 37 (gI gs 37) && decide (sr.length = 8) && (List.range 8).all (fun x => isR sr x (gI sr x) && decide (gI sr x < 1000000) && decide ((gR H (gI sr x) 0).length = 4)) && (List.range 8).all (fun i => (List.range 8).all (fun j => decide (gI sr i ≠ gI sr j) || decide (i = j)))) (gR H (gI gs 37) 5)) (gO H b 12)
theorem hQ0_spec {a b : Nat} (ha : hA0 H a = true) (hb : hB0 H b = true) : hQ a b H := by
  unfold hA0 at ha
  unfold hB0 at hb
  dsimp only at ha hb
  simp only [Bool.and_eq_true] at ha hb
  obtain ⟨⟨⟨⟨⟨⟨⟨a1, a2⟩, a3⟩, a4⟩, a5⟩, a6⟩, a7⟩, a8⟩ := ha
  obtain ⟨⟨⟨⟨⟨b1, b2⟩, b3⟩, b4⟩, b5⟩, b6⟩ := hb
  have a1 := of_decide_eq_true a1
  have a3 := of_decide_eq_true a3
  have a4 := of_decide_eq_true a4
  have a2 := isR_spec a2
  have a5 := isZ_spec a5
  have a6 := isZ_spec a6
  have b1 := of_decide_eq_true b1
  have b4 := of_decide_eq_true b4
  have b2 := isZ_spec b2
  have b3 := isR_spec b3
  have ga := gO_spec (H := H) (a := a) (ci := 0) (by
    have := (List.getElem?_eq_some_iff.mp a2).1
    omega)
  have gb := gO_spec (H := H) (a := b) (ci := 12) (by
    have := (List.getElem?_eq_some_iff.mp b2).1
    omega)
  have gp := gO_spec (H := H) (a := gI (gO H a 0) 16) (ci := 7) (by omega)
  have gs := gR_spec (H := H) (a := gI (gO H b 12) 37) (t := 5) (by omega)
  obtain ⟨po, epo⟩ : ∃ po, po = gO H (gI (gO H a 0) 16) 7 := ⟨_, rfl⟩
  rw [← epo] at a4 a5 a6 a7 a8 gp
  obtain ⟨sr, esr⟩ : ∃ sr, sr = gR H (gI (gO H b 12) 37) 5 := ⟨_, rfl⟩
  rw [← esr] at b4 b5 b6 gs
  have rw1 : ∀ j, j < 6 → po[j]? = some (.inr (some (gI po j))) ∧ gI po j < 1000000 ∧ (gR H (gI po j) 0).length = if j = 5 then 256 else 8 := fun j hj => by
    have q := List.all_eq_true.mp a7 j (List.mem_range.mpr hj)
    simp only [Bool.and_eq_true] at q
    exact ⟨isR_spec q.1.1, of_decide_eq_true q.1.2, of_decide_eq_true q.2⟩
  have rw2 : ∀ j, j < 5 → isRw H (gI po j) 8 (fun _ => 0) 0 := fun j hj => by
    obtain ⟨-, q2, q3⟩ := rw1 j (by omega)
    rw [if_neg (by omega)] at q3
    exact ⟨q2, _, gR_spec (by omega), q3, fun k hk => absurd hk (Nat.not_lt_zero k)⟩
  have epl : po = [.inr (some (gI po 0)), .inr (some (gI po 1)), .inr (some (gI po 2)), .inr (some (gI po 3)), .inr (some (gI po 4)), .inr (some (gI po 5)), .inl (nI 0)] := by
    refine List.ext_getElem? fun j => ?_
    by_cases c : j < 7
    · rcases (show j = 0 ∨ j = 1 ∨ j = 2 ∨ j = 3 ∨ j = 4 ∨ j = 5 ∨ j = 6 by omega) with rfl | rfl | rfl | rfl | rfl | rfl | rfl
      · exact (rw1 0 (by decide)).1
      · exact (rw1 1 (by decide)).1
      · exact (rw1 2 (by decide)).1
      · exact (rw1 3 (by decide)).1
      · exact (rw1 4 (by decide)).1
      · exact (rw1 5 (by decide)).1
      · exact a5
    · rw [List.getElem?_eq_none (by omega), List.getElem?_eq_none (by show 7 ≤ j; omega)]
  refine ⟨gI (gO H a 0) 16, 0, fun j => gI po j, fun _ => 0, fun _ => 0, fun _ => 0, fun _ => 0, fun _ => 0, fun _ => 0, _, ⟨by omega, ga, a2⟩, ⟨⟨by omega, by rw [gp]; exact congrArg (fun l => (some (.inl (7, l)) : Option (XC Int32))) epl, by omega⟩, rw2 0 (by decide), rw2 1 (by decide), rw2 2 (by decide), rw2 3 (by decide), rw2 4 (by decide), ?_⟩, fun i j hi hj e => ?_, ⟨_, sr, _, fun x => gI sr x, ⟨by omega, gb, b2, by omega, b3, gs, b4⟩, fun x hx => ?_, fun i j hi hj e => ?_⟩, fun k => ⟨Nat.zero_le _, Nat.zero_le _, Nat.zero_le _, Nat.zero_le _⟩, ⟨fun k hk => absurd hk (Nat.not_lt_zero k), fun j k _ hk => absurd hk (Nat.not_lt_zero k), fun x hx => absurd hx (Nat.not_lt_zero x)⟩, ⟨rfl, fun s h1 h2 => by
    have h2 : s < 1 := h2
    omega⟩, fun k => Nat.zero_le 9⟩
  · obtain ⟨-, q2, q3⟩ := rw1 5 (by decide)
    rw [if_pos rfl] at q3
    exact ⟨q2, _, gR_spec (a := gI po 5) (t := 0) (by omega), q3, fun k hk => by
      have hk : k < 1 := hk
      obtain rfl : k = 0 := by omega
      exact a6⟩
  · have q := List.all_eq_true.mp (List.all_eq_true.mp a8 i (List.mem_range.mpr hi)) j (List.mem_range.mpr hj)
    rcases Bool.or_eq_true_iff.mp q with q | q
    · exact absurd e (of_decide_eq_true q)
    · exact of_decide_eq_true q
  · have q := List.all_eq_true.mp b5 x (List.mem_range.mpr hx)
    simp only [Bool.and_eq_true] at q
    have q3 := of_decide_eq_true q.2
    exact ⟨isR_spec q.1.1, of_decide_eq_true q.1.2, _, gR_spec (a := gI sr x) (t := 0) (by omega), q3, fun h => absurd h (Nat.not_lt_zero x)⟩
  · have q := List.all_eq_true.mp (List.all_eq_true.mp b6 i (List.mem_range.mpr hi)) j (List.mem_range.mpr hj)
    rcases Bool.or_eq_true_iff.mp q with q | q
    · exact absurd e (of_decide_eq_true q)
    · exact of_decide_eq_true q
end XP35c
