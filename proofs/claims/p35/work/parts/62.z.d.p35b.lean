/-! Stop and posts: what both calls leave. -/
noncomputable section XP35b
variable {H H2 : List (XC Int32)} {ty : Nat → Option Nat}
theorem b_rg {x : Int32} {l u : Nat} (hl : l < 2 ^ 31) (hu : u < 2 ^ 31) : (x < nI l ∨ nI u < x) ∨ ∃ i, l ≤ i ∧ i ≤ u ∧ x = nI i := by
  by_cases h0 : x < nI l
  · exact Or.inl (Or.inl h0)
  by_cases h1 : nI u < x
  · exact Or.inl (Or.inr h1)
  · obtain ⟨i, hi, rfl⟩ := nI_of (x := x) (fun z => h0 (by
      have z := Int32.lt_iff_toInt_lt.mp z
      refine Int32.lt_iff_toInt_lt.mpr ?_
      have z0 : (0 : Int32).toInt = 0 := rfl
      rw [z0] at z
      rw [nI_toInt hl]
      omega))
    refine Or.inr ⟨i, ?_, ?_, rfl⟩
    · rcases Nat.lt_or_ge i l with c | c
      · exact absurd ((nI_ltI hi hl).mpr c) h0
      · exact c
    · rcases Nat.lt_or_ge u i with c | c
      · exact absurd ((nI_ltI hu hi).mpr c) h1
      · exact c
theorem b_st {P_ Mn T_ W_ : Int32} : badS P_ Mn T_ W_ ∨ ∃ p m t w, p ≤ 99 ∧ m ≤ 899 ∧ (1 ≤ t ∧ t ≤ 99) ∧ w ≤ 99 ∧ P_ = nI p ∧ Mn = nI m ∧ T_ = nI t ∧ W_ = nI w := by
  rcases b_rg (x := P_) (l := 0) (u := 99) (by decide) (by decide) with h | ⟨p, -, p2, e1⟩
  · exact Or.inl (Or.inl h)
  rcases b_rg (x := Mn) (l := 0) (u := 899) (by decide) (by decide) with h | ⟨m, -, m2, e2⟩
  · exact Or.inl (Or.inr (Or.inl h))
  rcases b_rg (x := T_) (l := 1) (u := 99) (by decide) (by decide) with h | ⟨t, t1, t2, e3⟩
  · exact Or.inl (Or.inr (Or.inr (Or.inl h)))
  rcases b_rg (x := W_) (l := 0) (u := 99) (by decide) (by decide) with h | ⟨w, -, w2, e4⟩
  · exact Or.inl (Or.inr (Or.inr (Or.inr h)))
  · exact Or.inr ⟨p, m, t, w, p2, m2, ⟨t1, t2⟩, w2, e1, e2, e3, e4⟩
variable {ot : XO Int32} {dp a b : Nat} {x1 x2 x3 x4 : Int32} {vA vB : Int32} {HA HH : List (XC Int32)}
theorem hQ_stop (hp : vHp (fun c => x_KT.1[c]?) ty H) (hb : ty b = some 117) (h : hQ a b H) (z1 : x_To x_tb x_tyl ot (dp + 4) 147 0 (x_en 0 [.inr (some a), .inl x1, .inl x2, .inl x3, .inl x4]) [] H 0 0 (some (.inl vA)) HA) (z2 : x_To x_tb x_tyl ot (dp + 4) 258 0 (x_en 0 [.inr (some b), .inl x1, .inl x2, .inl x3, .inl x4]) [] HA 0 0 (some (.inl vB)) HH) : hQ a b HH := by
  obtain ⟨p, n, r, pl, mi, la, we, ord, hf, fs, ⟨a1, a2, a3⟩, hP, inj, hS, hB, hO, hh, h9⟩ := id h
  have same : ∀ {v1 v2 : Int32}, x_To x_tb x_tyl ot (dp + 4) 147 0 (x_en 0 [.inr (some a), .inl x1, .inl x2, .inl x3, .inl x4]) [] H 0 0 (some (.inl v1)) H → x_To x_tb x_tyl ot (dp + 4) 258 0 (x_en 0 [.inr (some b), .inl x1, .inl x2, .inl x3, .inl x4]) [] H 0 0 (some (.inl v2)) H → hQ a b HH := fun q1 q2 => by
    obtain ⟨-, rfl⟩ := x_To_one z1 q1
    obtain ⟨-, rfl⟩ := x_To_one z2 q2
    exact h
  rcases b_st (P_ := x1) (Mn := x2) (T_ := x3) (W_ := x4) with hx | ⟨P_, Mn, T_, W_, k1, k2, ⟨k3, k4⟩, k5, rfl, rfl, rfl, rfl⟩
  · exact same (t147_bad (dp := dp) hx) (t258_bad (dp := dp + 3) hx)
  by_cases hn : n < 8
  rotate_left
  · exact same (t147 (dp := dp) a1 a2 a3 hP k1 k2 k3 k4 k5 (t148_full hP hn)) (t258_full (dp := dp + 3) hS hn k1 k2 k3 k4 k5)
  obtain ⟨G, ord2, hf2, y1, y2, y3, y4, y5, y6⟩ := t148 (dp := dp) (ot := ot) hP inj hB hO hh h9 hn k1 k2 k4 k5
  obtain ⟨-, rfl⟩ := x_To_one z1 (t147 (dp := dp) a1 a2 a3 hP k1 k2 k3 k4 k5 y1)
  have hS2 := isSt_tag y6 hS
  obtain ⟨gs, -, -, -, ⟨-, g2, -⟩, -⟩ := id hS
  have hlen := cell_ol hp (m := 69) hb (by rfl) g2
  obtain ⟨G2, u1, u2, u3⟩ := t258 (dp := dp + 3) (ot := ot) hS2 (fun fs' z => by
    rw [y6 _ _ g2 rfl] at z
    cases z
    exact hlen) hn k1 k2 k3 k4 k5
  obtain ⟨-, rfl⟩ := x_To_one z2 u1
  refine ⟨p, n + 1, r, _, _, _, _, ord2, hf2, fs, ⟨a1, u3 _ _ (y6 _ _ a2 rfl) rfl, a3⟩, isPo_tag u3 y2, inj, u2, fun k => ?_, y3, y4, y5⟩
  have := hB k
  unfold upF
  split
  · exact ⟨k1, k2, k4, k5⟩
  · exact this
/-- posts answers alike -/
theorem hQ_posts (hp : vHp (fun c => x_KT.1[c]?) ty H) (hb : ty b = some 117) (hl : H.length ≤ 1000000) (h : hQ a b H) (z1 : x_To x_tb x_tyl ot (dp + 3) 152 0 (x_en 0 [.inr (some a), .inl x1, .inl x2]) [] H 0 0 (some (.inl vA)) HA) (z2 : x_To x_tb x_tyl ot (dp + 3) 259 0 (x_en 0 [.inr (some b), .inl x1, .inl x2]) [] HA 0 0 (some (.inl vB)) HH) : vA = vB := by
  obtain ⟨p, n, r, pl, mi, la, we, ord, hf, fs, ⟨a1, a2, a3⟩, hP, inj, hS, hB, hO, hh, h9⟩ := id h
  have same : ∀ {v1 : Int32} {G : List (XC Int32)}, x_To x_tb x_tyl ot (dp + 3) 152 0 (x_en 0 [.inr (some a), .inl x1, .inl x2]) [] H 0 0 (some (.inl v1)) H → x_To x_tb x_tyl ot (dp + 3) 259 0 (x_en 0 [.inr (some b), .inl x1, .inl x2]) [] H 0 0 (some (.inl v1)) G → vA = vB := fun q1 q2 => by
    obtain ⟨e1, rfl⟩ := x_To_one z1 q1
    obtain ⟨e2, rfl⟩ := x_To_one z2 q2
    cases e1
    cases e2
    rfl
  rcases b_rg (x := x2) (l := 0) (u := 4) (by decide) (by decide) with hx | ⟨w, -, w4, rfl⟩
  · exact same (t152_w (dp := dp) hx) (t259_w (dp := dp + 1) hx)
  rcases b_rg (x := x1) (l := 1) (u := 3) (by decide) (by decide) with hx | ⟨g, g1, g3, rfl⟩
  · exact same (t152_g (dp := dp) w4 hx) (t259_g (dp := dp + 1) w4 hx)
  by_cases hw : w < g + 2
  rotate_left
  · exact same (t152_h (dp := dp) g1 g3 w4 (by omega)) (t259_h (dp := dp + 1) g1 g3 w4 (by omega))
  obtain ⟨gs, sr, st, rr, ⟨b1, b2, -⟩, -⟩ := id hS
  obtain ⟨R, hC⟩ := isCn_ty hp hb b1 b2 hl (canN (fun s => mtD ord pl mi la s n 0 0 0))
  obtain ⟨G, q⟩ := t259 (dp := dp + 1) (ot := ot) hS hC hB hO hh g1 g3 w4 hw
  exact same (t152 (dp := dp) a1 a2 a3 hP hB h9 g1 g3 w4 hw) q
end XP35b
