/-! p5 by hand, 28. -/
noncomputable section XH5_28
variable {ot : XO Int32} {dp : Nat} {H : List (XC Int32)} {a n m : Nat} {P C nl sv S : Nat → Nat} {op lf rt : Nat → Nat → Nat}
/-- field answers alike -/
theorem f_same (ho : cdOk n op lf rt nl) (hsv : svOk n sv) {b : Nat} {D U : Nat → Nat} (hA : kA H a n P C op lf rt nl sv S m) (hB : kB H b n D U op lf rt nl sv S (fun _ _ => False)) (hST : ∀ q f, q < n → f < 6 → ∃ d v, kS H (P q) f d v ∧ kT H b q f d v) {x y w vA vB : Int32} {HA HH : List (XC Int32)} (z1 : x_To x_tb x_tyl ot (dp + 5) 43 0 (x_en 0 [.inr (some (a)), .inl (x), .inl (y), .inl (w)]) [] H 0 0 (some (.inl vA)) HA) (z2 : x_To x_tb x_tyl ot (dp + 5) 225 0 (x_en 0 [.inr (some (b)), .inl (x), .inl (y), .inl (w)]) [] HA 0 0 (some (.inl vB)) HH) : vA = vB := by
  have same : ∀ {v1 : Int32} {G G2 : List (XC Int32)}, x_To x_tb x_tyl ot (dp + 5) 43 0 (x_en 0 [.inr (some (a)), .inl (x), .inl (y), .inl (w)]) [] H 0 0 (some (.inl v1)) G → x_To x_tb x_tyl ot (dp + 5) 225 0 (x_en 0 [.inr (some (b)), .inl (x), .inl (y), .inl (w)]) [] G 0 0 (some (.inl v1)) G2 → vA = vB := fun q1 q2 => by
    obtain ⟨e1, rfl⟩ := x_To_one z1 q1
    obtain ⟨e2, rfl⟩ := x_To_one z2 q2
    cases e1
    cases e2
    rfl
  have hn12 := hA.1.2.1
  rcases b_ix (x := x) hn12 with hx | ⟨q, hq, rfl⟩
  · exact same (t43_p hx hA) (t225_p (dp := dp + 1) hx hB)
  rcases b_rg (x := y) (l := 0) (u := 5) (by decide) (by decide) with hy | ⟨f, -, hf, rfl⟩
  · exact same (t43_f hq hy hA) (t225_f (dp := dp + 1) hq hy hB)
  obtain ⟨d, v, hS, hT⟩ := hST q f hq (by omega)
  by_cases w0 : w = 0
  · subst w0
    exact same (t43_0 hq hf hA hS) (t225_0 (dp := dp + 1) hq hf hB hT)
  by_cases w1 : w = 1
  · subst w1
    exact same (t43_1 hq hf hA hS) (t225_1 (dp := dp + 1) hq hf hB hT)
  by_cases w2 : w = 2
  · subst w2
    obtain ⟨G, y1, hk⟩ := t43_2 (ot := ot) (dp := dp) ho hsv hq hf hA
    obtain ⟨G2, y2⟩ := t225_2 (ot := ot) (dp := dp + 1) ho hsv hq hf (kB_tag hk hB)
    exact same y1 y2
  · exact same (t43_w hq hf ⟨w0, w1, w2⟩ hA) (t225_w (dp := dp + 1) hq hf ⟨w0, w1, w2⟩ hB)
end XH5_28
