/-! p5 by hand, 24. -/
noncomputable section XH5_24
variable {ot : XO Int32} {dp : Nat} {H : List (XC Int32)} {a n m : Nat} {P C nl sv S : Nat → Nat} {op lf rt : Nat → Nat → Nat}
/-- a program's digits and pivot of a field, in the class -/
def kS (H : List (XC Int32)) (p f : Nat) (d v : Int32) : Prop := ¬ 1000000 < p ∧ ∃ po se sg dr pr ld lp, H[p]? = some (.inl (10, po)) ∧ po[1]? = some (.inr (some se)) ∧ ¬ 1000000 < se ∧ H[se]? = some (.inl (3, sg)) ∧ sg[1]? = some (.inr (some dr)) ∧ sg[2]? = some (.inr (some pr)) ∧ dr < 1000000 ∧ H[dr]? = some (.inr (0, ld)) ∧ ld.length = 6 ∧ ld[f]? = some (.inl d) ∧ pr < 1000000 ∧ H[pr]? = some (.inr (0, lp)) ∧ lp.length = 6 ∧ lp[f]? = some (.inl v)
/-- and in the reference -/
def kT (H : List (XC Int32)) (b q f : Nat) (d v : Int32) : Prop := ¬ 1000000 < b ∧ ∃ gs dg pv vd vp rd rp wd wp, H[b]? = some (.inl (12, gs)) ∧ gs[3]? = some (.inr (some dg)) ∧ gs[4]? = some (.inr (some pv)) ∧ H[dg]? = some (.inr (5, vd)) ∧ vd.length = 12 ∧ vd[q]? = some (.inr (some rd)) ∧ H[pv]? = some (.inr (5, vp)) ∧ vp.length = 12 ∧ vp[q]? = some (.inr (some rp)) ∧ rd < 1000000 ∧ H[rd]? = some (.inr (0, wd)) ∧ wd.length = 6 ∧ wd[f]? = some (.inl d) ∧ rp < 1000000 ∧ H[rp]? = some (.inr (0, wp)) ∧ wp.length = 6 ∧ wp[f]? = some (.inl v)
theorem b_rg {x : Int32} {l u : Nat} (hl : l < 2 ^ 31) (hu : u < 2 ^ 31) : (x < nI l ∨ nI u < x) ∨ ∃ i, l ≤ i ∧ i ≤ u ∧ x = nI i := by
  by_cases h0 : x < nI l
  · exact Or.inl (Or.inl h0)
  by_cases h1 : nI u < x
  · exact Or.inl (Or.inr h1)
  · obtain ⟨i, hi, rfl⟩ := nI_of (x := x) (fun z => h0 (by
      have z := Int32.lt_iff_toInt_lt.mp z
      refine Int32.lt_iff_toInt_lt.mpr ?_
      have z0 : (0 : Int32).toInt = 0 := rfl
      rw [z0] at z
      rw [nI_toInt hl]
      omega))
    refine Or.inr ⟨i, ?_, ?_, rfl⟩
    · rcases Nat.lt_or_ge i l with c | c
      · exact absurd ((nI_ltI hi hl).mpr c) h0
      · exact c
    · rcases Nat.lt_or_ge u i with c | c
      · exact absurd ((nI_ltI hu hi).mpr c) h1
      · exact c
theorem b_ix {x : Int32} {n : Nat} (hn : n ≤ 12) : (x < 0 ∨ nI n ≤ x) ∨ ∃ i, i < n ∧ x = nI i := by
  by_cases h : x < 0
  · exact Or.inl (Or.inl h)
  by_cases h2 : nI n ≤ x
  · exact Or.inl (Or.inr h2)
  · obtain ⟨j, hj, rfl⟩ := nI_of h
    refine Or.inr ⟨j, ?_, rfl⟩
    rcases Nat.lt_or_ge j n with c | c
    · exact c
    · exact absurd ((nI_leI (by omega) hj).mpr c) h2
theorem b_in12 {x : Int32} {n : Nat} (hn : n ≤ 12) (h : x < 0 ∨ nI n ≤ x) : x < nI 0 ∨ x_bin 1 (nI n) (nI 1) < x := by
  rcases h with h | h
  · exact Or.inl h
  · refine Or.inr ?_
    have e : x_bin 1 (nI n) (nI 1) = nI n - 1 := rfl
    rw [e]
    refine Int32.lt_iff_toInt_lt.mpr ?_
    have h := Int32.le_iff_toInt_le.mp h
    rw [nI_toInt (by omega)] at h
    rcases (show n = 0 ∨ n = 1 ∨ n = 2 ∨ n = 3 ∨ n = 4 ∨ n = 5 ∨ n = 6 ∨ n = 7 ∨ n = 8 ∨ n = 9 ∨ n = 10 ∨ n = 11 ∨ n = 12 by omega) with rfl | rfl | rfl | rfl | rfl | rfl | rfl | rfl | rfl | rfl | rfl | rfl | rfl <;> (refine Int.lt_of_lt_of_le (?_ : _ < _) h; decide)
theorem kB_tag {b : Nat} {D U : Nat → Nat} {kn : Nat → Nat → Prop} {H2 : List (XC Int32)} (k : kp tgP H H2) (h : kB H b n D U op lf rt nl sv S kn) : kB H2 b n D U op lf rt nl sv S kn := by
  obtain ⟨⟨h1, h2, gs, ln, cd, ip, su, vc, vi, vs, g1, g2, g3, g4, g5, g6, ⟨g70, gv, g71, g72⟩, ⟨g8, g9⟩, ⟨g11, g12, g13⟩, g15, g16⟩, hD, hU, inj⟩ := h
  refine ⟨⟨h1, h2, gs, ln, cd, ip, su, vc, vi, vs, k _ _ g1 rfl, g2, g3, g4, g5, g6, ⟨g70, gv, k _ _ g71 rfl, g72⟩, ⟨k _ _ g8 rfl, g9⟩, ⟨g11, k _ _ g12 rfl, g13⟩, k _ _ g15 rfl, g16⟩, fun q hq => ?_, fun q hq => ?_, inj⟩
  · obtain ⟨d1, w2, d2, d3⟩ := hD q hq
    exact ⟨d1, w2, k _ _ d2 rfl, d3⟩
  · obtain ⟨u1, w2, u2, u3⟩ := hU q hq
    exact ⟨u1, w2, k _ _ u2 rfl, u3⟩
end XH5_24
