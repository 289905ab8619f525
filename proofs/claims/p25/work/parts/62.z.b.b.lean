/-! p25 by hand, 0. -/
noncomputable section XH250
variable {ot : XO Int32} {dp : Nat} {H : List (XC Int32)} {c pv rl n lo hi hi_ R : Nat} {a cnt ca : Nat} {vs : List (XV Int32)} {b i : Nat} {y : Nat → Nat}
/-! Leap years, what a chip means, by hand. -/
def leapN (y r : Nat) : Nat := if y % 4 = 0 ∧ (r = 0 ∨ y % 100 ≠ 0 ∨ (r = 2 ∧ y % 400 = 0)) then 1 else 0
def meanN (v p : Nat) : Nat := if p ≤ v then 1900 + v else 2000 + v
def ansN (p r y : Nat) : Nat := 2 * meanN (y % 100) p + leapN (meanN (y % 100) p) r
theorem leapN_le (y r : Nat) : leapN y r = 0 ∨ leapN y r = 1 := by
  unfold leapN
  split
  · exact Or.inr rfl
  · exact Or.inl rfl
theorem meanN_lt {v p : Nat} (h : v < 100) : 1900 ≤ meanN v p ∧ meanN v p < 2100 := by
  unfold meanN
  split
  · omega
  · omega
theorem t197 {y r : Nat} (hy : y < 2 ^ 31) (hr : r < 3) : x_To x_tb x_tyl ot dp 197 0 (x_en 0 [.inl (nI (y)), .inl (nI (r))]) [] H 0 0 (some (.inl (nI (leapN y r)))) H := by
  by_cases h4 : y % 4 = 0
  rotate_left
  · rw [show leapN y r = 0 from if_neg (fun e => h4 e.1)]
    refine xT_iload_n g_q197 g197_0 (rfl) ?_
    refine xT_icV (y := nI (4)) g_q197 g197_1 (by decide) ?_
    refine xT_iremV (y := nI ((y) % (4))) g_q197 g197_2 (by decide) (bRemN (by omega) (by omega) (by omega)) ?_
    refine xT_ifCondY g_q197 g197_3 (t := 34) (by decide) (c1Y (a := (y) % (4)) (b := 0) (by omega) (by omega) (by omega)) ?_
    refine xT_icV (y := nI (0)) g_q197 g197_34 (by decide) ?_
    exact xT_ireturn g_q197 g197_35 (by decide +kernel)
  by_cases h0 : r = 0
  · rw [show leapN y r = 1 from if_pos ⟨h4, Or.inl h0⟩]
    refine xT_iload_n g_q197 g197_0 (rfl) ?_
    refine xT_icV (y := nI (4)) g_q197 g197_1 (by decide) ?_
    refine xT_iremV (y := nI ((y) % (4))) g_q197 g197_2 (by decide) (bRemN (by omega) (by omega) (by omega)) ?_
    refine xT_ifCondN g_q197 g197_3 (t := 34) (by decide) (c1N (a := (y) % (4)) (b := 0) (by omega)) ?_
    refine xT_iload_n g_q197 g197_6 (rfl) ?_
    refine xT_ifCondY g_q197 g197_7 (t := 30) (by decide) (c0Y (a := r) (b := 0) (by omega)) ?_
    refine xT_icV (y := nI (1)) g_q197 g197_30 (by decide) ?_
    refine xT_goto g_q197 g197_31 (t := 35) (by decide) ?_
    exact xT_ireturn g_q197 g197_35 (by decide +kernel)
  by_cases h1 : y % 100 = 0
  rotate_left
  · rw [show leapN y r = 1 from if_pos ⟨h4, Or.inr (Or.inl h1)⟩]
    refine xT_iload_n g_q197 g197_0 (rfl) ?_
    refine xT_icV (y := nI (4)) g_q197 g197_1 (by decide) ?_
    refine xT_iremV (y := nI ((y) % (4))) g_q197 g197_2 (by decide) (bRemN (by omega) (by omega) (by omega)) ?_
    refine xT_ifCondN g_q197 g197_3 (t := 34) (by decide) (c1N (a := (y) % (4)) (b := 0) (by omega)) ?_
    refine xT_iload_n g_q197 g197_6 (rfl) ?_
    refine xT_ifCondN g_q197 g197_7 (t := 30) (by decide) (c0N (a := r) (b := 0) (by omega) (by omega) (by omega)) ?_
    refine xT_iload_n g_q197 g197_10 (rfl) ?_
    refine xT_biV (y := nI (100)) g_q197 g197_11 (by decide) ?_
    refine xT_iremV (y := nI ((y) % (100))) g_q197 g197_13 (by decide) (bRemN (by omega) (by omega) (by omega)) ?_
    refine xT_ifCondY g_q197 g197_14 (t := 30) (by decide) (c1Y (a := (y) % (100)) (b := 0) (by omega) (by omega) (by omega)) ?_
    refine xT_icV (y := nI (1)) g_q197 g197_30 (by decide) ?_
    refine xT_goto g_q197 g197_31 (t := 35) (by decide) ?_
    exact xT_ireturn g_q197 g197_35 (by decide +kernel)
  by_cases h2 : r = 2
  rotate_left
  · rw [show leapN y r = 0 from if_neg (fun e => by omega)]
    refine xT_iload_n g_q197 g197_0 (rfl) ?_
    refine xT_icV (y := nI (4)) g_q197 g197_1 (by decide) ?_
    refine xT_iremV (y := nI ((y) % (4))) g_q197 g197_2 (by decide) (bRemN (by omega) (by omega) (by omega)) ?_
    refine xT_ifCondN g_q197 g197_3 (t := 34) (by decide) (c1N (a := (y) % (4)) (b := 0) (by omega)) ?_
    refine xT_iload_n g_q197 g197_6 (rfl) ?_
    refine xT_ifCondN g_q197 g197_7 (t := 30) (by decide) (c0N (a := r) (b := 0) (by omega) (by omega) (by omega)) ?_
    refine xT_iload_n g_q197 g197_10 (rfl) ?_
    refine xT_biV (y := nI (100)) g_q197 g197_11 (by decide) ?_
    refine xT_iremV (y := nI ((y) % (100))) g_q197 g197_13 (by decide) (bRemN (by omega) (by omega) (by omega)) ?_
    refine xT_ifCondN g_q197 g197_14 (t := 30) (by decide) (c1N (a := (y) % (100)) (b := 0) (by omega)) ?_
    refine xT_iload_n g_q197 g197_17 (rfl) ?_
    refine xT_icV (y := nI (2)) g_q197 g197_18 (by decide) ?_
    refine xT_if_icmpY g_q197 g197_19 (t := 34) (by decide) (c1Y (a := r) (b := 2) (by omega) (by omega) (by omega)) ?_
    refine xT_icV (y := nI (0)) g_q197 g197_34 (by decide) ?_
    exact xT_ireturn g_q197 g197_35 (by decide +kernel)
  by_cases h3 : y % 400 = 0
  · rw [show leapN y r = 1 from if_pos ⟨h4, Or.inr (Or.inr ⟨h2, h3⟩)⟩]
    refine xT_iload_n g_q197 g197_0 (rfl) ?_
    refine xT_icV (y := nI (4)) g_q197 g197_1 (by decide) ?_
    refine xT_iremV (y := nI ((y) % (4))) g_q197 g197_2 (by decide) (bRemN (by omega) (by omega) (by omega)) ?_
    refine xT_ifCondN g_q197 g197_3 (t := 34) (by decide) (c1N (a := (y) % (4)) (b := 0) (by omega)) ?_
    refine xT_iload_n g_q197 g197_6 (rfl) ?_
    refine xT_ifCondN g_q197 g197_7 (t := 30) (by decide) (c0N (a := r) (b := 0) (by omega) (by omega) (by omega)) ?_
    refine xT_iload_n g_q197 g197_10 (rfl) ?_
    refine xT_biV (y := nI (100)) g_q197 g197_11 (by decide) ?_
    refine xT_iremV (y := nI ((y) % (100))) g_q197 g197_13 (by decide) (bRemN (by omega) (by omega) (by omega)) ?_
    refine xT_ifCondN g_q197 g197_14 (t := 30) (by decide) (c1N (a := (y) % (100)) (b := 0) (by omega)) ?_
    refine xT_iload_n g_q197 g197_17 (rfl) ?_
    refine xT_icV (y := nI (2)) g_q197 g197_18 (by decide) ?_
    refine xT_if_icmpN g_q197 g197_19 (t := 34) (by decide) (c1N (a := r) (b := 2) (by omega)) ?_
    refine xT_iload_n g_q197 g197_22 (rfl) ?_
    refine xT_siV (y := nI (400)) g_q197 g197_23 (by decide) ?_
    refine xT_iremV (y := nI ((y) % (400))) g_q197 g197_26 (by decide) (bRemN (by omega) (by omega) (by omega)) ?_
    refine xT_ifCondN g_q197 g197_27 (t := 34) (by decide) (c1N (a := (y) % (400)) (b := 0) (by omega)) ?_
    refine xT_icV (y := nI (1)) g_q197 g197_30 (by decide) ?_
    refine xT_goto g_q197 g197_31 (t := 35) (by decide) ?_
    exact xT_ireturn g_q197 g197_35 (by decide +kernel)
  · rw [show leapN y r = 0 from if_neg (fun e => by omega)]
    refine xT_iload_n g_q197 g197_0 (rfl) ?_
    refine xT_icV (y := nI (4)) g_q197 g197_1 (by decide) ?_
    refine xT_iremV (y := nI ((y) % (4))) g_q197 g197_2 (by decide) (bRemN (by omega) (by omega) (by omega)) ?_
    refine xT_ifCondN g_q197 g197_3 (t := 34) (by decide) (c1N (a := (y) % (4)) (b := 0) (by omega)) ?_
    refine xT_iload_n g_q197 g197_6 (rfl) ?_
    refine xT_ifCondN g_q197 g197_7 (t := 30) (by decide) (c0N (a := r) (b := 0) (by omega) (by omega) (by omega)) ?_
    refine xT_iload_n g_q197 g197_10 (rfl) ?_
    refine xT_biV (y := nI (100)) g_q197 g197_11 (by decide) ?_
    refine xT_iremV (y := nI ((y) % (100))) g_q197 g197_13 (by decide) (bRemN (by omega) (by omega) (by omega)) ?_
    refine xT_ifCondN g_q197 g197_14 (t := 30) (by decide) (c1N (a := (y) % (100)) (b := 0) (by omega)) ?_
    refine xT_iload_n g_q197 g197_17 (rfl) ?_
    refine xT_icV (y := nI (2)) g_q197 g197_18 (by decide) ?_
    refine xT_if_icmpN g_q197 g197_19 (t := 34) (by decide) (c1N (a := r) (b := 2) (by omega)) ?_
    refine xT_iload_n g_q197 g197_22 (rfl) ?_
    refine xT_siV (y := nI (400)) g_q197 g197_23 (by decide) ?_
    refine xT_iremV (y := nI ((y) % (400))) g_q197 g197_26 (by decide) (bRemN (by omega) (by omega) (by omega)) ?_
    refine xT_ifCondY g_q197 g197_27 (t := 34) (by decide) (c1Y (a := (y) % (400)) (b := 0) (by omega) (by omega) (by omega)) ?_
    refine xT_icV (y := nI (0)) g_q197 g197_34 (by decide) ?_
    exact xT_ireturn g_q197 g197_35 (by decide +kernel)
theorem t199 {v p : Nat} (hv : v < 2 ^ 31) (hp : p < 2 ^ 31) : x_To x_tb x_tyl ot dp 199 0 (x_en 0 [.inl (nI (v)), .inl (nI (2)), .inl (nI (p))]) [] H 0 0 (some (.inl (nI (meanN v p)))) H := by
  by_cases h : p ≤ v
  · rw [show meanN v p = 1900 + v from if_pos h]
    refine xT_iload_n g_q199 g199_0 (rfl) ?_
    refine xT_icV (y := nI (2)) g_q199 g199_1 (by decide) ?_
    refine xT_if_icmpN g_q199 g199_2 (t := 30) (by decide) (c1N (a := 2) (b := 2) (by omega)) ?_
    refine xT_iload_n g_q199 g199_5 (rfl) ?_
    refine xT_ifCondN g_q199 g199_6 (t := 30) (by decide) (c2N (b := 0) (Nat.zero_le _) hp (by omega)) ?_
    refine xT_iload_n g_q199 g199_9 (rfl) ?_
    refine xT_iload_n g_q199 g199_10 (rfl) ?_
    refine xT_if_icmpN g_q199 g199_11 (t := 22) (by decide) (c2N (a := v) (b := p) (by omega) (by omega) (by omega)) ?_
    refine xT_siV (y := nI (1900)) g_q199 g199_14 (by decide) ?_
    refine xT_iload_n g_q199 g199_17 (rfl) ?_
    refine xT_iaddV (y := nI (1900 + v)) g_q199 g199_18 (bAddN _ _) ?_
    refine xT_goto g_q199 g199_19 (t := 31) (by decide) ?_
    exact xT_ireturn g_q199 g199_31 (rfl)
  · rw [show meanN v p = 2000 + v from if_neg h]
    refine xT_iload_n g_q199 g199_0 (rfl) ?_
    refine xT_icV (y := nI (2)) g_q199 g199_1 (by decide) ?_
    refine xT_if_icmpN g_q199 g199_2 (t := 30) (by decide) (c1N (a := 2) (b := 2) (by omega)) ?_
    refine xT_iload_n g_q199 g199_5 (rfl) ?_
    refine xT_ifCondN g_q199 g199_6 (t := 30) (by decide) (c2N (b := 0) (Nat.zero_le _) hp (by omega)) ?_
    refine xT_iload_n g_q199 g199_9 (rfl) ?_
    refine xT_iload_n g_q199 g199_10 (rfl) ?_
    refine xT_if_icmpY g_q199 g199_11 (t := 22) (by decide) (c2Y (a := v) (b := p) (by omega) (by omega) (by omega)) ?_
    refine xT_siV (y := nI (2000)) g_q199 g199_22 (by decide) ?_
    refine xT_iload_n g_q199 g199_25 (rfl) ?_
    refine xT_iaddV (y := nI (2000 + v)) g_q199 g199_26 (bAddN _ _) ?_
    refine xT_goto g_q199 g199_27 (t := 31) (by decide) ?_
    exact xT_ireturn g_q199 g199_31 (rfl)
theorem t252 {g r y : Nat} (hg : g < 2 ^ 31) (hr : r < 3) (hy : y < 2 ^ 31) : x_To x_tb x_tyl ot (dp + 1) 252 0 (x_en 0 [.inl (nI (g)), .inl (nI (r)), .inl (nI (y))]) [] H 0 0 (some (.inl (nI (ansN g r y)))) H := by
  have h100 : y % 100 < 100 := Nat.mod_lt _ (by decide)
  have hm := meanN_lt (p := g) h100
  rcases leapN_le (meanN (y % 100) g) r with hl | hl
  · rw [show ansN g r y = 2 * meanN (y % 100) g + 0 from congrArg (2 * meanN (y % 100) g + ·) hl]
    refine xT_iload_n g_q252 g252_0 (rfl) ?_
    refine xT_biV (y := nI (100)) g_q252 g252_1 (by decide) ?_
    refine xT_iremV (y := nI ((y) % (100))) g_q252 g252_3 (by decide) (bRemN (by omega) (by omega) (by omega)) ?_
    refine xT_icV (y := nI (2)) g_q252 g252_4 (by decide) ?_
    refine xT_iload_n g_q252 g252_5 (rfl) ?_
    refine xT_invokestatic (r := []) (u := some (.inl (nI (meanN (y % 100) g)))) g_q252 g252_6 (j := 199) (so := 2) (by decide +kernel) g_q199 (rfl) (t199 (by omega) (by omega)) ?_
    refine xT_istore_n g_q252 g252_9 (by decide) ?_
    refine xT_icV (y := nI (2)) g_q252 g252_10 (by decide) ?_
    refine xT_iload_n g_q252 g252_11 (lkY) ?_
    refine xT_imulV (y := nI ((2) * (meanN (y % 100) g))) g_q252 g252_12 (bMulN _ _) ?_
    refine xT_iload_n g_q252 g252_13 (lkY) ?_
    refine xT_iload_n g_q252 g252_14 (lkN (by decide) (rfl)) ?_
    refine xT_invokestatic (r := []) (u := some (.inl (nI (leapN (meanN (y % 100) g) r)))) g_q252 g252_15 (j := 197) (so := 2) (by decide +kernel) g_q197 (rfl) (t197 (by have := hm; omega) hr) ?_
    refine xT_ifCondY g_q252 g252_18 (t := 25) (by decide) (c0Y (b := 0) hl) ?_
    refine xT_icV (y := nI (0)) g_q252 g252_25 (by decide) ?_
    refine xT_iaddV (y := nI (((2) * (meanN (y % 100) g)) + 0)) g_q252 g252_26 (bAddN _ _) ?_
    exact xT_ireturn g_q252 g252_27 (rfl)
  · rw [show ansN g r y = 2 * meanN (y % 100) g + 1 from congrArg (2 * meanN (y % 100) g + ·) hl]
    refine xT_iload_n g_q252 g252_0 (rfl) ?_
    refine xT_biV (y := nI (100)) g_q252 g252_1 (by decide) ?_
    refine xT_iremV (y := nI ((y) % (100))) g_q252 g252_3 (by decide) (bRemN (by omega) (by omega) (by omega)) ?_
    refine xT_icV (y := nI (2)) g_q252 g252_4 (by decide) ?_
    refine xT_iload_n g_q252 g252_5 (rfl) ?_
    refine xT_invokestatic (r := []) (u := some (.inl (nI (meanN (y % 100) g)))) g_q252 g252_6 (j := 199) (so := 2) (by decide +kernel) g_q199 (rfl) (t199 (by omega) (by omega)) ?_
    refine xT_istore_n g_q252 g252_9 (by decide) ?_
    refine xT_icV (y := nI (2)) g_q252 g252_10 (by decide) ?_
    refine xT_iload_n g_q252 g252_11 (lkY) ?_
    refine xT_imulV (y := nI ((2) * (meanN (y % 100) g))) g_q252 g252_12 (bMulN _ _) ?_
    refine xT_iload_n g_q252 g252_13 (lkY) ?_
    refine xT_iload_n g_q252 g252_14 (lkN (by decide) (rfl)) ?_
    refine xT_invokestatic (r := []) (u := some (.inl (nI (leapN (meanN (y % 100) g) r)))) g_q252 g252_15 (j := 197) (so := 2) (by decide +kernel) g_q197 (rfl) (t197 (by have := hm; omega) hr) ?_
    refine xT_ifCondN g_q252 g252_18 (t := 25) (by decide) (c0N (b := 0) (by omega) (by omega) (by omega)) ?_
    refine xT_icV (y := nI (1)) g_q252 g252_21 (by decide) ?_
    refine xT_goto g_q252 g252_22 (t := 26) (by decide) ?_
    refine xT_iaddV (y := nI (((2) * (meanN (y % 100) g)) + 1)) g_q252 g252_26 (bAddN _ _) ?_
    exact xT_ireturn g_q252 g252_27 (rfl)
theorem t80_0 {y : Nat} (hy : y < 2 ^ 31) : x_To x_tb x_tyl ot dp 80 0 (x_en 0 [.inl (nI (y)), .inl (nI (0))]) [] H 0 0 (some (.inl (nI (leapN y 0)))) H := by
  by_cases h4 : y % 4 = 0
  rotate_left
  · rw [show leapN y 0 = 0 from if_neg (fun e => h4 e.1)]
    refine xT_iload_n g_q80 g80_0 (rfl) ?_
    refine xT_icV (y := nI (4)) g_q80 g80_1 (by decide) ?_
    refine xT_iremV (y := nI ((y) % (4))) g_q80 g80_2 (by decide) (bRemN (by omega) (by omega) (by omega)) ?_
    refine xT_ifCondY g_q80 g80_3 (t := 10) (by decide) (c1Y (a := (y) % (4)) (b := 0) (by omega) (by omega) (by omega)) ?_
    refine xT_icV (y := nI (0)) g_q80 g80_10 (by decide) ?_
    refine xT_istore_n g_q80 g80_11 (by decide) ?_
    refine xT_iload_n g_q80 g80_12 (lkN (by decide) (rfl)) ?_
    refine xT_lookupswitch g_q80 g80_13 (t := 40) (by decide +kernel) (by decide +kernel) (by decide +kernel) ?_
    refine xT_iload_n g_q80 g80_40 (lkY) ?_
    exact xT_ireturn g_q80 g80_41 (by decide +kernel)
  rw [show leapN y 0 = 1 from if_pos ⟨h4, Or.inl rfl⟩]
  refine xT_iload_n g_q80 g80_0 (rfl) ?_
  refine xT_icV (y := nI (4)) g_q80 g80_1 (by decide) ?_
  refine xT_iremV (y := nI ((y) % (4))) g_q80 g80_2 (by decide) (bRemN (by omega) (by omega) (by omega)) ?_
  refine xT_ifCondN g_q80 g80_3 (t := 10) (by decide) (c1N (a := (y) % (4)) (b := 0) (by omega)) ?_
  refine xT_icV (y := nI (1)) g_q80 g80_6 (by decide) ?_
  refine xT_goto g_q80 g80_7 (t := 11) (by decide) ?_
  refine xT_istore_n g_q80 g80_11 (by decide) ?_
  refine xT_iload_n g_q80 g80_12 (lkN (by decide) (rfl)) ?_
  refine xT_lookupswitch g_q80 g80_13 (t := 40) (by decide +kernel) (by decide +kernel) (by decide +kernel) ?_
  refine xT_iload_n g_q80 g80_40 (lkY) ?_
  exact xT_ireturn g_q80 g80_41 (by decide +kernel)
theorem t80_1 {y : Nat} (hy : y < 2 ^ 31) : x_To x_tb x_tyl ot dp 80 0 (x_en 0 [.inl (nI (y)), .inl (nI (1))]) [] H 0 0 (some (.inl (nI (leapN y 1)))) H := by
  by_cases h4 : y % 4 = 0
  rotate_left
  · rw [show leapN y 1 = 0 from if_neg (fun e => h4 e.1)]
    refine xT_iload_n g_q80 g80_0 (rfl) ?_
    refine xT_icV (y := nI (4)) g_q80 g80_1 (by decide) ?_
    refine xT_iremV (y := nI ((y) % (4))) g_q80 g80_2 (by decide) (bRemN (by omega) (by omega) (by omega)) ?_
    refine xT_ifCondY g_q80 g80_3 (t := 10) (by decide) (c1Y (a := (y) % (4)) (b := 0) (by omega) (by omega) (by omega)) ?_
    refine xT_icV (y := nI (0)) g_q80 g80_10 (by decide) ?_
    refine xT_istore_n g_q80 g80_11 (by decide) ?_
    refine xT_iload_n g_q80 g80_12 (lkN (by decide) (rfl)) ?_
    refine xT_lookupswitch g_q80 g80_13 (t := 42) (by decide +kernel) (by decide +kernel) (by decide +kernel) ?_
    refine xT_iload_n g_q80 g80_42 (lkY) ?_
    refine xT_ifCondY g_q80 g80_43 (t := 57) (by decide) (c0Y (a := 0) (b := 0) (by omega)) ?_
    refine xT_icV (y := nI (0)) g_q80 g80_57 (by decide) ?_
    exact xT_ireturn g_q80 g80_58 (by decide +kernel)
  by_cases h1 : y % 100 = 0
  · rw [show leapN y 1 = 0 from if_neg (fun e => by omega)]
    refine xT_iload_n g_q80 g80_0 (rfl) ?_
    refine xT_icV (y := nI (4)) g_q80 g80_1 (by decide) ?_
    refine xT_iremV (y := nI ((y) % (4))) g_q80 g80_2 (by decide) (bRemN (by omega) (by omega) (by omega)) ?_
    refine xT_ifCondN g_q80 g80_3 (t := 10) (by decide) (c1N (a := (y) % (4)) (b := 0) (by omega)) ?_
    refine xT_icV (y := nI (1)) g_q80 g80_6 (by decide) ?_
    refine xT_goto g_q80 g80_7 (t := 11) (by decide) ?_
    refine xT_istore_n g_q80 g80_11 (by decide) ?_
    refine xT_iload_n g_q80 g80_12 (lkN (by decide) (rfl)) ?_
    refine xT_lookupswitch g_q80 g80_13 (t := 42) (by decide +kernel) (by decide +kernel) (by decide +kernel) ?_
    refine xT_iload_n g_q80 g80_42 (lkY) ?_
    refine xT_ifCondN g_q80 g80_43 (t := 57) (by decide) (c0N (a := 1) (b := 0) (by omega) (by omega) (by omega)) ?_
    refine xT_iload_n g_q80 g80_46 (lkN (by decide) (rfl)) ?_
    refine xT_biV (y := nI (100)) g_q80 g80_47 (by decide) ?_
    refine xT_iremV (y := nI ((y) % (100))) g_q80 g80_49 (by decide) (bRemN (by omega) (by omega) (by omega)) ?_
    refine xT_ifCondY g_q80 g80_50 (t := 57) (by decide) (c0Y (a := (y) % (100)) (b := 0) (by omega)) ?_
    refine xT_icV (y := nI (0)) g_q80 g80_57 (by decide) ?_
    exact xT_ireturn g_q80 g80_58 (by decide +kernel)
  · rw [show leapN y 1 = 1 from if_pos ⟨h4, Or.inr (Or.inl h1)⟩]
    refine xT_iload_n g_q80 g80_0 (rfl) ?_
    refine xT_icV (y := nI (4)) g_q80 g80_1 (by decide) ?_
    refine xT_iremV (y := nI ((y) % (4))) g_q80 g80_2 (by decide) (bRemN (by omega) (by omega) (by omega)) ?_
    refine xT_ifCondN g_q80 g80_3 (t := 10) (by decide) (c1N (a := (y) % (4)) (b := 0) (by omega)) ?_
    refine xT_icV (y := nI (1)) g_q80 g80_6 (by decide) ?_
    refine xT_goto g_q80 g80_7 (t := 11) (by decide) ?_
    refine xT_istore_n g_q80 g80_11 (by decide) ?_
    refine xT_iload_n g_q80 g80_12 (lkN (by decide) (rfl)) ?_
    refine xT_lookupswitch g_q80 g80_13 (t := 42) (by decide +kernel) (by decide +kernel) (by decide +kernel) ?_
    refine xT_iload_n g_q80 g80_42 (lkY) ?_
    refine xT_ifCondN g_q80 g80_43 (t := 57) (by decide) (c0N (a := 1) (b := 0) (by omega) (by omega) (by omega)) ?_
    refine xT_iload_n g_q80 g80_46 (lkN (by decide) (rfl)) ?_
    refine xT_biV (y := nI (100)) g_q80 g80_47 (by decide) ?_
    refine xT_iremV (y := nI ((y) % (100))) g_q80 g80_49 (by decide) (bRemN (by omega) (by omega) (by omega)) ?_
    refine xT_ifCondN g_q80 g80_50 (t := 57) (by decide) (c0N (a := (y) % (100)) (b := 0) (by omega) (by omega) (by omega)) ?_
    refine xT_icV (y := nI (1)) g_q80 g80_53 (by decide) ?_
    refine xT_goto g_q80 g80_54 (t := 58) (by decide) ?_
    exact xT_ireturn g_q80 g80_58 (by decide +kernel)
theorem t80_2 {y : Nat} (hy : y < 2 ^ 31) : x_To x_tb x_tyl ot dp 80 0 (x_en 0 [.inl (nI (y)), .inl (nI (2))]) [] H 0 0 (some (.inl (nI (leapN y 2)))) H := by
  by_cases h4 : y % 4 = 0
  rotate_left
  · rw [show leapN y 2 = 0 from if_neg (fun e => h4 e.1)]
    refine xT_iload_n g_q80 g80_0 (rfl) ?_
    refine xT_icV (y := nI (4)) g_q80 g80_1 (by decide) ?_
    refine xT_iremV (y := nI ((y) % (4))) g_q80 g80_2 (by decide) (bRemN (by omega) (by omega) (by omega)) ?_
    refine xT_ifCondY g_q80 g80_3 (t := 10) (by decide) (c1Y (a := (y) % (4)) (b := 0) (by omega) (by omega) (by omega)) ?_
    refine xT_icV (y := nI (0)) g_q80 g80_10 (by decide) ?_
    refine xT_istore_n g_q80 g80_11 (by decide) ?_
    refine xT_iload_n g_q80 g80_12 (lkN (by decide) (rfl)) ?_
    refine xT_lookupswitch g_q80 g80_13 (t := 59) (by decide +kernel) (by decide +kernel) (by decide +kernel) ?_
    refine xT_iload_n g_q80 g80_59 (lkY) ?_
    refine xT_ifCondY g_q80 g80_60 (t := 82) (by decide) (c0Y (a := 0) (b := 0) (by omega)) ?_
    refine xT_icV (y := nI (0)) g_q80 g80_82 (by decide) ?_
    exact xT_ireturn g_q80 g80_83 (by decide +kernel)
  by_cases h1 : y % 100 = 0
  rotate_left
  · rw [show leapN y 2 = 1 from if_pos ⟨h4, Or.inr (Or.inl h1)⟩]
    refine xT_iload_n g_q80 g80_0 (rfl) ?_
    refine xT_icV (y := nI (4)) g_q80 g80_1 (by decide) ?_
    refine xT_iremV (y := nI ((y) % (4))) g_q80 g80_2 (by decide) (bRemN (by omega) (by omega) (by omega)) ?_
    refine xT_ifCondN g_q80 g80_3 (t := 10) (by decide) (c1N (a := (y) % (4)) (b := 0) (by omega)) ?_
    refine xT_icV (y := nI (1)) g_q80 g80_6 (by decide) ?_
    refine xT_goto g_q80 g80_7 (t := 11) (by decide) ?_
    refine xT_istore_n g_q80 g80_11 (by decide) ?_
    refine xT_iload_n g_q80 g80_12 (lkN (by decide) (rfl)) ?_
    refine xT_lookupswitch g_q80 g80_13 (t := 59) (by decide +kernel) (by decide +kernel) (by decide +kernel) ?_
    refine xT_iload_n g_q80 g80_59 (lkY) ?_
    refine xT_ifCondN g_q80 g80_60 (t := 82) (by decide) (c0N (a := 1) (b := 0) (by omega) (by omega) (by omega)) ?_
    refine xT_iload_n g_q80 g80_63 (lkN (by decide) (rfl)) ?_
    refine xT_biV (y := nI (100)) g_q80 g80_64 (by decide) ?_
    refine xT_iremV (y := nI ((y) % (100))) g_q80 g80_66 (by decide) (bRemN (by omega) (by omega) (by omega)) ?_
    refine xT_ifCondY g_q80 g80_67 (t := 78) (by decide) (c1Y (a := (y) % (100)) (b := 0) (by omega) (by omega) (by omega)) ?_
    refine xT_icV (y := nI (1)) g_q80 g80_78 (by decide) ?_
    refine xT_goto g_q80 g80_79 (t := 83) (by decide) ?_
    exact xT_ireturn g_q80 g80_83 (by decide +kernel)
  by_cases h3 : y % 400 = 0
  · rw [show leapN y 2 = 1 from if_pos ⟨h4, Or.inr (Or.inr ⟨rfl, h3⟩)⟩]
    refine xT_iload_n g_q80 g80_0 (rfl) ?_
    refine xT_icV (y := nI (4)) g_q80 g80_1 (by decide) ?_
    refine xT_iremV (y := nI ((y) % (4))) g_q80 g80_2 (by decide) (bRemN (by omega) (by omega) (by omega)) ?_
    refine xT_ifCondN g_q80 g80_3 (t := 10) (by decide) (c1N (a := (y) % (4)) (b := 0) (by omega)) ?_
    refine xT_icV (y := nI (1)) g_q80 g80_6 (by decide) ?_
    refine xT_goto g_q80 g80_7 (t := 11) (by decide) ?_
    refine xT_istore_n g_q80 g80_11 (by decide) ?_
    refine xT_iload_n g_q80 g80_12 (lkN (by decide) (rfl)) ?_
    refine xT_lookupswitch g_q80 g80_13 (t := 59) (by decide +kernel) (by decide +kernel) (by decide +kernel) ?_
    refine xT_iload_n g_q80 g80_59 (lkY) ?_
    refine xT_ifCondN g_q80 g80_60 (t := 82) (by decide) (c0N (a := 1) (b := 0) (by omega) (by omega) (by omega)) ?_
    refine xT_iload_n g_q80 g80_63 (lkN (by decide) (rfl)) ?_
    refine xT_biV (y := nI (100)) g_q80 g80_64 (by decide) ?_
    refine xT_iremV (y := nI ((y) % (100))) g_q80 g80_66 (by decide) (bRemN (by omega) (by omega) (by omega)) ?_
    refine xT_ifCondN g_q80 g80_67 (t := 78) (by decide) (c1N (a := (y) % (100)) (b := 0) (by omega)) ?_
    refine xT_iload_n g_q80 g80_70 (lkN (by decide) (rfl)) ?_
    refine xT_siV (y := nI (400)) g_q80 g80_71 (by decide) ?_
    refine xT_iremV (y := nI ((y) % (400))) g_q80 g80_74 (by decide) (bRemN (by omega) (by omega) (by omega)) ?_
    refine xT_ifCondN g_q80 g80_75 (t := 82) (by decide) (c1N (a := (y) % (400)) (b := 0) (by omega)) ?_
    refine xT_icV (y := nI (1)) g_q80 g80_78 (by decide) ?_
    refine xT_goto g_q80 g80_79 (t := 83) (by decide) ?_
    exact xT_ireturn g_q80 g80_83 (by decide +kernel)
  · rw [show leapN y 2 = 0 from if_neg (fun e => by omega)]
    refine xT_iload_n g_q80 g80_0 (rfl) ?_
    refine xT_icV (y := nI (4)) g_q80 g80_1 (by decide) ?_
    refine xT_iremV (y := nI ((y) % (4))) g_q80 g80_2 (by decide) (bRemN (by omega) (by omega) (by omega)) ?_
    refine xT_ifCondN g_q80 g80_3 (t := 10) (by decide) (c1N (a := (y) % (4)) (b := 0) (by omega)) ?_
    refine xT_icV (y := nI (1)) g_q80 g80_6 (by decide) ?_
    refine xT_goto g_q80 g80_7 (t := 11) (by decide) ?_
    refine xT_istore_n g_q80 g80_11 (by decide) ?_
    refine xT_iload_n g_q80 g80_12 (lkN (by decide) (rfl)) ?_
    refine xT_lookupswitch g_q80 g80_13 (t := 59) (by decide +kernel) (by decide +kernel) (by decide +kernel) ?_
    refine xT_iload_n g_q80 g80_59 (lkY) ?_
    refine xT_ifCondN g_q80 g80_60 (t := 82) (by decide) (c0N (a := 1) (b := 0) (by omega) (by omega) (by omega)) ?_
    refine xT_iload_n g_q80 g80_63 (lkN (by decide) (rfl)) ?_
    refine xT_biV (y := nI (100)) g_q80 g80_64 (by decide) ?_
    refine xT_iremV (y := nI ((y) % (100))) g_q80 g80_66 (by decide) (bRemN (by omega) (by omega) (by omega)) ?_
    refine xT_ifCondN g_q80 g80_67 (t := 78) (by decide) (c1N (a := (y) % (100)) (b := 0) (by omega)) ?_
    refine xT_iload_n g_q80 g80_70 (lkN (by decide) (rfl)) ?_
    refine xT_siV (y := nI (400)) g_q80 g80_71 (by decide) ?_
    refine xT_iremV (y := nI ((y) % (400))) g_q80 g80_74 (by decide) (bRemN (by omega) (by omega) (by omega)) ?_
    refine xT_ifCondY g_q80 g80_75 (t := 82) (by decide) (c1Y (a := (y) % (400)) (b := 0) (by omega) (by omega) (by omega)) ?_
    refine xT_icV (y := nI (0)) g_q80 g80_82 (by decide) ?_
    exact xT_ireturn g_q80 g80_83 (by decide +kernel)
def lrN (y : Nat) : Nat := leapN y 0 + 2 * leapN y 1 + 4 * leapN y 2
theorem t123 {y : Nat} (hy : y < 2 ^ 31) : x_To x_tb x_tyl ot (dp + 1) 123 0 (x_en 0 [.inl (nI (y))]) [] H 0 0 (some (.inl (nI (lrN y)))) H := by
  rcases leapN_le y 0 with e0 | e0 <;> rcases leapN_le y 1 with e1 | e1 <;> rcases leapN_le y 2 with e2 | e2
  · rw [show lrN y = 0 from by
      unfold lrN
      omega]
    refine xT_icV (y := nI (0)) g_q123 g123_0 (by decide) ?_
    refine xT_istore_n g_q123 g123_1 (by decide) ?_
    refine xT_icV (y := nI (0)) g_q123 g123_2 (by decide) ?_
    refine xT_istore_n g_q123 g123_3 (by decide) ?_
    refine xT_iload_n g_q123 g123_4 (lkY) ?_
    refine xT_icV (y := nI (3)) g_q123 g123_5 (by decide) ?_
    refine xT_if_icmpN g_q123 g123_6 (t := 33) (by decide) (c3N (a := 0) (b := 3) (by omega) (by omega) (by omega)) ?_
    refine xT_iload_n g_q123 g123_9 (lkN (by decide) (lkY)) ?_
    refine xT_iload_n g_q123 g123_10 (lkN (by decide) (lkN (by decide) (rfl))) ?_
    refine xT_iload_n g_q123 g123_11 (lkY) ?_
    refine xT_invokestatic (r := []) (u := some (.inl (nI (leapN y 0)))) g_q123 g123_12 (j := 80) (so := 3) (by decide +kernel) g_q80 (rfl) (t80_0 hy) ?_
    refine xT_ifCondY g_q123 g123_15 (t := 24) (by decide) (c0Y (b := 0) (by omega)) ?_
    refine xT_icV (y := nI (0)) g_q123 g123_24 (by decide) ?_
    refine xT_iorV (y := nI (0)) g_q123 g123_25 (by decide) ?_
    refine xT_istore_n g_q123 g123_26 (by decide) ?_
    refine xT_iincV (y := nI (1)) g_q123 g123_27 (lkN (by decide) (lkY)) (by decide) (by decide) ?_
    refine xT_goto g_q123 g123_30 (t := 4) (by decide) ?_
    refine xT_iload_n g_q123 g123_4 (lkY) ?_
    refine xT_icV (y := nI (3)) g_q123 g123_5 (by decide) ?_
    refine xT_if_icmpN g_q123 g123_6 (t := 33) (by decide) (c3N (a := 1) (b := 3) (by omega) (by omega) (by omega)) ?_
    refine xT_iload_n g_q123 g123_9 (lkN (by decide) (lkY)) ?_
    refine xT_iload_n g_q123 g123_10 (lkN (by decide) (lkN (by decide) (lkN (by decide) (lkN (by decide) (rfl))))) ?_
    refine xT_iload_n g_q123 g123_11 (lkY) ?_
    refine xT_invokestatic (r := []) (u := some (.inl (nI (leapN y 1)))) g_q123 g123_12 (j := 80) (so := 3) (by decide +kernel) g_q80 (rfl) (t80_1 hy) ?_
    refine xT_ifCondY g_q123 g123_15 (t := 24) (by decide) (c0Y (b := 0) (by omega)) ?_
    refine xT_icV (y := nI (0)) g_q123 g123_24 (by decide) ?_
    refine xT_iorV (y := nI (0)) g_q123 g123_25 (by decide) ?_
    refine xT_istore_n g_q123 g123_26 (by decide) ?_
    refine xT_iincV (y := nI (2)) g_q123 g123_27 (lkN (by decide) (lkY)) (by decide) (by decide) ?_
    refine xT_goto g_q123 g123_30 (t := 4) (by decide) ?_
    refine xT_iload_n g_q123 g123_4 (lkY) ?_
    refine xT_icV (y := nI (3)) g_q123 g123_5 (by decide) ?_
    refine xT_if_icmpN g_q123 g123_6 (t := 33) (by decide) (c3N (a := 2) (b := 3) (by omega) (by omega) (by omega)) ?_
    refine xT_iload_n g_q123 g123_9 (lkN (by decide) (lkY)) ?_
    refine xT_iload_n g_q123 g123_10 (lkN (by decide) (lkN (by decide) (lkN (by decide) (lkN (by decide) (lkN (by decide) (lkN (by decide) (rfl))))))) ?_
    refine xT_iload_n g_q123 g123_11 (lkY) ?_
    refine xT_invokestatic (r := []) (u := some (.inl (nI (leapN y 2)))) g_q123 g123_12 (j := 80) (so := 3) (by decide +kernel) g_q80 (rfl) (t80_2 hy) ?_
    refine xT_ifCondY g_q123 g123_15 (t := 24) (by decide) (c0Y (b := 0) (by omega)) ?_
    refine xT_icV (y := nI (0)) g_q123 g123_24 (by decide) ?_
    refine xT_iorV (y := nI (0)) g_q123 g123_25 (by decide) ?_
    refine xT_istore_n g_q123 g123_26 (by decide) ?_
    refine xT_iincV (y := nI (3)) g_q123 g123_27 (lkN (by decide) (lkY)) (by decide) (by decide) ?_
    refine xT_goto g_q123 g123_30 (t := 4) (by decide) ?_
    refine xT_iload_n g_q123 g123_4 (lkY) ?_
    refine xT_icV (y := nI (3)) g_q123 g123_5 (by decide) ?_
    refine xT_if_icmpY g_q123 g123_6 (t := 33) (by decide) (c3Y (a := 3) (b := 3) (by omega) (by omega) (by omega)) ?_
    refine xT_iload_n g_q123 g123_33 (lkN (by decide) (lkY)) ?_
    exact xT_ireturn g_q123 g123_34 (rfl)
  · rw [show lrN y = 4 from by
      unfold lrN
      omega]
    refine xT_icV (y := nI (0)) g_q123 g123_0 (by decide) ?_
    refine xT_istore_n g_q123 g123_1 (by decide) ?_
    refine xT_icV (y := nI (0)) g_q123 g123_2 (by decide) ?_
    refine xT_istore_n g_q123 g123_3 (by decide) ?_
    refine xT_iload_n g_q123 g123_4 (lkY) ?_
    refine xT_icV (y := nI (3)) g_q123 g123_5 (by decide) ?_
    refine xT_if_icmpN g_q123 g123_6 (t := 33) (by decide) (c3N (a := 0) (b := 3) (by omega) (by omega) (by omega)) ?_
    refine xT_iload_n g_q123 g123_9 (lkN (by decide) (lkY)) ?_
    refine xT_iload_n g_q123 g123_10 (lkN (by decide) (lkN (by decide) (rfl))) ?_
    refine xT_iload_n g_q123 g123_11 (lkY) ?_
    refine xT_invokestatic (r := []) (u := some (.inl (nI (leapN y 0)))) g_q123 g123_12 (j := 80) (so := 3) (by decide +kernel) g_q80 (rfl) (t80_0 hy) ?_
    refine xT_ifCondY g_q123 g123_15 (t := 24) (by decide) (c0Y (b := 0) (by omega)) ?_
    refine xT_icV (y := nI (0)) g_q123 g123_24 (by decide) ?_
    refine xT_iorV (y := nI (0)) g_q123 g123_25 (by decide) ?_
    refine xT_istore_n g_q123 g123_26 (by decide) ?_
    refine xT_iincV (y := nI (1)) g_q123 g123_27 (lkN (by decide) (lkY)) (by decide) (by decide) ?_
    refine xT_goto g_q123 g123_30 (t := 4) (by decide) ?_
    refine xT_iload_n g_q123 g123_4 (lkY) ?_
    refine xT_icV (y := nI (3)) g_q123 g123_5 (by decide) ?_
    refine xT_if_icmpN g_q123 g123_6 (t := 33) (by decide) (c3N (a := 1) (b := 3) (by omega) (by omega) (by omega)) ?_
    refine xT_iload_n g_q123 g123_9 (lkN (by decide) (lkY)) ?_
    refine xT_iload_n g_q123 g123_10 (lkN (by decide) (lkN (by decide) (lkN (by decide) (lkN (by decide) (rfl))))) ?_
    refine xT_iload_n g_q123 g123_11 (lkY) ?_
    refine xT_invokestatic (r := []) (u := some (.inl (nI (leapN y 1)))) g_q123 g123_12 (j := 80) (so := 3) (by decide +kernel) g_q80 (rfl) (t80_1 hy) ?_
    refine xT_ifCondY g_q123 g123_15 (t := 24) (by decide) (c0Y (b := 0) (by omega)) ?_
    refine xT_icV (y := nI (0)) g_q123 g123_24 (by decide) ?_
    refine xT_iorV (y := nI (0)) g_q123 g123_25 (by decide) ?_
    refine xT_istore_n g_q123 g123_26 (by decide) ?_
    refine xT_iincV (y := nI (2)) g_q123 g123_27 (lkN (by decide) (lkY)) (by decide) (by decide) ?_
    refine xT_goto g_q123 g123_30 (t := 4) (by decide) ?_
    refine xT_iload_n g_q123 g123_4 (lkY) ?_
    refine xT_icV (y := nI (3)) g_q123 g123_5 (by decide) ?_
    refine xT_if_icmpN g_q123 g123_6 (t := 33) (by decide) (c3N (a := 2) (b := 3) (by omega) (by omega) (by omega)) ?_
    refine xT_iload_n g_q123 g123_9 (lkN (by decide) (lkY)) ?_
    refine xT_iload_n g_q123 g123_10 (lkN (by decide) (lkN (by decide) (lkN (by decide) (lkN (by decide) (lkN (by decide) (lkN (by decide) (rfl))))))) ?_
    refine xT_iload_n g_q123 g123_11 (lkY) ?_
    refine xT_invokestatic (r := []) (u := some (.inl (nI (leapN y 2)))) g_q123 g123_12 (j := 80) (so := 3) (by decide +kernel) g_q80 (rfl) (t80_2 hy) ?_
    refine xT_ifCondN g_q123 g123_15 (t := 24) (by decide) (c0N (b := 0) (by omega) (by omega) (by omega)) ?_
    refine xT_icV (y := nI (1)) g_q123 g123_18 (by decide) ?_
    refine xT_iload_n g_q123 g123_19 (lkY) ?_
    refine xT_ishlV (y := nI (4)) g_q123 g123_20 (by decide) ?_
    refine xT_goto g_q123 g123_21 (t := 25) (by decide) ?_
    refine xT_iorV (y := nI (4)) g_q123 g123_25 (by decide) ?_
    refine xT_istore_n g_q123 g123_26 (by decide) ?_
    refine xT_iincV (y := nI (3)) g_q123 g123_27 (lkN (by decide) (lkY)) (by decide) (by decide) ?_
    refine xT_goto g_q123 g123_30 (t := 4) (by decide) ?_
    refine xT_iload_n g_q123 g123_4 (lkY) ?_
    refine xT_icV (y := nI (3)) g_q123 g123_5 (by decide) ?_
    refine xT_if_icmpY g_q123 g123_6 (t := 33) (by decide) (c3Y (a := 3) (b := 3) (by omega) (by omega) (by omega)) ?_
    refine xT_iload_n g_q123 g123_33 (lkN (by decide) (lkY)) ?_
    exact xT_ireturn g_q123 g123_34 (rfl)
  · rw [show lrN y = 2 from by
      unfold lrN
      omega]
    refine xT_icV (y := nI (0)) g_q123 g123_0 (by decide) ?_
    refine xT_istore_n g_q123 g123_1 (by decide) ?_
    refine xT_icV (y := nI (0)) g_q123 g123_2 (by decide) ?_
    refine xT_istore_n g_q123 g123_3 (by decide) ?_
    refine xT_iload_n g_q123 g123_4 (lkY) ?_
    refine xT_icV (y := nI (3)) g_q123 g123_5 (by decide) ?_
    refine xT_if_icmpN g_q123 g123_6 (t := 33) (by decide) (c3N (a := 0) (b := 3) (by omega) (by omega) (by omega)) ?_
    refine xT_iload_n g_q123 g123_9 (lkN (by decide) (lkY)) ?_
    refine xT_iload_n g_q123 g123_10 (lkN (by decide) (lkN (by decide) (rfl))) ?_
    refine xT_iload_n g_q123 g123_11 (lkY) ?_
    refine xT_invokestatic (r := []) (u := some (.inl (nI (leapN y 0)))) g_q123 g123_12 (j := 80) (so := 3) (by decide +kernel) g_q80 (rfl) (t80_0 hy) ?_
    refine xT_ifCondY g_q123 g123_15 (t := 24) (by decide) (c0Y (b := 0) (by omega)) ?_
    refine xT_icV (y := nI (0)) g_q123 g123_24 (by decide) ?_
    refine xT_iorV (y := nI (0)) g_q123 g123_25 (by decide) ?_
    refine xT_istore_n g_q123 g123_26 (by decide) ?_
    refine xT_iincV (y := nI (1)) g_q123 g123_27 (lkN (by decide) (lkY)) (by decide) (by decide) ?_
    refine xT_goto g_q123 g123_30 (t := 4) (by decide) ?_
    refine xT_iload_n g_q123 g123_4 (lkY) ?_
    refine xT_icV (y := nI (3)) g_q123 g123_5 (by decide) ?_
    refine xT_if_icmpN g_q123 g123_6 (t := 33) (by decide) (c3N (a := 1) (b := 3) (by omega) (by omega) (by omega)) ?_
    refine xT_iload_n g_q123 g123_9 (lkN (by decide) (lkY)) ?_
    refine xT_iload_n g_q123 g123_10 (lkN (by decide) (lkN (by decide) (lkN (by decide) (lkN (by decide) (rfl))))) ?_
    refine xT_iload_n g_q123 g123_11 (lkY) ?_
    refine xT_invokestatic (r := []) (u := some (.inl (nI (leapN y 1)))) g_q123 g123_12 (j := 80) (so := 3) (by decide +kernel) g_q80 (rfl) (t80_1 hy) ?_
    refine xT_ifCondN g_q123 g123_15 (t := 24) (by decide) (c0N (b := 0) (by omega) (by omega) (by omega)) ?_
    refine xT_icV (y := nI (1)) g_q123 g123_18 (by decide) ?_
    refine xT_iload_n g_q123 g123_19 (lkY) ?_
    refine xT_ishlV (y := nI (2)) g_q123 g123_20 (by decide) ?_
    refine xT_goto g_q123 g123_21 (t := 25) (by decide) ?_
    refine xT_iorV (y := nI (2)) g_q123 g123_25 (by decide) ?_
    refine xT_istore_n g_q123 g123_26 (by decide) ?_
    refine xT_iincV (y := nI (2)) g_q123 g123_27 (lkN (by decide) (lkY)) (by decide) (by decide) ?_
    refine xT_goto g_q123 g123_30 (t := 4) (by decide) ?_
    refine xT_iload_n g_q123 g123_4 (lkY) ?_
    refine xT_icV (y := nI (3)) g_q123 g123_5 (by decide) ?_
    refine xT_if_icmpN g_q123 g123_6 (t := 33) (by decide) (c3N (a := 2) (b := 3) (by omega) (by omega) (by omega)) ?_
    refine xT_iload_n g_q123 g123_9 (lkN (by decide) (lkY)) ?_
    refine xT_iload_n g_q123 g123_10 (lkN (by decide) (lkN (by decide) (lkN (by decide) (lkN (by decide) (lkN (by decide) (lkN (by decide) (rfl))))))) ?_
    refine xT_iload_n g_q123 g123_11 (lkY) ?_
    refine xT_invokestatic (r := []) (u := some (.inl (nI (leapN y 2)))) g_q123 g123_12 (j := 80) (so := 3) (by decide +kernel) g_q80 (rfl) (t80_2 hy) ?_
    refine xT_ifCondY g_q123 g123_15 (t := 24) (by decide) (c0Y (b := 0) (by omega)) ?_
    refine xT_icV (y := nI (0)) g_q123 g123_24 (by decide) ?_
    refine xT_iorV (y := nI (2)) g_q123 g123_25 (by decide) ?_
    refine xT_istore_n g_q123 g123_26 (by decide) ?_
    refine xT_iincV (y := nI (3)) g_q123 g123_27 (lkN (by decide) (lkY)) (by decide) (by decide) ?_
    refine xT_goto g_q123 g123_30 (t := 4) (by decide) ?_
    refine xT_iload_n g_q123 g123_4 (lkY) ?_
    refine xT_icV (y := nI (3)) g_q123 g123_5 (by decide) ?_
    refine xT_if_icmpY g_q123 g123_6 (t := 33) (by decide) (c3Y (a := 3) (b := 3) (by omega) (by omega) (by omega)) ?_
    refine xT_iload_n g_q123 g123_33 (lkN (by decide) (lkY)) ?_
    exact xT_ireturn g_q123 g123_34 (rfl)
  · rw [show lrN y = 6 from by
      unfold lrN
      omega]
    refine xT_icV (y := nI (0)) g_q123 g123_0 (by decide) ?_
    refine xT_istore_n g_q123 g123_1 (by decide) ?_
    refine xT_icV (y := nI (0)) g_q123 g123_2 (by decide) ?_
    refine xT_istore_n g_q123 g123_3 (by decide) ?_
    refine xT_iload_n g_q123 g123_4 (lkY) ?_
    refine xT_icV (y := nI (3)) g_q123 g123_5 (by decide) ?_
    refine xT_if_icmpN g_q123 g123_6 (t := 33) (by decide) (c3N (a := 0) (b := 3) (by omega) (by omega) (by omega)) ?_
    refine xT_iload_n g_q123 g123_9 (lkN (by decide) (lkY)) ?_
    refine xT_iload_n g_q123 g123_10 (lkN (by decide) (lkN (by decide) (rfl))) ?_
    refine xT_iload_n g_q123 g123_11 (lkY) ?_
    refine xT_invokestatic (r := []) (u := some (.inl (nI (leapN y 0)))) g_q123 g123_12 (j := 80) (so := 3) (by decide +kernel) g_q80 (rfl) (t80_0 hy) ?_
    refine xT_ifCondY g_q123 g123_15 (t := 24) (by decide) (c0Y (b := 0) (by omega)) ?_
    refine xT_icV (y := nI (0)) g_q123 g123_24 (by decide) ?_
    refine xT_iorV (y := nI (0)) g_q123 g123_25 (by decide) ?_
    refine xT_istore_n g_q123 g123_26 (by decide) ?_
    refine xT_iincV (y := nI (1)) g_q123 g123_27 (lkN (by decide) (lkY)) (by decide) (by decide) ?_
    refine xT_goto g_q123 g123_30 (t := 4) (by decide) ?_
    refine xT_iload_n g_q123 g123_4 (lkY) ?_
    refine xT_icV (y := nI (3)) g_q123 g123_5 (by decide) ?_
    refine xT_if_icmpN g_q123 g123_6 (t := 33) (by decide) (c3N (a := 1) (b := 3) (by omega) (by omega) (by omega)) ?_
    refine xT_iload_n g_q123 g123_9 (lkN (by decide) (lkY)) ?_
    refine xT_iload_n g_q123 g123_10 (lkN (by decide) (lkN (by decide) (lkN (by decide) (lkN (by decide) (rfl))))) ?_
    refine xT_iload_n g_q123 g123_11 (lkY) ?_
    refine xT_invokestatic (r := []) (u := some (.inl (nI (leapN y 1)))) g_q123 g123_12 (j := 80) (so := 3) (by decide +kernel) g_q80 (rfl) (t80_1 hy) ?_
    refine xT_ifCondN g_q123 g123_15 (t := 24) (by decide) (c0N (b := 0) (by omega) (by omega) (by omega)) ?_
    refine xT_icV (y := nI (1)) g_q123 g123_18 (by decide) ?_
    refine xT_iload_n g_q123 g123_19 (lkY) ?_
    refine xT_ishlV (y := nI (2)) g_q123 g123_20 (by decide) ?_
    refine xT_goto g_q123 g123_21 (t := 25) (by decide) ?_
    refine xT_iorV (y := nI (2)) g_q123 g123_25 (by decide) ?_
    refine xT_istore_n g_q123 g123_26 (by decide) ?_
    refine xT_iincV (y := nI (2)) g_q123 g123_27 (lkN (by decide) (lkY)) (by decide) (by decide) ?_
    refine xT_goto g_q123 g123_30 (t := 4) (by decide) ?_
    refine xT_iload_n g_q123 g123_4 (lkY) ?_
    refine xT_icV (y := nI (3)) g_q123 g123_5 (by decide) ?_
    refine xT_if_icmpN g_q123 g123_6 (t := 33) (by decide) (c3N (a := 2) (b := 3) (by omega) (by omega) (by omega)) ?_
    refine xT_iload_n g_q123 g123_9 (lkN (by decide) (lkY)) ?_
    refine xT_iload_n g_q123 g123_10 (lkN (by decide) (lkN (by decide) (lkN (by decide) (lkN (by decide) (lkN (by decide) (lkN (by decide) (rfl))))))) ?_
    refine xT_iload_n g_q123 g123_11 (lkY) ?_
    refine xT_invokestatic (r := []) (u := some (.inl (nI (leapN y 2)))) g_q123 g123_12 (j := 80) (so := 3) (by decide +kernel) g_q80 (rfl) (t80_2 hy) ?_
    refine xT_ifCondN g_q123 g123_15 (t := 24) (by decide) (c0N (b := 0) (by omega) (by omega) (by omega)) ?_
    refine xT_icV (y := nI (1)) g_q123 g123_18 (by decide) ?_
    refine xT_iload_n g_q123 g123_19 (lkY) ?_
    refine xT_ishlV (y := nI (4)) g_q123 g123_20 (by decide) ?_
    refine xT_goto g_q123 g123_21 (t := 25) (by decide) ?_
    refine xT_iorV (y := nI (6)) g_q123 g123_25 (by decide) ?_
    refine xT_istore_n g_q123 g123_26 (by decide) ?_
    refine xT_iincV (y := nI (3)) g_q123 g123_27 (lkN (by decide) (lkY)) (by decide) (by decide) ?_
    refine xT_goto g_q123 g123_30 (t := 4) (by decide) ?_
    refine xT_iload_n g_q123 g123_4 (lkY) ?_
    refine xT_icV (y := nI (3)) g_q123 g123_5 (by decide) ?_
    refine xT_if_icmpY g_q123 g123_6 (t := 33) (by decide) (c3Y (a := 3) (b := 3) (by omega) (by omega) (by omega)) ?_
    refine xT_iload_n g_q123 g123_33 (lkN (by decide) (lkY)) ?_
    exact xT_ireturn g_q123 g123_34 (rfl)
  · rw [show lrN y = 1 from by
      unfold lrN
      omega]
    refine xT_icV (y := nI (0)) g_q123 g123_0 (by decide) ?_
    refine xT_istore_n g_q123 g123_1 (by decide) ?_
    refine xT_icV (y := nI (0)) g_q123 g123_2 (by decide) ?_
    refine xT_istore_n g_q123 g123_3 (by decide) ?_
    refine xT_iload_n g_q123 g123_4 (lkY) ?_
    refine xT_icV (y := nI (3)) g_q123 g123_5 (by decide) ?_
    refine xT_if_icmpN g_q123 g123_6 (t := 33) (by decide) (c3N (a := 0) (b := 3) (by omega) (by omega) (by omega)) ?_
    refine xT_iload_n g_q123 g123_9 (lkN (by decide) (lkY)) ?_
    refine xT_iload_n g_q123 g123_10 (lkN (by decide) (lkN (by decide) (rfl))) ?_
    refine xT_iload_n g_q123 g123_11 (lkY) ?_
    refine xT_invokestatic (r := []) (u := some (.inl (nI (leapN y 0)))) g_q123 g123_12 (j := 80) (so := 3) (by decide +kernel) g_q80 (rfl) (t80_0 hy) ?_
    refine xT_ifCondN g_q123 g123_15 (t := 24) (by decide) (c0N (b := 0) (by omega) (by omega) (by omega)) ?_
    refine xT_icV (y := nI (1)) g_q123 g123_18 (by decide) ?_
    refine xT_iload_n g_q123 g123_19 (lkY) ?_
    refine xT_ishlV (y := nI (1)) g_q123 g123_20 (by decide) ?_
    refine xT_goto g_q123 g123_21 (t := 25) (by decide) ?_
    refine xT_iorV (y := nI (1)) g_q123 g123_25 (by decide) ?_
    refine xT_istore_n g_q123 g123_26 (by decide) ?_
    refine xT_iincV (y := nI (1)) g_q123 g123_27 (lkN (by decide) (lkY)) (by decide) (by decide) ?_
    refine xT_goto g_q123 g123_30 (t := 4) (by decide) ?_
    refine xT_iload_n g_q123 g123_4 (lkY) ?_
    refine xT_icV (y := nI (3)) g_q123 g123_5 (by decide) ?_
    refine xT_if_icmpN g_q123 g123_6 (t := 33) (by decide) (c3N (a := 1) (b := 3) (by omega) (by omega) (by omega)) ?_
    refine xT_iload_n g_q123 g123_9 (lkN (by decide) (lkY)) ?_
    refine xT_iload_n g_q123 g123_10 (lkN (by decide) (lkN (by decide) (lkN (by decide) (lkN (by decide) (rfl))))) ?_
    refine xT_iload_n g_q123 g123_11 (lkY) ?_
    refine xT_invokestatic (r := []) (u := some (.inl (nI (leapN y 1)))) g_q123 g123_12 (j := 80) (so := 3) (by decide +kernel) g_q80 (rfl) (t80_1 hy) ?_
    refine xT_ifCondY g_q123 g123_15 (t := 24) (by decide) (c0Y (b := 0) (by omega)) ?_
    refine xT_icV (y := nI (0)) g_q123 g123_24 (by decide) ?_
    refine xT_iorV (y := nI (1)) g_q123 g123_25 (by decide) ?_
    refine xT_istore_n g_q123 g123_26 (by decide) ?_
    refine xT_iincV (y := nI (2)) g_q123 g123_27 (lkN (by decide) (lkY)) (by decide) (by decide) ?_
    refine xT_goto g_q123 g123_30 (t := 4) (by decide) ?_
    refine xT_iload_n g_q123 g123_4 (lkY) ?_
    refine xT_icV (y := nI (3)) g_q123 g123_5 (by decide) ?_
    refine xT_if_icmpN g_q123 g123_6 (t := 33) (by decide) (c3N (a := 2) (b := 3) (by omega) (by omega) (by omega)) ?_
    refine xT_iload_n g_q123 g123_9 (lkN (by decide) (lkY)) ?_
    refine xT_iload_n g_q123 g123_10 (lkN (by decide) (lkN (by decide) (lkN (by decide) (lkN (by decide) (lkN (by decide) (lkN (by decide) (rfl))))))) ?_
    refine xT_iload_n g_q123 g123_11 (lkY) ?_
    refine xT_invokestatic (r := []) (u := some (.inl (nI (leapN y 2)))) g_q123 g123_12 (j := 80) (so := 3) (by decide +kernel) g_q80 (rfl) (t80_2 hy) ?_
    refine xT_ifCondY g_q123 g123_15 (t := 24) (by decide) (c0Y (b := 0) (by omega)) ?_
    refine xT_icV (y := nI (0)) g_q123 g123_24 (by decide) ?_
    refine xT_iorV (y := nI (1)) g_q123 g123_25 (by decide) ?_
    refine xT_istore_n g_q123 g123_26 (by decide) ?_
    refine xT_iincV (y := nI (3)) g_q123 g123_27 (lkN (by decide) (lkY)) (by decide) (by decide) ?_
    refine xT_goto g_q123 g123_30 (t := 4) (by decide) ?_
    refine xT_iload_n g_q123 g123_4 (lkY) ?_
    refine xT_icV (y := nI (3)) g_q123 g123_5 (by decide) ?_
    refine xT_if_icmpY g_q123 g123_6 (t := 33) (by decide) (c3Y (a := 3) (b := 3) (by omega) (by omega) (by omega)) ?_
    refine xT_iload_n g_q123 g123_33 (lkN (by decide) (lkY)) ?_
    exact xT_ireturn g_q123 g123_34 (rfl)
  · rw [show lrN y = 5 from by
      unfold lrN
      omega]
    refine xT_icV (y := nI (0)) g_q123 g123_0 (by decide) ?_
    refine xT_istore_n g_q123 g123_1 (by decide) ?_
    refine xT_icV (y := nI (0)) g_q123 g123_2 (by decide) ?_
    refine xT_istore_n g_q123 g123_3 (by decide) ?_
    refine xT_iload_n g_q123 g123_4 (lkY) ?_
    refine xT_icV (y := nI (3)) g_q123 g123_5 (by decide) ?_
    refine xT_if_icmpN g_q123 g123_6 (t := 33) (by decide) (c3N (a := 0) (b := 3) (by omega) (by omega) (by omega)) ?_
    refine xT_iload_n g_q123 g123_9 (lkN (by decide) (lkY)) ?_
    refine xT_iload_n g_q123 g123_10 (lkN (by decide) (lkN (by decide) (rfl))) ?_
    refine xT_iload_n g_q123 g123_11 (lkY) ?_
    refine xT_invokestatic (r := []) (u := some (.inl (nI (leapN y 0)))) g_q123 g123_12 (j := 80) (so := 3) (by decide +kernel) g_q80 (rfl) (t80_0 hy) ?_
    refine xT_ifCondN g_q123 g123_15 (t := 24) (by decide) (c0N (b := 0) (by omega) (by omega) (by omega)) ?_
    refine xT_icV (y := nI (1)) g_q123 g123_18 (by decide) ?_
    refine xT_iload_n g_q123 g123_19 (lkY) ?_
    refine xT_ishlV (y := nI (1)) g_q123 g123_20 (by decide) ?_
    refine xT_goto g_q123 g123_21 (t := 25) (by decide) ?_
    refine xT_iorV (y := nI (1)) g_q123 g123_25 (by decide) ?_
    refine xT_istore_n g_q123 g123_26 (by decide) ?_
    refine xT_iincV (y := nI (1)) g_q123 g123_27 (lkN (by decide) (lkY)) (by decide) (by decide) ?_
    refine xT_goto g_q123 g123_30 (t := 4) (by decide) ?_
    refine xT_iload_n g_q123 g123_4 (lkY) ?_
    refine xT_icV (y := nI (3)) g_q123 g123_5 (by decide) ?_
    refine xT_if_icmpN g_q123 g123_6 (t := 33) (by decide) (c3N (a := 1) (b := 3) (by omega) (by omega) (by omega)) ?_
    refine xT_iload_n g_q123 g123_9 (lkN (by decide) (lkY)) ?_
    refine xT_iload_n g_q123 g123_10 (lkN (by decide) (lkN (by decide) (lkN (by decide) (lkN (by decide) (rfl))))) ?_
    refine xT_iload_n g_q123 g123_11 (lkY) ?_
    refine xT_invokestatic (r := []) (u := some (.inl (nI (leapN y 1)))) g_q123 g123_12 (j := 80) (so := 3) (by decide +kernel) g_q80 (rfl) (t80_1 hy) ?_
    refine xT_ifCondY g_q123 g123_15 (t := 24) (by decide) (c0Y (b := 0) (by omega)) ?_
    refine xT_icV (y := nI (0)) g_q123 g123_24 (by decide) ?_
    refine xT_iorV (y := nI (1)) g_q123 g123_25 (by decide) ?_
    refine xT_istore_n g_q123 g123_26 (by decide) ?_
    refine xT_iincV (y := nI (2)) g_q123 g123_27 (lkN (by decide) (lkY)) (by decide) (by decide) ?_
    refine xT_goto g_q123 g123_30 (t := 4) (by decide) ?_
    refine xT_iload_n g_q123 g123_4 (lkY) ?_
    refine xT_icV (y := nI (3)) g_q123 g123_5 (by decide) ?_
    refine xT_if_icmpN g_q123 g123_6 (t := 33) (by decide) (c3N (a := 2) (b := 3) (by omega) (by omega) (by omega)) ?_
    refine xT_iload_n g_q123 g123_9 (lkN (by decide) (lkY)) ?_
    refine xT_iload_n g_q123 g123_10 (lkN (by decide) (lkN (by decide) (lkN (by decide) (lkN (by decide) (lkN (by decide) (lkN (by decide) (rfl))))))) ?_
    refine xT_iload_n g_q123 g123_11 (lkY) ?_
    refine xT_invokestatic (r := []) (u := some (.inl (nI (leapN y 2)))) g_q123 g123_12 (j := 80) (so := 3) (by decide +kernel) g_q80 (rfl) (t80_2 hy) ?_
    refine xT_ifCondN g_q123 g123_15 (t := 24) (by decide) (c0N (b := 0) (by omega) (by omega) (by omega)) ?_
    refine xT_icV (y := nI (1)) g_q123 g123_18 (by decide) ?_
    refine xT_iload_n g_q123 g123_19 (lkY) ?_
    refine xT_ishlV (y := nI (4)) g_q123 g123_20 (by decide) ?_
    refine xT_goto g_q123 g123_21 (t := 25) (by decide) ?_
    refine xT_iorV (y := nI (5)) g_q123 g123_25 (by decide) ?_
    refine xT_istore_n g_q123 g123_26 (by decide) ?_
    refine xT_iincV (y := nI (3)) g_q123 g123_27 (lkN (by decide) (lkY)) (by decide) (by decide) ?_
    refine xT_goto g_q123 g123_30 (t := 4) (by decide) ?_
    refine xT_iload_n g_q123 g123_4 (lkY) ?_
    refine xT_icV (y := nI (3)) g_q123 g123_5 (by decide) ?_
    refine xT_if_icmpY g_q123 g123_6 (t := 33) (by decide) (c3Y (a := 3) (b := 3) (by omega) (by omega) (by omega)) ?_
    refine xT_iload_n g_q123 g123_33 (lkN (by decide) (lkY)) ?_
    exact xT_ireturn g_q123 g123_34 (rfl)
  · rw [show lrN y = 3 from by
      unfold lrN
      omega]
    refine xT_icV (y := nI (0)) g_q123 g123_0 (by decide) ?_
    refine xT_istore_n g_q123 g123_1 (by decide) ?_
    refine xT_icV (y := nI (0)) g_q123 g123_2 (by decide) ?_
    refine xT_istore_n g_q123 g123_3 (by decide) ?_
    refine xT_iload_n g_q123 g123_4 (lkY) ?_
    refine xT_icV (y := nI (3)) g_q123 g123_5 (by decide) ?_
    refine xT_if_icmpN g_q123 g123_6 (t := 33) (by decide) (c3N (a := 0) (b := 3) (by omega) (by omega) (by omega)) ?_
    refine xT_iload_n g_q123 g123_9 (lkN (by decide) (lkY)) ?_
    refine xT_iload_n g_q123 g123_10 (lkN (by decide) (lkN (by decide) (rfl))) ?_
    refine xT_iload_n g_q123 g123_11 (lkY) ?_
    refine xT_invokestatic (r := []) (u := some (.inl (nI (leapN y 0)))) g_q123 g123_12 (j := 80) (so := 3) (by decide +kernel) g_q80 (rfl) (t80_0 hy) ?_
    refine xT_ifCondN g_q123 g123_15 (t := 24) (by decide) (c0N (b := 0) (by omega) (by omega) (by omega)) ?_
    refine xT_icV (y := nI (1)) g_q123 g123_18 (by decide) ?_
    refine xT_iload_n g_q123 g123_19 (lkY) ?_
    refine xT_ishlV (y := nI (1)) g_q123 g123_20 (by decide) ?_
    refine xT_goto g_q123 g123_21 (t := 25) (by decide) ?_
    refine xT_iorV (y := nI (1)) g_q123 g123_25 (by decide) ?_
    refine xT_istore_n g_q123 g123_26 (by decide) ?_
    refine xT_iincV (y := nI (1)) g_q123 g123_27 (lkN (by decide) (lkY)) (by decide) (by decide) ?_
    refine xT_goto g_q123 g123_30 (t := 4) (by decide) ?_
    refine xT_iload_n g_q123 g123_4 (lkY) ?_
    refine xT_icV (y := nI (3)) g_q123 g123_5 (by decide) ?_
    refine xT_if_icmpN g_q123 g123_6 (t := 33) (by decide) (c3N (a := 1) (b := 3) (by omega) (by omega) (by omega)) ?_
    refine xT_iload_n g_q123 g123_9 (lkN (by decide) (lkY)) ?_
    refine xT_iload_n g_q123 g123_10 (lkN (by decide) (lkN (by decide) (lkN (by decide) (lkN (by decide) (rfl))))) ?_
    refine xT_iload_n g_q123 g123_11 (lkY) ?_
    refine xT_invokestatic (r := []) (u := some (.inl (nI (leapN y 1)))) g_q123 g123_12 (j := 80) (so := 3) (by decide +kernel) g_q80 (rfl) (t80_1 hy) ?_
    refine xT_ifCondN g_q123 g123_15 (t := 24) (by decide) (c0N (b := 0) (by omega) (by omega) (by omega)) ?_
    refine xT_icV (y := nI (1)) g_q123 g123_18 (by decide) ?_
    refine xT_iload_n g_q123 g123_19 (lkY) ?_
    refine xT_ishlV (y := nI (2)) g_q123 g123_20 (by decide) ?_
    refine xT_goto g_q123 g123_21 (t := 25) (by decide) ?_
    refine xT_iorV (y := nI (3)) g_q123 g123_25 (by decide) ?_
    refine xT_istore_n g_q123 g123_26 (by decide) ?_
    refine xT_iincV (y := nI (2)) g_q123 g123_27 (lkN (by decide) (lkY)) (by decide) (by decide) ?_
    refine xT_goto g_q123 g123_30 (t := 4) (by decide) ?_
    refine xT_iload_n g_q123 g123_4 (lkY) ?_
    refine xT_icV (y := nI (3)) g_q123 g123_5 (by decide) ?_
    refine xT_if_icmpN g_q123 g123_6 (t := 33) (by decide) (c3N (a := 2) (b := 3) (by omega) (by omega) (by omega)) ?_
    refine xT_iload_n g_q123 g123_9 (lkN (by decide) (lkY)) ?_
    refine xT_iload_n g_q123 g123_10 (lkN (by decide) (lkN (by decide) (lkN (by decide) (lkN (by decide) (lkN (by decide) (lkN (by decide) (rfl))))))) ?_
    refine xT_iload_n g_q123 g123_11 (lkY) ?_
    refine xT_invokestatic (r := []) (u := some (.inl (nI (leapN y 2)))) g_q123 g123_12 (j := 80) (so := 3) (by decide +kernel) g_q80 (rfl) (t80_2 hy) ?_
    refine xT_ifCondY g_q123 g123_15 (t := 24) (by decide) (c0Y (b := 0) (by omega)) ?_
    refine xT_icV (y := nI (0)) g_q123 g123_24 (by decide) ?_
    refine xT_iorV (y := nI (3)) g_q123 g123_25 (by decide) ?_
    refine xT_istore_n g_q123 g123_26 (by decide) ?_
    refine xT_iincV (y := nI (3)) g_q123 g123_27 (lkN (by decide) (lkY)) (by decide) (by decide) ?_
    refine xT_goto g_q123 g123_30 (t := 4) (by decide) ?_
    refine xT_iload_n g_q123 g123_4 (lkY) ?_
    refine xT_icV (y := nI (3)) g_q123 g123_5 (by decide) ?_
    refine xT_if_icmpY g_q123 g123_6 (t := 33) (by decide) (c3Y (a := 3) (b := 3) (by omega) (by omega) (by omega)) ?_
    refine xT_iload_n g_q123 g123_33 (lkN (by decide) (lkY)) ?_
    exact xT_ireturn g_q123 g123_34 (rfl)
  · rw [show lrN y = 7 from by
      unfold lrN
      omega]
    refine xT_icV (y := nI (0)) g_q123 g123_0 (by decide) ?_
    refine xT_istore_n g_q123 g123_1 (by decide) ?_
    refine xT_icV (y := nI (0)) g_q123 g123_2 (by decide) ?_
    refine xT_istore_n g_q123 g123_3 (by decide) ?_
    refine xT_iload_n g_q123 g123_4 (lkY) ?_
    refine xT_icV (y := nI (3)) g_q123 g123_5 (by decide) ?_
    refine xT_if_icmpN g_q123 g123_6 (t := 33) (by decide) (c3N (a := 0) (b := 3) (by omega) (by omega) (by omega)) ?_
    refine xT_iload_n g_q123 g123_9 (lkN (by decide) (lkY)) ?_
    refine xT_iload_n g_q123 g123_10 (lkN (by decide) (lkN (by decide) (rfl))) ?_
    refine xT_iload_n g_q123 g123_11 (lkY) ?_
    refine xT_invokestatic (r := []) (u := some (.inl (nI (leapN y 0)))) g_q123 g123_12 (j := 80) (so := 3) (by decide +kernel) g_q80 (rfl) (t80_0 hy) ?_
    refine xT_ifCondN g_q123 g123_15 (t := 24) (by decide) (c0N (b := 0) (by omega) (by omega) (by omega)) ?_
    refine xT_icV (y := nI (1)) g_q123 g123_18 (by decide) ?_
    refine xT_iload_n g_q123 g123_19 (lkY) ?_
    refine xT_ishlV (y := nI (1)) g_q123 g123_20 (by decide) ?_
    refine xT_goto g_q123 g123_21 (t := 25) (by decide) ?_
    refine xT_iorV (y := nI (1)) g_q123 g123_25 (by decide) ?_
    refine xT_istore_n g_q123 g123_26 (by decide) ?_
    refine xT_iincV (y := nI (1)) g_q123 g123_27 (lkN (by decide) (lkY)) (by decide) (by decide) ?_
    refine xT_goto g_q123 g123_30 (t := 4) (by decide) ?_
    refine xT_iload_n g_q123 g123_4 (lkY) ?_
    refine xT_icV (y := nI (3)) g_q123 g123_5 (by decide) ?_
    refine xT_if_icmpN g_q123 g123_6 (t := 33) (by decide) (c3N (a := 1) (b := 3) (by omega) (by omega) (by omega)) ?_
    refine xT_iload_n g_q123 g123_9 (lkN (by decide) (lkY)) ?_
    refine xT_iload_n g_q123 g123_10 (lkN (by decide) (lkN (by decide) (lkN (by decide) (lkN (by decide) (rfl))))) ?_
    refine xT_iload_n g_q123 g123_11 (lkY) ?_
    refine xT_invokestatic (r := []) (u := some (.inl (nI (leapN y 1)))) g_q123 g123_12 (j := 80) (so := 3) (by decide +kernel) g_q80 (rfl) (t80_1 hy) ?_
    refine xT_ifCondN g_q123 g123_15 (t := 24) (by decide) (c0N (b := 0) (by omega) (by omega) (by omega)) ?_
    refine xT_icV (y := nI (1)) g_q123 g123_18 (by decide) ?_
    refine xT_iload_n g_q123 g123_19 (lkY) ?_
    refine xT_ishlV (y := nI (2)) g_q123 g123_20 (by decide) ?_
    refine xT_goto g_q123 g123_21 (t := 25) (by decide) ?_
    refine xT_iorV (y := nI (3)) g_q123 g123_25 (by decide) ?_
    refine xT_istore_n g_q123 g123_26 (by decide) ?_
    refine xT_iincV (y := nI (2)) g_q123 g123_27 (lkN (by decide) (lkY)) (by decide) (by decide) ?_
    refine xT_goto g_q123 g123_30 (t := 4) (by decide) ?_
    refine xT_iload_n g_q123 g123_4 (lkY) ?_
    refine xT_icV (y := nI (3)) g_q123 g123_5 (by decide) ?_
    refine xT_if_icmpN g_q123 g123_6 (t := 33) (by decide) (c3N (a := 2) (b := 3) (by omega) (by omega) (by omega)) ?_
    refine xT_iload_n g_q123 g123_9 (lkN (by decide) (lkY)) ?_
    refine xT_iload_n g_q123 g123_10 (lkN (by decide) (lkN (by decide) (lkN (by decide) (lkN (by decide) (lkN (by decide) (lkN (by decide) (rfl))))))) ?_
    refine xT_iload_n g_q123 g123_11 (lkY) ?_
    refine xT_invokestatic (r := []) (u := some (.inl (nI (leapN y 2)))) g_q123 g123_12 (j := 80) (so := 3) (by decide +kernel) g_q80 (rfl) (t80_2 hy) ?_
    refine xT_ifCondN g_q123 g123_15 (t := 24) (by decide) (c0N (b := 0) (by omega) (by omega) (by omega)) ?_
    refine xT_icV (y := nI (1)) g_q123 g123_18 (by decide) ?_
    refine xT_iload_n g_q123 g123_19 (lkY) ?_
    refine xT_ishlV (y := nI (4)) g_q123 g123_20 (by decide) ?_
    refine xT_goto g_q123 g123_21 (t := 25) (by decide) ?_
    refine xT_iorV (y := nI (7)) g_q123 g123_25 (by decide) ?_
    refine xT_istore_n g_q123 g123_26 (by decide) ?_
    refine xT_iincV (y := nI (3)) g_q123 g123_27 (lkN (by decide) (lkY)) (by decide) (by decide) ?_
    refine xT_goto g_q123 g123_30 (t := 4) (by decide) ?_
    refine xT_iload_n g_q123 g123_4 (lkY) ?_
    refine xT_icV (y := nI (3)) g_q123 g123_5 (by decide) ?_
    refine xT_if_icmpY g_q123 g123_6 (t := 33) (by decide) (c3Y (a := 3) (b := 3) (by omega) (by omega) (by omega)) ?_
    refine xT_iload_n g_q123 g123_33 (lkN (by decide) (lkY)) ?_
    exact xT_ireturn g_q123 g123_34 (rfl)

def popN (a : Nat) : Nat := a % 2 + a / 2 % 2 + a / 4 % 2
def bcE (x : Int32) : Int32 := x_bin 3 (x_bin 0 (x_bin 0 (x_bin 3 (x_bin 0 (x_bin 0 (x_bin 3 (x_bin 1 (x) (x_bin 3 (x_bin 10 (x) (nI (1))) (dKc dC 1431655765))) (dKc dC 858993459)) (x_bin 3 (x_bin 10 (x_bin 1 (x) (x_bin 3 (x_bin 10 (x) (nI (1))) (dKc dC 1431655765))) (nI (2))) (dKc dC 858993459))) (x_bin 10 (x_bin 0 (x_bin 3 (x_bin 1 (x) (x_bin 3 (x_bin 10 (x) (nI (1))) (dKc dC 1431655765))) (dKc dC 858993459)) (x_bin 3 (x_bin 10 (x_bin 1 (x) (x_bin 3 (x_bin 10 (x) (nI (1))) (dKc dC 1431655765))) (nI (2))) (dKc dC 858993459))) (nI (4)))) (dKc dC 252645135)) (x_bin 10 (x_bin 3 (x_bin 0 (x_bin 0 (x_bin 3 (x_bin 1 (x) (x_bin 3 (x_bin 10 (x) (nI (1))) (dKc dC 1431655765))) (dKc dC 858993459)) (x_bin 3 (x_bin 10 (x_bin 1 (x) (x_bin 3 (x_bin 10 (x) (nI (1))) (dKc dC 1431655765))) (nI (2))) (dKc dC 858993459))) (x_bin 10 (x_bin 0 (x_bin 3 (x_bin 1 (x) (x_bin 3 (x_bin 10 (x) (nI (1))) (dKc dC 1431655765))) (dKc dC 858993459)) (x_bin 3 (x_bin 10 (x_bin 1 (x) (x_bin 3 (x_bin 10 (x) (nI (1))) (dKc dC 1431655765))) (nI (2))) (dKc dC 858993459))) (nI (4)))) (dKc dC 252645135)) (nI (8)))) (x_bin 10 (x_bin 0 (x_bin 3 (x_bin 0 (x_bin 0 (x_bin 3 (x_bin 1 (x) (x_bin 3 (x_bin 10 (x) (nI (1))) (dKc dC 1431655765))) (dKc dC 858993459)) (x_bin 3 (x_bin 10 (x_bin 1 (x) (x_bin 3 (x_bin 10 (x) (nI (1))) (dKc dC 1431655765))) (nI (2))) (dKc dC 858993459))) (x_bin 10 (x_bin 0 (x_bin 3 (x_bin 1 (x) (x_bin 3 (x_bin 10 (x) (nI (1))) (dKc dC 1431655765))) (dKc dC 858993459)) (x_bin 3 (x_bin 10 (x_bin 1 (x) (x_bin 3 (x_bin 10 (x) (nI (1))) (dKc dC 1431655765))) (nI (2))) (dKc dC 858993459))) (nI (4)))) (dKc dC 252645135)) (x_bin 10 (x_bin 3 (x_bin 0 (x_bin 0 (x_bin 3 (x_bin 1 (x) (x_bin 3 (x_bin 10 (x) (nI (1))) (dKc dC 1431655765))) (dKc dC 858993459)) (x_bin 3 (x_bin 10 (x_bin 1 (x) (x_bin 3 (x_bin 10 (x) (nI (1))) (dKc dC 1431655765))) (nI (2))) (dKc dC 858993459))) (x_bin 10 (x_bin 0 (x_bin 3 (x_bin 1 (x) (x_bin 3 (x_bin 10 (x) (nI (1))) (dKc dC 1431655765))) (dKc dC 858993459)) (x_bin 3 (x_bin 10 (x_bin 1 (x) (x_bin 3 (x_bin 10 (x) (nI (1))) (dKc dC 1431655765))) (nI (2))) (dKc dC 858993459))) (nI (4)))) (dKc dC 252645135)) (nI (8)))) (nI (16)))) (nI (63))
theorem bc_x (x : Int32) : x_To x_tb x_tyl ot dp 126 0 (x_en 0 [.inl x]) [] H 0 0 (some (.inl (bcE x))) H := by
  refine xT_iload_n g_q126 g126_0 (rfl) ?_
  refine xT_iload_n g_q126 g126_1 (rfl) ?_
  refine xT_icV (y := nI (1)) g_q126 g126_2 (by decide) ?_
  refine xT_iushrV (y := x_bin 10 (x) (nI (1))) g_q126 g126_3 (rfl) ?_
  refine xT_ldc_w (x := 1431655765) g_q126 g126_4 (by decide +kernel) ?_
  refine xT_iandV (y := x_bin 3 (x_bin 10 (x) (nI (1))) (dKc dC 1431655765)) g_q126 g126_7 (rfl) ?_
  refine xT_isubV (y := x_bin 1 (x) (x_bin 3 (x_bin 10 (x) (nI (1))) (dKc dC 1431655765))) g_q126 g126_8 (rfl) ?_
  refine xT_istore_n g_q126 g126_9 (by decide) ?_
  refine xT_iload_n g_q126 g126_10 (lkY) ?_
  refine xT_ldc_w (x := 858993459) g_q126 g126_11 (by decide +kernel) ?_
  refine xT_iandV (y := x_bin 3 (x_bin 1 (x) (x_bin 3 (x_bin 10 (x) (nI (1))) (dKc dC 1431655765))) (dKc dC 858993459)) g_q126 g126_14 (rfl) ?_
  refine xT_iload_n g_q126 g126_15 (lkY) ?_
  refine xT_icV (y := nI (2)) g_q126 g126_16 (by decide) ?_
  refine xT_iushrV (y := x_bin 10 (x_bin 1 (x) (x_bin 3 (x_bin 10 (x) (nI (1))) (dKc dC 1431655765))) (nI (2))) g_q126 g126_17 (rfl) ?_
  refine xT_ldc_w (x := 858993459) g_q126 g126_18 (by decide +kernel) ?_
  refine xT_iandV (y := x_bin 3 (x_bin 10 (x_bin 1 (x) (x_bin 3 (x_bin 10 (x) (nI (1))) (dKc dC 1431655765))) (nI (2))) (dKc dC 858993459)) g_q126 g126_21 (rfl) ?_
  refine xT_iaddV (y := x_bin 0 (x_bin 3 (x_bin 1 (x) (x_bin 3 (x_bin 10 (x) (nI (1))) (dKc dC 1431655765))) (dKc dC 858993459)) (x_bin 3 (x_bin 10 (x_bin 1 (x) (x_bin 3 (x_bin 10 (x) (nI (1))) (dKc dC 1431655765))) (nI (2))) (dKc dC 858993459))) g_q126 g126_22 (rfl) ?_
  refine xT_istore_n g_q126 g126_23 (by decide) ?_
  refine xT_iload_n g_q126 g126_24 (lkY) ?_
  refine xT_iload_n g_q126 g126_25 (lkY) ?_
  refine xT_icV (y := nI (4)) g_q126 g126_26 (by decide) ?_
  refine xT_iushrV (y := x_bin 10 (x_bin 0 (x_bin 3 (x_bin 1 (x) (x_bin 3 (x_bin 10 (x) (nI (1))) (dKc dC 1431655765))) (dKc dC 858993459)) (x_bin 3 (x_bin 10 (x_bin 1 (x) (x_bin 3 (x_bin 10 (x) (nI (1))) (dKc dC 1431655765))) (nI (2))) (dKc dC 858993459))) (nI (4))) g_q126 g126_27 (rfl) ?_
  refine xT_iaddV (y := x_bin 0 (x_bin 0 (x_bin 3 (x_bin 1 (x) (x_bin 3 (x_bin 10 (x) (nI (1))) (dKc dC 1431655765))) (dKc dC 858993459)) (x_bin 3 (x_bin 10 (x_bin 1 (x) (x_bin 3 (x_bin 10 (x) (nI (1))) (dKc dC 1431655765))) (nI (2))) (dKc dC 858993459))) (x_bin 10 (x_bin 0 (x_bin 3 (x_bin 1 (x) (x_bin 3 (x_bin 10 (x) (nI (1))) (dKc dC 1431655765))) (dKc dC 858993459)) (x_bin 3 (x_bin 10 (x_bin 1 (x) (x_bin 3 (x_bin 10 (x) (nI (1))) (dKc dC 1431655765))) (nI (2))) (dKc dC 858993459))) (nI (4)))) g_q126 g126_28 (rfl) ?_
  refine xT_ldc_w (x := 252645135) g_q126 g126_29 (by decide +kernel) ?_
  refine xT_iandV (y := x_bin 3 (x_bin 0 (x_bin 0 (x_bin 3 (x_bin 1 (x) (x_bin 3 (x_bin 10 (x) (nI (1))) (dKc dC 1431655765))) (dKc dC 858993459)) (x_bin 3 (x_bin 10 (x_bin 1 (x) (x_bin 3 (x_bin 10 (x) (nI (1))) (dKc dC 1431655765))) (nI (2))) (dKc dC 858993459))) (x_bin 10 (x_bin 0 (x_bin 3 (x_bin 1 (x) (x_bin 3 (x_bin 10 (x) (nI (1))) (dKc dC 1431655765))) (dKc dC 858993459)) (x_bin 3 (x_bin 10 (x_bin 1 (x) (x_bin 3 (x_bin 10 (x) (nI (1))) (dKc dC 1431655765))) (nI (2))) (dKc dC 858993459))) (nI (4)))) (dKc dC 252645135)) g_q126 g126_32 (rfl) ?_
  refine xT_istore_n g_q126 g126_33 (by decide) ?_
  refine xT_iload_n g_q126 g126_34 (lkY) ?_
  refine xT_iload_n g_q126 g126_35 (lkY) ?_
  refine xT_biV (y := nI (8)) g_q126 g126_36 (by decide) ?_
  refine xT_iushrV (y := x_bin 10 (x_bin 3 (x_bin 0 (x_bin 0 (x_bin 3 (x_bin 1 (x) (x_bin 3 (x_bin 10 (x) (nI (1))) (dKc dC 1431655765))) (dKc dC 858993459)) (x_bin 3 (x_bin 10 (x_bin 1 (x) (x_bin 3 (x_bin 10 (x) (nI (1))) (dKc dC 1431655765))) (nI (2))) (dKc dC 858993459))) (x_bin 10 (x_bin 0 (x_bin 3 (x_bin 1 (x) (x_bin 3 (x_bin 10 (x) (nI (1))) (dKc dC 1431655765))) (dKc dC 858993459)) (x_bin 3 (x_bin 10 (x_bin 1 (x) (x_bin 3 (x_bin 10 (x) (nI (1))) (dKc dC 1431655765))) (nI (2))) (dKc dC 858993459))) (nI (4)))) (dKc dC 252645135)) (nI (8))) g_q126 g126_38 (rfl) ?_
  refine xT_iaddV (y := x_bin 0 (x_bin 3 (x_bin 0 (x_bin 0 (x_bin 3 (x_bin 1 (x) (x_bin 3 (x_bin 10 (x) (nI (1))) (dKc dC 1431655765))) (dKc dC 858993459)) (x_bin 3 (x_bin 10 (x_bin 1 (x) (x_bin 3 (x_bin 10 (x) (nI (1))) (dKc dC 1431655765))) (nI (2))) (dKc dC 858993459))) (x_bin 10 (x_bin 0 (x_bin 3 (x_bin 1 (x) (x_bin 3 (x_bin 10 (x) (nI (1))) (dKc dC 1431655765))) (dKc dC 858993459)) (x_bin 3 (x_bin 10 (x_bin 1 (x) (x_bin 3 (x_bin 10 (x) (nI (1))) (dKc dC 1431655765))) (nI (2))) (dKc dC 858993459))) (nI (4)))) (dKc dC 252645135)) (x_bin 10 (x_bin 3 (x_bin 0 (x_bin 0 (x_bin 3 (x_bin 1 (x) (x_bin 3 (x_bin 10 (x) (nI (1))) (dKc dC 1431655765))) (dKc dC 858993459)) (x_bin 3 (x_bin 10 (x_bin 1 (x) (x_bin 3 (x_bin 10 (x) (nI (1))) (dKc dC 1431655765))) (nI (2))) (dKc dC 858993459))) (x_bin 10 (x_bin 0 (x_bin 3 (x_bin 1 (x) (x_bin 3 (x_bin 10 (x) (nI (1))) (dKc dC 1431655765))) (dKc dC 858993459)) (x_bin 3 (x_bin 10 (x_bin 1 (x) (x_bin 3 (x_bin 10 (x) (nI (1))) (dKc dC 1431655765))) (nI (2))) (dKc dC 858993459))) (nI (4)))) (dKc dC 252645135)) (nI (8)))) g_q126 g126_39 (rfl) ?_
  refine xT_istore_n g_q126 g126_40 (by decide) ?_
  refine xT_iload_n g_q126 g126_41 (lkY) ?_
  refine xT_iload_n g_q126 g126_42 (lkY) ?_
  refine xT_biV (y := nI (16)) g_q126 g126_43 (by decide) ?_
  refine xT_iushrV (y := x_bin 10 (x_bin 0 (x_bin 3 (x_bin 0 (x_bin 0 (x_bin 3 (x_bin 1 (x) (x_bin 3 (x_bin 10 (x) (nI (1))) (dKc dC 1431655765))) (dKc dC 858993459)) (x_bin 3 (x_bin 10 (x_bin 1 (x) (x_bin 3 (x_bin 10 (x) (nI (1))) (dKc dC 1431655765))) (nI (2))) (dKc dC 858993459))) (x_bin 10 (x_bin 0 (x_bin 3 (x_bin 1 (x) (x_bin 3 (x_bin 10 (x) (nI (1))) (dKc dC 1431655765))) (dKc dC 858993459)) (x_bin 3 (x_bin 10 (x_bin 1 (x) (x_bin 3 (x_bin 10 (x) (nI (1))) (dKc dC 1431655765))) (nI (2))) (dKc dC 858993459))) (nI (4)))) (dKc dC 252645135)) (x_bin 10 (x_bin 3 (x_bin 0 (x_bin 0 (x_bin 3 (x_bin 1 (x) (x_bin 3 (x_bin 10 (x) (nI (1))) (dKc dC 1431655765))) (dKc dC 858993459)) (x_bin 3 (x_bin 10 (x_bin 1 (x) (x_bin 3 (x_bin 10 (x) (nI (1))) (dKc dC 1431655765))) (nI (2))) (dKc dC 858993459))) (x_bin 10 (x_bin 0 (x_bin 3 (x_bin 1 (x) (x_bin 3 (x_bin 10 (x) (nI (1))) (dKc dC 1431655765))) (dKc dC 858993459)) (x_bin 3 (x_bin 10 (x_bin 1 (x) (x_bin 3 (x_bin 10 (x) (nI (1))) (dKc dC 1431655765))) (nI (2))) (dKc dC 858993459))) (nI (4)))) (dKc dC 252645135)) (nI (8)))) (nI (16))) g_q126 g126_45 (rfl) ?_
  refine xT_iaddV (y := x_bin 0 (x_bin 0 (x_bin 3 (x_bin 0 (x_bin 0 (x_bin 3 (x_bin 1 (x) (x_bin 3 (x_bin 10 (x) (nI (1))) (dKc dC 1431655765))) (dKc dC 858993459)) (x_bin 3 (x_bin 10 (x_bin 1 (x) (x_bin 3 (x_bin 10 (x) (nI (1))) (dKc dC 1431655765))) (nI (2))) (dKc dC 858993459))) (x_bin 10 (x_bin 0 (x_bin 3 (x_bin 1 (x) (x_bin 3 (x_bin 10 (x) (nI (1))) (dKc dC 1431655765))) (dKc dC 858993459)) (x_bin 3 (x_bin 10 (x_bin 1 (x) (x_bin 3 (x_bin 10 (x) (nI (1))) (dKc dC 1431655765))) (nI (2))) (dKc dC 858993459))) (nI (4)))) (dKc dC 252645135)) (x_bin 10 (x_bin 3 (x_bin 0 (x_bin 0 (x_bin 3 (x_bin 1 (x) (x_bin 3 (x_bin 10 (x) (nI (1))) (dKc dC 1431655765))) (dKc dC 858993459)) (x_bin 3 (x_bin 10 (x_bin 1 (x) (x_bin 3 (x_bin 10 (x) (nI (1))) (dKc dC 1431655765))) (nI (2))) (dKc dC 858993459))) (x_bin 10 (x_bin 0 (x_bin 3 (x_bin 1 (x) (x_bin 3 (x_bin 10 (x) (nI (1))) (dKc dC 1431655765))) (dKc dC 858993459)) (x_bin 3 (x_bin 10 (x_bin 1 (x) (x_bin 3 (x_bin 10 (x) (nI (1))) (dKc dC 1431655765))) (nI (2))) (dKc dC 858993459))) (nI (4)))) (dKc dC 252645135)) (nI (8)))) (x_bin 10 (x_bin 0 (x_bin 3 (x_bin 0 (x_bin 0 (x_bin 3 (x_bin 1 (x) (x_bin 3 (x_bin 10 (x) (nI (1))) (dKc dC 1431655765))) (dKc dC 858993459)) (x_bin 3 (x_bin 10 (x_bin 1 (x) (x_bin 3 (x_bin 10 (x) (nI (1))) (dKc dC 1431655765))) (nI (2))) (dKc dC 858993459))) (x_bin 10 (x_bin 0 (x_bin 3 (x_bin 1 (x) (x_bin 3 (x_bin 10 (x) (nI (1))) (dKc dC 1431655765))) (dKc dC 858993459)) (x_bin 3 (x_bin 10 (x_bin 1 (x) (x_bin 3 (x_bin 10 (x) (nI (1))) (dKc dC 1431655765))) (nI (2))) (dKc dC 858993459))) (nI (4)))) (dKc dC 252645135)) (x_bin 10 (x_bin 3 (x_bin 0 (x_bin 0 (x_bin 3 (x_bin 1 (x) (x_bin 3 (x_bin 10 (x) (nI (1))) (dKc dC 1431655765))) (dKc dC 858993459)) (x_bin 3 (x_bin 10 (x_bin 1 (x) (x_bin 3 (x_bin 10 (x) (nI (1))) (dKc dC 1431655765))) (nI (2))) (dKc dC 858993459))) (x_bin 10 (x_bin 0 (x_bin 3 (x_bin 1 (x) (x_bin 3 (x_bin 10 (x) (nI (1))) (dKc dC 1431655765))) (dKc dC 858993459)) (x_bin 3 (x_bin 10 (x_bin 1 (x) (x_bin 3 (x_bin 10 (x) (nI (1))) (dKc dC 1431655765))) (nI (2))) (dKc dC 858993459))) (nI (4)))) (dKc dC 252645135)) (nI (8)))) (nI (16)))) g_q126 g126_46 (rfl) ?_
  refine xT_istore_n g_q126 g126_47 (by decide) ?_
  refine xT_iload_n g_q126 g126_48 (lkY) ?_
  refine xT_biV (y := nI (63)) g_q126 g126_49 (by decide) ?_
  refine xT_iandV (y := x_bin 3 (x_bin 0 (x_bin 0 (x_bin 3 (x_bin 0 (x_bin 0 (x_bin 3 (x_bin 1 (x) (x_bin 3 (x_bin 10 (x) (nI (1))) (dKc dC 1431655765))) (dKc dC 858993459)) (x_bin 3 (x_bin 10 (x_bin 1 (x) (x_bin 3 (x_bin 10 (x) (nI (1))) (dKc dC 1431655765))) (nI (2))) (dKc dC 858993459))) (x_bin 10 (x_bin 0 (x_bin 3 (x_bin 1 (x) (x_bin 3 (x_bin 10 (x) (nI (1))) (dKc dC 1431655765))) (dKc dC 858993459)) (x_bin 3 (x_bin 10 (x_bin 1 (x) (x_bin 3 (x_bin 10 (x) (nI (1))) (dKc dC 1431655765))) (nI (2))) (dKc dC 858993459))) (nI (4)))) (dKc dC 252645135)) (x_bin 10 (x_bin 3 (x_bin 0 (x_bin 0 (x_bin 3 (x_bin 1 (x) (x_bin 3 (x_bin 10 (x) (nI (1))) (dKc dC 1431655765))) (dKc dC 858993459)) (x_bin 3 (x_bin 10 (x_bin 1 (x) (x_bin 3 (x_bin 10 (x) (nI (1))) (dKc dC 1431655765))) (nI (2))) (dKc dC 858993459))) (x_bin 10 (x_bin 0 (x_bin 3 (x_bin 1 (x) (x_bin 3 (x_bin 10 (x) (nI (1))) (dKc dC 1431655765))) (dKc dC 858993459)) (x_bin 3 (x_bin 10 (x_bin 1 (x) (x_bin 3 (x_bin 10 (x) (nI (1))) (dKc dC 1431655765))) (nI (2))) (dKc dC 858993459))) (nI (4)))) (dKc dC 252645135)) (nI (8)))) (x_bin 10 (x_bin 0 (x_bin 3 (x_bin 0 (x_bin 0 (x_bin 3 (x_bin 1 (x) (x_bin 3 (x_bin 10 (x) (nI (1))) (dKc dC 1431655765))) (dKc dC 858993459)) (x_bin 3 (x_bin 10 (x_bin 1 (x) (x_bin 3 (x_bin 10 (x) (nI (1))) (dKc dC 1431655765))) (nI (2))) (dKc dC 858993459))) (x_bin 10 (x_bin 0 (x_bin 3 (x_bin 1 (x) (x_bin 3 (x_bin 10 (x) (nI (1))) (dKc dC 1431655765))) (dKc dC 858993459)) (x_bin 3 (x_bin 10 (x_bin 1 (x) (x_bin 3 (x_bin 10 (x) (nI (1))) (dKc dC 1431655765))) (nI (2))) (dKc dC 858993459))) (nI (4)))) (dKc dC 252645135)) (x_bin 10 (x_bin 3 (x_bin 0 (x_bin 0 (x_bin 3 (x_bin 1 (x) (x_bin 3 (x_bin 10 (x) (nI (1))) (dKc dC 1431655765))) (dKc dC 858993459)) (x_bin 3 (x_bin 10 (x_bin 1 (x) (x_bin 3 (x_bin 10 (x) (nI (1))) (dKc dC 1431655765))) (nI (2))) (dKc dC 858993459))) (x_bin 10 (x_bin 0 (x_bin 3 (x_bin 1 (x) (x_bin 3 (x_bin 10 (x) (nI (1))) (dKc dC 1431655765))) (dKc dC 858993459)) (x_bin 3 (x_bin 10 (x_bin 1 (x) (x_bin 3 (x_bin 10 (x) (nI (1))) (dKc dC 1431655765))) (nI (2))) (dKc dC 858993459))) (nI (4)))) (dKc dC 252645135)) (nI (8)))) (nI (16)))) (nI (63))) g_q126 g126_51 (rfl) ?_
  exact xT_ireturn g_q126 g126_52 (rfl)
theorem b_pop : ∀ a, a < 8 → bcE (nI a) = nI (popN a) := by decide +kernel
theorem t126 {a : Nat} (ha : a < 8) : x_To x_tb x_tyl ot dp 126 0 (x_en 0 [.inl (nI a)]) [] H 0 0 (some (.inl (nI (popN a)))) H := by
  rw [← b_pop a ha]
  exact bc_x _
theorem b_and3 : ∀ a, a < 8 → ∀ b, b < 8 → x_bin 3 (nI a) (nI b) = nI (a &&& b) ∧ popN (a &&& b) ≤ popN a ∧ a &&& b < 8 ∧ popN a ≤ 3 := by decide +kernel
theorem lrN_lt (y : Nat) : lrN y < 8 := by
  unfold lrN
  rcases leapN_le y 0 with e0 | e0 <;> rcases leapN_le y 1 with e1 | e1 <;> rcases leapN_le y 2 with e2 | e2 <;> omega
def bitN (a s : Nat) : Nat := (a >>> s) &&& 1
theorem t48Y {a s : Nat} (ha : a < 8) (hs : s < 3) (h : bitN a s = 1) : x_To x_tb x_tyl ot dp 48 0 (x_en 0 [.inl (nI (a)), .inl (nI (s))]) [] H 0 0 (some (.inl (nI 1))) H := by
  refine xT_iload_n g_q48 g48_0 (rfl) ?_
  refine xT_ifCondN g_q48 g48_1 (t := 23) (by decide) (c2N (b := 0) (Nat.zero_le _) (by omega) (by omega)) ?_
  refine xT_iload_n g_q48 g48_4 (rfl) ?_
  refine xT_biV (y := nI (32)) g_q48 g48_5 (by decide) ?_
  refine xT_if_icmpN g_q48 g48_7 (t := 23) (by decide) (c3N (a := s) (b := 32) (by omega) (by omega) (by omega)) ?_
  refine xT_iload_n g_q48 g48_10 (rfl) ?_
  refine xT_iload_n g_q48 g48_11 (rfl) ?_
  refine xT_ishrV (y := x_bin 7 (nI (a)) (nI (s))) g_q48 g48_12 (rfl) ?_
  refine xT_icV (y := nI (1)) g_q48 g48_13 (by decide) ?_
  refine xT_iandV (y := x_bin 3 (x_bin 7 (nI (a)) (nI (s))) (nI (1))) g_q48 g48_14 (rfl) ?_
  refine xT_icV (y := nI (1)) g_q48 g48_15 (by decide) ?_
  refine xT_if_icmpN g_q48 g48_16 (t := 23) (by decide) (b_bitY (by omega) (by omega) h) ?_
  refine xT_icV (y := nI (1)) g_q48 g48_19 (by decide) ?_
  refine xT_goto g_q48 g48_20 (t := 24) (by decide) ?_
  exact xT_ireturn g_q48 g48_24 (by decide +kernel)
theorem t48N {a s : Nat} (ha : a < 8) (hs : s < 3) (h : ¬ bitN a s = 1) : x_To x_tb x_tyl ot dp 48 0 (x_en 0 [.inl (nI (a)), .inl (nI (s))]) [] H 0 0 (some (.inl (nI 0))) H := by
  refine xT_iload_n g_q48 g48_0 (rfl) ?_
  refine xT_ifCondN g_q48 g48_1 (t := 23) (by decide) (c2N (b := 0) (Nat.zero_le _) (by omega) (by omega)) ?_
  refine xT_iload_n g_q48 g48_4 (rfl) ?_
  refine xT_biV (y := nI (32)) g_q48 g48_5 (by decide) ?_
  refine xT_if_icmpN g_q48 g48_7 (t := 23) (by decide) (c3N (a := s) (b := 32) (by omega) (by omega) (by omega)) ?_
  refine xT_iload_n g_q48 g48_10 (rfl) ?_
  refine xT_iload_n g_q48 g48_11 (rfl) ?_
  refine xT_ishrV (y := x_bin 7 (nI (a)) (nI (s))) g_q48 g48_12 (rfl) ?_
  refine xT_icV (y := nI (1)) g_q48 g48_13 (by decide) ?_
  refine xT_iandV (y := x_bin 3 (x_bin 7 (nI (a)) (nI (s))) (nI (1))) g_q48 g48_14 (rfl) ?_
  refine xT_icV (y := nI (1)) g_q48 g48_15 (by decide) ?_
  refine xT_if_icmpY g_q48 g48_16 (t := 23) (by decide) (b_bitN (by omega) (by omega) h) ?_
  refine xT_icV (y := nI (0)) g_q48 g48_23 (by decide) ?_
  exact xT_ireturn g_q48 g48_24 (by decide +kernel)
end XH250
