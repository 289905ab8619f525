/-! p33 by hand, 0. -/
noncomputable section XH33_0
variable {ot : XO Int32} {dp : Nat} {H H0 : List (XC Int32)}
def fmI (x : Int32) : Int32 := if x_bin 5 x (nI 100) < 0 ∧ ¬ (x_bin 9 x (nI 100)) = 0 then x_bin 0 (x_bin 9 x (nI 100)) (nI 100) else (x_bin 9 x (nI 100))
theorem t71 {x : Int32} : x_To x_tb x_tyl ot dp 71 0 (x_en 0 [.inl (x), .inl (nI (100))]) [] H 0 0 (some (.inl (fmI x))) H := by
  by_cases h1 : x_bin 5 x (nI 100) < 0
  rotate_left
  · rw [show fmI x = (x_bin 9 x (nI 100)) from if_neg (fun z => h1 z.1)]
    have h1 : 0 ≤ x_bin 5 x (nI 100) := Int32.not_lt.mp h1
    refine xT_iload_n g_q71 g71_0 (rfl) ?_
    refine xT_iload_n g_q71 g71_1 (rfl) ?_
    refine xT_iremV (y := x_bin 9 (x) (nI (100))) g_q71 g71_2 (by decide) (rfl) ?_
    refine xT_istore_n g_q71 g71_3 (by decide) ?_
    refine xT_iload_n g_q71 g71_4 (lkN (by decide) (rfl)) ?_
    refine xT_iload_n g_q71 g71_5 (lkN (by decide) (rfl)) ?_
    refine xT_ixorV (y := x_bin 5 (x) (nI (100))) g_q71 g71_6 (rfl) ?_
    refine xT_ifCondY g_q71 g71_7 (t := 18) (by decide) (decide_eq_true h1) ?_
    refine xT_iload_n g_q71 g71_18 (lkY) ?_
    exact xT_ireturn g_q71 g71_19 (rfl)
  · have h1n : ¬ (0 : Int32) ≤ x_bin 5 x (nI 100) := Int32.not_le.mpr h1
    by_cases h2 : (x_bin 9 x (nI 100)) = 0
    · rw [show fmI x = (x_bin 9 x (nI 100)) from if_neg (fun z => z.2 h2)]
      refine xT_iload_n g_q71 g71_0 (rfl) ?_
      refine xT_iload_n g_q71 g71_1 (rfl) ?_
      refine xT_iremV (y := x_bin 9 (x) (nI (100))) g_q71 g71_2 (by decide) (rfl) ?_
      refine xT_istore_n g_q71 g71_3 (by decide) ?_
      refine xT_iload_n g_q71 g71_4 (lkN (by decide) (rfl)) ?_
      refine xT_iload_n g_q71 g71_5 (lkN (by decide) (rfl)) ?_
      refine xT_ixorV (y := x_bin 5 (x) (nI (100))) g_q71 g71_6 (rfl) ?_
      refine xT_ifCondN g_q71 g71_7 (t := 18) (by decide) (decide_eq_false h1n) ?_
      refine xT_iload_n g_q71 g71_10 (lkY) ?_
      refine xT_ifCondY g_q71 g71_11 (t := 18) (by decide) (decide_eq_true h2) ?_
      refine xT_iload_n g_q71 g71_18 (lkY) ?_
      exact xT_ireturn g_q71 g71_19 (rfl)
    · rw [show fmI x = x_bin 0 (x_bin 9 x (nI 100)) (nI 100) from if_pos ⟨h1, h2⟩]
      refine xT_iload_n g_q71 g71_0 (rfl) ?_
      refine xT_iload_n g_q71 g71_1 (rfl) ?_
      refine xT_iremV (y := x_bin 9 (x) (nI (100))) g_q71 g71_2 (by decide) (rfl) ?_
      refine xT_istore_n g_q71 g71_3 (by decide) ?_
      refine xT_iload_n g_q71 g71_4 (lkN (by decide) (rfl)) ?_
      refine xT_iload_n g_q71 g71_5 (lkN (by decide) (rfl)) ?_
      refine xT_ixorV (y := x_bin 5 (x) (nI (100))) g_q71 g71_6 (rfl) ?_
      refine xT_ifCondN g_q71 g71_7 (t := 18) (by decide) (decide_eq_false h1n) ?_
      refine xT_iload_n g_q71 g71_10 (lkY) ?_
      refine xT_ifCondN g_q71 g71_11 (t := 18) (by decide) (decide_eq_false h2) ?_
      refine xT_iload_n g_q71 g71_14 (lkY) ?_
      refine xT_iload_n g_q71 g71_15 (lkN (by decide) (rfl)) ?_
      refine xT_iaddV (y := x_bin 0 (x_bin 9 (x) (nI (100))) (nI (100))) g_q71 g71_16 (rfl) ?_
      exact xT_ireturn g_q71 g71_17 (rfl)
end XH33_0
/-! p33 by hand, 1. -/
noncomputable section XH33_1
variable {ot : XO Int32} {dp : Nat} {H H0 : List (XC Int32)}
def lpB (r : Nat) (y : Int32) : Bool := decide (x_bin 9 y (nI 4) = 0) && (decide (r = 0) || decide (¬ x_bin 9 y (nI 100) = 0) || decide (x_bin 9 y (nI 400) = 0))
theorem lpB_0y {y : Int32} (h4 : x_bin 9 y (nI 4) = 0) : lpB 0 y = true := by
  unfold lpB
  rw [decide_eq_true h4]
  rfl
theorem lpB_n {r : Nat} {y : Int32} (h4 : ¬ x_bin 9 y (nI 4) = 0) : lpB r y = false := by
  unfold lpB
  rw [decide_eq_false h4]
  rfl
theorem lpB_1 {y : Int32} (h4 : x_bin 9 y (nI 4) = 0) (h1 : ¬ x_bin 9 y (nI 100) = 0) : lpB 2 y = true := by
  unfold lpB
  rw [decide_eq_true h4, decide_eq_true h1]
  rfl
theorem lpB_2 {y : Int32} (h4 : x_bin 9 y (nI 4) = 0) (h1 : x_bin 9 y (nI 100) = 0) (h2 : x_bin 9 y (nI 400) = 0) : lpB 2 y = true := by
  unfold lpB
  rw [decide_eq_true h4, decide_eq_true h2, decide_eq_false (fun z => z h1)]
  rfl
theorem lpB_3 {y : Int32} (h4 : x_bin 9 y (nI 4) = 0) (h1 : x_bin 9 y (nI 100) = 0) (h2 : ¬ x_bin 9 y (nI 400) = 0) : lpB 2 y = false := by
  unfold lpB
  rw [decide_eq_true h4, decide_eq_false h2, decide_eq_false (fun z => z h1)]
  rfl
end XH33_1
/-! p33 by hand, 2. -/
noncomputable section XH33_2
variable {ot : XO Int32} {dp : Nat} {H H0 : List (XC Int32)}
theorem t80_0 {y : Int32} : x_To x_tb x_tyl ot dp 80 0 (x_en 0 [.inl (y), .inl (nI (0))]) [] H 0 0 (some (.inl (nI (if lpB 0 y = true then 1 else 0)))) H := by
  by_cases h4 : x_bin 9 y (nI 4) = 0
  · rw [lpB_0y h4]
    refine xT_iload_n g_q80 g80_0 (rfl) ?_
    refine xT_icV (y := nI (4)) g_q80 g80_1 (by decide) ?_
    refine xT_iremV (y := x_bin 9 (y) (nI (4))) g_q80 g80_2 (by decide) (rfl) ?_
    refine xT_ifCondN g_q80 g80_3 (t := 10) (by decide) (decide_eq_false (fun z => z h4)) ?_
    refine xT_icV (y := nI (1)) g_q80 g80_6 (by decide) ?_
    refine xT_goto g_q80 g80_7 (t := 11) (by decide) ?_
    refine xT_istore_n g_q80 g80_11 (by decide) ?_
    refine xT_iload_n g_q80 g80_12 (lkN (by decide) (rfl)) ?_
    refine xT_lookupswitch g_q80 g80_13 (t := 40) (by decide) (by decide) (by decide) ?_
    refine xT_iload_n g_q80 g80_40 (lkY) ?_
    exact xT_ireturn g_q80 g80_41 (by decide +kernel)
  · rw [lpB_n h4]
    refine xT_iload_n g_q80 g80_0 (rfl) ?_
    refine xT_icV (y := nI (4)) g_q80 g80_1 (by decide) ?_
    refine xT_iremV (y := x_bin 9 (y) (nI (4))) g_q80 g80_2 (by decide) (rfl) ?_
    refine xT_ifCondY g_q80 g80_3 (t := 10) (by decide) (decide_eq_true h4) ?_
    refine xT_icV (y := nI (0)) g_q80 g80_10 (by decide) ?_
    refine xT_istore_n g_q80 g80_11 (by decide) ?_
    refine xT_iload_n g_q80 g80_12 (lkN (by decide) (rfl)) ?_
    refine xT_lookupswitch g_q80 g80_13 (t := 40) (by decide) (by decide) (by decide) ?_
    refine xT_iload_n g_q80 g80_40 (lkY) ?_
    exact xT_ireturn g_q80 g80_41 (by decide +kernel)
theorem t80_2 {y : Int32} : x_To x_tb x_tyl ot dp 80 0 (x_en 0 [.inl (y), .inl (nI (2))]) [] H 0 0 (some (.inl (nI (if lpB 2 y = true then 1 else 0)))) H := by
  by_cases h4 : x_bin 9 y (nI 4) = 0
  rotate_left
  · rw [lpB_n h4]
    refine xT_iload_n g_q80 g80_0 (rfl) ?_
    refine xT_icV (y := nI (4)) g_q80 g80_1 (by decide) ?_
    refine xT_iremV (y := x_bin 9 (y) (nI (4))) g_q80 g80_2 (by decide) (rfl) ?_
    refine xT_ifCondY g_q80 g80_3 (t := 10) (by decide) (decide_eq_true h4) ?_
    refine xT_icV (y := nI (0)) g_q80 g80_10 (by decide) ?_
    refine xT_istore_n g_q80 g80_11 (by decide) ?_
    refine xT_iload_n g_q80 g80_12 (lkN (by decide) (rfl)) ?_
    refine xT_lookupswitch g_q80 g80_13 (t := 59) (by decide) (by decide) (by decide) ?_
    refine xT_iload_n g_q80 g80_59 (lkY) ?_
    refine xT_ifCondY g_q80 g80_60 (t := 82) (by decide) (c0Y (b := 0) rfl) ?_
    refine xT_icV (y := nI (0)) g_q80 g80_82 (by decide) ?_
    exact xT_ireturn g_q80 g80_83 (by decide +kernel)
  by_cases h1 : x_bin 9 y (nI 100) = 0
  rotate_left
  · rw [lpB_1 h4 h1]
    refine xT_iload_n g_q80 g80_0 (rfl) ?_
    refine xT_icV (y := nI (4)) g_q80 g80_1 (by decide) ?_
    refine xT_iremV (y := x_bin 9 (y) (nI (4))) g_q80 g80_2 (by decide) (rfl) ?_
    refine xT_ifCondN g_q80 g80_3 (t := 10) (by decide) (decide_eq_false (fun z => z h4)) ?_
    refine xT_icV (y := nI (1)) g_q80 g80_6 (by decide) ?_
    refine xT_goto g_q80 g80_7 (t := 11) (by decide) ?_
    refine xT_istore_n g_q80 g80_11 (by decide) ?_
    refine xT_iload_n g_q80 g80_12 (lkN (by decide) (rfl)) ?_
    refine xT_lookupswitch g_q80 g80_13 (t := 59) (by decide) (by decide) (by decide) ?_
    refine xT_iload_n g_q80 g80_59 (lkY) ?_
    refine xT_ifCondN g_q80 g80_60 (t := 82) (by decide) (c0N (a := 1) (b := 0) (by omega) (by omega) (by omega)) ?_
    refine xT_iload_n g_q80 g80_63 (lkN (by decide) (rfl)) ?_
    refine xT_biV (y := nI (100)) g_q80 g80_64 (by decide) ?_
    refine xT_iremV (y := x_bin 9 (y) (nI (100))) g_q80 g80_66 (by decide) (rfl) ?_
    refine xT_ifCondY g_q80 g80_67 (t := 78) (by decide) (decide_eq_true h1) ?_
    refine xT_icV (y := nI (1)) g_q80 g80_78 (by decide) ?_
    refine xT_goto g_q80 g80_79 (t := 83) (by decide) ?_
    exact xT_ireturn g_q80 g80_83 (by decide +kernel)
  by_cases h2 : x_bin 9 y (nI 400) = 0
  · rw [lpB_2 h4 h1 h2]
    refine xT_iload_n g_q80 g80_0 (rfl) ?_
    refine xT_icV (y := nI (4)) g_q80 g80_1 (by decide) ?_
    refine xT_iremV (y := x_bin 9 (y) (nI (4))) g_q80 g80_2 (by decide) (rfl) ?_
    refine xT_ifCondN g_q80 g80_3 (t := 10) (by decide) (decide_eq_false (fun z => z h4)) ?_
    refine xT_icV (y := nI (1)) g_q80 g80_6 (by decide) ?_
    refine xT_goto g_q80 g80_7 (t := 11) (by decide) ?_
    refine xT_istore_n g_q80 g80_11 (by decide) ?_
    refine xT_iload_n g_q80 g80_12 (lkN (by decide) (rfl)) ?_
    refine xT_lookupswitch g_q80 g80_13 (t := 59) (by decide) (by decide) (by decide) ?_
    refine xT_iload_n g_q80 g80_59 (lkY) ?_
    refine xT_ifCondN g_q80 g80_60 (t := 82) (by decide) (c0N (a := 1) (b := 0) (by omega) (by omega) (by omega)) ?_
    refine xT_iload_n g_q80 g80_63 (lkN (by decide) (rfl)) ?_
    refine xT_biV (y := nI (100)) g_q80 g80_64 (by decide) ?_
    refine xT_iremV (y := x_bin 9 (y) (nI (100))) g_q80 g80_66 (by decide) (rfl) ?_
    refine xT_ifCondN g_q80 g80_67 (t := 78) (by decide) (decide_eq_false (fun z => z h1)) ?_
    refine xT_iload_n g_q80 g80_70 (lkN (by decide) (rfl)) ?_
    refine xT_siV (y := nI (400)) g_q80 g80_71 (by decide) ?_
    refine xT_iremV (y := x_bin 9 (y) (nI (400))) g_q80 g80_74 (by decide) (rfl) ?_
    refine xT_ifCondN g_q80 g80_75 (t := 82) (by decide) (decide_eq_false (fun z => z h2)) ?_
    refine xT_icV (y := nI (1)) g_q80 g80_78 (by decide) ?_
    refine xT_goto g_q80 g80_79 (t := 83) (by decide) ?_
    exact xT_ireturn g_q80 g80_83 (by decide +kernel)
  · rw [lpB_3 h4 h1 h2]
    refine xT_iload_n g_q80 g80_0 (rfl) ?_
    refine xT_icV (y := nI (4)) g_q80 g80_1 (by decide) ?_
    refine xT_iremV (y := x_bin 9 (y) (nI (4))) g_q80 g80_2 (by decide) (rfl) ?_
    refine xT_ifCondN g_q80 g80_3 (t := 10) (by decide) (decide_eq_false (fun z => z h4)) ?_
    refine xT_icV (y := nI (1)) g_q80 g80_6 (by decide) ?_
    refine xT_goto g_q80 g80_7 (t := 11) (by decide) ?_
    refine xT_istore_n g_q80 g80_11 (by decide) ?_
    refine xT_iload_n g_q80 g80_12 (lkN (by decide) (rfl)) ?_
    refine xT_lookupswitch g_q80 g80_13 (t := 59) (by decide) (by decide) (by decide) ?_
    refine xT_iload_n g_q80 g80_59 (lkY) ?_
    refine xT_ifCondN g_q80 g80_60 (t := 82) (by decide) (c0N (a := 1) (b := 0) (by omega) (by omega) (by omega)) ?_
    refine xT_iload_n g_q80 g80_63 (lkN (by decide) (rfl)) ?_
    refine xT_biV (y := nI (100)) g_q80 g80_64 (by decide) ?_
    refine xT_iremV (y := x_bin 9 (y) (nI (100))) g_q80 g80_66 (by decide) (rfl) ?_
    refine xT_ifCondN g_q80 g80_67 (t := 78) (by decide) (decide_eq_false (fun z => z h1)) ?_
    refine xT_iload_n g_q80 g80_70 (lkN (by decide) (rfl)) ?_
    refine xT_siV (y := nI (400)) g_q80 g80_71 (by decide) ?_
    refine xT_iremV (y := x_bin 9 (y) (nI (400))) g_q80 g80_74 (by decide) (rfl) ?_
    refine xT_ifCondY g_q80 g80_75 (t := 82) (by decide) (decide_eq_true h2) ?_
    refine xT_icV (y := nI (0)) g_q80 g80_82 (by decide) ?_
    exact xT_ireturn g_q80 g80_83 (by decide +kernel)
end XH33_2
/-! p33 by hand, 3. -/
noncomputable section XH33_3
variable {ot : XO Int32} {dp : Nat} {H H0 : List (XC Int32)}
theorem t197_0 {y : Int32} : x_To x_tb x_tyl ot dp 197 0 (x_en 0 [.inl (y), .inl (nI (0))]) [] H 0 0 (some (.inl (nI (if lpB 0 y = true then 1 else 0)))) H := by
  by_cases h4 : x_bin 9 y (nI 4) = 0
  · rw [lpB_0y h4]
    refine xT_iload_n g_q197 g197_0 (rfl) ?_
    refine xT_icV (y := nI (4)) g_q197 g197_1 (by decide) ?_
    refine xT_iremV (y := x_bin 9 (y) (nI (4))) g_q197 g197_2 (by decide) (rfl) ?_
    refine xT_ifCondN g_q197 g197_3 (t := 34) (by decide) (decide_eq_false (fun z => z h4)) ?_
    refine xT_iload_n g_q197 g197_6 (rfl) ?_
    refine xT_ifCondY g_q197 g197_7 (t := 30) (by decide) (c0Y (b := 0) rfl) ?_
    refine xT_icV (y := nI (1)) g_q197 g197_30 (by decide) ?_
    refine xT_goto g_q197 g197_31 (t := 35) (by decide) ?_
    exact xT_ireturn g_q197 g197_35 (by decide +kernel)
  · rw [lpB_n h4]
    refine xT_iload_n g_q197 g197_0 (rfl) ?_
    refine xT_icV (y := nI (4)) g_q197 g197_1 (by decide) ?_
    refine xT_iremV (y := x_bin 9 (y) (nI (4))) g_q197 g197_2 (by decide) (rfl) ?_
    refine xT_ifCondY g_q197 g197_3 (t := 34) (by decide) (decide_eq_true h4) ?_
    refine xT_icV (y := nI (0)) g_q197 g197_34 (by decide) ?_
    exact xT_ireturn g_q197 g197_35 (by decide +kernel)
theorem t197_2 {y : Int32} : x_To x_tb x_tyl ot dp 197 0 (x_en 0 [.inl (y), .inl (nI (2))]) [] H 0 0 (some (.inl (nI (if lpB 2 y = true then 1 else 0)))) H := by
  by_cases h4 : x_bin 9 y (nI 4) = 0
  rotate_left
  · rw [lpB_n h4]
    refine xT_iload_n g_q197 g197_0 (rfl) ?_
    refine xT_icV (y := nI (4)) g_q197 g197_1 (by decide) ?_
    refine xT_iremV (y := x_bin 9 (y) (nI (4))) g_q197 g197_2 (by decide) (rfl) ?_
    refine xT_ifCondY g_q197 g197_3 (t := 34) (by decide) (decide_eq_true h4) ?_
    refine xT_icV (y := nI (0)) g_q197 g197_34 (by decide) ?_
    exact xT_ireturn g_q197 g197_35 (by decide +kernel)
  by_cases h1 : x_bin 9 y (nI 100) = 0
  rotate_left
  · rw [lpB_1 h4 h1]
    refine xT_iload_n g_q197 g197_0 (rfl) ?_
    refine xT_icV (y := nI (4)) g_q197 g197_1 (by decide) ?_
    refine xT_iremV (y := x_bin 9 (y) (nI (4))) g_q197 g197_2 (by decide) (rfl) ?_
    refine xT_ifCondN g_q197 g197_3 (t := 34) (by decide) (decide_eq_false (fun z => z h4)) ?_
    refine xT_iload_n g_q197 g197_6 (rfl) ?_
    refine xT_ifCondN g_q197 g197_7 (t := 30) (by decide) (c0N (a := 2) (b := 0) (by omega) (by omega) (by omega)) ?_
    refine xT_iload_n g_q197 g197_10 (rfl) ?_
    refine xT_biV (y := nI (100)) g_q197 g197_11 (by decide) ?_
    refine xT_iremV (y := x_bin 9 (y) (nI (100))) g_q197 g197_13 (by decide) (rfl) ?_
    refine xT_ifCondY g_q197 g197_14 (t := 30) (by decide) (decide_eq_true h1) ?_
    refine xT_icV (y := nI (1)) g_q197 g197_30 (by decide) ?_
    refine xT_goto g_q197 g197_31 (t := 35) (by decide) ?_
    exact xT_ireturn g_q197 g197_35 (by decide +kernel)
  by_cases h2 : x_bin 9 y (nI 400) = 0
  · rw [lpB_2 h4 h1 h2]
    refine xT_iload_n g_q197 g197_0 (rfl) ?_
    refine xT_icV (y := nI (4)) g_q197 g197_1 (by decide) ?_
    refine xT_iremV (y := x_bin 9 (y) (nI (4))) g_q197 g197_2 (by decide) (rfl) ?_
    refine xT_ifCondN g_q197 g197_3 (t := 34) (by decide) (decide_eq_false (fun z => z h4)) ?_
    refine xT_iload_n g_q197 g197_6 (rfl) ?_
    refine xT_ifCondN g_q197 g197_7 (t := 30) (by decide) (c0N (a := 2) (b := 0) (by omega) (by omega) (by omega)) ?_
    refine xT_iload_n g_q197 g197_10 (rfl) ?_
    refine xT_biV (y := nI (100)) g_q197 g197_11 (by decide) ?_
    refine xT_iremV (y := x_bin 9 (y) (nI (100))) g_q197 g197_13 (by decide) (rfl) ?_
    refine xT_ifCondN g_q197 g197_14 (t := 30) (by decide) (decide_eq_false (fun z => z h1)) ?_
    refine xT_iload_n g_q197 g197_17 (rfl) ?_
    refine xT_icV (y := nI (2)) g_q197 g197_18 (by decide) ?_
    refine xT_if_icmpN g_q197 g197_19 (t := 34) (by decide) (c1N (a := 2) (b := 2) rfl) ?_
    refine xT_iload_n g_q197 g197_22 (rfl) ?_
    refine xT_siV (y := nI (400)) g_q197 g197_23 (by decide) ?_
    refine xT_iremV (y := x_bin 9 (y) (nI (400))) g_q197 g197_26 (by decide) (rfl) ?_
    refine xT_ifCondN g_q197 g197_27 (t := 34) (by decide) (decide_eq_false (fun z => z h2)) ?_
    refine xT_icV (y := nI (1)) g_q197 g197_30 (by decide) ?_
    refine xT_goto g_q197 g197_31 (t := 35) (by decide) ?_
    exact xT_ireturn g_q197 g197_35 (by decide +kernel)
  · rw [lpB_3 h4 h1 h2]
    refine xT_iload_n g_q197 g197_0 (rfl) ?_
    refine xT_icV (y := nI (4)) g_q197 g197_1 (by decide) ?_
    refine xT_iremV (y := x_bin 9 (y) (nI (4))) g_q197 g197_2 (by decide) (rfl) ?_
    refine xT_ifCondN g_q197 g197_3 (t := 34) (by decide) (decide_eq_false (fun z => z h4)) ?_
    refine xT_iload_n g_q197 g197_6 (rfl) ?_
    refine xT_ifCondN g_q197 g197_7 (t := 30) (by decide) (c0N (a := 2) (b := 0) (by omega) (by omega) (by omega)) ?_
    refine xT_iload_n g_q197 g197_10 (rfl) ?_
    refine xT_biV (y := nI (100)) g_q197 g197_11 (by decide) ?_
    refine xT_iremV (y := x_bin 9 (y) (nI (100))) g_q197 g197_13 (by decide) (rfl) ?_
    refine xT_ifCondN g_q197 g197_14 (t := 30) (by decide) (decide_eq_false (fun z => z h1)) ?_
    refine xT_iload_n g_q197 g197_17 (rfl) ?_
    refine xT_icV (y := nI (2)) g_q197 g197_18 (by decide) ?_
    refine xT_if_icmpN g_q197 g197_19 (t := 34) (by decide) (c1N (a := 2) (b := 2) rfl) ?_
    refine xT_iload_n g_q197 g197_22 (rfl) ?_
    refine xT_siV (y := nI (400)) g_q197 g197_23 (by decide) ?_
    refine xT_iremV (y := x_bin 9 (y) (nI (400))) g_q197 g197_26 (by decide) (rfl) ?_
    refine xT_ifCondY g_q197 g197_27 (t := 34) (by decide) (decide_eq_true h2) ?_
    refine xT_icV (y := nI (0)) g_q197 g197_34 (by decide) ?_
    exact xT_ireturn g_q197 g197_35 (by decide +kernel)
end XH33_3
/-! p33 by hand, 4. -/
noncomputable section XH33_4
variable {ot : XO Int32} {dp : Nat} {H H0 : List (XC Int32)}
/-- a cell that is not among those that are told -/
def cR (H0 : List (XC Int32)) (As : List Nat) (x : Nat) (z : XC Int32) : Prop := H0[x]? = some z ∧ ∀ k : Nat, As[k]? ≠ some x
theorem hm_c {H0 H : List (XC Int32)} {As : List Nat} {Zs : List (XC Int32)} (h : hm H0 H As Zs) {x : Nat} {z : XC Int32} (g : cR H0 As x z) : H[x]? = some z := hm_ro h g.1 g.2
/-- a row of ints, of which n are told -/
def cW (H0 : List (XC Int32)) (As : List Nat) (r len : Nat) (f : Nat → Int32) (n : Nat) : Prop := ¬ r = 1000000 ∧ ∃ l, cR H0 As r (.inr (0, l)) ∧ l.length = len ∧ ∀ k, k < n → l[k]? = some (.inl (f k))
/-- the class's code of a program -/
def cC (H0 : List (XC Int32)) (As : List Nat) (co : Nat) (p : rP) : Prop := ¬ 1000000 < co ∧ ∃ ro rl rr rn, cR H0 As co (.inl (2, [.inr (some ro), .inr (some rl), .inr (some rr), .inr (some rn), .inl (nI (pNl p))])) ∧ cW H0 As ro 12 (fun l => nI (pOp p l)) (pNl p) ∧ cW H0 As rl 12 (fun l => nI (pLf p l)) (pNl p) ∧ cW H0 As rr 12 (fun l => nI (pRt p l)) (pNl p) ∧ cW H0 As rn 12 (fun l => nI (pNm p l)) (pNl p)
/-- its input -/
def cI (H0 : List (XC Int32)) (As : List Nat) (inp : Nat) (p : rP) : Prop := ¬ 1000000 < inp ∧ ∃ it, cR H0 As inp (.inl (5, [.inr (some it), .inl (nI (pNi p))])) ∧ cW H0 As it 12 (pIv p) (pNi p)
/-- its setting: two figures everywhere and no window, or all figures -/
def cS (H0 : List (XC Int32)) (As : List Nat) (se : Nat) (p : rP) : Prop := ¬ 1000000 < se ∧ ((∃ dr pr, cR H0 As se (.inl (3, [.inl (nI 0), .inr (some dr), .inr (some pr), .inl (nI 0)])) ∧ cW H0 As dr 6 (fun _ => nI 2) 6 ∧ cW H0 As pr 6 (fun _ => -1) 6 ∧ pCut p = fmI ∧ pLp p = fun v => lpB 0 (if v < nI 100 then x_bin 0 (nI 1900) v else v)) ∨ ∃ dr pr, cR H0 As se (.inl (3, [.inl (nI 1), .inr (some dr), .inr (some pr), .inl (nI 2)])) ∧ pCut p = (fun v => v) ∧ pLp p = lpB 2)
/-- what a program's lines are -/
def pOk (p : rP) : Prop := 0 < pNl p ∧ pNl p ≤ 12 ∧ pNi p ≤ 12 ∧ ∀ l, l < pNl p → pOp p l ≤ 11 ∧ pLf p l < 6 ∧ pRt p l < 6 ∧ pNm p l < 10000
end XH33_4
/-! p33 by hand, 5. -/
noncomputable section XH33_5
variable {ot : XO Int32} {dp : Nat} {H H0 : List (XC Int32)}
theorem t68r {R nu ob oi sp co se inp : Nat} {nf of : List (XV Int32)} {yr ln nx dn en hw lw : Int32} {os : Nat} (hA0 : ¬ 1000000 < R) (hA2 : ¬ 1000000 < ob) (h : hm H0 H [R, nu, ob, oi] [.inl (4, [.inr (some (nu)), .inr (some (sp)), .inr (some (co)), .inr (some (se)), .inr (some (inp)), .inr (some (ob)), .inl (yr), .inl (ln), .inl (nx), .inl (dn), .inl (-1), .inl (hw), .inl (lw)]), .inr (0, nf), .inl (5, [.inr (some (oi)), .inl (nI (os))]), .inr (0, of)]) : x_To x_tb x_tyl ot dp 68 0 (x_en 0 [.inr (some (R))]) [] H 0 0 (some (.inl (nI 0))) H := by
  refine xT_aload_n g_q68 g68_0 (rfl) ?_
  refine xT_getfield g_q68 g68_1 hA0 rfl (hm_at h (i := 0) rfl rfl) rfl rfl ?_
  refine xT_icV (y := -1) g_q68 g68_4 (by decide) ?_
  refine xT_if_icmpY g_q68 g68_5 (t := 12) (by decide) ((by decide +kernel)) ?_
  refine xT_icV (y := nI (0)) g_q68 g68_12 (by decide) ?_
  exact xT_ireturn g_q68 g68_13 (by decide +kernel)
theorem t68o {R nu ob oi sp co se inp : Nat} {nf of : List (XV Int32)} {yr ln nx dn en hw lw : Int32} {os : Nat} (hA0 : ¬ 1000000 < R) (hA2 : ¬ 1000000 < ob) (h : hm H0 H [R, nu, ob, oi] [.inl (4, [.inr (some (nu)), .inr (some (sp)), .inr (some (co)), .inr (some (se)), .inr (some (inp)), .inr (some (ob)), .inl (yr), .inl (ln), .inl (nx), .inl (dn), .inl (en), .inl (hw), .inl (lw)]), .inr (0, nf), .inl (5, [.inr (some (oi)), .inl (nI (os))]), .inr (0, of)]) (he : ¬ en = -1) : x_To x_tb x_tyl ot dp 68 0 (x_en 0 [.inr (some (R))]) [] H 0 0 (some (.inl (nI 1))) H := by
  refine xT_aload_n g_q68 g68_0 (rfl) ?_
  refine xT_getfield g_q68 g68_1 hA0 rfl (hm_at h (i := 0) rfl rfl) rfl rfl ?_
  refine xT_icV (y := -1) g_q68 g68_4 (by decide) ?_
  refine xT_if_icmpN g_q68 g68_5 (t := 12) (by decide) (decide_eq_false he) ?_
  refine xT_icV (y := nI (1)) g_q68 g68_8 (by decide) ?_
  refine xT_goto g_q68 g68_9 (t := 13) (by decide) ?_
  exact xT_ireturn g_q68 g68_13 (by decide +kernel)
end XH33_5
/-! p33 by hand, 6. -/
noncomputable section XH33_6
variable {ot : XO Int32} {dp : Nat} {H H0 : List (XC Int32)}
theorem t70 {p : rP} {As : List Nat} {Zs : List (XC Int32)} {se inp co : Nat} (h : hm H0 H As Zs) (hS : cS H0 As se p) {f : Nat} (hf : f < 6) {v : Int32} : x_To x_tb x_tyl ot (dp + 1) 70 0 (x_en 0 [.inr (some (se)), .inl (nI (f)), .inl (v)]) [] H 0 0 (some (.inl (pCut p v))) H := by
  obtain ⟨hsA, ⟨dr, pr, hse, ⟨hdr0, ldr, cdr, ndr, edr⟩, ⟨hpr0, lpr, cpr, npr, epr⟩, hcut, hlp⟩ | ⟨dr, pr, hse, hcut, hlp⟩⟩ := id hS
  · rw [hcut]
    refine xT_aload_n g_q70 g70_0 (rfl) ?_
    refine xT_getfield g_q70 g70_1 hsA rfl (hm_c h hse) rfl rfl ?_
    refine xT_ifCondY g_q70 g70_4 (t := 11) (by decide) (c0Y (b := 0) rfl) ?_
    refine xT_iload_n g_q70 g70_11 (rfl) ?_
    refine xT_aload_n g_q70 g70_12 (rfl) ?_
    refine xT_getfield g_q70 g70_13 hsA rfl (hm_c h hse) rfl rfl ?_
    refine xT_iload_n g_q70 g70_16 (rfl) ?_
    refine xT_iaload g_q70 g70_17 hdr0 (hm_c h cdr) (ixN (n := 6) (by omega) ndr) (ixG (by omega) (edr _ (by omega))) ?_
    refine xT_icV (y := nI (2)) g_q70 g70_18 (by decide) ?_
    refine xT_if_icmpN g_q70 g70_19 (t := 27) (by decide) (c1N (a := 2) (b := 2) rfl) ?_
    refine xT_biV (y := nI (100)) g_q70 g70_22 (by decide) ?_
    refine xT_goto g_q70 g70_24 (t := 30) (by decide) ?_
    refine xT_invokestatic (r := []) (u := some (.inl ((fmI v)))) g_q70 g70_30 (j := 71) (so := 2) (by decide +kernel) g_q71 (rfl) (t71) ?_
    exact xT_ireturn g_q70 g70_33 (rfl)
  · rw [hcut]
    refine xT_aload_n g_q70 g70_0 (rfl) ?_
    refine xT_getfield g_q70 g70_1 hsA rfl (hm_c h hse) rfl rfl ?_
    refine xT_ifCondN g_q70 g70_4 (t := 11) (by decide) (c0N (a := 1) (b := 0) (by omega) (by omega) (by omega)) ?_
    refine xT_iload_n g_q70 g70_7 (rfl) ?_
    refine xT_goto g_q70 g70_8 (t := 33) (by decide) ?_
    exact xT_ireturn g_q70 g70_33 (rfl)
theorem t77 {p : rP} {As : List Nat} {Zs : List (XC Int32)} {se inp co : Nat} (h : hm H0 H As Zs) (hS : cS H0 As se p) {f : Nat} (hf : f < 6) {v : Int32} : x_To x_tb x_tyl ot dp 77 0 (x_en 0 [.inr (some (se)), .inl (nI (f)), .inl (v)]) [] H 0 0 (some (.inl v)) H := by
  obtain ⟨hsA, ⟨dr, pr, hse, ⟨hdr0, ldr, cdr, ndr, edr⟩, ⟨hpr0, lpr, cpr, npr, epr⟩, hcut, hlp⟩ | ⟨dr, pr, hse, hcut, hlp⟩⟩ := id hS
  · skip
    refine xT_aload_n g_q77 g77_0 (rfl) ?_
    refine xT_getfield g_q77 g77_1 hsA rfl (hm_c h hse) rfl rfl ?_
    refine xT_ifCondN g_q77 g77_4 (t := 31) (by decide) (c1N (b := 0) rfl) ?_
    refine xT_aload_n g_q77 g77_7 (rfl) ?_
    refine xT_getfield g_q77 g77_8 hsA rfl (hm_c h hse) rfl rfl ?_
    refine xT_iload_n g_q77 g77_11 (rfl) ?_
    refine xT_iaload g_q77 g77_12 hdr0 (hm_c h cdr) (ixN (n := 6) (by omega) ndr) (ixG (by omega) (edr _ (by omega))) ?_
    refine xT_icV (y := nI (2)) g_q77 g77_13 (by decide) ?_
    refine xT_if_icmpN g_q77 g77_14 (t := 31) (by decide) (c1N (a := 2) (b := 2) rfl) ?_
    refine xT_aload_n g_q77 g77_17 (rfl) ?_
    refine xT_getfield g_q77 g77_18 hsA rfl (hm_c h hse) rfl rfl ?_
    refine xT_iload_n g_q77 g77_21 (rfl) ?_
    refine xT_iaload g_q77 g77_22 hpr0 (hm_c h cpr) (ixN (n := 6) (by omega) npr) (ixG (by omega) (epr _ (by omega))) ?_
    refine xT_icV (y := -1) g_q77 g77_23 (by decide) ?_
    refine xT_if_icmpY g_q77 g77_24 (t := 31) (by decide) ((by decide +kernel)) ?_
    refine xT_icV (y := nI (0)) g_q77 g77_31 (by decide) ?_
    refine xT_istore_n g_q77 g77_32 (by decide) ?_
    refine xT_iload_n g_q77 g77_33 (lkY) ?_
    refine xT_ifCondY g_q77 g77_34 (t := 50) (by decide) (c0Y (b := 0) rfl) ?_
    refine xT_iload_n g_q77 g77_50 (lkN (by decide) (rfl)) ?_
    exact xT_ireturn g_q77 g77_51 (rfl)
  · skip
    refine xT_aload_n g_q77 g77_0 (rfl) ?_
    refine xT_getfield g_q77 g77_1 hsA rfl (hm_c h hse) rfl rfl ?_
    refine xT_ifCondY g_q77 g77_4 (t := 31) (by decide) (c1Y (a := 1) (b := 0) (by omega) (by omega) (by omega)) ?_
    refine xT_icV (y := nI (0)) g_q77 g77_31 (by decide) ?_
    refine xT_istore_n g_q77 g77_32 (by decide) ?_
    refine xT_iload_n g_q77 g77_33 (lkY) ?_
    refine xT_ifCondY g_q77 g77_34 (t := 50) (by decide) (c0Y (b := 0) rfl) ?_
    refine xT_iload_n g_q77 g77_50 (lkN (by decide) (rfl)) ?_
    exact xT_ireturn g_q77 g77_51 (rfl)
theorem t79 {p : rP} {As : List Nat} {Zs : List (XC Int32)} {se inp co : Nat} (h : hm H0 H As Zs) (hS : cS H0 As se p) {v : Int32} : x_To x_tb x_tyl ot (dp + 1) 79 0 (x_en 0 [.inr (some (se)), .inl (v)]) [] H 0 0 (some (.inl (nI (if pLp p v = true then 1 else 0)))) H := by
  obtain ⟨hsA, ⟨dr, pr, hse, ⟨hdr0, ldr, cdr, ndr, edr⟩, ⟨hpr0, lpr, cpr, npr, epr⟩, hcut, hlp⟩ | ⟨dr, pr, hse, hcut, hlp⟩⟩ := id hS
  · rw [hlp]
    show x_To x_tb x_tyl ot (dp + 1) 79 0 _ [] H 0 0 (some (.inl (nI (if lpB 0 (if v < nI 100 then x_bin 0 (nI 1900) v else v) = true then 1 else 0)))) H
    by_cases hv : v < nI 100
    · have hv2 : ¬ nI 100 ≤ v := Int32.not_le.mpr hv
      rw [if_pos hv]
      refine xT_aload_n g_q79 g79_0 (rfl) ?_
      refine xT_getfield g_q79 g79_1 hsA rfl (hm_c h hse) rfl rfl ?_
      refine xT_ifCondN g_q79 g79_4 (t := 21) (by decide) (c1N (b := 0) rfl) ?_
      refine xT_iload_n g_q79 g79_7 (rfl) ?_
      refine xT_biV (y := nI (100)) g_q79 g79_8 (by decide) ?_
      refine xT_if_icmpN g_q79 g79_10 (t := 21) (by decide) (decide_eq_false hv2) ?_
      refine xT_siV (y := nI (1900)) g_q79 g79_13 (by decide) ?_
      refine xT_iload_n g_q79 g79_16 (rfl) ?_
      refine xT_iaddV (y := x_bin 0 (nI (1900)) (v)) g_q79 g79_17 (rfl) ?_
      refine xT_goto g_q79 g79_18 (t := 22) (by decide) ?_
      refine xT_aload_n g_q79 g79_22 (rfl) ?_
      refine xT_getfield g_q79 g79_23 hsA rfl (hm_c h hse) rfl rfl ?_
      refine xT_invokestatic (r := []) (u := some (.inl ((nI (if lpB 0 (x_bin 0 (nI 1900) v) = true then 1 else 0))))) g_q79 g79_26 (j := 80) (so := 3) (by decide +kernel) g_q80 (rfl) (t80_0) ?_
      exact xT_ireturn g_q79 g79_29 (by split <;> decide +kernel)
    · have hv2 : nI 100 ≤ v := Int32.not_lt.mp hv
      rw [if_neg hv]
      refine xT_aload_n g_q79 g79_0 (rfl) ?_
      refine xT_getfield g_q79 g79_1 hsA rfl (hm_c h hse) rfl rfl ?_
      refine xT_ifCondN g_q79 g79_4 (t := 21) (by decide) (c1N (b := 0) rfl) ?_
      refine xT_iload_n g_q79 g79_7 (rfl) ?_
      refine xT_biV (y := nI (100)) g_q79 g79_8 (by decide) ?_
      refine xT_if_icmpY g_q79 g79_10 (t := 21) (by decide) (decide_eq_true hv2) ?_
      refine xT_iload_n g_q79 g79_21 (rfl) ?_
      refine xT_aload_n g_q79 g79_22 (rfl) ?_
      refine xT_getfield g_q79 g79_23 hsA rfl (hm_c h hse) rfl rfl ?_
      refine xT_invokestatic (r := []) (u := some (.inl ((nI (if lpB 0 v = true then 1 else 0))))) g_q79 g79_26 (j := 80) (so := 3) (by decide +kernel) g_q80 (rfl) (t80_0) ?_
      exact xT_ireturn g_q79 g79_29 (by split <;> decide +kernel)
  · rw [hlp]
    refine xT_aload_n g_q79 g79_0 (rfl) ?_
    refine xT_getfield g_q79 g79_1 hsA rfl (hm_c h hse) rfl rfl ?_
    refine xT_ifCondY g_q79 g79_4 (t := 21) (by decide) (c1Y (a := 1) (b := 0) (by omega) (by omega) (by omega)) ?_
    refine xT_iload_n g_q79 g79_21 (rfl) ?_
    refine xT_aload_n g_q79 g79_22 (rfl) ?_
    refine xT_getfield g_q79 g79_23 hsA rfl (hm_c h hse) rfl rfl ?_
    refine xT_invokestatic (r := []) (u := some (.inl ((nI (if lpB 2 v = true then 1 else 0))))) g_q79 g79_26 (j := 80) (so := 3) (by decide +kernel) g_q80 (rfl) (t80_2) ?_
    exact xT_ireturn g_q79 g79_29 (by split <;> decide +kernel)
end XH33_6
/-! p33 by hand, 7. -/
noncomputable section XH33_7
variable {ot : XO Int32} {dp : Nat} {H H0 : List (XC Int32)}
theorem t73y {p : rP} {As : List Nat} {Zs : List (XC Int32)} {se inp co : Nat} (h : hm H0 H As Zs) (hI : cI H0 As inp p) (h12 : pNi p ≤ 12) {i : Nat} (hi : i < pNi p) : x_To x_tb x_tyl ot dp 73 0 (x_en 0 [.inr (some (inp)), .inl (nI (i))]) [] H 0 0 (some (.inl (nI 1))) H := by
  obtain ⟨hiA, it, hinp, hit0, lit, cit, nit, eit⟩ := id hI
  refine xT_iload_n g_q73 g73_0 (rfl) ?_
  refine xT_ifCondN g_q73 g73_1 (t := 16) (by decide) (c2N (b := 0) (Nat.zero_le _) (by omega) (by omega)) ?_
  refine xT_iload_n g_q73 g73_4 (rfl) ?_
  refine xT_aload_n g_q73 g73_5 (rfl) ?_
  refine xT_getfield g_q73 g73_6 hiA rfl (hm_c h hinp) rfl rfl ?_
  refine xT_if_icmpN g_q73 g73_9 (t := 16) (by decide) (c3N (a := i) (b := pNi p) (by omega) (by omega) (by omega)) ?_
  refine xT_icV (y := nI (1)) g_q73 g73_12 (by decide) ?_
  refine xT_goto g_q73 g73_13 (t := 17) (by decide) ?_
  exact xT_ireturn g_q73 g73_17 (by decide +kernel)
theorem t73n {p : rP} {As : List Nat} {Zs : List (XC Int32)} {se inp co : Nat} (h : hm H0 H As Zs) (hI : cI H0 As inp p) (h12 : pNi p ≤ 12) {i : Nat} (hi : pNi p ≤ i) (hi2 : i ≤ 12) : x_To x_tb x_tyl ot dp 73 0 (x_en 0 [.inr (some (inp)), .inl (nI (i))]) [] H 0 0 (some (.inl (nI 0))) H := by
  obtain ⟨hiA, it, hinp, hit0, lit, cit, nit, eit⟩ := id hI
  refine xT_iload_n g_q73 g73_0 (rfl) ?_
  refine xT_ifCondN g_q73 g73_1 (t := 16) (by decide) (c2N (b := 0) (Nat.zero_le _) (by omega) (by omega)) ?_
  refine xT_iload_n g_q73 g73_4 (rfl) ?_
  refine xT_aload_n g_q73 g73_5 (rfl) ?_
  refine xT_getfield g_q73 g73_6 hiA rfl (hm_c h hinp) rfl rfl ?_
  refine xT_if_icmpY g_q73 g73_9 (t := 16) (by decide) (c3Y (a := i) (b := pNi p) (by omega) (by omega) (by omega)) ?_
  refine xT_icV (y := nI (0)) g_q73 g73_16 (by decide) ?_
  exact xT_ireturn g_q73 g73_17 (by decide +kernel)
theorem t74 {p : rP} {As : List Nat} {Zs : List (XC Int32)} {se inp co : Nat} (h : hm H0 H As Zs) (hI : cI H0 As inp p) (h12 : pNi p ≤ 12) {i : Nat} (hi : i < pNi p) : x_To x_tb x_tyl ot (dp + 1) 74 0 (x_en 0 [.inr (some (inp)), .inl (nI (i))]) [] H 0 0 (some (.inl (pIv p i))) H := by
  obtain ⟨hiA, it, hinp, hit0, lit, cit, nit, eit⟩ := id hI
  refine xT_aload_n g_q74 g74_0 (rfl) ?_
  refine xT_iload_n g_q74 g74_1 (rfl) ?_
  refine xT_invokevirtual (r := []) (u := some (.inl (nI (1)))) g_q74 g74_2 (j := 73) (so := 0) (by decide +kernel) g_q73 rfl (by rw [x_rcM hiA (hm_c h hinp)]; rfl) (t73y h hI h12 hi) ?_
  refine xT_ifCondN g_q74 g74_5 (t := 17) (by decide) (c0N (a := 1) (b := 0) (by omega) (by omega) (by omega)) ?_
  refine xT_aload_n g_q74 g74_8 (rfl) ?_
  refine xT_getfield g_q74 g74_9 hiA rfl (hm_c h hinp) rfl rfl ?_
  refine xT_iload_n g_q74 g74_12 (rfl) ?_
  refine xT_iaload g_q74 g74_13 hit0 (hm_c h cit) (ixN (n := 12) (by omega) nit) (ixG (by omega) (eit _ (by omega))) ?_
  refine xT_goto g_q74 g74_14 (t := 18) (by decide) ?_
  exact xT_ireturn g_q74 g74_18 (rfl)
end XH33_7
