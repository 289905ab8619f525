/-! p33 by hand, 2. -/
noncomputable section XH33_2
variable {ot : XO Int32} {dp : Nat} {H H0 : List (XC Int32)}
theorem t80_0 {y : Int32} : x_To x_tb x_tyl ot dp 80 0 (x_en 0 [.inl (y), .inl (nI (0))]) [] H 0 0 (some (.inl (nI (if lpB 0 y = true then 1 else 0)))) H := by
  by_cases h4 : x_bin 9 y (nI 4) = 0
  · rw [lpB_0y h4]
    refine xT_iload_n g_q80 g80_0 (rfl) ?_
    refine xT_icV (y := nI (4)) g_q80 g80_1 (by decide) ?_
    refine xT_iremV (y := x_bin 9 (y) (nI (4))) g_q80 g80_2 (by decide) (rfl) ?_
    refine xT_ifCondN g_q80 g80_3 (t := 10) (by decide) (decide_eq_false (fun z => z h4)) ?_
    refine xT_icV (y := nI (1)) g_q80 g80_6 (by decide) ?_
    refine xT_goto g_q80 g80_7 (t := 11) (by decide) ?_
    refine xT_istore_n g_q80 g80_11 (by decide) ?_
    refine xT_iload_n g_q80 g80_12 (lkN (by decide) (rfl)) ?_
    refine xT_lookupswitch g_q80 g80_13 (t := 40) (by decide) (by decide) (by decide) ?_
    refine xT_iload_n g_q80 g80_40 (lkY) ?_
    exact xT_ireturn g_q80 g80_41 (by decide +kernel)
  · rw [lpB_n h4]
    refine xT_iload_n g_q80 g80_0 (rfl) ?_
    refine xT_icV (y := nI (4)) g_q80 g80_1 (by decide) ?_
    refine xT_iremV (y := x_bin 9 (y) (nI (4))) g_q80 g80_2 (by decide) (rfl) ?_
    refine xT_ifCondY g_q80 g80_3 (t := 10) (by decide) (decide_eq_true h4) ?_
    refine xT_icV (y := nI (0)) g_q80 g80_10 (by decide) ?_
    refine xT_istore_n g_q80 g80_11 (by decide) ?_
    refine xT_iload_n g_q80 g80_12 (lkN (by decide) (rfl)) ?_
    refine xT_lookupswitch g_q80 g80_13 (t := 40) (by decide) (by decide) (by decide) ?_
    refine xT_iload_n g_q80 g80_40 (lkY) ?_
    exact xT_ireturn g_q80 g80_41 (by decide +kernel)
theorem t80_2 {y : Int32} : x_To x_tb x_tyl ot dp 80 0 (x_en 0 [.inl (y), .inl (nI (2))]) [] H 0 0 (some (.inl (nI (if lpB 2 y = true then 1 else 0)))) H := by
  by_cases h4 : x_bin 9 y (nI 4) = 0
  rotate_left
  · rw [lpB_n h4]
    refine xT_iload_n g_q80 g80_0 (rfl) ?_
    refine xT_icV (y := nI (4)) g_q80 g80_1 (by decide) ?_
    refine xT_iremV (y := x_bin 9 (y) (nI (4))) g_q80 g80_2 (by decide) (rfl) ?_
    refine xT_ifCondY g_q80 g80_3 (t := 10) (by decide) (decide_eq_true h4) ?_
    refine xT_icV (y := nI (0)) g_q80 g80_10 (by decide) ?_
    refine xT_istore_n g_q80 g80_11 (by decide) ?_
    refine xT_iload_n g_q80 g80_12 (lkN (by decide) (rfl)) ?_
    refine xT_lookupswitch g_q80 g80_13 (t := 59) (by decide) (by decide) (by decide) ?_
    refine xT_iload_n g_q80 g80_59 (lkY) ?_
    refine xT_ifCondY g_q80 g80_60 (t := 82) (by decide) (c0Y (b := 0) rfl) ?_
    refine xT_icV (y := nI (0)) g_q80 g80_82 (by decide) ?_
    exact xT_ireturn g_q80 g80_83 (by decide +kernel)
  by_cases h1 : x_bin 9 y (nI 100) = 0
  rotate_left
  · rw [lpB_1 h4 h1]
    refine xT_iload_n g_q80 g80_0 (rfl) ?_
    refine xT_icV (y := nI (4)) g_q80 g80_1 (by decide) ?_
    refine xT_iremV (y := x_bin 9 (y) (nI (4))) g_q80 g80_2 (by decide) (rfl) ?_
    refine xT_ifCondN g_q80 g80_3 (t := 10) (by decide) (decide_eq_false (fun z => z h4)) ?_
    refine xT_icV (y := nI (1)) g_q80 g80_6 (by decide) ?_
    refine xT_goto g_q80 g80_7 (t := 11) (by decide) ?_
    refine xT_istore_n g_q80 g80_11 (by decide) ?_
    refine xT_iload_n g_q80 g80_12 (lkN (by decide) (rfl)) ?_
    refine xT_lookupswitch g_q80 g80_13 (t := 59) (by decide) (by decide) (by decide) ?_
    refine xT_iload_n g_q80 g80_59 (lkY) ?_
    refine xT_ifCondN g_q80 g80_60 (t := 82) (by decide) (c0N (a := 1) (b := 0) (by omega) (by omega) (by omega)) ?_
    refine xT_iload_n g_q80 g80_63 (lkN (by decide) (rfl)) ?_
    refine xT_biV (y := nI (100)) g_q80 g80_64 (by decide) ?_
    refine xT_iremV (y := x_bin 9 (y) (nI (100))) g_q80 g80_66 (by decide) (rfl) ?_
    refine xT_ifCondY g_q80 g80_67 (t := 78) (by decide) (decide_eq_true h1) ?_
    refine xT_icV (y := nI (1)) g_q80 g80_78 (by decide) ?_
    refine xT_goto g_q80 g80_79 (t := 83) (by decide) ?_
    exact xT_ireturn g_q80 g80_83 (by decide +kernel)
  by_cases h2 : x_bin 9 y (nI 400) = 0
  · rw [lpB_2 h4 h1 h2]
    refine xT_iload_n g_q80 g80_0 (rfl) ?_
    refine xT_icV (y := nI (4)) g_q80 g80_1 (by decide) ?_
    refine xT_iremV (y := x_bin 9 (y) (nI (4))) g_q80 g80_2 (by decide) (rfl) ?_
    refine xT_ifCondN g_q80 g80_3 (t := 10) (by decide) (decide_eq_false (fun z => z h4)) ?_
    refine xT_icV (y := nI (1)) g_q80 g80_6 (by decide) ?_
    refine xT_goto g_q80 g80_7 (t := 11) (by decide) ?_
    refine xT_istore_n g_q80 g80_11 (by decide) ?_
    refine xT_iload_n g_q80 g80_12 (lkN (by decide) (rfl)) ?_
    refine xT_lookupswitch g_q80 g80_13 (t := 59) (by decide) (by decide) (by decide) ?_
    refine xT_iload_n g_q80 g80_59 (lkY) ?_
    refine xT_ifCondN g_q80 g80_60 (t := 82) (by decide) (c0N (a := 1) (b := 0) (by omega) (by omega) (by omega)) ?_
    refine xT_iload_n g_q80 g80_63 (lkN (by decide) (rfl)) ?_
    refine xT_biV (y := nI (100)) g_q80 g80_64 (by decide) ?_
    refine xT_iremV (y := x_bin 9 (y) (nI (100))) g_q80 g80_66 (by decide) (rfl) ?_
    refine xT_ifCondN g_q80 g80_67 (t := 78) (by decide) (decide_eq_false (fun z => z h1)) ?_
    refine xT_iload_n g_q80 g80_70 (lkN (by decide) (rfl)) ?_
    refine xT_siV (y := nI (400)) g_q80 g80_71 (by decide) ?_
    refine xT_iremV (y := x_bin 9 (y) (nI (400))) g_q80 g80_74 (by decide) (rfl) ?_
    refine xT_ifCondN g_q80 g80_75 (t := 82) (by decide) (decide_eq_false (fun z => z h2)) ?_
    refine xT_icV (y := nI (1)) g_q80 g80_78 (by decide) ?_
    refine xT_goto g_q80 g80_79 (t := 83) (by decide) ?_
    exact xT_ireturn g_q80 g80_83 (by decide +kernel)
  · rw [lpB_3 h4 h1 h2]
    refine xT_iload_n g_q80 g80_0 (rfl) ?_
    refine xT_icV (y := nI (4)) g_q80 g80_1 (by decide) ?_
    refine xT_iremV (y := x_bin 9 (y) (nI (4))) g_q80 g80_2 (by decide) (rfl) ?_
    refine xT_ifCondN g_q80 g80_3 (t := 10) (by decide) (decide_eq_false (fun z => z h4)) ?_
    refine xT_icV (y := nI (1)) g_q80 g80_6 (by decide) ?_
    refine xT_goto g_q80 g80_7 (t := 11) (by decide) ?_
    refine xT_istore_n g_q80 g80_11 (by decide) ?_
    refine xT_iload_n g_q80 g80_12 (lkN (by decide) (rfl)) ?_
    refine xT_lookupswitch g_q80 g80_13 (t := 59) (by decide) (by decide) (by decide) ?_
    refine xT_iload_n g_q80 g80_59 (lkY) ?_
    refine xT_ifCondN g_q80 g80_60 (t := 82) (by decide) (c0N (a := 1) (b := 0) (by omega) (by omega) (by omega)) ?_
    refine xT_iload_n g_q80 g80_63 (lkN (by decide) (rfl)) ?_
    refine xT_biV (y := nI (100)) g_q80 g80_64 (by decide) ?_
    refine xT_iremV (y := x_bin 9 (y) (nI (100))) g_q80 g80_66 (by decide) (rfl) ?_
    refine xT_ifCondN g_q80 g80_67 (t := 78) (by decide) (decide_eq_false (fun z => z h1)) ?_
    refine xT_iload_n g_q80 g80_70 (lkN (by decide) (rfl)) ?_
    refine xT_siV (y := nI (400)) g_q80 g80_71 (by decide) ?_
    refine xT_iremV (y := x_bin 9 (y) (nI (400))) g_q80 g80_74 (by decide) (rfl) ?_
    refine xT_ifCondY g_q80 g80_75 (t := 82) (by decide) (decide_eq_true h2) ?_
    refine xT_icV (y := nI (0)) g_q80 g80_82 (by decide) ?_
    exact xT_ireturn g_q80 g80_83 (by decide +kernel)
end XH33_2
