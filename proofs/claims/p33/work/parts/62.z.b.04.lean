/-! p33 by hand, 3. -/
noncomputable section XH33_3
variable {ot : XO Int32} {dp : Nat} {H H0 : List (XC Int32)}
theorem t197_0 {y : Int32} : x_To x_tb x_tyl ot dp 197 0 (x_en 0 [.inl (y), .inl (nI (0))]) [] H 0 0 (some (.inl (nI (if lpB 0 y = true then 1 else 0)))) H := by
  by_cases h4 : x_bin 9 y (nI 4) = 0
  · rw [lpB_0y h4]
    refine xT_iload_n g_q197 g197_0 (rfl) ?_
    refine xT_icV (y := nI (4)) g_q197 g197_1 (by decide) ?_
    refine xT_iremV (y := x_bin 9 (y) (nI (4))) g_q197 g197_2 (by decide) (rfl) ?_
    refine xT_ifCondN g_q197 g197_3 (t := 34) (by decide) (decide_eq_false (fun z => z h4)) ?_
    refine xT_iload_n g_q197 g197_6 (rfl) ?_
    refine xT_ifCondY g_q197 g197_7 (t := 30) (by decide) (c0Y (b := 0) rfl) ?_
    refine xT_icV (y := nI (1)) g_q197 g197_30 (by decide) ?_
    refine xT_goto g_q197 g197_31 (t := 35) (by decide) ?_
    exact xT_ireturn g_q197 g197_35 (by decide +kernel)
  · rw [lpB_n h4]
    refine xT_iload_n g_q197 g197_0 (rfl) ?_
    refine xT_icV (y := nI (4)) g_q197 g197_1 (by decide) ?_
    refine xT_iremV (y := x_bin 9 (y) (nI (4))) g_q197 g197_2 (by decide) (rfl) ?_
    refine xT_ifCondY g_q197 g197_3 (t := 34) (by decide) (decide_eq_true h4) ?_
    refine xT_icV (y := nI (0)) g_q197 g197_34 (by decide) ?_
    exact xT_ireturn g_q197 g197_35 (by decide +kernel)
theorem t197_2 {y : Int32} : x_To x_tb x_tyl ot dp 197 0 (x_en 0 [.inl (y), .inl (nI (2))]) [] H 0 0 (some (.inl (nI (if lpB 2 y = true then 1 else 0)))) H := by
  by_cases h4 : x_bin 9 y (nI 4) = 0
  rotate_left
  · rw [lpB_n h4]
    refine xT_iload_n g_q197 g197_0 (rfl) ?_
    refine xT_icV (y := nI (4)) g_q197 g197_1 (by decide) ?_
    refine xT_iremV (y := x_bin 9 (y) (nI (4))) g_q197 g197_2 (by decide) (rfl) ?_
    refine xT_ifCondY g_q197 g197_3 (t := 34) (by decide) (decide_eq_true h4) ?_
    refine xT_icV (y := nI (0)) g_q197 g197_34 (by decide) ?_
    exact xT_ireturn g_q197 g197_35 (by decide +kernel)
  by_cases h1 : x_bin 9 y (nI 100) = 0
  rotate_left
  · rw [lpB_1 h4 h1]
    refine xT_iload_n g_q197 g197_0 (rfl) ?_
    refine xT_icV (y := nI (4)) g_q197 g197_1 (by decide) ?_
    refine xT_iremV (y := x_bin 9 (y) (nI (4))) g_q197 g197_2 (by decide) (rfl) ?_
    refine xT_ifCondN g_q197 g197_3 (t := 34) (by decide) (decide_eq_false (fun z => z h4)) ?_
    refine xT_iload_n g_q197 g197_6 (rfl) ?_
    refine xT_ifCondN g_q197 g197_7 (t := 30) (by decide) (c0N (a := 2) (b := 0) (by omega) (by omega) (by omega)) ?_
    refine xT_iload_n g_q197 g197_10 (rfl) ?_
    refine xT_biV (y := nI (100)) g_q197 g197_11 (by decide) ?_
    refine xT_iremV (y := x_bin 9 (y) (nI (100))) g_q197 g197_13 (by decide) (rfl) ?_
    refine xT_ifCondY g_q197 g197_14 (t := 30) (by decide) (decide_eq_true h1) ?_
    refine xT_icV (y := nI (1)) g_q197 g197_30 (by decide) ?_
    refine xT_goto g_q197 g197_31 (t := 35) (by decide) ?_
    exact xT_ireturn g_q197 g197_35 (by decide +kernel)
  by_cases h2 : x_bin 9 y (nI 400) = 0
  · rw [lpB_2 h4 h1 h2]
    refine xT_iload_n g_q197 g197_0 (rfl) ?_
    refine xT_icV (y := nI (4)) g_q197 g197_1 (by decide) ?_
    refine xT_iremV (y := x_bin 9 (y) (nI (4))) g_q197 g197_2 (by decide) (rfl) ?_
    refine xT_ifCondN g_q197 g197_3 (t := 34) (by decide) (decide_eq_false (fun z => z h4)) ?_
    refine xT_iload_n g_q197 g197_6 (rfl) ?_
    refine xT_ifCondN g_q197 g197_7 (t := 30) (by decide) (c0N (a := 2) (b := 0) (by omega) (by omega) (by omega)) ?_
    refine xT_iload_n g_q197 g197_10 (rfl) ?_
    refine xT_biV (y := nI (100)) g_q197 g197_11 (by decide) ?_
    refine xT_iremV (y := x_bin 9 (y) (nI (100))) g_q197 g197_13 (by decide) (rfl) ?_
    refine xT_ifCondN g_q197 g197_14 (t := 30) (by decide) (decide_eq_false (fun z => z h1)) ?_
    refine xT_iload_n g_q197 g197_17 (rfl) ?_
    refine xT_icV (y := nI (2)) g_q197 g197_18 (by decide) ?_
    refine xT_if_icmpN g_q197 g197_19 (t := 34) (by decide) (c1N (a := 2) (b := 2) rfl) ?_
    refine xT_iload_n g_q197 g197_22 (rfl) ?_
    refine xT_siV (y := nI (400)) g_q197 g197_23 (by decide) ?_
    refine xT_iremV (y := x_bin 9 (y) (nI (400))) g_q197 g197_26 (by decide) (rfl) ?_
    refine xT_ifCondN g_q197 g197_27 (t := 34) (by decide) (decide_eq_false (fun z => z h2)) ?_
    refine xT_icV (y := nI (1)) g_q197 g197_30 (by decide) ?_
    refine xT_goto g_q197 g197_31 (t := 35) (by decide) ?_
    exact xT_ireturn g_q197 g197_35 (by decide +kernel)
  · rw [lpB_3 h4 h1 h2]
    refine xT_iload_n g_q197 g197_0 (rfl) ?_
    refine xT_icV (y := nI (4)) g_q197 g197_1 (by decide) ?_
    refine xT_iremV (y := x_bin 9 (y) (nI (4))) g_q197 g197_2 (by decide) (rfl) ?_
    refine xT_ifCondN g_q197 g197_3 (t := 34) (by decide) (decide_eq_false (fun z => z h4)) ?_
    refine xT_iload_n g_q197 g197_6 (rfl) ?_
    refine xT_ifCondN g_q197 g197_7 (t := 30) (by decide) (c0N (a := 2) (b := 0) (by omega) (by omega) (by omega)) ?_
    refine xT_iload_n g_q197 g197_10 (rfl) ?_
    refine xT_biV (y := nI (100)) g_q197 g197_11 (by decide) ?_
    refine xT_iremV (y := x_bin 9 (y) (nI (100))) g_q197 g197_13 (by decide) (rfl) ?_
    refine xT_ifCondN g_q197 g197_14 (t := 30) (by decide) (decide_eq_false (fun z => z h1)) ?_
    refine xT_iload_n g_q197 g197_17 (rfl) ?_
    refine xT_icV (y := nI (2)) g_q197 g197_18 (by decide) ?_
    refine xT_if_icmpN g_q197 g197_19 (t := 34) (by decide) (c1N (a := 2) (b := 2) rfl) ?_
    refine xT_iload_n g_q197 g197_22 (rfl) ?_
    refine xT_siV (y := nI (400)) g_q197 g197_23 (by decide) ?_
    refine xT_iremV (y := x_bin 9 (y) (nI (400))) g_q197 g197_26 (by decide) (rfl) ?_
    refine xT_ifCondY g_q197 g197_27 (t := 34) (by decide) (decide_eq_true h2) ?_
    refine xT_icV (y := nI (0)) g_q197 g197_34 (by decide) ?_
    exact xT_ireturn g_q197 g197_35 (by decide +kernel)
end XH33_3
