/-! p33 by hand, 0. -/
noncomputable section XH33_0
variable {ot : XO Int32} {dp : Nat} {H H0 : List (XC Int32)}
def fmI (x : Int32) : Int32 := if x_bin 5 x (nI 100) < 0 ∧ ¬ (x_bin 9 x (nI 100)) = 0 then x_bin 0 (x_bin 9 x (nI 100)) (nI 100) else (x_bin 9 x (nI 100))
theorem t71 {x : Int32} : x_To x_tb x_tyl ot dp 71 0 (x_en 0 [.inl (x), .inl (nI (100))]) [] H 0 0 (some (.inl (fmI x))) H := by
  by_cases h1 : x_bin 5 x (nI 100) < 0
  rotate_left
  · rw [show fmI x = (x_bin 9 x (nI 100)) from if_neg (fun z => h1 z.1)]
    have h1 : 0 ≤ x_bin 5 x (nI 100) := Int32.not_lt.mp h1
    refine xT_iload_n g_q71 g71_0 (rfl) ?_
    refine xT_iload_n g_q71 g71_1 (rfl) ?_
    refine xT_iremV (y := x_bin 9 (x) (nI (100))) g_q71 g71_2 (by decide) (rfl) ?_
    refine xT_istore_n g_q71 g71_3 (by decide) ?_
    refine xT_iload_n g_q71 g71_4 (lkN (by decide) (rfl)) ?_
    refine xT_iload_n g_q71 g71_5 (lkN (by decide) (rfl)) ?_
    refine xT_ixorV (y := x_bin 5 (x) (nI (100))) g_q71 g71_6 (rfl) ?_
    refine xT_ifCondY g_q71 g71_7 (t := 18) (by decide) (decide_eq_true h1) ?_
    refine xT_iload_n g_q71 g71_18 (lkY) ?_
    exact xT_ireturn g_q71 g71_19 (rfl)
  · have h1n : ¬ (0 : Int32) ≤ x_bin 5 x (nI 100) := Int32.not_le.mpr h1
    by_cases h2 : (x_bin 9 x (nI 100)) = 0
    · rw [show fmI x = (x_bin 9 x (nI 100)) from if_neg (fun z => z.2 h2)]
      refine xT_iload_n g_q71 g71_0 (rfl) ?_
      refine xT_iload_n g_q71 g71_1 (rfl) ?_
      refine xT_iremV (y := x_bin 9 (x) (nI (100))) g_q71 g71_2 (by decide) (rfl) ?_
      refine xT_istore_n g_q71 g71_3 (by decide) ?_
      refine xT_iload_n g_q71 g71_4 (lkN (by decide) (rfl)) ?_
      refine xT_iload_n g_q71 g71_5 (lkN (by decide) (rfl)) ?_
      refine xT_ixorV (y := x_bin 5 (x) (nI (100))) g_q71 g71_6 (rfl) ?_
      refine xT_ifCondN g_q71 g71_7 (t := 18) (by decide) (decide_eq_false h1n) ?_
      refine xT_iload_n g_q71 g71_10 (lkY) ?_
      refine xT_ifCondY g_q71 g71_11 (t := 18) (by decide) (decide_eq_true h2) ?_
      refine xT_iload_n g_q71 g71_18 (lkY) ?_
      exact xT_ireturn g_q71 g71_19 (rfl)
    · rw [show fmI x = x_bin 0 (x_bin 9 x (nI 100)) (nI 100) from if_pos ⟨h1, h2⟩]
      refine xT_iload_n g_q71 g71_0 (rfl) ?_
      refine xT_iload_n g_q71 g71_1 (rfl) ?_
      refine xT_iremV (y := x_bin 9 (x) (nI (100))) g_q71 g71_2 (by decide) (rfl) ?_
      refine xT_istore_n g_q71 g71_3 (by decide) ?_
      refine xT_iload_n g_q71 g71_4 (lkN (by decide) (rfl)) ?_
      refine xT_iload_n g_q71 g71_5 (lkN (by decide) (rfl)) ?_
      refine xT_ixorV (y := x_bin 5 (x) (nI (100))) g_q71 g71_6 (rfl) ?_
      refine xT_ifCondN g_q71 g71_7 (t := 18) (by decide) (decide_eq_false h1n) ?_
      refine xT_iload_n g_q71 g71_10 (lkY) ?_
      refine xT_ifCondN g_q71 g71_11 (t := 18) (by decide) (decide_eq_false h2) ?_
      refine xT_iload_n g_q71 g71_14 (lkY) ?_
      refine xT_iload_n g_q71 g71_15 (lkN (by decide) (rfl)) ?_
      refine xT_iaddV (y := x_bin 0 (x_bin 9 (x) (nI (100))) (nI (100))) g_q71 g71_16 (rfl) ?_
      exact xT_ireturn g_q71 g71_17 (rfl)
end XH33_0
