/-! p5 by hand, 2. -/
noncomputable section XH5_2
variable {ot : XO Int32} {dp : Nat} {H : List (XC Int32)} {a n m : Nat} {P C nl sv S : Nat → Nat} {op lf rt : Nat → Nat → Nat}
theorem t35Y {v l u : Int32} (h1 : ¬ v < l) (h2 : ¬ u < v) : x_To x_tb x_tyl ot dp 35 0 (x_en 0 [.inl v, .inl l, .inl u]) [] H 0 0 (some (.inl (nI 1))) H := by
  refine xT_iload_n g_q35 g35_0 (rfl) ?_
  refine xT_iload_n g_q35 g35_1 (rfl) ?_
  refine xT_if_icmpN g_q35 g35_2 (t := 14) (by decide) (decide_eq_false h1) ?_
  refine xT_iload_n g_q35 g35_5 (rfl) ?_
  refine xT_iload_n g_q35 g35_6 (rfl) ?_
  refine xT_if_icmpN g_q35 g35_7 (t := 14) (by decide) (decide_eq_false h2) ?_
  refine xT_icV (y := nI (1)) g_q35 g35_10 (by decide) ?_
  refine xT_goto g_q35 g35_11 (t := 15) (by decide) ?_
  exact xT_ireturn g_q35 g35_15 (by decide +kernel)
theorem t35N {v l u : Int32} (h : v < l ∨ u < v) : x_To x_tb x_tyl ot dp 35 0 (x_en 0 [.inl v, .inl l, .inl u]) [] H 0 0 (some (.inl (nI 0))) H := by
  by_cases h1 : v < l
  · skip
    refine xT_iload_n g_q35 g35_0 (rfl) ?_
    refine xT_iload_n g_q35 g35_1 (rfl) ?_
    refine xT_if_icmpY g_q35 g35_2 (t := 14) (by decide) (decide_eq_true h1) ?_
    refine xT_icV (y := nI (0)) g_q35 g35_14 (by decide) ?_
    exact xT_ireturn g_q35 g35_15 (by decide +kernel)
  · have h2 : u < v := h.resolve_left h1
    refine xT_iload_n g_q35 g35_0 (rfl) ?_
    refine xT_iload_n g_q35 g35_1 (rfl) ?_
    refine xT_if_icmpN g_q35 g35_2 (t := 14) (by decide) (decide_eq_false h1) ?_
    refine xT_iload_n g_q35 g35_5 (rfl) ?_
    refine xT_iload_n g_q35 g35_6 (rfl) ?_
    refine xT_if_icmpY g_q35 g35_7 (t := 14) (by decide) (decide_eq_true h2) ?_
    refine xT_icV (y := nI (0)) g_q35 g35_14 (by decide) ?_
    exact xT_ireturn g_q35 g35_15 (by decide +kernel)
end XH5_2
