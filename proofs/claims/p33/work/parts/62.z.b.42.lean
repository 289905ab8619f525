/-! p33 by hand, 41. -/
noncomputable section XH33_41
variable {ot : XO Int32} {dp : Nat} {H H0 : List (XC Int32)}
theorem t35Y {v l u : Int32} (h1 : ¬ v < l) (h2 : ¬ u < v) : x_To x_tb x_tyl ot dp 35 0 (x_en 0 [.inl v, .inl l, .inl u]) [] H 0 0 (some (.inl (nI 1))) H := by
  refine xT_iload_n g_q35 g35_0 (rfl) ?_
  refine xT_iload_n g_q35 g35_1 (rfl) ?_
  refine xT_if_icmpN g_q35 g35_2 (t := 14) (by decide) (decide_eq_false h1) ?_
  refine xT_iload_n g_q35 g35_5 (rfl) ?_
  refine xT_iload_n g_q35 g35_6 (rfl) ?_
  refine xT_if_icmpN g_q35 g35_7 (t := 14) (by decide) (decide_eq_false h2) ?_
  refine xT_icV (y := nI (1)) g_q35 g35_10 (by decide) ?_
  refine xT_goto g_q35 g35_11 (t := 15) (by decide) ?_
  exact xT_ireturn g_q35 g35_15 (by decide +kernel)
theorem t35N {v l u : Int32} (h : v < l ∨ u < v) : x_To x_tb x_tyl ot dp 35 0 (x_en 0 [.inl v, .inl l, .inl u]) [] H 0 0 (some (.inl (nI 0))) H := by
  by_cases h1 : v < l
  · skip
    refine xT_iload_n g_q35 g35_0 (rfl) ?_
    refine xT_iload_n g_q35 g35_1 (rfl) ?_
    refine xT_if_icmpY g_q35 g35_2 (t := 14) (by decide) (decide_eq_true h1) ?_
    refine xT_icV (y := nI (0)) g_q35 g35_14 (by decide) ?_
    exact xT_ireturn g_q35 g35_15 (by decide +kernel)
  · have h2 : u < v := h.resolve_left h1
    refine xT_iload_n g_q35 g35_0 (rfl) ?_
    refine xT_iload_n g_q35 g35_1 (rfl) ?_
    refine xT_if_icmpN g_q35 g35_2 (t := 14) (by decide) (decide_eq_false h1) ?_
    refine xT_iload_n g_q35 g35_5 (rfl) ?_
    refine xT_iload_n g_q35 g35_6 (rfl) ?_
    refine xT_if_icmpY g_q35 g35_7 (t := 14) (by decide) (decide_eq_true h2) ?_
    refine xT_icV (y := nI (0)) g_q35 g35_14 (by decide) ?_
    exact xT_ireturn g_q35 g35_15 (by decide +kernel)
theorem t63Y {w : Int32} (h1 : ¬ w < nI 1900) (h2 : ¬ nI 2099 < w) : x_To x_tb x_tyl ot (dp + 1) 63 0 (x_en 0 [.inl w]) [] H 0 0 (some (.inl (nI 1))) H := by
  refine xT_iload_n g_q63 g63_0 (rfl) ?_
  refine xT_siV (y := nI (1900)) g_q63 g63_1 (by decide) ?_
  refine xT_siV (y := nI (2099)) g_q63 g63_4 (by decide) ?_
  refine xT_invokestatic (r := []) (u := some (.inl (nI (1)))) g_q63 g63_7 (j := 35) (so := 2) (by decide +kernel) g_q35 (rfl) (t35Y h1 h2) ?_
  exact xT_ireturn g_q63 g63_10 (by decide +kernel)
theorem t63N {w : Int32} (h : w < nI 1900 ∨ nI 2099 < w) : x_To x_tb x_tyl ot (dp + 1) 63 0 (x_en 0 [.inl w]) [] H 0 0 (some (.inl (nI 0))) H := by
  refine xT_iload_n g_q63 g63_0 (rfl) ?_
  refine xT_siV (y := nI (1900)) g_q63 g63_1 (by decide) ?_
  refine xT_siV (y := nI (2099)) g_q63 g63_4 (by decide) ?_
  refine xT_invokestatic (r := []) (u := some (.inl (nI (0)))) g_q63 g63_7 (j := 35) (so := 2) (by decide +kernel) g_q35 (rfl) (t35N h) ?_
  exact xT_ireturn g_q63 g63_10 (by decide +kernel)
end XH33_41
