/-! p33 by hand, 42. -/
noncomputable section XH33_42
variable {ot : XO Int32} {dp : Nat} {H H0 : List (XC Int32)}
theorem t181Y {v l u : Int32} (h1 : ¬ v < l) (h2 : ¬ u < v) : x_To x_tb x_tyl ot dp 181 0 (x_en 0 [.inl v, .inl l, .inl u]) [] H 0 0 (some (.inl (nI 1))) H := by
  refine xT_iload_n g_q181 g181_0 (rfl) ?_
  refine xT_iload_n g_q181 g181_1 (rfl) ?_
  refine xT_if_icmpN g_q181 g181_2 (t := 14) (by decide) (decide_eq_false h1) ?_
  refine xT_iload_n g_q181 g181_5 (rfl) ?_
  refine xT_iload_n g_q181 g181_6 (rfl) ?_
  refine xT_if_icmpN g_q181 g181_7 (t := 14) (by decide) (decide_eq_false h2) ?_
  refine xT_icV (y := nI (1)) g_q181 g181_10 (by decide) ?_
  refine xT_goto g_q181 g181_11 (t := 15) (by decide) ?_
  exact xT_ireturn g_q181 g181_15 (by decide +kernel)
theorem t181N {v l u : Int32} (h : v < l ∨ u < v) : x_To x_tb x_tyl ot dp 181 0 (x_en 0 [.inl v, .inl l, .inl u]) [] H 0 0 (some (.inl (nI 0))) H := by
  by_cases h1 : v < l
  · skip
    refine xT_iload_n g_q181 g181_0 (rfl) ?_
    refine xT_iload_n g_q181 g181_1 (rfl) ?_
    refine xT_if_icmpY g_q181 g181_2 (t := 14) (by decide) (decide_eq_true h1) ?_
    refine xT_icV (y := nI (0)) g_q181 g181_14 (by decide) ?_
    exact xT_ireturn g_q181 g181_15 (by decide +kernel)
  · have h2 : u < v := h.resolve_left h1
    refine xT_iload_n g_q181 g181_0 (rfl) ?_
    refine xT_iload_n g_q181 g181_1 (rfl) ?_
    refine xT_if_icmpN g_q181 g181_2 (t := 14) (by decide) (decide_eq_false h1) ?_
    refine xT_iload_n g_q181 g181_5 (rfl) ?_
    refine xT_iload_n g_q181 g181_6 (rfl) ?_
    refine xT_if_icmpY g_q181 g181_7 (t := 14) (by decide) (decide_eq_true h2) ?_
    refine xT_icV (y := nI (0)) g_q181 g181_14 (by decide) ?_
    exact xT_ireturn g_q181 g181_15 (by decide +kernel)
theorem t196Y {w : Int32} (h1 : ¬ w < nI 1900) (h2 : ¬ nI 2099 < w) : x_To x_tb x_tyl ot (dp + 1) 196 0 (x_en 0 [.inl w]) [] H 0 0 (some (.inl (nI 1))) H := by
  refine xT_iload_n g_q196 g196_0 (rfl) ?_
  refine xT_siV (y := nI (1900)) g_q196 g196_1 (by decide) ?_
  refine xT_siV (y := nI (2099)) g_q196 g196_4 (by decide) ?_
  refine xT_invokestatic (r := []) (u := some (.inl (nI (1)))) g_q196 g196_7 (j := 181) (so := 2) (by decide +kernel) g_q181 (rfl) (t181Y h1 h2) ?_
  exact xT_ireturn g_q196 g196_10 (by decide +kernel)
theorem t196N {w : Int32} (h : w < nI 1900 ∨ nI 2099 < w) : x_To x_tb x_tyl ot (dp + 1) 196 0 (x_en 0 [.inl w]) [] H 0 0 (some (.inl (nI 0))) H := by
  refine xT_iload_n g_q196 g196_0 (rfl) ?_
  refine xT_siV (y := nI (1900)) g_q196 g196_1 (by decide) ?_
  refine xT_siV (y := nI (2099)) g_q196 g196_4 (by decide) ?_
  refine xT_invokestatic (r := []) (u := some (.inl (nI (0)))) g_q196 g196_7 (j := 181) (so := 2) (by decide +kernel) g_q181 (rfl) (t181N h) ?_
  exact xT_ireturn g_q196 g196_10 (by decide +kernel)
end XH33_42
