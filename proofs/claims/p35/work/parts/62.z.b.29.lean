/-! p35 by hand, 28. -/
noncomputable section XH3528
variable {ot : XO Int32} {dp : Nat} {H : List (XC Int32)} {p n m : Nat} {r : Nat → Nat} {pl mi la we ord hf : Nat → Nat}
theorem t259_w {b : Nat} {x w : Int32} (h : w < nI 0 ∨ nI 4 < w) : x_To x_tb x_tyl ot (dp + 2) 259 0 (x_en 0 [.inr (some (b)), .inl (x), .inl (w)]) [] H 0 0 (some (.inl (-1))) H := by
  refine xT_iload_n g_q259 g259_0 (rfl) ?_
  refine xT_icV (y := nI (0)) g_q259 g259_1 (by decide) ?_
  refine xT_icV (y := nI (4)) g_q259 g259_2 (by decide) ?_
  refine xT_invokestatic (r := []) (u := some (.inl (nI (0)))) g_q259 g259_3 (j := 181) (so := 2) (by decide +kernel) g_q181 (rfl) (t181N h) ?_
  refine xT_ifCondN g_q259 g259_6 (t := 11) (by decide) (c1N (b := 0) rfl) ?_
  refine xT_icV (y := -1) g_q259 g259_9 (by decide) ?_
  exact xT_ireturn g_q259 g259_10 (rfl)
theorem t259_g {b : Nat} {x : Int32} {w : Nat} (hw4 : w ≤ 4) (h : x < nI 1 ∨ nI 3 < x) : x_To x_tb x_tyl ot (dp + 2) 259 0 (x_en 0 [.inr (some (b)), .inl (x), .inl (nI (w))]) [] H 0 0 (some (.inl (-2))) H := by
  refine xT_iload_n g_q259 g259_0 (rfl) ?_
  refine xT_icV (y := nI (0)) g_q259 g259_1 (by decide) ?_
  refine xT_icV (y := nI (4)) g_q259 g259_2 (by decide) ?_
  refine xT_invokestatic (r := []) (u := some (.inl (nI (1)))) g_q259 g259_3 (j := 181) (so := 2) (by decide +kernel) g_q181 (rfl) (t181Y (fun z => by have := (nI_ltI (by omega) (by omega)).mp z; omega) (fun z => by have := (nI_ltI (by omega) (by omega)).mp z; omega)) ?_
  refine xT_ifCondY g_q259 g259_6 (t := 11) (by decide) (c1Y (a := 1) (b := 0) (by omega) (by omega) (by omega)) ?_
  refine xT_iload_n g_q259 g259_11 (rfl) ?_
  refine xT_icV (y := nI (1)) g_q259 g259_12 (by decide) ?_
  refine xT_icV (y := nI (3)) g_q259 g259_13 (by decide) ?_
  refine xT_invokestatic (r := []) (u := some (.inl (nI (0)))) g_q259 g259_14 (j := 181) (so := 2) (by decide +kernel) g_q181 (rfl) (t181N h) ?_
  refine xT_ifCondN g_q259 g259_17 (t := 23) (by decide) (c1N (b := 0) rfl) ?_
  refine xT_biV (y := -2) g_q259 g259_20 (by decide) ?_
  exact xT_ireturn g_q259 g259_22 (rfl)
theorem t259_h {b g w : Nat} (hg1 : 1 ≤ g) (hg : g ≤ 3) (hw4 : w ≤ 4) (hw : g + 2 ≤ w) : x_To x_tb x_tyl ot (dp + 2) 259 0 (x_en 0 [.inr (some (b)), .inl (nI (g)), .inl (nI (w))]) [] H 0 0 (some (.inl (-1))) H := by
  refine xT_iload_n g_q259 g259_0 (rfl) ?_
  refine xT_icV (y := nI (0)) g_q259 g259_1 (by decide) ?_
  refine xT_icV (y := nI (4)) g_q259 g259_2 (by decide) ?_
  refine xT_invokestatic (r := []) (u := some (.inl (nI (1)))) g_q259 g259_3 (j := 181) (so := 2) (by decide +kernel) g_q181 (rfl) (t181Y (fun z => by have := (nI_ltI (by omega) (by omega)).mp z; omega) (fun z => by have := (nI_ltI (by omega) (by omega)).mp z; omega)) ?_
  refine xT_ifCondY g_q259 g259_6 (t := 11) (by decide) (c1Y (a := 1) (b := 0) (by omega) (by omega) (by omega)) ?_
  refine xT_iload_n g_q259 g259_11 (rfl) ?_
  refine xT_icV (y := nI (1)) g_q259 g259_12 (by decide) ?_
  refine xT_icV (y := nI (3)) g_q259 g259_13 (by decide) ?_
  refine xT_invokestatic (r := []) (u := some (.inl (nI (1)))) g_q259 g259_14 (j := 181) (so := 2) (by decide +kernel) g_q181 (rfl) (t181Y (fun z => by have := (nI_ltI (by omega) (by omega)).mp z; omega) (fun z => by have := (nI_ltI (by omega) (by omega)).mp z; omega)) ?_
  refine xT_ifCondY g_q259 g259_17 (t := 23) (by decide) (c1Y (a := 1) (b := 0) (by omega) (by omega) (by omega)) ?_
  refine xT_iload_n g_q259 g259_23 (rfl) ?_
  refine xT_icV (y := nI (1)) g_q259 g259_24 (by decide) ?_
  refine xT_iload_n g_q259 g259_25 (rfl) ?_
  refine xT_iaddV (y := nI (1 + g)) g_q259 g259_26 (bAddN _ _) ?_
  refine xT_if_icmpN g_q259 g259_27 (t := 32) (by decide) (c5N (a := w) (b := 1 + g) (by omega) (by omega) (by omega)) ?_
  refine xT_icV (y := -1) g_q259 g259_30 (by decide) ?_
  exact xT_ireturn g_q259 g259_31 (rfl)
end XH3528
