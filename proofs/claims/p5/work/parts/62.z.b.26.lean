/-! p5 by hand, 25. -/
noncomputable section XH5_25
variable {ot : XO Int32} {dp : Nat} {H : List (XC Int32)} {a n m : Nat} {P C nl sv S : Nat → Nat} {op lf rt : Nat → Nat → Nat}
theorem t44Y {y : Nat} (hy : y ≤ 5) : x_To x_tb x_tyl ot (dp + 1) 44 0 (x_en 0 [.inl (nI y)]) [] H 0 0 (some (.inl (nI 1))) H := by
  refine xT_iload_n g_q44 g44_0 (rfl) ?_
  refine xT_icV (y := nI (0)) g_q44 g44_1 (by decide) ?_
  refine xT_icV (y := nI (5)) g_q44 g44_2 (by decide) ?_
  refine xT_invokestatic (r := []) (u := some (.inl (nI (1)))) g_q44 g44_3 (j := 35) (so := 2) (by decide +kernel) g_q35 (rfl) (t35Y (fun z => by have := (nI_ltI (by omega) (by omega)).mp z; omega) (fun z => by have := (nI_ltI (by omega) (by omega)).mp z; omega)) ?_
  exact xT_ireturn g_q44 g44_6 (by decide +kernel)
theorem t44N {y : Int32} (h : y < nI 0 ∨ nI 5 < y) : x_To x_tb x_tyl ot (dp + 1) 44 0 (x_en 0 [.inl y]) [] H 0 0 (some (.inl (nI 0))) H := by
  refine xT_iload_n g_q44 g44_0 (rfl) ?_
  refine xT_icV (y := nI (0)) g_q44 g44_1 (by decide) ?_
  refine xT_icV (y := nI (5)) g_q44 g44_2 (by decide) ?_
  refine xT_invokestatic (r := []) (u := some (.inl (nI (0)))) g_q44 g44_3 (j := 35) (so := 2) (by decide +kernel) g_q35 (rfl) (t35N h) ?_
  exact xT_ireturn g_q44 g44_6 (by decide +kernel)
theorem t201Y {b q : Nat} {gs : List (XV Int32)} (hbA : ¬ 1000000 < b) (hb : H[b]? = some (.inl (12, gs))) (g0 : gs[0]? = some (.inl (nI n))) (hn : n ≤ 12) (hq : q < n) : x_To x_tb x_tyl ot (dp + 1) 201 0 (x_en 0 [.inr (some (b)), .inl (nI (q))]) [] H 0 0 (some (.inl (nI 1))) H := by
  refine xT_iload_n g_q201 g201_0 (rfl) ?_
  refine xT_icV (y := nI (0)) g_q201 g201_1 (by decide) ?_
  refine xT_aload_n g_q201 g201_2 (rfl) ?_
  refine xT_getfield g_q201 g201_3 hbA rfl hb rfl g0 ?_
  refine xT_icV (y := nI (1)) g_q201 g201_6 (by decide) ?_
  refine xT_isubV (y := nI (n - 1)) g_q201 g201_7 (bSubN (by omega)) ?_
  refine xT_invokestatic (r := []) (u := some (.inl (nI (1)))) g_q201 g201_8 (j := 181) (so := 2) (by decide +kernel) g_q181 (rfl) (t181Y (fun z => by have := (nI_ltI (by omega) (by omega)).mp z; omega) (fun z => by have := (nI_ltI (by omega) (by omega)).mp z; omega)) ?_
  exact xT_ireturn g_q201 g201_11 (by decide +kernel)
theorem t201N {b : Nat} {x : Int32} {gs : List (XV Int32)} (hbA : ¬ 1000000 < b) (hb : H[b]? = some (.inl (12, gs))) (g0 : gs[0]? = some (.inl (nI n))) (h : x < nI 0 ∨ x_bin 1 (nI n) (nI 1) < x) : x_To x_tb x_tyl ot (dp + 1) 201 0 (x_en 0 [.inr (some (b)), .inl (x)]) [] H 0 0 (some (.inl (nI 0))) H := by
  refine xT_iload_n g_q201 g201_0 (rfl) ?_
  refine xT_icV (y := nI (0)) g_q201 g201_1 (by decide) ?_
  refine xT_aload_n g_q201 g201_2 (rfl) ?_
  refine xT_getfield g_q201 g201_3 hbA rfl hb rfl g0 ?_
  refine xT_icV (y := nI (1)) g_q201 g201_6 (by decide) ?_
  refine xT_isubV (y := x_bin 1 (nI n) (nI 1)) g_q201 g201_7 (rfl) ?_
  refine xT_invokestatic (r := []) (u := some (.inl (nI (0)))) g_q201 g201_8 (j := 181) (so := 2) (by decide +kernel) g_q181 (rfl) (t181N h) ?_
  exact xT_ireturn g_q201 g201_11 (by decide +kernel)
end XH5_25
