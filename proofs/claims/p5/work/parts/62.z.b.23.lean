/-! p5 by hand, 22. -/
noncomputable section XH5_22
variable {ot : XO Int32} {dp : Nat} {H : List (XC Int32)} {a n m : Nat} {P C nl sv S : Nat → Nat} {op lf rt : Nat → Nat → Nat}
theorem t227 {b : Nat} {D U : Nat → Nat} (ho : cdOk n op lf rt nl) (hsv : svOk n sv) (hB : kB H b n D U op lf rt nl sv S (fun _ _ => False)) : ∃ H2, x_To x_tb x_tyl ot (dp + 2) 227 0 (x_en 0 [.inr (some (b))]) [] H 0 0 none H2 ∧ kB H2 b n D U op lf rt nl sv (fxN n op lf rt nl sv 73 (fun _ => 0)) (fun _ _ => True) := by
  obtain ⟨v, H2, x, rfl, f⟩ := t227_c (ot := ot) (dp := dp) (op := op) (lf := lf) (rt := rt) (Fin := fun v H2 => v = none ∧ kB H2 b n D U op lf rt nl sv (fxN n op lf rt nl sv 73 (fun _ => 0)) (fun _ _ => True)) (fun L G hB m0 => by
    obtain ⟨v, H2, x, f⟩ := t227_w (ot := ot) (dp := dp) ho hsv 73 (fun _ => 0) (x_st (L) 1 (.inl (nI (1)))) G (fun q _ => by omega) hB (by omega) (lkN (by decide) (m0)) (lkY)
    refine ⟨v, H2, ?_, f⟩
    refine xT_icV (y := nI (1)) g_q227 g227_39 (by decide) ?_
    refine xT_istore_n g_q227 g227_40 (by decide) ?_
    exact x) n 0 (x_st ((x_en 0 [.inr (some (b))])) 1 (.inl (nI (0)))) H (by omega) (kB_cg hB (fun q f _ _ z => absurd z (Nat.not_lt_zero q))) (lkN (by decide) (rfl)) (lkY)
  refine ⟨H2, ?_, f⟩
  refine xT_icV (y := nI (0)) g_q227 g227_0 (by decide) ?_
  refine xT_istore_n g_q227 g227_1 (by decide) ?_
  exact x
end XH5_22
