/-! p5 by hand, 12. -/
noncomputable section XH5_12
variable {ot : XO Int32} {dp : Nat} {H : List (XC Int32)} {a n m : Nat} {P C nl sv S : Nat → Nat} {op lf rt : Nat → Nat → Nat}
theorem t46 (ho : cdOk n op lf rt nl) (hsv : svOk n sv) (hA : kA H a n P C op lf rt nl sv S m) : ∃ H2, x_To x_tb x_tyl ot (dp + 3) 46 0 (x_en 0 [.inr (some (a))]) [] H 0 0 none H2 ∧ kA H2 a n P C op lf rt nl sv (fxN n op lf rt nl sv 73 (fun _ => 0)) n ∧ kp tgP H H2 := by
  obtain ⟨v, H2, x, rfl, f⟩ := t46_c (ot := ot) (dp := dp) (H0 := H) (op := op) (lf := lf) (rt := rt) (Fin := fun v H2 => v = none ∧ kA H2 a n P C op lf rt nl sv (fxN n op lf rt nl sv 73 (fun _ => 0)) n ∧ kp tgP H H2) (fun L G hA hk m0 => by
    obtain ⟨v, H2, x, f⟩ := t46_w (ot := ot) (dp := dp) ho hsv 73 0 (fun _ => 0) (x_st (x_st (L) 1 (.inl (nI (1)))) 2 (.inl (nI (0)))) G (fun q _ => by omega) hA hk (Nat.zero_le _) (by omega) (lkN (by decide) (lkN (by decide) (m0))) (lkN (by decide) (lkY)) (lkY)
    refine ⟨v, H2, ?_, f⟩
    refine xT_icV (y := nI (1)) g_q46 g46_26 (by decide) ?_
    refine xT_istore_n g_q46 g46_27 (by decide) ?_
    refine xT_icV (y := nI (0)) g_q46 g46_28 (by decide) ?_
    refine xT_istore_n g_q46 g46_29 (by decide) ?_
    exact x) n 0 (x_st ((x_en 0 [.inr (some (a))])) 1 (.inl (nI (0)))) H (by omega) (by
    obtain ⟨y1, y2, y3⟩ := hA
    exact ⟨y1, fun q hq => by
      obtain ⟨p1, po, p2, p3, p4, p5, p6⟩ := y2 q hq
      exact ⟨p1, po, p2, p3, p4, p5, fun z => absurd z (Nat.not_lt_zero q)⟩, y3⟩) kp_rf (lkN (by decide) (rfl)) (lkY)
  refine ⟨H2, ?_, f⟩
  refine xT_icV (y := nI (0)) g_q46 g46_0 (by decide) ?_
  refine xT_istore_n g_q46 g46_1 (by decide) ?_
  exact x
theorem fx_64 (ho : cdOk n op lf rt nl) : ∀ k (S : Nat → Nat), (∀ q, q < n → S q < 64) → ∀ q, q < n → fxN n op lf rt nl sv k S q < 64
  | 0, S, h => h
  | k + 1, S, h => by
    have h2 := ps_64 (sv := sv) ho h n (Nat.le_refl n)
    by_cases c : chN op lf rt nl sv S n = 1
    · rw [show fxN n op lf rt nl sv (k + 1) S = fxN n op lf rt nl sv k (psN op lf rt nl sv S n) from if_pos c]
      exact fx_64 ho k _ h2
    · rw [show fxN n op lf rt nl sv (k + 1) S = psN op lf rt nl sv S n from if_neg c]
      exact h2
end XH5_12
