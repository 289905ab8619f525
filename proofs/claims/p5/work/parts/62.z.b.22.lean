/-! p5 by hand, 21. -/
noncomputable section XH5_21
variable {ot : XO Int32} {dp : Nat} {H : List (XC Int32)} {a n m : Nat} {P C nl sv S : Nat → Nat} {op lf rt : Nat → Nat → Nat}
theorem t227_w {b : Nat} {D U : Nat → Nat} (ho : cdOk n op lf rt nl) (hsv : svOk n sv) : ∀ (k : Nat) (S : Nat → Nat) (L : List (Nat × XV Int32)) (H : List (XC Int32)), (∀ q, q < n → S q < 64) → kB H b n D U op lf rt nl sv S (fun _ _ => True) → 72 < cnN S n + k → x_lk L 0 = some (.inr (some (b))) → x_lk L 1 = some (.inl (nI (1))) → ∃ v H2, x_To x_tb x_tyl ot (dp + 2) 227 41 L [] H 0 0 v H2 ∧ v = none ∧ kB H2 b n D U op lf rt nl sv (fxN n op lf rt nl sv k S) (fun _ _ => True) := by
  intro k
  induction k with
  | zero =>
    intro S L H hS hB h72
    have := cn_le (S := S) n
    have := hB.1.2.1
    omega
  | succ k ih =>
    intro S L H hS hB h72 l0 l1
    have hps := ps_cn (sv := sv) ho hS n (Nat.le_refl n)
    have h64 := ps_64 (sv := sv) ho hS n (Nat.le_refl n)
    obtain ⟨v, H2, x, f⟩ := t227_p (ot := ot) (dp := dp) (Fin := fun v H2 => v = none ∧ kB H2 b n D U op lf rt nl sv (fxN n op lf rt nl sv (k + 1) S) (fun _ _ => True)) ho hsv hS (fun L H hB m0 m1 => by
      rcases ch_b (op := op) (lf := lf) (rt := rt) (nl := nl) (sv := sv) (S := S) n with hc | hc
      · rw [hc] at m1
        refine ⟨none, H, ?_, rfl, ?_⟩
        rotate_left
        · rw [show (fxN n op lf rt nl sv (k + 1) S) = psN op lf rt nl sv S n from if_neg (by omega)]
          exact hB
        refine xT_goto g_q227 g227_147 (t := 41) (by decide) ?_
        refine xT_iload_n g_q227 g227_41 (m1) ?_
        refine xT_ifCondY g_q227 g227_42 (t := 150) (by decide) (c0Y (b := 0) rfl) ?_
        exact xT_return_ g_q227 g227_150 (rfl)
      · rw [hc] at m1 hps
        obtain ⟨v, H2, x, f⟩ := ih _ (L) H h64 hB (by omega) (m0) (m1)
        refine ⟨v, H2, ?_, ?_⟩
        rotate_left
        · rw [show (fxN n op lf rt nl sv (k + 1) S) = fxN n op lf rt nl sv k (psN op lf rt nl sv S n) from if_pos hc]
          exact f
        refine xT_goto g_q227 g227_147 (t := 41) (by decide) ?_
        exact x) n 0 (x_st (x_st (L) 1 (.inl (nI (0)))) 2 (.inl (nI (0)))) H (by omega) hB (lkN (by decide) (lkN (by decide) (l0))) (lkN (by decide) (lkY)) (lkY)
    refine ⟨v, H2, ?_, f⟩
    refine xT_iload_n g_q227 g227_41 (l1) ?_
    refine xT_ifCondN g_q227 g227_42 (t := 150) (by decide) (c0N (a := 1) (b := 0) (by omega) (by omega) (by omega)) ?_
    refine xT_icV (y := nI (0)) g_q227 g227_45 (by decide) ?_
    refine xT_istore_n g_q227 g227_46 (by decide) ?_
    refine xT_icV (y := nI (0)) g_q227 g227_47 (by decide) ?_
    refine xT_istore_n g_q227 g227_48 (by decide) ?_
    exact x
end XH5_21
