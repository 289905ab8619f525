/-! p5 by hand, 11. -/
noncomputable section XH5_11
variable {ot : XO Int32} {dp : Nat} {H : List (XC Int32)} {a n m : Nat} {P C nl sv S : Nat → Nat} {op lf rt : Nat → Nat → Nat}
theorem t46_w {H0 : List (XC Int32)} (ho : cdOk n op lf rt nl) (hsv : svOk n sv) : ∀ (k r : Nat) (S : Nat → Nat) (L : List (Nat × XV Int32)) (H : List (XC Int32)), (∀ q, q < n → S q < 64) → kA H a n P C op lf rt nl sv S n → kp tgP H0 H → r ≤ cnN S n → 72 < cnN S n + k → x_lk L 0 = some (.inr (some (a))) → x_lk L 1 = some (.inl (nI (1))) → x_lk L 2 = some (.inl (nI (r))) → ∃ v H2, x_To x_tb x_tyl ot (dp + 3) 46 30 L [] H 0 0 v H2 ∧ v = none ∧ kA H2 a n P C op lf rt nl sv (fxN n op lf rt nl sv k S) n ∧ kp tgP H0 H2 := by
  intro k
  induction k with
  | zero =>
    intro r S L H hS hA hk hr h72
    have := cn_le (S := S) n
    have := hA.1.2.1
    omega
  | succ k ih =>
    intro r S L H hS hA hk hr h72 l0 l1 l2
    have hcn := cn_le (S := S) n
    have hn12 := hA.1.2.1
    have hps := ps_cn (sv := sv) ho hS n (Nat.le_refl n)
    have h64 := ps_64 (sv := sv) ho hS n (Nat.le_refl n)
    obtain ⟨v, H2, x, f⟩ := t46_p (ot := ot) (dp := dp) (r := r) (Fin := fun v H2 => v = none ∧ kA H2 a n P C op lf rt nl sv (fxN n op lf rt nl sv (k + 1) S) n ∧ kp tgP H0 H2) ho hsv hS (fun L H hA hk m0 m1 m2 => by
      rcases ch_b (op := op) (lf := lf) (rt := rt) (nl := nl) (sv := sv) (S := S) n with hc | hc
      · rw [hc] at m1
        refine ⟨none, H, ?_, rfl, ?_, hk⟩
        · skip
          refine xT_iincV (y := nI (r + 1)) g_q46 g46_149 (m2) (by decide) (bIncN _) ?_
          refine xT_goto g_q46 g46_152 (t := 30) (by decide) ?_
          refine xT_iload_n g_q46 g46_30 (lkN (by decide) (m1)) ?_
          refine xT_ifCondY g_q46 g46_31 (t := 155) (by decide) (c0Y (b := 0) rfl) ?_
          exact xT_return_ g_q46 g46_155 (rfl)
        · rw [show (fxN n op lf rt nl sv (k + 1) S) = psN op lf rt nl sv S n from if_neg (by omega)]
          exact hA
      · rw [hc] at m1 hps
        obtain ⟨v, H2, x, f⟩ := ih (r + 1) _ (x_st (L) 2 (.inl (nI (r + 1)))) H h64 hA hk (by omega) (by omega) (lkN (by decide) (m0)) (lkN (by decide) (m1)) (lkY)
        refine ⟨v, H2, ?_, ?_⟩
        · skip
          refine xT_iincV (y := nI (r + 1)) g_q46 g46_149 (m2) (by decide) (bIncN _) ?_
          refine xT_goto g_q46 g46_152 (t := 30) (by decide) ?_
          exact x
        · rw [show (fxN n op lf rt nl sv (k + 1) S) = fxN n op lf rt nl sv k (psN op lf rt nl sv S n) from if_pos hc]
          exact f) n 0 (x_st (x_st (L) 1 (.inl (nI (0)))) 3 (.inl (nI (0)))) H (by omega) hA hk (lkN (by decide) (lkN (by decide) (l0))) (lkN (by decide) (lkY)) (lkN (by decide) (lkN (by decide) (l2))) (lkY)
    refine ⟨v, H2, ?_, f⟩
    refine xT_iload_n g_q46 g46_30 (l1) ?_
    refine xT_ifCondN g_q46 g46_31 (t := 155) (by decide) (c0N (a := 1) (b := 0) (by omega) (by omega) (by omega)) ?_
    refine xT_iload_n g_q46 g46_34 (l2) ?_
    refine xT_biV (y := nI (72)) g_q46 g46_35 (by decide) ?_
    refine xT_if_icmpN g_q46 g46_37 (t := 155) (by decide) (c4N (a := r) (b := 72) (by omega) (by omega) (by omega)) ?_
    refine xT_icV (y := nI (0)) g_q46 g46_40 (by decide) ?_
    refine xT_istore_n g_q46 g46_41 (by decide) ?_
    refine xT_icV (y := nI (0)) g_q46 g46_42 (by decide) ?_
    refine xT_istore_n g_q46 g46_43 (by decide) ?_
    exact x
end XH5_11
