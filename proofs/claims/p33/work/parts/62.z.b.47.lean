/-! p33 by hand, 46. -/
noncomputable section XH33_46
variable {ot : XO Int32} {dp : Nat} {H H0 : List (XC Int32)}
theorem t141 {n : Nat} {d : Ld} {K : Ka} {WL : List Nat} {rp rt : Nat → rS} {col : Nat → Nat} (hd : dOk n d) (hL : H0.length ≤ 1000000) (hS : kSt n d K WL H0) (hN : kNe n K WL col) (hrt : rdT d rt) (hP : kPh n d K WL rp rt H0 H 0 0) : ∃ H2, x_To x_tb x_tyl ot (dp + 5) 141 0 (x_en 0 [.inr (some (aB K)), .inl ((dYr d)), .inl (nI (1))]) [] H 0 0 none H2 ∧ kPh n d K WL rp rt H0 H2 n 0 := by
  obtain ⟨H2, x1, x2⟩ := t141_l (ot := ot) (dp := dp) hd hL hS hN hrt n 0 H (x_st ((x_en 0 [.inr (some (aB K)), .inl ((dYr d)), .inl (nI (1))])) 3 (.inl (nI (0)))) (by omega) hP (lkN (by decide) (rfl)) (lkN (by decide) (rfl)) (lkN (by decide) (rfl)) (lkY)
  refine ⟨H2, ?_, x2⟩
  refine xT_icV (y := nI (0)) g_q141 g141_0 (by decide) ?_
  refine xT_istore_n g_q141 g141_1 (by decide) ?_
  exact x1
end XH33_46
