/-! p33 by hand, 48. -/
noncomputable section XH33_48
variable {ot : XO Int32} {dp : Nat} {H H0 : List (XC Int32)}
theorem t144 {n : Nat} {d : Ld} {K : Ka} {WL : List Nat} {rp rt : Nat → rS} {col : Nat → Nat} (hd : dOk n d) (hL : H0.length ≤ 1000000) (hS : kSt n d K WL H0) (hN : kNe n K WL col) (hrp : rdP d rp) (hrt : rdT d rt) (hP : kPh n d K WL rp rt H0 H n 0) : ∃ H2, x_To x_tb x_tyl ot (dp + 5) 144 0 (x_en 0 [.inr (some (aB K)), .inl (nI (0)), .inl ((dYr d)), .inl (nI (1))]) [] H 0 0 (some (.inl (hrm d rp rt n))) H2 ∧ kPh n d K WL rp rt H0 H2 n n := by
  obtain ⟨H2, x1, x2⟩ := t144_l (ot := ot) (dp := dp) hd hL hS hN hrp hrt n 0 H (x_st (x_st ((x_en 0 [.inr (some (aB K)), .inl (nI (0)), .inl ((dYr d)), .inl (nI (1))])) 4 (.inl (nI (0)))) 5 (.inl (nI (0)))) (by omega) hP (lkN (by decide) (lkN (by decide) (rfl))) (lkN (by decide) (lkN (by decide) (rfl))) (lkN (by decide) (lkN (by decide) (rfl))) (lkN (by decide) (lkN (by decide) (rfl))) (lkN (by decide) (lkY)) (lkY)
  refine ⟨H2, ?_, x2⟩
  refine xT_icV (y := nI (0)) g_q144 g144_0 (by decide) ?_
  refine xT_istore g_q144 g144_1 (by decide) ?_
  refine xT_icV (y := nI (0)) g_q144 g144_3 (by decide) ?_
  refine xT_istore g_q144 g144_4 (by decide) ?_
  exact x1
end XH33_48
