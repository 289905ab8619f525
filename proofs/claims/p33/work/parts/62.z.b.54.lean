/-! p33 by hand, 53. -/
noncomputable section XH33_53
variable {ot : XO Int32} {dp : Nat} {H H0 : List (XC Int32)}
theorem t220 {n : Nat} {d : Ld} {A FR TR : Nat → Nat} {WL : List Nat} {rp rt : Nat → rS} {Hs : List (XC Int32)} {gz : List (XV Int32)} {col : Nat → Nat} (hd : dOk n d) (hL : Hs.length ≤ 1000000) (hS : mSt n d A FR TR WL gz Hs) (hN : mNe A FR TR WL col) (hrp : rdP d rp) (hrt : rdT d rt) (hP : mPh n d A FR TR WL rp rt gz Hs H 0) : ∃ H2, x_To x_tb x_tyl ot (dp + 6) 220 0 (x_en 0 [.inr (some (A 0)), .inl ((dYr d)), .inl (nI (0)), .inl (nI (0)), .inl (nI (0))]) [] H 0 0 (some (.inl (hrm d rp rt n))) H2 ∧ mPh n d A FR TR WL rp rt gz Hs H2 n := by
  obtain ⟨H2, x1, x2⟩ := t220_l (ot := ot) (dp := dp) hd hL hS hN hrp hrt n 0 H (x_st (x_st ((x_en 0 [.inr (some (A 0)), .inl ((dYr d)), .inl (nI (0)), .inl (nI (0)), .inl (nI (0))])) 5 (.inl (nI (0)))) 6 (.inl (nI (0)))) (by omega) hP (lkN (by decide) (lkN (by decide) (rfl))) (lkN (by decide) (lkN (by decide) (rfl))) (lkN (by decide) (lkN (by decide) (rfl))) (lkN (by decide) (lkN (by decide) (rfl))) (lkN (by decide) (lkN (by decide) (rfl))) (lkN (by decide) (lkY)) (lkY)
  refine ⟨H2, ?_, x2⟩
  refine xT_icV (y := nI (0)) g_q220 g220_0 (by decide) ?_
  refine xT_istore g_q220 g220_1 (by decide) ?_
  refine xT_icV (y := nI (0)) g_q220 g220_3 (by decide) ?_
  refine xT_istore g_q220 g220_4 (by decide) ?_
  exact x1
end XH33_53
