/-! p33 by hand, 49. -/
noncomputable section XH33_49
variable {ot : XO Int32} {dp : Nat} {H H0 : List (XC Int32)}
theorem t146 {n : Nat} {d : Ld} {K : Ka} {WL : List Nat} {rp rt : Nat → rS} {col : Nat → Nat} (hd : dOk n d) (hL : H0.length ≤ 1000000) (hS : kSt n d K WL H0) (hN : kNe n K WL col) (hrp : rdP d rp) (hrt : rdT d rt) (hP : kPh n d K WL rp rt H0 H 0 0) (hy1 : ¬ dYr d < nI 1900) (hy2 : ¬ nI 2099 < dYr d) : ∃ H2, x_To x_tb x_tyl ot (dp + 6) 146 0 (x_en 0 [.inr (some (aB K)), .inl ((dYr d))]) [] H 0 0 (some (.inl (hrm d rp rt n))) H2 ∧ kPh n d K WL rp rt H0 H2 n n := by
  have hd12 := hd.1
  have hlen := hP.2.1
  obtain ⟨⟨bf, cb, bf2, bf3, bf5, bf6, bf8, bf9⟩, ⟨pa, cpa, pal, pae⟩, -⟩ := id hS
  have hb := hP.1 _ _ cb
  have hpa := hP.1 _ _ cpa
  have hbl : ¬ 1000000 < aB K := by
    have := lt_of hb (by omega)
    omega
  obtain ⟨H1, x1, x2⟩ := t141 (ot := ot) (dp := dp) hd hL hS hN hrt hP
  obtain ⟨H2, x3, x4⟩ := t144 (ot := ot) (dp := dp) hd hL hS hN hrp hrt x2
  have hb1 := x2.1 _ _ cb
  refine ⟨H2, ?_, x4⟩
  refine xT_iload_n g_q146 g146_0 (rfl) ?_
  refine xT_invokestatic (r := []) (u := some (.inl (nI (1)))) g_q146 g146_1 (j := 63) (so := 2) (by decide +kernel) g_q63 (rfl) (t63Y (dp := dp + 4) hy1 hy2) ?_
  refine xT_ifCondY g_q146 g146_4 (t := 10) (by decide) (c1Y (a := 1) (b := 0) (by omega) (by omega) (by omega)) ?_
  refine xT_aload_n g_q146 g146_10 (rfl) ?_
  refine xT_iload_n g_q146 g146_11 (rfl) ?_
  refine xT_icV (y := nI (1)) g_q146 g146_12 (by decide) ?_
  refine xT_invokevirtual (r := []) (u := none) g_q146 g146_13 (j := 141) (so := 0) (by decide +kernel) g_q141 rfl (by rw [x_rcM hbl hb]; rfl) (x1) ?_
  refine xT_aload_n g_q146 g146_16 (rfl) ?_
  refine xT_icV (y := nI (0)) g_q146 g146_17 (by decide) ?_
  refine xT_iload_n g_q146 g146_18 (rfl) ?_
  refine xT_icV (y := nI (1)) g_q146 g146_19 (by decide) ?_
  refine xT_invokevirtual (r := []) (u := some (.inl ((hrm d rp rt n)))) g_q146 g146_20 (j := 144) (so := 0) (by decide +kernel) g_q144 rfl (by rw [x_rcM hbl hb1]; rfl) (x3) ?_
  exact xT_ireturn g_q146 g146_23 (rfl)
theorem t146n {a : Nat} {y : Int32} (hy : y < nI 1900 ∨ nI 2099 < y) : x_To x_tb x_tyl ot (dp + 6) 146 0 (x_en 0 [.inr (some (a)), .inl (y)]) [] H 0 0 (some (.inl (-2))) H := by
  refine xT_iload_n g_q146 g146_0 (rfl) ?_
  refine xT_invokestatic (r := []) (u := some (.inl (nI (0)))) g_q146 g146_1 (j := 63) (so := 2) (by decide +kernel) g_q63 (rfl) (t63N (dp := dp + 4) hy) ?_
  refine xT_ifCondN g_q146 g146_4 (t := 10) (by decide) (c1N (a := 0) (b := 0) rfl) ?_
  refine xT_biV (y := -2) g_q146 g146_7 (by decide) ?_
  exact xT_ireturn g_q146 g146_9 (rfl)
end XH33_49
