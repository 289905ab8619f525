/-! p31 by hand, 4. -/
noncomputable section XH31_4
variable {ot : XO Int32} {dp : Nat} {H : List (XC Int32)} {a b tr tc fr r n m : Nat} {vs wl : List (XV Int32)}
theorem t102 (hT : kT H a tr tc fr n m vs) {t : Nat} (ht : t < 8) {x : Int32} : x_To x_tb x_tyl ot dp 102 0 (x_en 0 [.inr (some (tr)), .inl (nI (t)), .inl (nI (1)), .inl (x)]) [] H 0 0 none (H.set tc (.inr (0, vs.set (t * 2 + 1) (.inl x)))) := by
  obtain ⟨haA, htA, hfA, hcA, hn8, hm8, gs, ts, us, ha, g14, g15, ht0, s1, s2, s3, hf0, u3, hv, hvl⟩ := id hT
  refine xT_iload_n g_q102 g102_0 (rfl) ?_
  refine xT_aload_n g_q102 g102_1 (rfl) ?_
  refine xT_getfield g_q102 g102_2 htA rfl ht0 rfl s1 ?_
  refine xT_if_icmpN g_q102 g102_5 (t := 22) (by decide) (c3N (a := 1) (b := 2) (by omega) (by omega) (by omega)) ?_
  refine xT_aload_n g_q102 g102_8 (rfl) ?_
  refine xT_getfield g_q102 g102_9 htA rfl ht0 rfl s2 ?_
  refine xT_iload_n g_q102 g102_12 (rfl) ?_
  refine xT_aload_n g_q102 g102_13 (rfl) ?_
  refine xT_getfield g_q102 g102_14 htA rfl ht0 rfl s1 ?_
  refine xT_imulV (y := nI ((t) * (2))) g_q102 g102_17 (bMulN _ _) ?_
  refine xT_iload_n g_q102 g102_18 (rfl) ?_
  refine xT_iaddV (y := nI (((t) * (2)) + 1)) g_q102 g102_19 (bAddN _ _) ?_
  refine xT_iload_n g_q102 g102_20 (rfl) ?_
  refine xT_iastore g_q102 g102_21 hv (ixN (n := 16) (by omega) hvl) ?_
  rw [nI_clamp (by omega)]
  exact xT_return_ g_q102 g102_22 (rfl)
end XH31_4
