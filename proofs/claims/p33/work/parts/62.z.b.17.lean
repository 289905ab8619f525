/-! p33 by hand, 16. -/
noncomputable section XH33_16
variable {ot : XO Int32} {dp : Nat} {H H0 : List (XC Int32)}
theorem t58z {R nu ob oi : Nat} {z0 z1 z3 : XC Int32} {bs : XV Int32} (hA0 : ¬ 1000000 < R) (hA2 : ¬ 1000000 < ob) (h : hm H0 H [R, nu, ob, oi] [z0, z1, .inl (5, [.inr (some oi), bs]), z3]) : ∃ H2, x_To x_tb x_tyl ot dp 58 0 (x_en 0 [.inr (some (ob))]) [] H 0 0 none H2 ∧ hm H0 H2 [R, nu, ob, oi] [z0, z1, .inl (5, [.inr (some oi), .inl (nI 0)]), z3] := by
  have g1_ : hm H0 _ [R, nu, ob, oi] [z0, z1, .inl (5, [.inr (some oi), .inl (nI 0)]), z3] := hm_set (i := 2) (z2 := .inl (5, ([.inr (some oi), bs]).set 1 (.inl (nI 0)))) h rfl
  refine ⟨_, ?_, g1_⟩
  refine xT_aload_n g_q58 g58_0 (rfl) ?_
  refine xT_icV (y := nI (0)) g_q58 g58_1 (by decide) ?_
  refine xT_putfield g_q58 g58_2 (ci := 5) (j := 1) rfl (hm_at h (i := 2) rfl rfl) rfl rfl ?_
  exact xT_return_ g_q58 g58_5 (rfl)
end XH33_16
