/-! p33 by hand, 8. -/
noncomputable section XH33_8
variable {ot : XO Int32} {dp : Nat} {H H0 : List (XC Int32)}
theorem t58 {R nu ob oi sp co se inp : Nat} {nf of : List (XV Int32)} {yr ln nx dn en hw lw : Int32} {os : Nat} (hA0 : ¬ 1000000 < R) (hA2 : ¬ 1000000 < ob) (h : hm H0 H [R, nu, ob, oi] [.inl (4, [.inr (some (nu)), .inr (some (sp)), .inr (some (co)), .inr (some (se)), .inr (some (inp)), .inr (some (ob)), .inl (yr), .inl (ln), .inl (nx), .inl (dn), .inl (en), .inl (hw), .inl (lw)]), .inr (0, nf), .inl (5, [.inr (some (oi)), .inl (nI (os))]), .inr (0, of)]) : ∃ H2, x_To x_tb x_tyl ot dp 58 0 (x_en 0 [.inr (some (ob))]) [] H 0 0 (none) H2 ∧ hm H0 H2 [R, nu, ob, oi] [.inl (4, [.inr (some (nu)), .inr (some (sp)), .inr (some (co)), .inr (some (se)), .inr (some (inp)), .inr (some (ob)), .inl (yr), .inl (ln), .inl (nx), .inl (dn), .inl (en), .inl (hw), .inl (lw)]), .inr (0, nf), .inl (5, [.inr (some (oi)), .inl (nI (0))]), .inr (0, of)] := by
  have g1_ : hm H0 _ [R, nu, ob, oi] [.inl (4, [.inr (some (nu)), .inr (some (sp)), .inr (some (co)), .inr (some (se)), .inr (some (inp)), .inr (some (ob)), .inl (yr), .inl (ln), .inl (nx), .inl (dn), .inl (en), .inl (hw), .inl (lw)]), .inr (0, nf), .inl (5, [.inr (some (oi)), .inl (nI (0))]), .inr (0, of)] := hm_set (i := 2) (z2 := .inl (5, ([.inr (some (oi)), .inl (nI (os))]).set 1 (.inl (nI (0))))) h rfl
  refine ⟨_, ?_, g1_⟩
  refine xT_aload_n g_q58 g58_0 (rfl) ?_
  refine xT_icV (y := nI (0)) g_q58 g58_1 (by decide) ?_
  refine xT_putfield g_q58 g58_2 (ci := 5) (j := 1) rfl (hm_at h (i := 2) rfl rfl) rfl rfl ?_
  exact xT_return_ g_q58 g58_5 (rfl)
end XH33_8
