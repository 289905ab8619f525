/-! p33 by hand, 5. -/
noncomputable section XH33_5
variable {ot : XO Int32} {dp : Nat} {H H0 : List (XC Int32)}
theorem t68r {R nu ob oi sp co se inp : Nat} {nf of : List (XV Int32)} {yr ln nx dn hw lw : Int32} {os : Nat} (hA0 : ¬ 1000000 < R) (hA2 : ¬ 1000000 < ob) (h : hm H0 H [R, nu, ob, oi] [.inl (4, [.inr (some (nu)), .inr (some (sp)), .inr (some (co)), .inr (some (se)), .inr (some (inp)), .inr (some (ob)), .inl (yr), .inl (ln), .inl (nx), .inl (dn), .inl (-1), .inl (hw), .inl (lw)]), .inr (0, nf), .inl (5, [.inr (some (oi)), .inl (nI (os))]), .inr (0, of)]) : x_To x_tb x_tyl ot dp 68 0 (x_en 0 [.inr (some (R))]) [] H 0 0 (some (.inl (nI 0))) H := by
  refine xT_aload_n g_q68 g68_0 (rfl) ?_
  refine xT_getfield g_q68 g68_1 hA0 rfl (hm_at h (i := 0) rfl rfl) rfl rfl ?_
  refine xT_icV (y := -1) g_q68 g68_4 (by decide) ?_
  refine xT_if_icmpY g_q68 g68_5 (t := 12) (by decide) ((by decide +kernel)) ?_
  refine xT_icV (y := nI (0)) g_q68 g68_12 (by decide) ?_
  exact xT_ireturn g_q68 g68_13 (by decide +kernel)
theorem t68o {R nu ob oi sp co se inp : Nat} {nf of : List (XV Int32)} {yr ln nx dn en hw lw : Int32} {os : Nat} (hA0 : ¬ 1000000 < R) (hA2 : ¬ 1000000 < ob) (h : hm H0 H [R, nu, ob, oi] [.inl (4, [.inr (some (nu)), .inr (some (sp)), .inr (some (co)), .inr (some (se)), .inr (some (inp)), .inr (some (ob)), .inl (yr), .inl (ln), .inl (nx), .inl (dn), .inl (en), .inl (hw), .inl (lw)]), .inr (0, nf), .inl (5, [.inr (some (oi)), .inl (nI (os))]), .inr (0, of)]) (he : ¬ en = -1) : x_To x_tb x_tyl ot dp 68 0 (x_en 0 [.inr (some (R))]) [] H 0 0 (some (.inl (nI 1))) H := by
  refine xT_aload_n g_q68 g68_0 (rfl) ?_
  refine xT_getfield g_q68 g68_1 hA0 rfl (hm_at h (i := 0) rfl rfl) rfl rfl ?_
  refine xT_icV (y := -1) g_q68 g68_4 (by decide) ?_
  refine xT_if_icmpN g_q68 g68_5 (t := 12) (by decide) (decide_eq_false he) ?_
  refine xT_icV (y := nI (1)) g_q68 g68_8 (by decide) ?_
  refine xT_goto g_q68 g68_9 (t := 13) (by decide) ?_
  exact xT_ireturn g_q68 g68_13 (by decide +kernel)
end XH33_5
