/-! p33 by hand, 9. -/
noncomputable section XH33_9
variable {ot : XO Int32} {dp : Nat} {H H0 : List (XC Int32)}
theorem t61y {R nu ob oi sp co se inp : Nat} {nf of : List (XV Int32)} {yr ln nx dn en hw lw : Int32} {os : Nat} (hA0 : ¬ 1000000 < R) (hA2 : ¬ 1000000 < ob) (hN1 : ¬ nu = 1000000) (hN3 : ¬ oi = 1000000) (hnl : nf.length = 6) (hol : of.length = 12) (h : hm H0 H [R, nu, ob, oi] [.inl (4, [.inr (some (nu)), .inr (some (sp)), .inr (some (co)), .inr (some (se)), .inr (some (inp)), .inr (some (ob)), .inl (yr), .inl (ln), .inl (nx), .inl (dn), .inl (en), .inl (hw), .inl (lw)]), .inr (0, nf), .inl (5, [.inr (some (oi)), .inl (nI (os))]), .inr (0, of)]) {v : Int32} (ho : os < 12) : ∃ H2, x_To x_tb x_tyl ot dp 61 0 (x_en 0 [.inr (some (ob)), .inl (v)]) [] H 0 0 (some (.inl (nI 1))) H2 ∧ hm H0 H2 [R, nu, ob, oi] [.inl (4, [.inr (some (nu)), .inr (some (sp)), .inr (some (co)), .inr (some (se)), .inr (some (inp)), .inr (some (ob)), .inl (yr), .inl (ln), .inl (nx), .inl (dn), .inl (en), .inl (hw), .inl (lw)]), .inr (0, nf), .inl (5, [.inr (some (oi)), .inl (nI (os + 1))]), .inr (0, (of).set (os) (.inl (v)))] := by
  have g1_ : hm H0 _ [R, nu, ob, oi] [.inl (4, [.inr (some (nu)), .inr (some (sp)), .inr (some (co)), .inr (some (se)), .inr (some (inp)), .inr (some (ob)), .inl (yr), .inl (ln), .inl (nx), .inl (dn), .inl (en), .inl (hw), .inl (lw)]), .inr (0, nf), .inl (5, [.inr (some (oi)), .inl (nI (os))]), .inr (0, (of).set (os) (.inl (v)))] := hm_set (i := 3) (z2 := .inr (0, (of).set (os) (.inl (v)))) h rfl
  have g2_ : hm H0 _ [R, nu, ob, oi] [.inl (4, [.inr (some (nu)), .inr (some (sp)), .inr (some (co)), .inr (some (se)), .inr (some (inp)), .inr (some (ob)), .inl (yr), .inl (ln), .inl (nx), .inl (dn), .inl (en), .inl (hw), .inl (lw)]), .inr (0, nf), .inl (5, [.inr (some (oi)), .inl (nI (os + 1))]), .inr (0, (of).set (os) (.inl (v)))] := hm_set (i := 2) (z2 := .inl (5, ([.inr (some (oi)), .inl (nI (os))]).set 1 (.inl (nI (os + 1))))) g1_ rfl
  refine ⟨_, ?_, g2_⟩
  refine xT_aload_n g_q61 g61_0 (rfl) ?_
  refine xT_getfield g_q61 g61_1 hA2 rfl (hm_at h (i := 2) rfl rfl) rfl rfl ?_
  refine xT_biV (y := nI (12)) g_q61 g61_4 (by decide) ?_
  refine xT_if_icmpY g_q61 g61_6 (t := 11) (by decide) (c2Y (a := os) (b := 12) (by omega) (by omega) (by omega)) ?_
  refine xT_aload_n g_q61 g61_11 (rfl) ?_
  refine xT_getfield g_q61 g61_12 hA2 rfl (hm_at h (i := 2) rfl rfl) rfl rfl ?_
  refine xT_aload_n g_q61 g61_15 (rfl) ?_
  refine xT_getfield g_q61 g61_16 hA2 rfl (hm_at h (i := 2) rfl rfl) rfl rfl ?_
  refine xT_iload_n g_q61 g61_19 (rfl) ?_
  refine xT_iastore g_q61 g61_20 (hm_at h (i := 3) rfl rfl) (ixN (n := 12) (by omega) hol) ?_
  rw [nI_clamp (by omega)]
  refine xT_aload_n g_q61 g61_21 (rfl) ?_
  refine xT_dup g_q61 g61_22 ?_
  refine xT_getfield g_q61 g61_23 hA2 rfl (hm_at g1_ (i := 2) rfl rfl) rfl rfl ?_
  refine xT_icV (y := nI (1)) g_q61 g61_26 (by decide) ?_
  refine xT_iaddV (y := nI (os + 1)) g_q61 g61_27 (bAddN _ _) ?_
  refine xT_putfield g_q61 g61_28 (ci := 5) (j := 1) rfl (hm_at g1_ (i := 2) rfl rfl) rfl rfl ?_
  refine xT_icV (y := nI (1)) g_q61 g61_31 (by decide) ?_
  exact xT_ireturn g_q61 g61_32 (by decide +kernel)
theorem t61n {R nu ob oi sp co se inp : Nat} {nf of : List (XV Int32)} {yr ln nx dn en hw lw : Int32} {os : Nat} (hA0 : ¬ 1000000 < R) (hA2 : ¬ 1000000 < ob) (h : hm H0 H [R, nu, ob, oi] [.inl (4, [.inr (some (nu)), .inr (some (sp)), .inr (some (co)), .inr (some (se)), .inr (some (inp)), .inr (some (ob)), .inl (yr), .inl (ln), .inl (nx), .inl (dn), .inl (en), .inl (hw), .inl (lw)]), .inr (0, nf), .inl (5, [.inr (some (oi)), .inl (nI (os))]), .inr (0, of)]) {v : Int32} (ho : 12 ≤ os) (ho2 : os ≤ 12) : x_To x_tb x_tyl ot dp 61 0 (x_en 0 [.inr (some (ob)), .inl (v)]) [] H 0 0 (some (.inl (nI 0))) H := by
  refine xT_aload_n g_q61 g61_0 (rfl) ?_
  refine xT_getfield g_q61 g61_1 hA2 rfl (hm_at h (i := 2) rfl rfl) rfl rfl ?_
  refine xT_biV (y := nI (12)) g_q61 g61_4 (by decide) ?_
  refine xT_if_icmpN g_q61 g61_6 (t := 11) (by decide) (c2N (a := os) (b := 12) (by omega) (by omega) (by omega)) ?_
  refine xT_icV (y := nI (0)) g_q61 g61_9 (by decide) ?_
  exact xT_ireturn g_q61 g61_10 (by decide +kernel)
end XH33_9
