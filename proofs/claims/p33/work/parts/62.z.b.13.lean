/-! p33 by hand, 12. -/
noncomputable section XH33_12
variable {ot : XO Int32} {dp : Nat} {H H0 : List (XC Int32)}
theorem t75y {R nu ob oi sp co se inp : Nat} {nf of : List (XV Int32)} {yr ln nx dn en hw lw : Int32} {os : Nat} {nu_ : Nat → Int32} (hA0 : ¬ 1000000 < R) (hA2 : ¬ 1000000 < ob) (hN1 : ¬ nu = 1000000) (hN3 : ¬ oi = 1000000) (hnl : nf.length = 6) (hol : of.length = 12) (hnf : ∀ k, k < 6 → nf[k]? = some (.inl (nu_ k))) {f : Nat} (hf : f < 6) (ho : os < 12) (h : hm H0 H [R, nu, ob, oi] [.inl (4, [.inr (some (nu)), .inr (some (sp)), .inr (some (co)), .inr (some (se)), .inr (some (inp)), .inr (some (ob)), .inl (yr), .inl (ln), .inl (nx), .inl (dn), .inl (en), .inl (hw), .inl (lw)]), .inr (0, nf), .inl (5, [.inr (some (oi)), .inl (nI (os))]), .inr (0, of)]) : ∃ H2, x_To x_tb x_tyl ot (dp + 1) 75 0 (x_en 0 [.inr (some (R)), .inl (nI (f))]) [] H 0 0 (none) H2 ∧ hm H0 H2 [R, nu, ob, oi] [.inl (4, [.inr (some (nu)), .inr (some (sp)), .inr (some (co)), .inr (some (se)), .inr (some (inp)), .inr (some (ob)), .inl (yr), .inl (ln), .inl (nx), .inl (dn), .inl (en), .inl (nI (1)), .inl (nu_ (f))]), .inr (0, nf), .inl (5, [.inr (some (oi)), .inl (nI (os + 1))]), .inr (0, (of).set (os) (.inl (nu_ (f))))] := by
  obtain ⟨G1, y1_, g1_⟩ := t61y (dp := dp) (v := nu_ (f)) hA0 hA2 hN1 hN3 hnl hol h ho
  have g1_ : hm H0 G1 [R, nu, ob, oi] [.inl (4, [.inr (some (nu)), .inr (some (sp)), .inr (some (co)), .inr (some (se)), .inr (some (inp)), .inr (some (ob)), .inl (yr), .inl (ln), .inl (nx), .inl (dn), .inl (en), .inl (hw), .inl (lw)]), .inr (0, nf), .inl (5, [.inr (some (oi)), .inl (nI (os + 1))]), .inr (0, (of).set (os) (.inl (nu_ (f))))] := g1_
  have g2_ : hm H0 _ [R, nu, ob, oi] [.inl (4, [.inr (some (nu)), .inr (some (sp)), .inr (some (co)), .inr (some (se)), .inr (some (inp)), .inr (some (ob)), .inl (yr), .inl (ln), .inl (nx), .inl (dn), .inl (en), .inl (nI (1)), .inl (lw)]), .inr (0, nf), .inl (5, [.inr (some (oi)), .inl (nI (os + 1))]), .inr (0, (of).set (os) (.inl (nu_ (f))))] := hm_set (i := 0) (z2 := .inl (4, ([.inr (some (nu)), .inr (some (sp)), .inr (some (co)), .inr (some (se)), .inr (some (inp)), .inr (some (ob)), .inl (yr), .inl (ln), .inl (nx), .inl (dn), .inl (en), .inl (hw), .inl (lw)]).set 11 (.inl (nI (1))))) g1_ rfl
  have g3_ : hm H0 _ [R, nu, ob, oi] [.inl (4, [.inr (some (nu)), .inr (some (sp)), .inr (some (co)), .inr (some (se)), .inr (some (inp)), .inr (some (ob)), .inl (yr), .inl (ln), .inl (nx), .inl (dn), .inl (en), .inl (nI (1)), .inl (nu_ (f))]), .inr (0, nf), .inl (5, [.inr (some (oi)), .inl (nI (os + 1))]), .inr (0, (of).set (os) (.inl (nu_ (f))))] := hm_set (i := 0) (z2 := .inl (4, ([.inr (some (nu)), .inr (some (sp)), .inr (some (co)), .inr (some (se)), .inr (some (inp)), .inr (some (ob)), .inl (yr), .inl (ln), .inl (nx), .inl (dn), .inl (en), .inl (nI (1)), .inl (lw)]).set 12 (.inl (nu_ (f))))) g2_ rfl
  refine ⟨_, ?_, g3_⟩
  refine xT_aload_n g_q75 g75_0 (rfl) ?_
  refine xT_aload_n g_q75 g75_1 (rfl) ?_
  refine xT_getfield g_q75 g75_2 hA0 rfl (hm_at h (i := 0) rfl rfl) rfl rfl ?_
  refine xT_aload_n g_q75 g75_5 (rfl) ?_
  refine xT_getfield g_q75 g75_6 hA0 rfl (hm_at h (i := 0) rfl rfl) rfl rfl ?_
  refine xT_iload_n g_q75 g75_9 (rfl) ?_
  refine xT_iaload g_q75 g75_10 hN1 (hm_at h (i := 1) rfl rfl) (ixN (n := 6) (by omega) hnl) (ixG (by omega) (hnf _ (by omega))) ?_
  refine xT_invokevirtual (r := [.inr (some (R))]) (u := some (.inl (nI (1)))) g_q75 g75_11 (j := 61) (so := 0) (by decide +kernel) g_q61 rfl (by rw [x_rcM hA2 (hm_at h (i := 2) rfl rfl)]; rfl) (y1_) ?_
  refine xT_putfield g_q75 g75_14 (ci := 4) (j := 11) rfl (hm_at g1_ (i := 0) rfl rfl) rfl rfl ?_
  refine xT_aload_n g_q75 g75_17 (rfl) ?_
  refine xT_aload_n g_q75 g75_18 (rfl) ?_
  refine xT_getfield g_q75 g75_19 hA0 rfl (hm_at g2_ (i := 0) rfl rfl) rfl rfl ?_
  refine xT_iload_n g_q75 g75_22 (rfl) ?_
  refine xT_iaload g_q75 g75_23 hN1 (hm_at g2_ (i := 1) rfl rfl) (ixN (n := 6) (by omega) hnl) (ixG (by omega) (hnf _ (by omega))) ?_
  refine xT_putfield g_q75 g75_24 (ci := 4) (j := 12) rfl (hm_at g2_ (i := 0) rfl rfl) rfl rfl ?_
  refine xT_aload_n g_q75 g75_27 (rfl) ?_
  refine xT_getfield g_q75 g75_28 hA0 rfl (hm_at g3_ (i := 0) rfl rfl) rfl rfl ?_
  refine xT_ifCondY g_q75 g75_31 (t := 39) (by decide) (c1Y (a := 1) (b := 0) (by omega) (by omega) (by omega)) ?_
  exact xT_return_ g_q75 g75_39 (rfl)
theorem t75n {R nu ob oi sp co se inp : Nat} {nf of : List (XV Int32)} {yr ln nx dn en hw lw : Int32} {os : Nat} {nu_ : Nat → Int32} (hA0 : ¬ 1000000 < R) (hA2 : ¬ 1000000 < ob) (hN1 : ¬ nu = 1000000) (hN3 : ¬ oi = 1000000) (hnl : nf.length = 6) (hol : of.length = 12) (hnf : ∀ k, k < 6 → nf[k]? = some (.inl (nu_ k))) {f : Nat} (hf : f < 6) (ho : 12 ≤ os) (ho2 : os ≤ 12) (h : hm H0 H [R, nu, ob, oi] [.inl (4, [.inr (some (nu)), .inr (some (sp)), .inr (some (co)), .inr (some (se)), .inr (some (inp)), .inr (some (ob)), .inl (yr), .inl (ln), .inl (nx), .inl (dn), .inl (en), .inl (hw), .inl (lw)]), .inr (0, nf), .inl (5, [.inr (some (oi)), .inl (nI (os))]), .inr (0, of)]) : ∃ H2, x_To x_tb x_tyl ot (dp + 1) 75 0 (x_en 0 [.inr (some (R)), .inl (nI (f))]) [] H 0 0 (none) H2 ∧ hm H0 H2 [R, nu, ob, oi] [.inl (4, [.inr (some (nu)), .inr (some (sp)), .inr (some (co)), .inr (some (se)), .inr (some (inp)), .inr (some (ob)), .inl (yr), .inl (ln), .inl (nx), .inl (dn), .inl (nI (1)), .inl (nI (0)), .inl (nu_ (f))]), .inr (0, nf), .inl (5, [.inr (some (oi)), .inl (nI (os))]), .inr (0, of)] := by
  have g1_ : hm H0 _ [R, nu, ob, oi] [.inl (4, [.inr (some (nu)), .inr (some (sp)), .inr (some (co)), .inr (some (se)), .inr (some (inp)), .inr (some (ob)), .inl (yr), .inl (ln), .inl (nx), .inl (dn), .inl (en), .inl (nI (0)), .inl (lw)]), .inr (0, nf), .inl (5, [.inr (some (oi)), .inl (nI (os))]), .inr (0, of)] := hm_set (i := 0) (z2 := .inl (4, ([.inr (some (nu)), .inr (some (sp)), .inr (some (co)), .inr (some (se)), .inr (some (inp)), .inr (some (ob)), .inl (yr), .inl (ln), .inl (nx), .inl (dn), .inl (en), .inl (hw), .inl (lw)]).set 11 (.inl (nI (0))))) h rfl
  have g2_ : hm H0 _ [R, nu, ob, oi] [.inl (4, [.inr (some (nu)), .inr (some (sp)), .inr (some (co)), .inr (some (se)), .inr (some (inp)), .inr (some (ob)), .inl (yr), .inl (ln), .inl (nx), .inl (dn), .inl (en), .inl (nI (0)), .inl (nu_ (f))]), .inr (0, nf), .inl (5, [.inr (some (oi)), .inl (nI (os))]), .inr (0, of)] := hm_set (i := 0) (z2 := .inl (4, ([.inr (some (nu)), .inr (some (sp)), .inr (some (co)), .inr (some (se)), .inr (some (inp)), .inr (some (ob)), .inl (yr), .inl (ln), .inl (nx), .inl (dn), .inl (en), .inl (nI (0)), .inl (lw)]).set 12 (.inl (nu_ (f))))) g1_ rfl
  have g3_ : hm H0 _ [R, nu, ob, oi] [.inl (4, [.inr (some (nu)), .inr (some (sp)), .inr (some (co)), .inr (some (se)), .inr (some (inp)), .inr (some (ob)), .inl (yr), .inl (ln), .inl (nx), .inl (dn), .inl (nI (1)), .inl (nI (0)), .inl (nu_ (f))]), .inr (0, nf), .inl (5, [.inr (some (oi)), .inl (nI (os))]), .inr (0, of)] := hm_set (i := 0) (z2 := .inl (4, ([.inr (some (nu)), .inr (some (sp)), .inr (some (co)), .inr (some (se)), .inr (some (inp)), .inr (some (ob)), .inl (yr), .inl (ln), .inl (nx), .inl (dn), .inl (en), .inl (nI (0)), .inl (nu_ (f))]).set 10 (.inl (nI (1))))) g2_ rfl
  refine ⟨_, ?_, g3_⟩
  refine xT_aload_n g_q75 g75_0 (rfl) ?_
  refine xT_aload_n g_q75 g75_1 (rfl) ?_
  refine xT_getfield g_q75 g75_2 hA0 rfl (hm_at h (i := 0) rfl rfl) rfl rfl ?_
  refine xT_aload_n g_q75 g75_5 (rfl) ?_
  refine xT_getfield g_q75 g75_6 hA0 rfl (hm_at h (i := 0) rfl rfl) rfl rfl ?_
  refine xT_iload_n g_q75 g75_9 (rfl) ?_
  refine xT_iaload g_q75 g75_10 hN1 (hm_at h (i := 1) rfl rfl) (ixN (n := 6) (by omega) hnl) (ixG (by omega) (hnf _ (by omega))) ?_
  refine xT_invokevirtual (r := [.inr (some (R))]) (u := some (.inl (nI (0)))) g_q75 g75_11 (j := 61) (so := 0) (by decide +kernel) g_q61 rfl (by rw [x_rcM hA2 (hm_at h (i := 2) rfl rfl)]; rfl) (t61n hA0 hA2 h ho ho2) ?_
  refine xT_putfield g_q75 g75_14 (ci := 4) (j := 11) rfl (hm_at h (i := 0) rfl rfl) rfl rfl ?_
  refine xT_aload_n g_q75 g75_17 (rfl) ?_
  refine xT_aload_n g_q75 g75_18 (rfl) ?_
  refine xT_getfield g_q75 g75_19 hA0 rfl (hm_at g1_ (i := 0) rfl rfl) rfl rfl ?_
  refine xT_iload_n g_q75 g75_22 (rfl) ?_
  refine xT_iaload g_q75 g75_23 hN1 (hm_at g1_ (i := 1) rfl rfl) (ixN (n := 6) (by omega) hnl) (ixG (by omega) (hnf _ (by omega))) ?_
  refine xT_putfield g_q75 g75_24 (ci := 4) (j := 12) rfl (hm_at g1_ (i := 0) rfl rfl) rfl rfl ?_
  refine xT_aload_n g_q75 g75_27 (rfl) ?_
  refine xT_getfield g_q75 g75_28 hA0 rfl (hm_at g2_ (i := 0) rfl rfl) rfl rfl ?_
  refine xT_ifCondN g_q75 g75_31 (t := 39) (by decide) (c1N (b := 0) rfl) ?_
  refine xT_aload_n g_q75 g75_34 (rfl) ?_
  refine xT_icV (y := nI (1)) g_q75 g75_35 (by decide) ?_
  refine xT_putfield g_q75 g75_36 (ci := 4) (j := 10) rfl (hm_at g2_ (i := 0) rfl rfl) rfl rfl ?_
  exact xT_return_ g_q75 g75_39 (rfl)
end XH33_12
