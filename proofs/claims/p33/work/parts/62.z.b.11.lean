/-! p33 by hand, 10. -/
noncomputable section XH33_10
variable {ot : XO Int32} {dp : Nat} {H H0 : List (XC Int32)}
theorem t81 {R nu ob oi sp co se inp : Nat} {nf of : List (XV Int32)} {yr ln nx hw lw : Int32} {os : Nat} {p : rP} (hA0 : ¬ 1000000 < R) (hA2 : ¬ 1000000 < ob) (hC : cC H0 [R, nu, ob, oi] co p) (h12 : pNl p ≤ 12) {next d : Nat} (hn : next < 20000) (hd : d ≤ 150) (h : hm H0 H [R, nu, ob, oi] [.inl (4, [.inr (some (nu)), .inr (some (sp)), .inr (some (co)), .inr (some (se)), .inr (some (inp)), .inr (some (ob)), .inl (yr), .inl (ln), .inl (nx), .inl (nI (d)), .inl (-1), .inl (hw), .inl (lw)]), .inr (0, nf), .inl (5, [.inr (some (oi)), .inl (nI (os))]), .inr (0, of)]) : ∃ H2, x_To x_tb x_tyl ot dp 81 0 (x_en 0 [.inr (some (R)), .inl (nI (next))]) [] H 0 0 (none) H2 ∧ hm H0 H2 [R, nu, ob, oi] [.inl (4, [.inr (some (nu)), .inr (some (sp)), .inr (some (co)), .inr (some (se)), .inr (some (inp)), .inr (some (ob)), .inl (yr), .inl (nI (next)), .inl (nx), .inl (nI (d)), .inl ((if pNl p ≤ next then 0 else if d = 150 then 2 else -1)), .inl (hw), .inl (lw)]), .inr (0, nf), .inl (5, [.inr (some (oi)), .inl (nI (os))]), .inr (0, of)] := by
  obtain ⟨hcA, ro, rl, rr, rn, hco, ⟨hro0, lro, cro, nro, ero⟩, ⟨hrl0, lrl, crl, nrl, erl⟩, ⟨hrr0, lrr, crr, nrr, err⟩, ⟨hrn0, lrn, crn, nrn, ern⟩⟩ := id hC
  by_cases c1 : pNl p ≤ next
  · rw [if_pos c1]
    have g1_ : hm H0 _ [R, nu, ob, oi] [.inl (4, [.inr (some (nu)), .inr (some (sp)), .inr (some (co)), .inr (some (se)), .inr (some (inp)), .inr (some (ob)), .inl (yr), .inl (nI (next)), .inl (nx), .inl (nI (d)), .inl (-1), .inl (hw), .inl (lw)]), .inr (0, nf), .inl (5, [.inr (some (oi)), .inl (nI (os))]), .inr (0, of)] := hm_set (i := 0) (z2 := .inl (4, ([.inr (some (nu)), .inr (some (sp)), .inr (some (co)), .inr (some (se)), .inr (some (inp)), .inr (some (ob)), .inl (yr), .inl (ln), .inl (nx), .inl (nI (d)), .inl (-1), .inl (hw), .inl (lw)]).set 7 (.inl (nI (next))))) h rfl
    have g2_ : hm H0 _ [R, nu, ob, oi] [.inl (4, [.inr (some (nu)), .inr (some (sp)), .inr (some (co)), .inr (some (se)), .inr (some (inp)), .inr (some (ob)), .inl (yr), .inl (nI (next)), .inl (nx), .inl (nI (d)), .inl (nI (0)), .inl (hw), .inl (lw)]), .inr (0, nf), .inl (5, [.inr (some (oi)), .inl (nI (os))]), .inr (0, of)] := hm_set (i := 0) (z2 := .inl (4, ([.inr (some (nu)), .inr (some (sp)), .inr (some (co)), .inr (some (se)), .inr (some (inp)), .inr (some (ob)), .inl (yr), .inl (nI (next)), .inl (nx), .inl (nI (d)), .inl (-1), .inl (hw), .inl (lw)]).set 10 (.inl (nI (0))))) g1_ rfl
    refine ⟨_, ?_, g2_⟩
    refine xT_aload_n g_q81 g81_0 (rfl) ?_
    refine xT_iload_n g_q81 g81_1 (rfl) ?_
    refine xT_putfield g_q81 g81_2 (ci := 4) (j := 7) rfl (hm_at h (i := 0) rfl rfl) rfl rfl ?_
    refine xT_aload_n g_q81 g81_5 (rfl) ?_
    refine xT_getfield g_q81 g81_6 hA0 rfl (hm_at g1_ (i := 0) rfl rfl) rfl rfl ?_
    refine xT_aload_n g_q81 g81_9 (rfl) ?_
    refine xT_getfield g_q81 g81_10 hA0 rfl (hm_at g1_ (i := 0) rfl rfl) rfl rfl ?_
    refine xT_getfield g_q81 g81_13 hcA rfl (hm_c g1_ hco) rfl rfl ?_
    refine xT_if_icmpN g_q81 g81_16 (t := 27) (by decide) (c2N (a := next) (b := pNl p) (by omega) (by omega) (by omega)) ?_
    refine xT_aload_n g_q81 g81_19 (rfl) ?_
    refine xT_icV (y := nI (0)) g_q81 g81_20 (by decide) ?_
    refine xT_putfield g_q81 g81_21 (ci := 4) (j := 10) rfl (hm_at g1_ (i := 0) rfl rfl) rfl rfl ?_
    refine xT_goto g_q81 g81_24 (t := 42) (by decide) ?_
    exact xT_return_ g_q81 g81_42 (rfl)
  rw [if_neg c1]
  by_cases c2 : d = 150
  · rw [if_pos c2]
    have g1_ : hm H0 _ [R, nu, ob, oi] [.inl (4, [.inr (some (nu)), .inr (some (sp)), .inr (some (co)), .inr (some (se)), .inr (some (inp)), .inr (some (ob)), .inl (yr), .inl (nI (next)), .inl (nx), .inl (nI (d)), .inl (-1), .inl (hw), .inl (lw)]), .inr (0, nf), .inl (5, [.inr (some (oi)), .inl (nI (os))]), .inr (0, of)] := hm_set (i := 0) (z2 := .inl (4, ([.inr (some (nu)), .inr (some (sp)), .inr (some (co)), .inr (some (se)), .inr (some (inp)), .inr (some (ob)), .inl (yr), .inl (ln), .inl (nx), .inl (nI (d)), .inl (-1), .inl (hw), .inl (lw)]).set 7 (.inl (nI (next))))) h rfl
    have g2_ : hm H0 _ [R, nu, ob, oi] [.inl (4, [.inr (some (nu)), .inr (some (sp)), .inr (some (co)), .inr (some (se)), .inr (some (inp)), .inr (some (ob)), .inl (yr), .inl (nI (next)), .inl (nx), .inl (nI (d)), .inl (nI (2)), .inl (hw), .inl (lw)]), .inr (0, nf), .inl (5, [.inr (some (oi)), .inl (nI (os))]), .inr (0, of)] := hm_set (i := 0) (z2 := .inl (4, ([.inr (some (nu)), .inr (some (sp)), .inr (some (co)), .inr (some (se)), .inr (some (inp)), .inr (some (ob)), .inl (yr), .inl (nI (next)), .inl (nx), .inl (nI (d)), .inl (-1), .inl (hw), .inl (lw)]).set 10 (.inl (nI (2))))) g1_ rfl
    refine ⟨_, ?_, g2_⟩
    refine xT_aload_n g_q81 g81_0 (rfl) ?_
    refine xT_iload_n g_q81 g81_1 (rfl) ?_
    refine xT_putfield g_q81 g81_2 (ci := 4) (j := 7) rfl (hm_at h (i := 0) rfl rfl) rfl rfl ?_
    refine xT_aload_n g_q81 g81_5 (rfl) ?_
    refine xT_getfield g_q81 g81_6 hA0 rfl (hm_at g1_ (i := 0) rfl rfl) rfl rfl ?_
    refine xT_aload_n g_q81 g81_9 (rfl) ?_
    refine xT_getfield g_q81 g81_10 hA0 rfl (hm_at g1_ (i := 0) rfl rfl) rfl rfl ?_
    refine xT_getfield g_q81 g81_13 hcA rfl (hm_c g1_ hco) rfl rfl ?_
    refine xT_if_icmpY g_q81 g81_16 (t := 27) (by decide) (c2Y (a := next) (b := pNl p) (by omega) (by omega) (by omega)) ?_
    refine xT_aload_n g_q81 g81_27 (rfl) ?_
    refine xT_getfield g_q81 g81_28 hA0 rfl (hm_at g1_ (i := 0) rfl rfl) rfl rfl ?_
    refine xT_siV (y := nI (150)) g_q81 g81_31 (by decide) ?_
    refine xT_if_icmpN g_q81 g81_34 (t := 42) (by decide) (c2N (a := d) (b := 150) (by omega) (by omega) (by omega)) ?_
    refine xT_aload_n g_q81 g81_37 (rfl) ?_
    refine xT_icV (y := nI (2)) g_q81 g81_38 (by decide) ?_
    refine xT_putfield g_q81 g81_39 (ci := 4) (j := 10) rfl (hm_at g1_ (i := 0) rfl rfl) rfl rfl ?_
    exact xT_return_ g_q81 g81_42 (rfl)
  · rw [if_neg c2]
    have g1_ : hm H0 _ [R, nu, ob, oi] [.inl (4, [.inr (some (nu)), .inr (some (sp)), .inr (some (co)), .inr (some (se)), .inr (some (inp)), .inr (some (ob)), .inl (yr), .inl (nI (next)), .inl (nx), .inl (nI (d)), .inl (-1), .inl (hw), .inl (lw)]), .inr (0, nf), .inl (5, [.inr (some (oi)), .inl (nI (os))]), .inr (0, of)] := hm_set (i := 0) (z2 := .inl (4, ([.inr (some (nu)), .inr (some (sp)), .inr (some (co)), .inr (some (se)), .inr (some (inp)), .inr (some (ob)), .inl (yr), .inl (ln), .inl (nx), .inl (nI (d)), .inl (-1), .inl (hw), .inl (lw)]).set 7 (.inl (nI (next))))) h rfl
    refine ⟨_, ?_, g1_⟩
    refine xT_aload_n g_q81 g81_0 (rfl) ?_
    refine xT_iload_n g_q81 g81_1 (rfl) ?_
    refine xT_putfield g_q81 g81_2 (ci := 4) (j := 7) rfl (hm_at h (i := 0) rfl rfl) rfl rfl ?_
    refine xT_aload_n g_q81 g81_5 (rfl) ?_
    refine xT_getfield g_q81 g81_6 hA0 rfl (hm_at g1_ (i := 0) rfl rfl) rfl rfl ?_
    refine xT_aload_n g_q81 g81_9 (rfl) ?_
    refine xT_getfield g_q81 g81_10 hA0 rfl (hm_at g1_ (i := 0) rfl rfl) rfl rfl ?_
    refine xT_getfield g_q81 g81_13 hcA rfl (hm_c g1_ hco) rfl rfl ?_
    refine xT_if_icmpY g_q81 g81_16 (t := 27) (by decide) (c2Y (a := next) (b := pNl p) (by omega) (by omega) (by omega)) ?_
    refine xT_aload_n g_q81 g81_27 (rfl) ?_
    refine xT_getfield g_q81 g81_28 hA0 rfl (hm_at g1_ (i := 0) rfl rfl) rfl rfl ?_
    refine xT_siV (y := nI (150)) g_q81 g81_31 (by decide) ?_
    refine xT_if_icmpY g_q81 g81_34 (t := 42) (by decide) (c2Y (a := d) (b := 150) (by omega) (by omega) (by omega)) ?_
    exact xT_return_ g_q81 g81_42 (rfl)
end XH33_10
