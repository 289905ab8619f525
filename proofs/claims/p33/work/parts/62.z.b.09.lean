/-! p33 by hand, 8. -/
noncomputable section XH33_8
variable {ot : XO Int32} {dp : Nat} {H H0 : List (XC Int32)}
theorem t58 {R nu ob oi sp co se inp : Nat} {nf of : List (XV Int32)} {yr ln nx dn en hw lw : Int32} {os : Nat} (hA0 : ¬ 1000000 < R) (hA2 : ¬ 1000000 < ob) (h : hm H0 H [R, nu, ob, oi] [.inl (4, [.inr (some (nu)), .inr (some (sp)), .inr (some (co)), .inr (some (se)), .inr (some (inp)), .inr (some (ob)), .inl (yr), .inl (ln), .inl (nx), .inl (dn), .inl (en), .inl (hw), .inl (lw)]), .inr (0, nf), .inl (5, [.inr (some (oi)), .inl (nI (os))]), .inr (0, of)]) : ∃ H2, x_To x_tb x_tyl ot dp 58 0 (x_en 0 [.inr (some (ob))]) [] H 0 0 (none) H2 ∧ hm H0 H2 [R, nu, ob, oi] [.inl (4, [.inr (some (nu)), .inr (some (sp)), .inr (some (co)), .inr (some (se)), .inr (some (inp)), .inr (some (ob)), .inl (yr), .inl (ln), .inl (nx), .inl (dn), .inl (en), .inl (hw), .inl (lw)]), .inr (0, nf), .inl (5, [.inr (some (oi)), .inl (nI (0))]), .inr (0, of)] := by
  have g1_ : hm H0 _ [R, nu, ob, oi] [.inl (4, [.inr (some (nu)), .inr (some (sp)), .inr (some (co)), .inr (some (se)), .inr (some (inp)), .inr (some (ob)), .inl (yr), .inl (ln), .inl (nx), .inl (dn), .inl (en), .inl (hw), .inl (lw)]), .inr (0, nf), .inl (5, [.inr (some (oi)), .inl (nI (0))]), .inr (0, of)] := hm_set (i := 2) (z2 := .inl (5, ([.inr (some (oi)), .inl (nI (os))]).set 1 (.inl (nI (0))))) h rfl
  refine ⟨_, ?_, g1_⟩
  refine xT_aload_n g_q58 g58_0 (rfl) ?_
  refine xT_icV (y := nI (0)) g_q58 g58_1 (by decide) ?_
  refine xT_putfield g_q58 g58_2 (ci := 5) (j := 1) rfl (hm_at h (i := 2) rfl rfl) rfl rfl ?_
  exact xT_return_ g_q58 g58_5 (rfl)
end XH33_8
/-! p33 by hand, 9. -/
noncomputable section XH33_9
variable {ot : XO Int32} {dp : Nat} {H H0 : List (XC Int32)}
theorem t61y {R nu ob oi sp co se inp : Nat} {nf of : List (XV Int32)} {yr ln nx dn en hw lw : Int32} {os : Nat} (hA0 : ¬ 1000000 < R) (hA2 : ¬ 1000000 < ob) (hN1 : ¬ nu = 1000000) (hN3 : ¬ oi = 1000000) (hnl : nf.length = 6) (hol : of.length = 12) (h : hm H0 H [R, nu, ob, oi] [.inl (4, [.inr (some (nu)), .inr (some (sp)), .inr (some (co)), .inr (some (se)), .inr (some (inp)), .inr (some (ob)), .inl (yr), .inl (ln), .inl (nx), .inl (dn), .inl (en), .inl (hw), .inl (lw)]), .inr (0, nf), .inl (5, [.inr (some (oi)), .inl (nI (os))]), .inr (0, of)]) {v : Int32} (ho : os < 12) : ∃ H2, x_To x_tb x_tyl ot dp 61 0 (x_en 0 [.inr (some (ob)), .inl (v)]) [] H 0 0 (some (.inl (nI 1))) H2 ∧ hm H0 H2 [R, nu, ob, oi] [.inl (4, [.inr (some (nu)), .inr (some (sp)), .inr (some (co)), .inr (some (se)), .inr (some (inp)), .inr (some (ob)), .inl (yr), .inl (ln), .inl (nx), .inl (dn), .inl (en), .inl (hw), .inl (lw)]), .inr (0, nf), .inl (5, [.inr (some (oi)), .inl (nI (os + 1))]), .inr (0, (of).set (os) (.inl (v)))] := by
  have g1_ : hm H0 _ [R, nu, ob, oi] [.inl (4, [.inr (some (nu)), .inr (some (sp)), .inr (some (co)), .inr (some (se)), .inr (some (inp)), .inr (some (ob)), .inl (yr), .inl (ln), .inl (nx), .inl (dn), .inl (en), .inl (hw), .inl (lw)]), .inr (0, nf), .inl (5, [.inr (some (oi)), .inl (nI (os))]), .inr (0, (of).set (os) (.inl (v)))] := hm_set (i := 3) (z2 := .inr (0, (of).set (os) (.inl (v)))) h rfl
  have g2_ : hm H0 _ [R, nu, ob, oi] [.inl (4, [.inr (some (nu)), .inr (some (sp)), .inr (some (co)), .inr (some (se)), .inr (some (inp)), .inr (some (ob)), .inl (yr), .inl (ln), .inl (nx), .inl (dn), .inl (en), .inl (hw), .inl (lw)]), .inr (0, nf), .inl (5, [.inr (some (oi)), .inl (nI (os + 1))]), .inr (0, (of).set (os) (.inl (v)))] := hm_set (i := 2) (z2 := .inl (5, ([.inr (some (oi)), .inl (nI (os))]).set 1 (.inl (nI (os + 1))))) g1_ rfl
  refine ⟨_, ?_, g2_⟩
  refine xT_aload_n g_q61 g61_0 (rfl) ?_
  refine xT_getfield g_q61 g61_1 hA2 rfl (hm_at h (i := 2) rfl rfl) rfl rfl ?_
  refine xT_biV (y := nI (12)) g_q61 g61_4 (by decide) ?_
  refine xT_if_icmpY g_q61 g61_6 (t := 11) (by decide) (c2Y (a := os) (b := 12) (by omega) (by omega) (by omega)) ?_
  refine xT_aload_n g_q61 g61_11 (rfl) ?_
  refine xT_getfield g_q61 g61_12 hA2 rfl (hm_at h (i := 2) rfl rfl) rfl rfl ?_
  refine xT_aload_n g_q61 g61_15 (rfl) ?_
  refine xT_getfield g_q61 g61_16 hA2 rfl (hm_at h (i := 2) rfl rfl) rfl rfl ?_
  refine xT_iload_n g_q61 g61_19 (rfl) ?_
  refine xT_iastore g_q61 g61_20 (hm_at h (i := 3) rfl rfl) (ixN (n := 12) (by omega) hol) ?_
  rw [nI_clamp (by omega)]
  refine xT_aload_n g_q61 g61_21 (rfl) ?_
  refine xT_dup g_q61 g61_22 ?_
  refine xT_getfield g_q61 g61_23 hA2 rfl (hm_at g1_ (i := 2) rfl rfl) rfl rfl ?_
  refine xT_icV (y := nI (1)) g_q61 g61_26 (by decide) ?_
  refine xT_iaddV (y := nI (os + 1)) g_q61 g61_27 (bAddN _ _) ?_
  refine xT_putfield g_q61 g61_28 (ci := 5) (j := 1) rfl (hm_at g1_ (i := 2) rfl rfl) rfl rfl ?_
  refine xT_icV (y := nI (1)) g_q61 g61_31 (by decide) ?_
  exact xT_ireturn g_q61 g61_32 (by decide +kernel)
theorem t61n {R nu ob oi sp co se inp : Nat} {nf of : List (XV Int32)} {yr ln nx dn en hw lw : Int32} {os : Nat} (hA0 : ¬ 1000000 < R) (hA2 : ¬ 1000000 < ob) (h : hm H0 H [R, nu, ob, oi] [.inl (4, [.inr (some (nu)), .inr (some (sp)), .inr (some (co)), .inr (some (se)), .inr (some (inp)), .inr (some (ob)), .inl (yr), .inl (ln), .inl (nx), .inl (dn), .inl (en), .inl (hw), .inl (lw)]), .inr (0, nf), .inl (5, [.inr (some (oi)), .inl (nI (os))]), .inr (0, of)]) {v : Int32} (ho : 12 ≤ os) (ho2 : os ≤ 12) : x_To x_tb x_tyl ot dp 61 0 (x_en 0 [.inr (some (ob)), .inl (v)]) [] H 0 0 (some (.inl (nI 0))) H := by
  refine xT_aload_n g_q61 g61_0 (rfl) ?_
  refine xT_getfield g_q61 g61_1 hA2 rfl (hm_at h (i := 2) rfl rfl) rfl rfl ?_
  refine xT_biV (y := nI (12)) g_q61 g61_4 (by decide) ?_
  refine xT_if_icmpN g_q61 g61_6 (t := 11) (by decide) (c2N (a := os) (b := 12) (by omega) (by omega) (by omega)) ?_
  refine xT_icV (y := nI (0)) g_q61 g61_9 (by decide) ?_
  exact xT_ireturn g_q61 g61_10 (by decide +kernel)
end XH33_9
/-! p33 by hand, 10. -/
noncomputable section XH33_10
variable {ot : XO Int32} {dp : Nat} {H H0 : List (XC Int32)}
theorem t81 {R nu ob oi sp co se inp : Nat} {nf of : List (XV Int32)} {yr ln nx en hw lw : Int32} {os : Nat} {p : rP} (hA0 : ¬ 1000000 < R) (hA2 : ¬ 1000000 < ob) (hC : cC H0 [R, nu, ob, oi] co p) (h12 : pNl p ≤ 12) {next d : Nat} (hn : next < 20000) (hd : d ≤ 150) (h : hm H0 H [R, nu, ob, oi] [.inl (4, [.inr (some (nu)), .inr (some (sp)), .inr (some (co)), .inr (some (se)), .inr (some (inp)), .inr (some (ob)), .inl (yr), .inl (ln), .inl (nx), .inl (nI (d)), .inl (-1), .inl (hw), .inl (lw)]), .inr (0, nf), .inl (5, [.inr (some (oi)), .inl (nI (os))]), .inr (0, of)]) : ∃ H2, x_To x_tb x_tyl ot dp 81 0 (x_en 0 [.inr (some (R)), .inl (nI (next))]) [] H 0 0 (none) H2 ∧ hm H0 H2 [R, nu, ob, oi] [.inl (4, [.inr (some (nu)), .inr (some (sp)), .inr (some (co)), .inr (some (se)), .inr (some (inp)), .inr (some (ob)), .inl (yr), .inl (nI (next)), .inl (nx), .inl (nI (d)), .inl ((if pNl p ≤ next then 0 else if d = 150 then 2 else -1)), .inl (hw), .inl (lw)]), .inr (0, nf), .inl (5, [.inr (some (oi)), .inl (nI (os))]), .inr (0, of)] := by
  obtain ⟨hcA, ro, rl, rr, rn, hco, ⟨hro0, lro, cro, nro, ero⟩, ⟨hrl0, lrl, crl, nrl, erl⟩, ⟨hrr0, lrr, crr, nrr, err⟩, ⟨hrn0, lrn, crn, nrn, ern⟩⟩ := id hC
  by_cases c1 : pNl p ≤ next
  · rw [if_pos c1]
    have g1_ : hm H0 _ [R, nu, ob, oi] [.inl (4, [.inr (some (nu)), .inr (some (sp)), .inr (some (co)), .inr (some (se)), .inr (some (inp)), .inr (some (ob)), .inl (yr), .inl (nI (next)), .inl (nx), .inl (nI (d)), .inl (-1), .inl (hw), .inl (lw)]), .inr (0, nf), .inl (5, [.inr (some (oi)), .inl (nI (os))]), .inr (0, of)] := hm_set (i := 0) (z2 := .inl (4, ([.inr (some (nu)), .inr (some (sp)), .inr (some (co)), .inr (some (se)), .inr (some (inp)), .inr (some (ob)), .inl (yr), .inl (ln), .inl (nx), .inl (nI (d)), .inl (-1), .inl (hw), .inl (lw)]).set 7 (.inl (nI (next))))) h rfl
    have g2_ : hm H0 _ [R, nu, ob, oi] [.inl (4, [.inr (some (nu)), .inr (some (sp)), .inr (some (co)), .inr (some (se)), .inr (some (inp)), .inr (some (ob)), .inl (yr), .inl (nI (next)), .inl (nx), .inl (nI (d)), .inl (nI (0)), .inl (hw), .inl (lw)]), .inr (0, nf), .inl (5, [.inr (some (oi)), .inl (nI (os))]), .inr (0, of)] := hm_set (i := 0) (z2 := .inl (4, ([.inr (some (nu)), .inr (some (sp)), .inr (some (co)), .inr (some (se)), .inr (some (inp)), .inr (some (ob)), .inl (yr), .inl (nI (next)), .inl (nx), .inl (nI (d)), .inl (-1), .inl (hw), .inl (lw)]).set 10 (.inl (nI (0))))) g1_ rfl
    refine ⟨_, ?_, g2_⟩
    refine xT_aload_n g_q81 g81_0 (rfl) ?_
    refine xT_iload_n g_q81 g81_1 (rfl) ?_
    refine xT_putfield g_q81 g81_2 (ci := 4) (j := 7) rfl (hm_at h (i := 0) rfl rfl) rfl rfl ?_
    refine xT_aload_n g_q81 g81_5 (rfl) ?_
    refine xT_getfield g_q81 g81_6 hA0 rfl (hm_at g1_ (i := 0) rfl rfl) rfl rfl ?_
    refine xT_aload_n g_q81 g81_9 (rfl) ?_
    refine xT_getfield g_q81 g81_10 hA0 rfl (hm_at g1_ (i := 0) rfl rfl) rfl rfl ?_
    refine xT_getfield g_q81 g81_13 hcA rfl (hm_c g1_ hco) rfl rfl ?_
    refine xT_if_icmpN g_q81 g81_16 (t := 27) (by decide) (c2N (a := next) (b := pNl p) (by omega) (by omega) (by omega)) ?_
    refine xT_aload_n g_q81 g81_19 (rfl) ?_
    refine xT_icV (y := nI (0)) g_q81 g81_20 (by decide) ?_
    refine xT_putfield g_q81 g81_21 (ci := 4) (j := 10) rfl (hm_at g1_ (i := 0) rfl rfl) rfl rfl ?_
    refine xT_goto g_q81 g81_24 (t := 42) (by decide) ?_
    exact xT_return_ g_q81 g81_42 (rfl)
  rw [if_neg c1]
  by_cases c2 : d = 150
  · rw [if_pos c2]
    have g1_ : hm H0 _ [R, nu, ob, oi] [.inl (4, [.inr (some (nu)), .inr (some (sp)), .inr (some (co)), .inr (some (se)), .inr (some (inp)), .inr (some (ob)), .inl (yr), .inl (nI (next)), .inl (nx), .inl (nI (d)), .inl (-1), .inl (hw), .inl (lw)]), .inr (0, nf), .inl (5, [.inr (some (oi)), .inl (nI (os))]), .inr (0, of)] := hm_set (i := 0) (z2 := .inl (4, ([.inr (some (nu)), .inr (some (sp)), .inr (some (co)), .inr (some (se)), .inr (some (inp)), .inr (some (ob)), .inl (yr), .inl (ln), .inl (nx), .inl (nI (d)), .inl (-1), .inl (hw), .inl (lw)]).set 7 (.inl (nI (next))))) h rfl
    have g2_ : hm H0 _ [R, nu, ob, oi] [.inl (4, [.inr (some (nu)), .inr (some (sp)), .inr (some (co)), .inr (some (se)), .inr (some (inp)), .inr (some (ob)), .inl (yr), .inl (nI (next)), .inl (nx), .inl (nI (d)), .inl (nI (2)), .inl (hw), .inl (lw)]), .inr (0, nf), .inl (5, [.inr (some (oi)), .inl (nI (os))]), .inr (0, of)] := hm_set (i := 0) (z2 := .inl (4, ([.inr (some (nu)), .inr (some (sp)), .inr (some (co)), .inr (some (se)), .inr (some (inp)), .inr (some (ob)), .inl (yr), .inl (nI (next)), .inl (nx), .inl (nI (d)), .inl (-1), .inl (hw), .inl (lw)]).set 10 (.inl (nI (2))))) g1_ rfl
    refine ⟨_, ?_, g2_⟩
    refine xT_aload_n g_q81 g81_0 (rfl) ?_
    refine xT_iload_n g_q81 g81_1 (rfl) ?_
    refine xT_putfield g_q81 g81_2 (ci := 4) (j := 7) rfl (hm_at h (i := 0) rfl rfl) rfl rfl ?_
    refine xT_aload_n g_q81 g81_5 (rfl) ?_
    refine xT_getfield g_q81 g81_6 hA0 rfl (hm_at g1_ (i := 0) rfl rfl) rfl rfl ?_
    refine xT_aload_n g_q81 g81_9 (rfl) ?_
    refine xT_getfield g_q81 g81_10 hA0 rfl (hm_at g1_ (i := 0) rfl rfl) rfl rfl ?_
    refine xT_getfield g_q81 g81_13 hcA rfl (hm_c g1_ hco) rfl rfl ?_
    refine xT_if_icmpY g_q81 g81_16 (t := 27) (by decide) (c2Y (a := next) (b := pNl p) (by omega) (by omega) (by omega)) ?_
    refine xT_aload_n g_q81 g81_27 (rfl) ?_
    refine xT_getfield g_q81 g81_28 hA0 rfl (hm_at g1_ (i := 0) rfl rfl) rfl rfl ?_
    refine xT_siV (y := nI (150)) g_q81 g81_31 (by decide) ?_
    refine xT_if_icmpN g_q81 g81_34 (t := 42) (by decide) (c2N (a := d) (b := 150) (by omega) (by omega) (by omega)) ?_
    refine xT_aload_n g_q81 g81_37 (rfl) ?_
    refine xT_icV (y := nI (2)) g_q81 g81_38 (by decide) ?_
    refine xT_putfield g_q81 g81_39 (ci := 4) (j := 10) rfl (hm_at g1_ (i := 0) rfl rfl) rfl rfl ?_
    exact xT_return_ g_q81 g81_42 (rfl)
  · rw [if_neg c2]
    have g1_ : hm H0 _ [R, nu, ob, oi] [.inl (4, [.inr (some (nu)), .inr (some (sp)), .inr (some (co)), .inr (some (se)), .inr (some (inp)), .inr (some (ob)), .inl (yr), .inl (nI (next)), .inl (nx), .inl (nI (d)), .inl (-1), .inl (hw), .inl (lw)]), .inr (0, nf), .inl (5, [.inr (some (oi)), .inl (nI (os))]), .inr (0, of)] := hm_set (i := 0) (z2 := .inl (4, ([.inr (some (nu)), .inr (some (sp)), .inr (some (co)), .inr (some (se)), .inr (some (inp)), .inr (some (ob)), .inl (yr), .inl (ln), .inl (nx), .inl (nI (d)), .inl (-1), .inl (hw), .inl (lw)]).set 7 (.inl (nI (next))))) h rfl
    refine ⟨_, ?_, g1_⟩
    refine xT_aload_n g_q81 g81_0 (rfl) ?_
    refine xT_iload_n g_q81 g81_1 (rfl) ?_
    refine xT_putfield g_q81 g81_2 (ci := 4) (j := 7) rfl (hm_at h (i := 0) rfl rfl) rfl rfl ?_
    refine xT_aload_n g_q81 g81_5 (rfl) ?_
    refine xT_getfield g_q81 g81_6 hA0 rfl (hm_at g1_ (i := 0) rfl rfl) rfl rfl ?_
    refine xT_aload_n g_q81 g81_9 (rfl) ?_
    refine xT_getfield g_q81 g81_10 hA0 rfl (hm_at g1_ (i := 0) rfl rfl) rfl rfl ?_
    refine xT_getfield g_q81 g81_13 hcA rfl (hm_c g1_ hco) rfl rfl ?_
    refine xT_if_icmpY g_q81 g81_16 (t := 27) (by decide) (c2Y (a := next) (b := pNl p) (by omega) (by omega) (by omega)) ?_
    refine xT_aload_n g_q81 g81_27 (rfl) ?_
    refine xT_getfield g_q81 g81_28 hA0 rfl (hm_at g1_ (i := 0) rfl rfl) rfl rfl ?_
    refine xT_siV (y := nI (150)) g_q81 g81_31 (by decide) ?_
    refine xT_if_icmpY g_q81 g81_34 (t := 42) (by decide) (c2Y (a := d) (b := 150) (by omega) (by omega) (by omega)) ?_
    exact xT_return_ g_q81 g81_42 (rfl)
end XH33_10
/-! p33 by hand, 11. -/
noncomputable section XH33_11
variable {ot : XO Int32} {dp : Nat} {H H0 : List (XC Int32)}
theorem t72y {R nu ob oi sp co se inp : Nat} {nf of : List (XV Int32)} {yr ln dn en hw lw : Int32} {os : Nat} {p : rP} (hA0 : ¬ 1000000 < R) (hA2 : ¬ 1000000 < ob) (hN1 : ¬ nu = 1000000) (hN3 : ¬ oi = 1000000) (hnl : nf.length = 6) (hol : of.length = 12) (hS : cS H0 [R, nu, ob, oi] se p) (hI : cI H0 [R, nu, ob, oi] inp p) (h12 : pNi p ≤ 12) {f x : Nat} (hf : f < 6) (hx : x < pNi p) (h : hm H0 H [R, nu, ob, oi] [.inl (4, [.inr (some (nu)), .inr (some (sp)), .inr (some (co)), .inr (some (se)), .inr (some (inp)), .inr (some (ob)), .inl (yr), .inl (ln), .inl (nI (x)), .inl (dn), .inl (en), .inl (hw), .inl (lw)]), .inr (0, nf), .inl (5, [.inr (some (oi)), .inl (nI (os))]), .inr (0, of)]) : ∃ H2, x_To x_tb x_tyl ot (dp + 2) 72 0 (x_en 0 [.inr (some (R)), .inl (nI (f))]) [] H 0 0 (none) H2 ∧ hm H0 H2 [R, nu, ob, oi] [.inl (4, [.inr (some (nu)), .inr (some (sp)), .inr (some (co)), .inr (some (se)), .inr (some (inp)), .inr (some (ob)), .inl (yr), .inl (ln), .inl (nI (x + 1)), .inl (dn), .inl (en), .inl (hw), .inl (lw)]), .inr (0, (nf).set (f) (.inl ((pCut p (pIv p (x)))))), .inl (5, [.inr (some (oi)), .inl (nI (os))]), .inr (0, of)] := by
  obtain ⟨hiA, it, hinp, hit0, lit, cit, nit, eit⟩ := id hI
  obtain ⟨hsA, sfs, hsR⟩ : ¬ 1000000 < se ∧ ∃ sfs, cR H0 [R, nu, ob, oi] se (.inl (3, sfs)) := by
    obtain ⟨q, ⟨dr, pr, z, -⟩ | ⟨dr, pr, z, -⟩⟩ := hS
    · exact ⟨q, _, z⟩
    · exact ⟨q, _, z⟩
  have g1_ : hm H0 _ [R, nu, ob, oi] [.inl (4, [.inr (some (nu)), .inr (some (sp)), .inr (some (co)), .inr (some (se)), .inr (some (inp)), .inr (some (ob)), .inl (yr), .inl (ln), .inl (nI (x)), .inl (dn), .inl (en), .inl (hw), .inl (lw)]), .inr (0, (nf).set (f) (.inl ((pCut p (pIv p (x)))))), .inl (5, [.inr (some (oi)), .inl (nI (os))]), .inr (0, of)] := hm_set (i := 1) (z2 := .inr (0, (nf).set (f) (.inl ((pCut p (pIv p (x))))))) h rfl
  have g2_ : hm H0 _ [R, nu, ob, oi] [.inl (4, [.inr (some (nu)), .inr (some (sp)), .inr (some (co)), .inr (some (se)), .inr (some (inp)), .inr (some (ob)), .inl (yr), .inl (ln), .inl (nI (x + 1)), .inl (dn), .inl (en), .inl (hw), .inl (lw)]), .inr (0, (nf).set (f) (.inl ((pCut p (pIv p (x)))))), .inl (5, [.inr (some (oi)), .inl (nI (os))]), .inr (0, of)] := hm_set (i := 0) (z2 := .inl (4, ([.inr (some (nu)), .inr (some (sp)), .inr (some (co)), .inr (some (se)), .inr (some (inp)), .inr (some (ob)), .inl (yr), .inl (ln), .inl (nI (x)), .inl (dn), .inl (en), .inl (hw), .inl (lw)]).set 8 (.inl (nI (x + 1))))) g1_ rfl
  refine ⟨_, ?_, g2_⟩
  refine xT_aload_n g_q72 g72_0 (rfl) ?_
  refine xT_getfield g_q72 g72_1 hA0 rfl (hm_at h (i := 0) rfl rfl) rfl rfl ?_
  refine xT_aload_n g_q72 g72_4 (rfl) ?_
  refine xT_getfield g_q72 g72_5 hA0 rfl (hm_at h (i := 0) rfl rfl) rfl rfl ?_
  refine xT_invokevirtual (r := []) (u := some (.inl (nI (1)))) g_q72 g72_8 (j := 73) (so := 0) (by decide +kernel) g_q73 rfl (by rw [x_rcM hiA (hm_c h hinp)]; rfl) (t73y h hI h12 hx) ?_
  refine xT_ifCondY g_q72 g72_11 (t := 20) (by decide) (c1Y (a := 1) (b := 0) (by omega) (by omega) (by omega)) ?_
  refine xT_aload_n g_q72 g72_20 (rfl) ?_
  refine xT_getfield g_q72 g72_21 hA0 rfl (hm_at h (i := 0) rfl rfl) rfl rfl ?_
  refine xT_iload_n g_q72 g72_24 (rfl) ?_
  refine xT_aload_n g_q72 g72_25 (rfl) ?_
  refine xT_getfield g_q72 g72_26 hA0 rfl (hm_at h (i := 0) rfl rfl) rfl rfl ?_
  refine xT_iload_n g_q72 g72_29 (rfl) ?_
  refine xT_aload_n g_q72 g72_30 (rfl) ?_
  refine xT_getfield g_q72 g72_31 hA0 rfl (hm_at h (i := 0) rfl rfl) rfl rfl ?_
  refine xT_aload_n g_q72 g72_34 (rfl) ?_
  refine xT_getfield g_q72 g72_35 hA0 rfl (hm_at h (i := 0) rfl rfl) rfl rfl ?_
  refine xT_invokevirtual (r := [.inl (nI (f)), .inr (some (se)), .inl (nI (f)), .inr (some (nu))]) (u := some (.inl ((pIv p (x))))) g_q72 g72_38 (j := 74) (so := 0) (by decide +kernel) g_q74 rfl (by rw [x_rcM hiA (hm_c h hinp)]; rfl) (t74 (dp := dp) h hI h12 hx) ?_
  refine xT_invokevirtual (r := [.inl (nI (f)), .inr (some (nu))]) (u := some (.inl ((pCut p (pIv p (x)))))) g_q72 g72_41 (j := 70) (so := 0) (by decide +kernel) g_q70 rfl (by rw [x_rcM hsA (hm_c h hsR)]; rfl) (t70 (dp := dp) h hS (by omega) (v := pIv p (x))) ?_
  refine xT_iastore g_q72 g72_44 (hm_at h (i := 1) rfl rfl) (ixN (n := 6) (by omega) hnl) ?_
  rw [nI_clamp (by omega)]
  refine xT_aload_n g_q72 g72_45 (rfl) ?_
  refine xT_dup g_q72 g72_46 ?_
  refine xT_getfield g_q72 g72_47 hA0 rfl (hm_at g1_ (i := 0) rfl rfl) rfl rfl ?_
  refine xT_icV (y := nI (1)) g_q72 g72_50 (by decide) ?_
  refine xT_iaddV (y := nI (x + 1)) g_q72 g72_51 (bAddN _ _) ?_
  refine xT_putfield g_q72 g72_52 (ci := 4) (j := 8) rfl (hm_at g1_ (i := 0) rfl rfl) rfl rfl ?_
  exact xT_return_ g_q72 g72_55 (rfl)
theorem t72n {R nu ob oi sp co se inp : Nat} {nf of : List (XV Int32)} {yr ln dn en hw lw : Int32} {os : Nat} {p : rP} (hA0 : ¬ 1000000 < R) (hA2 : ¬ 1000000 < ob) (hN1 : ¬ nu = 1000000) (hN3 : ¬ oi = 1000000) (hnl : nf.length = 6) (hol : of.length = 12) (hS : cS H0 [R, nu, ob, oi] se p) (hI : cI H0 [R, nu, ob, oi] inp p) (h12 : pNi p ≤ 12) {f x : Nat} (hf : f < 6) (hx : pNi p ≤ x) (hx2 : x ≤ 12) (h : hm H0 H [R, nu, ob, oi] [.inl (4, [.inr (some (nu)), .inr (some (sp)), .inr (some (co)), .inr (some (se)), .inr (some (inp)), .inr (some (ob)), .inl (yr), .inl (ln), .inl (nI (x)), .inl (dn), .inl (en), .inl (hw), .inl (lw)]), .inr (0, nf), .inl (5, [.inr (some (oi)), .inl (nI (os))]), .inr (0, of)]) : ∃ H2, x_To x_tb x_tyl ot (dp + 2) 72 0 (x_en 0 [.inr (some (R)), .inl (nI (f))]) [] H 0 0 (none) H2 ∧ hm H0 H2 [R, nu, ob, oi] [.inl (4, [.inr (some (nu)), .inr (some (sp)), .inr (some (co)), .inr (some (se)), .inr (some (inp)), .inr (some (ob)), .inl (yr), .inl (ln), .inl (nI (x)), .inl (dn), .inl (nI (1)), .inl (hw), .inl (lw)]), .inr (0, nf), .inl (5, [.inr (some (oi)), .inl (nI (os))]), .inr (0, of)] := by
  obtain ⟨hiA, it, hinp, hit0, lit, cit, nit, eit⟩ := id hI
  obtain ⟨hsA, sfs, hsR⟩ : ¬ 1000000 < se ∧ ∃ sfs, cR H0 [R, nu, ob, oi] se (.inl (3, sfs)) := by
    obtain ⟨q, ⟨dr, pr, z, -⟩ | ⟨dr, pr, z, -⟩⟩ := hS
    · exact ⟨q, _, z⟩
    · exact ⟨q, _, z⟩
  have g1_ : hm H0 _ [R, nu, ob, oi] [.inl (4, [.inr (some (nu)), .inr (some (sp)), .inr (some (co)), .inr (some (se)), .inr (some (inp)), .inr (some (ob)), .inl (yr), .inl (ln), .inl (nI (x)), .inl (dn), .inl (nI (1)), .inl (hw), .inl (lw)]), .inr (0, nf), .inl (5, [.inr (some (oi)), .inl (nI (os))]), .inr (0, of)] := hm_set (i := 0) (z2 := .inl (4, ([.inr (some (nu)), .inr (some (sp)), .inr (some (co)), .inr (some (se)), .inr (some (inp)), .inr (some (ob)), .inl (yr), .inl (ln), .inl (nI (x)), .inl (dn), .inl (en), .inl (hw), .inl (lw)]).set 10 (.inl (nI (1))))) h rfl
  refine ⟨_, ?_, g1_⟩
  refine xT_aload_n g_q72 g72_0 (rfl) ?_
  refine xT_getfield g_q72 g72_1 hA0 rfl (hm_at h (i := 0) rfl rfl) rfl rfl ?_
  refine xT_aload_n g_q72 g72_4 (rfl) ?_
  refine xT_getfield g_q72 g72_5 hA0 rfl (hm_at h (i := 0) rfl rfl) rfl rfl ?_
  refine xT_invokevirtual (r := []) (u := some (.inl (nI (0)))) g_q72 g72_8 (j := 73) (so := 0) (by decide +kernel) g_q73 rfl (by rw [x_rcM hiA (hm_c h hinp)]; rfl) (t73n h hI h12 hx (by omega)) ?_
  refine xT_ifCondN g_q72 g72_11 (t := 20) (by decide) (c1N (b := 0) rfl) ?_
  refine xT_aload_n g_q72 g72_14 (rfl) ?_
  refine xT_icV (y := nI (1)) g_q72 g72_15 (by decide) ?_
  refine xT_putfield g_q72 g72_16 (ci := 4) (j := 10) rfl (hm_at h (i := 0) rfl rfl) rfl rfl ?_
  exact xT_return_ g_q72 g72_19 (rfl)
end XH33_11
/-! p33 by hand, 12. -/
noncomputable section XH33_12
variable {ot : XO Int32} {dp : Nat} {H H0 : List (XC Int32)}
theorem t75y {R nu ob oi sp co se inp : Nat} {nf of : List (XV Int32)} {yr ln nx dn en hw lw : Int32} {os : Nat} {nu_ : Nat → Int32} (hA0 : ¬ 1000000 < R) (hA2 : ¬ 1000000 < ob) (hN1 : ¬ nu = 1000000) (hN3 : ¬ oi = 1000000) (hnl : nf.length = 6) (hol : of.length = 12) (hnf : ∀ k, k < 6 → nf[k]? = some (.inl (nu_ k))) {f : Nat} (hf : f < 6) (ho : os < 12) (h : hm H0 H [R, nu, ob, oi] [.inl (4, [.inr (some (nu)), .inr (some (sp)), .inr (some (co)), .inr (some (se)), .inr (some (inp)), .inr (some (ob)), .inl (yr), .inl (ln), .inl (nx), .inl (dn), .inl (en), .inl (hw), .inl (lw)]), .inr (0, nf), .inl (5, [.inr (some (oi)), .inl (nI (os))]), .inr (0, of)]) : ∃ H2, x_To x_tb x_tyl ot (dp + 1) 75 0 (x_en 0 [.inr (some (R)), .inl (nI (f))]) [] H 0 0 (none) H2 ∧ hm H0 H2 [R, nu, ob, oi] [.inl (4, [.inr (some (nu)), .inr (some (sp)), .inr (some (co)), .inr (some (se)), .inr (some (inp)), .inr (some (ob)), .inl (yr), .inl (ln), .inl (nx), .inl (dn), .inl (en), .inl (nI (1)), .inl (nu_ (f))]), .inr (0, nf), .inl (5, [.inr (some (oi)), .inl (nI (os + 1))]), .inr (0, (of).set (os) (.inl (nu_ (f))))] := by
  obtain ⟨G1, y1_, g1_⟩ := t61y (dp := dp) (v := nu_ (f)) hA0 hA2 hN1 hN3 hnl hol h ho
  have g1_ : hm H0 G1 [R, nu, ob, oi] [.inl (4, [.inr (some (nu)), .inr (some (sp)), .inr (some (co)), .inr (some (se)), .inr (some (inp)), .inr (some (ob)), .inl (yr), .inl (ln), .inl (nx), .inl (dn), .inl (en), .inl (hw), .inl (lw)]), .inr (0, nf), .inl (5, [.inr (some (oi)), .inl (nI (os + 1))]), .inr (0, (of).set (os) (.inl (nu_ (f))))] := g1_
  have g2_ : hm H0 _ [R, nu, ob, oi] [.inl (4, [.inr (some (nu)), .inr (some (sp)), .inr (some (co)), .inr (some (se)), .inr (some (inp)), .inr (some (ob)), .inl (yr), .inl (ln), .inl (nx), .inl (dn), .inl (en), .inl (nI (1)), .inl (lw)]), .inr (0, nf), .inl (5, [.inr (some (oi)), .inl (nI (os + 1))]), .inr (0, (of).set (os) (.inl (nu_ (f))))] := hm_set (i := 0) (z2 := .inl (4, ([.inr (some (nu)), .inr (some (sp)), .inr (some (co)), .inr (some (se)), .inr (some (inp)), .inr (some (ob)), .inl (yr), .inl (ln), .inl (nx), .inl (dn), .inl (en), .inl (hw), .inl (lw)]).set 11 (.inl (nI (1))))) g1_ rfl
  have g3_ : hm H0 _ [R, nu, ob, oi] [.inl (4, [.inr (some (nu)), .inr (some (sp)), .inr (some (co)), .inr (some (se)), .inr (some (inp)), .inr (some (ob)), .inl (yr), .inl (ln), .inl (nx), .inl (dn), .inl (en), .inl (nI (1)), .inl (nu_ (f))]), .inr (0, nf), .inl (5, [.inr (some (oi)), .inl (nI (os + 1))]), .inr (0, (of).set (os) (.inl (nu_ (f))))] := hm_set (i := 0) (z2 := .inl (4, ([.inr (some (nu)), .inr (some (sp)), .inr (some (co)), .inr (some (se)), .inr (some (inp)), .inr (some (ob)), .inl (yr), .inl (ln), .inl (nx), .inl (dn), .inl (en), .inl (nI (1)), .inl (lw)]).set 12 (.inl (nu_ (f))))) g2_ rfl
  refine ⟨_, ?_, g3_⟩
  refine xT_aload_n g_q75 g75_0 (rfl) ?_
  refine xT_aload_n g_q75 g75_1 (rfl) ?_
  refine xT_getfield g_q75 g75_2 hA0 rfl (hm_at h (i := 0) rfl rfl) rfl rfl ?_
  refine xT_aload_n g_q75 g75_5 (rfl) ?_
  refine xT_getfield g_q75 g75_6 hA0 rfl (hm_at h (i := 0) rfl rfl) rfl rfl ?_
  refine xT_iload_n g_q75 g75_9 (rfl) ?_
  refine xT_iaload g_q75 g75_10 hN1 (hm_at h (i := 1) rfl rfl) (ixN (n := 6) (by omega) hnl) (ixG (by omega) (hnf _ (by omega))) ?_
  refine xT_invokevirtual (r := [.inr (some (R))]) (u := some (.inl (nI (1)))) g_q75 g75_11 (j := 61) (so := 0) (by decide +kernel) g_q61 rfl (by rw [x_rcM hA2 (hm_at h (i := 2) rfl rfl)]; rfl) (y1_) ?_
  refine xT_putfield g_q75 g75_14 (ci := 4) (j := 11) rfl (hm_at g1_ (i := 0) rfl rfl) rfl rfl ?_
  refine xT_aload_n g_q75 g75_17 (rfl) ?_
  refine xT_aload_n g_q75 g75_18 (rfl) ?_
  refine xT_getfield g_q75 g75_19 hA0 rfl (hm_at g2_ (i := 0) rfl rfl) rfl rfl ?_
  refine xT_iload_n g_q75 g75_22 (rfl) ?_
  refine xT_iaload g_q75 g75_23 hN1 (hm_at g2_ (i := 1) rfl rfl) (ixN (n := 6) (by omega) hnl) (ixG (by omega) (hnf _ (by omega))) ?_
  refine xT_putfield g_q75 g75_24 (ci := 4) (j := 12) rfl (hm_at g2_ (i := 0) rfl rfl) rfl rfl ?_
  refine xT_aload_n g_q75 g75_27 (rfl) ?_
  refine xT_getfield g_q75 g75_28 hA0 rfl (hm_at g3_ (i := 0) rfl rfl) rfl rfl ?_
  refine xT_ifCondY g_q75 g75_31 (t := 39) (by decide) (c1Y (a := 1) (b := 0) (by omega) (by omega) (by omega)) ?_
  exact xT_return_ g_q75 g75_39 (rfl)
theorem t75n {R nu ob oi sp co se inp : Nat} {nf of : List (XV Int32)} {yr ln nx dn en hw lw : Int32} {os : Nat} {nu_ : Nat → Int32} (hA0 : ¬ 1000000 < R) (hA2 : ¬ 1000000 < ob) (hN1 : ¬ nu = 1000000) (hN3 : ¬ oi = 1000000) (hnl : nf.length = 6) (hol : of.length = 12) (hnf : ∀ k, k < 6 → nf[k]? = some (.inl (nu_ k))) {f : Nat} (hf : f < 6) (ho : 12 ≤ os) (ho2 : os ≤ 12) (h : hm H0 H [R, nu, ob, oi] [.inl (4, [.inr (some (nu)), .inr (some (sp)), .inr (some (co)), .inr (some (se)), .inr (some (inp)), .inr (some (ob)), .inl (yr), .inl (ln), .inl (nx), .inl (dn), .inl (en), .inl (hw), .inl (lw)]), .inr (0, nf), .inl (5, [.inr (some (oi)), .inl (nI (os))]), .inr (0, of)]) : ∃ H2, x_To x_tb x_tyl ot (dp + 1) 75 0 (x_en 0 [.inr (some (R)), .inl (nI (f))]) [] H 0 0 (none) H2 ∧ hm H0 H2 [R, nu, ob, oi] [.inl (4, [.inr (some (nu)), .inr (some (sp)), .inr (some (co)), .inr (some (se)), .inr (some (inp)), .inr (some (ob)), .inl (yr), .inl (ln), .inl (nx), .inl (dn), .inl (nI (1)), .inl (nI (0)), .inl (nu_ (f))]), .inr (0, nf), .inl (5, [.inr (some (oi)), .inl (nI (os))]), .inr (0, of)] := by
  have g1_ : hm H0 _ [R, nu, ob, oi] [.inl (4, [.inr (some (nu)), .inr (some (sp)), .inr (some (co)), .inr (some (se)), .inr (some (inp)), .inr (some (ob)), .inl (yr), .inl (ln), .inl (nx), .inl (dn), .inl (en), .inl (nI (0)), .inl (lw)]), .inr (0, nf), .inl (5, [.inr (some (oi)), .inl (nI (os))]), .inr (0, of)] := hm_set (i := 0) (z2 := .inl (4, ([.inr (some (nu)), .inr (some (sp)), .inr (some (co)), .inr (some (se)), .inr (some (inp)), .inr (some (ob)), .inl (yr), .inl (ln), .inl (nx), .inl (dn), .inl (en), .inl (hw), .inl (lw)]).set 11 (.inl (nI (0))))) h rfl
  have g2_ : hm H0 _ [R, nu, ob, oi] [.inl (4, [.inr (some (nu)), .inr (some (sp)), .inr (some (co)), .inr (some (se)), .inr (some (inp)), .inr (some (ob)), .inl (yr), .inl (ln), .inl (nx), .inl (dn), .inl (en), .inl (nI (0)), .inl (nu_ (f))]), .inr (0, nf), .inl (5, [.inr (some (oi)), .inl (nI (os))]), .inr (0, of)] := hm_set (i := 0) (z2 := .inl (4, ([.inr (some (nu)), .inr (some (sp)), .inr (some (co)), .inr (some (se)), .inr (some (inp)), .inr (some (ob)), .inl (yr), .inl (ln), .inl (nx), .inl (dn), .inl (en), .inl (nI (0)), .inl (lw)]).set 12 (.inl (nu_ (f))))) g1_ rfl
  have g3_ : hm H0 _ [R, nu, ob, oi] [.inl (4, [.inr (some (nu)), .inr (some (sp)), .inr (some (co)), .inr (some (se)), .inr (some (inp)), .inr (some (ob)), .inl (yr), .inl (ln), .inl (nx), .inl (dn), .inl (nI (1)), .inl (nI (0)), .inl (nu_ (f))]), .inr (0, nf), .inl (5, [.inr (some (oi)), .inl (nI (os))]), .inr (0, of)] := hm_set (i := 0) (z2 := .inl (4, ([.inr (some (nu)), .inr (some (sp)), .inr (some (co)), .inr (some (se)), .inr (some (inp)), .inr (some (ob)), .inl (yr), .inl (ln), .inl (nx), .inl (dn), .inl (en), .inl (nI (0)), .inl (nu_ (f))]).set 10 (.inl (nI (1))))) g2_ rfl
  refine ⟨_, ?_, g3_⟩
  refine xT_aload_n g_q75 g75_0 (rfl) ?_
  refine xT_aload_n g_q75 g75_1 (rfl) ?_
  refine xT_getfield g_q75 g75_2 hA0 rfl (hm_at h (i := 0) rfl rfl) rfl rfl ?_
  refine xT_aload_n g_q75 g75_5 (rfl) ?_
  refine xT_getfield g_q75 g75_6 hA0 rfl (hm_at h (i := 0) rfl rfl) rfl rfl ?_
  refine xT_iload_n g_q75 g75_9 (rfl) ?_
  refine xT_iaload g_q75 g75_10 hN1 (hm_at h (i := 1) rfl rfl) (ixN (n := 6) (by omega) hnl) (ixG (by omega) (hnf _ (by omega))) ?_
  refine xT_invokevirtual (r := [.inr (some (R))]) (u := some (.inl (nI (0)))) g_q75 g75_11 (j := 61) (so := 0) (by decide +kernel) g_q61 rfl (by rw [x_rcM hA2 (hm_at h (i := 2) rfl rfl)]; rfl) (t61n hA0 hA2 h ho ho2) ?_
  refine xT_putfield g_q75 g75_14 (ci := 4) (j := 11) rfl (hm_at h (i := 0) rfl rfl) rfl rfl ?_
  refine xT_aload_n g_q75 g75_17 (rfl) ?_
  refine xT_aload_n g_q75 g75_18 (rfl) ?_
  refine xT_getfield g_q75 g75_19 hA0 rfl (hm_at g1_ (i := 0) rfl rfl) rfl rfl ?_
  refine xT_iload_n g_q75 g75_22 (rfl) ?_
  refine xT_iaload g_q75 g75_23 hN1 (hm_at g1_ (i := 1) rfl rfl) (ixN (n := 6) (by omega) hnl) (ixG (by omega) (hnf _ (by omega))) ?_
  refine xT_putfield g_q75 g75_24 (ci := 4) (j := 12) rfl (hm_at g1_ (i := 0) rfl rfl) rfl rfl ?_
  refine xT_aload_n g_q75 g75_27 (rfl) ?_
  refine xT_getfield g_q75 g75_28 hA0 rfl (hm_at g2_ (i := 0) rfl rfl) rfl rfl ?_
  refine xT_ifCondN g_q75 g75_31 (t := 39) (by decide) (c1N (b := 0) rfl) ?_
  refine xT_aload_n g_q75 g75_34 (rfl) ?_
  refine xT_icV (y := nI (1)) g_q75 g75_35 (by decide) ?_
  refine xT_putfield g_q75 g75_36 (ci := 4) (j := 10) rfl (hm_at g2_ (i := 0) rfl rfl) rfl rfl ?_
  exact xT_return_ g_q75 g75_39 (rfl)
end XH33_12
/-! p33 by hand, 13. -/
noncomputable section XH33_13
variable {ot : XO Int32} {dp : Nat} {H H0 : List (XC Int32)}
theorem t76 {R nu ob oi sp co se inp : Nat} {nf of : List (XV Int32)} {yr ln nx dn en hw lw : Int32} {os : Nat} {p : rP} {nu_ : Nat → Int32} (hA0 : ¬ 1000000 < R) (hA2 : ¬ 1000000 < ob) (hN1 : ¬ nu = 1000000) (hN3 : ¬ oi = 1000000) (hnl : nf.length = 6) (hol : of.length = 12) (hS : cS H0 [R, nu, ob, oi] se p) (hnf : ∀ k, k < 6 → nf[k]? = some (.inl (nu_ k))) {f : Nat} (hf : f < 6) (h : hm H0 H [R, nu, ob, oi] [.inl (4, [.inr (some (nu)), .inr (some (sp)), .inr (some (co)), .inr (some (se)), .inr (some (inp)), .inr (some (ob)), .inl (yr), .inl (ln), .inl (nx), .inl (dn), .inl (en), .inl (hw), .inl (lw)]), .inr (0, nf), .inl (5, [.inr (some (oi)), .inl (nI (os))]), .inr (0, of)]) : x_To x_tb x_tyl ot (dp + 1) 76 0 (x_en 0 [.inr (some (R)), .inl (nI (f))]) [] H 0 0 (some (.inl (nu_ f))) H := by
  obtain ⟨hsA, sfs, hsR⟩ : ¬ 1000000 < se ∧ ∃ sfs, cR H0 [R, nu, ob, oi] se (.inl (3, sfs)) := by
    obtain ⟨q, ⟨dr, pr, z, -⟩ | ⟨dr, pr, z, -⟩⟩ := hS
    · exact ⟨q, _, z⟩
    · exact ⟨q, _, z⟩
  refine xT_aload_n g_q76 g76_0 (rfl) ?_
  refine xT_getfield g_q76 g76_1 hA0 rfl (hm_at h (i := 0) rfl rfl) rfl rfl ?_
  refine xT_iload_n g_q76 g76_4 (rfl) ?_
  refine xT_aload_n g_q76 g76_5 (rfl) ?_
  refine xT_getfield g_q76 g76_6 hA0 rfl (hm_at h (i := 0) rfl rfl) rfl rfl ?_
  refine xT_iload_n g_q76 g76_9 (rfl) ?_
  refine xT_iaload g_q76 g76_10 hN1 (hm_at h (i := 1) rfl rfl) (ixN (n := 6) (by omega) hnl) (ixG (by omega) (hnf _ (by omega))) ?_
  refine xT_invokevirtual (r := []) (u := some (.inl ((nu_ (f))))) g_q76 g76_11 (j := 77) (so := 0) (by decide +kernel) g_q77 rfl (by rw [x_rcM hsA (hm_c h hsR)]; rfl) (t77 h hS hf) ?_
  exact xT_ireturn g_q76 g76_14 (rfl)
end XH33_13
/-! p33 by hand, 14. -/
noncomputable section XH33_14
variable {ot : XO Int32} {dp : Nat} {H H0 : List (XC Int32)}
/-- the class's runner stands as s says -/
def cN (H0 H : List (XC Int32)) (R nu ob oi sp co se inp : Nat) (p : rP) (s : rS) : Prop := ∃ (nf of : List (XV Int32)) (ln hw lw : Int32), hm H0 H [R, nu, ob, oi] [.inl (4, [.inr (some (nu)), .inr (some (sp)), .inr (some (co)), .inr (some (se)), .inr (some (inp)), .inr (some (ob)), .inl (pYr p), .inl (ln), .inl (nI (rNx s)), .inl (nI (rDn s)), .inl (rEn s), .inl (hw), .inl (lw)]), .inr (0, nf), .inl (5, [.inr (some oi), .inl (nI (rOs s))]), .inr (0, of)] ∧ (rEn s = -1 → ln = nI (rLn s)) ∧ nf.length = 6 ∧ (∀ k, k < 6 → nf[k]? = some (.inl (rNu s k))) ∧ of.length = 12 ∧ ∀ k, k < rOs s → of[k]? = some (.inl (rOv s k))
theorem nf_set {nf : List (XV Int32)} {nu_ : Nat → Int32} {n f : Nat} {v : Int32} (hl : n ≤ nf.length) (h : ∀ k, k < n → nf[k]? = some (.inl (nu_ k))) (hf : f < nf.length) : ∀ k, k < n → (nf.set f (.inl v))[k]? = some (.inl (up1 nu_ f v k)) := fun k hk => by
  by_cases e : k = f
  · subst e
    rw [up1_eq]
    exact List.getElem?_set_self (by omega)
  · rw [up1_ne e, List.getElem?_set_ne (fun z => e z.symm)]
    exact h k hk
theorem of_set {l : List (XV Int32)} {ov : Nat → Int32} {n : Nat} {v : Int32} (hl : n < l.length) (h : ∀ k, k < n → l[k]? = some (.inl (ov k))) : ∀ k, k < n + 1 → (l.set n (.inl v))[k]? = some (.inl (up1 ov n v k)) := fun k hk => by
  by_cases e : k = n
  · subst e
    rw [up1_eq]
    exact List.getElem?_set_self hl
  · rw [up1_ne e, List.getElem?_set_ne (fun z => e z.symm)]
    exact h k (by omega)
end XH33_14
/-! p33 by hand, 15. -/
noncomputable section XH33_15
variable {ot : XO Int32} {dp : Nat} {H H0 : List (XC Int32)}
theorem t69 {R nu ob oi sp co se inp : Nat} {p : rP} {s : rS} (hA0 : ¬ 1000000 < R) (hA2 : ¬ 1000000 < ob) (hN1 : ¬ nu = 1000000) (hN3 : ¬ oi = 1000000) (hC : cC H0 [R, nu, ob, oi] co p) (hS : cS H0 [R, nu, ob, oi] se p) (hI : cI H0 [R, nu, ob, oi] inp p) (hok : pOk p) (hs : rOk p s) (hr : rEn s = -1) (h : cN H0 H R nu ob oi sp co se inp p s) : ∃ H2, x_To x_tb x_tyl ot (dp + 3) 69 0 (x_en 0 [.inr (some (R))]) [] H 0 0 none H2 ∧ cN H0 H2 R nu ob oi sp co se inp p (stM p s) := by
  obtain ⟨nu_, l, x, d, e, os, ov⟩ := s
  obtain rfl : e = -1 := hr
  obtain ⟨nf, of, ln, hw, lw, h, hl, hnl, hnf, hol, hof⟩ := h
  obtain rfl : ln = nI l := hl rfl
  obtain ⟨hl1, hx12, ho12, hd150⟩ := hs
  obtain ⟨hl1, hd1⟩ : l < pNl p ∧ d < 150 := hl1 rfl
  have hx12 : x ≤ pNi p := hx12
  have ho12 : os ≤ 12 := ho12
  obtain ⟨h0, h12, hi12, hcd⟩ := hok
  obtain ⟨o1, o2, o3, o4⟩ := hcd l hl1
  have hnf : ∀ k, k < 6 → nf[k]? = some (.inl (nu_ k)) := hnf
  have hof : ∀ k, k < os → of[k]? = some (.inl (ov k)) := hof
  have h : hm H0 H [R, nu, ob, oi] [.inl (4, [.inr (some (nu)), .inr (some (sp)), .inr (some (co)), .inr (some (se)), .inr (some (inp)), .inr (some (ob)), .inl (pYr p), .inl (nI (l)), .inl (nI (x)), .inl (nI (d)), .inl (-1), .inl (hw), .inl (lw)]), .inr (0, nf), .inl (5, [.inr (some (oi)), .inl (nI (os))]), .inr (0, of)] := h
  obtain ⟨hcA, ro, rl, rr, rn, hco, ⟨hro0, lro, cro, nro, ero⟩, ⟨hrl0, lrl, crl, nrl, erl⟩, ⟨hrr0, lrr, crr, nrr, err⟩, ⟨hrn0, lrn, crn, nrn, ern⟩⟩ := id hC
  obtain ⟨hiA, it, hinp, hit0, lit, cit, nit, eit⟩ := id hI
  obtain ⟨hsA, sfs, hsR⟩ : ¬ 1000000 < se ∧ ∃ sfs, cR H0 [R, nu, ob, oi] se (.inl (3, sfs)) := by
    obtain ⟨q, ⟨dr, pr, z, -⟩ | ⟨dr, pr, z, -⟩⟩ := hS
    · exact ⟨q, _, z⟩
    · exact ⟨q, _, z⟩
  rcases (show pOp p l = 0 ∨ pOp p l = 1 ∨ pOp p l = 2 ∨ pOp p l = 3 ∨ pOp p l = 4 ∨ pOp p l = 5 ∨ pOp p l = 6 ∨ pOp p l = 7 ∨ pOp p l = 8 ∨ pOp p l = 9 ∨ pOp p l = 10 ∨ pOp p l = 11 by omega) with hz | hz | hz | hz | hz | hz | hz | hz | hz | hz | hz | hz
  · have hz : pOp p l = 0 := hz
    have key : ∃ H2, x_To x_tb x_tyl ot (dp + 3) 69 0 (x_en 0 [.inr (some (R))]) [] H 0 0 none H2 ∧ hm H0 H2 [R, nu, ob, oi] [.inl (4, [.inr (some (nu)), .inr (some (sp)), .inr (some (co)), .inr (some (se)), .inr (some (inp)), .inr (some (ob)), .inl (pYr p), .inl (nI (l + 1)), .inl (nI x), .inl (nI (d + 1)), .inl (if pNl p ≤ l + 1 then 0 else if d + 1 = 150 then 2 else -1), .inl (nI 0), .inl (lw)]), .inr (0, nf.set (pLf p l) (.inl (pCut p (pYr p)))), .inl (5, [.inr (some (oi)), .inl (nI (os))]), .inr (0, of)] := by
      have g1_ : hm H0 _ [R, nu, ob, oi] [.inl (4, [.inr (some (nu)), .inr (some (sp)), .inr (some (co)), .inr (some (se)), .inr (some (inp)), .inr (some (ob)), .inl (pYr p), .inl (nI (l)), .inl (nI (x)), .inl (nI (d)), .inl (-1), .inl (nI (0)), .inl (lw)]), .inr (0, nf), .inl (5, [.inr (some (oi)), .inl (nI (os))]), .inr (0, of)] := hm_set (i := 0) (z2 := .inl (4, ([.inr (some (nu)), .inr (some (sp)), .inr (some (co)), .inr (some (se)), .inr (some (inp)), .inr (some (ob)), .inl (pYr p), .inl (nI (l)), .inl (nI (x)), .inl (nI (d)), .inl (-1), .inl (hw), .inl (lw)]).set 11 (.inl (nI (0))))) h rfl
      have g2_ : hm H0 _ [R, nu, ob, oi] [.inl (4, [.inr (some (nu)), .inr (some (sp)), .inr (some (co)), .inr (some (se)), .inr (some (inp)), .inr (some (ob)), .inl (pYr p), .inl (nI (l)), .inl (nI (x)), .inl (nI (d + 1)), .inl (-1), .inl (nI (0)), .inl (lw)]), .inr (0, nf), .inl (5, [.inr (some (oi)), .inl (nI (os))]), .inr (0, of)] := hm_set (i := 0) (z2 := .inl (4, ([.inr (some (nu)), .inr (some (sp)), .inr (some (co)), .inr (some (se)), .inr (some (inp)), .inr (some (ob)), .inl (pYr p), .inl (nI (l)), .inl (nI (x)), .inl (nI (d)), .inl (-1), .inl (nI (0)), .inl (lw)]).set 9 (.inl (nI (d + 1))))) g1_ rfl
      have g3_ : hm H0 _ [R, nu, ob, oi] [.inl (4, [.inr (some (nu)), .inr (some (sp)), .inr (some (co)), .inr (some (se)), .inr (some (inp)), .inr (some (ob)), .inl (pYr p), .inl (nI (l)), .inl (nI (x)), .inl (nI (d + 1)), .inl (-1), .inl (nI (0)), .inl (lw)]), .inr (0, (nf).set (pLf p (l)) (.inl ((pCut p (pYr p))))), .inl (5, [.inr (some (oi)), .inl (nI (os))]), .inr (0, of)] := hm_set (i := 1) (z2 := .inr (0, (nf).set (pLf p (l)) (.inl ((pCut p (pYr p)))))) g2_ rfl
      obtain ⟨G4, y4_, g4_⟩ := t81 (dp := dp + 2) (next := l + 1) (d := d + 1) hA0 hA2 hC h12 (by omega) (by omega) g3_
      have g4_ : hm H0 G4 [R, nu, ob, oi] [.inl (4, [.inr (some (nu)), .inr (some (sp)), .inr (some (co)), .inr (some (se)), .inr (some (inp)), .inr (some (ob)), .inl (pYr p), .inl (nI (l + 1)), .inl (nI (x)), .inl (nI (d + 1)), .inl ((if pNl p ≤ l + 1 then 0 else if d + 1 = 150 then 2 else -1)), .inl (nI (0)), .inl (lw)]), .inr (0, (nf).set (pLf p (l)) (.inl ((pCut p (pYr p))))), .inl (5, [.inr (some (oi)), .inl (nI (os))]), .inr (0, of)] := g4_
      refine ⟨_, ?_, g4_⟩
      refine xT_aload_n g_q69 g69_0 (rfl) ?_
      refine xT_icV (y := nI (0)) g_q69 g69_1 (by decide) ?_
      refine xT_putfield g_q69 g69_2 (ci := 4) (j := 11) rfl (hm_at h (i := 0) rfl rfl) rfl rfl ?_
      refine xT_aload_n g_q69 g69_5 (rfl) ?_
      refine xT_invokevirtual (r := []) (u := some (.inl (nI (0)))) g_q69 g69_6 (j := 68) (so := 0) (by decide +kernel) g_q68 rfl (by rw [x_rcM hA0 (hm_at g1_ (i := 0) rfl rfl)]; rfl) (t68r hA0 hA2 g1_) ?_
      refine xT_ifCondY g_q69 g69_9 (t := 13) (by decide) (c0Y (b := 0) rfl) ?_
      refine xT_aload_n g_q69 g69_13 (rfl) ?_
      refine xT_dup g_q69 g69_14 ?_
      refine xT_getfield g_q69 g69_15 hA0 rfl (hm_at g1_ (i := 0) rfl rfl) rfl rfl ?_
      refine xT_icV (y := nI (1)) g_q69 g69_18 (by decide) ?_
      refine xT_iaddV (y := nI (d + 1)) g_q69 g69_19 (bAddN _ _) ?_
      refine xT_putfield g_q69 g69_20 (ci := 4) (j := 9) rfl (hm_at g1_ (i := 0) rfl rfl) rfl rfl ?_
      refine xT_aload_n g_q69 g69_23 (rfl) ?_
      refine xT_getfield g_q69 g69_24 hA0 rfl (hm_at g2_ (i := 0) rfl rfl) rfl rfl ?_
      refine xT_getfield g_q69 g69_27 hcA rfl (hm_c g2_ hco) rfl rfl ?_
      refine xT_aload_n g_q69 g69_30 (rfl) ?_
      refine xT_getfield g_q69 g69_31 hA0 rfl (hm_at g2_ (i := 0) rfl rfl) rfl rfl ?_
      refine xT_iaload g_q69 g69_34 hrl0 (hm_c g2_ crl) (ixN (n := 12) (by omega) nrl) (ixG (by omega) (erl _ (by omega))) ?_
      refine xT_istore_n g_q69 g69_35 (by decide) ?_
      refine xT_aload_n g_q69 g69_36 (lkN (by decide) (rfl)) ?_
      refine xT_getfield g_q69 g69_37 hA0 rfl (hm_at g2_ (i := 0) rfl rfl) rfl rfl ?_
      refine xT_getfield g_q69 g69_40 hcA rfl (hm_c g2_ hco) rfl rfl ?_
      refine xT_aload_n g_q69 g69_43 (lkN (by decide) (rfl)) ?_
      refine xT_getfield g_q69 g69_44 hA0 rfl (hm_at g2_ (i := 0) rfl rfl) rfl rfl ?_
      refine xT_iaload g_q69 g69_47 hrr0 (hm_c g2_ crr) (ixN (n := 12) (by omega) nrr) (ixG (by omega) (err _ (by omega))) ?_
      refine xT_istore_n g_q69 g69_48 (by decide) ?_
      refine xT_aload_n g_q69 g69_49 (lkN (by decide) (lkN (by decide) (rfl))) ?_
      refine xT_getfield g_q69 g69_50 hA0 rfl (hm_at g2_ (i := 0) rfl rfl) rfl rfl ?_
      refine xT_getfield g_q69 g69_53 hcA rfl (hm_c g2_ hco) rfl rfl ?_
      refine xT_aload_n g_q69 g69_56 (lkN (by decide) (lkN (by decide) (rfl))) ?_
      refine xT_getfield g_q69 g69_57 hA0 rfl (hm_at g2_ (i := 0) rfl rfl) rfl rfl ?_
      refine xT_iaload g_q69 g69_60 hrn0 (hm_c g2_ crn) (ixN (n := 12) (by omega) nrn) (ixG (by omega) (ern _ (by omega))) ?_
      refine xT_istore_n g_q69 g69_61 (by decide) ?_
      refine xT_aload_n g_q69 g69_62 (lkN (by decide) (lkN (by decide) (lkN (by decide) (rfl)))) ?_
      refine xT_getfield g_q69 g69_63 hA0 rfl (hm_at g2_ (i := 0) rfl rfl) rfl rfl ?_
      refine xT_icV (y := nI (1)) g_q69 g69_66 (by decide) ?_
      refine xT_iaddV (y := nI (l + 1)) g_q69 g69_67 (bAddN _ _) ?_
      refine xT_istore g_q69 g69_68 (by decide) ?_
      refine xT_aload_n g_q69 g69_70 (lkN (by decide) (lkN (by decide) (lkN (by decide) (lkN (by decide) (rfl))))) ?_
      refine xT_getfield g_q69 g69_71 hA0 rfl (hm_at g2_ (i := 0) rfl rfl) rfl rfl ?_
      refine xT_getfield g_q69 g69_74 hcA rfl (hm_c g2_ hco) rfl rfl ?_
      refine xT_aload_n g_q69 g69_77 (lkN (by decide) (lkN (by decide) (lkN (by decide) (lkN (by decide) (rfl))))) ?_
      refine xT_getfield g_q69 g69_78 hA0 rfl (hm_at g2_ (i := 0) rfl rfl) rfl rfl ?_
      refine xT_iaload g_q69 g69_81 hro0 (hm_c g2_ cro) (ixN (n := 12) (by omega) nro) (ixG (by omega) (ero _ (by omega))) ?_
      refine xT_tableswitch g_q69 g69_82 (t := 144) (by decide) (by decide) (by rw [hz]; decide) ?_
      refine xT_aload_n g_q69 g69_144 (lkN (by decide) (lkN (by decide) (lkN (by decide) (lkN (by decide) (rfl))))) ?_
      refine xT_getfield g_q69 g69_145 hA0 rfl (hm_at g2_ (i := 0) rfl rfl) rfl rfl ?_
      refine xT_iload_n g_q69 g69_148 (lkN (by decide) (lkN (by decide) (lkN (by decide) (lkY)))) ?_
      refine xT_aload_n g_q69 g69_149 (lkN (by decide) (lkN (by decide) (lkN (by decide) (lkN (by decide) (rfl))))) ?_
      refine xT_getfield g_q69 g69_150 hA0 rfl (hm_at g2_ (i := 0) rfl rfl) rfl rfl ?_
      refine xT_iload_n g_q69 g69_153 (lkN (by decide) (lkN (by decide) (lkN (by decide) (lkY)))) ?_
      refine xT_aload_n g_q69 g69_154 (lkN (by decide) (lkN (by decide) (lkN (by decide) (lkN (by decide) (rfl))))) ?_
      refine xT_getfield g_q69 g69_155 hA0 rfl (hm_at g2_ (i := 0) rfl rfl) rfl rfl ?_
      refine xT_invokevirtual (r := [.inl (nI (pLf p (l))), .inr (some (nu))]) (u := some (.inl ((pCut p (pYr p))))) g_q69 g69_158 (j := 70) (so := 0) (by decide +kernel) g_q70 rfl (by rw [x_rcM hsA (hm_c g2_ hsR)]; rfl) (t70 (dp := dp + 1) g2_ hS (by omega) (v := pYr p)) ?_
      refine xT_iastore g_q69 g69_161 (hm_at g2_ (i := 1) rfl rfl) (ixN (n := 6) (by omega) hnl) ?_
      rw [nI_clamp (by omega)]
      refine xT_goto g_q69 g69_162 (t := 367) (by decide) ?_
      refine xT_aload_n g_q69 g69_367 (lkN (by decide) (lkN (by decide) (lkN (by decide) (lkN (by decide) (rfl))))) ?_
      refine xT_invokevirtual (r := []) (u := some (.inl (nI (0)))) g_q69 g69_368 (j := 68) (so := 0) (by decide +kernel) g_q68 rfl (by rw [x_rcM hA0 (hm_at g3_ (i := 0) rfl rfl)]; rfl) (t68r hA0 hA2 g3_) ?_
      refine xT_ifCondN g_q69 g69_371 (t := 380) (by decide) (c1N (b := 0) rfl) ?_
      refine xT_aload_n g_q69 g69_374 (lkN (by decide) (lkN (by decide) (lkN (by decide) (lkN (by decide) (rfl))))) ?_
      refine xT_iload g_q69 g69_375 (lkY) ?_
      refine xT_invokevirtual (r := []) (u := none) g_q69 g69_377 (j := 81) (so := 0) (by decide +kernel) g_q81 rfl (by rw [x_rcM hA0 (hm_at g3_ (i := 0) rfl rfl)]; rfl) (y4_) ?_
      exact xT_return_ g_q69 g69_380 (rfl)
    obtain ⟨H2, y, hh⟩ := key
    refine ⟨H2, y, ?_⟩
    rw [stM_0 (s := (nu_, l, x, d, -1, os, ov)) hz]
    exact ⟨_, _, _, _, _, hh, fun _ => rfl, by rw [List.length_set]; exact hnl, nf_set (by omega) hnf (by omega), hol, hof⟩
  · have hz : pOp p l = 1 := hz
    by_cases hx : x < pNi p
    · skip
      have key : ∃ H2, x_To x_tb x_tyl ot (dp + 3) 69 0 (x_en 0 [.inr (some (R))]) [] H 0 0 none H2 ∧ hm H0 H2 [R, nu, ob, oi] [.inl (4, [.inr (some (nu)), .inr (some (sp)), .inr (some (co)), .inr (some (se)), .inr (some (inp)), .inr (some (ob)), .inl (pYr p), .inl (nI (l + 1)), .inl (nI (x + 1)), .inl (nI (d + 1)), .inl (if pNl p ≤ l + 1 then 0 else if d + 1 = 150 then 2 else -1), .inl (nI 0), .inl (lw)]), .inr (0, nf.set (pLf p l) (.inl (pCut p (pIv p x)))), .inl (5, [.inr (some (oi)), .inl (nI (os))]), .inr (0, of)] := by
        have g1_ : hm H0 _ [R, nu, ob, oi] [.inl (4, [.inr (some (nu)), .inr (some (sp)), .inr (some (co)), .inr (some (se)), .inr (some (inp)), .inr (some (ob)), .inl (pYr p), .inl (nI (l)), .inl (nI (x)), .inl (nI (d)), .inl (-1), .inl (nI (0)), .inl (lw)]), .inr (0, nf), .inl (5, [.inr (some (oi)), .inl (nI (os))]), .inr (0, of)] := hm_set (i := 0) (z2 := .inl (4, ([.inr (some (nu)), .inr (some (sp)), .inr (some (co)), .inr (some (se)), .inr (some (inp)), .inr (some (ob)), .inl (pYr p), .inl (nI (l)), .inl (nI (x)), .inl (nI (d)), .inl (-1), .inl (hw), .inl (lw)]).set 11 (.inl (nI (0))))) h rfl
        have g2_ : hm H0 _ [R, nu, ob, oi] [.inl (4, [.inr (some (nu)), .inr (some (sp)), .inr (some (co)), .inr (some (se)), .inr (some (inp)), .inr (some (ob)), .inl (pYr p), .inl (nI (l)), .inl (nI (x)), .inl (nI (d + 1)), .inl (-1), .inl (nI (0)), .inl (lw)]), .inr (0, nf), .inl (5, [.inr (some (oi)), .inl (nI (os))]), .inr (0, of)] := hm_set (i := 0) (z2 := .inl (4, ([.inr (some (nu)), .inr (some (sp)), .inr (some (co)), .inr (some (se)), .inr (some (inp)), .inr (some (ob)), .inl (pYr p), .inl (nI (l)), .inl (nI (x)), .inl (nI (d)), .inl (-1), .inl (nI (0)), .inl (lw)]).set 9 (.inl (nI (d + 1))))) g1_ rfl
        obtain ⟨G3, y3_, g3_⟩ := t72y (dp := dp) hA0 hA2 hN1 hN3 hnl hol hS hI hi12 (by omega) hx g2_
        have g3_ : hm H0 G3 [R, nu, ob, oi] [.inl (4, [.inr (some (nu)), .inr (some (sp)), .inr (some (co)), .inr (some (se)), .inr (some (inp)), .inr (some (ob)), .inl (pYr p), .inl (nI (l)), .inl (nI (x + 1)), .inl (nI (d + 1)), .inl (-1), .inl (nI (0)), .inl (lw)]), .inr (0, (nf).set (pLf p (l)) (.inl ((pCut p (pIv p (x)))))), .inl (5, [.inr (some (oi)), .inl (nI (os))]), .inr (0, of)] := g3_
        obtain ⟨G4, y4_, g4_⟩ := t81 (dp := dp + 2) (next := l + 1) (d := d + 1) hA0 hA2 hC h12 (by omega) (by omega) g3_
        have g4_ : hm H0 G4 [R, nu, ob, oi] [.inl (4, [.inr (some (nu)), .inr (some (sp)), .inr (some (co)), .inr (some (se)), .inr (some (inp)), .inr (some (ob)), .inl (pYr p), .inl (nI (l + 1)), .inl (nI (x + 1)), .inl (nI (d + 1)), .inl ((if pNl p ≤ l + 1 then 0 else if d + 1 = 150 then 2 else -1)), .inl (nI (0)), .inl (lw)]), .inr (0, (nf).set (pLf p (l)) (.inl ((pCut p (pIv p (x)))))), .inl (5, [.inr (some (oi)), .inl (nI (os))]), .inr (0, of)] := g4_
        refine ⟨_, ?_, g4_⟩
        refine xT_aload_n g_q69 g69_0 (rfl) ?_
        refine xT_icV (y := nI (0)) g_q69 g69_1 (by decide) ?_
        refine xT_putfield g_q69 g69_2 (ci := 4) (j := 11) rfl (hm_at h (i := 0) rfl rfl) rfl rfl ?_
        refine xT_aload_n g_q69 g69_5 (rfl) ?_
        refine xT_invokevirtual (r := []) (u := some (.inl (nI (0)))) g_q69 g69_6 (j := 68) (so := 0) (by decide +kernel) g_q68 rfl (by rw [x_rcM hA0 (hm_at g1_ (i := 0) rfl rfl)]; rfl) (t68r hA0 hA2 g1_) ?_
        refine xT_ifCondY g_q69 g69_9 (t := 13) (by decide) (c0Y (b := 0) rfl) ?_
        refine xT_aload_n g_q69 g69_13 (rfl) ?_
        refine xT_dup g_q69 g69_14 ?_
        refine xT_getfield g_q69 g69_15 hA0 rfl (hm_at g1_ (i := 0) rfl rfl) rfl rfl ?_
        refine xT_icV (y := nI (1)) g_q69 g69_18 (by decide) ?_
        refine xT_iaddV (y := nI (d + 1)) g_q69 g69_19 (bAddN _ _) ?_
        refine xT_putfield g_q69 g69_20 (ci := 4) (j := 9) rfl (hm_at g1_ (i := 0) rfl rfl) rfl rfl ?_
        refine xT_aload_n g_q69 g69_23 (rfl) ?_
        refine xT_getfield g_q69 g69_24 hA0 rfl (hm_at g2_ (i := 0) rfl rfl) rfl rfl ?_
        refine xT_getfield g_q69 g69_27 hcA rfl (hm_c g2_ hco) rfl rfl ?_
        refine xT_aload_n g_q69 g69_30 (rfl) ?_
        refine xT_getfield g_q69 g69_31 hA0 rfl (hm_at g2_ (i := 0) rfl rfl) rfl rfl ?_
        refine xT_iaload g_q69 g69_34 hrl0 (hm_c g2_ crl) (ixN (n := 12) (by omega) nrl) (ixG (by omega) (erl _ (by omega))) ?_
        refine xT_istore_n g_q69 g69_35 (by decide) ?_
        refine xT_aload_n g_q69 g69_36 (lkN (by decide) (rfl)) ?_
        refine xT_getfield g_q69 g69_37 hA0 rfl (hm_at g2_ (i := 0) rfl rfl) rfl rfl ?_
        refine xT_getfield g_q69 g69_40 hcA rfl (hm_c g2_ hco) rfl rfl ?_
        refine xT_aload_n g_q69 g69_43 (lkN (by decide) (rfl)) ?_
        refine xT_getfield g_q69 g69_44 hA0 rfl (hm_at g2_ (i := 0) rfl rfl) rfl rfl ?_
        refine xT_iaload g_q69 g69_47 hrr0 (hm_c g2_ crr) (ixN (n := 12) (by omega) nrr) (ixG (by omega) (err _ (by omega))) ?_
        refine xT_istore_n g_q69 g69_48 (by decide) ?_
        refine xT_aload_n g_q69 g69_49 (lkN (by decide) (lkN (by decide) (rfl))) ?_
        refine xT_getfield g_q69 g69_50 hA0 rfl (hm_at g2_ (i := 0) rfl rfl) rfl rfl ?_
        refine xT_getfield g_q69 g69_53 hcA rfl (hm_c g2_ hco) rfl rfl ?_
        refine xT_aload_n g_q69 g69_56 (lkN (by decide) (lkN (by decide) (rfl))) ?_
        refine xT_getfield g_q69 g69_57 hA0 rfl (hm_at g2_ (i := 0) rfl rfl) rfl rfl ?_
        refine xT_iaload g_q69 g69_60 hrn0 (hm_c g2_ crn) (ixN (n := 12) (by omega) nrn) (ixG (by omega) (ern _ (by omega))) ?_
        refine xT_istore_n g_q69 g69_61 (by decide) ?_
        refine xT_aload_n g_q69 g69_62 (lkN (by decide) (lkN (by decide) (lkN (by decide) (rfl)))) ?_
        refine xT_getfield g_q69 g69_63 hA0 rfl (hm_at g2_ (i := 0) rfl rfl) rfl rfl ?_
        refine xT_icV (y := nI (1)) g_q69 g69_66 (by decide) ?_
        refine xT_iaddV (y := nI (l + 1)) g_q69 g69_67 (bAddN _ _) ?_
        refine xT_istore g_q69 g69_68 (by decide) ?_
        refine xT_aload_n g_q69 g69_70 (lkN (by decide) (lkN (by decide) (lkN (by decide) (lkN (by decide) (rfl))))) ?_
        refine xT_getfield g_q69 g69_71 hA0 rfl (hm_at g2_ (i := 0) rfl rfl) rfl rfl ?_
        refine xT_getfield g_q69 g69_74 hcA rfl (hm_c g2_ hco) rfl rfl ?_
        refine xT_aload_n g_q69 g69_77 (lkN (by decide) (lkN (by decide) (lkN (by decide) (lkN (by decide) (rfl))))) ?_
        refine xT_getfield g_q69 g69_78 hA0 rfl (hm_at g2_ (i := 0) rfl rfl) rfl rfl ?_
        refine xT_iaload g_q69 g69_81 hro0 (hm_c g2_ cro) (ixN (n := 12) (by omega) nro) (ixG (by omega) (ero _ (by omega))) ?_
        refine xT_tableswitch g_q69 g69_82 (t := 165) (by decide) (by decide) (by rw [hz]; decide) ?_
        refine xT_aload_n g_q69 g69_165 (lkN (by decide) (lkN (by decide) (lkN (by decide) (lkN (by decide) (rfl))))) ?_
        refine xT_iload_n g_q69 g69_166 (lkN (by decide) (lkN (by decide) (lkN (by decide) (lkY)))) ?_
        refine xT_invokevirtual (r := []) (u := none) g_q69 g69_167 (j := 72) (so := 0) (by decide +kernel) g_q72 rfl (by rw [x_rcM hA0 (hm_at g2_ (i := 0) rfl rfl)]; rfl) (y3_) ?_
        refine xT_goto g_q69 g69_170 (t := 367) (by decide) ?_
        refine xT_aload_n g_q69 g69_367 (lkN (by decide) (lkN (by decide) (lkN (by decide) (lkN (by decide) (rfl))))) ?_
        refine xT_invokevirtual (r := []) (u := some (.inl (nI (0)))) g_q69 g69_368 (j := 68) (so := 0) (by decide +kernel) g_q68 rfl (by rw [x_rcM hA0 (hm_at g3_ (i := 0) rfl rfl)]; rfl) (t68r hA0 hA2 g3_) ?_
        refine xT_ifCondN g_q69 g69_371 (t := 380) (by decide) (c1N (b := 0) rfl) ?_
        refine xT_aload_n g_q69 g69_374 (lkN (by decide) (lkN (by decide) (lkN (by decide) (lkN (by decide) (rfl))))) ?_
        refine xT_iload g_q69 g69_375 (lkY) ?_
        refine xT_invokevirtual (r := []) (u := none) g_q69 g69_377 (j := 81) (so := 0) (by decide +kernel) g_q81 rfl (by rw [x_rcM hA0 (hm_at g3_ (i := 0) rfl rfl)]; rfl) (y4_) ?_
        exact xT_return_ g_q69 g69_380 (rfl)
      obtain ⟨H2, y, hh⟩ := key
      refine ⟨H2, y, ?_⟩
      rw [stM_1 (s := (nu_, l, x, d, -1, os, ov)) hz, if_pos (show rNx (nu_, l, x, d, (-1 : Int32), os, ov) < pNi p from hx)]
      exact ⟨_, _, _, _, _, hh, fun _ => rfl, by rw [List.length_set]; exact hnl, nf_set (by omega) hnf (by omega), hol, hof⟩
    · skip
      have key : ∃ H2, x_To x_tb x_tyl ot (dp + 3) 69 0 (x_en 0 [.inr (some (R))]) [] H 0 0 none H2 ∧ hm H0 H2 [R, nu, ob, oi] [.inl (4, [.inr (some (nu)), .inr (some (sp)), .inr (some (co)), .inr (some (se)), .inr (some (inp)), .inr (some (ob)), .inl (pYr p), .inl (nI l), .inl (nI x), .inl (nI (d + 1)), .inl (nI 1), .inl (nI 0), .inl (lw)]), .inr (0, nf), .inl (5, [.inr (some (oi)), .inl (nI (os))]), .inr (0, of)] := by
        have g1_ : hm H0 _ [R, nu, ob, oi] [.inl (4, [.inr (some (nu)), .inr (some (sp)), .inr (some (co)), .inr (some (se)), .inr (some (inp)), .inr (some (ob)), .inl (pYr p), .inl (nI (l)), .inl (nI (x)), .inl (nI (d)), .inl (-1), .inl (nI (0)), .inl (lw)]), .inr (0, nf), .inl (5, [.inr (some (oi)), .inl (nI (os))]), .inr (0, of)] := hm_set (i := 0) (z2 := .inl (4, ([.inr (some (nu)), .inr (some (sp)), .inr (some (co)), .inr (some (se)), .inr (some (inp)), .inr (some (ob)), .inl (pYr p), .inl (nI (l)), .inl (nI (x)), .inl (nI (d)), .inl (-1), .inl (hw), .inl (lw)]).set 11 (.inl (nI (0))))) h rfl
        have g2_ : hm H0 _ [R, nu, ob, oi] [.inl (4, [.inr (some (nu)), .inr (some (sp)), .inr (some (co)), .inr (some (se)), .inr (some (inp)), .inr (some (ob)), .inl (pYr p), .inl (nI (l)), .inl (nI (x)), .inl (nI (d + 1)), .inl (-1), .inl (nI (0)), .inl (lw)]), .inr (0, nf), .inl (5, [.inr (some (oi)), .inl (nI (os))]), .inr (0, of)] := hm_set (i := 0) (z2 := .inl (4, ([.inr (some (nu)), .inr (some (sp)), .inr (some (co)), .inr (some (se)), .inr (some (inp)), .inr (some (ob)), .inl (pYr p), .inl (nI (l)), .inl (nI (x)), .inl (nI (d)), .inl (-1), .inl (nI (0)), .inl (lw)]).set 9 (.inl (nI (d + 1))))) g1_ rfl
        obtain ⟨G3, y3_, g3_⟩ := t72n (dp := dp) hA0 hA2 hN1 hN3 hnl hol hS hI hi12 (by omega) (by omega) (by omega) g2_
        have g3_ : hm H0 G3 [R, nu, ob, oi] [.inl (4, [.inr (some (nu)), .inr (some (sp)), .inr (some (co)), .inr (some (se)), .inr (some (inp)), .inr (some (ob)), .inl (pYr p), .inl (nI (l)), .inl (nI (x)), .inl (nI (d + 1)), .inl (nI (1)), .inl (nI (0)), .inl (lw)]), .inr (0, nf), .inl (5, [.inr (some (oi)), .inl (nI (os))]), .inr (0, of)] := g3_
        refine ⟨_, ?_, g3_⟩
        refine xT_aload_n g_q69 g69_0 (rfl) ?_
        refine xT_icV (y := nI (0)) g_q69 g69_1 (by decide) ?_
        refine xT_putfield g_q69 g69_2 (ci := 4) (j := 11) rfl (hm_at h (i := 0) rfl rfl) rfl rfl ?_
        refine xT_aload_n g_q69 g69_5 (rfl) ?_
        refine xT_invokevirtual (r := []) (u := some (.inl (nI (0)))) g_q69 g69_6 (j := 68) (so := 0) (by decide +kernel) g_q68 rfl (by rw [x_rcM hA0 (hm_at g1_ (i := 0) rfl rfl)]; rfl) (t68r hA0 hA2 g1_) ?_
        refine xT_ifCondY g_q69 g69_9 (t := 13) (by decide) (c0Y (b := 0) rfl) ?_
        refine xT_aload_n g_q69 g69_13 (rfl) ?_
        refine xT_dup g_q69 g69_14 ?_
        refine xT_getfield g_q69 g69_15 hA0 rfl (hm_at g1_ (i := 0) rfl rfl) rfl rfl ?_
        refine xT_icV (y := nI (1)) g_q69 g69_18 (by decide) ?_
        refine xT_iaddV (y := nI (d + 1)) g_q69 g69_19 (bAddN _ _) ?_
        refine xT_putfield g_q69 g69_20 (ci := 4) (j := 9) rfl (hm_at g1_ (i := 0) rfl rfl) rfl rfl ?_
        refine xT_aload_n g_q69 g69_23 (rfl) ?_
        refine xT_getfield g_q69 g69_24 hA0 rfl (hm_at g2_ (i := 0) rfl rfl) rfl rfl ?_
        refine xT_getfield g_q69 g69_27 hcA rfl (hm_c g2_ hco) rfl rfl ?_
        refine xT_aload_n g_q69 g69_30 (rfl) ?_
        refine xT_getfield g_q69 g69_31 hA0 rfl (hm_at g2_ (i := 0) rfl rfl) rfl rfl ?_
        refine xT_iaload g_q69 g69_34 hrl0 (hm_c g2_ crl) (ixN (n := 12) (by omega) nrl) (ixG (by omega) (erl _ (by omega))) ?_
        refine xT_istore_n g_q69 g69_35 (by decide) ?_
        refine xT_aload_n g_q69 g69_36 (lkN (by decide) (rfl)) ?_
        refine xT_getfield g_q69 g69_37 hA0 rfl (hm_at g2_ (i := 0) rfl rfl) rfl rfl ?_
        refine xT_getfield g_q69 g69_40 hcA rfl (hm_c g2_ hco) rfl rfl ?_
        refine xT_aload_n g_q69 g69_43 (lkN (by decide) (rfl)) ?_
        refine xT_getfield g_q69 g69_44 hA0 rfl (hm_at g2_ (i := 0) rfl rfl) rfl rfl ?_
        refine xT_iaload g_q69 g69_47 hrr0 (hm_c g2_ crr) (ixN (n := 12) (by omega) nrr) (ixG (by omega) (err _ (by omega))) ?_
        refine xT_istore_n g_q69 g69_48 (by decide) ?_
        refine xT_aload_n g_q69 g69_49 (lkN (by decide) (lkN (by decide) (rfl))) ?_
        refine xT_getfield g_q69 g69_50 hA0 rfl (hm_at g2_ (i := 0) rfl rfl) rfl rfl ?_
        refine xT_getfield g_q69 g69_53 hcA rfl (hm_c g2_ hco) rfl rfl ?_
        refine xT_aload_n g_q69 g69_56 (lkN (by decide) (lkN (by decide) (rfl))) ?_
        refine xT_getfield g_q69 g69_57 hA0 rfl (hm_at g2_ (i := 0) rfl rfl) rfl rfl ?_
        refine xT_iaload g_q69 g69_60 hrn0 (hm_c g2_ crn) (ixN (n := 12) (by omega) nrn) (ixG (by omega) (ern _ (by omega))) ?_
        refine xT_istore_n g_q69 g69_61 (by decide) ?_
        refine xT_aload_n g_q69 g69_62 (lkN (by decide) (lkN (by decide) (lkN (by decide) (rfl)))) ?_
        refine xT_getfield g_q69 g69_63 hA0 rfl (hm_at g2_ (i := 0) rfl rfl) rfl rfl ?_
        refine xT_icV (y := nI (1)) g_q69 g69_66 (by decide) ?_
        refine xT_iaddV (y := nI (l + 1)) g_q69 g69_67 (bAddN _ _) ?_
        refine xT_istore g_q69 g69_68 (by decide) ?_
        refine xT_aload_n g_q69 g69_70 (lkN (by decide) (lkN (by decide) (lkN (by decide) (lkN (by decide) (rfl))))) ?_
        refine xT_getfield g_q69 g69_71 hA0 rfl (hm_at g2_ (i := 0) rfl rfl) rfl rfl ?_
        refine xT_getfield g_q69 g69_74 hcA rfl (hm_c g2_ hco) rfl rfl ?_
        refine xT_aload_n g_q69 g69_77 (lkN (by decide) (lkN (by decide) (lkN (by decide) (lkN (by decide) (rfl))))) ?_
        refine xT_getfield g_q69 g69_78 hA0 rfl (hm_at g2_ (i := 0) rfl rfl) rfl rfl ?_
        refine xT_iaload g_q69 g69_81 hro0 (hm_c g2_ cro) (ixN (n := 12) (by omega) nro) (ixG (by omega) (ero _ (by omega))) ?_
        refine xT_tableswitch g_q69 g69_82 (t := 165) (by decide) (by decide) (by rw [hz]; decide) ?_
        refine xT_aload_n g_q69 g69_165 (lkN (by decide) (lkN (by decide) (lkN (by decide) (lkN (by decide) (rfl))))) ?_
        refine xT_iload_n g_q69 g69_166 (lkN (by decide) (lkN (by decide) (lkN (by decide) (lkY)))) ?_
        refine xT_invokevirtual (r := []) (u := none) g_q69 g69_167 (j := 72) (so := 0) (by decide +kernel) g_q72 rfl (by rw [x_rcM hA0 (hm_at g2_ (i := 0) rfl rfl)]; rfl) (y3_) ?_
        refine xT_goto g_q69 g69_170 (t := 367) (by decide) ?_
        refine xT_aload_n g_q69 g69_367 (lkN (by decide) (lkN (by decide) (lkN (by decide) (lkN (by decide) (rfl))))) ?_
        refine xT_invokevirtual (r := []) (u := some (.inl (nI (1)))) g_q69 g69_368 (j := 68) (so := 0) (by decide +kernel) g_q68 rfl (by rw [x_rcM hA0 (hm_at g3_ (i := 0) rfl rfl)]; rfl) (t68o hA0 hA2 g3_ (by decide)) ?_
        refine xT_ifCondY g_q69 g69_371 (t := 380) (by decide) (c1Y (a := 1) (b := 0) (by omega) (by omega) (by omega)) ?_
        exact xT_return_ g_q69 g69_380 (rfl)
      obtain ⟨H2, y, hh⟩ := key
      refine ⟨H2, y, ?_⟩
      rw [stM_1 (s := (nu_, l, x, d, -1, os, ov)) hz, if_neg (show ¬ rNx (nu_, l, x, d, (-1 : Int32), os, ov) < pNi p from hx)]
      exact ⟨_, _, _, _, _, hh, fun z => absurd z (show ¬ ((1 : Int32) = -1) by decide), hnl, hnf, hol, hof⟩
  · have hz : pOp p l = 2 := hz
    by_cases ho : os < 12
    · skip
      have key : ∃ H2, x_To x_tb x_tyl ot (dp + 3) 69 0 (x_en 0 [.inr (some (R))]) [] H 0 0 none H2 ∧ hm H0 H2 [R, nu, ob, oi] [.inl (4, [.inr (some (nu)), .inr (some (sp)), .inr (some (co)), .inr (some (se)), .inr (some (inp)), .inr (some (ob)), .inl (pYr p), .inl (nI (l + 1)), .inl (nI x), .inl (nI (d + 1)), .inl (if pNl p ≤ l + 1 then 0 else if d + 1 = 150 then 2 else -1), .inl (nI 1), .inl (nu_ (pLf p l))]), .inr (0, nf), .inl (5, [.inr (some (oi)), .inl (nI (os + 1))]), .inr (0, of.set os (.inl (nu_ (pLf p l))))] := by
        have g1_ : hm H0 _ [R, nu, ob, oi] [.inl (4, [.inr (some (nu)), .inr (some (sp)), .inr (some (co)), .inr (some (se)), .inr (some (inp)), .inr (some (ob)), .inl (pYr p), .inl (nI (l)), .inl (nI (x)), .inl (nI (d)), .inl (-1), .inl (nI (0)), .inl (lw)]), .inr (0, nf), .inl (5, [.inr (some (oi)), .inl (nI (os))]), .inr (0, of)] := hm_set (i := 0) (z2 := .inl (4, ([.inr (some (nu)), .inr (some (sp)), .inr (some (co)), .inr (some (se)), .inr (some (inp)), .inr (some (ob)), .inl (pYr p), .inl (nI (l)), .inl (nI (x)), .inl (nI (d)), .inl (-1), .inl (hw), .inl (lw)]).set 11 (.inl (nI (0))))) h rfl
        have g2_ : hm H0 _ [R, nu, ob, oi] [.inl (4, [.inr (some (nu)), .inr (some (sp)), .inr (some (co)), .inr (some (se)), .inr (some (inp)), .inr (some (ob)), .inl (pYr p), .inl (nI (l)), .inl (nI (x)), .inl (nI (d + 1)), .inl (-1), .inl (nI (0)), .inl (lw)]), .inr (0, nf), .inl (5, [.inr (some (oi)), .inl (nI (os))]), .inr (0, of)] := hm_set (i := 0) (z2 := .inl (4, ([.inr (some (nu)), .inr (some (sp)), .inr (some (co)), .inr (some (se)), .inr (some (inp)), .inr (some (ob)), .inl (pYr p), .inl (nI (l)), .inl (nI (x)), .inl (nI (d)), .inl (-1), .inl (nI (0)), .inl (lw)]).set 9 (.inl (nI (d + 1))))) g1_ rfl
        obtain ⟨G3, y3_, g3_⟩ := t75y (dp := dp + 1) hA0 hA2 hN1 hN3 hnl hol hnf (by omega) ho g2_
        have g3_ : hm H0 G3 [R, nu, ob, oi] [.inl (4, [.inr (some (nu)), .inr (some (sp)), .inr (some (co)), .inr (some (se)), .inr (some (inp)), .inr (some (ob)), .inl (pYr p), .inl (nI (l)), .inl (nI (x)), .inl (nI (d + 1)), .inl (-1), .inl (nI (1)), .inl (nu_ (pLf p (l)))]), .inr (0, nf), .inl (5, [.inr (some (oi)), .inl (nI (os + 1))]), .inr (0, (of).set (os) (.inl (nu_ (pLf p (l)))))] := g3_
        obtain ⟨G4, y4_, g4_⟩ := t81 (dp := dp + 2) (next := l + 1) (d := d + 1) hA0 hA2 hC h12 (by omega) (by omega) g3_
        have g4_ : hm H0 G4 [R, nu, ob, oi] [.inl (4, [.inr (some (nu)), .inr (some (sp)), .inr (some (co)), .inr (some (se)), .inr (some (inp)), .inr (some (ob)), .inl (pYr p), .inl (nI (l + 1)), .inl (nI (x)), .inl (nI (d + 1)), .inl ((if pNl p ≤ l + 1 then 0 else if d + 1 = 150 then 2 else -1)), .inl (nI (1)), .inl (nu_ (pLf p (l)))]), .inr (0, nf), .inl (5, [.inr (some (oi)), .inl (nI (os + 1))]), .inr (0, (of).set (os) (.inl (nu_ (pLf p (l)))))] := g4_
        refine ⟨_, ?_, g4_⟩
        refine xT_aload_n g_q69 g69_0 (rfl) ?_
        refine xT_icV (y := nI (0)) g_q69 g69_1 (by decide) ?_
        refine xT_putfield g_q69 g69_2 (ci := 4) (j := 11) rfl (hm_at h (i := 0) rfl rfl) rfl rfl ?_
        refine xT_aload_n g_q69 g69_5 (rfl) ?_
        refine xT_invokevirtual (r := []) (u := some (.inl (nI (0)))) g_q69 g69_6 (j := 68) (so := 0) (by decide +kernel) g_q68 rfl (by rw [x_rcM hA0 (hm_at g1_ (i := 0) rfl rfl)]; rfl) (t68r hA0 hA2 g1_) ?_
        refine xT_ifCondY g_q69 g69_9 (t := 13) (by decide) (c0Y (b := 0) rfl) ?_
        refine xT_aload_n g_q69 g69_13 (rfl) ?_
        refine xT_dup g_q69 g69_14 ?_
        refine xT_getfield g_q69 g69_15 hA0 rfl (hm_at g1_ (i := 0) rfl rfl) rfl rfl ?_
        refine xT_icV (y := nI (1)) g_q69 g69_18 (by decide) ?_
        refine xT_iaddV (y := nI (d + 1)) g_q69 g69_19 (bAddN _ _) ?_
        refine xT_putfield g_q69 g69_20 (ci := 4) (j := 9) rfl (hm_at g1_ (i := 0) rfl rfl) rfl rfl ?_
        refine xT_aload_n g_q69 g69_23 (rfl) ?_
        refine xT_getfield g_q69 g69_24 hA0 rfl (hm_at g2_ (i := 0) rfl rfl) rfl rfl ?_
        refine xT_getfield g_q69 g69_27 hcA rfl (hm_c g2_ hco) rfl rfl ?_
        refine xT_aload_n g_q69 g69_30 (rfl) ?_
        refine xT_getfield g_q69 g69_31 hA0 rfl (hm_at g2_ (i := 0) rfl rfl) rfl rfl ?_
        refine xT_iaload g_q69 g69_34 hrl0 (hm_c g2_ crl) (ixN (n := 12) (by omega) nrl) (ixG (by omega) (erl _ (by omega))) ?_
        refine xT_istore_n g_q69 g69_35 (by decide) ?_
        refine xT_aload_n g_q69 g69_36 (lkN (by decide) (rfl)) ?_
        refine xT_getfield g_q69 g69_37 hA0 rfl (hm_at g2_ (i := 0) rfl rfl) rfl rfl ?_
        refine xT_getfield g_q69 g69_40 hcA rfl (hm_c g2_ hco) rfl rfl ?_
        refine xT_aload_n g_q69 g69_43 (lkN (by decide) (rfl)) ?_
        refine xT_getfield g_q69 g69_44 hA0 rfl (hm_at g2_ (i := 0) rfl rfl) rfl rfl ?_
        refine xT_iaload g_q69 g69_47 hrr0 (hm_c g2_ crr) (ixN (n := 12) (by omega) nrr) (ixG (by omega) (err _ (by omega))) ?_
        refine xT_istore_n g_q69 g69_48 (by decide) ?_
        refine xT_aload_n g_q69 g69_49 (lkN (by decide) (lkN (by decide) (rfl))) ?_
        refine xT_getfield g_q69 g69_50 hA0 rfl (hm_at g2_ (i := 0) rfl rfl) rfl rfl ?_
        refine xT_getfield g_q69 g69_53 hcA rfl (hm_c g2_ hco) rfl rfl ?_
        refine xT_aload_n g_q69 g69_56 (lkN (by decide) (lkN (by decide) (rfl))) ?_
        refine xT_getfield g_q69 g69_57 hA0 rfl (hm_at g2_ (i := 0) rfl rfl) rfl rfl ?_
        refine xT_iaload g_q69 g69_60 hrn0 (hm_c g2_ crn) (ixN (n := 12) (by omega) nrn) (ixG (by omega) (ern _ (by omega))) ?_
        refine xT_istore_n g_q69 g69_61 (by decide) ?_
        refine xT_aload_n g_q69 g69_62 (lkN (by decide) (lkN (by decide) (lkN (by decide) (rfl)))) ?_
        refine xT_getfield g_q69 g69_63 hA0 rfl (hm_at g2_ (i := 0) rfl rfl) rfl rfl ?_
        refine xT_icV (y := nI (1)) g_q69 g69_66 (by decide) ?_
        refine xT_iaddV (y := nI (l + 1)) g_q69 g69_67 (bAddN _ _) ?_
        refine xT_istore g_q69 g69_68 (by decide) ?_
        refine xT_aload_n g_q69 g69_70 (lkN (by decide) (lkN (by decide) (lkN (by decide) (lkN (by decide) (rfl))))) ?_
        refine xT_getfield g_q69 g69_71 hA0 rfl (hm_at g2_ (i := 0) rfl rfl) rfl rfl ?_
        refine xT_getfield g_q69 g69_74 hcA rfl (hm_c g2_ hco) rfl rfl ?_
        refine xT_aload_n g_q69 g69_77 (lkN (by decide) (lkN (by decide) (lkN (by decide) (lkN (by decide) (rfl))))) ?_
        refine xT_getfield g_q69 g69_78 hA0 rfl (hm_at g2_ (i := 0) rfl rfl) rfl rfl ?_
        refine xT_iaload g_q69 g69_81 hro0 (hm_c g2_ cro) (ixN (n := 12) (by omega) nro) (ixG (by omega) (ero _ (by omega))) ?_
        refine xT_tableswitch g_q69 g69_82 (t := 173) (by decide) (by decide) (by rw [hz]; decide) ?_
        refine xT_aload_n g_q69 g69_173 (lkN (by decide) (lkN (by decide) (lkN (by decide) (lkN (by decide) (rfl))))) ?_
        refine xT_iload_n g_q69 g69_174 (lkN (by decide) (lkN (by decide) (lkN (by decide) (lkY)))) ?_
        refine xT_invokevirtual (r := []) (u := none) g_q69 g69_175 (j := 75) (so := 0) (by decide +kernel) g_q75 rfl (by rw [x_rcM hA0 (hm_at g2_ (i := 0) rfl rfl)]; rfl) (y3_) ?_
        refine xT_goto g_q69 g69_178 (t := 367) (by decide) ?_
        refine xT_aload_n g_q69 g69_367 (lkN (by decide) (lkN (by decide) (lkN (by decide) (lkN (by decide) (rfl))))) ?_
        refine xT_invokevirtual (r := []) (u := some (.inl (nI (0)))) g_q69 g69_368 (j := 68) (so := 0) (by decide +kernel) g_q68 rfl (by rw [x_rcM hA0 (hm_at g3_ (i := 0) rfl rfl)]; rfl) (t68r hA0 hA2 g3_) ?_
        refine xT_ifCondN g_q69 g69_371 (t := 380) (by decide) (c1N (b := 0) rfl) ?_
        refine xT_aload_n g_q69 g69_374 (lkN (by decide) (lkN (by decide) (lkN (by decide) (lkN (by decide) (rfl))))) ?_
        refine xT_iload g_q69 g69_375 (lkY) ?_
        refine xT_invokevirtual (r := []) (u := none) g_q69 g69_377 (j := 81) (so := 0) (by decide +kernel) g_q81 rfl (by rw [x_rcM hA0 (hm_at g3_ (i := 0) rfl rfl)]; rfl) (y4_) ?_
        exact xT_return_ g_q69 g69_380 (rfl)
      obtain ⟨H2, y, hh⟩ := key
      refine ⟨H2, y, ?_⟩
      rw [stM_2 (s := (nu_, l, x, d, -1, os, ov)) hz, if_pos (show rOs (nu_, l, x, d, (-1 : Int32), os, ov) < 12 from ho)]
      exact ⟨_, _, _, _, _, hh, fun _ => rfl, hnl, hnf, by rw [List.length_set]; exact hol, of_set (by omega) hof⟩
    · skip
      have key : ∃ H2, x_To x_tb x_tyl ot (dp + 3) 69 0 (x_en 0 [.inr (some (R))]) [] H 0 0 none H2 ∧ hm H0 H2 [R, nu, ob, oi] [.inl (4, [.inr (some (nu)), .inr (some (sp)), .inr (some (co)), .inr (some (se)), .inr (some (inp)), .inr (some (ob)), .inl (pYr p), .inl (nI l), .inl (nI x), .inl (nI (d + 1)), .inl (nI 1), .inl (nI 0), .inl (nu_ (pLf p l))]), .inr (0, nf), .inl (5, [.inr (some (oi)), .inl (nI (os))]), .inr (0, of)] := by
        have g1_ : hm H0 _ [R, nu, ob, oi] [.inl (4, [.inr (some (nu)), .inr (some (sp)), .inr (some (co)), .inr (some (se)), .inr (some (inp)), .inr (some (ob)), .inl (pYr p), .inl (nI (l)), .inl (nI (x)), .inl (nI (d)), .inl (-1), .inl (nI (0)), .inl (lw)]), .inr (0, nf), .inl (5, [.inr (some (oi)), .inl (nI (os))]), .inr (0, of)] := hm_set (i := 0) (z2 := .inl (4, ([.inr (some (nu)), .inr (some (sp)), .inr (some (co)), .inr (some (se)), .inr (some (inp)), .inr (some (ob)), .inl (pYr p), .inl (nI (l)), .inl (nI (x)), .inl (nI (d)), .inl (-1), .inl (hw), .inl (lw)]).set 11 (.inl (nI (0))))) h rfl
        have g2_ : hm H0 _ [R, nu, ob, oi] [.inl (4, [.inr (some (nu)), .inr (some (sp)), .inr (some (co)), .inr (some (se)), .inr (some (inp)), .inr (some (ob)), .inl (pYr p), .inl (nI (l)), .inl (nI (x)), .inl (nI (d + 1)), .inl (-1), .inl (nI (0)), .inl (lw)]), .inr (0, nf), .inl (5, [.inr (some (oi)), .inl (nI (os))]), .inr (0, of)] := hm_set (i := 0) (z2 := .inl (4, ([.inr (some (nu)), .inr (some (sp)), .inr (some (co)), .inr (some (se)), .inr (some (inp)), .inr (some (ob)), .inl (pYr p), .inl (nI (l)), .inl (nI (x)), .inl (nI (d)), .inl (-1), .inl (nI (0)), .inl (lw)]).set 9 (.inl (nI (d + 1))))) g1_ rfl
        obtain ⟨G3, y3_, g3_⟩ := t75n (dp := dp + 1) hA0 hA2 hN1 hN3 hnl hol hnf (by omega) (by omega) (by omega) g2_
        have g3_ : hm H0 G3 [R, nu, ob, oi] [.inl (4, [.inr (some (nu)), .inr (some (sp)), .inr (some (co)), .inr (some (se)), .inr (some (inp)), .inr (some (ob)), .inl (pYr p), .inl (nI (l)), .inl (nI (x)), .inl (nI (d + 1)), .inl (nI (1)), .inl (nI (0)), .inl (nu_ (pLf p (l)))]), .inr (0, nf), .inl (5, [.inr (some (oi)), .inl (nI (os))]), .inr (0, of)] := g3_
        refine ⟨_, ?_, g3_⟩
        refine xT_aload_n g_q69 g69_0 (rfl) ?_
        refine xT_icV (y := nI (0)) g_q69 g69_1 (by decide) ?_
        refine xT_putfield g_q69 g69_2 (ci := 4) (j := 11) rfl (hm_at h (i := 0) rfl rfl) rfl rfl ?_
        refine xT_aload_n g_q69 g69_5 (rfl) ?_
        refine xT_invokevirtual (r := []) (u := some (.inl (nI (0)))) g_q69 g69_6 (j := 68) (so := 0) (by decide +kernel) g_q68 rfl (by rw [x_rcM hA0 (hm_at g1_ (i := 0) rfl rfl)]; rfl) (t68r hA0 hA2 g1_) ?_
        refine xT_ifCondY g_q69 g69_9 (t := 13) (by decide) (c0Y (b := 0) rfl) ?_
        refine xT_aload_n g_q69 g69_13 (rfl) ?_
        refine xT_dup g_q69 g69_14 ?_
        refine xT_getfield g_q69 g69_15 hA0 rfl (hm_at g1_ (i := 0) rfl rfl) rfl rfl ?_
        refine xT_icV (y := nI (1)) g_q69 g69_18 (by decide) ?_
        refine xT_iaddV (y := nI (d + 1)) g_q69 g69_19 (bAddN _ _) ?_
        refine xT_putfield g_q69 g69_20 (ci := 4) (j := 9) rfl (hm_at g1_ (i := 0) rfl rfl) rfl rfl ?_
        refine xT_aload_n g_q69 g69_23 (rfl) ?_
        refine xT_getfield g_q69 g69_24 hA0 rfl (hm_at g2_ (i := 0) rfl rfl) rfl rfl ?_
        refine xT_getfield g_q69 g69_27 hcA rfl (hm_c g2_ hco) rfl rfl ?_
        refine xT_aload_n g_q69 g69_30 (rfl) ?_
        refine xT_getfield g_q69 g69_31 hA0 rfl (hm_at g2_ (i := 0) rfl rfl) rfl rfl ?_
        refine xT_iaload g_q69 g69_34 hrl0 (hm_c g2_ crl) (ixN (n := 12) (by omega) nrl) (ixG (by omega) (erl _ (by omega))) ?_
        refine xT_istore_n g_q69 g69_35 (by decide) ?_
        refine xT_aload_n g_q69 g69_36 (lkN (by decide) (rfl)) ?_
        refine xT_getfield g_q69 g69_37 hA0 rfl (hm_at g2_ (i := 0) rfl rfl) rfl rfl ?_
        refine xT_getfield g_q69 g69_40 hcA rfl (hm_c g2_ hco) rfl rfl ?_
        refine xT_aload_n g_q69 g69_43 (lkN (by decide) (rfl)) ?_
        refine xT_getfield g_q69 g69_44 hA0 rfl (hm_at g2_ (i := 0) rfl rfl) rfl rfl ?_
        refine xT_iaload g_q69 g69_47 hrr0 (hm_c g2_ crr) (ixN (n := 12) (by omega) nrr) (ixG (by omega) (err _ (by omega))) ?_
        refine xT_istore_n g_q69 g69_48 (by decide) ?_
        refine xT_aload_n g_q69 g69_49 (lkN (by decide) (lkN (by decide) (rfl))) ?_
        refine xT_getfield g_q69 g69_50 hA0 rfl (hm_at g2_ (i := 0) rfl rfl) rfl rfl ?_
        refine xT_getfield g_q69 g69_53 hcA rfl (hm_c g2_ hco) rfl rfl ?_
        refine xT_aload_n g_q69 g69_56 (lkN (by decide) (lkN (by decide) (rfl))) ?_
        refine xT_getfield g_q69 g69_57 hA0 rfl (hm_at g2_ (i := 0) rfl rfl) rfl rfl ?_
        refine xT_iaload g_q69 g69_60 hrn0 (hm_c g2_ crn) (ixN (n := 12) (by omega) nrn) (ixG (by omega) (ern _ (by omega))) ?_
        refine xT_istore_n g_q69 g69_61 (by decide) ?_
        refine xT_aload_n g_q69 g69_62 (lkN (by decide) (lkN (by decide) (lkN (by decide) (rfl)))) ?_
        refine xT_getfield g_q69 g69_63 hA0 rfl (hm_at g2_ (i := 0) rfl rfl) rfl rfl ?_
        refine xT_icV (y := nI (1)) g_q69 g69_66 (by decide) ?_
        refine xT_iaddV (y := nI (l + 1)) g_q69 g69_67 (bAddN _ _) ?_
        refine xT_istore g_q69 g69_68 (by decide) ?_
        refine xT_aload_n g_q69 g69_70 (lkN (by decide) (lkN (by decide) (lkN (by decide) (lkN (by decide) (rfl))))) ?_
        refine xT_getfield g_q69 g69_71 hA0 rfl (hm_at g2_ (i := 0) rfl rfl) rfl rfl ?_
        refine xT_getfield g_q69 g69_74 hcA rfl (hm_c g2_ hco) rfl rfl ?_
        refine xT_aload_n g_q69 g69_77 (lkN (by decide) (lkN (by decide) (lkN (by decide) (lkN (by decide) (rfl))))) ?_
        refine xT_getfield g_q69 g69_78 hA0 rfl (hm_at g2_ (i := 0) rfl rfl) rfl rfl ?_
        refine xT_iaload g_q69 g69_81 hro0 (hm_c g2_ cro) (ixN (n := 12) (by omega) nro) (ixG (by omega) (ero _ (by omega))) ?_
        refine xT_tableswitch g_q69 g69_82 (t := 173) (by decide) (by decide) (by rw [hz]; decide) ?_
        refine xT_aload_n g_q69 g69_173 (lkN (by decide) (lkN (by decide) (lkN (by decide) (lkN (by decide) (rfl))))) ?_
        refine xT_iload_n g_q69 g69_174 (lkN (by decide) (lkN (by decide) (lkN (by decide) (lkY)))) ?_
        refine xT_invokevirtual (r := []) (u := none) g_q69 g69_175 (j := 75) (so := 0) (by decide +kernel) g_q75 rfl (by rw [x_rcM hA0 (hm_at g2_ (i := 0) rfl rfl)]; rfl) (y3_) ?_
        refine xT_goto g_q69 g69_178 (t := 367) (by decide) ?_
        refine xT_aload_n g_q69 g69_367 (lkN (by decide) (lkN (by decide) (lkN (by decide) (lkN (by decide) (rfl))))) ?_
        refine xT_invokevirtual (r := []) (u := some (.inl (nI (1)))) g_q69 g69_368 (j := 68) (so := 0) (by decide +kernel) g_q68 rfl (by rw [x_rcM hA0 (hm_at g3_ (i := 0) rfl rfl)]; rfl) (t68o hA0 hA2 g3_ (by decide)) ?_
        refine xT_ifCondY g_q69 g69_371 (t := 380) (by decide) (c1Y (a := 1) (b := 0) (by omega) (by omega) (by omega)) ?_
        exact xT_return_ g_q69 g69_380 (rfl)
      obtain ⟨H2, y, hh⟩ := key
      refine ⟨H2, y, ?_⟩
      rw [stM_2 (s := (nu_, l, x, d, -1, os, ov)) hz, if_neg (show ¬ rOs (nu_, l, x, d, (-1 : Int32), os, ov) < 12 from ho)]
      exact ⟨_, _, _, _, _, hh, fun z => absurd z (show ¬ ((1 : Int32) = -1) by decide), hnl, hnf, hol, hof⟩
  · have hz : pOp p l = 3 := hz
    have key : ∃ H2, x_To x_tb x_tyl ot (dp + 3) 69 0 (x_en 0 [.inr (some (R))]) [] H 0 0 none H2 ∧ hm H0 H2 [R, nu, ob, oi] [.inl (4, [.inr (some (nu)), .inr (some (sp)), .inr (some (co)), .inr (some (se)), .inr (some (inp)), .inr (some (ob)), .inl (pYr p), .inl (nI (l + 1)), .inl (nI x), .inl (nI (d + 1)), .inl (if pNl p ≤ l + 1 then 0 else if d + 1 = 150 then 2 else -1), .inl (nI 0), .inl (lw)]), .inr (0, nf.set (pLf p l) (.inl (pCut p (nI (pNm p l))))), .inl (5, [.inr (some (oi)), .inl (nI (os))]), .inr (0, of)] := by
      have g1_ : hm H0 _ [R, nu, ob, oi] [.inl (4, [.inr (some (nu)), .inr (some (sp)), .inr (some (co)), .inr (some (se)), .inr (some (inp)), .inr (some (ob)), .inl (pYr p), .inl (nI (l)), .inl (nI (x)), .inl (nI (d)), .inl (-1), .inl (nI (0)), .inl (lw)]), .inr (0, nf), .inl (5, [.inr (some (oi)), .inl (nI (os))]), .inr (0, of)] := hm_set (i := 0) (z2 := .inl (4, ([.inr (some (nu)), .inr (some (sp)), .inr (some (co)), .inr (some (se)), .inr (some (inp)), .inr (some (ob)), .inl (pYr p), .inl (nI (l)), .inl (nI (x)), .inl (nI (d)), .inl (-1), .inl (hw), .inl (lw)]).set 11 (.inl (nI (0))))) h rfl
      have g2_ : hm H0 _ [R, nu, ob, oi] [.inl (4, [.inr (some (nu)), .inr (some (sp)), .inr (some (co)), .inr (some (se)), .inr (some (inp)), .inr (some (ob)), .inl (pYr p), .inl (nI (l)), .inl (nI (x)), .inl (nI (d + 1)), .inl (-1), .inl (nI (0)), .inl (lw)]), .inr (0, nf), .inl (5, [.inr (some (oi)), .inl (nI (os))]), .inr (0, of)] := hm_set (i := 0) (z2 := .inl (4, ([.inr (some (nu)), .inr (some (sp)), .inr (some (co)), .inr (some (se)), .inr (some (inp)), .inr (some (ob)), .inl (pYr p), .inl (nI (l)), .inl (nI (x)), .inl (nI (d)), .inl (-1), .inl (nI (0)), .inl (lw)]).set 9 (.inl (nI (d + 1))))) g1_ rfl
      have g3_ : hm H0 _ [R, nu, ob, oi] [.inl (4, [.inr (some (nu)), .inr (some (sp)), .inr (some (co)), .inr (some (se)), .inr (some (inp)), .inr (some (ob)), .inl (pYr p), .inl (nI (l)), .inl (nI (x)), .inl (nI (d + 1)), .inl (-1), .inl (nI (0)), .inl (lw)]), .inr (0, (nf).set (pLf p (l)) (.inl ((pCut p (nI (pNm p (l))))))), .inl (5, [.inr (some (oi)), .inl (nI (os))]), .inr (0, of)] := hm_set (i := 1) (z2 := .inr (0, (nf).set (pLf p (l)) (.inl ((pCut p (nI (pNm p (l)))))))) g2_ rfl
      obtain ⟨G4, y4_, g4_⟩ := t81 (dp := dp + 2) (next := l + 1) (d := d + 1) hA0 hA2 hC h12 (by omega) (by omega) g3_
      have g4_ : hm H0 G4 [R, nu, ob, oi] [.inl (4, [.inr (some (nu)), .inr (some (sp)), .inr (some (co)), .inr (some (se)), .inr (some (inp)), .inr (some (ob)), .inl (pYr p), .inl (nI (l + 1)), .inl (nI (x)), .inl (nI (d + 1)), .inl ((if pNl p ≤ l + 1 then 0 else if d + 1 = 150 then 2 else -1)), .inl (nI (0)), .inl (lw)]), .inr (0, (nf).set (pLf p (l)) (.inl ((pCut p (nI (pNm p (l))))))), .inl (5, [.inr (some (oi)), .inl (nI (os))]), .inr (0, of)] := g4_
      refine ⟨_, ?_, g4_⟩
      refine xT_aload_n g_q69 g69_0 (rfl) ?_
      refine xT_icV (y := nI (0)) g_q69 g69_1 (by decide) ?_
      refine xT_putfield g_q69 g69_2 (ci := 4) (j := 11) rfl (hm_at h (i := 0) rfl rfl) rfl rfl ?_
      refine xT_aload_n g_q69 g69_5 (rfl) ?_
      refine xT_invokevirtual (r := []) (u := some (.inl (nI (0)))) g_q69 g69_6 (j := 68) (so := 0) (by decide +kernel) g_q68 rfl (by rw [x_rcM hA0 (hm_at g1_ (i := 0) rfl rfl)]; rfl) (t68r hA0 hA2 g1_) ?_
      refine xT_ifCondY g_q69 g69_9 (t := 13) (by decide) (c0Y (b := 0) rfl) ?_
      refine xT_aload_n g_q69 g69_13 (rfl) ?_
      refine xT_dup g_q69 g69_14 ?_
      refine xT_getfield g_q69 g69_15 hA0 rfl (hm_at g1_ (i := 0) rfl rfl) rfl rfl ?_
      refine xT_icV (y := nI (1)) g_q69 g69_18 (by decide) ?_
      refine xT_iaddV (y := nI (d + 1)) g_q69 g69_19 (bAddN _ _) ?_
      refine xT_putfield g_q69 g69_20 (ci := 4) (j := 9) rfl (hm_at g1_ (i := 0) rfl rfl) rfl rfl ?_
      refine xT_aload_n g_q69 g69_23 (rfl) ?_
      refine xT_getfield g_q69 g69_24 hA0 rfl (hm_at g2_ (i := 0) rfl rfl) rfl rfl ?_
      refine xT_getfield g_q69 g69_27 hcA rfl (hm_c g2_ hco) rfl rfl ?_
      refine xT_aload_n g_q69 g69_30 (rfl) ?_
      refine xT_getfield g_q69 g69_31 hA0 rfl (hm_at g2_ (i := 0) rfl rfl) rfl rfl ?_
      refine xT_iaload g_q69 g69_34 hrl0 (hm_c g2_ crl) (ixN (n := 12) (by omega) nrl) (ixG (by omega) (erl _ (by omega))) ?_
      refine xT_istore_n g_q69 g69_35 (by decide) ?_
      refine xT_aload_n g_q69 g69_36 (lkN (by decide) (rfl)) ?_
      refine xT_getfield g_q69 g69_37 hA0 rfl (hm_at g2_ (i := 0) rfl rfl) rfl rfl ?_
      refine xT_getfield g_q69 g69_40 hcA rfl (hm_c g2_ hco) rfl rfl ?_
      refine xT_aload_n g_q69 g69_43 (lkN (by decide) (rfl)) ?_
      refine xT_getfield g_q69 g69_44 hA0 rfl (hm_at g2_ (i := 0) rfl rfl) rfl rfl ?_
      refine xT_iaload g_q69 g69_47 hrr0 (hm_c g2_ crr) (ixN (n := 12) (by omega) nrr) (ixG (by omega) (err _ (by omega))) ?_
      refine xT_istore_n g_q69 g69_48 (by decide) ?_
      refine xT_aload_n g_q69 g69_49 (lkN (by decide) (lkN (by decide) (rfl))) ?_
      refine xT_getfield g_q69 g69_50 hA0 rfl (hm_at g2_ (i := 0) rfl rfl) rfl rfl ?_
      refine xT_getfield g_q69 g69_53 hcA rfl (hm_c g2_ hco) rfl rfl ?_
      refine xT_aload_n g_q69 g69_56 (lkN (by decide) (lkN (by decide) (rfl))) ?_
      refine xT_getfield g_q69 g69_57 hA0 rfl (hm_at g2_ (i := 0) rfl rfl) rfl rfl ?_
      refine xT_iaload g_q69 g69_60 hrn0 (hm_c g2_ crn) (ixN (n := 12) (by omega) nrn) (ixG (by omega) (ern _ (by omega))) ?_
      refine xT_istore_n g_q69 g69_61 (by decide) ?_
      refine xT_aload_n g_q69 g69_62 (lkN (by decide) (lkN (by decide) (lkN (by decide) (rfl)))) ?_
      refine xT_getfield g_q69 g69_63 hA0 rfl (hm_at g2_ (i := 0) rfl rfl) rfl rfl ?_
      refine xT_icV (y := nI (1)) g_q69 g69_66 (by decide) ?_
      refine xT_iaddV (y := nI (l + 1)) g_q69 g69_67 (bAddN _ _) ?_
      refine xT_istore g_q69 g69_68 (by decide) ?_
      refine xT_aload_n g_q69 g69_70 (lkN (by decide) (lkN (by decide) (lkN (by decide) (lkN (by decide) (rfl))))) ?_
      refine xT_getfield g_q69 g69_71 hA0 rfl (hm_at g2_ (i := 0) rfl rfl) rfl rfl ?_
      refine xT_getfield g_q69 g69_74 hcA rfl (hm_c g2_ hco) rfl rfl ?_
      refine xT_aload_n g_q69 g69_77 (lkN (by decide) (lkN (by decide) (lkN (by decide) (lkN (by decide) (rfl))))) ?_
      refine xT_getfield g_q69 g69_78 hA0 rfl (hm_at g2_ (i := 0) rfl rfl) rfl rfl ?_
      refine xT_iaload g_q69 g69_81 hro0 (hm_c g2_ cro) (ixN (n := 12) (by omega) nro) (ixG (by omega) (ero _ (by omega))) ?_
      refine xT_tableswitch g_q69 g69_82 (t := 181) (by decide) (by decide) (by rw [hz]; decide) ?_
      refine xT_aload_n g_q69 g69_181 (lkN (by decide) (lkN (by decide) (lkN (by decide) (lkN (by decide) (rfl))))) ?_
      refine xT_getfield g_q69 g69_182 hA0 rfl (hm_at g2_ (i := 0) rfl rfl) rfl rfl ?_
      refine xT_iload_n g_q69 g69_185 (lkN (by decide) (lkN (by decide) (lkN (by decide) (lkY)))) ?_
      refine xT_aload_n g_q69 g69_186 (lkN (by decide) (lkN (by decide) (lkN (by decide) (lkN (by decide) (rfl))))) ?_
      refine xT_getfield g_q69 g69_187 hA0 rfl (hm_at g2_ (i := 0) rfl rfl) rfl rfl ?_
      refine xT_iload_n g_q69 g69_190 (lkN (by decide) (lkN (by decide) (lkN (by decide) (lkY)))) ?_
      refine xT_iload_n g_q69 g69_191 (lkN (by decide) (lkY)) ?_
      refine xT_invokevirtual (r := [.inl (nI (pLf p (l))), .inr (some (nu))]) (u := some (.inl ((pCut p (nI (pNm p (l))))))) g_q69 g69_192 (j := 70) (so := 0) (by decide +kernel) g_q70 rfl (by rw [x_rcM hsA (hm_c g2_ hsR)]; rfl) (t70 (dp := dp + 1) g2_ hS (by omega) (v := nI (pNm p (l)))) ?_
      refine xT_iastore g_q69 g69_195 (hm_at g2_ (i := 1) rfl rfl) (ixN (n := 6) (by omega) hnl) ?_
      rw [nI_clamp (by omega)]
      refine xT_goto g_q69 g69_196 (t := 367) (by decide) ?_
      refine xT_aload_n g_q69 g69_367 (lkN (by decide) (lkN (by decide) (lkN (by decide) (lkN (by decide) (rfl))))) ?_
      refine xT_invokevirtual (r := []) (u := some (.inl (nI (0)))) g_q69 g69_368 (j := 68) (so := 0) (by decide +kernel) g_q68 rfl (by rw [x_rcM hA0 (hm_at g3_ (i := 0) rfl rfl)]; rfl) (t68r hA0 hA2 g3_) ?_
      refine xT_ifCondN g_q69 g69_371 (t := 380) (by decide) (c1N (b := 0) rfl) ?_
      refine xT_aload_n g_q69 g69_374 (lkN (by decide) (lkN (by decide) (lkN (by decide) (lkN (by decide) (rfl))))) ?_
      refine xT_iload g_q69 g69_375 (lkY) ?_
      refine xT_invokevirtual (r := []) (u := none) g_q69 g69_377 (j := 81) (so := 0) (by decide +kernel) g_q81 rfl (by rw [x_rcM hA0 (hm_at g3_ (i := 0) rfl rfl)]; rfl) (y4_) ?_
      exact xT_return_ g_q69 g69_380 (rfl)
    obtain ⟨H2, y, hh⟩ := key
    refine ⟨H2, y, ?_⟩
    rw [stM_3 (s := (nu_, l, x, d, -1, os, ov)) hz]
    exact ⟨_, _, _, _, _, hh, fun _ => rfl, by rw [List.length_set]; exact hnl, nf_set (by omega) hnf (by omega), hol, hof⟩
  · have hz : pOp p l = 4 := hz
    have key : ∃ H2, x_To x_tb x_tyl ot (dp + 3) 69 0 (x_en 0 [.inr (some (R))]) [] H 0 0 none H2 ∧ hm H0 H2 [R, nu, ob, oi] [.inl (4, [.inr (some (nu)), .inr (some (sp)), .inr (some (co)), .inr (some (se)), .inr (some (inp)), .inr (some (ob)), .inl (pYr p), .inl (nI (l + 1)), .inl (nI x), .inl (nI (d + 1)), .inl (if pNl p ≤ l + 1 then 0 else if d + 1 = 150 then 2 else -1), .inl (nI 0), .inl (lw)]), .inr (0, nf.set (pLf p l) (.inl (pCut p (nu_ (pRt p l))))), .inl (5, [.inr (some (oi)), .inl (nI (os))]), .inr (0, of)] := by
      have g1_ : hm H0 _ [R, nu, ob, oi] [.inl (4, [.inr (some (nu)), .inr (some (sp)), .inr (some (co)), .inr (some (se)), .inr (some (inp)), .inr (some (ob)), .inl (pYr p), .inl (nI (l)), .inl (nI (x)), .inl (nI (d)), .inl (-1), .inl (nI (0)), .inl (lw)]), .inr (0, nf), .inl (5, [.inr (some (oi)), .inl (nI (os))]), .inr (0, of)] := hm_set (i := 0) (z2 := .inl (4, ([.inr (some (nu)), .inr (some (sp)), .inr (some (co)), .inr (some (se)), .inr (some (inp)), .inr (some (ob)), .inl (pYr p), .inl (nI (l)), .inl (nI (x)), .inl (nI (d)), .inl (-1), .inl (hw), .inl (lw)]).set 11 (.inl (nI (0))))) h rfl
      have g2_ : hm H0 _ [R, nu, ob, oi] [.inl (4, [.inr (some (nu)), .inr (some (sp)), .inr (some (co)), .inr (some (se)), .inr (some (inp)), .inr (some (ob)), .inl (pYr p), .inl (nI (l)), .inl (nI (x)), .inl (nI (d + 1)), .inl (-1), .inl (nI (0)), .inl (lw)]), .inr (0, nf), .inl (5, [.inr (some (oi)), .inl (nI (os))]), .inr (0, of)] := hm_set (i := 0) (z2 := .inl (4, ([.inr (some (nu)), .inr (some (sp)), .inr (some (co)), .inr (some (se)), .inr (some (inp)), .inr (some (ob)), .inl (pYr p), .inl (nI (l)), .inl (nI (x)), .inl (nI (d)), .inl (-1), .inl (nI (0)), .inl (lw)]).set 9 (.inl (nI (d + 1))))) g1_ rfl
      have g3_ : hm H0 _ [R, nu, ob, oi] [.inl (4, [.inr (some (nu)), .inr (some (sp)), .inr (some (co)), .inr (some (se)), .inr (some (inp)), .inr (some (ob)), .inl (pYr p), .inl (nI (l)), .inl (nI (x)), .inl (nI (d + 1)), .inl (-1), .inl (nI (0)), .inl (lw)]), .inr (0, (nf).set (pLf p (l)) (.inl ((pCut p (nu_ (pRt p (l))))))), .inl (5, [.inr (some (oi)), .inl (nI (os))]), .inr (0, of)] := hm_set (i := 1) (z2 := .inr (0, (nf).set (pLf p (l)) (.inl ((pCut p (nu_ (pRt p (l)))))))) g2_ rfl
      obtain ⟨G4, y4_, g4_⟩ := t81 (dp := dp + 2) (next := l + 1) (d := d + 1) hA0 hA2 hC h12 (by omega) (by omega) g3_
      have g4_ : hm H0 G4 [R, nu, ob, oi] [.inl (4, [.inr (some (nu)), .inr (some (sp)), .inr (some (co)), .inr (some (se)), .inr (some (inp)), .inr (some (ob)), .inl (pYr p), .inl (nI (l + 1)), .inl (nI (x)), .inl (nI (d + 1)), .inl ((if pNl p ≤ l + 1 then 0 else if d + 1 = 150 then 2 else -1)), .inl (nI (0)), .inl (lw)]), .inr (0, (nf).set (pLf p (l)) (.inl ((pCut p (nu_ (pRt p (l))))))), .inl (5, [.inr (some (oi)), .inl (nI (os))]), .inr (0, of)] := g4_
      refine ⟨_, ?_, g4_⟩
      refine xT_aload_n g_q69 g69_0 (rfl) ?_
      refine xT_icV (y := nI (0)) g_q69 g69_1 (by decide) ?_
      refine xT_putfield g_q69 g69_2 (ci := 4) (j := 11) rfl (hm_at h (i := 0) rfl rfl) rfl rfl ?_
      refine xT_aload_n g_q69 g69_5 (rfl) ?_
      refine xT_invokevirtual (r := []) (u := some (.inl (nI (0)))) g_q69 g69_6 (j := 68) (so := 0) (by decide +kernel) g_q68 rfl (by rw [x_rcM hA0 (hm_at g1_ (i := 0) rfl rfl)]; rfl) (t68r hA0 hA2 g1_) ?_
      refine xT_ifCondY g_q69 g69_9 (t := 13) (by decide) (c0Y (b := 0) rfl) ?_
      refine xT_aload_n g_q69 g69_13 (rfl) ?_
      refine xT_dup g_q69 g69_14 ?_
      refine xT_getfield g_q69 g69_15 hA0 rfl (hm_at g1_ (i := 0) rfl rfl) rfl rfl ?_
      refine xT_icV (y := nI (1)) g_q69 g69_18 (by decide) ?_
      refine xT_iaddV (y := nI (d + 1)) g_q69 g69_19 (bAddN _ _) ?_
      refine xT_putfield g_q69 g69_20 (ci := 4) (j := 9) rfl (hm_at g1_ (i := 0) rfl rfl) rfl rfl ?_
      refine xT_aload_n g_q69 g69_23 (rfl) ?_
      refine xT_getfield g_q69 g69_24 hA0 rfl (hm_at g2_ (i := 0) rfl rfl) rfl rfl ?_
      refine xT_getfield g_q69 g69_27 hcA rfl (hm_c g2_ hco) rfl rfl ?_
      refine xT_aload_n g_q69 g69_30 (rfl) ?_
      refine xT_getfield g_q69 g69_31 hA0 rfl (hm_at g2_ (i := 0) rfl rfl) rfl rfl ?_
      refine xT_iaload g_q69 g69_34 hrl0 (hm_c g2_ crl) (ixN (n := 12) (by omega) nrl) (ixG (by omega) (erl _ (by omega))) ?_
      refine xT_istore_n g_q69 g69_35 (by decide) ?_
      refine xT_aload_n g_q69 g69_36 (lkN (by decide) (rfl)) ?_
      refine xT_getfield g_q69 g69_37 hA0 rfl (hm_at g2_ (i := 0) rfl rfl) rfl rfl ?_
      refine xT_getfield g_q69 g69_40 hcA rfl (hm_c g2_ hco) rfl rfl ?_
      refine xT_aload_n g_q69 g69_43 (lkN (by decide) (rfl)) ?_
      refine xT_getfield g_q69 g69_44 hA0 rfl (hm_at g2_ (i := 0) rfl rfl) rfl rfl ?_
      refine xT_iaload g_q69 g69_47 hrr0 (hm_c g2_ crr) (ixN (n := 12) (by omega) nrr) (ixG (by omega) (err _ (by omega))) ?_
      refine xT_istore_n g_q69 g69_48 (by decide) ?_
      refine xT_aload_n g_q69 g69_49 (lkN (by decide) (lkN (by decide) (rfl))) ?_
      refine xT_getfield g_q69 g69_50 hA0 rfl (hm_at g2_ (i := 0) rfl rfl) rfl rfl ?_
      refine xT_getfield g_q69 g69_53 hcA rfl (hm_c g2_ hco) rfl rfl ?_
      refine xT_aload_n g_q69 g69_56 (lkN (by decide) (lkN (by decide) (rfl))) ?_
      refine xT_getfield g_q69 g69_57 hA0 rfl (hm_at g2_ (i := 0) rfl rfl) rfl rfl ?_
      refine xT_iaload g_q69 g69_60 hrn0 (hm_c g2_ crn) (ixN (n := 12) (by omega) nrn) (ixG (by omega) (ern _ (by omega))) ?_
      refine xT_istore_n g_q69 g69_61 (by decide) ?_
      refine xT_aload_n g_q69 g69_62 (lkN (by decide) (lkN (by decide) (lkN (by decide) (rfl)))) ?_
      refine xT_getfield g_q69 g69_63 hA0 rfl (hm_at g2_ (i := 0) rfl rfl) rfl rfl ?_
      refine xT_icV (y := nI (1)) g_q69 g69_66 (by decide) ?_
      refine xT_iaddV (y := nI (l + 1)) g_q69 g69_67 (bAddN _ _) ?_
      refine xT_istore g_q69 g69_68 (by decide) ?_
      refine xT_aload_n g_q69 g69_70 (lkN (by decide) (lkN (by decide) (lkN (by decide) (lkN (by decide) (rfl))))) ?_
      refine xT_getfield g_q69 g69_71 hA0 rfl (hm_at g2_ (i := 0) rfl rfl) rfl rfl ?_
      refine xT_getfield g_q69 g69_74 hcA rfl (hm_c g2_ hco) rfl rfl ?_
      refine xT_aload_n g_q69 g69_77 (lkN (by decide) (lkN (by decide) (lkN (by decide) (lkN (by decide) (rfl))))) ?_
      refine xT_getfield g_q69 g69_78 hA0 rfl (hm_at g2_ (i := 0) rfl rfl) rfl rfl ?_
      refine xT_iaload g_q69 g69_81 hro0 (hm_c g2_ cro) (ixN (n := 12) (by omega) nro) (ixG (by omega) (ero _ (by omega))) ?_
      refine xT_tableswitch g_q69 g69_82 (t := 199) (by decide) (by decide) (by rw [hz]; decide) ?_
      refine xT_aload_n g_q69 g69_199 (lkN (by decide) (lkN (by decide) (lkN (by decide) (lkN (by decide) (rfl))))) ?_
      refine xT_getfield g_q69 g69_200 hA0 rfl (hm_at g2_ (i := 0) rfl rfl) rfl rfl ?_
      refine xT_iload_n g_q69 g69_203 (lkN (by decide) (lkN (by decide) (lkN (by decide) (lkY)))) ?_
      refine xT_aload_n g_q69 g69_204 (lkN (by decide) (lkN (by decide) (lkN (by decide) (lkN (by decide) (rfl))))) ?_
      refine xT_getfield g_q69 g69_205 hA0 rfl (hm_at g2_ (i := 0) rfl rfl) rfl rfl ?_
      refine xT_iload_n g_q69 g69_208 (lkN (by decide) (lkN (by decide) (lkN (by decide) (lkY)))) ?_
      refine xT_aload_n g_q69 g69_209 (lkN (by decide) (lkN (by decide) (lkN (by decide) (lkN (by decide) (rfl))))) ?_
      refine xT_getfield g_q69 g69_210 hA0 rfl (hm_at g2_ (i := 0) rfl rfl) rfl rfl ?_
      refine xT_iload_n g_q69 g69_213 (lkN (by decide) (lkN (by decide) (lkY))) ?_
      refine xT_iaload g_q69 g69_214 hN1 (hm_at g2_ (i := 1) rfl rfl) (ixN (n := 6) (by omega) hnl) (ixG (by omega) (hnf _ (by omega))) ?_
      refine xT_invokevirtual (r := [.inl (nI (pLf p (l))), .inr (some (nu))]) (u := some (.inl ((pCut p (nu_ (pRt p (l))))))) g_q69 g69_215 (j := 70) (so := 0) (by decide +kernel) g_q70 rfl (by rw [x_rcM hsA (hm_c g2_ hsR)]; rfl) (t70 (dp := dp + 1) g2_ hS (by omega) (v := nu_ (pRt p (l)))) ?_
      refine xT_iastore g_q69 g69_218 (hm_at g2_ (i := 1) rfl rfl) (ixN (n := 6) (by omega) hnl) ?_
      rw [nI_clamp (by omega)]
      refine xT_goto g_q69 g69_219 (t := 367) (by decide) ?_
      refine xT_aload_n g_q69 g69_367 (lkN (by decide) (lkN (by decide) (lkN (by decide) (lkN (by decide) (rfl))))) ?_
      refine xT_invokevirtual (r := []) (u := some (.inl (nI (0)))) g_q69 g69_368 (j := 68) (so := 0) (by decide +kernel) g_q68 rfl (by rw [x_rcM hA0 (hm_at g3_ (i := 0) rfl rfl)]; rfl) (t68r hA0 hA2 g3_) ?_
      refine xT_ifCondN g_q69 g69_371 (t := 380) (by decide) (c1N (b := 0) rfl) ?_
      refine xT_aload_n g_q69 g69_374 (lkN (by decide) (lkN (by decide) (lkN (by decide) (lkN (by decide) (rfl))))) ?_
      refine xT_iload g_q69 g69_375 (lkY) ?_
      refine xT_invokevirtual (r := []) (u := none) g_q69 g69_377 (j := 81) (so := 0) (by decide +kernel) g_q81 rfl (by rw [x_rcM hA0 (hm_at g3_ (i := 0) rfl rfl)]; rfl) (y4_) ?_
      exact xT_return_ g_q69 g69_380 (rfl)
    obtain ⟨H2, y, hh⟩ := key
    refine ⟨H2, y, ?_⟩
    rw [stM_4 (s := (nu_, l, x, d, -1, os, ov)) hz]
    exact ⟨_, _, _, _, _, hh, fun _ => rfl, by rw [List.length_set]; exact hnl, nf_set (by omega) hnf (by omega), hol, hof⟩
  · have hz : pOp p l = 5 := hz
    have key : ∃ H2, x_To x_tb x_tyl ot (dp + 3) 69 0 (x_en 0 [.inr (some (R))]) [] H 0 0 none H2 ∧ hm H0 H2 [R, nu, ob, oi] [.inl (4, [.inr (some (nu)), .inr (some (sp)), .inr (some (co)), .inr (some (se)), .inr (some (inp)), .inr (some (ob)), .inl (pYr p), .inl (nI (l + 1)), .inl (nI x), .inl (nI (d + 1)), .inl (if pNl p ≤ l + 1 then 0 else if d + 1 = 150 then 2 else -1), .inl (nI 0), .inl (lw)]), .inr (0, nf.set (pLf p l) (.inl (pCut p (nu_ (pLf p l) + nu_ (pRt p l))))), .inl (5, [.inr (some (oi)), .inl (nI (os))]), .inr (0, of)] := by
      have g1_ : hm H0 _ [R, nu, ob, oi] [.inl (4, [.inr (some (nu)), .inr (some (sp)), .inr (some (co)), .inr (some (se)), .inr (some (inp)), .inr (some (ob)), .inl (pYr p), .inl (nI (l)), .inl (nI (x)), .inl (nI (d)), .inl (-1), .inl (nI (0)), .inl (lw)]), .inr (0, nf), .inl (5, [.inr (some (oi)), .inl (nI (os))]), .inr (0, of)] := hm_set (i := 0) (z2 := .inl (4, ([.inr (some (nu)), .inr (some (sp)), .inr (some (co)), .inr (some (se)), .inr (some (inp)), .inr (some (ob)), .inl (pYr p), .inl (nI (l)), .inl (nI (x)), .inl (nI (d)), .inl (-1), .inl (hw), .inl (lw)]).set 11 (.inl (nI (0))))) h rfl
      have g2_ : hm H0 _ [R, nu, ob, oi] [.inl (4, [.inr (some (nu)), .inr (some (sp)), .inr (some (co)), .inr (some (se)), .inr (some (inp)), .inr (some (ob)), .inl (pYr p), .inl (nI (l)), .inl (nI (x)), .inl (nI (d + 1)), .inl (-1), .inl (nI (0)), .inl (lw)]), .inr (0, nf), .inl (5, [.inr (some (oi)), .inl (nI (os))]), .inr (0, of)] := hm_set (i := 0) (z2 := .inl (4, ([.inr (some (nu)), .inr (some (sp)), .inr (some (co)), .inr (some (se)), .inr (some (inp)), .inr (some (ob)), .inl (pYr p), .inl (nI (l)), .inl (nI (x)), .inl (nI (d)), .inl (-1), .inl (nI (0)), .inl (lw)]).set 9 (.inl (nI (d + 1))))) g1_ rfl
      have g3_ : hm H0 _ [R, nu, ob, oi] [.inl (4, [.inr (some (nu)), .inr (some (sp)), .inr (some (co)), .inr (some (se)), .inr (some (inp)), .inr (some (ob)), .inl (pYr p), .inl (nI (l)), .inl (nI (x)), .inl (nI (d + 1)), .inl (-1), .inl (nI (0)), .inl (lw)]), .inr (0, (nf).set (pLf p (l)) (.inl ((pCut p ((nu_ (pLf p (l)) + nu_ (pRt p (l)))))))), .inl (5, [.inr (some (oi)), .inl (nI (os))]), .inr (0, of)] := hm_set (i := 1) (z2 := .inr (0, (nf).set (pLf p (l)) (.inl ((pCut p ((nu_ (pLf p (l)) + nu_ (pRt p (l))))))))) g2_ rfl
      obtain ⟨G4, y4_, g4_⟩ := t81 (dp := dp + 2) (next := l + 1) (d := d + 1) hA0 hA2 hC h12 (by omega) (by omega) g3_
      have g4_ : hm H0 G4 [R, nu, ob, oi] [.inl (4, [.inr (some (nu)), .inr (some (sp)), .inr (some (co)), .inr (some (se)), .inr (some (inp)), .inr (some (ob)), .inl (pYr p), .inl (nI (l + 1)), .inl (nI (x)), .inl (nI (d + 1)), .inl ((if pNl p ≤ l + 1 then 0 else if d + 1 = 150 then 2 else -1)), .inl (nI (0)), .inl (lw)]), .inr (0, (nf).set (pLf p (l)) (.inl ((pCut p ((nu_ (pLf p (l)) + nu_ (pRt p (l)))))))), .inl (5, [.inr (some (oi)), .inl (nI (os))]), .inr (0, of)] := g4_
      refine ⟨_, ?_, g4_⟩
      refine xT_aload_n g_q69 g69_0 (rfl) ?_
      refine xT_icV (y := nI (0)) g_q69 g69_1 (by decide) ?_
      refine xT_putfield g_q69 g69_2 (ci := 4) (j := 11) rfl (hm_at h (i := 0) rfl rfl) rfl rfl ?_
      refine xT_aload_n g_q69 g69_5 (rfl) ?_
      refine xT_invokevirtual (r := []) (u := some (.inl (nI (0)))) g_q69 g69_6 (j := 68) (so := 0) (by decide +kernel) g_q68 rfl (by rw [x_rcM hA0 (hm_at g1_ (i := 0) rfl rfl)]; rfl) (t68r hA0 hA2 g1_) ?_
      refine xT_ifCondY g_q69 g69_9 (t := 13) (by decide) (c0Y (b := 0) rfl) ?_
      refine xT_aload_n g_q69 g69_13 (rfl) ?_
      refine xT_dup g_q69 g69_14 ?_
      refine xT_getfield g_q69 g69_15 hA0 rfl (hm_at g1_ (i := 0) rfl rfl) rfl rfl ?_
      refine xT_icV (y := nI (1)) g_q69 g69_18 (by decide) ?_
      refine xT_iaddV (y := nI (d + 1)) g_q69 g69_19 (bAddN _ _) ?_
      refine xT_putfield g_q69 g69_20 (ci := 4) (j := 9) rfl (hm_at g1_ (i := 0) rfl rfl) rfl rfl ?_
      refine xT_aload_n g_q69 g69_23 (rfl) ?_
      refine xT_getfield g_q69 g69_24 hA0 rfl (hm_at g2_ (i := 0) rfl rfl) rfl rfl ?_
      refine xT_getfield g_q69 g69_27 hcA rfl (hm_c g2_ hco) rfl rfl ?_
      refine xT_aload_n g_q69 g69_30 (rfl) ?_
      refine xT_getfield g_q69 g69_31 hA0 rfl (hm_at g2_ (i := 0) rfl rfl) rfl rfl ?_
      refine xT_iaload g_q69 g69_34 hrl0 (hm_c g2_ crl) (ixN (n := 12) (by omega) nrl) (ixG (by omega) (erl _ (by omega))) ?_
      refine xT_istore_n g_q69 g69_35 (by decide) ?_
      refine xT_aload_n g_q69 g69_36 (lkN (by decide) (rfl)) ?_
      refine xT_getfield g_q69 g69_37 hA0 rfl (hm_at g2_ (i := 0) rfl rfl) rfl rfl ?_
      refine xT_getfield g_q69 g69_40 hcA rfl (hm_c g2_ hco) rfl rfl ?_
      refine xT_aload_n g_q69 g69_43 (lkN (by decide) (rfl)) ?_
      refine xT_getfield g_q69 g69_44 hA0 rfl (hm_at g2_ (i := 0) rfl rfl) rfl rfl ?_
      refine xT_iaload g_q69 g69_47 hrr0 (hm_c g2_ crr) (ixN (n := 12) (by omega) nrr) (ixG (by omega) (err _ (by omega))) ?_
      refine xT_istore_n g_q69 g69_48 (by decide) ?_
      refine xT_aload_n g_q69 g69_49 (lkN (by decide) (lkN (by decide) (rfl))) ?_
      refine xT_getfield g_q69 g69_50 hA0 rfl (hm_at g2_ (i := 0) rfl rfl) rfl rfl ?_
      refine xT_getfield g_q69 g69_53 hcA rfl (hm_c g2_ hco) rfl rfl ?_
      refine xT_aload_n g_q69 g69_56 (lkN (by decide) (lkN (by decide) (rfl))) ?_
      refine xT_getfield g_q69 g69_57 hA0 rfl (hm_at g2_ (i := 0) rfl rfl) rfl rfl ?_
      refine xT_iaload g_q69 g69_60 hrn0 (hm_c g2_ crn) (ixN (n := 12) (by omega) nrn) (ixG (by omega) (ern _ (by omega))) ?_
      refine xT_istore_n g_q69 g69_61 (by decide) ?_
      refine xT_aload_n g_q69 g69_62 (lkN (by decide) (lkN (by decide) (lkN (by decide) (rfl)))) ?_
      refine xT_getfield g_q69 g69_63 hA0 rfl (hm_at g2_ (i := 0) rfl rfl) rfl rfl ?_
      refine xT_icV (y := nI (1)) g_q69 g69_66 (by decide) ?_
      refine xT_iaddV (y := nI (l + 1)) g_q69 g69_67 (bAddN _ _) ?_
      refine xT_istore g_q69 g69_68 (by decide) ?_
      refine xT_aload_n g_q69 g69_70 (lkN (by decide) (lkN (by decide) (lkN (by decide) (lkN (by decide) (rfl))))) ?_
      refine xT_getfield g_q69 g69_71 hA0 rfl (hm_at g2_ (i := 0) rfl rfl) rfl rfl ?_
      refine xT_getfield g_q69 g69_74 hcA rfl (hm_c g2_ hco) rfl rfl ?_
      refine xT_aload_n g_q69 g69_77 (lkN (by decide) (lkN (by decide) (lkN (by decide) (lkN (by decide) (rfl))))) ?_
      refine xT_getfield g_q69 g69_78 hA0 rfl (hm_at g2_ (i := 0) rfl rfl) rfl rfl ?_
      refine xT_iaload g_q69 g69_81 hro0 (hm_c g2_ cro) (ixN (n := 12) (by omega) nro) (ixG (by omega) (ero _ (by omega))) ?_
      refine xT_tableswitch g_q69 g69_82 (t := 222) (by decide) (by decide) (by rw [hz]; decide) ?_
      refine xT_aload_n g_q69 g69_222 (lkN (by decide) (lkN (by decide) (lkN (by decide) (lkN (by decide) (rfl))))) ?_
      refine xT_getfield g_q69 g69_223 hA0 rfl (hm_at g2_ (i := 0) rfl rfl) rfl rfl ?_
      refine xT_iload_n g_q69 g69_226 (lkN (by decide) (lkN (by decide) (lkN (by decide) (lkY)))) ?_
      refine xT_aload_n g_q69 g69_227 (lkN (by decide) (lkN (by decide) (lkN (by decide) (lkN (by decide) (rfl))))) ?_
      refine xT_getfield g_q69 g69_228 hA0 rfl (hm_at g2_ (i := 0) rfl rfl) rfl rfl ?_
      refine xT_iload_n g_q69 g69_231 (lkN (by decide) (lkN (by decide) (lkN (by decide) (lkY)))) ?_
      refine xT_aload_n g_q69 g69_232 (lkN (by decide) (lkN (by decide) (lkN (by decide) (lkN (by decide) (rfl))))) ?_
      refine xT_getfield g_q69 g69_233 hA0 rfl (hm_at g2_ (i := 0) rfl rfl) rfl rfl ?_
      refine xT_iload_n g_q69 g69_236 (lkN (by decide) (lkN (by decide) (lkN (by decide) (lkY)))) ?_
      refine xT_iaload g_q69 g69_237 hN1 (hm_at g2_ (i := 1) rfl rfl) (ixN (n := 6) (by omega) hnl) (ixG (by omega) (hnf _ (by omega))) ?_
      refine xT_aload_n g_q69 g69_238 (lkN (by decide) (lkN (by decide) (lkN (by decide) (lkN (by decide) (rfl))))) ?_
      refine xT_getfield g_q69 g69_239 hA0 rfl (hm_at g2_ (i := 0) rfl rfl) rfl rfl ?_
      refine xT_iload_n g_q69 g69_242 (lkN (by decide) (lkN (by decide) (lkY))) ?_
      refine xT_iaload g_q69 g69_243 hN1 (hm_at g2_ (i := 1) rfl rfl) (ixN (n := 6) (by omega) hnl) (ixG (by omega) (hnf _ (by omega))) ?_
      refine xT_iaddV (y := (nu_ (pLf p (l)) + nu_ (pRt p (l)))) g_q69 g69_244 (rfl) ?_
      refine xT_invokevirtual (r := [.inl (nI (pLf p (l))), .inr (some (nu))]) (u := some (.inl ((pCut p ((nu_ (pLf p (l)) + nu_ (pRt p (l)))))))) g_q69 g69_245 (j := 70) (so := 0) (by decide +kernel) g_q70 rfl (by rw [x_rcM hsA (hm_c g2_ hsR)]; rfl) (t70 (dp := dp + 1) g2_ hS (by omega) (v := (nu_ (pLf p (l)) + nu_ (pRt p (l))))) ?_
      refine xT_iastore g_q69 g69_248 (hm_at g2_ (i := 1) rfl rfl) (ixN (n := 6) (by omega) hnl) ?_
      rw [nI_clamp (by omega)]
      refine xT_goto g_q69 g69_249 (t := 367) (by decide) ?_
      refine xT_aload_n g_q69 g69_367 (lkN (by decide) (lkN (by decide) (lkN (by decide) (lkN (by decide) (rfl))))) ?_
      refine xT_invokevirtual (r := []) (u := some (.inl (nI (0)))) g_q69 g69_368 (j := 68) (so := 0) (by decide +kernel) g_q68 rfl (by rw [x_rcM hA0 (hm_at g3_ (i := 0) rfl rfl)]; rfl) (t68r hA0 hA2 g3_) ?_
      refine xT_ifCondN g_q69 g69_371 (t := 380) (by decide) (c1N (b := 0) rfl) ?_
      refine xT_aload_n g_q69 g69_374 (lkN (by decide) (lkN (by decide) (lkN (by decide) (lkN (by decide) (rfl))))) ?_
      refine xT_iload g_q69 g69_375 (lkY) ?_
      refine xT_invokevirtual (r := []) (u := none) g_q69 g69_377 (j := 81) (so := 0) (by decide +kernel) g_q81 rfl (by rw [x_rcM hA0 (hm_at g3_ (i := 0) rfl rfl)]; rfl) (y4_) ?_
      exact xT_return_ g_q69 g69_380 (rfl)
    obtain ⟨H2, y, hh⟩ := key
    refine ⟨H2, y, ?_⟩
    rw [stM_5 (s := (nu_, l, x, d, -1, os, ov)) hz]
    exact ⟨_, _, _, _, _, hh, fun _ => rfl, by rw [List.length_set]; exact hnl, nf_set (by omega) hnf (by omega), hol, hof⟩
  · have hz : pOp p l = 6 := hz
    have key : ∃ H2, x_To x_tb x_tyl ot (dp + 3) 69 0 (x_en 0 [.inr (some (R))]) [] H 0 0 none H2 ∧ hm H0 H2 [R, nu, ob, oi] [.inl (4, [.inr (some (nu)), .inr (some (sp)), .inr (some (co)), .inr (some (se)), .inr (some (inp)), .inr (some (ob)), .inl (pYr p), .inl (nI (l + 1)), .inl (nI x), .inl (nI (d + 1)), .inl (if pNl p ≤ l + 1 then 0 else if d + 1 = 150 then 2 else -1), .inl (nI 0), .inl (lw)]), .inr (0, nf.set (pLf p l) (.inl (pCut p (nu_ (pLf p l) - nu_ (pRt p l))))), .inl (5, [.inr (some (oi)), .inl (nI (os))]), .inr (0, of)] := by
      have g1_ : hm H0 _ [R, nu, ob, oi] [.inl (4, [.inr (some (nu)), .inr (some (sp)), .inr (some (co)), .inr (some (se)), .inr (some (inp)), .inr (some (ob)), .inl (pYr p), .inl (nI (l)), .inl (nI (x)), .inl (nI (d)), .inl (-1), .inl (nI (0)), .inl (lw)]), .inr (0, nf), .inl (5, [.inr (some (oi)), .inl (nI (os))]), .inr (0, of)] := hm_set (i := 0) (z2 := .inl (4, ([.inr (some (nu)), .inr (some (sp)), .inr (some (co)), .inr (some (se)), .inr (some (inp)), .inr (some (ob)), .inl (pYr p), .inl (nI (l)), .inl (nI (x)), .inl (nI (d)), .inl (-1), .inl (hw), .inl (lw)]).set 11 (.inl (nI (0))))) h rfl
      have g2_ : hm H0 _ [R, nu, ob, oi] [.inl (4, [.inr (some (nu)), .inr (some (sp)), .inr (some (co)), .inr (some (se)), .inr (some (inp)), .inr (some (ob)), .inl (pYr p), .inl (nI (l)), .inl (nI (x)), .inl (nI (d + 1)), .inl (-1), .inl (nI (0)), .inl (lw)]), .inr (0, nf), .inl (5, [.inr (some (oi)), .inl (nI (os))]), .inr (0, of)] := hm_set (i := 0) (z2 := .inl (4, ([.inr (some (nu)), .inr (some (sp)), .inr (some (co)), .inr (some (se)), .inr (some (inp)), .inr (some (ob)), .inl (pYr p), .inl (nI (l)), .inl (nI (x)), .inl (nI (d)), .inl (-1), .inl (nI (0)), .inl (lw)]).set 9 (.inl (nI (d + 1))))) g1_ rfl
      have g3_ : hm H0 _ [R, nu, ob, oi] [.inl (4, [.inr (some (nu)), .inr (some (sp)), .inr (some (co)), .inr (some (se)), .inr (some (inp)), .inr (some (ob)), .inl (pYr p), .inl (nI (l)), .inl (nI (x)), .inl (nI (d + 1)), .inl (-1), .inl (nI (0)), .inl (lw)]), .inr (0, (nf).set (pLf p (l)) (.inl ((pCut p ((nu_ (pLf p (l)) - nu_ (pRt p (l)))))))), .inl (5, [.inr (some (oi)), .inl (nI (os))]), .inr (0, of)] := hm_set (i := 1) (z2 := .inr (0, (nf).set (pLf p (l)) (.inl ((pCut p ((nu_ (pLf p (l)) - nu_ (pRt p (l))))))))) g2_ rfl
      obtain ⟨G4, y4_, g4_⟩ := t81 (dp := dp + 2) (next := l + 1) (d := d + 1) hA0 hA2 hC h12 (by omega) (by omega) g3_
      have g4_ : hm H0 G4 [R, nu, ob, oi] [.inl (4, [.inr (some (nu)), .inr (some (sp)), .inr (some (co)), .inr (some (se)), .inr (some (inp)), .inr (some (ob)), .inl (pYr p), .inl (nI (l + 1)), .inl (nI (x)), .inl (nI (d + 1)), .inl ((if pNl p ≤ l + 1 then 0 else if d + 1 = 150 then 2 else -1)), .inl (nI (0)), .inl (lw)]), .inr (0, (nf).set (pLf p (l)) (.inl ((pCut p ((nu_ (pLf p (l)) - nu_ (pRt p (l)))))))), .inl (5, [.inr (some (oi)), .inl (nI (os))]), .inr (0, of)] := g4_
      refine ⟨_, ?_, g4_⟩
      refine xT_aload_n g_q69 g69_0 (rfl) ?_
      refine xT_icV (y := nI (0)) g_q69 g69_1 (by decide) ?_
      refine xT_putfield g_q69 g69_2 (ci := 4) (j := 11) rfl (hm_at h (i := 0) rfl rfl) rfl rfl ?_
      refine xT_aload_n g_q69 g69_5 (rfl) ?_
      refine xT_invokevirtual (r := []) (u := some (.inl (nI (0)))) g_q69 g69_6 (j := 68) (so := 0) (by decide +kernel) g_q68 rfl (by rw [x_rcM hA0 (hm_at g1_ (i := 0) rfl rfl)]; rfl) (t68r hA0 hA2 g1_) ?_
      refine xT_ifCondY g_q69 g69_9 (t := 13) (by decide) (c0Y (b := 0) rfl) ?_
      refine xT_aload_n g_q69 g69_13 (rfl) ?_
      refine xT_dup g_q69 g69_14 ?_
      refine xT_getfield g_q69 g69_15 hA0 rfl (hm_at g1_ (i := 0) rfl rfl) rfl rfl ?_
      refine xT_icV (y := nI (1)) g_q69 g69_18 (by decide) ?_
      refine xT_iaddV (y := nI (d + 1)) g_q69 g69_19 (bAddN _ _) ?_
      refine xT_putfield g_q69 g69_20 (ci := 4) (j := 9) rfl (hm_at g1_ (i := 0) rfl rfl) rfl rfl ?_
      refine xT_aload_n g_q69 g69_23 (rfl) ?_
      refine xT_getfield g_q69 g69_24 hA0 rfl (hm_at g2_ (i := 0) rfl rfl) rfl rfl ?_
      refine xT_getfield g_q69 g69_27 hcA rfl (hm_c g2_ hco) rfl rfl ?_
      refine xT_aload_n g_q69 g69_30 (rfl) ?_
      refine xT_getfield g_q69 g69_31 hA0 rfl (hm_at g2_ (i := 0) rfl rfl) rfl rfl ?_
      refine xT_iaload g_q69 g69_34 hrl0 (hm_c g2_ crl) (ixN (n := 12) (by omega) nrl) (ixG (by omega) (erl _ (by omega))) ?_
      refine xT_istore_n g_q69 g69_35 (by decide) ?_
      refine xT_aload_n g_q69 g69_36 (lkN (by decide) (rfl)) ?_
      refine xT_getfield g_q69 g69_37 hA0 rfl (hm_at g2_ (i := 0) rfl rfl) rfl rfl ?_
      refine xT_getfield g_q69 g69_40 hcA rfl (hm_c g2_ hco) rfl rfl ?_
      refine xT_aload_n g_q69 g69_43 (lkN (by decide) (rfl)) ?_
      refine xT_getfield g_q69 g69_44 hA0 rfl (hm_at g2_ (i := 0) rfl rfl) rfl rfl ?_
      refine xT_iaload g_q69 g69_47 hrr0 (hm_c g2_ crr) (ixN (n := 12) (by omega) nrr) (ixG (by omega) (err _ (by omega))) ?_
      refine xT_istore_n g_q69 g69_48 (by decide) ?_
      refine xT_aload_n g_q69 g69_49 (lkN (by decide) (lkN (by decide) (rfl))) ?_
      refine xT_getfield g_q69 g69_50 hA0 rfl (hm_at g2_ (i := 0) rfl rfl) rfl rfl ?_
      refine xT_getfield g_q69 g69_53 hcA rfl (hm_c g2_ hco) rfl rfl ?_
      refine xT_aload_n g_q69 g69_56 (lkN (by decide) (lkN (by decide) (rfl))) ?_
      refine xT_getfield g_q69 g69_57 hA0 rfl (hm_at g2_ (i := 0) rfl rfl) rfl rfl ?_
      refine xT_iaload g_q69 g69_60 hrn0 (hm_c g2_ crn) (ixN (n := 12) (by omega) nrn) (ixG (by omega) (ern _ (by omega))) ?_
      refine xT_istore_n g_q69 g69_61 (by decide) ?_
      refine xT_aload_n g_q69 g69_62 (lkN (by decide) (lkN (by decide) (lkN (by decide) (rfl)))) ?_
      refine xT_getfield g_q69 g69_63 hA0 rfl (hm_at g2_ (i := 0) rfl rfl) rfl rfl ?_
      refine xT_icV (y := nI (1)) g_q69 g69_66 (by decide) ?_
      refine xT_iaddV (y := nI (l + 1)) g_q69 g69_67 (bAddN _ _) ?_
      refine xT_istore g_q69 g69_68 (by decide) ?_
      refine xT_aload_n g_q69 g69_70 (lkN (by decide) (lkN (by decide) (lkN (by decide) (lkN (by decide) (rfl))))) ?_
      refine xT_getfield g_q69 g69_71 hA0 rfl (hm_at g2_ (i := 0) rfl rfl) rfl rfl ?_
      refine xT_getfield g_q69 g69_74 hcA rfl (hm_c g2_ hco) rfl rfl ?_
      refine xT_aload_n g_q69 g69_77 (lkN (by decide) (lkN (by decide) (lkN (by decide) (lkN (by decide) (rfl))))) ?_
      refine xT_getfield g_q69 g69_78 hA0 rfl (hm_at g2_ (i := 0) rfl rfl) rfl rfl ?_
      refine xT_iaload g_q69 g69_81 hro0 (hm_c g2_ cro) (ixN (n := 12) (by omega) nro) (ixG (by omega) (ero _ (by omega))) ?_
      refine xT_tableswitch g_q69 g69_82 (t := 252) (by decide) (by decide) (by rw [hz]; decide) ?_
      refine xT_aload_n g_q69 g69_252 (lkN (by decide) (lkN (by decide) (lkN (by decide) (lkN (by decide) (rfl))))) ?_
      refine xT_getfield g_q69 g69_253 hA0 rfl (hm_at g2_ (i := 0) rfl rfl) rfl rfl ?_
      refine xT_iload_n g_q69 g69_256 (lkN (by decide) (lkN (by decide) (lkN (by decide) (lkY)))) ?_
      refine xT_aload_n g_q69 g69_257 (lkN (by decide) (lkN (by decide) (lkN (by decide) (lkN (by decide) (rfl))))) ?_
      refine xT_getfield g_q69 g69_258 hA0 rfl (hm_at g2_ (i := 0) rfl rfl) rfl rfl ?_
      refine xT_iload_n g_q69 g69_261 (lkN (by decide) (lkN (by decide) (lkN (by decide) (lkY)))) ?_
      refine xT_aload_n g_q69 g69_262 (lkN (by decide) (lkN (by decide) (lkN (by decide) (lkN (by decide) (rfl))))) ?_
      refine xT_getfield g_q69 g69_263 hA0 rfl (hm_at g2_ (i := 0) rfl rfl) rfl rfl ?_
      refine xT_iload_n g_q69 g69_266 (lkN (by decide) (lkN (by decide) (lkN (by decide) (lkY)))) ?_
      refine xT_iaload g_q69 g69_267 hN1 (hm_at g2_ (i := 1) rfl rfl) (ixN (n := 6) (by omega) hnl) (ixG (by omega) (hnf _ (by omega))) ?_
      refine xT_aload_n g_q69 g69_268 (lkN (by decide) (lkN (by decide) (lkN (by decide) (lkN (by decide) (rfl))))) ?_
      refine xT_getfield g_q69 g69_269 hA0 rfl (hm_at g2_ (i := 0) rfl rfl) rfl rfl ?_
      refine xT_iload_n g_q69 g69_272 (lkN (by decide) (lkN (by decide) (lkY))) ?_
      refine xT_iaload g_q69 g69_273 hN1 (hm_at g2_ (i := 1) rfl rfl) (ixN (n := 6) (by omega) hnl) (ixG (by omega) (hnf _ (by omega))) ?_
      refine xT_isubV (y := (nu_ (pLf p (l)) - nu_ (pRt p (l)))) g_q69 g69_274 (rfl) ?_
      refine xT_invokevirtual (r := [.inl (nI (pLf p (l))), .inr (some (nu))]) (u := some (.inl ((pCut p ((nu_ (pLf p (l)) - nu_ (pRt p (l)))))))) g_q69 g69_275 (j := 70) (so := 0) (by decide +kernel) g_q70 rfl (by rw [x_rcM hsA (hm_c g2_ hsR)]; rfl) (t70 (dp := dp + 1) g2_ hS (by omega) (v := (nu_ (pLf p (l)) - nu_ (pRt p (l))))) ?_
      refine xT_iastore g_q69 g69_278 (hm_at g2_ (i := 1) rfl rfl) (ixN (n := 6) (by omega) hnl) ?_
      rw [nI_clamp (by omega)]
      refine xT_goto g_q69 g69_279 (t := 367) (by decide) ?_
      refine xT_aload_n g_q69 g69_367 (lkN (by decide) (lkN (by decide) (lkN (by decide) (lkN (by decide) (rfl))))) ?_
      refine xT_invokevirtual (r := []) (u := some (.inl (nI (0)))) g_q69 g69_368 (j := 68) (so := 0) (by decide +kernel) g_q68 rfl (by rw [x_rcM hA0 (hm_at g3_ (i := 0) rfl rfl)]; rfl) (t68r hA0 hA2 g3_) ?_
      refine xT_ifCondN g_q69 g69_371 (t := 380) (by decide) (c1N (b := 0) rfl) ?_
      refine xT_aload_n g_q69 g69_374 (lkN (by decide) (lkN (by decide) (lkN (by decide) (lkN (by decide) (rfl))))) ?_
      refine xT_iload g_q69 g69_375 (lkY) ?_
      refine xT_invokevirtual (r := []) (u := none) g_q69 g69_377 (j := 81) (so := 0) (by decide +kernel) g_q81 rfl (by rw [x_rcM hA0 (hm_at g3_ (i := 0) rfl rfl)]; rfl) (y4_) ?_
      exact xT_return_ g_q69 g69_380 (rfl)
    obtain ⟨H2, y, hh⟩ := key
    refine ⟨H2, y, ?_⟩
    rw [stM_6 (s := (nu_, l, x, d, -1, os, ov)) hz]
    exact ⟨_, _, _, _, _, hh, fun _ => rfl, by rw [List.length_set]; exact hnl, nf_set (by omega) hnf (by omega), hol, hof⟩
  · have hz : pOp p l = 7 := hz
    by_cases hq : nu_ (pLf p (l)) < nu_ (pRt p (l))
    · skip
      have key : ∃ H2, x_To x_tb x_tyl ot (dp + 3) 69 0 (x_en 0 [.inr (some (R))]) [] H 0 0 none H2 ∧ hm H0 H2 [R, nu, ob, oi] [.inl (4, [.inr (some (nu)), .inr (some (sp)), .inr (some (co)), .inr (some (se)), .inr (some (inp)), .inr (some (ob)), .inl (pYr p), .inl (nI (pNm p l)), .inl (nI x), .inl (nI (d + 1)), .inl (if pNl p ≤ pNm p l then 0 else if d + 1 = 150 then 2 else -1), .inl (nI 0), .inl (lw)]), .inr (0, nf), .inl (5, [.inr (some (oi)), .inl (nI (os))]), .inr (0, of)] := by
        have g1_ : hm H0 _ [R, nu, ob, oi] [.inl (4, [.inr (some (nu)), .inr (some (sp)), .inr (some (co)), .inr (some (se)), .inr (some (inp)), .inr (some (ob)), .inl (pYr p), .inl (nI (l)), .inl (nI (x)), .inl (nI (d)), .inl (-1), .inl (nI (0)), .inl (lw)]), .inr (0, nf), .inl (5, [.inr (some (oi)), .inl (nI (os))]), .inr (0, of)] := hm_set (i := 0) (z2 := .inl (4, ([.inr (some (nu)), .inr (some (sp)), .inr (some (co)), .inr (some (se)), .inr (some (inp)), .inr (some (ob)), .inl (pYr p), .inl (nI (l)), .inl (nI (x)), .inl (nI (d)), .inl (-1), .inl (hw), .inl (lw)]).set 11 (.inl (nI (0))))) h rfl
        have g2_ : hm H0 _ [R, nu, ob, oi] [.inl (4, [.inr (some (nu)), .inr (some (sp)), .inr (some (co)), .inr (some (se)), .inr (some (inp)), .inr (some (ob)), .inl (pYr p), .inl (nI (l)), .inl (nI (x)), .inl (nI (d + 1)), .inl (-1), .inl (nI (0)), .inl (lw)]), .inr (0, nf), .inl (5, [.inr (some (oi)), .inl (nI (os))]), .inr (0, of)] := hm_set (i := 0) (z2 := .inl (4, ([.inr (some (nu)), .inr (some (sp)), .inr (some (co)), .inr (some (se)), .inr (some (inp)), .inr (some (ob)), .inl (pYr p), .inl (nI (l)), .inl (nI (x)), .inl (nI (d)), .inl (-1), .inl (nI (0)), .inl (lw)]).set 9 (.inl (nI (d + 1))))) g1_ rfl
        obtain ⟨G3, y3_, g3_⟩ := t81 (dp := dp + 2) (next := pNm p (l)) (d := d + 1) hA0 hA2 hC h12 (by omega) (by omega) g2_
        have g3_ : hm H0 G3 [R, nu, ob, oi] [.inl (4, [.inr (some (nu)), .inr (some (sp)), .inr (some (co)), .inr (some (se)), .inr (some (inp)), .inr (some (ob)), .inl (pYr p), .inl (nI (pNm p (l))), .inl (nI (x)), .inl (nI (d + 1)), .inl ((if pNl p ≤ pNm p (l) then 0 else if d + 1 = 150 then 2 else -1)), .inl (nI (0)), .inl (lw)]), .inr (0, nf), .inl (5, [.inr (some (oi)), .inl (nI (os))]), .inr (0, of)] := g3_
        refine ⟨_, ?_, g3_⟩
        refine xT_aload_n g_q69 g69_0 (rfl) ?_
        refine xT_icV (y := nI (0)) g_q69 g69_1 (by decide) ?_
        refine xT_putfield g_q69 g69_2 (ci := 4) (j := 11) rfl (hm_at h (i := 0) rfl rfl) rfl rfl ?_
        refine xT_aload_n g_q69 g69_5 (rfl) ?_
        refine xT_invokevirtual (r := []) (u := some (.inl (nI (0)))) g_q69 g69_6 (j := 68) (so := 0) (by decide +kernel) g_q68 rfl (by rw [x_rcM hA0 (hm_at g1_ (i := 0) rfl rfl)]; rfl) (t68r hA0 hA2 g1_) ?_
        refine xT_ifCondY g_q69 g69_9 (t := 13) (by decide) (c0Y (b := 0) rfl) ?_
        refine xT_aload_n g_q69 g69_13 (rfl) ?_
        refine xT_dup g_q69 g69_14 ?_
        refine xT_getfield g_q69 g69_15 hA0 rfl (hm_at g1_ (i := 0) rfl rfl) rfl rfl ?_
        refine xT_icV (y := nI (1)) g_q69 g69_18 (by decide) ?_
        refine xT_iaddV (y := nI (d + 1)) g_q69 g69_19 (bAddN _ _) ?_
        refine xT_putfield g_q69 g69_20 (ci := 4) (j := 9) rfl (hm_at g1_ (i := 0) rfl rfl) rfl rfl ?_
        refine xT_aload_n g_q69 g69_23 (rfl) ?_
        refine xT_getfield g_q69 g69_24 hA0 rfl (hm_at g2_ (i := 0) rfl rfl) rfl rfl ?_
        refine xT_getfield g_q69 g69_27 hcA rfl (hm_c g2_ hco) rfl rfl ?_
        refine xT_aload_n g_q69 g69_30 (rfl) ?_
        refine xT_getfield g_q69 g69_31 hA0 rfl (hm_at g2_ (i := 0) rfl rfl) rfl rfl ?_
        refine xT_iaload g_q69 g69_34 hrl0 (hm_c g2_ crl) (ixN (n := 12) (by omega) nrl) (ixG (by omega) (erl _ (by omega))) ?_
        refine xT_istore_n g_q69 g69_35 (by decide) ?_
        refine xT_aload_n g_q69 g69_36 (lkN (by decide) (rfl)) ?_
        refine xT_getfield g_q69 g69_37 hA0 rfl (hm_at g2_ (i := 0) rfl rfl) rfl rfl ?_
        refine xT_getfield g_q69 g69_40 hcA rfl (hm_c g2_ hco) rfl rfl ?_
        refine xT_aload_n g_q69 g69_43 (lkN (by decide) (rfl)) ?_
        refine xT_getfield g_q69 g69_44 hA0 rfl (hm_at g2_ (i := 0) rfl rfl) rfl rfl ?_
        refine xT_iaload g_q69 g69_47 hrr0 (hm_c g2_ crr) (ixN (n := 12) (by omega) nrr) (ixG (by omega) (err _ (by omega))) ?_
        refine xT_istore_n g_q69 g69_48 (by decide) ?_
        refine xT_aload_n g_q69 g69_49 (lkN (by decide) (lkN (by decide) (rfl))) ?_
        refine xT_getfield g_q69 g69_50 hA0 rfl (hm_at g2_ (i := 0) rfl rfl) rfl rfl ?_
        refine xT_getfield g_q69 g69_53 hcA rfl (hm_c g2_ hco) rfl rfl ?_
        refine xT_aload_n g_q69 g69_56 (lkN (by decide) (lkN (by decide) (rfl))) ?_
        refine xT_getfield g_q69 g69_57 hA0 rfl (hm_at g2_ (i := 0) rfl rfl) rfl rfl ?_
        refine xT_iaload g_q69 g69_60 hrn0 (hm_c g2_ crn) (ixN (n := 12) (by omega) nrn) (ixG (by omega) (ern _ (by omega))) ?_
        refine xT_istore_n g_q69 g69_61 (by decide) ?_
        refine xT_aload_n g_q69 g69_62 (lkN (by decide) (lkN (by decide) (lkN (by decide) (rfl)))) ?_
        refine xT_getfield g_q69 g69_63 hA0 rfl (hm_at g2_ (i := 0) rfl rfl) rfl rfl ?_
        refine xT_icV (y := nI (1)) g_q69 g69_66 (by decide) ?_
        refine xT_iaddV (y := nI (l + 1)) g_q69 g69_67 (bAddN _ _) ?_
        refine xT_istore g_q69 g69_68 (by decide) ?_
        refine xT_aload_n g_q69 g69_70 (lkN (by decide) (lkN (by decide) (lkN (by decide) (lkN (by decide) (rfl))))) ?_
        refine xT_getfield g_q69 g69_71 hA0 rfl (hm_at g2_ (i := 0) rfl rfl) rfl rfl ?_
        refine xT_getfield g_q69 g69_74 hcA rfl (hm_c g2_ hco) rfl rfl ?_
        refine xT_aload_n g_q69 g69_77 (lkN (by decide) (lkN (by decide) (lkN (by decide) (lkN (by decide) (rfl))))) ?_
        refine xT_getfield g_q69 g69_78 hA0 rfl (hm_at g2_ (i := 0) rfl rfl) rfl rfl ?_
        refine xT_iaload g_q69 g69_81 hro0 (hm_c g2_ cro) (ixN (n := 12) (by omega) nro) (ixG (by omega) (ero _ (by omega))) ?_
        refine xT_tableswitch g_q69 g69_82 (t := 282) (by decide) (by decide) (by rw [hz]; decide) ?_
        refine xT_aload_n g_q69 g69_282 (lkN (by decide) (lkN (by decide) (lkN (by decide) (lkN (by decide) (rfl))))) ?_
        refine xT_iload_n g_q69 g69_283 (lkN (by decide) (lkN (by decide) (lkN (by decide) (lkY)))) ?_
        refine xT_invokevirtual (r := []) (u := some (.inl ((nu_ (pLf p (l)))))) g_q69 g69_284 (j := 76) (so := 0) (by decide +kernel) g_q76 rfl (by rw [x_rcM hA0 (hm_at g2_ (i := 0) rfl rfl)]; rfl) (t76 (dp := dp + 1) hA0 hA2 hN1 hN3 hnl hol hS hnf (by omega) g2_) ?_
        refine xT_aload_n g_q69 g69_287 (lkN (by decide) (lkN (by decide) (lkN (by decide) (lkN (by decide) (rfl))))) ?_
        refine xT_iload_n g_q69 g69_288 (lkN (by decide) (lkN (by decide) (lkY))) ?_
        refine xT_invokevirtual (r := [.inl ((nu_ (pLf p (l))))]) (u := some (.inl ((nu_ (pRt p (l)))))) g_q69 g69_289 (j := 76) (so := 0) (by decide +kernel) g_q76 rfl (by rw [x_rcM hA0 (hm_at g2_ (i := 0) rfl rfl)]; rfl) (t76 (dp := dp + 1) hA0 hA2 hN1 hN3 hnl hol hS hnf (by omega) g2_) ?_
        refine xT_if_icmpN g_q69 g69_292 (t := 299) (by decide) (decide_eq_false (Int32.not_le.mpr hq)) ?_
        refine xT_iload_n g_q69 g69_295 (lkN (by decide) (lkY)) ?_
        refine xT_goto g_q69 g69_296 (t := 301) (by decide) ?_
        refine xT_istore g_q69 g69_301 (by decide) ?_
        refine xT_goto g_q69 g69_303 (t := 367) (by decide) ?_
        refine xT_aload_n g_q69 g69_367 (lkN (by decide) (lkN (by decide) (lkN (by decide) (lkN (by decide) (lkN (by decide) (rfl)))))) ?_
        refine xT_invokevirtual (r := []) (u := some (.inl (nI (0)))) g_q69 g69_368 (j := 68) (so := 0) (by decide +kernel) g_q68 rfl (by rw [x_rcM hA0 (hm_at g2_ (i := 0) rfl rfl)]; rfl) (t68r hA0 hA2 g2_) ?_
        refine xT_ifCondN g_q69 g69_371 (t := 380) (by decide) (c1N (b := 0) rfl) ?_
        refine xT_aload_n g_q69 g69_374 (lkN (by decide) (lkN (by decide) (lkN (by decide) (lkN (by decide) (lkN (by decide) (rfl)))))) ?_
        refine xT_iload g_q69 g69_375 (lkY) ?_
        refine xT_invokevirtual (r := []) (u := none) g_q69 g69_377 (j := 81) (so := 0) (by decide +kernel) g_q81 rfl (by rw [x_rcM hA0 (hm_at g2_ (i := 0) rfl rfl)]; rfl) (y3_) ?_
        exact xT_return_ g_q69 g69_380 (rfl)
      obtain ⟨H2, y, hh⟩ := key
      refine ⟨H2, y, ?_⟩
      rw [stM_7 (s := (nu_, l, x, d, -1, os, ov)) hz, if_pos (show nu_ (pLf p (l)) < nu_ (pRt p (l)) from hq)]
      exact ⟨_, _, _, _, _, hh, fun _ => rfl, hnl, hnf, hol, hof⟩
    · skip
      have key : ∃ H2, x_To x_tb x_tyl ot (dp + 3) 69 0 (x_en 0 [.inr (some (R))]) [] H 0 0 none H2 ∧ hm H0 H2 [R, nu, ob, oi] [.inl (4, [.inr (some (nu)), .inr (some (sp)), .inr (some (co)), .inr (some (se)), .inr (some (inp)), .inr (some (ob)), .inl (pYr p), .inl (nI (l + 1)), .inl (nI x), .inl (nI (d + 1)), .inl (if pNl p ≤ l + 1 then 0 else if d + 1 = 150 then 2 else -1), .inl (nI 0), .inl (lw)]), .inr (0, nf), .inl (5, [.inr (some (oi)), .inl (nI (os))]), .inr (0, of)] := by
        have g1_ : hm H0 _ [R, nu, ob, oi] [.inl (4, [.inr (some (nu)), .inr (some (sp)), .inr (some (co)), .inr (some (se)), .inr (some (inp)), .inr (some (ob)), .inl (pYr p), .inl (nI (l)), .inl (nI (x)), .inl (nI (d)), .inl (-1), .inl (nI (0)), .inl (lw)]), .inr (0, nf), .inl (5, [.inr (some (oi)), .inl (nI (os))]), .inr (0, of)] := hm_set (i := 0) (z2 := .inl (4, ([.inr (some (nu)), .inr (some (sp)), .inr (some (co)), .inr (some (se)), .inr (some (inp)), .inr (some (ob)), .inl (pYr p), .inl (nI (l)), .inl (nI (x)), .inl (nI (d)), .inl (-1), .inl (hw), .inl (lw)]).set 11 (.inl (nI (0))))) h rfl
        have g2_ : hm H0 _ [R, nu, ob, oi] [.inl (4, [.inr (some (nu)), .inr (some (sp)), .inr (some (co)), .inr (some (se)), .inr (some (inp)), .inr (some (ob)), .inl (pYr p), .inl (nI (l)), .inl (nI (x)), .inl (nI (d + 1)), .inl (-1), .inl (nI (0)), .inl (lw)]), .inr (0, nf), .inl (5, [.inr (some (oi)), .inl (nI (os))]), .inr (0, of)] := hm_set (i := 0) (z2 := .inl (4, ([.inr (some (nu)), .inr (some (sp)), .inr (some (co)), .inr (some (se)), .inr (some (inp)), .inr (some (ob)), .inl (pYr p), .inl (nI (l)), .inl (nI (x)), .inl (nI (d)), .inl (-1), .inl (nI (0)), .inl (lw)]).set 9 (.inl (nI (d + 1))))) g1_ rfl
        obtain ⟨G3, y3_, g3_⟩ := t81 (dp := dp + 2) (next := l + 1) (d := d + 1) hA0 hA2 hC h12 (by omega) (by omega) g2_
        have g3_ : hm H0 G3 [R, nu, ob, oi] [.inl (4, [.inr (some (nu)), .inr (some (sp)), .inr (some (co)), .inr (some (se)), .inr (some (inp)), .inr (some (ob)), .inl (pYr p), .inl (nI (l + 1)), .inl (nI (x)), .inl (nI (d + 1)), .inl ((if pNl p ≤ l + 1 then 0 else if d + 1 = 150 then 2 else -1)), .inl (nI (0)), .inl (lw)]), .inr (0, nf), .inl (5, [.inr (some (oi)), .inl (nI (os))]), .inr (0, of)] := g3_
        refine ⟨_, ?_, g3_⟩
        refine xT_aload_n g_q69 g69_0 (rfl) ?_
        refine xT_icV (y := nI (0)) g_q69 g69_1 (by decide) ?_
        refine xT_putfield g_q69 g69_2 (ci := 4) (j := 11) rfl (hm_at h (i := 0) rfl rfl) rfl rfl ?_
        refine xT_aload_n g_q69 g69_5 (rfl) ?_
        refine xT_invokevirtual (r := []) (u := some (.inl (nI (0)))) g_q69 g69_6 (j := 68) (so := 0) (by decide +kernel) g_q68 rfl (by rw [x_rcM hA0 (hm_at g1_ (i := 0) rfl rfl)]; rfl) (t68r hA0 hA2 g1_) ?_
        refine xT_ifCondY g_q69 g69_9 (t := 13) (by decide) (c0Y (b := 0) rfl) ?_
        refine xT_aload_n g_q69 g69_13 (rfl) ?_
        refine xT_dup g_q69 g69_14 ?_
        refine xT_getfield g_q69 g69_15 hA0 rfl (hm_at g1_ (i := 0) rfl rfl) rfl rfl ?_
        refine xT_icV (y := nI (1)) g_q69 g69_18 (by decide) ?_
        refine xT_iaddV (y := nI (d + 1)) g_q69 g69_19 (bAddN _ _) ?_
        refine xT_putfield g_q69 g69_20 (ci := 4) (j := 9) rfl (hm_at g1_ (i := 0) rfl rfl) rfl rfl ?_
        refine xT_aload_n g_q69 g69_23 (rfl) ?_
        refine xT_getfield g_q69 g69_24 hA0 rfl (hm_at g2_ (i := 0) rfl rfl) rfl rfl ?_
        refine xT_getfield g_q69 g69_27 hcA rfl (hm_c g2_ hco) rfl rfl ?_
        refine xT_aload_n g_q69 g69_30 (rfl) ?_
        refine xT_getfield g_q69 g69_31 hA0 rfl (hm_at g2_ (i := 0) rfl rfl) rfl rfl ?_
        refine xT_iaload g_q69 g69_34 hrl0 (hm_c g2_ crl) (ixN (n := 12) (by omega) nrl) (ixG (by omega) (erl _ (by omega))) ?_
        refine xT_istore_n g_q69 g69_35 (by decide) ?_
        refine xT_aload_n g_q69 g69_36 (lkN (by decide) (rfl)) ?_
        refine xT_getfield g_q69 g69_37 hA0 rfl (hm_at g2_ (i := 0) rfl rfl) rfl rfl ?_
        refine xT_getfield g_q69 g69_40 hcA rfl (hm_c g2_ hco) rfl rfl ?_
        refine xT_aload_n g_q69 g69_43 (lkN (by decide) (rfl)) ?_
        refine xT_getfield g_q69 g69_44 hA0 rfl (hm_at g2_ (i := 0) rfl rfl) rfl rfl ?_
        refine xT_iaload g_q69 g69_47 hrr0 (hm_c g2_ crr) (ixN (n := 12) (by omega) nrr) (ixG (by omega) (err _ (by omega))) ?_
        refine xT_istore_n g_q69 g69_48 (by decide) ?_
        refine xT_aload_n g_q69 g69_49 (lkN (by decide) (lkN (by decide) (rfl))) ?_
        refine xT_getfield g_q69 g69_50 hA0 rfl (hm_at g2_ (i := 0) rfl rfl) rfl rfl ?_
        refine xT_getfield g_q69 g69_53 hcA rfl (hm_c g2_ hco) rfl rfl ?_
        refine xT_aload_n g_q69 g69_56 (lkN (by decide) (lkN (by decide) (rfl))) ?_
        refine xT_getfield g_q69 g69_57 hA0 rfl (hm_at g2_ (i := 0) rfl rfl) rfl rfl ?_
        refine xT_iaload g_q69 g69_60 hrn0 (hm_c g2_ crn) (ixN (n := 12) (by omega) nrn) (ixG (by omega) (ern _ (by omega))) ?_
        refine xT_istore_n g_q69 g69_61 (by decide) ?_
        refine xT_aload_n g_q69 g69_62 (lkN (by decide) (lkN (by decide) (lkN (by decide) (rfl)))) ?_
        refine xT_getfield g_q69 g69_63 hA0 rfl (hm_at g2_ (i := 0) rfl rfl) rfl rfl ?_
        refine xT_icV (y := nI (1)) g_q69 g69_66 (by decide) ?_
        refine xT_iaddV (y := nI (l + 1)) g_q69 g69_67 (bAddN _ _) ?_
        refine xT_istore g_q69 g69_68 (by decide) ?_
        refine xT_aload_n g_q69 g69_70 (lkN (by decide) (lkN (by decide) (lkN (by decide) (lkN (by decide) (rfl))))) ?_
        refine xT_getfield g_q69 g69_71 hA0 rfl (hm_at g2_ (i := 0) rfl rfl) rfl rfl ?_
        refine xT_getfield g_q69 g69_74 hcA rfl (hm_c g2_ hco) rfl rfl ?_
        refine xT_aload_n g_q69 g69_77 (lkN (by decide) (lkN (by decide) (lkN (by decide) (lkN (by decide) (rfl))))) ?_
        refine xT_getfield g_q69 g69_78 hA0 rfl (hm_at g2_ (i := 0) rfl rfl) rfl rfl ?_
        refine xT_iaload g_q69 g69_81 hro0 (hm_c g2_ cro) (ixN (n := 12) (by omega) nro) (ixG (by omega) (ero _ (by omega))) ?_
        refine xT_tableswitch g_q69 g69_82 (t := 282) (by decide) (by decide) (by rw [hz]; decide) ?_
        refine xT_aload_n g_q69 g69_282 (lkN (by decide) (lkN (by decide) (lkN (by decide) (lkN (by decide) (rfl))))) ?_
        refine xT_iload_n g_q69 g69_283 (lkN (by decide) (lkN (by decide) (lkN (by decide) (lkY)))) ?_
        refine xT_invokevirtual (r := []) (u := some (.inl ((nu_ (pLf p (l)))))) g_q69 g69_284 (j := 76) (so := 0) (by decide +kernel) g_q76 rfl (by rw [x_rcM hA0 (hm_at g2_ (i := 0) rfl rfl)]; rfl) (t76 (dp := dp + 1) hA0 hA2 hN1 hN3 hnl hol hS hnf (by omega) g2_) ?_
        refine xT_aload_n g_q69 g69_287 (lkN (by decide) (lkN (by decide) (lkN (by decide) (lkN (by decide) (rfl))))) ?_
        refine xT_iload_n g_q69 g69_288 (lkN (by decide) (lkN (by decide) (lkY))) ?_
        refine xT_invokevirtual (r := [.inl ((nu_ (pLf p (l))))]) (u := some (.inl ((nu_ (pRt p (l)))))) g_q69 g69_289 (j := 76) (so := 0) (by decide +kernel) g_q76 rfl (by rw [x_rcM hA0 (hm_at g2_ (i := 0) rfl rfl)]; rfl) (t76 (dp := dp + 1) hA0 hA2 hN1 hN3 hnl hol hS hnf (by omega) g2_) ?_
        refine xT_if_icmpY g_q69 g69_292 (t := 299) (by decide) (decide_eq_true (Int32.not_lt.mp hq)) ?_
        refine xT_iload g_q69 g69_299 (lkY) ?_
        refine xT_istore g_q69 g69_301 (by decide) ?_
        refine xT_goto g_q69 g69_303 (t := 367) (by decide) ?_
        refine xT_aload_n g_q69 g69_367 (lkN (by decide) (lkN (by decide) (lkN (by decide) (lkN (by decide) (lkN (by decide) (rfl)))))) ?_
        refine xT_invokevirtual (r := []) (u := some (.inl (nI (0)))) g_q69 g69_368 (j := 68) (so := 0) (by decide +kernel) g_q68 rfl (by rw [x_rcM hA0 (hm_at g2_ (i := 0) rfl rfl)]; rfl) (t68r hA0 hA2 g2_) ?_
        refine xT_ifCondN g_q69 g69_371 (t := 380) (by decide) (c1N (b := 0) rfl) ?_
        refine xT_aload_n g_q69 g69_374 (lkN (by decide) (lkN (by decide) (lkN (by decide) (lkN (by decide) (lkN (by decide) (rfl)))))) ?_
        refine xT_iload g_q69 g69_375 (lkY) ?_
        refine xT_invokevirtual (r := []) (u := none) g_q69 g69_377 (j := 81) (so := 0) (by decide +kernel) g_q81 rfl (by rw [x_rcM hA0 (hm_at g2_ (i := 0) rfl rfl)]; rfl) (y3_) ?_
        exact xT_return_ g_q69 g69_380 (rfl)
      obtain ⟨H2, y, hh⟩ := key
      refine ⟨H2, y, ?_⟩
      rw [stM_7 (s := (nu_, l, x, d, -1, os, ov)) hz, if_neg (show ¬ (nu_ (pLf p (l)) < nu_ (pRt p (l))) from hq)]
      exact ⟨_, _, _, _, _, hh, fun _ => rfl, hnl, hnf, hol, hof⟩
  · have hz : pOp p l = 8 := hz
    by_cases hq : pLp p (nu_ (pLf p (l))) = true
    · skip
      have key : ∃ H2, x_To x_tb x_tyl ot (dp + 3) 69 0 (x_en 0 [.inr (some (R))]) [] H 0 0 none H2 ∧ hm H0 H2 [R, nu, ob, oi] [.inl (4, [.inr (some (nu)), .inr (some (sp)), .inr (some (co)), .inr (some (se)), .inr (some (inp)), .inr (some (ob)), .inl (pYr p), .inl (nI (pNm p l)), .inl (nI x), .inl (nI (d + 1)), .inl (if pNl p ≤ pNm p l then 0 else if d + 1 = 150 then 2 else -1), .inl (nI 0), .inl (lw)]), .inr (0, nf), .inl (5, [.inr (some (oi)), .inl (nI (os))]), .inr (0, of)] := by
        have g1_ : hm H0 _ [R, nu, ob, oi] [.inl (4, [.inr (some (nu)), .inr (some (sp)), .inr (some (co)), .inr (some (se)), .inr (some (inp)), .inr (some (ob)), .inl (pYr p), .inl (nI (l)), .inl (nI (x)), .inl (nI (d)), .inl (-1), .inl (nI (0)), .inl (lw)]), .inr (0, nf), .inl (5, [.inr (some (oi)), .inl (nI (os))]), .inr (0, of)] := hm_set (i := 0) (z2 := .inl (4, ([.inr (some (nu)), .inr (some (sp)), .inr (some (co)), .inr (some (se)), .inr (some (inp)), .inr (some (ob)), .inl (pYr p), .inl (nI (l)), .inl (nI (x)), .inl (nI (d)), .inl (-1), .inl (hw), .inl (lw)]).set 11 (.inl (nI (0))))) h rfl
        have g2_ : hm H0 _ [R, nu, ob, oi] [.inl (4, [.inr (some (nu)), .inr (some (sp)), .inr (some (co)), .inr (some (se)), .inr (some (inp)), .inr (some (ob)), .inl (pYr p), .inl (nI (l)), .inl (nI (x)), .inl (nI (d + 1)), .inl (-1), .inl (nI (0)), .inl (lw)]), .inr (0, nf), .inl (5, [.inr (some (oi)), .inl (nI (os))]), .inr (0, of)] := hm_set (i := 0) (z2 := .inl (4, ([.inr (some (nu)), .inr (some (sp)), .inr (some (co)), .inr (some (se)), .inr (some (inp)), .inr (some (ob)), .inl (pYr p), .inl (nI (l)), .inl (nI (x)), .inl (nI (d)), .inl (-1), .inl (nI (0)), .inl (lw)]).set 9 (.inl (nI (d + 1))))) g1_ rfl
        obtain ⟨G3, y3_, g3_⟩ := t81 (dp := dp + 2) (next := pNm p (l)) (d := d + 1) hA0 hA2 hC h12 (by omega) (by omega) g2_
        have g3_ : hm H0 G3 [R, nu, ob, oi] [.inl (4, [.inr (some (nu)), .inr (some (sp)), .inr (some (co)), .inr (some (se)), .inr (some (inp)), .inr (some (ob)), .inl (pYr p), .inl (nI (pNm p (l))), .inl (nI (x)), .inl (nI (d + 1)), .inl ((if pNl p ≤ pNm p (l) then 0 else if d + 1 = 150 then 2 else -1)), .inl (nI (0)), .inl (lw)]), .inr (0, nf), .inl (5, [.inr (some (oi)), .inl (nI (os))]), .inr (0, of)] := g3_
        refine ⟨_, ?_, g3_⟩
        refine xT_aload_n g_q69 g69_0 (rfl) ?_
        refine xT_icV (y := nI (0)) g_q69 g69_1 (by decide) ?_
        refine xT_putfield g_q69 g69_2 (ci := 4) (j := 11) rfl (hm_at h (i := 0) rfl rfl) rfl rfl ?_
        refine xT_aload_n g_q69 g69_5 (rfl) ?_
        refine xT_invokevirtual (r := []) (u := some (.inl (nI (0)))) g_q69 g69_6 (j := 68) (so := 0) (by decide +kernel) g_q68 rfl (by rw [x_rcM hA0 (hm_at g1_ (i := 0) rfl rfl)]; rfl) (t68r hA0 hA2 g1_) ?_
        refine xT_ifCondY g_q69 g69_9 (t := 13) (by decide) (c0Y (b := 0) rfl) ?_
        refine xT_aload_n g_q69 g69_13 (rfl) ?_
        refine xT_dup g_q69 g69_14 ?_
        refine xT_getfield g_q69 g69_15 hA0 rfl (hm_at g1_ (i := 0) rfl rfl) rfl rfl ?_
        refine xT_icV (y := nI (1)) g_q69 g69_18 (by decide) ?_
        refine xT_iaddV (y := nI (d + 1)) g_q69 g69_19 (bAddN _ _) ?_
        refine xT_putfield g_q69 g69_20 (ci := 4) (j := 9) rfl (hm_at g1_ (i := 0) rfl rfl) rfl rfl ?_
        refine xT_aload_n g_q69 g69_23 (rfl) ?_
        refine xT_getfield g_q69 g69_24 hA0 rfl (hm_at g2_ (i := 0) rfl rfl) rfl rfl ?_
        refine xT_getfield g_q69 g69_27 hcA rfl (hm_c g2_ hco) rfl rfl ?_
        refine xT_aload_n g_q69 g69_30 (rfl) ?_
        refine xT_getfield g_q69 g69_31 hA0 rfl (hm_at g2_ (i := 0) rfl rfl) rfl rfl ?_
        refine xT_iaload g_q69 g69_34 hrl0 (hm_c g2_ crl) (ixN (n := 12) (by omega) nrl) (ixG (by omega) (erl _ (by omega))) ?_
        refine xT_istore_n g_q69 g69_35 (by decide) ?_
        refine xT_aload_n g_q69 g69_36 (lkN (by decide) (rfl)) ?_
        refine xT_getfield g_q69 g69_37 hA0 rfl (hm_at g2_ (i := 0) rfl rfl) rfl rfl ?_
        refine xT_getfield g_q69 g69_40 hcA rfl (hm_c g2_ hco) rfl rfl ?_
        refine xT_aload_n g_q69 g69_43 (lkN (by decide) (rfl)) ?_
        refine xT_getfield g_q69 g69_44 hA0 rfl (hm_at g2_ (i := 0) rfl rfl) rfl rfl ?_
        refine xT_iaload g_q69 g69_47 hrr0 (hm_c g2_ crr) (ixN (n := 12) (by omega) nrr) (ixG (by omega) (err _ (by omega))) ?_
        refine xT_istore_n g_q69 g69_48 (by decide) ?_
        refine xT_aload_n g_q69 g69_49 (lkN (by decide) (lkN (by decide) (rfl))) ?_
        refine xT_getfield g_q69 g69_50 hA0 rfl (hm_at g2_ (i := 0) rfl rfl) rfl rfl ?_
        refine xT_getfield g_q69 g69_53 hcA rfl (hm_c g2_ hco) rfl rfl ?_
        refine xT_aload_n g_q69 g69_56 (lkN (by decide) (lkN (by decide) (rfl))) ?_
        refine xT_getfield g_q69 g69_57 hA0 rfl (hm_at g2_ (i := 0) rfl rfl) rfl rfl ?_
        refine xT_iaload g_q69 g69_60 hrn0 (hm_c g2_ crn) (ixN (n := 12) (by omega) nrn) (ixG (by omega) (ern _ (by omega))) ?_
        refine xT_istore_n g_q69 g69_61 (by decide) ?_
        refine xT_aload_n g_q69 g69_62 (lkN (by decide) (lkN (by decide) (lkN (by decide) (rfl)))) ?_
        refine xT_getfield g_q69 g69_63 hA0 rfl (hm_at g2_ (i := 0) rfl rfl) rfl rfl ?_
        refine xT_icV (y := nI (1)) g_q69 g69_66 (by decide) ?_
        refine xT_iaddV (y := nI (l + 1)) g_q69 g69_67 (bAddN _ _) ?_
        refine xT_istore g_q69 g69_68 (by decide) ?_
        refine xT_aload_n g_q69 g69_70 (lkN (by decide) (lkN (by decide) (lkN (by decide) (lkN (by decide) (rfl))))) ?_
        refine xT_getfield g_q69 g69_71 hA0 rfl (hm_at g2_ (i := 0) rfl rfl) rfl rfl ?_
        refine xT_getfield g_q69 g69_74 hcA rfl (hm_c g2_ hco) rfl rfl ?_
        refine xT_aload_n g_q69 g69_77 (lkN (by decide) (lkN (by decide) (lkN (by decide) (lkN (by decide) (rfl))))) ?_
        refine xT_getfield g_q69 g69_78 hA0 rfl (hm_at g2_ (i := 0) rfl rfl) rfl rfl ?_
        refine xT_iaload g_q69 g69_81 hro0 (hm_c g2_ cro) (ixN (n := 12) (by omega) nro) (ixG (by omega) (ero _ (by omega))) ?_
        refine xT_tableswitch g_q69 g69_82 (t := 330) (by decide) (by decide) (by rw [hz]; decide) ?_
        refine xT_aload_n g_q69 g69_330 (lkN (by decide) (lkN (by decide) (lkN (by decide) (lkN (by decide) (rfl))))) ?_
        refine xT_getfield g_q69 g69_331 hA0 rfl (hm_at g2_ (i := 0) rfl rfl) rfl rfl ?_
        refine xT_aload_n g_q69 g69_334 (lkN (by decide) (lkN (by decide) (lkN (by decide) (lkN (by decide) (rfl))))) ?_
        refine xT_iload_n g_q69 g69_335 (lkN (by decide) (lkN (by decide) (lkN (by decide) (lkY)))) ?_
        refine xT_invokevirtual (r := [.inr (some (se))]) (u := some (.inl ((nu_ (pLf p (l)))))) g_q69 g69_336 (j := 76) (so := 0) (by decide +kernel) g_q76 rfl (by rw [x_rcM hA0 (hm_at g2_ (i := 0) rfl rfl)]; rfl) (t76 (dp := dp + 1) hA0 hA2 hN1 hN3 hnl hol hS hnf (by omega) g2_) ?_
        refine xT_invokevirtual (r := []) (u := some (.inl ((nI (if pLp p (nu_ (pLf p (l))) = true then 1 else 0))))) g_q69 g69_339 (j := 79) (so := 0) (by decide +kernel) g_q79 rfl (by rw [x_rcM hsA (hm_c g2_ hsR)]; rfl) (t79 (dp := dp + 1) g2_ hS) ?_
        refine xT_ifCondN g_q69 g69_342 (t := 349) (by decide) ((by rw [if_pos hq]; decide +kernel)) ?_
        refine xT_iload_n g_q69 g69_345 (lkN (by decide) (lkY)) ?_
        refine xT_goto g_q69 g69_346 (t := 351) (by decide) ?_
        refine xT_istore g_q69 g69_351 (by decide) ?_
        refine xT_goto g_q69 g69_353 (t := 367) (by decide) ?_
        refine xT_aload_n g_q69 g69_367 (lkN (by decide) (lkN (by decide) (lkN (by decide) (lkN (by decide) (lkN (by decide) (rfl)))))) ?_
        refine xT_invokevirtual (r := []) (u := some (.inl (nI (0)))) g_q69 g69_368 (j := 68) (so := 0) (by decide +kernel) g_q68 rfl (by rw [x_rcM hA0 (hm_at g2_ (i := 0) rfl rfl)]; rfl) (t68r hA0 hA2 g2_) ?_
        refine xT_ifCondN g_q69 g69_371 (t := 380) (by decide) (c1N (b := 0) rfl) ?_
        refine xT_aload_n g_q69 g69_374 (lkN (by decide) (lkN (by decide) (lkN (by decide) (lkN (by decide) (lkN (by decide) (rfl)))))) ?_
        refine xT_iload g_q69 g69_375 (lkY) ?_
        refine xT_invokevirtual (r := []) (u := none) g_q69 g69_377 (j := 81) (so := 0) (by decide +kernel) g_q81 rfl (by rw [x_rcM hA0 (hm_at g2_ (i := 0) rfl rfl)]; rfl) (y3_) ?_
        exact xT_return_ g_q69 g69_380 (rfl)
      obtain ⟨H2, y, hh⟩ := key
      refine ⟨H2, y, ?_⟩
      rw [stM_8 (s := (nu_, l, x, d, -1, os, ov)) hz, if_pos (show pLp p (nu_ (pLf p (l))) = true from hq)]
      exact ⟨_, _, _, _, _, hh, fun _ => rfl, hnl, hnf, hol, hof⟩
    · skip
      have key : ∃ H2, x_To x_tb x_tyl ot (dp + 3) 69 0 (x_en 0 [.inr (some (R))]) [] H 0 0 none H2 ∧ hm H0 H2 [R, nu, ob, oi] [.inl (4, [.inr (some (nu)), .inr (some (sp)), .inr (some (co)), .inr (some (se)), .inr (some (inp)), .inr (some (ob)), .inl (pYr p), .inl (nI (l + 1)), .inl (nI x), .inl (nI (d + 1)), .inl (if pNl p ≤ l + 1 then 0 else if d + 1 = 150 then 2 else -1), .inl (nI 0), .inl (lw)]), .inr (0, nf), .inl (5, [.inr (some (oi)), .inl (nI (os))]), .inr (0, of)] := by
        have g1_ : hm H0 _ [R, nu, ob, oi] [.inl (4, [.inr (some (nu)), .inr (some (sp)), .inr (some (co)), .inr (some (se)), .inr (some (inp)), .inr (some (ob)), .inl (pYr p), .inl (nI (l)), .inl (nI (x)), .inl (nI (d)), .inl (-1), .inl (nI (0)), .inl (lw)]), .inr (0, nf), .inl (5, [.inr (some (oi)), .inl (nI (os))]), .inr (0, of)] := hm_set (i := 0) (z2 := .inl (4, ([.inr (some (nu)), .inr (some (sp)), .inr (some (co)), .inr (some (se)), .inr (some (inp)), .inr (some (ob)), .inl (pYr p), .inl (nI (l)), .inl (nI (x)), .inl (nI (d)), .inl (-1), .inl (hw), .inl (lw)]).set 11 (.inl (nI (0))))) h rfl
        have g2_ : hm H0 _ [R, nu, ob, oi] [.inl (4, [.inr (some (nu)), .inr (some (sp)), .inr (some (co)), .inr (some (se)), .inr (some (inp)), .inr (some (ob)), .inl (pYr p), .inl (nI (l)), .inl (nI (x)), .inl (nI (d + 1)), .inl (-1), .inl (nI (0)), .inl (lw)]), .inr (0, nf), .inl (5, [.inr (some (oi)), .inl (nI (os))]), .inr (0, of)] := hm_set (i := 0) (z2 := .inl (4, ([.inr (some (nu)), .inr (some (sp)), .inr (some (co)), .inr (some (se)), .inr (some (inp)), .inr (some (ob)), .inl (pYr p), .inl (nI (l)), .inl (nI (x)), .inl (nI (d)), .inl (-1), .inl (nI (0)), .inl (lw)]).set 9 (.inl (nI (d + 1))))) g1_ rfl
        obtain ⟨G3, y3_, g3_⟩ := t81 (dp := dp + 2) (next := l + 1) (d := d + 1) hA0 hA2 hC h12 (by omega) (by omega) g2_
        have g3_ : hm H0 G3 [R, nu, ob, oi] [.inl (4, [.inr (some (nu)), .inr (some (sp)), .inr (some (co)), .inr (some (se)), .inr (some (inp)), .inr (some (ob)), .inl (pYr p), .inl (nI (l + 1)), .inl (nI (x)), .inl (nI (d + 1)), .inl ((if pNl p ≤ l + 1 then 0 else if d + 1 = 150 then 2 else -1)), .inl (nI (0)), .inl (lw)]), .inr (0, nf), .inl (5, [.inr (some (oi)), .inl (nI (os))]), .inr (0, of)] := g3_
        refine ⟨_, ?_, g3_⟩
        refine xT_aload_n g_q69 g69_0 (rfl) ?_
        refine xT_icV (y := nI (0)) g_q69 g69_1 (by decide) ?_
        refine xT_putfield g_q69 g69_2 (ci := 4) (j := 11) rfl (hm_at h (i := 0) rfl rfl) rfl rfl ?_
        refine xT_aload_n g_q69 g69_5 (rfl) ?_
        refine xT_invokevirtual (r := []) (u := some (.inl (nI (0)))) g_q69 g69_6 (j := 68) (so := 0) (by decide +kernel) g_q68 rfl (by rw [x_rcM hA0 (hm_at g1_ (i := 0) rfl rfl)]; rfl) (t68r hA0 hA2 g1_) ?_
        refine xT_ifCondY g_q69 g69_9 (t := 13) (by decide) (c0Y (b := 0) rfl) ?_
        refine xT_aload_n g_q69 g69_13 (rfl) ?_
        refine xT_dup g_q69 g69_14 ?_
        refine xT_getfield g_q69 g69_15 hA0 rfl (hm_at g1_ (i := 0) rfl rfl) rfl rfl ?_
        refine xT_icV (y := nI (1)) g_q69 g69_18 (by decide) ?_
        refine xT_iaddV (y := nI (d + 1)) g_q69 g69_19 (bAddN _ _) ?_
        refine xT_putfield g_q69 g69_20 (ci := 4) (j := 9) rfl (hm_at g1_ (i := 0) rfl rfl) rfl rfl ?_
        refine xT_aload_n g_q69 g69_23 (rfl) ?_
        refine xT_getfield g_q69 g69_24 hA0 rfl (hm_at g2_ (i := 0) rfl rfl) rfl rfl ?_
        refine xT_getfield g_q69 g69_27 hcA rfl (hm_c g2_ hco) rfl rfl ?_
        refine xT_aload_n g_q69 g69_30 (rfl) ?_
        refine xT_getfield g_q69 g69_31 hA0 rfl (hm_at g2_ (i := 0) rfl rfl) rfl rfl ?_
        refine xT_iaload g_q69 g69_34 hrl0 (hm_c g2_ crl) (ixN (n := 12) (by omega) nrl) (ixG (by omega) (erl _ (by omega))) ?_
        refine xT_istore_n g_q69 g69_35 (by decide) ?_
        refine xT_aload_n g_q69 g69_36 (lkN (by decide) (rfl)) ?_
        refine xT_getfield g_q69 g69_37 hA0 rfl (hm_at g2_ (i := 0) rfl rfl) rfl rfl ?_
        refine xT_getfield g_q69 g69_40 hcA rfl (hm_c g2_ hco) rfl rfl ?_
        refine xT_aload_n g_q69 g69_43 (lkN (by decide) (rfl)) ?_
        refine xT_getfield g_q69 g69_44 hA0 rfl (hm_at g2_ (i := 0) rfl rfl) rfl rfl ?_
        refine xT_iaload g_q69 g69_47 hrr0 (hm_c g2_ crr) (ixN (n := 12) (by omega) nrr) (ixG (by omega) (err _ (by omega))) ?_
        refine xT_istore_n g_q69 g69_48 (by decide) ?_
        refine xT_aload_n g_q69 g69_49 (lkN (by decide) (lkN (by decide) (rfl))) ?_
        refine xT_getfield g_q69 g69_50 hA0 rfl (hm_at g2_ (i := 0) rfl rfl) rfl rfl ?_
        refine xT_getfield g_q69 g69_53 hcA rfl (hm_c g2_ hco) rfl rfl ?_
        refine xT_aload_n g_q69 g69_56 (lkN (by decide) (lkN (by decide) (rfl))) ?_
        refine xT_getfield g_q69 g69_57 hA0 rfl (hm_at g2_ (i := 0) rfl rfl) rfl rfl ?_
        refine xT_iaload g_q69 g69_60 hrn0 (hm_c g2_ crn) (ixN (n := 12) (by omega) nrn) (ixG (by omega) (ern _ (by omega))) ?_
        refine xT_istore_n g_q69 g69_61 (by decide) ?_
        refine xT_aload_n g_q69 g69_62 (lkN (by decide) (lkN (by decide) (lkN (by decide) (rfl)))) ?_
        refine xT_getfield g_q69 g69_63 hA0 rfl (hm_at g2_ (i := 0) rfl rfl) rfl rfl ?_
        refine xT_icV (y := nI (1)) g_q69 g69_66 (by decide) ?_
        refine xT_iaddV (y := nI (l + 1)) g_q69 g69_67 (bAddN _ _) ?_
        refine xT_istore g_q69 g69_68 (by decide) ?_
        refine xT_aload_n g_q69 g69_70 (lkN (by decide) (lkN (by decide) (lkN (by decide) (lkN (by decide) (rfl))))) ?_
        refine xT_getfield g_q69 g69_71 hA0 rfl (hm_at g2_ (i := 0) rfl rfl) rfl rfl ?_
        refine xT_getfield g_q69 g69_74 hcA rfl (hm_c g2_ hco) rfl rfl ?_
        refine xT_aload_n g_q69 g69_77 (lkN (by decide) (lkN (by decide) (lkN (by decide) (lkN (by decide) (rfl))))) ?_
        refine xT_getfield g_q69 g69_78 hA0 rfl (hm_at g2_ (i := 0) rfl rfl) rfl rfl ?_
        refine xT_iaload g_q69 g69_81 hro0 (hm_c g2_ cro) (ixN (n := 12) (by omega) nro) (ixG (by omega) (ero _ (by omega))) ?_
        refine xT_tableswitch g_q69 g69_82 (t := 330) (by decide) (by decide) (by rw [hz]; decide) ?_
        refine xT_aload_n g_q69 g69_330 (lkN (by decide) (lkN (by decide) (lkN (by decide) (lkN (by decide) (rfl))))) ?_
        refine xT_getfield g_q69 g69_331 hA0 rfl (hm_at g2_ (i := 0) rfl rfl) rfl rfl ?_
        refine xT_aload_n g_q69 g69_334 (lkN (by decide) (lkN (by decide) (lkN (by decide) (lkN (by decide) (rfl))))) ?_
        refine xT_iload_n g_q69 g69_335 (lkN (by decide) (lkN (by decide) (lkN (by decide) (lkY)))) ?_
        refine xT_invokevirtual (r := [.inr (some (se))]) (u := some (.inl ((nu_ (pLf p (l)))))) g_q69 g69_336 (j := 76) (so := 0) (by decide +kernel) g_q76 rfl (by rw [x_rcM hA0 (hm_at g2_ (i := 0) rfl rfl)]; rfl) (t76 (dp := dp + 1) hA0 hA2 hN1 hN3 hnl hol hS hnf (by omega) g2_) ?_
        refine xT_invokevirtual (r := []) (u := some (.inl ((nI (if pLp p (nu_ (pLf p (l))) = true then 1 else 0))))) g_q69 g69_339 (j := 79) (so := 0) (by decide +kernel) g_q79 rfl (by rw [x_rcM hsA (hm_c g2_ hsR)]; rfl) (t79 (dp := dp + 1) g2_ hS) ?_
        refine xT_ifCondY g_q69 g69_342 (t := 349) (by decide) ((by rw [if_neg hq]; decide +kernel)) ?_
        refine xT_iload g_q69 g69_349 (lkY) ?_
        refine xT_istore g_q69 g69_351 (by decide) ?_
        refine xT_goto g_q69 g69_353 (t := 367) (by decide) ?_
        refine xT_aload_n g_q69 g69_367 (lkN (by decide) (lkN (by decide) (lkN (by decide) (lkN (by decide) (lkN (by decide) (rfl)))))) ?_
        refine xT_invokevirtual (r := []) (u := some (.inl (nI (0)))) g_q69 g69_368 (j := 68) (so := 0) (by decide +kernel) g_q68 rfl (by rw [x_rcM hA0 (hm_at g2_ (i := 0) rfl rfl)]; rfl) (t68r hA0 hA2 g2_) ?_
        refine xT_ifCondN g_q69 g69_371 (t := 380) (by decide) (c1N (b := 0) rfl) ?_
        refine xT_aload_n g_q69 g69_374 (lkN (by decide) (lkN (by decide) (lkN (by decide) (lkN (by decide) (lkN (by decide) (rfl)))))) ?_
        refine xT_iload g_q69 g69_375 (lkY) ?_
        refine xT_invokevirtual (r := []) (u := none) g_q69 g69_377 (j := 81) (so := 0) (by decide +kernel) g_q81 rfl (by rw [x_rcM hA0 (hm_at g2_ (i := 0) rfl rfl)]; rfl) (y3_) ?_
        exact xT_return_ g_q69 g69_380 (rfl)
      obtain ⟨H2, y, hh⟩ := key
      refine ⟨H2, y, ?_⟩
      rw [stM_8 (s := (nu_, l, x, d, -1, os, ov)) hz, if_neg (show ¬ (pLp p (nu_ (pLf p (l))) = true) from hq)]
      exact ⟨_, _, _, _, _, hh, fun _ => rfl, hnl, hnf, hol, hof⟩
  · have hz : pOp p l = 9 := hz
    have key : ∃ H2, x_To x_tb x_tyl ot (dp + 3) 69 0 (x_en 0 [.inr (some (R))]) [] H 0 0 none H2 ∧ hm H0 H2 [R, nu, ob, oi] [.inl (4, [.inr (some (nu)), .inr (some (sp)), .inr (some (co)), .inr (some (se)), .inr (some (inp)), .inr (some (ob)), .inl (pYr p), .inl (nI (pNm p l)), .inl (nI x), .inl (nI (d + 1)), .inl (if pNl p ≤ pNm p l then 0 else if d + 1 = 150 then 2 else -1), .inl (nI 0), .inl (lw)]), .inr (0, nf), .inl (5, [.inr (some (oi)), .inl (nI (os))]), .inr (0, of)] := by
      have g1_ : hm H0 _ [R, nu, ob, oi] [.inl (4, [.inr (some (nu)), .inr (some (sp)), .inr (some (co)), .inr (some (se)), .inr (some (inp)), .inr (some (ob)), .inl (pYr p), .inl (nI (l)), .inl (nI (x)), .inl (nI (d)), .inl (-1), .inl (nI (0)), .inl (lw)]), .inr (0, nf), .inl (5, [.inr (some (oi)), .inl (nI (os))]), .inr (0, of)] := hm_set (i := 0) (z2 := .inl (4, ([.inr (some (nu)), .inr (some (sp)), .inr (some (co)), .inr (some (se)), .inr (some (inp)), .inr (some (ob)), .inl (pYr p), .inl (nI (l)), .inl (nI (x)), .inl (nI (d)), .inl (-1), .inl (hw), .inl (lw)]).set 11 (.inl (nI (0))))) h rfl
      have g2_ : hm H0 _ [R, nu, ob, oi] [.inl (4, [.inr (some (nu)), .inr (some (sp)), .inr (some (co)), .inr (some (se)), .inr (some (inp)), .inr (some (ob)), .inl (pYr p), .inl (nI (l)), .inl (nI (x)), .inl (nI (d + 1)), .inl (-1), .inl (nI (0)), .inl (lw)]), .inr (0, nf), .inl (5, [.inr (some (oi)), .inl (nI (os))]), .inr (0, of)] := hm_set (i := 0) (z2 := .inl (4, ([.inr (some (nu)), .inr (some (sp)), .inr (some (co)), .inr (some (se)), .inr (some (inp)), .inr (some (ob)), .inl (pYr p), .inl (nI (l)), .inl (nI (x)), .inl (nI (d)), .inl (-1), .inl (nI (0)), .inl (lw)]).set 9 (.inl (nI (d + 1))))) g1_ rfl
      obtain ⟨G3, y3_, g3_⟩ := t81 (dp := dp + 2) (next := pNm p (l)) (d := d + 1) hA0 hA2 hC h12 (by omega) (by omega) g2_
      have g3_ : hm H0 G3 [R, nu, ob, oi] [.inl (4, [.inr (some (nu)), .inr (some (sp)), .inr (some (co)), .inr (some (se)), .inr (some (inp)), .inr (some (ob)), .inl (pYr p), .inl (nI (pNm p (l))), .inl (nI (x)), .inl (nI (d + 1)), .inl ((if pNl p ≤ pNm p (l) then 0 else if d + 1 = 150 then 2 else -1)), .inl (nI (0)), .inl (lw)]), .inr (0, nf), .inl (5, [.inr (some (oi)), .inl (nI (os))]), .inr (0, of)] := g3_
      refine ⟨_, ?_, g3_⟩
      refine xT_aload_n g_q69 g69_0 (rfl) ?_
      refine xT_icV (y := nI (0)) g_q69 g69_1 (by decide) ?_
      refine xT_putfield g_q69 g69_2 (ci := 4) (j := 11) rfl (hm_at h (i := 0) rfl rfl) rfl rfl ?_
      refine xT_aload_n g_q69 g69_5 (rfl) ?_
      refine xT_invokevirtual (r := []) (u := some (.inl (nI (0)))) g_q69 g69_6 (j := 68) (so := 0) (by decide +kernel) g_q68 rfl (by rw [x_rcM hA0 (hm_at g1_ (i := 0) rfl rfl)]; rfl) (t68r hA0 hA2 g1_) ?_
      refine xT_ifCondY g_q69 g69_9 (t := 13) (by decide) (c0Y (b := 0) rfl) ?_
      refine xT_aload_n g_q69 g69_13 (rfl) ?_
      refine xT_dup g_q69 g69_14 ?_
      refine xT_getfield g_q69 g69_15 hA0 rfl (hm_at g1_ (i := 0) rfl rfl) rfl rfl ?_
      refine xT_icV (y := nI (1)) g_q69 g69_18 (by decide) ?_
      refine xT_iaddV (y := nI (d + 1)) g_q69 g69_19 (bAddN _ _) ?_
      refine xT_putfield g_q69 g69_20 (ci := 4) (j := 9) rfl (hm_at g1_ (i := 0) rfl rfl) rfl rfl ?_
      refine xT_aload_n g_q69 g69_23 (rfl) ?_
      refine xT_getfield g_q69 g69_24 hA0 rfl (hm_at g2_ (i := 0) rfl rfl) rfl rfl ?_
      refine xT_getfield g_q69 g69_27 hcA rfl (hm_c g2_ hco) rfl rfl ?_
      refine xT_aload_n g_q69 g69_30 (rfl) ?_
      refine xT_getfield g_q69 g69_31 hA0 rfl (hm_at g2_ (i := 0) rfl rfl) rfl rfl ?_
      refine xT_iaload g_q69 g69_34 hrl0 (hm_c g2_ crl) (ixN (n := 12) (by omega) nrl) (ixG (by omega) (erl _ (by omega))) ?_
      refine xT_istore_n g_q69 g69_35 (by decide) ?_
      refine xT_aload_n g_q69 g69_36 (lkN (by decide) (rfl)) ?_
      refine xT_getfield g_q69 g69_37 hA0 rfl (hm_at g2_ (i := 0) rfl rfl) rfl rfl ?_
      refine xT_getfield g_q69 g69_40 hcA rfl (hm_c g2_ hco) rfl rfl ?_
      refine xT_aload_n g_q69 g69_43 (lkN (by decide) (rfl)) ?_
      refine xT_getfield g_q69 g69_44 hA0 rfl (hm_at g2_ (i := 0) rfl rfl) rfl rfl ?_
      refine xT_iaload g_q69 g69_47 hrr0 (hm_c g2_ crr) (ixN (n := 12) (by omega) nrr) (ixG (by omega) (err _ (by omega))) ?_
      refine xT_istore_n g_q69 g69_48 (by decide) ?_
      refine xT_aload_n g_q69 g69_49 (lkN (by decide) (lkN (by decide) (rfl))) ?_
      refine xT_getfield g_q69 g69_50 hA0 rfl (hm_at g2_ (i := 0) rfl rfl) rfl rfl ?_
      refine xT_getfield g_q69 g69_53 hcA rfl (hm_c g2_ hco) rfl rfl ?_
      refine xT_aload_n g_q69 g69_56 (lkN (by decide) (lkN (by decide) (rfl))) ?_
      refine xT_getfield g_q69 g69_57 hA0 rfl (hm_at g2_ (i := 0) rfl rfl) rfl rfl ?_
      refine xT_iaload g_q69 g69_60 hrn0 (hm_c g2_ crn) (ixN (n := 12) (by omega) nrn) (ixG (by omega) (ern _ (by omega))) ?_
      refine xT_istore_n g_q69 g69_61 (by decide) ?_
      refine xT_aload_n g_q69 g69_62 (lkN (by decide) (lkN (by decide) (lkN (by decide) (rfl)))) ?_
      refine xT_getfield g_q69 g69_63 hA0 rfl (hm_at g2_ (i := 0) rfl rfl) rfl rfl ?_
      refine xT_icV (y := nI (1)) g_q69 g69_66 (by decide) ?_
      refine xT_iaddV (y := nI (l + 1)) g_q69 g69_67 (bAddN _ _) ?_
      refine xT_istore g_q69 g69_68 (by decide) ?_
      refine xT_aload_n g_q69 g69_70 (lkN (by decide) (lkN (by decide) (lkN (by decide) (lkN (by decide) (rfl))))) ?_
      refine xT_getfield g_q69 g69_71 hA0 rfl (hm_at g2_ (i := 0) rfl rfl) rfl rfl ?_
      refine xT_getfield g_q69 g69_74 hcA rfl (hm_c g2_ hco) rfl rfl ?_
      refine xT_aload_n g_q69 g69_77 (lkN (by decide) (lkN (by decide) (lkN (by decide) (lkN (by decide) (rfl))))) ?_
      refine xT_getfield g_q69 g69_78 hA0 rfl (hm_at g2_ (i := 0) rfl rfl) rfl rfl ?_
      refine xT_iaload g_q69 g69_81 hro0 (hm_c g2_ cro) (ixN (n := 12) (by omega) nro) (ixG (by omega) (ero _ (by omega))) ?_
      refine xT_tableswitch g_q69 g69_82 (t := 356) (by decide) (by decide) (by rw [hz]; decide) ?_
      refine xT_iload_n g_q69 g69_356 (lkN (by decide) (lkY)) ?_
      refine xT_istore g_q69 g69_357 (by decide) ?_
      refine xT_goto g_q69 g69_359 (t := 367) (by decide) ?_
      refine xT_aload_n g_q69 g69_367 (lkN (by decide) (lkN (by decide) (lkN (by decide) (lkN (by decide) (lkN (by decide) (rfl)))))) ?_
      refine xT_invokevirtual (r := []) (u := some (.inl (nI (0)))) g_q69 g69_368 (j := 68) (so := 0) (by decide +kernel) g_q68 rfl (by rw [x_rcM hA0 (hm_at g2_ (i := 0) rfl rfl)]; rfl) (t68r hA0 hA2 g2_) ?_
      refine xT_ifCondN g_q69 g69_371 (t := 380) (by decide) (c1N (b := 0) rfl) ?_
      refine xT_aload_n g_q69 g69_374 (lkN (by decide) (lkN (by decide) (lkN (by decide) (lkN (by decide) (lkN (by decide) (rfl)))))) ?_
      refine xT_iload g_q69 g69_375 (lkY) ?_
      refine xT_invokevirtual (r := []) (u := none) g_q69 g69_377 (j := 81) (so := 0) (by decide +kernel) g_q81 rfl (by rw [x_rcM hA0 (hm_at g2_ (i := 0) rfl rfl)]; rfl) (y3_) ?_
      exact xT_return_ g_q69 g69_380 (rfl)
    obtain ⟨H2, y, hh⟩ := key
    refine ⟨H2, y, ?_⟩
    rw [stM_9 (s := (nu_, l, x, d, -1, os, ov)) hz]
    exact ⟨_, _, _, _, _, hh, fun _ => rfl, hnl, hnf, hol, hof⟩
  · have hz : pOp p l = 10 := hz
    have key : ∃ H2, x_To x_tb x_tyl ot (dp + 3) 69 0 (x_en 0 [.inr (some (R))]) [] H 0 0 none H2 ∧ hm H0 H2 [R, nu, ob, oi] [.inl (4, [.inr (some (nu)), .inr (some (sp)), .inr (some (co)), .inr (some (se)), .inr (some (inp)), .inr (some (ob)), .inl (pYr p), .inl (nI l), .inl (nI x), .inl (nI (d + 1)), .inl (nI 0), .inl (nI 0), .inl (lw)]), .inr (0, nf), .inl (5, [.inr (some (oi)), .inl (nI (os))]), .inr (0, of)] := by
      have g1_ : hm H0 _ [R, nu, ob, oi] [.inl (4, [.inr (some (nu)), .inr (some (sp)), .inr (some (co)), .inr (some (se)), .inr (some (inp)), .inr (some (ob)), .inl (pYr p), .inl (nI (l)), .inl (nI (x)), .inl (nI (d)), .inl (-1), .inl (nI (0)), .inl (lw)]), .inr (0, nf), .inl (5, [.inr (some (oi)), .inl (nI (os))]), .inr (0, of)] := hm_set (i := 0) (z2 := .inl (4, ([.inr (some (nu)), .inr (some (sp)), .inr (some (co)), .inr (some (se)), .inr (some (inp)), .inr (some (ob)), .inl (pYr p), .inl (nI (l)), .inl (nI (x)), .inl (nI (d)), .inl (-1), .inl (hw), .inl (lw)]).set 11 (.inl (nI (0))))) h rfl
      have g2_ : hm H0 _ [R, nu, ob, oi] [.inl (4, [.inr (some (nu)), .inr (some (sp)), .inr (some (co)), .inr (some (se)), .inr (some (inp)), .inr (some (ob)), .inl (pYr p), .inl (nI (l)), .inl (nI (x)), .inl (nI (d + 1)), .inl (-1), .inl (nI (0)), .inl (lw)]), .inr (0, nf), .inl (5, [.inr (some (oi)), .inl (nI (os))]), .inr (0, of)] := hm_set (i := 0) (z2 := .inl (4, ([.inr (some (nu)), .inr (some (sp)), .inr (some (co)), .inr (some (se)), .inr (some (inp)), .inr (some (ob)), .inl (pYr p), .inl (nI (l)), .inl (nI (x)), .inl (nI (d)), .inl (-1), .inl (nI (0)), .inl (lw)]).set 9 (.inl (nI (d + 1))))) g1_ rfl
      have g3_ : hm H0 _ [R, nu, ob, oi] [.inl (4, [.inr (some (nu)), .inr (some (sp)), .inr (some (co)), .inr (some (se)), .inr (some (inp)), .inr (some (ob)), .inl (pYr p), .inl (nI (l)), .inl (nI (x)), .inl (nI (d + 1)), .inl (nI (0)), .inl (nI (0)), .inl (lw)]), .inr (0, nf), .inl (5, [.inr (some (oi)), .inl (nI (os))]), .inr (0, of)] := hm_set (i := 0) (z2 := .inl (4, ([.inr (some (nu)), .inr (some (sp)), .inr (some (co)), .inr (some (se)), .inr (some (inp)), .inr (some (ob)), .inl (pYr p), .inl (nI (l)), .inl (nI (x)), .inl (nI (d + 1)), .inl (-1), .inl (nI (0)), .inl (lw)]).set 10 (.inl (nI (0))))) g2_ rfl
      refine ⟨_, ?_, g3_⟩
      refine xT_aload_n g_q69 g69_0 (rfl) ?_
      refine xT_icV (y := nI (0)) g_q69 g69_1 (by decide) ?_
      refine xT_putfield g_q69 g69_2 (ci := 4) (j := 11) rfl (hm_at h (i := 0) rfl rfl) rfl rfl ?_
      refine xT_aload_n g_q69 g69_5 (rfl) ?_
      refine xT_invokevirtual (r := []) (u := some (.inl (nI (0)))) g_q69 g69_6 (j := 68) (so := 0) (by decide +kernel) g_q68 rfl (by rw [x_rcM hA0 (hm_at g1_ (i := 0) rfl rfl)]; rfl) (t68r hA0 hA2 g1_) ?_
      refine xT_ifCondY g_q69 g69_9 (t := 13) (by decide) (c0Y (b := 0) rfl) ?_
      refine xT_aload_n g_q69 g69_13 (rfl) ?_
      refine xT_dup g_q69 g69_14 ?_
      refine xT_getfield g_q69 g69_15 hA0 rfl (hm_at g1_ (i := 0) rfl rfl) rfl rfl ?_
      refine xT_icV (y := nI (1)) g_q69 g69_18 (by decide) ?_
      refine xT_iaddV (y := nI (d + 1)) g_q69 g69_19 (bAddN _ _) ?_
      refine xT_putfield g_q69 g69_20 (ci := 4) (j := 9) rfl (hm_at g1_ (i := 0) rfl rfl) rfl rfl ?_
      refine xT_aload_n g_q69 g69_23 (rfl) ?_
      refine xT_getfield g_q69 g69_24 hA0 rfl (hm_at g2_ (i := 0) rfl rfl) rfl rfl ?_
      refine xT_getfield g_q69 g69_27 hcA rfl (hm_c g2_ hco) rfl rfl ?_
      refine xT_aload_n g_q69 g69_30 (rfl) ?_
      refine xT_getfield g_q69 g69_31 hA0 rfl (hm_at g2_ (i := 0) rfl rfl) rfl rfl ?_
      refine xT_iaload g_q69 g69_34 hrl0 (hm_c g2_ crl) (ixN (n := 12) (by omega) nrl) (ixG (by omega) (erl _ (by omega))) ?_
      refine xT_istore_n g_q69 g69_35 (by decide) ?_
      refine xT_aload_n g_q69 g69_36 (lkN (by decide) (rfl)) ?_
      refine xT_getfield g_q69 g69_37 hA0 rfl (hm_at g2_ (i := 0) rfl rfl) rfl rfl ?_
      refine xT_getfield g_q69 g69_40 hcA rfl (hm_c g2_ hco) rfl rfl ?_
      refine xT_aload_n g_q69 g69_43 (lkN (by decide) (rfl)) ?_
      refine xT_getfield g_q69 g69_44 hA0 rfl (hm_at g2_ (i := 0) rfl rfl) rfl rfl ?_
      refine xT_iaload g_q69 g69_47 hrr0 (hm_c g2_ crr) (ixN (n := 12) (by omega) nrr) (ixG (by omega) (err _ (by omega))) ?_
      refine xT_istore_n g_q69 g69_48 (by decide) ?_
      refine xT_aload_n g_q69 g69_49 (lkN (by decide) (lkN (by decide) (rfl))) ?_
      refine xT_getfield g_q69 g69_50 hA0 rfl (hm_at g2_ (i := 0) rfl rfl) rfl rfl ?_
      refine xT_getfield g_q69 g69_53 hcA rfl (hm_c g2_ hco) rfl rfl ?_
      refine xT_aload_n g_q69 g69_56 (lkN (by decide) (lkN (by decide) (rfl))) ?_
      refine xT_getfield g_q69 g69_57 hA0 rfl (hm_at g2_ (i := 0) rfl rfl) rfl rfl ?_
      refine xT_iaload g_q69 g69_60 hrn0 (hm_c g2_ crn) (ixN (n := 12) (by omega) nrn) (ixG (by omega) (ern _ (by omega))) ?_
      refine xT_istore_n g_q69 g69_61 (by decide) ?_
      refine xT_aload_n g_q69 g69_62 (lkN (by decide) (lkN (by decide) (lkN (by decide) (rfl)))) ?_
      refine xT_getfield g_q69 g69_63 hA0 rfl (hm_at g2_ (i := 0) rfl rfl) rfl rfl ?_
      refine xT_icV (y := nI (1)) g_q69 g69_66 (by decide) ?_
      refine xT_iaddV (y := nI (l + 1)) g_q69 g69_67 (bAddN _ _) ?_
      refine xT_istore g_q69 g69_68 (by decide) ?_
      refine xT_aload_n g_q69 g69_70 (lkN (by decide) (lkN (by decide) (lkN (by decide) (lkN (by decide) (rfl))))) ?_
      refine xT_getfield g_q69 g69_71 hA0 rfl (hm_at g2_ (i := 0) rfl rfl) rfl rfl ?_
      refine xT_getfield g_q69 g69_74 hcA rfl (hm_c g2_ hco) rfl rfl ?_
      refine xT_aload_n g_q69 g69_77 (lkN (by decide) (lkN (by decide) (lkN (by decide) (lkN (by decide) (rfl))))) ?_
      refine xT_getfield g_q69 g69_78 hA0 rfl (hm_at g2_ (i := 0) rfl rfl) rfl rfl ?_
      refine xT_iaload g_q69 g69_81 hro0 (hm_c g2_ cro) (ixN (n := 12) (by omega) nro) (ixG (by omega) (ero _ (by omega))) ?_
      refine xT_tableswitch g_q69 g69_82 (t := 362) (by decide) (by decide) (by rw [hz]; decide) ?_
      refine xT_aload_n g_q69 g69_362 (lkN (by decide) (lkN (by decide) (lkN (by decide) (lkN (by decide) (rfl))))) ?_
      refine xT_icV (y := nI (0)) g_q69 g69_363 (by decide) ?_
      refine xT_putfield g_q69 g69_364 (ci := 4) (j := 10) rfl (hm_at g2_ (i := 0) rfl rfl) rfl rfl ?_
      refine xT_aload_n g_q69 g69_367 (lkN (by decide) (lkN (by decide) (lkN (by decide) (lkN (by decide) (rfl))))) ?_
      refine xT_invokevirtual (r := []) (u := some (.inl (nI (1)))) g_q69 g69_368 (j := 68) (so := 0) (by decide +kernel) g_q68 rfl (by rw [x_rcM hA0 (hm_at g3_ (i := 0) rfl rfl)]; rfl) (t68o hA0 hA2 g3_ (by decide)) ?_
      refine xT_ifCondY g_q69 g69_371 (t := 380) (by decide) (c1Y (a := 1) (b := 0) (by omega) (by omega) (by omega)) ?_
      exact xT_return_ g_q69 g69_380 (rfl)
    obtain ⟨H2, y, hh⟩ := key
    refine ⟨H2, y, ?_⟩
    rw [stM_10 (s := (nu_, l, x, d, -1, os, ov)) hz]
    have e0 : rEn (stG p (nu_, l, x, d, -1, os, ov) 12 x nu_ os ov) = 0 := if_pos h12
    refine ⟨nf, of, nI l, nI 0, lw, ?_, fun z => ?_, hnl, hnf, hol, hof⟩
    · rw [e0]
      exact hh
    · rw [e0] at z
      exact absurd z (by decide)
  · have hz : pOp p l = 11 := hz
    by_cases hq : nu_ (pLf p (l)) = nu_ (pRt p (l))
    · skip
      have key : ∃ H2, x_To x_tb x_tyl ot (dp + 3) 69 0 (x_en 0 [.inr (some (R))]) [] H 0 0 none H2 ∧ hm H0 H2 [R, nu, ob, oi] [.inl (4, [.inr (some (nu)), .inr (some (sp)), .inr (some (co)), .inr (some (se)), .inr (some (inp)), .inr (some (ob)), .inl (pYr p), .inl (nI (pNm p l)), .inl (nI x), .inl (nI (d + 1)), .inl (if pNl p ≤ pNm p l then 0 else if d + 1 = 150 then 2 else -1), .inl (nI 0), .inl (lw)]), .inr (0, nf), .inl (5, [.inr (some (oi)), .inl (nI (os))]), .inr (0, of)] := by
        have g1_ : hm H0 _ [R, nu, ob, oi] [.inl (4, [.inr (some (nu)), .inr (some (sp)), .inr (some (co)), .inr (some (se)), .inr (some (inp)), .inr (some (ob)), .inl (pYr p), .inl (nI (l)), .inl (nI (x)), .inl (nI (d)), .inl (-1), .inl (nI (0)), .inl (lw)]), .inr (0, nf), .inl (5, [.inr (some (oi)), .inl (nI (os))]), .inr (0, of)] := hm_set (i := 0) (z2 := .inl (4, ([.inr (some (nu)), .inr (some (sp)), .inr (some (co)), .inr (some (se)), .inr (some (inp)), .inr (some (ob)), .inl (pYr p), .inl (nI (l)), .inl (nI (x)), .inl (nI (d)), .inl (-1), .inl (hw), .inl (lw)]).set 11 (.inl (nI (0))))) h rfl
        have g2_ : hm H0 _ [R, nu, ob, oi] [.inl (4, [.inr (some (nu)), .inr (some (sp)), .inr (some (co)), .inr (some (se)), .inr (some (inp)), .inr (some (ob)), .inl (pYr p), .inl (nI (l)), .inl (nI (x)), .inl (nI (d + 1)), .inl (-1), .inl (nI (0)), .inl (lw)]), .inr (0, nf), .inl (5, [.inr (some (oi)), .inl (nI (os))]), .inr (0, of)] := hm_set (i := 0) (z2 := .inl (4, ([.inr (some (nu)), .inr (some (sp)), .inr (some (co)), .inr (some (se)), .inr (some (inp)), .inr (some (ob)), .inl (pYr p), .inl (nI (l)), .inl (nI (x)), .inl (nI (d)), .inl (-1), .inl (nI (0)), .inl (lw)]).set 9 (.inl (nI (d + 1))))) g1_ rfl
        obtain ⟨G3, y3_, g3_⟩ := t81 (dp := dp + 2) (next := pNm p (l)) (d := d + 1) hA0 hA2 hC h12 (by omega) (by omega) g2_
        have g3_ : hm H0 G3 [R, nu, ob, oi] [.inl (4, [.inr (some (nu)), .inr (some (sp)), .inr (some (co)), .inr (some (se)), .inr (some (inp)), .inr (some (ob)), .inl (pYr p), .inl (nI (pNm p (l))), .inl (nI (x)), .inl (nI (d + 1)), .inl ((if pNl p ≤ pNm p (l) then 0 else if d + 1 = 150 then 2 else -1)), .inl (nI (0)), .inl (lw)]), .inr (0, nf), .inl (5, [.inr (some (oi)), .inl (nI (os))]), .inr (0, of)] := g3_
        refine ⟨_, ?_, g3_⟩
        refine xT_aload_n g_q69 g69_0 (rfl) ?_
        refine xT_icV (y := nI (0)) g_q69 g69_1 (by decide) ?_
        refine xT_putfield g_q69 g69_2 (ci := 4) (j := 11) rfl (hm_at h (i := 0) rfl rfl) rfl rfl ?_
        refine xT_aload_n g_q69 g69_5 (rfl) ?_
        refine xT_invokevirtual (r := []) (u := some (.inl (nI (0)))) g_q69 g69_6 (j := 68) (so := 0) (by decide +kernel) g_q68 rfl (by rw [x_rcM hA0 (hm_at g1_ (i := 0) rfl rfl)]; rfl) (t68r hA0 hA2 g1_) ?_
        refine xT_ifCondY g_q69 g69_9 (t := 13) (by decide) (c0Y (b := 0) rfl) ?_
        refine xT_aload_n g_q69 g69_13 (rfl) ?_
        refine xT_dup g_q69 g69_14 ?_
        refine xT_getfield g_q69 g69_15 hA0 rfl (hm_at g1_ (i := 0) rfl rfl) rfl rfl ?_
        refine xT_icV (y := nI (1)) g_q69 g69_18 (by decide) ?_
        refine xT_iaddV (y := nI (d + 1)) g_q69 g69_19 (bAddN _ _) ?_
        refine xT_putfield g_q69 g69_20 (ci := 4) (j := 9) rfl (hm_at g1_ (i := 0) rfl rfl) rfl rfl ?_
        refine xT_aload_n g_q69 g69_23 (rfl) ?_
        refine xT_getfield g_q69 g69_24 hA0 rfl (hm_at g2_ (i := 0) rfl rfl) rfl rfl ?_
        refine xT_getfield g_q69 g69_27 hcA rfl (hm_c g2_ hco) rfl rfl ?_
        refine xT_aload_n g_q69 g69_30 (rfl) ?_
        refine xT_getfield g_q69 g69_31 hA0 rfl (hm_at g2_ (i := 0) rfl rfl) rfl rfl ?_
        refine xT_iaload g_q69 g69_34 hrl0 (hm_c g2_ crl) (ixN (n := 12) (by omega) nrl) (ixG (by omega) (erl _ (by omega))) ?_
        refine xT_istore_n g_q69 g69_35 (by decide) ?_
        refine xT_aload_n g_q69 g69_36 (lkN (by decide) (rfl)) ?_
        refine xT_getfield g_q69 g69_37 hA0 rfl (hm_at g2_ (i := 0) rfl rfl) rfl rfl ?_
        refine xT_getfield g_q69 g69_40 hcA rfl (hm_c g2_ hco) rfl rfl ?_
        refine xT_aload_n g_q69 g69_43 (lkN (by decide) (rfl)) ?_
        refine xT_getfield g_q69 g69_44 hA0 rfl (hm_at g2_ (i := 0) rfl rfl) rfl rfl ?_
        refine xT_iaload g_q69 g69_47 hrr0 (hm_c g2_ crr) (ixN (n := 12) (by omega) nrr) (ixG (by omega) (err _ (by omega))) ?_
        refine xT_istore_n g_q69 g69_48 (by decide) ?_
        refine xT_aload_n g_q69 g69_49 (lkN (by decide) (lkN (by decide) (rfl))) ?_
        refine xT_getfield g_q69 g69_50 hA0 rfl (hm_at g2_ (i := 0) rfl rfl) rfl rfl ?_
        refine xT_getfield g_q69 g69_53 hcA rfl (hm_c g2_ hco) rfl rfl ?_
        refine xT_aload_n g_q69 g69_56 (lkN (by decide) (lkN (by decide) (rfl))) ?_
        refine xT_getfield g_q69 g69_57 hA0 rfl (hm_at g2_ (i := 0) rfl rfl) rfl rfl ?_
        refine xT_iaload g_q69 g69_60 hrn0 (hm_c g2_ crn) (ixN (n := 12) (by omega) nrn) (ixG (by omega) (ern _ (by omega))) ?_
        refine xT_istore_n g_q69 g69_61 (by decide) ?_
        refine xT_aload_n g_q69 g69_62 (lkN (by decide) (lkN (by decide) (lkN (by decide) (rfl)))) ?_
        refine xT_getfield g_q69 g69_63 hA0 rfl (hm_at g2_ (i := 0) rfl rfl) rfl rfl ?_
        refine xT_icV (y := nI (1)) g_q69 g69_66 (by decide) ?_
        refine xT_iaddV (y := nI (l + 1)) g_q69 g69_67 (bAddN _ _) ?_
        refine xT_istore g_q69 g69_68 (by decide) ?_
        refine xT_aload_n g_q69 g69_70 (lkN (by decide) (lkN (by decide) (lkN (by decide) (lkN (by decide) (rfl))))) ?_
        refine xT_getfield g_q69 g69_71 hA0 rfl (hm_at g2_ (i := 0) rfl rfl) rfl rfl ?_
        refine xT_getfield g_q69 g69_74 hcA rfl (hm_c g2_ hco) rfl rfl ?_
        refine xT_aload_n g_q69 g69_77 (lkN (by decide) (lkN (by decide) (lkN (by decide) (lkN (by decide) (rfl))))) ?_
        refine xT_getfield g_q69 g69_78 hA0 rfl (hm_at g2_ (i := 0) rfl rfl) rfl rfl ?_
        refine xT_iaload g_q69 g69_81 hro0 (hm_c g2_ cro) (ixN (n := 12) (by omega) nro) (ixG (by omega) (ero _ (by omega))) ?_
        refine xT_tableswitch g_q69 g69_82 (t := 306) (by decide) (by decide) (by rw [hz]; decide) ?_
        refine xT_aload_n g_q69 g69_306 (lkN (by decide) (lkN (by decide) (lkN (by decide) (lkN (by decide) (rfl))))) ?_
        refine xT_iload_n g_q69 g69_307 (lkN (by decide) (lkN (by decide) (lkN (by decide) (lkY)))) ?_
        refine xT_invokevirtual (r := []) (u := some (.inl ((nu_ (pLf p (l)))))) g_q69 g69_308 (j := 76) (so := 0) (by decide +kernel) g_q76 rfl (by rw [x_rcM hA0 (hm_at g2_ (i := 0) rfl rfl)]; rfl) (t76 (dp := dp + 1) hA0 hA2 hN1 hN3 hnl hol hS hnf (by omega) g2_) ?_
        refine xT_aload_n g_q69 g69_311 (lkN (by decide) (lkN (by decide) (lkN (by decide) (lkN (by decide) (rfl))))) ?_
        refine xT_iload_n g_q69 g69_312 (lkN (by decide) (lkN (by decide) (lkY))) ?_
        refine xT_invokevirtual (r := [.inl ((nu_ (pLf p (l))))]) (u := some (.inl ((nu_ (pRt p (l)))))) g_q69 g69_313 (j := 76) (so := 0) (by decide +kernel) g_q76 rfl (by rw [x_rcM hA0 (hm_at g2_ (i := 0) rfl rfl)]; rfl) (t76 (dp := dp + 1) hA0 hA2 hN1 hN3 hnl hol hS hnf (by omega) g2_) ?_
        refine xT_if_icmpN g_q69 g69_316 (t := 323) (by decide) (decide_eq_false (fun z => z hq)) ?_
        refine xT_iload_n g_q69 g69_319 (lkN (by decide) (lkY)) ?_
        refine xT_goto g_q69 g69_320 (t := 325) (by decide) ?_
        refine xT_istore g_q69 g69_325 (by decide) ?_
        refine xT_goto g_q69 g69_327 (t := 367) (by decide) ?_
        refine xT_aload_n g_q69 g69_367 (lkN (by decide) (lkN (by decide) (lkN (by decide) (lkN (by decide) (lkN (by decide) (rfl)))))) ?_
        refine xT_invokevirtual (r := []) (u := some (.inl (nI (0)))) g_q69 g69_368 (j := 68) (so := 0) (by decide +kernel) g_q68 rfl (by rw [x_rcM hA0 (hm_at g2_ (i := 0) rfl rfl)]; rfl) (t68r hA0 hA2 g2_) ?_
        refine xT_ifCondN g_q69 g69_371 (t := 380) (by decide) (c1N (b := 0) rfl) ?_
        refine xT_aload_n g_q69 g69_374 (lkN (by decide) (lkN (by decide) (lkN (by decide) (lkN (by decide) (lkN (by decide) (rfl)))))) ?_
        refine xT_iload g_q69 g69_375 (lkY) ?_
        refine xT_invokevirtual (r := []) (u := none) g_q69 g69_377 (j := 81) (so := 0) (by decide +kernel) g_q81 rfl (by rw [x_rcM hA0 (hm_at g2_ (i := 0) rfl rfl)]; rfl) (y3_) ?_
        exact xT_return_ g_q69 g69_380 (rfl)
      obtain ⟨H2, y, hh⟩ := key
      refine ⟨H2, y, ?_⟩
      rw [stM_11 (s := (nu_, l, x, d, -1, os, ov)) hz, if_pos (show nu_ (pLf p (l)) = nu_ (pRt p (l)) from hq)]
      exact ⟨_, _, _, _, _, hh, fun _ => rfl, hnl, hnf, hol, hof⟩
    · skip
      have key : ∃ H2, x_To x_tb x_tyl ot (dp + 3) 69 0 (x_en 0 [.inr (some (R))]) [] H 0 0 none H2 ∧ hm H0 H2 [R, nu, ob, oi] [.inl (4, [.inr (some (nu)), .inr (some (sp)), .inr (some (co)), .inr (some (se)), .inr (some (inp)), .inr (some (ob)), .inl (pYr p), .inl (nI (l + 1)), .inl (nI x), .inl (nI (d + 1)), .inl (if pNl p ≤ l + 1 then 0 else if d + 1 = 150 then 2 else -1), .inl (nI 0), .inl (lw)]), .inr (0, nf), .inl (5, [.inr (some (oi)), .inl (nI (os))]), .inr (0, of)] := by
        have g1_ : hm H0 _ [R, nu, ob, oi] [.inl (4, [.inr (some (nu)), .inr (some (sp)), .inr (some (co)), .inr (some (se)), .inr (some (inp)), .inr (some (ob)), .inl (pYr p), .inl (nI (l)), .inl (nI (x)), .inl (nI (d)), .inl (-1), .inl (nI (0)), .inl (lw)]), .inr (0, nf), .inl (5, [.inr (some (oi)), .inl (nI (os))]), .inr (0, of)] := hm_set (i := 0) (z2 := .inl (4, ([.inr (some (nu)), .inr (some (sp)), .inr (some (co)), .inr (some (se)), .inr (some (inp)), .inr (some (ob)), .inl (pYr p), .inl (nI (l)), .inl (nI (x)), .inl (nI (d)), .inl (-1), .inl (hw), .inl (lw)]).set 11 (.inl (nI (0))))) h rfl
        have g2_ : hm H0 _ [R, nu, ob, oi] [.inl (4, [.inr (some (nu)), .inr (some (sp)), .inr (some (co)), .inr (some (se)), .inr (some (inp)), .inr (some (ob)), .inl (pYr p), .inl (nI (l)), .inl (nI (x)), .inl (nI (d + 1)), .inl (-1), .inl (nI (0)), .inl (lw)]), .inr (0, nf), .inl (5, [.inr (some (oi)), .inl (nI (os))]), .inr (0, of)] := hm_set (i := 0) (z2 := .inl (4, ([.inr (some (nu)), .inr (some (sp)), .inr (some (co)), .inr (some (se)), .inr (some (inp)), .inr (some (ob)), .inl (pYr p), .inl (nI (l)), .inl (nI (x)), .inl (nI (d)), .inl (-1), .inl (nI (0)), .inl (lw)]).set 9 (.inl (nI (d + 1))))) g1_ rfl
        obtain ⟨G3, y3_, g3_⟩ := t81 (dp := dp + 2) (next := l + 1) (d := d + 1) hA0 hA2 hC h12 (by omega) (by omega) g2_
        have g3_ : hm H0 G3 [R, nu, ob, oi] [.inl (4, [.inr (some (nu)), .inr (some (sp)), .inr (some (co)), .inr (some (se)), .inr (some (inp)), .inr (some (ob)), .inl (pYr p), .inl (nI (l + 1)), .inl (nI (x)), .inl (nI (d + 1)), .inl ((if pNl p ≤ l + 1 then 0 else if d + 1 = 150 then 2 else -1)), .inl (nI (0)), .inl (lw)]), .inr (0, nf), .inl (5, [.inr (some (oi)), .inl (nI (os))]), .inr (0, of)] := g3_
        refine ⟨_, ?_, g3_⟩
        refine xT_aload_n g_q69 g69_0 (rfl) ?_
        refine xT_icV (y := nI (0)) g_q69 g69_1 (by decide) ?_
        refine xT_putfield g_q69 g69_2 (ci := 4) (j := 11) rfl (hm_at h (i := 0) rfl rfl) rfl rfl ?_
        refine xT_aload_n g_q69 g69_5 (rfl) ?_
        refine xT_invokevirtual (r := []) (u := some (.inl (nI (0)))) g_q69 g69_6 (j := 68) (so := 0) (by decide +kernel) g_q68 rfl (by rw [x_rcM hA0 (hm_at g1_ (i := 0) rfl rfl)]; rfl) (t68r hA0 hA2 g1_) ?_
        refine xT_ifCondY g_q69 g69_9 (t := 13) (by decide) (c0Y (b := 0) rfl) ?_
        refine xT_aload_n g_q69 g69_13 (rfl) ?_
        refine xT_dup g_q69 g69_14 ?_
        refine xT_getfield g_q69 g69_15 hA0 rfl (hm_at g1_ (i := 0) rfl rfl) rfl rfl ?_
        refine xT_icV (y := nI (1)) g_q69 g69_18 (by decide) ?_
        refine xT_iaddV (y := nI (d + 1)) g_q69 g69_19 (bAddN _ _) ?_
        refine xT_putfield g_q69 g69_20 (ci := 4) (j := 9) rfl (hm_at g1_ (i := 0) rfl rfl) rfl rfl ?_
        refine xT_aload_n g_q69 g69_23 (rfl) ?_
        refine xT_getfield g_q69 g69_24 hA0 rfl (hm_at g2_ (i := 0) rfl rfl) rfl rfl ?_
        refine xT_getfield g_q69 g69_27 hcA rfl (hm_c g2_ hco) rfl rfl ?_
        refine xT_aload_n g_q69 g69_30 (rfl) ?_
        refine xT_getfield g_q69 g69_31 hA0 rfl (hm_at g2_ (i := 0) rfl rfl) rfl rfl ?_
        refine xT_iaload g_q69 g69_34 hrl0 (hm_c g2_ crl) (ixN (n := 12) (by omega) nrl) (ixG (by omega) (erl _ (by omega))) ?_
        refine xT_istore_n g_q69 g69_35 (by decide) ?_
        refine xT_aload_n g_q69 g69_36 (lkN (by decide) (rfl)) ?_
        refine xT_getfield g_q69 g69_37 hA0 rfl (hm_at g2_ (i := 0) rfl rfl) rfl rfl ?_
        refine xT_getfield g_q69 g69_40 hcA rfl (hm_c g2_ hco) rfl rfl ?_
        refine xT_aload_n g_q69 g69_43 (lkN (by decide) (rfl)) ?_
        refine xT_getfield g_q69 g69_44 hA0 rfl (hm_at g2_ (i := 0) rfl rfl) rfl rfl ?_
        refine xT_iaload g_q69 g69_47 hrr0 (hm_c g2_ crr) (ixN (n := 12) (by omega) nrr) (ixG (by omega) (err _ (by omega))) ?_
        refine xT_istore_n g_q69 g69_48 (by decide) ?_
        refine xT_aload_n g_q69 g69_49 (lkN (by decide) (lkN (by decide) (rfl))) ?_
        refine xT_getfield g_q69 g69_50 hA0 rfl (hm_at g2_ (i := 0) rfl rfl) rfl rfl ?_
        refine xT_getfield g_q69 g69_53 hcA rfl (hm_c g2_ hco) rfl rfl ?_
        refine xT_aload_n g_q69 g69_56 (lkN (by decide) (lkN (by decide) (rfl))) ?_
        refine xT_getfield g_q69 g69_57 hA0 rfl (hm_at g2_ (i := 0) rfl rfl) rfl rfl ?_
        refine xT_iaload g_q69 g69_60 hrn0 (hm_c g2_ crn) (ixN (n := 12) (by omega) nrn) (ixG (by omega) (ern _ (by omega))) ?_
        refine xT_istore_n g_q69 g69_61 (by decide) ?_
        refine xT_aload_n g_q69 g69_62 (lkN (by decide) (lkN (by decide) (lkN (by decide) (rfl)))) ?_
        refine xT_getfield g_q69 g69_63 hA0 rfl (hm_at g2_ (i := 0) rfl rfl) rfl rfl ?_
        refine xT_icV (y := nI (1)) g_q69 g69_66 (by decide) ?_
        refine xT_iaddV (y := nI (l + 1)) g_q69 g69_67 (bAddN _ _) ?_
        refine xT_istore g_q69 g69_68 (by decide) ?_
        refine xT_aload_n g_q69 g69_70 (lkN (by decide) (lkN (by decide) (lkN (by decide) (lkN (by decide) (rfl))))) ?_
        refine xT_getfield g_q69 g69_71 hA0 rfl (hm_at g2_ (i := 0) rfl rfl) rfl rfl ?_
        refine xT_getfield g_q69 g69_74 hcA rfl (hm_c g2_ hco) rfl rfl ?_
        refine xT_aload_n g_q69 g69_77 (lkN (by decide) (lkN (by decide) (lkN (by decide) (lkN (by decide) (rfl))))) ?_
        refine xT_getfield g_q69 g69_78 hA0 rfl (hm_at g2_ (i := 0) rfl rfl) rfl rfl ?_
        refine xT_iaload g_q69 g69_81 hro0 (hm_c g2_ cro) (ixN (n := 12) (by omega) nro) (ixG (by omega) (ero _ (by omega))) ?_
        refine xT_tableswitch g_q69 g69_82 (t := 306) (by decide) (by decide) (by rw [hz]; decide) ?_
        refine xT_aload_n g_q69 g69_306 (lkN (by decide) (lkN (by decide) (lkN (by decide) (lkN (by decide) (rfl))))) ?_
        refine xT_iload_n g_q69 g69_307 (lkN (by decide) (lkN (by decide) (lkN (by decide) (lkY)))) ?_
        refine xT_invokevirtual (r := []) (u := some (.inl ((nu_ (pLf p (l)))))) g_q69 g69_308 (j := 76) (so := 0) (by decide +kernel) g_q76 rfl (by rw [x_rcM hA0 (hm_at g2_ (i := 0) rfl rfl)]; rfl) (t76 (dp := dp + 1) hA0 hA2 hN1 hN3 hnl hol hS hnf (by omega) g2_) ?_
        refine xT_aload_n g_q69 g69_311 (lkN (by decide) (lkN (by decide) (lkN (by decide) (lkN (by decide) (rfl))))) ?_
        refine xT_iload_n g_q69 g69_312 (lkN (by decide) (lkN (by decide) (lkY))) ?_
        refine xT_invokevirtual (r := [.inl ((nu_ (pLf p (l))))]) (u := some (.inl ((nu_ (pRt p (l)))))) g_q69 g69_313 (j := 76) (so := 0) (by decide +kernel) g_q76 rfl (by rw [x_rcM hA0 (hm_at g2_ (i := 0) rfl rfl)]; rfl) (t76 (dp := dp + 1) hA0 hA2 hN1 hN3 hnl hol hS hnf (by omega) g2_) ?_
        refine xT_if_icmpY g_q69 g69_316 (t := 323) (by decide) (decide_eq_true hq) ?_
        refine xT_iload g_q69 g69_323 (lkY) ?_
        refine xT_istore g_q69 g69_325 (by decide) ?_
        refine xT_goto g_q69 g69_327 (t := 367) (by decide) ?_
        refine xT_aload_n g_q69 g69_367 (lkN (by decide) (lkN (by decide) (lkN (by decide) (lkN (by decide) (lkN (by decide) (rfl)))))) ?_
        refine xT_invokevirtual (r := []) (u := some (.inl (nI (0)))) g_q69 g69_368 (j := 68) (so := 0) (by decide +kernel) g_q68 rfl (by rw [x_rcM hA0 (hm_at g2_ (i := 0) rfl rfl)]; rfl) (t68r hA0 hA2 g2_) ?_
        refine xT_ifCondN g_q69 g69_371 (t := 380) (by decide) (c1N (b := 0) rfl) ?_
        refine xT_aload_n g_q69 g69_374 (lkN (by decide) (lkN (by decide) (lkN (by decide) (lkN (by decide) (lkN (by decide) (rfl)))))) ?_
        refine xT_iload g_q69 g69_375 (lkY) ?_
        refine xT_invokevirtual (r := []) (u := none) g_q69 g69_377 (j := 81) (so := 0) (by decide +kernel) g_q81 rfl (by rw [x_rcM hA0 (hm_at g2_ (i := 0) rfl rfl)]; rfl) (y3_) ?_
        exact xT_return_ g_q69 g69_380 (rfl)
      obtain ⟨H2, y, hh⟩ := key
      refine ⟨H2, y, ?_⟩
      rw [stM_11 (s := (nu_, l, x, d, -1, os, ov)) hz, if_neg (show ¬ (nu_ (pLf p (l)) = nu_ (pRt p (l))) from hq)]
      exact ⟨_, _, _, _, _, hh, fun _ => rfl, hnl, hnf, hol, hof⟩
end XH33_15
