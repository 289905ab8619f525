/-! p33 by hand, 16. -/
noncomputable section XH33_16
variable {ot : XO Int32} {dp : Nat} {H H0 : List (XC Int32)}
theorem t58z {R nu ob oi : Nat} {z0 z1 z3 : XC Int32} {bs : XV Int32} (hA0 : ¬ 1000000 < R) (hA2 : ¬ 1000000 < ob) (h : hm H0 H [R, nu, ob, oi] [z0, z1, .inl (5, [.inr (some oi), bs]), z3]) : ∃ H2, x_To x_tb x_tyl ot dp 58 0 (x_en 0 [.inr (some (ob))]) [] H 0 0 none H2 ∧ hm H0 H2 [R, nu, ob, oi] [z0, z1, .inl (5, [.inr (some oi), .inl (nI 0)]), z3] := by
  have g1_ : hm H0 _ [R, nu, ob, oi] [z0, z1, .inl (5, [.inr (some oi), .inl (nI 0)]), z3] := hm_set (i := 2) (z2 := .inl (5, ([.inr (some oi), bs]).set 1 (.inl (nI 0)))) h rfl
  refine ⟨_, ?_, g1_⟩
  refine xT_aload_n g_q58 g58_0 (rfl) ?_
  refine xT_icV (y := nI (0)) g_q58 g58_1 (by decide) ?_
  refine xT_putfield g_q58 g58_2 (ci := 5) (j := 1) rfl (hm_at h (i := 2) rfl rfl) rfl rfl ?_
  exact xT_return_ g_q58 g58_5 (rfl)
end XH33_16
/-! p33 by hand, 17. -/
noncomputable section XH33_17
variable {ot : XO Int32} {dp : Nat} {H H0 : List (XC Int32)}
theorem t66 {R nu ob oi sp co se inp : Nat} {p : rP} {nf of : List (XV Int32)} {c2 c3 c4 c5 c6 c7 c8 c9 c10 bs : XV Int32} {hw lw : Int32} (hA0 : ¬ 1000000 < R) (hA2 : ¬ 1000000 < ob) (hN1 : ¬ nu = 1000000) (hN3 : ¬ oi = 1000000) (hC : cC H0 [R, nu, ob, oi] co p) (h0 : 0 < pNl p) (h12 : pNl p ≤ 12) (hnl : nf.length = 6) (hol : of.length = 12) (h : hm H0 H [R, nu, ob, oi] [.inl (4, [.inr (some (nu)), .inr (some (sp)), (c2), (c3), (c4), (c5), (c6), (c7), (c8), (c9), (c10), .inl (hw), .inl (lw)]), .inr (0, nf), .inl (5, [.inr (some (oi)), (bs)]), .inr (0, of)]) : ∃ H2, x_To x_tb x_tyl ot (dp + 1) 66 0 (x_en 0 [.inr (some R), .inr (some co), .inr (some se), .inr (some inp), .inr (some ob), .inl (pYr p)]) [] H 0 0 none H2 ∧ cN H0 H2 R nu ob oi sp co se inp p rs0 := by
  obtain ⟨hcA, ro, rl, rr, rn, hco, ⟨hro0, lro, cro, nro, ero⟩, ⟨hrl0, lrl, crl, nrl, erl⟩, ⟨hrr0, lrr, crr, nrr, err⟩, ⟨hrn0, lrn, crn, nrn, ern⟩⟩ := id hC
  have key : ∃ H2, x_To x_tb x_tyl ot (dp + 1) 66 0 (x_en 0 [.inr (some R), .inr (some co), .inr (some se), .inr (some inp), .inr (some ob), .inl (pYr p)]) [] H 0 0 none H2 ∧ hm H0 H2 [R, nu, ob, oi] [.inl (4, [.inr (some (nu)), .inr (some (sp)), .inr (some (co)), .inr (some (se)), .inr (some (inp)), .inr (some (ob)), .inl (pYr p), .inl (nI (0)), .inl (nI (0)), .inl (nI (0)), .inl (-1), .inl (hw), .inl (lw)]), .inr (0, ((((((nf).set (0) (.inl (nI (0)))).set (0 + 1) (.inl (nI (0)))).set (0 + 1 + 1) (.inl (nI (0)))).set (0 + 1 + 1 + 1) (.inl (nI (0)))).set (0 + 1 + 1 + 1 + 1) (.inl (nI (0)))).set (0 + 1 + 1 + 1 + 1 + 1) (.inl (nI (0)))), .inl (5, [.inr (some (oi)), .inl (nI (0))]), .inr (0, of)] := by
    have g1_ : hm H0 _ [R, nu, ob, oi] [.inl (4, [.inr (some (nu)), .inr (some (sp)), .inr (some (co)), (c3), (c4), (c5), (c6), (c7), (c8), (c9), (c10), .inl (hw), .inl (lw)]), .inr (0, nf), .inl (5, [.inr (some (oi)), (bs)]), .inr (0, of)] := hm_set (i := 0) (z2 := .inl (4, ([.inr (some (nu)), .inr (some (sp)), (c2), (c3), (c4), (c5), (c6), (c7), (c8), (c9), (c10), .inl (hw), .inl (lw)]).set 2 (.inr (some (co))))) h rfl
    have g2_ : hm H0 _ [R, nu, ob, oi] [.inl (4, [.inr (some (nu)), .inr (some (sp)), .inr (some (co)), .inr (some (se)), (c4), (c5), (c6), (c7), (c8), (c9), (c10), .inl (hw), .inl (lw)]), .inr (0, nf), .inl (5, [.inr (some (oi)), (bs)]), .inr (0, of)] := hm_set (i := 0) (z2 := .inl (4, ([.inr (some (nu)), .inr (some (sp)), .inr (some (co)), (c3), (c4), (c5), (c6), (c7), (c8), (c9), (c10), .inl (hw), .inl (lw)]).set 3 (.inr (some (se))))) g1_ rfl
    have g3_ : hm H0 _ [R, nu, ob, oi] [.inl (4, [.inr (some (nu)), .inr (some (sp)), .inr (some (co)), .inr (some (se)), .inr (some (inp)), (c5), (c6), (c7), (c8), (c9), (c10), .inl (hw), .inl (lw)]), .inr (0, nf), .inl (5, [.inr (some (oi)), (bs)]), .inr (0, of)] := hm_set (i := 0) (z2 := .inl (4, ([.inr (some (nu)), .inr (some (sp)), .inr (some (co)), .inr (some (se)), (c4), (c5), (c6), (c7), (c8), (c9), (c10), .inl (hw), .inl (lw)]).set 4 (.inr (some (inp))))) g2_ rfl
    have g4_ : hm H0 _ [R, nu, ob, oi] [.inl (4, [.inr (some (nu)), .inr (some (sp)), .inr (some (co)), .inr (some (se)), .inr (some (inp)), .inr (some (ob)), (c6), (c7), (c8), (c9), (c10), .inl (hw), .inl (lw)]), .inr (0, nf), .inl (5, [.inr (some (oi)), (bs)]), .inr (0, of)] := hm_set (i := 0) (z2 := .inl (4, ([.inr (some (nu)), .inr (some (sp)), .inr (some (co)), .inr (some (se)), .inr (some (inp)), (c5), (c6), (c7), (c8), (c9), (c10), .inl (hw), .inl (lw)]).set 5 (.inr (some (ob))))) g3_ rfl
    have g5_ : hm H0 _ [R, nu, ob, oi] [.inl (4, [.inr (some (nu)), .inr (some (sp)), .inr (some (co)), .inr (some (se)), .inr (some (inp)), .inr (some (ob)), .inl (pYr p), (c7), (c8), (c9), (c10), .inl (hw), .inl (lw)]), .inr (0, nf), .inl (5, [.inr (some (oi)), (bs)]), .inr (0, of)] := hm_set (i := 0) (z2 := .inl (4, ([.inr (some (nu)), .inr (some (sp)), .inr (some (co)), .inr (some (se)), .inr (some (inp)), .inr (some (ob)), (c6), (c7), (c8), (c9), (c10), .inl (hw), .inl (lw)]).set 6 (.inl (pYr p)))) g4_ rfl
    have g6_ : hm H0 _ [R, nu, ob, oi] [.inl (4, [.inr (some (nu)), .inr (some (sp)), .inr (some (co)), .inr (some (se)), .inr (some (inp)), .inr (some (ob)), .inl (pYr p), .inl (nI (0)), (c8), (c9), (c10), .inl (hw), .inl (lw)]), .inr (0, nf), .inl (5, [.inr (some (oi)), (bs)]), .inr (0, of)] := hm_set (i := 0) (z2 := .inl (4, ([.inr (some (nu)), .inr (some (sp)), .inr (some (co)), .inr (some (se)), .inr (some (inp)), .inr (some (ob)), .inl (pYr p), (c7), (c8), (c9), (c10), .inl (hw), .inl (lw)]).set 7 (.inl (nI (0))))) g5_ rfl
    have g7_ : hm H0 _ [R, nu, ob, oi] [.inl (4, [.inr (some (nu)), .inr (some (sp)), .inr (some (co)), .inr (some (se)), .inr (some (inp)), .inr (some (ob)), .inl (pYr p), .inl (nI (0)), .inl (nI (0)), (c9), (c10), .inl (hw), .inl (lw)]), .inr (0, nf), .inl (5, [.inr (some (oi)), (bs)]), .inr (0, of)] := hm_set (i := 0) (z2 := .inl (4, ([.inr (some (nu)), .inr (some (sp)), .inr (some (co)), .inr (some (se)), .inr (some (inp)), .inr (some (ob)), .inl (pYr p), .inl (nI (0)), (c8), (c9), (c10), .inl (hw), .inl (lw)]).set 8 (.inl (nI (0))))) g6_ rfl
    have g8_ : hm H0 _ [R, nu, ob, oi] [.inl (4, [.inr (some (nu)), .inr (some (sp)), .inr (some (co)), .inr (some (se)), .inr (some (inp)), .inr (some (ob)), .inl (pYr p), .inl (nI (0)), .inl (nI (0)), .inl (nI (0)), (c10), .inl (hw), .inl (lw)]), .inr (0, nf), .inl (5, [.inr (some (oi)), (bs)]), .inr (0, of)] := hm_set (i := 0) (z2 := .inl (4, ([.inr (some (nu)), .inr (some (sp)), .inr (some (co)), .inr (some (se)), .inr (some (inp)), .inr (some (ob)), .inl (pYr p), .inl (nI (0)), .inl (nI (0)), (c9), (c10), .inl (hw), .inl (lw)]).set 9 (.inl (nI (0))))) g7_ rfl
    have g9_ : hm H0 _ [R, nu, ob, oi] [.inl (4, [.inr (some (nu)), .inr (some (sp)), .inr (some (co)), .inr (some (se)), .inr (some (inp)), .inr (some (ob)), .inl (pYr p), .inl (nI (0)), .inl (nI (0)), .inl (nI (0)), .inl (-1), .inl (hw), .inl (lw)]), .inr (0, nf), .inl (5, [.inr (some (oi)), (bs)]), .inr (0, of)] := hm_set (i := 0) (z2 := .inl (4, ([.inr (some (nu)), .inr (some (sp)), .inr (some (co)), .inr (some (se)), .inr (some (inp)), .inr (some (ob)), .inl (pYr p), .inl (nI (0)), .inl (nI (0)), .inl (nI (0)), (c10), .inl (hw), .inl (lw)]).set 10 (.inl (-1)))) g8_ rfl
    obtain ⟨G10, y10_, g10_⟩ := t58z hA0 hA2 g9_
    have g10_ : hm H0 G10 [R, nu, ob, oi] [.inl (4, [.inr (some (nu)), .inr (some (sp)), .inr (some (co)), .inr (some (se)), .inr (some (inp)), .inr (some (ob)), .inl (pYr p), .inl (nI (0)), .inl (nI (0)), .inl (nI (0)), .inl (-1), .inl (hw), .inl (lw)]), .inr (0, nf), .inl (5, [.inr (some (oi)), .inl (nI (0))]), .inr (0, of)] := g10_
    have g11_ : hm H0 _ [R, nu, ob, oi] [.inl (4, [.inr (some (nu)), .inr (some (sp)), .inr (some (co)), .inr (some (se)), .inr (some (inp)), .inr (some (ob)), .inl (pYr p), .inl (nI (0)), .inl (nI (0)), .inl (nI (0)), .inl (-1), .inl (hw), .inl (lw)]), .inr (0, (nf).set (0) (.inl (nI (0)))), .inl (5, [.inr (some (oi)), .inl (nI (0))]), .inr (0, of)] := hm_set (i := 1) (z2 := .inr (0, (nf).set (0) (.inl (nI (0))))) g10_ rfl
    have g12_ : hm H0 _ [R, nu, ob, oi] [.inl (4, [.inr (some (nu)), .inr (some (sp)), .inr (some (co)), .inr (some (se)), .inr (some (inp)), .inr (some (ob)), .inl (pYr p), .inl (nI (0)), .inl (nI (0)), .inl (nI (0)), .inl (-1), .inl (hw), .inl (lw)]), .inr (0, ((nf).set (0) (.inl (nI (0)))).set (0 + 1) (.inl (nI (0)))), .inl (5, [.inr (some (oi)), .inl (nI (0))]), .inr (0, of)] := hm_set (i := 1) (z2 := .inr (0, ((nf).set (0) (.inl (nI (0)))).set (0 + 1) (.inl (nI (0))))) g11_ rfl
    have g13_ : hm H0 _ [R, nu, ob, oi] [.inl (4, [.inr (some (nu)), .inr (some (sp)), .inr (some (co)), .inr (some (se)), .inr (some (inp)), .inr (some (ob)), .inl (pYr p), .inl (nI (0)), .inl (nI (0)), .inl (nI (0)), .inl (-1), .inl (hw), .inl (lw)]), .inr (0, (((nf).set (0) (.inl (nI (0)))).set (0 + 1) (.inl (nI (0)))).set (0 + 1 + 1) (.inl (nI (0)))), .inl (5, [.inr (some (oi)), .inl (nI (0))]), .inr (0, of)] := hm_set (i := 1) (z2 := .inr (0, (((nf).set (0) (.inl (nI (0)))).set (0 + 1) (.inl (nI (0)))).set (0 + 1 + 1) (.inl (nI (0))))) g12_ rfl
    have g14_ : hm H0 _ [R, nu, ob, oi] [.inl (4, [.inr (some (nu)), .inr (some (sp)), .inr (some (co)), .inr (some (se)), .inr (some (inp)), .inr (some (ob)), .inl (pYr p), .inl (nI (0)), .inl (nI (0)), .inl (nI (0)), .inl (-1), .inl (hw), .inl (lw)]), .inr (0, ((((nf).set (0) (.inl (nI (0)))).set (0 + 1) (.inl (nI (0)))).set (0 + 1 + 1) (.inl (nI (0)))).set (0 + 1 + 1 + 1) (.inl (nI (0)))), .inl (5, [.inr (some (oi)), .inl (nI (0))]), .inr (0, of)] := hm_set (i := 1) (z2 := .inr (0, ((((nf).set (0) (.inl (nI (0)))).set (0 + 1) (.inl (nI (0)))).set (0 + 1 + 1) (.inl (nI (0)))).set (0 + 1 + 1 + 1) (.inl (nI (0))))) g13_ rfl
    have g15_ : hm H0 _ [R, nu, ob, oi] [.inl (4, [.inr (some (nu)), .inr (some (sp)), .inr (some (co)), .inr (some (se)), .inr (some (inp)), .inr (some (ob)), .inl (pYr p), .inl (nI (0)), .inl (nI (0)), .inl (nI (0)), .inl (-1), .inl (hw), .inl (lw)]), .inr (0, (((((nf).set (0) (.inl (nI (0)))).set (0 + 1) (.inl (nI (0)))).set (0 + 1 + 1) (.inl (nI (0)))).set (0 + 1 + 1 + 1) (.inl (nI (0)))).set (0 + 1 + 1 + 1 + 1) (.inl (nI (0)))), .inl (5, [.inr (some (oi)), .inl (nI (0))]), .inr (0, of)] := hm_set (i := 1) (z2 := .inr (0, (((((nf).set (0) (.inl (nI (0)))).set (0 + 1) (.inl (nI (0)))).set (0 + 1 + 1) (.inl (nI (0)))).set (0 + 1 + 1 + 1) (.inl (nI (0)))).set (0 + 1 + 1 + 1 + 1) (.inl (nI (0))))) g14_ rfl
    have g16_ : hm H0 _ [R, nu, ob, oi] [.inl (4, [.inr (some (nu)), .inr (some (sp)), .inr (some (co)), .inr (some (se)), .inr (some (inp)), .inr (some (ob)), .inl (pYr p), .inl (nI (0)), .inl (nI (0)), .inl (nI (0)), .inl (-1), .inl (hw), .inl (lw)]), .inr (0, ((((((nf).set (0) (.inl (nI (0)))).set (0 + 1) (.inl (nI (0)))).set (0 + 1 + 1) (.inl (nI (0)))).set (0 + 1 + 1 + 1) (.inl (nI (0)))).set (0 + 1 + 1 + 1 + 1) (.inl (nI (0)))).set (0 + 1 + 1 + 1 + 1 + 1) (.inl (nI (0)))), .inl (5, [.inr (some (oi)), .inl (nI (0))]), .inr (0, of)] := hm_set (i := 1) (z2 := .inr (0, ((((((nf).set (0) (.inl (nI (0)))).set (0 + 1) (.inl (nI (0)))).set (0 + 1 + 1) (.inl (nI (0)))).set (0 + 1 + 1 + 1) (.inl (nI (0)))).set (0 + 1 + 1 + 1 + 1) (.inl (nI (0)))).set (0 + 1 + 1 + 1 + 1 + 1) (.inl (nI (0))))) g15_ rfl
    refine ⟨_, ?_, g16_⟩
    refine xT_aload_n g_q66 g66_0 (rfl) ?_
    refine xT_aload_n g_q66 g66_1 (rfl) ?_
    refine xT_putfield g_q66 g66_2 (ci := 4) (j := 2) rfl (hm_at h (i := 0) rfl rfl) rfl rfl ?_
    refine xT_aload_n g_q66 g66_5 (rfl) ?_
    refine xT_aload_n g_q66 g66_6 (rfl) ?_
    refine xT_putfield g_q66 g66_7 (ci := 4) (j := 3) rfl (hm_at g1_ (i := 0) rfl rfl) rfl rfl ?_
    refine xT_aload_n g_q66 g66_10 (rfl) ?_
    refine xT_aload_n g_q66 g66_11 (rfl) ?_
    refine xT_putfield g_q66 g66_12 (ci := 4) (j := 4) rfl (hm_at g2_ (i := 0) rfl rfl) rfl rfl ?_
    refine xT_aload_n g_q66 g66_15 (rfl) ?_
    refine xT_aload g_q66 g66_16 (rfl) ?_
    refine xT_putfield g_q66 g66_18 (ci := 4) (j := 5) rfl (hm_at g3_ (i := 0) rfl rfl) rfl rfl ?_
    refine xT_aload_n g_q66 g66_21 (rfl) ?_
    refine xT_iload g_q66 g66_22 (rfl) ?_
    refine xT_putfield g_q66 g66_24 (ci := 4) (j := 6) rfl (hm_at g4_ (i := 0) rfl rfl) rfl rfl ?_
    refine xT_aload_n g_q66 g66_27 (rfl) ?_
    refine xT_icV (y := nI (0)) g_q66 g66_28 (by decide) ?_
    refine xT_putfield g_q66 g66_29 (ci := 4) (j := 7) rfl (hm_at g5_ (i := 0) rfl rfl) rfl rfl ?_
    refine xT_aload_n g_q66 g66_32 (rfl) ?_
    refine xT_icV (y := nI (0)) g_q66 g66_33 (by decide) ?_
    refine xT_putfield g_q66 g66_34 (ci := 4) (j := 8) rfl (hm_at g6_ (i := 0) rfl rfl) rfl rfl ?_
    refine xT_aload_n g_q66 g66_37 (rfl) ?_
    refine xT_icV (y := nI (0)) g_q66 g66_38 (by decide) ?_
    refine xT_putfield g_q66 g66_39 (ci := 4) (j := 9) rfl (hm_at g7_ (i := 0) rfl rfl) rfl rfl ?_
    refine xT_aload_n g_q66 g66_42 (rfl) ?_
    refine xT_aload_n g_q66 g66_43 (rfl) ?_
    refine xT_getfield g_q66 g66_44 hA0 rfl (hm_at g8_ (i := 0) rfl rfl) rfl rfl ?_
    refine xT_getfield g_q66 g66_47 hcA rfl (hm_c g8_ hco) rfl rfl ?_
    refine xT_ifCondN g_q66 g66_50 (t := 57) (by decide) (c5N (a := pNl p) (b := 0) (by omega) (by omega) (by omega)) ?_
    refine xT_icV (y := -1) g_q66 g66_53 (by decide) ?_
    refine xT_goto g_q66 g66_54 (t := 58) (by decide) ?_
    refine xT_putfield g_q66 g66_58 (ci := 4) (j := 10) rfl (hm_at g8_ (i := 0) rfl rfl) rfl rfl ?_
    refine xT_aload_n g_q66 g66_61 (rfl) ?_
    refine xT_getfield g_q66 g66_62 hA0 rfl (hm_at g9_ (i := 0) rfl rfl) rfl rfl ?_
    refine xT_invokevirtual (r := []) (u := none) g_q66 g66_65 (j := 58) (so := 0) (by decide +kernel) g_q58 rfl (by rw [x_rcM hA2 (hm_at g9_ (i := 2) rfl rfl)]; rfl) (y10_) ?_
    refine xT_icV (y := nI (0)) g_q66 g66_68 (by decide) ?_
    refine xT_istore g_q66 g66_69 (by decide) ?_
    refine xT_iload g_q66 g66_71 (lkY) ?_
    refine xT_biV (y := nI (6)) g_q66 g66_73 (by decide) ?_
    refine xT_if_icmpN g_q66 g66_75 (t := 92) (by decide) (c3N (a := 0) (b := 6) (by omega) (by omega) (by omega)) ?_
    refine xT_aload_n g_q66 g66_78 (lkN (by decide) (rfl)) ?_
    refine xT_getfield g_q66 g66_79 hA0 rfl (hm_at g10_ (i := 0) rfl rfl) rfl rfl ?_
    refine xT_iload g_q66 g66_82 (lkY) ?_
    refine xT_icV (y := nI (0)) g_q66 g66_84 (by decide) ?_
    refine xT_iastore g_q66 g66_85 (hm_at g10_ (i := 1) rfl rfl) (ixN (n := 6) (by omega) hnl) ?_
    rw [nI_clamp (by omega)]
    refine xT_iincV (y := nI (0 + 1)) g_q66 g66_86 (lkY) (by decide) (bIncN _) ?_
    refine xT_goto g_q66 g66_89 (t := 71) (by decide) ?_
    refine xT_iload g_q66 g66_71 (lkY) ?_
    refine xT_biV (y := nI (6)) g_q66 g66_73 (by decide) ?_
    refine xT_if_icmpN g_q66 g66_75 (t := 92) (by decide) (c3N (a := 0 + 1) (b := 6) (by omega) (by omega) (by omega)) ?_
    refine xT_aload_n g_q66 g66_78 (lkN (by decide) (lkN (by decide) (rfl))) ?_
    refine xT_getfield g_q66 g66_79 hA0 rfl (hm_at g11_ (i := 0) rfl rfl) rfl rfl ?_
    refine xT_iload g_q66 g66_82 (lkY) ?_
    refine xT_icV (y := nI (0)) g_q66 g66_84 (by decide) ?_
    refine xT_iastore g_q66 g66_85 (hm_at g11_ (i := 1) rfl rfl) (ixN (n := 6) (by omega) (by rw [List.length_set]; exact hnl)) ?_
    rw [nI_clamp (by omega)]
    refine xT_iincV (y := nI (0 + 1 + 1)) g_q66 g66_86 (lkY) (by decide) (bIncN _) ?_
    refine xT_goto g_q66 g66_89 (t := 71) (by decide) ?_
    refine xT_iload g_q66 g66_71 (lkY) ?_
    refine xT_biV (y := nI (6)) g_q66 g66_73 (by decide) ?_
    refine xT_if_icmpN g_q66 g66_75 (t := 92) (by decide) (c3N (a := 0 + 1 + 1) (b := 6) (by omega) (by omega) (by omega)) ?_
    refine xT_aload_n g_q66 g66_78 (lkN (by decide) (lkN (by decide) (lkN (by decide) (rfl)))) ?_
    refine xT_getfield g_q66 g66_79 hA0 rfl (hm_at g12_ (i := 0) rfl rfl) rfl rfl ?_
    refine xT_iload g_q66 g66_82 (lkY) ?_
    refine xT_icV (y := nI (0)) g_q66 g66_84 (by decide) ?_
    refine xT_iastore g_q66 g66_85 (hm_at g12_ (i := 1) rfl rfl) (ixN (n := 6) (by omega) (by rw [List.length_set, List.length_set]; exact hnl)) ?_
    rw [nI_clamp (by omega)]
    refine xT_iincV (y := nI (0 + 1 + 1 + 1)) g_q66 g66_86 (lkY) (by decide) (bIncN _) ?_
    refine xT_goto g_q66 g66_89 (t := 71) (by decide) ?_
    refine xT_iload g_q66 g66_71 (lkY) ?_
    refine xT_biV (y := nI (6)) g_q66 g66_73 (by decide) ?_
    refine xT_if_icmpN g_q66 g66_75 (t := 92) (by decide) (c3N (a := 0 + 1 + 1 + 1) (b := 6) (by omega) (by omega) (by omega)) ?_
    refine xT_aload_n g_q66 g66_78 (lkN (by decide) (lkN (by decide) (lkN (by decide) (lkN (by decide) (rfl))))) ?_
    refine xT_getfield g_q66 g66_79 hA0 rfl (hm_at g13_ (i := 0) rfl rfl) rfl rfl ?_
    refine xT_iload g_q66 g66_82 (lkY) ?_
    refine xT_icV (y := nI (0)) g_q66 g66_84 (by decide) ?_
    refine xT_iastore g_q66 g66_85 (hm_at g13_ (i := 1) rfl rfl) (ixN (n := 6) (by omega) (by rw [List.length_set, List.length_set, List.length_set]; exact hnl)) ?_
    rw [nI_clamp (by omega)]
    refine xT_iincV (y := nI (0 + 1 + 1 + 1 + 1)) g_q66 g66_86 (lkY) (by decide) (bIncN _) ?_
    refine xT_goto g_q66 g66_89 (t := 71) (by decide) ?_
    refine xT_iload g_q66 g66_71 (lkY) ?_
    refine xT_biV (y := nI (6)) g_q66 g66_73 (by decide) ?_
    refine xT_if_icmpN g_q66 g66_75 (t := 92) (by decide) (c3N (a := 0 + 1 + 1 + 1 + 1) (b := 6) (by omega) (by omega) (by omega)) ?_
    refine xT_aload_n g_q66 g66_78 (lkN (by decide) (lkN (by decide) (lkN (by decide) (lkN (by decide) (lkN (by decide) (rfl)))))) ?_
    refine xT_getfield g_q66 g66_79 hA0 rfl (hm_at g14_ (i := 0) rfl rfl) rfl rfl ?_
    refine xT_iload g_q66 g66_82 (lkY) ?_
    refine xT_icV (y := nI (0)) g_q66 g66_84 (by decide) ?_
    refine xT_iastore g_q66 g66_85 (hm_at g14_ (i := 1) rfl rfl) (ixN (n := 6) (by omega) (by rw [List.length_set, List.length_set, List.length_set, List.length_set]; exact hnl)) ?_
    rw [nI_clamp (by omega)]
    refine xT_iincV (y := nI (0 + 1 + 1 + 1 + 1 + 1)) g_q66 g66_86 (lkY) (by decide) (bIncN _) ?_
    refine xT_goto g_q66 g66_89 (t := 71) (by decide) ?_
    refine xT_iload g_q66 g66_71 (lkY) ?_
    refine xT_biV (y := nI (6)) g_q66 g66_73 (by decide) ?_
    refine xT_if_icmpN g_q66 g66_75 (t := 92) (by decide) (c3N (a := 0 + 1 + 1 + 1 + 1 + 1) (b := 6) (by omega) (by omega) (by omega)) ?_
    refine xT_aload_n g_q66 g66_78 (lkN (by decide) (lkN (by decide) (lkN (by decide) (lkN (by decide) (lkN (by decide) (lkN (by decide) (rfl))))))) ?_
    refine xT_getfield g_q66 g66_79 hA0 rfl (hm_at g15_ (i := 0) rfl rfl) rfl rfl ?_
    refine xT_iload g_q66 g66_82 (lkY) ?_
    refine xT_icV (y := nI (0)) g_q66 g66_84 (by decide) ?_
    refine xT_iastore g_q66 g66_85 (hm_at g15_ (i := 1) rfl rfl) (ixN (n := 6) (by omega) (by rw [List.length_set, List.length_set, List.length_set, List.length_set, List.length_set]; exact hnl)) ?_
    rw [nI_clamp (by omega)]
    refine xT_iincV (y := nI (0 + 1 + 1 + 1 + 1 + 1 + 1)) g_q66 g66_86 (lkY) (by decide) (bIncN _) ?_
    refine xT_goto g_q66 g66_89 (t := 71) (by decide) ?_
    refine xT_iload g_q66 g66_71 (lkY) ?_
    refine xT_biV (y := nI (6)) g_q66 g66_73 (by decide) ?_
    refine xT_if_icmpY g_q66 g66_75 (t := 92) (by decide) (c3Y (a := 0 + 1 + 1 + 1 + 1 + 1 + 1) (b := 6) (by omega) (by omega) (by omega)) ?_
    exact xT_return_ g_q66 g66_92 (rfl)
  obtain ⟨H2, y, hh⟩ := key
  have n1 : ∀ k, k < 6 → (((((((nf).set (0) (.inl (nI (0)))).set (0 + 1) (.inl (nI (0)))).set (0 + 1 + 1) (.inl (nI (0)))).set (0 + 1 + 1 + 1) (.inl (nI (0)))).set (0 + 1 + 1 + 1 + 1) (.inl (nI (0)))).set (0 + 1 + 1 + 1 + 1 + 1) (.inl (nI (0))))[k]? = some (.inl (0 : Int32)) := fun k hk => by
    rcases nf with _ | ⟨a0, _ | ⟨a1, _ | ⟨a2, _ | ⟨a3, _ | ⟨a4, _ | ⟨a5, _ | ⟨a6, nf⟩⟩⟩⟩⟩⟩⟩
    rotate_left 6
    · rcases (show k = 0 ∨ k = 1 ∨ k = 2 ∨ k = 3 ∨ k = 4 ∨ k = 5 by omega) with rfl | rfl | rfl | rfl | rfl | rfl
      all_goals rfl
    all_goals exact absurd hnl (by simp)
  exact ⟨H2, y, _, of, nI 0, hw, lw, hh, fun _ => rfl, by rw [List.length_set, List.length_set, List.length_set, List.length_set, List.length_set, List.length_set]; exact hnl, n1, hol, fun k hk => absurd hk (Nat.not_lt_zero _)⟩
end XH33_17
/-! p33 by hand, 18. -/
noncomputable section XH33_18
variable {ot : XO Int32} {dp : Nat} {H H0 : List (XC Int32)}
theorem t116_l {R nu ob oi sp co se inp : Nat} {p : rP} (hA0 : ¬ 1000000 < R) (hA2 : ¬ 1000000 < ob) (hN1 : ¬ nu = 1000000) (hN3 : ¬ oi = 1000000) (hC : cC H0 [R, nu, ob, oi] co p) (hS : cS H0 [R, nu, ob, oi] se p) (hI : cI H0 [R, nu, ob, oi] inp p) (hok : pOk p) : ∀ (k n : Nat) (s : rS) (H : List (XC Int32)) (L : List (Nat × XV Int32)), n + k = 150 → rOk p s → cN H0 H R nu ob oi sp co se inp p s → x_lk L 0 = some (.inr (some (R))) → x_lk L 1 = some (.inl (nI (n))) → ∃ H2, x_To x_tb x_tyl ot (dp + 4) 116 2 L [] H 0 0 (some (.inl (rEn (runM p k s)))) H2 ∧ cN H0 H2 R nu ob oi sp co se inp p (runM p k s) := by
  intro k
  induction k with
  | zero =>
    intro n s H L hn hs hN l0 l1
    obtain rfl : n = 150 := by omega
    obtain ⟨nf, of, ln, hw, lw, h, hl, hnl, hnf, hol, hof⟩ := id hN
    refine ⟨H, ?_, hN⟩
    rw [show runM p 0 s = s from rfl]
    refine xT_iload_n g_q116 g116_2 (l1) ?_
    refine xT_siV (y := nI (150)) g_q116 g116_3 (by decide) ?_
    refine xT_if_icmpY g_q116 g116_6 (t := 26) (by decide) (c3Y (a := 150) (b := 150) (by omega) (by omega) (by omega)) ?_
    refine xT_aload_n g_q116 g116_26 (l0) ?_
    refine xT_getfield g_q116 g116_27 hA0 rfl (hm_at h (i := 0) rfl rfl) rfl rfl ?_
    exact xT_ireturn g_q116 g116_30 (rfl)
  | succ k ih =>
    intro n s H L hn hs hN l0 l1
    obtain ⟨nf, of, ln, hw, lw, h, hl, hnl, hnf, hol, hof⟩ := id hN
    by_cases hr : rEn s = -1
    · rw [show runM p (k + 1) s = runM p k (stM p s) from if_pos hr]
      obtain ⟨H1, y, hM1⟩ := t69 (dp := dp) (ot := ot) hA0 hA2 hN1 hN3 hC hS hI hok hs hr hN
      obtain ⟨H2, y2, hN2⟩ := ih (n + 1) (stM p s) H1 (x_st (L) 1 (.inl (nI (n + 1)))) (by omega) (stM_ok hs hr) hM1 (lkN (by decide) (l0)) (lkY)
      refine ⟨H2, ?_, hN2⟩
      rw [hr] at h
      refine xT_iload_n g_q116 g116_2 (l1) ?_
      refine xT_siV (y := nI (150)) g_q116 g116_3 (by decide) ?_
      refine xT_if_icmpN g_q116 g116_6 (t := 26) (by decide) (c3N (a := n) (b := 150) (by omega) (by omega) (by omega)) ?_
      refine xT_aload_n g_q116 g116_9 (l0) ?_
      refine xT_invokevirtual (r := []) (u := some (.inl (nI (0)))) g_q116 g116_10 (j := 68) (so := 0) (by decide +kernel) g_q68 rfl (by rw [x_rcM hA0 (hm_at h (i := 0) rfl rfl)]; rfl) (t68r hA0 hA2 h) ?_
      refine xT_ifCondN g_q116 g116_13 (t := 26) (by decide) (c1N (b := 0) rfl) ?_
      refine xT_aload_n g_q116 g116_16 (l0) ?_
      refine xT_invokevirtual (r := []) (u := none) g_q116 g116_17 (j := 69) (so := 0) (by decide +kernel) g_q69 rfl (by rw [x_rcM hA0 (hm_at h (i := 0) rfl rfl)]; rfl) (y) ?_
      refine xT_iincV (y := nI (n + 1)) g_q116 g116_20 (l1) (by decide) (bIncN _) ?_
      refine xT_goto g_q116 g116_23 (t := 2) (by decide) ?_
      exact y2
    · rw [show runM p (k + 1) s = s from if_neg hr]
      refine ⟨H, ?_, hN⟩
      refine xT_iload_n g_q116 g116_2 (l1) ?_
      refine xT_siV (y := nI (150)) g_q116 g116_3 (by decide) ?_
      refine xT_if_icmpN g_q116 g116_6 (t := 26) (by decide) (c3N (a := n) (b := 150) (by omega) (by omega) (by omega)) ?_
      refine xT_aload_n g_q116 g116_9 (l0) ?_
      refine xT_invokevirtual (r := []) (u := some (.inl (nI (1)))) g_q116 g116_10 (j := 68) (so := 0) (by decide +kernel) g_q68 rfl (by rw [x_rcM hA0 (hm_at h (i := 0) rfl rfl)]; rfl) (t68o hA0 hA2 h hr) ?_
      refine xT_ifCondY g_q116 g116_13 (t := 26) (by decide) (c1Y (a := 1) (b := 0) (by omega) (by omega) (by omega)) ?_
      refine xT_aload_n g_q116 g116_26 (l0) ?_
      refine xT_getfield g_q116 g116_27 hA0 rfl (hm_at h (i := 0) rfl rfl) rfl rfl ?_
      exact xT_ireturn g_q116 g116_30 (rfl)
theorem t116 {R nu ob oi sp co se inp : Nat} {p : rP} (hA0 : ¬ 1000000 < R) (hA2 : ¬ 1000000 < ob) (hN1 : ¬ nu = 1000000) (hN3 : ¬ oi = 1000000) (hC : cC H0 [R, nu, ob, oi] co p) (hS : cS H0 [R, nu, ob, oi] se p) (hI : cI H0 [R, nu, ob, oi] inp p) (hok : pOk p) (hN : cN H0 H R nu ob oi sp co se inp p rs0) : ∃ H2, x_To x_tb x_tyl ot (dp + 4) 116 0 (x_en 0 [.inr (some (R))]) [] H 0 0 (some (.inl (rEn (runR p)))) H2 ∧ cN H0 H2 R nu ob oi sp co se inp p (runR p) := by
  obtain ⟨H2, y, hN2⟩ := t116_l (dp := dp) (ot := ot) hA0 hA2 hN1 hN3 hC hS hI hok 150 0 rs0 H (x_st (x_en 0 [.inr (some (R))]) 1 (.inl (nI (0)))) rfl (rs0_ok hok.1) hN (lkN (by decide) rfl) lkY
  refine ⟨H2, ?_, hN2⟩
  refine xT_icV (y := nI (0)) g_q116 g116_0 (by decide) ?_
  refine xT_istore_n g_q116 g116_1 (by decide) ?_
  exact y
end XH33_18
/-! p33 by hand, 19. -/
noncomputable section XH33_19
variable {ot : XO Int32} {dp : Nat} {H H0 : List (XC Int32)}
/-- the reference's fields, as far as runs read them -/
def rG (gs : List (XV Int32)) (ln cd ip sh shs fi fz tw tz fo pc tk dn en wo ws la : Nat) : Prop := gs[1]? = some (.inr (some ln)) ∧ gs[2]? = some (.inr (some cd)) ∧ gs[6]? = some (.inr (some ip)) ∧ gs[11]? = some (.inr (some sh)) ∧ gs[12]? = some (.inr (some shs)) ∧ gs[13]? = some (.inr (some fi)) ∧ gs[14]? = some (.inr (some fz)) ∧ gs[15]? = some (.inr (some tw)) ∧ gs[16]? = some (.inr (some tz)) ∧ gs[50]? = some (.inr (some fo)) ∧ gs[51]? = some (.inr (some pc)) ∧ gs[52]? = some (.inr (some tk)) ∧ gs[53]? = some (.inr (some dn)) ∧ gs[54]? = some (.inr (some en)) ∧ gs[55]? = some (.inr (some wo)) ∧ gs[56]? = some (.inr (some ws)) ∧ gs[57]? = some (.inr (some la)) ∧ 58 < gs.length
/-- a row of rows, one of them told -/
def rQ (H0 : List (XC Int32)) (As : List Nat) (r ty len i x : Nat) : Prop := ∃ l, c3R H0 As r (.inr (ty, l)) ∧ l.length = len ∧ l[i]? = some (.inr (some x))
/-- a row of ints, one of them told -/
def rI (H0 : List (XC Int32)) (As : List Nat) (r len i : Nat) (x : Int32) : Prop := ¬ r = 1000000 ∧ ∃ l, c3R H0 As r (.inr (0, l)) ∧ l.length = len ∧ l[i]? = some (.inl x)
/-- its code of a program -/
def rC (H0 : List (XC Int32)) (As : List Nat) (ln cd q : Nat) (p : rP) : Prop := (∃ D, rQ H0 As cd 5 13 q D ∧ ¬ D = 1000000 ∧ ∃ w, c3R H0 As D (.inr (0, w)) ∧ w.length = 48 ∧ ∀ l, l < pNl p → w[4 * l]? = some (.inl (nI (opR (pOp p l)))) ∧ (pOp p l ≠ 9 → pOp p l ≠ 10 → w[4 * l + 1]? = some (.inl (nI (pLf p l)))) ∧ ((pOp p l = 4 ∨ pOp p l = 5 ∨ pOp p l = 6 ∨ pOp p l = 7 ∨ pOp p l = 11) → w[4 * l + 2]? = some (.inl (nI (pRt p l)))) ∧ ((pOp p l = 3 ∨ pOp p l = 7 ∨ pOp p l = 8 ∨ pOp p l = 9 ∨ pOp p l = 11) → w[4 * l + 3]? = some (.inl (nI (pNm p l))))) ∧ rI H0 As ln 13 q (nI (pNl p))
/-- how it cuts numbers: t 1: not at all -/
def rT (H0 : List (XC Int32)) (As : List Nat) (gs : List (XV Int32)) (q t : Nat) (p : rP) : Prop := (t = 1 ∧ pCut p = (fun v => v) ∧ pLp p = lpB 2) ∨ (t = 0 ∧ pCut p = fmI ∧ (pLp p = fun v => lpB 0 (if v < nI 100 then x_bin 0 (nI 1900) v else v)) ∧ ∃ dg pv ru dr pr, gs[3]? = some (.inr (some dg)) ∧ gs[4]? = some (.inr (some pv)) ∧ gs[5]? = some (.inr (some ru)) ∧ rQ H0 As dg 5 12 q dr ∧ rQ H0 As pv 5 12 q pr ∧ c3W H0 As dr 6 (fun _ => nI 2) 6 ∧ c3W H0 As pr 6 (fun _ => -1) 6 ∧ rI H0 As ru 12 q (nI 0))
/-- its input -/
def rN (H0 : List (XC Int32)) (As : List Nat) (ip sh shs rw sz q : Nat) (p : rP) : Prop := (rI H0 As ip 12 q (-1) ∧ rI H0 As shs 12 q (nI (pNi p)) ∧ ∃ r w, rQ H0 As sh 5 12 q r ∧ ¬ r = 1000000 ∧ c3R H0 As r (.inr (0, w)) ∧ w.length = 12 ∧ ∀ k, k < pNi p → ∃ x : Int32, w[k]? = some (.inl x) ∧ pIv p k = if x = -1 then 0 else x) ∨ ∃ s, s < 12 ∧ rI H0 As ip 12 q (nI s) ∧ rI H0 As sz 12 s (nI (pNi p)) ∧ ∃ r, rQ H0 As rw 5 12 s r ∧ c3W H0 As r 12 (pIv p) (pNi p)
end XH33_19
/-! p33 by hand, 20. -/
noncomputable section XH33_20
variable {ot : XO Int32} {dp : Nat} {H H0 : List (XC Int32)}
theorem t199 {v : Int32} : x_To x_tb x_tyl ot dp 199 0 (x_en 0 [.inl (v), .inl (nI (2)), .inl (-1)]) [] H 0 0 (some (.inl v)) H := by
  refine xT_iload_n g_q199 g199_0 (rfl) ?_
  refine xT_icV (y := nI (2)) g_q199 g199_1 (by decide) ?_
  refine xT_if_icmpN g_q199 g199_2 (t := 30) (by decide) (c1N (a := 2) (b := 2) rfl) ?_
  refine xT_iload_n g_q199 g199_5 (rfl) ?_
  refine xT_ifCondY g_q199 g199_6 (t := 30) (by decide) ((by decide +kernel)) ?_
  refine xT_iload_n g_q199 g199_30 (rfl) ?_
  exact xT_ireturn g_q199 g199_31 (rfl)
theorem t206_0 {b F0 F1 ln cd ip sh shs fi fz tw tz fo pc tk dn en wo ws la W0 W1 q : Nat} {gs f0 f1 w0 w1 : List (XV Int32)} {p : rP} {a0 a1 b0 b1 c0 c1 d0 d1 e0 e1 h0 h1 : Int32} (hA0 : ¬ 1000000 < b) (hN1 : ¬ F0 = 1000000) (hN2 : ¬ F1 = 1000000) (hN3 : ¬ pc = 1000000) (hN4 : ¬ tk = 1000000) (hN5 : ¬ dn = 1000000) (hN6 : ¬ en = 1000000) (hN7 : ¬ W0 = 1000000) (hN8 : ¬ W1 = 1000000) (hN9 : ¬ ws = 1000000) (hN10 : ¬ la = 1000000) (hl0 : f0.length = 6) (hl1 : f1.length = 6) (hm0 : w0.length = 12) (hm1 : w1.length = 12) (hG : rG gs ln cd ip sh shs fi fz tw tz fo pc tk dn en wo ws la) (hfo : rQ H0 [b, F0, F1, pc, tk, dn, en, W0, W1, ws, la] fo 5 2 0 F0 ∧ rQ H0 [b, F0, F1, pc, tk, dn, en, W0, W1, ws, la] fo 5 2 1 F1) (hwo : rQ H0 [b, F0, F1, pc, tk, dn, en, W0, W1, ws, la] wo 5 2 0 W0 ∧ rQ H0 [b, F0, F1, pc, tk, dn, en, W0, W1, ws, la] wo 5 2 1 W1) (hq : q < 12) (hT : rT H0 [b, F0, F1, pc, tk, dn, en, W0, W1, ws, la] gs q 0 p) (h : hm H0 H [b, F0, F1, pc, tk, dn, en, W0, W1, ws, la] [.inl (12, gs), .inr (0, f0), .inr (0, f1), .inr (0, [.inl (a0), .inl (a1)]), .inr (0, [.inl (b0), .inl (b1)]), .inr (0, [.inl (c0), .inl (c1)]), .inr (0, [.inl (d0), .inl (d1)]), .inr (0, w0), .inr (0, w1), .inr (0, [.inl (e0), .inl (e1)]), .inr (0, [.inl (h0), .inl (h1)])]) {f : Nat} (hf : f < 6) {v : Int32} : x_To x_tb x_tyl ot (dp + 1) 206 0 (x_en 0 [.inr (some (b)), .inl (nI (q)), .inl (nI (f)), .inl (v), .inl (nI (0))]) [] H 0 0 (some (.inl (pCut p v))) H := by
  obtain ⟨g1, g2, g6, g11, g12, g13, g14, g15, g16, g50, g51, g52, g53, g54, g55, g56, g57, g58⟩ := id hG
  obtain ⟨z, -⟩ | ⟨-, hcut, hlp, dg, pv, ru, dr, pr, g3, g4, g5, ⟨ldg, cdg, ndg, edg⟩, ⟨lpv, cpv, npv, epv⟩, ⟨hdr0, ldr, cdr, ndr, edr⟩, ⟨hpr0, lpr, cpr, npr, epr⟩, ⟨hru0, lru, cru, nru, eru⟩⟩ := id hT
  · exact absurd z (by decide)
  rw [hcut]
  refine xT_iload g_q206 g206_0 (rfl) ?_
  refine xT_icV (y := nI (1)) g_q206 g206_2 (by decide) ?_
  refine xT_if_icmpY g_q206 g206_3 (t := 10) (by decide) (c1Y (a := 0) (b := 1) (by omega) (by omega) (by omega)) ?_
  refine xT_iload_n g_q206 g206_10 (rfl) ?_
  refine xT_aload_n g_q206 g206_11 (rfl) ?_
  refine xT_getfield g_q206 g206_12 hA0 rfl (hm_at h (i := 0) rfl rfl) rfl g3 ?_
  refine xT_iload_n g_q206 g206_15 (rfl) ?_
  refine xT_aaload g_q206 g206_16 (by decide +kernel) (hm_c h cdg) (ixN (n := 12) (by omega) ndg) (ixG (by omega) edg) ?_
  refine xT_iload_n g_q206 g206_17 (rfl) ?_
  refine xT_iaload g_q206 g206_18 hdr0 (hm_c h cdr) (ixN (n := 6) (by omega) ndr) (ixG (by omega) (edr _ (by omega))) ?_
  refine xT_icV (y := nI (2)) g_q206 g206_19 (by decide) ?_
  refine xT_if_icmpN g_q206 g206_20 (t := 28) (by decide) (c1N (a := 2) (b := 2) rfl) ?_
  refine xT_biV (y := nI (100)) g_q206 g206_23 (by decide) ?_
  refine xT_goto g_q206 g206_25 (t := 31) (by decide) ?_
  refine xT_invokestatic (r := []) (u := some (.inl ((fmI v)))) g_q206 g206_31 (j := 71) (so := 2) (by decide +kernel) g_q71 (rfl) (t71) ?_
  exact xT_ireturn g_q206 g206_34 (rfl)
theorem t206_1 {H0 : List (XC Int32)} {As : List Nat} {gs : List (XV Int32)} {b q : Nat} {p : rP} (hT : rT H0 As gs q 1 p) {f : Nat} {v : Int32} : x_To x_tb x_tyl ot dp 206 0 (x_en 0 [.inr (some (b)), .inl (nI (q)), .inl (nI (f)), .inl (v), .inl (nI (1))]) [] H 0 0 (some (.inl (pCut p v))) H := by
  obtain ⟨-, hcut, hlp⟩ | ⟨z, -⟩ := id hT
  rotate_left
  · exact absurd z (by decide)
  rw [hcut]
  refine xT_iload g_q206 g206_0 (rfl) ?_
  refine xT_icV (y := nI (1)) g_q206 g206_2 (by decide) ?_
  refine xT_if_icmpN g_q206 g206_3 (t := 10) (by decide) (c1N (a := 1) (b := 1) rfl) ?_
  refine xT_iload_n g_q206 g206_6 (rfl) ?_
  refine xT_goto g_q206 g206_7 (t := 34) (by decide) ?_
  exact xT_ireturn g_q206 g206_34 (rfl)
theorem t209_0 {b F0 F1 ln cd ip sh shs fi fz tw tz fo pc tk dn en wo ws la W0 W1 q : Nat} {gs f0 f1 w0 w1 : List (XV Int32)} {p : rP} {a0 a1 b0 b1 c0 c1 d0 d1 e0 e1 h0 h1 : Int32} (hA0 : ¬ 1000000 < b) (hN1 : ¬ F0 = 1000000) (hN2 : ¬ F1 = 1000000) (hN3 : ¬ pc = 1000000) (hN4 : ¬ tk = 1000000) (hN5 : ¬ dn = 1000000) (hN6 : ¬ en = 1000000) (hN7 : ¬ W0 = 1000000) (hN8 : ¬ W1 = 1000000) (hN9 : ¬ ws = 1000000) (hN10 : ¬ la = 1000000) (hl0 : f0.length = 6) (hl1 : f1.length = 6) (hm0 : w0.length = 12) (hm1 : w1.length = 12) (hG : rG gs ln cd ip sh shs fi fz tw tz fo pc tk dn en wo ws la) (hfo : rQ H0 [b, F0, F1, pc, tk, dn, en, W0, W1, ws, la] fo 5 2 0 F0 ∧ rQ H0 [b, F0, F1, pc, tk, dn, en, W0, W1, ws, la] fo 5 2 1 F1) (hwo : rQ H0 [b, F0, F1, pc, tk, dn, en, W0, W1, ws, la] wo 5 2 0 W0 ∧ rQ H0 [b, F0, F1, pc, tk, dn, en, W0, W1, ws, la] wo 5 2 1 W1) (hq : q < 12) (hT : rT H0 [b, F0, F1, pc, tk, dn, en, W0, W1, ws, la] gs q 0 p) {n0_ : Nat → Int32} (hf0 : ∀ k, k < 6 → f0[k]? = some (.inl (n0_ k))) (h : hm H0 H [b, F0, F1, pc, tk, dn, en, W0, W1, ws, la] [.inl (12, gs), .inr (0, f0), .inr (0, f1), .inr (0, [.inl (a0), .inl (a1)]), .inr (0, [.inl (b0), .inl (b1)]), .inr (0, [.inl (c0), .inl (c1)]), .inr (0, [.inl (d0), .inl (d1)]), .inr (0, w0), .inr (0, w1), .inr (0, [.inl (e0), .inl (e1)]), .inr (0, [.inl (h0), .inl (h1)])]) {f : Nat} (hf : f < 6) : x_To x_tb x_tyl ot (dp + 1) 209 0 (x_en 0 [.inr (some (b)), .inl (nI (q)), .inl (nI (f)), .inl (nI (0))]) [] H 0 0 (some (.inl (n0_ f))) H := by
  obtain ⟨g1, g2, g6, g11, g12, g13, g14, g15, g16, g50, g51, g52, g53, g54, g55, g56, g57, g58⟩ := id hG
  obtain ⟨⟨lfo, cfo, nfo, efo0⟩, ⟨lfo1, cfo1, nfo1, efo1⟩⟩ := id hfo
  obtain ⟨⟨lwo, cwo, nwo, ewo0⟩, ⟨lwo1, cwo1, nwo1, ewo1⟩⟩ := id hwo
  obtain ⟨z, -⟩ | ⟨-, hcut, hlp, dg, pv, ru, dr, pr, g3, g4, g5, ⟨ldg, cdg, ndg, edg⟩, ⟨lpv, cpv, npv, epv⟩, ⟨hdr0, ldr, cdr, ndr, edr⟩, ⟨hpr0, lpr, cpr, npr, epr⟩, ⟨hru0, lru, cru, nru, eru⟩⟩ := id hT
  · exact absurd z (by decide)
  refine xT_iload_n g_q209 g209_0 (rfl) ?_
  refine xT_icV (y := nI (1)) g_q209 g209_1 (by decide) ?_
  refine xT_if_icmpY g_q209 g209_2 (t := 16) (by decide) (c1Y (a := 0) (b := 1) (by omega) (by omega) (by omega)) ?_
  refine xT_aload_n g_q209 g209_16 (rfl) ?_
  refine xT_getfield g_q209 g209_17 hA0 rfl (hm_at h (i := 0) rfl rfl) rfl g50 ?_
  refine xT_icV (y := nI (0)) g_q209 g209_20 (by decide) ?_
  refine xT_aaload g_q209 g209_21 (by decide +kernel) (hm_c h cfo) (ixN (n := 2) (by decide) nfo) (ixG (by decide) efo0) ?_
  refine xT_iload_n g_q209 g209_22 (rfl) ?_
  refine xT_iaload g_q209 g209_23 hN1 (hm_at h (i := 1) rfl rfl) (ixN (n := 6) (by omega) hl0) (ixG (by omega) (hf0 _ (by omega))) ?_
  refine xT_aload_n g_q209 g209_24 (rfl) ?_
  refine xT_getfield g_q209 g209_25 hA0 rfl (hm_at h (i := 0) rfl rfl) rfl g3 ?_
  refine xT_iload_n g_q209 g209_28 (rfl) ?_
  refine xT_aaload g_q209 g209_29 (by decide +kernel) (hm_c h cdg) (ixN (n := 12) (by omega) ndg) (ixG (by omega) edg) ?_
  refine xT_iload_n g_q209 g209_30 (rfl) ?_
  refine xT_iaload g_q209 g209_31 hdr0 (hm_c h cdr) (ixN (n := 6) (by omega) ndr) (ixG (by omega) (edr _ (by omega))) ?_
  refine xT_aload_n g_q209 g209_32 (rfl) ?_
  refine xT_getfield g_q209 g209_33 hA0 rfl (hm_at h (i := 0) rfl rfl) rfl g4 ?_
  refine xT_iload_n g_q209 g209_36 (rfl) ?_
  refine xT_aaload g_q209 g209_37 (by decide +kernel) (hm_c h cpv) (ixN (n := 12) (by omega) npv) (ixG (by omega) epv) ?_
  refine xT_iload_n g_q209 g209_38 (rfl) ?_
  refine xT_iaload g_q209 g209_39 hpr0 (hm_c h cpr) (ixN (n := 6) (by omega) npr) (ixG (by omega) (epr _ (by omega))) ?_
  refine xT_invokestatic (r := []) (u := some (.inl ((n0_ (f))))) g_q209 g209_40 (j := 199) (so := 2) (by decide +kernel) g_q199 (rfl) (t199) ?_
  exact xT_ireturn g_q209 g209_43 (rfl)
theorem t209_1 {b F0 F1 ln cd ip sh shs fi fz tw tz fo pc tk dn en wo ws la W0 W1 q : Nat} {gs f0 f1 w0 w1 : List (XV Int32)} {a0 a1 b0 b1 c0 c1 d0 d1 e0 e1 h0 h1 : Int32} (hA0 : ¬ 1000000 < b) (hN1 : ¬ F0 = 1000000) (hN2 : ¬ F1 = 1000000) (hN3 : ¬ pc = 1000000) (hN4 : ¬ tk = 1000000) (hN5 : ¬ dn = 1000000) (hN6 : ¬ en = 1000000) (hN7 : ¬ W0 = 1000000) (hN8 : ¬ W1 = 1000000) (hN9 : ¬ ws = 1000000) (hN10 : ¬ la = 1000000) (hl0 : f0.length = 6) (hl1 : f1.length = 6) (hm0 : w0.length = 12) (hm1 : w1.length = 12) (hG : rG gs ln cd ip sh shs fi fz tw tz fo pc tk dn en wo ws la) (hfo : rQ H0 [b, F0, F1, pc, tk, dn, en, W0, W1, ws, la] fo 5 2 0 F0 ∧ rQ H0 [b, F0, F1, pc, tk, dn, en, W0, W1, ws, la] fo 5 2 1 F1) (hwo : rQ H0 [b, F0, F1, pc, tk, dn, en, W0, W1, ws, la] wo 5 2 0 W0 ∧ rQ H0 [b, F0, F1, pc, tk, dn, en, W0, W1, ws, la] wo 5 2 1 W1) (hq : q < 12) {n1_ : Nat → Int32} (hf1 : ∀ k, k < 6 → f1[k]? = some (.inl (n1_ k))) (h : hm H0 H [b, F0, F1, pc, tk, dn, en, W0, W1, ws, la] [.inl (12, gs), .inr (0, f0), .inr (0, f1), .inr (0, [.inl (a0), .inl (a1)]), .inr (0, [.inl (b0), .inl (b1)]), .inr (0, [.inl (c0), .inl (c1)]), .inr (0, [.inl (d0), .inl (d1)]), .inr (0, w0), .inr (0, w1), .inr (0, [.inl (e0), .inl (e1)]), .inr (0, [.inl (h0), .inl (h1)])]) {f : Nat} (hf : f < 6) : x_To x_tb x_tyl ot (dp + 1) 209 0 (x_en 0 [.inr (some (b)), .inl (nI (q)), .inl (nI (f)), .inl (nI (1))]) [] H 0 0 (some (.inl (n1_ f))) H := by
  obtain ⟨g1, g2, g6, g11, g12, g13, g14, g15, g16, g50, g51, g52, g53, g54, g55, g56, g57, g58⟩ := id hG
  obtain ⟨⟨lfo, cfo, nfo, efo0⟩, ⟨lfo1, cfo1, nfo1, efo1⟩⟩ := id hfo
  obtain ⟨⟨lwo, cwo, nwo, ewo0⟩, ⟨lwo1, cwo1, nwo1, ewo1⟩⟩ := id hwo
  refine xT_iload_n g_q209 g209_0 (rfl) ?_
  refine xT_icV (y := nI (1)) g_q209 g209_1 (by decide) ?_
  refine xT_if_icmpN g_q209 g209_2 (t := 16) (by decide) (c1N (a := 1) (b := 1) rfl) ?_
  refine xT_aload_n g_q209 g209_5 (rfl) ?_
  refine xT_getfield g_q209 g209_6 hA0 rfl (hm_at h (i := 0) rfl rfl) rfl g50 ?_
  refine xT_icV (y := nI (1)) g_q209 g209_9 (by decide) ?_
  refine xT_aaload g_q209 g209_10 (by decide +kernel) (hm_c h cfo1) (ixN (n := 2) (by decide) nfo1) (ixG (by decide) efo1) ?_
  refine xT_iload_n g_q209 g209_11 (rfl) ?_
  refine xT_iaload g_q209 g209_12 hN2 (hm_at h (i := 2) rfl rfl) (ixN (n := 6) (by omega) hl1) (ixG (by omega) (hf1 _ (by omega))) ?_
  refine xT_goto g_q209 g209_13 (t := 43) (by decide) ?_
  exact xT_ireturn g_q209 g209_43 (rfl)
theorem t210_0 {b F0 F1 ln cd ip sh shs fi fz tw tz fo pc tk dn en wo ws la W0 W1 q : Nat} {gs f0 f1 w0 w1 : List (XV Int32)} {p : rP} {a0 a1 b0 b1 c0 c1 d0 d1 e0 e1 h0 h1 : Int32} (hA0 : ¬ 1000000 < b) (hN1 : ¬ F0 = 1000000) (hN2 : ¬ F1 = 1000000) (hN3 : ¬ pc = 1000000) (hN4 : ¬ tk = 1000000) (hN5 : ¬ dn = 1000000) (hN6 : ¬ en = 1000000) (hN7 : ¬ W0 = 1000000) (hN8 : ¬ W1 = 1000000) (hN9 : ¬ ws = 1000000) (hN10 : ¬ la = 1000000) (hl0 : f0.length = 6) (hl1 : f1.length = 6) (hm0 : w0.length = 12) (hm1 : w1.length = 12) (hG : rG gs ln cd ip sh shs fi fz tw tz fo pc tk dn en wo ws la) (hfo : rQ H0 [b, F0, F1, pc, tk, dn, en, W0, W1, ws, la] fo 5 2 0 F0 ∧ rQ H0 [b, F0, F1, pc, tk, dn, en, W0, W1, ws, la] fo 5 2 1 F1) (hwo : rQ H0 [b, F0, F1, pc, tk, dn, en, W0, W1, ws, la] wo 5 2 0 W0 ∧ rQ H0 [b, F0, F1, pc, tk, dn, en, W0, W1, ws, la] wo 5 2 1 W1) (hq : q < 12) (hT : rT H0 [b, F0, F1, pc, tk, dn, en, W0, W1, ws, la] gs q 0 p) {n0_ : Nat → Int32} (hf0 : ∀ k, k < 6 → f0[k]? = some (.inl (n0_ k))) (h : hm H0 H [b, F0, F1, pc, tk, dn, en, W0, W1, ws, la] [.inl (12, gs), .inr (0, f0), .inr (0, f1), .inr (0, [.inl (a0), .inl (a1)]), .inr (0, [.inl (b0), .inl (b1)]), .inr (0, [.inl (c0), .inl (c1)]), .inr (0, [.inl (d0), .inl (d1)]), .inr (0, w0), .inr (0, w1), .inr (0, [.inl (e0), .inl (e1)]), .inr (0, [.inl (h0), .inl (h1)])]) {f : Nat} (hf : f < 6) : x_To x_tb x_tyl ot (dp + 2) 210 0 (x_en 0 [.inr (some (b)), .inl (nI (q)), .inl (nI (f)), .inl (nI (0))]) [] H 0 0 (some (.inl (nI (if pLp p (n0_ f) = true then 1 else 0)))) H := by
  obtain ⟨g1, g2, g6, g11, g12, g13, g14, g15, g16, g50, g51, g52, g53, g54, g55, g56, g57, g58⟩ := id hG
  obtain ⟨⟨lfo, cfo, nfo, efo0⟩, ⟨lfo1, cfo1, nfo1, efo1⟩⟩ := id hfo
  obtain ⟨⟨lwo, cwo, nwo, ewo0⟩, ⟨lwo1, cwo1, nwo1, ewo1⟩⟩ := id hwo
  obtain ⟨z, -⟩ | ⟨-, hcut, hlp, dg, pv, ru, dr, pr, g3, g4, g5, ⟨ldg, cdg, ndg, edg⟩, ⟨lpv, cpv, npv, epv⟩, ⟨hdr0, ldr, cdr, ndr, edr⟩, ⟨hpr0, lpr, cpr, npr, epr⟩, ⟨hru0, lru, cru, nru, eru⟩⟩ := id hT
  · exact absurd z (by decide)
  rw [hlp]
  show x_To x_tb x_tyl ot (dp + 2) 210 0 _ [] H 0 0 (some (.inl (nI (if lpB 0 (if n0_ f < nI 100 then x_bin 0 (nI 1900) (n0_ f) else n0_ f) = true then 1 else 0)))) H
  by_cases hv : n0_ f < nI 100
  · have hv2 : ¬ nI 100 ≤ n0_ f := Int32.not_le.mpr hv
    rw [if_pos hv]
    refine xT_aload_n g_q210 g210_0 (rfl) ?_
    refine xT_iload_n g_q210 g210_1 (rfl) ?_
    refine xT_iload_n g_q210 g210_2 (rfl) ?_
    refine xT_iload_n g_q210 g210_3 (rfl) ?_
    refine xT_invokevirtual (r := []) (u := some (.inl ((n0_ (f))))) g_q210 g210_4 (j := 209) (so := 0) (by decide +kernel) g_q209 rfl (by rw [x_rcM hA0 (hm_at h (i := 0) rfl rfl)]; rfl) (t209_0 (dp := dp) hA0 hN1 hN2 hN3 hN4 hN5 hN6 hN7 hN8 hN9 hN10 hl0 hl1 hm0 hm1 hG hfo hwo hq hT hf0 h hf) ?_
    refine xT_istore g_q210 g210_7 (by decide) ?_
    refine xT_iload_n g_q210 g210_9 (lkN (by decide) (rfl)) ?_
    refine xT_icV (y := nI (1)) g_q210 g210_10 (by decide) ?_
    refine xT_if_icmpY g_q210 g210_11 (t := 21) (by decide) (c1Y (a := 0) (b := 1) (by omega) (by omega) (by omega)) ?_
    refine xT_iload g_q210 g210_21 (lkY) ?_
    refine xT_biV (y := nI (100)) g_q210 g210_23 (by decide) ?_
    refine xT_if_icmpN g_q210 g210_25 (t := 37) (by decide) (decide_eq_false hv2) ?_
    refine xT_siV (y := nI (1900)) g_q210 g210_28 (by decide) ?_
    refine xT_iload g_q210 g210_31 (lkY) ?_
    refine xT_iaddV (y := x_bin 0 (nI (1900)) ((n0_ (f)))) g_q210 g210_33 (rfl) ?_
    refine xT_goto g_q210 g210_34 (t := 39) (by decide) ?_
    refine xT_aload_n g_q210 g210_39 (lkN (by decide) (rfl)) ?_
    refine xT_getfield g_q210 g210_40 hA0 rfl (hm_at h (i := 0) rfl rfl) rfl g5 ?_
    refine xT_iload_n g_q210 g210_43 (lkN (by decide) (rfl)) ?_
    refine xT_iaload g_q210 g210_44 hru0 (hm_c h cru) (ixN (n := 12) (by omega) nru) (ixG (by omega) eru) ?_
    refine xT_invokestatic (r := []) (u := some (.inl ((nI (if lpB 0 (x_bin 0 (nI 1900) (n0_ f)) = true then 1 else 0))))) g_q210 g210_45 (j := 197) (so := 2) (by decide +kernel) g_q197 (rfl) (t197_0) ?_
    exact xT_ireturn g_q210 g210_48 (by split <;> decide +kernel)
  · have hv2 : nI 100 ≤ n0_ f := Int32.not_lt.mp hv
    rw [if_neg hv]
    refine xT_aload_n g_q210 g210_0 (rfl) ?_
    refine xT_iload_n g_q210 g210_1 (rfl) ?_
    refine xT_iload_n g_q210 g210_2 (rfl) ?_
    refine xT_iload_n g_q210 g210_3 (rfl) ?_
    refine xT_invokevirtual (r := []) (u := some (.inl ((n0_ (f))))) g_q210 g210_4 (j := 209) (so := 0) (by decide +kernel) g_q209 rfl (by rw [x_rcM hA0 (hm_at h (i := 0) rfl rfl)]; rfl) (t209_0 (dp := dp) hA0 hN1 hN2 hN3 hN4 hN5 hN6 hN7 hN8 hN9 hN10 hl0 hl1 hm0 hm1 hG hfo hwo hq hT hf0 h hf) ?_
    refine xT_istore g_q210 g210_7 (by decide) ?_
    refine xT_iload_n g_q210 g210_9 (lkN (by decide) (rfl)) ?_
    refine xT_icV (y := nI (1)) g_q210 g210_10 (by decide) ?_
    refine xT_if_icmpY g_q210 g210_11 (t := 21) (by decide) (c1Y (a := 0) (b := 1) (by omega) (by omega) (by omega)) ?_
    refine xT_iload g_q210 g210_21 (lkY) ?_
    refine xT_biV (y := nI (100)) g_q210 g210_23 (by decide) ?_
    refine xT_if_icmpY g_q210 g210_25 (t := 37) (by decide) (decide_eq_true hv2) ?_
    refine xT_iload g_q210 g210_37 (lkY) ?_
    refine xT_aload_n g_q210 g210_39 (lkN (by decide) (rfl)) ?_
    refine xT_getfield g_q210 g210_40 hA0 rfl (hm_at h (i := 0) rfl rfl) rfl g5 ?_
    refine xT_iload_n g_q210 g210_43 (lkN (by decide) (rfl)) ?_
    refine xT_iaload g_q210 g210_44 hru0 (hm_c h cru) (ixN (n := 12) (by omega) nru) (ixG (by omega) eru) ?_
    refine xT_invokestatic (r := []) (u := some (.inl ((nI (if lpB 0 (n0_ f) = true then 1 else 0))))) g_q210 g210_45 (j := 197) (so := 2) (by decide +kernel) g_q197 (rfl) (t197_0) ?_
    exact xT_ireturn g_q210 g210_48 (by split <;> decide +kernel)
theorem t210_1 {b F0 F1 ln cd ip sh shs fi fz tw tz fo pc tk dn en wo ws la W0 W1 q : Nat} {gs f0 f1 w0 w1 : List (XV Int32)} {p : rP} {a0 a1 b0 b1 c0 c1 d0 d1 e0 e1 h0 h1 : Int32} (hA0 : ¬ 1000000 < b) (hN1 : ¬ F0 = 1000000) (hN2 : ¬ F1 = 1000000) (hN3 : ¬ pc = 1000000) (hN4 : ¬ tk = 1000000) (hN5 : ¬ dn = 1000000) (hN6 : ¬ en = 1000000) (hN7 : ¬ W0 = 1000000) (hN8 : ¬ W1 = 1000000) (hN9 : ¬ ws = 1000000) (hN10 : ¬ la = 1000000) (hl0 : f0.length = 6) (hl1 : f1.length = 6) (hm0 : w0.length = 12) (hm1 : w1.length = 12) (hG : rG gs ln cd ip sh shs fi fz tw tz fo pc tk dn en wo ws la) (hfo : rQ H0 [b, F0, F1, pc, tk, dn, en, W0, W1, ws, la] fo 5 2 0 F0 ∧ rQ H0 [b, F0, F1, pc, tk, dn, en, W0, W1, ws, la] fo 5 2 1 F1) (hwo : rQ H0 [b, F0, F1, pc, tk, dn, en, W0, W1, ws, la] wo 5 2 0 W0 ∧ rQ H0 [b, F0, F1, pc, tk, dn, en, W0, W1, ws, la] wo 5 2 1 W1) (hq : q < 12) (hT : rT H0 [b, F0, F1, pc, tk, dn, en, W0, W1, ws, la] gs q 1 p) {n1_ : Nat → Int32} (hf1 : ∀ k, k < 6 → f1[k]? = some (.inl (n1_ k))) (h : hm H0 H [b, F0, F1, pc, tk, dn, en, W0, W1, ws, la] [.inl (12, gs), .inr (0, f0), .inr (0, f1), .inr (0, [.inl (a0), .inl (a1)]), .inr (0, [.inl (b0), .inl (b1)]), .inr (0, [.inl (c0), .inl (c1)]), .inr (0, [.inl (d0), .inl (d1)]), .inr (0, w0), .inr (0, w1), .inr (0, [.inl (e0), .inl (e1)]), .inr (0, [.inl (h0), .inl (h1)])]) {f : Nat} (hf : f < 6) : x_To x_tb x_tyl ot (dp + 2) 210 0 (x_en 0 [.inr (some (b)), .inl (nI (q)), .inl (nI (f)), .inl (nI (1))]) [] H 0 0 (some (.inl (nI (if pLp p (n1_ f) = true then 1 else 0)))) H := by
  obtain ⟨g1, g2, g6, g11, g12, g13, g14, g15, g16, g50, g51, g52, g53, g54, g55, g56, g57, g58⟩ := id hG
  obtain ⟨⟨lfo, cfo, nfo, efo0⟩, ⟨lfo1, cfo1, nfo1, efo1⟩⟩ := id hfo
  obtain ⟨⟨lwo, cwo, nwo, ewo0⟩, ⟨lwo1, cwo1, nwo1, ewo1⟩⟩ := id hwo
  obtain ⟨-, hcut, hlp⟩ | ⟨z, -⟩ := id hT
  rotate_left
  · exact absurd z (by decide)
  rw [hlp]
  refine xT_aload_n g_q210 g210_0 (rfl) ?_
  refine xT_iload_n g_q210 g210_1 (rfl) ?_
  refine xT_iload_n g_q210 g210_2 (rfl) ?_
  refine xT_iload_n g_q210 g210_3 (rfl) ?_
  refine xT_invokevirtual (r := []) (u := some (.inl ((n1_ (f))))) g_q210 g210_4 (j := 209) (so := 0) (by decide +kernel) g_q209 rfl (by rw [x_rcM hA0 (hm_at h (i := 0) rfl rfl)]; rfl) (t209_1 (dp := dp) hA0 hN1 hN2 hN3 hN4 hN5 hN6 hN7 hN8 hN9 hN10 hl0 hl1 hm0 hm1 hG hfo hwo hq hf1 h hf) ?_
  refine xT_istore g_q210 g210_7 (by decide) ?_
  refine xT_iload_n g_q210 g210_9 (lkN (by decide) (rfl)) ?_
  refine xT_icV (y := nI (1)) g_q210 g210_10 (by decide) ?_
  refine xT_if_icmpN g_q210 g210_11 (t := 21) (by decide) (c1N (a := 1) (b := 1) rfl) ?_
  refine xT_iload g_q210 g210_14 (lkY) ?_
  refine xT_icV (y := nI (2)) g_q210 g210_16 (by decide) ?_
  refine xT_invokestatic (r := []) (u := some (.inl ((nI (if lpB 2 (n1_ f) = true then 1 else 0))))) g_q210 g210_17 (j := 197) (so := 2) (by decide +kernel) g_q197 (rfl) (t197_2) ?_
  exact xT_ireturn g_q210 g210_20 (by split <;> decide +kernel)
end XH33_20
/-! p33 by hand, 21. -/
noncomputable section XH33_21
variable {ot : XO Int32} {dp : Nat} {H H0 : List (XC Int32)}
theorem t207_0 {b F0 F1 ln cd ip sh shs fi fz tw tz fo pc tk dn en wo ws la W0 W1 q : Nat} {gs f0 f1 w0 w1 : List (XV Int32)} {p : rP} {a0 a1 b0 b1 c0 c1 d0 d1 e0 e1 h0 h1 : Int32} (hA0 : ¬ 1000000 < b) (hN1 : ¬ F0 = 1000000) (hN2 : ¬ F1 = 1000000) (hN3 : ¬ pc = 1000000) (hN4 : ¬ tk = 1000000) (hN5 : ¬ dn = 1000000) (hN6 : ¬ en = 1000000) (hN7 : ¬ W0 = 1000000) (hN8 : ¬ W1 = 1000000) (hN9 : ¬ ws = 1000000) (hN10 : ¬ la = 1000000) (hl0 : f0.length = 6) (hl1 : f1.length = 6) (hm0 : w0.length = 12) (hm1 : w1.length = 12) (hG : rG gs ln cd ip sh shs fi fz tw tz fo pc tk dn en wo ws la) (hfo : rQ H0 [b, F0, F1, pc, tk, dn, en, W0, W1, ws, la] fo 5 2 0 F0 ∧ rQ H0 [b, F0, F1, pc, tk, dn, en, W0, W1, ws, la] fo 5 2 1 F1) (hwo : rQ H0 [b, F0, F1, pc, tk, dn, en, W0, W1, ws, la] wo 5 2 0 W0 ∧ rQ H0 [b, F0, F1, pc, tk, dn, en, W0, W1, ws, la] wo 5 2 1 W1) (hq : q < 12) (hN : rN H0 [b, F0, F1, pc, tk, dn, en, W0, W1, ws, la] ip sh shs fi fz q p) (h12 : pNi p ≤ 12) (h : hm H0 H [b, F0, F1, pc, tk, dn, en, W0, W1, ws, la] [.inl (12, gs), .inr (0, f0), .inr (0, f1), .inr (0, [.inl (a0), .inl (a1)]), .inr (0, [.inl (b0), .inl (b1)]), .inr (0, [.inl (c0), .inl (c1)]), .inr (0, [.inl (d0), .inl (d1)]), .inr (0, w0), .inr (0, w1), .inr (0, [.inl (e0), .inl (e1)]), .inr (0, [.inl (h0), .inl (h1)])]) : x_To x_tb x_tyl ot dp 207 0 (x_en 0 [.inr (some (b)), .inl (nI (q)), .inl (nI (0))]) [] H 0 0 (some (.inl (nI (pNi p)))) H := by
  obtain ⟨g1, g2, g6, g11, g12, g13, g14, g15, g16, g50, g51, g52, g53, g54, g55, g56, g57, g58⟩ := id hG
  obtain ⟨⟨hip0, lip, cip, nip, eip⟩, ⟨hshs0, lshs, cshs, nshs, eshs⟩, r, w, ⟨lsh, csh, nsh, esh⟩, hr0, cr, nr, er⟩ | ⟨s, hs12, ⟨hip0, lip, cip, nip, eip⟩, ⟨hsz0, lsz, csz, nsz, esz⟩, r, ⟨lrw, crw, nrw, erw⟩, ⟨hr0, w, cr, nr, er⟩⟩ := id hN
  · skip
    refine xT_aload_n g_q207 g207_0 (rfl) ?_
    refine xT_getfield g_q207 g207_1 hA0 rfl (hm_at h (i := 0) rfl rfl) rfl g6 ?_
    refine xT_iload_n g_q207 g207_4 (rfl) ?_
    refine xT_iaload g_q207 g207_5 hip0 (hm_c h cip) (ixN (n := 12) (by omega) nip) (ixG (by omega) eip) ?_
    refine xT_ifCondN g_q207 g207_6 (t := 18) (by decide) ((by decide +kernel)) ?_
    refine xT_aload_n g_q207 g207_9 (rfl) ?_
    refine xT_getfield g_q207 g207_10 hA0 rfl (hm_at h (i := 0) rfl rfl) rfl g12 ?_
    refine xT_iload_n g_q207 g207_13 (rfl) ?_
    refine xT_iaload g_q207 g207_14 hshs0 (hm_c h cshs) (ixN (n := 12) (by omega) nshs) (ixG (by omega) eshs) ?_
    refine xT_goto g_q207 g207_15 (t := 48) (by decide) ?_
    exact xT_ireturn g_q207 g207_48 (rfl)
  · skip
    refine xT_aload_n g_q207 g207_0 (rfl) ?_
    refine xT_getfield g_q207 g207_1 hA0 rfl (hm_at h (i := 0) rfl rfl) rfl g6 ?_
    refine xT_iload_n g_q207 g207_4 (rfl) ?_
    refine xT_iaload g_q207 g207_5 hip0 (hm_c h cip) (ixN (n := 12) (by omega) nip) (ixG (by omega) eip) ?_
    refine xT_ifCondY g_q207 g207_6 (t := 18) (by decide) (c3Y (a := s) (b := 0) (Nat.zero_le _) (by omega) (by omega)) ?_
    refine xT_iload_n g_q207 g207_18 (rfl) ?_
    refine xT_icV (y := nI (1)) g_q207 g207_19 (by decide) ?_
    refine xT_if_icmpY g_q207 g207_20 (t := 37) (by decide) (c1Y (a := 0) (b := 1) (by omega) (by omega) (by omega)) ?_
    refine xT_aload_n g_q207 g207_37 (rfl) ?_
    refine xT_getfield g_q207 g207_38 hA0 rfl (hm_at h (i := 0) rfl rfl) rfl g14 ?_
    refine xT_aload_n g_q207 g207_41 (rfl) ?_
    refine xT_getfield g_q207 g207_42 hA0 rfl (hm_at h (i := 0) rfl rfl) rfl g6 ?_
    refine xT_iload_n g_q207 g207_45 (rfl) ?_
    refine xT_iaload g_q207 g207_46 hip0 (hm_c h cip) (ixN (n := 12) (by omega) nip) (ixG (by omega) eip) ?_
    refine xT_iaload g_q207 g207_47 hsz0 (hm_c h csz) (ixN (n := 12) (by omega) nsz) (ixG (by omega) esz) ?_
    exact xT_ireturn g_q207 g207_48 (rfl)
theorem t208_0 {b F0 F1 ln cd ip sh shs fi fz tw tz fo pc tk dn en wo ws la W0 W1 q : Nat} {gs f0 f1 w0 w1 : List (XV Int32)} {p : rP} {a0 a1 b0 b1 c0 c1 d0 d1 e0 e1 h0 h1 : Int32} (hA0 : ¬ 1000000 < b) (hN1 : ¬ F0 = 1000000) (hN2 : ¬ F1 = 1000000) (hN3 : ¬ pc = 1000000) (hN4 : ¬ tk = 1000000) (hN5 : ¬ dn = 1000000) (hN6 : ¬ en = 1000000) (hN7 : ¬ W0 = 1000000) (hN8 : ¬ W1 = 1000000) (hN9 : ¬ ws = 1000000) (hN10 : ¬ la = 1000000) (hl0 : f0.length = 6) (hl1 : f1.length = 6) (hm0 : w0.length = 12) (hm1 : w1.length = 12) (hG : rG gs ln cd ip sh shs fi fz tw tz fo pc tk dn en wo ws la) (hfo : rQ H0 [b, F0, F1, pc, tk, dn, en, W0, W1, ws, la] fo 5 2 0 F0 ∧ rQ H0 [b, F0, F1, pc, tk, dn, en, W0, W1, ws, la] fo 5 2 1 F1) (hwo : rQ H0 [b, F0, F1, pc, tk, dn, en, W0, W1, ws, la] wo 5 2 0 W0 ∧ rQ H0 [b, F0, F1, pc, tk, dn, en, W0, W1, ws, la] wo 5 2 1 W1) (hq : q < 12) (hN : rN H0 [b, F0, F1, pc, tk, dn, en, W0, W1, ws, la] ip sh shs fi fz q p) (h12 : pNi p ≤ 12) (h : hm H0 H [b, F0, F1, pc, tk, dn, en, W0, W1, ws, la] [.inl (12, gs), .inr (0, f0), .inr (0, f1), .inr (0, [.inl (a0), .inl (a1)]), .inr (0, [.inl (b0), .inl (b1)]), .inr (0, [.inl (c0), .inl (c1)]), .inr (0, [.inl (d0), .inl (d1)]), .inr (0, w0), .inr (0, w1), .inr (0, [.inl (e0), .inl (e1)]), .inr (0, [.inl (h0), .inl (h1)])]) {k : Nat} (hk : k < pNi p) : x_To x_tb x_tyl ot dp 208 0 (x_en 0 [.inr (some (b)), .inl (nI (q)), .inl (nI (k)), .inl (nI (0))]) [] H 0 0 (some (.inl (pIv p k))) H := by
  obtain ⟨g1, g2, g6, g11, g12, g13, g14, g15, g16, g50, g51, g52, g53, g54, g55, g56, g57, g58⟩ := id hG
  obtain ⟨⟨hip0, lip, cip, nip, eip⟩, ⟨hshs0, lshs, cshs, nshs, eshs⟩, r, w, ⟨lsh, csh, nsh, esh⟩, hr0, cr, nr, er⟩ | ⟨s, hs12, ⟨hip0, lip, cip, nip, eip⟩, ⟨hsz0, lsz, csz, nsz, esz⟩, r, ⟨lrw, crw, nrw, erw⟩, ⟨hr0, w, cr, nr, er⟩⟩ := id hN
  · obtain ⟨x, hx, hv⟩ := er k hk
    by_cases c : x = -1
    · rw [hv, if_pos c]
      subst c
      refine xT_aload_n g_q208 g208_0 (rfl) ?_
      refine xT_getfield g_q208 g208_1 hA0 rfl (hm_at h (i := 0) rfl rfl) rfl g6 ?_
      refine xT_iload_n g_q208 g208_4 (rfl) ?_
      refine xT_iaload g_q208 g208_5 hip0 (hm_c h cip) (ixN (n := 12) (by omega) nip) (ixG (by omega) eip) ?_
      refine xT_ifCondN g_q208 g208_6 (t := 20) (by decide) ((by decide +kernel)) ?_
      refine xT_aload_n g_q208 g208_9 (rfl) ?_
      refine xT_getfield g_q208 g208_10 hA0 rfl (hm_at h (i := 0) rfl rfl) rfl g11 ?_
      refine xT_iload_n g_q208 g208_13 (rfl) ?_
      refine xT_aaload g_q208 g208_14 (by decide +kernel) (hm_c h csh) (ixN (n := 12) (by omega) nsh) (ixG (by omega) esh) ?_
      refine xT_iload_n g_q208 g208_15 (rfl) ?_
      refine xT_iaload g_q208 g208_16 hr0 (hm_c h cr) (ixN (n := 12) (by omega) nr) (ixG (by omega) hx) ?_
      refine xT_goto g_q208 g208_17 (t := 54) (by decide) ?_
      refine xT_istore g_q208 g208_54 (by decide) ?_
      refine xT_aload_n g_q208 g208_56 (lkN (by decide) (rfl)) ?_
      refine xT_getfield g_q208 g208_57 hA0 rfl (hm_at h (i := 0) rfl rfl) rfl g6 ?_
      refine xT_iload_n g_q208 g208_60 (lkN (by decide) (rfl)) ?_
      refine xT_iaload g_q208 g208_61 hip0 (hm_c h cip) (ixN (n := 12) (by omega) nip) (ixG (by omega) eip) ?_
      refine xT_ifCondN g_q208 g208_62 (t := 75) (by decide) ((by decide +kernel)) ?_
      refine xT_iload g_q208 g208_65 (lkY) ?_
      refine xT_icV (y := -1) g_q208 g208_67 (by decide) ?_
      refine xT_if_icmpN g_q208 g208_68 (t := 75) (by decide) ((show x_cmp 1 (-1 : Int32) (-1) = false by decide +kernel)) ?_
      refine xT_icV (y := nI (0)) g_q208 g208_71 (by decide) ?_
      refine xT_goto g_q208 g208_72 (t := 77) (by decide) ?_
      exact xT_ireturn g_q208 g208_77 (rfl)
    · rw [hv, if_neg c]
      refine xT_aload_n g_q208 g208_0 (rfl) ?_
      refine xT_getfield g_q208 g208_1 hA0 rfl (hm_at h (i := 0) rfl rfl) rfl g6 ?_
      refine xT_iload_n g_q208 g208_4 (rfl) ?_
      refine xT_iaload g_q208 g208_5 hip0 (hm_c h cip) (ixN (n := 12) (by omega) nip) (ixG (by omega) eip) ?_
      refine xT_ifCondN g_q208 g208_6 (t := 20) (by decide) ((by decide +kernel)) ?_
      refine xT_aload_n g_q208 g208_9 (rfl) ?_
      refine xT_getfield g_q208 g208_10 hA0 rfl (hm_at h (i := 0) rfl rfl) rfl g11 ?_
      refine xT_iload_n g_q208 g208_13 (rfl) ?_
      refine xT_aaload g_q208 g208_14 (by decide +kernel) (hm_c h csh) (ixN (n := 12) (by omega) nsh) (ixG (by omega) esh) ?_
      refine xT_iload_n g_q208 g208_15 (rfl) ?_
      refine xT_iaload g_q208 g208_16 hr0 (hm_c h cr) (ixN (n := 12) (by omega) nr) (ixG (by omega) hx) ?_
      refine xT_goto g_q208 g208_17 (t := 54) (by decide) ?_
      refine xT_istore g_q208 g208_54 (by decide) ?_
      refine xT_aload_n g_q208 g208_56 (lkN (by decide) (rfl)) ?_
      refine xT_getfield g_q208 g208_57 hA0 rfl (hm_at h (i := 0) rfl rfl) rfl g6 ?_
      refine xT_iload_n g_q208 g208_60 (lkN (by decide) (rfl)) ?_
      refine xT_iaload g_q208 g208_61 hip0 (hm_c h cip) (ixN (n := 12) (by omega) nip) (ixG (by omega) eip) ?_
      refine xT_ifCondN g_q208 g208_62 (t := 75) (by decide) ((by decide +kernel)) ?_
      refine xT_iload g_q208 g208_65 (lkY) ?_
      refine xT_icV (y := -1) g_q208 g208_67 (by decide) ?_
      refine xT_if_icmpY g_q208 g208_68 (t := 75) (by decide) (decide_eq_true c) ?_
      refine xT_iload g_q208 g208_75 (lkY) ?_
      exact xT_ireturn g_q208 g208_77 (rfl)
  · skip
    refine xT_aload_n g_q208 g208_0 (rfl) ?_
    refine xT_getfield g_q208 g208_1 hA0 rfl (hm_at h (i := 0) rfl rfl) rfl g6 ?_
    refine xT_iload_n g_q208 g208_4 (rfl) ?_
    refine xT_iaload g_q208 g208_5 hip0 (hm_c h cip) (ixN (n := 12) (by omega) nip) (ixG (by omega) eip) ?_
    refine xT_ifCondY g_q208 g208_6 (t := 20) (by decide) (c3Y (a := s) (b := 0) (Nat.zero_le _) (by omega) (by omega)) ?_
    refine xT_iload_n g_q208 g208_20 (rfl) ?_
    refine xT_icV (y := nI (1)) g_q208 g208_21 (by decide) ?_
    refine xT_if_icmpY g_q208 g208_22 (t := 41) (by decide) (c1Y (a := 0) (b := 1) (by omega) (by omega) (by omega)) ?_
    refine xT_aload_n g_q208 g208_41 (rfl) ?_
    refine xT_getfield g_q208 g208_42 hA0 rfl (hm_at h (i := 0) rfl rfl) rfl g13 ?_
    refine xT_aload_n g_q208 g208_45 (rfl) ?_
    refine xT_getfield g_q208 g208_46 hA0 rfl (hm_at h (i := 0) rfl rfl) rfl g6 ?_
    refine xT_iload_n g_q208 g208_49 (rfl) ?_
    refine xT_iaload g_q208 g208_50 hip0 (hm_c h cip) (ixN (n := 12) (by omega) nip) (ixG (by omega) eip) ?_
    refine xT_aaload g_q208 g208_51 (by decide +kernel) (hm_c h crw) (ixN (n := 12) (by omega) nrw) (ixG (by omega) erw) ?_
    refine xT_iload_n g_q208 g208_52 (rfl) ?_
    refine xT_iaload g_q208 g208_53 hr0 (hm_c h cr) (ixN (n := 12) (by omega) nr) (ixG (by omega) (er _ (by omega))) ?_
    refine xT_istore g_q208 g208_54 (by decide) ?_
    refine xT_aload_n g_q208 g208_56 (lkN (by decide) (rfl)) ?_
    refine xT_getfield g_q208 g208_57 hA0 rfl (hm_at h (i := 0) rfl rfl) rfl g6 ?_
    refine xT_iload_n g_q208 g208_60 (lkN (by decide) (rfl)) ?_
    refine xT_iaload g_q208 g208_61 hip0 (hm_c h cip) (ixN (n := 12) (by omega) nip) (ixG (by omega) eip) ?_
    refine xT_ifCondY g_q208 g208_62 (t := 75) (by decide) (c3Y (a := s) (b := 0) (Nat.zero_le _) (by omega) (by omega)) ?_
    refine xT_iload g_q208 g208_75 (lkY) ?_
    exact xT_ireturn g_q208 g208_77 (rfl)
end XH33_21
/-! p33 by hand, 22. -/
noncomputable section XH33_22
variable {ot : XO Int32} {dp : Nat} {H H0 : List (XC Int32)}
theorem t207_1 {b F0 F1 ln cd ip sh shs fi fz tw tz fo pc tk dn en wo ws la W0 W1 q : Nat} {gs f0 f1 w0 w1 : List (XV Int32)} {p : rP} {a0 a1 b0 b1 c0 c1 d0 d1 e0 e1 h0 h1 : Int32} (hA0 : ¬ 1000000 < b) (hN1 : ¬ F0 = 1000000) (hN2 : ¬ F1 = 1000000) (hN3 : ¬ pc = 1000000) (hN4 : ¬ tk = 1000000) (hN5 : ¬ dn = 1000000) (hN6 : ¬ en = 1000000) (hN7 : ¬ W0 = 1000000) (hN8 : ¬ W1 = 1000000) (hN9 : ¬ ws = 1000000) (hN10 : ¬ la = 1000000) (hl0 : f0.length = 6) (hl1 : f1.length = 6) (hm0 : w0.length = 12) (hm1 : w1.length = 12) (hG : rG gs ln cd ip sh shs fi fz tw tz fo pc tk dn en wo ws la) (hfo : rQ H0 [b, F0, F1, pc, tk, dn, en, W0, W1, ws, la] fo 5 2 0 F0 ∧ rQ H0 [b, F0, F1, pc, tk, dn, en, W0, W1, ws, la] fo 5 2 1 F1) (hwo : rQ H0 [b, F0, F1, pc, tk, dn, en, W0, W1, ws, la] wo 5 2 0 W0 ∧ rQ H0 [b, F0, F1, pc, tk, dn, en, W0, W1, ws, la] wo 5 2 1 W1) (hq : q < 12) (hN : rN H0 [b, F0, F1, pc, tk, dn, en, W0, W1, ws, la] ip sh shs tw tz q p) (h12 : pNi p ≤ 12) (h : hm H0 H [b, F0, F1, pc, tk, dn, en, W0, W1, ws, la] [.inl (12, gs), .inr (0, f0), .inr (0, f1), .inr (0, [.inl (a0), .inl (a1)]), .inr (0, [.inl (b0), .inl (b1)]), .inr (0, [.inl (c0), .inl (c1)]), .inr (0, [.inl (d0), .inl (d1)]), .inr (0, w0), .inr (0, w1), .inr (0, [.inl (e0), .inl (e1)]), .inr (0, [.inl (h0), .inl (h1)])]) : x_To x_tb x_tyl ot dp 207 0 (x_en 0 [.inr (some (b)), .inl (nI (q)), .inl (nI (1))]) [] H 0 0 (some (.inl (nI (pNi p)))) H := by
  obtain ⟨g1, g2, g6, g11, g12, g13, g14, g15, g16, g50, g51, g52, g53, g54, g55, g56, g57, g58⟩ := id hG
  obtain ⟨⟨hip0, lip, cip, nip, eip⟩, ⟨hshs0, lshs, cshs, nshs, eshs⟩, r, w, ⟨lsh, csh, nsh, esh⟩, hr0, cr, nr, er⟩ | ⟨s, hs12, ⟨hip0, lip, cip, nip, eip⟩, ⟨hsz0, lsz, csz, nsz, esz⟩, r, ⟨lrw, crw, nrw, erw⟩, ⟨hr0, w, cr, nr, er⟩⟩ := id hN
  · skip
    refine xT_aload_n g_q207 g207_0 (rfl) ?_
    refine xT_getfield g_q207 g207_1 hA0 rfl (hm_at h (i := 0) rfl rfl) rfl g6 ?_
    refine xT_iload_n g_q207 g207_4 (rfl) ?_
    refine xT_iaload g_q207 g207_5 hip0 (hm_c h cip) (ixN (n := 12) (by omega) nip) (ixG (by omega) eip) ?_
    refine xT_ifCondN g_q207 g207_6 (t := 18) (by decide) ((by decide +kernel)) ?_
    refine xT_aload_n g_q207 g207_9 (rfl) ?_
    refine xT_getfield g_q207 g207_10 hA0 rfl (hm_at h (i := 0) rfl rfl) rfl g12 ?_
    refine xT_iload_n g_q207 g207_13 (rfl) ?_
    refine xT_iaload g_q207 g207_14 hshs0 (hm_c h cshs) (ixN (n := 12) (by omega) nshs) (ixG (by omega) eshs) ?_
    refine xT_goto g_q207 g207_15 (t := 48) (by decide) ?_
    exact xT_ireturn g_q207 g207_48 (rfl)
  · skip
    refine xT_aload_n g_q207 g207_0 (rfl) ?_
    refine xT_getfield g_q207 g207_1 hA0 rfl (hm_at h (i := 0) rfl rfl) rfl g6 ?_
    refine xT_iload_n g_q207 g207_4 (rfl) ?_
    refine xT_iaload g_q207 g207_5 hip0 (hm_c h cip) (ixN (n := 12) (by omega) nip) (ixG (by omega) eip) ?_
    refine xT_ifCondY g_q207 g207_6 (t := 18) (by decide) (c3Y (a := s) (b := 0) (Nat.zero_le _) (by omega) (by omega)) ?_
    refine xT_iload_n g_q207 g207_18 (rfl) ?_
    refine xT_icV (y := nI (1)) g_q207 g207_19 (by decide) ?_
    refine xT_if_icmpN g_q207 g207_20 (t := 37) (by decide) (c1N (a := 1) (b := 1) rfl) ?_
    refine xT_aload_n g_q207 g207_23 (rfl) ?_
    refine xT_getfield g_q207 g207_24 hA0 rfl (hm_at h (i := 0) rfl rfl) rfl g16 ?_
    refine xT_aload_n g_q207 g207_27 (rfl) ?_
    refine xT_getfield g_q207 g207_28 hA0 rfl (hm_at h (i := 0) rfl rfl) rfl g6 ?_
    refine xT_iload_n g_q207 g207_31 (rfl) ?_
    refine xT_iaload g_q207 g207_32 hip0 (hm_c h cip) (ixN (n := 12) (by omega) nip) (ixG (by omega) eip) ?_
    refine xT_iaload g_q207 g207_33 hsz0 (hm_c h csz) (ixN (n := 12) (by omega) nsz) (ixG (by omega) esz) ?_
    refine xT_goto g_q207 g207_34 (t := 48) (by decide) ?_
    exact xT_ireturn g_q207 g207_48 (rfl)
theorem t208_1 {b F0 F1 ln cd ip sh shs fi fz tw tz fo pc tk dn en wo ws la W0 W1 q : Nat} {gs f0 f1 w0 w1 : List (XV Int32)} {p : rP} {a0 a1 b0 b1 c0 c1 d0 d1 e0 e1 h0 h1 : Int32} (hA0 : ¬ 1000000 < b) (hN1 : ¬ F0 = 1000000) (hN2 : ¬ F1 = 1000000) (hN3 : ¬ pc = 1000000) (hN4 : ¬ tk = 1000000) (hN5 : ¬ dn = 1000000) (hN6 : ¬ en = 1000000) (hN7 : ¬ W0 = 1000000) (hN8 : ¬ W1 = 1000000) (hN9 : ¬ ws = 1000000) (hN10 : ¬ la = 1000000) (hl0 : f0.length = 6) (hl1 : f1.length = 6) (hm0 : w0.length = 12) (hm1 : w1.length = 12) (hG : rG gs ln cd ip sh shs fi fz tw tz fo pc tk dn en wo ws la) (hfo : rQ H0 [b, F0, F1, pc, tk, dn, en, W0, W1, ws, la] fo 5 2 0 F0 ∧ rQ H0 [b, F0, F1, pc, tk, dn, en, W0, W1, ws, la] fo 5 2 1 F1) (hwo : rQ H0 [b, F0, F1, pc, tk, dn, en, W0, W1, ws, la] wo 5 2 0 W0 ∧ rQ H0 [b, F0, F1, pc, tk, dn, en, W0, W1, ws, la] wo 5 2 1 W1) (hq : q < 12) (hN : rN H0 [b, F0, F1, pc, tk, dn, en, W0, W1, ws, la] ip sh shs tw tz q p) (h12 : pNi p ≤ 12) (h : hm H0 H [b, F0, F1, pc, tk, dn, en, W0, W1, ws, la] [.inl (12, gs), .inr (0, f0), .inr (0, f1), .inr (0, [.inl (a0), .inl (a1)]), .inr (0, [.inl (b0), .inl (b1)]), .inr (0, [.inl (c0), .inl (c1)]), .inr (0, [.inl (d0), .inl (d1)]), .inr (0, w0), .inr (0, w1), .inr (0, [.inl (e0), .inl (e1)]), .inr (0, [.inl (h0), .inl (h1)])]) {k : Nat} (hk : k < pNi p) : x_To x_tb x_tyl ot dp 208 0 (x_en 0 [.inr (some (b)), .inl (nI (q)), .inl (nI (k)), .inl (nI (1))]) [] H 0 0 (some (.inl (pIv p k))) H := by
  obtain ⟨g1, g2, g6, g11, g12, g13, g14, g15, g16, g50, g51, g52, g53, g54, g55, g56, g57, g58⟩ := id hG
  obtain ⟨⟨hip0, lip, cip, nip, eip⟩, ⟨hshs0, lshs, cshs, nshs, eshs⟩, r, w, ⟨lsh, csh, nsh, esh⟩, hr0, cr, nr, er⟩ | ⟨s, hs12, ⟨hip0, lip, cip, nip, eip⟩, ⟨hsz0, lsz, csz, nsz, esz⟩, r, ⟨lrw, crw, nrw, erw⟩, ⟨hr0, w, cr, nr, er⟩⟩ := id hN
  · obtain ⟨x, hx, hv⟩ := er k hk
    by_cases c : x = -1
    · rw [hv, if_pos c]
      subst c
      refine xT_aload_n g_q208 g208_0 (rfl) ?_
      refine xT_getfield g_q208 g208_1 hA0 rfl (hm_at h (i := 0) rfl rfl) rfl g6 ?_
      refine xT_iload_n g_q208 g208_4 (rfl) ?_
      refine xT_iaload g_q208 g208_5 hip0 (hm_c h cip) (ixN (n := 12) (by omega) nip) (ixG (by omega) eip) ?_
      refine xT_ifCondN g_q208 g208_6 (t := 20) (by decide) ((by decide +kernel)) ?_
      refine xT_aload_n g_q208 g208_9 (rfl) ?_
      refine xT_getfield g_q208 g208_10 hA0 rfl (hm_at h (i := 0) rfl rfl) rfl g11 ?_
      refine xT_iload_n g_q208 g208_13 (rfl) ?_
      refine xT_aaload g_q208 g208_14 (by decide +kernel) (hm_c h csh) (ixN (n := 12) (by omega) nsh) (ixG (by omega) esh) ?_
      refine xT_iload_n g_q208 g208_15 (rfl) ?_
      refine xT_iaload g_q208 g208_16 hr0 (hm_c h cr) (ixN (n := 12) (by omega) nr) (ixG (by omega) hx) ?_
      refine xT_goto g_q208 g208_17 (t := 54) (by decide) ?_
      refine xT_istore g_q208 g208_54 (by decide) ?_
      refine xT_aload_n g_q208 g208_56 (lkN (by decide) (rfl)) ?_
      refine xT_getfield g_q208 g208_57 hA0 rfl (hm_at h (i := 0) rfl rfl) rfl g6 ?_
      refine xT_iload_n g_q208 g208_60 (lkN (by decide) (rfl)) ?_
      refine xT_iaload g_q208 g208_61 hip0 (hm_c h cip) (ixN (n := 12) (by omega) nip) (ixG (by omega) eip) ?_
      refine xT_ifCondN g_q208 g208_62 (t := 75) (by decide) ((by decide +kernel)) ?_
      refine xT_iload g_q208 g208_65 (lkY) ?_
      refine xT_icV (y := -1) g_q208 g208_67 (by decide) ?_
      refine xT_if_icmpN g_q208 g208_68 (t := 75) (by decide) ((show x_cmp 1 (-1 : Int32) (-1) = false by decide +kernel)) ?_
      refine xT_icV (y := nI (0)) g_q208 g208_71 (by decide) ?_
      refine xT_goto g_q208 g208_72 (t := 77) (by decide) ?_
      exact xT_ireturn g_q208 g208_77 (rfl)
    · rw [hv, if_neg c]
      refine xT_aload_n g_q208 g208_0 (rfl) ?_
      refine xT_getfield g_q208 g208_1 hA0 rfl (hm_at h (i := 0) rfl rfl) rfl g6 ?_
      refine xT_iload_n g_q208 g208_4 (rfl) ?_
      refine xT_iaload g_q208 g208_5 hip0 (hm_c h cip) (ixN (n := 12) (by omega) nip) (ixG (by omega) eip) ?_
      refine xT_ifCondN g_q208 g208_6 (t := 20) (by decide) ((by decide +kernel)) ?_
      refine xT_aload_n g_q208 g208_9 (rfl) ?_
      refine xT_getfield g_q208 g208_10 hA0 rfl (hm_at h (i := 0) rfl rfl) rfl g11 ?_
      refine xT_iload_n g_q208 g208_13 (rfl) ?_
      refine xT_aaload g_q208 g208_14 (by decide +kernel) (hm_c h csh) (ixN (n := 12) (by omega) nsh) (ixG (by omega) esh) ?_
      refine xT_iload_n g_q208 g208_15 (rfl) ?_
      refine xT_iaload g_q208 g208_16 hr0 (hm_c h cr) (ixN (n := 12) (by omega) nr) (ixG (by omega) hx) ?_
      refine xT_goto g_q208 g208_17 (t := 54) (by decide) ?_
      refine xT_istore g_q208 g208_54 (by decide) ?_
      refine xT_aload_n g_q208 g208_56 (lkN (by decide) (rfl)) ?_
      refine xT_getfield g_q208 g208_57 hA0 rfl (hm_at h (i := 0) rfl rfl) rfl g6 ?_
      refine xT_iload_n g_q208 g208_60 (lkN (by decide) (rfl)) ?_
      refine xT_iaload g_q208 g208_61 hip0 (hm_c h cip) (ixN (n := 12) (by omega) nip) (ixG (by omega) eip) ?_
      refine xT_ifCondN g_q208 g208_62 (t := 75) (by decide) ((by decide +kernel)) ?_
      refine xT_iload g_q208 g208_65 (lkY) ?_
      refine xT_icV (y := -1) g_q208 g208_67 (by decide) ?_
      refine xT_if_icmpY g_q208 g208_68 (t := 75) (by decide) (decide_eq_true c) ?_
      refine xT_iload g_q208 g208_75 (lkY) ?_
      exact xT_ireturn g_q208 g208_77 (rfl)
  · skip
    refine xT_aload_n g_q208 g208_0 (rfl) ?_
    refine xT_getfield g_q208 g208_1 hA0 rfl (hm_at h (i := 0) rfl rfl) rfl g6 ?_
    refine xT_iload_n g_q208 g208_4 (rfl) ?_
    refine xT_iaload g_q208 g208_5 hip0 (hm_c h cip) (ixN (n := 12) (by omega) nip) (ixG (by omega) eip) ?_
    refine xT_ifCondY g_q208 g208_6 (t := 20) (by decide) (c3Y (a := s) (b := 0) (Nat.zero_le _) (by omega) (by omega)) ?_
    refine xT_iload_n g_q208 g208_20 (rfl) ?_
    refine xT_icV (y := nI (1)) g_q208 g208_21 (by decide) ?_
    refine xT_if_icmpN g_q208 g208_22 (t := 41) (by decide) (c1N (a := 1) (b := 1) rfl) ?_
    refine xT_aload_n g_q208 g208_25 (rfl) ?_
    refine xT_getfield g_q208 g208_26 hA0 rfl (hm_at h (i := 0) rfl rfl) rfl g15 ?_
    refine xT_aload_n g_q208 g208_29 (rfl) ?_
    refine xT_getfield g_q208 g208_30 hA0 rfl (hm_at h (i := 0) rfl rfl) rfl g6 ?_
    refine xT_iload_n g_q208 g208_33 (rfl) ?_
    refine xT_iaload g_q208 g208_34 hip0 (hm_c h cip) (ixN (n := 12) (by omega) nip) (ixG (by omega) eip) ?_
    refine xT_aaload g_q208 g208_35 (by decide +kernel) (hm_c h crw) (ixN (n := 12) (by omega) nrw) (ixG (by omega) erw) ?_
    refine xT_iload_n g_q208 g208_36 (rfl) ?_
    refine xT_iaload g_q208 g208_37 hr0 (hm_c h cr) (ixN (n := 12) (by omega) nr) (ixG (by omega) (er _ (by omega))) ?_
    refine xT_goto g_q208 g208_38 (t := 54) (by decide) ?_
    refine xT_istore g_q208 g208_54 (by decide) ?_
    refine xT_aload_n g_q208 g208_56 (lkN (by decide) (rfl)) ?_
    refine xT_getfield g_q208 g208_57 hA0 rfl (hm_at h (i := 0) rfl rfl) rfl g6 ?_
    refine xT_iload_n g_q208 g208_60 (lkN (by decide) (rfl)) ?_
    refine xT_iaload g_q208 g208_61 hip0 (hm_c h cip) (ixN (n := 12) (by omega) nip) (ixG (by omega) eip) ?_
    refine xT_ifCondY g_q208 g208_62 (t := 75) (by decide) (c3Y (a := s) (b := 0) (Nat.zero_le _) (by omega) (by omega)) ?_
    refine xT_iload g_q208 g208_75 (lkY) ?_
    exact xT_ireturn g_q208 g208_77 (rfl)
end XH33_22
/-! p33 by hand, 23. -/
noncomputable section XH33_23
variable {ot : XO Int32} {dp : Nat} {H H0 : List (XC Int32)}
theorem t205_e0 {b F0 F1 ln cd ip sh shs fi fz tw tz fo pc tk dn en wo ws la W0 W1 q : Nat} {gs f0 f1 w0 w1 : List (XV Int32)} {p : rP} {u1 u2 u3 u4 u5 h0 h1 : Int32} (hA0 : ¬ 1000000 < b) (hN1 : ¬ F0 = 1000000) (hN2 : ¬ F1 = 1000000) (hN3 : ¬ pc = 1000000) (hN4 : ¬ tk = 1000000) (hN5 : ¬ dn = 1000000) (hN6 : ¬ en = 1000000) (hN7 : ¬ W0 = 1000000) (hN8 : ¬ W1 = 1000000) (hN9 : ¬ ws = 1000000) (hN10 : ¬ la = 1000000) (hl0 : f0.length = 6) (hl1 : f1.length = 6) (hm0 : w0.length = 12) (hm1 : w1.length = 12) (hG : rG gs ln cd ip sh shs fi fz tw tz fo pc tk dn en wo ws la) (hfo : rQ H0 [b, F0, F1, pc, tk, dn, en, W0, W1, ws, la] fo 5 2 0 F0 ∧ rQ H0 [b, F0, F1, pc, tk, dn, en, W0, W1, ws, la] fo 5 2 1 F1) (hwo : rQ H0 [b, F0, F1, pc, tk, dn, en, W0, W1, ws, la] wo 5 2 0 W0 ∧ rQ H0 [b, F0, F1, pc, tk, dn, en, W0, W1, ws, la] wo 5 2 1 W1) (hq : q < 12) (hC : rC H0 [b, F0, F1, pc, tk, dn, en, W0, W1, ws, la] ln cd q p) (h12 : pNl p ≤ 12) {u0 : Int32} {next x d os : Nat} (hn : next < 20000) (hd : d < 150) {L : List (Nat × XV Int32)} (l0 : x_lk L 0 = some (.inr (some (b)))) (l1 : x_lk L 1 = some (.inl (nI (q)))) (l3 : x_lk L 3 = some (.inl (nI (0)))) (l7 : x_lk L 7 = some (.inl (nI (next)))) (h : hm H0 H [b, F0, F1, pc, tk, dn, en, W0, W1, ws, la] [.inl (12, gs), .inr (0, f0), .inr (0, f1), .inr (0, [.inl (u0), .inl (u1)]), .inr (0, [.inl (nI (x)), .inl (u2)]), .inr (0, [.inl (nI (d + 1)), .inl (u3)]), .inr (0, [.inl (-1), .inl (u4)]), .inr (0, w0), .inr (0, w1), .inr (0, [.inl (nI (os)), .inl (u5)]), .inr (0, [.inl (h0), .inl (h1)])]) : ∃ H2, x_To x_tb x_tyl ot (dp + 3) 205 577 L [] H 0 0 none H2 ∧ hm H0 H2 [b, F0, F1, pc, tk, dn, en, W0, W1, ws, la] [.inl (12, gs), .inr (0, f0), .inr (0, f1), .inr (0, [.inl (nI (next)), .inl (u1)]), .inr (0, [.inl (nI (x)), .inl (u2)]), .inr (0, [.inl (nI (d + 1)), .inl (u3)]), .inr (0, [.inl ((if pNl p ≤ next then 0 else if d + 1 = 150 then 2 else -1)), .inl (u4)]), .inr (0, w0), .inr (0, w1), .inr (0, [.inl (nI (os)), .inl (u5)]), .inr (0, [.inl (h0), .inl (h1)])] := by
  obtain ⟨g1, g2, g6, g11, g12, g13, g14, g15, g16, g50, g51, g52, g53, g54, g55, g56, g57, g58⟩ := id hG
  obtain ⟨⟨D, ⟨lcd, ccd, ncd, ecd⟩, hD0, lD, cD, nD, eD⟩, hln0, lln, cln, nln, eln⟩ := id hC
  by_cases c1 : pNl p ≤ next
  · rw [if_pos c1]
    have g1_ : hm H0 _ [b, F0, F1, pc, tk, dn, en, W0, W1, ws, la] [.inl (12, gs), .inr (0, f0), .inr (0, f1), .inr (0, [.inl (nI (next)), .inl (u1)]), .inr (0, [.inl (nI (x)), .inl (u2)]), .inr (0, [.inl (nI (d + 1)), .inl (u3)]), .inr (0, [.inl (-1), .inl (u4)]), .inr (0, w0), .inr (0, w1), .inr (0, [.inl (nI (os)), .inl (u5)]), .inr (0, [.inl (h0), .inl (h1)])] := hm_set (i := 3) (z2 := .inr (0, ([.inl (u0), .inl (u1)]).set (0) (.inl (nI (next))))) h rfl
    have g2_ : hm H0 _ [b, F0, F1, pc, tk, dn, en, W0, W1, ws, la] [.inl (12, gs), .inr (0, f0), .inr (0, f1), .inr (0, [.inl (nI (next)), .inl (u1)]), .inr (0, [.inl (nI (x)), .inl (u2)]), .inr (0, [.inl (nI (d + 1)), .inl (u3)]), .inr (0, [.inl (nI (0)), .inl (u4)]), .inr (0, w0), .inr (0, w1), .inr (0, [.inl (nI (os)), .inl (u5)]), .inr (0, [.inl (h0), .inl (h1)])] := hm_set (i := 6) (z2 := .inr (0, ([.inl (-1), .inl (u4)]).set (0) (.inl (nI (0))))) g1_ rfl
    refine ⟨_, ?_, g2_⟩
    refine xT_aload_n g_q205 g205_577 (l0) ?_
    refine xT_getfield g_q205 g205_578 hA0 rfl (hm_at h (i := 0) rfl rfl) rfl g51 ?_
    refine xT_iload_n g_q205 g205_581 (l3) ?_
    refine xT_iload g_q205 g205_582 (l7) ?_
    refine xT_iastore g_q205 g205_584 (hm_at h (i := 3) rfl rfl) (ixN (n := 2) (by decide) rfl) ?_
    rw [nI_clamp (by decide)]
    refine xT_iload g_q205 g205_585 (l7) ?_
    refine xT_aload_n g_q205 g205_587 (l0) ?_
    refine xT_getfield g_q205 g205_588 hA0 rfl (hm_at g1_ (i := 0) rfl rfl) rfl g1 ?_
    refine xT_iload_n g_q205 g205_591 (l1) ?_
    refine xT_iaload g_q205 g205_592 hln0 (hm_c g1_ cln) (ixN (n := 13) (by omega) nln) (ixG (by omega) eln) ?_
    refine xT_if_icmpN g_q205 g205_593 (t := 606) (by decide) (c2N (a := next) (b := pNl p) (by omega) (by omega) (by omega)) ?_
    refine xT_aload_n g_q205 g205_596 (l0) ?_
    refine xT_getfield g_q205 g205_597 hA0 rfl (hm_at g1_ (i := 0) rfl rfl) rfl g54 ?_
    refine xT_iload_n g_q205 g205_600 (l3) ?_
    refine xT_icV (y := nI (0)) g_q205 g205_601 (by decide) ?_
    refine xT_iastore g_q205 g205_602 (hm_at g1_ (i := 6) rfl rfl) (ixN (n := 2) (by decide) rfl) ?_
    rw [nI_clamp (by decide)]
    refine xT_goto g_q205 g205_603 (t := 625) (by decide) ?_
    exact xT_return_ g_q205 g205_625 (rfl)
  rw [if_neg c1]
  by_cases c2 : d + 1 = 150
  · rw [if_pos c2]
    have g1_ : hm H0 _ [b, F0, F1, pc, tk, dn, en, W0, W1, ws, la] [.inl (12, gs), .inr (0, f0), .inr (0, f1), .inr (0, [.inl (nI (next)), .inl (u1)]), .inr (0, [.inl (nI (x)), .inl (u2)]), .inr (0, [.inl (nI (d + 1)), .inl (u3)]), .inr (0, [.inl (-1), .inl (u4)]), .inr (0, w0), .inr (0, w1), .inr (0, [.inl (nI (os)), .inl (u5)]), .inr (0, [.inl (h0), .inl (h1)])] := hm_set (i := 3) (z2 := .inr (0, ([.inl (u0), .inl (u1)]).set (0) (.inl (nI (next))))) h rfl
    have g2_ : hm H0 _ [b, F0, F1, pc, tk, dn, en, W0, W1, ws, la] [.inl (12, gs), .inr (0, f0), .inr (0, f1), .inr (0, [.inl (nI (next)), .inl (u1)]), .inr (0, [.inl (nI (x)), .inl (u2)]), .inr (0, [.inl (nI (d + 1)), .inl (u3)]), .inr (0, [.inl (nI (2)), .inl (u4)]), .inr (0, w0), .inr (0, w1), .inr (0, [.inl (nI (os)), .inl (u5)]), .inr (0, [.inl (h0), .inl (h1)])] := hm_set (i := 6) (z2 := .inr (0, ([.inl (-1), .inl (u4)]).set (0) (.inl (nI (2))))) g1_ rfl
    refine ⟨_, ?_, g2_⟩
    refine xT_aload_n g_q205 g205_577 (l0) ?_
    refine xT_getfield g_q205 g205_578 hA0 rfl (hm_at h (i := 0) rfl rfl) rfl g51 ?_
    refine xT_iload_n g_q205 g205_581 (l3) ?_
    refine xT_iload g_q205 g205_582 (l7) ?_
    refine xT_iastore g_q205 g205_584 (hm_at h (i := 3) rfl rfl) (ixN (n := 2) (by decide) rfl) ?_
    rw [nI_clamp (by decide)]
    refine xT_iload g_q205 g205_585 (l7) ?_
    refine xT_aload_n g_q205 g205_587 (l0) ?_
    refine xT_getfield g_q205 g205_588 hA0 rfl (hm_at g1_ (i := 0) rfl rfl) rfl g1 ?_
    refine xT_iload_n g_q205 g205_591 (l1) ?_
    refine xT_iaload g_q205 g205_592 hln0 (hm_c g1_ cln) (ixN (n := 13) (by omega) nln) (ixG (by omega) eln) ?_
    refine xT_if_icmpY g_q205 g205_593 (t := 606) (by decide) (c2Y (a := next) (b := pNl p) (by omega) (by omega) (by omega)) ?_
    refine xT_aload_n g_q205 g205_606 (l0) ?_
    refine xT_getfield g_q205 g205_607 hA0 rfl (hm_at g1_ (i := 0) rfl rfl) rfl g53 ?_
    refine xT_iload_n g_q205 g205_610 (l3) ?_
    refine xT_iaload g_q205 g205_611 hN5 (hm_at g1_ (i := 5) rfl rfl) (ixN (n := 2) (by decide) rfl) (ixG (by decide) rfl) ?_
    refine xT_siV (y := nI (150)) g_q205 g205_612 (by decide) ?_
    refine xT_if_icmpN g_q205 g205_615 (t := 625) (by decide) (c1N (a := d + 1) (b := 150) c2) ?_
    refine xT_aload_n g_q205 g205_618 (l0) ?_
    refine xT_getfield g_q205 g205_619 hA0 rfl (hm_at g1_ (i := 0) rfl rfl) rfl g54 ?_
    refine xT_iload_n g_q205 g205_622 (l3) ?_
    refine xT_icV (y := nI (2)) g_q205 g205_623 (by decide) ?_
    refine xT_iastore g_q205 g205_624 (hm_at g1_ (i := 6) rfl rfl) (ixN (n := 2) (by decide) rfl) ?_
    rw [nI_clamp (by decide)]
    exact xT_return_ g_q205 g205_625 (rfl)
  · rw [if_neg c2]
    have g1_ : hm H0 _ [b, F0, F1, pc, tk, dn, en, W0, W1, ws, la] [.inl (12, gs), .inr (0, f0), .inr (0, f1), .inr (0, [.inl (nI (next)), .inl (u1)]), .inr (0, [.inl (nI (x)), .inl (u2)]), .inr (0, [.inl (nI (d + 1)), .inl (u3)]), .inr (0, [.inl (-1), .inl (u4)]), .inr (0, w0), .inr (0, w1), .inr (0, [.inl (nI (os)), .inl (u5)]), .inr (0, [.inl (h0), .inl (h1)])] := hm_set (i := 3) (z2 := .inr (0, ([.inl (u0), .inl (u1)]).set (0) (.inl (nI (next))))) h rfl
    refine ⟨_, ?_, g1_⟩
    refine xT_aload_n g_q205 g205_577 (l0) ?_
    refine xT_getfield g_q205 g205_578 hA0 rfl (hm_at h (i := 0) rfl rfl) rfl g51 ?_
    refine xT_iload_n g_q205 g205_581 (l3) ?_
    refine xT_iload g_q205 g205_582 (l7) ?_
    refine xT_iastore g_q205 g205_584 (hm_at h (i := 3) rfl rfl) (ixN (n := 2) (by decide) rfl) ?_
    rw [nI_clamp (by decide)]
    refine xT_iload g_q205 g205_585 (l7) ?_
    refine xT_aload_n g_q205 g205_587 (l0) ?_
    refine xT_getfield g_q205 g205_588 hA0 rfl (hm_at g1_ (i := 0) rfl rfl) rfl g1 ?_
    refine xT_iload_n g_q205 g205_591 (l1) ?_
    refine xT_iaload g_q205 g205_592 hln0 (hm_c g1_ cln) (ixN (n := 13) (by omega) nln) (ixG (by omega) eln) ?_
    refine xT_if_icmpY g_q205 g205_593 (t := 606) (by decide) (c2Y (a := next) (b := pNl p) (by omega) (by omega) (by omega)) ?_
    refine xT_aload_n g_q205 g205_606 (l0) ?_
    refine xT_getfield g_q205 g205_607 hA0 rfl (hm_at g1_ (i := 0) rfl rfl) rfl g53 ?_
    refine xT_iload_n g_q205 g205_610 (l3) ?_
    refine xT_iaload g_q205 g205_611 hN5 (hm_at g1_ (i := 5) rfl rfl) (ixN (n := 2) (by decide) rfl) (ixG (by decide) rfl) ?_
    refine xT_siV (y := nI (150)) g_q205 g205_612 (by decide) ?_
    refine xT_if_icmpY g_q205 g205_615 (t := 625) (by decide) (c1Y (a := d + 1) (b := 150) (by omega) (by omega) (by omega)) ?_
    exact xT_return_ g_q205 g205_625 (rfl)
end XH33_23
