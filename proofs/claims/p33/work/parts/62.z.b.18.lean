/-! p33 by hand, 17. -/
noncomputable section XH33_17
variable {ot : XO Int32} {dp : Nat} {H H0 : List (XC Int32)}
theorem t66 {R nu ob oi sp co se inp : Nat} {p : rP} {nf of : List (XV Int32)} {c2 c3 c4 c5 c6 c7 c8 c9 c10 bs : XV Int32} {hw lw : Int32} (hA0 : ¬ 1000000 < R) (hA2 : ¬ 1000000 < ob) (hN1 : ¬ nu = 1000000) (hN3 : ¬ oi = 1000000) (hC : cC H0 [R, nu, ob, oi] co p) (h0 : 0 < pNl p) (h12 : pNl p ≤ 12) (hnl : nf.length = 6) (hol : of.length = 12) (h : hm H0 H [R, nu, ob, oi] [.inl (4, [.inr (some (nu)), .inr (some (sp)), (c2), (c3), (c4), (c5), (c6), (c7), (c8), (c9), (c10), .inl (hw), .inl (lw)]), .inr (0, nf), .inl (5, [.inr (some (oi)), (bs)]), .inr (0, of)]) : ∃ H2, x_To x_tb x_tyl ot (dp + 1) 66 0 (x_en 0 [.inr (some R), .inr (some co), .inr (some se), .inr (some inp), .inr (some ob), .inl (pYr p)]) [] H 0 0 none H2 ∧ cN H0 H2 R nu ob oi sp co se inp p rs0 := by
  obtain ⟨hcA, ro, rl, rr, rn, hco, ⟨hro0, lro, cro, nro, ero⟩, ⟨hrl0, lrl, crl, nrl, erl⟩, ⟨hrr0, lrr, crr, nrr, err⟩, ⟨hrn0, lrn, crn, nrn, ern⟩⟩ := id hC
  have key : ∃ H2, x_To x_tb x_tyl ot (dp + 1) 66 0 (x_en 0 [.inr (some R), .inr (some co), .inr (some se), .inr (some inp), .inr (some ob), .inl (pYr p)]) [] H 0 0 none H2 ∧ hm H0 H2 [R, nu, ob, oi] [.inl (4, [.inr (some (nu)), .inr (some (sp)), .inr (some (co)), .inr (some (se)), .inr (some (inp)), .inr (some (ob)), .inl (pYr p), .inl (nI (0)), .inl (nI (0)), .inl (nI (0)), .inl (-1), .inl (hw), .inl (lw)]), .inr (0, ((((((nf).set (0) (.inl (nI (0)))).set (0 + 1) (.inl (nI (0)))).set (0 + 1 + 1) (.inl (nI (0)))).set (0 + 1 + 1 + 1) (.inl (nI (0)))).set (0 + 1 + 1 + 1 + 1) (.inl (nI (0)))).set (0 + 1 + 1 + 1 + 1 + 1) (.inl (nI (0)))), .inl (5, [.inr (some (oi)), .inl (nI (0))]), .inr (0, of)] := by
    have g1_ : hm H0 _ [R, nu, ob, oi] [.inl (4, [.inr (some (nu)), .inr (some (sp)), .inr (some (co)), (c3), (c4), (c5), (c6), (c7), (c8), (c9), (c10), .inl (hw), .inl (lw)]), .inr (0, nf), .inl (5, [.inr (some (oi)), (bs)]), .inr (0, of)] := hm_set (i := 0) (z2 := .inl (4, ([.inr (some (nu)), .inr (some (sp)), (c2), (c3), (c4), (c5), (c6), (c7), (c8), (c9), (c10), .inl (hw), .inl (lw)]).set 2 (.inr (some (co))))) h rfl
    have g2_ : hm H0 _ [R, nu, ob, oi] [.inl (4, [.inr (some (nu)), .inr (some (sp)), .inr (some (co)), .inr (some (se)), (c4), (c5), (c6), (c7), (c8), (c9), (c10), .inl (hw), .inl (lw)]), .inr (0, nf), .inl (5, [.inr (some (oi)), (bs)]), .inr (0, of)] := hm_set (i := 0) (z2 := .inl (4, ([.inr (some (nu)), .inr (some (sp)), .inr (some (co)), (c3), (c4), (c5), (c6), (c7), (c8), (c9), (c10), .inl (hw), .inl (lw)]).set 3 (.inr (some (se))))) g1_ rfl
    have g3_ : hm H0 _ [R, nu, ob, oi] [.inl (4, [.inr (some (nu)), .inr (some (sp)), .inr (some (co)), .inr (some (se)), .inr (some (inp)), (c5), (c6), (c7), (c8), (c9), (c10), .inl (hw), .inl (lw)]), .inr (0, nf), .inl (5, [.inr (some (oi)), (bs)]), .inr (0, of)] := hm_set (i := 0) (z2 := .inl (4, ([.inr (some (nu)), .inr (some (sp)), .inr (some (co)), .inr (some (se)), (c4), (c5), (c6), (c7), (c8), (c9), (c10), .inl (hw), .inl (lw)]).set 4 (.inr (some (inp))))) g2_ rfl
    have g4_ : hm H0 _ [R, nu, ob, oi] [.inl (4, [.inr (some (nu)), .inr (some (sp)), .inr (some (co)), .inr (some (se)), .inr (some (inp)), .inr (some (ob)), (c6), (c7), (c8), (c9), (c10), .inl (hw), .inl (lw)]), .inr (0, nf), .inl (5, [.inr (some (oi)), (bs)]), .inr (0, of)] := hm_set (i := 0) (z2 := .inl (4, ([.inr (some (nu)), .inr (some (sp)), .inr (some (co)), .inr (some (se)), .inr (some (inp)), (c5), (c6), (c7), (c8), (c9), (c10), .inl (hw), .inl (lw)]).set 5 (.inr (some (ob))))) g3_ rfl
    have g5_ : hm H0 _ [R, nu, ob, oi] [.inl (4, [.inr (some (nu)), .inr (some (sp)), .inr (some (co)), .inr (some (se)), .inr (some (inp)), .inr (some (ob)), .inl (pYr p), (c7), (c8), (c9), (c10), .inl (hw), .inl (lw)]), .inr (0, nf), .inl (5, [.inr (some (oi)), (bs)]), .inr (0, of)] := hm_set (i := 0) (z2 := .inl (4, ([.inr (some (nu)), .inr (some (sp)), .inr (some (co)), .inr (some (se)), .inr (some (inp)), .inr (some (ob)), (c6), (c7), (c8), (c9), (c10), .inl (hw), .inl (lw)]).set 6 (.inl (pYr p)))) g4_ rfl
    have g6_ : hm H0 _ [R, nu, ob, oi] [.inl (4, [.inr (some (nu)), .inr (some (sp)), .inr (some (co)), .inr (some (se)), .inr (some (inp)), .inr (some (ob)), .inl (pYr p), .inl (nI (0)), (c8), (c9), (c10), .inl (hw), .inl (lw)]), .inr (0, nf), .inl (5, [.inr (some (oi)), (bs)]), .inr (0, of)] := hm_set (i := 0) (z2 := .inl (4, ([.inr (some (nu)), .inr (some (sp)), .inr (some (co)), .inr (some (se)), .inr (some (inp)), .inr (some (ob)), .inl (pYr p), (c7), (c8), (c9), (c10), .inl (hw), .inl (lw)]).set 7 (.inl (nI (0))))) g5_ rfl
    have g7_ : hm H0 _ [R, nu, ob, oi] [.inl (4, [.inr (some (nu)), .inr (some (sp)), .inr (some (co)), .inr (some (se)), .inr (some (inp)), .inr (some (ob)), .inl (pYr p), .inl (nI (0)), .inl (nI (0)), (c9), (c10), .inl (hw), .inl (lw)]), .inr (0, nf), .inl (5, [.inr (some (oi)), (bs)]), .inr (0, of)] := hm_set (i := 0) (z2 := .inl (4, ([.inr (some (nu)), .inr (some (sp)), .inr (some (co)), .inr (some (se)), .inr (some (inp)), .inr (some (ob)), .inl (pYr p), .inl (nI (0)), (c8), (c9), (c10), .inl (hw), .inl (lw)]).set 8 (.inl (nI (0))))) g6_ rfl
    have g8_ : hm H0 _ [R, nu, ob, oi] [.inl (4, [.inr (some (nu)), .inr (some (sp)), .inr (some (co)), .inr (some (se)), .inr (some (inp)), .inr (some (ob)), .inl (pYr p), .inl (nI (0)), .inl (nI (0)), .inl (nI (0)), (c10), .inl (hw), .inl (lw)]), .inr (0, nf), .inl (5, [.inr (some (oi)), (bs)]), .inr (0, of)] := hm_set (i := 0) (z2 := .inl (4, ([.inr (some (nu)), .inr (some (sp)), .inr (some (co)), .inr (some (se)), .inr (some (inp)), .inr (some (ob)), .inl (pYr p), .inl (nI (0)), .inl (nI (0)), (c9), (c10), .inl (hw), .inl (lw)]).set 9 (.inl (nI (0))))) g7_ rfl
    have g9_ : hm H0 _ [R, nu, ob, oi] [.inl (4, [.inr (some (nu)), .inr (some (sp)), .inr (some (co)), .inr (some (se)), .inr (some (inp)), .inr (some (ob)), .inl (pYr p), .inl (nI (0)), .inl (nI (0)), .inl (nI (0)), .inl (-1), .inl (hw), .inl (lw)]), .inr (0, nf), .inl (5, [.inr (some (oi)), (bs)]), .inr (0, of)] := hm_set (i := 0) (z2 := .inl (4, ([.inr (some (nu)), .inr (some (sp)), .inr (some (co)), .inr (some (se)), .inr (some (inp)), .inr (some (ob)), .inl (pYr p), .inl (nI (0)), .inl (nI (0)), .inl (nI (0)), (c10), .inl (hw), .inl (lw)]).set 10 (.inl (-1)))) g8_ rfl
    obtain ⟨G10, y10_, g10_⟩ := t58z hA0 hA2 g9_
    have g10_ : hm H0 G10 [R, nu, ob, oi] [.inl (4, [.inr (some (nu)), .inr (some (sp)), .inr (some (co)), .inr (some (se)), .inr (some (inp)), .inr (some (ob)), .inl (pYr p), .inl (nI (0)), .inl (nI (0)), .inl (nI (0)), .inl (-1), .inl (hw), .inl (lw)]), .inr (0, nf), .inl (5, [.inr (some (oi)), .inl (nI (0))]), .inr (0, of)] := g10_
    have g11_ : hm H0 _ [R, nu, ob, oi] [.inl (4, [.inr (some (nu)), .inr (some (sp)), .inr (some (co)), .inr (some (se)), .inr (some (inp)), .inr (some (ob)), .inl (pYr p), .inl (nI (0)), .inl (nI (0)), .inl (nI (0)), .inl (-1), .inl (hw), .inl (lw)]), .inr (0, (nf).set (0) (.inl (nI (0)))), .inl (5, [.inr (some (oi)), .inl (nI (0))]), .inr (0, of)] := hm_set (i := 1) (z2 := .inr (0, (nf).set (0) (.inl (nI (0))))) g10_ rfl
    have g12_ : hm H0 _ [R, nu, ob, oi] [.inl (4, [.inr (some (nu)), .inr (some (sp)), .inr (some (co)), .inr (some (se)), .inr (some (inp)), .inr (some (ob)), .inl (pYr p), .inl (nI (0)), .inl (nI (0)), .inl (nI (0)), .inl (-1), .inl (hw), .inl (lw)]), .inr (0, ((nf).set (0) (.inl (nI (0)))).set (0 + 1) (.inl (nI (0)))), .inl (5, [.inr (some (oi)), .inl (nI (0))]), .inr (0, of)] := hm_set (i := 1) (z2 := .inr (0, ((nf).set (0) (.inl (nI (0)))).set (0 + 1) (.inl (nI (0))))) g11_ rfl
    have g13_ : hm H0 _ [R, nu, ob, oi] [.inl (4, [.inr (some (nu)), .inr (some (sp)), .inr (some (co)), .inr (some (se)), .inr (some (inp)), .inr (some (ob)), .inl (pYr p), .inl (nI (0)), .inl (nI (0)), .inl (nI (0)), .inl (-1), .inl (hw), .inl (lw)]), .inr (0, (((nf).set (0) (.inl (nI (0)))).set (0 + 1) (.inl (nI (0)))).set (0 + 1 + 1) (.inl (nI (0)))), .inl (5, [.inr (some (oi)), .inl (nI (0))]), .inr (0, of)] := hm_set (i := 1) (z2 := .inr (0, (((nf).set (0) (.inl (nI (0)))).set (0 + 1) (.inl (nI (0)))).set (0 + 1 + 1) (.inl (nI (0))))) g12_ rfl
    have g14_ : hm H0 _ [R, nu, ob, oi] [.inl (4, [.inr (some (nu)), .inr (some (sp)), .inr (some (co)), .inr (some (se)), .inr (some (inp)), .inr (some (ob)), .inl (pYr p), .inl (nI (0)), .inl (nI (0)), .inl (nI (0)), .inl (-1), .inl (hw), .inl (lw)]), .inr (0, ((((nf).set (0) (.inl (nI (0)))).set (0 + 1) (.inl (nI (0)))).set (0 + 1 + 1) (.inl (nI (0)))).set (0 + 1 + 1 + 1) (.inl (nI (0)))), .inl (5, [.inr (some (oi)), .inl (nI (0))]), .inr (0, of)] := hm_set (i := 1) (z2 := .inr (0, ((((nf).set (0) (.inl (nI (0)))).set (0 + 1) (.inl (nI (0)))).set (0 + 1 + 1) (.inl (nI (0)))).set (0 + 1 + 1 + 1) (.inl (nI (0))))) g13_ rfl
    have g15_ : hm H0 _ [R, nu, ob, oi] [.inl (4, [.inr (some (nu)), .inr (some (sp)), .inr (some (co)), .inr (some (se)), .inr (some (inp)), .inr (some (ob)), .inl (pYr p), .inl (nI (0)), .inl (nI (0)), .inl (nI (0)), .inl (-1), .inl (hw), .inl (lw)]), .inr (0, (((((nf).set (0) (.inl (nI (0)))).set (0 + 1) (.inl (nI (0)))).set (0 + 1 + 1) (.inl (nI (0)))).set (0 + 1 + 1 + 1) (.inl (nI (0)))).set (0 + 1 + 1 + 1 + 1) (.inl (nI (0)))), .inl (5, [.inr (some (oi)), .inl (nI (0))]), .inr (0, of)] := hm_set (i := 1) (z2 := .inr (0, (((((nf).set (0) (.inl (nI (0)))).set (0 + 1) (.inl (nI (0)))).set (0 + 1 + 1) (.inl (nI (0)))).set (0 + 1 + 1 + 1) (.inl (nI (0)))).set (0 + 1 + 1 + 1 + 1) (.inl (nI (0))))) g14_ rfl
    have g16_ : hm H0 _ [R, nu, ob, oi] [.inl (4, [.inr (some (nu)), .inr (some (sp)), .inr (some (co)), .inr (some (se)), .inr (some (inp)), .inr (some (ob)), .inl (pYr p), .inl (nI (0)), .inl (nI (0)), .inl (nI (0)), .inl (-1), .inl (hw), .inl (lw)]), .inr (0, ((((((nf).set (0) (.inl (nI (0)))).set (0 + 1) (.inl (nI (0)))).set (0 + 1 + 1) (.inl (nI (0)))).set (0 + 1 + 1 + 1) (.inl (nI (0)))).set (0 + 1 + 1 + 1 + 1) (.inl (nI (0)))).set (0 + 1 + 1 + 1 + 1 + 1) (.inl (nI (0)))), .inl (5, [.inr (some (oi)), .inl (nI (0))]), .inr (0, of)] := hm_set (i := 1) (z2 := .inr (0, ((((((nf).set (0) (.inl (nI (0)))).set (0 + 1) (.inl (nI (0)))).set (0 + 1 + 1) (.inl (nI (0)))).set (0 + 1 + 1 + 1) (.inl (nI (0)))).set (0 + 1 + 1 + 1 + 1) (.inl (nI (0)))).set (0 + 1 + 1 + 1 + 1 + 1) (.inl (nI (0))))) g15_ rfl
    refine ⟨_, ?_, g16_⟩
    refine xT_aload_n g_q66 g66_0 (rfl) ?_
    refine xT_aload_n g_q66 g66_1 (rfl) ?_
    refine xT_putfield g_q66 g66_2 (ci := 4) (j := 2) rfl (hm_at h (i := 0) rfl rfl) rfl rfl ?_
    refine xT_aload_n g_q66 g66_5 (rfl) ?_
    refine xT_aload_n g_q66 g66_6 (rfl) ?_
    refine xT_putfield g_q66 g66_7 (ci := 4) (j := 3) rfl (hm_at g1_ (i := 0) rfl rfl) rfl rfl ?_
    refine xT_aload_n g_q66 g66_10 (rfl) ?_
    refine xT_aload_n g_q66 g66_11 (rfl) ?_
    refine xT_putfield g_q66 g66_12 (ci := 4) (j := 4) rfl (hm_at g2_ (i := 0) rfl rfl) rfl rfl ?_
    refine xT_aload_n g_q66 g66_15 (rfl) ?_
    refine xT_aload g_q66 g66_16 (rfl) ?_
    refine xT_putfield g_q66 g66_18 (ci := 4) (j := 5) rfl (hm_at g3_ (i := 0) rfl rfl) rfl rfl ?_
    refine xT_aload_n g_q66 g66_21 (rfl) ?_
    refine xT_iload g_q66 g66_22 (rfl) ?_
    refine xT_putfield g_q66 g66_24 (ci := 4) (j := 6) rfl (hm_at g4_ (i := 0) rfl rfl) rfl rfl ?_
    refine xT_aload_n g_q66 g66_27 (rfl) ?_
    refine xT_icV (y := nI (0)) g_q66 g66_28 (by decide) ?_
    refine xT_putfield g_q66 g66_29 (ci := 4) (j := 7) rfl (hm_at g5_ (i := 0) rfl rfl) rfl rfl ?_
    refine xT_aload_n g_q66 g66_32 (rfl) ?_
    refine xT_icV (y := nI (0)) g_q66 g66_33 (by decide) ?_
    refine xT_putfield g_q66 g66_34 (ci := 4) (j := 8) rfl (hm_at g6_ (i := 0) rfl rfl) rfl rfl ?_
    refine xT_aload_n g_q66 g66_37 (rfl) ?_
    refine xT_icV (y := nI (0)) g_q66 g66_38 (by decide) ?_
    refine xT_putfield g_q66 g66_39 (ci := 4) (j := 9) rfl (hm_at g7_ (i := 0) rfl rfl) rfl rfl ?_
    refine xT_aload_n g_q66 g66_42 (rfl) ?_
    refine xT_aload_n g_q66 g66_43 (rfl) ?_
    refine xT_getfield g_q66 g66_44 hA0 rfl (hm_at g8_ (i := 0) rfl rfl) rfl rfl ?_
    refine xT_getfield g_q66 g66_47 hcA rfl (hm_c g8_ hco) rfl rfl ?_
    refine xT_ifCondN g_q66 g66_50 (t := 57) (by decide) (c5N (a := pNl p) (b := 0) (by omega) (by omega) (by omega)) ?_
    refine xT_icV (y := -1) g_q66 g66_53 (by decide) ?_
    refine xT_goto g_q66 g66_54 (t := 58) (by decide) ?_
    refine xT_putfield g_q66 g66_58 (ci := 4) (j := 10) rfl (hm_at g8_ (i := 0) rfl rfl) rfl rfl ?_
    refine xT_aload_n g_q66 g66_61 (rfl) ?_
    refine xT_getfield g_q66 g66_62 hA0 rfl (hm_at g9_ (i := 0) rfl rfl) rfl rfl ?_
    refine xT_invokevirtual (r := []) (u := none) g_q66 g66_65 (j := 58) (so := 0) (by decide +kernel) g_q58 rfl (by rw [x_rcM hA2 (hm_at g9_ (i := 2) rfl rfl)]; rfl) (y10_) ?_
    refine xT_icV (y := nI (0)) g_q66 g66_68 (by decide) ?_
    refine xT_istore g_q66 g66_69 (by decide) ?_
    refine xT_iload g_q66 g66_71 (lkY) ?_
    refine xT_biV (y := nI (6)) g_q66 g66_73 (by decide) ?_
    refine xT_if_icmpN g_q66 g66_75 (t := 92) (by decide) (c3N (a := 0) (b := 6) (by omega) (by omega) (by omega)) ?_
    refine xT_aload_n g_q66 g66_78 (lkN (by decide) (rfl)) ?_
    refine xT_getfield g_q66 g66_79 hA0 rfl (hm_at g10_ (i := 0) rfl rfl) rfl rfl ?_
    refine xT_iload g_q66 g66_82 (lkY) ?_
    refine xT_icV (y := nI (0)) g_q66 g66_84 (by decide) ?_
    refine xT_iastore g_q66 g66_85 (hm_at g10_ (i := 1) rfl rfl) (ixN (n := 6) (by omega) hnl) ?_
    rw [nI_clamp (by omega)]
    refine xT_iincV (y := nI (0 + 1)) g_q66 g66_86 (lkY) (by decide) (bIncN _) ?_
    refine xT_goto g_q66 g66_89 (t := 71) (by decide) ?_
    refine xT_iload g_q66 g66_71 (lkY) ?_
    refine xT_biV (y := nI (6)) g_q66 g66_73 (by decide) ?_
    refine xT_if_icmpN g_q66 g66_75 (t := 92) (by decide) (c3N (a := 0 + 1) (b := 6) (by omega) (by omega) (by omega)) ?_
    refine xT_aload_n g_q66 g66_78 (lkN (by decide) (lkN (by decide) (rfl))) ?_
    refine xT_getfield g_q66 g66_79 hA0 rfl (hm_at g11_ (i := 0) rfl rfl) rfl rfl ?_
    refine xT_iload g_q66 g66_82 (lkY) ?_
    refine xT_icV (y := nI (0)) g_q66 g66_84 (by decide) ?_
    refine xT_iastore g_q66 g66_85 (hm_at g11_ (i := 1) rfl rfl) (ixN (n := 6) (by omega) (by rw [List.length_set]; exact hnl)) ?_
    rw [nI_clamp (by omega)]
    refine xT_iincV (y := nI (0 + 1 + 1)) g_q66 g66_86 (lkY) (by decide) (bIncN _) ?_
    refine xT_goto g_q66 g66_89 (t := 71) (by decide) ?_
    refine xT_iload g_q66 g66_71 (lkY) ?_
    refine xT_biV (y := nI (6)) g_q66 g66_73 (by decide) ?_
    refine xT_if_icmpN g_q66 g66_75 (t := 92) (by decide) (c3N (a := 0 + 1 + 1) (b := 6) (by omega) (by omega) (by omega)) ?_
    refine xT_aload_n g_q66 g66_78 (lkN (by decide) (lkN (by decide) (lkN (by decide) (rfl)))) ?_
    refine xT_getfield g_q66 g66_79 hA0 rfl (hm_at g12_ (i := 0) rfl rfl) rfl rfl ?_
    refine xT_iload g_q66 g66_82 (lkY) ?_
    refine xT_icV (y := nI (0)) g_q66 g66_84 (by decide) ?_
    refine xT_iastore g_q66 g66_85 (hm_at g12_ (i := 1) rfl rfl) (ixN (n := 6) (by omega) (by rw [List.length_set, List.length_set]; exact hnl)) ?_
    rw [nI_clamp (by omega)]
    refine xT_iincV (y := nI (0 + 1 + 1 + 1)) g_q66 g66_86 (lkY) (by decide) (bIncN _) ?_
    refine xT_goto g_q66 g66_89 (t := 71) (by decide) ?_
    refine xT_iload g_q66 g66_71 (lkY) ?_
    refine xT_biV (y := nI (6)) g_q66 g66_73 (by decide) ?_
    refine xT_if_icmpN g_q66 g66_75 (t := 92) (by decide) (c3N (a := 0 + 1 + 1 + 1) (b := 6) (by omega) (by omega) (by omega)) ?_
    refine xT_aload_n g_q66 g66_78 (lkN (by decide) (lkN (by decide) (lkN (by decide) (lkN (by decide) (rfl))))) ?_
    refine xT_getfield g_q66 g66_79 hA0 rfl (hm_at g13_ (i := 0) rfl rfl) rfl rfl ?_
    refine xT_iload g_q66 g66_82 (lkY) ?_
    refine xT_icV (y := nI (0)) g_q66 g66_84 (by decide) ?_
    refine xT_iastore g_q66 g66_85 (hm_at g13_ (i := 1) rfl rfl) (ixN (n := 6) (by omega) (by rw [List.length_set, List.length_set, List.length_set]; exact hnl)) ?_
    rw [nI_clamp (by omega)]
    refine xT_iincV (y := nI (0 + 1 + 1 + 1 + 1)) g_q66 g66_86 (lkY) (by decide) (bIncN _) ?_
    refine xT_goto g_q66 g66_89 (t := 71) (by decide) ?_
    refine xT_iload g_q66 g66_71 (lkY) ?_
    refine xT_biV (y := nI (6)) g_q66 g66_73 (by decide) ?_
    refine xT_if_icmpN g_q66 g66_75 (t := 92) (by decide) (c3N (a := 0 + 1 + 1 + 1 + 1) (b := 6) (by omega) (by omega) (by omega)) ?_
    refine xT_aload_n g_q66 g66_78 (lkN (by decide) (lkN (by decide) (lkN (by decide) (lkN (by decide) (lkN (by decide) (rfl)))))) ?_
    refine xT_getfield g_q66 g66_79 hA0 rfl (hm_at g14_ (i := 0) rfl rfl) rfl rfl ?_
    refine xT_iload g_q66 g66_82 (lkY) ?_
    refine xT_icV (y := nI (0)) g_q66 g66_84 (by decide) ?_
    refine xT_iastore g_q66 g66_85 (hm_at g14_ (i := 1) rfl rfl) (ixN (n := 6) (by omega) (by rw [List.length_set, List.length_set, List.length_set, List.length_set]; exact hnl)) ?_
    rw [nI_clamp (by omega)]
    refine xT_iincV (y := nI (0 + 1 + 1 + 1 + 1 + 1)) g_q66 g66_86 (lkY) (by decide) (bIncN _) ?_
    refine xT_goto g_q66 g66_89 (t := 71) (by decide) ?_
    refine xT_iload g_q66 g66_71 (lkY) ?_
    refine xT_biV (y := nI (6)) g_q66 g66_73 (by decide) ?_
    refine xT_if_icmpN g_q66 g66_75 (t := 92) (by decide) (c3N (a := 0 + 1 + 1 + 1 + 1 + 1) (b := 6) (by omega) (by omega) (by omega)) ?_
    refine xT_aload_n g_q66 g66_78 (lkN (by decide) (lkN (by decide) (lkN (by decide) (lkN (by decide) (lkN (by decide) (lkN (by decide) (rfl))))))) ?_
    refine xT_getfield g_q66 g66_79 hA0 rfl (hm_at g15_ (i := 0) rfl rfl) rfl rfl ?_
    refine xT_iload g_q66 g66_82 (lkY) ?_
    refine xT_icV (y := nI (0)) g_q66 g66_84 (by decide) ?_
    refine xT_iastore g_q66 g66_85 (hm_at g15_ (i := 1) rfl rfl) (ixN (n := 6) (by omega) (by rw [List.length_set, List.length_set, List.length_set, List.length_set, List.length_set]; exact hnl)) ?_
    rw [nI_clamp (by omega)]
    refine xT_iincV (y := nI (0 + 1 + 1 + 1 + 1 + 1 + 1)) g_q66 g66_86 (lkY) (by decide) (bIncN _) ?_
    refine xT_goto g_q66 g66_89 (t := 71) (by decide) ?_
    refine xT_iload g_q66 g66_71 (lkY) ?_
    refine xT_biV (y := nI (6)) g_q66 g66_73 (by decide) ?_
    refine xT_if_icmpY g_q66 g66_75 (t := 92) (by decide) (c3Y (a := 0 + 1 + 1 + 1 + 1 + 1 + 1) (b := 6) (by omega) (by omega) (by omega)) ?_
    exact xT_return_ g_q66 g66_92 (rfl)
  obtain ⟨H2, y, hh⟩ := key
  have n1 : ∀ k, k < 6 → (((((((nf).set (0) (.inl (nI (0)))).set (0 + 1) (.inl (nI (0)))).set (0 + 1 + 1) (.inl (nI (0)))).set (0 + 1 + 1 + 1) (.inl (nI (0)))).set (0 + 1 + 1 + 1 + 1) (.inl (nI (0)))).set (0 + 1 + 1 + 1 + 1 + 1) (.inl (nI (0))))[k]? = some (.inl (0 : Int32)) := fun k hk => by
    rcases nf with _ | ⟨a0, _ | ⟨a1, _ | ⟨a2, _ | ⟨a3, _ | ⟨a4, _ | ⟨a5, _ | ⟨a6, nf⟩⟩⟩⟩⟩⟩⟩
    rotate_left 6
    · rcases (show k = 0 ∨ k = 1 ∨ k = 2 ∨ k = 3 ∨ k = 4 ∨ k = 5 by omega) with rfl | rfl | rfl | rfl | rfl | rfl
      all_goals rfl
    all_goals exact absurd hnl (by simp)
  exact ⟨H2, y, _, of, nI 0, hw, lw, hh, fun _ => rfl, by rw [List.length_set, List.length_set, List.length_set, List.length_set, List.length_set, List.length_set]; exact hnl, n1, hol, fun k hk => absurd hk (Nat.not_lt_zero _)⟩
end XH33_17
