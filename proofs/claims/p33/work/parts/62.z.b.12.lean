/-! p33 by hand, 11. -/
noncomputable section XH33_11
variable {ot : XO Int32} {dp : Nat} {H H0 : List (XC Int32)}
theorem t72y {R nu ob oi sp co se inp : Nat} {nf of : List (XV Int32)} {yr ln dn en hw lw : Int32} {os : Nat} {p : rP} (hA0 : ¬ 1000000 < R) (hA2 : ¬ 1000000 < ob) (hN1 : ¬ nu = 1000000) (hN3 : ¬ oi = 1000000) (hnl : nf.length = 6) (hol : of.length = 12) (hS : cS H0 [R, nu, ob, oi] se p) (hI : cI H0 [R, nu, ob, oi] inp p) (h12 : pNi p ≤ 12) {f x : Nat} (hf : f < 6) (hx : x < pNi p) (h : hm H0 H [R, nu, ob, oi] [.inl (4, [.inr (some (nu)), .inr (some (sp)), .inr (some (co)), .inr (some (se)), .inr (some (inp)), .inr (some (ob)), .inl (yr), .inl (ln), .inl (nI (x)), .inl (dn), .inl (en), .inl (hw), .inl (lw)]), .inr (0, nf), .inl (5, [.inr (some (oi)), .inl (nI (os))]), .inr (0, of)]) : ∃ H2, x_To x_tb x_tyl ot (dp + 2) 72 0 (x_en 0 [.inr (some (R)), .inl (nI (f))]) [] H 0 0 (none) H2 ∧ hm H0 H2 [R, nu, ob, oi] [.inl (4, [.inr (some (nu)), .inr (some (sp)), .inr (some (co)), .inr (some (se)), .inr (some (inp)), .inr (some (ob)), .inl (yr), .inl (ln), .inl (nI (x + 1)), .inl (dn), .inl (en), .inl (hw), .inl (lw)]), .inr (0, (nf).set (f) (.inl ((pCut p (pIv p (x)))))), .inl (5, [.inr (some (oi)), .inl (nI (os))]), .inr (0, of)] := by
  obtain ⟨hiA, it, hinp, hit0, lit, cit, nit, eit⟩ := id hI
  obtain ⟨hsA, sfs, hsR⟩ : ¬ 1000000 < se ∧ ∃ sfs, c3R H0 [R, nu, ob, oi] se (.inl (3, sfs)) := by
    obtain ⟨q, ⟨dr, pr, z, -⟩ | ⟨dr, pr, z, -⟩⟩ := hS
    · exact ⟨q, _, z⟩
    · exact ⟨q, _, z⟩
  have g1_ : hm H0 _ [R, nu, ob, oi] [.inl (4, [.inr (some (nu)), .inr (some (sp)), .inr (some (co)), .inr (some (se)), .inr (some (inp)), .inr (some (ob)), .inl (yr), .inl (ln), .inl (nI (x)), .inl (dn), .inl (en), .inl (hw), .inl (lw)]), .inr (0, (nf).set (f) (.inl ((pCut p (pIv p (x)))))), .inl (5, [.inr (some (oi)), .inl (nI (os))]), .inr (0, of)] := hm_set (i := 1) (z2 := .inr (0, (nf).set (f) (.inl ((pCut p (pIv p (x))))))) h rfl
  have g2_ : hm H0 _ [R, nu, ob, oi] [.inl (4, [.inr (some (nu)), .inr (some (sp)), .inr (some (co)), .inr (some (se)), .inr (some (inp)), .inr (some (ob)), .inl (yr), .inl (ln), .inl (nI (x + 1)), .inl (dn), .inl (en), .inl (hw), .inl (lw)]), .inr (0, (nf).set (f) (.inl ((pCut p (pIv p (x)))))), .inl (5, [.inr (some (oi)), .inl (nI (os))]), .inr (0, of)] := hm_set (i := 0) (z2 := .inl (4, ([.inr (some (nu)), .inr (some (sp)), .inr (some (co)), .inr (some (se)), .inr (some (inp)), .inr (some (ob)), .inl (yr), .inl (ln), .inl (nI (x)), .inl (dn), .inl (en), .inl (hw), .inl (lw)]).set 8 (.inl (nI (x + 1))))) g1_ rfl
  refine ⟨_, ?_, g2_⟩
  refine xT_aload_n g_q72 g72_0 (rfl) ?_
  refine xT_getfield g_q72 g72_1 hA0 rfl (hm_at h (i := 0) rfl rfl) rfl rfl ?_
  refine xT_aload_n g_q72 g72_4 (rfl) ?_
  refine xT_getfield g_q72 g72_5 hA0 rfl (hm_at h (i := 0) rfl rfl) rfl rfl ?_
  refine xT_invokevirtual (r := []) (u := some (.inl (nI (1)))) g_q72 g72_8 (j := 73) (so := 0) (by decide +kernel) g_q73 rfl (by rw [x_rcM hiA (hm_c h hinp)]; rfl) (t73y h hI h12 hx) ?_
  refine xT_ifCondY g_q72 g72_11 (t := 20) (by decide) (c1Y (a := 1) (b := 0) (by omega) (by omega) (by omega)) ?_
  refine xT_aload_n g_q72 g72_20 (rfl) ?_
  refine xT_getfield g_q72 g72_21 hA0 rfl (hm_at h (i := 0) rfl rfl) rfl rfl ?_
  refine xT_iload_n g_q72 g72_24 (rfl) ?_
  refine xT_aload_n g_q72 g72_25 (rfl) ?_
  refine xT_getfield g_q72 g72_26 hA0 rfl (hm_at h (i := 0) rfl rfl) rfl rfl ?_
  refine xT_iload_n g_q72 g72_29 (rfl) ?_
  refine xT_aload_n g_q72 g72_30 (rfl) ?_
  refine xT_getfield g_q72 g72_31 hA0 rfl (hm_at h (i := 0) rfl rfl) rfl rfl ?_
  refine xT_aload_n g_q72 g72_34 (rfl) ?_
  refine xT_getfield g_q72 g72_35 hA0 rfl (hm_at h (i := 0) rfl rfl) rfl rfl ?_
  refine xT_invokevirtual (r := [.inl (nI (f)), .inr (some (se)), .inl (nI (f)), .inr (some (nu))]) (u := some (.inl ((pIv p (x))))) g_q72 g72_38 (j := 74) (so := 0) (by decide +kernel) g_q74 rfl (by rw [x_rcM hiA (hm_c h hinp)]; rfl) (t74 (dp := dp) h hI h12 hx) ?_
  refine xT_invokevirtual (r := [.inl (nI (f)), .inr (some (nu))]) (u := some (.inl ((pCut p (pIv p (x)))))) g_q72 g72_41 (j := 70) (so := 0) (by decide +kernel) g_q70 rfl (by rw [x_rcM hsA (hm_c h hsR)]; rfl) (t70 (dp := dp) h hS (by omega) (v := pIv p (x))) ?_
  refine xT_iastore g_q72 g72_44 (hm_at h (i := 1) rfl rfl) (ixN (n := 6) (by omega) hnl) ?_
  rw [nI_clamp (by omega)]
  refine xT_aload_n g_q72 g72_45 (rfl) ?_
  refine xT_dup g_q72 g72_46 ?_
  refine xT_getfield g_q72 g72_47 hA0 rfl (hm_at g1_ (i := 0) rfl rfl) rfl rfl ?_
  refine xT_icV (y := nI (1)) g_q72 g72_50 (by decide) ?_
  refine xT_iaddV (y := nI (x + 1)) g_q72 g72_51 (bAddN _ _) ?_
  refine xT_putfield g_q72 g72_52 (ci := 4) (j := 8) rfl (hm_at g1_ (i := 0) rfl rfl) rfl rfl ?_
  exact xT_return_ g_q72 g72_55 (rfl)
theorem t72n {R nu ob oi sp co se inp : Nat} {nf of : List (XV Int32)} {yr ln dn en hw lw : Int32} {os : Nat} {p : rP} (hA0 : ¬ 1000000 < R) (hA2 : ¬ 1000000 < ob) (hN1 : ¬ nu = 1000000) (hN3 : ¬ oi = 1000000) (hnl : nf.length = 6) (hol : of.length = 12) (hS : cS H0 [R, nu, ob, oi] se p) (hI : cI H0 [R, nu, ob, oi] inp p) (h12 : pNi p ≤ 12) {f x : Nat} (hf : f < 6) (hx : pNi p ≤ x) (hx2 : x ≤ 12) (h : hm H0 H [R, nu, ob, oi] [.inl (4, [.inr (some (nu)), .inr (some (sp)), .inr (some (co)), .inr (some (se)), .inr (some (inp)), .inr (some (ob)), .inl (yr), .inl (ln), .inl (nI (x)), .inl (dn), .inl (en), .inl (hw), .inl (lw)]), .inr (0, nf), .inl (5, [.inr (some (oi)), .inl (nI (os))]), .inr (0, of)]) : ∃ H2, x_To x_tb x_tyl ot (dp + 2) 72 0 (x_en 0 [.inr (some (R)), .inl (nI (f))]) [] H 0 0 (none) H2 ∧ hm H0 H2 [R, nu, ob, oi] [.inl (4, [.inr (some (nu)), .inr (some (sp)), .inr (some (co)), .inr (some (se)), .inr (some (inp)), .inr (some (ob)), .inl (yr), .inl (ln), .inl (nI (x)), .inl (dn), .inl (nI (1)), .inl (hw), .inl (lw)]), .inr (0, nf), .inl (5, [.inr (some (oi)), .inl (nI (os))]), .inr (0, of)] := by
  obtain ⟨hiA, it, hinp, hit0, lit, cit, nit, eit⟩ := id hI
  obtain ⟨hsA, sfs, hsR⟩ : ¬ 1000000 < se ∧ ∃ sfs, c3R H0 [R, nu, ob, oi] se (.inl (3, sfs)) := by
    obtain ⟨q, ⟨dr, pr, z, -⟩ | ⟨dr, pr, z, -⟩⟩ := hS
    · exact ⟨q, _, z⟩
    · exact ⟨q, _, z⟩
  have g1_ : hm H0 _ [R, nu, ob, oi] [.inl (4, [.inr (some (nu)), .inr (some (sp)), .inr (some (co)), .inr (some (se)), .inr (some (inp)), .inr (some (ob)), .inl (yr), .inl (ln), .inl (nI (x)), .inl (dn), .inl (nI (1)), .inl (hw), .inl (lw)]), .inr (0, nf), .inl (5, [.inr (some (oi)), .inl (nI (os))]), .inr (0, of)] := hm_set (i := 0) (z2 := .inl (4, ([.inr (some (nu)), .inr (some (sp)), .inr (some (co)), .inr (some (se)), .inr (some (inp)), .inr (some (ob)), .inl (yr), .inl (ln), .inl (nI (x)), .inl (dn), .inl (en), .inl (hw), .inl (lw)]).set 10 (.inl (nI (1))))) h rfl
  refine ⟨_, ?_, g1_⟩
  refine xT_aload_n g_q72 g72_0 (rfl) ?_
  refine xT_getfield g_q72 g72_1 hA0 rfl (hm_at h (i := 0) rfl rfl) rfl rfl ?_
  refine xT_aload_n g_q72 g72_4 (rfl) ?_
  refine xT_getfield g_q72 g72_5 hA0 rfl (hm_at h (i := 0) rfl rfl) rfl rfl ?_
  refine xT_invokevirtual (r := []) (u := some (.inl (nI (0)))) g_q72 g72_8 (j := 73) (so := 0) (by decide +kernel) g_q73 rfl (by rw [x_rcM hiA (hm_c h hinp)]; rfl) (t73n h hI h12 hx (by omega)) ?_
  refine xT_ifCondN g_q72 g72_11 (t := 20) (by decide) (c1N (b := 0) rfl) ?_
  refine xT_aload_n g_q72 g72_14 (rfl) ?_
  refine xT_icV (y := nI (1)) g_q72 g72_15 (by decide) ?_
  refine xT_putfield g_q72 g72_16 (ci := 4) (j := 10) rfl (hm_at h (i := 0) rfl rfl) rfl rfl ?_
  exact xT_return_ g_q72 g72_19 (rfl)
end XH33_11
