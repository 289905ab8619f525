/-! p33 by hand, 15. -/
noncomputable section XH33_15
variable {ot : XO Int32} {dp : Nat} {H H0 : List (XC Int32)}
theorem t69 {R nu ob oi sp co se inp : Nat} {p : rP} {s : rS} (hA0 : ¬ 1000000 < R) (hA2 : ¬ 1000000 < ob) (hN1 : ¬ nu = 1000000) (hN3 : ¬ oi = 1000000) (hC : cC H0 [R, nu, ob, oi] co p) (hS : cS H0 [R, nu, ob, oi] se p) (hI : cI H0 [R, nu, ob, oi] inp p) (hok : pOk p) (hs : rOk p s) (hr : rEn s = -1) (h : cN H0 H R nu ob oi sp co se inp p s) : ∃ H2, x_To x_tb x_tyl ot (dp + 3) 69 0 (x_en 0 [.inr (some (R))]) [] H 0 0 none H2 ∧ cN H0 H2 R nu ob oi sp co se inp p (stM p s) := by
  obtain ⟨nu_, l, x, d, e, os, ov⟩ := s
  obtain rfl : e = -1 := hr
  obtain ⟨nf, of, ln, hw, lw, h, hl, hnl, hnf, hol, hof⟩ := h
  obtain rfl : ln = nI l := hl rfl
  obtain ⟨hl1, hx12, ho12, hd150⟩ := hs
  obtain ⟨hl1, hd1⟩ : l < pNl p ∧ d < 150 := hl1 rfl
  have hx12 : x ≤ pNi p := hx12
  have ho12 : os ≤ 12 := ho12
  obtain ⟨h0, h12, hi12, hcd⟩ := hok
  obtain ⟨o1, o2, o3, o4⟩ := hcd l hl1
  have hnf : ∀ k, k < 6 → nf[k]? = some (.inl (nu_ k)) := hnf
  have hof : ∀ k, k < os → of[k]? = some (.inl (ov k)) := hof
  have h : hm H0 H [R, nu, ob, oi] [.inl (4, [.inr (some (nu)), .inr (some (sp)), .inr (some (co)), .inr (some (se)), .inr (some (inp)), .inr (some (ob)), .inl (pYr p), .inl (nI (l)), .inl (nI (x)), .inl (nI (d)), .inl (-1), .inl (hw), .inl (lw)]), .inr (0, nf), .inl (5, [.inr (some (oi)), .inl (nI (os))]), .inr (0, of)] := h
  obtain ⟨hcA, ro, rl, rr, rn, hco, ⟨hro0, lro, cro, nro, ero⟩, ⟨hrl0, lrl, crl, nrl, erl⟩, ⟨hrr0, lrr, crr, nrr, err⟩, ⟨hrn0, lrn, crn, nrn, ern⟩⟩ := id hC
  obtain ⟨hiA, it, hinp, hit0, lit, cit, nit, eit⟩ := id hI
  obtain ⟨hsA, sfs, hsR⟩ : ¬ 1000000 < se ∧ ∃ sfs, c3R H0 [R, nu, ob, oi] se (.inl (3, sfs)) := by
    obtain ⟨q, ⟨dr, pr, z, -⟩ | ⟨dr, pr, z, -⟩⟩ := hS
    · exact ⟨q, _, z⟩
    · exact ⟨q, _, z⟩
  rcases (show pOp p l = 0 ∨ pOp p l = 1 ∨ pOp p l = 2 ∨ pOp p l = 3 ∨ pOp p l = 4 ∨ pOp p l = 5 ∨ pOp p l = 6 ∨ pOp p l = 7 ∨ pOp p l = 8 ∨ pOp p l = 9 ∨ pOp p l = 10 ∨ pOp p l = 11 by omega) with hz | hz | hz | hz | hz | hz | hz | hz | hz | hz | hz | hz
  · have hz : pOp p l = 0 := hz
    have key : ∃ H2, x_To x_tb x_tyl ot (dp + 3) 69 0 (x_en 0 [.inr (some (R))]) [] H 0 0 none H2 ∧ hm H0 H2 [R, nu, ob, oi] [.inl (4, [.inr (some (nu)), .inr (some (sp)), .inr (some (co)), .inr (some (se)), .inr (some (inp)), .inr (some (ob)), .inl (pYr p), .inl (nI (l + 1)), .inl (nI x), .inl (nI (d + 1)), .inl (if pNl p ≤ l + 1 then 0 else if d + 1 = 150 then 2 else -1), .inl (nI 0), .inl (lw)]), .inr (0, nf.set (pLf p l) (.inl (pCut p (pYr p)))), .inl (5, [.inr (some (oi)), .inl (nI (os))]), .inr (0, of)] := by
      have g1_ : hm H0 _ [R, nu, ob, oi] [.inl (4, [.inr (some (nu)), .inr (some (sp)), .inr (some (co)), .inr (some (se)), .inr (some (inp)), .inr (some (ob)), .inl (pYr p), .inl (nI (l)), .inl (nI (x)), .inl (nI (d)), .inl (-1), .inl (nI (0)), .inl (lw)]), .inr (0, nf), .inl (5, [.inr (some (oi)), .inl (nI (os))]), .inr (0, of)] := hm_set (i := 0) (z2 := .inl (4, ([.inr (some (nu)), .inr (some (sp)), .inr (some (co)), .inr (some (se)), .inr (some (inp)), .inr (some (ob)), .inl (pYr p), .inl (nI (l)), .inl (nI (x)), .inl (nI (d)), .inl (-1), .inl (hw), .inl (lw)]).set 11 (.inl (nI (0))))) h rfl
      have g2_ : hm H0 _ [R, nu, ob, oi] [.inl (4, [.inr (some (nu)), .inr (some (sp)), .inr (some (co)), .inr (some (se)), .inr (some (inp)), .inr (some (ob)), .inl (pYr p), .inl (nI (l)), .inl (nI (x)), .inl (nI (d + 1)), .inl (-1), .inl (nI (0)), .inl (lw)]), .inr (0, nf), .inl (5, [.inr (some (oi)), .inl (nI (os))]), .inr (0, of)] := hm_set (i := 0) (z2 := .inl (4, ([.inr (some (nu)), .inr (some (sp)), .inr (some (co)), .inr (some (se)), .inr (some (inp)), .inr (some (ob)), .inl (pYr p), .inl (nI (l)), .inl (nI (x)), .inl (nI (d)), .inl (-1), .inl (nI (0)), .inl (lw)]).set 9 (.inl (nI (d + 1))))) g1_ rfl
      have g3_ : hm H0 _ [R, nu, ob, oi] [.inl (4, [.inr (some (nu)), .inr (some (sp)), .inr (some (co)), .inr (some (se)), .inr (some (inp)), .inr (some (ob)), .inl (pYr p), .inl (nI (l)), .inl (nI (x)), .inl (nI (d + 1)), .inl (-1), .inl (nI (0)), .inl (lw)]), .inr (0, (nf).set (pLf p (l)) (.inl ((pCut p (pYr p))))), .inl (5, [.inr (some (oi)), .inl (nI (os))]), .inr (0, of)] := hm_set (i := 1) (z2 := .inr (0, (nf).set (pLf p (l)) (.inl ((pCut p (pYr p)))))) g2_ rfl
      obtain ⟨G4, y4_, g4_⟩ := t81 (dp := dp + 2) (next := l + 1) (d := d + 1) hA0 hA2 hC h12 (by omega) (by omega) g3_
      have g4_ : hm H0 G4 [R, nu, ob, oi] [.inl (4, [.inr (some (nu)), .inr (some (sp)), .inr (some (co)), .inr (some (se)), .inr (some (inp)), .inr (some (ob)), .inl (pYr p), .inl (nI (l + 1)), .inl (nI (x)), .inl (nI (d + 1)), .inl ((if pNl p ≤ l + 1 then 0 else if d + 1 = 150 then 2 else -1)), .inl (nI (0)), .inl (lw)]), .inr (0, (nf).set (pLf p (l)) (.inl ((pCut p (pYr p))))), .inl (5, [.inr (some (oi)), .inl (nI (os))]), .inr (0, of)] := g4_
      refine ⟨_, ?_, g4_⟩
      refine xT_aload_n g_q69 g69_0 (rfl) ?_
      refine xT_icV (y := nI (0)) g_q69 g69_1 (by decide) ?_
      refine xT_putfield g_q69 g69_2 (ci := 4) (j := 11) rfl (hm_at h (i := 0) rfl rfl) rfl rfl ?_
      refine xT_aload_n g_q69 g69_5 (rfl) ?_
      refine xT_invokevirtual (r := []) (u := some (.inl (nI (0)))) g_q69 g69_6 (j := 68) (so := 0) (by decide +kernel) g_q68 rfl (by rw [x_rcM hA0 (hm_at g1_ (i := 0) rfl rfl)]; rfl) (t68r hA0 hA2 g1_) ?_
      refine xT_ifCondY g_q69 g69_9 (t := 13) (by decide) (c0Y (b := 0) rfl) ?_
      refine xT_aload_n g_q69 g69_13 (rfl) ?_
      refine xT_dup g_q69 g69_14 ?_
      refine xT_getfield g_q69 g69_15 hA0 rfl (hm_at g1_ (i := 0) rfl rfl) rfl rfl ?_
      refine xT_icV (y := nI (1)) g_q69 g69_18 (by decide) ?_
      refine xT_iaddV (y := nI (d + 1)) g_q69 g69_19 (bAddN _ _) ?_
      refine xT_putfield g_q69 g69_20 (ci := 4) (j := 9) rfl (hm_at g1_ (i := 0) rfl rfl) rfl rfl ?_
      refine xT_aload_n g_q69 g69_23 (rfl) ?_
      refine xT_getfield g_q69 g69_24 hA0 rfl (hm_at g2_ (i := 0) rfl rfl) rfl rfl ?_
      refine xT_getfield g_q69 g69_27 hcA rfl (hm_c g2_ hco) rfl rfl ?_
      refine xT_aload_n g_q69 g69_30 (rfl) ?_
      refine xT_getfield g_q69 g69_31 hA0 rfl (hm_at g2_ (i := 0) rfl rfl) rfl rfl ?_
      refine xT_iaload g_q69 g69_34 hrl0 (hm_c g2_ crl) (ixN (n := 12) (by omega) nrl) (ixG (by omega) (erl _ (by omega))) ?_
      refine xT_istore_n g_q69 g69_35 (by decide) ?_
      refine xT_aload_n g_q69 g69_36 (lkN (by decide) (rfl)) ?_
      refine xT_getfield g_q69 g69_37 hA0 rfl (hm_at g2_ (i := 0) rfl rfl) rfl rfl ?_
      refine xT_getfield g_q69 g69_40 hcA rfl (hm_c g2_ hco) rfl rfl ?_
      refine xT_aload_n g_q69 g69_43 (lkN (by decide) (rfl)) ?_
      refine xT_getfield g_q69 g69_44 hA0 rfl (hm_at g2_ (i := 0) rfl rfl) rfl rfl ?_
      refine xT_iaload g_q69 g69_47 hrr0 (hm_c g2_ crr) (ixN (n := 12) (by omega) nrr) (ixG (by omega) (err _ (by omega))) ?_
      refine xT_istore_n g_q69 g69_48 (by decide) ?_
      refine xT_aload_n g_q69 g69_49 (lkN (by decide) (lkN (by decide) (rfl))) ?_
      refine xT_getfield g_q69 g69_50 hA0 rfl (hm_at g2_ (i := 0) rfl rfl) rfl rfl ?_
      refine xT_getfield g_q69 g69_53 hcA rfl (hm_c g2_ hco) rfl rfl ?_
      refine xT_aload_n g_q69 g69_56 (lkN (by decide) (lkN (by decide) (rfl))) ?_
      refine xT_getfield g_q69 g69_57 hA0 rfl (hm_at g2_ (i := 0) rfl rfl) rfl rfl ?_
      refine xT_iaload g_q69 g69_60 hrn0 (hm_c g2_ crn) (ixN (n := 12) (by omega) nrn) (ixG (by omega) (ern _ (by omega))) ?_
      refine xT_istore_n g_q69 g69_61 (by decide) ?_
      refine xT_aload_n g_q69 g69_62 (lkN (by decide) (lkN (by decide) (lkN (by decide) (rfl)))) ?_
      refine xT_getfield g_q69 g69_63 hA0 rfl (hm_at g2_ (i := 0) rfl rfl) rfl rfl ?_
      refine xT_icV (y := nI (1)) g_q69 g69_66 (by decide) ?_
      refine xT_iaddV (y := nI (l + 1)) g_q69 g69_67 (bAddN _ _) ?_
      refine xT_istore g_q69 g69_68 (by decide) ?_
      refine xT_aload_n g_q69 g69_70 (lkN (by decide) (lkN (by decide) (lkN (by decide) (lkN (by decide) (rfl))))) ?_
      refine xT_getfield g_q69 g69_71 hA0 rfl (hm_at g2_ (i := 0) rfl rfl) rfl rfl ?_
      refine xT_getfield g_q69 g69_74 hcA rfl (hm_c g2_ hco) rfl rfl ?_
      refine xT_aload_n g_q69 g69_77 (lkN (by decide) (lkN (by decide) (lkN (by decide) (lkN (by decide) (rfl))))) ?_
      refine xT_getfield g_q69 g69_78 hA0 rfl (hm_at g2_ (i := 0) rfl rfl) rfl rfl ?_
      refine xT_iaload g_q69 g69_81 hro0 (hm_c g2_ cro) (ixN (n := 12) (by omega) nro) (ixG (by omega) (ero _ (by omega))) ?_
      refine xT_tableswitch g_q69 g69_82 (t := 144) (by decide) (by decide) (by dsimp only; rw [hz]; decide) ?_
      refine xT_aload_n g_q69 g69_144 (lkN (by decide) (lkN (by decide) (lkN (by decide) (lkN (by decide) (rfl))))) ?_
      refine xT_getfield g_q69 g69_145 hA0 rfl (hm_at g2_ (i := 0) rfl rfl) rfl rfl ?_
      refine xT_iload_n g_q69 g69_148 (lkN (by decide) (lkN (by decide) (lkN (by decide) (lkY)))) ?_
      refine xT_aload_n g_q69 g69_149 (lkN (by decide) (lkN (by decide) (lkN (by decide) (lkN (by decide) (rfl))))) ?_
      refine xT_getfield g_q69 g69_150 hA0 rfl (hm_at g2_ (i := 0) rfl rfl) rfl rfl ?_
      refine xT_iload_n g_q69 g69_153 (lkN (by decide) (lkN (by decide) (lkN (by decide) (lkY)))) ?_
      refine xT_aload_n g_q69 g69_154 (lkN (by decide) (lkN (by decide) (lkN (by decide) (lkN (by decide) (rfl))))) ?_
      refine xT_getfield g_q69 g69_155 hA0 rfl (hm_at g2_ (i := 0) rfl rfl) rfl rfl ?_
      refine xT_invokevirtual (r := [.inl (nI (pLf p (l))), .inr (some (nu))]) (u := some (.inl ((pCut p (pYr p))))) g_q69 g69_158 (j := 70) (so := 0) (by decide +kernel) g_q70 rfl (by rw [x_rcM hsA (hm_c g2_ hsR)]; rfl) (t70 (dp := dp + 1) g2_ hS (by omega) (v := pYr p)) ?_
      refine xT_iastore g_q69 g69_161 (hm_at g2_ (i := 1) rfl rfl) (ixN (n := 6) (by omega) hnl) ?_
      rw [nI_clamp (by omega)]
      refine xT_goto g_q69 g69_162 (t := 367) (by decide) ?_
      refine xT_aload_n g_q69 g69_367 (lkN (by decide) (lkN (by decide) (lkN (by decide) (lkN (by decide) (rfl))))) ?_
      refine xT_invokevirtual (r := []) (u := some (.inl (nI (0)))) g_q69 g69_368 (j := 68) (so := 0) (by decide +kernel) g_q68 rfl (by rw [x_rcM hA0 (hm_at g3_ (i := 0) rfl rfl)]; rfl) (t68r hA0 hA2 g3_) ?_
      refine xT_ifCondN g_q69 g69_371 (t := 380) (by decide) (c1N (b := 0) rfl) ?_
      refine xT_aload_n g_q69 g69_374 (lkN (by decide) (lkN (by decide) (lkN (by decide) (lkN (by decide) (rfl))))) ?_
      refine xT_iload g_q69 g69_375 (lkY) ?_
      refine xT_invokevirtual (r := []) (u := none) g_q69 g69_377 (j := 81) (so := 0) (by decide +kernel) g_q81 rfl (by rw [x_rcM hA0 (hm_at g3_ (i := 0) rfl rfl)]; rfl) (y4_) ?_
      exact xT_return_ g_q69 g69_380 (rfl)
    obtain ⟨H2, y, hh⟩ := key
    refine ⟨H2, y, ?_⟩
    rw [stM_0 (s := (nu_, l, x, d, -1, os, ov)) hz]
    exact ⟨_, _, _, _, _, hh, fun _ => rfl, by rw [List.length_set]; exact hnl, nf_set (by omega) hnf (by omega), hol, hof⟩
  · have hz : pOp p l = 1 := hz
    by_cases hx : x < pNi p
    · skip
      have key : ∃ H2, x_To x_tb x_tyl ot (dp + 3) 69 0 (x_en 0 [.inr (some (R))]) [] H 0 0 none H2 ∧ hm H0 H2 [R, nu, ob, oi] [.inl (4, [.inr (some (nu)), .inr (some (sp)), .inr (some (co)), .inr (some (se)), .inr (some (inp)), .inr (some (ob)), .inl (pYr p), .inl (nI (l + 1)), .inl (nI (x + 1)), .inl (nI (d + 1)), .inl (if pNl p ≤ l + 1 then 0 else if d + 1 = 150 then 2 else -1), .inl (nI 0), .inl (lw)]), .inr (0, nf.set (pLf p l) (.inl (pCut p (pIv p x)))), .inl (5, [.inr (some (oi)), .inl (nI (os))]), .inr (0, of)] := by
        have g1_ : hm H0 _ [R, nu, ob, oi] [.inl (4, [.inr (some (nu)), .inr (some (sp)), .inr (some (co)), .inr (some (se)), .inr (some (inp)), .inr (some (ob)), .inl (pYr p), .inl (nI (l)), .inl (nI (x)), .inl (nI (d)), .inl (-1), .inl (nI (0)), .inl (lw)]), .inr (0, nf), .inl (5, [.inr (some (oi)), .inl (nI (os))]), .inr (0, of)] := hm_set (i := 0) (z2 := .inl (4, ([.inr (some (nu)), .inr (some (sp)), .inr (some (co)), .inr (some (se)), .inr (some (inp)), .inr (some (ob)), .inl (pYr p), .inl (nI (l)), .inl (nI (x)), .inl (nI (d)), .inl (-1), .inl (hw), .inl (lw)]).set 11 (.inl (nI (0))))) h rfl
        have g2_ : hm H0 _ [R, nu, ob, oi] [.inl (4, [.inr (some (nu)), .inr (some (sp)), .inr (some (co)), .inr (some (se)), .inr (some (inp)), .inr (some (ob)), .inl (pYr p), .inl (nI (l)), .inl (nI (x)), .inl (nI (d + 1)), .inl (-1), .inl (nI (0)), .inl (lw)]), .inr (0, nf), .inl (5, [.inr (some (oi)), .inl (nI (os))]), .inr (0, of)] := hm_set (i := 0) (z2 := .inl (4, ([.inr (some (nu)), .inr (some (sp)), .inr (some (co)), .inr (some (se)), .inr (some (inp)), .inr (some (ob)), .inl (pYr p), .inl (nI (l)), .inl (nI (x)), .inl (nI (d)), .inl (-1), .inl (nI (0)), .inl (lw)]).set 9 (.inl (nI (d + 1))))) g1_ rfl
        obtain ⟨G3, y3_, g3_⟩ := t72y (dp := dp) (f := pLf p l) hA0 hA2 hN1 hN3 hnl hol hS hI hi12 (by omega) hx g2_
        have g3_ : hm H0 G3 [R, nu, ob, oi] [.inl (4, [.inr (some (nu)), .inr (some (sp)), .inr (some (co)), .inr (some (se)), .inr (some (inp)), .inr (some (ob)), .inl (pYr p), .inl (nI (l)), .inl (nI (x + 1)), .inl (nI (d + 1)), .inl (-1), .inl (nI (0)), .inl (lw)]), .inr (0, (nf).set (pLf p (l)) (.inl ((pCut p (pIv p (x)))))), .inl (5, [.inr (some (oi)), .inl (nI (os))]), .inr (0, of)] := g3_
        obtain ⟨G4, y4_, g4_⟩ := t81 (dp := dp + 2) (next := l + 1) (d := d + 1) hA0 hA2 hC h12 (by omega) (by omega) g3_
        have g4_ : hm H0 G4 [R, nu, ob, oi] [.inl (4, [.inr (some (nu)), .inr (some (sp)), .inr (some (co)), .inr (some (se)), .inr (some (inp)), .inr (some (ob)), .inl (pYr p), .inl (nI (l + 1)), .inl (nI (x + 1)), .inl (nI (d + 1)), .inl ((if pNl p ≤ l + 1 then 0 else if d + 1 = 150 then 2 else -1)), .inl (nI (0)), .inl (lw)]), .inr (0, (nf).set (pLf p (l)) (.inl ((pCut p (pIv p (x)))))), .inl (5, [.inr (some (oi)), .inl (nI (os))]), .inr (0, of)] := g4_
        refine ⟨_, ?_, g4_⟩
        refine xT_aload_n g_q69 g69_0 (rfl) ?_
        refine xT_icV (y := nI (0)) g_q69 g69_1 (by decide) ?_
        refine xT_putfield g_q69 g69_2 (ci := 4) (j := 11) rfl (hm_at h (i := 0) rfl rfl) rfl rfl ?_
        refine xT_aload_n g_q69 g69_5 (rfl) ?_
        refine xT_invokevirtual (r := []) (u := some (.inl (nI (0)))) g_q69 g69_6 (j := 68) (so := 0) (by decide +kernel) g_q68 rfl (by rw [x_rcM hA0 (hm_at g1_ (i := 0) rfl rfl)]; rfl) (t68r hA0 hA2 g1_) ?_
        refine xT_ifCondY g_q69 g69_9 (t := 13) (by decide) (c0Y (b := 0) rfl) ?_
        refine xT_aload_n g_q69 g69_13 (rfl) ?_
        refine xT_dup g_q69 g69_14 ?_
        refine xT_getfield g_q69 g69_15 hA0 rfl (hm_at g1_ (i := 0) rfl rfl) rfl rfl ?_
        refine xT_icV (y := nI (1)) g_q69 g69_18 (by decide) ?_
        refine xT_iaddV (y := nI (d + 1)) g_q69 g69_19 (bAddN _ _) ?_
        refine xT_putfield g_q69 g69_20 (ci := 4) (j := 9) rfl (hm_at g1_ (i := 0) rfl rfl) rfl rfl ?_
        refine xT_aload_n g_q69 g69_23 (rfl) ?_
        refine xT_getfield g_q69 g69_24 hA0 rfl (hm_at g2_ (i := 0) rfl rfl) rfl rfl ?_
        refine xT_getfield g_q69 g69_27 hcA rfl (hm_c g2_ hco) rfl rfl ?_
        refine xT_aload_n g_q69 g69_30 (rfl) ?_
        refine xT_getfield g_q69 g69_31 hA0 rfl (hm_at g2_ (i := 0) rfl rfl) rfl rfl ?_
        refine xT_iaload g_q69 g69_34 hrl0 (hm_c g2_ crl) (ixN (n := 12) (by omega) nrl) (ixG (by omega) (erl _ (by omega))) ?_
        refine xT_istore_n g_q69 g69_35 (by decide) ?_
        refine xT_aload_n g_q69 g69_36 (lkN (by decide) (rfl)) ?_
        refine xT_getfield g_q69 g69_37 hA0 rfl (hm_at g2_ (i := 0) rfl rfl) rfl rfl ?_
        refine xT_getfield g_q69 g69_40 hcA rfl (hm_c g2_ hco) rfl rfl ?_
        refine xT_aload_n g_q69 g69_43 (lkN (by decide) (rfl)) ?_
        refine xT_getfield g_q69 g69_44 hA0 rfl (hm_at g2_ (i := 0) rfl rfl) rfl rfl ?_
        refine xT_iaload g_q69 g69_47 hrr0 (hm_c g2_ crr) (ixN (n := 12) (by omega) nrr) (ixG (by omega) (err _ (by omega))) ?_
        refine xT_istore_n g_q69 g69_48 (by decide) ?_
        refine xT_aload_n g_q69 g69_49 (lkN (by decide) (lkN (by decide) (rfl))) ?_
        refine xT_getfield g_q69 g69_50 hA0 rfl (hm_at g2_ (i := 0) rfl rfl) rfl rfl ?_
        refine xT_getfield g_q69 g69_53 hcA rfl (hm_c g2_ hco) rfl rfl ?_
        refine xT_aload_n g_q69 g69_56 (lkN (by decide) (lkN (by decide) (rfl))) ?_
        refine xT_getfield g_q69 g69_57 hA0 rfl (hm_at g2_ (i := 0) rfl rfl) rfl rfl ?_
        refine xT_iaload g_q69 g69_60 hrn0 (hm_c g2_ crn) (ixN (n := 12) (by omega) nrn) (ixG (by omega) (ern _ (by omega))) ?_
        refine xT_istore_n g_q69 g69_61 (by decide) ?_
        refine xT_aload_n g_q69 g69_62 (lkN (by decide) (lkN (by decide) (lkN (by decide) (rfl)))) ?_
        refine xT_getfield g_q69 g69_63 hA0 rfl (hm_at g2_ (i := 0) rfl rfl) rfl rfl ?_
        refine xT_icV (y := nI (1)) g_q69 g69_66 (by decide) ?_
        refine xT_iaddV (y := nI (l + 1)) g_q69 g69_67 (bAddN _ _) ?_
        refine xT_istore g_q69 g69_68 (by decide) ?_
        refine xT_aload_n g_q69 g69_70 (lkN (by decide) (lkN (by decide) (lkN (by decide) (lkN (by decide) (rfl))))) ?_
        refine xT_getfield g_q69 g69_71 hA0 rfl (hm_at g2_ (i := 0) rfl rfl) rfl rfl ?_
        refine xT_getfield g_q69 g69_74 hcA rfl (hm_c g2_ hco) rfl rfl ?_
        refine xT_aload_n g_q69 g69_77 (lkN (by decide) (lkN (by decide) (lkN (by decide) (lkN (by decide) (rfl))))) ?_
        refine xT_getfield g_q69 g69_78 hA0 rfl (hm_at g2_ (i := 0) rfl rfl) rfl rfl ?_
        refine xT_iaload g_q69 g69_81 hro0 (hm_c g2_ cro) (ixN (n := 12) (by omega) nro) (ixG (by omega) (ero _ (by omega))) ?_
        refine xT_tableswitch g_q69 g69_82 (t := 165) (by decide) (by decide) (by dsimp only; rw [hz]; decide) ?_
        refine xT_aload_n g_q69 g69_165 (lkN (by decide) (lkN (by decide) (lkN (by decide) (lkN (by decide) (rfl))))) ?_
        refine xT_iload_n g_q69 g69_166 (lkN (by decide) (lkN (by decide) (lkN (by decide) (lkY)))) ?_
        refine xT_invokevirtual (r := []) (u := none) g_q69 g69_167 (j := 72) (so := 0) (by decide +kernel) g_q72 rfl (by rw [x_rcM hA0 (hm_at g2_ (i := 0) rfl rfl)]; rfl) (y3_) ?_
        refine xT_goto g_q69 g69_170 (t := 367) (by decide) ?_
        refine xT_aload_n g_q69 g69_367 (lkN (by decide) (lkN (by decide) (lkN (by decide) (lkN (by decide) (rfl))))) ?_
        refine xT_invokevirtual (r := []) (u := some (.inl (nI (0)))) g_q69 g69_368 (j := 68) (so := 0) (by decide +kernel) g_q68 rfl (by rw [x_rcM hA0 (hm_at g3_ (i := 0) rfl rfl)]; rfl) (t68r hA0 hA2 g3_) ?_
        refine xT_ifCondN g_q69 g69_371 (t := 380) (by decide) (c1N (b := 0) rfl) ?_
        refine xT_aload_n g_q69 g69_374 (lkN (by decide) (lkN (by decide) (lkN (by decide) (lkN (by decide) (rfl))))) ?_
        refine xT_iload g_q69 g69_375 (lkY) ?_
        refine xT_invokevirtual (r := []) (u := none) g_q69 g69_377 (j := 81) (so := 0) (by decide +kernel) g_q81 rfl (by rw [x_rcM hA0 (hm_at g3_ (i := 0) rfl rfl)]; rfl) (y4_) ?_
        exact xT_return_ g_q69 g69_380 (rfl)
      obtain ⟨H2, y, hh⟩ := key
      refine ⟨H2, y, ?_⟩
      rw [stM_1 (s := (nu_, l, x, d, -1, os, ov)) hz, if_pos (show rNx (nu_, l, x, d, (-1 : Int32), os, ov) < pNi p from hx)]
      exact ⟨_, _, _, _, _, hh, fun _ => rfl, by rw [List.length_set]; exact hnl, nf_set (by omega) hnf (by omega), hol, hof⟩
    · skip
      have key : ∃ H2, x_To x_tb x_tyl ot (dp + 3) 69 0 (x_en 0 [.inr (some (R))]) [] H 0 0 none H2 ∧ hm H0 H2 [R, nu, ob, oi] [.inl (4, [.inr (some (nu)), .inr (some (sp)), .inr (some (co)), .inr (some (se)), .inr (some (inp)), .inr (some (ob)), .inl (pYr p), .inl (nI l), .inl (nI x), .inl (nI (d + 1)), .inl (nI 1), .inl (nI 0), .inl (lw)]), .inr (0, nf), .inl (5, [.inr (some (oi)), .inl (nI (os))]), .inr (0, of)] := by
        have g1_ : hm H0 _ [R, nu, ob, oi] [.inl (4, [.inr (some (nu)), .inr (some (sp)), .inr (some (co)), .inr (some (se)), .inr (some (inp)), .inr (some (ob)), .inl (pYr p), .inl (nI (l)), .inl (nI (x)), .inl (nI (d)), .inl (-1), .inl (nI (0)), .inl (lw)]), .inr (0, nf), .inl (5, [.inr (some (oi)), .inl (nI (os))]), .inr (0, of)] := hm_set (i := 0) (z2 := .inl (4, ([.inr (some (nu)), .inr (some (sp)), .inr (some (co)), .inr (some (se)), .inr (some (inp)), .inr (some (ob)), .inl (pYr p), .inl (nI (l)), .inl (nI (x)), .inl (nI (d)), .inl (-1), .inl (hw), .inl (lw)]).set 11 (.inl (nI (0))))) h rfl
        have g2_ : hm H0 _ [R, nu, ob, oi] [.inl (4, [.inr (some (nu)), .inr (some (sp)), .inr (some (co)), .inr (some (se)), .inr (some (inp)), .inr (some (ob)), .inl (pYr p), .inl (nI (l)), .inl (nI (x)), .inl (nI (d + 1)), .inl (-1), .inl (nI (0)), .inl (lw)]), .inr (0, nf), .inl (5, [.inr (some (oi)), .inl (nI (os))]), .inr (0, of)] := hm_set (i := 0) (z2 := .inl (4, ([.inr (some (nu)), .inr (some (sp)), .inr (some (co)), .inr (some (se)), .inr (some (inp)), .inr (some (ob)), .inl (pYr p), .inl (nI (l)), .inl (nI (x)), .inl (nI (d)), .inl (-1), .inl (nI (0)), .inl (lw)]).set 9 (.inl (nI (d + 1))))) g1_ rfl
        obtain ⟨G3, y3_, g3_⟩ := t72n (dp := dp) (f := pLf p l) hA0 hA2 hN1 hN3 hnl hol hS hI hi12 (by omega) (by omega) (by omega) g2_
        have g3_ : hm H0 G3 [R, nu, ob, oi] [.inl (4, [.inr (some (nu)), .inr (some (sp)), .inr (some (co)), .inr (some (se)), .inr (some (inp)), .inr (some (ob)), .inl (pYr p), .inl (nI (l)), .inl (nI (x)), .inl (nI (d + 1)), .inl (nI (1)), .inl (nI (0)), .inl (lw)]), .inr (0, nf), .inl (5, [.inr (some (oi)), .inl (nI (os))]), .inr (0, of)] := g3_
        refine ⟨_, ?_, g3_⟩
        refine xT_aload_n g_q69 g69_0 (rfl) ?_
        refine xT_icV (y := nI (0)) g_q69 g69_1 (by decide) ?_
        refine xT_putfield g_q69 g69_2 (ci := 4) (j := 11) rfl (hm_at h (i := 0) rfl rfl) rfl rfl ?_
        refine xT_aload_n g_q69 g69_5 (rfl) ?_
        refine xT_invokevirtual (r := []) (u := some (.inl (nI (0)))) g_q69 g69_6 (j := 68) (so := 0) (by decide +kernel) g_q68 rfl (by rw [x_rcM hA0 (hm_at g1_ (i := 0) rfl rfl)]; rfl) (t68r hA0 hA2 g1_) ?_
        refine xT_ifCondY g_q69 g69_9 (t := 13) (by decide) (c0Y (b := 0) rfl) ?_
        refine xT_aload_n g_q69 g69_13 (rfl) ?_
        refine xT_dup g_q69 g69_14 ?_
        refine xT_getfield g_q69 g69_15 hA0 rfl (hm_at g1_ (i := 0) rfl rfl) rfl rfl ?_
        refine xT_icV (y := nI (1)) g_q69 g69_18 (by decide) ?_
        refine xT_iaddV (y := nI (d + 1)) g_q69 g69_19 (bAddN _ _) ?_
        refine xT_putfield g_q69 g69_20 (ci := 4) (j := 9) rfl (hm_at g1_ (i := 0) rfl rfl) rfl rfl ?_
        refine xT_aload_n g_q69 g69_23 (rfl) ?_
        refine xT_getfield g_q69 g69_24 hA0 rfl (hm_at g2_ (i := 0) rfl rfl) rfl rfl ?_
        refine xT_getfield g_q69 g69_27 hcA rfl (hm_c g2_ hco) rfl rfl ?_
        refine xT_aload_n g_q69 g69_30 (rfl) ?_
        refine xT_getfield g_q69 g69_31 hA0 rfl (hm_at g2_ (i := 0) rfl rfl) rfl rfl ?_
        refine xT_iaload g_q69 g69_34 hrl0 (hm_c g2_ crl) (ixN (n := 12) (by omega) nrl) (ixG (by omega) (erl _ (by omega))) ?_
        refine xT_istore_n g_q69 g69_35 (by decide) ?_
        refine xT_aload_n g_q69 g69_36 (lkN (by decide) (rfl)) ?_
        refine xT_getfield g_q69 g69_37 hA0 rfl (hm_at g2_ (i := 0) rfl rfl) rfl rfl ?_
        refine xT_getfield g_q69 g69_40 hcA rfl (hm_c g2_ hco) rfl rfl ?_
        refine xT_aload_n g_q69 g69_43 (lkN (by decide) (rfl)) ?_
        refine xT_getfield g_q69 g69_44 hA0 rfl (hm_at g2_ (i := 0) rfl rfl) rfl rfl ?_
        refine xT_iaload g_q69 g69_47 hrr0 (hm_c g2_ crr) (ixN (n := 12) (by omega) nrr) (ixG (by omega) (err _ (by omega))) ?_
        refine xT_istore_n g_q69 g69_48 (by decide) ?_
        refine xT_aload_n g_q69 g69_49 (lkN (by decide) (lkN (by decide) (rfl))) ?_
        refine xT_getfield g_q69 g69_50 hA0 rfl (hm_at g2_ (i := 0) rfl rfl) rfl rfl ?_
        refine xT_getfield g_q69 g69_53 hcA rfl (hm_c g2_ hco) rfl rfl ?_
        refine xT_aload_n g_q69 g69_56 (lkN (by decide) (lkN (by decide) (rfl))) ?_
        refine xT_getfield g_q69 g69_57 hA0 rfl (hm_at g2_ (i := 0) rfl rfl) rfl rfl ?_
        refine xT_iaload g_q69 g69_60 hrn0 (hm_c g2_ crn) (ixN (n := 12) (by omega) nrn) (ixG (by omega) (ern _ (by omega))) ?_
        refine xT_istore_n g_q69 g69_61 (by decide) ?_
        refine xT_aload_n g_q69 g69_62 (lkN (by decide) (lkN (by decide) (lkN (by decide) (rfl)))) ?_
        refine xT_getfield g_q69 g69_63 hA0 rfl (hm_at g2_ (i := 0) rfl rfl) rfl rfl ?_
        refine xT_icV (y := nI (1)) g_q69 g69_66 (by decide) ?_
        refine xT_iaddV (y := nI (l + 1)) g_q69 g69_67 (bAddN _ _) ?_
        refine xT_istore g_q69 g69_68 (by decide) ?_
        refine xT_aload_n g_q69 g69_70 (lkN (by decide) (lkN (by decide) (lkN (by decide) (lkN (by decide) (rfl))))) ?_
        refine xT_getfield g_q69 g69_71 hA0 rfl (hm_at g2_ (i := 0) rfl rfl) rfl rfl ?_
        refine xT_getfield g_q69 g69_74 hcA rfl (hm_c g2_ hco) rfl rfl ?_
        refine xT_aload_n g_q69 g69_77 (lkN (by decide) (lkN (by decide) (lkN (by decide) (lkN (by decide) (rfl))))) ?_
        refine xT_getfield g_q69 g69_78 hA0 rfl (hm_at g2_ (i := 0) rfl rfl) rfl rfl ?_
        refine xT_iaload g_q69 g69_81 hro0 (hm_c g2_ cro) (ixN (n := 12) (by omega) nro) (ixG (by omega) (ero _ (by omega))) ?_
        refine xT_tableswitch g_q69 g69_82 (t := 165) (by decide) (by decide) (by dsimp only; rw [hz]; decide) ?_
        refine xT_aload_n g_q69 g69_165 (lkN (by decide) (lkN (by decide) (lkN (by decide) (lkN (by decide) (rfl))))) ?_
        refine xT_iload_n g_q69 g69_166 (lkN (by decide) (lkN (by decide) (lkN (by decide) (lkY)))) ?_
        refine xT_invokevirtual (r := []) (u := none) g_q69 g69_167 (j := 72) (so := 0) (by decide +kernel) g_q72 rfl (by rw [x_rcM hA0 (hm_at g2_ (i := 0) rfl rfl)]; rfl) (y3_) ?_
        refine xT_goto g_q69 g69_170 (t := 367) (by decide) ?_
        refine xT_aload_n g_q69 g69_367 (lkN (by decide) (lkN (by decide) (lkN (by decide) (lkN (by decide) (rfl))))) ?_
        refine xT_invokevirtual (r := []) (u := some (.inl (nI (1)))) g_q69 g69_368 (j := 68) (so := 0) (by decide +kernel) g_q68 rfl (by rw [x_rcM hA0 (hm_at g3_ (i := 0) rfl rfl)]; rfl) (t68o hA0 hA2 g3_ (by decide)) ?_
        refine xT_ifCondY g_q69 g69_371 (t := 380) (by decide) (c1Y (a := 1) (b := 0) (by omega) (by omega) (by omega)) ?_
        exact xT_return_ g_q69 g69_380 (rfl)
      obtain ⟨H2, y, hh⟩ := key
      refine ⟨H2, y, ?_⟩
      rw [stM_1 (s := (nu_, l, x, d, -1, os, ov)) hz, if_neg (show ¬ rNx (nu_, l, x, d, (-1 : Int32), os, ov) < pNi p from hx)]
      exact ⟨_, _, _, _, _, hh, fun z => absurd z (show ¬ ((1 : Int32) = -1) by decide), hnl, hnf, hol, hof⟩
  · have hz : pOp p l = 2 := hz
    by_cases ho : os < 12
    · skip
      have key : ∃ H2, x_To x_tb x_tyl ot (dp + 3) 69 0 (x_en 0 [.inr (some (R))]) [] H 0 0 none H2 ∧ hm H0 H2 [R, nu, ob, oi] [.inl (4, [.inr (some (nu)), .inr (some (sp)), .inr (some (co)), .inr (some (se)), .inr (some (inp)), .inr (some (ob)), .inl (pYr p), .inl (nI (l + 1)), .inl (nI x), .inl (nI (d + 1)), .inl (if pNl p ≤ l + 1 then 0 else if d + 1 = 150 then 2 else -1), .inl (nI 1), .inl (nu_ (pLf p l))]), .inr (0, nf), .inl (5, [.inr (some (oi)), .inl (nI (os + 1))]), .inr (0, of.set os (.inl (nu_ (pLf p l))))] := by
        have g1_ : hm H0 _ [R, nu, ob, oi] [.inl (4, [.inr (some (nu)), .inr (some (sp)), .inr (some (co)), .inr (some (se)), .inr (some (inp)), .inr (some (ob)), .inl (pYr p), .inl (nI (l)), .inl (nI (x)), .inl (nI (d)), .inl (-1), .inl (nI (0)), .inl (lw)]), .inr (0, nf), .inl (5, [.inr (some (oi)), .inl (nI (os))]), .inr (0, of)] := hm_set (i := 0) (z2 := .inl (4, ([.inr (some (nu)), .inr (some (sp)), .inr (some (co)), .inr (some (se)), .inr (some (inp)), .inr (some (ob)), .inl (pYr p), .inl (nI (l)), .inl (nI (x)), .inl (nI (d)), .inl (-1), .inl (hw), .inl (lw)]).set 11 (.inl (nI (0))))) h rfl
        have g2_ : hm H0 _ [R, nu, ob, oi] [.inl (4, [.inr (some (nu)), .inr (some (sp)), .inr (some (co)), .inr (some (se)), .inr (some (inp)), .inr (some (ob)), .inl (pYr p), .inl (nI (l)), .inl (nI (x)), .inl (nI (d + 1)), .inl (-1), .inl (nI (0)), .inl (lw)]), .inr (0, nf), .inl (5, [.inr (some (oi)), .inl (nI (os))]), .inr (0, of)] := hm_set (i := 0) (z2 := .inl (4, ([.inr (some (nu)), .inr (some (sp)), .inr (some (co)), .inr (some (se)), .inr (some (inp)), .inr (some (ob)), .inl (pYr p), .inl (nI (l)), .inl (nI (x)), .inl (nI (d)), .inl (-1), .inl (nI (0)), .inl (lw)]).set 9 (.inl (nI (d + 1))))) g1_ rfl
        obtain ⟨G3, y3_, g3_⟩ := t75y (dp := dp + 1) (f := pLf p l) hA0 hA2 hN1 hN3 hnl hol hnf (by omega) ho g2_
        have g3_ : hm H0 G3 [R, nu, ob, oi] [.inl (4, [.inr (some (nu)), .inr (some (sp)), .inr (some (co)), .inr (some (se)), .inr (some (inp)), .inr (some (ob)), .inl (pYr p), .inl (nI (l)), .inl (nI (x)), .inl (nI (d + 1)), .inl (-1), .inl (nI (1)), .inl (nu_ (pLf p (l)))]), .inr (0, nf), .inl (5, [.inr (some (oi)), .inl (nI (os + 1))]), .inr (0, (of).set (os) (.inl (nu_ (pLf p (l)))))] := g3_
        obtain ⟨G4, y4_, g4_⟩ := t81 (dp := dp + 2) (next := l + 1) (d := d + 1) hA0 hA2 hC h12 (by omega) (by omega) g3_
        have g4_ : hm H0 G4 [R, nu, ob, oi] [.inl (4, [.inr (some (nu)), .inr (some (sp)), .inr (some (co)), .inr (some (se)), .inr (some (inp)), .inr (some (ob)), .inl (pYr p), .inl (nI (l + 1)), .inl (nI (x)), .inl (nI (d + 1)), .inl ((if pNl p ≤ l + 1 then 0 else if d + 1 = 150 then 2 else -1)), .inl (nI (1)), .inl (nu_ (pLf p (l)))]), .inr (0, nf), .inl (5, [.inr (some (oi)), .inl (nI (os + 1))]), .inr (0, (of).set (os) (.inl (nu_ (pLf p (l)))))] := g4_
        refine ⟨_, ?_, g4_⟩
        refine xT_aload_n g_q69 g69_0 (rfl) ?_
        refine xT_icV (y := nI (0)) g_q69 g69_1 (by decide) ?_
        refine xT_putfield g_q69 g69_2 (ci := 4) (j := 11) rfl (hm_at h (i := 0) rfl rfl) rfl rfl ?_
        refine xT_aload_n g_q69 g69_5 (rfl) ?_
        refine xT_invokevirtual (r := []) (u := some (.inl (nI (0)))) g_q69 g69_6 (j := 68) (so := 0) (by decide +kernel) g_q68 rfl (by rw [x_rcM hA0 (hm_at g1_ (i := 0) rfl rfl)]; rfl) (t68r hA0 hA2 g1_) ?_
        refine xT_ifCondY g_q69 g69_9 (t := 13) (by decide) (c0Y (b := 0) rfl) ?_
        refine xT_aload_n g_q69 g69_13 (rfl) ?_
        refine xT_dup g_q69 g69_14 ?_
        refine xT_getfield g_q69 g69_15 hA0 rfl (hm_at g1_ (i := 0) rfl rfl) rfl rfl ?_
        refine xT_icV (y := nI (1)) g_q69 g69_18 (by decide) ?_
        refine xT_iaddV (y := nI (d + 1)) g_q69 g69_19 (bAddN _ _) ?_
        refine xT_putfield g_q69 g69_20 (ci := 4) (j := 9) rfl (hm_at g1_ (i := 0) rfl rfl) rfl rfl ?_
        refine xT_aload_n g_q69 g69_23 (rfl) ?_
        refine xT_getfield g_q69 g69_24 hA0 rfl (hm_at g2_ (i := 0) rfl rfl) rfl rfl ?_
        refine xT_getfield g_q69 g69_27 hcA rfl (hm_c g2_ hco) rfl rfl ?_
        refine xT_aload_n g_q69 g69_30 (rfl) ?_
        refine xT_getfield g_q69 g69_31 hA0 rfl (hm_at g2_ (i := 0) rfl rfl) rfl rfl ?_
        refine xT_iaload g_q69 g69_34 hrl0 (hm_c g2_ crl) (ixN (n := 12) (by omega) nrl) (ixG (by omega) (erl _ (by omega))) ?_
        refine xT_istore_n g_q69 g69_35 (by decide) ?_
        refine xT_aload_n g_q69 g69_36 (lkN (by decide) (rfl)) ?_
        refine xT_getfield g_q69 g69_37 hA0 rfl (hm_at g2_ (i := 0) rfl rfl) rfl rfl ?_
        refine xT_getfield g_q69 g69_40 hcA rfl (hm_c g2_ hco) rfl rfl ?_
        refine xT_aload_n g_q69 g69_43 (lkN (by decide) (rfl)) ?_
        refine xT_getfield g_q69 g69_44 hA0 rfl (hm_at g2_ (i := 0) rfl rfl) rfl rfl ?_
        refine xT_iaload g_q69 g69_47 hrr0 (hm_c g2_ crr) (ixN (n := 12) (by omega) nrr) (ixG (by omega) (err _ (by omega))) ?_
        refine xT_istore_n g_q69 g69_48 (by decide) ?_
        refine xT_aload_n g_q69 g69_49 (lkN (by decide) (lkN (by decide) (rfl))) ?_
        refine xT_getfield g_q69 g69_50 hA0 rfl (hm_at g2_ (i := 0) rfl rfl) rfl rfl ?_
        refine xT_getfield g_q69 g69_53 hcA rfl (hm_c g2_ hco) rfl rfl ?_
        refine xT_aload_n g_q69 g69_56 (lkN (by decide) (lkN (by decide) (rfl))) ?_
        refine xT_getfield g_q69 g69_57 hA0 rfl (hm_at g2_ (i := 0) rfl rfl) rfl rfl ?_
        refine xT_iaload g_q69 g69_60 hrn0 (hm_c g2_ crn) (ixN (n := 12) (by omega) nrn) (ixG (by omega) (ern _ (by omega))) ?_
        refine xT_istore_n g_q69 g69_61 (by decide) ?_
        refine xT_aload_n g_q69 g69_62 (lkN (by decide) (lkN (by decide) (lkN (by decide) (rfl)))) ?_
        refine xT_getfield g_q69 g69_63 hA0 rfl (hm_at g2_ (i := 0) rfl rfl) rfl rfl ?_
        refine xT_icV (y := nI (1)) g_q69 g69_66 (by decide) ?_
        refine xT_iaddV (y := nI (l + 1)) g_q69 g69_67 (bAddN _ _) ?_
        refine xT_istore g_q69 g69_68 (by decide) ?_
        refine xT_aload_n g_q69 g69_70 (lkN (by decide) (lkN (by decide) (lkN (by decide) (lkN (by decide) (rfl))))) ?_
        refine xT_getfield g_q69 g69_71 hA0 rfl (hm_at g2_ (i := 0) rfl rfl) rfl rfl ?_
        refine xT_getfield g_q69 g69_74 hcA rfl (hm_c g2_ hco) rfl rfl ?_
        refine xT_aload_n g_q69 g69_77 (lkN (by decide) (lkN (by decide) (lkN (by decide) (lkN (by decide) (rfl))))) ?_
        refine xT_getfield g_q69 g69_78 hA0 rfl (hm_at g2_ (i := 0) rfl rfl) rfl rfl ?_
        refine xT_iaload g_q69 g69_81 hro0 (hm_c g2_ cro) (ixN (n := 12) (by omega) nro) (ixG (by omega) (ero _ (by omega))) ?_
        refine xT_tableswitch g_q69 g69_82 (t := 173) (by decide) (by decide) (by dsimp only; rw [hz]; decide) ?_
        refine xT_aload_n g_q69 g69_173 (lkN (by decide) (lkN (by decide) (lkN (by decide) (lkN (by decide) (rfl))))) ?_
        refine xT_iload_n g_q69 g69_174 (lkN (by decide) (lkN (by decide) (lkN (by decide) (lkY)))) ?_
        refine xT_invokevirtual (r := []) (u := none) g_q69 g69_175 (j := 75) (so := 0) (by decide +kernel) g_q75 rfl (by rw [x_rcM hA0 (hm_at g2_ (i := 0) rfl rfl)]; rfl) (y3_) ?_
        refine xT_goto g_q69 g69_178 (t := 367) (by decide) ?_
        refine xT_aload_n g_q69 g69_367 (lkN (by decide) (lkN (by decide) (lkN (by decide) (lkN (by decide) (rfl))))) ?_
        refine xT_invokevirtual (r := []) (u := some (.inl (nI (0)))) g_q69 g69_368 (j := 68) (so := 0) (by decide +kernel) g_q68 rfl (by rw [x_rcM hA0 (hm_at g3_ (i := 0) rfl rfl)]; rfl) (t68r hA0 hA2 g3_) ?_
        refine xT_ifCondN g_q69 g69_371 (t := 380) (by decide) (c1N (b := 0) rfl) ?_
        refine xT_aload_n g_q69 g69_374 (lkN (by decide) (lkN (by decide) (lkN (by decide) (lkN (by decide) (rfl))))) ?_
        refine xT_iload g_q69 g69_375 (lkY) ?_
        refine xT_invokevirtual (r := []) (u := none) g_q69 g69_377 (j := 81) (so := 0) (by decide +kernel) g_q81 rfl (by rw [x_rcM hA0 (hm_at g3_ (i := 0) rfl rfl)]; rfl) (y4_) ?_
        exact xT_return_ g_q69 g69_380 (rfl)
      obtain ⟨H2, y, hh⟩ := key
      refine ⟨H2, y, ?_⟩
      rw [stM_2 (s := (nu_, l, x, d, -1, os, ov)) hz, if_pos (show rOs (nu_, l, x, d, (-1 : Int32), os, ov) < 12 from ho)]
      exact ⟨_, _, _, _, _, hh, fun _ => rfl, hnl, hnf, by rw [List.length_set]; exact hol, of_set (show os < of.length by omega) hof⟩
    · skip
      have key : ∃ H2, x_To x_tb x_tyl ot (dp + 3) 69 0 (x_en 0 [.inr (some (R))]) [] H 0 0 none H2 ∧ hm H0 H2 [R, nu, ob, oi] [.inl (4, [.inr (some (nu)), .inr (some (sp)), .inr (some (co)), .inr (some (se)), .inr (some (inp)), .inr (some (ob)), .inl (pYr p), .inl (nI l), .inl (nI x), .inl (nI (d + 1)), .inl (nI 1), .inl (nI 0), .inl (nu_ (pLf p l))]), .inr (0, nf), .inl (5, [.inr (some (oi)), .inl (nI (os))]), .inr (0, of)] := by
        have g1_ : hm H0 _ [R, nu, ob, oi] [.inl (4, [.inr (some (nu)), .inr (some (sp)), .inr (some (co)), .inr (some (se)), .inr (some (inp)), .inr (some (ob)), .inl (pYr p), .inl (nI (l)), .inl (nI (x)), .inl (nI (d)), .inl (-1), .inl (nI (0)), .inl (lw)]), .inr (0, nf), .inl (5, [.inr (some (oi)), .inl (nI (os))]), .inr (0, of)] := hm_set (i := 0) (z2 := .inl (4, ([.inr (some (nu)), .inr (some (sp)), .inr (some (co)), .inr (some (se)), .inr (some (inp)), .inr (some (ob)), .inl (pYr p), .inl (nI (l)), .inl (nI (x)), .inl (nI (d)), .inl (-1), .inl (hw), .inl (lw)]).set 11 (.inl (nI (0))))) h rfl
        have g2_ : hm H0 _ [R, nu, ob, oi] [.inl (4, [.inr (some (nu)), .inr (some (sp)), .inr (some (co)), .inr (some (se)), .inr (some (inp)), .inr (some (ob)), .inl (pYr p), .inl (nI (l)), .inl (nI (x)), .inl (nI (d + 1)), .inl (-1), .inl (nI (0)), .inl (lw)]), .inr (0, nf), .inl (5, [.inr (some (oi)), .inl (nI (os))]), .inr (0, of)] := hm_set (i := 0) (z2 := .inl (4, ([.inr (some (nu)), .inr (some (sp)), .inr (some (co)), .inr (some (se)), .inr (some (inp)), .inr (some (ob)), .inl (pYr p), .inl (nI (l)), .inl (nI (x)), .inl (nI (d)), .inl (-1), .inl (nI (0)), .inl (lw)]).set 9 (.inl (nI (d + 1))))) g1_ rfl
        obtain ⟨G3, y3_, g3_⟩ := t75n (dp := dp + 1) (f := pLf p l) hA0 hA2 hN1 hN3 hnl hol hnf (by omega) (by omega) (by omega) g2_
        have g3_ : hm H0 G3 [R, nu, ob, oi] [.inl (4, [.inr (some (nu)), .inr (some (sp)), .inr (some (co)), .inr (some (se)), .inr (some (inp)), .inr (some (ob)), .inl (pYr p), .inl (nI (l)), .inl (nI (x)), .inl (nI (d + 1)), .inl (nI (1)), .inl (nI (0)), .inl (nu_ (pLf p (l)))]), .inr (0, nf), .inl (5, [.inr (some (oi)), .inl (nI (os))]), .inr (0, of)] := g3_
        refine ⟨_, ?_, g3_⟩
        refine xT_aload_n g_q69 g69_0 (rfl) ?_
        refine xT_icV (y := nI (0)) g_q69 g69_1 (by decide) ?_
        refine xT_putfield g_q69 g69_2 (ci := 4) (j := 11) rfl (hm_at h (i := 0) rfl rfl) rfl rfl ?_
        refine xT_aload_n g_q69 g69_5 (rfl) ?_
        refine xT_invokevirtual (r := []) (u := some (.inl (nI (0)))) g_q69 g69_6 (j := 68) (so := 0) (by decide +kernel) g_q68 rfl (by rw [x_rcM hA0 (hm_at g1_ (i := 0) rfl rfl)]; rfl) (t68r hA0 hA2 g1_) ?_
        refine xT_ifCondY g_q69 g69_9 (t := 13) (by decide) (c0Y (b := 0) rfl) ?_
        refine xT_aload_n g_q69 g69_13 (rfl) ?_
        refine xT_dup g_q69 g69_14 ?_
        refine xT_getfield g_q69 g69_15 hA0 rfl (hm_at g1_ (i := 0) rfl rfl) rfl rfl ?_
        refine xT_icV (y := nI (1)) g_q69 g69_18 (by decide) ?_
        refine xT_iaddV (y := nI (d + 1)) g_q69 g69_19 (bAddN _ _) ?_
        refine xT_putfield g_q69 g69_20 (ci := 4) (j := 9) rfl (hm_at g1_ (i := 0) rfl rfl) rfl rfl ?_
        refine xT_aload_n g_q69 g69_23 (rfl) ?_
        refine xT_getfield g_q69 g69_24 hA0 rfl (hm_at g2_ (i := 0) rfl rfl) rfl rfl ?_
        refine xT_getfield g_q69 g69_27 hcA rfl (hm_c g2_ hco) rfl rfl ?_
        refine xT_aload_n g_q69 g69_30 (rfl) ?_
        refine xT_getfield g_q69 g69_31 hA0 rfl (hm_at g2_ (i := 0) rfl rfl) rfl rfl ?_
        refine xT_iaload g_q69 g69_34 hrl0 (hm_c g2_ crl) (ixN (n := 12) (by omega) nrl) (ixG (by omega) (erl _ (by omega))) ?_
        refine xT_istore_n g_q69 g69_35 (by decide) ?_
        refine xT_aload_n g_q69 g69_36 (lkN (by decide) (rfl)) ?_
        refine xT_getfield g_q69 g69_37 hA0 rfl (hm_at g2_ (i := 0) rfl rfl) rfl rfl ?_
        refine xT_getfield g_q69 g69_40 hcA rfl (hm_c g2_ hco) rfl rfl ?_
        refine xT_aload_n g_q69 g69_43 (lkN (by decide) (rfl)) ?_
        refine xT_getfield g_q69 g69_44 hA0 rfl (hm_at g2_ (i := 0) rfl rfl) rfl rfl ?_
        refine xT_iaload g_q69 g69_47 hrr0 (hm_c g2_ crr) (ixN (n := 12) (by omega) nrr) (ixG (by omega) (err _ (by omega))) ?_
        refine xT_istore_n g_q69 g69_48 (by decide) ?_
        refine xT_aload_n g_q69 g69_49 (lkN (by decide) (lkN (by decide) (rfl))) ?_
        refine xT_getfield g_q69 g69_50 hA0 rfl (hm_at g2_ (i := 0) rfl rfl) rfl rfl ?_
        refine xT_getfield g_q69 g69_53 hcA rfl (hm_c g2_ hco) rfl rfl ?_
        refine xT_aload_n g_q69 g69_56 (lkN (by decide) (lkN (by decide) (rfl))) ?_
        refine xT_getfield g_q69 g69_57 hA0 rfl (hm_at g2_ (i := 0) rfl rfl) rfl rfl ?_
        refine xT_iaload g_q69 g69_60 hrn0 (hm_c g2_ crn) (ixN (n := 12) (by omega) nrn) (ixG (by omega) (ern _ (by omega))) ?_
        refine xT_istore_n g_q69 g69_61 (by decide) ?_
        refine xT_aload_n g_q69 g69_62 (lkN (by decide) (lkN (by decide) (lkN (by decide) (rfl)))) ?_
        refine xT_getfield g_q69 g69_63 hA0 rfl (hm_at g2_ (i := 0) rfl rfl) rfl rfl ?_
        refine xT_icV (y := nI (1)) g_q69 g69_66 (by decide) ?_
        refine xT_iaddV (y := nI (l + 1)) g_q69 g69_67 (bAddN _ _) ?_
        refine xT_istore g_q69 g69_68 (by decide) ?_
        refine xT_aload_n g_q69 g69_70 (lkN (by decide) (lkN (by decide) (lkN (by decide) (lkN (by decide) (rfl))))) ?_
        refine xT_getfield g_q69 g69_71 hA0 rfl (hm_at g2_ (i := 0) rfl rfl) rfl rfl ?_
        refine xT_getfield g_q69 g69_74 hcA rfl (hm_c g2_ hco) rfl rfl ?_
        refine xT_aload_n g_q69 g69_77 (lkN (by decide) (lkN (by decide) (lkN (by decide) (lkN (by decide) (rfl))))) ?_
        refine xT_getfield g_q69 g69_78 hA0 rfl (hm_at g2_ (i := 0) rfl rfl) rfl rfl ?_
        refine xT_iaload g_q69 g69_81 hro0 (hm_c g2_ cro) (ixN (n := 12) (by omega) nro) (ixG (by omega) (ero _ (by omega))) ?_
        refine xT_tableswitch g_q69 g69_82 (t := 173) (by decide) (by decide) (by dsimp only; rw [hz]; decide) ?_
        refine xT_aload_n g_q69 g69_173 (lkN (by decide) (lkN (by decide) (lkN (by decide) (lkN (by decide) (rfl))))) ?_
        refine xT_iload_n g_q69 g69_174 (lkN (by decide) (lkN (by decide) (lkN (by decide) (lkY)))) ?_
        refine xT_invokevirtual (r := []) (u := none) g_q69 g69_175 (j := 75) (so := 0) (by decide +kernel) g_q75 rfl (by rw [x_rcM hA0 (hm_at g2_ (i := 0) rfl rfl)]; rfl) (y3_) ?_
        refine xT_goto g_q69 g69_178 (t := 367) (by decide) ?_
        refine xT_aload_n g_q69 g69_367 (lkN (by decide) (lkN (by decide) (lkN (by decide) (lkN (by decide) (rfl))))) ?_
        refine xT_invokevirtual (r := []) (u := some (.inl (nI (1)))) g_q69 g69_368 (j := 68) (so := 0) (by decide +kernel) g_q68 rfl (by rw [x_rcM hA0 (hm_at g3_ (i := 0) rfl rfl)]; rfl) (t68o hA0 hA2 g3_ (by decide)) ?_
        refine xT_ifCondY g_q69 g69_371 (t := 380) (by decide) (c1Y (a := 1) (b := 0) (by omega) (by omega) (by omega)) ?_
        exact xT_return_ g_q69 g69_380 (rfl)
      obtain ⟨H2, y, hh⟩ := key
      refine ⟨H2, y, ?_⟩
      rw [stM_2 (s := (nu_, l, x, d, -1, os, ov)) hz, if_neg (show ¬ rOs (nu_, l, x, d, (-1 : Int32), os, ov) < 12 from ho)]
      exact ⟨_, _, _, _, _, hh, fun z => absurd z (show ¬ ((1 : Int32) = -1) by decide), hnl, hnf, hol, hof⟩
  · have hz : pOp p l = 3 := hz
    have key : ∃ H2, x_To x_tb x_tyl ot (dp + 3) 69 0 (x_en 0 [.inr (some (R))]) [] H 0 0 none H2 ∧ hm H0 H2 [R, nu, ob, oi] [.inl (4, [.inr (some (nu)), .inr (some (sp)), .inr (some (co)), .inr (some (se)), .inr (some (inp)), .inr (some (ob)), .inl (pYr p), .inl (nI (l + 1)), .inl (nI x), .inl (nI (d + 1)), .inl (if pNl p ≤ l + 1 then 0 else if d + 1 = 150 then 2 else -1), .inl (nI 0), .inl (lw)]), .inr (0, nf.set (pLf p l) (.inl (pCut p (nI (pNm p l))))), .inl (5, [.inr (some (oi)), .inl (nI (os))]), .inr (0, of)] := by
      have g1_ : hm H0 _ [R, nu, ob, oi] [.inl (4, [.inr (some (nu)), .inr (some (sp)), .inr (some (co)), .inr (some (se)), .inr (some (inp)), .inr (some (ob)), .inl (pYr p), .inl (nI (l)), .inl (nI (x)), .inl (nI (d)), .inl (-1), .inl (nI (0)), .inl (lw)]), .inr (0, nf), .inl (5, [.inr (some (oi)), .inl (nI (os))]), .inr (0, of)] := hm_set (i := 0) (z2 := .inl (4, ([.inr (some (nu)), .inr (some (sp)), .inr (some (co)), .inr (some (se)), .inr (some (inp)), .inr (some (ob)), .inl (pYr p), .inl (nI (l)), .inl (nI (x)), .inl (nI (d)), .inl (-1), .inl (hw), .inl (lw)]).set 11 (.inl (nI (0))))) h rfl
      have g2_ : hm H0 _ [R, nu, ob, oi] [.inl (4, [.inr (some (nu)), .inr (some (sp)), .inr (some (co)), .inr (some (se)), .inr (some (inp)), .inr (some (ob)), .inl (pYr p), .inl (nI (l)), .inl (nI (x)), .inl (nI (d + 1)), .inl (-1), .inl (nI (0)), .inl (lw)]), .inr (0, nf), .inl (5, [.inr (some (oi)), .inl (nI (os))]), .inr (0, of)] := hm_set (i := 0) (z2 := .inl (4, ([.inr (some (nu)), .inr (some (sp)), .inr (some (co)), .inr (some (se)), .inr (some (inp)), .inr (some (ob)), .inl (pYr p), .inl (nI (l)), .inl (nI (x)), .inl (nI (d)), .inl (-1), .inl (nI (0)), .inl (lw)]).set 9 (.inl (nI (d + 1))))) g1_ rfl
      have g3_ : hm H0 _ [R, nu, ob, oi] [.inl (4, [.inr (some (nu)), .inr (some (sp)), .inr (some (co)), .inr (some (se)), .inr (some (inp)), .inr (some (ob)), .inl (pYr p), .inl (nI (l)), .inl (nI (x)), .inl (nI (d + 1)), .inl (-1), .inl (nI (0)), .inl (lw)]), .inr (0, (nf).set (pLf p (l)) (.inl ((pCut p (nI (pNm p (l))))))), .inl (5, [.inr (some (oi)), .inl (nI (os))]), .inr (0, of)] := hm_set (i := 1) (z2 := .inr (0, (nf).set (pLf p (l)) (.inl ((pCut p (nI (pNm p (l)))))))) g2_ rfl
      obtain ⟨G4, y4_, g4_⟩ := t81 (dp := dp + 2) (next := l + 1) (d := d + 1) hA0 hA2 hC h12 (by omega) (by omega) g3_
      have g4_ : hm H0 G4 [R, nu, ob, oi] [.inl (4, [.inr (some (nu)), .inr (some (sp)), .inr (some (co)), .inr (some (se)), .inr (some (inp)), .inr (some (ob)), .inl (pYr p), .inl (nI (l + 1)), .inl (nI (x)), .inl (nI (d + 1)), .inl ((if pNl p ≤ l + 1 then 0 else if d + 1 = 150 then 2 else -1)), .inl (nI (0)), .inl (lw)]), .inr (0, (nf).set (pLf p (l)) (.inl ((pCut p (nI (pNm p (l))))))), .inl (5, [.inr (some (oi)), .inl (nI (os))]), .inr (0, of)] := g4_
      refine ⟨_, ?_, g4_⟩
      refine xT_aload_n g_q69 g69_0 (rfl) ?_
      refine xT_icV (y := nI (0)) g_q69 g69_1 (by decide) ?_
      refine xT_putfield g_q69 g69_2 (ci := 4) (j := 11) rfl (hm_at h (i := 0) rfl rfl) rfl rfl ?_
      refine xT_aload_n g_q69 g69_5 (rfl) ?_
      refine xT_invokevirtual (r := []) (u := some (.inl (nI (0)))) g_q69 g69_6 (j := 68) (so := 0) (by decide +kernel) g_q68 rfl (by rw [x_rcM hA0 (hm_at g1_ (i := 0) rfl rfl)]; rfl) (t68r hA0 hA2 g1_) ?_
      refine xT_ifCondY g_q69 g69_9 (t := 13) (by decide) (c0Y (b := 0) rfl) ?_
      refine xT_aload_n g_q69 g69_13 (rfl) ?_
      refine xT_dup g_q69 g69_14 ?_
      refine xT_getfield g_q69 g69_15 hA0 rfl (hm_at g1_ (i := 0) rfl rfl) rfl rfl ?_
      refine xT_icV (y := nI (1)) g_q69 g69_18 (by decide) ?_
      refine xT_iaddV (y := nI (d + 1)) g_q69 g69_19 (bAddN _ _) ?_
      refine xT_putfield g_q69 g69_20 (ci := 4) (j := 9) rfl (hm_at g1_ (i := 0) rfl rfl) rfl rfl ?_
      refine xT_aload_n g_q69 g69_23 (rfl) ?_
      refine xT_getfield g_q69 g69_24 hA0 rfl (hm_at g2_ (i := 0) rfl rfl) rfl rfl ?_
      refine xT_getfield g_q69 g69_27 hcA rfl (hm_c g2_ hco) rfl rfl ?_
      refine xT_aload_n g_q69 g69_30 (rfl) ?_
      refine xT_getfield g_q69 g69_31 hA0 rfl (hm_at g2_ (i := 0) rfl rfl) rfl rfl ?_
      refine xT_iaload g_q69 g69_34 hrl0 (hm_c g2_ crl) (ixN (n := 12) (by omega) nrl) (ixG (by omega) (erl _ (by omega))) ?_
      refine xT_istore_n g_q69 g69_35 (by decide) ?_
      refine xT_aload_n g_q69 g69_36 (lkN (by decide) (rfl)) ?_
      refine xT_getfield g_q69 g69_37 hA0 rfl (hm_at g2_ (i := 0) rfl rfl) rfl rfl ?_
      refine xT_getfield g_q69 g69_40 hcA rfl (hm_c g2_ hco) rfl rfl ?_
      refine xT_aload_n g_q69 g69_43 (lkN (by decide) (rfl)) ?_
      refine xT_getfield g_q69 g69_44 hA0 rfl (hm_at g2_ (i := 0) rfl rfl) rfl rfl ?_
      refine xT_iaload g_q69 g69_47 hrr0 (hm_c g2_ crr) (ixN (n := 12) (by omega) nrr) (ixG (by omega) (err _ (by omega))) ?_
      refine xT_istore_n g_q69 g69_48 (by decide) ?_
      refine xT_aload_n g_q69 g69_49 (lkN (by decide) (lkN (by decide) (rfl))) ?_
      refine xT_getfield g_q69 g69_50 hA0 rfl (hm_at g2_ (i := 0) rfl rfl) rfl rfl ?_
      refine xT_getfield g_q69 g69_53 hcA rfl (hm_c g2_ hco) rfl rfl ?_
      refine xT_aload_n g_q69 g69_56 (lkN (by decide) (lkN (by decide) (rfl))) ?_
      refine xT_getfield g_q69 g69_57 hA0 rfl (hm_at g2_ (i := 0) rfl rfl) rfl rfl ?_
      refine xT_iaload g_q69 g69_60 hrn0 (hm_c g2_ crn) (ixN (n := 12) (by omega) nrn) (ixG (by omega) (ern _ (by omega))) ?_
      refine xT_istore_n g_q69 g69_61 (by decide) ?_
      refine xT_aload_n g_q69 g69_62 (lkN (by decide) (lkN (by decide) (lkN (by decide) (rfl)))) ?_
      refine xT_getfield g_q69 g69_63 hA0 rfl (hm_at g2_ (i := 0) rfl rfl) rfl rfl ?_
      refine xT_icV (y := nI (1)) g_q69 g69_66 (by decide) ?_
      refine xT_iaddV (y := nI (l + 1)) g_q69 g69_67 (bAddN _ _) ?_
      refine xT_istore g_q69 g69_68 (by decide) ?_
      refine xT_aload_n g_q69 g69_70 (lkN (by decide) (lkN (by decide) (lkN (by decide) (lkN (by decide) (rfl))))) ?_
      refine xT_getfield g_q69 g69_71 hA0 rfl (hm_at g2_ (i := 0) rfl rfl) rfl rfl ?_
      refine xT_getfield g_q69 g69_74 hcA rfl (hm_c g2_ hco) rfl rfl ?_
      refine xT_aload_n g_q69 g69_77 (lkN (by decide) (lkN (by decide) (lkN (by decide) (lkN (by decide) (rfl))))) ?_
      refine xT_getfield g_q69 g69_78 hA0 rfl (hm_at g2_ (i := 0) rfl rfl) rfl rfl ?_
      refine xT_iaload g_q69 g69_81 hro0 (hm_c g2_ cro) (ixN (n := 12) (by omega) nro) (ixG (by omega) (ero _ (by omega))) ?_
      refine xT_tableswitch g_q69 g69_82 (t := 181) (by decide) (by decide) (by dsimp only; rw [hz]; decide) ?_
      refine xT_aload_n g_q69 g69_181 (lkN (by decide) (lkN (by decide) (lkN (by decide) (lkN (by decide) (rfl))))) ?_
      refine xT_getfield g_q69 g69_182 hA0 rfl (hm_at g2_ (i := 0) rfl rfl) rfl rfl ?_
      refine xT_iload_n g_q69 g69_185 (lkN (by decide) (lkN (by decide) (lkN (by decide) (lkY)))) ?_
      refine xT_aload_n g_q69 g69_186 (lkN (by decide) (lkN (by decide) (lkN (by decide) (lkN (by decide) (rfl))))) ?_
      refine xT_getfield g_q69 g69_187 hA0 rfl (hm_at g2_ (i := 0) rfl rfl) rfl rfl ?_
      refine xT_iload_n g_q69 g69_190 (lkN (by decide) (lkN (by decide) (lkN (by decide) (lkY)))) ?_
      refine xT_iload_n g_q69 g69_191 (lkN (by decide) (lkY)) ?_
      refine xT_invokevirtual (r := [.inl (nI (pLf p (l))), .inr (some (nu))]) (u := some (.inl ((pCut p (nI (pNm p (l))))))) g_q69 g69_192 (j := 70) (so := 0) (by decide +kernel) g_q70 rfl (by rw [x_rcM hsA (hm_c g2_ hsR)]; rfl) (t70 (dp := dp + 1) g2_ hS (by omega) (v := nI (pNm p (l)))) ?_
      refine xT_iastore g_q69 g69_195 (hm_at g2_ (i := 1) rfl rfl) (ixN (n := 6) (by omega) hnl) ?_
      rw [nI_clamp (by omega)]
      refine xT_goto g_q69 g69_196 (t := 367) (by decide) ?_
      refine xT_aload_n g_q69 g69_367 (lkN (by decide) (lkN (by decide) (lkN (by decide) (lkN (by decide) (rfl))))) ?_
      refine xT_invokevirtual (r := []) (u := some (.inl (nI (0)))) g_q69 g69_368 (j := 68) (so := 0) (by decide +kernel) g_q68 rfl (by rw [x_rcM hA0 (hm_at g3_ (i := 0) rfl rfl)]; rfl) (t68r hA0 hA2 g3_) ?_
      refine xT_ifCondN g_q69 g69_371 (t := 380) (by decide) (c1N (b := 0) rfl) ?_
      refine xT_aload_n g_q69 g69_374 (lkN (by decide) (lkN (by decide) (lkN (by decide) (lkN (by decide) (rfl))))) ?_
      refine xT_iload g_q69 g69_375 (lkY) ?_
      refine xT_invokevirtual (r := []) (u := none) g_q69 g69_377 (j := 81) (so := 0) (by decide +kernel) g_q81 rfl (by rw [x_rcM hA0 (hm_at g3_ (i := 0) rfl rfl)]; rfl) (y4_) ?_
      exact xT_return_ g_q69 g69_380 (rfl)
    obtain ⟨H2, y, hh⟩ := key
    refine ⟨H2, y, ?_⟩
    rw [stM_3 (s := (nu_, l, x, d, -1, os, ov)) hz]
    exact ⟨_, _, _, _, _, hh, fun _ => rfl, by rw [List.length_set]; exact hnl, nf_set (by omega) hnf (by omega), hol, hof⟩
  · have hz : pOp p l = 4 := hz
    have key : ∃ H2, x_To x_tb x_tyl ot (dp + 3) 69 0 (x_en 0 [.inr (some (R))]) [] H 0 0 none H2 ∧ hm H0 H2 [R, nu, ob, oi] [.inl (4, [.inr (some (nu)), .inr (some (sp)), .inr (some (co)), .inr (some (se)), .inr (some (inp)), .inr (some (ob)), .inl (pYr p), .inl (nI (l + 1)), .inl (nI x), .inl (nI (d + 1)), .inl (if pNl p ≤ l + 1 then 0 else if d + 1 = 150 then 2 else -1), .inl (nI 0), .inl (lw)]), .inr (0, nf.set (pLf p l) (.inl (pCut p (nu_ (pRt p l))))), .inl (5, [.inr (some (oi)), .inl (nI (os))]), .inr (0, of)] := by
      have g1_ : hm H0 _ [R, nu, ob, oi] [.inl (4, [.inr (some (nu)), .inr (some (sp)), .inr (some (co)), .inr (some (se)), .inr (some (inp)), .inr (some (ob)), .inl (pYr p), .inl (nI (l)), .inl (nI (x)), .inl (nI (d)), .inl (-1), .inl (nI (0)), .inl (lw)]), .inr (0, nf), .inl (5, [.inr (some (oi)), .inl (nI (os))]), .inr (0, of)] := hm_set (i := 0) (z2 := .inl (4, ([.inr (some (nu)), .inr (some (sp)), .inr (some (co)), .inr (some (se)), .inr (some (inp)), .inr (some (ob)), .inl (pYr p), .inl (nI (l)), .inl (nI (x)), .inl (nI (d)), .inl (-1), .inl (hw), .inl (lw)]).set 11 (.inl (nI (0))))) h rfl
      have g2_ : hm H0 _ [R, nu, ob, oi] [.inl (4, [.inr (some (nu)), .inr (some (sp)), .inr (some (co)), .inr (some (se)), .inr (some (inp)), .inr (some (ob)), .inl (pYr p), .inl (nI (l)), .inl (nI (x)), .inl (nI (d + 1)), .inl (-1), .inl (nI (0)), .inl (lw)]), .inr (0, nf), .inl (5, [.inr (some (oi)), .inl (nI (os))]), .inr (0, of)] := hm_set (i := 0) (z2 := .inl (4, ([.inr (some (nu)), .inr (some (sp)), .inr (some (co)), .inr (some (se)), .inr (some (inp)), .inr (some (ob)), .inl (pYr p), .inl (nI (l)), .inl (nI (x)), .inl (nI (d)), .inl (-1), .inl (nI (0)), .inl (lw)]).set 9 (.inl (nI (d + 1))))) g1_ rfl
      have g3_ : hm H0 _ [R, nu, ob, oi] [.inl (4, [.inr (some (nu)), .inr (some (sp)), .inr (some (co)), .inr (some (se)), .inr (some (inp)), .inr (some (ob)), .inl (pYr p), .inl (nI (l)), .inl (nI (x)), .inl (nI (d + 1)), .inl (-1), .inl (nI (0)), .inl (lw)]), .inr (0, (nf).set (pLf p (l)) (.inl ((pCut p (nu_ (pRt p (l))))))), .inl (5, [.inr (some (oi)), .inl (nI (os))]), .inr (0, of)] := hm_set (i := 1) (z2 := .inr (0, (nf).set (pLf p (l)) (.inl ((pCut p (nu_ (pRt p (l)))))))) g2_ rfl
      obtain ⟨G4, y4_, g4_⟩ := t81 (dp := dp + 2) (next := l + 1) (d := d + 1) hA0 hA2 hC h12 (by omega) (by omega) g3_
      have g4_ : hm H0 G4 [R, nu, ob, oi] [.inl (4, [.inr (some (nu)), .inr (some (sp)), .inr (some (co)), .inr (some (se)), .inr (some (inp)), .inr (some (ob)), .inl (pYr p), .inl (nI (l + 1)), .inl (nI (x)), .inl (nI (d + 1)), .inl ((if pNl p ≤ l + 1 then 0 else if d + 1 = 150 then 2 else -1)), .inl (nI (0)), .inl (lw)]), .inr (0, (nf).set (pLf p (l)) (.inl ((pCut p (nu_ (pRt p (l))))))), .inl (5, [.inr (some (oi)), .inl (nI (os))]), .inr (0, of)] := g4_
      refine ⟨_, ?_, g4_⟩
      refine xT_aload_n g_q69 g69_0 (rfl) ?_
      refine xT_icV (y := nI (0)) g_q69 g69_1 (by decide) ?_
      refine xT_putfield g_q69 g69_2 (ci := 4) (j := 11) rfl (hm_at h (i := 0) rfl rfl) rfl rfl ?_
      refine xT_aload_n g_q69 g69_5 (rfl) ?_
      refine xT_invokevirtual (r := []) (u := some (.inl (nI (0)))) g_q69 g69_6 (j := 68) (so := 0) (by decide +kernel) g_q68 rfl (by rw [x_rcM hA0 (hm_at g1_ (i := 0) rfl rfl)]; rfl) (t68r hA0 hA2 g1_) ?_
      refine xT_ifCondY g_q69 g69_9 (t := 13) (by decide) (c0Y (b := 0) rfl) ?_
      refine xT_aload_n g_q69 g69_13 (rfl) ?_
      refine xT_dup g_q69 g69_14 ?_
      refine xT_getfield g_q69 g69_15 hA0 rfl (hm_at g1_ (i := 0) rfl rfl) rfl rfl ?_
      refine xT_icV (y := nI (1)) g_q69 g69_18 (by decide) ?_
      refine xT_iaddV (y := nI (d + 1)) g_q69 g69_19 (bAddN _ _) ?_
      refine xT_putfield g_q69 g69_20 (ci := 4) (j := 9) rfl (hm_at g1_ (i := 0) rfl rfl) rfl rfl ?_
      refine xT_aload_n g_q69 g69_23 (rfl) ?_
      refine xT_getfield g_q69 g69_24 hA0 rfl (hm_at g2_ (i := 0) rfl rfl) rfl rfl ?_
      refine xT_getfield g_q69 g69_27 hcA rfl (hm_c g2_ hco) rfl rfl ?_
      refine xT_aload_n g_q69 g69_30 (rfl) ?_
      refine xT_getfield g_q69 g69_31 hA0 rfl (hm_at g2_ (i := 0) rfl rfl) rfl rfl ?_
      refine xT_iaload g_q69 g69_34 hrl0 (hm_c g2_ crl) (ixN (n := 12) (by omega) nrl) (ixG (by omega) (erl _ (by omega))) ?_
      refine xT_istore_n g_q69 g69_35 (by decide) ?_
      refine xT_aload_n g_q69 g69_36 (lkN (by decide) (rfl)) ?_
      refine xT_getfield g_q69 g69_37 hA0 rfl (hm_at g2_ (i := 0) rfl rfl) rfl rfl ?_
      refine xT_getfield g_q69 g69_40 hcA rfl (hm_c g2_ hco) rfl rfl ?_
      refine xT_aload_n g_q69 g69_43 (lkN (by decide) (rfl)) ?_
      refine xT_getfield g_q69 g69_44 hA0 rfl (hm_at g2_ (i := 0) rfl rfl) rfl rfl ?_
      refine xT_iaload g_q69 g69_47 hrr0 (hm_c g2_ crr) (ixN (n := 12) (by omega) nrr) (ixG (by omega) (err _ (by omega))) ?_
      refine xT_istore_n g_q69 g69_48 (by decide) ?_
      refine xT_aload_n g_q69 g69_49 (lkN (by decide) (lkN (by decide) (rfl))) ?_
      refine xT_getfield g_q69 g69_50 hA0 rfl (hm_at g2_ (i := 0) rfl rfl) rfl rfl ?_
      refine xT_getfield g_q69 g69_53 hcA rfl (hm_c g2_ hco) rfl rfl ?_
      refine xT_aload_n g_q69 g69_56 (lkN (by decide) (lkN (by decide) (rfl))) ?_
      refine xT_getfield g_q69 g69_57 hA0 rfl (hm_at g2_ (i := 0) rfl rfl) rfl rfl ?_
      refine xT_iaload g_q69 g69_60 hrn0 (hm_c g2_ crn) (ixN (n := 12) (by omega) nrn) (ixG (by omega) (ern _ (by omega))) ?_
      refine xT_istore_n g_q69 g69_61 (by decide) ?_
      refine xT_aload_n g_q69 g69_62 (lkN (by decide) (lkN (by decide) (lkN (by decide) (rfl)))) ?_
      refine xT_getfield g_q69 g69_63 hA0 rfl (hm_at g2_ (i := 0) rfl rfl) rfl rfl ?_
      refine xT_icV (y := nI (1)) g_q69 g69_66 (by decide) ?_
      refine xT_iaddV (y := nI (l + 1)) g_q69 g69_67 (bAddN _ _) ?_
      refine xT_istore g_q69 g69_68 (by decide) ?_
      refine xT_aload_n g_q69 g69_70 (lkN (by decide) (lkN (by decide) (lkN (by decide) (lkN (by decide) (rfl))))) ?_
      refine xT_getfield g_q69 g69_71 hA0 rfl (hm_at g2_ (i := 0) rfl rfl) rfl rfl ?_
      refine xT_getfield g_q69 g69_74 hcA rfl (hm_c g2_ hco) rfl rfl ?_
      refine xT_aload_n g_q69 g69_77 (lkN (by decide) (lkN (by decide) (lkN (by decide) (lkN (by decide) (rfl))))) ?_
      refine xT_getfield g_q69 g69_78 hA0 rfl (hm_at g2_ (i := 0) rfl rfl) rfl rfl ?_
      refine xT_iaload g_q69 g69_81 hro0 (hm_c g2_ cro) (ixN (n := 12) (by omega) nro) (ixG (by omega) (ero _ (by omega))) ?_
      refine xT_tableswitch g_q69 g69_82 (t := 199) (by decide) (by decide) (by dsimp only; rw [hz]; decide) ?_
      refine xT_aload_n g_q69 g69_199 (lkN (by decide) (lkN (by decide) (lkN (by decide) (lkN (by decide) (rfl))))) ?_
      refine xT_getfield g_q69 g69_200 hA0 rfl (hm_at g2_ (i := 0) rfl rfl) rfl rfl ?_
      refine xT_iload_n g_q69 g69_203 (lkN (by decide) (lkN (by decide) (lkN (by decide) (lkY)))) ?_
      refine xT_aload_n g_q69 g69_204 (lkN (by decide) (lkN (by decide) (lkN (by decide) (lkN (by decide) (rfl))))) ?_
      refine xT_getfield g_q69 g69_205 hA0 rfl (hm_at g2_ (i := 0) rfl rfl) rfl rfl ?_
      refine xT_iload_n g_q69 g69_208 (lkN (by decide) (lkN (by decide) (lkN (by decide) (lkY)))) ?_
      refine xT_aload_n g_q69 g69_209 (lkN (by decide) (lkN (by decide) (lkN (by decide) (lkN (by decide) (rfl))))) ?_
      refine xT_getfield g_q69 g69_210 hA0 rfl (hm_at g2_ (i := 0) rfl rfl) rfl rfl ?_
      refine xT_iload_n g_q69 g69_213 (lkN (by decide) (lkN (by decide) (lkY))) ?_
      refine xT_iaload g_q69 g69_214 hN1 (hm_at g2_ (i := 1) rfl rfl) (ixN (n := 6) (by omega) hnl) (ixG (by omega) (hnf _ (by omega))) ?_
      refine xT_invokevirtual (r := [.inl (nI (pLf p (l))), .inr (some (nu))]) (u := some (.inl ((pCut p (nu_ (pRt p (l))))))) g_q69 g69_215 (j := 70) (so := 0) (by decide +kernel) g_q70 rfl (by rw [x_rcM hsA (hm_c g2_ hsR)]; rfl) (t70 (dp := dp + 1) g2_ hS (by omega) (v := nu_ (pRt p (l)))) ?_
      refine xT_iastore g_q69 g69_218 (hm_at g2_ (i := 1) rfl rfl) (ixN (n := 6) (by omega) hnl) ?_
      rw [nI_clamp (by omega)]
      refine xT_goto g_q69 g69_219 (t := 367) (by decide) ?_
      refine xT_aload_n g_q69 g69_367 (lkN (by decide) (lkN (by decide) (lkN (by decide) (lkN (by decide) (rfl))))) ?_
      refine xT_invokevirtual (r := []) (u := some (.inl (nI (0)))) g_q69 g69_368 (j := 68) (so := 0) (by decide +kernel) g_q68 rfl (by rw [x_rcM hA0 (hm_at g3_ (i := 0) rfl rfl)]; rfl) (t68r hA0 hA2 g3_) ?_
      refine xT_ifCondN g_q69 g69_371 (t := 380) (by decide) (c1N (b := 0) rfl) ?_
      refine xT_aload_n g_q69 g69_374 (lkN (by decide) (lkN (by decide) (lkN (by decide) (lkN (by decide) (rfl))))) ?_
      refine xT_iload g_q69 g69_375 (lkY) ?_
      refine xT_invokevirtual (r := []) (u := none) g_q69 g69_377 (j := 81) (so := 0) (by decide +kernel) g_q81 rfl (by rw [x_rcM hA0 (hm_at g3_ (i := 0) rfl rfl)]; rfl) (y4_) ?_
      exact xT_return_ g_q69 g69_380 (rfl)
    obtain ⟨H2, y, hh⟩ := key
    refine ⟨H2, y, ?_⟩
    rw [stM_4 (s := (nu_, l, x, d, -1, os, ov)) hz]
    exact ⟨_, _, _, _, _, hh, fun _ => rfl, by rw [List.length_set]; exact hnl, nf_set (by omega) hnf (by omega), hol, hof⟩
  · have hz : pOp p l = 5 := hz
    have key : ∃ H2, x_To x_tb x_tyl ot (dp + 3) 69 0 (x_en 0 [.inr (some (R))]) [] H 0 0 none H2 ∧ hm H0 H2 [R, nu, ob, oi] [.inl (4, [.inr (some (nu)), .inr (some (sp)), .inr (some (co)), .inr (some (se)), .inr (some (inp)), .inr (some (ob)), .inl (pYr p), .inl (nI (l + 1)), .inl (nI x), .inl (nI (d + 1)), .inl (if pNl p ≤ l + 1 then 0 else if d + 1 = 150 then 2 else -1), .inl (nI 0), .inl (lw)]), .inr (0, nf.set (pLf p l) (.inl (pCut p (nu_ (pLf p l) + nu_ (pRt p l))))), .inl (5, [.inr (some (oi)), .inl (nI (os))]), .inr (0, of)] := by
      have g1_ : hm H0 _ [R, nu, ob, oi] [.inl (4, [.inr (some (nu)), .inr (some (sp)), .inr (some (co)), .inr (some (se)), .inr (some (inp)), .inr (some (ob)), .inl (pYr p), .inl (nI (l)), .inl (nI (x)), .inl (nI (d)), .inl (-1), .inl (nI (0)), .inl (lw)]), .inr (0, nf), .inl (5, [.inr (some (oi)), .inl (nI (os))]), .inr (0, of)] := hm_set (i := 0) (z2 := .inl (4, ([.inr (some (nu)), .inr (some (sp)), .inr (some (co)), .inr (some (se)), .inr (some (inp)), .inr (some (ob)), .inl (pYr p), .inl (nI (l)), .inl (nI (x)), .inl (nI (d)), .inl (-1), .inl (hw), .inl (lw)]).set 11 (.inl (nI (0))))) h rfl
      have g2_ : hm H0 _ [R, nu, ob, oi] [.inl (4, [.inr (some (nu)), .inr (some (sp)), .inr (some (co)), .inr (some (se)), .inr (some (inp)), .inr (some (ob)), .inl (pYr p), .inl (nI (l)), .inl (nI (x)), .inl (nI (d + 1)), .inl (-1), .inl (nI (0)), .inl (lw)]), .inr (0, nf), .inl (5, [.inr (some (oi)), .inl (nI (os))]), .inr (0, of)] := hm_set (i := 0) (z2 := .inl (4, ([.inr (some (nu)), .inr (some (sp)), .inr (some (co)), .inr (some (se)), .inr (some (inp)), .inr (some (ob)), .inl (pYr p), .inl (nI (l)), .inl (nI (x)), .inl (nI (d)), .inl (-1), .inl (nI (0)), .inl (lw)]).set 9 (.inl (nI (d + 1))))) g1_ rfl
      have g3_ : hm H0 _ [R, nu, ob, oi] [.inl (4, [.inr (some (nu)), .inr (some (sp)), .inr (some (co)), .inr (some (se)), .inr (some (inp)), .inr (some (ob)), .inl (pYr p), .inl (nI (l)), .inl (nI (x)), .inl (nI (d + 1)), .inl (-1), .inl (nI (0)), .inl (lw)]), .inr (0, (nf).set (pLf p (l)) (.inl ((pCut p ((nu_ (pLf p (l)) + nu_ (pRt p (l)))))))), .inl (5, [.inr (some (oi)), .inl (nI (os))]), .inr (0, of)] := hm_set (i := 1) (z2 := .inr (0, (nf).set (pLf p (l)) (.inl ((pCut p ((nu_ (pLf p (l)) + nu_ (pRt p (l))))))))) g2_ rfl
      obtain ⟨G4, y4_, g4_⟩ := t81 (dp := dp + 2) (next := l + 1) (d := d + 1) hA0 hA2 hC h12 (by omega) (by omega) g3_
      have g4_ : hm H0 G4 [R, nu, ob, oi] [.inl (4, [.inr (some (nu)), .inr (some (sp)), .inr (some (co)), .inr (some (se)), .inr (some (inp)), .inr (some (ob)), .inl (pYr p), .inl (nI (l + 1)), .inl (nI (x)), .inl (nI (d + 1)), .inl ((if pNl p ≤ l + 1 then 0 else if d + 1 = 150 then 2 else -1)), .inl (nI (0)), .inl (lw)]), .inr (0, (nf).set (pLf p (l)) (.inl ((pCut p ((nu_ (pLf p (l)) + nu_ (pRt p (l)))))))), .inl (5, [.inr (some (oi)), .inl (nI (os))]), .inr (0, of)] := g4_
      refine ⟨_, ?_, g4_⟩
      refine xT_aload_n g_q69 g69_0 (rfl) ?_
      refine xT_icV (y := nI (0)) g_q69 g69_1 (by decide) ?_
      refine xT_putfield g_q69 g69_2 (ci := 4) (j := 11) rfl (hm_at h (i := 0) rfl rfl) rfl rfl ?_
      refine xT_aload_n g_q69 g69_5 (rfl) ?_
      refine xT_invokevirtual (r := []) (u := some (.inl (nI (0)))) g_q69 g69_6 (j := 68) (so := 0) (by decide +kernel) g_q68 rfl (by rw [x_rcM hA0 (hm_at g1_ (i := 0) rfl rfl)]; rfl) (t68r hA0 hA2 g1_) ?_
      refine xT_ifCondY g_q69 g69_9 (t := 13) (by decide) (c0Y (b := 0) rfl) ?_
      refine xT_aload_n g_q69 g69_13 (rfl) ?_
      refine xT_dup g_q69 g69_14 ?_
      refine xT_getfield g_q69 g69_15 hA0 rfl (hm_at g1_ (i := 0) rfl rfl) rfl rfl ?_
      refine xT_icV (y := nI (1)) g_q69 g69_18 (by decide) ?_
      refine xT_iaddV (y := nI (d + 1)) g_q69 g69_19 (bAddN _ _) ?_
      refine xT_putfield g_q69 g69_20 (ci := 4) (j := 9) rfl (hm_at g1_ (i := 0) rfl rfl) rfl rfl ?_
      refine xT_aload_n g_q69 g69_23 (rfl) ?_
      refine xT_getfield g_q69 g69_24 hA0 rfl (hm_at g2_ (i := 0) rfl rfl) rfl rfl ?_
      refine xT_getfield g_q69 g69_27 hcA rfl (hm_c g2_ hco) rfl rfl ?_
      refine xT_aload_n g_q69 g69_30 (rfl) ?_
      refine xT_getfield g_q69 g69_31 hA0 rfl (hm_at g2_ (i := 0) rfl rfl) rfl rfl ?_
      refine xT_iaload g_q69 g69_34 hrl0 (hm_c g2_ crl) (ixN (n := 12) (by omega) nrl) (ixG (by omega) (erl _ (by omega))) ?_
      refine xT_istore_n g_q69 g69_35 (by decide) ?_
      refine xT_aload_n g_q69 g69_36 (lkN (by decide) (rfl)) ?_
      refine xT_getfield g_q69 g69_37 hA0 rfl (hm_at g2_ (i := 0) rfl rfl) rfl rfl ?_
      refine xT_getfield g_q69 g69_40 hcA rfl (hm_c g2_ hco) rfl rfl ?_
      refine xT_aload_n g_q69 g69_43 (lkN (by decide) (rfl)) ?_
      refine xT_getfield g_q69 g69_44 hA0 rfl (hm_at g2_ (i := 0) rfl rfl) rfl rfl ?_
      refine xT_iaload g_q69 g69_47 hrr0 (hm_c g2_ crr) (ixN (n := 12) (by omega) nrr) (ixG (by omega) (err _ (by omega))) ?_
      refine xT_istore_n g_q69 g69_48 (by decide) ?_
      refine xT_aload_n g_q69 g69_49 (lkN (by decide) (lkN (by decide) (rfl))) ?_
      refine xT_getfield g_q69 g69_50 hA0 rfl (hm_at g2_ (i := 0) rfl rfl) rfl rfl ?_
      refine xT_getfield g_q69 g69_53 hcA rfl (hm_c g2_ hco) rfl rfl ?_
      refine xT_aload_n g_q69 g69_56 (lkN (by decide) (lkN (by decide) (rfl))) ?_
      refine xT_getfield g_q69 g69_57 hA0 rfl (hm_at g2_ (i := 0) rfl rfl) rfl rfl ?_
      refine xT_iaload g_q69 g69_60 hrn0 (hm_c g2_ crn) (ixN (n := 12) (by omega) nrn) (ixG (by omega) (ern _ (by omega))) ?_
      refine xT_istore_n g_q69 g69_61 (by decide) ?_
      refine xT_aload_n g_q69 g69_62 (lkN (by decide) (lkN (by decide) (lkN (by decide) (rfl)))) ?_
      refine xT_getfield g_q69 g69_63 hA0 rfl (hm_at g2_ (i := 0) rfl rfl) rfl rfl ?_
      refine xT_icV (y := nI (1)) g_q69 g69_66 (by decide) ?_
      refine xT_iaddV (y := nI (l + 1)) g_q69 g69_67 (bAddN _ _) ?_
      refine xT_istore g_q69 g69_68 (by decide) ?_
      refine xT_aload_n g_q69 g69_70 (lkN (by decide) (lkN (by decide) (lkN (by decide) (lkN (by decide) (rfl))))) ?_
      refine xT_getfield g_q69 g69_71 hA0 rfl (hm_at g2_ (i := 0) rfl rfl) rfl rfl ?_
      refine xT_getfield g_q69 g69_74 hcA rfl (hm_c g2_ hco) rfl rfl ?_
      refine xT_aload_n g_q69 g69_77 (lkN (by decide) (lkN (by decide) (lkN (by decide) (lkN (by decide) (rfl))))) ?_
      refine xT_getfield g_q69 g69_78 hA0 rfl (hm_at g2_ (i := 0) rfl rfl) rfl rfl ?_
      refine xT_iaload g_q69 g69_81 hro0 (hm_c g2_ cro) (ixN (n := 12) (by omega) nro) (ixG (by omega) (ero _ (by omega))) ?_
      refine xT_tableswitch g_q69 g69_82 (t := 222) (by decide) (by decide) (by dsimp only; rw [hz]; decide) ?_
      refine xT_aload_n g_q69 g69_222 (lkN (by decide) (lkN (by decide) (lkN (by decide) (lkN (by decide) (rfl))))) ?_
      refine xT_getfield g_q69 g69_223 hA0 rfl (hm_at g2_ (i := 0) rfl rfl) rfl rfl ?_
      refine xT_iload_n g_q69 g69_226 (lkN (by decide) (lkN (by decide) (lkN (by decide) (lkY)))) ?_
      refine xT_aload_n g_q69 g69_227 (lkN (by decide) (lkN (by decide) (lkN (by decide) (lkN (by decide) (rfl))))) ?_
      refine xT_getfield g_q69 g69_228 hA0 rfl (hm_at g2_ (i := 0) rfl rfl) rfl rfl ?_
      refine xT_iload_n g_q69 g69_231 (lkN (by decide) (lkN (by decide) (lkN (by decide) (lkY)))) ?_
      refine xT_aload_n g_q69 g69_232 (lkN (by decide) (lkN (by decide) (lkN (by decide) (lkN (by decide) (rfl))))) ?_
      refine xT_getfield g_q69 g69_233 hA0 rfl (hm_at g2_ (i := 0) rfl rfl) rfl rfl ?_
      refine xT_iload_n g_q69 g69_236 (lkN (by decide) (lkN (by decide) (lkN (by decide) (lkY)))) ?_
      refine xT_iaload g_q69 g69_237 hN1 (hm_at g2_ (i := 1) rfl rfl) (ixN (n := 6) (by omega) hnl) (ixG (by omega) (hnf _ (by omega))) ?_
      refine xT_aload_n g_q69 g69_238 (lkN (by decide) (lkN (by decide) (lkN (by decide) (lkN (by decide) (rfl))))) ?_
      refine xT_getfield g_q69 g69_239 hA0 rfl (hm_at g2_ (i := 0) rfl rfl) rfl rfl ?_
      refine xT_iload_n g_q69 g69_242 (lkN (by decide) (lkN (by decide) (lkY))) ?_
      refine xT_iaload g_q69 g69_243 hN1 (hm_at g2_ (i := 1) rfl rfl) (ixN (n := 6) (by omega) hnl) (ixG (by omega) (hnf _ (by omega))) ?_
      refine xT_iaddV (y := (nu_ (pLf p (l)) + nu_ (pRt p (l)))) g_q69 g69_244 (rfl) ?_
      refine xT_invokevirtual (r := [.inl (nI (pLf p (l))), .inr (some (nu))]) (u := some (.inl ((pCut p ((nu_ (pLf p (l)) + nu_ (pRt p (l)))))))) g_q69 g69_245 (j := 70) (so := 0) (by decide +kernel) g_q70 rfl (by rw [x_rcM hsA (hm_c g2_ hsR)]; rfl) (t70 (dp := dp + 1) g2_ hS (by omega) (v := (nu_ (pLf p (l)) + nu_ (pRt p (l))))) ?_
      refine xT_iastore g_q69 g69_248 (hm_at g2_ (i := 1) rfl rfl) (ixN (n := 6) (by omega) hnl) ?_
      rw [nI_clamp (by omega)]
      refine xT_goto g_q69 g69_249 (t := 367) (by decide) ?_
      refine xT_aload_n g_q69 g69_367 (lkN (by decide) (lkN (by decide) (lkN (by decide) (lkN (by decide) (rfl))))) ?_
      refine xT_invokevirtual (r := []) (u := some (.inl (nI (0)))) g_q69 g69_368 (j := 68) (so := 0) (by decide +kernel) g_q68 rfl (by rw [x_rcM hA0 (hm_at g3_ (i := 0) rfl rfl)]; rfl) (t68r hA0 hA2 g3_) ?_
      refine xT_ifCondN g_q69 g69_371 (t := 380) (by decide) (c1N (b := 0) rfl) ?_
      refine xT_aload_n g_q69 g69_374 (lkN (by decide) (lkN (by decide) (lkN (by decide) (lkN (by decide) (rfl))))) ?_
      refine xT_iload g_q69 g69_375 (lkY) ?_
      refine xT_invokevirtual (r := []) (u := none) g_q69 g69_377 (j := 81) (so := 0) (by decide +kernel) g_q81 rfl (by rw [x_rcM hA0 (hm_at g3_ (i := 0) rfl rfl)]; rfl) (y4_) ?_
      exact xT_return_ g_q69 g69_380 (rfl)
    obtain ⟨H2, y, hh⟩ := key
    refine ⟨H2, y, ?_⟩
    rw [stM_5 (s := (nu_, l, x, d, -1, os, ov)) hz]
    exact ⟨_, _, _, _, _, hh, fun _ => rfl, by rw [List.length_set]; exact hnl, nf_set (by omega) hnf (by omega), hol, hof⟩
  · have hz : pOp p l = 6 := hz
    have key : ∃ H2, x_To x_tb x_tyl ot (dp + 3) 69 0 (x_en 0 [.inr (some (R))]) [] H 0 0 none H2 ∧ hm H0 H2 [R, nu, ob, oi] [.inl (4, [.inr (some (nu)), .inr (some (sp)), .inr (some (co)), .inr (some (se)), .inr (some (inp)), .inr (some (ob)), .inl (pYr p), .inl (nI (l + 1)), .inl (nI x), .inl (nI (d + 1)), .inl (if pNl p ≤ l + 1 then 0 else if d + 1 = 150 then 2 else -1), .inl (nI 0), .inl (lw)]), .inr (0, nf.set (pLf p l) (.inl (pCut p (nu_ (pLf p l) - nu_ (pRt p l))))), .inl (5, [.inr (some (oi)), .inl (nI (os))]), .inr (0, of)] := by
      have g1_ : hm H0 _ [R, nu, ob, oi] [.inl (4, [.inr (some (nu)), .inr (some (sp)), .inr (some (co)), .inr (some (se)), .inr (some (inp)), .inr (some (ob)), .inl (pYr p), .inl (nI (l)), .inl (nI (x)), .inl (nI (d)), .inl (-1), .inl (nI (0)), .inl (lw)]), .inr (0, nf), .inl (5, [.inr (some (oi)), .inl (nI (os))]), .inr (0, of)] := hm_set (i := 0) (z2 := .inl (4, ([.inr (some (nu)), .inr (some (sp)), .inr (some (co)), .inr (some (se)), .inr (some (inp)), .inr (some (ob)), .inl (pYr p), .inl (nI (l)), .inl (nI (x)), .inl (nI (d)), .inl (-1), .inl (hw), .inl (lw)]).set 11 (.inl (nI (0))))) h rfl
      have g2_ : hm H0 _ [R, nu, ob, oi] [.inl (4, [.inr (some (nu)), .inr (some (sp)), .inr (some (co)), .inr (some (se)), .inr (some (inp)), .inr (some (ob)), .inl (pYr p), .inl (nI (l)), .inl (nI (x)), .inl (nI (d + 1)), .inl (-1), .inl (nI (0)), .inl (lw)]), .inr (0, nf), .inl (5, [.inr (some (oi)), .inl (nI (os))]), .inr (0, of)] := hm_set (i := 0) (z2 := .inl (4, ([.inr (some (nu)), .inr (some (sp)), .inr (some (co)), .inr (some (se)), .inr (some (inp)), .inr (some (ob)), .inl (pYr p), .inl (nI (l)), .inl (nI (x)), .inl (nI (d)), .inl (-1), .inl (nI (0)), .inl (lw)]).set 9 (.inl (nI (d + 1))))) g1_ rfl
      have g3_ : hm H0 _ [R, nu, ob, oi] [.inl (4, [.inr (some (nu)), .inr (some (sp)), .inr (some (co)), .inr (some (se)), .inr (some (inp)), .inr (some (ob)), .inl (pYr p), .inl (nI (l)), .inl (nI (x)), .inl (nI (d + 1)), .inl (-1), .inl (nI (0)), .inl (lw)]), .inr (0, (nf).set (pLf p (l)) (.inl ((pCut p ((nu_ (pLf p (l)) - nu_ (pRt p (l)))))))), .inl (5, [.inr (some (oi)), .inl (nI (os))]), .inr (0, of)] := hm_set (i := 1) (z2 := .inr (0, (nf).set (pLf p (l)) (.inl ((pCut p ((nu_ (pLf p (l)) - nu_ (pRt p (l))))))))) g2_ rfl
      obtain ⟨G4, y4_, g4_⟩ := t81 (dp := dp + 2) (next := l + 1) (d := d + 1) hA0 hA2 hC h12 (by omega) (by omega) g3_
      have g4_ : hm H0 G4 [R, nu, ob, oi] [.inl (4, [.inr (some (nu)), .inr (some (sp)), .inr (some (co)), .inr (some (se)), .inr (some (inp)), .inr (some (ob)), .inl (pYr p), .inl (nI (l + 1)), .inl (nI (x)), .inl (nI (d + 1)), .inl ((if pNl p ≤ l + 1 then 0 else if d + 1 = 150 then 2 else -1)), .inl (nI (0)), .inl (lw)]), .inr (0, (nf).set (pLf p (l)) (.inl ((pCut p ((nu_ (pLf p (l)) - nu_ (pRt p (l)))))))), .inl (5, [.inr (some (oi)), .inl (nI (os))]), .inr (0, of)] := g4_
      refine ⟨_, ?_, g4_⟩
      refine xT_aload_n g_q69 g69_0 (rfl) ?_
      refine xT_icV (y := nI (0)) g_q69 g69_1 (by decide) ?_
      refine xT_putfield g_q69 g69_2 (ci := 4) (j := 11) rfl (hm_at h (i := 0) rfl rfl) rfl rfl ?_
      refine xT_aload_n g_q69 g69_5 (rfl) ?_
      refine xT_invokevirtual (r := []) (u := some (.inl (nI (0)))) g_q69 g69_6 (j := 68) (so := 0) (by decide +kernel) g_q68 rfl (by rw [x_rcM hA0 (hm_at g1_ (i := 0) rfl rfl)]; rfl) (t68r hA0 hA2 g1_) ?_
      refine xT_ifCondY g_q69 g69_9 (t := 13) (by decide) (c0Y (b := 0) rfl) ?_
      refine xT_aload_n g_q69 g69_13 (rfl) ?_
      refine xT_dup g_q69 g69_14 ?_
      refine xT_getfield g_q69 g69_15 hA0 rfl (hm_at g1_ (i := 0) rfl rfl) rfl rfl ?_
      refine xT_icV (y := nI (1)) g_q69 g69_18 (by decide) ?_
      refine xT_iaddV (y := nI (d + 1)) g_q69 g69_19 (bAddN _ _) ?_
      refine xT_putfield g_q69 g69_20 (ci := 4) (j := 9) rfl (hm_at g1_ (i := 0) rfl rfl) rfl rfl ?_
      refine xT_aload_n g_q69 g69_23 (rfl) ?_
      refine xT_getfield g_q69 g69_24 hA0 rfl (hm_at g2_ (i := 0) rfl rfl) rfl rfl ?_
      refine xT_getfield g_q69 g69_27 hcA rfl (hm_c g2_ hco) rfl rfl ?_
      refine xT_aload_n g_q69 g69_30 (rfl) ?_
      refine xT_getfield g_q69 g69_31 hA0 rfl (hm_at g2_ (i := 0) rfl rfl) rfl rfl ?_
      refine xT_iaload g_q69 g69_34 hrl0 (hm_c g2_ crl) (ixN (n := 12) (by omega) nrl) (ixG (by omega) (erl _ (by omega))) ?_
      refine xT_istore_n g_q69 g69_35 (by decide) ?_
      refine xT_aload_n g_q69 g69_36 (lkN (by decide) (rfl)) ?_
      refine xT_getfield g_q69 g69_37 hA0 rfl (hm_at g2_ (i := 0) rfl rfl) rfl rfl ?_
      refine xT_getfield g_q69 g69_40 hcA rfl (hm_c g2_ hco) rfl rfl ?_
      refine xT_aload_n g_q69 g69_43 (lkN (by decide) (rfl)) ?_
      refine xT_getfield g_q69 g69_44 hA0 rfl (hm_at g2_ (i := 0) rfl rfl) rfl rfl ?_
      refine xT_iaload g_q69 g69_47 hrr0 (hm_c g2_ crr) (ixN (n := 12) (by omega) nrr) (ixG (by omega) (err _ (by omega))) ?_
      refine xT_istore_n g_q69 g69_48 (by decide) ?_
      refine xT_aload_n g_q69 g69_49 (lkN (by decide) (lkN (by decide) (rfl))) ?_
      refine xT_getfield g_q69 g69_50 hA0 rfl (hm_at g2_ (i := 0) rfl rfl) rfl rfl ?_
      refine xT_getfield g_q69 g69_53 hcA rfl (hm_c g2_ hco) rfl rfl ?_
      refine xT_aload_n g_q69 g69_56 (lkN (by decide) (lkN (by decide) (rfl))) ?_
      refine xT_getfield g_q69 g69_57 hA0 rfl (hm_at g2_ (i := 0) rfl rfl) rfl rfl ?_
      refine xT_iaload g_q69 g69_60 hrn0 (hm_c g2_ crn) (ixN (n := 12) (by omega) nrn) (ixG (by omega) (ern _ (by omega))) ?_
      refine xT_istore_n g_q69 g69_61 (by decide) ?_
      refine xT_aload_n g_q69 g69_62 (lkN (by decide) (lkN (by decide) (lkN (by decide) (rfl)))) ?_
      refine xT_getfield g_q69 g69_63 hA0 rfl (hm_at g2_ (i := 0) rfl rfl) rfl rfl ?_
      refine xT_icV (y := nI (1)) g_q69 g69_66 (by decide) ?_
      refine xT_iaddV (y := nI (l + 1)) g_q69 g69_67 (bAddN _ _) ?_
      refine xT_istore g_q69 g69_68 (by decide) ?_
      refine xT_aload_n g_q69 g69_70 (lkN (by decide) (lkN (by decide) (lkN (by decide) (lkN (by decide) (rfl))))) ?_
      refine xT_getfield g_q69 g69_71 hA0 rfl (hm_at g2_ (i := 0) rfl rfl) rfl rfl ?_
      refine xT_getfield g_q69 g69_74 hcA rfl (hm_c g2_ hco) rfl rfl ?_
      refine xT_aload_n g_q69 g69_77 (lkN (by decide) (lkN (by decide) (lkN (by decide) (lkN (by decide) (rfl))))) ?_
      refine xT_getfield g_q69 g69_78 hA0 rfl (hm_at g2_ (i := 0) rfl rfl) rfl rfl ?_
      refine xT_iaload g_q69 g69_81 hro0 (hm_c g2_ cro) (ixN (n := 12) (by omega) nro) (ixG (by omega) (ero _ (by omega))) ?_
      refine xT_tableswitch g_q69 g69_82 (t := 252) (by decide) (by decide) (by dsimp only; rw [hz]; decide) ?_
      refine xT_aload_n g_q69 g69_252 (lkN (by decide) (lkN (by decide) (lkN (by decide) (lkN (by decide) (rfl))))) ?_
      refine xT_getfield g_q69 g69_253 hA0 rfl (hm_at g2_ (i := 0) rfl rfl) rfl rfl ?_
      refine xT_iload_n g_q69 g69_256 (lkN (by decide) (lkN (by decide) (lkN (by decide) (lkY)))) ?_
      refine xT_aload_n g_q69 g69_257 (lkN (by decide) (lkN (by decide) (lkN (by decide) (lkN (by decide) (rfl))))) ?_
      refine xT_getfield g_q69 g69_258 hA0 rfl (hm_at g2_ (i := 0) rfl rfl) rfl rfl ?_
      refine xT_iload_n g_q69 g69_261 (lkN (by decide) (lkN (by decide) (lkN (by decide) (lkY)))) ?_
      refine xT_aload_n g_q69 g69_262 (lkN (by decide) (lkN (by decide) (lkN (by decide) (lkN (by decide) (rfl))))) ?_
      refine xT_getfield g_q69 g69_263 hA0 rfl (hm_at g2_ (i := 0) rfl rfl) rfl rfl ?_
      refine xT_iload_n g_q69 g69_266 (lkN (by decide) (lkN (by decide) (lkN (by decide) (lkY)))) ?_
      refine xT_iaload g_q69 g69_267 hN1 (hm_at g2_ (i := 1) rfl rfl) (ixN (n := 6) (by omega) hnl) (ixG (by omega) (hnf _ (by omega))) ?_
      refine xT_aload_n g_q69 g69_268 (lkN (by decide) (lkN (by decide) (lkN (by decide) (lkN (by decide) (rfl))))) ?_
      refine xT_getfield g_q69 g69_269 hA0 rfl (hm_at g2_ (i := 0) rfl rfl) rfl rfl ?_
      refine xT_iload_n g_q69 g69_272 (lkN (by decide) (lkN (by decide) (lkY))) ?_
      refine xT_iaload g_q69 g69_273 hN1 (hm_at g2_ (i := 1) rfl rfl) (ixN (n := 6) (by omega) hnl) (ixG (by omega) (hnf _ (by omega))) ?_
      refine xT_isubV (y := (nu_ (pLf p (l)) - nu_ (pRt p (l)))) g_q69 g69_274 (rfl) ?_
      refine xT_invokevirtual (r := [.inl (nI (pLf p (l))), .inr (some (nu))]) (u := some (.inl ((pCut p ((nu_ (pLf p (l)) - nu_ (pRt p (l)))))))) g_q69 g69_275 (j := 70) (so := 0) (by decide +kernel) g_q70 rfl (by rw [x_rcM hsA (hm_c g2_ hsR)]; rfl) (t70 (dp := dp + 1) g2_ hS (by omega) (v := (nu_ (pLf p (l)) - nu_ (pRt p (l))))) ?_
      refine xT_iastore g_q69 g69_278 (hm_at g2_ (i := 1) rfl rfl) (ixN (n := 6) (by omega) hnl) ?_
      rw [nI_clamp (by omega)]
      refine xT_goto g_q69 g69_279 (t := 367) (by decide) ?_
      refine xT_aload_n g_q69 g69_367 (lkN (by decide) (lkN (by decide) (lkN (by decide) (lkN (by decide) (rfl))))) ?_
      refine xT_invokevirtual (r := []) (u := some (.inl (nI (0)))) g_q69 g69_368 (j := 68) (so := 0) (by decide +kernel) g_q68 rfl (by rw [x_rcM hA0 (hm_at g3_ (i := 0) rfl rfl)]; rfl) (t68r hA0 hA2 g3_) ?_
      refine xT_ifCondN g_q69 g69_371 (t := 380) (by decide) (c1N (b := 0) rfl) ?_
      refine xT_aload_n g_q69 g69_374 (lkN (by decide) (lkN (by decide) (lkN (by decide) (lkN (by decide) (rfl))))) ?_
      refine xT_iload g_q69 g69_375 (lkY) ?_
      refine xT_invokevirtual (r := []) (u := none) g_q69 g69_377 (j := 81) (so := 0) (by decide +kernel) g_q81 rfl (by rw [x_rcM hA0 (hm_at g3_ (i := 0) rfl rfl)]; rfl) (y4_) ?_
      exact xT_return_ g_q69 g69_380 (rfl)
    obtain ⟨H2, y, hh⟩ := key
    refine ⟨H2, y, ?_⟩
    rw [stM_6 (s := (nu_, l, x, d, -1, os, ov)) hz]
    exact ⟨_, _, _, _, _, hh, fun _ => rfl, by rw [List.length_set]; exact hnl, nf_set (by omega) hnf (by omega), hol, hof⟩
  · have hz : pOp p l = 7 := hz
    by_cases hq : nu_ (pLf p (l)) < nu_ (pRt p (l))
    · skip
      have key : ∃ H2, x_To x_tb x_tyl ot (dp + 3) 69 0 (x_en 0 [.inr (some (R))]) [] H 0 0 none H2 ∧ hm H0 H2 [R, nu, ob, oi] [.inl (4, [.inr (some (nu)), .inr (some (sp)), .inr (some (co)), .inr (some (se)), .inr (some (inp)), .inr (some (ob)), .inl (pYr p), .inl (nI (pNm p l)), .inl (nI x), .inl (nI (d + 1)), .inl (if pNl p ≤ pNm p l then 0 else if d + 1 = 150 then 2 else -1), .inl (nI 0), .inl (lw)]), .inr (0, nf), .inl (5, [.inr (some (oi)), .inl (nI (os))]), .inr (0, of)] := by
        have g1_ : hm H0 _ [R, nu, ob, oi] [.inl (4, [.inr (some (nu)), .inr (some (sp)), .inr (some (co)), .inr (some (se)), .inr (some (inp)), .inr (some (ob)), .inl (pYr p), .inl (nI (l)), .inl (nI (x)), .inl (nI (d)), .inl (-1), .inl (nI (0)), .inl (lw)]), .inr (0, nf), .inl (5, [.inr (some (oi)), .inl (nI (os))]), .inr (0, of)] := hm_set (i := 0) (z2 := .inl (4, ([.inr (some (nu)), .inr (some (sp)), .inr (some (co)), .inr (some (se)), .inr (some (inp)), .inr (some (ob)), .inl (pYr p), .inl (nI (l)), .inl (nI (x)), .inl (nI (d)), .inl (-1), .inl (hw), .inl (lw)]).set 11 (.inl (nI (0))))) h rfl
        have g2_ : hm H0 _ [R, nu, ob, oi] [.inl (4, [.inr (some (nu)), .inr (some (sp)), .inr (some (co)), .inr (some (se)), .inr (some (inp)), .inr (some (ob)), .inl (pYr p), .inl (nI (l)), .inl (nI (x)), .inl (nI (d + 1)), .inl (-1), .inl (nI (0)), .inl (lw)]), .inr (0, nf), .inl (5, [.inr (some (oi)), .inl (nI (os))]), .inr (0, of)] := hm_set (i := 0) (z2 := .inl (4, ([.inr (some (nu)), .inr (some (sp)), .inr (some (co)), .inr (some (se)), .inr (some (inp)), .inr (some (ob)), .inl (pYr p), .inl (nI (l)), .inl (nI (x)), .inl (nI (d)), .inl (-1), .inl (nI (0)), .inl (lw)]).set 9 (.inl (nI (d + 1))))) g1_ rfl
        obtain ⟨G3, y3_, g3_⟩ := t81 (dp := dp + 2) (next := pNm p (l)) (d := d + 1) hA0 hA2 hC h12 (by omega) (by omega) g2_
        have g3_ : hm H0 G3 [R, nu, ob, oi] [.inl (4, [.inr (some (nu)), .inr (some (sp)), .inr (some (co)), .inr (some (se)), .inr (some (inp)), .inr (some (ob)), .inl (pYr p), .inl (nI (pNm p (l))), .inl (nI (x)), .inl (nI (d + 1)), .inl ((if pNl p ≤ pNm p (l) then 0 else if d + 1 = 150 then 2 else -1)), .inl (nI (0)), .inl (lw)]), .inr (0, nf), .inl (5, [.inr (some (oi)), .inl (nI (os))]), .inr (0, of)] := g3_
        refine ⟨_, ?_, g3_⟩
        refine xT_aload_n g_q69 g69_0 (rfl) ?_
        refine xT_icV (y := nI (0)) g_q69 g69_1 (by decide) ?_
        refine xT_putfield g_q69 g69_2 (ci := 4) (j := 11) rfl (hm_at h (i := 0) rfl rfl) rfl rfl ?_
        refine xT_aload_n g_q69 g69_5 (rfl) ?_
        refine xT_invokevirtual (r := []) (u := some (.inl (nI (0)))) g_q69 g69_6 (j := 68) (so := 0) (by decide +kernel) g_q68 rfl (by rw [x_rcM hA0 (hm_at g1_ (i := 0) rfl rfl)]; rfl) (t68r hA0 hA2 g1_) ?_
        refine xT_ifCondY g_q69 g69_9 (t := 13) (by decide) (c0Y (b := 0) rfl) ?_
        refine xT_aload_n g_q69 g69_13 (rfl) ?_
        refine xT_dup g_q69 g69_14 ?_
        refine xT_getfield g_q69 g69_15 hA0 rfl (hm_at g1_ (i := 0) rfl rfl) rfl rfl ?_
        refine xT_icV (y := nI (1)) g_q69 g69_18 (by decide) ?_
        refine xT_iaddV (y := nI (d + 1)) g_q69 g69_19 (bAddN _ _) ?_
        refine xT_putfield g_q69 g69_20 (ci := 4) (j := 9) rfl (hm_at g1_ (i := 0) rfl rfl) rfl rfl ?_
        refine xT_aload_n g_q69 g69_23 (rfl) ?_
        refine xT_getfield g_q69 g69_24 hA0 rfl (hm_at g2_ (i := 0) rfl rfl) rfl rfl ?_
        refine xT_getfield g_q69 g69_27 hcA rfl (hm_c g2_ hco) rfl rfl ?_
        refine xT_aload_n g_q69 g69_30 (rfl) ?_
        refine xT_getfield g_q69 g69_31 hA0 rfl (hm_at g2_ (i := 0) rfl rfl) rfl rfl ?_
        refine xT_iaload g_q69 g69_34 hrl0 (hm_c g2_ crl) (ixN (n := 12) (by omega) nrl) (ixG (by omega) (erl _ (by omega))) ?_
        refine xT_istore_n g_q69 g69_35 (by decide) ?_
        refine xT_aload_n g_q69 g69_36 (lkN (by decide) (rfl)) ?_
        refine xT_getfield g_q69 g69_37 hA0 rfl (hm_at g2_ (i := 0) rfl rfl) rfl rfl ?_
        refine xT_getfield g_q69 g69_40 hcA rfl (hm_c g2_ hco) rfl rfl ?_
        refine xT_aload_n g_q69 g69_43 (lkN (by decide) (rfl)) ?_
        refine xT_getfield g_q69 g69_44 hA0 rfl (hm_at g2_ (i := 0) rfl rfl) rfl rfl ?_
        refine xT_iaload g_q69 g69_47 hrr0 (hm_c g2_ crr) (ixN (n := 12) (by omega) nrr) (ixG (by omega) (err _ (by omega))) ?_
        refine xT_istore_n g_q69 g69_48 (by decide) ?_
        refine xT_aload_n g_q69 g69_49 (lkN (by decide) (lkN (by decide) (rfl))) ?_
        refine xT_getfield g_q69 g69_50 hA0 rfl (hm_at g2_ (i := 0) rfl rfl) rfl rfl ?_
        refine xT_getfield g_q69 g69_53 hcA rfl (hm_c g2_ hco) rfl rfl ?_
        refine xT_aload_n g_q69 g69_56 (lkN (by decide) (lkN (by decide) (rfl))) ?_
        refine xT_getfield g_q69 g69_57 hA0 rfl (hm_at g2_ (i := 0) rfl rfl) rfl rfl ?_
        refine xT_iaload g_q69 g69_60 hrn0 (hm_c g2_ crn) (ixN (n := 12) (by omega) nrn) (ixG (by omega) (ern _ (by omega))) ?_
        refine xT_istore_n g_q69 g69_61 (by decide) ?_
        refine xT_aload_n g_q69 g69_62 (lkN (by decide) (lkN (by decide) (lkN (by decide) (rfl)))) ?_
        refine xT_getfield g_q69 g69_63 hA0 rfl (hm_at g2_ (i := 0) rfl rfl) rfl rfl ?_
        refine xT_icV (y := nI (1)) g_q69 g69_66 (by decide) ?_
        refine xT_iaddV (y := nI (l + 1)) g_q69 g69_67 (bAddN _ _) ?_
        refine xT_istore g_q69 g69_68 (by decide) ?_
        refine xT_aload_n g_q69 g69_70 (lkN (by decide) (lkN (by decide) (lkN (by decide) (lkN (by decide) (rfl))))) ?_
        refine xT_getfield g_q69 g69_71 hA0 rfl (hm_at g2_ (i := 0) rfl rfl) rfl rfl ?_
        refine xT_getfield g_q69 g69_74 hcA rfl (hm_c g2_ hco) rfl rfl ?_
        refine xT_aload_n g_q69 g69_77 (lkN (by decide) (lkN (by decide) (lkN (by decide) (lkN (by decide) (rfl))))) ?_
        refine xT_getfield g_q69 g69_78 hA0 rfl (hm_at g2_ (i := 0) rfl rfl) rfl rfl ?_
        refine xT_iaload g_q69 g69_81 hro0 (hm_c g2_ cro) (ixN (n := 12) (by omega) nro) (ixG (by omega) (ero _ (by omega))) ?_
        refine xT_tableswitch g_q69 g69_82 (t := 282) (by decide) (by decide) (by dsimp only; rw [hz]; decide) ?_
        refine xT_aload_n g_q69 g69_282 (lkN (by decide) (lkN (by decide) (lkN (by decide) (lkN (by decide) (rfl))))) ?_
        refine xT_iload_n g_q69 g69_283 (lkN (by decide) (lkN (by decide) (lkN (by decide) (lkY)))) ?_
        refine xT_invokevirtual (r := []) (u := some (.inl ((nu_ (pLf p (l)))))) g_q69 g69_284 (j := 76) (so := 0) (by decide +kernel) g_q76 rfl (by rw [x_rcM hA0 (hm_at g2_ (i := 0) rfl rfl)]; rfl) (t76 (dp := dp + 1) hA0 hA2 hN1 hN3 hnl hol hS hnf (by omega) g2_) ?_
        refine xT_aload_n g_q69 g69_287 (lkN (by decide) (lkN (by decide) (lkN (by decide) (lkN (by decide) (rfl))))) ?_
        refine xT_iload_n g_q69 g69_288 (lkN (by decide) (lkN (by decide) (lkY))) ?_
        refine xT_invokevirtual (r := [.inl ((nu_ (pLf p (l))))]) (u := some (.inl ((nu_ (pRt p (l)))))) g_q69 g69_289 (j := 76) (so := 0) (by decide +kernel) g_q76 rfl (by rw [x_rcM hA0 (hm_at g2_ (i := 0) rfl rfl)]; rfl) (t76 (dp := dp + 1) hA0 hA2 hN1 hN3 hnl hol hS hnf (by omega) g2_) ?_
        refine xT_if_icmpN g_q69 g69_292 (t := 299) (by decide) (decide_eq_false (Int32.not_le.mpr hq)) ?_
        refine xT_iload_n g_q69 g69_295 (lkN (by decide) (lkY)) ?_
        refine xT_goto g_q69 g69_296 (t := 301) (by decide) ?_
        refine xT_istore g_q69 g69_301 (by decide) ?_
        refine xT_goto g_q69 g69_303 (t := 367) (by decide) ?_
        refine xT_aload_n g_q69 g69_367 (lkN (by decide) (lkN (by decide) (lkN (by decide) (lkN (by decide) (lkN (by decide) (rfl)))))) ?_
        refine xT_invokevirtual (r := []) (u := some (.inl (nI (0)))) g_q69 g69_368 (j := 68) (so := 0) (by decide +kernel) g_q68 rfl (by rw [x_rcM hA0 (hm_at g2_ (i := 0) rfl rfl)]; rfl) (t68r hA0 hA2 g2_) ?_
        refine xT_ifCondN g_q69 g69_371 (t := 380) (by decide) (c1N (b := 0) rfl) ?_
        refine xT_aload_n g_q69 g69_374 (lkN (by decide) (lkN (by decide) (lkN (by decide) (lkN (by decide) (lkN (by decide) (rfl)))))) ?_
        refine xT_iload g_q69 g69_375 (lkY) ?_
        refine xT_invokevirtual (r := []) (u := none) g_q69 g69_377 (j := 81) (so := 0) (by decide +kernel) g_q81 rfl (by rw [x_rcM hA0 (hm_at g2_ (i := 0) rfl rfl)]; rfl) (y3_) ?_
        exact xT_return_ g_q69 g69_380 (rfl)
      obtain ⟨H2, y, hh⟩ := key
      refine ⟨H2, y, ?_⟩
      rw [stM_7 (s := (nu_, l, x, d, -1, os, ov)) hz, if_pos (show nu_ (pLf p (l)) < nu_ (pRt p (l)) from hq)]
      exact ⟨_, _, _, _, _, hh, fun _ => rfl, hnl, hnf, hol, hof⟩
    · skip
      have key : ∃ H2, x_To x_tb x_tyl ot (dp + 3) 69 0 (x_en 0 [.inr (some (R))]) [] H 0 0 none H2 ∧ hm H0 H2 [R, nu, ob, oi] [.inl (4, [.inr (some (nu)), .inr (some (sp)), .inr (some (co)), .inr (some (se)), .inr (some (inp)), .inr (some (ob)), .inl (pYr p), .inl (nI (l + 1)), .inl (nI x), .inl (nI (d + 1)), .inl (if pNl p ≤ l + 1 then 0 else if d + 1 = 150 then 2 else -1), .inl (nI 0), .inl (lw)]), .inr (0, nf), .inl (5, [.inr (some (oi)), .inl (nI (os))]), .inr (0, of)] := by
        have g1_ : hm H0 _ [R, nu, ob, oi] [.inl (4, [.inr (some (nu)), .inr (some (sp)), .inr (some (co)), .inr (some (se)), .inr (some (inp)), .inr (some (ob)), .inl (pYr p), .inl (nI (l)), .inl (nI (x)), .inl (nI (d)), .inl (-1), .inl (nI (0)), .inl (lw)]), .inr (0, nf), .inl (5, [.inr (some (oi)), .inl (nI (os))]), .inr (0, of)] := hm_set (i := 0) (z2 := .inl (4, ([.inr (some (nu)), .inr (some (sp)), .inr (some (co)), .inr (some (se)), .inr (some (inp)), .inr (some (ob)), .inl (pYr p), .inl (nI (l)), .inl (nI (x)), .inl (nI (d)), .inl (-1), .inl (hw), .inl (lw)]).set 11 (.inl (nI (0))))) h rfl
        have g2_ : hm H0 _ [R, nu, ob, oi] [.inl (4, [.inr (some (nu)), .inr (some (sp)), .inr (some (co)), .inr (some (se)), .inr (some (inp)), .inr (some (ob)), .inl (pYr p), .inl (nI (l)), .inl (nI (x)), .inl (nI (d + 1)), .inl (-1), .inl (nI (0)), .inl (lw)]), .inr (0, nf), .inl (5, [.inr (some (oi)), .inl (nI (os))]), .inr (0, of)] := hm_set (i := 0) (z2 := .inl (4, ([.inr (some (nu)), .inr (some (sp)), .inr (some (co)), .inr (some (se)), .inr (some (inp)), .inr (some (ob)), .inl (pYr p), .inl (nI (l)), .inl (nI (x)), .inl (nI (d)), .inl (-1), .inl (nI (0)), .inl (lw)]).set 9 (.inl (nI (d + 1))))) g1_ rfl
        obtain ⟨G3, y3_, g3_⟩ := t81 (dp := dp + 2) (next := l + 1) (d := d + 1) hA0 hA2 hC h12 (by omega) (by omega) g2_
        have g3_ : hm H0 G3 [R, nu, ob, oi] [.inl (4, [.inr (some (nu)), .inr (some (sp)), .inr (some (co)), .inr (some (se)), .inr (some (inp)), .inr (some (ob)), .inl (pYr p), .inl (nI (l + 1)), .inl (nI (x)), .inl (nI (d + 1)), .inl ((if pNl p ≤ l + 1 then 0 else if d + 1 = 150 then 2 else -1)), .inl (nI (0)), .inl (lw)]), .inr (0, nf), .inl (5, [.inr (some (oi)), .inl (nI (os))]), .inr (0, of)] := g3_
        refine ⟨_, ?_, g3_⟩
        refine xT_aload_n g_q69 g69_0 (rfl) ?_
        refine xT_icV (y := nI (0)) g_q69 g69_1 (by decide) ?_
        refine xT_putfield g_q69 g69_2 (ci := 4) (j := 11) rfl (hm_at h (i := 0) rfl rfl) rfl rfl ?_
        refine xT_aload_n g_q69 g69_5 (rfl) ?_
        refine xT_invokevirtual (r := []) (u := some (.inl (nI (0)))) g_q69 g69_6 (j := 68) (so := 0) (by decide +kernel) g_q68 rfl (by rw [x_rcM hA0 (hm_at g1_ (i := 0) rfl rfl)]; rfl) (t68r hA0 hA2 g1_) ?_
        refine xT_ifCondY g_q69 g69_9 (t := 13) (by decide) (c0Y (b := 0) rfl) ?_
        refine xT_aload_n g_q69 g69_13 (rfl) ?_
        refine xT_dup g_q69 g69_14 ?_
        refine xT_getfield g_q69 g69_15 hA0 rfl (hm_at g1_ (i := 0) rfl rfl) rfl rfl ?_
        refine xT_icV (y := nI (1)) g_q69 g69_18 (by decide) ?_
        refine xT_iaddV (y := nI (d + 1)) g_q69 g69_19 (bAddN _ _) ?_
        refine xT_putfield g_q69 g69_20 (ci := 4) (j := 9) rfl (hm_at g1_ (i := 0) rfl rfl) rfl rfl ?_
        refine xT_aload_n g_q69 g69_23 (rfl) ?_
        refine xT_getfield g_q69 g69_24 hA0 rfl (hm_at g2_ (i := 0) rfl rfl) rfl rfl ?_
        refine xT_getfield g_q69 g69_27 hcA rfl (hm_c g2_ hco) rfl rfl ?_
        refine xT_aload_n g_q69 g69_30 (rfl) ?_
        refine xT_getfield g_q69 g69_31 hA0 rfl (hm_at g2_ (i := 0) rfl rfl) rfl rfl ?_
        refine xT_iaload g_q69 g69_34 hrl0 (hm_c g2_ crl) (ixN (n := 12) (by omega) nrl) (ixG (by omega) (erl _ (by omega))) ?_
        refine xT_istore_n g_q69 g69_35 (by decide) ?_
        refine xT_aload_n g_q69 g69_36 (lkN (by decide) (rfl)) ?_
        refine xT_getfield g_q69 g69_37 hA0 rfl (hm_at g2_ (i := 0) rfl rfl) rfl rfl ?_
        refine xT_getfield g_q69 g69_40 hcA rfl (hm_c g2_ hco) rfl rfl ?_
        refine xT_aload_n g_q69 g69_43 (lkN (by decide) (rfl)) ?_
        refine xT_getfield g_q69 g69_44 hA0 rfl (hm_at g2_ (i := 0) rfl rfl) rfl rfl ?_
        refine xT_iaload g_q69 g69_47 hrr0 (hm_c g2_ crr) (ixN (n := 12) (by omega) nrr) (ixG (by omega) (err _ (by omega))) ?_
        refine xT_istore_n g_q69 g69_48 (by decide) ?_
        refine xT_aload_n g_q69 g69_49 (lkN (by decide) (lkN (by decide) (rfl))) ?_
        refine xT_getfield g_q69 g69_50 hA0 rfl (hm_at g2_ (i := 0) rfl rfl) rfl rfl ?_
        refine xT_getfield g_q69 g69_53 hcA rfl (hm_c g2_ hco) rfl rfl ?_
        refine xT_aload_n g_q69 g69_56 (lkN (by decide) (lkN (by decide) (rfl))) ?_
        refine xT_getfield g_q69 g69_57 hA0 rfl (hm_at g2_ (i := 0) rfl rfl) rfl rfl ?_
        refine xT_iaload g_q69 g69_60 hrn0 (hm_c g2_ crn) (ixN (n := 12) (by omega) nrn) (ixG (by omega) (ern _ (by omega))) ?_
        refine xT_istore_n g_q69 g69_61 (by decide) ?_
        refine xT_aload_n g_q69 g69_62 (lkN (by decide) (lkN (by decide) (lkN (by decide) (rfl)))) ?_
        refine xT_getfield g_q69 g69_63 hA0 rfl (hm_at g2_ (i := 0) rfl rfl) rfl rfl ?_
        refine xT_icV (y := nI (1)) g_q69 g69_66 (by decide) ?_
        refine xT_iaddV (y := nI (l + 1)) g_q69 g69_67 (bAddN _ _) ?_
        refine xT_istore g_q69 g69_68 (by decide) ?_
        refine xT_aload_n g_q69 g69_70 (lkN (by decide) (lkN (by decide) (lkN (by decide) (lkN (by decide) (rfl))))) ?_
        refine xT_getfield g_q69 g69_71 hA0 rfl (hm_at g2_ (i := 0) rfl rfl) rfl rfl ?_
        refine xT_getfield g_q69 g69_74 hcA rfl (hm_c g2_ hco) rfl rfl ?_
        refine xT_aload_n g_q69 g69_77 (lkN (by decide) (lkN (by decide) (lkN (by decide) (lkN (by decide) (rfl))))) ?_
        refine xT_getfield g_q69 g69_78 hA0 rfl (hm_at g2_ (i := 0) rfl rfl) rfl rfl ?_
        refine xT_iaload g_q69 g69_81 hro0 (hm_c g2_ cro) (ixN (n := 12) (by omega) nro) (ixG (by omega) (ero _ (by omega))) ?_
        refine xT_tableswitch g_q69 g69_82 (t := 282) (by decide) (by decide) (by dsimp only; rw [hz]; decide) ?_
        refine xT_aload_n g_q69 g69_282 (lkN (by decide) (lkN (by decide) (lkN (by decide) (lkN (by decide) (rfl))))) ?_
        refine xT_iload_n g_q69 g69_283 (lkN (by decide) (lkN (by decide) (lkN (by decide) (lkY)))) ?_
        refine xT_invokevirtual (r := []) (u := some (.inl ((nu_ (pLf p (l)))))) g_q69 g69_284 (j := 76) (so := 0) (by decide +kernel) g_q76 rfl (by rw [x_rcM hA0 (hm_at g2_ (i := 0) rfl rfl)]; rfl) (t76 (dp := dp + 1) hA0 hA2 hN1 hN3 hnl hol hS hnf (by omega) g2_) ?_
        refine xT_aload_n g_q69 g69_287 (lkN (by decide) (lkN (by decide) (lkN (by decide) (lkN (by decide) (rfl))))) ?_
        refine xT_iload_n g_q69 g69_288 (lkN (by decide) (lkN (by decide) (lkY))) ?_
        refine xT_invokevirtual (r := [.inl ((nu_ (pLf p (l))))]) (u := some (.inl ((nu_ (pRt p (l)))))) g_q69 g69_289 (j := 76) (so := 0) (by decide +kernel) g_q76 rfl (by rw [x_rcM hA0 (hm_at g2_ (i := 0) rfl rfl)]; rfl) (t76 (dp := dp + 1) hA0 hA2 hN1 hN3 hnl hol hS hnf (by omega) g2_) ?_
        refine xT_if_icmpY g_q69 g69_292 (t := 299) (by decide) (decide_eq_true (Int32.not_lt.mp hq)) ?_
        refine xT_iload g_q69 g69_299 (lkY) ?_
        refine xT_istore g_q69 g69_301 (by decide) ?_
        refine xT_goto g_q69 g69_303 (t := 367) (by decide) ?_
        refine xT_aload_n g_q69 g69_367 (lkN (by decide) (lkN (by decide) (lkN (by decide) (lkN (by decide) (lkN (by decide) (rfl)))))) ?_
        refine xT_invokevirtual (r := []) (u := some (.inl (nI (0)))) g_q69 g69_368 (j := 68) (so := 0) (by decide +kernel) g_q68 rfl (by rw [x_rcM hA0 (hm_at g2_ (i := 0) rfl rfl)]; rfl) (t68r hA0 hA2 g2_) ?_
        refine xT_ifCondN g_q69 g69_371 (t := 380) (by decide) (c1N (b := 0) rfl) ?_
        refine xT_aload_n g_q69 g69_374 (lkN (by decide) (lkN (by decide) (lkN (by decide) (lkN (by decide) (lkN (by decide) (rfl)))))) ?_
        refine xT_iload g_q69 g69_375 (lkY) ?_
        refine xT_invokevirtual (r := []) (u := none) g_q69 g69_377 (j := 81) (so := 0) (by decide +kernel) g_q81 rfl (by rw [x_rcM hA0 (hm_at g2_ (i := 0) rfl rfl)]; rfl) (y3_) ?_
        exact xT_return_ g_q69 g69_380 (rfl)
      obtain ⟨H2, y, hh⟩ := key
      refine ⟨H2, y, ?_⟩
      rw [stM_7 (s := (nu_, l, x, d, -1, os, ov)) hz, if_neg (show ¬ (nu_ (pLf p (l)) < nu_ (pRt p (l))) from hq)]
      exact ⟨_, _, _, _, _, hh, fun _ => rfl, hnl, hnf, hol, hof⟩
  · have hz : pOp p l = 8 := hz
    by_cases hq : pLp p (nu_ (pLf p (l))) = true
    · skip
      have key : ∃ H2, x_To x_tb x_tyl ot (dp + 3) 69 0 (x_en 0 [.inr (some (R))]) [] H 0 0 none H2 ∧ hm H0 H2 [R, nu, ob, oi] [.inl (4, [.inr (some (nu)), .inr (some (sp)), .inr (some (co)), .inr (some (se)), .inr (some (inp)), .inr (some (ob)), .inl (pYr p), .inl (nI (pNm p l)), .inl (nI x), .inl (nI (d + 1)), .inl (if pNl p ≤ pNm p l then 0 else if d + 1 = 150 then 2 else -1), .inl (nI 0), .inl (lw)]), .inr (0, nf), .inl (5, [.inr (some (oi)), .inl (nI (os))]), .inr (0, of)] := by
        have g1_ : hm H0 _ [R, nu, ob, oi] [.inl (4, [.inr (some (nu)), .inr (some (sp)), .inr (some (co)), .inr (some (se)), .inr (some (inp)), .inr (some (ob)), .inl (pYr p), .inl (nI (l)), .inl (nI (x)), .inl (nI (d)), .inl (-1), .inl (nI (0)), .inl (lw)]), .inr (0, nf), .inl (5, [.inr (some (oi)), .inl (nI (os))]), .inr (0, of)] := hm_set (i := 0) (z2 := .inl (4, ([.inr (some (nu)), .inr (some (sp)), .inr (some (co)), .inr (some (se)), .inr (some (inp)), .inr (some (ob)), .inl (pYr p), .inl (nI (l)), .inl (nI (x)), .inl (nI (d)), .inl (-1), .inl (hw), .inl (lw)]).set 11 (.inl (nI (0))))) h rfl
        have g2_ : hm H0 _ [R, nu, ob, oi] [.inl (4, [.inr (some (nu)), .inr (some (sp)), .inr (some (co)), .inr (some (se)), .inr (some (inp)), .inr (some (ob)), .inl (pYr p), .inl (nI (l)), .inl (nI (x)), .inl (nI (d + 1)), .inl (-1), .inl (nI (0)), .inl (lw)]), .inr (0, nf), .inl (5, [.inr (some (oi)), .inl (nI (os))]), .inr (0, of)] := hm_set (i := 0) (z2 := .inl (4, ([.inr (some (nu)), .inr (some (sp)), .inr (some (co)), .inr (some (se)), .inr (some (inp)), .inr (some (ob)), .inl (pYr p), .inl (nI (l)), .inl (nI (x)), .inl (nI (d)), .inl (-1), .inl (nI (0)), .inl (lw)]).set 9 (.inl (nI (d + 1))))) g1_ rfl
        obtain ⟨G3, y3_, g3_⟩ := t81 (dp := dp + 2) (next := pNm p (l)) (d := d + 1) hA0 hA2 hC h12 (by omega) (by omega) g2_
        have g3_ : hm H0 G3 [R, nu, ob, oi] [.inl (4, [.inr (some (nu)), .inr (some (sp)), .inr (some (co)), .inr (some (se)), .inr (some (inp)), .inr (some (ob)), .inl (pYr p), .inl (nI (pNm p (l))), .inl (nI (x)), .inl (nI (d + 1)), .inl ((if pNl p ≤ pNm p (l) then 0 else if d + 1 = 150 then 2 else -1)), .inl (nI (0)), .inl (lw)]), .inr (0, nf), .inl (5, [.inr (some (oi)), .inl (nI (os))]), .inr (0, of)] := g3_
        refine ⟨_, ?_, g3_⟩
        refine xT_aload_n g_q69 g69_0 (rfl) ?_
        refine xT_icV (y := nI (0)) g_q69 g69_1 (by decide) ?_
        refine xT_putfield g_q69 g69_2 (ci := 4) (j := 11) rfl (hm_at h (i := 0) rfl rfl) rfl rfl ?_
        refine xT_aload_n g_q69 g69_5 (rfl) ?_
        refine xT_invokevirtual (r := []) (u := some (.inl (nI (0)))) g_q69 g69_6 (j := 68) (so := 0) (by decide +kernel) g_q68 rfl (by rw [x_rcM hA0 (hm_at g1_ (i := 0) rfl rfl)]; rfl) (t68r hA0 hA2 g1_) ?_
        refine xT_ifCondY g_q69 g69_9 (t := 13) (by decide) (c0Y (b := 0) rfl) ?_
        refine xT_aload_n g_q69 g69_13 (rfl) ?_
        refine xT_dup g_q69 g69_14 ?_
        refine xT_getfield g_q69 g69_15 hA0 rfl (hm_at g1_ (i := 0) rfl rfl) rfl rfl ?_
        refine xT_icV (y := nI (1)) g_q69 g69_18 (by decide) ?_
        refine xT_iaddV (y := nI (d + 1)) g_q69 g69_19 (bAddN _ _) ?_
        refine xT_putfield g_q69 g69_20 (ci := 4) (j := 9) rfl (hm_at g1_ (i := 0) rfl rfl) rfl rfl ?_
        refine xT_aload_n g_q69 g69_23 (rfl) ?_
        refine xT_getfield g_q69 g69_24 hA0 rfl (hm_at g2_ (i := 0) rfl rfl) rfl rfl ?_
        refine xT_getfield g_q69 g69_27 hcA rfl (hm_c g2_ hco) rfl rfl ?_
        refine xT_aload_n g_q69 g69_30 (rfl) ?_
        refine xT_getfield g_q69 g69_31 hA0 rfl (hm_at g2_ (i := 0) rfl rfl) rfl rfl ?_
        refine xT_iaload g_q69 g69_34 hrl0 (hm_c g2_ crl) (ixN (n := 12) (by omega) nrl) (ixG (by omega) (erl _ (by omega))) ?_
        refine xT_istore_n g_q69 g69_35 (by decide) ?_
        refine xT_aload_n g_q69 g69_36 (lkN (by decide) (rfl)) ?_
        refine xT_getfield g_q69 g69_37 hA0 rfl (hm_at g2_ (i := 0) rfl rfl) rfl rfl ?_
        refine xT_getfield g_q69 g69_40 hcA rfl (hm_c g2_ hco) rfl rfl ?_
        refine xT_aload_n g_q69 g69_43 (lkN (by decide) (rfl)) ?_
        refine xT_getfield g_q69 g69_44 hA0 rfl (hm_at g2_ (i := 0) rfl rfl) rfl rfl ?_
        refine xT_iaload g_q69 g69_47 hrr0 (hm_c g2_ crr) (ixN (n := 12) (by omega) nrr) (ixG (by omega) (err _ (by omega))) ?_
        refine xT_istore_n g_q69 g69_48 (by decide) ?_
        refine xT_aload_n g_q69 g69_49 (lkN (by decide) (lkN (by decide) (rfl))) ?_
        refine xT_getfield g_q69 g69_50 hA0 rfl (hm_at g2_ (i := 0) rfl rfl) rfl rfl ?_
        refine xT_getfield g_q69 g69_53 hcA rfl (hm_c g2_ hco) rfl rfl ?_
        refine xT_aload_n g_q69 g69_56 (lkN (by decide) (lkN (by decide) (rfl))) ?_
        refine xT_getfield g_q69 g69_57 hA0 rfl (hm_at g2_ (i := 0) rfl rfl) rfl rfl ?_
        refine xT_iaload g_q69 g69_60 hrn0 (hm_c g2_ crn) (ixN (n := 12) (by omega) nrn) (ixG (by omega) (ern _ (by omega))) ?_
        refine xT_istore_n g_q69 g69_61 (by decide) ?_
        refine xT_aload_n g_q69 g69_62 (lkN (by decide) (lkN (by decide) (lkN (by decide) (rfl)))) ?_
        refine xT_getfield g_q69 g69_63 hA0 rfl (hm_at g2_ (i := 0) rfl rfl) rfl rfl ?_
        refine xT_icV (y := nI (1)) g_q69 g69_66 (by decide) ?_
        refine xT_iaddV (y := nI (l + 1)) g_q69 g69_67 (bAddN _ _) ?_
        refine xT_istore g_q69 g69_68 (by decide) ?_
        refine xT_aload_n g_q69 g69_70 (lkN (by decide) (lkN (by decide) (lkN (by decide) (lkN (by decide) (rfl))))) ?_
        refine xT_getfield g_q69 g69_71 hA0 rfl (hm_at g2_ (i := 0) rfl rfl) rfl rfl ?_
        refine xT_getfield g_q69 g69_74 hcA rfl (hm_c g2_ hco) rfl rfl ?_
        refine xT_aload_n g_q69 g69_77 (lkN (by decide) (lkN (by decide) (lkN (by decide) (lkN (by decide) (rfl))))) ?_
        refine xT_getfield g_q69 g69_78 hA0 rfl (hm_at g2_ (i := 0) rfl rfl) rfl rfl ?_
        refine xT_iaload g_q69 g69_81 hro0 (hm_c g2_ cro) (ixN (n := 12) (by omega) nro) (ixG (by omega) (ero _ (by omega))) ?_
        refine xT_tableswitch g_q69 g69_82 (t := 330) (by decide) (by decide) (by dsimp only; rw [hz]; decide) ?_
        refine xT_aload_n g_q69 g69_330 (lkN (by decide) (lkN (by decide) (lkN (by decide) (lkN (by decide) (rfl))))) ?_
        refine xT_getfield g_q69 g69_331 hA0 rfl (hm_at g2_ (i := 0) rfl rfl) rfl rfl ?_
        refine xT_aload_n g_q69 g69_334 (lkN (by decide) (lkN (by decide) (lkN (by decide) (lkN (by decide) (rfl))))) ?_
        refine xT_iload_n g_q69 g69_335 (lkN (by decide) (lkN (by decide) (lkN (by decide) (lkY)))) ?_
        refine xT_invokevirtual (r := [.inr (some (se))]) (u := some (.inl ((nu_ (pLf p (l)))))) g_q69 g69_336 (j := 76) (so := 0) (by decide +kernel) g_q76 rfl (by rw [x_rcM hA0 (hm_at g2_ (i := 0) rfl rfl)]; rfl) (t76 (dp := dp + 1) hA0 hA2 hN1 hN3 hnl hol hS hnf (by omega) g2_) ?_
        refine xT_invokevirtual (r := []) (u := some (.inl ((nI (if pLp p (nu_ (pLf p (l))) = true then 1 else 0))))) g_q69 g69_339 (j := 79) (so := 0) (by decide +kernel) g_q79 rfl (by rw [x_rcM hsA (hm_c g2_ hsR)]; rfl) (t79 (dp := dp + 1) g2_ hS) ?_
        refine xT_ifCondN g_q69 g69_342 (t := 349) (by decide) ((by rw [if_pos hq]; decide +kernel)) ?_
        refine xT_iload_n g_q69 g69_345 (lkN (by decide) (lkY)) ?_
        refine xT_goto g_q69 g69_346 (t := 351) (by decide) ?_
        refine xT_istore g_q69 g69_351 (by decide) ?_
        refine xT_goto g_q69 g69_353 (t := 367) (by decide) ?_
        refine xT_aload_n g_q69 g69_367 (lkN (by decide) (lkN (by decide) (lkN (by decide) (lkN (by decide) (lkN (by decide) (rfl)))))) ?_
        refine xT_invokevirtual (r := []) (u := some (.inl (nI (0)))) g_q69 g69_368 (j := 68) (so := 0) (by decide +kernel) g_q68 rfl (by rw [x_rcM hA0 (hm_at g2_ (i := 0) rfl rfl)]; rfl) (t68r hA0 hA2 g2_) ?_
        refine xT_ifCondN g_q69 g69_371 (t := 380) (by decide) (c1N (b := 0) rfl) ?_
        refine xT_aload_n g_q69 g69_374 (lkN (by decide) (lkN (by decide) (lkN (by decide) (lkN (by decide) (lkN (by decide) (rfl)))))) ?_
        refine xT_iload g_q69 g69_375 (lkY) ?_
        refine xT_invokevirtual (r := []) (u := none) g_q69 g69_377 (j := 81) (so := 0) (by decide +kernel) g_q81 rfl (by rw [x_rcM hA0 (hm_at g2_ (i := 0) rfl rfl)]; rfl) (y3_) ?_
        exact xT_return_ g_q69 g69_380 (rfl)
      obtain ⟨H2, y, hh⟩ := key
      refine ⟨H2, y, ?_⟩
      rw [stM_8 (s := (nu_, l, x, d, -1, os, ov)) hz, if_pos (show pLp p (nu_ (pLf p (l))) = true from hq)]
      exact ⟨_, _, _, _, _, hh, fun _ => rfl, hnl, hnf, hol, hof⟩
    · skip
      have key : ∃ H2, x_To x_tb x_tyl ot (dp + 3) 69 0 (x_en 0 [.inr (some (R))]) [] H 0 0 none H2 ∧ hm H0 H2 [R, nu, ob, oi] [.inl (4, [.inr (some (nu)), .inr (some (sp)), .inr (some (co)), .inr (some (se)), .inr (some (inp)), .inr (some (ob)), .inl (pYr p), .inl (nI (l + 1)), .inl (nI x), .inl (nI (d + 1)), .inl (if pNl p ≤ l + 1 then 0 else if d + 1 = 150 then 2 else -1), .inl (nI 0), .inl (lw)]), .inr (0, nf), .inl (5, [.inr (some (oi)), .inl (nI (os))]), .inr (0, of)] := by
        have g1_ : hm H0 _ [R, nu, ob, oi] [.inl (4, [.inr (some (nu)), .inr (some (sp)), .inr (some (co)), .inr (some (se)), .inr (some (inp)), .inr (some (ob)), .inl (pYr p), .inl (nI (l)), .inl (nI (x)), .inl (nI (d)), .inl (-1), .inl (nI (0)), .inl (lw)]), .inr (0, nf), .inl (5, [.inr (some (oi)), .inl (nI (os))]), .inr (0, of)] := hm_set (i := 0) (z2 := .inl (4, ([.inr (some (nu)), .inr (some (sp)), .inr (some (co)), .inr (some (se)), .inr (some (inp)), .inr (some (ob)), .inl (pYr p), .inl (nI (l)), .inl (nI (x)), .inl (nI (d)), .inl (-1), .inl (hw), .inl (lw)]).set 11 (.inl (nI (0))))) h rfl
        have g2_ : hm H0 _ [R, nu, ob, oi] [.inl (4, [.inr (some (nu)), .inr (some (sp)), .inr (some (co)), .inr (some (se)), .inr (some (inp)), .inr (some (ob)), .inl (pYr p), .inl (nI (l)), .inl (nI (x)), .inl (nI (d + 1)), .inl (-1), .inl (nI (0)), .inl (lw)]), .inr (0, nf), .inl (5, [.inr (some (oi)), .inl (nI (os))]), .inr (0, of)] := hm_set (i := 0) (z2 := .inl (4, ([.inr (some (nu)), .inr (some (sp)), .inr (some (co)), .inr (some (se)), .inr (some (inp)), .inr (some (ob)), .inl (pYr p), .inl (nI (l)), .inl (nI (x)), .inl (nI (d)), .inl (-1), .inl (nI (0)), .inl (lw)]).set 9 (.inl (nI (d + 1))))) g1_ rfl
        obtain ⟨G3, y3_, g3_⟩ := t81 (dp := dp + 2) (next := l + 1) (d := d + 1) hA0 hA2 hC h12 (by omega) (by omega) g2_
        have g3_ : hm H0 G3 [R, nu, ob, oi] [.inl (4, [.inr (some (nu)), .inr (some (sp)), .inr (some (co)), .inr (some (se)), .inr (some (inp)), .inr (some (ob)), .inl (pYr p), .inl (nI (l + 1)), .inl (nI (x)), .inl (nI (d + 1)), .inl ((if pNl p ≤ l + 1 then 0 else if d + 1 = 150 then 2 else -1)), .inl (nI (0)), .inl (lw)]), .inr (0, nf), .inl (5, [.inr (some (oi)), .inl (nI (os))]), .inr (0, of)] := g3_
        refine ⟨_, ?_, g3_⟩
        refine xT_aload_n g_q69 g69_0 (rfl) ?_
        refine xT_icV (y := nI (0)) g_q69 g69_1 (by decide) ?_
        refine xT_putfield g_q69 g69_2 (ci := 4) (j := 11) rfl (hm_at h (i := 0) rfl rfl) rfl rfl ?_
        refine xT_aload_n g_q69 g69_5 (rfl) ?_
        refine xT_invokevirtual (r := []) (u := some (.inl (nI (0)))) g_q69 g69_6 (j := 68) (so := 0) (by decide +kernel) g_q68 rfl (by rw [x_rcM hA0 (hm_at g1_ (i := 0) rfl rfl)]; rfl) (t68r hA0 hA2 g1_) ?_
        refine xT_ifCondY g_q69 g69_9 (t := 13) (by decide) (c0Y (b := 0) rfl) ?_
        refine xT_aload_n g_q69 g69_13 (rfl) ?_
        refine xT_dup g_q69 g69_14 ?_
        refine xT_getfield g_q69 g69_15 hA0 rfl (hm_at g1_ (i := 0) rfl rfl) rfl rfl ?_
        refine xT_icV (y := nI (1)) g_q69 g69_18 (by decide) ?_
        refine xT_iaddV (y := nI (d + 1)) g_q69 g69_19 (bAddN _ _) ?_
        refine xT_putfield g_q69 g69_20 (ci := 4) (j := 9) rfl (hm_at g1_ (i := 0) rfl rfl) rfl rfl ?_
        refine xT_aload_n g_q69 g69_23 (rfl) ?_
        refine xT_getfield g_q69 g69_24 hA0 rfl (hm_at g2_ (i := 0) rfl rfl) rfl rfl ?_
        refine xT_getfield g_q69 g69_27 hcA rfl (hm_c g2_ hco) rfl rfl ?_
        refine xT_aload_n g_q69 g69_30 (rfl) ?_
        refine xT_getfield g_q69 g69_31 hA0 rfl (hm_at g2_ (i := 0) rfl rfl) rfl rfl ?_
        refine xT_iaload g_q69 g69_34 hrl0 (hm_c g2_ crl) (ixN (n := 12) (by omega) nrl) (ixG (by omega) (erl _ (by omega))) ?_
        refine xT_istore_n g_q69 g69_35 (by decide) ?_
        refine xT_aload_n g_q69 g69_36 (lkN (by decide) (rfl)) ?_
        refine xT_getfield g_q69 g69_37 hA0 rfl (hm_at g2_ (i := 0) rfl rfl) rfl rfl ?_
        refine xT_getfield g_q69 g69_40 hcA rfl (hm_c g2_ hco) rfl rfl ?_
        refine xT_aload_n g_q69 g69_43 (lkN (by decide) (rfl)) ?_
        refine xT_getfield g_q69 g69_44 hA0 rfl (hm_at g2_ (i := 0) rfl rfl) rfl rfl ?_
        refine xT_iaload g_q69 g69_47 hrr0 (hm_c g2_ crr) (ixN (n := 12) (by omega) nrr) (ixG (by omega) (err _ (by omega))) ?_
        refine xT_istore_n g_q69 g69_48 (by decide) ?_
        refine xT_aload_n g_q69 g69_49 (lkN (by decide) (lkN (by decide) (rfl))) ?_
        refine xT_getfield g_q69 g69_50 hA0 rfl (hm_at g2_ (i := 0) rfl rfl) rfl rfl ?_
        refine xT_getfield g_q69 g69_53 hcA rfl (hm_c g2_ hco) rfl rfl ?_
        refine xT_aload_n g_q69 g69_56 (lkN (by decide) (lkN (by decide) (rfl))) ?_
        refine xT_getfield g_q69 g69_57 hA0 rfl (hm_at g2_ (i := 0) rfl rfl) rfl rfl ?_
        refine xT_iaload g_q69 g69_60 hrn0 (hm_c g2_ crn) (ixN (n := 12) (by omega) nrn) (ixG (by omega) (ern _ (by omega))) ?_
        refine xT_istore_n g_q69 g69_61 (by decide) ?_
        refine xT_aload_n g_q69 g69_62 (lkN (by decide) (lkN (by decide) (lkN (by decide) (rfl)))) ?_
        refine xT_getfield g_q69 g69_63 hA0 rfl (hm_at g2_ (i := 0) rfl rfl) rfl rfl ?_
        refine xT_icV (y := nI (1)) g_q69 g69_66 (by decide) ?_
        refine xT_iaddV (y := nI (l + 1)) g_q69 g69_67 (bAddN _ _) ?_
        refine xT_istore g_q69 g69_68 (by decide) ?_
        refine xT_aload_n g_q69 g69_70 (lkN (by decide) (lkN (by decide) (lkN (by decide) (lkN (by decide) (rfl))))) ?_
        refine xT_getfield g_q69 g69_71 hA0 rfl (hm_at g2_ (i := 0) rfl rfl) rfl rfl ?_
        refine xT_getfield g_q69 g69_74 hcA rfl (hm_c g2_ hco) rfl rfl ?_
        refine xT_aload_n g_q69 g69_77 (lkN (by decide) (lkN (by decide) (lkN (by decide) (lkN (by decide) (rfl))))) ?_
        refine xT_getfield g_q69 g69_78 hA0 rfl (hm_at g2_ (i := 0) rfl rfl) rfl rfl ?_
        refine xT_iaload g_q69 g69_81 hro0 (hm_c g2_ cro) (ixN (n := 12) (by omega) nro) (ixG (by omega) (ero _ (by omega))) ?_
        refine xT_tableswitch g_q69 g69_82 (t := 330) (by decide) (by decide) (by dsimp only; rw [hz]; decide) ?_
        refine xT_aload_n g_q69 g69_330 (lkN (by decide) (lkN (by decide) (lkN (by decide) (lkN (by decide) (rfl))))) ?_
        refine xT_getfield g_q69 g69_331 hA0 rfl (hm_at g2_ (i := 0) rfl rfl) rfl rfl ?_
        refine xT_aload_n g_q69 g69_334 (lkN (by decide) (lkN (by decide) (lkN (by decide) (lkN (by decide) (rfl))))) ?_
        refine xT_iload_n g_q69 g69_335 (lkN (by decide) (lkN (by decide) (lkN (by decide) (lkY)))) ?_
        refine xT_invokevirtual (r := [.inr (some (se))]) (u := some (.inl ((nu_ (pLf p (l)))))) g_q69 g69_336 (j := 76) (so := 0) (by decide +kernel) g_q76 rfl (by rw [x_rcM hA0 (hm_at g2_ (i := 0) rfl rfl)]; rfl) (t76 (dp := dp + 1) hA0 hA2 hN1 hN3 hnl hol hS hnf (by omega) g2_) ?_
        refine xT_invokevirtual (r := []) (u := some (.inl ((nI (if pLp p (nu_ (pLf p (l))) = true then 1 else 0))))) g_q69 g69_339 (j := 79) (so := 0) (by decide +kernel) g_q79 rfl (by rw [x_rcM hsA (hm_c g2_ hsR)]; rfl) (t79 (dp := dp + 1) g2_ hS) ?_
        refine xT_ifCondY g_q69 g69_342 (t := 349) (by decide) ((by rw [if_neg hq]; decide +kernel)) ?_
        refine xT_iload g_q69 g69_349 (lkY) ?_
        refine xT_istore g_q69 g69_351 (by decide) ?_
        refine xT_goto g_q69 g69_353 (t := 367) (by decide) ?_
        refine xT_aload_n g_q69 g69_367 (lkN (by decide) (lkN (by decide) (lkN (by decide) (lkN (by decide) (lkN (by decide) (rfl)))))) ?_
        refine xT_invokevirtual (r := []) (u := some (.inl (nI (0)))) g_q69 g69_368 (j := 68) (so := 0) (by decide +kernel) g_q68 rfl (by rw [x_rcM hA0 (hm_at g2_ (i := 0) rfl rfl)]; rfl) (t68r hA0 hA2 g2_) ?_
        refine xT_ifCondN g_q69 g69_371 (t := 380) (by decide) (c1N (b := 0) rfl) ?_
        refine xT_aload_n g_q69 g69_374 (lkN (by decide) (lkN (by decide) (lkN (by decide) (lkN (by decide) (lkN (by decide) (rfl)))))) ?_
        refine xT_iload g_q69 g69_375 (lkY) ?_
        refine xT_invokevirtual (r := []) (u := none) g_q69 g69_377 (j := 81) (so := 0) (by decide +kernel) g_q81 rfl (by rw [x_rcM hA0 (hm_at g2_ (i := 0) rfl rfl)]; rfl) (y3_) ?_
        exact xT_return_ g_q69 g69_380 (rfl)
      obtain ⟨H2, y, hh⟩ := key
      refine ⟨H2, y, ?_⟩
      rw [stM_8 (s := (nu_, l, x, d, -1, os, ov)) hz, if_neg (show ¬ (pLp p (nu_ (pLf p (l))) = true) from hq)]
      exact ⟨_, _, _, _, _, hh, fun _ => rfl, hnl, hnf, hol, hof⟩
  · have hz : pOp p l = 9 := hz
    have key : ∃ H2, x_To x_tb x_tyl ot (dp + 3) 69 0 (x_en 0 [.inr (some (R))]) [] H 0 0 none H2 ∧ hm H0 H2 [R, nu, ob, oi] [.inl (4, [.inr (some (nu)), .inr (some (sp)), .inr (some (co)), .inr (some (se)), .inr (some (inp)), .inr (some (ob)), .inl (pYr p), .inl (nI (pNm p l)), .inl (nI x), .inl (nI (d + 1)), .inl (if pNl p ≤ pNm p l then 0 else if d + 1 = 150 then 2 else -1), .inl (nI 0), .inl (lw)]), .inr (0, nf), .inl (5, [.inr (some (oi)), .inl (nI (os))]), .inr (0, of)] := by
      have g1_ : hm H0 _ [R, nu, ob, oi] [.inl (4, [.inr (some (nu)), .inr (some (sp)), .inr (some (co)), .inr (some (se)), .inr (some (inp)), .inr (some (ob)), .inl (pYr p), .inl (nI (l)), .inl (nI (x)), .inl (nI (d)), .inl (-1), .inl (nI (0)), .inl (lw)]), .inr (0, nf), .inl (5, [.inr (some (oi)), .inl (nI (os))]), .inr (0, of)] := hm_set (i := 0) (z2 := .inl (4, ([.inr (some (nu)), .inr (some (sp)), .inr (some (co)), .inr (some (se)), .inr (some (inp)), .inr (some (ob)), .inl (pYr p), .inl (nI (l)), .inl (nI (x)), .inl (nI (d)), .inl (-1), .inl (hw), .inl (lw)]).set 11 (.inl (nI (0))))) h rfl
      have g2_ : hm H0 _ [R, nu, ob, oi] [.inl (4, [.inr (some (nu)), .inr (some (sp)), .inr (some (co)), .inr (some (se)), .inr (some (inp)), .inr (some (ob)), .inl (pYr p), .inl (nI (l)), .inl (nI (x)), .inl (nI (d + 1)), .inl (-1), .inl (nI (0)), .inl (lw)]), .inr (0, nf), .inl (5, [.inr (some (oi)), .inl (nI (os))]), .inr (0, of)] := hm_set (i := 0) (z2 := .inl (4, ([.inr (some (nu)), .inr (some (sp)), .inr (some (co)), .inr (some (se)), .inr (some (inp)), .inr (some (ob)), .inl (pYr p), .inl (nI (l)), .inl (nI (x)), .inl (nI (d)), .inl (-1), .inl (nI (0)), .inl (lw)]).set 9 (.inl (nI (d + 1))))) g1_ rfl
      obtain ⟨G3, y3_, g3_⟩ := t81 (dp := dp + 2) (next := pNm p (l)) (d := d + 1) hA0 hA2 hC h12 (by omega) (by omega) g2_
      have g3_ : hm H0 G3 [R, nu, ob, oi] [.inl (4, [.inr (some (nu)), .inr (some (sp)), .inr (some (co)), .inr (some (se)), .inr (some (inp)), .inr (some (ob)), .inl (pYr p), .inl (nI (pNm p (l))), .inl (nI (x)), .inl (nI (d + 1)), .inl ((if pNl p ≤ pNm p (l) then 0 else if d + 1 = 150 then 2 else -1)), .inl (nI (0)), .inl (lw)]), .inr (0, nf), .inl (5, [.inr (some (oi)), .inl (nI (os))]), .inr (0, of)] := g3_
      refine ⟨_, ?_, g3_⟩
      refine xT_aload_n g_q69 g69_0 (rfl) ?_
      refine xT_icV (y := nI (0)) g_q69 g69_1 (by decide) ?_
      refine xT_putfield g_q69 g69_2 (ci := 4) (j := 11) rfl (hm_at h (i := 0) rfl rfl) rfl rfl ?_
      refine xT_aload_n g_q69 g69_5 (rfl) ?_
      refine xT_invokevirtual (r := []) (u := some (.inl (nI (0)))) g_q69 g69_6 (j := 68) (so := 0) (by decide +kernel) g_q68 rfl (by rw [x_rcM hA0 (hm_at g1_ (i := 0) rfl rfl)]; rfl) (t68r hA0 hA2 g1_) ?_
      refine xT_ifCondY g_q69 g69_9 (t := 13) (by decide) (c0Y (b := 0) rfl) ?_
      refine xT_aload_n g_q69 g69_13 (rfl) ?_
      refine xT_dup g_q69 g69_14 ?_
      refine xT_getfield g_q69 g69_15 hA0 rfl (hm_at g1_ (i := 0) rfl rfl) rfl rfl ?_
      refine xT_icV (y := nI (1)) g_q69 g69_18 (by decide) ?_
      refine xT_iaddV (y := nI (d + 1)) g_q69 g69_19 (bAddN _ _) ?_
      refine xT_putfield g_q69 g69_20 (ci := 4) (j := 9) rfl (hm_at g1_ (i := 0) rfl rfl) rfl rfl ?_
      refine xT_aload_n g_q69 g69_23 (rfl) ?_
      refine xT_getfield g_q69 g69_24 hA0 rfl (hm_at g2_ (i := 0) rfl rfl) rfl rfl ?_
      refine xT_getfield g_q69 g69_27 hcA rfl (hm_c g2_ hco) rfl rfl ?_
      refine xT_aload_n g_q69 g69_30 (rfl) ?_
      refine xT_getfield g_q69 g69_31 hA0 rfl (hm_at g2_ (i := 0) rfl rfl) rfl rfl ?_
      refine xT_iaload g_q69 g69_34 hrl0 (hm_c g2_ crl) (ixN (n := 12) (by omega) nrl) (ixG (by omega) (erl _ (by omega))) ?_
      refine xT_istore_n g_q69 g69_35 (by decide) ?_
      refine xT_aload_n g_q69 g69_36 (lkN (by decide) (rfl)) ?_
      refine xT_getfield g_q69 g69_37 hA0 rfl (hm_at g2_ (i := 0) rfl rfl) rfl rfl ?_
      refine xT_getfield g_q69 g69_40 hcA rfl (hm_c g2_ hco) rfl rfl ?_
      refine xT_aload_n g_q69 g69_43 (lkN (by decide) (rfl)) ?_
      refine xT_getfield g_q69 g69_44 hA0 rfl (hm_at g2_ (i := 0) rfl rfl) rfl rfl ?_
      refine xT_iaload g_q69 g69_47 hrr0 (hm_c g2_ crr) (ixN (n := 12) (by omega) nrr) (ixG (by omega) (err _ (by omega))) ?_
      refine xT_istore_n g_q69 g69_48 (by decide) ?_
      refine xT_aload_n g_q69 g69_49 (lkN (by decide) (lkN (by decide) (rfl))) ?_
      refine xT_getfield g_q69 g69_50 hA0 rfl (hm_at g2_ (i := 0) rfl rfl) rfl rfl ?_
      refine xT_getfield g_q69 g69_53 hcA rfl (hm_c g2_ hco) rfl rfl ?_
      refine xT_aload_n g_q69 g69_56 (lkN (by decide) (lkN (by decide) (rfl))) ?_
      refine xT_getfield g_q69 g69_57 hA0 rfl (hm_at g2_ (i := 0) rfl rfl) rfl rfl ?_
      refine xT_iaload g_q69 g69_60 hrn0 (hm_c g2_ crn) (ixN (n := 12) (by omega) nrn) (ixG (by omega) (ern _ (by omega))) ?_
      refine xT_istore_n g_q69 g69_61 (by decide) ?_
      refine xT_aload_n g_q69 g69_62 (lkN (by decide) (lkN (by decide) (lkN (by decide) (rfl)))) ?_
      refine xT_getfield g_q69 g69_63 hA0 rfl (hm_at g2_ (i := 0) rfl rfl) rfl rfl ?_
      refine xT_icV (y := nI (1)) g_q69 g69_66 (by decide) ?_
      refine xT_iaddV (y := nI (l + 1)) g_q69 g69_67 (bAddN _ _) ?_
      refine xT_istore g_q69 g69_68 (by decide) ?_
      refine xT_aload_n g_q69 g69_70 (lkN (by decide) (lkN (by decide) (lkN (by decide) (lkN (by decide) (rfl))))) ?_
      refine xT_getfield g_q69 g69_71 hA0 rfl (hm_at g2_ (i := 0) rfl rfl) rfl rfl ?_
      refine xT_getfield g_q69 g69_74 hcA rfl (hm_c g2_ hco) rfl rfl ?_
      refine xT_aload_n g_q69 g69_77 (lkN (by decide) (lkN (by decide) (lkN (by decide) (lkN (by decide) (rfl))))) ?_
      refine xT_getfield g_q69 g69_78 hA0 rfl (hm_at g2_ (i := 0) rfl rfl) rfl rfl ?_
      refine xT_iaload g_q69 g69_81 hro0 (hm_c g2_ cro) (ixN (n := 12) (by omega) nro) (ixG (by omega) (ero _ (by omega))) ?_
      refine xT_tableswitch g_q69 g69_82 (t := 356) (by decide) (by decide) (by dsimp only; rw [hz]; decide) ?_
      refine xT_iload_n g_q69 g69_356 (lkN (by decide) (lkY)) ?_
      refine xT_istore g_q69 g69_357 (by decide) ?_
      refine xT_goto g_q69 g69_359 (t := 367) (by decide) ?_
      refine xT_aload_n g_q69 g69_367 (lkN (by decide) (lkN (by decide) (lkN (by decide) (lkN (by decide) (lkN (by decide) (rfl)))))) ?_
      refine xT_invokevirtual (r := []) (u := some (.inl (nI (0)))) g_q69 g69_368 (j := 68) (so := 0) (by decide +kernel) g_q68 rfl (by rw [x_rcM hA0 (hm_at g2_ (i := 0) rfl rfl)]; rfl) (t68r hA0 hA2 g2_) ?_
      refine xT_ifCondN g_q69 g69_371 (t := 380) (by decide) (c1N (b := 0) rfl) ?_
      refine xT_aload_n g_q69 g69_374 (lkN (by decide) (lkN (by decide) (lkN (by decide) (lkN (by decide) (lkN (by decide) (rfl)))))) ?_
      refine xT_iload g_q69 g69_375 (lkY) ?_
      refine xT_invokevirtual (r := []) (u := none) g_q69 g69_377 (j := 81) (so := 0) (by decide +kernel) g_q81 rfl (by rw [x_rcM hA0 (hm_at g2_ (i := 0) rfl rfl)]; rfl) (y3_) ?_
      exact xT_return_ g_q69 g69_380 (rfl)
    obtain ⟨H2, y, hh⟩ := key
    refine ⟨H2, y, ?_⟩
    rw [stM_9 (s := (nu_, l, x, d, -1, os, ov)) hz]
    exact ⟨_, _, _, _, _, hh, fun _ => rfl, hnl, hnf, hol, hof⟩
  · have hz : pOp p l = 10 := hz
    have key : ∃ H2, x_To x_tb x_tyl ot (dp + 3) 69 0 (x_en 0 [.inr (some (R))]) [] H 0 0 none H2 ∧ hm H0 H2 [R, nu, ob, oi] [.inl (4, [.inr (some (nu)), .inr (some (sp)), .inr (some (co)), .inr (some (se)), .inr (some (inp)), .inr (some (ob)), .inl (pYr p), .inl (nI l), .inl (nI x), .inl (nI (d + 1)), .inl (nI 0), .inl (nI 0), .inl (lw)]), .inr (0, nf), .inl (5, [.inr (some (oi)), .inl (nI (os))]), .inr (0, of)] := by
      have g1_ : hm H0 _ [R, nu, ob, oi] [.inl (4, [.inr (some (nu)), .inr (some (sp)), .inr (some (co)), .inr (some (se)), .inr (some (inp)), .inr (some (ob)), .inl (pYr p), .inl (nI (l)), .inl (nI (x)), .inl (nI (d)), .inl (-1), .inl (nI (0)), .inl (lw)]), .inr (0, nf), .inl (5, [.inr (some (oi)), .inl (nI (os))]), .inr (0, of)] := hm_set (i := 0) (z2 := .inl (4, ([.inr (some (nu)), .inr (some (sp)), .inr (some (co)), .inr (some (se)), .inr (some (inp)), .inr (some (ob)), .inl (pYr p), .inl (nI (l)), .inl (nI (x)), .inl (nI (d)), .inl (-1), .inl (hw), .inl (lw)]).set 11 (.inl (nI (0))))) h rfl
      have g2_ : hm H0 _ [R, nu, ob, oi] [.inl (4, [.inr (some (nu)), .inr (some (sp)), .inr (some (co)), .inr (some (se)), .inr (some (inp)), .inr (some (ob)), .inl (pYr p), .inl (nI (l)), .inl (nI (x)), .inl (nI (d + 1)), .inl (-1), .inl (nI (0)), .inl (lw)]), .inr (0, nf), .inl (5, [.inr (some (oi)), .inl (nI (os))]), .inr (0, of)] := hm_set (i := 0) (z2 := .inl (4, ([.inr (some (nu)), .inr (some (sp)), .inr (some (co)), .inr (some (se)), .inr (some (inp)), .inr (some (ob)), .inl (pYr p), .inl (nI (l)), .inl (nI (x)), .inl (nI (d)), .inl (-1), .inl (nI (0)), .inl (lw)]).set 9 (.inl (nI (d + 1))))) g1_ rfl
      have g3_ : hm H0 _ [R, nu, ob, oi] [.inl (4, [.inr (some (nu)), .inr (some (sp)), .inr (some (co)), .inr (some (se)), .inr (some (inp)), .inr (some (ob)), .inl (pYr p), .inl (nI (l)), .inl (nI (x)), .inl (nI (d + 1)), .inl (nI (0)), .inl (nI (0)), .inl (lw)]), .inr (0, nf), .inl (5, [.inr (some (oi)), .inl (nI (os))]), .inr (0, of)] := hm_set (i := 0) (z2 := .inl (4, ([.inr (some (nu)), .inr (some (sp)), .inr (some (co)), .inr (some (se)), .inr (some (inp)), .inr (some (ob)), .inl (pYr p), .inl (nI (l)), .inl (nI (x)), .inl (nI (d + 1)), .inl (-1), .inl (nI (0)), .inl (lw)]).set 10 (.inl (nI (0))))) g2_ rfl
      refine ⟨_, ?_, g3_⟩
      refine xT_aload_n g_q69 g69_0 (rfl) ?_
      refine xT_icV (y := nI (0)) g_q69 g69_1 (by decide) ?_
      refine xT_putfield g_q69 g69_2 (ci := 4) (j := 11) rfl (hm_at h (i := 0) rfl rfl) rfl rfl ?_
      refine xT_aload_n g_q69 g69_5 (rfl) ?_
      refine xT_invokevirtual (r := []) (u := some (.inl (nI (0)))) g_q69 g69_6 (j := 68) (so := 0) (by decide +kernel) g_q68 rfl (by rw [x_rcM hA0 (hm_at g1_ (i := 0) rfl rfl)]; rfl) (t68r hA0 hA2 g1_) ?_
      refine xT_ifCondY g_q69 g69_9 (t := 13) (by decide) (c0Y (b := 0) rfl) ?_
      refine xT_aload_n g_q69 g69_13 (rfl) ?_
      refine xT_dup g_q69 g69_14 ?_
      refine xT_getfield g_q69 g69_15 hA0 rfl (hm_at g1_ (i := 0) rfl rfl) rfl rfl ?_
      refine xT_icV (y := nI (1)) g_q69 g69_18 (by decide) ?_
      refine xT_iaddV (y := nI (d + 1)) g_q69 g69_19 (bAddN _ _) ?_
      refine xT_putfield g_q69 g69_20 (ci := 4) (j := 9) rfl (hm_at g1_ (i := 0) rfl rfl) rfl rfl ?_
      refine xT_aload_n g_q69 g69_23 (rfl) ?_
      refine xT_getfield g_q69 g69_24 hA0 rfl (hm_at g2_ (i := 0) rfl rfl) rfl rfl ?_
      refine xT_getfield g_q69 g69_27 hcA rfl (hm_c g2_ hco) rfl rfl ?_
      refine xT_aload_n g_q69 g69_30 (rfl) ?_
      refine xT_getfield g_q69 g69_31 hA0 rfl (hm_at g2_ (i := 0) rfl rfl) rfl rfl ?_
      refine xT_iaload g_q69 g69_34 hrl0 (hm_c g2_ crl) (ixN (n := 12) (by omega) nrl) (ixG (by omega) (erl _ (by omega))) ?_
      refine xT_istore_n g_q69 g69_35 (by decide) ?_
      refine xT_aload_n g_q69 g69_36 (lkN (by decide) (rfl)) ?_
      refine xT_getfield g_q69 g69_37 hA0 rfl (hm_at g2_ (i := 0) rfl rfl) rfl rfl ?_
      refine xT_getfield g_q69 g69_40 hcA rfl (hm_c g2_ hco) rfl rfl ?_
      refine xT_aload_n g_q69 g69_43 (lkN (by decide) (rfl)) ?_
      refine xT_getfield g_q69 g69_44 hA0 rfl (hm_at g2_ (i := 0) rfl rfl) rfl rfl ?_
      refine xT_iaload g_q69 g69_47 hrr0 (hm_c g2_ crr) (ixN (n := 12) (by omega) nrr) (ixG (by omega) (err _ (by omega))) ?_
      refine xT_istore_n g_q69 g69_48 (by decide) ?_
      refine xT_aload_n g_q69 g69_49 (lkN (by decide) (lkN (by decide) (rfl))) ?_
      refine xT_getfield g_q69 g69_50 hA0 rfl (hm_at g2_ (i := 0) rfl rfl) rfl rfl ?_
      refine xT_getfield g_q69 g69_53 hcA rfl (hm_c g2_ hco) rfl rfl ?_
      refine xT_aload_n g_q69 g69_56 (lkN (by decide) (lkN (by decide) (rfl))) ?_
      refine xT_getfield g_q69 g69_57 hA0 rfl (hm_at g2_ (i := 0) rfl rfl) rfl rfl ?_
      refine xT_iaload g_q69 g69_60 hrn0 (hm_c g2_ crn) (ixN (n := 12) (by omega) nrn) (ixG (by omega) (ern _ (by omega))) ?_
      refine xT_istore_n g_q69 g69_61 (by decide) ?_
      refine xT_aload_n g_q69 g69_62 (lkN (by decide) (lkN (by decide) (lkN (by decide) (rfl)))) ?_
      refine xT_getfield g_q69 g69_63 hA0 rfl (hm_at g2_ (i := 0) rfl rfl) rfl rfl ?_
      refine xT_icV (y := nI (1)) g_q69 g69_66 (by decide) ?_
      refine xT_iaddV (y := nI (l + 1)) g_q69 g69_67 (bAddN _ _) ?_
      refine xT_istore g_q69 g69_68 (by decide) ?_
      refine xT_aload_n g_q69 g69_70 (lkN (by decide) (lkN (by decide) (lkN (by decide) (lkN (by decide) (rfl))))) ?_
      refine xT_getfield g_q69 g69_71 hA0 rfl (hm_at g2_ (i := 0) rfl rfl) rfl rfl ?_
      refine xT_getfield g_q69 g69_74 hcA rfl (hm_c g2_ hco) rfl rfl ?_
      refine xT_aload_n g_q69 g69_77 (lkN (by decide) (lkN (by decide) (lkN (by decide) (lkN (by decide) (rfl))))) ?_
      refine xT_getfield g_q69 g69_78 hA0 rfl (hm_at g2_ (i := 0) rfl rfl) rfl rfl ?_
      refine xT_iaload g_q69 g69_81 hro0 (hm_c g2_ cro) (ixN (n := 12) (by omega) nro) (ixG (by omega) (ero _ (by omega))) ?_
      refine xT_tableswitch g_q69 g69_82 (t := 362) (by decide) (by decide) (by dsimp only; rw [hz]; decide) ?_
      refine xT_aload_n g_q69 g69_362 (lkN (by decide) (lkN (by decide) (lkN (by decide) (lkN (by decide) (rfl))))) ?_
      refine xT_icV (y := nI (0)) g_q69 g69_363 (by decide) ?_
      refine xT_putfield g_q69 g69_364 (ci := 4) (j := 10) rfl (hm_at g2_ (i := 0) rfl rfl) rfl rfl ?_
      refine xT_aload_n g_q69 g69_367 (lkN (by decide) (lkN (by decide) (lkN (by decide) (lkN (by decide) (rfl))))) ?_
      refine xT_invokevirtual (r := []) (u := some (.inl (nI (1)))) g_q69 g69_368 (j := 68) (so := 0) (by decide +kernel) g_q68 rfl (by rw [x_rcM hA0 (hm_at g3_ (i := 0) rfl rfl)]; rfl) (t68o hA0 hA2 g3_ (by decide)) ?_
      refine xT_ifCondY g_q69 g69_371 (t := 380) (by decide) (c1Y (a := 1) (b := 0) (by omega) (by omega) (by omega)) ?_
      exact xT_return_ g_q69 g69_380 (rfl)
    obtain ⟨H2, y, hh⟩ := key
    refine ⟨H2, y, ?_⟩
    rw [stM_10 (s := (nu_, l, x, d, -1, os, ov)) hz]
    have e0 : rEn (stG p (nu_, l, x, d, -1, os, ov) 12 x nu_ os ov) = 0 := if_pos h12
    refine ⟨nf, of, nI l, nI 0, lw, ?_, fun z => ?_, hnl, hnf, hol, hof⟩
    · rw [e0]
      exact hh
    · rw [e0] at z
      exact absurd z (by decide)
  · have hz : pOp p l = 11 := hz
    by_cases hq : nu_ (pLf p (l)) = nu_ (pRt p (l))
    · skip
      have key : ∃ H2, x_To x_tb x_tyl ot (dp + 3) 69 0 (x_en 0 [.inr (some (R))]) [] H 0 0 none H2 ∧ hm H0 H2 [R, nu, ob, oi] [.inl (4, [.inr (some (nu)), .inr (some (sp)), .inr (some (co)), .inr (some (se)), .inr (some (inp)), .inr (some (ob)), .inl (pYr p), .inl (nI (pNm p l)), .inl (nI x), .inl (nI (d + 1)), .inl (if pNl p ≤ pNm p l then 0 else if d + 1 = 150 then 2 else -1), .inl (nI 0), .inl (lw)]), .inr (0, nf), .inl (5, [.inr (some (oi)), .inl (nI (os))]), .inr (0, of)] := by
        have g1_ : hm H0 _ [R, nu, ob, oi] [.inl (4, [.inr (some (nu)), .inr (some (sp)), .inr (some (co)), .inr (some (se)), .inr (some (inp)), .inr (some (ob)), .inl (pYr p), .inl (nI (l)), .inl (nI (x)), .inl (nI (d)), .inl (-1), .inl (nI (0)), .inl (lw)]), .inr (0, nf), .inl (5, [.inr (some (oi)), .inl (nI (os))]), .inr (0, of)] := hm_set (i := 0) (z2 := .inl (4, ([.inr (some (nu)), .inr (some (sp)), .inr (some (co)), .inr (some (se)), .inr (some (inp)), .inr (some (ob)), .inl (pYr p), .inl (nI (l)), .inl (nI (x)), .inl (nI (d)), .inl (-1), .inl (hw), .inl (lw)]).set 11 (.inl (nI (0))))) h rfl
        have g2_ : hm H0 _ [R, nu, ob, oi] [.inl (4, [.inr (some (nu)), .inr (some (sp)), .inr (some (co)), .inr (some (se)), .inr (some (inp)), .inr (some (ob)), .inl (pYr p), .inl (nI (l)), .inl (nI (x)), .inl (nI (d + 1)), .inl (-1), .inl (nI (0)), .inl (lw)]), .inr (0, nf), .inl (5, [.inr (some (oi)), .inl (nI (os))]), .inr (0, of)] := hm_set (i := 0) (z2 := .inl (4, ([.inr (some (nu)), .inr (some (sp)), .inr (some (co)), .inr (some (se)), .inr (some (inp)), .inr (some (ob)), .inl (pYr p), .inl (nI (l)), .inl (nI (x)), .inl (nI (d)), .inl (-1), .inl (nI (0)), .inl (lw)]).set 9 (.inl (nI (d + 1))))) g1_ rfl
        obtain ⟨G3, y3_, g3_⟩ := t81 (dp := dp + 2) (next := pNm p (l)) (d := d + 1) hA0 hA2 hC h12 (by omega) (by omega) g2_
        have g3_ : hm H0 G3 [R, nu, ob, oi] [.inl (4, [.inr (some (nu)), .inr (some (sp)), .inr (some (co)), .inr (some (se)), .inr (some (inp)), .inr (some (ob)), .inl (pYr p), .inl (nI (pNm p (l))), .inl (nI (x)), .inl (nI (d + 1)), .inl ((if pNl p ≤ pNm p (l) then 0 else if d + 1 = 150 then 2 else -1)), .inl (nI (0)), .inl (lw)]), .inr (0, nf), .inl (5, [.inr (some (oi)), .inl (nI (os))]), .inr (0, of)] := g3_
        refine ⟨_, ?_, g3_⟩
        refine xT_aload_n g_q69 g69_0 (rfl) ?_
        refine xT_icV (y := nI (0)) g_q69 g69_1 (by decide) ?_
        refine xT_putfield g_q69 g69_2 (ci := 4) (j := 11) rfl (hm_at h (i := 0) rfl rfl) rfl rfl ?_
        refine xT_aload_n g_q69 g69_5 (rfl) ?_
        refine xT_invokevirtual (r := []) (u := some (.inl (nI (0)))) g_q69 g69_6 (j := 68) (so := 0) (by decide +kernel) g_q68 rfl (by rw [x_rcM hA0 (hm_at g1_ (i := 0) rfl rfl)]; rfl) (t68r hA0 hA2 g1_) ?_
        refine xT_ifCondY g_q69 g69_9 (t := 13) (by decide) (c0Y (b := 0) rfl) ?_
        refine xT_aload_n g_q69 g69_13 (rfl) ?_
        refine xT_dup g_q69 g69_14 ?_
        refine xT_getfield g_q69 g69_15 hA0 rfl (hm_at g1_ (i := 0) rfl rfl) rfl rfl ?_
        refine xT_icV (y := nI (1)) g_q69 g69_18 (by decide) ?_
        refine xT_iaddV (y := nI (d + 1)) g_q69 g69_19 (bAddN _ _) ?_
        refine xT_putfield g_q69 g69_20 (ci := 4) (j := 9) rfl (hm_at g1_ (i := 0) rfl rfl) rfl rfl ?_
        refine xT_aload_n g_q69 g69_23 (rfl) ?_
        refine xT_getfield g_q69 g69_24 hA0 rfl (hm_at g2_ (i := 0) rfl rfl) rfl rfl ?_
        refine xT_getfield g_q69 g69_27 hcA rfl (hm_c g2_ hco) rfl rfl ?_
        refine xT_aload_n g_q69 g69_30 (rfl) ?_
        refine xT_getfield g_q69 g69_31 hA0 rfl (hm_at g2_ (i := 0) rfl rfl) rfl rfl ?_
        refine xT_iaload g_q69 g69_34 hrl0 (hm_c g2_ crl) (ixN (n := 12) (by omega) nrl) (ixG (by omega) (erl _ (by omega))) ?_
        refine xT_istore_n g_q69 g69_35 (by decide) ?_
        refine xT_aload_n g_q69 g69_36 (lkN (by decide) (rfl)) ?_
        refine xT_getfield g_q69 g69_37 hA0 rfl (hm_at g2_ (i := 0) rfl rfl) rfl rfl ?_
        refine xT_getfield g_q69 g69_40 hcA rfl (hm_c g2_ hco) rfl rfl ?_
        refine xT_aload_n g_q69 g69_43 (lkN (by decide) (rfl)) ?_
        refine xT_getfield g_q69 g69_44 hA0 rfl (hm_at g2_ (i := 0) rfl rfl) rfl rfl ?_
        refine xT_iaload g_q69 g69_47 hrr0 (hm_c g2_ crr) (ixN (n := 12) (by omega) nrr) (ixG (by omega) (err _ (by omega))) ?_
        refine xT_istore_n g_q69 g69_48 (by decide) ?_
        refine xT_aload_n g_q69 g69_49 (lkN (by decide) (lkN (by decide) (rfl))) ?_
        refine xT_getfield g_q69 g69_50 hA0 rfl (hm_at g2_ (i := 0) rfl rfl) rfl rfl ?_
        refine xT_getfield g_q69 g69_53 hcA rfl (hm_c g2_ hco) rfl rfl ?_
        refine xT_aload_n g_q69 g69_56 (lkN (by decide) (lkN (by decide) (rfl))) ?_
        refine xT_getfield g_q69 g69_57 hA0 rfl (hm_at g2_ (i := 0) rfl rfl) rfl rfl ?_
        refine xT_iaload g_q69 g69_60 hrn0 (hm_c g2_ crn) (ixN (n := 12) (by omega) nrn) (ixG (by omega) (ern _ (by omega))) ?_
        refine xT_istore_n g_q69 g69_61 (by decide) ?_
        refine xT_aload_n g_q69 g69_62 (lkN (by decide) (lkN (by decide) (lkN (by decide) (rfl)))) ?_
        refine xT_getfield g_q69 g69_63 hA0 rfl (hm_at g2_ (i := 0) rfl rfl) rfl rfl ?_
        refine xT_icV (y := nI (1)) g_q69 g69_66 (by decide) ?_
        refine xT_iaddV (y := nI (l + 1)) g_q69 g69_67 (bAddN _ _) ?_
        refine xT_istore g_q69 g69_68 (by decide) ?_
        refine xT_aload_n g_q69 g69_70 (lkN (by decide) (lkN (by decide) (lkN (by decide) (lkN (by decide) (rfl))))) ?_
        refine xT_getfield g_q69 g69_71 hA0 rfl (hm_at g2_ (i := 0) rfl rfl) rfl rfl ?_
        refine xT_getfield g_q69 g69_74 hcA rfl (hm_c g2_ hco) rfl rfl ?_
        refine xT_aload_n g_q69 g69_77 (lkN (by decide) (lkN (by decide) (lkN (by decide) (lkN (by decide) (rfl))))) ?_
        refine xT_getfield g_q69 g69_78 hA0 rfl (hm_at g2_ (i := 0) rfl rfl) rfl rfl ?_
        refine xT_iaload g_q69 g69_81 hro0 (hm_c g2_ cro) (ixN (n := 12) (by omega) nro) (ixG (by omega) (ero _ (by omega))) ?_
        refine xT_tableswitch g_q69 g69_82 (t := 306) (by decide) (by decide) (by dsimp only; rw [hz]; decide) ?_
        refine xT_aload_n g_q69 g69_306 (lkN (by decide) (lkN (by decide) (lkN (by decide) (lkN (by decide) (rfl))))) ?_
        refine xT_iload_n g_q69 g69_307 (lkN (by decide) (lkN (by decide) (lkN (by decide) (lkY)))) ?_
        refine xT_invokevirtual (r := []) (u := some (.inl ((nu_ (pLf p (l)))))) g_q69 g69_308 (j := 76) (so := 0) (by decide +kernel) g_q76 rfl (by rw [x_rcM hA0 (hm_at g2_ (i := 0) rfl rfl)]; rfl) (t76 (dp := dp + 1) hA0 hA2 hN1 hN3 hnl hol hS hnf (by omega) g2_) ?_
        refine xT_aload_n g_q69 g69_311 (lkN (by decide) (lkN (by decide) (lkN (by decide) (lkN (by decide) (rfl))))) ?_
        refine xT_iload_n g_q69 g69_312 (lkN (by decide) (lkN (by decide) (lkY))) ?_
        refine xT_invokevirtual (r := [.inl ((nu_ (pLf p (l))))]) (u := some (.inl ((nu_ (pRt p (l)))))) g_q69 g69_313 (j := 76) (so := 0) (by decide +kernel) g_q76 rfl (by rw [x_rcM hA0 (hm_at g2_ (i := 0) rfl rfl)]; rfl) (t76 (dp := dp + 1) hA0 hA2 hN1 hN3 hnl hol hS hnf (by omega) g2_) ?_
        refine xT_if_icmpN g_q69 g69_316 (t := 323) (by decide) (decide_eq_false (fun z => z hq)) ?_
        refine xT_iload_n g_q69 g69_319 (lkN (by decide) (lkY)) ?_
        refine xT_goto g_q69 g69_320 (t := 325) (by decide) ?_
        refine xT_istore g_q69 g69_325 (by decide) ?_
        refine xT_goto g_q69 g69_327 (t := 367) (by decide) ?_
        refine xT_aload_n g_q69 g69_367 (lkN (by decide) (lkN (by decide) (lkN (by decide) (lkN (by decide) (lkN (by decide) (rfl)))))) ?_
        refine xT_invokevirtual (r := []) (u := some (.inl (nI (0)))) g_q69 g69_368 (j := 68) (so := 0) (by decide +kernel) g_q68 rfl (by rw [x_rcM hA0 (hm_at g2_ (i := 0) rfl rfl)]; rfl) (t68r hA0 hA2 g2_) ?_
        refine xT_ifCondN g_q69 g69_371 (t := 380) (by decide) (c1N (b := 0) rfl) ?_
        refine xT_aload_n g_q69 g69_374 (lkN (by decide) (lkN (by decide) (lkN (by decide) (lkN (by decide) (lkN (by decide) (rfl)))))) ?_
        refine xT_iload g_q69 g69_375 (lkY) ?_
        refine xT_invokevirtual (r := []) (u := none) g_q69 g69_377 (j := 81) (so := 0) (by decide +kernel) g_q81 rfl (by rw [x_rcM hA0 (hm_at g2_ (i := 0) rfl rfl)]; rfl) (y3_) ?_
        exact xT_return_ g_q69 g69_380 (rfl)
      obtain ⟨H2, y, hh⟩ := key
      refine ⟨H2, y, ?_⟩
      rw [stM_11 (s := (nu_, l, x, d, -1, os, ov)) hz, if_pos (show nu_ (pLf p (l)) = nu_ (pRt p (l)) from hq)]
      exact ⟨_, _, _, _, _, hh, fun _ => rfl, hnl, hnf, hol, hof⟩
    · skip
      have key : ∃ H2, x_To x_tb x_tyl ot (dp + 3) 69 0 (x_en 0 [.inr (some (R))]) [] H 0 0 none H2 ∧ hm H0 H2 [R, nu, ob, oi] [.inl (4, [.inr (some (nu)), .inr (some (sp)), .inr (some (co)), .inr (some (se)), .inr (some (inp)), .inr (some (ob)), .inl (pYr p), .inl (nI (l + 1)), .inl (nI x), .inl (nI (d + 1)), .inl (if pNl p ≤ l + 1 then 0 else if d + 1 = 150 then 2 else -1), .inl (nI 0), .inl (lw)]), .inr (0, nf), .inl (5, [.inr (some (oi)), .inl (nI (os))]), .inr (0, of)] := by
        have g1_ : hm H0 _ [R, nu, ob, oi] [.inl (4, [.inr (some (nu)), .inr (some (sp)), .inr (some (co)), .inr (some (se)), .inr (some (inp)), .inr (some (ob)), .inl (pYr p), .inl (nI (l)), .inl (nI (x)), .inl (nI (d)), .inl (-1), .inl (nI (0)), .inl (lw)]), .inr (0, nf), .inl (5, [.inr (some (oi)), .inl (nI (os))]), .inr (0, of)] := hm_set (i := 0) (z2 := .inl (4, ([.inr (some (nu)), .inr (some (sp)), .inr (some (co)), .inr (some (se)), .inr (some (inp)), .inr (some (ob)), .inl (pYr p), .inl (nI (l)), .inl (nI (x)), .inl (nI (d)), .inl (-1), .inl (hw), .inl (lw)]).set 11 (.inl (nI (0))))) h rfl
        have g2_ : hm H0 _ [R, nu, ob, oi] [.inl (4, [.inr (some (nu)), .inr (some (sp)), .inr (some (co)), .inr (some (se)), .inr (some (inp)), .inr (some (ob)), .inl (pYr p), .inl (nI (l)), .inl (nI (x)), .inl (nI (d + 1)), .inl (-1), .inl (nI (0)), .inl (lw)]), .inr (0, nf), .inl (5, [.inr (some (oi)), .inl (nI (os))]), .inr (0, of)] := hm_set (i := 0) (z2 := .inl (4, ([.inr (some (nu)), .inr (some (sp)), .inr (some (co)), .inr (some (se)), .inr (some (inp)), .inr (some (ob)), .inl (pYr p), .inl (nI (l)), .inl (nI (x)), .inl (nI (d)), .inl (-1), .inl (nI (0)), .inl (lw)]).set 9 (.inl (nI (d + 1))))) g1_ rfl
        obtain ⟨G3, y3_, g3_⟩ := t81 (dp := dp + 2) (next := l + 1) (d := d + 1) hA0 hA2 hC h12 (by omega) (by omega) g2_
        have g3_ : hm H0 G3 [R, nu, ob, oi] [.inl (4, [.inr (some (nu)), .inr (some (sp)), .inr (some (co)), .inr (some (se)), .inr (some (inp)), .inr (some (ob)), .inl (pYr p), .inl (nI (l + 1)), .inl (nI (x)), .inl (nI (d + 1)), .inl ((if pNl p ≤ l + 1 then 0 else if d + 1 = 150 then 2 else -1)), .inl (nI (0)), .inl (lw)]), .inr (0, nf), .inl (5, [.inr (some (oi)), .inl (nI (os))]), .inr (0, of)] := g3_
        refine ⟨_, ?_, g3_⟩
        refine xT_aload_n g_q69 g69_0 (rfl) ?_
        refine xT_icV (y := nI (0)) g_q69 g69_1 (by decide) ?_
        refine xT_putfield g_q69 g69_2 (ci := 4) (j := 11) rfl (hm_at h (i := 0) rfl rfl) rfl rfl ?_
        refine xT_aload_n g_q69 g69_5 (rfl) ?_
        refine xT_invokevirtual (r := []) (u := some (.inl (nI (0)))) g_q69 g69_6 (j := 68) (so := 0) (by decide +kernel) g_q68 rfl (by rw [x_rcM hA0 (hm_at g1_ (i := 0) rfl rfl)]; rfl) (t68r hA0 hA2 g1_) ?_
        refine xT_ifCondY g_q69 g69_9 (t := 13) (by decide) (c0Y (b := 0) rfl) ?_
        refine xT_aload_n g_q69 g69_13 (rfl) ?_
        refine xT_dup g_q69 g69_14 ?_
        refine xT_getfield g_q69 g69_15 hA0 rfl (hm_at g1_ (i := 0) rfl rfl) rfl rfl ?_
        refine xT_icV (y := nI (1)) g_q69 g69_18 (by decide) ?_
        refine xT_iaddV (y := nI (d + 1)) g_q69 g69_19 (bAddN _ _) ?_
        refine xT_putfield g_q69 g69_20 (ci := 4) (j := 9) rfl (hm_at g1_ (i := 0) rfl rfl) rfl rfl ?_
        refine xT_aload_n g_q69 g69_23 (rfl) ?_
        refine xT_getfield g_q69 g69_24 hA0 rfl (hm_at g2_ (i := 0) rfl rfl) rfl rfl ?_
        refine xT_getfield g_q69 g69_27 hcA rfl (hm_c g2_ hco) rfl rfl ?_
        refine xT_aload_n g_q69 g69_30 (rfl) ?_
        refine xT_getfield g_q69 g69_31 hA0 rfl (hm_at g2_ (i := 0) rfl rfl) rfl rfl ?_
        refine xT_iaload g_q69 g69_34 hrl0 (hm_c g2_ crl) (ixN (n := 12) (by omega) nrl) (ixG (by omega) (erl _ (by omega))) ?_
        refine xT_istore_n g_q69 g69_35 (by decide) ?_
        refine xT_aload_n g_q69 g69_36 (lkN (by decide) (rfl)) ?_
        refine xT_getfield g_q69 g69_37 hA0 rfl (hm_at g2_ (i := 0) rfl rfl) rfl rfl ?_
        refine xT_getfield g_q69 g69_40 hcA rfl (hm_c g2_ hco) rfl rfl ?_
        refine xT_aload_n g_q69 g69_43 (lkN (by decide) (rfl)) ?_
        refine xT_getfield g_q69 g69_44 hA0 rfl (hm_at g2_ (i := 0) rfl rfl) rfl rfl ?_
        refine xT_iaload g_q69 g69_47 hrr0 (hm_c g2_ crr) (ixN (n := 12) (by omega) nrr) (ixG (by omega) (err _ (by omega))) ?_
        refine xT_istore_n g_q69 g69_48 (by decide) ?_
        refine xT_aload_n g_q69 g69_49 (lkN (by decide) (lkN (by decide) (rfl))) ?_
        refine xT_getfield g_q69 g69_50 hA0 rfl (hm_at g2_ (i := 0) rfl rfl) rfl rfl ?_
        refine xT_getfield g_q69 g69_53 hcA rfl (hm_c g2_ hco) rfl rfl ?_
        refine xT_aload_n g_q69 g69_56 (lkN (by decide) (lkN (by decide) (rfl))) ?_
        refine xT_getfield g_q69 g69_57 hA0 rfl (hm_at g2_ (i := 0) rfl rfl) rfl rfl ?_
        refine xT_iaload g_q69 g69_60 hrn0 (hm_c g2_ crn) (ixN (n := 12) (by omega) nrn) (ixG (by omega) (ern _ (by omega))) ?_
        refine xT_istore_n g_q69 g69_61 (by decide) ?_
        refine xT_aload_n g_q69 g69_62 (lkN (by decide) (lkN (by decide) (lkN (by decide) (rfl)))) ?_
        refine xT_getfield g_q69 g69_63 hA0 rfl (hm_at g2_ (i := 0) rfl rfl) rfl rfl ?_
        refine xT_icV (y := nI (1)) g_q69 g69_66 (by decide) ?_
        refine xT_iaddV (y := nI (l + 1)) g_q69 g69_67 (bAddN _ _) ?_
        refine xT_istore g_q69 g69_68 (by decide) ?_
        refine xT_aload_n g_q69 g69_70 (lkN (by decide) (lkN (by decide) (lkN (by decide) (lkN (by decide) (rfl))))) ?_
        refine xT_getfield g_q69 g69_71 hA0 rfl (hm_at g2_ (i := 0) rfl rfl) rfl rfl ?_
        refine xT_getfield g_q69 g69_74 hcA rfl (hm_c g2_ hco) rfl rfl ?_
        refine xT_aload_n g_q69 g69_77 (lkN (by decide) (lkN (by decide) (lkN (by decide) (lkN (by decide) (rfl))))) ?_
        refine xT_getfield g_q69 g69_78 hA0 rfl (hm_at g2_ (i := 0) rfl rfl) rfl rfl ?_
        refine xT_iaload g_q69 g69_81 hro0 (hm_c g2_ cro) (ixN (n := 12) (by omega) nro) (ixG (by omega) (ero _ (by omega))) ?_
        refine xT_tableswitch g_q69 g69_82 (t := 306) (by decide) (by decide) (by dsimp only; rw [hz]; decide) ?_
        refine xT_aload_n g_q69 g69_306 (lkN (by decide) (lkN (by decide) (lkN (by decide) (lkN (by decide) (rfl))))) ?_
        refine xT_iload_n g_q69 g69_307 (lkN (by decide) (lkN (by decide) (lkN (by decide) (lkY)))) ?_
        refine xT_invokevirtual (r := []) (u := some (.inl ((nu_ (pLf p (l)))))) g_q69 g69_308 (j := 76) (so := 0) (by decide +kernel) g_q76 rfl (by rw [x_rcM hA0 (hm_at g2_ (i := 0) rfl rfl)]; rfl) (t76 (dp := dp + 1) hA0 hA2 hN1 hN3 hnl hol hS hnf (by omega) g2_) ?_
        refine xT_aload_n g_q69 g69_311 (lkN (by decide) (lkN (by decide) (lkN (by decide) (lkN (by decide) (rfl))))) ?_
        refine xT_iload_n g_q69 g69_312 (lkN (by decide) (lkN (by decide) (lkY))) ?_
        refine xT_invokevirtual (r := [.inl ((nu_ (pLf p (l))))]) (u := some (.inl ((nu_ (pRt p (l)))))) g_q69 g69_313 (j := 76) (so := 0) (by decide +kernel) g_q76 rfl (by rw [x_rcM hA0 (hm_at g2_ (i := 0) rfl rfl)]; rfl) (t76 (dp := dp + 1) hA0 hA2 hN1 hN3 hnl hol hS hnf (by omega) g2_) ?_
        refine xT_if_icmpY g_q69 g69_316 (t := 323) (by decide) (decide_eq_true hq) ?_
        refine xT_iload g_q69 g69_323 (lkY) ?_
        refine xT_istore g_q69 g69_325 (by decide) ?_
        refine xT_goto g_q69 g69_327 (t := 367) (by decide) ?_
        refine xT_aload_n g_q69 g69_367 (lkN (by decide) (lkN (by decide) (lkN (by decide) (lkN (by decide) (lkN (by decide) (rfl)))))) ?_
        refine xT_invokevirtual (r := []) (u := some (.inl (nI (0)))) g_q69 g69_368 (j := 68) (so := 0) (by decide +kernel) g_q68 rfl (by rw [x_rcM hA0 (hm_at g2_ (i := 0) rfl rfl)]; rfl) (t68r hA0 hA2 g2_) ?_
        refine xT_ifCondN g_q69 g69_371 (t := 380) (by decide) (c1N (b := 0) rfl) ?_
        refine xT_aload_n g_q69 g69_374 (lkN (by decide) (lkN (by decide) (lkN (by decide) (lkN (by decide) (lkN (by decide) (rfl)))))) ?_
        refine xT_iload g_q69 g69_375 (lkY) ?_
        refine xT_invokevirtual (r := []) (u := none) g_q69 g69_377 (j := 81) (so := 0) (by decide +kernel) g_q81 rfl (by rw [x_rcM hA0 (hm_at g2_ (i := 0) rfl rfl)]; rfl) (y3_) ?_
        exact xT_return_ g_q69 g69_380 (rfl)
      obtain ⟨H2, y, hh⟩ := key
      refine ⟨H2, y, ?_⟩
      rw [stM_11 (s := (nu_, l, x, d, -1, os, ov)) hz, if_neg (show ¬ (nu_ (pLf p (l)) = nu_ (pRt p (l))) from hq)]
      exact ⟨_, _, _, _, _, hh, fun _ => rfl, hnl, hnf, hol, hof⟩
end XH33_15
