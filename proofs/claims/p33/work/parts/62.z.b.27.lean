/-! p33 by hand, 26. -/
noncomputable section XH33_26
variable {ot : XO Int32} {dp : Nat} {H H0 : List (XC Int32)}
theorem t205_0 {b F0 F1 ln cd ip sh shs fi fz tw tz fo pc tk dn en wo ws la W0 W1 q : Nat} {gs : List (XV Int32)} {p : rP} {s0 s1 : rS} (hA0 : ¬ 1000000 < b) (hN1 : ¬ F0 = 1000000) (hN2 : ¬ F1 = 1000000) (hN3 : ¬ pc = 1000000) (hN4 : ¬ tk = 1000000) (hN5 : ¬ dn = 1000000) (hN6 : ¬ en = 1000000) (hN7 : ¬ W0 = 1000000) (hN8 : ¬ W1 = 1000000) (hN9 : ¬ ws = 1000000) (hN10 : ¬ la = 1000000) (hG : rG gs ln cd ip sh shs fi fz tw tz fo pc tk dn en wo ws la) (hfo : rQ H0 [b, F0, F1, pc, tk, dn, en, W0, W1, ws, la] fo 5 2 0 F0 ∧ rQ H0 [b, F0, F1, pc, tk, dn, en, W0, W1, ws, la] fo 5 2 1 F1) (hwo : rQ H0 [b, F0, F1, pc, tk, dn, en, W0, W1, ws, la] wo 5 2 0 W0 ∧ rQ H0 [b, F0, F1, pc, tk, dn, en, W0, W1, ws, la] wo 5 2 1 W1) (hq : q < 12) (hC : rC H0 [b, F0, F1, pc, tk, dn, en, W0, W1, ws, la] ln cd q p) (hT : rT H0 [b, F0, F1, pc, tk, dn, en, W0, W1, ws, la] gs q 0 p) (hN : rN H0 [b, F0, F1, pc, tk, dn, en, W0, W1, ws, la] ip sh shs fi fz q p) (hok : pOk p) (hs : rOk p s0) (hr : rEn s0 = -1) (h : rM H0 H b F0 F1 pc tk dn en W0 W1 ws la gs s0 s1) : ∃ H2, x_To x_tb x_tyl ot (dp + 3) 205 0 (x_en 0 [.inr (some (b)), .inl (nI (q)), .inl ((pYr p)), .inl (nI (0))]) [] H 0 0 none H2 ∧ rM H0 H2 b F0 F1 pc tk dn en W0 W1 ws la gs (stM p s0) s1 := by
  obtain ⟨n0_, l, x, d, e, os, v0_⟩ := s0
  obtain rfl : e = -1 := hr
  obtain ⟨f0, f1, w0, w1, x0, x1, h0, h1, h, hx0, hx1, hl0, hl1, ⟨hm0, hM0⟩, ⟨hm1, hM1⟩, hf0, hf1, hv0, hv1⟩ := h
  obtain rfl : x0 = nI l := hx0 rfl
  obtain ⟨hll, hx12, ho12, hd150⟩ := hs
  obtain ⟨hll, hd1⟩ : l < pNl p ∧ d < 150 := hll rfl
  have hx12 : x ≤ pNi p := hx12
  have ho12 : os ≤ 12 := ho12
  obtain ⟨h0_, h12, hi12, hcd⟩ := hok
  obtain ⟨o1, o2, o3, o4⟩ := hcd l hll
  have hf0 : ∀ k, k < 6 → f0[k]? = some (.inl (n0_ k)) := hf0
  have hv0 : ∀ k, k < os → w0[k]? = some (.inl (v0_ k)) := hv0
  have h : hm H0 H [b, F0, F1, pc, tk, dn, en, W0, W1, ws, la] [.inl (12, gs), .inr (0, f0), .inr (0, f1), .inr (0, [.inl (nI (l)), .inl (x1)]), .inr (0, [.inl (nI (x)), .inl (nI (rNx s1))]), .inr (0, [.inl (nI (d)), .inl (nI (rDn s1))]), .inr (0, [.inl (-1), .inl (rEn s1)]), .inr (0, w0), .inr (0, w1), .inr (0, [.inl (nI (os)), .inl (nI (rOs s1))]), .inr (0, [.inl (h0), .inl (h1)])] := h
  obtain ⟨g1, g2, g6, g11, g12, g13, g14, g15, g16, g50, g51, g52, g53, g54, g55, g56, g57, g58⟩ := id hG
  obtain ⟨⟨lfo, cfo, nfo, efo0⟩, ⟨lfo1, cfo1, nfo1, efo1⟩⟩ := id hfo
  obtain ⟨⟨lwo, cwo, nwo, ewo0⟩, ⟨lwo1, cwo1, nwo1, ewo1⟩⟩ := id hwo
  obtain ⟨⟨D, ⟨lcd, ccd, ncd, ecd⟩, hD0, lD, cD, nD, eD⟩, hln0, lln, cln, nln, eln⟩ := id hC
  obtain ⟨k0, k1, k2, k3⟩ := eD l hll
  rcases (show pOp p l = 0 ∨ pOp p l = 1 ∨ pOp p l = 2 ∨ pOp p l = 3 ∨ pOp p l = 4 ∨ pOp p l = 5 ∨ pOp p l = 6 ∨ pOp p l = 7 ∨ pOp p l = 8 ∨ pOp p l = 9 ∨ pOp p l = 10 ∨ pOp p l = 11 by omega) with hz | hz | hz | hz | hz | hz | hz | hz | hz | hz | hz | hz
  · have hz : pOp p l = 0 := hz
    have k0 : lD[4 * l]? = some (.inl (nI 0)) := by
      rw [k0, hz]
      rfl
    have k1 := k1 (by omega) (by omega)
    have key : ∃ H2, x_To x_tb x_tyl ot (dp + 3) 205 0 (x_en 0 [.inr (some (b)), .inl (nI (q)), .inl ((pYr p)), .inl (nI (0))]) [] H 0 0 none H2 ∧ hm H0 H2 [b, F0, F1, pc, tk, dn, en, W0, W1, ws, la] [.inl (12, gs), .inr (0, (f0).set (pLf p l) (.inl ((pCut p (pYr p))))), .inr (0, f1), .inr (0, [.inl (nI (l + 1)), .inl (x1)]), .inr (0, [.inl (nI (x)), .inl (nI (rNx s1))]), .inr (0, [.inl (nI (d + 1)), .inl (nI (rDn s1))]), .inr (0, [.inl ((if pNl p ≤ l + 1 then 0 else if d + 1 = 150 then 2 else -1)), .inl (rEn s1)]), .inr (0, w0), .inr (0, w1), .inr (0, [.inl (nI (os)), .inl (nI (rOs s1))]), .inr (0, [.inl (h0), .inl (h1)])] := by
      have g1_ : hm H0 _ [b, F0, F1, pc, tk, dn, en, W0, W1, ws, la] [.inl (12, gs), .inr (0, f0), .inr (0, f1), .inr (0, [.inl (nI (l)), .inl (x1)]), .inr (0, [.inl (nI (x)), .inl (nI (rNx s1))]), .inr (0, [.inl (nI (d + 1)), .inl (nI (rDn s1))]), .inr (0, [.inl (-1), .inl (rEn s1)]), .inr (0, w0), .inr (0, w1), .inr (0, [.inl (nI (os)), .inl (nI (rOs s1))]), .inr (0, [.inl (h0), .inl (h1)])] := hm_set (i := 5) (z2 := .inr (0, ([.inl (nI (d)), .inl (nI (rDn s1))]).set (0) (.inl (nI (d + 1))))) h rfl
      have g2_ : hm H0 _ [b, F0, F1, pc, tk, dn, en, W0, W1, ws, la] [.inl (12, gs), .inr (0, (f0).set (pLf p l) (.inl ((pCut p (pYr p))))), .inr (0, f1), .inr (0, [.inl (nI (l)), .inl (x1)]), .inr (0, [.inl (nI (x)), .inl (nI (rNx s1))]), .inr (0, [.inl (nI (d + 1)), .inl (nI (rDn s1))]), .inr (0, [.inl (-1), .inl (rEn s1)]), .inr (0, w0), .inr (0, w1), .inr (0, [.inl (nI (os)), .inl (nI (rOs s1))]), .inr (0, [.inl (h0), .inl (h1)])] := hm_set (i := 1) (z2 := .inr (0, (f0).set (pLf p l) (.inl ((pCut p (pYr p)))))) g1_ rfl
      obtain ⟨H2, y, hh⟩ := t205_e0 (dp := dp) (next := l + 1) (d := d) (L := x_st (x_st (x_st (x_st ((x_en 0 [.inr (some (b)), .inl (nI (q)), .inl ((pYr p)), .inl (nI (0))])) 4 (.inr (some (D)))) 5 (.inl (nI (4 * l)))) 6 (.inr (some (F0)))) 7 (.inl (nI (l + 1)))) hA0 hN1 hN2 hN3 hN4 hN5 hN6 hN7 hN8 hN9 hN10 (by rw [List.length_set]; exact hl0) hl1 hm0 hm1 hG hfo hwo hq hC h12 (by omega) (by omega) (lkN (by decide) (lkN (by decide) (lkN (by decide) (lkN (by decide) (rfl))))) (lkN (by decide) (lkN (by decide) (lkN (by decide) (lkN (by decide) (rfl))))) (lkN (by decide) (lkN (by decide) (lkN (by decide) (lkN (by decide) (rfl))))) (lkY) g2_
      refine ⟨H2, ?_, hh⟩
      refine xT_aload_n g_q205 g205_0 (rfl) ?_
      refine xT_getfield g_q205 g205_1 hA0 rfl (hm_at h (i := 0) rfl rfl) rfl g2 ?_
      refine xT_iload_n g_q205 g205_4 (rfl) ?_
      refine xT_aaload g_q205 g205_5 (by decide +kernel) (hm_c h ccd) (ixN (n := 13) (by omega) ncd) (ixG (by omega) ecd) ?_
      refine xT_astore g_q205 g205_6 (by decide) ?_
      refine xT_icV (y := nI (4)) g_q205 g205_8 (by decide) ?_
      refine xT_aload_n g_q205 g205_9 (lkN (by decide) (rfl)) ?_
      refine xT_getfield g_q205 g205_10 hA0 rfl (hm_at h (i := 0) rfl rfl) rfl g51 ?_
      refine xT_iload_n g_q205 g205_13 (lkN (by decide) (rfl)) ?_
      refine xT_iaload g_q205 g205_14 hN3 (hm_at h (i := 3) rfl rfl) (ixN (n := 2) (by decide) rfl) (ixG (by decide) rfl) ?_
      refine xT_imulV (y := nI (4 * l)) g_q205 g205_15 (bMulN _ _) ?_
      refine xT_istore g_q205 g205_16 (by decide) ?_
      refine xT_aload_n g_q205 g205_18 (lkN (by decide) (lkN (by decide) (rfl))) ?_
      refine xT_getfield g_q205 g205_19 hA0 rfl (hm_at h (i := 0) rfl rfl) rfl g50 ?_
      refine xT_iload_n g_q205 g205_22 (lkN (by decide) (lkN (by decide) (rfl))) ?_
      refine xT_aaload g_q205 g205_23 (by decide +kernel) (hm_c h cfo) (ixN (n := 2) (by decide) nfo) (ixG (by decide) efo0) ?_
      refine xT_astore g_q205 g205_24 (by decide) ?_
      refine xT_aload_n g_q205 g205_26 (lkN (by decide) (lkN (by decide) (lkN (by decide) (rfl)))) ?_
      refine xT_getfield g_q205 g205_27 hA0 rfl (hm_at h (i := 0) rfl rfl) rfl g51 ?_
      refine xT_iload_n g_q205 g205_30 (lkN (by decide) (lkN (by decide) (lkN (by decide) (rfl)))) ?_
      refine xT_iaload g_q205 g205_31 hN3 (hm_at h (i := 3) rfl rfl) (ixN (n := 2) (by decide) rfl) (ixG (by decide) rfl) ?_
      refine xT_icV (y := nI (1)) g_q205 g205_32 (by decide) ?_
      refine xT_iaddV (y := nI (l + 1)) g_q205 g205_33 (bAddN _ _) ?_
      refine xT_istore g_q205 g205_34 (by decide) ?_
      refine xT_aload_n g_q205 g205_36 (lkN (by decide) (lkN (by decide) (lkN (by decide) (lkN (by decide) (rfl))))) ?_
      refine xT_getfield g_q205 g205_37 hA0 rfl (hm_at h (i := 0) rfl rfl) rfl g53 ?_
      refine xT_iload_n g_q205 g205_40 (lkN (by decide) (lkN (by decide) (lkN (by decide) (lkN (by decide) (rfl))))) ?_
      refine xT_dup2 g_q205 g205_41 ?_
      refine xT_iaload g_q205 g205_42 hN5 (hm_at h (i := 5) rfl rfl) (ixN (n := 2) (by decide) rfl) (ixG (by decide) rfl) ?_
      refine xT_icV (y := nI (1)) g_q205 g205_43 (by decide) ?_
      refine xT_iaddV (y := nI (d + 1)) g_q205 g205_44 (bAddN _ _) ?_
      refine xT_iastore g_q205 g205_45 (hm_at h (i := 5) rfl rfl) (ixN (n := 2) (by decide) rfl) ?_
      rw [nI_clamp (by decide)]
      refine xT_aload g_q205 g205_46 (lkN (by decide) (lkN (by decide) (lkN (by decide) (lkY)))) ?_
      refine xT_iload g_q205 g205_48 (lkN (by decide) (lkN (by decide) (lkY))) ?_
      refine xT_iaload g_q205 g205_50 hD0 (hm_c g1_ cD) (ixN (n := 48) (by omega) nD) (ixG (by omega) k0) ?_
      refine xT_tableswitch g_q205 g205_51 (t := 108) (by decide) (by decide) (by decide) ?_
      refine xT_aload g_q205 g205_108 (lkN (by decide) (lkY)) ?_
      refine xT_aload g_q205 g205_110 (lkN (by decide) (lkN (by decide) (lkN (by decide) (lkY)))) ?_
      refine xT_iload g_q205 g205_112 (lkN (by decide) (lkN (by decide) (lkY))) ?_
      refine xT_icV (y := nI (1)) g_q205 g205_114 (by decide) ?_
      refine xT_iaddV (y := nI (4 * l + 1)) g_q205 g205_115 (bAddN _ _) ?_
      refine xT_iaload g_q205 g205_116 hD0 (hm_c g1_ cD) (ixN (n := 48) (by omega) nD) (ixG (by omega) k1) ?_
      refine xT_aload_n g_q205 g205_117 (lkN (by decide) (lkN (by decide) (lkN (by decide) (lkN (by decide) (rfl))))) ?_
      refine xT_iload_n g_q205 g205_118 (lkN (by decide) (lkN (by decide) (lkN (by decide) (lkN (by decide) (rfl))))) ?_
      refine xT_aload g_q205 g205_119 (lkN (by decide) (lkN (by decide) (lkN (by decide) (lkY)))) ?_
      refine xT_iload g_q205 g205_121 (lkN (by decide) (lkN (by decide) (lkY))) ?_
      refine xT_icV (y := nI (1)) g_q205 g205_123 (by decide) ?_
      refine xT_iaddV (y := nI (4 * l + 1)) g_q205 g205_124 (bAddN _ _) ?_
      refine xT_iaload g_q205 g205_125 hD0 (hm_c g1_ cD) (ixN (n := 48) (by omega) nD) (ixG (by omega) k1) ?_
      refine xT_iload_n g_q205 g205_126 (lkN (by decide) (lkN (by decide) (lkN (by decide) (lkN (by decide) (rfl))))) ?_
      refine xT_iload_n g_q205 g205_127 (lkN (by decide) (lkN (by decide) (lkN (by decide) (lkN (by decide) (rfl))))) ?_
      refine xT_invokevirtual (r := [.inl (nI (pLf p l)), .inr (some (F0))]) (u := some (.inl ((pCut p (pYr p))))) g_q205 g205_128 (j := 206) (so := 0) (by decide +kernel) g_q206 rfl (by rw [x_rcM hA0 (hm_at g1_ (i := 0) rfl rfl)]; rfl) (t206_0 (dp := dp + 1) hA0 hN1 hN2 hN3 hN4 hN5 hN6 hN7 hN8 hN9 hN10 hl0 hl1 hm0 hm1 hG hfo hwo hq hT g1_ (by omega) (v := pYr p)) ?_
      refine xT_iastore g_q205 g205_131 (hm_at g1_ (i := 1) rfl rfl) (ixN (n := 6) (by omega) hl0) ?_
      rw [nI_clamp (by omega)]
      refine xT_goto g_q205 g205_132 (t := 577) (by decide) ?_
      exact y
    obtain ⟨H2, y, hh⟩ := key
    refine ⟨H2, y, ?_⟩
    rw [stM_0 (s := (n0_, l, x, d, (-1 : Int32), os, v0_)) hz]
    exact ⟨_, _, _, _, _, _, _, _, hh, fun _ => rfl, hx1, by rw [List.length_set]; exact hl0, hl1, ⟨hm0, hM0⟩, ⟨hm1, hM1⟩, nf_set (by omega) hf0 (by omega), hf1, hv0, hv1⟩
  · have hz : pOp p l = 1 := hz
    have k0 : lD[4 * l]? = some (.inl (nI 1)) := by
      rw [k0, hz]
      rfl
    have k1 := k1 (by omega) (by omega)
    by_cases hx : x < pNi p
    · skip
      have key : ∃ H2, x_To x_tb x_tyl ot (dp + 3) 205 0 (x_en 0 [.inr (some (b)), .inl (nI (q)), .inl ((pYr p)), .inl (nI (0))]) [] H 0 0 none H2 ∧ hm H0 H2 [b, F0, F1, pc, tk, dn, en, W0, W1, ws, la] [.inl (12, gs), .inr (0, (f0).set (pLf p l) (.inl ((pCut p (pIv p (x)))))), .inr (0, f1), .inr (0, [.inl (nI (l + 1)), .inl (x1)]), .inr (0, [.inl (nI (x + 1)), .inl (nI (rNx s1))]), .inr (0, [.inl (nI (d + 1)), .inl (nI (rDn s1))]), .inr (0, [.inl ((if pNl p ≤ l + 1 then 0 else if d + 1 = 150 then 2 else -1)), .inl (rEn s1)]), .inr (0, w0), .inr (0, w1), .inr (0, [.inl (nI (os)), .inl (nI (rOs s1))]), .inr (0, [.inl (h0), .inl (h1)])] := by
        have g1_ : hm H0 _ [b, F0, F1, pc, tk, dn, en, W0, W1, ws, la] [.inl (12, gs), .inr (0, f0), .inr (0, f1), .inr (0, [.inl (nI (l)), .inl (x1)]), .inr (0, [.inl (nI (x)), .inl (nI (rNx s1))]), .inr (0, [.inl (nI (d + 1)), .inl (nI (rDn s1))]), .inr (0, [.inl (-1), .inl (rEn s1)]), .inr (0, w0), .inr (0, w1), .inr (0, [.inl (nI (os)), .inl (nI (rOs s1))]), .inr (0, [.inl (h0), .inl (h1)])] := hm_set (i := 5) (z2 := .inr (0, ([.inl (nI (d)), .inl (nI (rDn s1))]).set (0) (.inl (nI (d + 1))))) h rfl
        have g2_ : hm H0 _ [b, F0, F1, pc, tk, dn, en, W0, W1, ws, la] [.inl (12, gs), .inr (0, (f0).set (pLf p l) (.inl ((pCut p (pIv p (x)))))), .inr (0, f1), .inr (0, [.inl (nI (l)), .inl (x1)]), .inr (0, [.inl (nI (x)), .inl (nI (rNx s1))]), .inr (0, [.inl (nI (d + 1)), .inl (nI (rDn s1))]), .inr (0, [.inl (-1), .inl (rEn s1)]), .inr (0, w0), .inr (0, w1), .inr (0, [.inl (nI (os)), .inl (nI (rOs s1))]), .inr (0, [.inl (h0), .inl (h1)])] := hm_set (i := 1) (z2 := .inr (0, (f0).set (pLf p l) (.inl ((pCut p (pIv p (x))))))) g1_ rfl
        have g3_ : hm H0 _ [b, F0, F1, pc, tk, dn, en, W0, W1, ws, la] [.inl (12, gs), .inr (0, (f0).set (pLf p l) (.inl ((pCut p (pIv p (x)))))), .inr (0, f1), .inr (0, [.inl (nI (l)), .inl (x1)]), .inr (0, [.inl (nI (x + 1)), .inl (nI (rNx s1))]), .inr (0, [.inl (nI (d + 1)), .inl (nI (rDn s1))]), .inr (0, [.inl (-1), .inl (rEn s1)]), .inr (0, w0), .inr (0, w1), .inr (0, [.inl (nI (os)), .inl (nI (rOs s1))]), .inr (0, [.inl (h0), .inl (h1)])] := hm_set (i := 4) (z2 := .inr (0, ([.inl (nI (x)), .inl (nI (rNx s1))]).set (0) (.inl (nI (x + 1))))) g2_ rfl
        obtain ⟨H2, y, hh⟩ := t205_e0 (dp := dp) (next := l + 1) (d := d) (L := x_st (x_st (x_st (x_st ((x_en 0 [.inr (some (b)), .inl (nI (q)), .inl ((pYr p)), .inl (nI (0))])) 4 (.inr (some (D)))) 5 (.inl (nI (4 * l)))) 6 (.inr (some (F0)))) 7 (.inl (nI (l + 1)))) hA0 hN1 hN2 hN3 hN4 hN5 hN6 hN7 hN8 hN9 hN10 (by rw [List.length_set]; exact hl0) hl1 hm0 hm1 hG hfo hwo hq hC h12 (by omega) (by omega) (lkN (by decide) (lkN (by decide) (lkN (by decide) (lkN (by decide) (rfl))))) (lkN (by decide) (lkN (by decide) (lkN (by decide) (lkN (by decide) (rfl))))) (lkN (by decide) (lkN (by decide) (lkN (by decide) (lkN (by decide) (rfl))))) (lkY) g3_
        refine ⟨H2, ?_, hh⟩
        refine xT_aload_n g_q205 g205_0 (rfl) ?_
        refine xT_getfield g_q205 g205_1 hA0 rfl (hm_at h (i := 0) rfl rfl) rfl g2 ?_
        refine xT_iload_n g_q205 g205_4 (rfl) ?_
        refine xT_aaload g_q205 g205_5 (by decide +kernel) (hm_c h ccd) (ixN (n := 13) (by omega) ncd) (ixG (by omega) ecd) ?_
        refine xT_astore g_q205 g205_6 (by decide) ?_
        refine xT_icV (y := nI (4)) g_q205 g205_8 (by decide) ?_
        refine xT_aload_n g_q205 g205_9 (lkN (by decide) (rfl)) ?_
        refine xT_getfield g_q205 g205_10 hA0 rfl (hm_at h (i := 0) rfl rfl) rfl g51 ?_
        refine xT_iload_n g_q205 g205_13 (lkN (by decide) (rfl)) ?_
        refine xT_iaload g_q205 g205_14 hN3 (hm_at h (i := 3) rfl rfl) (ixN (n := 2) (by decide) rfl) (ixG (by decide) rfl) ?_
        refine xT_imulV (y := nI (4 * l)) g_q205 g205_15 (bMulN _ _) ?_
        refine xT_istore g_q205 g205_16 (by decide) ?_
        refine xT_aload_n g_q205 g205_18 (lkN (by decide) (lkN (by decide) (rfl))) ?_
        refine xT_getfield g_q205 g205_19 hA0 rfl (hm_at h (i := 0) rfl rfl) rfl g50 ?_
        refine xT_iload_n g_q205 g205_22 (lkN (by decide) (lkN (by decide) (rfl))) ?_
        refine xT_aaload g_q205 g205_23 (by decide +kernel) (hm_c h cfo) (ixN (n := 2) (by decide) nfo) (ixG (by decide) efo0) ?_
        refine xT_astore g_q205 g205_24 (by decide) ?_
        refine xT_aload_n g_q205 g205_26 (lkN (by decide) (lkN (by decide) (lkN (by decide) (rfl)))) ?_
        refine xT_getfield g_q205 g205_27 hA0 rfl (hm_at h (i := 0) rfl rfl) rfl g51 ?_
        refine xT_iload_n g_q205 g205_30 (lkN (by decide) (lkN (by decide) (lkN (by decide) (rfl)))) ?_
        refine xT_iaload g_q205 g205_31 hN3 (hm_at h (i := 3) rfl rfl) (ixN (n := 2) (by decide) rfl) (ixG (by decide) rfl) ?_
        refine xT_icV (y := nI (1)) g_q205 g205_32 (by decide) ?_
        refine xT_iaddV (y := nI (l + 1)) g_q205 g205_33 (bAddN _ _) ?_
        refine xT_istore g_q205 g205_34 (by decide) ?_
        refine xT_aload_n g_q205 g205_36 (lkN (by decide) (lkN (by decide) (lkN (by decide) (lkN (by decide) (rfl))))) ?_
        refine xT_getfield g_q205 g205_37 hA0 rfl (hm_at h (i := 0) rfl rfl) rfl g53 ?_
        refine xT_iload_n g_q205 g205_40 (lkN (by decide) (lkN (by decide) (lkN (by decide) (lkN (by decide) (rfl))))) ?_
        refine xT_dup2 g_q205 g205_41 ?_
        refine xT_iaload g_q205 g205_42 hN5 (hm_at h (i := 5) rfl rfl) (ixN (n := 2) (by decide) rfl) (ixG (by decide) rfl) ?_
        refine xT_icV (y := nI (1)) g_q205 g205_43 (by decide) ?_
        refine xT_iaddV (y := nI (d + 1)) g_q205 g205_44 (bAddN _ _) ?_
        refine xT_iastore g_q205 g205_45 (hm_at h (i := 5) rfl rfl) (ixN (n := 2) (by decide) rfl) ?_
        rw [nI_clamp (by decide)]
        refine xT_aload g_q205 g205_46 (lkN (by decide) (lkN (by decide) (lkN (by decide) (lkY)))) ?_
        refine xT_iload g_q205 g205_48 (lkN (by decide) (lkN (by decide) (lkY))) ?_
        refine xT_iaload g_q205 g205_50 hD0 (hm_c g1_ cD) (ixN (n := 48) (by omega) nD) (ixG (by omega) k0) ?_
        refine xT_tableswitch g_q205 g205_51 (t := 135) (by decide) (by decide) (by decide) ?_
        refine xT_aload_n g_q205 g205_135 (lkN (by decide) (lkN (by decide) (lkN (by decide) (lkN (by decide) (rfl))))) ?_
        refine xT_getfield g_q205 g205_136 hA0 rfl (hm_at g1_ (i := 0) rfl rfl) rfl g52 ?_
        refine xT_iload_n g_q205 g205_139 (lkN (by decide) (lkN (by decide) (lkN (by decide) (lkN (by decide) (rfl))))) ?_
        refine xT_iaload g_q205 g205_140 hN4 (hm_at g1_ (i := 4) rfl rfl) (ixN (n := 2) (by decide) rfl) (ixG (by decide) rfl) ?_
        refine xT_aload_n g_q205 g205_141 (lkN (by decide) (lkN (by decide) (lkN (by decide) (lkN (by decide) (rfl))))) ?_
        refine xT_iload_n g_q205 g205_142 (lkN (by decide) (lkN (by decide) (lkN (by decide) (lkN (by decide) (rfl))))) ?_
        refine xT_iload_n g_q205 g205_143 (lkN (by decide) (lkN (by decide) (lkN (by decide) (lkN (by decide) (rfl))))) ?_
        refine xT_invokevirtual (r := [.inl (nI (x))]) (u := some (.inl (nI (pNi p)))) g_q205 g205_144 (j := 207) (so := 0) (by decide +kernel) g_q207 rfl (by rw [x_rcM hA0 (hm_at g1_ (i := 0) rfl rfl)]; rfl) (t207_0 (dp := dp + 2) hA0 hN1 hN2 hN3 hN4 hN5 hN6 hN7 hN8 hN9 hN10 hl0 hl1 hm0 hm1 hG hfo hwo hq hN hi12 g1_) ?_
        refine xT_if_icmpY g_q205 g205_147 (t := 158) (by decide) (c1Y (a := x) (b := pNi p) (by omega) (by omega) (by omega)) ?_
        refine xT_aload g_q205 g205_158 (lkN (by decide) (lkY)) ?_
        refine xT_aload g_q205 g205_160 (lkN (by decide) (lkN (by decide) (lkN (by decide) (lkY)))) ?_
        refine xT_iload g_q205 g205_162 (lkN (by decide) (lkN (by decide) (lkY))) ?_
        refine xT_icV (y := nI (1)) g_q205 g205_164 (by decide) ?_
        refine xT_iaddV (y := nI (4 * l + 1)) g_q205 g205_165 (bAddN _ _) ?_
        refine xT_iaload g_q205 g205_166 hD0 (hm_c g1_ cD) (ixN (n := 48) (by omega) nD) (ixG (by omega) k1) ?_
        refine xT_aload_n g_q205 g205_167 (lkN (by decide) (lkN (by decide) (lkN (by decide) (lkN (by decide) (rfl))))) ?_
        refine xT_iload_n g_q205 g205_168 (lkN (by decide) (lkN (by decide) (lkN (by decide) (lkN (by decide) (rfl))))) ?_
        refine xT_aload g_q205 g205_169 (lkN (by decide) (lkN (by decide) (lkN (by decide) (lkY)))) ?_
        refine xT_iload g_q205 g205_171 (lkN (by decide) (lkN (by decide) (lkY))) ?_
        refine xT_icV (y := nI (1)) g_q205 g205_173 (by decide) ?_
        refine xT_iaddV (y := nI (4 * l + 1)) g_q205 g205_174 (bAddN _ _) ?_
        refine xT_iaload g_q205 g205_175 hD0 (hm_c g1_ cD) (ixN (n := 48) (by omega) nD) (ixG (by omega) k1) ?_
        refine xT_aload_n g_q205 g205_176 (lkN (by decide) (lkN (by decide) (lkN (by decide) (lkN (by decide) (rfl))))) ?_
        refine xT_iload_n g_q205 g205_177 (lkN (by decide) (lkN (by decide) (lkN (by decide) (lkN (by decide) (rfl))))) ?_
        refine xT_aload_n g_q205 g205_178 (lkN (by decide) (lkN (by decide) (lkN (by decide) (lkN (by decide) (rfl))))) ?_
        refine xT_getfield g_q205 g205_179 hA0 rfl (hm_at g1_ (i := 0) rfl rfl) rfl g52 ?_
        refine xT_iload_n g_q205 g205_182 (lkN (by decide) (lkN (by decide) (lkN (by decide) (lkN (by decide) (rfl))))) ?_
        refine xT_iaload g_q205 g205_183 hN4 (hm_at g1_ (i := 4) rfl rfl) (ixN (n := 2) (by decide) rfl) (ixG (by decide) rfl) ?_
        refine xT_iload_n g_q205 g205_184 (lkN (by decide) (lkN (by decide) (lkN (by decide) (lkN (by decide) (rfl))))) ?_
        refine xT_invokevirtual (r := [.inl (nI (pLf p l)), .inl (nI (q)), .inr (some (b)), .inl (nI (pLf p l)), .inr (some (F0))]) (u := some (.inl ((pIv p (x))))) g_q205 g205_185 (j := 208) (so := 0) (by decide +kernel) g_q208 rfl (by rw [x_rcM hA0 (hm_at g1_ (i := 0) rfl rfl)]; rfl) (t208_0 (dp := dp + 2) hA0 hN1 hN2 hN3 hN4 hN5 hN6 hN7 hN8 hN9 hN10 hl0 hl1 hm0 hm1 hG hfo hwo hq hN hi12 g1_ hx) ?_
        refine xT_iload_n g_q205 g205_188 (lkN (by decide) (lkN (by decide) (lkN (by decide) (lkN (by decide) (rfl))))) ?_
        refine xT_invokevirtual (r := [.inl (nI (pLf p l)), .inr (some (F0))]) (u := some (.inl ((pCut p (pIv p (x)))))) g_q205 g205_189 (j := 206) (so := 0) (by decide +kernel) g_q206 rfl (by rw [x_rcM hA0 (hm_at g1_ (i := 0) rfl rfl)]; rfl) (t206_0 (dp := dp + 1) hA0 hN1 hN2 hN3 hN4 hN5 hN6 hN7 hN8 hN9 hN10 hl0 hl1 hm0 hm1 hG hfo hwo hq hT g1_ (by omega) (v := pIv p (x))) ?_
        refine xT_iastore g_q205 g205_192 (hm_at g1_ (i := 1) rfl rfl) (ixN (n := 6) (by omega) hl0) ?_
        rw [nI_clamp (by omega)]
        refine xT_aload_n g_q205 g205_193 (lkN (by decide) (lkN (by decide) (lkN (by decide) (lkN (by decide) (rfl))))) ?_
        refine xT_getfield g_q205 g205_194 hA0 rfl (hm_at g2_ (i := 0) rfl rfl) rfl g52 ?_
        refine xT_iload_n g_q205 g205_197 (lkN (by decide) (lkN (by decide) (lkN (by decide) (lkN (by decide) (rfl))))) ?_
        refine xT_dup2 g_q205 g205_198 ?_
        refine xT_iaload g_q205 g205_199 hN4 (hm_at g2_ (i := 4) rfl rfl) (ixN (n := 2) (by decide) rfl) (ixG (by decide) rfl) ?_
        refine xT_icV (y := nI (1)) g_q205 g205_200 (by decide) ?_
        refine xT_iaddV (y := nI (x + 1)) g_q205 g205_201 (bAddN _ _) ?_
        refine xT_iastore g_q205 g205_202 (hm_at g2_ (i := 4) rfl rfl) (ixN (n := 2) (by decide) rfl) ?_
        rw [nI_clamp (by decide)]
        refine xT_goto g_q205 g205_203 (t := 577) (by decide) ?_
        exact y
      obtain ⟨H2, y, hh⟩ := key
      refine ⟨H2, y, ?_⟩
      rw [stM_1 (s := (n0_, l, x, d, (-1 : Int32), os, v0_)) hz, if_pos (show rNx (n0_, l, x, d, (-1 : Int32), os, v0_) < pNi p from hx)]
      exact ⟨_, _, _, _, _, _, _, _, hh, fun _ => rfl, hx1, by rw [List.length_set]; exact hl0, hl1, ⟨hm0, hM0⟩, ⟨hm1, hM1⟩, nf_set (by omega) hf0 (by omega), hf1, hv0, hv1⟩
    · skip
      have key : ∃ H2, x_To x_tb x_tyl ot (dp + 3) 205 0 (x_en 0 [.inr (some (b)), .inl (nI (q)), .inl ((pYr p)), .inl (nI (0))]) [] H 0 0 none H2 ∧ hm H0 H2 [b, F0, F1, pc, tk, dn, en, W0, W1, ws, la] [.inl (12, gs), .inr (0, f0), .inr (0, f1), .inr (0, [.inl (nI (l)), .inl (x1)]), .inr (0, [.inl (nI (x)), .inl (nI (rNx s1))]), .inr (0, [.inl (nI (d + 1)), .inl (nI (rDn s1))]), .inr (0, [.inl (nI (1)), .inl (rEn s1)]), .inr (0, w0), .inr (0, w1), .inr (0, [.inl (nI (os)), .inl (nI (rOs s1))]), .inr (0, [.inl (h0), .inl (h1)])] := by
        have g1_ : hm H0 _ [b, F0, F1, pc, tk, dn, en, W0, W1, ws, la] [.inl (12, gs), .inr (0, f0), .inr (0, f1), .inr (0, [.inl (nI (l)), .inl (x1)]), .inr (0, [.inl (nI (x)), .inl (nI (rNx s1))]), .inr (0, [.inl (nI (d + 1)), .inl (nI (rDn s1))]), .inr (0, [.inl (-1), .inl (rEn s1)]), .inr (0, w0), .inr (0, w1), .inr (0, [.inl (nI (os)), .inl (nI (rOs s1))]), .inr (0, [.inl (h0), .inl (h1)])] := hm_set (i := 5) (z2 := .inr (0, ([.inl (nI (d)), .inl (nI (rDn s1))]).set (0) (.inl (nI (d + 1))))) h rfl
        have g2_ : hm H0 _ [b, F0, F1, pc, tk, dn, en, W0, W1, ws, la] [.inl (12, gs), .inr (0, f0), .inr (0, f1), .inr (0, [.inl (nI (l)), .inl (x1)]), .inr (0, [.inl (nI (x)), .inl (nI (rNx s1))]), .inr (0, [.inl (nI (d + 1)), .inl (nI (rDn s1))]), .inr (0, [.inl (nI (1)), .inl (rEn s1)]), .inr (0, w0), .inr (0, w1), .inr (0, [.inl (nI (os)), .inl (nI (rOs s1))]), .inr (0, [.inl (h0), .inl (h1)])] := hm_set (i := 6) (z2 := .inr (0, ([.inl (-1), .inl (rEn s1)]).set (0) (.inl (nI (1))))) g1_ rfl
        refine ⟨_, ?_, g2_⟩
        refine xT_aload_n g_q205 g205_0 (rfl) ?_
        refine xT_getfield g_q205 g205_1 hA0 rfl (hm_at h (i := 0) rfl rfl) rfl g2 ?_
        refine xT_iload_n g_q205 g205_4 (rfl) ?_
        refine xT_aaload g_q205 g205_5 (by decide +kernel) (hm_c h ccd) (ixN (n := 13) (by omega) ncd) (ixG (by omega) ecd) ?_
        refine xT_astore g_q205 g205_6 (by decide) ?_
        refine xT_icV (y := nI (4)) g_q205 g205_8 (by decide) ?_
        refine xT_aload_n g_q205 g205_9 (lkN (by decide) (rfl)) ?_
        refine xT_getfield g_q205 g205_10 hA0 rfl (hm_at h (i := 0) rfl rfl) rfl g51 ?_
        refine xT_iload_n g_q205 g205_13 (lkN (by decide) (rfl)) ?_
        refine xT_iaload g_q205 g205_14 hN3 (hm_at h (i := 3) rfl rfl) (ixN (n := 2) (by decide) rfl) (ixG (by decide) rfl) ?_
        refine xT_imulV (y := nI (4 * l)) g_q205 g205_15 (bMulN _ _) ?_
        refine xT_istore g_q205 g205_16 (by decide) ?_
        refine xT_aload_n g_q205 g205_18 (lkN (by decide) (lkN (by decide) (rfl))) ?_
        refine xT_getfield g_q205 g205_19 hA0 rfl (hm_at h (i := 0) rfl rfl) rfl g50 ?_
        refine xT_iload_n g_q205 g205_22 (lkN (by decide) (lkN (by decide) (rfl))) ?_
        refine xT_aaload g_q205 g205_23 (by decide +kernel) (hm_c h cfo) (ixN (n := 2) (by decide) nfo) (ixG (by decide) efo0) ?_
        refine xT_astore g_q205 g205_24 (by decide) ?_
        refine xT_aload_n g_q205 g205_26 (lkN (by decide) (lkN (by decide) (lkN (by decide) (rfl)))) ?_
        refine xT_getfield g_q205 g205_27 hA0 rfl (hm_at h (i := 0) rfl rfl) rfl g51 ?_
        refine xT_iload_n g_q205 g205_30 (lkN (by decide) (lkN (by decide) (lkN (by decide) (rfl)))) ?_
        refine xT_iaload g_q205 g205_31 hN3 (hm_at h (i := 3) rfl rfl) (ixN (n := 2) (by decide) rfl) (ixG (by decide) rfl) ?_
        refine xT_icV (y := nI (1)) g_q205 g205_32 (by decide) ?_
        refine xT_iaddV (y := nI (l + 1)) g_q205 g205_33 (bAddN _ _) ?_
        refine xT_istore g_q205 g205_34 (by decide) ?_
        refine xT_aload_n g_q205 g205_36 (lkN (by decide) (lkN (by decide) (lkN (by decide) (lkN (by decide) (rfl))))) ?_
        refine xT_getfield g_q205 g205_37 hA0 rfl (hm_at h (i := 0) rfl rfl) rfl g53 ?_
        refine xT_iload_n g_q205 g205_40 (lkN (by decide) (lkN (by decide) (lkN (by decide) (lkN (by decide) (rfl))))) ?_
        refine xT_dup2 g_q205 g205_41 ?_
        refine xT_iaload g_q205 g205_42 hN5 (hm_at h (i := 5) rfl rfl) (ixN (n := 2) (by decide) rfl) (ixG (by decide) rfl) ?_
        refine xT_icV (y := nI (1)) g_q205 g205_43 (by decide) ?_
        refine xT_iaddV (y := nI (d + 1)) g_q205 g205_44 (bAddN _ _) ?_
        refine xT_iastore g_q205 g205_45 (hm_at h (i := 5) rfl rfl) (ixN (n := 2) (by decide) rfl) ?_
        rw [nI_clamp (by decide)]
        refine xT_aload g_q205 g205_46 (lkN (by decide) (lkN (by decide) (lkN (by decide) (lkY)))) ?_
        refine xT_iload g_q205 g205_48 (lkN (by decide) (lkN (by decide) (lkY))) ?_
        refine xT_iaload g_q205 g205_50 hD0 (hm_c g1_ cD) (ixN (n := 48) (by omega) nD) (ixG (by omega) k0) ?_
        refine xT_tableswitch g_q205 g205_51 (t := 135) (by decide) (by decide) (by decide) ?_
        refine xT_aload_n g_q205 g205_135 (lkN (by decide) (lkN (by decide) (lkN (by decide) (lkN (by decide) (rfl))))) ?_
        refine xT_getfield g_q205 g205_136 hA0 rfl (hm_at g1_ (i := 0) rfl rfl) rfl g52 ?_
        refine xT_iload_n g_q205 g205_139 (lkN (by decide) (lkN (by decide) (lkN (by decide) (lkN (by decide) (rfl))))) ?_
        refine xT_iaload g_q205 g205_140 hN4 (hm_at g1_ (i := 4) rfl rfl) (ixN (n := 2) (by decide) rfl) (ixG (by decide) rfl) ?_
        refine xT_aload_n g_q205 g205_141 (lkN (by decide) (lkN (by decide) (lkN (by decide) (lkN (by decide) (rfl))))) ?_
        refine xT_iload_n g_q205 g205_142 (lkN (by decide) (lkN (by decide) (lkN (by decide) (lkN (by decide) (rfl))))) ?_
        refine xT_iload_n g_q205 g205_143 (lkN (by decide) (lkN (by decide) (lkN (by decide) (lkN (by decide) (rfl))))) ?_
        refine xT_invokevirtual (r := [.inl (nI (x))]) (u := some (.inl (nI (pNi p)))) g_q205 g205_144 (j := 207) (so := 0) (by decide +kernel) g_q207 rfl (by rw [x_rcM hA0 (hm_at g1_ (i := 0) rfl rfl)]; rfl) (t207_0 (dp := dp + 2) hA0 hN1 hN2 hN3 hN4 hN5 hN6 hN7 hN8 hN9 hN10 hl0 hl1 hm0 hm1 hG hfo hwo hq hN hi12 g1_) ?_
        refine xT_if_icmpN g_q205 g205_147 (t := 158) (by decide) (c1N (a := x) (b := pNi p) (by omega)) ?_
        refine xT_aload_n g_q205 g205_150 (lkN (by decide) (lkN (by decide) (lkN (by decide) (lkN (by decide) (rfl))))) ?_
        refine xT_getfield g_q205 g205_151 hA0 rfl (hm_at g1_ (i := 0) rfl rfl) rfl g54 ?_
        refine xT_iload_n g_q205 g205_154 (lkN (by decide) (lkN (by decide) (lkN (by decide) (lkN (by decide) (rfl))))) ?_
        refine xT_icV (y := nI (1)) g_q205 g205_155 (by decide) ?_
        refine xT_iastore g_q205 g205_156 (hm_at g1_ (i := 6) rfl rfl) (ixN (n := 2) (by decide) rfl) ?_
        rw [nI_clamp (by decide)]
        exact xT_return_ g_q205 g205_157 (rfl)
      obtain ⟨H2, y, hh⟩ := key
      refine ⟨H2, y, ?_⟩
      rw [stM_1 (s := (n0_, l, x, d, (-1 : Int32), os, v0_)) hz, if_neg (show ¬ rNx (n0_, l, x, d, (-1 : Int32), os, v0_) < pNi p from hx)]
      exact ⟨_, _, _, _, _, _, _, _, hh, fun z => absurd z (show ¬ ((1 : Int32) = -1) by decide), hx1, hl0, hl1, ⟨hm0, hM0⟩, ⟨hm1, hM1⟩, hf0, hf1, hv0, hv1⟩
  · have hz : pOp p l = 2 := hz
    have k0 : lD[4 * l]? = some (.inl (nI 2)) := by
      rw [k0, hz]
      rfl
    have k1 := k1 (by omega) (by omega)
    by_cases ho : os < 12
    · skip
      have key : ∃ H2, x_To x_tb x_tyl ot (dp + 3) 205 0 (x_en 0 [.inr (some (b)), .inl (nI (q)), .inl ((pYr p)), .inl (nI (0))]) [] H 0 0 none H2 ∧ hm H0 H2 [b, F0, F1, pc, tk, dn, en, W0, W1, ws, la] [.inl (12, gs), .inr (0, f0), .inr (0, f1), .inr (0, [.inl (nI (l + 1)), .inl (x1)]), .inr (0, [.inl (nI (x)), .inl (nI (rNx s1))]), .inr (0, [.inl (nI (d + 1)), .inl (nI (rDn s1))]), .inr (0, [.inl ((if pNl p ≤ l + 1 then 0 else if d + 1 = 150 then 2 else -1)), .inl (rEn s1)]), .inr (0, (w0).set (os) (.inl ((n0_ (pLf p l))))), .inr (0, w1), .inr (0, [.inl (nI (os + 1)), .inl (nI (rOs s1))]), .inr (0, [.inl ((n0_ (pLf p l))), .inl (h1)])] := by
        have g1_ : hm H0 _ [b, F0, F1, pc, tk, dn, en, W0, W1, ws, la] [.inl (12, gs), .inr (0, f0), .inr (0, f1), .inr (0, [.inl (nI (l)), .inl (x1)]), .inr (0, [.inl (nI (x)), .inl (nI (rNx s1))]), .inr (0, [.inl (nI (d + 1)), .inl (nI (rDn s1))]), .inr (0, [.inl (-1), .inl (rEn s1)]), .inr (0, w0), .inr (0, w1), .inr (0, [.inl (nI (os)), .inl (nI (rOs s1))]), .inr (0, [.inl (h0), .inl (h1)])] := hm_set (i := 5) (z2 := .inr (0, ([.inl (nI (d)), .inl (nI (rDn s1))]).set (0) (.inl (nI (d + 1))))) h rfl
        have g2_ : hm H0 _ [b, F0, F1, pc, tk, dn, en, W0, W1, ws, la] [.inl (12, gs), .inr (0, f0), .inr (0, f1), .inr (0, [.inl (nI (l)), .inl (x1)]), .inr (0, [.inl (nI (x)), .inl (nI (rNx s1))]), .inr (0, [.inl (nI (d + 1)), .inl (nI (rDn s1))]), .inr (0, [.inl (-1), .inl (rEn s1)]), .inr (0, w0), .inr (0, w1), .inr (0, [.inl (nI (os)), .inl (nI (rOs s1))]), .inr (0, [.inl (n0_ (pLf p l)), .inl (h1)])] := hm_set (i := 10) (z2 := .inr (0, ([.inl (h0), .inl (h1)]).set (0) (.inl (n0_ (pLf p l))))) g1_ rfl
        have g3_ : hm H0 _ [b, F0, F1, pc, tk, dn, en, W0, W1, ws, la] [.inl (12, gs), .inr (0, f0), .inr (0, f1), .inr (0, [.inl (nI (l)), .inl (x1)]), .inr (0, [.inl (nI (x)), .inl (nI (rNx s1))]), .inr (0, [.inl (nI (d + 1)), .inl (nI (rDn s1))]), .inr (0, [.inl (-1), .inl (rEn s1)]), .inr (0, (w0).set (os) (.inl (n0_ (pLf p l)))), .inr (0, w1), .inr (0, [.inl (nI (os)), .inl (nI (rOs s1))]), .inr (0, [.inl (n0_ (pLf p l)), .inl (h1)])] := hm_set (i := 7) (z2 := .inr (0, (w0).set (os) (.inl (n0_ (pLf p l))))) g2_ rfl
        have g4_ : hm H0 _ [b, F0, F1, pc, tk, dn, en, W0, W1, ws, la] [.inl (12, gs), .inr (0, f0), .inr (0, f1), .inr (0, [.inl (nI (l)), .inl (x1)]), .inr (0, [.inl (nI (x)), .inl (nI (rNx s1))]), .inr (0, [.inl (nI (d + 1)), .inl (nI (rDn s1))]), .inr (0, [.inl (-1), .inl (rEn s1)]), .inr (0, (w0).set (os) (.inl (n0_ (pLf p l)))), .inr (0, w1), .inr (0, [.inl (nI (os + 1)), .inl (nI (rOs s1))]), .inr (0, [.inl (n0_ (pLf p l)), .inl (h1)])] := hm_set (i := 9) (z2 := .inr (0, ([.inl (nI (os)), .inl (nI (rOs s1))]).set (0) (.inl (nI (os + 1))))) g3_ rfl
        obtain ⟨H2, y, hh⟩ := t205_e0 (dp := dp) (next := l + 1) (d := d) (L := x_st (x_st (x_st (x_st ((x_en 0 [.inr (some (b)), .inl (nI (q)), .inl ((pYr p)), .inl (nI (0))])) 4 (.inr (some (D)))) 5 (.inl (nI (4 * l)))) 6 (.inr (some (F0)))) 7 (.inl (nI (l + 1)))) hA0 hN1 hN2 hN3 hN4 hN5 hN6 hN7 hN8 hN9 hN10 hl0 hl1 (by rw [List.length_set]; exact hm0) hm1 hG hfo hwo hq hC h12 (by omega) (by omega) (lkN (by decide) (lkN (by decide) (lkN (by decide) (lkN (by decide) (rfl))))) (lkN (by decide) (lkN (by decide) (lkN (by decide) (lkN (by decide) (rfl))))) (lkN (by decide) (lkN (by decide) (lkN (by decide) (lkN (by decide) (rfl))))) (lkY) g4_
        refine ⟨H2, ?_, hh⟩
        refine xT_aload_n g_q205 g205_0 (rfl) ?_
        refine xT_getfield g_q205 g205_1 hA0 rfl (hm_at h (i := 0) rfl rfl) rfl g2 ?_
        refine xT_iload_n g_q205 g205_4 (rfl) ?_
        refine xT_aaload g_q205 g205_5 (by decide +kernel) (hm_c h ccd) (ixN (n := 13) (by omega) ncd) (ixG (by omega) ecd) ?_
        refine xT_astore g_q205 g205_6 (by decide) ?_
        refine xT_icV (y := nI (4)) g_q205 g205_8 (by decide) ?_
        refine xT_aload_n g_q205 g205_9 (lkN (by decide) (rfl)) ?_
        refine xT_getfield g_q205 g205_10 hA0 rfl (hm_at h (i := 0) rfl rfl) rfl g51 ?_
        refine xT_iload_n g_q205 g205_13 (lkN (by decide) (rfl)) ?_
        refine xT_iaload g_q205 g205_14 hN3 (hm_at h (i := 3) rfl rfl) (ixN (n := 2) (by decide) rfl) (ixG (by decide) rfl) ?_
        refine xT_imulV (y := nI (4 * l)) g_q205 g205_15 (bMulN _ _) ?_
        refine xT_istore g_q205 g205_16 (by decide) ?_
        refine xT_aload_n g_q205 g205_18 (lkN (by decide) (lkN (by decide) (rfl))) ?_
        refine xT_getfield g_q205 g205_19 hA0 rfl (hm_at h (i := 0) rfl rfl) rfl g50 ?_
        refine xT_iload_n g_q205 g205_22 (lkN (by decide) (lkN (by decide) (rfl))) ?_
        refine xT_aaload g_q205 g205_23 (by decide +kernel) (hm_c h cfo) (ixN (n := 2) (by decide) nfo) (ixG (by decide) efo0) ?_
        refine xT_astore g_q205 g205_24 (by decide) ?_
        refine xT_aload_n g_q205 g205_26 (lkN (by decide) (lkN (by decide) (lkN (by decide) (rfl)))) ?_
        refine xT_getfield g_q205 g205_27 hA0 rfl (hm_at h (i := 0) rfl rfl) rfl g51 ?_
        refine xT_iload_n g_q205 g205_30 (lkN (by decide) (lkN (by decide) (lkN (by decide) (rfl)))) ?_
        refine xT_iaload g_q205 g205_31 hN3 (hm_at h (i := 3) rfl rfl) (ixN (n := 2) (by decide) rfl) (ixG (by decide) rfl) ?_
        refine xT_icV (y := nI (1)) g_q205 g205_32 (by decide) ?_
        refine xT_iaddV (y := nI (l + 1)) g_q205 g205_33 (bAddN _ _) ?_
        refine xT_istore g_q205 g205_34 (by decide) ?_
        refine xT_aload_n g_q205 g205_36 (lkN (by decide) (lkN (by decide) (lkN (by decide) (lkN (by decide) (rfl))))) ?_
        refine xT_getfield g_q205 g205_37 hA0 rfl (hm_at h (i := 0) rfl rfl) rfl g53 ?_
        refine xT_iload_n g_q205 g205_40 (lkN (by decide) (lkN (by decide) (lkN (by decide) (lkN (by decide) (rfl))))) ?_
        refine xT_dup2 g_q205 g205_41 ?_
        refine xT_iaload g_q205 g205_42 hN5 (hm_at h (i := 5) rfl rfl) (ixN (n := 2) (by decide) rfl) (ixG (by decide) rfl) ?_
        refine xT_icV (y := nI (1)) g_q205 g205_43 (by decide) ?_
        refine xT_iaddV (y := nI (d + 1)) g_q205 g205_44 (bAddN _ _) ?_
        refine xT_iastore g_q205 g205_45 (hm_at h (i := 5) rfl rfl) (ixN (n := 2) (by decide) rfl) ?_
        rw [nI_clamp (by decide)]
        refine xT_aload g_q205 g205_46 (lkN (by decide) (lkN (by decide) (lkN (by decide) (lkY)))) ?_
        refine xT_iload g_q205 g205_48 (lkN (by decide) (lkN (by decide) (lkY))) ?_
        refine xT_iaload g_q205 g205_50 hD0 (hm_c g1_ cD) (ixN (n := 48) (by omega) nD) (ixG (by omega) k0) ?_
        refine xT_tableswitch g_q205 g205_51 (t := 206) (by decide) (by decide) (by decide) ?_
        refine xT_aload_n g_q205 g205_206 (lkN (by decide) (lkN (by decide) (lkN (by decide) (lkN (by decide) (rfl))))) ?_
        refine xT_getfield g_q205 g205_207 hA0 rfl (hm_at g1_ (i := 0) rfl rfl) rfl g56 ?_
        refine xT_iload_n g_q205 g205_210 (lkN (by decide) (lkN (by decide) (lkN (by decide) (lkN (by decide) (rfl))))) ?_
        refine xT_iaload g_q205 g205_211 hN9 (hm_at g1_ (i := 9) rfl rfl) (ixN (n := 2) (by decide) rfl) (ixG (by decide) rfl) ?_
        refine xT_biV (y := nI (12)) g_q205 g205_212 (by decide) ?_
        refine xT_if_icmpY g_q205 g205_214 (t := 225) (by decide) (c1Y (a := os) (b := 12) (by omega) (by omega) (by omega)) ?_
        refine xT_aload_n g_q205 g205_225 (lkN (by decide) (lkN (by decide) (lkN (by decide) (lkN (by decide) (rfl))))) ?_
        refine xT_getfield g_q205 g205_226 hA0 rfl (hm_at g1_ (i := 0) rfl rfl) rfl g57 ?_
        refine xT_iload_n g_q205 g205_229 (lkN (by decide) (lkN (by decide) (lkN (by decide) (lkN (by decide) (rfl))))) ?_
        refine xT_aload g_q205 g205_230 (lkN (by decide) (lkY)) ?_
        refine xT_aload g_q205 g205_232 (lkN (by decide) (lkN (by decide) (lkN (by decide) (lkY)))) ?_
        refine xT_iload g_q205 g205_234 (lkN (by decide) (lkN (by decide) (lkY))) ?_
        refine xT_icV (y := nI (1)) g_q205 g205_236 (by decide) ?_
        refine xT_iaddV (y := nI (4 * l + 1)) g_q205 g205_237 (bAddN _ _) ?_
        refine xT_iaload g_q205 g205_238 hD0 (hm_c g1_ cD) (ixN (n := 48) (by omega) nD) (ixG (by omega) k1) ?_
        refine xT_iaload g_q205 g205_239 hN1 (hm_at g1_ (i := 1) rfl rfl) (ixN (n := 6) (by omega) hl0) (ixG (by omega) (hf0 _ (by omega))) ?_
        refine xT_iastore g_q205 g205_240 (hm_at g1_ (i := 10) rfl rfl) (ixN (n := 2) (by decide) rfl) ?_
        rw [nI_clamp (by decide)]
        refine xT_aload_n g_q205 g205_241 (lkN (by decide) (lkN (by decide) (lkN (by decide) (lkN (by decide) (rfl))))) ?_
        refine xT_getfield g_q205 g205_242 hA0 rfl (hm_at g2_ (i := 0) rfl rfl) rfl g55 ?_
        refine xT_iload_n g_q205 g205_245 (lkN (by decide) (lkN (by decide) (lkN (by decide) (lkN (by decide) (rfl))))) ?_
        refine xT_aaload g_q205 g205_246 (by decide +kernel) (hm_c g2_ cwo) (ixN (n := 2) (by decide) nwo) (ixG (by decide) ewo0) ?_
        refine xT_aload_n g_q205 g205_247 (lkN (by decide) (lkN (by decide) (lkN (by decide) (lkN (by decide) (rfl))))) ?_
        refine xT_getfield g_q205 g205_248 hA0 rfl (hm_at g2_ (i := 0) rfl rfl) rfl g56 ?_
        refine xT_iload_n g_q205 g205_251 (lkN (by decide) (lkN (by decide) (lkN (by decide) (lkN (by decide) (rfl))))) ?_
        refine xT_iaload g_q205 g205_252 hN9 (hm_at g2_ (i := 9) rfl rfl) (ixN (n := 2) (by decide) rfl) (ixG (by decide) rfl) ?_
        refine xT_aload_n g_q205 g205_253 (lkN (by decide) (lkN (by decide) (lkN (by decide) (lkN (by decide) (rfl))))) ?_
        refine xT_getfield g_q205 g205_254 hA0 rfl (hm_at g2_ (i := 0) rfl rfl) rfl g57 ?_
        refine xT_iload_n g_q205 g205_257 (lkN (by decide) (lkN (by decide) (lkN (by decide) (lkN (by decide) (rfl))))) ?_
        refine xT_iaload g_q205 g205_258 hN10 (hm_at g2_ (i := 10) rfl rfl) (ixN (n := 2) (by decide) rfl) (ixG (by decide) rfl) ?_
        refine xT_iastore g_q205 g205_259 (hm_at g2_ (i := 7) rfl rfl) (ixN (n := 12) (by omega) hm0) ?_
        rw [nI_clamp (by omega)]
        refine xT_aload_n g_q205 g205_260 (lkN (by decide) (lkN (by decide) (lkN (by decide) (lkN (by decide) (rfl))))) ?_
        refine xT_getfield g_q205 g205_261 hA0 rfl (hm_at g3_ (i := 0) rfl rfl) rfl g56 ?_
        refine xT_iload_n g_q205 g205_264 (lkN (by decide) (lkN (by decide) (lkN (by decide) (lkN (by decide) (rfl))))) ?_
        refine xT_dup2 g_q205 g205_265 ?_
        refine xT_iaload g_q205 g205_266 hN9 (hm_at g3_ (i := 9) rfl rfl) (ixN (n := 2) (by decide) rfl) (ixG (by decide) rfl) ?_
        refine xT_icV (y := nI (1)) g_q205 g205_267 (by decide) ?_
        refine xT_iaddV (y := nI (os + 1)) g_q205 g205_268 (bAddN _ _) ?_
        refine xT_iastore g_q205 g205_269 (hm_at g3_ (i := 9) rfl rfl) (ixN (n := 2) (by decide) rfl) ?_
        rw [nI_clamp (by decide)]
        refine xT_goto g_q205 g205_270 (t := 577) (by decide) ?_
        exact y
      obtain ⟨H2, y, hh⟩ := key
      refine ⟨H2, y, ?_⟩
      rw [stM_2 (s := (n0_, l, x, d, (-1 : Int32), os, v0_)) hz, if_pos (show rOs (n0_, l, x, d, (-1 : Int32), os, v0_) < 12 from ho)]
      exact ⟨_, _, _, _, _, _, _, _, hh, fun _ => rfl, hx1, hl0, hl1, wLf_set ⟨hm0, hM0⟩, ⟨hm1, hM1⟩, hf0, hf1, of_set (show os < w0.length by omega) hv0, hv1⟩
    · skip
      have key : ∃ H2, x_To x_tb x_tyl ot (dp + 3) 205 0 (x_en 0 [.inr (some (b)), .inl (nI (q)), .inl ((pYr p)), .inl (nI (0))]) [] H 0 0 none H2 ∧ hm H0 H2 [b, F0, F1, pc, tk, dn, en, W0, W1, ws, la] [.inl (12, gs), .inr (0, f0), .inr (0, f1), .inr (0, [.inl (nI (l)), .inl (x1)]), .inr (0, [.inl (nI (x)), .inl (nI (rNx s1))]), .inr (0, [.inl (nI (d + 1)), .inl (nI (rDn s1))]), .inr (0, [.inl (nI (1)), .inl (rEn s1)]), .inr (0, w0), .inr (0, w1), .inr (0, [.inl (nI (os)), .inl (nI (rOs s1))]), .inr (0, [.inl (h0), .inl (h1)])] := by
        have g1_ : hm H0 _ [b, F0, F1, pc, tk, dn, en, W0, W1, ws, la] [.inl (12, gs), .inr (0, f0), .inr (0, f1), .inr (0, [.inl (nI (l)), .inl (x1)]), .inr (0, [.inl (nI (x)), .inl (nI (rNx s1))]), .inr (0, [.inl (nI (d + 1)), .inl (nI (rDn s1))]), .inr (0, [.inl (-1), .inl (rEn s1)]), .inr (0, w0), .inr (0, w1), .inr (0, [.inl (nI (os)), .inl (nI (rOs s1))]), .inr (0, [.inl (h0), .inl (h1)])] := hm_set (i := 5) (z2 := .inr (0, ([.inl (nI (d)), .inl (nI (rDn s1))]).set (0) (.inl (nI (d + 1))))) h rfl
        have g2_ : hm H0 _ [b, F0, F1, pc, tk, dn, en, W0, W1, ws, la] [.inl (12, gs), .inr (0, f0), .inr (0, f1), .inr (0, [.inl (nI (l)), .inl (x1)]), .inr (0, [.inl (nI (x)), .inl (nI (rNx s1))]), .inr (0, [.inl (nI (d + 1)), .inl (nI (rDn s1))]), .inr (0, [.inl (nI (1)), .inl (rEn s1)]), .inr (0, w0), .inr (0, w1), .inr (0, [.inl (nI (os)), .inl (nI (rOs s1))]), .inr (0, [.inl (h0), .inl (h1)])] := hm_set (i := 6) (z2 := .inr (0, ([.inl (-1), .inl (rEn s1)]).set (0) (.inl (nI (1))))) g1_ rfl
        refine ⟨_, ?_, g2_⟩
        refine xT_aload_n g_q205 g205_0 (rfl) ?_
        refine xT_getfield g_q205 g205_1 hA0 rfl (hm_at h (i := 0) rfl rfl) rfl g2 ?_
        refine xT_iload_n g_q205 g205_4 (rfl) ?_
        refine xT_aaload g_q205 g205_5 (by decide +kernel) (hm_c h ccd) (ixN (n := 13) (by omega) ncd) (ixG (by omega) ecd) ?_
        refine xT_astore g_q205 g205_6 (by decide) ?_
        refine xT_icV (y := nI (4)) g_q205 g205_8 (by decide) ?_
        refine xT_aload_n g_q205 g205_9 (lkN (by decide) (rfl)) ?_
        refine xT_getfield g_q205 g205_10 hA0 rfl (hm_at h (i := 0) rfl rfl) rfl g51 ?_
        refine xT_iload_n g_q205 g205_13 (lkN (by decide) (rfl)) ?_
        refine xT_iaload g_q205 g205_14 hN3 (hm_at h (i := 3) rfl rfl) (ixN (n := 2) (by decide) rfl) (ixG (by decide) rfl) ?_
        refine xT_imulV (y := nI (4 * l)) g_q205 g205_15 (bMulN _ _) ?_
        refine xT_istore g_q205 g205_16 (by decide) ?_
        refine xT_aload_n g_q205 g205_18 (lkN (by decide) (lkN (by decide) (rfl))) ?_
        refine xT_getfield g_q205 g205_19 hA0 rfl (hm_at h (i := 0) rfl rfl) rfl g50 ?_
        refine xT_iload_n g_q205 g205_22 (lkN (by decide) (lkN (by decide) (rfl))) ?_
        refine xT_aaload g_q205 g205_23 (by decide +kernel) (hm_c h cfo) (ixN (n := 2) (by decide) nfo) (ixG (by decide) efo0) ?_
        refine xT_astore g_q205 g205_24 (by decide) ?_
        refine xT_aload_n g_q205 g205_26 (lkN (by decide) (lkN (by decide) (lkN (by decide) (rfl)))) ?_
        refine xT_getfield g_q205 g205_27 hA0 rfl (hm_at h (i := 0) rfl rfl) rfl g51 ?_
        refine xT_iload_n g_q205 g205_30 (lkN (by decide) (lkN (by decide) (lkN (by decide) (rfl)))) ?_
        refine xT_iaload g_q205 g205_31 hN3 (hm_at h (i := 3) rfl rfl) (ixN (n := 2) (by decide) rfl) (ixG (by decide) rfl) ?_
        refine xT_icV (y := nI (1)) g_q205 g205_32 (by decide) ?_
        refine xT_iaddV (y := nI (l + 1)) g_q205 g205_33 (bAddN _ _) ?_
        refine xT_istore g_q205 g205_34 (by decide) ?_
        refine xT_aload_n g_q205 g205_36 (lkN (by decide) (lkN (by decide) (lkN (by decide) (lkN (by decide) (rfl))))) ?_
        refine xT_getfield g_q205 g205_37 hA0 rfl (hm_at h (i := 0) rfl rfl) rfl g53 ?_
        refine xT_iload_n g_q205 g205_40 (lkN (by decide) (lkN (by decide) (lkN (by decide) (lkN (by decide) (rfl))))) ?_
        refine xT_dup2 g_q205 g205_41 ?_
        refine xT_iaload g_q205 g205_42 hN5 (hm_at h (i := 5) rfl rfl) (ixN (n := 2) (by decide) rfl) (ixG (by decide) rfl) ?_
        refine xT_icV (y := nI (1)) g_q205 g205_43 (by decide) ?_
        refine xT_iaddV (y := nI (d + 1)) g_q205 g205_44 (bAddN _ _) ?_
        refine xT_iastore g_q205 g205_45 (hm_at h (i := 5) rfl rfl) (ixN (n := 2) (by decide) rfl) ?_
        rw [nI_clamp (by decide)]
        refine xT_aload g_q205 g205_46 (lkN (by decide) (lkN (by decide) (lkN (by decide) (lkY)))) ?_
        refine xT_iload g_q205 g205_48 (lkN (by decide) (lkN (by decide) (lkY))) ?_
        refine xT_iaload g_q205 g205_50 hD0 (hm_c g1_ cD) (ixN (n := 48) (by omega) nD) (ixG (by omega) k0) ?_
        refine xT_tableswitch g_q205 g205_51 (t := 206) (by decide) (by decide) (by decide) ?_
        refine xT_aload_n g_q205 g205_206 (lkN (by decide) (lkN (by decide) (lkN (by decide) (lkN (by decide) (rfl))))) ?_
        refine xT_getfield g_q205 g205_207 hA0 rfl (hm_at g1_ (i := 0) rfl rfl) rfl g56 ?_
        refine xT_iload_n g_q205 g205_210 (lkN (by decide) (lkN (by decide) (lkN (by decide) (lkN (by decide) (rfl))))) ?_
        refine xT_iaload g_q205 g205_211 hN9 (hm_at g1_ (i := 9) rfl rfl) (ixN (n := 2) (by decide) rfl) (ixG (by decide) rfl) ?_
        refine xT_biV (y := nI (12)) g_q205 g205_212 (by decide) ?_
        refine xT_if_icmpN g_q205 g205_214 (t := 225) (by decide) (c1N (a := os) (b := 12) (by omega)) ?_
        refine xT_aload_n g_q205 g205_217 (lkN (by decide) (lkN (by decide) (lkN (by decide) (lkN (by decide) (rfl))))) ?_
        refine xT_getfield g_q205 g205_218 hA0 rfl (hm_at g1_ (i := 0) rfl rfl) rfl g54 ?_
        refine xT_iload_n g_q205 g205_221 (lkN (by decide) (lkN (by decide) (lkN (by decide) (lkN (by decide) (rfl))))) ?_
        refine xT_icV (y := nI (1)) g_q205 g205_222 (by decide) ?_
        refine xT_iastore g_q205 g205_223 (hm_at g1_ (i := 6) rfl rfl) (ixN (n := 2) (by decide) rfl) ?_
        rw [nI_clamp (by decide)]
        exact xT_return_ g_q205 g205_224 (rfl)
      obtain ⟨H2, y, hh⟩ := key
      refine ⟨H2, y, ?_⟩
      rw [stM_2 (s := (n0_, l, x, d, (-1 : Int32), os, v0_)) hz, if_neg (show ¬ rOs (n0_, l, x, d, (-1 : Int32), os, v0_) < 12 from ho)]
      exact ⟨_, _, _, _, _, _, _, _, hh, fun z => absurd z (show ¬ ((1 : Int32) = -1) by decide), hx1, hl0, hl1, ⟨hm0, hM0⟩, ⟨hm1, hM1⟩, hf0, hf1, hv0, hv1⟩
  · have hz : pOp p l = 3 := hz
    have k0 : lD[4 * l]? = some (.inl (nI 3)) := by
      rw [k0, hz]
      rfl
    have k1 := k1 (by omega) (by omega)
    have k3 := k3 (by omega)
    have key : ∃ H2, x_To x_tb x_tyl ot (dp + 3) 205 0 (x_en 0 [.inr (some (b)), .inl (nI (q)), .inl ((pYr p)), .inl (nI (0))]) [] H 0 0 none H2 ∧ hm H0 H2 [b, F0, F1, pc, tk, dn, en, W0, W1, ws, la] [.inl (12, gs), .inr (0, (f0).set (pLf p l) (.inl ((pCut p (nI (pNm p l)))))), .inr (0, f1), .inr (0, [.inl (nI (l + 1)), .inl (x1)]), .inr (0, [.inl (nI (x)), .inl (nI (rNx s1))]), .inr (0, [.inl (nI (d + 1)), .inl (nI (rDn s1))]), .inr (0, [.inl ((if pNl p ≤ l + 1 then 0 else if d + 1 = 150 then 2 else -1)), .inl (rEn s1)]), .inr (0, w0), .inr (0, w1), .inr (0, [.inl (nI (os)), .inl (nI (rOs s1))]), .inr (0, [.inl (h0), .inl (h1)])] := by
      have g1_ : hm H0 _ [b, F0, F1, pc, tk, dn, en, W0, W1, ws, la] [.inl (12, gs), .inr (0, f0), .inr (0, f1), .inr (0, [.inl (nI (l)), .inl (x1)]), .inr (0, [.inl (nI (x)), .inl (nI (rNx s1))]), .inr (0, [.inl (nI (d + 1)), .inl (nI (rDn s1))]), .inr (0, [.inl (-1), .inl (rEn s1)]), .inr (0, w0), .inr (0, w1), .inr (0, [.inl (nI (os)), .inl (nI (rOs s1))]), .inr (0, [.inl (h0), .inl (h1)])] := hm_set (i := 5) (z2 := .inr (0, ([.inl (nI (d)), .inl (nI (rDn s1))]).set (0) (.inl (nI (d + 1))))) h rfl
      have g2_ : hm H0 _ [b, F0, F1, pc, tk, dn, en, W0, W1, ws, la] [.inl (12, gs), .inr (0, (f0).set (pLf p l) (.inl ((pCut p (nI (pNm p l)))))), .inr (0, f1), .inr (0, [.inl (nI (l)), .inl (x1)]), .inr (0, [.inl (nI (x)), .inl (nI (rNx s1))]), .inr (0, [.inl (nI (d + 1)), .inl (nI (rDn s1))]), .inr (0, [.inl (-1), .inl (rEn s1)]), .inr (0, w0), .inr (0, w1), .inr (0, [.inl (nI (os)), .inl (nI (rOs s1))]), .inr (0, [.inl (h0), .inl (h1)])] := hm_set (i := 1) (z2 := .inr (0, (f0).set (pLf p l) (.inl ((pCut p (nI (pNm p l))))))) g1_ rfl
      obtain ⟨H2, y, hh⟩ := t205_e0 (dp := dp) (next := l + 1) (d := d) (L := x_st (x_st (x_st (x_st ((x_en 0 [.inr (some (b)), .inl (nI (q)), .inl ((pYr p)), .inl (nI (0))])) 4 (.inr (some (D)))) 5 (.inl (nI (4 * l)))) 6 (.inr (some (F0)))) 7 (.inl (nI (l + 1)))) hA0 hN1 hN2 hN3 hN4 hN5 hN6 hN7 hN8 hN9 hN10 (by rw [List.length_set]; exact hl0) hl1 hm0 hm1 hG hfo hwo hq hC h12 (by omega) (by omega) (lkN (by decide) (lkN (by decide) (lkN (by decide) (lkN (by decide) (rfl))))) (lkN (by decide) (lkN (by decide) (lkN (by decide) (lkN (by decide) (rfl))))) (lkN (by decide) (lkN (by decide) (lkN (by decide) (lkN (by decide) (rfl))))) (lkY) g2_
      refine ⟨H2, ?_, hh⟩
      refine xT_aload_n g_q205 g205_0 (rfl) ?_
      refine xT_getfield g_q205 g205_1 hA0 rfl (hm_at h (i := 0) rfl rfl) rfl g2 ?_
      refine xT_iload_n g_q205 g205_4 (rfl) ?_
      refine xT_aaload g_q205 g205_5 (by decide +kernel) (hm_c h ccd) (ixN (n := 13) (by omega) ncd) (ixG (by omega) ecd) ?_
      refine xT_astore g_q205 g205_6 (by decide) ?_
      refine xT_icV (y := nI (4)) g_q205 g205_8 (by decide) ?_
      refine xT_aload_n g_q205 g205_9 (lkN (by decide) (rfl)) ?_
      refine xT_getfield g_q205 g205_10 hA0 rfl (hm_at h (i := 0) rfl rfl) rfl g51 ?_
      refine xT_iload_n g_q205 g205_13 (lkN (by decide) (rfl)) ?_
      refine xT_iaload g_q205 g205_14 hN3 (hm_at h (i := 3) rfl rfl) (ixN (n := 2) (by decide) rfl) (ixG (by decide) rfl) ?_
      refine xT_imulV (y := nI (4 * l)) g_q205 g205_15 (bMulN _ _) ?_
      refine xT_istore g_q205 g205_16 (by decide) ?_
      refine xT_aload_n g_q205 g205_18 (lkN (by decide) (lkN (by decide) (rfl))) ?_
      refine xT_getfield g_q205 g205_19 hA0 rfl (hm_at h (i := 0) rfl rfl) rfl g50 ?_
      refine xT_iload_n g_q205 g205_22 (lkN (by decide) (lkN (by decide) (rfl))) ?_
      refine xT_aaload g_q205 g205_23 (by decide +kernel) (hm_c h cfo) (ixN (n := 2) (by decide) nfo) (ixG (by decide) efo0) ?_
      refine xT_astore g_q205 g205_24 (by decide) ?_
      refine xT_aload_n g_q205 g205_26 (lkN (by decide) (lkN (by decide) (lkN (by decide) (rfl)))) ?_
      refine xT_getfield g_q205 g205_27 hA0 rfl (hm_at h (i := 0) rfl rfl) rfl g51 ?_
      refine xT_iload_n g_q205 g205_30 (lkN (by decide) (lkN (by decide) (lkN (by decide) (rfl)))) ?_
      refine xT_iaload g_q205 g205_31 hN3 (hm_at h (i := 3) rfl rfl) (ixN (n := 2) (by decide) rfl) (ixG (by decide) rfl) ?_
      refine xT_icV (y := nI (1)) g_q205 g205_32 (by decide) ?_
      refine xT_iaddV (y := nI (l + 1)) g_q205 g205_33 (bAddN _ _) ?_
      refine xT_istore g_q205 g205_34 (by decide) ?_
      refine xT_aload_n g_q205 g205_36 (lkN (by decide) (lkN (by decide) (lkN (by decide) (lkN (by decide) (rfl))))) ?_
      refine xT_getfield g_q205 g205_37 hA0 rfl (hm_at h (i := 0) rfl rfl) rfl g53 ?_
      refine xT_iload_n g_q205 g205_40 (lkN (by decide) (lkN (by decide) (lkN (by decide) (lkN (by decide) (rfl))))) ?_
      refine xT_dup2 g_q205 g205_41 ?_
      refine xT_iaload g_q205 g205_42 hN5 (hm_at h (i := 5) rfl rfl) (ixN (n := 2) (by decide) rfl) (ixG (by decide) rfl) ?_
      refine xT_icV (y := nI (1)) g_q205 g205_43 (by decide) ?_
      refine xT_iaddV (y := nI (d + 1)) g_q205 g205_44 (bAddN _ _) ?_
      refine xT_iastore g_q205 g205_45 (hm_at h (i := 5) rfl rfl) (ixN (n := 2) (by decide) rfl) ?_
      rw [nI_clamp (by decide)]
      refine xT_aload g_q205 g205_46 (lkN (by decide) (lkN (by decide) (lkN (by decide) (lkY)))) ?_
      refine xT_iload g_q205 g205_48 (lkN (by decide) (lkN (by decide) (lkY))) ?_
      refine xT_iaload g_q205 g205_50 hD0 (hm_c g1_ cD) (ixN (n := 48) (by omega) nD) (ixG (by omega) k0) ?_
      refine xT_tableswitch g_q205 g205_51 (t := 273) (by decide) (by decide) (by decide) ?_
      refine xT_aload g_q205 g205_273 (lkN (by decide) (lkY)) ?_
      refine xT_aload g_q205 g205_275 (lkN (by decide) (lkN (by decide) (lkN (by decide) (lkY)))) ?_
      refine xT_iload g_q205 g205_277 (lkN (by decide) (lkN (by decide) (lkY))) ?_
      refine xT_icV (y := nI (1)) g_q205 g205_279 (by decide) ?_
      refine xT_iaddV (y := nI (4 * l + 1)) g_q205 g205_280 (bAddN _ _) ?_
      refine xT_iaload g_q205 g205_281 hD0 (hm_c g1_ cD) (ixN (n := 48) (by omega) nD) (ixG (by omega) k1) ?_
      refine xT_aload_n g_q205 g205_282 (lkN (by decide) (lkN (by decide) (lkN (by decide) (lkN (by decide) (rfl))))) ?_
      refine xT_iload_n g_q205 g205_283 (lkN (by decide) (lkN (by decide) (lkN (by decide) (lkN (by decide) (rfl))))) ?_
      refine xT_aload g_q205 g205_284 (lkN (by decide) (lkN (by decide) (lkN (by decide) (lkY)))) ?_
      refine xT_iload g_q205 g205_286 (lkN (by decide) (lkN (by decide) (lkY))) ?_
      refine xT_icV (y := nI (1)) g_q205 g205_288 (by decide) ?_
      refine xT_iaddV (y := nI (4 * l + 1)) g_q205 g205_289 (bAddN _ _) ?_
      refine xT_iaload g_q205 g205_290 hD0 (hm_c g1_ cD) (ixN (n := 48) (by omega) nD) (ixG (by omega) k1) ?_
      refine xT_aload g_q205 g205_291 (lkN (by decide) (lkN (by decide) (lkN (by decide) (lkY)))) ?_
      refine xT_iload g_q205 g205_293 (lkN (by decide) (lkN (by decide) (lkY))) ?_
      refine xT_icV (y := nI (3)) g_q205 g205_295 (by decide) ?_
      refine xT_iaddV (y := nI (4 * l + 3)) g_q205 g205_296 (bAddN _ _) ?_
      refine xT_iaload g_q205 g205_297 hD0 (hm_c g1_ cD) (ixN (n := 48) (by omega) nD) (ixG (by omega) k3) ?_
      refine xT_iload_n g_q205 g205_298 (lkN (by decide) (lkN (by decide) (lkN (by decide) (lkN (by decide) (rfl))))) ?_
      refine xT_invokevirtual (r := [.inl (nI (pLf p l)), .inr (some (F0))]) (u := some (.inl ((pCut p (nI (pNm p l)))))) g_q205 g205_299 (j := 206) (so := 0) (by decide +kernel) g_q206 rfl (by rw [x_rcM hA0 (hm_at g1_ (i := 0) rfl rfl)]; rfl) (t206_0 (dp := dp + 1) hA0 hN1 hN2 hN3 hN4 hN5 hN6 hN7 hN8 hN9 hN10 hl0 hl1 hm0 hm1 hG hfo hwo hq hT g1_ (by omega) (v := nI (pNm p l))) ?_
      refine xT_iastore g_q205 g205_302 (hm_at g1_ (i := 1) rfl rfl) (ixN (n := 6) (by omega) hl0) ?_
      rw [nI_clamp (by omega)]
      refine xT_goto g_q205 g205_303 (t := 577) (by decide) ?_
      exact y
    obtain ⟨H2, y, hh⟩ := key
    refine ⟨H2, y, ?_⟩
    rw [stM_3 (s := (n0_, l, x, d, (-1 : Int32), os, v0_)) hz]
    exact ⟨_, _, _, _, _, _, _, _, hh, fun _ => rfl, hx1, by rw [List.length_set]; exact hl0, hl1, ⟨hm0, hM0⟩, ⟨hm1, hM1⟩, nf_set (by omega) hf0 (by omega), hf1, hv0, hv1⟩
  · have hz : pOp p l = 4 := hz
    have k0 : lD[4 * l]? = some (.inl (nI 4)) := by
      rw [k0, hz]
      rfl
    have k1 := k1 (by omega) (by omega)
    have k2 := k2 (by omega)
    have key : ∃ H2, x_To x_tb x_tyl ot (dp + 3) 205 0 (x_en 0 [.inr (some (b)), .inl (nI (q)), .inl ((pYr p)), .inl (nI (0))]) [] H 0 0 none H2 ∧ hm H0 H2 [b, F0, F1, pc, tk, dn, en, W0, W1, ws, la] [.inl (12, gs), .inr (0, (f0).set (pLf p l) (.inl ((pCut p (n0_ (pRt p l)))))), .inr (0, f1), .inr (0, [.inl (nI (l + 1)), .inl (x1)]), .inr (0, [.inl (nI (x)), .inl (nI (rNx s1))]), .inr (0, [.inl (nI (d + 1)), .inl (nI (rDn s1))]), .inr (0, [.inl ((if pNl p ≤ l + 1 then 0 else if d + 1 = 150 then 2 else -1)), .inl (rEn s1)]), .inr (0, w0), .inr (0, w1), .inr (0, [.inl (nI (os)), .inl (nI (rOs s1))]), .inr (0, [.inl (h0), .inl (h1)])] := by
      have g1_ : hm H0 _ [b, F0, F1, pc, tk, dn, en, W0, W1, ws, la] [.inl (12, gs), .inr (0, f0), .inr (0, f1), .inr (0, [.inl (nI (l)), .inl (x1)]), .inr (0, [.inl (nI (x)), .inl (nI (rNx s1))]), .inr (0, [.inl (nI (d + 1)), .inl (nI (rDn s1))]), .inr (0, [.inl (-1), .inl (rEn s1)]), .inr (0, w0), .inr (0, w1), .inr (0, [.inl (nI (os)), .inl (nI (rOs s1))]), .inr (0, [.inl (h0), .inl (h1)])] := hm_set (i := 5) (z2 := .inr (0, ([.inl (nI (d)), .inl (nI (rDn s1))]).set (0) (.inl (nI (d + 1))))) h rfl
      have g2_ : hm H0 _ [b, F0, F1, pc, tk, dn, en, W0, W1, ws, la] [.inl (12, gs), .inr (0, (f0).set (pLf p l) (.inl ((pCut p (n0_ (pRt p l)))))), .inr (0, f1), .inr (0, [.inl (nI (l)), .inl (x1)]), .inr (0, [.inl (nI (x)), .inl (nI (rNx s1))]), .inr (0, [.inl (nI (d + 1)), .inl (nI (rDn s1))]), .inr (0, [.inl (-1), .inl (rEn s1)]), .inr (0, w0), .inr (0, w1), .inr (0, [.inl (nI (os)), .inl (nI (rOs s1))]), .inr (0, [.inl (h0), .inl (h1)])] := hm_set (i := 1) (z2 := .inr (0, (f0).set (pLf p l) (.inl ((pCut p (n0_ (pRt p l))))))) g1_ rfl
      obtain ⟨H2, y, hh⟩ := t205_e0 (dp := dp) (next := l + 1) (d := d) (L := x_st (x_st (x_st (x_st ((x_en 0 [.inr (some (b)), .inl (nI (q)), .inl ((pYr p)), .inl (nI (0))])) 4 (.inr (some (D)))) 5 (.inl (nI (4 * l)))) 6 (.inr (some (F0)))) 7 (.inl (nI (l + 1)))) hA0 hN1 hN2 hN3 hN4 hN5 hN6 hN7 hN8 hN9 hN10 (by rw [List.length_set]; exact hl0) hl1 hm0 hm1 hG hfo hwo hq hC h12 (by omega) (by omega) (lkN (by decide) (lkN (by decide) (lkN (by decide) (lkN (by decide) (rfl))))) (lkN (by decide) (lkN (by decide) (lkN (by decide) (lkN (by decide) (rfl))))) (lkN (by decide) (lkN (by decide) (lkN (by decide) (lkN (by decide) (rfl))))) (lkY) g2_
      refine ⟨H2, ?_, hh⟩
      refine xT_aload_n g_q205 g205_0 (rfl) ?_
      refine xT_getfield g_q205 g205_1 hA0 rfl (hm_at h (i := 0) rfl rfl) rfl g2 ?_
      refine xT_iload_n g_q205 g205_4 (rfl) ?_
      refine xT_aaload g_q205 g205_5 (by decide +kernel) (hm_c h ccd) (ixN (n := 13) (by omega) ncd) (ixG (by omega) ecd) ?_
      refine xT_astore g_q205 g205_6 (by decide) ?_
      refine xT_icV (y := nI (4)) g_q205 g205_8 (by decide) ?_
      refine xT_aload_n g_q205 g205_9 (lkN (by decide) (rfl)) ?_
      refine xT_getfield g_q205 g205_10 hA0 rfl (hm_at h (i := 0) rfl rfl) rfl g51 ?_
      refine xT_iload_n g_q205 g205_13 (lkN (by decide) (rfl)) ?_
      refine xT_iaload g_q205 g205_14 hN3 (hm_at h (i := 3) rfl rfl) (ixN (n := 2) (by decide) rfl) (ixG (by decide) rfl) ?_
      refine xT_imulV (y := nI (4 * l)) g_q205 g205_15 (bMulN _ _) ?_
      refine xT_istore g_q205 g205_16 (by decide) ?_
      refine xT_aload_n g_q205 g205_18 (lkN (by decide) (lkN (by decide) (rfl))) ?_
      refine xT_getfield g_q205 g205_19 hA0 rfl (hm_at h (i := 0) rfl rfl) rfl g50 ?_
      refine xT_iload_n g_q205 g205_22 (lkN (by decide) (lkN (by decide) (rfl))) ?_
      refine xT_aaload g_q205 g205_23 (by decide +kernel) (hm_c h cfo) (ixN (n := 2) (by decide) nfo) (ixG (by decide) efo0) ?_
      refine xT_astore g_q205 g205_24 (by decide) ?_
      refine xT_aload_n g_q205 g205_26 (lkN (by decide) (lkN (by decide) (lkN (by decide) (rfl)))) ?_
      refine xT_getfield g_q205 g205_27 hA0 rfl (hm_at h (i := 0) rfl rfl) rfl g51 ?_
      refine xT_iload_n g_q205 g205_30 (lkN (by decide) (lkN (by decide) (lkN (by decide) (rfl)))) ?_
      refine xT_iaload g_q205 g205_31 hN3 (hm_at h (i := 3) rfl rfl) (ixN (n := 2) (by decide) rfl) (ixG (by decide) rfl) ?_
      refine xT_icV (y := nI (1)) g_q205 g205_32 (by decide) ?_
      refine xT_iaddV (y := nI (l + 1)) g_q205 g205_33 (bAddN _ _) ?_
      refine xT_istore g_q205 g205_34 (by decide) ?_
      refine xT_aload_n g_q205 g205_36 (lkN (by decide) (lkN (by decide) (lkN (by decide) (lkN (by decide) (rfl))))) ?_
      refine xT_getfield g_q205 g205_37 hA0 rfl (hm_at h (i := 0) rfl rfl) rfl g53 ?_
      refine xT_iload_n g_q205 g205_40 (lkN (by decide) (lkN (by decide) (lkN (by decide) (lkN (by decide) (rfl))))) ?_
      refine xT_dup2 g_q205 g205_41 ?_
      refine xT_iaload g_q205 g205_42 hN5 (hm_at h (i := 5) rfl rfl) (ixN (n := 2) (by decide) rfl) (ixG (by decide) rfl) ?_
      refine xT_icV (y := nI (1)) g_q205 g205_43 (by decide) ?_
      refine xT_iaddV (y := nI (d + 1)) g_q205 g205_44 (bAddN _ _) ?_
      refine xT_iastore g_q205 g205_45 (hm_at h (i := 5) rfl rfl) (ixN (n := 2) (by decide) rfl) ?_
      rw [nI_clamp (by decide)]
      refine xT_aload g_q205 g205_46 (lkN (by decide) (lkN (by decide) (lkN (by decide) (lkY)))) ?_
      refine xT_iload g_q205 g205_48 (lkN (by decide) (lkN (by decide) (lkY))) ?_
      refine xT_iaload g_q205 g205_50 hD0 (hm_c g1_ cD) (ixN (n := 48) (by omega) nD) (ixG (by omega) k0) ?_
      refine xT_tableswitch g_q205 g205_51 (t := 306) (by decide) (by decide) (by decide) ?_
      refine xT_aload g_q205 g205_306 (lkN (by decide) (lkY)) ?_
      refine xT_aload g_q205 g205_308 (lkN (by decide) (lkN (by decide) (lkN (by decide) (lkY)))) ?_
      refine xT_iload g_q205 g205_310 (lkN (by decide) (lkN (by decide) (lkY))) ?_
      refine xT_icV (y := nI (1)) g_q205 g205_312 (by decide) ?_
      refine xT_iaddV (y := nI (4 * l + 1)) g_q205 g205_313 (bAddN _ _) ?_
      refine xT_iaload g_q205 g205_314 hD0 (hm_c g1_ cD) (ixN (n := 48) (by omega) nD) (ixG (by omega) k1) ?_
      refine xT_aload_n g_q205 g205_315 (lkN (by decide) (lkN (by decide) (lkN (by decide) (lkN (by decide) (rfl))))) ?_
      refine xT_iload_n g_q205 g205_316 (lkN (by decide) (lkN (by decide) (lkN (by decide) (lkN (by decide) (rfl))))) ?_
      refine xT_aload g_q205 g205_317 (lkN (by decide) (lkN (by decide) (lkN (by decide) (lkY)))) ?_
      refine xT_iload g_q205 g205_319 (lkN (by decide) (lkN (by decide) (lkY))) ?_
      refine xT_icV (y := nI (1)) g_q205 g205_321 (by decide) ?_
      refine xT_iaddV (y := nI (4 * l + 1)) g_q205 g205_322 (bAddN _ _) ?_
      refine xT_iaload g_q205 g205_323 hD0 (hm_c g1_ cD) (ixN (n := 48) (by omega) nD) (ixG (by omega) k1) ?_
      refine xT_aload g_q205 g205_324 (lkN (by decide) (lkY)) ?_
      refine xT_aload g_q205 g205_326 (lkN (by decide) (lkN (by decide) (lkN (by decide) (lkY)))) ?_
      refine xT_iload g_q205 g205_328 (lkN (by decide) (lkN (by decide) (lkY))) ?_
      refine xT_icV (y := nI (2)) g_q205 g205_330 (by decide) ?_
      refine xT_iaddV (y := nI (4 * l + 2)) g_q205 g205_331 (bAddN _ _) ?_
      refine xT_iaload g_q205 g205_332 hD0 (hm_c g1_ cD) (ixN (n := 48) (by omega) nD) (ixG (by omega) k2) ?_
      refine xT_iaload g_q205 g205_333 hN1 (hm_at g1_ (i := 1) rfl rfl) (ixN (n := 6) (by omega) hl0) (ixG (by omega) (hf0 _ (by omega))) ?_
      refine xT_iload_n g_q205 g205_334 (lkN (by decide) (lkN (by decide) (lkN (by decide) (lkN (by decide) (rfl))))) ?_
      refine xT_invokevirtual (r := [.inl (nI (pLf p l)), .inr (some (F0))]) (u := some (.inl ((pCut p (n0_ (pRt p l)))))) g_q205 g205_335 (j := 206) (so := 0) (by decide +kernel) g_q206 rfl (by rw [x_rcM hA0 (hm_at g1_ (i := 0) rfl rfl)]; rfl) (t206_0 (dp := dp + 1) hA0 hN1 hN2 hN3 hN4 hN5 hN6 hN7 hN8 hN9 hN10 hl0 hl1 hm0 hm1 hG hfo hwo hq hT g1_ (by omega) (v := n0_ (pRt p l))) ?_
      refine xT_iastore g_q205 g205_338 (hm_at g1_ (i := 1) rfl rfl) (ixN (n := 6) (by omega) hl0) ?_
      rw [nI_clamp (by omega)]
      refine xT_goto g_q205 g205_339 (t := 577) (by decide) ?_
      exact y
    obtain ⟨H2, y, hh⟩ := key
    refine ⟨H2, y, ?_⟩
    rw [stM_4 (s := (n0_, l, x, d, (-1 : Int32), os, v0_)) hz]
    exact ⟨_, _, _, _, _, _, _, _, hh, fun _ => rfl, hx1, by rw [List.length_set]; exact hl0, hl1, ⟨hm0, hM0⟩, ⟨hm1, hM1⟩, nf_set (by omega) hf0 (by omega), hf1, hv0, hv1⟩
  · have hz : pOp p l = 5 := hz
    have k0 : lD[4 * l]? = some (.inl (nI 5)) := by
      rw [k0, hz]
      rfl
    have k1 := k1 (by omega) (by omega)
    have k2 := k2 (by omega)
    have key : ∃ H2, x_To x_tb x_tyl ot (dp + 3) 205 0 (x_en 0 [.inr (some (b)), .inl (nI (q)), .inl ((pYr p)), .inl (nI (0))]) [] H 0 0 none H2 ∧ hm H0 H2 [b, F0, F1, pc, tk, dn, en, W0, W1, ws, la] [.inl (12, gs), .inr (0, (f0).set (pLf p l) (.inl ((pCut p (n0_ (pLf p l) + n0_ (pRt p l)))))), .inr (0, f1), .inr (0, [.inl (nI (l + 1)), .inl (x1)]), .inr (0, [.inl (nI (x)), .inl (nI (rNx s1))]), .inr (0, [.inl (nI (d + 1)), .inl (nI (rDn s1))]), .inr (0, [.inl ((if pNl p ≤ l + 1 then 0 else if d + 1 = 150 then 2 else -1)), .inl (rEn s1)]), .inr (0, w0), .inr (0, w1), .inr (0, [.inl (nI (os)), .inl (nI (rOs s1))]), .inr (0, [.inl (h0), .inl (h1)])] := by
      have g1_ : hm H0 _ [b, F0, F1, pc, tk, dn, en, W0, W1, ws, la] [.inl (12, gs), .inr (0, f0), .inr (0, f1), .inr (0, [.inl (nI (l)), .inl (x1)]), .inr (0, [.inl (nI (x)), .inl (nI (rNx s1))]), .inr (0, [.inl (nI (d + 1)), .inl (nI (rDn s1))]), .inr (0, [.inl (-1), .inl (rEn s1)]), .inr (0, w0), .inr (0, w1), .inr (0, [.inl (nI (os)), .inl (nI (rOs s1))]), .inr (0, [.inl (h0), .inl (h1)])] := hm_set (i := 5) (z2 := .inr (0, ([.inl (nI (d)), .inl (nI (rDn s1))]).set (0) (.inl (nI (d + 1))))) h rfl
      have g2_ : hm H0 _ [b, F0, F1, pc, tk, dn, en, W0, W1, ws, la] [.inl (12, gs), .inr (0, (f0).set (pLf p l) (.inl ((pCut p (n0_ (pLf p l) + n0_ (pRt p l)))))), .inr (0, f1), .inr (0, [.inl (nI (l)), .inl (x1)]), .inr (0, [.inl (nI (x)), .inl (nI (rNx s1))]), .inr (0, [.inl (nI (d + 1)), .inl (nI (rDn s1))]), .inr (0, [.inl (-1), .inl (rEn s1)]), .inr (0, w0), .inr (0, w1), .inr (0, [.inl (nI (os)), .inl (nI (rOs s1))]), .inr (0, [.inl (h0), .inl (h1)])] := hm_set (i := 1) (z2 := .inr (0, (f0).set (pLf p l) (.inl ((pCut p (n0_ (pLf p l) + n0_ (pRt p l))))))) g1_ rfl
      obtain ⟨H2, y, hh⟩ := t205_e0 (dp := dp) (next := l + 1) (d := d) (L := x_st (x_st (x_st (x_st ((x_en 0 [.inr (some (b)), .inl (nI (q)), .inl ((pYr p)), .inl (nI (0))])) 4 (.inr (some (D)))) 5 (.inl (nI (4 * l)))) 6 (.inr (some (F0)))) 7 (.inl (nI (l + 1)))) hA0 hN1 hN2 hN3 hN4 hN5 hN6 hN7 hN8 hN9 hN10 (by rw [List.length_set]; exact hl0) hl1 hm0 hm1 hG hfo hwo hq hC h12 (by omega) (by omega) (lkN (by decide) (lkN (by decide) (lkN (by decide) (lkN (by decide) (rfl))))) (lkN (by decide) (lkN (by decide) (lkN (by decide) (lkN (by decide) (rfl))))) (lkN (by decide) (lkN (by decide) (lkN (by decide) (lkN (by decide) (rfl))))) (lkY) g2_
      refine ⟨H2, ?_, hh⟩
      refine xT_aload_n g_q205 g205_0 (rfl) ?_
      refine xT_getfield g_q205 g205_1 hA0 rfl (hm_at h (i := 0) rfl rfl) rfl g2 ?_
      refine xT_iload_n g_q205 g205_4 (rfl) ?_
      refine xT_aaload g_q205 g205_5 (by decide +kernel) (hm_c h ccd) (ixN (n := 13) (by omega) ncd) (ixG (by omega) ecd) ?_
      refine xT_astore g_q205 g205_6 (by decide) ?_
      refine xT_icV (y := nI (4)) g_q205 g205_8 (by decide) ?_
      refine xT_aload_n g_q205 g205_9 (lkN (by decide) (rfl)) ?_
      refine xT_getfield g_q205 g205_10 hA0 rfl (hm_at h (i := 0) rfl rfl) rfl g51 ?_
      refine xT_iload_n g_q205 g205_13 (lkN (by decide) (rfl)) ?_
      refine xT_iaload g_q205 g205_14 hN3 (hm_at h (i := 3) rfl rfl) (ixN (n := 2) (by decide) rfl) (ixG (by decide) rfl) ?_
      refine xT_imulV (y := nI (4 * l)) g_q205 g205_15 (bMulN _ _) ?_
      refine xT_istore g_q205 g205_16 (by decide) ?_
      refine xT_aload_n g_q205 g205_18 (lkN (by decide) (lkN (by decide) (rfl))) ?_
      refine xT_getfield g_q205 g205_19 hA0 rfl (hm_at h (i := 0) rfl rfl) rfl g50 ?_
      refine xT_iload_n g_q205 g205_22 (lkN (by decide) (lkN (by decide) (rfl))) ?_
      refine xT_aaload g_q205 g205_23 (by decide +kernel) (hm_c h cfo) (ixN (n := 2) (by decide) nfo) (ixG (by decide) efo0) ?_
      refine xT_astore g_q205 g205_24 (by decide) ?_
      refine xT_aload_n g_q205 g205_26 (lkN (by decide) (lkN (by decide) (lkN (by decide) (rfl)))) ?_
      refine xT_getfield g_q205 g205_27 hA0 rfl (hm_at h (i := 0) rfl rfl) rfl g51 ?_
      refine xT_iload_n g_q205 g205_30 (lkN (by decide) (lkN (by decide) (lkN (by decide) (rfl)))) ?_
      refine xT_iaload g_q205 g205_31 hN3 (hm_at h (i := 3) rfl rfl) (ixN (n := 2) (by decide) rfl) (ixG (by decide) rfl) ?_
      refine xT_icV (y := nI (1)) g_q205 g205_32 (by decide) ?_
      refine xT_iaddV (y := nI (l + 1)) g_q205 g205_33 (bAddN _ _) ?_
      refine xT_istore g_q205 g205_34 (by decide) ?_
      refine xT_aload_n g_q205 g205_36 (lkN (by decide) (lkN (by decide) (lkN (by decide) (lkN (by decide) (rfl))))) ?_
      refine xT_getfield g_q205 g205_37 hA0 rfl (hm_at h (i := 0) rfl rfl) rfl g53 ?_
      refine xT_iload_n g_q205 g205_40 (lkN (by decide) (lkN (by decide) (lkN (by decide) (lkN (by decide) (rfl))))) ?_
      refine xT_dup2 g_q205 g205_41 ?_
      refine xT_iaload g_q205 g205_42 hN5 (hm_at h (i := 5) rfl rfl) (ixN (n := 2) (by decide) rfl) (ixG (by decide) rfl) ?_
      refine xT_icV (y := nI (1)) g_q205 g205_43 (by decide) ?_
      refine xT_iaddV (y := nI (d + 1)) g_q205 g205_44 (bAddN _ _) ?_
      refine xT_iastore g_q205 g205_45 (hm_at h (i := 5) rfl rfl) (ixN (n := 2) (by decide) rfl) ?_
      rw [nI_clamp (by decide)]
      refine xT_aload g_q205 g205_46 (lkN (by decide) (lkN (by decide) (lkN (by decide) (lkY)))) ?_
      refine xT_iload g_q205 g205_48 (lkN (by decide) (lkN (by decide) (lkY))) ?_
      refine xT_iaload g_q205 g205_50 hD0 (hm_c g1_ cD) (ixN (n := 48) (by omega) nD) (ixG (by omega) k0) ?_
      refine xT_tableswitch g_q205 g205_51 (t := 342) (by decide) (by decide) (by decide) ?_
      refine xT_aload g_q205 g205_342 (lkN (by decide) (lkY)) ?_
      refine xT_aload g_q205 g205_344 (lkN (by decide) (lkN (by decide) (lkN (by decide) (lkY)))) ?_
      refine xT_iload g_q205 g205_346 (lkN (by decide) (lkN (by decide) (lkY))) ?_
      refine xT_icV (y := nI (1)) g_q205 g205_348 (by decide) ?_
      refine xT_iaddV (y := nI (4 * l + 1)) g_q205 g205_349 (bAddN _ _) ?_
      refine xT_iaload g_q205 g205_350 hD0 (hm_c g1_ cD) (ixN (n := 48) (by omega) nD) (ixG (by omega) k1) ?_
      refine xT_aload_n g_q205 g205_351 (lkN (by decide) (lkN (by decide) (lkN (by decide) (lkN (by decide) (rfl))))) ?_
      refine xT_iload_n g_q205 g205_352 (lkN (by decide) (lkN (by decide) (lkN (by decide) (lkN (by decide) (rfl))))) ?_
      refine xT_aload g_q205 g205_353 (lkN (by decide) (lkN (by decide) (lkN (by decide) (lkY)))) ?_
      refine xT_iload g_q205 g205_355 (lkN (by decide) (lkN (by decide) (lkY))) ?_
      refine xT_icV (y := nI (1)) g_q205 g205_357 (by decide) ?_
      refine xT_iaddV (y := nI (4 * l + 1)) g_q205 g205_358 (bAddN _ _) ?_
      refine xT_iaload g_q205 g205_359 hD0 (hm_c g1_ cD) (ixN (n := 48) (by omega) nD) (ixG (by omega) k1) ?_
      refine xT_aload g_q205 g205_360 (lkN (by decide) (lkY)) ?_
      refine xT_aload g_q205 g205_362 (lkN (by decide) (lkN (by decide) (lkN (by decide) (lkY)))) ?_
      refine xT_iload g_q205 g205_364 (lkN (by decide) (lkN (by decide) (lkY))) ?_
      refine xT_icV (y := nI (1)) g_q205 g205_366 (by decide) ?_
      refine xT_iaddV (y := nI (4 * l + 1)) g_q205 g205_367 (bAddN _ _) ?_
      refine xT_iaload g_q205 g205_368 hD0 (hm_c g1_ cD) (ixN (n := 48) (by omega) nD) (ixG (by omega) k1) ?_
      refine xT_iaload g_q205 g205_369 hN1 (hm_at g1_ (i := 1) rfl rfl) (ixN (n := 6) (by omega) hl0) (ixG (by omega) (hf0 _ (by omega))) ?_
      refine xT_aload g_q205 g205_370 (lkN (by decide) (lkY)) ?_
      refine xT_aload g_q205 g205_372 (lkN (by decide) (lkN (by decide) (lkN (by decide) (lkY)))) ?_
      refine xT_iload g_q205 g205_374 (lkN (by decide) (lkN (by decide) (lkY))) ?_
      refine xT_icV (y := nI (2)) g_q205 g205_376 (by decide) ?_
      refine xT_iaddV (y := nI (4 * l + 2)) g_q205 g205_377 (bAddN _ _) ?_
      refine xT_iaload g_q205 g205_378 hD0 (hm_c g1_ cD) (ixN (n := 48) (by omega) nD) (ixG (by omega) k2) ?_
      refine xT_iaload g_q205 g205_379 hN1 (hm_at g1_ (i := 1) rfl rfl) (ixN (n := 6) (by omega) hl0) (ixG (by omega) (hf0 _ (by omega))) ?_
      refine xT_iaddV (y := (n0_ (pLf p l) + n0_ (pRt p l))) g_q205 g205_380 (rfl) ?_
      refine xT_iload_n g_q205 g205_381 (lkN (by decide) (lkN (by decide) (lkN (by decide) (lkN (by decide) (rfl))))) ?_
      refine xT_invokevirtual (r := [.inl (nI (pLf p l)), .inr (some (F0))]) (u := some (.inl ((pCut p (n0_ (pLf p l) + n0_ (pRt p l)))))) g_q205 g205_382 (j := 206) (so := 0) (by decide +kernel) g_q206 rfl (by rw [x_rcM hA0 (hm_at g1_ (i := 0) rfl rfl)]; rfl) (t206_0 (dp := dp + 1) hA0 hN1 hN2 hN3 hN4 hN5 hN6 hN7 hN8 hN9 hN10 hl0 hl1 hm0 hm1 hG hfo hwo hq hT g1_ (by omega) (v := n0_ (pLf p l) + n0_ (pRt p l))) ?_
      refine xT_iastore g_q205 g205_385 (hm_at g1_ (i := 1) rfl rfl) (ixN (n := 6) (by omega) hl0) ?_
      rw [nI_clamp (by omega)]
      refine xT_goto g_q205 g205_386 (t := 577) (by decide) ?_
      exact y
    obtain ⟨H2, y, hh⟩ := key
    refine ⟨H2, y, ?_⟩
    rw [stM_5 (s := (n0_, l, x, d, (-1 : Int32), os, v0_)) hz]
    exact ⟨_, _, _, _, _, _, _, _, hh, fun _ => rfl, hx1, by rw [List.length_set]; exact hl0, hl1, ⟨hm0, hM0⟩, ⟨hm1, hM1⟩, nf_set (by omega) hf0 (by omega), hf1, hv0, hv1⟩
  · have hz : pOp p l = 6 := hz
    have k0 : lD[4 * l]? = some (.inl (nI 6)) := by
      rw [k0, hz]
      rfl
    have k1 := k1 (by omega) (by omega)
    have k2 := k2 (by omega)
    have key : ∃ H2, x_To x_tb x_tyl ot (dp + 3) 205 0 (x_en 0 [.inr (some (b)), .inl (nI (q)), .inl ((pYr p)), .inl (nI (0))]) [] H 0 0 none H2 ∧ hm H0 H2 [b, F0, F1, pc, tk, dn, en, W0, W1, ws, la] [.inl (12, gs), .inr (0, (f0).set (pLf p l) (.inl ((pCut p (n0_ (pLf p l) - n0_ (pRt p l)))))), .inr (0, f1), .inr (0, [.inl (nI (l + 1)), .inl (x1)]), .inr (0, [.inl (nI (x)), .inl (nI (rNx s1))]), .inr (0, [.inl (nI (d + 1)), .inl (nI (rDn s1))]), .inr (0, [.inl ((if pNl p ≤ l + 1 then 0 else if d + 1 = 150 then 2 else -1)), .inl (rEn s1)]), .inr (0, w0), .inr (0, w1), .inr (0, [.inl (nI (os)), .inl (nI (rOs s1))]), .inr (0, [.inl (h0), .inl (h1)])] := by
      have g1_ : hm H0 _ [b, F0, F1, pc, tk, dn, en, W0, W1, ws, la] [.inl (12, gs), .inr (0, f0), .inr (0, f1), .inr (0, [.inl (nI (l)), .inl (x1)]), .inr (0, [.inl (nI (x)), .inl (nI (rNx s1))]), .inr (0, [.inl (nI (d + 1)), .inl (nI (rDn s1))]), .inr (0, [.inl (-1), .inl (rEn s1)]), .inr (0, w0), .inr (0, w1), .inr (0, [.inl (nI (os)), .inl (nI (rOs s1))]), .inr (0, [.inl (h0), .inl (h1)])] := hm_set (i := 5) (z2 := .inr (0, ([.inl (nI (d)), .inl (nI (rDn s1))]).set (0) (.inl (nI (d + 1))))) h rfl
      have g2_ : hm H0 _ [b, F0, F1, pc, tk, dn, en, W0, W1, ws, la] [.inl (12, gs), .inr (0, (f0).set (pLf p l) (.inl ((pCut p (n0_ (pLf p l) - n0_ (pRt p l)))))), .inr (0, f1), .inr (0, [.inl (nI (l)), .inl (x1)]), .inr (0, [.inl (nI (x)), .inl (nI (rNx s1))]), .inr (0, [.inl (nI (d + 1)), .inl (nI (rDn s1))]), .inr (0, [.inl (-1), .inl (rEn s1)]), .inr (0, w0), .inr (0, w1), .inr (0, [.inl (nI (os)), .inl (nI (rOs s1))]), .inr (0, [.inl (h0), .inl (h1)])] := hm_set (i := 1) (z2 := .inr (0, (f0).set (pLf p l) (.inl ((pCut p (n0_ (pLf p l) - n0_ (pRt p l))))))) g1_ rfl
      obtain ⟨H2, y, hh⟩ := t205_e0 (dp := dp) (next := l + 1) (d := d) (L := x_st (x_st (x_st (x_st ((x_en 0 [.inr (some (b)), .inl (nI (q)), .inl ((pYr p)), .inl (nI (0))])) 4 (.inr (some (D)))) 5 (.inl (nI (4 * l)))) 6 (.inr (some (F0)))) 7 (.inl (nI (l + 1)))) hA0 hN1 hN2 hN3 hN4 hN5 hN6 hN7 hN8 hN9 hN10 (by rw [List.length_set]; exact hl0) hl1 hm0 hm1 hG hfo hwo hq hC h12 (by omega) (by omega) (lkN (by decide) (lkN (by decide) (lkN (by decide) (lkN (by decide) (rfl))))) (lkN (by decide) (lkN (by decide) (lkN (by decide) (lkN (by decide) (rfl))))) (lkN (by decide) (lkN (by decide) (lkN (by decide) (lkN (by decide) (rfl))))) (lkY) g2_
      refine ⟨H2, ?_, hh⟩
      refine xT_aload_n g_q205 g205_0 (rfl) ?_
      refine xT_getfield g_q205 g205_1 hA0 rfl (hm_at h (i := 0) rfl rfl) rfl g2 ?_
      refine xT_iload_n g_q205 g205_4 (rfl) ?_
      refine xT_aaload g_q205 g205_5 (by decide +kernel) (hm_c h ccd) (ixN (n := 13) (by omega) ncd) (ixG (by omega) ecd) ?_
      refine xT_astore g_q205 g205_6 (by decide) ?_
      refine xT_icV (y := nI (4)) g_q205 g205_8 (by decide) ?_
      refine xT_aload_n g_q205 g205_9 (lkN (by decide) (rfl)) ?_
      refine xT_getfield g_q205 g205_10 hA0 rfl (hm_at h (i := 0) rfl rfl) rfl g51 ?_
      refine xT_iload_n g_q205 g205_13 (lkN (by decide) (rfl)) ?_
      refine xT_iaload g_q205 g205_14 hN3 (hm_at h (i := 3) rfl rfl) (ixN (n := 2) (by decide) rfl) (ixG (by decide) rfl) ?_
      refine xT_imulV (y := nI (4 * l)) g_q205 g205_15 (bMulN _ _) ?_
      refine xT_istore g_q205 g205_16 (by decide) ?_
      refine xT_aload_n g_q205 g205_18 (lkN (by decide) (lkN (by decide) (rfl))) ?_
      refine xT_getfield g_q205 g205_19 hA0 rfl (hm_at h (i := 0) rfl rfl) rfl g50 ?_
      refine xT_iload_n g_q205 g205_22 (lkN (by decide) (lkN (by decide) (rfl))) ?_
      refine xT_aaload g_q205 g205_23 (by decide +kernel) (hm_c h cfo) (ixN (n := 2) (by decide) nfo) (ixG (by decide) efo0) ?_
      refine xT_astore g_q205 g205_24 (by decide) ?_
      refine xT_aload_n g_q205 g205_26 (lkN (by decide) (lkN (by decide) (lkN (by decide) (rfl)))) ?_
      refine xT_getfield g_q205 g205_27 hA0 rfl (hm_at h (i := 0) rfl rfl) rfl g51 ?_
      refine xT_iload_n g_q205 g205_30 (lkN (by decide) (lkN (by decide) (lkN (by decide) (rfl)))) ?_
      refine xT_iaload g_q205 g205_31 hN3 (hm_at h (i := 3) rfl rfl) (ixN (n := 2) (by decide) rfl) (ixG (by decide) rfl) ?_
      refine xT_icV (y := nI (1)) g_q205 g205_32 (by decide) ?_
      refine xT_iaddV (y := nI (l + 1)) g_q205 g205_33 (bAddN _ _) ?_
      refine xT_istore g_q205 g205_34 (by decide) ?_
      refine xT_aload_n g_q205 g205_36 (lkN (by decide) (lkN (by decide) (lkN (by decide) (lkN (by decide) (rfl))))) ?_
      refine xT_getfield g_q205 g205_37 hA0 rfl (hm_at h (i := 0) rfl rfl) rfl g53 ?_
      refine xT_iload_n g_q205 g205_40 (lkN (by decide) (lkN (by decide) (lkN (by decide) (lkN (by decide) (rfl))))) ?_
      refine xT_dup2 g_q205 g205_41 ?_
      refine xT_iaload g_q205 g205_42 hN5 (hm_at h (i := 5) rfl rfl) (ixN (n := 2) (by decide) rfl) (ixG (by decide) rfl) ?_
      refine xT_icV (y := nI (1)) g_q205 g205_43 (by decide) ?_
      refine xT_iaddV (y := nI (d + 1)) g_q205 g205_44 (bAddN _ _) ?_
      refine xT_iastore g_q205 g205_45 (hm_at h (i := 5) rfl rfl) (ixN (n := 2) (by decide) rfl) ?_
      rw [nI_clamp (by decide)]
      refine xT_aload g_q205 g205_46 (lkN (by decide) (lkN (by decide) (lkN (by decide) (lkY)))) ?_
      refine xT_iload g_q205 g205_48 (lkN (by decide) (lkN (by decide) (lkY))) ?_
      refine xT_iaload g_q205 g205_50 hD0 (hm_c g1_ cD) (ixN (n := 48) (by omega) nD) (ixG (by omega) k0) ?_
      refine xT_tableswitch g_q205 g205_51 (t := 389) (by decide) (by decide) (by decide) ?_
      refine xT_aload g_q205 g205_389 (lkN (by decide) (lkY)) ?_
      refine xT_aload g_q205 g205_391 (lkN (by decide) (lkN (by decide) (lkN (by decide) (lkY)))) ?_
      refine xT_iload g_q205 g205_393 (lkN (by decide) (lkN (by decide) (lkY))) ?_
      refine xT_icV (y := nI (1)) g_q205 g205_395 (by decide) ?_
      refine xT_iaddV (y := nI (4 * l + 1)) g_q205 g205_396 (bAddN _ _) ?_
      refine xT_iaload g_q205 g205_397 hD0 (hm_c g1_ cD) (ixN (n := 48) (by omega) nD) (ixG (by omega) k1) ?_
      refine xT_aload_n g_q205 g205_398 (lkN (by decide) (lkN (by decide) (lkN (by decide) (lkN (by decide) (rfl))))) ?_
      refine xT_iload_n g_q205 g205_399 (lkN (by decide) (lkN (by decide) (lkN (by decide) (lkN (by decide) (rfl))))) ?_
      refine xT_aload g_q205 g205_400 (lkN (by decide) (lkN (by decide) (lkN (by decide) (lkY)))) ?_
      refine xT_iload g_q205 g205_402 (lkN (by decide) (lkN (by decide) (lkY))) ?_
      refine xT_icV (y := nI (1)) g_q205 g205_404 (by decide) ?_
      refine xT_iaddV (y := nI (4 * l + 1)) g_q205 g205_405 (bAddN _ _) ?_
      refine xT_iaload g_q205 g205_406 hD0 (hm_c g1_ cD) (ixN (n := 48) (by omega) nD) (ixG (by omega) k1) ?_
      refine xT_aload g_q205 g205_407 (lkN (by decide) (lkY)) ?_
      refine xT_aload g_q205 g205_409 (lkN (by decide) (lkN (by decide) (lkN (by decide) (lkY)))) ?_
      refine xT_iload g_q205 g205_411 (lkN (by decide) (lkN (by decide) (lkY))) ?_
      refine xT_icV (y := nI (1)) g_q205 g205_413 (by decide) ?_
      refine xT_iaddV (y := nI (4 * l + 1)) g_q205 g205_414 (bAddN _ _) ?_
      refine xT_iaload g_q205 g205_415 hD0 (hm_c g1_ cD) (ixN (n := 48) (by omega) nD) (ixG (by omega) k1) ?_
      refine xT_iaload g_q205 g205_416 hN1 (hm_at g1_ (i := 1) rfl rfl) (ixN (n := 6) (by omega) hl0) (ixG (by omega) (hf0 _ (by omega))) ?_
      refine xT_aload g_q205 g205_417 (lkN (by decide) (lkY)) ?_
      refine xT_aload g_q205 g205_419 (lkN (by decide) (lkN (by decide) (lkN (by decide) (lkY)))) ?_
      refine xT_iload g_q205 g205_421 (lkN (by decide) (lkN (by decide) (lkY))) ?_
      refine xT_icV (y := nI (2)) g_q205 g205_423 (by decide) ?_
      refine xT_iaddV (y := nI (4 * l + 2)) g_q205 g205_424 (bAddN _ _) ?_
      refine xT_iaload g_q205 g205_425 hD0 (hm_c g1_ cD) (ixN (n := 48) (by omega) nD) (ixG (by omega) k2) ?_
      refine xT_iaload g_q205 g205_426 hN1 (hm_at g1_ (i := 1) rfl rfl) (ixN (n := 6) (by omega) hl0) (ixG (by omega) (hf0 _ (by omega))) ?_
      refine xT_isubV (y := (n0_ (pLf p l) - n0_ (pRt p l))) g_q205 g205_427 (rfl) ?_
      refine xT_iload_n g_q205 g205_428 (lkN (by decide) (lkN (by decide) (lkN (by decide) (lkN (by decide) (rfl))))) ?_
      refine xT_invokevirtual (r := [.inl (nI (pLf p l)), .inr (some (F0))]) (u := some (.inl ((pCut p (n0_ (pLf p l) - n0_ (pRt p l)))))) g_q205 g205_429 (j := 206) (so := 0) (by decide +kernel) g_q206 rfl (by rw [x_rcM hA0 (hm_at g1_ (i := 0) rfl rfl)]; rfl) (t206_0 (dp := dp + 1) hA0 hN1 hN2 hN3 hN4 hN5 hN6 hN7 hN8 hN9 hN10 hl0 hl1 hm0 hm1 hG hfo hwo hq hT g1_ (by omega) (v := n0_ (pLf p l) - n0_ (pRt p l))) ?_
      refine xT_iastore g_q205 g205_432 (hm_at g1_ (i := 1) rfl rfl) (ixN (n := 6) (by omega) hl0) ?_
      rw [nI_clamp (by omega)]
      refine xT_goto g_q205 g205_433 (t := 577) (by decide) ?_
      exact y
    obtain ⟨H2, y, hh⟩ := key
    refine ⟨H2, y, ?_⟩
    rw [stM_6 (s := (n0_, l, x, d, (-1 : Int32), os, v0_)) hz]
    exact ⟨_, _, _, _, _, _, _, _, hh, fun _ => rfl, hx1, by rw [List.length_set]; exact hl0, hl1, ⟨hm0, hM0⟩, ⟨hm1, hM1⟩, nf_set (by omega) hf0 (by omega), hf1, hv0, hv1⟩
  · have hz : pOp p l = 7 := hz
    have k0 : lD[4 * l]? = some (.inl (nI 7)) := by
      rw [k0, hz]
      rfl
    have k1 := k1 (by omega) (by omega)
    have k2 := k2 (by omega)
    have k3 := k3 (by omega)
    by_cases hq_ : (n0_ (pLf p l)) < (n0_ (pRt p l))
    · skip
      have key : ∃ H2, x_To x_tb x_tyl ot (dp + 3) 205 0 (x_en 0 [.inr (some (b)), .inl (nI (q)), .inl ((pYr p)), .inl (nI (0))]) [] H 0 0 none H2 ∧ hm H0 H2 [b, F0, F1, pc, tk, dn, en, W0, W1, ws, la] [.inl (12, gs), .inr (0, f0), .inr (0, f1), .inr (0, [.inl (nI (pNm p l)), .inl (x1)]), .inr (0, [.inl (nI (x)), .inl (nI (rNx s1))]), .inr (0, [.inl (nI (d + 1)), .inl (nI (rDn s1))]), .inr (0, [.inl ((if pNl p ≤ pNm p l then 0 else if d + 1 = 150 then 2 else -1)), .inl (rEn s1)]), .inr (0, w0), .inr (0, w1), .inr (0, [.inl (nI (os)), .inl (nI (rOs s1))]), .inr (0, [.inl (h0), .inl (h1)])] := by
        have g1_ : hm H0 _ [b, F0, F1, pc, tk, dn, en, W0, W1, ws, la] [.inl (12, gs), .inr (0, f0), .inr (0, f1), .inr (0, [.inl (nI (l)), .inl (x1)]), .inr (0, [.inl (nI (x)), .inl (nI (rNx s1))]), .inr (0, [.inl (nI (d + 1)), .inl (nI (rDn s1))]), .inr (0, [.inl (-1), .inl (rEn s1)]), .inr (0, w0), .inr (0, w1), .inr (0, [.inl (nI (os)), .inl (nI (rOs s1))]), .inr (0, [.inl (h0), .inl (h1)])] := hm_set (i := 5) (z2 := .inr (0, ([.inl (nI (d)), .inl (nI (rDn s1))]).set (0) (.inl (nI (d + 1))))) h rfl
        obtain ⟨H2, y, hh⟩ := t205_e0 (dp := dp) (next := pNm p l) (d := d) (L := x_st (x_st (x_st (x_st (x_st ((x_en 0 [.inr (some (b)), .inl (nI (q)), .inl ((pYr p)), .inl (nI (0))])) 4 (.inr (some (D)))) 5 (.inl (nI (4 * l)))) 6 (.inr (some (F0)))) 7 (.inl (nI (l + 1)))) 7 (.inl (nI (pNm p l)))) hA0 hN1 hN2 hN3 hN4 hN5 hN6 hN7 hN8 hN9 hN10 hl0 hl1 hm0 hm1 hG hfo hwo hq hC h12 (by omega) (by omega) (lkN (by decide) (lkN (by decide) (lkN (by decide) (lkN (by decide) (lkN (by decide) (rfl)))))) (lkN (by decide) (lkN (by decide) (lkN (by decide) (lkN (by decide) (lkN (by decide) (rfl)))))) (lkN (by decide) (lkN (by decide) (lkN (by decide) (lkN (by decide) (lkN (by decide) (rfl)))))) (lkY) g1_
        refine ⟨H2, ?_, hh⟩
        refine xT_aload_n g_q205 g205_0 (rfl) ?_
        refine xT_getfield g_q205 g205_1 hA0 rfl (hm_at h (i := 0) rfl rfl) rfl g2 ?_
        refine xT_iload_n g_q205 g205_4 (rfl) ?_
        refine xT_aaload g_q205 g205_5 (by decide +kernel) (hm_c h ccd) (ixN (n := 13) (by omega) ncd) (ixG (by omega) ecd) ?_
        refine xT_astore g_q205 g205_6 (by decide) ?_
        refine xT_icV (y := nI (4)) g_q205 g205_8 (by decide) ?_
        refine xT_aload_n g_q205 g205_9 (lkN (by decide) (rfl)) ?_
        refine xT_getfield g_q205 g205_10 hA0 rfl (hm_at h (i := 0) rfl rfl) rfl g51 ?_
        refine xT_iload_n g_q205 g205_13 (lkN (by decide) (rfl)) ?_
        refine xT_iaload g_q205 g205_14 hN3 (hm_at h (i := 3) rfl rfl) (ixN (n := 2) (by decide) rfl) (ixG (by decide) rfl) ?_
        refine xT_imulV (y := nI (4 * l)) g_q205 g205_15 (bMulN _ _) ?_
        refine xT_istore g_q205 g205_16 (by decide) ?_
        refine xT_aload_n g_q205 g205_18 (lkN (by decide) (lkN (by decide) (rfl))) ?_
        refine xT_getfield g_q205 g205_19 hA0 rfl (hm_at h (i := 0) rfl rfl) rfl g50 ?_
        refine xT_iload_n g_q205 g205_22 (lkN (by decide) (lkN (by decide) (rfl))) ?_
        refine xT_aaload g_q205 g205_23 (by decide +kernel) (hm_c h cfo) (ixN (n := 2) (by decide) nfo) (ixG (by decide) efo0) ?_
        refine xT_astore g_q205 g205_24 (by decide) ?_
        refine xT_aload_n g_q205 g205_26 (lkN (by decide) (lkN (by decide) (lkN (by decide) (rfl)))) ?_
        refine xT_getfield g_q205 g205_27 hA0 rfl (hm_at h (i := 0) rfl rfl) rfl g51 ?_
        refine xT_iload_n g_q205 g205_30 (lkN (by decide) (lkN (by decide) (lkN (by decide) (rfl)))) ?_
        refine xT_iaload g_q205 g205_31 hN3 (hm_at h (i := 3) rfl rfl) (ixN (n := 2) (by decide) rfl) (ixG (by decide) rfl) ?_
        refine xT_icV (y := nI (1)) g_q205 g205_32 (by decide) ?_
        refine xT_iaddV (y := nI (l + 1)) g_q205 g205_33 (bAddN _ _) ?_
        refine xT_istore g_q205 g205_34 (by decide) ?_
        refine xT_aload_n g_q205 g205_36 (lkN (by decide) (lkN (by decide) (lkN (by decide) (lkN (by decide) (rfl))))) ?_
        refine xT_getfield g_q205 g205_37 hA0 rfl (hm_at h (i := 0) rfl rfl) rfl g53 ?_
        refine xT_iload_n g_q205 g205_40 (lkN (by decide) (lkN (by decide) (lkN (by decide) (lkN (by decide) (rfl))))) ?_
        refine xT_dup2 g_q205 g205_41 ?_
        refine xT_iaload g_q205 g205_42 hN5 (hm_at h (i := 5) rfl rfl) (ixN (n := 2) (by decide) rfl) (ixG (by decide) rfl) ?_
        refine xT_icV (y := nI (1)) g_q205 g205_43 (by decide) ?_
        refine xT_iaddV (y := nI (d + 1)) g_q205 g205_44 (bAddN _ _) ?_
        refine xT_iastore g_q205 g205_45 (hm_at h (i := 5) rfl rfl) (ixN (n := 2) (by decide) rfl) ?_
        rw [nI_clamp (by decide)]
        refine xT_aload g_q205 g205_46 (lkN (by decide) (lkN (by decide) (lkN (by decide) (lkY)))) ?_
        refine xT_iload g_q205 g205_48 (lkN (by decide) (lkN (by decide) (lkY))) ?_
        refine xT_iaload g_q205 g205_50 hD0 (hm_c g1_ cD) (ixN (n := 48) (by omega) nD) (ixG (by omega) k0) ?_
        refine xT_tableswitch g_q205 g205_51 (t := 436) (by decide) (by decide) (by decide) ?_
        refine xT_aload_n g_q205 g205_436 (lkN (by decide) (lkN (by decide) (lkN (by decide) (lkN (by decide) (rfl))))) ?_
        refine xT_iload_n g_q205 g205_437 (lkN (by decide) (lkN (by decide) (lkN (by decide) (lkN (by decide) (rfl))))) ?_
        refine xT_aload g_q205 g205_438 (lkN (by decide) (lkN (by decide) (lkN (by decide) (lkY)))) ?_
        refine xT_iload g_q205 g205_440 (lkN (by decide) (lkN (by decide) (lkY))) ?_
        refine xT_icV (y := nI (1)) g_q205 g205_442 (by decide) ?_
        refine xT_iaddV (y := nI (4 * l + 1)) g_q205 g205_443 (bAddN _ _) ?_
        refine xT_iaload g_q205 g205_444 hD0 (hm_c g1_ cD) (ixN (n := 48) (by omega) nD) (ixG (by omega) k1) ?_
        refine xT_iload_n g_q205 g205_445 (lkN (by decide) (lkN (by decide) (lkN (by decide) (lkN (by decide) (rfl))))) ?_
        refine xT_invokevirtual (r := []) (u := some (.inl ((n0_ (pLf p l))))) g_q205 g205_446 (j := 209) (so := 0) (by decide +kernel) g_q209 rfl (by rw [x_rcM hA0 (hm_at g1_ (i := 0) rfl rfl)]; rfl) (t209_0 (dp := dp + 1) hA0 hN1 hN2 hN3 hN4 hN5 hN6 hN7 hN8 hN9 hN10 hl0 hl1 hm0 hm1 hG hfo hwo hq hT hf0 g1_ (by omega)) ?_
        refine xT_aload_n g_q205 g205_449 (lkN (by decide) (lkN (by decide) (lkN (by decide) (lkN (by decide) (rfl))))) ?_
        refine xT_iload_n g_q205 g205_450 (lkN (by decide) (lkN (by decide) (lkN (by decide) (lkN (by decide) (rfl))))) ?_
        refine xT_aload g_q205 g205_451 (lkN (by decide) (lkN (by decide) (lkN (by decide) (lkY)))) ?_
        refine xT_iload g_q205 g205_453 (lkN (by decide) (lkN (by decide) (lkY))) ?_
        refine xT_icV (y := nI (2)) g_q205 g205_455 (by decide) ?_
        refine xT_iaddV (y := nI (4 * l + 2)) g_q205 g205_456 (bAddN _ _) ?_
        refine xT_iaload g_q205 g205_457 hD0 (hm_c g1_ cD) (ixN (n := 48) (by omega) nD) (ixG (by omega) k2) ?_
        refine xT_iload_n g_q205 g205_458 (lkN (by decide) (lkN (by decide) (lkN (by decide) (lkN (by decide) (rfl))))) ?_
        refine xT_invokevirtual (r := [.inl ((n0_ (pLf p l)))]) (u := some (.inl ((n0_ (pRt p l))))) g_q205 g205_459 (j := 209) (so := 0) (by decide +kernel) g_q209 rfl (by rw [x_rcM hA0 (hm_at g1_ (i := 0) rfl rfl)]; rfl) (t209_0 (dp := dp + 1) hA0 hN1 hN2 hN3 hN4 hN5 hN6 hN7 hN8 hN9 hN10 hl0 hl1 hm0 hm1 hG hfo hwo hq hT hf0 g1_ (by omega)) ?_
        refine xT_if_icmpN g_q205 g205_462 (t := 475) (by decide) (decide_eq_false (Int32.not_le.mpr hq_)) ?_
        refine xT_aload g_q205 g205_465 (lkN (by decide) (lkN (by decide) (lkN (by decide) (lkY)))) ?_
        refine xT_iload g_q205 g205_467 (lkN (by decide) (lkN (by decide) (lkY))) ?_
        refine xT_icV (y := nI (3)) g_q205 g205_469 (by decide) ?_
        refine xT_iaddV (y := nI (4 * l + 3)) g_q205 g205_470 (bAddN _ _) ?_
        refine xT_iaload g_q205 g205_471 hD0 (hm_c g1_ cD) (ixN (n := 48) (by omega) nD) (ixG (by omega) k3) ?_
        refine xT_goto g_q205 g205_472 (t := 477) (by decide) ?_
        refine xT_istore g_q205 g205_477 (by decide) ?_
        refine xT_goto g_q205 g205_479 (t := 577) (by decide) ?_
        exact y
      obtain ⟨H2, y, hh⟩ := key
      refine ⟨H2, y, ?_⟩
      rw [stM_7 (s := (n0_, l, x, d, (-1 : Int32), os, v0_)) hz, if_pos (show (n0_ (pLf p l)) < (n0_ (pRt p l)) from hq_)]
      exact ⟨_, _, _, _, _, _, _, _, hh, fun _ => rfl, hx1, hl0, hl1, ⟨hm0, hM0⟩, ⟨hm1, hM1⟩, hf0, hf1, hv0, hv1⟩
    · skip
      have key : ∃ H2, x_To x_tb x_tyl ot (dp + 3) 205 0 (x_en 0 [.inr (some (b)), .inl (nI (q)), .inl ((pYr p)), .inl (nI (0))]) [] H 0 0 none H2 ∧ hm H0 H2 [b, F0, F1, pc, tk, dn, en, W0, W1, ws, la] [.inl (12, gs), .inr (0, f0), .inr (0, f1), .inr (0, [.inl (nI (l + 1)), .inl (x1)]), .inr (0, [.inl (nI (x)), .inl (nI (rNx s1))]), .inr (0, [.inl (nI (d + 1)), .inl (nI (rDn s1))]), .inr (0, [.inl ((if pNl p ≤ l + 1 then 0 else if d + 1 = 150 then 2 else -1)), .inl (rEn s1)]), .inr (0, w0), .inr (0, w1), .inr (0, [.inl (nI (os)), .inl (nI (rOs s1))]), .inr (0, [.inl (h0), .inl (h1)])] := by
        have g1_ : hm H0 _ [b, F0, F1, pc, tk, dn, en, W0, W1, ws, la] [.inl (12, gs), .inr (0, f0), .inr (0, f1), .inr (0, [.inl (nI (l)), .inl (x1)]), .inr (0, [.inl (nI (x)), .inl (nI (rNx s1))]), .inr (0, [.inl (nI (d + 1)), .inl (nI (rDn s1))]), .inr (0, [.inl (-1), .inl (rEn s1)]), .inr (0, w0), .inr (0, w1), .inr (0, [.inl (nI (os)), .inl (nI (rOs s1))]), .inr (0, [.inl (h0), .inl (h1)])] := hm_set (i := 5) (z2 := .inr (0, ([.inl (nI (d)), .inl (nI (rDn s1))]).set (0) (.inl (nI (d + 1))))) h rfl
        obtain ⟨H2, y, hh⟩ := t205_e0 (dp := dp) (next := l + 1) (d := d) (L := x_st (x_st (x_st (x_st (x_st ((x_en 0 [.inr (some (b)), .inl (nI (q)), .inl ((pYr p)), .inl (nI (0))])) 4 (.inr (some (D)))) 5 (.inl (nI (4 * l)))) 6 (.inr (some (F0)))) 7 (.inl (nI (l + 1)))) 7 (.inl (nI (l + 1)))) hA0 hN1 hN2 hN3 hN4 hN5 hN6 hN7 hN8 hN9 hN10 hl0 hl1 hm0 hm1 hG hfo hwo hq hC h12 (by omega) (by omega) (lkN (by decide) (lkN (by decide) (lkN (by decide) (lkN (by decide) (lkN (by decide) (rfl)))))) (lkN (by decide) (lkN (by decide) (lkN (by decide) (lkN (by decide) (lkN (by decide) (rfl)))))) (lkN (by decide) (lkN (by decide) (lkN (by decide) (lkN (by decide) (lkN (by decide) (rfl)))))) (lkY) g1_
        refine ⟨H2, ?_, hh⟩
        refine xT_aload_n g_q205 g205_0 (rfl) ?_
        refine xT_getfield g_q205 g205_1 hA0 rfl (hm_at h (i := 0) rfl rfl) rfl g2 ?_
        refine xT_iload_n g_q205 g205_4 (rfl) ?_
        refine xT_aaload g_q205 g205_5 (by decide +kernel) (hm_c h ccd) (ixN (n := 13) (by omega) ncd) (ixG (by omega) ecd) ?_
        refine xT_astore g_q205 g205_6 (by decide) ?_
        refine xT_icV (y := nI (4)) g_q205 g205_8 (by decide) ?_
        refine xT_aload_n g_q205 g205_9 (lkN (by decide) (rfl)) ?_
        refine xT_getfield g_q205 g205_10 hA0 rfl (hm_at h (i := 0) rfl rfl) rfl g51 ?_
        refine xT_iload_n g_q205 g205_13 (lkN (by decide) (rfl)) ?_
        refine xT_iaload g_q205 g205_14 hN3 (hm_at h (i := 3) rfl rfl) (ixN (n := 2) (by decide) rfl) (ixG (by decide) rfl) ?_
        refine xT_imulV (y := nI (4 * l)) g_q205 g205_15 (bMulN _ _) ?_
        refine xT_istore g_q205 g205_16 (by decide) ?_
        refine xT_aload_n g_q205 g205_18 (lkN (by decide) (lkN (by decide) (rfl))) ?_
        refine xT_getfield g_q205 g205_19 hA0 rfl (hm_at h (i := 0) rfl rfl) rfl g50 ?_
        refine xT_iload_n g_q205 g205_22 (lkN (by decide) (lkN (by decide) (rfl))) ?_
        refine xT_aaload g_q205 g205_23 (by decide +kernel) (hm_c h cfo) (ixN (n := 2) (by decide) nfo) (ixG (by decide) efo0) ?_
        refine xT_astore g_q205 g205_24 (by decide) ?_
        refine xT_aload_n g_q205 g205_26 (lkN (by decide) (lkN (by decide) (lkN (by decide) (rfl)))) ?_
        refine xT_getfield g_q205 g205_27 hA0 rfl (hm_at h (i := 0) rfl rfl) rfl g51 ?_
        refine xT_iload_n g_q205 g205_30 (lkN (by decide) (lkN (by decide) (lkN (by decide) (rfl)))) ?_
        refine xT_iaload g_q205 g205_31 hN3 (hm_at h (i := 3) rfl rfl) (ixN (n := 2) (by decide) rfl) (ixG (by decide) rfl) ?_
        refine xT_icV (y := nI (1)) g_q205 g205_32 (by decide) ?_
        refine xT_iaddV (y := nI (l + 1)) g_q205 g205_33 (bAddN _ _) ?_
        refine xT_istore g_q205 g205_34 (by decide) ?_
        refine xT_aload_n g_q205 g205_36 (lkN (by decide) (lkN (by decide) (lkN (by decide) (lkN (by decide) (rfl))))) ?_
        refine xT_getfield g_q205 g205_37 hA0 rfl (hm_at h (i := 0) rfl rfl) rfl g53 ?_
        refine xT_iload_n g_q205 g205_40 (lkN (by decide) (lkN (by decide) (lkN (by decide) (lkN (by decide) (rfl))))) ?_
        refine xT_dup2 g_q205 g205_41 ?_
        refine xT_iaload g_q205 g205_42 hN5 (hm_at h (i := 5) rfl rfl) (ixN (n := 2) (by decide) rfl) (ixG (by decide) rfl) ?_
        refine xT_icV (y := nI (1)) g_q205 g205_43 (by decide) ?_
        refine xT_iaddV (y := nI (d + 1)) g_q205 g205_44 (bAddN _ _) ?_
        refine xT_iastore g_q205 g205_45 (hm_at h (i := 5) rfl rfl) (ixN (n := 2) (by decide) rfl) ?_
        rw [nI_clamp (by decide)]
        refine xT_aload g_q205 g205_46 (lkN (by decide) (lkN (by decide) (lkN (by decide) (lkY)))) ?_
        refine xT_iload g_q205 g205_48 (lkN (by decide) (lkN (by decide) (lkY))) ?_
        refine xT_iaload g_q205 g205_50 hD0 (hm_c g1_ cD) (ixN (n := 48) (by omega) nD) (ixG (by omega) k0) ?_
        refine xT_tableswitch g_q205 g205_51 (t := 436) (by decide) (by decide) (by decide) ?_
        refine xT_aload_n g_q205 g205_436 (lkN (by decide) (lkN (by decide) (lkN (by decide) (lkN (by decide) (rfl))))) ?_
        refine xT_iload_n g_q205 g205_437 (lkN (by decide) (lkN (by decide) (lkN (by decide) (lkN (by decide) (rfl))))) ?_
        refine xT_aload g_q205 g205_438 (lkN (by decide) (lkN (by decide) (lkN (by decide) (lkY)))) ?_
        refine xT_iload g_q205 g205_440 (lkN (by decide) (lkN (by decide) (lkY))) ?_
        refine xT_icV (y := nI (1)) g_q205 g205_442 (by decide) ?_
        refine xT_iaddV (y := nI (4 * l + 1)) g_q205 g205_443 (bAddN _ _) ?_
        refine xT_iaload g_q205 g205_444 hD0 (hm_c g1_ cD) (ixN (n := 48) (by omega) nD) (ixG (by omega) k1) ?_
        refine xT_iload_n g_q205 g205_445 (lkN (by decide) (lkN (by decide) (lkN (by decide) (lkN (by decide) (rfl))))) ?_
        refine xT_invokevirtual (r := []) (u := some (.inl ((n0_ (pLf p l))))) g_q205 g205_446 (j := 209) (so := 0) (by decide +kernel) g_q209 rfl (by rw [x_rcM hA0 (hm_at g1_ (i := 0) rfl rfl)]; rfl) (t209_0 (dp := dp + 1) hA0 hN1 hN2 hN3 hN4 hN5 hN6 hN7 hN8 hN9 hN10 hl0 hl1 hm0 hm1 hG hfo hwo hq hT hf0 g1_ (by omega)) ?_
        refine xT_aload_n g_q205 g205_449 (lkN (by decide) (lkN (by decide) (lkN (by decide) (lkN (by decide) (rfl))))) ?_
        refine xT_iload_n g_q205 g205_450 (lkN (by decide) (lkN (by decide) (lkN (by decide) (lkN (by decide) (rfl))))) ?_
        refine xT_aload g_q205 g205_451 (lkN (by decide) (lkN (by decide) (lkN (by decide) (lkY)))) ?_
        refine xT_iload g_q205 g205_453 (lkN (by decide) (lkN (by decide) (lkY))) ?_
        refine xT_icV (y := nI (2)) g_q205 g205_455 (by decide) ?_
        refine xT_iaddV (y := nI (4 * l + 2)) g_q205 g205_456 (bAddN _ _) ?_
        refine xT_iaload g_q205 g205_457 hD0 (hm_c g1_ cD) (ixN (n := 48) (by omega) nD) (ixG (by omega) k2) ?_
        refine xT_iload_n g_q205 g205_458 (lkN (by decide) (lkN (by decide) (lkN (by decide) (lkN (by decide) (rfl))))) ?_
        refine xT_invokevirtual (r := [.inl ((n0_ (pLf p l)))]) (u := some (.inl ((n0_ (pRt p l))))) g_q205 g205_459 (j := 209) (so := 0) (by decide +kernel) g_q209 rfl (by rw [x_rcM hA0 (hm_at g1_ (i := 0) rfl rfl)]; rfl) (t209_0 (dp := dp + 1) hA0 hN1 hN2 hN3 hN4 hN5 hN6 hN7 hN8 hN9 hN10 hl0 hl1 hm0 hm1 hG hfo hwo hq hT hf0 g1_ (by omega)) ?_
        refine xT_if_icmpY g_q205 g205_462 (t := 475) (by decide) (decide_eq_true (Int32.not_lt.mp hq_)) ?_
        refine xT_iload g_q205 g205_475 (lkY) ?_
        refine xT_istore g_q205 g205_477 (by decide) ?_
        refine xT_goto g_q205 g205_479 (t := 577) (by decide) ?_
        exact y
      obtain ⟨H2, y, hh⟩ := key
      refine ⟨H2, y, ?_⟩
      rw [stM_7 (s := (n0_, l, x, d, (-1 : Int32), os, v0_)) hz, if_neg (show ¬ ((n0_ (pLf p l)) < (n0_ (pRt p l))) from hq_)]
      exact ⟨_, _, _, _, _, _, _, _, hh, fun _ => rfl, hx1, hl0, hl1, ⟨hm0, hM0⟩, ⟨hm1, hM1⟩, hf0, hf1, hv0, hv1⟩
  · have hz : pOp p l = 8 := hz
    have k0 : lD[4 * l]? = some (.inl (nI 9)) := by
      rw [k0, hz]
      rfl
    have k1 := k1 (by omega) (by omega)
    have k3 := k3 (by omega)
    by_cases hq_ : pLp p (n0_ (pLf p l)) = true
    · skip
      have key : ∃ H2, x_To x_tb x_tyl ot (dp + 3) 205 0 (x_en 0 [.inr (some (b)), .inl (nI (q)), .inl ((pYr p)), .inl (nI (0))]) [] H 0 0 none H2 ∧ hm H0 H2 [b, F0, F1, pc, tk, dn, en, W0, W1, ws, la] [.inl (12, gs), .inr (0, f0), .inr (0, f1), .inr (0, [.inl (nI (pNm p l)), .inl (x1)]), .inr (0, [.inl (nI (x)), .inl (nI (rNx s1))]), .inr (0, [.inl (nI (d + 1)), .inl (nI (rDn s1))]), .inr (0, [.inl ((if pNl p ≤ pNm p l then 0 else if d + 1 = 150 then 2 else -1)), .inl (rEn s1)]), .inr (0, w0), .inr (0, w1), .inr (0, [.inl (nI (os)), .inl (nI (rOs s1))]), .inr (0, [.inl (h0), .inl (h1)])] := by
        have g1_ : hm H0 _ [b, F0, F1, pc, tk, dn, en, W0, W1, ws, la] [.inl (12, gs), .inr (0, f0), .inr (0, f1), .inr (0, [.inl (nI (l)), .inl (x1)]), .inr (0, [.inl (nI (x)), .inl (nI (rNx s1))]), .inr (0, [.inl (nI (d + 1)), .inl (nI (rDn s1))]), .inr (0, [.inl (-1), .inl (rEn s1)]), .inr (0, w0), .inr (0, w1), .inr (0, [.inl (nI (os)), .inl (nI (rOs s1))]), .inr (0, [.inl (h0), .inl (h1)])] := hm_set (i := 5) (z2 := .inr (0, ([.inl (nI (d)), .inl (nI (rDn s1))]).set (0) (.inl (nI (d + 1))))) h rfl
        obtain ⟨H2, y, hh⟩ := t205_e0 (dp := dp) (next := pNm p l) (d := d) (L := x_st (x_st (x_st (x_st (x_st ((x_en 0 [.inr (some (b)), .inl (nI (q)), .inl ((pYr p)), .inl (nI (0))])) 4 (.inr (some (D)))) 5 (.inl (nI (4 * l)))) 6 (.inr (some (F0)))) 7 (.inl (nI (l + 1)))) 7 (.inl (nI (pNm p l)))) hA0 hN1 hN2 hN3 hN4 hN5 hN6 hN7 hN8 hN9 hN10 hl0 hl1 hm0 hm1 hG hfo hwo hq hC h12 (by omega) (by omega) (lkN (by decide) (lkN (by decide) (lkN (by decide) (lkN (by decide) (lkN (by decide) (rfl)))))) (lkN (by decide) (lkN (by decide) (lkN (by decide) (lkN (by decide) (lkN (by decide) (rfl)))))) (lkN (by decide) (lkN (by decide) (lkN (by decide) (lkN (by decide) (lkN (by decide) (rfl)))))) (lkY) g1_
        refine ⟨H2, ?_, hh⟩
        refine xT_aload_n g_q205 g205_0 (rfl) ?_
        refine xT_getfield g_q205 g205_1 hA0 rfl (hm_at h (i := 0) rfl rfl) rfl g2 ?_
        refine xT_iload_n g_q205 g205_4 (rfl) ?_
        refine xT_aaload g_q205 g205_5 (by decide +kernel) (hm_c h ccd) (ixN (n := 13) (by omega) ncd) (ixG (by omega) ecd) ?_
        refine xT_astore g_q205 g205_6 (by decide) ?_
        refine xT_icV (y := nI (4)) g_q205 g205_8 (by decide) ?_
        refine xT_aload_n g_q205 g205_9 (lkN (by decide) (rfl)) ?_
        refine xT_getfield g_q205 g205_10 hA0 rfl (hm_at h (i := 0) rfl rfl) rfl g51 ?_
        refine xT_iload_n g_q205 g205_13 (lkN (by decide) (rfl)) ?_
        refine xT_iaload g_q205 g205_14 hN3 (hm_at h (i := 3) rfl rfl) (ixN (n := 2) (by decide) rfl) (ixG (by decide) rfl) ?_
        refine xT_imulV (y := nI (4 * l)) g_q205 g205_15 (bMulN _ _) ?_
        refine xT_istore g_q205 g205_16 (by decide) ?_
        refine xT_aload_n g_q205 g205_18 (lkN (by decide) (lkN (by decide) (rfl))) ?_
        refine xT_getfield g_q205 g205_19 hA0 rfl (hm_at h (i := 0) rfl rfl) rfl g50 ?_
        refine xT_iload_n g_q205 g205_22 (lkN (by decide) (lkN (by decide) (rfl))) ?_
        refine xT_aaload g_q205 g205_23 (by decide +kernel) (hm_c h cfo) (ixN (n := 2) (by decide) nfo) (ixG (by decide) efo0) ?_
        refine xT_astore g_q205 g205_24 (by decide) ?_
        refine xT_aload_n g_q205 g205_26 (lkN (by decide) (lkN (by decide) (lkN (by decide) (rfl)))) ?_
        refine xT_getfield g_q205 g205_27 hA0 rfl (hm_at h (i := 0) rfl rfl) rfl g51 ?_
        refine xT_iload_n g_q205 g205_30 (lkN (by decide) (lkN (by decide) (lkN (by decide) (rfl)))) ?_
        refine xT_iaload g_q205 g205_31 hN3 (hm_at h (i := 3) rfl rfl) (ixN (n := 2) (by decide) rfl) (ixG (by decide) rfl) ?_
        refine xT_icV (y := nI (1)) g_q205 g205_32 (by decide) ?_
        refine xT_iaddV (y := nI (l + 1)) g_q205 g205_33 (bAddN _ _) ?_
        refine xT_istore g_q205 g205_34 (by decide) ?_
        refine xT_aload_n g_q205 g205_36 (lkN (by decide) (lkN (by decide) (lkN (by decide) (lkN (by decide) (rfl))))) ?_
        refine xT_getfield g_q205 g205_37 hA0 rfl (hm_at h (i := 0) rfl rfl) rfl g53 ?_
        refine xT_iload_n g_q205 g205_40 (lkN (by decide) (lkN (by decide) (lkN (by decide) (lkN (by decide) (rfl))))) ?_
        refine xT_dup2 g_q205 g205_41 ?_
        refine xT_iaload g_q205 g205_42 hN5 (hm_at h (i := 5) rfl rfl) (ixN (n := 2) (by decide) rfl) (ixG (by decide) rfl) ?_
        refine xT_icV (y := nI (1)) g_q205 g205_43 (by decide) ?_
        refine xT_iaddV (y := nI (d + 1)) g_q205 g205_44 (bAddN _ _) ?_
        refine xT_iastore g_q205 g205_45 (hm_at h (i := 5) rfl rfl) (ixN (n := 2) (by decide) rfl) ?_
        rw [nI_clamp (by decide)]
        refine xT_aload g_q205 g205_46 (lkN (by decide) (lkN (by decide) (lkN (by decide) (lkY)))) ?_
        refine xT_iload g_q205 g205_48 (lkN (by decide) (lkN (by decide) (lkY))) ?_
        refine xT_iaload g_q205 g205_50 hD0 (hm_c g1_ cD) (ixN (n := 48) (by omega) nD) (ixG (by omega) k0) ?_
        refine xT_tableswitch g_q205 g205_51 (t := 528) (by decide) (by decide) (by decide) ?_
        refine xT_aload_n g_q205 g205_528 (lkN (by decide) (lkN (by decide) (lkN (by decide) (lkN (by decide) (rfl))))) ?_
        refine xT_iload_n g_q205 g205_529 (lkN (by decide) (lkN (by decide) (lkN (by decide) (lkN (by decide) (rfl))))) ?_
        refine xT_aload g_q205 g205_530 (lkN (by decide) (lkN (by decide) (lkN (by decide) (lkY)))) ?_
        refine xT_iload g_q205 g205_532 (lkN (by decide) (lkN (by decide) (lkY))) ?_
        refine xT_icV (y := nI (1)) g_q205 g205_534 (by decide) ?_
        refine xT_iaddV (y := nI (4 * l + 1)) g_q205 g205_535 (bAddN _ _) ?_
        refine xT_iaload g_q205 g205_536 hD0 (hm_c g1_ cD) (ixN (n := 48) (by omega) nD) (ixG (by omega) k1) ?_
        refine xT_iload_n g_q205 g205_537 (lkN (by decide) (lkN (by decide) (lkN (by decide) (lkN (by decide) (rfl))))) ?_
        refine xT_invokevirtual (r := []) (u := some (.inl ((nI (if pLp p (n0_ (pLf p l)) = true then 1 else 0))))) g_q205 g205_538 (j := 210) (so := 0) (by decide +kernel) g_q210 rfl (by rw [x_rcM hA0 (hm_at g1_ (i := 0) rfl rfl)]; rfl) (t210_0 (dp := dp) hA0 hN1 hN2 hN3 hN4 hN5 hN6 hN7 hN8 hN9 hN10 hl0 hl1 hm0 hm1 hG hfo hwo hq hT hf0 g1_ (by omega)) ?_
        refine xT_ifCondN g_q205 g205_541 (t := 554) (by decide) ((by rw [if_pos hq_]; decide +kernel)) ?_
        refine xT_aload g_q205 g205_544 (lkN (by decide) (lkN (by decide) (lkN (by decide) (lkY)))) ?_
        refine xT_iload g_q205 g205_546 (lkN (by decide) (lkN (by decide) (lkY))) ?_
        refine xT_icV (y := nI (3)) g_q205 g205_548 (by decide) ?_
        refine xT_iaddV (y := nI (4 * l + 3)) g_q205 g205_549 (bAddN _ _) ?_
        refine xT_iaload g_q205 g205_550 hD0 (hm_c g1_ cD) (ixN (n := 48) (by omega) nD) (ixG (by omega) k3) ?_
        refine xT_goto g_q205 g205_551 (t := 556) (by decide) ?_
        refine xT_istore g_q205 g205_556 (by decide) ?_
        refine xT_goto g_q205 g205_558 (t := 577) (by decide) ?_
        exact y
      obtain ⟨H2, y, hh⟩ := key
      refine ⟨H2, y, ?_⟩
      rw [stM_8 (s := (n0_, l, x, d, (-1 : Int32), os, v0_)) hz, if_pos (show pLp p (n0_ (pLf p l)) = true from hq_)]
      exact ⟨_, _, _, _, _, _, _, _, hh, fun _ => rfl, hx1, hl0, hl1, ⟨hm0, hM0⟩, ⟨hm1, hM1⟩, hf0, hf1, hv0, hv1⟩
    · skip
      have key : ∃ H2, x_To x_tb x_tyl ot (dp + 3) 205 0 (x_en 0 [.inr (some (b)), .inl (nI (q)), .inl ((pYr p)), .inl (nI (0))]) [] H 0 0 none H2 ∧ hm H0 H2 [b, F0, F1, pc, tk, dn, en, W0, W1, ws, la] [.inl (12, gs), .inr (0, f0), .inr (0, f1), .inr (0, [.inl (nI (l + 1)), .inl (x1)]), .inr (0, [.inl (nI (x)), .inl (nI (rNx s1))]), .inr (0, [.inl (nI (d + 1)), .inl (nI (rDn s1))]), .inr (0, [.inl ((if pNl p ≤ l + 1 then 0 else if d + 1 = 150 then 2 else -1)), .inl (rEn s1)]), .inr (0, w0), .inr (0, w1), .inr (0, [.inl (nI (os)), .inl (nI (rOs s1))]), .inr (0, [.inl (h0), .inl (h1)])] := by
        have g1_ : hm H0 _ [b, F0, F1, pc, tk, dn, en, W0, W1, ws, la] [.inl (12, gs), .inr (0, f0), .inr (0, f1), .inr (0, [.inl (nI (l)), .inl (x1)]), .inr (0, [.inl (nI (x)), .inl (nI (rNx s1))]), .inr (0, [.inl (nI (d + 1)), .inl (nI (rDn s1))]), .inr (0, [.inl (-1), .inl (rEn s1)]), .inr (0, w0), .inr (0, w1), .inr (0, [.inl (nI (os)), .inl (nI (rOs s1))]), .inr (0, [.inl (h0), .inl (h1)])] := hm_set (i := 5) (z2 := .inr (0, ([.inl (nI (d)), .inl (nI (rDn s1))]).set (0) (.inl (nI (d + 1))))) h rfl
        obtain ⟨H2, y, hh⟩ := t205_e0 (dp := dp) (next := l + 1) (d := d) (L := x_st (x_st (x_st (x_st (x_st ((x_en 0 [.inr (some (b)), .inl (nI (q)), .inl ((pYr p)), .inl (nI (0))])) 4 (.inr (some (D)))) 5 (.inl (nI (4 * l)))) 6 (.inr (some (F0)))) 7 (.inl (nI (l + 1)))) 7 (.inl (nI (l + 1)))) hA0 hN1 hN2 hN3 hN4 hN5 hN6 hN7 hN8 hN9 hN10 hl0 hl1 hm0 hm1 hG hfo hwo hq hC h12 (by omega) (by omega) (lkN (by decide) (lkN (by decide) (lkN (by decide) (lkN (by decide) (lkN (by decide) (rfl)))))) (lkN (by decide) (lkN (by decide) (lkN (by decide) (lkN (by decide) (lkN (by decide) (rfl)))))) (lkN (by decide) (lkN (by decide) (lkN (by decide) (lkN (by decide) (lkN (by decide) (rfl)))))) (lkY) g1_
        refine ⟨H2, ?_, hh⟩
        refine xT_aload_n g_q205 g205_0 (rfl) ?_
        refine xT_getfield g_q205 g205_1 hA0 rfl (hm_at h (i := 0) rfl rfl) rfl g2 ?_
        refine xT_iload_n g_q205 g205_4 (rfl) ?_
        refine xT_aaload g_q205 g205_5 (by decide +kernel) (hm_c h ccd) (ixN (n := 13) (by omega) ncd) (ixG (by omega) ecd) ?_
        refine xT_astore g_q205 g205_6 (by decide) ?_
        refine xT_icV (y := nI (4)) g_q205 g205_8 (by decide) ?_
        refine xT_aload_n g_q205 g205_9 (lkN (by decide) (rfl)) ?_
        refine xT_getfield g_q205 g205_10 hA0 rfl (hm_at h (i := 0) rfl rfl) rfl g51 ?_
        refine xT_iload_n g_q205 g205_13 (lkN (by decide) (rfl)) ?_
        refine xT_iaload g_q205 g205_14 hN3 (hm_at h (i := 3) rfl rfl) (ixN (n := 2) (by decide) rfl) (ixG (by decide) rfl) ?_
        refine xT_imulV (y := nI (4 * l)) g_q205 g205_15 (bMulN _ _) ?_
        refine xT_istore g_q205 g205_16 (by decide) ?_
        refine xT_aload_n g_q205 g205_18 (lkN (by decide) (lkN (by decide) (rfl))) ?_
        refine xT_getfield g_q205 g205_19 hA0 rfl (hm_at h (i := 0) rfl rfl) rfl g50 ?_
        refine xT_iload_n g_q205 g205_22 (lkN (by decide) (lkN (by decide) (rfl))) ?_
        refine xT_aaload g_q205 g205_23 (by decide +kernel) (hm_c h cfo) (ixN (n := 2) (by decide) nfo) (ixG (by decide) efo0) ?_
        refine xT_astore g_q205 g205_24 (by decide) ?_
        refine xT_aload_n g_q205 g205_26 (lkN (by decide) (lkN (by decide) (lkN (by decide) (rfl)))) ?_
        refine xT_getfield g_q205 g205_27 hA0 rfl (hm_at h (i := 0) rfl rfl) rfl g51 ?_
        refine xT_iload_n g_q205 g205_30 (lkN (by decide) (lkN (by decide) (lkN (by decide) (rfl)))) ?_
        refine xT_iaload g_q205 g205_31 hN3 (hm_at h (i := 3) rfl rfl) (ixN (n := 2) (by decide) rfl) (ixG (by decide) rfl) ?_
        refine xT_icV (y := nI (1)) g_q205 g205_32 (by decide) ?_
        refine xT_iaddV (y := nI (l + 1)) g_q205 g205_33 (bAddN _ _) ?_
        refine xT_istore g_q205 g205_34 (by decide) ?_
        refine xT_aload_n g_q205 g205_36 (lkN (by decide) (lkN (by decide) (lkN (by decide) (lkN (by decide) (rfl))))) ?_
        refine xT_getfield g_q205 g205_37 hA0 rfl (hm_at h (i := 0) rfl rfl) rfl g53 ?_
        refine xT_iload_n g_q205 g205_40 (lkN (by decide) (lkN (by decide) (lkN (by decide) (lkN (by decide) (rfl))))) ?_
        refine xT_dup2 g_q205 g205_41 ?_
        refine xT_iaload g_q205 g205_42 hN5 (hm_at h (i := 5) rfl rfl) (ixN (n := 2) (by decide) rfl) (ixG (by decide) rfl) ?_
        refine xT_icV (y := nI (1)) g_q205 g205_43 (by decide) ?_
        refine xT_iaddV (y := nI (d + 1)) g_q205 g205_44 (bAddN _ _) ?_
        refine xT_iastore g_q205 g205_45 (hm_at h (i := 5) rfl rfl) (ixN (n := 2) (by decide) rfl) ?_
        rw [nI_clamp (by decide)]
        refine xT_aload g_q205 g205_46 (lkN (by decide) (lkN (by decide) (lkN (by decide) (lkY)))) ?_
        refine xT_iload g_q205 g205_48 (lkN (by decide) (lkN (by decide) (lkY))) ?_
        refine xT_iaload g_q205 g205_50 hD0 (hm_c g1_ cD) (ixN (n := 48) (by omega) nD) (ixG (by omega) k0) ?_
        refine xT_tableswitch g_q205 g205_51 (t := 528) (by decide) (by decide) (by decide) ?_
        refine xT_aload_n g_q205 g205_528 (lkN (by decide) (lkN (by decide) (lkN (by decide) (lkN (by decide) (rfl))))) ?_
        refine xT_iload_n g_q205 g205_529 (lkN (by decide) (lkN (by decide) (lkN (by decide) (lkN (by decide) (rfl))))) ?_
        refine xT_aload g_q205 g205_530 (lkN (by decide) (lkN (by decide) (lkN (by decide) (lkY)))) ?_
        refine xT_iload g_q205 g205_532 (lkN (by decide) (lkN (by decide) (lkY))) ?_
        refine xT_icV (y := nI (1)) g_q205 g205_534 (by decide) ?_
        refine xT_iaddV (y := nI (4 * l + 1)) g_q205 g205_535 (bAddN _ _) ?_
        refine xT_iaload g_q205 g205_536 hD0 (hm_c g1_ cD) (ixN (n := 48) (by omega) nD) (ixG (by omega) k1) ?_
        refine xT_iload_n g_q205 g205_537 (lkN (by decide) (lkN (by decide) (lkN (by decide) (lkN (by decide) (rfl))))) ?_
        refine xT_invokevirtual (r := []) (u := some (.inl ((nI (if pLp p (n0_ (pLf p l)) = true then 1 else 0))))) g_q205 g205_538 (j := 210) (so := 0) (by decide +kernel) g_q210 rfl (by rw [x_rcM hA0 (hm_at g1_ (i := 0) rfl rfl)]; rfl) (t210_0 (dp := dp) hA0 hN1 hN2 hN3 hN4 hN5 hN6 hN7 hN8 hN9 hN10 hl0 hl1 hm0 hm1 hG hfo hwo hq hT hf0 g1_ (by omega)) ?_
        refine xT_ifCondY g_q205 g205_541 (t := 554) (by decide) ((by rw [if_neg hq_]; decide +kernel)) ?_
        refine xT_iload g_q205 g205_554 (lkY) ?_
        refine xT_istore g_q205 g205_556 (by decide) ?_
        refine xT_goto g_q205 g205_558 (t := 577) (by decide) ?_
        exact y
      obtain ⟨H2, y, hh⟩ := key
      refine ⟨H2, y, ?_⟩
      rw [stM_8 (s := (n0_, l, x, d, (-1 : Int32), os, v0_)) hz, if_neg (show ¬ (pLp p (n0_ (pLf p l)) = true) from hq_)]
      exact ⟨_, _, _, _, _, _, _, _, hh, fun _ => rfl, hx1, hl0, hl1, ⟨hm0, hM0⟩, ⟨hm1, hM1⟩, hf0, hf1, hv0, hv1⟩
  · have hz : pOp p l = 9 := hz
    have k0 : lD[4 * l]? = some (.inl (nI 10)) := by
      rw [k0, hz]
      rfl
    have k3 := k3 (by omega)
    have key : ∃ H2, x_To x_tb x_tyl ot (dp + 3) 205 0 (x_en 0 [.inr (some (b)), .inl (nI (q)), .inl ((pYr p)), .inl (nI (0))]) [] H 0 0 none H2 ∧ hm H0 H2 [b, F0, F1, pc, tk, dn, en, W0, W1, ws, la] [.inl (12, gs), .inr (0, f0), .inr (0, f1), .inr (0, [.inl (nI (pNm p l)), .inl (x1)]), .inr (0, [.inl (nI (x)), .inl (nI (rNx s1))]), .inr (0, [.inl (nI (d + 1)), .inl (nI (rDn s1))]), .inr (0, [.inl ((if pNl p ≤ pNm p l then 0 else if d + 1 = 150 then 2 else -1)), .inl (rEn s1)]), .inr (0, w0), .inr (0, w1), .inr (0, [.inl (nI (os)), .inl (nI (rOs s1))]), .inr (0, [.inl (h0), .inl (h1)])] := by
      have g1_ : hm H0 _ [b, F0, F1, pc, tk, dn, en, W0, W1, ws, la] [.inl (12, gs), .inr (0, f0), .inr (0, f1), .inr (0, [.inl (nI (l)), .inl (x1)]), .inr (0, [.inl (nI (x)), .inl (nI (rNx s1))]), .inr (0, [.inl (nI (d + 1)), .inl (nI (rDn s1))]), .inr (0, [.inl (-1), .inl (rEn s1)]), .inr (0, w0), .inr (0, w1), .inr (0, [.inl (nI (os)), .inl (nI (rOs s1))]), .inr (0, [.inl (h0), .inl (h1)])] := hm_set (i := 5) (z2 := .inr (0, ([.inl (nI (d)), .inl (nI (rDn s1))]).set (0) (.inl (nI (d + 1))))) h rfl
      obtain ⟨H2, y, hh⟩ := t205_e0 (dp := dp) (next := pNm p l) (d := d) (L := x_st (x_st (x_st (x_st (x_st ((x_en 0 [.inr (some (b)), .inl (nI (q)), .inl ((pYr p)), .inl (nI (0))])) 4 (.inr (some (D)))) 5 (.inl (nI (4 * l)))) 6 (.inr (some (F0)))) 7 (.inl (nI (l + 1)))) 7 (.inl (nI (pNm p l)))) hA0 hN1 hN2 hN3 hN4 hN5 hN6 hN7 hN8 hN9 hN10 hl0 hl1 hm0 hm1 hG hfo hwo hq hC h12 (by omega) (by omega) (lkN (by decide) (lkN (by decide) (lkN (by decide) (lkN (by decide) (lkN (by decide) (rfl)))))) (lkN (by decide) (lkN (by decide) (lkN (by decide) (lkN (by decide) (lkN (by decide) (rfl)))))) (lkN (by decide) (lkN (by decide) (lkN (by decide) (lkN (by decide) (lkN (by decide) (rfl)))))) (lkY) g1_
      refine ⟨H2, ?_, hh⟩
      refine xT_aload_n g_q205 g205_0 (rfl) ?_
      refine xT_getfield g_q205 g205_1 hA0 rfl (hm_at h (i := 0) rfl rfl) rfl g2 ?_
      refine xT_iload_n g_q205 g205_4 (rfl) ?_
      refine xT_aaload g_q205 g205_5 (by decide +kernel) (hm_c h ccd) (ixN (n := 13) (by omega) ncd) (ixG (by omega) ecd) ?_
      refine xT_astore g_q205 g205_6 (by decide) ?_
      refine xT_icV (y := nI (4)) g_q205 g205_8 (by decide) ?_
      refine xT_aload_n g_q205 g205_9 (lkN (by decide) (rfl)) ?_
      refine xT_getfield g_q205 g205_10 hA0 rfl (hm_at h (i := 0) rfl rfl) rfl g51 ?_
      refine xT_iload_n g_q205 g205_13 (lkN (by decide) (rfl)) ?_
      refine xT_iaload g_q205 g205_14 hN3 (hm_at h (i := 3) rfl rfl) (ixN (n := 2) (by decide) rfl) (ixG (by decide) rfl) ?_
      refine xT_imulV (y := nI (4 * l)) g_q205 g205_15 (bMulN _ _) ?_
      refine xT_istore g_q205 g205_16 (by decide) ?_
      refine xT_aload_n g_q205 g205_18 (lkN (by decide) (lkN (by decide) (rfl))) ?_
      refine xT_getfield g_q205 g205_19 hA0 rfl (hm_at h (i := 0) rfl rfl) rfl g50 ?_
      refine xT_iload_n g_q205 g205_22 (lkN (by decide) (lkN (by decide) (rfl))) ?_
      refine xT_aaload g_q205 g205_23 (by decide +kernel) (hm_c h cfo) (ixN (n := 2) (by decide) nfo) (ixG (by decide) efo0) ?_
      refine xT_astore g_q205 g205_24 (by decide) ?_
      refine xT_aload_n g_q205 g205_26 (lkN (by decide) (lkN (by decide) (lkN (by decide) (rfl)))) ?_
      refine xT_getfield g_q205 g205_27 hA0 rfl (hm_at h (i := 0) rfl rfl) rfl g51 ?_
      refine xT_iload_n g_q205 g205_30 (lkN (by decide) (lkN (by decide) (lkN (by decide) (rfl)))) ?_
      refine xT_iaload g_q205 g205_31 hN3 (hm_at h (i := 3) rfl rfl) (ixN (n := 2) (by decide) rfl) (ixG (by decide) rfl) ?_
      refine xT_icV (y := nI (1)) g_q205 g205_32 (by decide) ?_
      refine xT_iaddV (y := nI (l + 1)) g_q205 g205_33 (bAddN _ _) ?_
      refine xT_istore g_q205 g205_34 (by decide) ?_
      refine xT_aload_n g_q205 g205_36 (lkN (by decide) (lkN (by decide) (lkN (by decide) (lkN (by decide) (rfl))))) ?_
      refine xT_getfield g_q205 g205_37 hA0 rfl (hm_at h (i := 0) rfl rfl) rfl g53 ?_
      refine xT_iload_n g_q205 g205_40 (lkN (by decide) (lkN (by decide) (lkN (by decide) (lkN (by decide) (rfl))))) ?_
      refine xT_dup2 g_q205 g205_41 ?_
      refine xT_iaload g_q205 g205_42 hN5 (hm_at h (i := 5) rfl rfl) (ixN (n := 2) (by decide) rfl) (ixG (by decide) rfl) ?_
      refine xT_icV (y := nI (1)) g_q205 g205_43 (by decide) ?_
      refine xT_iaddV (y := nI (d + 1)) g_q205 g205_44 (bAddN _ _) ?_
      refine xT_iastore g_q205 g205_45 (hm_at h (i := 5) rfl rfl) (ixN (n := 2) (by decide) rfl) ?_
      rw [nI_clamp (by decide)]
      refine xT_aload g_q205 g205_46 (lkN (by decide) (lkN (by decide) (lkN (by decide) (lkY)))) ?_
      refine xT_iload g_q205 g205_48 (lkN (by decide) (lkN (by decide) (lkY))) ?_
      refine xT_iaload g_q205 g205_50 hD0 (hm_c g1_ cD) (ixN (n := 48) (by omega) nD) (ixG (by omega) k0) ?_
      refine xT_tableswitch g_q205 g205_51 (t := 561) (by decide) (by decide) (by decide) ?_
      refine xT_aload g_q205 g205_561 (lkN (by decide) (lkN (by decide) (lkN (by decide) (lkY)))) ?_
      refine xT_iload g_q205 g205_563 (lkN (by decide) (lkN (by decide) (lkY))) ?_
      refine xT_icV (y := nI (3)) g_q205 g205_565 (by decide) ?_
      refine xT_iaddV (y := nI (4 * l + 3)) g_q205 g205_566 (bAddN _ _) ?_
      refine xT_iaload g_q205 g205_567 hD0 (hm_c g1_ cD) (ixN (n := 48) (by omega) nD) (ixG (by omega) k3) ?_
      refine xT_istore g_q205 g205_568 (by decide) ?_
      refine xT_goto g_q205 g205_570 (t := 577) (by decide) ?_
      exact y
    obtain ⟨H2, y, hh⟩ := key
    refine ⟨H2, y, ?_⟩
    rw [stM_9 (s := (n0_, l, x, d, (-1 : Int32), os, v0_)) hz]
    exact ⟨_, _, _, _, _, _, _, _, hh, fun _ => rfl, hx1, hl0, hl1, ⟨hm0, hM0⟩, ⟨hm1, hM1⟩, hf0, hf1, hv0, hv1⟩
  · have hz : pOp p l = 10 := hz
    have k0 : lD[4 * l]? = some (.inl (nI 11)) := by
      rw [k0, hz]
      rfl
    have key : ∃ H2, x_To x_tb x_tyl ot (dp + 3) 205 0 (x_en 0 [.inr (some (b)), .inl (nI (q)), .inl ((pYr p)), .inl (nI (0))]) [] H 0 0 none H2 ∧ hm H0 H2 [b, F0, F1, pc, tk, dn, en, W0, W1, ws, la] [.inl (12, gs), .inr (0, f0), .inr (0, f1), .inr (0, [.inl (nI (12)), .inl (x1)]), .inr (0, [.inl (nI (x)), .inl (nI (rNx s1))]), .inr (0, [.inl (nI (d + 1)), .inl (nI (rDn s1))]), .inr (0, [.inl ((if pNl p ≤ 12 then 0 else if d + 1 = 150 then 2 else -1)), .inl (rEn s1)]), .inr (0, w0), .inr (0, w1), .inr (0, [.inl (nI (os)), .inl (nI (rOs s1))]), .inr (0, [.inl (h0), .inl (h1)])] := by
      have g1_ : hm H0 _ [b, F0, F1, pc, tk, dn, en, W0, W1, ws, la] [.inl (12, gs), .inr (0, f0), .inr (0, f1), .inr (0, [.inl (nI (l)), .inl (x1)]), .inr (0, [.inl (nI (x)), .inl (nI (rNx s1))]), .inr (0, [.inl (nI (d + 1)), .inl (nI (rDn s1))]), .inr (0, [.inl (-1), .inl (rEn s1)]), .inr (0, w0), .inr (0, w1), .inr (0, [.inl (nI (os)), .inl (nI (rOs s1))]), .inr (0, [.inl (h0), .inl (h1)])] := hm_set (i := 5) (z2 := .inr (0, ([.inl (nI (d)), .inl (nI (rDn s1))]).set (0) (.inl (nI (d + 1))))) h rfl
      obtain ⟨H2, y, hh⟩ := t205_e0 (dp := dp) (next := 12) (d := d) (L := x_st (x_st (x_st (x_st (x_st ((x_en 0 [.inr (some (b)), .inl (nI (q)), .inl ((pYr p)), .inl (nI (0))])) 4 (.inr (some (D)))) 5 (.inl (nI (4 * l)))) 6 (.inr (some (F0)))) 7 (.inl (nI (l + 1)))) 7 (.inl (nI (12)))) hA0 hN1 hN2 hN3 hN4 hN5 hN6 hN7 hN8 hN9 hN10 hl0 hl1 hm0 hm1 hG hfo hwo hq hC h12 (by omega) (by omega) (lkN (by decide) (lkN (by decide) (lkN (by decide) (lkN (by decide) (lkN (by decide) (rfl)))))) (lkN (by decide) (lkN (by decide) (lkN (by decide) (lkN (by decide) (lkN (by decide) (rfl)))))) (lkN (by decide) (lkN (by decide) (lkN (by decide) (lkN (by decide) (lkN (by decide) (rfl)))))) (lkY) g1_
      refine ⟨H2, ?_, hh⟩
      refine xT_aload_n g_q205 g205_0 (rfl) ?_
      refine xT_getfield g_q205 g205_1 hA0 rfl (hm_at h (i := 0) rfl rfl) rfl g2 ?_
      refine xT_iload_n g_q205 g205_4 (rfl) ?_
      refine xT_aaload g_q205 g205_5 (by decide +kernel) (hm_c h ccd) (ixN (n := 13) (by omega) ncd) (ixG (by omega) ecd) ?_
      refine xT_astore g_q205 g205_6 (by decide) ?_
      refine xT_icV (y := nI (4)) g_q205 g205_8 (by decide) ?_
      refine xT_aload_n g_q205 g205_9 (lkN (by decide) (rfl)) ?_
      refine xT_getfield g_q205 g205_10 hA0 rfl (hm_at h (i := 0) rfl rfl) rfl g51 ?_
      refine xT_iload_n g_q205 g205_13 (lkN (by decide) (rfl)) ?_
      refine xT_iaload g_q205 g205_14 hN3 (hm_at h (i := 3) rfl rfl) (ixN (n := 2) (by decide) rfl) (ixG (by decide) rfl) ?_
      refine xT_imulV (y := nI (4 * l)) g_q205 g205_15 (bMulN _ _) ?_
      refine xT_istore g_q205 g205_16 (by decide) ?_
      refine xT_aload_n g_q205 g205_18 (lkN (by decide) (lkN (by decide) (rfl))) ?_
      refine xT_getfield g_q205 g205_19 hA0 rfl (hm_at h (i := 0) rfl rfl) rfl g50 ?_
      refine xT_iload_n g_q205 g205_22 (lkN (by decide) (lkN (by decide) (rfl))) ?_
      refine xT_aaload g_q205 g205_23 (by decide +kernel) (hm_c h cfo) (ixN (n := 2) (by decide) nfo) (ixG (by decide) efo0) ?_
      refine xT_astore g_q205 g205_24 (by decide) ?_
      refine xT_aload_n g_q205 g205_26 (lkN (by decide) (lkN (by decide) (lkN (by decide) (rfl)))) ?_
      refine xT_getfield g_q205 g205_27 hA0 rfl (hm_at h (i := 0) rfl rfl) rfl g51 ?_
      refine xT_iload_n g_q205 g205_30 (lkN (by decide) (lkN (by decide) (lkN (by decide) (rfl)))) ?_
      refine xT_iaload g_q205 g205_31 hN3 (hm_at h (i := 3) rfl rfl) (ixN (n := 2) (by decide) rfl) (ixG (by decide) rfl) ?_
      refine xT_icV (y := nI (1)) g_q205 g205_32 (by decide) ?_
      refine xT_iaddV (y := nI (l + 1)) g_q205 g205_33 (bAddN _ _) ?_
      refine xT_istore g_q205 g205_34 (by decide) ?_
      refine xT_aload_n g_q205 g205_36 (lkN (by decide) (lkN (by decide) (lkN (by decide) (lkN (by decide) (rfl))))) ?_
      refine xT_getfield g_q205 g205_37 hA0 rfl (hm_at h (i := 0) rfl rfl) rfl g53 ?_
      refine xT_iload_n g_q205 g205_40 (lkN (by decide) (lkN (by decide) (lkN (by decide) (lkN (by decide) (rfl))))) ?_
      refine xT_dup2 g_q205 g205_41 ?_
      refine xT_iaload g_q205 g205_42 hN5 (hm_at h (i := 5) rfl rfl) (ixN (n := 2) (by decide) rfl) (ixG (by decide) rfl) ?_
      refine xT_icV (y := nI (1)) g_q205 g205_43 (by decide) ?_
      refine xT_iaddV (y := nI (d + 1)) g_q205 g205_44 (bAddN _ _) ?_
      refine xT_iastore g_q205 g205_45 (hm_at h (i := 5) rfl rfl) (ixN (n := 2) (by decide) rfl) ?_
      rw [nI_clamp (by decide)]
      refine xT_aload g_q205 g205_46 (lkN (by decide) (lkN (by decide) (lkN (by decide) (lkY)))) ?_
      refine xT_iload g_q205 g205_48 (lkN (by decide) (lkN (by decide) (lkY))) ?_
      refine xT_iaload g_q205 g205_50 hD0 (hm_c g1_ cD) (ixN (n := 48) (by omega) nD) (ixG (by omega) k0) ?_
      refine xT_tableswitch g_q205 g205_51 (t := 573) (by decide) (by decide) (by decide) ?_
      refine xT_biV (y := nI (12)) g_q205 g205_573 (by decide) ?_
      refine xT_istore g_q205 g205_575 (by decide) ?_
      exact y
    obtain ⟨H2, y, hh⟩ := key
    refine ⟨H2, y, ?_⟩
    rw [stM_10 (s := (n0_, l, x, d, (-1 : Int32), os, v0_)) hz]
    exact ⟨_, _, _, _, _, _, _, _, hh, fun _ => rfl, hx1, hl0, hl1, ⟨hm0, hM0⟩, ⟨hm1, hM1⟩, hf0, hf1, hv0, hv1⟩
  · have hz : pOp p l = 11 := hz
    have k0 : lD[4 * l]? = some (.inl (nI 8)) := by
      rw [k0, hz]
      rfl
    have k1 := k1 (by omega) (by omega)
    have k2 := k2 (by omega)
    have k3 := k3 (by omega)
    by_cases hq_ : (n0_ (pLf p l)) = (n0_ (pRt p l))
    · skip
      have key : ∃ H2, x_To x_tb x_tyl ot (dp + 3) 205 0 (x_en 0 [.inr (some (b)), .inl (nI (q)), .inl ((pYr p)), .inl (nI (0))]) [] H 0 0 none H2 ∧ hm H0 H2 [b, F0, F1, pc, tk, dn, en, W0, W1, ws, la] [.inl (12, gs), .inr (0, f0), .inr (0, f1), .inr (0, [.inl (nI (pNm p l)), .inl (x1)]), .inr (0, [.inl (nI (x)), .inl (nI (rNx s1))]), .inr (0, [.inl (nI (d + 1)), .inl (nI (rDn s1))]), .inr (0, [.inl ((if pNl p ≤ pNm p l then 0 else if d + 1 = 150 then 2 else -1)), .inl (rEn s1)]), .inr (0, w0), .inr (0, w1), .inr (0, [.inl (nI (os)), .inl (nI (rOs s1))]), .inr (0, [.inl (h0), .inl (h1)])] := by
        have g1_ : hm H0 _ [b, F0, F1, pc, tk, dn, en, W0, W1, ws, la] [.inl (12, gs), .inr (0, f0), .inr (0, f1), .inr (0, [.inl (nI (l)), .inl (x1)]), .inr (0, [.inl (nI (x)), .inl (nI (rNx s1))]), .inr (0, [.inl (nI (d + 1)), .inl (nI (rDn s1))]), .inr (0, [.inl (-1), .inl (rEn s1)]), .inr (0, w0), .inr (0, w1), .inr (0, [.inl (nI (os)), .inl (nI (rOs s1))]), .inr (0, [.inl (h0), .inl (h1)])] := hm_set (i := 5) (z2 := .inr (0, ([.inl (nI (d)), .inl (nI (rDn s1))]).set (0) (.inl (nI (d + 1))))) h rfl
        obtain ⟨H2, y, hh⟩ := t205_e0 (dp := dp) (next := pNm p l) (d := d) (L := x_st (x_st (x_st (x_st (x_st ((x_en 0 [.inr (some (b)), .inl (nI (q)), .inl ((pYr p)), .inl (nI (0))])) 4 (.inr (some (D)))) 5 (.inl (nI (4 * l)))) 6 (.inr (some (F0)))) 7 (.inl (nI (l + 1)))) 7 (.inl (nI (pNm p l)))) hA0 hN1 hN2 hN3 hN4 hN5 hN6 hN7 hN8 hN9 hN10 hl0 hl1 hm0 hm1 hG hfo hwo hq hC h12 (by omega) (by omega) (lkN (by decide) (lkN (by decide) (lkN (by decide) (lkN (by decide) (lkN (by decide) (rfl)))))) (lkN (by decide) (lkN (by decide) (lkN (by decide) (lkN (by decide) (lkN (by decide) (rfl)))))) (lkN (by decide) (lkN (by decide) (lkN (by decide) (lkN (by decide) (lkN (by decide) (rfl)))))) (lkY) g1_
        refine ⟨H2, ?_, hh⟩
        refine xT_aload_n g_q205 g205_0 (rfl) ?_
        refine xT_getfield g_q205 g205_1 hA0 rfl (hm_at h (i := 0) rfl rfl) rfl g2 ?_
        refine xT_iload_n g_q205 g205_4 (rfl) ?_
        refine xT_aaload g_q205 g205_5 (by decide +kernel) (hm_c h ccd) (ixN (n := 13) (by omega) ncd) (ixG (by omega) ecd) ?_
        refine xT_astore g_q205 g205_6 (by decide) ?_
        refine xT_icV (y := nI (4)) g_q205 g205_8 (by decide) ?_
        refine xT_aload_n g_q205 g205_9 (lkN (by decide) (rfl)) ?_
        refine xT_getfield g_q205 g205_10 hA0 rfl (hm_at h (i := 0) rfl rfl) rfl g51 ?_
        refine xT_iload_n g_q205 g205_13 (lkN (by decide) (rfl)) ?_
        refine xT_iaload g_q205 g205_14 hN3 (hm_at h (i := 3) rfl rfl) (ixN (n := 2) (by decide) rfl) (ixG (by decide) rfl) ?_
        refine xT_imulV (y := nI (4 * l)) g_q205 g205_15 (bMulN _ _) ?_
        refine xT_istore g_q205 g205_16 (by decide) ?_
        refine xT_aload_n g_q205 g205_18 (lkN (by decide) (lkN (by decide) (rfl))) ?_
        refine xT_getfield g_q205 g205_19 hA0 rfl (hm_at h (i := 0) rfl rfl) rfl g50 ?_
        refine xT_iload_n g_q205 g205_22 (lkN (by decide) (lkN (by decide) (rfl))) ?_
        refine xT_aaload g_q205 g205_23 (by decide +kernel) (hm_c h cfo) (ixN (n := 2) (by decide) nfo) (ixG (by decide) efo0) ?_
        refine xT_astore g_q205 g205_24 (by decide) ?_
        refine xT_aload_n g_q205 g205_26 (lkN (by decide) (lkN (by decide) (lkN (by decide) (rfl)))) ?_
        refine xT_getfield g_q205 g205_27 hA0 rfl (hm_at h (i := 0) rfl rfl) rfl g51 ?_
        refine xT_iload_n g_q205 g205_30 (lkN (by decide) (lkN (by decide) (lkN (by decide) (rfl)))) ?_
        refine xT_iaload g_q205 g205_31 hN3 (hm_at h (i := 3) rfl rfl) (ixN (n := 2) (by decide) rfl) (ixG (by decide) rfl) ?_
        refine xT_icV (y := nI (1)) g_q205 g205_32 (by decide) ?_
        refine xT_iaddV (y := nI (l + 1)) g_q205 g205_33 (bAddN _ _) ?_
        refine xT_istore g_q205 g205_34 (by decide) ?_
        refine xT_aload_n g_q205 g205_36 (lkN (by decide) (lkN (by decide) (lkN (by decide) (lkN (by decide) (rfl))))) ?_
        refine xT_getfield g_q205 g205_37 hA0 rfl (hm_at h (i := 0) rfl rfl) rfl g53 ?_
        refine xT_iload_n g_q205 g205_40 (lkN (by decide) (lkN (by decide) (lkN (by decide) (lkN (by decide) (rfl))))) ?_
        refine xT_dup2 g_q205 g205_41 ?_
        refine xT_iaload g_q205 g205_42 hN5 (hm_at h (i := 5) rfl rfl) (ixN (n := 2) (by decide) rfl) (ixG (by decide) rfl) ?_
        refine xT_icV (y := nI (1)) g_q205 g205_43 (by decide) ?_
        refine xT_iaddV (y := nI (d + 1)) g_q205 g205_44 (bAddN _ _) ?_
        refine xT_iastore g_q205 g205_45 (hm_at h (i := 5) rfl rfl) (ixN (n := 2) (by decide) rfl) ?_
        rw [nI_clamp (by decide)]
        refine xT_aload g_q205 g205_46 (lkN (by decide) (lkN (by decide) (lkN (by decide) (lkY)))) ?_
        refine xT_iload g_q205 g205_48 (lkN (by decide) (lkN (by decide) (lkY))) ?_
        refine xT_iaload g_q205 g205_50 hD0 (hm_c g1_ cD) (ixN (n := 48) (by omega) nD) (ixG (by omega) k0) ?_
        refine xT_tableswitch g_q205 g205_51 (t := 482) (by decide) (by decide) (by decide) ?_
        refine xT_aload_n g_q205 g205_482 (lkN (by decide) (lkN (by decide) (lkN (by decide) (lkN (by decide) (rfl))))) ?_
        refine xT_iload_n g_q205 g205_483 (lkN (by decide) (lkN (by decide) (lkN (by decide) (lkN (by decide) (rfl))))) ?_
        refine xT_aload g_q205 g205_484 (lkN (by decide) (lkN (by decide) (lkN (by decide) (lkY)))) ?_
        refine xT_iload g_q205 g205_486 (lkN (by decide) (lkN (by decide) (lkY))) ?_
        refine xT_icV (y := nI (1)) g_q205 g205_488 (by decide) ?_
        refine xT_iaddV (y := nI (4 * l + 1)) g_q205 g205_489 (bAddN _ _) ?_
        refine xT_iaload g_q205 g205_490 hD0 (hm_c g1_ cD) (ixN (n := 48) (by omega) nD) (ixG (by omega) k1) ?_
        refine xT_iload_n g_q205 g205_491 (lkN (by decide) (lkN (by decide) (lkN (by decide) (lkN (by decide) (rfl))))) ?_
        refine xT_invokevirtual (r := []) (u := some (.inl ((n0_ (pLf p l))))) g_q205 g205_492 (j := 209) (so := 0) (by decide +kernel) g_q209 rfl (by rw [x_rcM hA0 (hm_at g1_ (i := 0) rfl rfl)]; rfl) (t209_0 (dp := dp + 1) hA0 hN1 hN2 hN3 hN4 hN5 hN6 hN7 hN8 hN9 hN10 hl0 hl1 hm0 hm1 hG hfo hwo hq hT hf0 g1_ (by omega)) ?_
        refine xT_aload_n g_q205 g205_495 (lkN (by decide) (lkN (by decide) (lkN (by decide) (lkN (by decide) (rfl))))) ?_
        refine xT_iload_n g_q205 g205_496 (lkN (by decide) (lkN (by decide) (lkN (by decide) (lkN (by decide) (rfl))))) ?_
        refine xT_aload g_q205 g205_497 (lkN (by decide) (lkN (by decide) (lkN (by decide) (lkY)))) ?_
        refine xT_iload g_q205 g205_499 (lkN (by decide) (lkN (by decide) (lkY))) ?_
        refine xT_icV (y := nI (2)) g_q205 g205_501 (by decide) ?_
        refine xT_iaddV (y := nI (4 * l + 2)) g_q205 g205_502 (bAddN _ _) ?_
        refine xT_iaload g_q205 g205_503 hD0 (hm_c g1_ cD) (ixN (n := 48) (by omega) nD) (ixG (by omega) k2) ?_
        refine xT_iload_n g_q205 g205_504 (lkN (by decide) (lkN (by decide) (lkN (by decide) (lkN (by decide) (rfl))))) ?_
        refine xT_invokevirtual (r := [.inl ((n0_ (pLf p l)))]) (u := some (.inl ((n0_ (pRt p l))))) g_q205 g205_505 (j := 209) (so := 0) (by decide +kernel) g_q209 rfl (by rw [x_rcM hA0 (hm_at g1_ (i := 0) rfl rfl)]; rfl) (t209_0 (dp := dp + 1) hA0 hN1 hN2 hN3 hN4 hN5 hN6 hN7 hN8 hN9 hN10 hl0 hl1 hm0 hm1 hG hfo hwo hq hT hf0 g1_ (by omega)) ?_
        refine xT_if_icmpN g_q205 g205_508 (t := 521) (by decide) (decide_eq_false (fun z => z hq_)) ?_
        refine xT_aload g_q205 g205_511 (lkN (by decide) (lkN (by decide) (lkN (by decide) (lkY)))) ?_
        refine xT_iload g_q205 g205_513 (lkN (by decide) (lkN (by decide) (lkY))) ?_
        refine xT_icV (y := nI (3)) g_q205 g205_515 (by decide) ?_
        refine xT_iaddV (y := nI (4 * l + 3)) g_q205 g205_516 (bAddN _ _) ?_
        refine xT_iaload g_q205 g205_517 hD0 (hm_c g1_ cD) (ixN (n := 48) (by omega) nD) (ixG (by omega) k3) ?_
        refine xT_goto g_q205 g205_518 (t := 523) (by decide) ?_
        refine xT_istore g_q205 g205_523 (by decide) ?_
        refine xT_goto g_q205 g205_525 (t := 577) (by decide) ?_
        exact y
      obtain ⟨H2, y, hh⟩ := key
      refine ⟨H2, y, ?_⟩
      rw [stM_11 (s := (n0_, l, x, d, (-1 : Int32), os, v0_)) hz, if_pos (show (n0_ (pLf p l)) = (n0_ (pRt p l)) from hq_)]
      exact ⟨_, _, _, _, _, _, _, _, hh, fun _ => rfl, hx1, hl0, hl1, ⟨hm0, hM0⟩, ⟨hm1, hM1⟩, hf0, hf1, hv0, hv1⟩
    · skip
      have key : ∃ H2, x_To x_tb x_tyl ot (dp + 3) 205 0 (x_en 0 [.inr (some (b)), .inl (nI (q)), .inl ((pYr p)), .inl (nI (0))]) [] H 0 0 none H2 ∧ hm H0 H2 [b, F0, F1, pc, tk, dn, en, W0, W1, ws, la] [.inl (12, gs), .inr (0, f0), .inr (0, f1), .inr (0, [.inl (nI (l + 1)), .inl (x1)]), .inr (0, [.inl (nI (x)), .inl (nI (rNx s1))]), .inr (0, [.inl (nI (d + 1)), .inl (nI (rDn s1))]), .inr (0, [.inl ((if pNl p ≤ l + 1 then 0 else if d + 1 = 150 then 2 else -1)), .inl (rEn s1)]), .inr (0, w0), .inr (0, w1), .inr (0, [.inl (nI (os)), .inl (nI (rOs s1))]), .inr (0, [.inl (h0), .inl (h1)])] := by
        have g1_ : hm H0 _ [b, F0, F1, pc, tk, dn, en, W0, W1, ws, la] [.inl (12, gs), .inr (0, f0), .inr (0, f1), .inr (0, [.inl (nI (l)), .inl (x1)]), .inr (0, [.inl (nI (x)), .inl (nI (rNx s1))]), .inr (0, [.inl (nI (d + 1)), .inl (nI (rDn s1))]), .inr (0, [.inl (-1), .inl (rEn s1)]), .inr (0, w0), .inr (0, w1), .inr (0, [.inl (nI (os)), .inl (nI (rOs s1))]), .inr (0, [.inl (h0), .inl (h1)])] := hm_set (i := 5) (z2 := .inr (0, ([.inl (nI (d)), .inl (nI (rDn s1))]).set (0) (.inl (nI (d + 1))))) h rfl
        obtain ⟨H2, y, hh⟩ := t205_e0 (dp := dp) (next := l + 1) (d := d) (L := x_st (x_st (x_st (x_st (x_st ((x_en 0 [.inr (some (b)), .inl (nI (q)), .inl ((pYr p)), .inl (nI (0))])) 4 (.inr (some (D)))) 5 (.inl (nI (4 * l)))) 6 (.inr (some (F0)))) 7 (.inl (nI (l + 1)))) 7 (.inl (nI (l + 1)))) hA0 hN1 hN2 hN3 hN4 hN5 hN6 hN7 hN8 hN9 hN10 hl0 hl1 hm0 hm1 hG hfo hwo hq hC h12 (by omega) (by omega) (lkN (by decide) (lkN (by decide) (lkN (by decide) (lkN (by decide) (lkN (by decide) (rfl)))))) (lkN (by decide) (lkN (by decide) (lkN (by decide) (lkN (by decide) (lkN (by decide) (rfl)))))) (lkN (by decide) (lkN (by decide) (lkN (by decide) (lkN (by decide) (lkN (by decide) (rfl)))))) (lkY) g1_
        refine ⟨H2, ?_, hh⟩
        refine xT_aload_n g_q205 g205_0 (rfl) ?_
        refine xT_getfield g_q205 g205_1 hA0 rfl (hm_at h (i := 0) rfl rfl) rfl g2 ?_
        refine xT_iload_n g_q205 g205_4 (rfl) ?_
        refine xT_aaload g_q205 g205_5 (by decide +kernel) (hm_c h ccd) (ixN (n := 13) (by omega) ncd) (ixG (by omega) ecd) ?_
        refine xT_astore g_q205 g205_6 (by decide) ?_
        refine xT_icV (y := nI (4)) g_q205 g205_8 (by decide) ?_
        refine xT_aload_n g_q205 g205_9 (lkN (by decide) (rfl)) ?_
        refine xT_getfield g_q205 g205_10 hA0 rfl (hm_at h (i := 0) rfl rfl) rfl g51 ?_
        refine xT_iload_n g_q205 g205_13 (lkN (by decide) (rfl)) ?_
        refine xT_iaload g_q205 g205_14 hN3 (hm_at h (i := 3) rfl rfl) (ixN (n := 2) (by decide) rfl) (ixG (by decide) rfl) ?_
        refine xT_imulV (y := nI (4 * l)) g_q205 g205_15 (bMulN _ _) ?_
        refine xT_istore g_q205 g205_16 (by decide) ?_
        refine xT_aload_n g_q205 g205_18 (lkN (by decide) (lkN (by decide) (rfl))) ?_
        refine xT_getfield g_q205 g205_19 hA0 rfl (hm_at h (i := 0) rfl rfl) rfl g50 ?_
        refine xT_iload_n g_q205 g205_22 (lkN (by decide) (lkN (by decide) (rfl))) ?_
        refine xT_aaload g_q205 g205_23 (by decide +kernel) (hm_c h cfo) (ixN (n := 2) (by decide) nfo) (ixG (by decide) efo0) ?_
        refine xT_astore g_q205 g205_24 (by decide) ?_
        refine xT_aload_n g_q205 g205_26 (lkN (by decide) (lkN (by decide) (lkN (by decide) (rfl)))) ?_
        refine xT_getfield g_q205 g205_27 hA0 rfl (hm_at h (i := 0) rfl rfl) rfl g51 ?_
        refine xT_iload_n g_q205 g205_30 (lkN (by decide) (lkN (by decide) (lkN (by decide) (rfl)))) ?_
        refine xT_iaload g_q205 g205_31 hN3 (hm_at h (i := 3) rfl rfl) (ixN (n := 2) (by decide) rfl) (ixG (by decide) rfl) ?_
        refine xT_icV (y := nI (1)) g_q205 g205_32 (by decide) ?_
        refine xT_iaddV (y := nI (l + 1)) g_q205 g205_33 (bAddN _ _) ?_
        refine xT_istore g_q205 g205_34 (by decide) ?_
        refine xT_aload_n g_q205 g205_36 (lkN (by decide) (lkN (by decide) (lkN (by decide) (lkN (by decide) (rfl))))) ?_
        refine xT_getfield g_q205 g205_37 hA0 rfl (hm_at h (i := 0) rfl rfl) rfl g53 ?_
        refine xT_iload_n g_q205 g205_40 (lkN (by decide) (lkN (by decide) (lkN (by decide) (lkN (by decide) (rfl))))) ?_
        refine xT_dup2 g_q205 g205_41 ?_
        refine xT_iaload g_q205 g205_42 hN5 (hm_at h (i := 5) rfl rfl) (ixN (n := 2) (by decide) rfl) (ixG (by decide) rfl) ?_
        refine xT_icV (y := nI (1)) g_q205 g205_43 (by decide) ?_
        refine xT_iaddV (y := nI (d + 1)) g_q205 g205_44 (bAddN _ _) ?_
        refine xT_iastore g_q205 g205_45 (hm_at h (i := 5) rfl rfl) (ixN (n := 2) (by decide) rfl) ?_
        rw [nI_clamp (by decide)]
        refine xT_aload g_q205 g205_46 (lkN (by decide) (lkN (by decide) (lkN (by decide) (lkY)))) ?_
        refine xT_iload g_q205 g205_48 (lkN (by decide) (lkN (by decide) (lkY))) ?_
        refine xT_iaload g_q205 g205_50 hD0 (hm_c g1_ cD) (ixN (n := 48) (by omega) nD) (ixG (by omega) k0) ?_
        refine xT_tableswitch g_q205 g205_51 (t := 482) (by decide) (by decide) (by decide) ?_
        refine xT_aload_n g_q205 g205_482 (lkN (by decide) (lkN (by decide) (lkN (by decide) (lkN (by decide) (rfl))))) ?_
        refine xT_iload_n g_q205 g205_483 (lkN (by decide) (lkN (by decide) (lkN (by decide) (lkN (by decide) (rfl))))) ?_
        refine xT_aload g_q205 g205_484 (lkN (by decide) (lkN (by decide) (lkN (by decide) (lkY)))) ?_
        refine xT_iload g_q205 g205_486 (lkN (by decide) (lkN (by decide) (lkY))) ?_
        refine xT_icV (y := nI (1)) g_q205 g205_488 (by decide) ?_
        refine xT_iaddV (y := nI (4 * l + 1)) g_q205 g205_489 (bAddN _ _) ?_
        refine xT_iaload g_q205 g205_490 hD0 (hm_c g1_ cD) (ixN (n := 48) (by omega) nD) (ixG (by omega) k1) ?_
        refine xT_iload_n g_q205 g205_491 (lkN (by decide) (lkN (by decide) (lkN (by decide) (lkN (by decide) (rfl))))) ?_
        refine xT_invokevirtual (r := []) (u := some (.inl ((n0_ (pLf p l))))) g_q205 g205_492 (j := 209) (so := 0) (by decide +kernel) g_q209 rfl (by rw [x_rcM hA0 (hm_at g1_ (i := 0) rfl rfl)]; rfl) (t209_0 (dp := dp + 1) hA0 hN1 hN2 hN3 hN4 hN5 hN6 hN7 hN8 hN9 hN10 hl0 hl1 hm0 hm1 hG hfo hwo hq hT hf0 g1_ (by omega)) ?_
        refine xT_aload_n g_q205 g205_495 (lkN (by decide) (lkN (by decide) (lkN (by decide) (lkN (by decide) (rfl))))) ?_
        refine xT_iload_n g_q205 g205_496 (lkN (by decide) (lkN (by decide) (lkN (by decide) (lkN (by decide) (rfl))))) ?_
        refine xT_aload g_q205 g205_497 (lkN (by decide) (lkN (by decide) (lkN (by decide) (lkY)))) ?_
        refine xT_iload g_q205 g205_499 (lkN (by decide) (lkN (by decide) (lkY))) ?_
        refine xT_icV (y := nI (2)) g_q205 g205_501 (by decide) ?_
        refine xT_iaddV (y := nI (4 * l + 2)) g_q205 g205_502 (bAddN _ _) ?_
        refine xT_iaload g_q205 g205_503 hD0 (hm_c g1_ cD) (ixN (n := 48) (by omega) nD) (ixG (by omega) k2) ?_
        refine xT_iload_n g_q205 g205_504 (lkN (by decide) (lkN (by decide) (lkN (by decide) (lkN (by decide) (rfl))))) ?_
        refine xT_invokevirtual (r := [.inl ((n0_ (pLf p l)))]) (u := some (.inl ((n0_ (pRt p l))))) g_q205 g205_505 (j := 209) (so := 0) (by decide +kernel) g_q209 rfl (by rw [x_rcM hA0 (hm_at g1_ (i := 0) rfl rfl)]; rfl) (t209_0 (dp := dp + 1) hA0 hN1 hN2 hN3 hN4 hN5 hN6 hN7 hN8 hN9 hN10 hl0 hl1 hm0 hm1 hG hfo hwo hq hT hf0 g1_ (by omega)) ?_
        refine xT_if_icmpY g_q205 g205_508 (t := 521) (by decide) (decide_eq_true hq_) ?_
        refine xT_iload g_q205 g205_521 (lkY) ?_
        refine xT_istore g_q205 g205_523 (by decide) ?_
        refine xT_goto g_q205 g205_525 (t := 577) (by decide) ?_
        exact y
      obtain ⟨H2, y, hh⟩ := key
      refine ⟨H2, y, ?_⟩
      rw [stM_11 (s := (n0_, l, x, d, (-1 : Int32), os, v0_)) hz, if_neg (show ¬ ((n0_ (pLf p l)) = (n0_ (pRt p l))) from hq_)]
      exact ⟨_, _, _, _, _, _, _, _, hh, fun _ => rfl, hx1, hl0, hl1, ⟨hm0, hM0⟩, ⟨hm1, hM1⟩, hf0, hf1, hv0, hv1⟩
end XH33_26
