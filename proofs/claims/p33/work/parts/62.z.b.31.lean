/-! p33 by hand, 30. -/
noncomputable section XH33_30
variable {ot : XO Int32} {dp : Nat} {H H0 : List (XC Int32)}
theorem t204_1 {b F0 F1 ln cd ip sh shs fi fz tw tz fo pc tk dn en wo ws la W0 W1 : Nat} {gs f0 f1 w0 w1 : List (XV Int32)} {a0 a1 b0 b1 c0 c1 d0 d1 e0 e1 h0 h1 : Int32} (hA0 : ¬ 1000000 < b) (hN1 : ¬ F0 = 1000000) (hN2 : ¬ F1 = 1000000) (hN3 : ¬ pc = 1000000) (hN4 : ¬ tk = 1000000) (hN5 : ¬ dn = 1000000) (hN6 : ¬ en = 1000000) (hN7 : ¬ W0 = 1000000) (hN8 : ¬ W1 = 1000000) (hN9 : ¬ ws = 1000000) (hN10 : ¬ la = 1000000) (hl0 : f0.length = 6) (hl1 : f1.length = 6) (hm0 : w0.length = 12) (hm1 : w1.length = 12) (hG : rG gs ln cd ip sh shs fi fz tw tz fo pc tk dn en wo ws la) (hfo : rQ H0 [b, F0, F1, pc, tk, dn, en, W0, W1, ws, la] fo 5 2 0 F0 ∧ rQ H0 [b, F0, F1, pc, tk, dn, en, W0, W1, ws, la] fo 5 2 1 F1) (hwo : rQ H0 [b, F0, F1, pc, tk, dn, en, W0, W1, ws, la] wo 5 2 0 W0 ∧ rQ H0 [b, F0, F1, pc, tk, dn, en, W0, W1, ws, la] wo 5 2 1 W1) (h : hm H0 H [b, F0, F1, pc, tk, dn, en, W0, W1, ws, la] [.inl (12, gs), .inr (0, f0), .inr (0, f1), .inr (0, [.inl (a0), .inl (a1)]), .inr (0, [.inl (b0), .inl (b1)]), .inr (0, [.inl (c0), .inl (c1)]), .inr (0, [.inl (d0), .inl (d1)]), .inr (0, w0), .inr (0, w1), .inr (0, [.inl (e0), .inl (e1)]), .inr (0, [.inl (h0), .inl (h1)])]) : ∃ H2, x_To x_tb x_tyl ot dp 204 0 (x_en 0 [.inr (some (b)), .inl (nI (1))]) [] H 0 0 none H2 ∧ hm H0 H2 [b, F0, F1, pc, tk, dn, en, W0, W1, ws, la] [.inl (12, gs), .inr (0, f0), .inr (0, ((((((f1).set (0) (.inl (nI (0)))).set (0 + 1) (.inl (nI (0)))).set (0 + 1 + 1) (.inl (nI (0)))).set (0 + 1 + 1 + 1) (.inl (nI (0)))).set (0 + 1 + 1 + 1 + 1) (.inl (nI (0)))).set (0 + 1 + 1 + 1 + 1 + 1) (.inl (nI (0)))), .inr (0, [.inl (a0), .inl (nI (0))]), .inr (0, [.inl (b0), .inl (nI (0))]), .inr (0, [.inl (c0), .inl (nI (0))]), .inr (0, [.inl (d0), .inl (-1)]), .inr (0, w0), .inr (0, w1), .inr (0, [.inl (e0), .inl (nI (0))]), .inr (0, [.inl (h0), .inl (h1)])] := by
  obtain ⟨g1, g2, g6, g11, g12, g13, g14, g15, g16, g50, g51, g52, g53, g54, g55, g56, g57, g58⟩ := id hG
  obtain ⟨⟨lfo, cfo, nfo, efo0⟩, ⟨lfo1, cfo1, nfo1, efo1⟩⟩ := id hfo
  obtain ⟨⟨lwo, cwo, nwo, ewo0⟩, ⟨lwo1, cwo1, nwo1, ewo1⟩⟩ := id hwo
  have g1_ : hm H0 _ [b, F0, F1, pc, tk, dn, en, W0, W1, ws, la] [.inl (12, gs), .inr (0, f0), .inr (0, (f1).set (0) (.inl (nI (0)))), .inr (0, [.inl (a0), .inl (a1)]), .inr (0, [.inl (b0), .inl (b1)]), .inr (0, [.inl (c0), .inl (c1)]), .inr (0, [.inl (d0), .inl (d1)]), .inr (0, w0), .inr (0, w1), .inr (0, [.inl (e0), .inl (e1)]), .inr (0, [.inl (h0), .inl (h1)])] := hm_set (i := 2) (z2 := .inr (0, (f1).set (0) (.inl (nI (0))))) h rfl
  have g2_ : hm H0 _ [b, F0, F1, pc, tk, dn, en, W0, W1, ws, la] [.inl (12, gs), .inr (0, f0), .inr (0, ((f1).set (0) (.inl (nI (0)))).set (0 + 1) (.inl (nI (0)))), .inr (0, [.inl (a0), .inl (a1)]), .inr (0, [.inl (b0), .inl (b1)]), .inr (0, [.inl (c0), .inl (c1)]), .inr (0, [.inl (d0), .inl (d1)]), .inr (0, w0), .inr (0, w1), .inr (0, [.inl (e0), .inl (e1)]), .inr (0, [.inl (h0), .inl (h1)])] := hm_set (i := 2) (z2 := .inr (0, ((f1).set (0) (.inl (nI (0)))).set (0 + 1) (.inl (nI (0))))) g1_ rfl
  have g3_ : hm H0 _ [b, F0, F1, pc, tk, dn, en, W0, W1, ws, la] [.inl (12, gs), .inr (0, f0), .inr (0, (((f1).set (0) (.inl (nI (0)))).set (0 + 1) (.inl (nI (0)))).set (0 + 1 + 1) (.inl (nI (0)))), .inr (0, [.inl (a0), .inl (a1)]), .inr (0, [.inl (b0), .inl (b1)]), .inr (0, [.inl (c0), .inl (c1)]), .inr (0, [.inl (d0), .inl (d1)]), .inr (0, w0), .inr (0, w1), .inr (0, [.inl (e0), .inl (e1)]), .inr (0, [.inl (h0), .inl (h1)])] := hm_set (i := 2) (z2 := .inr (0, (((f1).set (0) (.inl (nI (0)))).set (0 + 1) (.inl (nI (0)))).set (0 + 1 + 1) (.inl (nI (0))))) g2_ rfl
  have g4_ : hm H0 _ [b, F0, F1, pc, tk, dn, en, W0, W1, ws, la] [.inl (12, gs), .inr (0, f0), .inr (0, ((((f1).set (0) (.inl (nI (0)))).set (0 + 1) (.inl (nI (0)))).set (0 + 1 + 1) (.inl (nI (0)))).set (0 + 1 + 1 + 1) (.inl (nI (0)))), .inr (0, [.inl (a0), .inl (a1)]), .inr (0, [.inl (b0), .inl (b1)]), .inr (0, [.inl (c0), .inl (c1)]), .inr (0, [.inl (d0), .inl (d1)]), .inr (0, w0), .inr (0, w1), .inr (0, [.inl (e0), .inl (e1)]), .inr (0, [.inl (h0), .inl (h1)])] := hm_set (i := 2) (z2 := .inr (0, ((((f1).set (0) (.inl (nI (0)))).set (0 + 1) (.inl (nI (0)))).set (0 + 1 + 1) (.inl (nI (0)))).set (0 + 1 + 1 + 1) (.inl (nI (0))))) g3_ rfl
  have g5_ : hm H0 _ [b, F0, F1, pc, tk, dn, en, W0, W1, ws, la] [.inl (12, gs), .inr (0, f0), .inr (0, (((((f1).set (0) (.inl (nI (0)))).set (0 + 1) (.inl (nI (0)))).set (0 + 1 + 1) (.inl (nI (0)))).set (0 + 1 + 1 + 1) (.inl (nI (0)))).set (0 + 1 + 1 + 1 + 1) (.inl (nI (0)))), .inr (0, [.inl (a0), .inl (a1)]), .inr (0, [.inl (b0), .inl (b1)]), .inr (0, [.inl (c0), .inl (c1)]), .inr (0, [.inl (d0), .inl (d1)]), .inr (0, w0), .inr (0, w1), .inr (0, [.inl (e0), .inl (e1)]), .inr (0, [.inl (h0), .inl (h1)])] := hm_set (i := 2) (z2 := .inr (0, (((((f1).set (0) (.inl (nI (0)))).set (0 + 1) (.inl (nI (0)))).set (0 + 1 + 1) (.inl (nI (0)))).set (0 + 1 + 1 + 1) (.inl (nI (0)))).set (0 + 1 + 1 + 1 + 1) (.inl (nI (0))))) g4_ rfl
  have g6_ : hm H0 _ [b, F0, F1, pc, tk, dn, en, W0, W1, ws, la] [.inl (12, gs), .inr (0, f0), .inr (0, ((((((f1).set (0) (.inl (nI (0)))).set (0 + 1) (.inl (nI (0)))).set (0 + 1 + 1) (.inl (nI (0)))).set (0 + 1 + 1 + 1) (.inl (nI (0)))).set (0 + 1 + 1 + 1 + 1) (.inl (nI (0)))).set (0 + 1 + 1 + 1 + 1 + 1) (.inl (nI (0)))), .inr (0, [.inl (a0), .inl (a1)]), .inr (0, [.inl (b0), .inl (b1)]), .inr (0, [.inl (c0), .inl (c1)]), .inr (0, [.inl (d0), .inl (d1)]), .inr (0, w0), .inr (0, w1), .inr (0, [.inl (e0), .inl (e1)]), .inr (0, [.inl (h0), .inl (h1)])] := hm_set (i := 2) (z2 := .inr (0, ((((((f1).set (0) (.inl (nI (0)))).set (0 + 1) (.inl (nI (0)))).set (0 + 1 + 1) (.inl (nI (0)))).set (0 + 1 + 1 + 1) (.inl (nI (0)))).set (0 + 1 + 1 + 1 + 1) (.inl (nI (0)))).set (0 + 1 + 1 + 1 + 1 + 1) (.inl (nI (0))))) g5_ rfl
  have g7_ : hm H0 _ [b, F0, F1, pc, tk, dn, en, W0, W1, ws, la] [.inl (12, gs), .inr (0, f0), .inr (0, ((((((f1).set (0) (.inl (nI (0)))).set (0 + 1) (.inl (nI (0)))).set (0 + 1 + 1) (.inl (nI (0)))).set (0 + 1 + 1 + 1) (.inl (nI (0)))).set (0 + 1 + 1 + 1 + 1) (.inl (nI (0)))).set (0 + 1 + 1 + 1 + 1 + 1) (.inl (nI (0)))), .inr (0, [.inl (a0), .inl (nI (0))]), .inr (0, [.inl (b0), .inl (b1)]), .inr (0, [.inl (c0), .inl (c1)]), .inr (0, [.inl (d0), .inl (d1)]), .inr (0, w0), .inr (0, w1), .inr (0, [.inl (e0), .inl (e1)]), .inr (0, [.inl (h0), .inl (h1)])] := hm_set (i := 3) (z2 := .inr (0, ([.inl (a0), .inl (a1)]).set (1) (.inl (nI (0))))) g6_ rfl
  have g8_ : hm H0 _ [b, F0, F1, pc, tk, dn, en, W0, W1, ws, la] [.inl (12, gs), .inr (0, f0), .inr (0, ((((((f1).set (0) (.inl (nI (0)))).set (0 + 1) (.inl (nI (0)))).set (0 + 1 + 1) (.inl (nI (0)))).set (0 + 1 + 1 + 1) (.inl (nI (0)))).set (0 + 1 + 1 + 1 + 1) (.inl (nI (0)))).set (0 + 1 + 1 + 1 + 1 + 1) (.inl (nI (0)))), .inr (0, [.inl (a0), .inl (nI (0))]), .inr (0, [.inl (b0), .inl (nI (0))]), .inr (0, [.inl (c0), .inl (c1)]), .inr (0, [.inl (d0), .inl (d1)]), .inr (0, w0), .inr (0, w1), .inr (0, [.inl (e0), .inl (e1)]), .inr (0, [.inl (h0), .inl (h1)])] := hm_set (i := 4) (z2 := .inr (0, ([.inl (b0), .inl (b1)]).set (1) (.inl (nI (0))))) g7_ rfl
  have g9_ : hm H0 _ [b, F0, F1, pc, tk, dn, en, W0, W1, ws, la] [.inl (12, gs), .inr (0, f0), .inr (0, ((((((f1).set (0) (.inl (nI (0)))).set (0 + 1) (.inl (nI (0)))).set (0 + 1 + 1) (.inl (nI (0)))).set (0 + 1 + 1 + 1) (.inl (nI (0)))).set (0 + 1 + 1 + 1 + 1) (.inl (nI (0)))).set (0 + 1 + 1 + 1 + 1 + 1) (.inl (nI (0)))), .inr (0, [.inl (a0), .inl (nI (0))]), .inr (0, [.inl (b0), .inl (nI (0))]), .inr (0, [.inl (c0), .inl (nI (0))]), .inr (0, [.inl (d0), .inl (d1)]), .inr (0, w0), .inr (0, w1), .inr (0, [.inl (e0), .inl (e1)]), .inr (0, [.inl (h0), .inl (h1)])] := hm_set (i := 5) (z2 := .inr (0, ([.inl (c0), .inl (c1)]).set (1) (.inl (nI (0))))) g8_ rfl
  have g10_ : hm H0 _ [b, F0, F1, pc, tk, dn, en, W0, W1, ws, la] [.inl (12, gs), .inr (0, f0), .inr (0, ((((((f1).set (0) (.inl (nI (0)))).set (0 + 1) (.inl (nI (0)))).set (0 + 1 + 1) (.inl (nI (0)))).set (0 + 1 + 1 + 1) (.inl (nI (0)))).set (0 + 1 + 1 + 1 + 1) (.inl (nI (0)))).set (0 + 1 + 1 + 1 + 1 + 1) (.inl (nI (0)))), .inr (0, [.inl (a0), .inl (nI (0))]), .inr (0, [.inl (b0), .inl (nI (0))]), .inr (0, [.inl (c0), .inl (nI (0))]), .inr (0, [.inl (d0), .inl (-1)]), .inr (0, w0), .inr (0, w1), .inr (0, [.inl (e0), .inl (e1)]), .inr (0, [.inl (h0), .inl (h1)])] := hm_set (i := 6) (z2 := .inr (0, ([.inl (d0), .inl (d1)]).set (1) (.inl (-1)))) g9_ rfl
  have g11_ : hm H0 _ [b, F0, F1, pc, tk, dn, en, W0, W1, ws, la] [.inl (12, gs), .inr (0, f0), .inr (0, ((((((f1).set (0) (.inl (nI (0)))).set (0 + 1) (.inl (nI (0)))).set (0 + 1 + 1) (.inl (nI (0)))).set (0 + 1 + 1 + 1) (.inl (nI (0)))).set (0 + 1 + 1 + 1 + 1) (.inl (nI (0)))).set (0 + 1 + 1 + 1 + 1 + 1) (.inl (nI (0)))), .inr (0, [.inl (a0), .inl (nI (0))]), .inr (0, [.inl (b0), .inl (nI (0))]), .inr (0, [.inl (c0), .inl (nI (0))]), .inr (0, [.inl (d0), .inl (-1)]), .inr (0, w0), .inr (0, w1), .inr (0, [.inl (e0), .inl (nI (0))]), .inr (0, [.inl (h0), .inl (h1)])] := hm_set (i := 9) (z2 := .inr (0, ([.inl (e0), .inl (e1)]).set (1) (.inl (nI (0))))) g10_ rfl
  refine ⟨_, ?_, g11_⟩
  refine xT_icV (y := nI (0)) g_q204 g204_0 (by decide) ?_
  refine xT_istore_n g_q204 g204_1 (by decide) ?_
  refine xT_iload_n g_q204 g204_2 (lkY) ?_
  refine xT_biV (y := nI (6)) g_q204 g204_3 (by decide) ?_
  refine xT_if_icmpN g_q204 g204_5 (t := 23) (by decide) (c3N (a := 0) (b := 6) (by omega) (by omega) (by omega)) ?_
  refine xT_aload_n g_q204 g204_8 (lkN (by decide) (rfl)) ?_
  refine xT_getfield g_q204 g204_9 hA0 rfl (hm_at h (i := 0) rfl rfl) rfl g50 ?_
  refine xT_iload_n g_q204 g204_12 (lkN (by decide) (rfl)) ?_
  refine xT_aaload g_q204 g204_13 (by decide +kernel) (hm_c h cfo1) (ixN (n := 2) (by decide) nfo1) (ixG (by decide) efo1) ?_
  refine xT_iload_n g_q204 g204_14 (lkY) ?_
  refine xT_icV (y := nI (0)) g_q204 g204_15 (by decide) ?_
  refine xT_iastore g_q204 g204_16 (hm_at h (i := 2) rfl rfl) (ixN (n := 6) (by omega) hl1) ?_
  rw [nI_clamp (by omega)]
  refine xT_iincV (y := nI (0 + 1)) g_q204 g204_17 (lkY) (by decide) (bIncN _) ?_
  refine xT_goto g_q204 g204_20 (t := 2) (by decide) ?_
  refine xT_iload_n g_q204 g204_2 (lkY) ?_
  refine xT_biV (y := nI (6)) g_q204 g204_3 (by decide) ?_
  refine xT_if_icmpN g_q204 g204_5 (t := 23) (by decide) (c3N (a := 0 + 1) (b := 6) (by omega) (by omega) (by omega)) ?_
  refine xT_aload_n g_q204 g204_8 (lkN (by decide) (lkN (by decide) (rfl))) ?_
  refine xT_getfield g_q204 g204_9 hA0 rfl (hm_at g1_ (i := 0) rfl rfl) rfl g50 ?_
  refine xT_iload_n g_q204 g204_12 (lkN (by decide) (lkN (by decide) (rfl))) ?_
  refine xT_aaload g_q204 g204_13 (by decide +kernel) (hm_c g1_ cfo1) (ixN (n := 2) (by decide) nfo1) (ixG (by decide) efo1) ?_
  refine xT_iload_n g_q204 g204_14 (lkY) ?_
  refine xT_icV (y := nI (0)) g_q204 g204_15 (by decide) ?_
  refine xT_iastore g_q204 g204_16 (hm_at g1_ (i := 2) rfl rfl) (ixN (n := 6) (by omega) (by rw [List.length_set]; exact hl1)) ?_
  rw [nI_clamp (by omega)]
  refine xT_iincV (y := nI (0 + 1 + 1)) g_q204 g204_17 (lkY) (by decide) (bIncN _) ?_
  refine xT_goto g_q204 g204_20 (t := 2) (by decide) ?_
  refine xT_iload_n g_q204 g204_2 (lkY) ?_
  refine xT_biV (y := nI (6)) g_q204 g204_3 (by decide) ?_
  refine xT_if_icmpN g_q204 g204_5 (t := 23) (by decide) (c3N (a := 0 + 1 + 1) (b := 6) (by omega) (by omega) (by omega)) ?_
  refine xT_aload_n g_q204 g204_8 (lkN (by decide) (lkN (by decide) (lkN (by decide) (rfl)))) ?_
  refine xT_getfield g_q204 g204_9 hA0 rfl (hm_at g2_ (i := 0) rfl rfl) rfl g50 ?_
  refine xT_iload_n g_q204 g204_12 (lkN (by decide) (lkN (by decide) (lkN (by decide) (rfl)))) ?_
  refine xT_aaload g_q204 g204_13 (by decide +kernel) (hm_c g2_ cfo1) (ixN (n := 2) (by decide) nfo1) (ixG (by decide) efo1) ?_
  refine xT_iload_n g_q204 g204_14 (lkY) ?_
  refine xT_icV (y := nI (0)) g_q204 g204_15 (by decide) ?_
  refine xT_iastore g_q204 g204_16 (hm_at g2_ (i := 2) rfl rfl) (ixN (n := 6) (by omega) (by rw [List.length_set, List.length_set]; exact hl1)) ?_
  rw [nI_clamp (by omega)]
  refine xT_iincV (y := nI (0 + 1 + 1 + 1)) g_q204 g204_17 (lkY) (by decide) (bIncN _) ?_
  refine xT_goto g_q204 g204_20 (t := 2) (by decide) ?_
  refine xT_iload_n g_q204 g204_2 (lkY) ?_
  refine xT_biV (y := nI (6)) g_q204 g204_3 (by decide) ?_
  refine xT_if_icmpN g_q204 g204_5 (t := 23) (by decide) (c3N (a := 0 + 1 + 1 + 1) (b := 6) (by omega) (by omega) (by omega)) ?_
  refine xT_aload_n g_q204 g204_8 (lkN (by decide) (lkN (by decide) (lkN (by decide) (lkN (by decide) (rfl))))) ?_
  refine xT_getfield g_q204 g204_9 hA0 rfl (hm_at g3_ (i := 0) rfl rfl) rfl g50 ?_
  refine xT_iload_n g_q204 g204_12 (lkN (by decide) (lkN (by decide) (lkN (by decide) (lkN (by decide) (rfl))))) ?_
  refine xT_aaload g_q204 g204_13 (by decide +kernel) (hm_c g3_ cfo1) (ixN (n := 2) (by decide) nfo1) (ixG (by decide) efo1) ?_
  refine xT_iload_n g_q204 g204_14 (lkY) ?_
  refine xT_icV (y := nI (0)) g_q204 g204_15 (by decide) ?_
  refine xT_iastore g_q204 g204_16 (hm_at g3_ (i := 2) rfl rfl) (ixN (n := 6) (by omega) (by rw [List.length_set, List.length_set, List.length_set]; exact hl1)) ?_
  rw [nI_clamp (by omega)]
  refine xT_iincV (y := nI (0 + 1 + 1 + 1 + 1)) g_q204 g204_17 (lkY) (by decide) (bIncN _) ?_
  refine xT_goto g_q204 g204_20 (t := 2) (by decide) ?_
  refine xT_iload_n g_q204 g204_2 (lkY) ?_
  refine xT_biV (y := nI (6)) g_q204 g204_3 (by decide) ?_
  refine xT_if_icmpN g_q204 g204_5 (t := 23) (by decide) (c3N (a := 0 + 1 + 1 + 1 + 1) (b := 6) (by omega) (by omega) (by omega)) ?_
  refine xT_aload_n g_q204 g204_8 (lkN (by decide) (lkN (by decide) (lkN (by decide) (lkN (by decide) (lkN (by decide) (rfl)))))) ?_
  refine xT_getfield g_q204 g204_9 hA0 rfl (hm_at g4_ (i := 0) rfl rfl) rfl g50 ?_
  refine xT_iload_n g_q204 g204_12 (lkN (by decide) (lkN (by decide) (lkN (by decide) (lkN (by decide) (lkN (by decide) (rfl)))))) ?_
  refine xT_aaload g_q204 g204_13 (by decide +kernel) (hm_c g4_ cfo1) (ixN (n := 2) (by decide) nfo1) (ixG (by decide) efo1) ?_
  refine xT_iload_n g_q204 g204_14 (lkY) ?_
  refine xT_icV (y := nI (0)) g_q204 g204_15 (by decide) ?_
  refine xT_iastore g_q204 g204_16 (hm_at g4_ (i := 2) rfl rfl) (ixN (n := 6) (by omega) (by rw [List.length_set, List.length_set, List.length_set, List.length_set]; exact hl1)) ?_
  rw [nI_clamp (by omega)]
  refine xT_iincV (y := nI (0 + 1 + 1 + 1 + 1 + 1)) g_q204 g204_17 (lkY) (by decide) (bIncN _) ?_
  refine xT_goto g_q204 g204_20 (t := 2) (by decide) ?_
  refine xT_iload_n g_q204 g204_2 (lkY) ?_
  refine xT_biV (y := nI (6)) g_q204 g204_3 (by decide) ?_
  refine xT_if_icmpN g_q204 g204_5 (t := 23) (by decide) (c3N (a := 0 + 1 + 1 + 1 + 1 + 1) (b := 6) (by omega) (by omega) (by omega)) ?_
  refine xT_aload_n g_q204 g204_8 (lkN (by decide) (lkN (by decide) (lkN (by decide) (lkN (by decide) (lkN (by decide) (lkN (by decide) (rfl))))))) ?_
  refine xT_getfield g_q204 g204_9 hA0 rfl (hm_at g5_ (i := 0) rfl rfl) rfl g50 ?_
  refine xT_iload_n g_q204 g204_12 (lkN (by decide) (lkN (by decide) (lkN (by decide) (lkN (by decide) (lkN (by decide) (lkN (by decide) (rfl))))))) ?_
  refine xT_aaload g_q204 g204_13 (by decide +kernel) (hm_c g5_ cfo1) (ixN (n := 2) (by decide) nfo1) (ixG (by decide) efo1) ?_
  refine xT_iload_n g_q204 g204_14 (lkY) ?_
  refine xT_icV (y := nI (0)) g_q204 g204_15 (by decide) ?_
  refine xT_iastore g_q204 g204_16 (hm_at g5_ (i := 2) rfl rfl) (ixN (n := 6) (by omega) (by rw [List.length_set, List.length_set, List.length_set, List.length_set, List.length_set]; exact hl1)) ?_
  rw [nI_clamp (by omega)]
  refine xT_iincV (y := nI (0 + 1 + 1 + 1 + 1 + 1 + 1)) g_q204 g204_17 (lkY) (by decide) (bIncN _) ?_
  refine xT_goto g_q204 g204_20 (t := 2) (by decide) ?_
  refine xT_iload_n g_q204 g204_2 (lkY) ?_
  refine xT_biV (y := nI (6)) g_q204 g204_3 (by decide) ?_
  refine xT_if_icmpY g_q204 g204_5 (t := 23) (by decide) (c3Y (a := 0 + 1 + 1 + 1 + 1 + 1 + 1) (b := 6) (by omega) (by omega) (by omega)) ?_
  refine xT_aload_n g_q204 g204_23 (lkN (by decide) (lkN (by decide) (lkN (by decide) (lkN (by decide) (lkN (by decide) (lkN (by decide) (lkN (by decide) (rfl)))))))) ?_
  refine xT_getfield g_q204 g204_24 hA0 rfl (hm_at g6_ (i := 0) rfl rfl) rfl g51 ?_
  refine xT_iload_n g_q204 g204_27 (lkN (by decide) (lkN (by decide) (lkN (by decide) (lkN (by decide) (lkN (by decide) (lkN (by decide) (lkN (by decide) (rfl)))))))) ?_
  refine xT_icV (y := nI (0)) g_q204 g204_28 (by decide) ?_
  refine xT_iastore g_q204 g204_29 (hm_at g6_ (i := 3) rfl rfl) (ixN (n := 2) (by decide) rfl) ?_
  rw [nI_clamp (by decide)]
  refine xT_aload_n g_q204 g204_30 (lkN (by decide) (lkN (by decide) (lkN (by decide) (lkN (by decide) (lkN (by decide) (lkN (by decide) (lkN (by decide) (rfl)))))))) ?_
  refine xT_getfield g_q204 g204_31 hA0 rfl (hm_at g7_ (i := 0) rfl rfl) rfl g52 ?_
  refine xT_iload_n g_q204 g204_34 (lkN (by decide) (lkN (by decide) (lkN (by decide) (lkN (by decide) (lkN (by decide) (lkN (by decide) (lkN (by decide) (rfl)))))))) ?_
  refine xT_icV (y := nI (0)) g_q204 g204_35 (by decide) ?_
  refine xT_iastore g_q204 g204_36 (hm_at g7_ (i := 4) rfl rfl) (ixN (n := 2) (by decide) rfl) ?_
  rw [nI_clamp (by decide)]
  refine xT_aload_n g_q204 g204_37 (lkN (by decide) (lkN (by decide) (lkN (by decide) (lkN (by decide) (lkN (by decide) (lkN (by decide) (lkN (by decide) (rfl)))))))) ?_
  refine xT_getfield g_q204 g204_38 hA0 rfl (hm_at g8_ (i := 0) rfl rfl) rfl g53 ?_
  refine xT_iload_n g_q204 g204_41 (lkN (by decide) (lkN (by decide) (lkN (by decide) (lkN (by decide) (lkN (by decide) (lkN (by decide) (lkN (by decide) (rfl)))))))) ?_
  refine xT_icV (y := nI (0)) g_q204 g204_42 (by decide) ?_
  refine xT_iastore g_q204 g204_43 (hm_at g8_ (i := 5) rfl rfl) (ixN (n := 2) (by decide) rfl) ?_
  rw [nI_clamp (by decide)]
  refine xT_aload_n g_q204 g204_44 (lkN (by decide) (lkN (by decide) (lkN (by decide) (lkN (by decide) (lkN (by decide) (lkN (by decide) (lkN (by decide) (rfl)))))))) ?_
  refine xT_getfield g_q204 g204_45 hA0 rfl (hm_at g9_ (i := 0) rfl rfl) rfl g54 ?_
  refine xT_iload_n g_q204 g204_48 (lkN (by decide) (lkN (by decide) (lkN (by decide) (lkN (by decide) (lkN (by decide) (lkN (by decide) (lkN (by decide) (rfl)))))))) ?_
  refine xT_icV (y := -1) g_q204 g204_49 (by decide) ?_
  refine xT_iastore g_q204 g204_50 (hm_at g9_ (i := 6) rfl rfl) (ixN (n := 2) (by decide) rfl) ?_
  rw [nI_clamp (by decide)]
  refine xT_aload_n g_q204 g204_51 (lkN (by decide) (lkN (by decide) (lkN (by decide) (lkN (by decide) (lkN (by decide) (lkN (by decide) (lkN (by decide) (rfl)))))))) ?_
  refine xT_getfield g_q204 g204_52 hA0 rfl (hm_at g10_ (i := 0) rfl rfl) rfl g56 ?_
  refine xT_iload_n g_q204 g204_55 (lkN (by decide) (lkN (by decide) (lkN (by decide) (lkN (by decide) (lkN (by decide) (lkN (by decide) (lkN (by decide) (rfl)))))))) ?_
  refine xT_icV (y := nI (0)) g_q204 g204_56 (by decide) ?_
  refine xT_iastore g_q204 g204_57 (hm_at g10_ (i := 9) rfl rfl) (ixN (n := 2) (by decide) rfl) ?_
  rw [nI_clamp (by decide)]
  exact xT_return_ g_q204 g204_58 (rfl)
end XH33_30
