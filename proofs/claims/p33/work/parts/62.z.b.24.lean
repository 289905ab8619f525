/-! p33 by hand, 23. -/
noncomputable section XH33_23
variable {ot : XO Int32} {dp : Nat} {H H0 : List (XC Int32)}
theorem t205_e0 {b F0 F1 ln cd ip sh shs fi fz tw tz fo pc tk dn en wo ws la W0 W1 q : Nat} {gs f0 f1 w0 w1 : List (XV Int32)} {p : rP} {u1 u2 u3 u4 u5 h0 h1 : Int32} (hA0 : ¬ 1000000 < b) (hN1 : ¬ F0 = 1000000) (hN2 : ¬ F1 = 1000000) (hN3 : ¬ pc = 1000000) (hN4 : ¬ tk = 1000000) (hN5 : ¬ dn = 1000000) (hN6 : ¬ en = 1000000) (hN7 : ¬ W0 = 1000000) (hN8 : ¬ W1 = 1000000) (hN9 : ¬ ws = 1000000) (hN10 : ¬ la = 1000000) (hl0 : f0.length = 6) (hl1 : f1.length = 6) (hm0 : w0.length = 12) (hm1 : w1.length = 12) (hG : rG gs ln cd ip sh shs fi fz tw tz fo pc tk dn en wo ws la) (hfo : rQ H0 [b, F0, F1, pc, tk, dn, en, W0, W1, ws, la] fo 5 2 0 F0 ∧ rQ H0 [b, F0, F1, pc, tk, dn, en, W0, W1, ws, la] fo 5 2 1 F1) (hwo : rQ H0 [b, F0, F1, pc, tk, dn, en, W0, W1, ws, la] wo 5 2 0 W0 ∧ rQ H0 [b, F0, F1, pc, tk, dn, en, W0, W1, ws, la] wo 5 2 1 W1) (hq : q < 12) (hC : rC H0 [b, F0, F1, pc, tk, dn, en, W0, W1, ws, la] ln cd q p) (h12 : pNl p ≤ 12) {u0 : Int32} {next x d os : Nat} (hn : next < 20000) (hd : d < 150) {L : List (Nat × XV Int32)} (l0 : x_lk L 0 = some (.inr (some (b)))) (l1 : x_lk L 1 = some (.inl (nI (q)))) (l3 : x_lk L 3 = some (.inl (nI (0)))) (l7 : x_lk L 7 = some (.inl (nI (next)))) (h : hm H0 H [b, F0, F1, pc, tk, dn, en, W0, W1, ws, la] [.inl (12, gs), .inr (0, f0), .inr (0, f1), .inr (0, [.inl (u0), .inl (u1)]), .inr (0, [.inl (nI (x)), .inl (u2)]), .inr (0, [.inl (nI (d + 1)), .inl (u3)]), .inr (0, [.inl (-1), .inl (u4)]), .inr (0, w0), .inr (0, w1), .inr (0, [.inl (nI (os)), .inl (u5)]), .inr (0, [.inl (h0), .inl (h1)])]) : ∃ H2, x_To x_tb x_tyl ot (dp + 3) 205 577 L [] H 0 0 none H2 ∧ hm H0 H2 [b, F0, F1, pc, tk, dn, en, W0, W1, ws, la] [.inl (12, gs), .inr (0, f0), .inr (0, f1), .inr (0, [.inl (nI (next)), .inl (u1)]), .inr (0, [.inl (nI (x)), .inl (u2)]), .inr (0, [.inl (nI (d + 1)), .inl (u3)]), .inr (0, [.inl ((if pNl p ≤ next then 0 else if d + 1 = 150 then 2 else -1)), .inl (u4)]), .inr (0, w0), .inr (0, w1), .inr (0, [.inl (nI (os)), .inl (u5)]), .inr (0, [.inl (h0), .inl (h1)])] := by
  obtain ⟨g1, g2, g6, g11, g12, g13, g14, g15, g16, g50, g51, g52, g53, g54, g55, g56, g57, g58⟩ := id hG
  obtain ⟨⟨D, ⟨lcd, ccd, ncd, ecd⟩, hD0, lD, cD, nD, eD⟩, hln0, lln, cln, nln, eln⟩ := id hC
  by_cases c1 : pNl p ≤ next
  · rw [if_pos c1]
    have g1_ : hm H0 _ [b, F0, F1, pc, tk, dn, en, W0, W1, ws, la] [.inl (12, gs), .inr (0, f0), .inr (0, f1), .inr (0, [.inl (nI (next)), .inl (u1)]), .inr (0, [.inl (nI (x)), .inl (u2)]), .inr (0, [.inl (nI (d + 1)), .inl (u3)]), .inr (0, [.inl (-1), .inl (u4)]), .inr (0, w0), .inr (0, w1), .inr (0, [.inl (nI (os)), .inl (u5)]), .inr (0, [.inl (h0), .inl (h1)])] := hm_set (i := 3) (z2 := .inr (0, ([.inl (u0), .inl (u1)]).set (0) (.inl (nI (next))))) h rfl
    have g2_ : hm H0 _ [b, F0, F1, pc, tk, dn, en, W0, W1, ws, la] [.inl (12, gs), .inr (0, f0), .inr (0, f1), .inr (0, [.inl (nI (next)), .inl (u1)]), .inr (0, [.inl (nI (x)), .inl (u2)]), .inr (0, [.inl (nI (d + 1)), .inl (u3)]), .inr (0, [.inl (nI (0)), .inl (u4)]), .inr (0, w0), .inr (0, w1), .inr (0, [.inl (nI (os)), .inl (u5)]), .inr (0, [.inl (h0), .inl (h1)])] := hm_set (i := 6) (z2 := .inr (0, ([.inl (-1), .inl (u4)]).set (0) (.inl (nI (0))))) g1_ rfl
    refine ⟨_, ?_, g2_⟩
    refine xT_aload_n g_q205 g205_577 (l0) ?_
    refine xT_getfield g_q205 g205_578 hA0 rfl (hm_at h (i := 0) rfl rfl) rfl g51 ?_
    refine xT_iload_n g_q205 g205_581 (l3) ?_
    refine xT_iload g_q205 g205_582 (l7) ?_
    refine xT_iastore g_q205 g205_584 (hm_at h (i := 3) rfl rfl) (ixN (n := 2) (by decide) rfl) ?_
    rw [nI_clamp (by decide)]
    refine xT_iload g_q205 g205_585 (l7) ?_
    refine xT_aload_n g_q205 g205_587 (l0) ?_
    refine xT_getfield g_q205 g205_588 hA0 rfl (hm_at g1_ (i := 0) rfl rfl) rfl g1 ?_
    refine xT_iload_n g_q205 g205_591 (l1) ?_
    refine xT_iaload g_q205 g205_592 hln0 (hm_c g1_ cln) (ixN (n := 13) (by omega) nln) (ixG (by omega) eln) ?_
    refine xT_if_icmpN g_q205 g205_593 (t := 606) (by decide) (c2N (a := next) (b := pNl p) (by omega) (by omega) (by omega)) ?_
    refine xT_aload_n g_q205 g205_596 (l0) ?_
    refine xT_getfield g_q205 g205_597 hA0 rfl (hm_at g1_ (i := 0) rfl rfl) rfl g54 ?_
    refine xT_iload_n g_q205 g205_600 (l3) ?_
    refine xT_icV (y := nI (0)) g_q205 g205_601 (by decide) ?_
    refine xT_iastore g_q205 g205_602 (hm_at g1_ (i := 6) rfl rfl) (ixN (n := 2) (by decide) rfl) ?_
    rw [nI_clamp (by decide)]
    refine xT_goto g_q205 g205_603 (t := 625) (by decide) ?_
    exact xT_return_ g_q205 g205_625 (rfl)
  rw [if_neg c1]
  by_cases c2 : d + 1 = 150
  · rw [if_pos c2]
    have g1_ : hm H0 _ [b, F0, F1, pc, tk, dn, en, W0, W1, ws, la] [.inl (12, gs), .inr (0, f0), .inr (0, f1), .inr (0, [.inl (nI (next)), .inl (u1)]), .inr (0, [.inl (nI (x)), .inl (u2)]), .inr (0, [.inl (nI (d + 1)), .inl (u3)]), .inr (0, [.inl (-1), .inl (u4)]), .inr (0, w0), .inr (0, w1), .inr (0, [.inl (nI (os)), .inl (u5)]), .inr (0, [.inl (h0), .inl (h1)])] := hm_set (i := 3) (z2 := .inr (0, ([.inl (u0), .inl (u1)]).set (0) (.inl (nI (next))))) h rfl
    have g2_ : hm H0 _ [b, F0, F1, pc, tk, dn, en, W0, W1, ws, la] [.inl (12, gs), .inr (0, f0), .inr (0, f1), .inr (0, [.inl (nI (next)), .inl (u1)]), .inr (0, [.inl (nI (x)), .inl (u2)]), .inr (0, [.inl (nI (d + 1)), .inl (u3)]), .inr (0, [.inl (nI (2)), .inl (u4)]), .inr (0, w0), .inr (0, w1), .inr (0, [.inl (nI (os)), .inl (u5)]), .inr (0, [.inl (h0), .inl (h1)])] := hm_set (i := 6) (z2 := .inr (0, ([.inl (-1), .inl (u4)]).set (0) (.inl (nI (2))))) g1_ rfl
    refine ⟨_, ?_, g2_⟩
    refine xT_aload_n g_q205 g205_577 (l0) ?_
    refine xT_getfield g_q205 g205_578 hA0 rfl (hm_at h (i := 0) rfl rfl) rfl g51 ?_
    refine xT_iload_n g_q205 g205_581 (l3) ?_
    refine xT_iload g_q205 g205_582 (l7) ?_
    refine xT_iastore g_q205 g205_584 (hm_at h (i := 3) rfl rfl) (ixN (n := 2) (by decide) rfl) ?_
    rw [nI_clamp (by decide)]
    refine xT_iload g_q205 g205_585 (l7) ?_
    refine xT_aload_n g_q205 g205_587 (l0) ?_
    refine xT_getfield g_q205 g205_588 hA0 rfl (hm_at g1_ (i := 0) rfl rfl) rfl g1 ?_
    refine xT_iload_n g_q205 g205_591 (l1) ?_
    refine xT_iaload g_q205 g205_592 hln0 (hm_c g1_ cln) (ixN (n := 13) (by omega) nln) (ixG (by omega) eln) ?_
    refine xT_if_icmpY g_q205 g205_593 (t := 606) (by decide) (c2Y (a := next) (b := pNl p) (by omega) (by omega) (by omega)) ?_
    refine xT_aload_n g_q205 g205_606 (l0) ?_
    refine xT_getfield g_q205 g205_607 hA0 rfl (hm_at g1_ (i := 0) rfl rfl) rfl g53 ?_
    refine xT_iload_n g_q205 g205_610 (l3) ?_
    refine xT_iaload g_q205 g205_611 hN5 (hm_at g1_ (i := 5) rfl rfl) (ixN (n := 2) (by decide) rfl) (ixG (by decide) rfl) ?_
    refine xT_siV (y := nI (150)) g_q205 g205_612 (by decide) ?_
    refine xT_if_icmpN g_q205 g205_615 (t := 625) (by decide) (c1N (a := d + 1) (b := 150) c2) ?_
    refine xT_aload_n g_q205 g205_618 (l0) ?_
    refine xT_getfield g_q205 g205_619 hA0 rfl (hm_at g1_ (i := 0) rfl rfl) rfl g54 ?_
    refine xT_iload_n g_q205 g205_622 (l3) ?_
    refine xT_icV (y := nI (2)) g_q205 g205_623 (by decide) ?_
    refine xT_iastore g_q205 g205_624 (hm_at g1_ (i := 6) rfl rfl) (ixN (n := 2) (by decide) rfl) ?_
    rw [nI_clamp (by decide)]
    exact xT_return_ g_q205 g205_625 (rfl)
  · rw [if_neg c2]
    have g1_ : hm H0 _ [b, F0, F1, pc, tk, dn, en, W0, W1, ws, la] [.inl (12, gs), .inr (0, f0), .inr (0, f1), .inr (0, [.inl (nI (next)), .inl (u1)]), .inr (0, [.inl (nI (x)), .inl (u2)]), .inr (0, [.inl (nI (d + 1)), .inl (u3)]), .inr (0, [.inl (-1), .inl (u4)]), .inr (0, w0), .inr (0, w1), .inr (0, [.inl (nI (os)), .inl (u5)]), .inr (0, [.inl (h0), .inl (h1)])] := hm_set (i := 3) (z2 := .inr (0, ([.inl (u0), .inl (u1)]).set (0) (.inl (nI (next))))) h rfl
    refine ⟨_, ?_, g1_⟩
    refine xT_aload_n g_q205 g205_577 (l0) ?_
    refine xT_getfield g_q205 g205_578 hA0 rfl (hm_at h (i := 0) rfl rfl) rfl g51 ?_
    refine xT_iload_n g_q205 g205_581 (l3) ?_
    refine xT_iload g_q205 g205_582 (l7) ?_
    refine xT_iastore g_q205 g205_584 (hm_at h (i := 3) rfl rfl) (ixN (n := 2) (by decide) rfl) ?_
    rw [nI_clamp (by decide)]
    refine xT_iload g_q205 g205_585 (l7) ?_
    refine xT_aload_n g_q205 g205_587 (l0) ?_
    refine xT_getfield g_q205 g205_588 hA0 rfl (hm_at g1_ (i := 0) rfl rfl) rfl g1 ?_
    refine xT_iload_n g_q205 g205_591 (l1) ?_
    refine xT_iaload g_q205 g205_592 hln0 (hm_c g1_ cln) (ixN (n := 13) (by omega) nln) (ixG (by omega) eln) ?_
    refine xT_if_icmpY g_q205 g205_593 (t := 606) (by decide) (c2Y (a := next) (b := pNl p) (by omega) (by omega) (by omega)) ?_
    refine xT_aload_n g_q205 g205_606 (l0) ?_
    refine xT_getfield g_q205 g205_607 hA0 rfl (hm_at g1_ (i := 0) rfl rfl) rfl g53 ?_
    refine xT_iload_n g_q205 g205_610 (l3) ?_
    refine xT_iaload g_q205 g205_611 hN5 (hm_at g1_ (i := 5) rfl rfl) (ixN (n := 2) (by decide) rfl) (ixG (by decide) rfl) ?_
    refine xT_siV (y := nI (150)) g_q205 g205_612 (by decide) ?_
    refine xT_if_icmpY g_q205 g205_615 (t := 625) (by decide) (c1Y (a := d + 1) (b := 150) (by omega) (by omega) (by omega)) ?_
    exact xT_return_ g_q205 g205_625 (rfl)
end XH33_23
