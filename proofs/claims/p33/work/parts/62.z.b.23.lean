/-! p33 by hand, 22. -/
noncomputable section XH33_22
variable {ot : XO Int32} {dp : Nat} {H H0 : List (XC Int32)}
theorem t207_1 {b F0 F1 ln cd ip sh shs fi fz tw tz fo pc tk dn en wo ws la W0 W1 q : Nat} {gs f0 f1 w0 w1 : List (XV Int32)} {p : rP} {a0 a1 b0 b1 c0 c1 d0 d1 e0 e1 h0 h1 : Int32} (hA0 : ¬ 1000000 < b) (hN1 : ¬ F0 = 1000000) (hN2 : ¬ F1 = 1000000) (hN3 : ¬ pc = 1000000) (hN4 : ¬ tk = 1000000) (hN5 : ¬ dn = 1000000) (hN6 : ¬ en = 1000000) (hN7 : ¬ W0 = 1000000) (hN8 : ¬ W1 = 1000000) (hN9 : ¬ ws = 1000000) (hN10 : ¬ la = 1000000) (hl0 : f0.length = 6) (hl1 : f1.length = 6) (hm0 : w0.length = 12) (hm1 : w1.length = 12) (hG : rG gs ln cd ip sh shs fi fz tw tz fo pc tk dn en wo ws la) (hfo : rQ H0 [b, F0, F1, pc, tk, dn, en, W0, W1, ws, la] fo 5 2 0 F0 ∧ rQ H0 [b, F0, F1, pc, tk, dn, en, W0, W1, ws, la] fo 5 2 1 F1) (hwo : rQ H0 [b, F0, F1, pc, tk, dn, en, W0, W1, ws, la] wo 5 2 0 W0 ∧ rQ H0 [b, F0, F1, pc, tk, dn, en, W0, W1, ws, la] wo 5 2 1 W1) (hq : q < 12) (hN : rN H0 [b, F0, F1, pc, tk, dn, en, W0, W1, ws, la] ip sh shs tw tz q p) (h12 : pNi p ≤ 12) (h : hm H0 H [b, F0, F1, pc, tk, dn, en, W0, W1, ws, la] [.inl (12, gs), .inr (0, f0), .inr (0, f1), .inr (0, [.inl (a0), .inl (a1)]), .inr (0, [.inl (b0), .inl (b1)]), .inr (0, [.inl (c0), .inl (c1)]), .inr (0, [.inl (d0), .inl (d1)]), .inr (0, w0), .inr (0, w1), .inr (0, [.inl (e0), .inl (e1)]), .inr (0, [.inl (h0), .inl (h1)])]) : x_To x_tb x_tyl ot dp 207 0 (x_en 0 [.inr (some (b)), .inl (nI (q)), .inl (nI (1))]) [] H 0 0 (some (.inl (nI (pNi p)))) H := by
  obtain ⟨g1, g2, g6, g11, g12, g13, g14, g15, g16, g50, g51, g52, g53, g54, g55, g56, g57, g58⟩ := id hG
  obtain ⟨⟨hip0, lip, cip, nip, eip⟩, ⟨hshs0, lshs, cshs, nshs, eshs⟩, r, w, ⟨lsh, csh, nsh, esh⟩, hr0, cr, nr, er⟩ | ⟨s, hs12, ⟨hip0, lip, cip, nip, eip⟩, ⟨hsz0, lsz, csz, nsz, esz⟩, r, ⟨lrw, crw, nrw, erw⟩, ⟨hr0, w, cr, nr, er⟩⟩ := id hN
  · skip
    refine xT_aload_n g_q207 g207_0 (rfl) ?_
    refine xT_getfield g_q207 g207_1 hA0 rfl (hm_at h (i := 0) rfl rfl) rfl g6 ?_
    refine xT_iload_n g_q207 g207_4 (rfl) ?_
    refine xT_iaload g_q207 g207_5 hip0 (hm_c h cip) (ixN (n := 12) (by omega) nip) (ixG (by omega) eip) ?_
    refine xT_ifCondN g_q207 g207_6 (t := 18) (by decide) ((by decide +kernel)) ?_
    refine xT_aload_n g_q207 g207_9 (rfl) ?_
    refine xT_getfield g_q207 g207_10 hA0 rfl (hm_at h (i := 0) rfl rfl) rfl g12 ?_
    refine xT_iload_n g_q207 g207_13 (rfl) ?_
    refine xT_iaload g_q207 g207_14 hshs0 (hm_c h cshs) (ixN (n := 12) (by omega) nshs) (ixG (by omega) eshs) ?_
    refine xT_goto g_q207 g207_15 (t := 48) (by decide) ?_
    exact xT_ireturn g_q207 g207_48 (rfl)
  · skip
    refine xT_aload_n g_q207 g207_0 (rfl) ?_
    refine xT_getfield g_q207 g207_1 hA0 rfl (hm_at h (i := 0) rfl rfl) rfl g6 ?_
    refine xT_iload_n g_q207 g207_4 (rfl) ?_
    refine xT_iaload g_q207 g207_5 hip0 (hm_c h cip) (ixN (n := 12) (by omega) nip) (ixG (by omega) eip) ?_
    refine xT_ifCondY g_q207 g207_6 (t := 18) (by decide) (c3Y (a := s) (b := 0) (Nat.zero_le _) (by omega) (by omega)) ?_
    refine xT_iload_n g_q207 g207_18 (rfl) ?_
    refine xT_icV (y := nI (1)) g_q207 g207_19 (by decide) ?_
    refine xT_if_icmpN g_q207 g207_20 (t := 37) (by decide) (c1N (a := 1) (b := 1) rfl) ?_
    refine xT_aload_n g_q207 g207_23 (rfl) ?_
    refine xT_getfield g_q207 g207_24 hA0 rfl (hm_at h (i := 0) rfl rfl) rfl g16 ?_
    refine xT_aload_n g_q207 g207_27 (rfl) ?_
    refine xT_getfield g_q207 g207_28 hA0 rfl (hm_at h (i := 0) rfl rfl) rfl g6 ?_
    refine xT_iload_n g_q207 g207_31 (rfl) ?_
    refine xT_iaload g_q207 g207_32 hip0 (hm_c h cip) (ixN (n := 12) (by omega) nip) (ixG (by omega) eip) ?_
    refine xT_iaload g_q207 g207_33 hsz0 (hm_c h csz) (ixN (n := 12) (by omega) nsz) (ixG (by omega) esz) ?_
    refine xT_goto g_q207 g207_34 (t := 48) (by decide) ?_
    exact xT_ireturn g_q207 g207_48 (rfl)
theorem t208_1 {b F0 F1 ln cd ip sh shs fi fz tw tz fo pc tk dn en wo ws la W0 W1 q : Nat} {gs f0 f1 w0 w1 : List (XV Int32)} {p : rP} {a0 a1 b0 b1 c0 c1 d0 d1 e0 e1 h0 h1 : Int32} (hA0 : ¬ 1000000 < b) (hN1 : ¬ F0 = 1000000) (hN2 : ¬ F1 = 1000000) (hN3 : ¬ pc = 1000000) (hN4 : ¬ tk = 1000000) (hN5 : ¬ dn = 1000000) (hN6 : ¬ en = 1000000) (hN7 : ¬ W0 = 1000000) (hN8 : ¬ W1 = 1000000) (hN9 : ¬ ws = 1000000) (hN10 : ¬ la = 1000000) (hl0 : f0.length = 6) (hl1 : f1.length = 6) (hm0 : w0.length = 12) (hm1 : w1.length = 12) (hG : rG gs ln cd ip sh shs fi fz tw tz fo pc tk dn en wo ws la) (hfo : rQ H0 [b, F0, F1, pc, tk, dn, en, W0, W1, ws, la] fo 5 2 0 F0 ∧ rQ H0 [b, F0, F1, pc, tk, dn, en, W0, W1, ws, la] fo 5 2 1 F1) (hwo : rQ H0 [b, F0, F1, pc, tk, dn, en, W0, W1, ws, la] wo 5 2 0 W0 ∧ rQ H0 [b, F0, F1, pc, tk, dn, en, W0, W1, ws, la] wo 5 2 1 W1) (hq : q < 12) (hN : rN H0 [b, F0, F1, pc, tk, dn, en, W0, W1, ws, la] ip sh shs tw tz q p) (h12 : pNi p ≤ 12) (h : hm H0 H [b, F0, F1, pc, tk, dn, en, W0, W1, ws, la] [.inl (12, gs), .inr (0, f0), .inr (0, f1), .inr (0, [.inl (a0), .inl (a1)]), .inr (0, [.inl (b0), .inl (b1)]), .inr (0, [.inl (c0), .inl (c1)]), .inr (0, [.inl (d0), .inl (d1)]), .inr (0, w0), .inr (0, w1), .inr (0, [.inl (e0), .inl (e1)]), .inr (0, [.inl (h0), .inl (h1)])]) {k : Nat} (hk : k < pNi p) : x_To x_tb x_tyl ot dp 208 0 (x_en 0 [.inr (some (b)), .inl (nI (q)), .inl (nI (k)), .inl (nI (1))]) [] H 0 0 (some (.inl (pIv p k))) H := by
  obtain ⟨g1, g2, g6, g11, g12, g13, g14, g15, g16, g50, g51, g52, g53, g54, g55, g56, g57, g58⟩ := id hG
  obtain ⟨⟨hip0, lip, cip, nip, eip⟩, ⟨hshs0, lshs, cshs, nshs, eshs⟩, r, w, ⟨lsh, csh, nsh, esh⟩, hr0, cr, nr, er⟩ | ⟨s, hs12, ⟨hip0, lip, cip, nip, eip⟩, ⟨hsz0, lsz, csz, nsz, esz⟩, r, ⟨lrw, crw, nrw, erw⟩, ⟨hr0, w, cr, nr, er⟩⟩ := id hN
  · obtain ⟨x, hx, hv⟩ := er k hk
    by_cases c : x = -1
    · rw [hv, if_pos c]
      subst c
      refine xT_aload_n g_q208 g208_0 (rfl) ?_
      refine xT_getfield g_q208 g208_1 hA0 rfl (hm_at h (i := 0) rfl rfl) rfl g6 ?_
      refine xT_iload_n g_q208 g208_4 (rfl) ?_
      refine xT_iaload g_q208 g208_5 hip0 (hm_c h cip) (ixN (n := 12) (by omega) nip) (ixG (by omega) eip) ?_
      refine xT_ifCondN g_q208 g208_6 (t := 20) (by decide) ((by decide +kernel)) ?_
      refine xT_aload_n g_q208 g208_9 (rfl) ?_
      refine xT_getfield g_q208 g208_10 hA0 rfl (hm_at h (i := 0) rfl rfl) rfl g11 ?_
      refine xT_iload_n g_q208 g208_13 (rfl) ?_
      refine xT_aaload g_q208 g208_14 (by decide +kernel) (hm_c h csh) (ixN (n := 12) (by omega) nsh) (ixG (by omega) esh) ?_
      refine xT_iload_n g_q208 g208_15 (rfl) ?_
      refine xT_iaload g_q208 g208_16 hr0 (hm_c h cr) (ixN (n := 12) (by omega) nr) (ixG (by omega) hx) ?_
      refine xT_goto g_q208 g208_17 (t := 54) (by decide) ?_
      refine xT_istore g_q208 g208_54 (by decide) ?_
      refine xT_aload_n g_q208 g208_56 (lkN (by decide) (rfl)) ?_
      refine xT_getfield g_q208 g208_57 hA0 rfl (hm_at h (i := 0) rfl rfl) rfl g6 ?_
      refine xT_iload_n g_q208 g208_60 (lkN (by decide) (rfl)) ?_
      refine xT_iaload g_q208 g208_61 hip0 (hm_c h cip) (ixN (n := 12) (by omega) nip) (ixG (by omega) eip) ?_
      refine xT_ifCondN g_q208 g208_62 (t := 75) (by decide) ((by decide +kernel)) ?_
      refine xT_iload g_q208 g208_65 (lkY) ?_
      refine xT_icV (y := -1) g_q208 g208_67 (by decide) ?_
      refine xT_if_icmpN g_q208 g208_68 (t := 75) (by decide) ((show x_cmp 1 (-1 : Int32) (-1) = false by decide +kernel)) ?_
      refine xT_icV (y := nI (0)) g_q208 g208_71 (by decide) ?_
      refine xT_goto g_q208 g208_72 (t := 77) (by decide) ?_
      exact xT_ireturn g_q208 g208_77 (rfl)
    · rw [hv, if_neg c]
      refine xT_aload_n g_q208 g208_0 (rfl) ?_
      refine xT_getfield g_q208 g208_1 hA0 rfl (hm_at h (i := 0) rfl rfl) rfl g6 ?_
      refine xT_iload_n g_q208 g208_4 (rfl) ?_
      refine xT_iaload g_q208 g208_5 hip0 (hm_c h cip) (ixN (n := 12) (by omega) nip) (ixG (by omega) eip) ?_
      refine xT_ifCondN g_q208 g208_6 (t := 20) (by decide) ((by decide +kernel)) ?_
      refine xT_aload_n g_q208 g208_9 (rfl) ?_
      refine xT_getfield g_q208 g208_10 hA0 rfl (hm_at h (i := 0) rfl rfl) rfl g11 ?_
      refine xT_iload_n g_q208 g208_13 (rfl) ?_
      refine xT_aaload g_q208 g208_14 (by decide +kernel) (hm_c h csh) (ixN (n := 12) (by omega) nsh) (ixG (by omega) esh) ?_
      refine xT_iload_n g_q208 g208_15 (rfl) ?_
      refine xT_iaload g_q208 g208_16 hr0 (hm_c h cr) (ixN (n := 12) (by omega) nr) (ixG (by omega) hx) ?_
      refine xT_goto g_q208 g208_17 (t := 54) (by decide) ?_
      refine xT_istore g_q208 g208_54 (by decide) ?_
      refine xT_aload_n g_q208 g208_56 (lkN (by decide) (rfl)) ?_
      refine xT_getfield g_q208 g208_57 hA0 rfl (hm_at h (i := 0) rfl rfl) rfl g6 ?_
      refine xT_iload_n g_q208 g208_60 (lkN (by decide) (rfl)) ?_
      refine xT_iaload g_q208 g208_61 hip0 (hm_c h cip) (ixN (n := 12) (by omega) nip) (ixG (by omega) eip) ?_
      refine xT_ifCondN g_q208 g208_62 (t := 75) (by decide) ((by decide +kernel)) ?_
      refine xT_iload g_q208 g208_65 (lkY) ?_
      refine xT_icV (y := -1) g_q208 g208_67 (by decide) ?_
      refine xT_if_icmpY g_q208 g208_68 (t := 75) (by decide) (decide_eq_true c) ?_
      refine xT_iload g_q208 g208_75 (lkY) ?_
      exact xT_ireturn g_q208 g208_77 (rfl)
  · skip
    refine xT_aload_n g_q208 g208_0 (rfl) ?_
    refine xT_getfield g_q208 g208_1 hA0 rfl (hm_at h (i := 0) rfl rfl) rfl g6 ?_
    refine xT_iload_n g_q208 g208_4 (rfl) ?_
    refine xT_iaload g_q208 g208_5 hip0 (hm_c h cip) (ixN (n := 12) (by omega) nip) (ixG (by omega) eip) ?_
    refine xT_ifCondY g_q208 g208_6 (t := 20) (by decide) (c3Y (a := s) (b := 0) (Nat.zero_le _) (by omega) (by omega)) ?_
    refine xT_iload_n g_q208 g208_20 (rfl) ?_
    refine xT_icV (y := nI (1)) g_q208 g208_21 (by decide) ?_
    refine xT_if_icmpN g_q208 g208_22 (t := 41) (by decide) (c1N (a := 1) (b := 1) rfl) ?_
    refine xT_aload_n g_q208 g208_25 (rfl) ?_
    refine xT_getfield g_q208 g208_26 hA0 rfl (hm_at h (i := 0) rfl rfl) rfl g15 ?_
    refine xT_aload_n g_q208 g208_29 (rfl) ?_
    refine xT_getfield g_q208 g208_30 hA0 rfl (hm_at h (i := 0) rfl rfl) rfl g6 ?_
    refine xT_iload_n g_q208 g208_33 (rfl) ?_
    refine xT_iaload g_q208 g208_34 hip0 (hm_c h cip) (ixN (n := 12) (by omega) nip) (ixG (by omega) eip) ?_
    refine xT_aaload g_q208 g208_35 (by decide +kernel) (hm_c h crw) (ixN (n := 12) (by omega) nrw) (ixG (by omega) erw) ?_
    refine xT_iload_n g_q208 g208_36 (rfl) ?_
    refine xT_iaload g_q208 g208_37 hr0 (hm_c h cr) (ixN (n := 12) (by omega) nr) (ixG (by omega) (er _ (by omega))) ?_
    refine xT_goto g_q208 g208_38 (t := 54) (by decide) ?_
    refine xT_istore g_q208 g208_54 (by decide) ?_
    refine xT_aload_n g_q208 g208_56 (lkN (by decide) (rfl)) ?_
    refine xT_getfield g_q208 g208_57 hA0 rfl (hm_at h (i := 0) rfl rfl) rfl g6 ?_
    refine xT_iload_n g_q208 g208_60 (lkN (by decide) (rfl)) ?_
    refine xT_iaload g_q208 g208_61 hip0 (hm_c h cip) (ixN (n := 12) (by omega) nip) (ixG (by omega) eip) ?_
    refine xT_ifCondY g_q208 g208_62 (t := 75) (by decide) (c3Y (a := s) (b := 0) (Nat.zero_le _) (by omega) (by omega)) ?_
    refine xT_iload g_q208 g208_75 (lkY) ?_
    exact xT_ireturn g_q208 g208_77 (rfl)
end XH33_22
