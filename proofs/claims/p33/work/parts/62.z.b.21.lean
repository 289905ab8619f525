/-! p33 by hand, 20. -/
noncomputable section XH33_20
variable {ot : XO Int32} {dp : Nat} {H H0 : List (XC Int32)}
theorem t199 {v : Int32} : x_To x_tb x_tyl ot dp 199 0 (x_en 0 [.inl (v), .inl (nI (2)), .inl (-1)]) [] H 0 0 (some (.inl v)) H := by
  refine xT_iload_n g_q199 g199_0 (rfl) ?_
  refine xT_icV (y := nI (2)) g_q199 g199_1 (by decide) ?_
  refine xT_if_icmpN g_q199 g199_2 (t := 30) (by decide) (c1N (a := 2) (b := 2) rfl) ?_
  refine xT_iload_n g_q199 g199_5 (rfl) ?_
  refine xT_ifCondY g_q199 g199_6 (t := 30) (by decide) ((by decide +kernel)) ?_
  refine xT_iload_n g_q199 g199_30 (rfl) ?_
  exact xT_ireturn g_q199 g199_31 (rfl)
theorem t206_0 {b F0 F1 ln cd ip sh shs fi fz tw tz fo pc tk dn en wo ws la W0 W1 q : Nat} {gs f0 f1 w0 w1 : List (XV Int32)} {p : rP} {a0 a1 b0 b1 c0 c1 d0 d1 e0 e1 h0 h1 : Int32} (hA0 : ¬ 1000000 < b) (hN1 : ¬ F0 = 1000000) (hN2 : ¬ F1 = 1000000) (hN3 : ¬ pc = 1000000) (hN4 : ¬ tk = 1000000) (hN5 : ¬ dn = 1000000) (hN6 : ¬ en = 1000000) (hN7 : ¬ W0 = 1000000) (hN8 : ¬ W1 = 1000000) (hN9 : ¬ ws = 1000000) (hN10 : ¬ la = 1000000) (hl0 : f0.length = 6) (hl1 : f1.length = 6) (hm0 : w0.length = 12) (hm1 : w1.length = 12) (hG : rG gs ln cd ip sh shs fi fz tw tz fo pc tk dn en wo ws la) (hfo : rQ H0 [b, F0, F1, pc, tk, dn, en, W0, W1, ws, la] fo 5 2 0 F0 ∧ rQ H0 [b, F0, F1, pc, tk, dn, en, W0, W1, ws, la] fo 5 2 1 F1) (hwo : rQ H0 [b, F0, F1, pc, tk, dn, en, W0, W1, ws, la] wo 5 2 0 W0 ∧ rQ H0 [b, F0, F1, pc, tk, dn, en, W0, W1, ws, la] wo 5 2 1 W1) (hq : q < 12) (hT : rT H0 [b, F0, F1, pc, tk, dn, en, W0, W1, ws, la] gs q 0 p) (h : hm H0 H [b, F0, F1, pc, tk, dn, en, W0, W1, ws, la] [.inl (12, gs), .inr (0, f0), .inr (0, f1), .inr (0, [.inl (a0), .inl (a1)]), .inr (0, [.inl (b0), .inl (b1)]), .inr (0, [.inl (c0), .inl (c1)]), .inr (0, [.inl (d0), .inl (d1)]), .inr (0, w0), .inr (0, w1), .inr (0, [.inl (e0), .inl (e1)]), .inr (0, [.inl (h0), .inl (h1)])]) {f : Nat} (hf : f < 6) {v : Int32} : x_To x_tb x_tyl ot (dp + 1) 206 0 (x_en 0 [.inr (some (b)), .inl (nI (q)), .inl (nI (f)), .inl (v), .inl (nI (0))]) [] H 0 0 (some (.inl (pCut p v))) H := by
  obtain ⟨g1, g2, g6, g11, g12, g13, g14, g15, g16, g50, g51, g52, g53, g54, g55, g56, g57, g58⟩ := id hG
  obtain ⟨z, -⟩ | ⟨-, hcut, hlp, dg, pv, ru, dr, pr, g3, g4, g5, ⟨ldg, cdg, ndg, edg⟩, ⟨lpv, cpv, npv, epv⟩, ⟨hdr0, ldr, cdr, ndr, edr⟩, ⟨hpr0, lpr, cpr, npr, epr⟩, ⟨hru0, lru, cru, nru, eru⟩⟩ := id hT
  · exact absurd z (by decide)
  rw [hcut]
  refine xT_iload g_q206 g206_0 (rfl) ?_
  refine xT_icV (y := nI (1)) g_q206 g206_2 (by decide) ?_
  refine xT_if_icmpY g_q206 g206_3 (t := 10) (by decide) (c1Y (a := 0) (b := 1) (by omega) (by omega) (by omega)) ?_
  refine xT_iload_n g_q206 g206_10 (rfl) ?_
  refine xT_aload_n g_q206 g206_11 (rfl) ?_
  refine xT_getfield g_q206 g206_12 hA0 rfl (hm_at h (i := 0) rfl rfl) rfl g3 ?_
  refine xT_iload_n g_q206 g206_15 (rfl) ?_
  refine xT_aaload g_q206 g206_16 (by decide +kernel) (hm_c h cdg) (ixN (n := 12) (by omega) ndg) (ixG (by omega) edg) ?_
  refine xT_iload_n g_q206 g206_17 (rfl) ?_
  refine xT_iaload g_q206 g206_18 hdr0 (hm_c h cdr) (ixN (n := 6) (by omega) ndr) (ixG (by omega) (edr _ (by omega))) ?_
  refine xT_icV (y := nI (2)) g_q206 g206_19 (by decide) ?_
  refine xT_if_icmpN g_q206 g206_20 (t := 28) (by decide) (c1N (a := 2) (b := 2) rfl) ?_
  refine xT_biV (y := nI (100)) g_q206 g206_23 (by decide) ?_
  refine xT_goto g_q206 g206_25 (t := 31) (by decide) ?_
  refine xT_invokestatic (r := []) (u := some (.inl ((fmI v)))) g_q206 g206_31 (j := 71) (so := 2) (by decide +kernel) g_q71 (rfl) (t71) ?_
  exact xT_ireturn g_q206 g206_34 (rfl)
theorem t206_1 {H0 : List (XC Int32)} {As : List Nat} {gs : List (XV Int32)} {b q : Nat} {p : rP} (hT : rT H0 As gs q 1 p) {f : Nat} {v : Int32} : x_To x_tb x_tyl ot dp 206 0 (x_en 0 [.inr (some (b)), .inl (nI (q)), .inl (nI (f)), .inl (v), .inl (nI (1))]) [] H 0 0 (some (.inl (pCut p v))) H := by
  obtain ⟨-, hcut, hlp⟩ | ⟨z, -⟩ := id hT
  rotate_left
  · exact absurd z (by decide)
  rw [hcut]
  refine xT_iload g_q206 g206_0 (rfl) ?_
  refine xT_icV (y := nI (1)) g_q206 g206_2 (by decide) ?_
  refine xT_if_icmpN g_q206 g206_3 (t := 10) (by decide) (c1N (a := 1) (b := 1) rfl) ?_
  refine xT_iload_n g_q206 g206_6 (rfl) ?_
  refine xT_goto g_q206 g206_7 (t := 34) (by decide) ?_
  exact xT_ireturn g_q206 g206_34 (rfl)
theorem t209_0 {b F0 F1 ln cd ip sh shs fi fz tw tz fo pc tk dn en wo ws la W0 W1 q : Nat} {gs f0 f1 w0 w1 : List (XV Int32)} {p : rP} {a0 a1 b0 b1 c0 c1 d0 d1 e0 e1 h0 h1 : Int32} (hA0 : ¬ 1000000 < b) (hN1 : ¬ F0 = 1000000) (hN2 : ¬ F1 = 1000000) (hN3 : ¬ pc = 1000000) (hN4 : ¬ tk = 1000000) (hN5 : ¬ dn = 1000000) (hN6 : ¬ en = 1000000) (hN7 : ¬ W0 = 1000000) (hN8 : ¬ W1 = 1000000) (hN9 : ¬ ws = 1000000) (hN10 : ¬ la = 1000000) (hl0 : f0.length = 6) (hl1 : f1.length = 6) (hm0 : w0.length = 12) (hm1 : w1.length = 12) (hG : rG gs ln cd ip sh shs fi fz tw tz fo pc tk dn en wo ws la) (hfo : rQ H0 [b, F0, F1, pc, tk, dn, en, W0, W1, ws, la] fo 5 2 0 F0 ∧ rQ H0 [b, F0, F1, pc, tk, dn, en, W0, W1, ws, la] fo 5 2 1 F1) (hwo : rQ H0 [b, F0, F1, pc, tk, dn, en, W0, W1, ws, la] wo 5 2 0 W0 ∧ rQ H0 [b, F0, F1, pc, tk, dn, en, W0, W1, ws, la] wo 5 2 1 W1) (hq : q < 12) (hT : rT H0 [b, F0, F1, pc, tk, dn, en, W0, W1, ws, la] gs q 0 p) {n0_ : Nat → Int32} (hf0 : ∀ k, k < 6 → f0[k]? = some (.inl (n0_ k))) (h : hm H0 H [b, F0, F1, pc, tk, dn, en, W0, W1, ws, la] [.inl (12, gs), .inr (0, f0), .inr (0, f1), .inr (0, [.inl (a0), .inl (a1)]), .inr (0, [.inl (b0), .inl (b1)]), .inr (0, [.inl (c0), .inl (c1)]), .inr (0, [.inl (d0), .inl (d1)]), .inr (0, w0), .inr (0, w1), .inr (0, [.inl (e0), .inl (e1)]), .inr (0, [.inl (h0), .inl (h1)])]) {f : Nat} (hf : f < 6) : x_To x_tb x_tyl ot (dp + 1) 209 0 (x_en 0 [.inr (some (b)), .inl (nI (q)), .inl (nI (f)), .inl (nI (0))]) [] H 0 0 (some (.inl (n0_ f))) H := by
  obtain ⟨g1, g2, g6, g11, g12, g13, g14, g15, g16, g50, g51, g52, g53, g54, g55, g56, g57, g58⟩ := id hG
  obtain ⟨⟨lfo, cfo, nfo, efo0⟩, ⟨lfo1, cfo1, nfo1, efo1⟩⟩ := id hfo
  obtain ⟨⟨lwo, cwo, nwo, ewo0⟩, ⟨lwo1, cwo1, nwo1, ewo1⟩⟩ := id hwo
  obtain ⟨z, -⟩ | ⟨-, hcut, hlp, dg, pv, ru, dr, pr, g3, g4, g5, ⟨ldg, cdg, ndg, edg⟩, ⟨lpv, cpv, npv, epv⟩, ⟨hdr0, ldr, cdr, ndr, edr⟩, ⟨hpr0, lpr, cpr, npr, epr⟩, ⟨hru0, lru, cru, nru, eru⟩⟩ := id hT
  · exact absurd z (by decide)
  refine xT_iload_n g_q209 g209_0 (rfl) ?_
  refine xT_icV (y := nI (1)) g_q209 g209_1 (by decide) ?_
  refine xT_if_icmpY g_q209 g209_2 (t := 16) (by decide) (c1Y (a := 0) (b := 1) (by omega) (by omega) (by omega)) ?_
  refine xT_aload_n g_q209 g209_16 (rfl) ?_
  refine xT_getfield g_q209 g209_17 hA0 rfl (hm_at h (i := 0) rfl rfl) rfl g50 ?_
  refine xT_icV (y := nI (0)) g_q209 g209_20 (by decide) ?_
  refine xT_aaload g_q209 g209_21 (by decide +kernel) (hm_c h cfo) (ixN (n := 2) (by decide) nfo) (ixG (by decide) efo0) ?_
  refine xT_iload_n g_q209 g209_22 (rfl) ?_
  refine xT_iaload g_q209 g209_23 hN1 (hm_at h (i := 1) rfl rfl) (ixN (n := 6) (by omega) hl0) (ixG (by omega) (hf0 _ (by omega))) ?_
  refine xT_aload_n g_q209 g209_24 (rfl) ?_
  refine xT_getfield g_q209 g209_25 hA0 rfl (hm_at h (i := 0) rfl rfl) rfl g3 ?_
  refine xT_iload_n g_q209 g209_28 (rfl) ?_
  refine xT_aaload g_q209 g209_29 (by decide +kernel) (hm_c h cdg) (ixN (n := 12) (by omega) ndg) (ixG (by omega) edg) ?_
  refine xT_iload_n g_q209 g209_30 (rfl) ?_
  refine xT_iaload g_q209 g209_31 hdr0 (hm_c h cdr) (ixN (n := 6) (by omega) ndr) (ixG (by omega) (edr _ (by omega))) ?_
  refine xT_aload_n g_q209 g209_32 (rfl) ?_
  refine xT_getfield g_q209 g209_33 hA0 rfl (hm_at h (i := 0) rfl rfl) rfl g4 ?_
  refine xT_iload_n g_q209 g209_36 (rfl) ?_
  refine xT_aaload g_q209 g209_37 (by decide +kernel) (hm_c h cpv) (ixN (n := 12) (by omega) npv) (ixG (by omega) epv) ?_
  refine xT_iload_n g_q209 g209_38 (rfl) ?_
  refine xT_iaload g_q209 g209_39 hpr0 (hm_c h cpr) (ixN (n := 6) (by omega) npr) (ixG (by omega) (epr _ (by omega))) ?_
  refine xT_invokestatic (r := []) (u := some (.inl ((n0_ (f))))) g_q209 g209_40 (j := 199) (so := 2) (by decide +kernel) g_q199 (rfl) (t199) ?_
  exact xT_ireturn g_q209 g209_43 (rfl)
theorem t209_1 {b F0 F1 ln cd ip sh shs fi fz tw tz fo pc tk dn en wo ws la W0 W1 q : Nat} {gs f0 f1 w0 w1 : List (XV Int32)} {a0 a1 b0 b1 c0 c1 d0 d1 e0 e1 h0 h1 : Int32} (hA0 : ¬ 1000000 < b) (hN1 : ¬ F0 = 1000000) (hN2 : ¬ F1 = 1000000) (hN3 : ¬ pc = 1000000) (hN4 : ¬ tk = 1000000) (hN5 : ¬ dn = 1000000) (hN6 : ¬ en = 1000000) (hN7 : ¬ W0 = 1000000) (hN8 : ¬ W1 = 1000000) (hN9 : ¬ ws = 1000000) (hN10 : ¬ la = 1000000) (hl0 : f0.length = 6) (hl1 : f1.length = 6) (hm0 : w0.length = 12) (hm1 : w1.length = 12) (hG : rG gs ln cd ip sh shs fi fz tw tz fo pc tk dn en wo ws la) (hfo : rQ H0 [b, F0, F1, pc, tk, dn, en, W0, W1, ws, la] fo 5 2 0 F0 ∧ rQ H0 [b, F0, F1, pc, tk, dn, en, W0, W1, ws, la] fo 5 2 1 F1) (hwo : rQ H0 [b, F0, F1, pc, tk, dn, en, W0, W1, ws, la] wo 5 2 0 W0 ∧ rQ H0 [b, F0, F1, pc, tk, dn, en, W0, W1, ws, la] wo 5 2 1 W1) (hq : q < 12) {n1_ : Nat → Int32} (hf1 : ∀ k, k < 6 → f1[k]? = some (.inl (n1_ k))) (h : hm H0 H [b, F0, F1, pc, tk, dn, en, W0, W1, ws, la] [.inl (12, gs), .inr (0, f0), .inr (0, f1), .inr (0, [.inl (a0), .inl (a1)]), .inr (0, [.inl (b0), .inl (b1)]), .inr (0, [.inl (c0), .inl (c1)]), .inr (0, [.inl (d0), .inl (d1)]), .inr (0, w0), .inr (0, w1), .inr (0, [.inl (e0), .inl (e1)]), .inr (0, [.inl (h0), .inl (h1)])]) {f : Nat} (hf : f < 6) : x_To x_tb x_tyl ot (dp + 1) 209 0 (x_en 0 [.inr (some (b)), .inl (nI (q)), .inl (nI (f)), .inl (nI (1))]) [] H 0 0 (some (.inl (n1_ f))) H := by
  obtain ⟨g1, g2, g6, g11, g12, g13, g14, g15, g16, g50, g51, g52, g53, g54, g55, g56, g57, g58⟩ := id hG
  obtain ⟨⟨lfo, cfo, nfo, efo0⟩, ⟨lfo1, cfo1, nfo1, efo1⟩⟩ := id hfo
  obtain ⟨⟨lwo, cwo, nwo, ewo0⟩, ⟨lwo1, cwo1, nwo1, ewo1⟩⟩ := id hwo
  refine xT_iload_n g_q209 g209_0 (rfl) ?_
  refine xT_icV (y := nI (1)) g_q209 g209_1 (by decide) ?_
  refine xT_if_icmpN g_q209 g209_2 (t := 16) (by decide) (c1N (a := 1) (b := 1) rfl) ?_
  refine xT_aload_n g_q209 g209_5 (rfl) ?_
  refine xT_getfield g_q209 g209_6 hA0 rfl (hm_at h (i := 0) rfl rfl) rfl g50 ?_
  refine xT_icV (y := nI (1)) g_q209 g209_9 (by decide) ?_
  refine xT_aaload g_q209 g209_10 (by decide +kernel) (hm_c h cfo1) (ixN (n := 2) (by decide) nfo1) (ixG (by decide) efo1) ?_
  refine xT_iload_n g_q209 g209_11 (rfl) ?_
  refine xT_iaload g_q209 g209_12 hN2 (hm_at h (i := 2) rfl rfl) (ixN (n := 6) (by omega) hl1) (ixG (by omega) (hf1 _ (by omega))) ?_
  refine xT_goto g_q209 g209_13 (t := 43) (by decide) ?_
  exact xT_ireturn g_q209 g209_43 (rfl)
theorem t210_0 {b F0 F1 ln cd ip sh shs fi fz tw tz fo pc tk dn en wo ws la W0 W1 q : Nat} {gs f0 f1 w0 w1 : List (XV Int32)} {p : rP} {a0 a1 b0 b1 c0 c1 d0 d1 e0 e1 h0 h1 : Int32} (hA0 : ¬ 1000000 < b) (hN1 : ¬ F0 = 1000000) (hN2 : ¬ F1 = 1000000) (hN3 : ¬ pc = 1000000) (hN4 : ¬ tk = 1000000) (hN5 : ¬ dn = 1000000) (hN6 : ¬ en = 1000000) (hN7 : ¬ W0 = 1000000) (hN8 : ¬ W1 = 1000000) (hN9 : ¬ ws = 1000000) (hN10 : ¬ la = 1000000) (hl0 : f0.length = 6) (hl1 : f1.length = 6) (hm0 : w0.length = 12) (hm1 : w1.length = 12) (hG : rG gs ln cd ip sh shs fi fz tw tz fo pc tk dn en wo ws la) (hfo : rQ H0 [b, F0, F1, pc, tk, dn, en, W0, W1, ws, la] fo 5 2 0 F0 ∧ rQ H0 [b, F0, F1, pc, tk, dn, en, W0, W1, ws, la] fo 5 2 1 F1) (hwo : rQ H0 [b, F0, F1, pc, tk, dn, en, W0, W1, ws, la] wo 5 2 0 W0 ∧ rQ H0 [b, F0, F1, pc, tk, dn, en, W0, W1, ws, la] wo 5 2 1 W1) (hq : q < 12) (hT : rT H0 [b, F0, F1, pc, tk, dn, en, W0, W1, ws, la] gs q 0 p) {n0_ : Nat → Int32} (hf0 : ∀ k, k < 6 → f0[k]? = some (.inl (n0_ k))) (h : hm H0 H [b, F0, F1, pc, tk, dn, en, W0, W1, ws, la] [.inl (12, gs), .inr (0, f0), .inr (0, f1), .inr (0, [.inl (a0), .inl (a1)]), .inr (0, [.inl (b0), .inl (b1)]), .inr (0, [.inl (c0), .inl (c1)]), .inr (0, [.inl (d0), .inl (d1)]), .inr (0, w0), .inr (0, w1), .inr (0, [.inl (e0), .inl (e1)]), .inr (0, [.inl (h0), .inl (h1)])]) {f : Nat} (hf : f < 6) : x_To x_tb x_tyl ot (dp + 2) 210 0 (x_en 0 [.inr (some (b)), .inl (nI (q)), .inl (nI (f)), .inl (nI (0))]) [] H 0 0 (some (.inl (nI (if pLp p (n0_ f) = true then 1 else 0)))) H := by
  obtain ⟨g1, g2, g6, g11, g12, g13, g14, g15, g16, g50, g51, g52, g53, g54, g55, g56, g57, g58⟩ := id hG
  obtain ⟨⟨lfo, cfo, nfo, efo0⟩, ⟨lfo1, cfo1, nfo1, efo1⟩⟩ := id hfo
  obtain ⟨⟨lwo, cwo, nwo, ewo0⟩, ⟨lwo1, cwo1, nwo1, ewo1⟩⟩ := id hwo
  obtain ⟨z, -⟩ | ⟨-, hcut, hlp, dg, pv, ru, dr, pr, g3, g4, g5, ⟨ldg, cdg, ndg, edg⟩, ⟨lpv, cpv, npv, epv⟩, ⟨hdr0, ldr, cdr, ndr, edr⟩, ⟨hpr0, lpr, cpr, npr, epr⟩, ⟨hru0, lru, cru, nru, eru⟩⟩ := id hT
  · exact absurd z (by decide)
  rw [hlp]
  show x_To x_tb x_tyl ot (dp + 2) 210 0 _ [] H 0 0 (some (.inl (nI (if lpB 0 (if n0_ f < nI 100 then x_bin 0 (nI 1900) (n0_ f) else n0_ f) = true then 1 else 0)))) H
  by_cases hv : n0_ f < nI 100
  · have hv2 : ¬ nI 100 ≤ n0_ f := Int32.not_le.mpr hv
    rw [if_pos hv]
    refine xT_aload_n g_q210 g210_0 (rfl) ?_
    refine xT_iload_n g_q210 g210_1 (rfl) ?_
    refine xT_iload_n g_q210 g210_2 (rfl) ?_
    refine xT_iload_n g_q210 g210_3 (rfl) ?_
    refine xT_invokevirtual (r := []) (u := some (.inl ((n0_ (f))))) g_q210 g210_4 (j := 209) (so := 0) (by decide +kernel) g_q209 rfl (by rw [x_rcM hA0 (hm_at h (i := 0) rfl rfl)]; rfl) (t209_0 (dp := dp) hA0 hN1 hN2 hN3 hN4 hN5 hN6 hN7 hN8 hN9 hN10 hl0 hl1 hm0 hm1 hG hfo hwo hq hT hf0 h hf) ?_
    refine xT_istore g_q210 g210_7 (by decide) ?_
    refine xT_iload_n g_q210 g210_9 (lkN (by decide) (rfl)) ?_
    refine xT_icV (y := nI (1)) g_q210 g210_10 (by decide) ?_
    refine xT_if_icmpY g_q210 g210_11 (t := 21) (by decide) (c1Y (a := 0) (b := 1) (by omega) (by omega) (by omega)) ?_
    refine xT_iload g_q210 g210_21 (lkY) ?_
    refine xT_biV (y := nI (100)) g_q210 g210_23 (by decide) ?_
    refine xT_if_icmpN g_q210 g210_25 (t := 37) (by decide) (decide_eq_false hv2) ?_
    refine xT_siV (y := nI (1900)) g_q210 g210_28 (by decide) ?_
    refine xT_iload g_q210 g210_31 (lkY) ?_
    refine xT_iaddV (y := x_bin 0 (nI (1900)) ((n0_ (f)))) g_q210 g210_33 (rfl) ?_
    refine xT_goto g_q210 g210_34 (t := 39) (by decide) ?_
    refine xT_aload_n g_q210 g210_39 (lkN (by decide) (rfl)) ?_
    refine xT_getfield g_q210 g210_40 hA0 rfl (hm_at h (i := 0) rfl rfl) rfl g5 ?_
    refine xT_iload_n g_q210 g210_43 (lkN (by decide) (rfl)) ?_
    refine xT_iaload g_q210 g210_44 hru0 (hm_c h cru) (ixN (n := 12) (by omega) nru) (ixG (by omega) eru) ?_
    refine xT_invokestatic (r := []) (u := some (.inl ((nI (if lpB 0 (x_bin 0 (nI 1900) (n0_ f)) = true then 1 else 0))))) g_q210 g210_45 (j := 197) (so := 2) (by decide +kernel) g_q197 (rfl) (t197_0) ?_
    exact xT_ireturn g_q210 g210_48 (by split <;> decide +kernel)
  · have hv2 : nI 100 ≤ n0_ f := Int32.not_lt.mp hv
    rw [if_neg hv]
    refine xT_aload_n g_q210 g210_0 (rfl) ?_
    refine xT_iload_n g_q210 g210_1 (rfl) ?_
    refine xT_iload_n g_q210 g210_2 (rfl) ?_
    refine xT_iload_n g_q210 g210_3 (rfl) ?_
    refine xT_invokevirtual (r := []) (u := some (.inl ((n0_ (f))))) g_q210 g210_4 (j := 209) (so := 0) (by decide +kernel) g_q209 rfl (by rw [x_rcM hA0 (hm_at h (i := 0) rfl rfl)]; rfl) (t209_0 (dp := dp) hA0 hN1 hN2 hN3 hN4 hN5 hN6 hN7 hN8 hN9 hN10 hl0 hl1 hm0 hm1 hG hfo hwo hq hT hf0 h hf) ?_
    refine xT_istore g_q210 g210_7 (by decide) ?_
    refine xT_iload_n g_q210 g210_9 (lkN (by decide) (rfl)) ?_
    refine xT_icV (y := nI (1)) g_q210 g210_10 (by decide) ?_
    refine xT_if_icmpY g_q210 g210_11 (t := 21) (by decide) (c1Y (a := 0) (b := 1) (by omega) (by omega) (by omega)) ?_
    refine xT_iload g_q210 g210_21 (lkY) ?_
    refine xT_biV (y := nI (100)) g_q210 g210_23 (by decide) ?_
    refine xT_if_icmpY g_q210 g210_25 (t := 37) (by decide) (decide_eq_true hv2) ?_
    refine xT_iload g_q210 g210_37 (lkY) ?_
    refine xT_aload_n g_q210 g210_39 (lkN (by decide) (rfl)) ?_
    refine xT_getfield g_q210 g210_40 hA0 rfl (hm_at h (i := 0) rfl rfl) rfl g5 ?_
    refine xT_iload_n g_q210 g210_43 (lkN (by decide) (rfl)) ?_
    refine xT_iaload g_q210 g210_44 hru0 (hm_c h cru) (ixN (n := 12) (by omega) nru) (ixG (by omega) eru) ?_
    refine xT_invokestatic (r := []) (u := some (.inl ((nI (if lpB 0 (n0_ f) = true then 1 else 0))))) g_q210 g210_45 (j := 197) (so := 2) (by decide +kernel) g_q197 (rfl) (t197_0) ?_
    exact xT_ireturn g_q210 g210_48 (by split <;> decide +kernel)
theorem t210_1 {b F0 F1 ln cd ip sh shs fi fz tw tz fo pc tk dn en wo ws la W0 W1 q : Nat} {gs f0 f1 w0 w1 : List (XV Int32)} {p : rP} {a0 a1 b0 b1 c0 c1 d0 d1 e0 e1 h0 h1 : Int32} (hA0 : ¬ 1000000 < b) (hN1 : ¬ F0 = 1000000) (hN2 : ¬ F1 = 1000000) (hN3 : ¬ pc = 1000000) (hN4 : ¬ tk = 1000000) (hN5 : ¬ dn = 1000000) (hN6 : ¬ en = 1000000) (hN7 : ¬ W0 = 1000000) (hN8 : ¬ W1 = 1000000) (hN9 : ¬ ws = 1000000) (hN10 : ¬ la = 1000000) (hl0 : f0.length = 6) (hl1 : f1.length = 6) (hm0 : w0.length = 12) (hm1 : w1.length = 12) (hG : rG gs ln cd ip sh shs fi fz tw tz fo pc tk dn en wo ws la) (hfo : rQ H0 [b, F0, F1, pc, tk, dn, en, W0, W1, ws, la] fo 5 2 0 F0 ∧ rQ H0 [b, F0, F1, pc, tk, dn, en, W0, W1, ws, la] fo 5 2 1 F1) (hwo : rQ H0 [b, F0, F1, pc, tk, dn, en, W0, W1, ws, la] wo 5 2 0 W0 ∧ rQ H0 [b, F0, F1, pc, tk, dn, en, W0, W1, ws, la] wo 5 2 1 W1) (hq : q < 12) (hT : rT H0 [b, F0, F1, pc, tk, dn, en, W0, W1, ws, la] gs q 1 p) {n1_ : Nat → Int32} (hf1 : ∀ k, k < 6 → f1[k]? = some (.inl (n1_ k))) (h : hm H0 H [b, F0, F1, pc, tk, dn, en, W0, W1, ws, la] [.inl (12, gs), .inr (0, f0), .inr (0, f1), .inr (0, [.inl (a0), .inl (a1)]), .inr (0, [.inl (b0), .inl (b1)]), .inr (0, [.inl (c0), .inl (c1)]), .inr (0, [.inl (d0), .inl (d1)]), .inr (0, w0), .inr (0, w1), .inr (0, [.inl (e0), .inl (e1)]), .inr (0, [.inl (h0), .inl (h1)])]) {f : Nat} (hf : f < 6) : x_To x_tb x_tyl ot (dp + 2) 210 0 (x_en 0 [.inr (some (b)), .inl (nI (q)), .inl (nI (f)), .inl (nI (1))]) [] H 0 0 (some (.inl (nI (if pLp p (n1_ f) = true then 1 else 0)))) H := by
  obtain ⟨g1, g2, g6, g11, g12, g13, g14, g15, g16, g50, g51, g52, g53, g54, g55, g56, g57, g58⟩ := id hG
  obtain ⟨⟨lfo, cfo, nfo, efo0⟩, ⟨lfo1, cfo1, nfo1, efo1⟩⟩ := id hfo
  obtain ⟨⟨lwo, cwo, nwo, ewo0⟩, ⟨lwo1, cwo1, nwo1, ewo1⟩⟩ := id hwo
  obtain ⟨-, hcut, hlp⟩ | ⟨z, -⟩ := id hT
  rotate_left
  · exact absurd z (by decide)
  rw [hlp]
  refine xT_aload_n g_q210 g210_0 (rfl) ?_
  refine xT_iload_n g_q210 g210_1 (rfl) ?_
  refine xT_iload_n g_q210 g210_2 (rfl) ?_
  refine xT_iload_n g_q210 g210_3 (rfl) ?_
  refine xT_invokevirtual (r := []) (u := some (.inl ((n1_ (f))))) g_q210 g210_4 (j := 209) (so := 0) (by decide +kernel) g_q209 rfl (by rw [x_rcM hA0 (hm_at h (i := 0) rfl rfl)]; rfl) (t209_1 (dp := dp) hA0 hN1 hN2 hN3 hN4 hN5 hN6 hN7 hN8 hN9 hN10 hl0 hl1 hm0 hm1 hG hfo hwo hq hf1 h hf) ?_
  refine xT_istore g_q210 g210_7 (by decide) ?_
  refine xT_iload_n g_q210 g210_9 (lkN (by decide) (rfl)) ?_
  refine xT_icV (y := nI (1)) g_q210 g210_10 (by decide) ?_
  refine xT_if_icmpN g_q210 g210_11 (t := 21) (by decide) (c1N (a := 1) (b := 1) rfl) ?_
  refine xT_iload g_q210 g210_14 (lkY) ?_
  refine xT_icV (y := nI (2)) g_q210 g210_16 (by decide) ?_
  refine xT_invokestatic (r := []) (u := some (.inl ((nI (if lpB 2 (n1_ f) = true then 1 else 0))))) g_q210 g210_17 (j := 197) (so := 2) (by decide +kernel) g_q197 (rfl) (t197_2) ?_
  exact xT_ireturn g_q210 g210_20 (by split <;> decide +kernel)
end XH33_20
