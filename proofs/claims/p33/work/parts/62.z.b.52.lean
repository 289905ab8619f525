/-! p33 by hand, 51. -/
noncomputable section XH33_51
variable {ot : XO Int32} {dp : Nat} {H H0 : List (XC Int32)}
theorem t202 {n : Nat} {d : Ld} {A FR TR : Nat → Nat} {WL : List Nat} {rp rt : Nat → rS} {Hs : List (XC Int32)} {gz : List (XV Int32)} {col : Nat → Nat} (hd : dOk n d) (hL : Hs.length ≤ 1000000) (hS : mSt n d A FR TR WL gz Hs) (hN : mNe A FR TR WL col) (hrp : rdP d rp) (hrt : rdT d rt) {i : Nat} (hP : mPh n d A FR TR WL rp rt gz Hs H i) (hi : i < n) : ∃ H2, x_To x_tb x_tyl ot (dp + 5) 202 0 (x_en 0 [.inr (some (A 0)), .inl (nI (i)), .inl ((dYr d))]) [] H 0 0 (some (.inl (nI (if wrg rp rt i = true then 1 else 0)))) H2 ∧ mPh n d A FR TR WL rp rt gz Hs H2 (i + 1) := by
  have hd12 := hd.1
  have hi12 : i < 12 := by omega
  obtain ⟨q1, q2, ⟨gs, hb, h9⟩, ⟨f0, f1, w0, w1, a0, a1, b0, b1, c0, c1, d0, d1, e0, e1, h0, h1, ⟨hl0, hl1, hw0, hw1⟩, k1, k2, k3, k4, k5, k6, k7, k8, k9, k10⟩, ⟨vz, cz, nz_, ez⟩, ⟨vt, ct, nt_, et⟩, q7⟩ := id hP
  obtain ⟨⟨lf, cf, nf_, ef⟩, ⟨lw, cw, nw_, ew⟩⟩ := q7 i hi
  have z0 := lt_of hb (by omega)
  have hN1 : ¬ A 1 = 1000000 := by
    have := lt_of k1 (by omega)
    omega
  have hN2 : ¬ A 2 = 1000000 := by
    have := lt_of k2 (by omega)
    omega
  have hN3 : ¬ A 3 = 1000000 := by
    have := lt_of k3 (by omega)
    omega
  have hN4 : ¬ A 4 = 1000000 := by
    have := lt_of k4 (by omega)
    omega
  have hN5 : ¬ A 5 = 1000000 := by
    have := lt_of k5 (by omega)
    omega
  have hN6 : ¬ A 6 = 1000000 := by
    have := lt_of k6 (by omega)
    omega
  have hN7 : ¬ A 7 = 1000000 := by
    have := lt_of k7 (by omega)
    omega
  have hN8 : ¬ A 8 = 1000000 := by
    have := lt_of k8 (by omega)
    omega
  have hN9 : ¬ A 9 = 1000000 := by
    have := lt_of k9 (by omega)
    omega
  have hN10 : ¬ A 10 = 1000000 := by
    have := lt_of k10 (by omega)
    omega
  have hN11 : ¬ A 11 = 1000000 := by
    have := lt_of cz (by omega)
    omega
  have hN12 : ¬ A 12 = 1000000 := by
    have := lt_of ct (by omega)
    omega
  have hN13 : ¬ FR i = 1000000 := by
    have := lt_of cf (by omega)
    omega
  have hN14 : ¬ TR i = 1000000 := by
    have := lt_of cw (by omega)
    omega
  have hA0 : ¬ 1000000 < A 0 := by omega
  have mv : ∀ (x : Nat) z, c3R Hs WL x z → c3R H [A 0, A 1, A 2, A 3, A 4, A 5, A 6, A 7, A 8, A 9, A 10] x z := fun x z h => c3R_mv q1 (A11_in hN) h
  have mv15 : ∀ (x : Nat) z, c3R Hs WL x z → c3R H [A 0, A 1, A 2, A 3, A 4, A 5, A 6, A 7, A 8, A 9, A 10, A 11, A 12, FR i, TR i] x z := fun x z h => c3R_mv q1 (A15_in hN hi12) h
  obtain ⟨s1, s2, s3, s4, s5⟩ := hS
  obtain ⟨t1, t2, t3, t4, t5, t6, t7, t8⟩ := s5 i hi
  have hm11 : hm H H [A 0, A 1, A 2, A 3, A 4, A 5, A 6, A 7, A 8, A 9, A 10] [.inl (12, gs), .inr (0, f0), .inr (0, f1), .inr (0, [.inl a0, .inl a1]), .inr (0, [.inl b0, .inl b1]), .inr (0, [.inl c0, .inl c1]), .inr (0, [.inl d0, .inl d1]), .inr (0, w0), .inr (0, w1), .inr (0, [.inl e0, .inl e1]), .inr (0, [.inl h0, .inl h1])] := hm_rf (A11_inj hN) rfl (fun k a z hk hz => by
    rcases k with _ | _ | _ | _ | _ | _ | _ | _ | _ | _ | _ | k
    all_goals first
      | (cases hk; cases hz; assumption)
      | cases hk)
  obtain ⟨i0, i1⟩ := mIn hd hL ⟨s1, s2, s3, s4, s5⟩ hN hP hi (p0 := pgP d i (inX d (dWn d) (dWv d) rp i)) (p1 := pgT d i (inX d (dTn d) (dTv d) rt i)) ⟨rfl, rfl⟩ ⟨rfl, rfl⟩
  obtain ⟨G1, gs2, y1_, h92, hM⟩ := t203 (ot := ot) (dp := dp) (p0 := pgP d i (inX d (dWn d) (dWv d) rp i)) (p1 := pgT d i (inX d (dTn d) (dTv d) rt i)) hl0 hl1 hw0.1 hw1.1 hw0 hw1 hA0 (by omega) (by omega) (by omega) (by omega) (by omega) (by omega) (by omega) (by omega) (by omega) (by omega) ⟨rQ_mv mv s3.1, rQ_mv mv s3.2⟩ ⟨rQ_mv mv s4.1, rQ_mv mv s4.2⟩ (rG_9 h9 s1) hi12 (rC_mv mv (t1 _)) (rC_pt (rC_mv mv (t1 (inX d (dTn d) (dTv d) rt i)))) (rT_9 h9 (rT_mv mv (t2 _))) (Or.inl ⟨rfl, rfl, rfl⟩) i0 i1 (pgP_ok hd hrp hi) (pgT_ok hd hrt hi) rfl hm11
  rw [← hrp i, ← hrt i] at hM
  have h92 := rS9_tr h92 h9
  obtain ⟨g1, g2, g6, g11, g12, g13, g14, g15, g16, g50, g51, g52, g53, g54, g55, g56, g57, g58⟩ := rG_9 h92 s1
  obtain ⟨f0, f1, w0, w1, x0, x1, h0, h1, h11, -, -, hl0, hl1, hw0, hw1, -, -, hv0, hv1⟩ := hM
  obtain ⟨-, -, j13, j14⟩ := hN.2.1 i hi12
  have j11 := (hN.1 11 (by decide)).2
  have j12 := (hN.1 12 (by decide)).2
  have h15 : hm H G1 [A 0, A 1, A 2, A 3, A 4, A 5, A 6, A 7, A 8, A 9, A 10, A 11, A 12, FR i, TR i] [.inl (12, gs2), .inr (0, f0), .inr (0, f1), .inr (0, [.inl x0, .inl x1]), .inr (0, [.inl (nI (rNx (rp i))), .inl (nI (rNx (rt i)))]), .inr (0, [.inl (nI (rDn (rp i))), .inl (nI (rDn (rt i)))]), .inr (0, [.inl (rEn (rp i)), .inl (rEn (rt i))]), .inr (0, w0), .inr (0, w1), .inr (0, [.inl (nI (rOs (rp i))), .inl (nI (rOs (rt i)))]), .inr (0, [.inl h0, .inl h1]), .inr (0, vz), .inr (0, vt), .inr (0, lf), .inr (0, lw)] := hm_app (Cs := [A 11, A 12, FR i, TR i]) (Ys := [.inr (0, vz), .inr (0, vt), .inr (0, lf), .inr (0, lw)]) h11 (A15_inj hN hi12) rfl (fun k a z hk hz => by
    rcases k with _ | _ | _ | _ | k
    · cases hk
      cases hz
      exact hm_ro h11 cz (A11_no hN (by omega))
    · cases hk
      cases hz
      exact hm_ro h11 ct (A11_no hN (by omega))
    · cases hk
      cases hz
      exact hm_ro h11 cf (A11_no hN (by omega))
    · cases hk
      cases hz
      exact hm_ro h11 cw (A11_no hN (by omega))
    · cases hk)
  obtain ⟨lfi, cfi, nfi, efi⟩ := rQ_mv mv15 t6
  obtain ⟨ltw, ctw, ntw, etw⟩ := rQ_mv mv15 t7
  obtain ⟨lwo0, cwo0, nwo0, ewo0⟩ := rQ_mv mv15 s4.1
  obtain ⟨lwo1, cwo1, nwo1, ewo1⟩ := rQ_mv mv15 s4.2
  by_cases ce : rEn (rp i) = rEn (rt i)
  rotate_left
  · rw [if_pos (wrg_e ce)]
    have g1_ : hm _ _ [A 0, A 1, A 2, A 3, A 4, A 5, A 6, A 7, A 8, A 9, A 10, A 11, A 12, FR i, TR i] [.inl (12, gs2), .inr (0, f0), .inr (0, f1), .inr (0, [.inl (x0), .inl (x1)]), .inr (0, [.inl (nI (rNx (rp i))), .inl (nI (rNx (rt i)))]), .inr (0, [.inl (nI (rDn (rp i))), .inl (nI (rDn (rt i)))]), .inr (0, [.inl (rEn (rp i)), .inl (rEn (rt i))]), .inr (0, w0), .inr (0, w1), .inr (0, [.inl (nI (rOs (rp i))), .inl (nI (rOs (rt i)))]), .inr (0, [.inl (h0), .inl (h1)]), .inr (0, vz), .inr (0, vt), .inr (0, w0), .inr (0, lw)] := hm_set (i := 13) (z2 := .inr (0, w0)) h15 rfl
    have g2_ : hm _ _ [A 0, A 1, A 2, A 3, A 4, A 5, A 6, A 7, A 8, A 9, A 10, A 11, A 12, FR i, TR i] [.inl (12, gs2), .inr (0, f0), .inr (0, f1), .inr (0, [.inl (x0), .inl (x1)]), .inr (0, [.inl (nI (rNx (rp i))), .inl (nI (rNx (rt i)))]), .inr (0, [.inl (nI (rDn (rp i))), .inl (nI (rDn (rt i)))]), .inr (0, [.inl (rEn (rp i)), .inl (rEn (rt i))]), .inr (0, w0), .inr (0, w1), .inr (0, [.inl (nI (rOs (rp i))), .inl (nI (rOs (rt i)))]), .inr (0, [.inl (h0), .inl (h1)]), .inr (0, vz), .inr (0, vt), .inr (0, w0), .inr (0, w1)] := hm_set (i := 14) (z2 := .inr (0, w1)) g1_ rfl
    have g3_ : hm _ _ [A 0, A 1, A 2, A 3, A 4, A 5, A 6, A 7, A 8, A 9, A 10, A 11, A 12, FR i, TR i] [.inl (12, gs2), .inr (0, f0), .inr (0, f1), .inr (0, [.inl (x0), .inl (x1)]), .inr (0, [.inl (nI (rNx (rp i))), .inl (nI (rNx (rt i)))]), .inr (0, [.inl (nI (rDn (rp i))), .inl (nI (rDn (rt i)))]), .inr (0, [.inl (rEn (rp i)), .inl (rEn (rt i))]), .inr (0, w0), .inr (0, w1), .inr (0, [.inl (nI (rOs (rp i))), .inl (nI (rOs (rt i)))]), .inr (0, [.inl (h0), .inl (h1)]), .inr (0, (vz).set (i) (.inl (nI (rOs (rp i))))), .inr (0, vt), .inr (0, w0), .inr (0, w1)] := hm_set (i := 11) (z2 := .inr (0, (vz).set (i) (.inl (nI (rOs (rp i)))))) g2_ rfl
    have g4_ : hm _ _ [A 0, A 1, A 2, A 3, A 4, A 5, A 6, A 7, A 8, A 9, A 10, A 11, A 12, FR i, TR i] [.inl (12, gs2), .inr (0, f0), .inr (0, f1), .inr (0, [.inl (x0), .inl (x1)]), .inr (0, [.inl (nI (rNx (rp i))), .inl (nI (rNx (rt i)))]), .inr (0, [.inl (nI (rDn (rp i))), .inl (nI (rDn (rt i)))]), .inr (0, [.inl (rEn (rp i)), .inl (rEn (rt i))]), .inr (0, w0), .inr (0, w1), .inr (0, [.inl (nI (rOs (rp i))), .inl (nI (rOs (rt i)))]), .inr (0, [.inl (h0), .inl (h1)]), .inr (0, (vz).set (i) (.inl (nI (rOs (rp i))))), .inr (0, (vt).set (i) (.inl (nI (rOs (rt i))))), .inr (0, w0), .inr (0, w1)] := hm_set (i := 12) (z2 := .inr (0, (vt).set (i) (.inl (nI (rOs (rt i)))))) g3_ rfl
    refine ⟨_, ?_, mPh_s hd hN hP hi h92 hl0 hl1 hw0 hw1 hv0 hv1 cz ct g4_⟩
    refine xT_aload_n g_q202 g202_0 (rfl) ?_
    refine xT_iload_n g_q202 g202_1 (rfl) ?_
    refine xT_iload_n g_q202 g202_2 (rfl) ?_
    refine xT_invokevirtual (r := []) (u := none) g_q202 g202_3 (j := 203) (so := 0) (by decide +kernel) g_q203 rfl (by rw [x_rcM hA0 hb]; rfl) (y1_) ?_
    refine xT_aload_n g_q202 g202_6 (rfl) ?_
    refine xT_getfield g_q202 g202_7 hA0 rfl (hm_at h15 (i := 0) rfl rfl) rfl g55 ?_
    refine xT_icV (y := nI (0)) g_q202 g202_10 (by decide) ?_
    refine xT_aaload g_q202 g202_11 (by decide +kernel) (hm_c h15 cwo0) (ixN (n := 2) (by decide) nwo0) (ixG (by decide) ewo0) ?_
    refine xT_icV (y := nI (0)) g_q202 g202_12 (by decide) ?_
    refine xT_aload_n g_q202 g202_13 (rfl) ?_
    refine xT_getfield g_q202 g202_14 hA0 rfl (hm_at h15 (i := 0) rfl rfl) rfl g13 ?_
    refine xT_iload_n g_q202 g202_17 (rfl) ?_
    refine xT_aaload g_q202 g202_18 (by decide +kernel) (hm_c h15 cfi) (ixN (n := 12) (by omega) nfi) (ixG (by omega) efi) ?_
    refine xT_icV (y := nI (0)) g_q202 g202_19 (by decide) ?_
    refine xT_biV (y := nI (12)) g_q202 g202_20 (by decide) ?_
    refine xT_arraycopy g_q202 g202_22 (by decide +kernel) (by decide +kernel) (hm_at h15 (i := 7) rfl rfl) (hm_at h15 (i := 13) rfl rfl) (ac4 hw0 nf_.1) ?_
    rw [acl hw0.1 nf_.1]
    refine xT_aload_n g_q202 g202_25 (rfl) ?_
    refine xT_getfield g_q202 g202_26 hA0 rfl (hm_at g1_ (i := 0) rfl rfl) rfl g55 ?_
    refine xT_icV (y := nI (1)) g_q202 g202_29 (by decide) ?_
    refine xT_aaload g_q202 g202_30 (by decide +kernel) (hm_c g1_ cwo1) (ixN (n := 2) (by decide) nwo1) (ixG (by decide) ewo1) ?_
    refine xT_icV (y := nI (0)) g_q202 g202_31 (by decide) ?_
    refine xT_aload_n g_q202 g202_32 (rfl) ?_
    refine xT_getfield g_q202 g202_33 hA0 rfl (hm_at g1_ (i := 0) rfl rfl) rfl g15 ?_
    refine xT_iload_n g_q202 g202_36 (rfl) ?_
    refine xT_aaload g_q202 g202_37 (by decide +kernel) (hm_c g1_ ctw) (ixN (n := 12) (by omega) ntw) (ixG (by omega) etw) ?_
    refine xT_icV (y := nI (0)) g_q202 g202_38 (by decide) ?_
    refine xT_biV (y := nI (12)) g_q202 g202_39 (by decide) ?_
    refine xT_arraycopy g_q202 g202_41 (by decide +kernel) (by decide +kernel) (hm_at g1_ (i := 8) rfl rfl) (hm_at g1_ (i := 14) rfl rfl) (ac4 hw1 nw_.1) ?_
    rw [acl hw1.1 nw_.1]
    refine xT_aload_n g_q202 g202_44 (rfl) ?_
    refine xT_getfield g_q202 g202_45 hA0 rfl (hm_at g2_ (i := 0) rfl rfl) rfl g14 ?_
    refine xT_iload_n g_q202 g202_48 (rfl) ?_
    refine xT_aload_n g_q202 g202_49 (rfl) ?_
    refine xT_getfield g_q202 g202_50 hA0 rfl (hm_at g2_ (i := 0) rfl rfl) rfl g56 ?_
    refine xT_icV (y := nI (0)) g_q202 g202_53 (by decide) ?_
    refine xT_iaload g_q202 g202_54 hN9 (hm_at g2_ (i := 9) rfl rfl) (ixN (n := 2) (by decide) rfl) (ixG (by decide) rfl) ?_
    refine xT_iastore g_q202 g202_55 (hm_at g2_ (i := 11) rfl rfl) (ixN (n := 12) (by omega) nz_) ?_
    rw [nI_clamp (by omega)]
    refine xT_aload_n g_q202 g202_56 (rfl) ?_
    refine xT_getfield g_q202 g202_57 hA0 rfl (hm_at g3_ (i := 0) rfl rfl) rfl g16 ?_
    refine xT_iload_n g_q202 g202_60 (rfl) ?_
    refine xT_aload_n g_q202 g202_61 (rfl) ?_
    refine xT_getfield g_q202 g202_62 hA0 rfl (hm_at g3_ (i := 0) rfl rfl) rfl g56 ?_
    refine xT_icV (y := nI (1)) g_q202 g202_65 (by decide) ?_
    refine xT_iaload g_q202 g202_66 hN9 (hm_at g3_ (i := 9) rfl rfl) (ixN (n := 2) (by decide) rfl) (ixG (by decide) rfl) ?_
    refine xT_iastore g_q202 g202_67 (hm_at g3_ (i := 12) rfl rfl) (ixN (n := 12) (by omega) nt_) ?_
    rw [nI_clamp (by omega)]
    refine xT_aload_n g_q202 g202_68 (rfl) ?_
    refine xT_getfield g_q202 g202_69 hA0 rfl (hm_at g4_ (i := 0) rfl rfl) rfl g54 ?_
    refine xT_icV (y := nI (0)) g_q202 g202_72 (by decide) ?_
    refine xT_iaload g_q202 g202_73 hN6 (hm_at g4_ (i := 6) rfl rfl) (ixN (n := 2) (by decide) rfl) (ixG (by decide) rfl) ?_
    refine xT_aload_n g_q202 g202_74 (rfl) ?_
    refine xT_getfield g_q202 g202_75 hA0 rfl (hm_at g4_ (i := 0) rfl rfl) rfl g54 ?_
    refine xT_icV (y := nI (1)) g_q202 g202_78 (by decide) ?_
    refine xT_iaload g_q202 g202_79 hN6 (hm_at g4_ (i := 6) rfl rfl) (ixN (n := 2) (by decide) rfl) (ixG (by decide) rfl) ?_
    refine xT_if_icmpY g_q202 g202_80 (t := 113) (by decide) (decide_eq_true ce) ?_
    refine xT_icV (y := nI (1)) g_q202 g202_113 (by decide) ?_
    refine xT_goto g_q202 g202_114 (t := 118) (by decide) ?_
    exact xT_ireturn g_q202 g202_118 (by decide +kernel)
  by_cases cl : lkB (rOs (rp i)) (rOv (rp i)) (rOs (rt i)) (rOv (rt i)) = true
  · rw [if_neg (wrg_n ce cl)]
    have g1_ : hm _ _ [A 0, A 1, A 2, A 3, A 4, A 5, A 6, A 7, A 8, A 9, A 10, A 11, A 12, FR i, TR i] [.inl (12, gs2), .inr (0, f0), .inr (0, f1), .inr (0, [.inl (x0), .inl (x1)]), .inr (0, [.inl (nI (rNx (rp i))), .inl (nI (rNx (rt i)))]), .inr (0, [.inl (nI (rDn (rp i))), .inl (nI (rDn (rt i)))]), .inr (0, [.inl (rEn (rp i)), .inl (rEn (rt i))]), .inr (0, w0), .inr (0, w1), .inr (0, [.inl (nI (rOs (rp i))), .inl (nI (rOs (rt i)))]), .inr (0, [.inl (h0), .inl (h1)]), .inr (0, vz), .inr (0, vt), .inr (0, w0), .inr (0, lw)] := hm_set (i := 13) (z2 := .inr (0, w0)) h15 rfl
    have g2_ : hm _ _ [A 0, A 1, A 2, A 3, A 4, A 5, A 6, A 7, A 8, A 9, A 10, A 11, A 12, FR i, TR i] [.inl (12, gs2), .inr (0, f0), .inr (0, f1), .inr (0, [.inl (x0), .inl (x1)]), .inr (0, [.inl (nI (rNx (rp i))), .inl (nI (rNx (rt i)))]), .inr (0, [.inl (nI (rDn (rp i))), .inl (nI (rDn (rt i)))]), .inr (0, [.inl (rEn (rp i)), .inl (rEn (rt i))]), .inr (0, w0), .inr (0, w1), .inr (0, [.inl (nI (rOs (rp i))), .inl (nI (rOs (rt i)))]), .inr (0, [.inl (h0), .inl (h1)]), .inr (0, vz), .inr (0, vt), .inr (0, w0), .inr (0, w1)] := hm_set (i := 14) (z2 := .inr (0, w1)) g1_ rfl
    have g3_ : hm _ _ [A 0, A 1, A 2, A 3, A 4, A 5, A 6, A 7, A 8, A 9, A 10, A 11, A 12, FR i, TR i] [.inl (12, gs2), .inr (0, f0), .inr (0, f1), .inr (0, [.inl (x0), .inl (x1)]), .inr (0, [.inl (nI (rNx (rp i))), .inl (nI (rNx (rt i)))]), .inr (0, [.inl (nI (rDn (rp i))), .inl (nI (rDn (rt i)))]), .inr (0, [.inl (rEn (rp i)), .inl (rEn (rt i))]), .inr (0, w0), .inr (0, w1), .inr (0, [.inl (nI (rOs (rp i))), .inl (nI (rOs (rt i)))]), .inr (0, [.inl (h0), .inl (h1)]), .inr (0, (vz).set (i) (.inl (nI (rOs (rp i))))), .inr (0, vt), .inr (0, w0), .inr (0, w1)] := hm_set (i := 11) (z2 := .inr (0, (vz).set (i) (.inl (nI (rOs (rp i)))))) g2_ rfl
    have g4_ : hm _ _ [A 0, A 1, A 2, A 3, A 4, A 5, A 6, A 7, A 8, A 9, A 10, A 11, A 12, FR i, TR i] [.inl (12, gs2), .inr (0, f0), .inr (0, f1), .inr (0, [.inl (x0), .inl (x1)]), .inr (0, [.inl (nI (rNx (rp i))), .inl (nI (rNx (rt i)))]), .inr (0, [.inl (nI (rDn (rp i))), .inl (nI (rDn (rt i)))]), .inr (0, [.inl (rEn (rp i)), .inl (rEn (rt i))]), .inr (0, w0), .inr (0, w1), .inr (0, [.inl (nI (rOs (rp i))), .inl (nI (rOs (rt i)))]), .inr (0, [.inl (h0), .inl (h1)]), .inr (0, (vz).set (i) (.inl (nI (rOs (rp i))))), .inr (0, (vt).set (i) (.inl (nI (rOs (rt i))))), .inr (0, w0), .inr (0, w1)] := hm_set (i := 12) (z2 := .inr (0, (vt).set (i) (.inl (nI (rOs (rt i)))))) g3_ rfl
    refine ⟨_, ?_, mPh_s hd hN hP hi h92 hl0 hl1 hw0 hw1 hv0 hv1 cz ct g4_⟩
    refine xT_aload_n g_q202 g202_0 (rfl) ?_
    refine xT_iload_n g_q202 g202_1 (rfl) ?_
    refine xT_iload_n g_q202 g202_2 (rfl) ?_
    refine xT_invokevirtual (r := []) (u := none) g_q202 g202_3 (j := 203) (so := 0) (by decide +kernel) g_q203 rfl (by rw [x_rcM hA0 hb]; rfl) (y1_) ?_
    refine xT_aload_n g_q202 g202_6 (rfl) ?_
    refine xT_getfield g_q202 g202_7 hA0 rfl (hm_at h15 (i := 0) rfl rfl) rfl g55 ?_
    refine xT_icV (y := nI (0)) g_q202 g202_10 (by decide) ?_
    refine xT_aaload g_q202 g202_11 (by decide +kernel) (hm_c h15 cwo0) (ixN (n := 2) (by decide) nwo0) (ixG (by decide) ewo0) ?_
    refine xT_icV (y := nI (0)) g_q202 g202_12 (by decide) ?_
    refine xT_aload_n g_q202 g202_13 (rfl) ?_
    refine xT_getfield g_q202 g202_14 hA0 rfl (hm_at h15 (i := 0) rfl rfl) rfl g13 ?_
    refine xT_iload_n g_q202 g202_17 (rfl) ?_
    refine xT_aaload g_q202 g202_18 (by decide +kernel) (hm_c h15 cfi) (ixN (n := 12) (by omega) nfi) (ixG (by omega) efi) ?_
    refine xT_icV (y := nI (0)) g_q202 g202_19 (by decide) ?_
    refine xT_biV (y := nI (12)) g_q202 g202_20 (by decide) ?_
    refine xT_arraycopy g_q202 g202_22 (by decide +kernel) (by decide +kernel) (hm_at h15 (i := 7) rfl rfl) (hm_at h15 (i := 13) rfl rfl) (ac4 hw0 nf_.1) ?_
    rw [acl hw0.1 nf_.1]
    refine xT_aload_n g_q202 g202_25 (rfl) ?_
    refine xT_getfield g_q202 g202_26 hA0 rfl (hm_at g1_ (i := 0) rfl rfl) rfl g55 ?_
    refine xT_icV (y := nI (1)) g_q202 g202_29 (by decide) ?_
    refine xT_aaload g_q202 g202_30 (by decide +kernel) (hm_c g1_ cwo1) (ixN (n := 2) (by decide) nwo1) (ixG (by decide) ewo1) ?_
    refine xT_icV (y := nI (0)) g_q202 g202_31 (by decide) ?_
    refine xT_aload_n g_q202 g202_32 (rfl) ?_
    refine xT_getfield g_q202 g202_33 hA0 rfl (hm_at g1_ (i := 0) rfl rfl) rfl g15 ?_
    refine xT_iload_n g_q202 g202_36 (rfl) ?_
    refine xT_aaload g_q202 g202_37 (by decide +kernel) (hm_c g1_ ctw) (ixN (n := 12) (by omega) ntw) (ixG (by omega) etw) ?_
    refine xT_icV (y := nI (0)) g_q202 g202_38 (by decide) ?_
    refine xT_biV (y := nI (12)) g_q202 g202_39 (by decide) ?_
    refine xT_arraycopy g_q202 g202_41 (by decide +kernel) (by decide +kernel) (hm_at g1_ (i := 8) rfl rfl) (hm_at g1_ (i := 14) rfl rfl) (ac4 hw1 nw_.1) ?_
    rw [acl hw1.1 nw_.1]
    refine xT_aload_n g_q202 g202_44 (rfl) ?_
    refine xT_getfield g_q202 g202_45 hA0 rfl (hm_at g2_ (i := 0) rfl rfl) rfl g14 ?_
    refine xT_iload_n g_q202 g202_48 (rfl) ?_
    refine xT_aload_n g_q202 g202_49 (rfl) ?_
    refine xT_getfield g_q202 g202_50 hA0 rfl (hm_at g2_ (i := 0) rfl rfl) rfl g56 ?_
    refine xT_icV (y := nI (0)) g_q202 g202_53 (by decide) ?_
    refine xT_iaload g_q202 g202_54 hN9 (hm_at g2_ (i := 9) rfl rfl) (ixN (n := 2) (by decide) rfl) (ixG (by decide) rfl) ?_
    refine xT_iastore g_q202 g202_55 (hm_at g2_ (i := 11) rfl rfl) (ixN (n := 12) (by omega) nz_) ?_
    rw [nI_clamp (by omega)]
    refine xT_aload_n g_q202 g202_56 (rfl) ?_
    refine xT_getfield g_q202 g202_57 hA0 rfl (hm_at g3_ (i := 0) rfl rfl) rfl g16 ?_
    refine xT_iload_n g_q202 g202_60 (rfl) ?_
    refine xT_aload_n g_q202 g202_61 (rfl) ?_
    refine xT_getfield g_q202 g202_62 hA0 rfl (hm_at g3_ (i := 0) rfl rfl) rfl g56 ?_
    refine xT_icV (y := nI (1)) g_q202 g202_65 (by decide) ?_
    refine xT_iaload g_q202 g202_66 hN9 (hm_at g3_ (i := 9) rfl rfl) (ixN (n := 2) (by decide) rfl) (ixG (by decide) rfl) ?_
    refine xT_iastore g_q202 g202_67 (hm_at g3_ (i := 12) rfl rfl) (ixN (n := 12) (by omega) nt_) ?_
    rw [nI_clamp (by omega)]
    refine xT_aload_n g_q202 g202_68 (rfl) ?_
    refine xT_getfield g_q202 g202_69 hA0 rfl (hm_at g4_ (i := 0) rfl rfl) rfl g54 ?_
    refine xT_icV (y := nI (0)) g_q202 g202_72 (by decide) ?_
    refine xT_iaload g_q202 g202_73 hN6 (hm_at g4_ (i := 6) rfl rfl) (ixN (n := 2) (by decide) rfl) (ixG (by decide) rfl) ?_
    refine xT_aload_n g_q202 g202_74 (rfl) ?_
    refine xT_getfield g_q202 g202_75 hA0 rfl (hm_at g4_ (i := 0) rfl rfl) rfl g54 ?_
    refine xT_icV (y := nI (1)) g_q202 g202_78 (by decide) ?_
    refine xT_iaload g_q202 g202_79 hN6 (hm_at g4_ (i := 6) rfl rfl) (ixN (n := 2) (by decide) rfl) (ixG (by decide) rfl) ?_
    refine xT_if_icmpN g_q202 g202_80 (t := 113) (by decide) (decide_eq_false (fun z => z ce)) ?_
    refine xT_aload_n g_q202 g202_83 (rfl) ?_
    refine xT_getfield g_q202 g202_84 hA0 rfl (hm_at g4_ (i := 0) rfl rfl) rfl g13 ?_
    refine xT_iload_n g_q202 g202_87 (rfl) ?_
    refine xT_aaload g_q202 g202_88 (by decide +kernel) (hm_c g4_ cfi) (ixN (n := 12) (by omega) nfi) (ixG (by omega) efi) ?_
    refine xT_aload_n g_q202 g202_89 (rfl) ?_
    refine xT_getfield g_q202 g202_90 hA0 rfl (hm_at g4_ (i := 0) rfl rfl) rfl g14 ?_
    refine xT_iload_n g_q202 g202_93 (rfl) ?_
    refine xT_iaload g_q202 g202_94 hN11 (hm_at g4_ (i := 11) rfl rfl) (ixN (n := 12) (by omega) (by rw [List.length_set]; exact nz_)) (ixG (by omega) (List.getElem?_set_self (by omega))) ?_
    refine xT_aload_n g_q202 g202_95 (rfl) ?_
    refine xT_getfield g_q202 g202_96 hA0 rfl (hm_at g4_ (i := 0) rfl rfl) rfl g15 ?_
    refine xT_iload_n g_q202 g202_99 (rfl) ?_
    refine xT_aaload g_q202 g202_100 (by decide +kernel) (hm_c g4_ ctw) (ixN (n := 12) (by omega) ntw) (ixG (by omega) etw) ?_
    refine xT_aload_n g_q202 g202_101 (rfl) ?_
    refine xT_getfield g_q202 g202_102 hA0 rfl (hm_at g4_ (i := 0) rfl rfl) rfl g16 ?_
    refine xT_iload_n g_q202 g202_105 (rfl) ?_
    refine xT_iaload g_q202 g202_106 hN12 (hm_at g4_ (i := 12) rfl rfl) (ixN (n := 12) (by omega) (by rw [List.length_set]; exact nt_)) (ixG (by omega) (List.getElem?_set_self (by omega))) ?_
    refine xT_invokestatic (r := []) (u := some (.inl (nI (1)))) g_q202 g202_107 (j := 211) (so := 2) (by decide +kernel) g_q211 (rfl) (by have y := t211 (ot := ot) (dp := dp + 4) hN13 hN14 (hm_at g4_ (i := 13) rfl rfl) (hm_at g4_ (i := 14) rfl rfl) hw0.1 hw1.1 (rdP_12 hd hrp hi) hv0 (fun em k hk => hv1 k (by omega)) (rdT_12 hd hrt hi); rw [if_pos cl] at y; exact y) ?_
    refine xT_ifCondY g_q202 g202_110 (t := 117) (by decide) (c1Y (a := 1) (b := 0) (by omega) (by omega) (by omega)) ?_
    refine xT_icV (y := nI (0)) g_q202 g202_117 (by decide) ?_
    exact xT_ireturn g_q202 g202_118 (by decide +kernel)
  · rw [if_pos (wrg_l ce cl)]
    have g1_ : hm _ _ [A 0, A 1, A 2, A 3, A 4, A 5, A 6, A 7, A 8, A 9, A 10, A 11, A 12, FR i, TR i] [.inl (12, gs2), .inr (0, f0), .inr (0, f1), .inr (0, [.inl (x0), .inl (x1)]), .inr (0, [.inl (nI (rNx (rp i))), .inl (nI (rNx (rt i)))]), .inr (0, [.inl (nI (rDn (rp i))), .inl (nI (rDn (rt i)))]), .inr (0, [.inl (rEn (rp i)), .inl (rEn (rt i))]), .inr (0, w0), .inr (0, w1), .inr (0, [.inl (nI (rOs (rp i))), .inl (nI (rOs (rt i)))]), .inr (0, [.inl (h0), .inl (h1)]), .inr (0, vz), .inr (0, vt), .inr (0, w0), .inr (0, lw)] := hm_set (i := 13) (z2 := .inr (0, w0)) h15 rfl
    have g2_ : hm _ _ [A 0, A 1, A 2, A 3, A 4, A 5, A 6, A 7, A 8, A 9, A 10, A 11, A 12, FR i, TR i] [.inl (12, gs2), .inr (0, f0), .inr (0, f1), .inr (0, [.inl (x0), .inl (x1)]), .inr (0, [.inl (nI (rNx (rp i))), .inl (nI (rNx (rt i)))]), .inr (0, [.inl (nI (rDn (rp i))), .inl (nI (rDn (rt i)))]), .inr (0, [.inl (rEn (rp i)), .inl (rEn (rt i))]), .inr (0, w0), .inr (0, w1), .inr (0, [.inl (nI (rOs (rp i))), .inl (nI (rOs (rt i)))]), .inr (0, [.inl (h0), .inl (h1)]), .inr (0, vz), .inr (0, vt), .inr (0, w0), .inr (0, w1)] := hm_set (i := 14) (z2 := .inr (0, w1)) g1_ rfl
    have g3_ : hm _ _ [A 0, A 1, A 2, A 3, A 4, A 5, A 6, A 7, A 8, A 9, A 10, A 11, A 12, FR i, TR i] [.inl (12, gs2), .inr (0, f0), .inr (0, f1), .inr (0, [.inl (x0), .inl (x1)]), .inr (0, [.inl (nI (rNx (rp i))), .inl (nI (rNx (rt i)))]), .inr (0, [.inl (nI (rDn (rp i))), .inl (nI (rDn (rt i)))]), .inr (0, [.inl (rEn (rp i)), .inl (rEn (rt i))]), .inr (0, w0), .inr (0, w1), .inr (0, [.inl (nI (rOs (rp i))), .inl (nI (rOs (rt i)))]), .inr (0, [.inl (h0), .inl (h1)]), .inr (0, (vz).set (i) (.inl (nI (rOs (rp i))))), .inr (0, vt), .inr (0, w0), .inr (0, w1)] := hm_set (i := 11) (z2 := .inr (0, (vz).set (i) (.inl (nI (rOs (rp i)))))) g2_ rfl
    have g4_ : hm _ _ [A 0, A 1, A 2, A 3, A 4, A 5, A 6, A 7, A 8, A 9, A 10, A 11, A 12, FR i, TR i] [.inl (12, gs2), .inr (0, f0), .inr (0, f1), .inr (0, [.inl (x0), .inl (x1)]), .inr (0, [.inl (nI (rNx (rp i))), .inl (nI (rNx (rt i)))]), .inr (0, [.inl (nI (rDn (rp i))), .inl (nI (rDn (rt i)))]), .inr (0, [.inl (rEn (rp i)), .inl (rEn (rt i))]), .inr (0, w0), .inr (0, w1), .inr (0, [.inl (nI (rOs (rp i))), .inl (nI (rOs (rt i)))]), .inr (0, [.inl (h0), .inl (h1)]), .inr (0, (vz).set (i) (.inl (nI (rOs (rp i))))), .inr (0, (vt).set (i) (.inl (nI (rOs (rt i))))), .inr (0, w0), .inr (0, w1)] := hm_set (i := 12) (z2 := .inr (0, (vt).set (i) (.inl (nI (rOs (rt i)))))) g3_ rfl
    refine ⟨_, ?_, mPh_s hd hN hP hi h92 hl0 hl1 hw0 hw1 hv0 hv1 cz ct g4_⟩
    refine xT_aload_n g_q202 g202_0 (rfl) ?_
    refine xT_iload_n g_q202 g202_1 (rfl) ?_
    refine xT_iload_n g_q202 g202_2 (rfl) ?_
    refine xT_invokevirtual (r := []) (u := none) g_q202 g202_3 (j := 203) (so := 0) (by decide +kernel) g_q203 rfl (by rw [x_rcM hA0 hb]; rfl) (y1_) ?_
    refine xT_aload_n g_q202 g202_6 (rfl) ?_
    refine xT_getfield g_q202 g202_7 hA0 rfl (hm_at h15 (i := 0) rfl rfl) rfl g55 ?_
    refine xT_icV (y := nI (0)) g_q202 g202_10 (by decide) ?_
    refine xT_aaload g_q202 g202_11 (by decide +kernel) (hm_c h15 cwo0) (ixN (n := 2) (by decide) nwo0) (ixG (by decide) ewo0) ?_
    refine xT_icV (y := nI (0)) g_q202 g202_12 (by decide) ?_
    refine xT_aload_n g_q202 g202_13 (rfl) ?_
    refine xT_getfield g_q202 g202_14 hA0 rfl (hm_at h15 (i := 0) rfl rfl) rfl g13 ?_
    refine xT_iload_n g_q202 g202_17 (rfl) ?_
    refine xT_aaload g_q202 g202_18 (by decide +kernel) (hm_c h15 cfi) (ixN (n := 12) (by omega) nfi) (ixG (by omega) efi) ?_
    refine xT_icV (y := nI (0)) g_q202 g202_19 (by decide) ?_
    refine xT_biV (y := nI (12)) g_q202 g202_20 (by decide) ?_
    refine xT_arraycopy g_q202 g202_22 (by decide +kernel) (by decide +kernel) (hm_at h15 (i := 7) rfl rfl) (hm_at h15 (i := 13) rfl rfl) (ac4 hw0 nf_.1) ?_
    rw [acl hw0.1 nf_.1]
    refine xT_aload_n g_q202 g202_25 (rfl) ?_
    refine xT_getfield g_q202 g202_26 hA0 rfl (hm_at g1_ (i := 0) rfl rfl) rfl g55 ?_
    refine xT_icV (y := nI (1)) g_q202 g202_29 (by decide) ?_
    refine xT_aaload g_q202 g202_30 (by decide +kernel) (hm_c g1_ cwo1) (ixN (n := 2) (by decide) nwo1) (ixG (by decide) ewo1) ?_
    refine xT_icV (y := nI (0)) g_q202 g202_31 (by decide) ?_
    refine xT_aload_n g_q202 g202_32 (rfl) ?_
    refine xT_getfield g_q202 g202_33 hA0 rfl (hm_at g1_ (i := 0) rfl rfl) rfl g15 ?_
    refine xT_iload_n g_q202 g202_36 (rfl) ?_
    refine xT_aaload g_q202 g202_37 (by decide +kernel) (hm_c g1_ ctw) (ixN (n := 12) (by omega) ntw) (ixG (by omega) etw) ?_
    refine xT_icV (y := nI (0)) g_q202 g202_38 (by decide) ?_
    refine xT_biV (y := nI (12)) g_q202 g202_39 (by decide) ?_
    refine xT_arraycopy g_q202 g202_41 (by decide +kernel) (by decide +kernel) (hm_at g1_ (i := 8) rfl rfl) (hm_at g1_ (i := 14) rfl rfl) (ac4 hw1 nw_.1) ?_
    rw [acl hw1.1 nw_.1]
    refine xT_aload_n g_q202 g202_44 (rfl) ?_
    refine xT_getfield g_q202 g202_45 hA0 rfl (hm_at g2_ (i := 0) rfl rfl) rfl g14 ?_
    refine xT_iload_n g_q202 g202_48 (rfl) ?_
    refine xT_aload_n g_q202 g202_49 (rfl) ?_
    refine xT_getfield g_q202 g202_50 hA0 rfl (hm_at g2_ (i := 0) rfl rfl) rfl g56 ?_
    refine xT_icV (y := nI (0)) g_q202 g202_53 (by decide) ?_
    refine xT_iaload g_q202 g202_54 hN9 (hm_at g2_ (i := 9) rfl rfl) (ixN (n := 2) (by decide) rfl) (ixG (by decide) rfl) ?_
    refine xT_iastore g_q202 g202_55 (hm_at g2_ (i := 11) rfl rfl) (ixN (n := 12) (by omega) nz_) ?_
    rw [nI_clamp (by omega)]
    refine xT_aload_n g_q202 g202_56 (rfl) ?_
    refine xT_getfield g_q202 g202_57 hA0 rfl (hm_at g3_ (i := 0) rfl rfl) rfl g16 ?_
    refine xT_iload_n g_q202 g202_60 (rfl) ?_
    refine xT_aload_n g_q202 g202_61 (rfl) ?_
    refine xT_getfield g_q202 g202_62 hA0 rfl (hm_at g3_ (i := 0) rfl rfl) rfl g56 ?_
    refine xT_icV (y := nI (1)) g_q202 g202_65 (by decide) ?_
    refine xT_iaload g_q202 g202_66 hN9 (hm_at g3_ (i := 9) rfl rfl) (ixN (n := 2) (by decide) rfl) (ixG (by decide) rfl) ?_
    refine xT_iastore g_q202 g202_67 (hm_at g3_ (i := 12) rfl rfl) (ixN (n := 12) (by omega) nt_) ?_
    rw [nI_clamp (by omega)]
    refine xT_aload_n g_q202 g202_68 (rfl) ?_
    refine xT_getfield g_q202 g202_69 hA0 rfl (hm_at g4_ (i := 0) rfl rfl) rfl g54 ?_
    refine xT_icV (y := nI (0)) g_q202 g202_72 (by decide) ?_
    refine xT_iaload g_q202 g202_73 hN6 (hm_at g4_ (i := 6) rfl rfl) (ixN (n := 2) (by decide) rfl) (ixG (by decide) rfl) ?_
    refine xT_aload_n g_q202 g202_74 (rfl) ?_
    refine xT_getfield g_q202 g202_75 hA0 rfl (hm_at g4_ (i := 0) rfl rfl) rfl g54 ?_
    refine xT_icV (y := nI (1)) g_q202 g202_78 (by decide) ?_
    refine xT_iaload g_q202 g202_79 hN6 (hm_at g4_ (i := 6) rfl rfl) (ixN (n := 2) (by decide) rfl) (ixG (by decide) rfl) ?_
    refine xT_if_icmpN g_q202 g202_80 (t := 113) (by decide) (decide_eq_false (fun z => z ce)) ?_
    refine xT_aload_n g_q202 g202_83 (rfl) ?_
    refine xT_getfield g_q202 g202_84 hA0 rfl (hm_at g4_ (i := 0) rfl rfl) rfl g13 ?_
    refine xT_iload_n g_q202 g202_87 (rfl) ?_
    refine xT_aaload g_q202 g202_88 (by decide +kernel) (hm_c g4_ cfi) (ixN (n := 12) (by omega) nfi) (ixG (by omega) efi) ?_
    refine xT_aload_n g_q202 g202_89 (rfl) ?_
    refine xT_getfield g_q202 g202_90 hA0 rfl (hm_at g4_ (i := 0) rfl rfl) rfl g14 ?_
    refine xT_iload_n g_q202 g202_93 (rfl) ?_
    refine xT_iaload g_q202 g202_94 hN11 (hm_at g4_ (i := 11) rfl rfl) (ixN (n := 12) (by omega) (by rw [List.length_set]; exact nz_)) (ixG (by omega) (List.getElem?_set_self (by omega))) ?_
    refine xT_aload_n g_q202 g202_95 (rfl) ?_
    refine xT_getfield g_q202 g202_96 hA0 rfl (hm_at g4_ (i := 0) rfl rfl) rfl g15 ?_
    refine xT_iload_n g_q202 g202_99 (rfl) ?_
    refine xT_aaload g_q202 g202_100 (by decide +kernel) (hm_c g4_ ctw) (ixN (n := 12) (by omega) ntw) (ixG (by omega) etw) ?_
    refine xT_aload_n g_q202 g202_101 (rfl) ?_
    refine xT_getfield g_q202 g202_102 hA0 rfl (hm_at g4_ (i := 0) rfl rfl) rfl g16 ?_
    refine xT_iload_n g_q202 g202_105 (rfl) ?_
    refine xT_iaload g_q202 g202_106 hN12 (hm_at g4_ (i := 12) rfl rfl) (ixN (n := 12) (by omega) (by rw [List.length_set]; exact nt_)) (ixG (by omega) (List.getElem?_set_self (by omega))) ?_
    refine xT_invokestatic (r := []) (u := some (.inl (nI (0)))) g_q202 g202_107 (j := 211) (so := 2) (by decide +kernel) g_q211 (rfl) (by have y := t211 (ot := ot) (dp := dp + 4) hN13 hN14 (hm_at g4_ (i := 13) rfl rfl) (hm_at g4_ (i := 14) rfl rfl) hw0.1 hw1.1 (rdP_12 hd hrp hi) hv0 (fun em k hk => hv1 k (by omega)) (rdT_12 hd hrt hi); rw [if_neg cl] at y; exact y) ?_
    refine xT_ifCondN g_q202 g202_110 (t := 117) (by decide) (c1N (a := 0) (b := 0) rfl) ?_
    refine xT_icV (y := nI (1)) g_q202 g202_113 (by decide) ?_
    refine xT_goto g_q202 g202_114 (t := 118) (by decide) ?_
    exact xT_ireturn g_q202 g202_118 (by decide +kernel)
end XH33_51
