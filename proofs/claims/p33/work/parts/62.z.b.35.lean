/-! p33 by hand, 34. -/
noncomputable section XH33_34
variable {ot : XO Int32} {dp : Nat} {H H0 : List (XC Int32)}
theorem t203_l {b F0 F1 ln cd ip sh shs fi fz tw tz fo pc tk dn en wo ws la W0 W1 q : Nat} {p0 p1 : rP} (hA0 : ¬ 1000000 < b) (hN1 : ¬ F0 = 1000000) (hN2 : ¬ F1 = 1000000) (hN3 : ¬ pc = 1000000) (hN4 : ¬ tk = 1000000) (hN5 : ¬ dn = 1000000) (hN6 : ¬ en = 1000000) (hN7 : ¬ W0 = 1000000) (hN8 : ¬ W1 = 1000000) (hN9 : ¬ ws = 1000000) (hN10 : ¬ la = 1000000) (hfo : rQ H0 [b, F0, F1, pc, tk, dn, en, W0, W1, ws, la] fo 5 2 0 F0 ∧ rQ H0 [b, F0, F1, pc, tk, dn, en, W0, W1, ws, la] fo 5 2 1 F1) (hwo : rQ H0 [b, F0, F1, pc, tk, dn, en, W0, W1, ws, la] wo 5 2 0 W0 ∧ rQ H0 [b, F0, F1, pc, tk, dn, en, W0, W1, ws, la] wo 5 2 1 W1) {gz : List (XV Int32)} (hGz : rG gz ln cd ip sh shs fi fz tw tz fo pc tk dn en wo ws la) (hq : q < 12) (hC0 : rC H0 [b, F0, F1, pc, tk, dn, en, W0, W1, ws, la] ln cd q p0) (hC1 : rC H0 [b, F0, F1, pc, tk, dn, en, W0, W1, ws, la] ln cd q p1) (hTz0 : rT H0 [b, F0, F1, pc, tk, dn, en, W0, W1, ws, la] gz q 0 p0) (hTz1 : rT H0 [b, F0, F1, pc, tk, dn, en, W0, W1, ws, la] gz q 1 p1) (hN0_ : rN H0 [b, F0, F1, pc, tk, dn, en, W0, W1, ws, la] ip sh shs fi fz q p0) (hN1_ : rN H0 [b, F0, F1, pc, tk, dn, en, W0, W1, ws, la] ip sh shs tw tz q p1) (hok0 : pOk p0) (hok1 : pOk p1) (hy : pYr p0 = pYr p1) : ∀ (k tg : Nat) (s0 s1 : rS) (gs : List (XV Int32)) (H : List (XC Int32)) (L : List (Nat × XV Int32)), (150 - rDn s0) + (150 - rDn s1) ≤ k → rOk p0 s0 → rOk p1 s1 → rEo s0 → rEo s1 → tg ≤ 1 → (tg = 1 → rEn s0 = rEn s1) → rS9 gs gz → rM H0 H b F0 F1 pc tk dn en W0 W1 ws la gs s0 s1 → x_lk L 0 = some (.inr (some (b))) → x_lk L 1 = some (.inl (nI (q))) → x_lk L 2 = some (.inl ((pYr p0))) → x_lk L 3 = some (.inl (nI (tg))) → ∃ H2 gs2, x_To x_tb x_tyl ot (dp + 4) 203 17 L [] H 0 0 none H2 ∧ rS9 gs2 gz ∧ rM H0 H2 b F0 F1 pc tk dn en W0 W1 ws la gs2 (rF p0 s0) (rF p1 s1) := by
  have g58z : 58 < gz.length := by
    obtain ⟨-, -, -, -, -, -, -, -, -, -, -, -, -, -, -, -, -, g58⟩ := id hGz
    exact g58
  obtain ⟨⟨D, ⟨lcd, ccd, ncd, ecd⟩, hD0, lD, cD, nD, eD⟩, -⟩ := id hC0
  obtain ⟨⟨lfo, cfo, nfo, efo0⟩, ⟨lfo1, cfo1, nfo1, efo1⟩⟩ := id hfo
  obtain ⟨⟨lwo, cwo, nwo, ewo0⟩, ⟨lwo1, cwo1, nwo1, ewo1⟩⟩ := id hwo
  intro k
  induction k with
  | zero =>
    intro tg s0 s1 gs H L hk hs0 hs1 o0 o1 htg heq h9 hM l0 l1 l2 l3
    have r0 : rEn s0 ≠ -1 := fun z => by
      have := (hs0.1 z).2
      omega
    have r1 : rEn s1 ≠ -1 := fun z => by
      have := (hs1.1 z).2
      omega
    obtain ⟨f0, f1, w0, w1, x0, x1, h0, h1, h, hx0, hx1, hl0, hl1, ⟨hm0, -⟩, ⟨hm1, -⟩, hf0, hf1, hv0, hv1⟩ := id hM
    obtain ⟨g1, g2, g6, g11, g12, g13, g14, g15, g16, g50, g51, g52, g53, g54, g55, g56, g57, g58⟩ := rG_9 h9 hGz
    refine ⟨H, gs, ?_, h9, by rw [rF_end r0, rF_end r1]; exact hM⟩
    refine xT_aload_n g_q203 g203_17 (l0) ?_
    refine xT_getfield g_q203 g203_18 hA0 rfl (hm_at h (i := 0) rfl rfl) rfl g54 ?_
    refine xT_icV (y := nI (0)) g_q203 g203_21 (by decide) ?_
    refine xT_iaload g_q203 g203_22 hN6 (hm_at h (i := 6) rfl rfl) (ixN (n := 2) (by decide) rfl) (ixG (by decide) rfl) ?_
    refine xT_ifCondN g_q203 g203_23 (t := 35) (by decide) (decide_eq_false (rEo_ge o0 r0)) ?_
    refine xT_aload_n g_q203 g203_26 (l0) ?_
    refine xT_getfield g_q203 g203_27 hA0 rfl (hm_at h (i := 0) rfl rfl) rfl g54 ?_
    refine xT_icV (y := nI (1)) g_q203 g203_30 (by decide) ?_
    refine xT_iaload g_q203 g203_31 hN6 (hm_at h (i := 6) rfl rfl) (ixN (n := 2) (by decide) rfl) (ixG (by decide) rfl) ?_
    refine xT_ifCondY g_q203 g203_32 (t := 224) (by decide) (decide_eq_true (Int32.not_lt.mp (rEo_ge o1 r1))) ?_
    exact xT_return_ g_q203 g203_224 (rfl)
  | succ k ih =>
    intro tg s0 s1 gs H L hk hs0 hs1 o0 o1 htg heq h9 hM l0 l1 l2 l3
    obtain ⟨f0, f1, w0, w1, x0, x1, h0, h1, h, hx0, hx1, hl0, hl1, ⟨hm0, -⟩, ⟨hm1, -⟩, hf0, hf1, hv0, hv1⟩ := id hM
    obtain ⟨g1, g2, g6, g11, g12, g13, g14, g15, g16, g50, g51, g52, g53, g54, g55, g56, g57, g58⟩ := rG_9 h9 hGz
    by_cases r0 : rEn s0 = -1
    · have d0 := (hs0.1 r0).2
      have hll0 := (hs0.1 r0).1
      by_cases r1 : rEn s1 = -1
      · have d1 := (hs1.1 r1).2
        rcases (show tg = 0 ∨ tg = 1 by omega) with rfl | rfl
        · skip
          obtain ⟨G1, y1_, hM1⟩ := t205_0 (dp := dp) (ot := ot) hA0 hN1 hN2 hN3 hN4 hN5 hN6 hN7 hN8 hN9 hN10 (rG_9 h9 hGz) hfo hwo hq hC0 (rT_9 h9 hTz0) hN0_ hok0 hs0 r0 hM
          obtain ⟨_, _, _, _, xb0, xb1, hb_0, hb_1, hb1, -⟩ := id hM1
          obtain ⟨G2, y2_, hM2⟩ := t205_1 (dp := dp) (ot := ot) hA0 hN1 hN2 hN3 hN4 hN5 hN6 hN7 hN8 hN9 hN10 (rG_9 h9 hGz) hfo hwo hq hC1 (rT_9 h9 hTz1) hN1_ hok1 hs1 r1 hM1
          rw [← hy] at y2_
          obtain ⟨H3, gs3, x3, x4, x5⟩ := ih 0 (stM p0 s0) (stM p1 s1) gs G2 (x_st (x_st (x_st (x_st (L) 4 (.inl (x0))) 5 (.inl (nI (0)))) 5 (.inl (nI (0 + 1)))) 5 (.inl (nI (0 + 1 + 1)))) (by rw [stM_dn, stM_dn]; omega) (stM_ok hs0 r0) (stM_ok hs1 r1) stM_eo stM_eo (by decide) (fun z => absurd z (by decide)) h9 hM2 (lkN (by decide) (lkN (by decide) (lkN (by decide) (lkN (by decide) (l0))))) (lkN (by decide) (lkN (by decide) (lkN (by decide) (lkN (by decide) (l1))))) (lkN (by decide) (lkN (by decide) (lkN (by decide) (lkN (by decide) (l2))))) (lkN (by decide) (lkN (by decide) (lkN (by decide) (lkN (by decide) (l3)))))
          rw [rF_st hs0 r0, rF_st hs1 r1] at x5
          refine ⟨H3, gs3, ?_, x4, x5⟩
          refine xT_aload_n g_q203 g203_17 (l0) ?_
          refine xT_getfield g_q203 g203_18 hA0 rfl (hm_at h (i := 0) rfl rfl) rfl g54 ?_
          refine xT_icV (y := nI (0)) g_q203 g203_21 (by decide) ?_
          refine xT_iaload g_q203 g203_22 hN6 (hm_at h (i := 6) rfl rfl) (ixN (n := 2) (by decide) rfl) (ixG (by decide) rfl) ?_
          refine xT_ifCondY g_q203 g203_23 (t := 35) (by decide) (decide_eq_true (rEn_lt r0)) ?_
          refine xT_aload_n g_q203 g203_35 (l0) ?_
          refine xT_getfield g_q203 g203_36 hA0 rfl (hm_at h (i := 0) rfl rfl) rfl g51 ?_
          refine xT_icV (y := nI (0)) g_q203 g203_39 (by decide) ?_
          refine xT_iaload g_q203 g203_40 hN3 (hm_at h (i := 3) rfl rfl) (ixN (n := 2) (by decide) rfl) (ixG (by decide) rfl) ?_
          refine xT_istore g_q203 g203_41 (by decide) ?_
          refine xT_iload_n g_q203 g203_43 (lkN (by decide) (l3)) ?_
          refine xT_ifCondY g_q203 g203_44 (t := 188) (by decide) (c0Y (a := 0) (b := 0) rfl) ?_
          refine xT_icV (y := nI (0)) g_q203 g203_188 (by decide) ?_
          refine xT_istore g_q203 g203_189 (by decide) ?_
          refine xT_iload g_q203 g203_191 (lkY) ?_
          refine xT_icV (y := nI (2)) g_q203 g203_193 (by decide) ?_
          refine xT_if_icmpN g_q203 g203_194 (t := 221) (by decide) (c3N (a := 0) (b := 2) (by omega) (by omega) (by omega)) ?_
          refine xT_aload_n g_q203 g203_197 (lkN (by decide) (lkN (by decide) (l0))) ?_
          refine xT_getfield g_q203 g203_198 hA0 rfl (hm_at h (i := 0) rfl rfl) rfl g54 ?_
          refine xT_iload g_q203 g203_201 (lkY) ?_
          refine xT_iaload g_q203 g203_203 hN6 (hm_at h (i := 6) rfl rfl) (ixN (n := 2) (by decide) rfl) (ixG (by decide) rfl) ?_
          refine xT_ifCondN g_q203 g203_204 (t := 215) (by decide) (decide_eq_false (Int32.not_le.mpr (rEn_lt r0))) ?_
          refine xT_aload_n g_q203 g203_207 (lkN (by decide) (lkN (by decide) (l0))) ?_
          refine xT_iload_n g_q203 g203_208 (lkN (by decide) (lkN (by decide) (l1))) ?_
          refine xT_iload_n g_q203 g203_209 (lkN (by decide) (lkN (by decide) (l2))) ?_
          refine xT_iload g_q203 g203_210 (lkY) ?_
          refine xT_invokevirtual (r := []) (u := none) g_q203 g203_212 (j := 205) (so := 0) (by decide +kernel) g_q205 rfl (by rw [x_rcM hA0 (hm_at h (i := 0) rfl rfl)]; rfl) (y1_) ?_
          refine xT_iincV (y := nI (0 + 1)) g_q203 g203_215 (lkY) (by decide) (bIncN _) ?_
          refine xT_goto g_q203 g203_218 (t := 191) (by decide) ?_
          refine xT_iload g_q203 g203_191 (lkY) ?_
          refine xT_icV (y := nI (2)) g_q203 g203_193 (by decide) ?_
          refine xT_if_icmpN g_q203 g203_194 (t := 221) (by decide) (c3N (a := 0 + 1) (b := 2) (by omega) (by omega) (by omega)) ?_
          refine xT_aload_n g_q203 g203_197 (lkN (by decide) (lkN (by decide) (lkN (by decide) (l0)))) ?_
          refine xT_getfield g_q203 g203_198 hA0 rfl (hm_at hb1 (i := 0) rfl rfl) rfl g54 ?_
          refine xT_iload g_q203 g203_201 (lkY) ?_
          refine xT_iaload g_q203 g203_203 hN6 (hm_at hb1 (i := 6) rfl rfl) (ixN (n := 2) (by decide) rfl) (ixG (by decide) rfl) ?_
          refine xT_ifCondN g_q203 g203_204 (t := 215) (by decide) (decide_eq_false (Int32.not_le.mpr (rEn_lt r1))) ?_
          refine xT_aload_n g_q203 g203_207 (lkN (by decide) (lkN (by decide) (lkN (by decide) (l0)))) ?_
          refine xT_iload_n g_q203 g203_208 (lkN (by decide) (lkN (by decide) (lkN (by decide) (l1)))) ?_
          refine xT_iload_n g_q203 g203_209 (lkN (by decide) (lkN (by decide) (lkN (by decide) (l2)))) ?_
          refine xT_iload g_q203 g203_210 (lkY) ?_
          refine xT_invokevirtual (r := []) (u := none) g_q203 g203_212 (j := 205) (so := 0) (by decide +kernel) g_q205 rfl (by rw [x_rcM hA0 (hm_at hb1 (i := 0) rfl rfl)]; rfl) (y2_) ?_
          refine xT_iincV (y := nI (0 + 1 + 1)) g_q203 g203_215 (lkY) (by decide) (bIncN _) ?_
          refine xT_goto g_q203 g203_218 (t := 191) (by decide) ?_
          refine xT_iload g_q203 g203_191 (lkY) ?_
          refine xT_icV (y := nI (2)) g_q203 g203_193 (by decide) ?_
          refine xT_if_icmpY g_q203 g203_194 (t := 221) (by decide) (c3Y (a := 0 + 1 + 1) (b := 2) (by omega) (by omega) (by omega)) ?_
          refine xT_goto g_q203 g203_221 (t := 17) (by decide) ?_
          exact x3
        · obtain rfl : x0 = nI (rLn s0) := hx0 r0
          obtain ⟨k0, -⟩ := eD (rLn s0) hll0
          have ho12 := (hok0.2.2.2 (rLn s0) hll0).1
          have hop3 := (opR_t (pOp p0 (rLn s0)) (by omega)).1
          have hnl12 := hok0.2.1
          obtain ⟨G1, y1_, hM1⟩ := t205_0 (dp := dp) (ot := ot) hA0 hN1 hN2 hN3 hN4 hN5 hN6 hN7 hN8 hN9 hN10 (rG_9 h9 hGz) hfo hwo hq hC0 (rT_9 h9 hTz0) hN0_ hok0 hs0 r0 hM
          obtain ⟨_, _, _, _, xb0, xb1, hb_0, hb_1, hb1, -⟩ := id hM1
          obtain ⟨G2, y2_, hM2⟩ := t205_1 (dp := dp) (ot := ot) hA0 hN1 hN2 hN3 hN4 hN5 hN6 hN7 hN8 hN9 hN10 (rG_9 h9 hGz) hfo hwo hq hC1 (rT_9 h9 hTz1) hN1_ hok1 hs1 r1 hM1
          rw [← hy] at y2_
          obtain ⟨f0b, f1b, w0b, w1b, x0b, x1b, h0b, h1b, h2, -, -, hl0b, hl1b, ⟨hm0b, -⟩, ⟨hm1b, -⟩, -⟩ := id hM2
          by_cases hop : pOp p0 (rLn s0) = 2
          · have hop2 : opR (pOp p0 (rLn s0)) = 2 := by
              rw [hop]
              rfl
            obtain ⟨r, hr1, hr0, hcps⟩ := t203_a (dp := dp + 4) (ot := ot) (yr := pYr p0) (tg := 1) (at0 := rLn s0) (o := 1) (q := q) hA0 hN1 hN2 hN3 hN4 hN5 hN6 hN7 hN8 hN9 hN10 hl0b hl1b hm0b hm1b (rG_9 h9 hGz) hfo hwo h2 (by decide)
            rcases (show r = 0 ∨ r = 1 by omega) with rfl | rfl
            · obtain ⟨H3, gs3, x3, x4, x5⟩ := ih 1 (stM p0 s0) (stM p1 s1) (gs.set 58 (.inl (-1))) (G2.set b (.inl (12, gs.set 58 (.inl (-1))))) (x_st (x_st (x_st (x_st (L) 4 (.inl (nI (rLn s0)))) 5 (.inl (nI (1)))) 6 (.inl (nI (0)))) 3 (.inl (nI (1)))) (by rw [stM_dn, stM_dn]; omega) (stM_ok hs0 r0) (stM_ok hs1 r1) stM_eo stM_eo (by decide) (fun z => hr0 rfl) (rS9_set h9) (rM_parts hM2) (lkN (by decide) (lkN (by decide) (lkN (by decide) (lkN (by decide) (l0))))) (lkN (by decide) (lkN (by decide) (lkN (by decide) (lkN (by decide) (l1))))) (lkN (by decide) (lkN (by decide) (lkN (by decide) (lkN (by decide) (l2))))) (lkY)
              rw [rF_st hs0 r0, rF_st hs1 r1] at x5
              refine ⟨H3, gs3, ?_, x4, x5⟩
              refine xT_aload_n g_q203 g203_17 (l0) ?_
              refine xT_getfield g_q203 g203_18 hA0 rfl (hm_at h (i := 0) rfl rfl) rfl g54 ?_
              refine xT_icV (y := nI (0)) g_q203 g203_21 (by decide) ?_
              refine xT_iaload g_q203 g203_22 hN6 (hm_at h (i := 6) rfl rfl) (ixN (n := 2) (by decide) rfl) (ixG (by decide) rfl) ?_
              refine xT_ifCondY g_q203 g203_23 (t := 35) (by decide) (decide_eq_true (rEn_lt r0)) ?_
              refine xT_aload_n g_q203 g203_35 (l0) ?_
              refine xT_getfield g_q203 g203_36 hA0 rfl (hm_at h (i := 0) rfl rfl) rfl g51 ?_
              refine xT_icV (y := nI (0)) g_q203 g203_39 (by decide) ?_
              refine xT_iaload g_q203 g203_40 hN3 (hm_at h (i := 3) rfl rfl) (ixN (n := 2) (by decide) rfl) (ixG (by decide) rfl) ?_
              refine xT_istore g_q203 g203_41 (by decide) ?_
              refine xT_iload_n g_q203 g203_43 (lkN (by decide) (l3)) ?_
              refine xT_ifCondN g_q203 g203_44 (t := 188) (by decide) (c0N (a := 1) (b := 0) (by omega) (by omega) (by omega)) ?_
              refine xT_aload_n g_q203 g203_47 (lkN (by decide) (l0)) ?_
              refine xT_getfield g_q203 g203_48 hA0 rfl (hm_at h (i := 0) rfl rfl) rfl g2 ?_
              refine xT_iload_n g_q203 g203_51 (lkN (by decide) (l1)) ?_
              refine xT_aaload g_q203 g203_52 (by decide +kernel) (hm_c h ccd) (ixN (n := 13) (by omega) ncd) (ixG (by omega) ecd) ?_
              refine xT_icV (y := nI (4)) g_q203 g203_53 (by decide) ?_
              refine xT_iload g_q203 g203_54 (lkY) ?_
              refine xT_imulV (y := nI (4 * rLn s0)) g_q203 g203_56 (bMulN _ _) ?_
              refine xT_iaload g_q203 g203_57 hD0 (hm_c h cD) (ixN (n := 48) (by omega) nD) (ixG (by omega) k0) ?_
              refine xT_icV (y := nI (2)) g_q203 g203_58 (by decide) ?_
              refine xT_if_icmpN g_q203 g203_59 (t := 66) (by decide) (c1N (a := opR (pOp p0 (rLn s0))) (b := 2) hop2) ?_
              refine xT_icV (y := nI (1)) g_q203 g203_62 (by decide) ?_
              refine xT_goto g_q203 g203_63 (t := 67) (by decide) ?_
              refine xT_istore g_q203 g203_67 (by decide) ?_
              refine xT_aload_n g_q203 g203_69 (lkN (by decide) (lkN (by decide) (l0))) ?_
              refine xT_iload_n g_q203 g203_70 (lkN (by decide) (lkN (by decide) (l1))) ?_
              refine xT_iload_n g_q203 g203_71 (lkN (by decide) (lkN (by decide) (l2))) ?_
              refine xT_icV (y := nI (0)) g_q203 g203_72 (by decide) ?_
              refine xT_invokevirtual (r := []) (u := none) g_q203 g203_73 (j := 205) (so := 0) (by decide +kernel) g_q205 rfl (by rw [x_rcM hA0 (hm_at h (i := 0) rfl rfl)]; rfl) (y1_) ?_
              refine xT_aload_n g_q203 g203_76 (lkN (by decide) (lkN (by decide) (l0))) ?_
              refine xT_iload_n g_q203 g203_77 (lkN (by decide) (lkN (by decide) (l1))) ?_
              refine xT_iload_n g_q203 g203_78 (lkN (by decide) (lkN (by decide) (l2))) ?_
              refine xT_icV (y := nI (1)) g_q203 g203_79 (by decide) ?_
              refine xT_invokevirtual (r := []) (u := none) g_q203 g203_80 (j := 205) (so := 0) (by decide +kernel) g_q205 rfl (by rw [x_rcM hA0 (hm_at hb1 (i := 0) rfl rfl)]; rfl) (y2_) ?_
              refine hcps _ _ _ (lkN (by decide) (lkN (by decide) (l0))) (lkN (by decide) (lkN (by decide) (l1))) (lkN (by decide) (lkN (by decide) (l2))) (lkN (by decide) (lkN (by decide) (l3))) (lkN (by decide) (lkY)) (lkY) ?_
              refine xT_istore g_q203 g203_157 (by decide) ?_
              refine xT_aload_n g_q203 g203_159 (lkN (by decide) (lkN (by decide) (lkN (by decide) (l0)))) ?_
              refine xT_iload g_q203 g203_160 (lkY) ?_
              refine xT_ifCondY g_q203 g203_162 (t := 170) (by decide) (c0Y (a := 0) (b := 0) rfl) ?_
              refine xT_icV (y := -1) g_q203 g203_170 (by decide) ?_
              refine xT_putfield g_q203 g203_171 (ci := 12) (j := 58) rfl (hm_at h2 (i := 0) rfl rfl) rfl (by rw [decide_eq_true (show 58 < gs.length by rw [h9.1]; exact g58z)]; rfl) ?_
              refine xT_iload g_q203 g203_174 (lkY) ?_
              refine xT_ifCondN g_q203 g203_176 (t := 183) (by decide) (c1N (b := 0) rfl) ?_
              refine xT_icV (y := nI (1)) g_q203 g203_179 (by decide) ?_
              refine xT_goto g_q203 g203_180 (t := 184) (by decide) ?_
              refine xT_istore_n g_q203 g203_184 (by decide) ?_
              refine xT_goto g_q203 g203_185 (t := 17) (by decide) ?_
              exact x3
            · obtain ⟨H3, gs3, x3, x4, x5⟩ := ih 0 (stM p0 s0) (stM p1 s1) (gs.set 58 (.inl (nI (rLn s0)))) (G2.set b (.inl (12, gs.set 58 (.inl (nI (rLn s0)))))) (x_st (x_st (x_st (x_st (L) 4 (.inl (nI (rLn s0)))) 5 (.inl (nI (1)))) 6 (.inl (nI (1)))) 3 (.inl (nI (0)))) (by rw [stM_dn, stM_dn]; omega) (stM_ok hs0 r0) (stM_ok hs1 r1) stM_eo stM_eo (by decide) (fun z => absurd z (by decide)) (rS9_set h9) (rM_parts hM2) (lkN (by decide) (lkN (by decide) (lkN (by decide) (lkN (by decide) (l0))))) (lkN (by decide) (lkN (by decide) (lkN (by decide) (lkN (by decide) (l1))))) (lkN (by decide) (lkN (by decide) (lkN (by decide) (lkN (by decide) (l2))))) (lkY)
              rw [rF_st hs0 r0, rF_st hs1 r1] at x5
              refine ⟨H3, gs3, ?_, x4, x5⟩
              refine xT_aload_n g_q203 g203_17 (l0) ?_
              refine xT_getfield g_q203 g203_18 hA0 rfl (hm_at h (i := 0) rfl rfl) rfl g54 ?_
              refine xT_icV (y := nI (0)) g_q203 g203_21 (by decide) ?_
              refine xT_iaload g_q203 g203_22 hN6 (hm_at h (i := 6) rfl rfl) (ixN (n := 2) (by decide) rfl) (ixG (by decide) rfl) ?_
              refine xT_ifCondY g_q203 g203_23 (t := 35) (by decide) (decide_eq_true (rEn_lt r0)) ?_
              refine xT_aload_n g_q203 g203_35 (l0) ?_
              refine xT_getfield g_q203 g203_36 hA0 rfl (hm_at h (i := 0) rfl rfl) rfl g51 ?_
              refine xT_icV (y := nI (0)) g_q203 g203_39 (by decide) ?_
              refine xT_iaload g_q203 g203_40 hN3 (hm_at h (i := 3) rfl rfl) (ixN (n := 2) (by decide) rfl) (ixG (by decide) rfl) ?_
              refine xT_istore g_q203 g203_41 (by decide) ?_
              refine xT_iload_n g_q203 g203_43 (lkN (by decide) (l3)) ?_
              refine xT_ifCondN g_q203 g203_44 (t := 188) (by decide) (c0N (a := 1) (b := 0) (by omega) (by omega) (by omega)) ?_
              refine xT_aload_n g_q203 g203_47 (lkN (by decide) (l0)) ?_
              refine xT_getfield g_q203 g203_48 hA0 rfl (hm_at h (i := 0) rfl rfl) rfl g2 ?_
              refine xT_iload_n g_q203 g203_51 (lkN (by decide) (l1)) ?_
              refine xT_aaload g_q203 g203_52 (by decide +kernel) (hm_c h ccd) (ixN (n := 13) (by omega) ncd) (ixG (by omega) ecd) ?_
              refine xT_icV (y := nI (4)) g_q203 g203_53 (by decide) ?_
              refine xT_iload g_q203 g203_54 (lkY) ?_
              refine xT_imulV (y := nI (4 * rLn s0)) g_q203 g203_56 (bMulN _ _) ?_
              refine xT_iaload g_q203 g203_57 hD0 (hm_c h cD) (ixN (n := 48) (by omega) nD) (ixG (by omega) k0) ?_
              refine xT_icV (y := nI (2)) g_q203 g203_58 (by decide) ?_
              refine xT_if_icmpN g_q203 g203_59 (t := 66) (by decide) (c1N (a := opR (pOp p0 (rLn s0))) (b := 2) hop2) ?_
              refine xT_icV (y := nI (1)) g_q203 g203_62 (by decide) ?_
              refine xT_goto g_q203 g203_63 (t := 67) (by decide) ?_
              refine xT_istore g_q203 g203_67 (by decide) ?_
              refine xT_aload_n g_q203 g203_69 (lkN (by decide) (lkN (by decide) (l0))) ?_
              refine xT_iload_n g_q203 g203_70 (lkN (by decide) (lkN (by decide) (l1))) ?_
              refine xT_iload_n g_q203 g203_71 (lkN (by decide) (lkN (by decide) (l2))) ?_
              refine xT_icV (y := nI (0)) g_q203 g203_72 (by decide) ?_
              refine xT_invokevirtual (r := []) (u := none) g_q203 g203_73 (j := 205) (so := 0) (by decide +kernel) g_q205 rfl (by rw [x_rcM hA0 (hm_at h (i := 0) rfl rfl)]; rfl) (y1_) ?_
              refine xT_aload_n g_q203 g203_76 (lkN (by decide) (lkN (by decide) (l0))) ?_
              refine xT_iload_n g_q203 g203_77 (lkN (by decide) (lkN (by decide) (l1))) ?_
              refine xT_iload_n g_q203 g203_78 (lkN (by decide) (lkN (by decide) (l2))) ?_
              refine xT_icV (y := nI (1)) g_q203 g203_79 (by decide) ?_
              refine xT_invokevirtual (r := []) (u := none) g_q203 g203_80 (j := 205) (so := 0) (by decide +kernel) g_q205 rfl (by rw [x_rcM hA0 (hm_at hb1 (i := 0) rfl rfl)]; rfl) (y2_) ?_
              refine hcps _ _ _ (lkN (by decide) (lkN (by decide) (l0))) (lkN (by decide) (lkN (by decide) (l1))) (lkN (by decide) (lkN (by decide) (l2))) (lkN (by decide) (lkN (by decide) (l3))) (lkN (by decide) (lkY)) (lkY) ?_
              refine xT_istore g_q203 g203_157 (by decide) ?_
              refine xT_aload_n g_q203 g203_159 (lkN (by decide) (lkN (by decide) (lkN (by decide) (l0)))) ?_
              refine xT_iload g_q203 g203_160 (lkY) ?_
              refine xT_ifCondN g_q203 g203_162 (t := 170) (by decide) (c0N (a := 1) (b := 0) (by omega) (by omega) (by omega)) ?_
              refine xT_iload g_q203 g203_165 (lkN (by decide) (lkN (by decide) (lkY))) ?_
              refine xT_goto g_q203 g203_167 (t := 171) (by decide) ?_
              refine xT_putfield g_q203 g203_171 (ci := 12) (j := 58) rfl (hm_at h2 (i := 0) rfl rfl) rfl (by rw [decide_eq_true (show 58 < gs.length by rw [h9.1]; exact g58z)]; rfl) ?_
              refine xT_iload g_q203 g203_174 (lkY) ?_
              refine xT_ifCondY g_q203 g203_176 (t := 183) (by decide) (c1Y (a := 1) (b := 0) (by omega) (by omega) (by omega)) ?_
              refine xT_icV (y := nI (0)) g_q203 g203_183 (by decide) ?_
              refine xT_istore_n g_q203 g203_184 (by decide) ?_
              refine xT_goto g_q203 g203_185 (t := 17) (by decide) ?_
              exact x3
          · have hop2 : opR (pOp p0 (rLn s0)) ≠ 2 := fun z => hop (opR_2 _ (by omega) z)
            obtain ⟨r, hr1, hr0, hcps⟩ := t203_a (dp := dp + 4) (ot := ot) (yr := pYr p0) (tg := 1) (at0 := rLn s0) (o := 0) (q := q) hA0 hN1 hN2 hN3 hN4 hN5 hN6 hN7 hN8 hN9 hN10 hl0b hl1b hm0b hm1b (rG_9 h9 hGz) hfo hwo h2 (by decide)
            rcases (show r = 0 ∨ r = 1 by omega) with rfl | rfl
            · obtain ⟨H3, gs3, x3, x4, x5⟩ := ih 1 (stM p0 s0) (stM p1 s1) (gs.set 58 (.inl (-1))) (G2.set b (.inl (12, gs.set 58 (.inl (-1))))) (x_st (x_st (x_st (x_st (L) 4 (.inl (nI (rLn s0)))) 5 (.inl (nI (0)))) 6 (.inl (nI (0)))) 3 (.inl (nI (1)))) (by rw [stM_dn, stM_dn]; omega) (stM_ok hs0 r0) (stM_ok hs1 r1) stM_eo stM_eo (by decide) (fun z => hr0 rfl) (rS9_set h9) (rM_parts hM2) (lkN (by decide) (lkN (by decide) (lkN (by decide) (lkN (by decide) (l0))))) (lkN (by decide) (lkN (by decide) (lkN (by decide) (lkN (by decide) (l1))))) (lkN (by decide) (lkN (by decide) (lkN (by decide) (lkN (by decide) (l2))))) (lkY)
              rw [rF_st hs0 r0, rF_st hs1 r1] at x5
              refine ⟨H3, gs3, ?_, x4, x5⟩
              refine xT_aload_n g_q203 g203_17 (l0) ?_
              refine xT_getfield g_q203 g203_18 hA0 rfl (hm_at h (i := 0) rfl rfl) rfl g54 ?_
              refine xT_icV (y := nI (0)) g_q203 g203_21 (by decide) ?_
              refine xT_iaload g_q203 g203_22 hN6 (hm_at h (i := 6) rfl rfl) (ixN (n := 2) (by decide) rfl) (ixG (by decide) rfl) ?_
              refine xT_ifCondY g_q203 g203_23 (t := 35) (by decide) (decide_eq_true (rEn_lt r0)) ?_
              refine xT_aload_n g_q203 g203_35 (l0) ?_
              refine xT_getfield g_q203 g203_36 hA0 rfl (hm_at h (i := 0) rfl rfl) rfl g51 ?_
              refine xT_icV (y := nI (0)) g_q203 g203_39 (by decide) ?_
              refine xT_iaload g_q203 g203_40 hN3 (hm_at h (i := 3) rfl rfl) (ixN (n := 2) (by decide) rfl) (ixG (by decide) rfl) ?_
              refine xT_istore g_q203 g203_41 (by decide) ?_
              refine xT_iload_n g_q203 g203_43 (lkN (by decide) (l3)) ?_
              refine xT_ifCondN g_q203 g203_44 (t := 188) (by decide) (c0N (a := 1) (b := 0) (by omega) (by omega) (by omega)) ?_
              refine xT_aload_n g_q203 g203_47 (lkN (by decide) (l0)) ?_
              refine xT_getfield g_q203 g203_48 hA0 rfl (hm_at h (i := 0) rfl rfl) rfl g2 ?_
              refine xT_iload_n g_q203 g203_51 (lkN (by decide) (l1)) ?_
              refine xT_aaload g_q203 g203_52 (by decide +kernel) (hm_c h ccd) (ixN (n := 13) (by omega) ncd) (ixG (by omega) ecd) ?_
              refine xT_icV (y := nI (4)) g_q203 g203_53 (by decide) ?_
              refine xT_iload g_q203 g203_54 (lkY) ?_
              refine xT_imulV (y := nI (4 * rLn s0)) g_q203 g203_56 (bMulN _ _) ?_
              refine xT_iaload g_q203 g203_57 hD0 (hm_c h cD) (ixN (n := 48) (by omega) nD) (ixG (by omega) k0) ?_
              refine xT_icV (y := nI (2)) g_q203 g203_58 (by decide) ?_
              refine xT_if_icmpY g_q203 g203_59 (t := 66) (by decide) (c1Y (a := opR (pOp p0 (rLn s0))) (b := 2) hop2 (by omega) (by omega)) ?_
              refine xT_icV (y := nI (0)) g_q203 g203_66 (by decide) ?_
              refine xT_istore g_q203 g203_67 (by decide) ?_
              refine xT_aload_n g_q203 g203_69 (lkN (by decide) (lkN (by decide) (l0))) ?_
              refine xT_iload_n g_q203 g203_70 (lkN (by decide) (lkN (by decide) (l1))) ?_
              refine xT_iload_n g_q203 g203_71 (lkN (by decide) (lkN (by decide) (l2))) ?_
              refine xT_icV (y := nI (0)) g_q203 g203_72 (by decide) ?_
              refine xT_invokevirtual (r := []) (u := none) g_q203 g203_73 (j := 205) (so := 0) (by decide +kernel) g_q205 rfl (by rw [x_rcM hA0 (hm_at h (i := 0) rfl rfl)]; rfl) (y1_) ?_
              refine xT_aload_n g_q203 g203_76 (lkN (by decide) (lkN (by decide) (l0))) ?_
              refine xT_iload_n g_q203 g203_77 (lkN (by decide) (lkN (by decide) (l1))) ?_
              refine xT_iload_n g_q203 g203_78 (lkN (by decide) (lkN (by decide) (l2))) ?_
              refine xT_icV (y := nI (1)) g_q203 g203_79 (by decide) ?_
              refine xT_invokevirtual (r := []) (u := none) g_q203 g203_80 (j := 205) (so := 0) (by decide +kernel) g_q205 rfl (by rw [x_rcM hA0 (hm_at hb1 (i := 0) rfl rfl)]; rfl) (y2_) ?_
              refine hcps _ _ _ (lkN (by decide) (lkN (by decide) (l0))) (lkN (by decide) (lkN (by decide) (l1))) (lkN (by decide) (lkN (by decide) (l2))) (lkN (by decide) (lkN (by decide) (l3))) (lkN (by decide) (lkY)) (lkY) ?_
              refine xT_istore g_q203 g203_157 (by decide) ?_
              refine xT_aload_n g_q203 g203_159 (lkN (by decide) (lkN (by decide) (lkN (by decide) (l0)))) ?_
              refine xT_iload g_q203 g203_160 (lkY) ?_
              refine xT_ifCondY g_q203 g203_162 (t := 170) (by decide) (c0Y (a := 0) (b := 0) rfl) ?_
              refine xT_icV (y := -1) g_q203 g203_170 (by decide) ?_
              refine xT_putfield g_q203 g203_171 (ci := 12) (j := 58) rfl (hm_at h2 (i := 0) rfl rfl) rfl (by rw [decide_eq_true (show 58 < gs.length by rw [h9.1]; exact g58z)]; rfl) ?_
              refine xT_iload g_q203 g203_174 (lkY) ?_
              refine xT_ifCondN g_q203 g203_176 (t := 183) (by decide) (c1N (b := 0) rfl) ?_
              refine xT_icV (y := nI (1)) g_q203 g203_179 (by decide) ?_
              refine xT_goto g_q203 g203_180 (t := 184) (by decide) ?_
              refine xT_istore_n g_q203 g203_184 (by decide) ?_
              refine xT_goto g_q203 g203_185 (t := 17) (by decide) ?_
              exact x3
            · obtain ⟨H3, gs3, x3, x4, x5⟩ := ih 0 (stM p0 s0) (stM p1 s1) (gs.set 58 (.inl (nI (rLn s0)))) (G2.set b (.inl (12, gs.set 58 (.inl (nI (rLn s0)))))) (x_st (x_st (x_st (x_st (L) 4 (.inl (nI (rLn s0)))) 5 (.inl (nI (0)))) 6 (.inl (nI (1)))) 3 (.inl (nI (0)))) (by rw [stM_dn, stM_dn]; omega) (stM_ok hs0 r0) (stM_ok hs1 r1) stM_eo stM_eo (by decide) (fun z => absurd z (by decide)) (rS9_set h9) (rM_parts hM2) (lkN (by decide) (lkN (by decide) (lkN (by decide) (lkN (by decide) (l0))))) (lkN (by decide) (lkN (by decide) (lkN (by decide) (lkN (by decide) (l1))))) (lkN (by decide) (lkN (by decide) (lkN (by decide) (lkN (by decide) (l2))))) (lkY)
              rw [rF_st hs0 r0, rF_st hs1 r1] at x5
              refine ⟨H3, gs3, ?_, x4, x5⟩
              refine xT_aload_n g_q203 g203_17 (l0) ?_
              refine xT_getfield g_q203 g203_18 hA0 rfl (hm_at h (i := 0) rfl rfl) rfl g54 ?_
              refine xT_icV (y := nI (0)) g_q203 g203_21 (by decide) ?_
              refine xT_iaload g_q203 g203_22 hN6 (hm_at h (i := 6) rfl rfl) (ixN (n := 2) (by decide) rfl) (ixG (by decide) rfl) ?_
              refine xT_ifCondY g_q203 g203_23 (t := 35) (by decide) (decide_eq_true (rEn_lt r0)) ?_
              refine xT_aload_n g_q203 g203_35 (l0) ?_
              refine xT_getfield g_q203 g203_36 hA0 rfl (hm_at h (i := 0) rfl rfl) rfl g51 ?_
              refine xT_icV (y := nI (0)) g_q203 g203_39 (by decide) ?_
              refine xT_iaload g_q203 g203_40 hN3 (hm_at h (i := 3) rfl rfl) (ixN (n := 2) (by decide) rfl) (ixG (by decide) rfl) ?_
              refine xT_istore g_q203 g203_41 (by decide) ?_
              refine xT_iload_n g_q203 g203_43 (lkN (by decide) (l3)) ?_
              refine xT_ifCondN g_q203 g203_44 (t := 188) (by decide) (c0N (a := 1) (b := 0) (by omega) (by omega) (by omega)) ?_
              refine xT_aload_n g_q203 g203_47 (lkN (by decide) (l0)) ?_
              refine xT_getfield g_q203 g203_48 hA0 rfl (hm_at h (i := 0) rfl rfl) rfl g2 ?_
              refine xT_iload_n g_q203 g203_51 (lkN (by decide) (l1)) ?_
              refine xT_aaload g_q203 g203_52 (by decide +kernel) (hm_c h ccd) (ixN (n := 13) (by omega) ncd) (ixG (by omega) ecd) ?_
              refine xT_icV (y := nI (4)) g_q203 g203_53 (by decide) ?_
              refine xT_iload g_q203 g203_54 (lkY) ?_
              refine xT_imulV (y := nI (4 * rLn s0)) g_q203 g203_56 (bMulN _ _) ?_
              refine xT_iaload g_q203 g203_57 hD0 (hm_c h cD) (ixN (n := 48) (by omega) nD) (ixG (by omega) k0) ?_
              refine xT_icV (y := nI (2)) g_q203 g203_58 (by decide) ?_
              refine xT_if_icmpY g_q203 g203_59 (t := 66) (by decide) (c1Y (a := opR (pOp p0 (rLn s0))) (b := 2) hop2 (by omega) (by omega)) ?_
              refine xT_icV (y := nI (0)) g_q203 g203_66 (by decide) ?_
              refine xT_istore g_q203 g203_67 (by decide) ?_
              refine xT_aload_n g_q203 g203_69 (lkN (by decide) (lkN (by decide) (l0))) ?_
              refine xT_iload_n g_q203 g203_70 (lkN (by decide) (lkN (by decide) (l1))) ?_
              refine xT_iload_n g_q203 g203_71 (lkN (by decide) (lkN (by decide) (l2))) ?_
              refine xT_icV (y := nI (0)) g_q203 g203_72 (by decide) ?_
              refine xT_invokevirtual (r := []) (u := none) g_q203 g203_73 (j := 205) (so := 0) (by decide +kernel) g_q205 rfl (by rw [x_rcM hA0 (hm_at h (i := 0) rfl rfl)]; rfl) (y1_) ?_
              refine xT_aload_n g_q203 g203_76 (lkN (by decide) (lkN (by decide) (l0))) ?_
              refine xT_iload_n g_q203 g203_77 (lkN (by decide) (lkN (by decide) (l1))) ?_
              refine xT_iload_n g_q203 g203_78 (lkN (by decide) (lkN (by decide) (l2))) ?_
              refine xT_icV (y := nI (1)) g_q203 g203_79 (by decide) ?_
              refine xT_invokevirtual (r := []) (u := none) g_q203 g203_80 (j := 205) (so := 0) (by decide +kernel) g_q205 rfl (by rw [x_rcM hA0 (hm_at hb1 (i := 0) rfl rfl)]; rfl) (y2_) ?_
              refine hcps _ _ _ (lkN (by decide) (lkN (by decide) (l0))) (lkN (by decide) (lkN (by decide) (l1))) (lkN (by decide) (lkN (by decide) (l2))) (lkN (by decide) (lkN (by decide) (l3))) (lkN (by decide) (lkY)) (lkY) ?_
              refine xT_istore g_q203 g203_157 (by decide) ?_
              refine xT_aload_n g_q203 g203_159 (lkN (by decide) (lkN (by decide) (lkN (by decide) (l0)))) ?_
              refine xT_iload g_q203 g203_160 (lkY) ?_
              refine xT_ifCondN g_q203 g203_162 (t := 170) (by decide) (c0N (a := 1) (b := 0) (by omega) (by omega) (by omega)) ?_
              refine xT_iload g_q203 g203_165 (lkN (by decide) (lkN (by decide) (lkY))) ?_
              refine xT_goto g_q203 g203_167 (t := 171) (by decide) ?_
              refine xT_putfield g_q203 g203_171 (ci := 12) (j := 58) rfl (hm_at h2 (i := 0) rfl rfl) rfl (by rw [decide_eq_true (show 58 < gs.length by rw [h9.1]; exact g58z)]; rfl) ?_
              refine xT_iload g_q203 g203_174 (lkY) ?_
              refine xT_ifCondY g_q203 g203_176 (t := 183) (by decide) (c1Y (a := 1) (b := 0) (by omega) (by omega) (by omega)) ?_
              refine xT_icV (y := nI (0)) g_q203 g203_183 (by decide) ?_
              refine xT_istore_n g_q203 g203_184 (by decide) ?_
              refine xT_goto g_q203 g203_185 (t := 17) (by decide) ?_
              exact x3
      · obtain rfl : tg = 0 := by
          rcases (show tg = 0 ∨ tg = 1 by omega) with z | z
          · exact z
          · exact absurd ((heq z).symm.trans r0) r1
        obtain ⟨G1, y1_, hM1⟩ := t205_0 (dp := dp) (ot := ot) hA0 hN1 hN2 hN3 hN4 hN5 hN6 hN7 hN8 hN9 hN10 (rG_9 h9 hGz) hfo hwo hq hC0 (rT_9 h9 hTz0) hN0_ hok0 hs0 r0 hM
        obtain ⟨_, _, _, _, xb0, xb1, hb_0, hb_1, hb1, -⟩ := id hM1
        obtain ⟨H3, gs3, x3, x4, x5⟩ := ih 0 (stM p0 s0) s1 gs G1 (x_st (x_st (x_st (x_st (L) 4 (.inl (x0))) 5 (.inl (nI (0)))) 5 (.inl (nI (0 + 1)))) 5 (.inl (nI (0 + 1 + 1)))) (by rw [stM_dn]; omega) (stM_ok hs0 r0) hs1 stM_eo o1 (by decide) (fun z => absurd z (by decide)) h9 hM1 (lkN (by decide) (lkN (by decide) (lkN (by decide) (lkN (by decide) (l0))))) (lkN (by decide) (lkN (by decide) (lkN (by decide) (lkN (by decide) (l1))))) (lkN (by decide) (lkN (by decide) (lkN (by decide) (lkN (by decide) (l2))))) (lkN (by decide) (lkN (by decide) (lkN (by decide) (lkN (by decide) (l3)))))
        rw [rF_st hs0 r0] at x5
        refine ⟨H3, gs3, ?_, x4, x5⟩
        refine xT_aload_n g_q203 g203_17 (l0) ?_
        refine xT_getfield g_q203 g203_18 hA0 rfl (hm_at h (i := 0) rfl rfl) rfl g54 ?_
        refine xT_icV (y := nI (0)) g_q203 g203_21 (by decide) ?_
        refine xT_iaload g_q203 g203_22 hN6 (hm_at h (i := 6) rfl rfl) (ixN (n := 2) (by decide) rfl) (ixG (by decide) rfl) ?_
        refine xT_ifCondY g_q203 g203_23 (t := 35) (by decide) (decide_eq_true (rEn_lt r0)) ?_
        refine xT_aload_n g_q203 g203_35 (l0) ?_
        refine xT_getfield g_q203 g203_36 hA0 rfl (hm_at h (i := 0) rfl rfl) rfl g51 ?_
        refine xT_icV (y := nI (0)) g_q203 g203_39 (by decide) ?_
        refine xT_iaload g_q203 g203_40 hN3 (hm_at h (i := 3) rfl rfl) (ixN (n := 2) (by decide) rfl) (ixG (by decide) rfl) ?_
        refine xT_istore g_q203 g203_41 (by decide) ?_
        refine xT_iload_n g_q203 g203_43 (lkN (by decide) (l3)) ?_
        refine xT_ifCondY g_q203 g203_44 (t := 188) (by decide) (c0Y (a := 0) (b := 0) rfl) ?_
        refine xT_icV (y := nI (0)) g_q203 g203_188 (by decide) ?_
        refine xT_istore g_q203 g203_189 (by decide) ?_
        refine xT_iload g_q203 g203_191 (lkY) ?_
        refine xT_icV (y := nI (2)) g_q203 g203_193 (by decide) ?_
        refine xT_if_icmpN g_q203 g203_194 (t := 221) (by decide) (c3N (a := 0) (b := 2) (by omega) (by omega) (by omega)) ?_
        refine xT_aload_n g_q203 g203_197 (lkN (by decide) (lkN (by decide) (l0))) ?_
        refine xT_getfield g_q203 g203_198 hA0 rfl (hm_at h (i := 0) rfl rfl) rfl g54 ?_
        refine xT_iload g_q203 g203_201 (lkY) ?_
        refine xT_iaload g_q203 g203_203 hN6 (hm_at h (i := 6) rfl rfl) (ixN (n := 2) (by decide) rfl) (ixG (by decide) rfl) ?_
        refine xT_ifCondN g_q203 g203_204 (t := 215) (by decide) (decide_eq_false (Int32.not_le.mpr (rEn_lt r0))) ?_
        refine xT_aload_n g_q203 g203_207 (lkN (by decide) (lkN (by decide) (l0))) ?_
        refine xT_iload_n g_q203 g203_208 (lkN (by decide) (lkN (by decide) (l1))) ?_
        refine xT_iload_n g_q203 g203_209 (lkN (by decide) (lkN (by decide) (l2))) ?_
        refine xT_iload g_q203 g203_210 (lkY) ?_
        refine xT_invokevirtual (r := []) (u := none) g_q203 g203_212 (j := 205) (so := 0) (by decide +kernel) g_q205 rfl (by rw [x_rcM hA0 (hm_at h (i := 0) rfl rfl)]; rfl) (y1_) ?_
        refine xT_iincV (y := nI (0 + 1)) g_q203 g203_215 (lkY) (by decide) (bIncN _) ?_
        refine xT_goto g_q203 g203_218 (t := 191) (by decide) ?_
        refine xT_iload g_q203 g203_191 (lkY) ?_
        refine xT_icV (y := nI (2)) g_q203 g203_193 (by decide) ?_
        refine xT_if_icmpN g_q203 g203_194 (t := 221) (by decide) (c3N (a := 0 + 1) (b := 2) (by omega) (by omega) (by omega)) ?_
        refine xT_aload_n g_q203 g203_197 (lkN (by decide) (lkN (by decide) (lkN (by decide) (l0)))) ?_
        refine xT_getfield g_q203 g203_198 hA0 rfl (hm_at hb1 (i := 0) rfl rfl) rfl g54 ?_
        refine xT_iload g_q203 g203_201 (lkY) ?_
        refine xT_iaload g_q203 g203_203 hN6 (hm_at hb1 (i := 6) rfl rfl) (ixN (n := 2) (by decide) rfl) (ixG (by decide) rfl) ?_
        refine xT_ifCondY g_q203 g203_204 (t := 215) (by decide) (decide_eq_true (Int32.not_lt.mp (rEo_ge o1 r1))) ?_
        refine xT_iincV (y := nI (0 + 1 + 1)) g_q203 g203_215 (lkY) (by decide) (bIncN _) ?_
        refine xT_goto g_q203 g203_218 (t := 191) (by decide) ?_
        refine xT_iload g_q203 g203_191 (lkY) ?_
        refine xT_icV (y := nI (2)) g_q203 g203_193 (by decide) ?_
        refine xT_if_icmpY g_q203 g203_194 (t := 221) (by decide) (c3Y (a := 0 + 1 + 1) (b := 2) (by omega) (by omega) (by omega)) ?_
        refine xT_goto g_q203 g203_221 (t := 17) (by decide) ?_
        exact x3
    · by_cases r1 : rEn s1 = -1
      · have d1 := (hs1.1 r1).2
        obtain rfl : tg = 0 := by
          rcases (show tg = 0 ∨ tg = 1 by omega) with z | z
          · exact z
          · exact absurd ((heq z).trans r1) r0
        obtain ⟨G2, y2_, hM2⟩ := t205_1 (dp := dp) (ot := ot) hA0 hN1 hN2 hN3 hN4 hN5 hN6 hN7 hN8 hN9 hN10 (rG_9 h9 hGz) hfo hwo hq hC1 (rT_9 h9 hTz1) hN1_ hok1 hs1 r1 hM
        rw [← hy] at y2_
        obtain ⟨H3, gs3, x3, x4, x5⟩ := ih 0 s0 (stM p1 s1) gs G2 (x_st (x_st (x_st (x_st (L) 4 (.inl (x0))) 5 (.inl (nI (0)))) 5 (.inl (nI (0 + 1)))) 5 (.inl (nI (0 + 1 + 1)))) (by rw [stM_dn]; omega) hs0 (stM_ok hs1 r1) o0 stM_eo (by decide) (fun z => absurd z (by decide)) h9 hM2 (lkN (by decide) (lkN (by decide) (lkN (by decide) (lkN (by decide) (l0))))) (lkN (by decide) (lkN (by decide) (lkN (by decide) (lkN (by decide) (l1))))) (lkN (by decide) (lkN (by decide) (lkN (by decide) (lkN (by decide) (l2))))) (lkN (by decide) (lkN (by decide) (lkN (by decide) (lkN (by decide) (l3)))))
        rw [rF_st hs1 r1] at x5
        refine ⟨H3, gs3, ?_, x4, x5⟩
        refine xT_aload_n g_q203 g203_17 (l0) ?_
        refine xT_getfield g_q203 g203_18 hA0 rfl (hm_at h (i := 0) rfl rfl) rfl g54 ?_
        refine xT_icV (y := nI (0)) g_q203 g203_21 (by decide) ?_
        refine xT_iaload g_q203 g203_22 hN6 (hm_at h (i := 6) rfl rfl) (ixN (n := 2) (by decide) rfl) (ixG (by decide) rfl) ?_
        refine xT_ifCondN g_q203 g203_23 (t := 35) (by decide) (decide_eq_false (rEo_ge o0 r0)) ?_
        refine xT_aload_n g_q203 g203_26 (l0) ?_
        refine xT_getfield g_q203 g203_27 hA0 rfl (hm_at h (i := 0) rfl rfl) rfl g54 ?_
        refine xT_icV (y := nI (1)) g_q203 g203_30 (by decide) ?_
        refine xT_iaload g_q203 g203_31 hN6 (hm_at h (i := 6) rfl rfl) (ixN (n := 2) (by decide) rfl) (ixG (by decide) rfl) ?_
        refine xT_ifCondN g_q203 g203_32 (t := 224) (by decide) (decide_eq_false (Int32.not_le.mpr (rEn_lt r1))) ?_
        refine xT_aload_n g_q203 g203_35 (l0) ?_
        refine xT_getfield g_q203 g203_36 hA0 rfl (hm_at h (i := 0) rfl rfl) rfl g51 ?_
        refine xT_icV (y := nI (0)) g_q203 g203_39 (by decide) ?_
        refine xT_iaload g_q203 g203_40 hN3 (hm_at h (i := 3) rfl rfl) (ixN (n := 2) (by decide) rfl) (ixG (by decide) rfl) ?_
        refine xT_istore g_q203 g203_41 (by decide) ?_
        refine xT_iload_n g_q203 g203_43 (lkN (by decide) (l3)) ?_
        refine xT_ifCondY g_q203 g203_44 (t := 188) (by decide) (c0Y (a := 0) (b := 0) rfl) ?_
        refine xT_icV (y := nI (0)) g_q203 g203_188 (by decide) ?_
        refine xT_istore g_q203 g203_189 (by decide) ?_
        refine xT_iload g_q203 g203_191 (lkY) ?_
        refine xT_icV (y := nI (2)) g_q203 g203_193 (by decide) ?_
        refine xT_if_icmpN g_q203 g203_194 (t := 221) (by decide) (c3N (a := 0) (b := 2) (by omega) (by omega) (by omega)) ?_
        refine xT_aload_n g_q203 g203_197 (lkN (by decide) (lkN (by decide) (l0))) ?_
        refine xT_getfield g_q203 g203_198 hA0 rfl (hm_at h (i := 0) rfl rfl) rfl g54 ?_
        refine xT_iload g_q203 g203_201 (lkY) ?_
        refine xT_iaload g_q203 g203_203 hN6 (hm_at h (i := 6) rfl rfl) (ixN (n := 2) (by decide) rfl) (ixG (by decide) rfl) ?_
        refine xT_ifCondY g_q203 g203_204 (t := 215) (by decide) (decide_eq_true (Int32.not_lt.mp (rEo_ge o0 r0))) ?_
        refine xT_iincV (y := nI (0 + 1)) g_q203 g203_215 (lkY) (by decide) (bIncN _) ?_
        refine xT_goto g_q203 g203_218 (t := 191) (by decide) ?_
        refine xT_iload g_q203 g203_191 (lkY) ?_
        refine xT_icV (y := nI (2)) g_q203 g203_193 (by decide) ?_
        refine xT_if_icmpN g_q203 g203_194 (t := 221) (by decide) (c3N (a := 0 + 1) (b := 2) (by omega) (by omega) (by omega)) ?_
        refine xT_aload_n g_q203 g203_197 (lkN (by decide) (lkN (by decide) (lkN (by decide) (l0)))) ?_
        refine xT_getfield g_q203 g203_198 hA0 rfl (hm_at h (i := 0) rfl rfl) rfl g54 ?_
        refine xT_iload g_q203 g203_201 (lkY) ?_
        refine xT_iaload g_q203 g203_203 hN6 (hm_at h (i := 6) rfl rfl) (ixN (n := 2) (by decide) rfl) (ixG (by decide) rfl) ?_
        refine xT_ifCondN g_q203 g203_204 (t := 215) (by decide) (decide_eq_false (Int32.not_le.mpr (rEn_lt r1))) ?_
        refine xT_aload_n g_q203 g203_207 (lkN (by decide) (lkN (by decide) (lkN (by decide) (l0)))) ?_
        refine xT_iload_n g_q203 g203_208 (lkN (by decide) (lkN (by decide) (lkN (by decide) (l1)))) ?_
        refine xT_iload_n g_q203 g203_209 (lkN (by decide) (lkN (by decide) (lkN (by decide) (l2)))) ?_
        refine xT_iload g_q203 g203_210 (lkY) ?_
        refine xT_invokevirtual (r := []) (u := none) g_q203 g203_212 (j := 205) (so := 0) (by decide +kernel) g_q205 rfl (by rw [x_rcM hA0 (hm_at h (i := 0) rfl rfl)]; rfl) (y2_) ?_
        refine xT_iincV (y := nI (0 + 1 + 1)) g_q203 g203_215 (lkY) (by decide) (bIncN _) ?_
        refine xT_goto g_q203 g203_218 (t := 191) (by decide) ?_
        refine xT_iload g_q203 g203_191 (lkY) ?_
        refine xT_icV (y := nI (2)) g_q203 g203_193 (by decide) ?_
        refine xT_if_icmpY g_q203 g203_194 (t := 221) (by decide) (c3Y (a := 0 + 1 + 1) (b := 2) (by omega) (by omega) (by omega)) ?_
        refine xT_goto g_q203 g203_221 (t := 17) (by decide) ?_
        exact x3
      · refine ⟨H, gs, ?_, h9, by rw [rF_end r0, rF_end r1]; exact hM⟩
        refine xT_aload_n g_q203 g203_17 (l0) ?_
        refine xT_getfield g_q203 g203_18 hA0 rfl (hm_at h (i := 0) rfl rfl) rfl g54 ?_
        refine xT_icV (y := nI (0)) g_q203 g203_21 (by decide) ?_
        refine xT_iaload g_q203 g203_22 hN6 (hm_at h (i := 6) rfl rfl) (ixN (n := 2) (by decide) rfl) (ixG (by decide) rfl) ?_
        refine xT_ifCondN g_q203 g203_23 (t := 35) (by decide) (decide_eq_false (rEo_ge o0 r0)) ?_
        refine xT_aload_n g_q203 g203_26 (l0) ?_
        refine xT_getfield g_q203 g203_27 hA0 rfl (hm_at h (i := 0) rfl rfl) rfl g54 ?_
        refine xT_icV (y := nI (1)) g_q203 g203_30 (by decide) ?_
        refine xT_iaload g_q203 g203_31 hN6 (hm_at h (i := 6) rfl rfl) (ixN (n := 2) (by decide) rfl) (ixG (by decide) rfl) ?_
        refine xT_ifCondY g_q203 g203_32 (t := 224) (by decide) (decide_eq_true (Int32.not_lt.mp (rEo_ge o1 r1))) ?_
        exact xT_return_ g_q203 g203_224 (rfl)
end XH33_34
