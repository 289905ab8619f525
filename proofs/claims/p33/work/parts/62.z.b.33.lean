/-! p33 by hand, 32. -/
noncomputable section XH33_32
variable {ot : XO Int32} {dp : Nat} {H H0 : List (XC Int32)}
/-- the same fields but for the place where runs part -/
def rS9 (gs gz : List (XV Int32)) : Prop := gs.length = gz.length ∧ ∀ j, j ≠ 58 → gs[j]? = gz[j]?
theorem rS9_set {gs gz : List (XV Int32)} {x : XV Int32} (h : rS9 gs gz) : rS9 (gs.set 58 x) gz := ⟨by rw [List.length_set]; exact h.1, fun j hj => by
  rw [List.getElem?_set_ne (fun z => hj z.symm)]
  exact h.2 j hj⟩
theorem rG_9 {gs gz : List (XV Int32)} {ln cd ip sh shs fi fz tw tz fo pc tk dn en wo ws la : Nat} (h : rS9 gs gz) (hG : rG gz ln cd ip sh shs fi fz tw tz fo pc tk dn en wo ws la) : rG gs ln cd ip sh shs fi fz tw tz fo pc tk dn en wo ws la := by
  obtain ⟨g1, g2, g6, g11, g12, g13, g14, g15, g16, g50, g51, g52, g53, g54, g55, g56, g57, g58⟩ := hG
  refine ⟨?_, ?_, ?_, ?_, ?_, ?_, ?_, ?_, ?_, ?_, ?_, ?_, ?_, ?_, ?_, ?_, ?_, by rw [h.1]; exact g58⟩
  all_goals (rw [h.2 _ (by decide)]; assumption)
theorem rT_9 {H0 : List (XC Int32)} {As : List Nat} {gs gz : List (XV Int32)} {q t : Nat} {p : rP} (h : rS9 gs gz) (hT : rT H0 As gz q t p) : rT H0 As gs q t p := by
  rcases hT with hT | ⟨z1, z2, z3, dg, pv, ru, dr, pr, g3, g4, g5, z4⟩
  · exact Or.inl hT
  · exact Or.inr ⟨z1, z2, z3, dg, pv, ru, dr, pr, by rw [h.2 _ (by decide)]; exact g3, by rw [h.2 _ (by decide)]; exact g4, by rw [h.2 _ (by decide)]; exact g5, z4⟩
end XH33_32
/-! p33 by hand, 33. -/
noncomputable section XH33_33
variable {ot : XO Int32} {dp : Nat} {H H0 : List (XC Int32)}
theorem rM_parts {H0 H : List (XC Int32)} {b F0 F1 pc tk dn en W0 W1 ws la : Nat} {gs gs2 : List (XV Int32)} {s0 s1 : rS} (h : rM H0 H b F0 F1 pc tk dn en W0 W1 ws la gs s0 s1) : rM H0 (H.set b (.inl (12, gs2))) b F0 F1 pc tk dn en W0 W1 ws la gs2 s0 s1 := by
  obtain ⟨f0, f1, w0, w1, x0, x1, h0, h1, h, hr⟩ := h
  exact ⟨f0, f1, w0, w1, x0, x1, h0, h1, hm_set (i := 0) (z2 := .inl (12, gs2)) h rfl, hr⟩
end XH33_33
/-! p33 by hand, 34. -/
noncomputable section XH33_34
variable {ot : XO Int32} {dp : Nat} {H H0 : List (XC Int32)}
theorem t203_l {b F0 F1 ln cd ip sh shs fi fz tw tz fo pc tk dn en wo ws la W0 W1 q : Nat} {p0 p1 : rP} (hA0 : ¬ 1000000 < b) (hN1 : ¬ F0 = 1000000) (hN2 : ¬ F1 = 1000000) (hN3 : ¬ pc = 1000000) (hN4 : ¬ tk = 1000000) (hN5 : ¬ dn = 1000000) (hN6 : ¬ en = 1000000) (hN7 : ¬ W0 = 1000000) (hN8 : ¬ W1 = 1000000) (hN9 : ¬ ws = 1000000) (hN10 : ¬ la = 1000000) (hfo : rQ H0 [b, F0, F1, pc, tk, dn, en, W0, W1, ws, la] fo 5 2 0 F0 ∧ rQ H0 [b, F0, F1, pc, tk, dn, en, W0, W1, ws, la] fo 5 2 1 F1) (hwo : rQ H0 [b, F0, F1, pc, tk, dn, en, W0, W1, ws, la] wo 5 2 0 W0 ∧ rQ H0 [b, F0, F1, pc, tk, dn, en, W0, W1, ws, la] wo 5 2 1 W1) {gz : List (XV Int32)} (hGz : rG gz ln cd ip sh shs fi fz tw tz fo pc tk dn en wo ws la) (hq : q < 12) (hC0 : rC H0 [b, F0, F1, pc, tk, dn, en, W0, W1, ws, la] ln cd q p0) (hC1 : rC H0 [b, F0, F1, pc, tk, dn, en, W0, W1, ws, la] ln cd q p1) (hTz0 : rT H0 [b, F0, F1, pc, tk, dn, en, W0, W1, ws, la] gz q 0 p0) (hTz1 : rT H0 [b, F0, F1, pc, tk, dn, en, W0, W1, ws, la] gz q 1 p1) (hN0_ : rN H0 [b, F0, F1, pc, tk, dn, en, W0, W1, ws, la] ip sh shs fi fz q p0) (hN1_ : rN H0 [b, F0, F1, pc, tk, dn, en, W0, W1, ws, la] ip sh shs tw tz q p1) (hok0 : pOk p0) (hok1 : pOk p1) (hy : pYr p0 = pYr p1) : ∀ (k tg : Nat) (s0 s1 : rS) (gs : List (XV Int32)) (H : List (XC Int32)) (L : List (Nat × XV Int32)), (150 - rDn s0) + (150 - rDn s1) ≤ k → rOk p0 s0 → rOk p1 s1 → rEo s0 → rEo s1 → tg ≤ 1 → (tg = 1 → rEn s0 = rEn s1) → rS9 gs gz → rM H0 H b F0 F1 pc tk dn en W0 W1 ws la gs s0 s1 → x_lk L 0 = some (.inr (some (b))) → x_lk L 1 = some (.inl (nI (q))) → x_lk L 2 = some (.inl ((pYr p0))) → x_lk L 3 = some (.inl (nI (tg))) → ∃ H2 gs2, x_To x_tb x_tyl ot (dp + 4) 203 17 L [] H 0 0 none H2 ∧ rS9 gs2 gz ∧ rM H0 H2 b F0 F1 pc tk dn en W0 W1 ws la gs2 (rF p0 s0) (rF p1 s1) := by
  have g58z : 58 < gz.length := by
    obtain ⟨-, -, -, -, -, -, -, -, -, -, -, -, -, -, -, -, -, g58⟩ := id hGz
    exact g58
  obtain ⟨⟨D, ⟨lcd, ccd, ncd, ecd⟩, hD0, lD, cD, nD, eD⟩, -⟩ := id hC0
  obtain ⟨⟨lfo, cfo, nfo, efo0⟩, ⟨lfo1, cfo1, nfo1, efo1⟩⟩ := id hfo
  obtain ⟨⟨lwo, cwo, nwo, ewo0⟩, ⟨lwo1, cwo1, nwo1, ewo1⟩⟩ := id hwo
  intro k
  induction k with
  | zero =>
    intro tg s0 s1 gs H L hk hs0 hs1 o0 o1 htg heq h9 hM l0 l1 l2 l3
    have r0 : rEn s0 ≠ -1 := fun z => by
      have := (hs0.1 z).2
      omega
    have r1 : rEn s1 ≠ -1 := fun z => by
      have := (hs1.1 z).2
      omega
    obtain ⟨f0, f1, w0, w1, x0, x1, h0, h1, h, hx0, hx1, hl0, hl1, ⟨hm0, -⟩, ⟨hm1, -⟩, hf0, hf1, hv0, hv1⟩ := id hM
    obtain ⟨g1, g2, g6, g11, g12, g13, g14, g15, g16, g50, g51, g52, g53, g54, g55, g56, g57, g58⟩ := rG_9 h9 hGz
    refine ⟨H, gs, ?_, h9, by rw [rF_end r0, rF_end r1]; exact hM⟩
    refine xT_aload_n g_q203 g203_17 (l0) ?_
    refine xT_getfield g_q203 g203_18 hA0 rfl (hm_at h (i := 0) rfl rfl) rfl g54 ?_
    refine xT_icV (y := nI (0)) g_q203 g203_21 (by decide) ?_
    refine xT_iaload g_q203 g203_22 hN6 (hm_at h (i := 6) rfl rfl) (ixN (n := 2) (by decide) rfl) (ixG (by decide) rfl) ?_
    refine xT_ifCondN g_q203 g203_23 (t := 35) (by decide) (decide_eq_false (rEo_ge o0 r0)) ?_
    refine xT_aload_n g_q203 g203_26 (l0) ?_
    refine xT_getfield g_q203 g203_27 hA0 rfl (hm_at h (i := 0) rfl rfl) rfl g54 ?_
    refine xT_icV (y := nI (1)) g_q203 g203_30 (by decide) ?_
    refine xT_iaload g_q203 g203_31 hN6 (hm_at h (i := 6) rfl rfl) (ixN (n := 2) (by decide) rfl) (ixG (by decide) rfl) ?_
    refine xT_ifCondY g_q203 g203_32 (t := 224) (by decide) (decide_eq_true (Int32.not_lt.mp (rEo_ge o1 r1))) ?_
    exact xT_return_ g_q203 g203_224 (rfl)
  | succ k ih =>
    intro tg s0 s1 gs H L hk hs0 hs1 o0 o1 htg heq h9 hM l0 l1 l2 l3
    obtain ⟨f0, f1, w0, w1, x0, x1, h0, h1, h, hx0, hx1, hl0, hl1, ⟨hm0, -⟩, ⟨hm1, -⟩, hf0, hf1, hv0, hv1⟩ := id hM
    obtain ⟨g1, g2, g6, g11, g12, g13, g14, g15, g16, g50, g51, g52, g53, g54, g55, g56, g57, g58⟩ := rG_9 h9 hGz
    by_cases r0 : rEn s0 = -1
    · have d0 := (hs0.1 r0).2
      have hll0 := (hs0.1 r0).1
      by_cases r1 : rEn s1 = -1
      · have d1 := (hs1.1 r1).2
        rcases (show tg = 0 ∨ tg = 1 by omega) with rfl | rfl
        · skip
          obtain ⟨G1, y1_, hM1⟩ := t205_0 (dp := dp) (ot := ot) hA0 hN1 hN2 hN3 hN4 hN5 hN6 hN7 hN8 hN9 hN10 (rG_9 h9 hGz) hfo hwo hq hC0 (rT_9 h9 hTz0) hN0_ hok0 hs0 r0 hM
          obtain ⟨_, _, _, _, xb0, xb1, hb_0, hb_1, hb1, -⟩ := id hM1
          obtain ⟨G2, y2_, hM2⟩ := t205_1 (dp := dp) (ot := ot) hA0 hN1 hN2 hN3 hN4 hN5 hN6 hN7 hN8 hN9 hN10 (rG_9 h9 hGz) hfo hwo hq hC1 (rT_9 h9 hTz1) hN1_ hok1 hs1 r1 hM1
          rw [← hy] at y2_
          obtain ⟨H3, gs3, x3, x4, x5⟩ := ih 0 (stM p0 s0) (stM p1 s1) gs G2 (x_st (x_st (x_st (x_st (L) 4 (.inl (x0))) 5 (.inl (nI (0)))) 5 (.inl (nI (0 + 1)))) 5 (.inl (nI (0 + 1 + 1)))) (by rw [stM_dn, stM_dn]; omega) (stM_ok hs0 r0) (stM_ok hs1 r1) stM_eo stM_eo (by decide) (fun z => absurd z (by decide)) h9 hM2 (lkN (by decide) (lkN (by decide) (lkN (by decide) (lkN (by decide) (l0))))) (lkN (by decide) (lkN (by decide) (lkN (by decide) (lkN (by decide) (l1))))) (lkN (by decide) (lkN (by decide) (lkN (by decide) (lkN (by decide) (l2))))) (lkN (by decide) (lkN (by decide) (lkN (by decide) (lkN (by decide) (l3)))))
          rw [rF_st hs0 r0, rF_st hs1 r1] at x5
          refine ⟨H3, gs3, ?_, x4, x5⟩
          refine xT_aload_n g_q203 g203_17 (l0) ?_
          refine xT_getfield g_q203 g203_18 hA0 rfl (hm_at h (i := 0) rfl rfl) rfl g54 ?_
          refine xT_icV (y := nI (0)) g_q203 g203_21 (by decide) ?_
          refine xT_iaload g_q203 g203_22 hN6 (hm_at h (i := 6) rfl rfl) (ixN (n := 2) (by decide) rfl) (ixG (by decide) rfl) ?_
          refine xT_ifCondY g_q203 g203_23 (t := 35) (by decide) (decide_eq_true (rEn_lt r0)) ?_
          refine xT_aload_n g_q203 g203_35 (l0) ?_
          refine xT_getfield g_q203 g203_36 hA0 rfl (hm_at h (i := 0) rfl rfl) rfl g51 ?_
          refine xT_icV (y := nI (0)) g_q203 g203_39 (by decide) ?_
          refine xT_iaload g_q203 g203_40 hN3 (hm_at h (i := 3) rfl rfl) (ixN (n := 2) (by decide) rfl) (ixG (by decide) rfl) ?_
          refine xT_istore g_q203 g203_41 (by decide) ?_
          refine xT_iload_n g_q203 g203_43 (lkN (by decide) (l3)) ?_
          refine xT_ifCondY g_q203 g203_44 (t := 188) (by decide) (c0Y (a := 0) (b := 0) rfl) ?_
          refine xT_icV (y := nI (0)) g_q203 g203_188 (by decide) ?_
          refine xT_istore g_q203 g203_189 (by decide) ?_
          refine xT_iload g_q203 g203_191 (lkY) ?_
          refine xT_icV (y := nI (2)) g_q203 g203_193 (by decide) ?_
          refine xT_if_icmpN g_q203 g203_194 (t := 221) (by decide) (c3N (a := 0) (b := 2) (by omega) (by omega) (by omega)) ?_
          refine xT_aload_n g_q203 g203_197 (lkN (by decide) (lkN (by decide) (l0))) ?_
          refine xT_getfield g_q203 g203_198 hA0 rfl (hm_at h (i := 0) rfl rfl) rfl g54 ?_
          refine xT_iload g_q203 g203_201 (lkY) ?_
          refine xT_iaload g_q203 g203_203 hN6 (hm_at h (i := 6) rfl rfl) (ixN (n := 2) (by decide) rfl) (ixG (by decide) rfl) ?_
          refine xT_ifCondN g_q203 g203_204 (t := 215) (by decide) (decide_eq_false (Int32.not_le.mpr (rEn_lt r0))) ?_
          refine xT_aload_n g_q203 g203_207 (lkN (by decide) (lkN (by decide) (l0))) ?_
          refine xT_iload_n g_q203 g203_208 (lkN (by decide) (lkN (by decide) (l1))) ?_
          refine xT_iload_n g_q203 g203_209 (lkN (by decide) (lkN (by decide) (l2))) ?_
          refine xT_iload g_q203 g203_210 (lkY) ?_
          refine xT_invokevirtual (r := []) (u := none) g_q203 g203_212 (j := 205) (so := 0) (by decide +kernel) g_q205 rfl (by rw [x_rcM hA0 (hm_at h (i := 0) rfl rfl)]; rfl) (y1_) ?_
          refine xT_iincV (y := nI (0 + 1)) g_q203 g203_215 (lkY) (by decide) (bIncN _) ?_
          refine xT_goto g_q203 g203_218 (t := 191) (by decide) ?_
          refine xT_iload g_q203 g203_191 (lkY) ?_
          refine xT_icV (y := nI (2)) g_q203 g203_193 (by decide) ?_
          refine xT_if_icmpN g_q203 g203_194 (t := 221) (by decide) (c3N (a := 0 + 1) (b := 2) (by omega) (by omega) (by omega)) ?_
          refine xT_aload_n g_q203 g203_197 (lkN (by decide) (lkN (by decide) (lkN (by decide) (l0)))) ?_
          refine xT_getfield g_q203 g203_198 hA0 rfl (hm_at hb1 (i := 0) rfl rfl) rfl g54 ?_
          refine xT_iload g_q203 g203_201 (lkY) ?_
          refine xT_iaload g_q203 g203_203 hN6 (hm_at hb1 (i := 6) rfl rfl) (ixN (n := 2) (by decide) rfl) (ixG (by decide) rfl) ?_
          refine xT_ifCondN g_q203 g203_204 (t := 215) (by decide) (decide_eq_false (Int32.not_le.mpr (rEn_lt r1))) ?_
          refine xT_aload_n g_q203 g203_207 (lkN (by decide) (lkN (by decide) (lkN (by decide) (l0)))) ?_
          refine xT_iload_n g_q203 g203_208 (lkN (by decide) (lkN (by decide) (lkN (by decide) (l1)))) ?_
          refine xT_iload_n g_q203 g203_209 (lkN (by decide) (lkN (by decide) (lkN (by decide) (l2)))) ?_
          refine xT_iload g_q203 g203_210 (lkY) ?_
          refine xT_invokevirtual (r := []) (u := none) g_q203 g203_212 (j := 205) (so := 0) (by decide +kernel) g_q205 rfl (by rw [x_rcM hA0 (hm_at hb1 (i := 0) rfl rfl)]; rfl) (y2_) ?_
          refine xT_iincV (y := nI (0 + 1 + 1)) g_q203 g203_215 (lkY) (by decide) (bIncN _) ?_
          refine xT_goto g_q203 g203_218 (t := 191) (by decide) ?_
          refine xT_iload g_q203 g203_191 (lkY) ?_
          refine xT_icV (y := nI (2)) g_q203 g203_193 (by decide) ?_
          refine xT_if_icmpY g_q203 g203_194 (t := 221) (by decide) (c3Y (a := 0 + 1 + 1) (b := 2) (by omega) (by omega) (by omega)) ?_
          refine xT_goto g_q203 g203_221 (t := 17) (by decide) ?_
          exact x3
        · obtain rfl : x0 = nI (rLn s0) := hx0 r0
          obtain ⟨k0, -⟩ := eD (rLn s0) hll0
          have ho12 := (hok0.2.2.2 (rLn s0) hll0).1
          have hop3 := (opR_t (pOp p0 (rLn s0)) (by omega)).1
          have hnl12 := hok0.2.1
          obtain ⟨G1, y1_, hM1⟩ := t205_0 (dp := dp) (ot := ot) hA0 hN1 hN2 hN3 hN4 hN5 hN6 hN7 hN8 hN9 hN10 (rG_9 h9 hGz) hfo hwo hq hC0 (rT_9 h9 hTz0) hN0_ hok0 hs0 r0 hM
          obtain ⟨_, _, _, _, xb0, xb1, hb_0, hb_1, hb1, -⟩ := id hM1
          obtain ⟨G2, y2_, hM2⟩ := t205_1 (dp := dp) (ot := ot) hA0 hN1 hN2 hN3 hN4 hN5 hN6 hN7 hN8 hN9 hN10 (rG_9 h9 hGz) hfo hwo hq hC1 (rT_9 h9 hTz1) hN1_ hok1 hs1 r1 hM1
          rw [← hy] at y2_
          obtain ⟨f0b, f1b, w0b, w1b, x0b, x1b, h0b, h1b, h2, -, -, hl0b, hl1b, ⟨hm0b, -⟩, ⟨hm1b, -⟩, -⟩ := id hM2
          by_cases hop : pOp p0 (rLn s0) = 2
          · have hop2 : opR (pOp p0 (rLn s0)) = 2 := by
              rw [hop]
              rfl
            obtain ⟨r, hr1, hr0, hcps⟩ := t203_a (dp := dp + 4) (ot := ot) (yr := pYr p0) (tg := 1) (at0 := rLn s0) (o := 1) (q := q) hA0 hN1 hN2 hN3 hN4 hN5 hN6 hN7 hN8 hN9 hN10 hl0b hl1b hm0b hm1b (rG_9 h9 hGz) hfo hwo h2 (by decide)
            rcases (show r = 0 ∨ r = 1 by omega) with rfl | rfl
            · obtain ⟨H3, gs3, x3, x4, x5⟩ := ih 1 (stM p0 s0) (stM p1 s1) (gs.set 58 (.inl (-1))) (G2.set b (.inl (12, gs.set 58 (.inl (-1))))) (x_st (x_st (x_st (x_st (L) 4 (.inl (nI (rLn s0)))) 5 (.inl (nI (1)))) 6 (.inl (nI (0)))) 3 (.inl (nI (1)))) (by rw [stM_dn, stM_dn]; omega) (stM_ok hs0 r0) (stM_ok hs1 r1) stM_eo stM_eo (by decide) (fun z => hr0 rfl) (rS9_set h9) (rM_parts hM2) (lkN (by decide) (lkN (by decide) (lkN (by decide) (lkN (by decide) (l0))))) (lkN (by decide) (lkN (by decide) (lkN (by decide) (lkN (by decide) (l1))))) (lkN (by decide) (lkN (by decide) (lkN (by decide) (lkN (by decide) (l2))))) (lkY)
              rw [rF_st hs0 r0, rF_st hs1 r1] at x5
              refine ⟨H3, gs3, ?_, x4, x5⟩
              refine xT_aload_n g_q203 g203_17 (l0) ?_
              refine xT_getfield g_q203 g203_18 hA0 rfl (hm_at h (i := 0) rfl rfl) rfl g54 ?_
              refine xT_icV (y := nI (0)) g_q203 g203_21 (by decide) ?_
              refine xT_iaload g_q203 g203_22 hN6 (hm_at h (i := 6) rfl rfl) (ixN (n := 2) (by decide) rfl) (ixG (by decide) rfl) ?_
              refine xT_ifCondY g_q203 g203_23 (t := 35) (by decide) (decide_eq_true (rEn_lt r0)) ?_
              refine xT_aload_n g_q203 g203_35 (l0) ?_
              refine xT_getfield g_q203 g203_36 hA0 rfl (hm_at h (i := 0) rfl rfl) rfl g51 ?_
              refine xT_icV (y := nI (0)) g_q203 g203_39 (by decide) ?_
              refine xT_iaload g_q203 g203_40 hN3 (hm_at h (i := 3) rfl rfl) (ixN (n := 2) (by decide) rfl) (ixG (by decide) rfl) ?_
              refine xT_istore g_q203 g203_41 (by decide) ?_
              refine xT_iload_n g_q203 g203_43 (lkN (by decide) (l3)) ?_
              refine xT_ifCondN g_q203 g203_44 (t := 188) (by decide) (c0N (a := 1) (b := 0) (by omega) (by omega) (by omega)) ?_
              refine xT_aload_n g_q203 g203_47 (lkN (by decide) (l0)) ?_
              refine xT_getfield g_q203 g203_48 hA0 rfl (hm_at h (i := 0) rfl rfl) rfl g2 ?_
              refine xT_iload_n g_q203 g203_51 (lkN (by decide) (l1)) ?_
              refine xT_aaload g_q203 g203_52 (by decide +kernel) (hm_c h ccd) (ixN (n := 13) (by omega) ncd) (ixG (by omega) ecd) ?_
              refine xT_icV (y := nI (4)) g_q203 g203_53 (by decide) ?_
              refine xT_iload g_q203 g203_54 (lkY) ?_
              refine xT_imulV (y := nI (4 * rLn s0)) g_q203 g203_56 (bMulN _ _) ?_
              refine xT_iaload g_q203 g203_57 hD0 (hm_c h cD) (ixN (n := 48) (by omega) nD) (ixG (by omega) k0) ?_
              refine xT_icV (y := nI (2)) g_q203 g203_58 (by decide) ?_
              refine xT_if_icmpN g_q203 g203_59 (t := 66) (by decide) (c1N (a := opR (pOp p0 (rLn s0))) (b := 2) hop2) ?_
              refine xT_icV (y := nI (1)) g_q203 g203_62 (by decide) ?_
              refine xT_goto g_q203 g203_63 (t := 67) (by decide) ?_
              refine xT_istore g_q203 g203_67 (by decide) ?_
              refine xT_aload_n g_q203 g203_69 (lkN (by decide) (lkN (by decide) (l0))) ?_
              refine xT_iload_n g_q203 g203_70 (lkN (by decide) (lkN (by decide) (l1))) ?_
              refine xT_iload_n g_q203 g203_71 (lkN (by decide) (lkN (by decide) (l2))) ?_
              refine xT_icV (y := nI (0)) g_q203 g203_72 (by decide) ?_
              refine xT_invokevirtual (r := []) (u := none) g_q203 g203_73 (j := 205) (so := 0) (by decide +kernel) g_q205 rfl (by rw [x_rcM hA0 (hm_at h (i := 0) rfl rfl)]; rfl) (y1_) ?_
              refine xT_aload_n g_q203 g203_76 (lkN (by decide) (lkN (by decide) (l0))) ?_
              refine xT_iload_n g_q203 g203_77 (lkN (by decide) (lkN (by decide) (l1))) ?_
              refine xT_iload_n g_q203 g203_78 (lkN (by decide) (lkN (by decide) (l2))) ?_
              refine xT_icV (y := nI (1)) g_q203 g203_79 (by decide) ?_
              refine xT_invokevirtual (r := []) (u := none) g_q203 g203_80 (j := 205) (so := 0) (by decide +kernel) g_q205 rfl (by rw [x_rcM hA0 (hm_at hb1 (i := 0) rfl rfl)]; rfl) (y2_) ?_
              refine hcps _ _ _ (lkN (by decide) (lkN (by decide) (l0))) (lkN (by decide) (lkN (by decide) (l1))) (lkN (by decide) (lkN (by decide) (l2))) (lkN (by decide) (lkN (by decide) (l3))) (lkN (by decide) (lkY)) (lkY) ?_
              refine xT_istore g_q203 g203_157 (by decide) ?_
              refine xT_aload_n g_q203 g203_159 (lkN (by decide) (lkN (by decide) (lkN (by decide) (l0)))) ?_
              refine xT_iload g_q203 g203_160 (lkY) ?_
              refine xT_ifCondY g_q203 g203_162 (t := 170) (by decide) (c0Y (a := 0) (b := 0) rfl) ?_
              refine xT_icV (y := -1) g_q203 g203_170 (by decide) ?_
              refine xT_putfield g_q203 g203_171 (ci := 12) (j := 58) rfl (hm_at h2 (i := 0) rfl rfl) rfl (by rw [decide_eq_true (show 58 < gs.length by rw [h9.1]; exact g58z)]; rfl) ?_
              refine xT_iload g_q203 g203_174 (lkY) ?_
              refine xT_ifCondN g_q203 g203_176 (t := 183) (by decide) (c1N (b := 0) rfl) ?_
              refine xT_icV (y := nI (1)) g_q203 g203_179 (by decide) ?_
              refine xT_goto g_q203 g203_180 (t := 184) (by decide) ?_
              refine xT_istore_n g_q203 g203_184 (by decide) ?_
              refine xT_goto g_q203 g203_185 (t := 17) (by decide) ?_
              exact x3
            · obtain ⟨H3, gs3, x3, x4, x5⟩ := ih 0 (stM p0 s0) (stM p1 s1) (gs.set 58 (.inl (nI (rLn s0)))) (G2.set b (.inl (12, gs.set 58 (.inl (nI (rLn s0)))))) (x_st (x_st (x_st (x_st (L) 4 (.inl (nI (rLn s0)))) 5 (.inl (nI (1)))) 6 (.inl (nI (1)))) 3 (.inl (nI (0)))) (by rw [stM_dn, stM_dn]; omega) (stM_ok hs0 r0) (stM_ok hs1 r1) stM_eo stM_eo (by decide) (fun z => absurd z (by decide)) (rS9_set h9) (rM_parts hM2) (lkN (by decide) (lkN (by decide) (lkN (by decide) (lkN (by decide) (l0))))) (lkN (by decide) (lkN (by decide) (lkN (by decide) (lkN (by decide) (l1))))) (lkN (by decide) (lkN (by decide) (lkN (by decide) (lkN (by decide) (l2))))) (lkY)
              rw [rF_st hs0 r0, rF_st hs1 r1] at x5
              refine ⟨H3, gs3, ?_, x4, x5⟩
              refine xT_aload_n g_q203 g203_17 (l0) ?_
              refine xT_getfield g_q203 g203_18 hA0 rfl (hm_at h (i := 0) rfl rfl) rfl g54 ?_
              refine xT_icV (y := nI (0)) g_q203 g203_21 (by decide) ?_
              refine xT_iaload g_q203 g203_22 hN6 (hm_at h (i := 6) rfl rfl) (ixN (n := 2) (by decide) rfl) (ixG (by decide) rfl) ?_
              refine xT_ifCondY g_q203 g203_23 (t := 35) (by decide) (decide_eq_true (rEn_lt r0)) ?_
              refine xT_aload_n g_q203 g203_35 (l0) ?_
              refine xT_getfield g_q203 g203_36 hA0 rfl (hm_at h (i := 0) rfl rfl) rfl g51 ?_
              refine xT_icV (y := nI (0)) g_q203 g203_39 (by decide) ?_
              refine xT_iaload g_q203 g203_40 hN3 (hm_at h (i := 3) rfl rfl) (ixN (n := 2) (by decide) rfl) (ixG (by decide) rfl) ?_
              refine xT_istore g_q203 g203_41 (by decide) ?_
              refine xT_iload_n g_q203 g203_43 (lkN (by decide) (l3)) ?_
              refine xT_ifCondN g_q203 g203_44 (t := 188) (by decide) (c0N (a := 1) (b := 0) (by omega) (by omega) (by omega)) ?_
              refine xT_aload_n g_q203 g203_47 (lkN (by decide) (l0)) ?_
              refine xT_getfield g_q203 g203_48 hA0 rfl (hm_at h (i := 0) rfl rfl) rfl g2 ?_
              refine xT_iload_n g_q203 g203_51 (lkN (by decide) (l1)) ?_
              refine xT_aaload g_q203 g203_52 (by decide +kernel) (hm_c h ccd) (ixN (n := 13) (by omega) ncd) (ixG (by omega) ecd) ?_
              refine xT_icV (y := nI (4)) g_q203 g203_53 (by decide) ?_
              refine xT_iload g_q203 g203_54 (lkY) ?_
              refine xT_imulV (y := nI (4 * rLn s0)) g_q203 g203_56 (bMulN _ _) ?_
              refine xT_iaload g_q203 g203_57 hD0 (hm_c h cD) (ixN (n := 48) (by omega) nD) (ixG (by omega) k0) ?_
              refine xT_icV (y := nI (2)) g_q203 g203_58 (by decide) ?_
              refine xT_if_icmpN g_q203 g203_59 (t := 66) (by decide) (c1N (a := opR (pOp p0 (rLn s0))) (b := 2) hop2) ?_
              refine xT_icV (y := nI (1)) g_q203 g203_62 (by decide) ?_
              refine xT_goto g_q203 g203_63 (t := 67) (by decide) ?_
              refine xT_istore g_q203 g203_67 (by decide) ?_
              refine xT_aload_n g_q203 g203_69 (lkN (by decide) (lkN (by decide) (l0))) ?_
              refine xT_iload_n g_q203 g203_70 (lkN (by decide) (lkN (by decide) (l1))) ?_
              refine xT_iload_n g_q203 g203_71 (lkN (by decide) (lkN (by decide) (l2))) ?_
              refine xT_icV (y := nI (0)) g_q203 g203_72 (by decide) ?_
              refine xT_invokevirtual (r := []) (u := none) g_q203 g203_73 (j := 205) (so := 0) (by decide +kernel) g_q205 rfl (by rw [x_rcM hA0 (hm_at h (i := 0) rfl rfl)]; rfl) (y1_) ?_
              refine xT_aload_n g_q203 g203_76 (lkN (by decide) (lkN (by decide) (l0))) ?_
              refine xT_iload_n g_q203 g203_77 (lkN (by decide) (lkN (by decide) (l1))) ?_
              refine xT_iload_n g_q203 g203_78 (lkN (by decide) (lkN (by decide) (l2))) ?_
              refine xT_icV (y := nI (1)) g_q203 g203_79 (by decide) ?_
              refine xT_invokevirtual (r := []) (u := none) g_q203 g203_80 (j := 205) (so := 0) (by decide +kernel) g_q205 rfl (by rw [x_rcM hA0 (hm_at hb1 (i := 0) rfl rfl)]; rfl) (y2_) ?_
              refine hcps _ _ _ (lkN (by decide) (lkN (by decide) (l0))) (lkN (by decide) (lkN (by decide) (l1))) (lkN (by decide) (lkN (by decide) (l2))) (lkN (by decide) (lkN (by decide) (l3))) (lkN (by decide) (lkY)) (lkY) ?_
              refine xT_istore g_q203 g203_157 (by decide) ?_
              refine xT_aload_n g_q203 g203_159 (lkN (by decide) (lkN (by decide) (lkN (by decide) (l0)))) ?_
              refine xT_iload g_q203 g203_160 (lkY) ?_
              refine xT_ifCondN g_q203 g203_162 (t := 170) (by decide) (c0N (a := 1) (b := 0) (by omega) (by omega) (by omega)) ?_
              refine xT_iload g_q203 g203_165 (lkN (by decide) (lkN (by decide) (lkY))) ?_
              refine xT_goto g_q203 g203_167 (t := 171) (by decide) ?_
              refine xT_putfield g_q203 g203_171 (ci := 12) (j := 58) rfl (hm_at h2 (i := 0) rfl rfl) rfl (by rw [decide_eq_true (show 58 < gs.length by rw [h9.1]; exact g58z)]; rfl) ?_
              refine xT_iload g_q203 g203_174 (lkY) ?_
              refine xT_ifCondY g_q203 g203_176 (t := 183) (by decide) (c1Y (a := 1) (b := 0) (by omega) (by omega) (by omega)) ?_
              refine xT_icV (y := nI (0)) g_q203 g203_183 (by decide) ?_
              refine xT_istore_n g_q203 g203_184 (by decide) ?_
              refine xT_goto g_q203 g203_185 (t := 17) (by decide) ?_
              exact x3
          · have hop2 : opR (pOp p0 (rLn s0)) ≠ 2 := fun z => hop (opR_2 _ (by omega) z)
            obtain ⟨r, hr1, hr0, hcps⟩ := t203_a (dp := dp + 4) (ot := ot) (yr := pYr p0) (tg := 1) (at0 := rLn s0) (o := 0) (q := q) hA0 hN1 hN2 hN3 hN4 hN5 hN6 hN7 hN8 hN9 hN10 hl0b hl1b hm0b hm1b (rG_9 h9 hGz) hfo hwo h2 (by decide)
            rcases (show r = 0 ∨ r = 1 by omega) with rfl | rfl
            · obtain ⟨H3, gs3, x3, x4, x5⟩ := ih 1 (stM p0 s0) (stM p1 s1) (gs.set 58 (.inl (-1))) (G2.set b (.inl (12, gs.set 58 (.inl (-1))))) (x_st (x_st (x_st (x_st (L) 4 (.inl (nI (rLn s0)))) 5 (.inl (nI (0)))) 6 (.inl (nI (0)))) 3 (.inl (nI (1)))) (by rw [stM_dn, stM_dn]; omega) (stM_ok hs0 r0) (stM_ok hs1 r1) stM_eo stM_eo (by decide) (fun z => hr0 rfl) (rS9_set h9) (rM_parts hM2) (lkN (by decide) (lkN (by decide) (lkN (by decide) (lkN (by decide) (l0))))) (lkN (by decide) (lkN (by decide) (lkN (by decide) (lkN (by decide) (l1))))) (lkN (by decide) (lkN (by decide) (lkN (by decide) (lkN (by decide) (l2))))) (lkY)
              rw [rF_st hs0 r0, rF_st hs1 r1] at x5
              refine ⟨H3, gs3, ?_, x4, x5⟩
              refine xT_aload_n g_q203 g203_17 (l0) ?_
              refine xT_getfield g_q203 g203_18 hA0 rfl (hm_at h (i := 0) rfl rfl) rfl g54 ?_
              refine xT_icV (y := nI (0)) g_q203 g203_21 (by decide) ?_
              refine xT_iaload g_q203 g203_22 hN6 (hm_at h (i := 6) rfl rfl) (ixN (n := 2) (by decide) rfl) (ixG (by decide) rfl) ?_
              refine xT_ifCondY g_q203 g203_23 (t := 35) (by decide) (decide_eq_true (rEn_lt r0)) ?_
              refine xT_aload_n g_q203 g203_35 (l0) ?_
              refine xT_getfield g_q203 g203_36 hA0 rfl (hm_at h (i := 0) rfl rfl) rfl g51 ?_
              refine xT_icV (y := nI (0)) g_q203 g203_39 (by decide) ?_
              refine xT_iaload g_q203 g203_40 hN3 (hm_at h (i := 3) rfl rfl) (ixN (n := 2) (by decide) rfl) (ixG (by decide) rfl) ?_
              refine xT_istore g_q203 g203_41 (by decide) ?_
              refine xT_iload_n g_q203 g203_43 (lkN (by decide) (l3)) ?_
              refine xT_ifCondN g_q203 g203_44 (t := 188) (by decide) (c0N (a := 1) (b := 0) (by omega) (by omega) (by omega)) ?_
              refine xT_aload_n g_q203 g203_47 (lkN (by decide) (l0)) ?_
              refine xT_getfield g_q203 g203_48 hA0 rfl (hm_at h (i := 0) rfl rfl) rfl g2 ?_
              refine xT_iload_n g_q203 g203_51 (lkN (by decide) (l1)) ?_
              refine xT_aaload g_q203 g203_52 (by decide +kernel) (hm_c h ccd) (ixN (n := 13) (by omega) ncd) (ixG (by omega) ecd) ?_
              refine xT_icV (y := nI (4)) g_q203 g203_53 (by decide) ?_
              refine xT_iload g_q203 g203_54 (lkY) ?_
              refine xT_imulV (y := nI (4 * rLn s0)) g_q203 g203_56 (bMulN _ _) ?_
              refine xT_iaload g_q203 g203_57 hD0 (hm_c h cD) (ixN (n := 48) (by omega) nD) (ixG (by omega) k0) ?_
              refine xT_icV (y := nI (2)) g_q203 g203_58 (by decide) ?_
              refine xT_if_icmpY g_q203 g203_59 (t := 66) (by decide) (c1Y (a := opR (pOp p0 (rLn s0))) (b := 2) hop2 (by omega) (by omega)) ?_
              refine xT_icV (y := nI (0)) g_q203 g203_66 (by decide) ?_
              refine xT_istore g_q203 g203_67 (by decide) ?_
              refine xT_aload_n g_q203 g203_69 (lkN (by decide) (lkN (by decide) (l0))) ?_
              refine xT_iload_n g_q203 g203_70 (lkN (by decide) (lkN (by decide) (l1))) ?_
              refine xT_iload_n g_q203 g203_71 (lkN (by decide) (lkN (by decide) (l2))) ?_
              refine xT_icV (y := nI (0)) g_q203 g203_72 (by decide) ?_
              refine xT_invokevirtual (r := []) (u := none) g_q203 g203_73 (j := 205) (so := 0) (by decide +kernel) g_q205 rfl (by rw [x_rcM hA0 (hm_at h (i := 0) rfl rfl)]; rfl) (y1_) ?_
              refine xT_aload_n g_q203 g203_76 (lkN (by decide) (lkN (by decide) (l0))) ?_
              refine xT_iload_n g_q203 g203_77 (lkN (by decide) (lkN (by decide) (l1))) ?_
              refine xT_iload_n g_q203 g203_78 (lkN (by decide) (lkN (by decide) (l2))) ?_
              refine xT_icV (y := nI (1)) g_q203 g203_79 (by decide) ?_
              refine xT_invokevirtual (r := []) (u := none) g_q203 g203_80 (j := 205) (so := 0) (by decide +kernel) g_q205 rfl (by rw [x_rcM hA0 (hm_at hb1 (i := 0) rfl rfl)]; rfl) (y2_) ?_
              refine hcps _ _ _ (lkN (by decide) (lkN (by decide) (l0))) (lkN (by decide) (lkN (by decide) (l1))) (lkN (by decide) (lkN (by decide) (l2))) (lkN (by decide) (lkN (by decide) (l3))) (lkN (by decide) (lkY)) (lkY) ?_
              refine xT_istore g_q203 g203_157 (by decide) ?_
              refine xT_aload_n g_q203 g203_159 (lkN (by decide) (lkN (by decide) (lkN (by decide) (l0)))) ?_
              refine xT_iload g_q203 g203_160 (lkY) ?_
              refine xT_ifCondY g_q203 g203_162 (t := 170) (by decide) (c0Y (a := 0) (b := 0) rfl) ?_
              refine xT_icV (y := -1) g_q203 g203_170 (by decide) ?_
              refine xT_putfield g_q203 g203_171 (ci := 12) (j := 58) rfl (hm_at h2 (i := 0) rfl rfl) rfl (by rw [decide_eq_true (show 58 < gs.length by rw [h9.1]; exact g58z)]; rfl) ?_
              refine xT_iload g_q203 g203_174 (lkY) ?_
              refine xT_ifCondN g_q203 g203_176 (t := 183) (by decide) (c1N (b := 0) rfl) ?_
              refine xT_icV (y := nI (1)) g_q203 g203_179 (by decide) ?_
              refine xT_goto g_q203 g203_180 (t := 184) (by decide) ?_
              refine xT_istore_n g_q203 g203_184 (by decide) ?_
              refine xT_goto g_q203 g203_185 (t := 17) (by decide) ?_
              exact x3
            · obtain ⟨H3, gs3, x3, x4, x5⟩ := ih 0 (stM p0 s0) (stM p1 s1) (gs.set 58 (.inl (nI (rLn s0)))) (G2.set b (.inl (12, gs.set 58 (.inl (nI (rLn s0)))))) (x_st (x_st (x_st (x_st (L) 4 (.inl (nI (rLn s0)))) 5 (.inl (nI (0)))) 6 (.inl (nI (1)))) 3 (.inl (nI (0)))) (by rw [stM_dn, stM_dn]; omega) (stM_ok hs0 r0) (stM_ok hs1 r1) stM_eo stM_eo (by decide) (fun z => absurd z (by decide)) (rS9_set h9) (rM_parts hM2) (lkN (by decide) (lkN (by decide) (lkN (by decide) (lkN (by decide) (l0))))) (lkN (by decide) (lkN (by decide) (lkN (by decide) (lkN (by decide) (l1))))) (lkN (by decide) (lkN (by decide) (lkN (by decide) (lkN (by decide) (l2))))) (lkY)
              rw [rF_st hs0 r0, rF_st hs1 r1] at x5
              refine ⟨H3, gs3, ?_, x4, x5⟩
              refine xT_aload_n g_q203 g203_17 (l0) ?_
              refine xT_getfield g_q203 g203_18 hA0 rfl (hm_at h (i := 0) rfl rfl) rfl g54 ?_
              refine xT_icV (y := nI (0)) g_q203 g203_21 (by decide) ?_
              refine xT_iaload g_q203 g203_22 hN6 (hm_at h (i := 6) rfl rfl) (ixN (n := 2) (by decide) rfl) (ixG (by decide) rfl) ?_
              refine xT_ifCondY g_q203 g203_23 (t := 35) (by decide) (decide_eq_true (rEn_lt r0)) ?_
              refine xT_aload_n g_q203 g203_35 (l0) ?_
              refine xT_getfield g_q203 g203_36 hA0 rfl (hm_at h (i := 0) rfl rfl) rfl g51 ?_
              refine xT_icV (y := nI (0)) g_q203 g203_39 (by decide) ?_
              refine xT_iaload g_q203 g203_40 hN3 (hm_at h (i := 3) rfl rfl) (ixN (n := 2) (by decide) rfl) (ixG (by decide) rfl) ?_
              refine xT_istore g_q203 g203_41 (by decide) ?_
              refine xT_iload_n g_q203 g203_43 (lkN (by decide) (l3)) ?_
              refine xT_ifCondN g_q203 g203_44 (t := 188) (by decide) (c0N (a := 1) (b := 0) (by omega) (by omega) (by omega)) ?_
              refine xT_aload_n g_q203 g203_47 (lkN (by decide) (l0)) ?_
              refine xT_getfield g_q203 g203_48 hA0 rfl (hm_at h (i := 0) rfl rfl) rfl g2 ?_
              refine xT_iload_n g_q203 g203_51 (lkN (by decide) (l1)) ?_
              refine xT_aaload g_q203 g203_52 (by decide +kernel) (hm_c h ccd) (ixN (n := 13) (by omega) ncd) (ixG (by omega) ecd) ?_
              refine xT_icV (y := nI (4)) g_q203 g203_53 (by decide) ?_
              refine xT_iload g_q203 g203_54 (lkY) ?_
              refine xT_imulV (y := nI (4 * rLn s0)) g_q203 g203_56 (bMulN _ _) ?_
              refine xT_iaload g_q203 g203_57 hD0 (hm_c h cD) (ixN (n := 48) (by omega) nD) (ixG (by omega) k0) ?_
              refine xT_icV (y := nI (2)) g_q203 g203_58 (by decide) ?_
              refine xT_if_icmpY g_q203 g203_59 (t := 66) (by decide) (c1Y (a := opR (pOp p0 (rLn s0))) (b := 2) hop2 (by omega) (by omega)) ?_
              refine xT_icV (y := nI (0)) g_q203 g203_66 (by decide) ?_
              refine xT_istore g_q203 g203_67 (by decide) ?_
              refine xT_aload_n g_q203 g203_69 (lkN (by decide) (lkN (by decide) (l0))) ?_
              refine xT_iload_n g_q203 g203_70 (lkN (by decide) (lkN (by decide) (l1))) ?_
              refine xT_iload_n g_q203 g203_71 (lkN (by decide) (lkN (by decide) (l2))) ?_
              refine xT_icV (y := nI (0)) g_q203 g203_72 (by decide) ?_
              refine xT_invokevirtual (r := []) (u := none) g_q203 g203_73 (j := 205) (so := 0) (by decide +kernel) g_q205 rfl (by rw [x_rcM hA0 (hm_at h (i := 0) rfl rfl)]; rfl) (y1_) ?_
              refine xT_aload_n g_q203 g203_76 (lkN (by decide) (lkN (by decide) (l0))) ?_
              refine xT_iload_n g_q203 g203_77 (lkN (by decide) (lkN (by decide) (l1))) ?_
              refine xT_iload_n g_q203 g203_78 (lkN (by decide) (lkN (by decide) (l2))) ?_
              refine xT_icV (y := nI (1)) g_q203 g203_79 (by decide) ?_
              refine xT_invokevirtual (r := []) (u := none) g_q203 g203_80 (j := 205) (so := 0) (by decide +kernel) g_q205 rfl (by rw [x_rcM hA0 (hm_at hb1 (i := 0) rfl rfl)]; rfl) (y2_) ?_
              refine hcps _ _ _ (lkN (by decide) (lkN (by decide) (l0))) (lkN (by decide) (lkN (by decide) (l1))) (lkN (by decide) (lkN (by decide) (l2))) (lkN (by decide) (lkN (by decide) (l3))) (lkN (by decide) (lkY)) (lkY) ?_
              refine xT_istore g_q203 g203_157 (by decide) ?_
              refine xT_aload_n g_q203 g203_159 (lkN (by decide) (lkN (by decide) (lkN (by decide) (l0)))) ?_
              refine xT_iload g_q203 g203_160 (lkY) ?_
              refine xT_ifCondN g_q203 g203_162 (t := 170) (by decide) (c0N (a := 1) (b := 0) (by omega) (by omega) (by omega)) ?_
              refine xT_iload g_q203 g203_165 (lkN (by decide) (lkN (by decide) (lkY))) ?_
              refine xT_goto g_q203 g203_167 (t := 171) (by decide) ?_
              refine xT_putfield g_q203 g203_171 (ci := 12) (j := 58) rfl (hm_at h2 (i := 0) rfl rfl) rfl (by rw [decide_eq_true (show 58 < gs.length by rw [h9.1]; exact g58z)]; rfl) ?_
              refine xT_iload g_q203 g203_174 (lkY) ?_
              refine xT_ifCondY g_q203 g203_176 (t := 183) (by decide) (c1Y (a := 1) (b := 0) (by omega) (by omega) (by omega)) ?_
              refine xT_icV (y := nI (0)) g_q203 g203_183 (by decide) ?_
              refine xT_istore_n g_q203 g203_184 (by decide) ?_
              refine xT_goto g_q203 g203_185 (t := 17) (by decide) ?_
              exact x3
      · obtain rfl : tg = 0 := by
          rcases (show tg = 0 ∨ tg = 1 by omega) with z | z
          · exact z
          · exact absurd ((heq z).symm.trans r0) r1
        obtain ⟨G1, y1_, hM1⟩ := t205_0 (dp := dp) (ot := ot) hA0 hN1 hN2 hN3 hN4 hN5 hN6 hN7 hN8 hN9 hN10 (rG_9 h9 hGz) hfo hwo hq hC0 (rT_9 h9 hTz0) hN0_ hok0 hs0 r0 hM
        obtain ⟨_, _, _, _, xb0, xb1, hb_0, hb_1, hb1, -⟩ := id hM1
        obtain ⟨H3, gs3, x3, x4, x5⟩ := ih 0 (stM p0 s0) s1 gs G1 (x_st (x_st (x_st (x_st (L) 4 (.inl (x0))) 5 (.inl (nI (0)))) 5 (.inl (nI (0 + 1)))) 5 (.inl (nI (0 + 1 + 1)))) (by rw [stM_dn]; omega) (stM_ok hs0 r0) hs1 stM_eo o1 (by decide) (fun z => absurd z (by decide)) h9 hM1 (lkN (by decide) (lkN (by decide) (lkN (by decide) (lkN (by decide) (l0))))) (lkN (by decide) (lkN (by decide) (lkN (by decide) (lkN (by decide) (l1))))) (lkN (by decide) (lkN (by decide) (lkN (by decide) (lkN (by decide) (l2))))) (lkN (by decide) (lkN (by decide) (lkN (by decide) (lkN (by decide) (l3)))))
        rw [rF_st hs0 r0] at x5
        refine ⟨H3, gs3, ?_, x4, x5⟩
        refine xT_aload_n g_q203 g203_17 (l0) ?_
        refine xT_getfield g_q203 g203_18 hA0 rfl (hm_at h (i := 0) rfl rfl) rfl g54 ?_
        refine xT_icV (y := nI (0)) g_q203 g203_21 (by decide) ?_
        refine xT_iaload g_q203 g203_22 hN6 (hm_at h (i := 6) rfl rfl) (ixN (n := 2) (by decide) rfl) (ixG (by decide) rfl) ?_
        refine xT_ifCondY g_q203 g203_23 (t := 35) (by decide) (decide_eq_true (rEn_lt r0)) ?_
        refine xT_aload_n g_q203 g203_35 (l0) ?_
        refine xT_getfield g_q203 g203_36 hA0 rfl (hm_at h (i := 0) rfl rfl) rfl g51 ?_
        refine xT_icV (y := nI (0)) g_q203 g203_39 (by decide) ?_
        refine xT_iaload g_q203 g203_40 hN3 (hm_at h (i := 3) rfl rfl) (ixN (n := 2) (by decide) rfl) (ixG (by decide) rfl) ?_
        refine xT_istore g_q203 g203_41 (by decide) ?_
        refine xT_iload_n g_q203 g203_43 (lkN (by decide) (l3)) ?_
        refine xT_ifCondY g_q203 g203_44 (t := 188) (by decide) (c0Y (a := 0) (b := 0) rfl) ?_
        refine xT_icV (y := nI (0)) g_q203 g203_188 (by decide) ?_
        refine xT_istore g_q203 g203_189 (by decide) ?_
        refine xT_iload g_q203 g203_191 (lkY) ?_
        refine xT_icV (y := nI (2)) g_q203 g203_193 (by decide) ?_
        refine xT_if_icmpN g_q203 g203_194 (t := 221) (by decide) (c3N (a := 0) (b := 2) (by omega) (by omega) (by omega)) ?_
        refine xT_aload_n g_q203 g203_197 (lkN (by decide) (lkN (by decide) (l0))) ?_
        refine xT_getfield g_q203 g203_198 hA0 rfl (hm_at h (i := 0) rfl rfl) rfl g54 ?_
        refine xT_iload g_q203 g203_201 (lkY) ?_
        refine xT_iaload g_q203 g203_203 hN6 (hm_at h (i := 6) rfl rfl) (ixN (n := 2) (by decide) rfl) (ixG (by decide) rfl) ?_
        refine xT_ifCondN g_q203 g203_204 (t := 215) (by decide) (decide_eq_false (Int32.not_le.mpr (rEn_lt r0))) ?_
        refine xT_aload_n g_q203 g203_207 (lkN (by decide) (lkN (by decide) (l0))) ?_
        refine xT_iload_n g_q203 g203_208 (lkN (by decide) (lkN (by decide) (l1))) ?_
        refine xT_iload_n g_q203 g203_209 (lkN (by decide) (lkN (by decide) (l2))) ?_
        refine xT_iload g_q203 g203_210 (lkY) ?_
        refine xT_invokevirtual (r := []) (u := none) g_q203 g203_212 (j := 205) (so := 0) (by decide +kernel) g_q205 rfl (by rw [x_rcM hA0 (hm_at h (i := 0) rfl rfl)]; rfl) (y1_) ?_
        refine xT_iincV (y := nI (0 + 1)) g_q203 g203_215 (lkY) (by decide) (bIncN _) ?_
        refine xT_goto g_q203 g203_218 (t := 191) (by decide) ?_
        refine xT_iload g_q203 g203_191 (lkY) ?_
        refine xT_icV (y := nI (2)) g_q203 g203_193 (by decide) ?_
        refine xT_if_icmpN g_q203 g203_194 (t := 221) (by decide) (c3N (a := 0 + 1) (b := 2) (by omega) (by omega) (by omega)) ?_
        refine xT_aload_n g_q203 g203_197 (lkN (by decide) (lkN (by decide) (lkN (by decide) (l0)))) ?_
        refine xT_getfield g_q203 g203_198 hA0 rfl (hm_at hb1 (i := 0) rfl rfl) rfl g54 ?_
        refine xT_iload g_q203 g203_201 (lkY) ?_
        refine xT_iaload g_q203 g203_203 hN6 (hm_at hb1 (i := 6) rfl rfl) (ixN (n := 2) (by decide) rfl) (ixG (by decide) rfl) ?_
        refine xT_ifCondY g_q203 g203_204 (t := 215) (by decide) (decide_eq_true (Int32.not_lt.mp (rEo_ge o1 r1))) ?_
        refine xT_iincV (y := nI (0 + 1 + 1)) g_q203 g203_215 (lkY) (by decide) (bIncN _) ?_
        refine xT_goto g_q203 g203_218 (t := 191) (by decide) ?_
        refine xT_iload g_q203 g203_191 (lkY) ?_
        refine xT_icV (y := nI (2)) g_q203 g203_193 (by decide) ?_
        refine xT_if_icmpY g_q203 g203_194 (t := 221) (by decide) (c3Y (a := 0 + 1 + 1) (b := 2) (by omega) (by omega) (by omega)) ?_
        refine xT_goto g_q203 g203_221 (t := 17) (by decide) ?_
        exact x3
    · by_cases r1 : rEn s1 = -1
      · have d1 := (hs1.1 r1).2
        obtain rfl : tg = 0 := by
          rcases (show tg = 0 ∨ tg = 1 by omega) with z | z
          · exact z
          · exact absurd ((heq z).trans r1) r0
        obtain ⟨G2, y2_, hM2⟩ := t205_1 (dp := dp) (ot := ot) hA0 hN1 hN2 hN3 hN4 hN5 hN6 hN7 hN8 hN9 hN10 (rG_9 h9 hGz) hfo hwo hq hC1 (rT_9 h9 hTz1) hN1_ hok1 hs1 r1 hM
        rw [← hy] at y2_
        obtain ⟨H3, gs3, x3, x4, x5⟩ := ih 0 s0 (stM p1 s1) gs G2 (x_st (x_st (x_st (x_st (L) 4 (.inl (x0))) 5 (.inl (nI (0)))) 5 (.inl (nI (0 + 1)))) 5 (.inl (nI (0 + 1 + 1)))) (by rw [stM_dn]; omega) hs0 (stM_ok hs1 r1) o0 stM_eo (by decide) (fun z => absurd z (by decide)) h9 hM2 (lkN (by decide) (lkN (by decide) (lkN (by decide) (lkN (by decide) (l0))))) (lkN (by decide) (lkN (by decide) (lkN (by decide) (lkN (by decide) (l1))))) (lkN (by decide) (lkN (by decide) (lkN (by decide) (lkN (by decide) (l2))))) (lkN (by decide) (lkN (by decide) (lkN (by decide) (lkN (by decide) (l3)))))
        rw [rF_st hs1 r1] at x5
        refine ⟨H3, gs3, ?_, x4, x5⟩
        refine xT_aload_n g_q203 g203_17 (l0) ?_
        refine xT_getfield g_q203 g203_18 hA0 rfl (hm_at h (i := 0) rfl rfl) rfl g54 ?_
        refine xT_icV (y := nI (0)) g_q203 g203_21 (by decide) ?_
        refine xT_iaload g_q203 g203_22 hN6 (hm_at h (i := 6) rfl rfl) (ixN (n := 2) (by decide) rfl) (ixG (by decide) rfl) ?_
        refine xT_ifCondN g_q203 g203_23 (t := 35) (by decide) (decide_eq_false (rEo_ge o0 r0)) ?_
        refine xT_aload_n g_q203 g203_26 (l0) ?_
        refine xT_getfield g_q203 g203_27 hA0 rfl (hm_at h (i := 0) rfl rfl) rfl g54 ?_
        refine xT_icV (y := nI (1)) g_q203 g203_30 (by decide) ?_
        refine xT_iaload g_q203 g203_31 hN6 (hm_at h (i := 6) rfl rfl) (ixN (n := 2) (by decide) rfl) (ixG (by decide) rfl) ?_
        refine xT_ifCondN g_q203 g203_32 (t := 224) (by decide) (decide_eq_false (Int32.not_le.mpr (rEn_lt r1))) ?_
        refine xT_aload_n g_q203 g203_35 (l0) ?_
        refine xT_getfield g_q203 g203_36 hA0 rfl (hm_at h (i := 0) rfl rfl) rfl g51 ?_
        refine xT_icV (y := nI (0)) g_q203 g203_39 (by decide) ?_
        refine xT_iaload g_q203 g203_40 hN3 (hm_at h (i := 3) rfl rfl) (ixN (n := 2) (by decide) rfl) (ixG (by decide) rfl) ?_
        refine xT_istore g_q203 g203_41 (by decide) ?_
        refine xT_iload_n g_q203 g203_43 (lkN (by decide) (l3)) ?_
        refine xT_ifCondY g_q203 g203_44 (t := 188) (by decide) (c0Y (a := 0) (b := 0) rfl) ?_
        refine xT_icV (y := nI (0)) g_q203 g203_188 (by decide) ?_
        refine xT_istore g_q203 g203_189 (by decide) ?_
        refine xT_iload g_q203 g203_191 (lkY) ?_
        refine xT_icV (y := nI (2)) g_q203 g203_193 (by decide) ?_
        refine xT_if_icmpN g_q203 g203_194 (t := 221) (by decide) (c3N (a := 0) (b := 2) (by omega) (by omega) (by omega)) ?_
        refine xT_aload_n g_q203 g203_197 (lkN (by decide) (lkN (by decide) (l0))) ?_
        refine xT_getfield g_q203 g203_198 hA0 rfl (hm_at h (i := 0) rfl rfl) rfl g54 ?_
        refine xT_iload g_q203 g203_201 (lkY) ?_
        refine xT_iaload g_q203 g203_203 hN6 (hm_at h (i := 6) rfl rfl) (ixN (n := 2) (by decide) rfl) (ixG (by decide) rfl) ?_
        refine xT_ifCondY g_q203 g203_204 (t := 215) (by decide) (decide_eq_true (Int32.not_lt.mp (rEo_ge o0 r0))) ?_
        refine xT_iincV (y := nI (0 + 1)) g_q203 g203_215 (lkY) (by decide) (bIncN _) ?_
        refine xT_goto g_q203 g203_218 (t := 191) (by decide) ?_
        refine xT_iload g_q203 g203_191 (lkY) ?_
        refine xT_icV (y := nI (2)) g_q203 g203_193 (by decide) ?_
        refine xT_if_icmpN g_q203 g203_194 (t := 221) (by decide) (c3N (a := 0 + 1) (b := 2) (by omega) (by omega) (by omega)) ?_
        refine xT_aload_n g_q203 g203_197 (lkN (by decide) (lkN (by decide) (lkN (by decide) (l0)))) ?_
        refine xT_getfield g_q203 g203_198 hA0 rfl (hm_at h (i := 0) rfl rfl) rfl g54 ?_
        refine xT_iload g_q203 g203_201 (lkY) ?_
        refine xT_iaload g_q203 g203_203 hN6 (hm_at h (i := 6) rfl rfl) (ixN (n := 2) (by decide) rfl) (ixG (by decide) rfl) ?_
        refine xT_ifCondN g_q203 g203_204 (t := 215) (by decide) (decide_eq_false (Int32.not_le.mpr (rEn_lt r1))) ?_
        refine xT_aload_n g_q203 g203_207 (lkN (by decide) (lkN (by decide) (lkN (by decide) (l0)))) ?_
        refine xT_iload_n g_q203 g203_208 (lkN (by decide) (lkN (by decide) (lkN (by decide) (l1)))) ?_
        refine xT_iload_n g_q203 g203_209 (lkN (by decide) (lkN (by decide) (lkN (by decide) (l2)))) ?_
        refine xT_iload g_q203 g203_210 (lkY) ?_
        refine xT_invokevirtual (r := []) (u := none) g_q203 g203_212 (j := 205) (so := 0) (by decide +kernel) g_q205 rfl (by rw [x_rcM hA0 (hm_at h (i := 0) rfl rfl)]; rfl) (y2_) ?_
        refine xT_iincV (y := nI (0 + 1 + 1)) g_q203 g203_215 (lkY) (by decide) (bIncN _) ?_
        refine xT_goto g_q203 g203_218 (t := 191) (by decide) ?_
        refine xT_iload g_q203 g203_191 (lkY) ?_
        refine xT_icV (y := nI (2)) g_q203 g203_193 (by decide) ?_
        refine xT_if_icmpY g_q203 g203_194 (t := 221) (by decide) (c3Y (a := 0 + 1 + 1) (b := 2) (by omega) (by omega) (by omega)) ?_
        refine xT_goto g_q203 g203_221 (t := 17) (by decide) ?_
        exact x3
      · refine ⟨H, gs, ?_, h9, by rw [rF_end r0, rF_end r1]; exact hM⟩
        refine xT_aload_n g_q203 g203_17 (l0) ?_
        refine xT_getfield g_q203 g203_18 hA0 rfl (hm_at h (i := 0) rfl rfl) rfl g54 ?_
        refine xT_icV (y := nI (0)) g_q203 g203_21 (by decide) ?_
        refine xT_iaload g_q203 g203_22 hN6 (hm_at h (i := 6) rfl rfl) (ixN (n := 2) (by decide) rfl) (ixG (by decide) rfl) ?_
        refine xT_ifCondN g_q203 g203_23 (t := 35) (by decide) (decide_eq_false (rEo_ge o0 r0)) ?_
        refine xT_aload_n g_q203 g203_26 (l0) ?_
        refine xT_getfield g_q203 g203_27 hA0 rfl (hm_at h (i := 0) rfl rfl) rfl g54 ?_
        refine xT_icV (y := nI (1)) g_q203 g203_30 (by decide) ?_
        refine xT_iaload g_q203 g203_31 hN6 (hm_at h (i := 6) rfl rfl) (ixN (n := 2) (by decide) rfl) (ixG (by decide) rfl) ?_
        refine xT_ifCondY g_q203 g203_32 (t := 224) (by decide) (decide_eq_true (Int32.not_lt.mp (rEo_ge o1 r1))) ?_
        exact xT_return_ g_q203 g203_224 (rfl)
end XH33_34
/-! p33 by hand, 35. -/
noncomputable section XH33_35
variable {ot : XO Int32} {dp : Nat} {H H0 : List (XC Int32)}
theorem t203 {b F0 F1 ln cd ip sh shs fi fz tw tz fo pc tk dn en wo ws la W0 W1 q : Nat} {p0 p1 : rP} {f0 f1 w0 w1 : List (XV Int32)} {a0 a1 b0 b1 c0 c1 d0 d1 e0 e1 h0 h1 : Int32} (hl0 : f0.length = 6) (hl1 : f1.length = 6) (hm0 : w0.length = 12) (hm1 : w1.length = 12) (hW0 : wLf w0) (hW1 : wLf w1) (hA0 : ¬ 1000000 < b) (hN1 : ¬ F0 = 1000000) (hN2 : ¬ F1 = 1000000) (hN3 : ¬ pc = 1000000) (hN4 : ¬ tk = 1000000) (hN5 : ¬ dn = 1000000) (hN6 : ¬ en = 1000000) (hN7 : ¬ W0 = 1000000) (hN8 : ¬ W1 = 1000000) (hN9 : ¬ ws = 1000000) (hN10 : ¬ la = 1000000) (hfo : rQ H0 [b, F0, F1, pc, tk, dn, en, W0, W1, ws, la] fo 5 2 0 F0 ∧ rQ H0 [b, F0, F1, pc, tk, dn, en, W0, W1, ws, la] fo 5 2 1 F1) (hwo : rQ H0 [b, F0, F1, pc, tk, dn, en, W0, W1, ws, la] wo 5 2 0 W0 ∧ rQ H0 [b, F0, F1, pc, tk, dn, en, W0, W1, ws, la] wo 5 2 1 W1) {gz : List (XV Int32)} (hGz : rG gz ln cd ip sh shs fi fz tw tz fo pc tk dn en wo ws la) (hq : q < 12) (hC0 : rC H0 [b, F0, F1, pc, tk, dn, en, W0, W1, ws, la] ln cd q p0) (hC1 : rC H0 [b, F0, F1, pc, tk, dn, en, W0, W1, ws, la] ln cd q p1) (hTz0 : rT H0 [b, F0, F1, pc, tk, dn, en, W0, W1, ws, la] gz q 0 p0) (hTz1 : rT H0 [b, F0, F1, pc, tk, dn, en, W0, W1, ws, la] gz q 1 p1) (hN0_ : rN H0 [b, F0, F1, pc, tk, dn, en, W0, W1, ws, la] ip sh shs fi fz q p0) (hN1_ : rN H0 [b, F0, F1, pc, tk, dn, en, W0, W1, ws, la] ip sh shs tw tz q p1) (hok0 : pOk p0) (hok1 : pOk p1) (hy : pYr p0 = pYr p1) (h : hm H0 H [b, F0, F1, pc, tk, dn, en, W0, W1, ws, la] [.inl (12, gz), .inr (0, f0), .inr (0, f1), .inr (0, [.inl (a0), .inl (a1)]), .inr (0, [.inl (b0), .inl (b1)]), .inr (0, [.inl (c0), .inl (c1)]), .inr (0, [.inl (d0), .inl (d1)]), .inr (0, w0), .inr (0, w1), .inr (0, [.inl (e0), .inl (e1)]), .inr (0, [.inl (h0), .inl (h1)])]) : ∃ H2 gs2, x_To x_tb x_tyl ot (dp + 4) 203 0 (x_en 0 [.inr (some b), .inl (nI q), .inl (pYr p0)]) [] H 0 0 none H2 ∧ rS9 gs2 gz ∧ rM H0 H2 b F0 F1 pc tk dn en W0 W1 ws la gs2 (runR p0) (runR p1) := by
  have g58z : 58 < gz.length := by
    obtain ⟨-, -, -, -, -, -, -, -, -, -, -, -, -, -, -, -, -, g58⟩ := id hGz
    exact g58
  obtain ⟨G1, y1_, hb1⟩ := t204_0 (dp := dp + 3) (ot := ot) hA0 hN1 hN2 hN3 hN4 hN5 hN6 hN7 hN8 hN9 hN10 hl0 hl1 hm0 hm1 hGz hfo hwo h
  obtain ⟨G2, y2_, hb2⟩ := t204_1 (dp := dp + 3) (ot := ot) hA0 hN1 hN2 hN3 hN4 hN5 hN6 hN7 hN8 hN9 hN10 (by rw [List.length_set, List.length_set, List.length_set, List.length_set, List.length_set, List.length_set]; exact hl0) hl1 hm0 hm1 hGz hfo hwo hb1
  have hM : rM H0 (G2.set b (.inl (12, gz.set 58 (.inl (-1))))) b F0 F1 pc tk dn en W0 W1 ws la (gz.set 58 (.inl (-1))) rs0 rs0 := rM_parts ⟨_, _, w0, w1, nI 0, nI 0, _, _, hb2, fun _ => rfl, fun _ => rfl, by rw [List.length_set, List.length_set, List.length_set, List.length_set, List.length_set, List.length_set]; exact hl0, by rw [List.length_set, List.length_set, List.length_set, List.length_set, List.length_set, List.length_set]; exact hl1, hW0, hW1, six_0 hl0, six_0 hl1, fun k hk => absurd hk (Nat.not_lt_zero _), fun k hk => absurd hk (Nat.not_lt_zero _)⟩
  obtain ⟨H3, gs3, x3, x4, x5⟩ := t203_l (dp := dp) (ot := ot) hA0 hN1 hN2 hN3 hN4 hN5 hN6 hN7 hN8 hN9 hN10 hfo hwo hGz hq hC0 hC1 hTz0 hTz1 hN0_ hN1_ hok0 hok1 hy 300 1 rs0 rs0 (gz.set 58 (.inl (-1))) _ (x_st ((x_en 0 [.inr (some b), .inl (nI q), .inl (pYr p0)])) 3 (.inl (nI (1)))) (by decide) (rs0_ok hok0.1) (rs0_ok hok1.1) (Or.inl rfl) (Or.inl rfl) (by decide) (fun _ => rfl) (rS9_set ⟨rfl, fun _ _ => rfl⟩) hM (lkN (by decide) (rfl)) (lkN (by decide) (rfl)) (lkN (by decide) (rfl)) (lkY)
  refine ⟨H3, gs3, ?_, x4, x5⟩
  refine xT_aload_n g_q203 g203_0 (rfl) ?_
  refine xT_icV (y := nI (0)) g_q203 g203_1 (by decide) ?_
  refine xT_invokevirtual (r := []) (u := none) g_q203 g203_2 (j := 204) (so := 0) (by decide +kernel) g_q204 rfl (by rw [x_rcM hA0 (hm_at h (i := 0) rfl rfl)]; rfl) (y1_) ?_
  refine xT_aload_n g_q203 g203_5 (rfl) ?_
  refine xT_icV (y := nI (1)) g_q203 g203_6 (by decide) ?_
  refine xT_invokevirtual (r := []) (u := none) g_q203 g203_7 (j := 204) (so := 0) (by decide +kernel) g_q204 rfl (by rw [x_rcM hA0 (hm_at hb1 (i := 0) rfl rfl)]; rfl) (y2_) ?_
  refine xT_aload_n g_q203 g203_10 (rfl) ?_
  refine xT_icV (y := -1) g_q203 g203_11 (by decide) ?_
  refine xT_putfield g_q203 g203_12 (ci := 12) (j := 58) rfl (hm_at hb2 (i := 0) rfl rfl) rfl (by rw [decide_eq_true (show 58 < gz.length from g58z)]; rfl) ?_
  refine xT_icV (y := nI (1)) g_q203 g203_15 (by decide) ?_
  refine xT_istore_n g_q203 g203_16 (by decide) ?_
  exact x3
end XH33_35
/-! p33 by hand, 36. -/
noncomputable section XH33_36
variable {ot : XO Int32} {dp : Nat} {H H0 : List (XC Int32)}
def lkR (av bv : Nat → Int32) : Nat → Nat → Bool
  | 0, _ => true
  | d + 1, i => decide (av i = bv i) && lkR av bv d (i + 1)
/-- as many numbers, the same ones -/
def lkB (n : Nat) (av : Nat → Int32) (m : Nat) (bv : Nat → Int32) : Bool := decide (n = m) && lkR av bv n 0
theorem lkR_cg {a1 b1 a2 b2 : Nat → Int32} : ∀ d i, (∀ k, i ≤ k → k < i + d → a1 k = a2 k ∧ b1 k = b2 k) → lkR a1 b1 d i = lkR a2 b2 d i
  | 0, _, _ => rfl
  | d + 1, i, h => by
    show (decide (a1 i = b1 i) && lkR a1 b1 d (i + 1)) = (decide (a2 i = b2 i) && lkR a2 b2 d (i + 1))
    obtain ⟨e1, e2⟩ := h i (Nat.le_refl _) (by omega)
    rw [e1, e2, lkR_cg d (i + 1) (fun k h1 h2 => h k (by omega) (by omega))]
end XH33_36
/-! p33 by hand, 37. -/
noncomputable section XH33_37
variable {ot : XO Int32} {dp : Nat} {H H0 : List (XC Int32)}
theorem t211_l {ra rb n m : Nat} {av bv : Nat → Int32} {la_ lb_ : List (XV Int32)} (ha0 : ¬ ra = 1000000) (hb0 : ¬ rb = 1000000) (ha : H[ra]? = some (.inr (0, la_))) (hb : H[rb]? = some (.inr (0, lb_))) (hal : la_.length = 12) (hbl : lb_.length = 12) (hn : n ≤ 12) (hav : ∀ k, k < n → la_[k]? = some (.inl (av k))) (hbv : ∀ k, k < n → lb_[k]? = some (.inl (bv k))) : ∀ (d i : Nat) (L : List (Nat × XV Int32)), i + d = n → x_lk L 0 = some (.inr (some (ra))) → x_lk L 1 = some (.inl (nI (n))) → x_lk L 2 = some (.inr (some (rb))) → x_lk L 3 = some (.inl (nI (m))) → x_lk L 4 = some (.inl (nI (1))) → x_lk L 5 = some (.inl (nI (i))) → x_To x_tb x_tyl ot dp 211 15 L [] H 0 0 (some (.inl (nI (if lkR av bv d i = true then 1 else 0)))) H := by
  intro d
  induction d with
  | zero =>
    intro i L hi l0 l1 l2 l3 l4 l5
    obtain rfl : n = i := by omega
    show x_To x_tb x_tyl ot dp 211 15 L [] H 0 0 (some (.inl (nI 1))) H
    refine xT_iload g_q211 g211_15 (l4) ?_
    refine xT_ifCondN g_q211 g211_17 (t := 50) (by decide) (c0N (a := 1) (b := 0) (by omega) (by omega) (by omega)) ?_
    refine xT_iload g_q211 g211_20 (l5) ?_
    refine xT_iload_n g_q211 g211_22 (l1) ?_
    refine xT_if_icmpY g_q211 g211_23 (t := 50) (by decide) (c3Y (a := n) (b := n) (Nat.le_refl _) (by omega) (by omega)) ?_
    refine xT_iload g_q211 g211_50 (l4) ?_
    exact xT_ireturn g_q211 g211_52 (by decide +kernel)
  | succ d ih =>
    intro i L hi l0 l1 l2 l3 l4 l5
    by_cases c : av i = bv i
    · rw [show lkR av bv (d + 1) i = lkR av bv d (i + 1) by
        show (decide (av i = bv i) && lkR av bv d (i + 1)) = _
        rw [decide_eq_true c, Bool.true_and]]
      refine xT_iload g_q211 g211_15 (l4) ?_
      refine xT_ifCondN g_q211 g211_17 (t := 50) (by decide) (c0N (a := 1) (b := 0) (by omega) (by omega) (by omega)) ?_
      refine xT_iload g_q211 g211_20 (l5) ?_
      refine xT_iload_n g_q211 g211_22 (l1) ?_
      refine xT_if_icmpN g_q211 g211_23 (t := 50) (by decide) (c3N (a := i) (b := n) (by omega) (by omega) (by omega)) ?_
      refine xT_aload_n g_q211 g211_26 (l0) ?_
      refine xT_iload g_q211 g211_27 (l5) ?_
      refine xT_iaload g_q211 g211_29 ha0 ha (ixN (n := 12) (by omega) hal) (ixG (by omega) (hav _ (by omega))) ?_
      refine xT_aload_n g_q211 g211_30 (l2) ?_
      refine xT_iload g_q211 g211_31 (l5) ?_
      refine xT_iaload g_q211 g211_33 hb0 hb (ixN (n := 12) (by omega) hbl) (ixG (by omega) (hbv _ (by omega))) ?_
      refine xT_if_icmpN g_q211 g211_34 (t := 41) (by decide) (decide_eq_false (fun z => z c)) ?_
      refine xT_icV (y := nI (1)) g_q211 g211_37 (by decide) ?_
      refine xT_goto g_q211 g211_38 (t := 42) (by decide) ?_
      refine xT_istore g_q211 g211_42 (by decide) ?_
      refine xT_iincV (y := nI (i + 1)) g_q211 g211_44 (lkN (by decide) (l5)) (by decide) (bIncN _) ?_
      refine xT_goto g_q211 g211_47 (t := 15) (by decide) ?_
      exact ih (i + 1) _ (by omega) (lkN (by decide) (lkN (by decide) (l0))) (lkN (by decide) (lkN (by decide) (l1))) (lkN (by decide) (lkN (by decide) (l2))) (lkN (by decide) (lkN (by decide) (l3))) (lkN (by decide) (lkY)) (lkY)
    · rw [show lkR av bv (d + 1) i = false by
        show (decide (av i = bv i) && lkR av bv d (i + 1)) = _
        rw [decide_eq_false c, Bool.false_and]]
      refine xT_iload g_q211 g211_15 (l4) ?_
      refine xT_ifCondN g_q211 g211_17 (t := 50) (by decide) (c0N (a := 1) (b := 0) (by omega) (by omega) (by omega)) ?_
      refine xT_iload g_q211 g211_20 (l5) ?_
      refine xT_iload_n g_q211 g211_22 (l1) ?_
      refine xT_if_icmpN g_q211 g211_23 (t := 50) (by decide) (c3N (a := i) (b := n) (by omega) (by omega) (by omega)) ?_
      refine xT_aload_n g_q211 g211_26 (l0) ?_
      refine xT_iload g_q211 g211_27 (l5) ?_
      refine xT_iaload g_q211 g211_29 ha0 ha (ixN (n := 12) (by omega) hal) (ixG (by omega) (hav _ (by omega))) ?_
      refine xT_aload_n g_q211 g211_30 (l2) ?_
      refine xT_iload g_q211 g211_31 (l5) ?_
      refine xT_iaload g_q211 g211_33 hb0 hb (ixN (n := 12) (by omega) hbl) (ixG (by omega) (hbv _ (by omega))) ?_
      refine xT_if_icmpY g_q211 g211_34 (t := 41) (by decide) (decide_eq_true c) ?_
      refine xT_icV (y := nI (0)) g_q211 g211_41 (by decide) ?_
      refine xT_istore g_q211 g211_42 (by decide) ?_
      refine xT_iincV (y := nI (i + 1)) g_q211 g211_44 (lkN (by decide) (l5)) (by decide) (bIncN _) ?_
      refine xT_goto g_q211 g211_47 (t := 15) (by decide) ?_
      refine xT_iload g_q211 g211_15 (lkN (by decide) (lkY)) ?_
      refine xT_ifCondY g_q211 g211_17 (t := 50) (by decide) (c0Y (a := 0) (b := 0) rfl) ?_
      refine xT_iload g_q211 g211_50 (lkN (by decide) (lkY)) ?_
      exact xT_ireturn g_q211 g211_52 (by decide +kernel)
theorem t211 {ra rb n m : Nat} {av bv : Nat → Int32} {la_ lb_ : List (XV Int32)} (ha0 : ¬ ra = 1000000) (hb0 : ¬ rb = 1000000) (ha : H[ra]? = some (.inr (0, la_))) (hb : H[rb]? = some (.inr (0, lb_))) (hal : la_.length = 12) (hbl : lb_.length = 12) (hn : n ≤ 12) (hav : ∀ k, k < n → la_[k]? = some (.inl (av k))) (hbv : n = m → ∀ k, k < n → lb_[k]? = some (.inl (bv k))) (hm : m ≤ 12) : x_To x_tb x_tyl ot dp 211 0 (x_en 0 [.inr (some (ra)), .inl (nI (n)), .inr (some (rb)), .inl (nI (m))]) [] H 0 0 (some (.inl (nI (if lkB n av m bv = true then 1 else 0)))) H := by
  by_cases c : n = m
  · rw [show lkB n av m bv = lkR av bv n 0 by
      show (decide (n = m) && lkR av bv n 0) = _
      rw [decide_eq_true c, Bool.true_and]]
    refine xT_iload_n g_q211 g211_0 (rfl) ?_
    refine xT_iload_n g_q211 g211_1 (rfl) ?_
    refine xT_if_icmpN g_q211 g211_2 (t := 9) (by decide) (c1N (a := n) (b := m) c) ?_
    refine xT_icV (y := nI (1)) g_q211 g211_5 (by decide) ?_
    refine xT_goto g_q211 g211_6 (t := 10) (by decide) ?_
    refine xT_istore g_q211 g211_10 (by decide) ?_
    refine xT_icV (y := nI (0)) g_q211 g211_12 (by decide) ?_
    refine xT_istore g_q211 g211_13 (by decide) ?_
    exact t211_l ha0 hb0 ha hb hal hbl hn hav (hbv c) n 0 _ (by omega) (lkN (by decide) (lkN (by decide) (rfl))) (lkN (by decide) (lkN (by decide) (rfl))) (lkN (by decide) (lkN (by decide) (rfl))) (lkN (by decide) (lkN (by decide) (rfl))) (lkN (by decide) (lkY)) (lkY)
  · rw [show lkB n av m bv = false by
      show (decide (n = m) && lkR av bv n 0) = _
      rw [decide_eq_false c, Bool.false_and]]
    refine xT_iload_n g_q211 g211_0 (rfl) ?_
    refine xT_iload_n g_q211 g211_1 (rfl) ?_
    refine xT_if_icmpY g_q211 g211_2 (t := 9) (by decide) (c1Y (a := n) (b := m) c (by omega) (by omega)) ?_
    refine xT_icV (y := nI (0)) g_q211 g211_9 (by decide) ?_
    refine xT_istore g_q211 g211_10 (by decide) ?_
    refine xT_icV (y := nI (0)) g_q211 g211_12 (by decide) ?_
    refine xT_istore g_q211 g211_13 (by decide) ?_
    refine xT_iload g_q211 g211_15 (lkN (by decide) (lkY)) ?_
    refine xT_ifCondY g_q211 g211_17 (t := 50) (by decide) (c0Y (a := 0) (b := 0) rfl) ?_
    refine xT_iload g_q211 g211_50 (lkN (by decide) (lkY)) ?_
    exact xT_ireturn g_q211 g211_52 (by decide +kernel)
end XH33_37
/-! p33 by hand, 38. -/
noncomputable section XH33_38
variable {ot : XO Int32} {dp : Nat} {H H0 : List (XC Int32)}
theorem t83_l {ra rb n m : Nat} {av bv : Nat → Int32} {la_ lb_ : List (XV Int32)} (ha0 : ¬ ra = 1000000) (hb0 : ¬ rb = 1000000) (ha : H[ra]? = some (.inr (0, la_))) (hb : H[rb]? = some (.inr (0, lb_))) (hal : la_.length = 12) (hbl : lb_.length = 12) (hn : n ≤ 12) (hav : ∀ k, k < n → la_[k]? = some (.inl (av k))) (hbv : ∀ k, k < n → lb_[k]? = some (.inl (bv k))) {xo yo : Nat} (hx0 : ¬ 1000000 < xo) (hy0 : ¬ 1000000 < yo) (hx : H[xo]? = some (.inl (5, [.inr (some ra), .inl (nI n)]))) (hy : H[yo]? = some (.inl (5, [.inr (some rb), .inl (nI m)]))) : ∀ (d i : Nat) (L : List (Nat × XV Int32)), i + d = n → x_lk L 0 = some (.inr (some (xo))) → x_lk L 1 = some (.inr (some (yo))) → x_lk L 2 = some (.inl (nI (i))) → x_To x_tb x_tyl ot dp 83 15 L [] H 0 0 (some (.inl (nI (if lkR av bv d i = true then 1 else 0)))) H := by
  intro d
  induction d with
  | zero =>
    intro i L hi l0 l1 l2
    obtain rfl : n = i := by omega
    show x_To x_tb x_tyl ot dp 83 15 L [] H 0 0 (some (.inl (nI 1))) H
    refine xT_iload_n g_q83 g83_15 (l2) ?_
    refine xT_aload_n g_q83 g83_16 (l0) ?_
    refine xT_getfield g_q83 g83_17 hx0 rfl hx rfl rfl ?_
    refine xT_if_icmpY g_q83 g83_20 (t := 46) (by decide) (c3Y (a := n) (b := n) (Nat.le_refl _) (by omega) (by omega)) ?_
    refine xT_icV (y := nI (1)) g_q83 g83_46 (by decide) ?_
    exact xT_ireturn g_q83 g83_47 (by decide +kernel)
  | succ d ih =>
    intro i L hi l0 l1 l2
    by_cases c : av i = bv i
    · rw [show lkR av bv (d + 1) i = lkR av bv d (i + 1) by
        show (decide (av i = bv i) && lkR av bv d (i + 1)) = _
        rw [decide_eq_true c, Bool.true_and]]
      refine xT_iload_n g_q83 g83_15 (l2) ?_
      refine xT_aload_n g_q83 g83_16 (l0) ?_
      refine xT_getfield g_q83 g83_17 hx0 rfl hx rfl rfl ?_
      refine xT_if_icmpN g_q83 g83_20 (t := 46) (by decide) (c3N (a := i) (b := n) (by omega) (by omega) (by omega)) ?_
      refine xT_aload_n g_q83 g83_23 (l0) ?_
      refine xT_getfield g_q83 g83_24 hx0 rfl hx rfl rfl ?_
      refine xT_iload_n g_q83 g83_27 (l2) ?_
      refine xT_iaload g_q83 g83_28 ha0 ha (ixN (n := 12) (by omega) hal) (ixG (by omega) (hav _ (by omega))) ?_
      refine xT_aload_n g_q83 g83_29 (l1) ?_
      refine xT_getfield g_q83 g83_30 hy0 rfl hy rfl rfl ?_
      refine xT_iload_n g_q83 g83_33 (l2) ?_
      refine xT_iaload g_q83 g83_34 hb0 hb (ixN (n := 12) (by omega) hbl) (ixG (by omega) (hbv _ (by omega))) ?_
      refine xT_if_icmpY g_q83 g83_35 (t := 40) (by decide) (decide_eq_true c) ?_
      refine xT_iincV (y := nI (i + 1)) g_q83 g83_40 (l2) (by decide) (bIncN _) ?_
      refine xT_goto g_q83 g83_43 (t := 15) (by decide) ?_
      exact ih (i + 1) _ (by omega) (lkN (by decide) (l0)) (lkN (by decide) (l1)) (lkY)
    · rw [show lkR av bv (d + 1) i = false by
        show (decide (av i = bv i) && lkR av bv d (i + 1)) = _
        rw [decide_eq_false c, Bool.false_and]]
      refine xT_iload_n g_q83 g83_15 (l2) ?_
      refine xT_aload_n g_q83 g83_16 (l0) ?_
      refine xT_getfield g_q83 g83_17 hx0 rfl hx rfl rfl ?_
      refine xT_if_icmpN g_q83 g83_20 (t := 46) (by decide) (c3N (a := i) (b := n) (by omega) (by omega) (by omega)) ?_
      refine xT_aload_n g_q83 g83_23 (l0) ?_
      refine xT_getfield g_q83 g83_24 hx0 rfl hx rfl rfl ?_
      refine xT_iload_n g_q83 g83_27 (l2) ?_
      refine xT_iaload g_q83 g83_28 ha0 ha (ixN (n := 12) (by omega) hal) (ixG (by omega) (hav _ (by omega))) ?_
      refine xT_aload_n g_q83 g83_29 (l1) ?_
      refine xT_getfield g_q83 g83_30 hy0 rfl hy rfl rfl ?_
      refine xT_iload_n g_q83 g83_33 (l2) ?_
      refine xT_iaload g_q83 g83_34 hb0 hb (ixN (n := 12) (by omega) hbl) (ixG (by omega) (hbv _ (by omega))) ?_
      refine xT_if_icmpN g_q83 g83_35 (t := 40) (by decide) (decide_eq_false c) ?_
      refine xT_icV (y := nI (0)) g_q83 g83_38 (by decide) ?_
      exact xT_ireturn g_q83 g83_39 (by decide +kernel)
theorem t83 {ra rb n m : Nat} {av bv : Nat → Int32} {la_ lb_ : List (XV Int32)} (ha0 : ¬ ra = 1000000) (hb0 : ¬ rb = 1000000) (ha : H[ra]? = some (.inr (0, la_))) (hb : H[rb]? = some (.inr (0, lb_))) (hal : la_.length = 12) (hbl : lb_.length = 12) (hn : n ≤ 12) (hav : ∀ k, k < n → la_[k]? = some (.inl (av k))) (hbv : n = m → ∀ k, k < n → lb_[k]? = some (.inl (bv k))) {xo yo : Nat} (hx0 : ¬ 1000000 < xo) (hy0 : ¬ 1000000 < yo) (hx : H[xo]? = some (.inl (5, [.inr (some ra), .inl (nI n)]))) (hy : H[yo]? = some (.inl (5, [.inr (some rb), .inl (nI m)]))) (hm : m ≤ 12) : x_To x_tb x_tyl ot dp 83 0 (x_en 0 [.inr (some (xo)), .inr (some (yo))]) [] H 0 0 (some (.inl (nI (if lkB n av m bv = true then 1 else 0)))) H := by
  by_cases c : n = m
  · rw [show lkB n av m bv = lkR av bv n 0 by
      show (decide (n = m) && lkR av bv n 0) = _
      rw [decide_eq_true c, Bool.true_and]]
    refine xT_aload_n g_q83 g83_0 (rfl) ?_
    refine xT_getfield g_q83 g83_1 hx0 rfl hx rfl rfl ?_
    refine xT_aload_n g_q83 g83_4 (rfl) ?_
    refine xT_getfield g_q83 g83_5 hy0 rfl hy rfl rfl ?_
    refine xT_if_icmpY g_q83 g83_8 (t := 13) (by decide) (c0Y (a := n) (b := m) c) ?_
    refine xT_icV (y := nI (0)) g_q83 g83_13 (by decide) ?_
    refine xT_istore_n g_q83 g83_14 (by decide) ?_
    exact t83_l ha0 hb0 ha hb hal hbl hn hav (hbv c) hx0 hy0 hx hy n 0 _ (by omega) (lkN (by decide) (rfl)) (lkN (by decide) (rfl)) (lkY)
  · rw [show lkB n av m bv = false by
      show (decide (n = m) && lkR av bv n 0) = _
      rw [decide_eq_false c, Bool.false_and]]
    refine xT_aload_n g_q83 g83_0 (rfl) ?_
    refine xT_getfield g_q83 g83_1 hx0 rfl hx rfl rfl ?_
    refine xT_aload_n g_q83 g83_4 (rfl) ?_
    refine xT_getfield g_q83 g83_5 hy0 rfl hy rfl rfl ?_
    refine xT_if_icmpN g_q83 g83_8 (t := 13) (by decide) (c0N (a := n) (b := m) c (by omega) (by omega)) ?_
    refine xT_icV (y := nI (0)) g_q83 g83_11 (by decide) ?_
    exact xT_ireturn g_q83 g83_12 (by decide +kernel)
end XH33_38
/-! Nights: what programs and twins come to, one after the other; the harm. -/
noncomputable section XN33
/-- a land: words, fields, fields, numbers, lines of each program; its source (0: none); shelf, files, twins (how many, which); weights; the year -/
abbrev Ld : Type := (Nat → Nat → Nat) × (Nat → Nat → Nat) × (Nat → Nat → Nat) × (Nat → Nat → Nat) × (Nat → Nat) × (Nat → Nat) × (Nat → Nat) × (Nat → Nat → Int32) × (Nat → Nat) × (Nat → Nat → Int32) × (Nat → Nat) × (Nat → Nat → Int32) × (Nat → Int32) × Int32
abbrev dOp (d : Ld) : Nat → Nat → Nat := d.1
abbrev dLf (d : Ld) : Nat → Nat → Nat := d.2.1
abbrev dRt (d : Ld) : Nat → Nat → Nat := d.2.2.1
abbrev dNm (d : Ld) : Nat → Nat → Nat := d.2.2.2.1
abbrev dNl (d : Ld) : Nat → Nat := d.2.2.2.2.1
abbrev dSv (d : Ld) : Nat → Nat := d.2.2.2.2.2.1
abbrev dHn (d : Ld) : Nat → Nat := d.2.2.2.2.2.2.1
abbrev dHv (d : Ld) : Nat → Nat → Int32 := d.2.2.2.2.2.2.2.1
abbrev dWn (d : Ld) : Nat → Nat := d.2.2.2.2.2.2.2.2.1
abbrev dWv (d : Ld) : Nat → Nat → Int32 := d.2.2.2.2.2.2.2.2.2.1
abbrev dTn (d : Ld) : Nat → Nat := d.2.2.2.2.2.2.2.2.2.2.1
abbrev dTv (d : Ld) : Nat → Nat → Int32 := d.2.2.2.2.2.2.2.2.2.2.2.1
abbrev dWt (d : Ld) : Nat → Int32 := d.2.2.2.2.2.2.2.2.2.2.2.2.1
abbrev dYr (d : Ld) : Int32 := d.2.2.2.2.2.2.2.2.2.2.2.2.2
/-- how many programs, and how they are -/
def dOk (n : Nat) (d : Ld) : Prop := n ≤ 12 ∧ ∀ q, q < n → 0 < dNl d q ∧ dNl d q ≤ 12 ∧ dHn d q ≤ 12 ∧ dWn d q ≤ 12 ∧ dTn d q ≤ 12 ∧ dSv d q ≤ n ∧ dSv d q ≠ q + 1 ∧ ∀ l, l < dNl d q → dOp d q l ≤ 11 ∧ dLf d q l < 6 ∧ dRt d q l < 6 ∧ dNm d q l < 10000
/-- its input: the shelf, what a program before it wrote this night, what one behind it wrote last -/
def inX (d : Ld) (on : Nat → Nat) (ov : Nat → Nat → Int32) (r : Nat → rS) (i : Nat) : Nat × (Nat → Int32) := if dSv d i = 0 then (dHn d i, dHv d i) else if dSv d i ≤ i then (rOs (r (dSv d i - 1)), rOv (r (dSv d i - 1))) else (on (dSv d i - 1), ov (dSv d i - 1))
def pgP (d : Ld) (i : Nat) (x : Nat × (Nat → Int32)) : rP := (dOp d i, dLf d i, dRt d i, dNm d i, dNl d i, x.1, x.2, fmI, (fun v => lpB 0 (if v < nI 100 then x_bin 0 (nI 1900) v else v)), dYr d)
def pgT (d : Ld) (i : Nat) (x : Nat × (Nat → Int32)) : rP := (dOp d i, dLf d i, dRt d i, dNm d i, dNl d i, x.1, x.2, (fun v => v), lpB 2, dYr d)
theorem inX_cg {d : Ld} {on : Nat → Nat} {ov : Nat → Nat → Int32} {r1 r2 : Nat → rS} {i : Nat} (h : ∀ q, q < i → r1 q = r2 q) : inX d on ov r1 i = inX d on ov r2 i := by
  unfold inX
  by_cases c : dSv d i = 0
  · rw [if_pos c, if_pos c]
  · rw [if_neg c, if_neg c]
    by_cases e : dSv d i ≤ i
    · rw [if_pos e, if_pos e, h (dSv d i - 1) (by omega)]
    · rw [if_neg e, if_neg e]
def rdG (F : Nat → (Nat → rS) → rS) : Nat → Nat → rS
  | 0, _ => rs0
  | i + 1, q => if q = i then F i (rdG F i) else rdG F i q
theorem rdG_at {F : Nat → (Nat → rS) → rS} : ∀ i q, q < i → rdG F i q = rdG F (q + 1) q
  | 0, q, h => absurd h (Nat.not_lt_zero _)
  | i + 1, q, h => by
    by_cases c : q = i
    · rw [c]
    · rw [← rdG_at i q (by omega)]
      exact if_neg c
theorem rdG_ex {F : Nat → (Nat → rS) → rS} (hF : ∀ i r1 r2, (∀ q, q < i → r1 q = r2 q) → F i r1 = F i r2) : ∃ r : Nat → rS, ∀ i, r i = F i r :=
  ⟨fun i => rdG F (i + 1) i, fun i => by
    show (if i = i then F i (rdG F i) else rdG F i i) = _
    rw [if_pos rfl]
    exact hF i _ _ (fun q hq => rdG_at i q hq)⟩
/-- what programs come to, each as it is; what twins come to -/
def rdP (d : Ld) (r : Nat → rS) : Prop := ∀ i, r i = runR (pgP d i (inX d (dWn d) (dWv d) r i))
def rdT (d : Ld) (r : Nat → rS) : Prop := ∀ i, r i = runR (pgT d i (inX d (dTn d) (dTv d) r i))
theorem rdP_ex (d : Ld) : ∃ r, rdP d r := rdG_ex (F := fun i r => runR (pgP d i (inX d (dWn d) (dWv d) r i))) (fun i r1 r2 h => by
  show runR (pgP d i (inX d (dWn d) (dWv d) r1 i)) = runR (pgP d i (inX d (dWn d) (dWv d) r2 i))
  rw [inX_cg h])
theorem rdT_ex (d : Ld) : ∃ r, rdT d r := rdG_ex (F := fun i r => runR (pgT d i (inX d (dTn d) (dTv d) r i))) (fun i r1 r2 h => by
  show runR (pgT d i (inX d (dTn d) (dTv d) r1 i)) = runR (pgT d i (inX d (dTn d) (dTv d) r2 i))
  rw [inX_cg h])
theorem os12 {p : rP} (h : 0 < pNl p) : rOs (runR p) ≤ 12 := (run_ok 150 rs0 (rs0_ok h)).2.2.1
theorem inX_12 {n : Nat} {d : Ld} (hd : dOk n d) {on : Nat → Nat} {ov : Nat → Nat → Int32} {r : Nat → rS} {i : Nat} (hi : i < n) (h1 : ∀ q, q < n → on q ≤ 12) (h2 : ∀ q, q < n → rOs (r q) ≤ 12) : (inX d on ov r i).1 ≤ 12 := by
  obtain ⟨-, hd⟩ := hd
  obtain ⟨-, -, a3, -, -, a6, -⟩ := hd i hi
  unfold inX
  by_cases c : dSv d i = 0
  · rw [if_pos c]
    exact a3
  · rw [if_neg c]
    by_cases e : dSv d i ≤ i
    · rw [if_pos e]
      exact h2 _ (by omega)
    · rw [if_neg e]
      exact h1 _ (by omega)
theorem rdP_12 {n : Nat} {d : Ld} (hd : dOk n d) {r : Nat → rS} (h : rdP d r) {q : Nat} (hq : q < n) : rOs (r q) ≤ 12 := by
  rw [h q]
  exact os12 (hd.2 q hq).1
theorem rdT_12 {n : Nat} {d : Ld} (hd : dOk n d) {r : Nat → rS} (h : rdT d r) {q : Nat} (hq : q < n) : rOs (r q) ≤ 12 := by
  rw [h q]
  exact os12 (hd.2 q hq).1
theorem pgP_ok {n : Nat} {d : Ld} (hd : dOk n d) {r : Nat → rS} (h : rdP d r) {i : Nat} (hi : i < n) : pOk (pgP d i (inX d (dWn d) (dWv d) r i)) :=
  ⟨(hd.2 i hi).1, (hd.2 i hi).2.1, inX_12 hd hi (fun q hq => (hd.2 q hq).2.2.2.1) (fun q hq => rdP_12 hd h hq), (hd.2 i hi).2.2.2.2.2.2.2⟩
theorem pgT_ok {n : Nat} {d : Ld} (hd : dOk n d) {r : Nat → rS} (h : rdT d r) {i : Nat} (hi : i < n) : pOk (pgT d i (inX d (dTn d) (dTv d) r i)) :=
  ⟨(hd.2 i hi).1, (hd.2 i hi).2.1, inX_12 hd hi (fun q hq => (hd.2 q hq).2.2.2.2.1) (fun q hq => rdT_12 hd h hq), (hd.2 i hi).2.2.2.2.2.2.2⟩
/-- is a program wrong; what that comes to -/
def wrg (rp rt : Nat → rS) (i : Nat) : Bool := !(decide (rEn (rp i) = rEn (rt i)) && lkB (rOs (rp i)) (rOv (rp i)) (rOs (rt i)) (rOv (rt i)))
def hrm (d : Ld) (rp rt : Nat → rS) : Nat → Int32
  | 0 => 0
  | i + 1 => if wrg rp rt i = true then x_bin 0 (hrm d rp rt i) (dWt d i) else hrm d rp rt i
theorem hrm_y {d : Ld} {rp rt : Nat → rS} {i : Nat} (h : wrg rp rt i = true) : hrm d rp rt (i + 1) = x_bin 0 (hrm d rp rt i) (dWt d i) := if_pos h
theorem hrm_n {d : Ld} {rp rt : Nat → rS} {i : Nat} (h : ¬ wrg rp rt i = true) : hrm d rp rt (i + 1) = hrm d rp rt i := if_neg h
theorem wrg_e {rp rt : Nat → rS} {i : Nat} (h : ¬ rEn (rp i) = rEn (rt i)) : wrg rp rt i = true := by
  unfold wrg
  rw [decide_eq_false h]
  rfl
theorem wrg_l {rp rt : Nat → rS} {i : Nat} (h : rEn (rp i) = rEn (rt i)) (h2 : ¬ lkB (rOs (rp i)) (rOv (rp i)) (rOs (rt i)) (rOv (rt i)) = true) : wrg rp rt i = true := by
  unfold wrg
  rw [decide_eq_true h, Bool.eq_false_iff.mpr h2]
  rfl
theorem wrg_n {rp rt : Nat → rS} {i : Nat} (h : rEn (rp i) = rEn (rt i)) (h2 : lkB (rOs (rp i)) (rOv (rp i)) (rOs (rt i)) (rOv (rt i)) = true) : ¬ wrg rp rt i = true := by
  unfold wrg
  rw [decide_eq_true h, h2]
  decide
end XN33
