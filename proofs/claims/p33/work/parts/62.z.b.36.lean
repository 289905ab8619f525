/-! p33 by hand, 35. -/
noncomputable section XH33_35
variable {ot : XO Int32} {dp : Nat} {H H0 : List (XC Int32)}
theorem t203 {b F0 F1 ln cd ip sh shs fi fz tw tz fo pc tk dn en wo ws la W0 W1 q : Nat} {p0 p1 : rP} {f0 f1 w0 w1 : List (XV Int32)} {a0 a1 b0 b1 c0 c1 d0 d1 e0 e1 h0 h1 : Int32} (hl0 : f0.length = 6) (hl1 : f1.length = 6) (hm0 : w0.length = 12) (hm1 : w1.length = 12) (hW0 : wLf w0) (hW1 : wLf w1) (hA0 : ¬ 1000000 < b) (hN1 : ¬ F0 = 1000000) (hN2 : ¬ F1 = 1000000) (hN3 : ¬ pc = 1000000) (hN4 : ¬ tk = 1000000) (hN5 : ¬ dn = 1000000) (hN6 : ¬ en = 1000000) (hN7 : ¬ W0 = 1000000) (hN8 : ¬ W1 = 1000000) (hN9 : ¬ ws = 1000000) (hN10 : ¬ la = 1000000) (hfo : rQ H0 [b, F0, F1, pc, tk, dn, en, W0, W1, ws, la] fo 5 2 0 F0 ∧ rQ H0 [b, F0, F1, pc, tk, dn, en, W0, W1, ws, la] fo 5 2 1 F1) (hwo : rQ H0 [b, F0, F1, pc, tk, dn, en, W0, W1, ws, la] wo 5 2 0 W0 ∧ rQ H0 [b, F0, F1, pc, tk, dn, en, W0, W1, ws, la] wo 5 2 1 W1) {gz : List (XV Int32)} (hGz : rG gz ln cd ip sh shs fi fz tw tz fo pc tk dn en wo ws la) (hq : q < 12) (hC0 : rC H0 [b, F0, F1, pc, tk, dn, en, W0, W1, ws, la] ln cd q p0) (hC1 : rC H0 [b, F0, F1, pc, tk, dn, en, W0, W1, ws, la] ln cd q p1) (hTz0 : rT H0 [b, F0, F1, pc, tk, dn, en, W0, W1, ws, la] gz q 0 p0) (hTz1 : rT H0 [b, F0, F1, pc, tk, dn, en, W0, W1, ws, la] gz q 1 p1) (hN0_ : rN H0 [b, F0, F1, pc, tk, dn, en, W0, W1, ws, la] ip sh shs fi fz q p0) (hN1_ : rN H0 [b, F0, F1, pc, tk, dn, en, W0, W1, ws, la] ip sh shs tw tz q p1) (hok0 : pOk p0) (hok1 : pOk p1) (hy : pYr p0 = pYr p1) (h : hm H0 H [b, F0, F1, pc, tk, dn, en, W0, W1, ws, la] [.inl (12, gz), .inr (0, f0), .inr (0, f1), .inr (0, [.inl (a0), .inl (a1)]), .inr (0, [.inl (b0), .inl (b1)]), .inr (0, [.inl (c0), .inl (c1)]), .inr (0, [.inl (d0), .inl (d1)]), .inr (0, w0), .inr (0, w1), .inr (0, [.inl (e0), .inl (e1)]), .inr (0, [.inl (h0), .inl (h1)])]) : ∃ H2 gs2, x_To x_tb x_tyl ot (dp + 4) 203 0 (x_en 0 [.inr (some b), .inl (nI q), .inl (pYr p0)]) [] H 0 0 none H2 ∧ rS9 gs2 gz ∧ rM H0 H2 b F0 F1 pc tk dn en W0 W1 ws la gs2 (runR p0) (runR p1) := by
  have g58z : 58 < gz.length := by
    obtain ⟨-, -, -, -, -, -, -, -, -, -, -, -, -, -, -, -, -, g58⟩ := id hGz
    exact g58
  obtain ⟨G1, y1_, hb1⟩ := t204_0 (dp := dp + 3) (ot := ot) hA0 hN1 hN2 hN3 hN4 hN5 hN6 hN7 hN8 hN9 hN10 hl0 hl1 hm0 hm1 hGz hfo hwo h
  obtain ⟨G2, y2_, hb2⟩ := t204_1 (dp := dp + 3) (ot := ot) hA0 hN1 hN2 hN3 hN4 hN5 hN6 hN7 hN8 hN9 hN10 (by rw [List.length_set, List.length_set, List.length_set, List.length_set, List.length_set, List.length_set]; exact hl0) hl1 hm0 hm1 hGz hfo hwo hb1
  have hM : rM H0 (G2.set b (.inl (12, gz.set 58 (.inl (-1))))) b F0 F1 pc tk dn en W0 W1 ws la (gz.set 58 (.inl (-1))) rs0 rs0 := rM_parts ⟨_, _, w0, w1, nI 0, nI 0, _, _, hb2, fun _ => rfl, fun _ => rfl, by rw [List.length_set, List.length_set, List.length_set, List.length_set, List.length_set, List.length_set]; exact hl0, by rw [List.length_set, List.length_set, List.length_set, List.length_set, List.length_set, List.length_set]; exact hl1, hW0, hW1, six_0 hl0, six_0 hl1, fun k hk => absurd hk (Nat.not_lt_zero _), fun k hk => absurd hk (Nat.not_lt_zero _)⟩
  obtain ⟨H3, gs3, x3, x4, x5⟩ := t203_l (dp := dp) (ot := ot) hA0 hN1 hN2 hN3 hN4 hN5 hN6 hN7 hN8 hN9 hN10 hfo hwo hGz hq hC0 hC1 hTz0 hTz1 hN0_ hN1_ hok0 hok1 hy 300 1 rs0 rs0 (gz.set 58 (.inl (-1))) _ (x_st ((x_en 0 [.inr (some b), .inl (nI q), .inl (pYr p0)])) 3 (.inl (nI (1)))) (by decide) (rs0_ok hok0.1) (rs0_ok hok1.1) (Or.inl rfl) (Or.inl rfl) (by decide) (fun _ => rfl) (rS9_set ⟨rfl, fun _ _ => rfl⟩) hM (lkN (by decide) (rfl)) (lkN (by decide) (rfl)) (lkN (by decide) (rfl)) (lkY)
  refine ⟨H3, gs3, ?_, x4, x5⟩
  refine xT_aload_n g_q203 g203_0 (rfl) ?_
  refine xT_icV (y := nI (0)) g_q203 g203_1 (by decide) ?_
  refine xT_invokevirtual (r := []) (u := none) g_q203 g203_2 (j := 204) (so := 0) (by decide +kernel) g_q204 rfl (by rw [x_rcM hA0 (hm_at h (i := 0) rfl rfl)]; rfl) (y1_) ?_
  refine xT_aload_n g_q203 g203_5 (rfl) ?_
  refine xT_icV (y := nI (1)) g_q203 g203_6 (by decide) ?_
  refine xT_invokevirtual (r := []) (u := none) g_q203 g203_7 (j := 204) (so := 0) (by decide +kernel) g_q204 rfl (by rw [x_rcM hA0 (hm_at hb1 (i := 0) rfl rfl)]; rfl) (y2_) ?_
  refine xT_aload_n g_q203 g203_10 (rfl) ?_
  refine xT_icV (y := -1) g_q203 g203_11 (by decide) ?_
  refine xT_putfield g_q203 g203_12 (ci := 12) (j := 58) rfl (hm_at hb2 (i := 0) rfl rfl) rfl (by rw [decide_eq_true (show 58 < gz.length from g58z)]; rfl) ?_
  refine xT_icV (y := nI (1)) g_q203 g203_15 (by decide) ?_
  refine xT_istore_n g_q203 g203_16 (by decide) ?_
  exact x3
end XH33_35
