/-! p33 by hand, 18. -/
noncomputable section XH33_18
variable {ot : XO Int32} {dp : Nat} {H H0 : List (XC Int32)}
theorem t116_l {R nu ob oi sp co se inp : Nat} {p : rP} (hA0 : ¬ 1000000 < R) (hA2 : ¬ 1000000 < ob) (hN1 : ¬ nu = 1000000) (hN3 : ¬ oi = 1000000) (hC : cC H0 [R, nu, ob, oi] co p) (hS : cS H0 [R, nu, ob, oi] se p) (hI : cI H0 [R, nu, ob, oi] inp p) (hok : pOk p) : ∀ (k n : Nat) (s : rS) (H : List (XC Int32)) (L : List (Nat × XV Int32)), n + k = 150 → rOk p s → cN H0 H R nu ob oi sp co se inp p s → x_lk L 0 = some (.inr (some (R))) → x_lk L 1 = some (.inl (nI (n))) → ∃ H2, x_To x_tb x_tyl ot (dp + 4) 116 2 L [] H 0 0 (some (.inl (rEn (runM p k s)))) H2 ∧ cN H0 H2 R nu ob oi sp co se inp p (runM p k s) := by
  intro k
  induction k with
  | zero =>
    intro n s H L hn hs hN l0 l1
    obtain rfl : n = 150 := by omega
    obtain ⟨nf, of, ln, hw, lw, h, hl, hnl, hnf, hol, hof⟩ := id hN
    refine ⟨H, ?_, hN⟩
    rw [show runM p 0 s = s from rfl]
    refine xT_iload_n g_q116 g116_2 (l1) ?_
    refine xT_siV (y := nI (150)) g_q116 g116_3 (by decide) ?_
    refine xT_if_icmpY g_q116 g116_6 (t := 26) (by decide) (c3Y (a := 150) (b := 150) (by omega) (by omega) (by omega)) ?_
    refine xT_aload_n g_q116 g116_26 (l0) ?_
    refine xT_getfield g_q116 g116_27 hA0 rfl (hm_at h (i := 0) rfl rfl) rfl rfl ?_
    exact xT_ireturn g_q116 g116_30 (rfl)
  | succ k ih =>
    intro n s H L hn hs hN l0 l1
    obtain ⟨nf, of, ln, hw, lw, h, hl, hnl, hnf, hol, hof⟩ := id hN
    by_cases hr : rEn s = -1
    · rw [show runM p (k + 1) s = runM p k (stM p s) from if_pos hr]
      obtain ⟨H1, y, hM1⟩ := t69 (dp := dp) (ot := ot) hA0 hA2 hN1 hN3 hC hS hI hok hs hr hN
      obtain ⟨H2, y2, hN2⟩ := ih (n + 1) (stM p s) H1 (x_st (L) 1 (.inl (nI (n + 1)))) (by omega) (stM_ok hs hr) hM1 (lkN (by decide) (l0)) (lkY)
      refine ⟨H2, ?_, hN2⟩
      rw [hr] at h
      refine xT_iload_n g_q116 g116_2 (l1) ?_
      refine xT_siV (y := nI (150)) g_q116 g116_3 (by decide) ?_
      refine xT_if_icmpN g_q116 g116_6 (t := 26) (by decide) (c3N (a := n) (b := 150) (by omega) (by omega) (by omega)) ?_
      refine xT_aload_n g_q116 g116_9 (l0) ?_
      refine xT_invokevirtual (r := []) (u := some (.inl (nI (0)))) g_q116 g116_10 (j := 68) (so := 0) (by decide +kernel) g_q68 rfl (by rw [x_rcM hA0 (hm_at h (i := 0) rfl rfl)]; rfl) (t68r hA0 hA2 h) ?_
      refine xT_ifCondN g_q116 g116_13 (t := 26) (by decide) (c1N (b := 0) rfl) ?_
      refine xT_aload_n g_q116 g116_16 (l0) ?_
      refine xT_invokevirtual (r := []) (u := none) g_q116 g116_17 (j := 69) (so := 0) (by decide +kernel) g_q69 rfl (by rw [x_rcM hA0 (hm_at h (i := 0) rfl rfl)]; rfl) (y) ?_
      refine xT_iincV (y := nI (n + 1)) g_q116 g116_20 (l1) (by decide) (bIncN _) ?_
      refine xT_goto g_q116 g116_23 (t := 2) (by decide) ?_
      exact y2
    · rw [show runM p (k + 1) s = s from if_neg hr]
      refine ⟨H, ?_, hN⟩
      refine xT_iload_n g_q116 g116_2 (l1) ?_
      refine xT_siV (y := nI (150)) g_q116 g116_3 (by decide) ?_
      refine xT_if_icmpN g_q116 g116_6 (t := 26) (by decide) (c3N (a := n) (b := 150) (by omega) (by omega) (by omega)) ?_
      refine xT_aload_n g_q116 g116_9 (l0) ?_
      refine xT_invokevirtual (r := []) (u := some (.inl (nI (1)))) g_q116 g116_10 (j := 68) (so := 0) (by decide +kernel) g_q68 rfl (by rw [x_rcM hA0 (hm_at h (i := 0) rfl rfl)]; rfl) (t68o hA0 hA2 h hr) ?_
      refine xT_ifCondY g_q116 g116_13 (t := 26) (by decide) (c1Y (a := 1) (b := 0) (by omega) (by omega) (by omega)) ?_
      refine xT_aload_n g_q116 g116_26 (l0) ?_
      refine xT_getfield g_q116 g116_27 hA0 rfl (hm_at h (i := 0) rfl rfl) rfl rfl ?_
      exact xT_ireturn g_q116 g116_30 (rfl)
theorem t116 {R nu ob oi sp co se inp : Nat} {p : rP} (hA0 : ¬ 1000000 < R) (hA2 : ¬ 1000000 < ob) (hN1 : ¬ nu = 1000000) (hN3 : ¬ oi = 1000000) (hC : cC H0 [R, nu, ob, oi] co p) (hS : cS H0 [R, nu, ob, oi] se p) (hI : cI H0 [R, nu, ob, oi] inp p) (hok : pOk p) (hN : cN H0 H R nu ob oi sp co se inp p rs0) : ∃ H2, x_To x_tb x_tyl ot (dp + 4) 116 0 (x_en 0 [.inr (some (R))]) [] H 0 0 (some (.inl (rEn (runR p)))) H2 ∧ cN H0 H2 R nu ob oi sp co se inp p (runR p) := by
  obtain ⟨H2, y, hN2⟩ := t116_l (dp := dp) (ot := ot) hA0 hA2 hN1 hN3 hC hS hI hok 150 0 rs0 H (x_st (x_en 0 [.inr (some (R))]) 1 (.inl (nI (0)))) rfl (rs0_ok hok.1) hN (lkN (by decide) rfl) lkY
  refine ⟨H2, ?_, hN2⟩
  refine xT_icV (y := nI (0)) g_q116 g116_0 (by decide) ?_
  refine xT_istore_n g_q116 g116_1 (by decide) ?_
  exact y
end XH33_18
