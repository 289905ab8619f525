/-! p33 by hand, 52. -/
noncomputable section XH33_52
variable {ot : XO Int32} {dp : Nat} {H H0 : List (XC Int32)}
theorem t220_l {n : Nat} {d : Ld} {A FR TR : Nat → Nat} {WL : List Nat} {rp rt : Nat → rS} {Hs : List (XC Int32)} {gz : List (XV Int32)} {col : Nat → Nat} (hd : dOk n d) (hL : Hs.length ≤ 1000000) (hS : mSt n d A FR TR WL gz Hs) (hN : mNe A FR TR WL col) (hrp : rdP d rp) (hrt : rdT d rt) : ∀ (k i : Nat) (H : List (XC Int32)) (L : List (Nat × XV Int32)), i + k = n → mPh n d A FR TR WL rp rt gz Hs H i → x_lk L 0 = some (.inr (some (A 0))) → x_lk L 1 = some (.inl ((dYr d))) → x_lk L 2 = some (.inl (nI (0))) → x_lk L 3 = some (.inl (nI (0))) → x_lk L 4 = some (.inl (nI (0))) → x_lk L 5 = some (.inl ((hrm d rp rt i))) → x_lk L 6 = some (.inl (nI (i))) → ∃ H2, x_To x_tb x_tyl ot (dp + 6) 220 6 L [] H 0 0 (some (.inl (hrm d rp rt n))) H2 ∧ mPh n d A FR TR WL rp rt gz Hs H2 n := by
  have hd12 := hd.1
  intro k
  induction k with
  | zero =>
    intro i H L hi hP l0 l1 l2 l3 l4 l5 l6
    obtain rfl : n = i := by omega
    have hlen := hP.2.1
    obtain ⟨gs, hb, h9⟩ := hP.2.2.1
    have g0 := (h9.2 0 (by decide)).trans hS.2.1.1
    have g7 := (h9.2 7 (by decide)).trans hS.2.1.2
    have z0 := lt_of hb (by omega)
    have hA0 : ¬ 1000000 < A 0 := by omega
    refine ⟨H, ?_, hP⟩
    refine xT_iload g_q220 g220_6 (l6) ?_
    refine xT_aload_n g_q220 g220_8 (l0) ?_
    refine xT_getfield g_q220 g220_9 hA0 rfl hb rfl g0 ?_
    refine xT_if_icmpY g_q220 g220_12 (t := 179) (by decide) (c3Y (a := n) (b := n) (Nat.le_refl _) (by omega) (by omega)) ?_
    refine xT_iload g_q220 g220_179 (l5) ?_
    exact xT_ireturn g_q220 g220_181 (rfl)
  | succ k ih =>
    intro i H L hi hP l0 l1 l2 l3 l4 l5 l6
    have hin : i < n := by omega
    have hlen := hP.2.1
    obtain ⟨gs, hb, h9⟩ := hP.2.2.1
    have g0 := (h9.2 0 (by decide)).trans hS.2.1.1
    have g7 := (h9.2 7 (by decide)).trans hS.2.1.2
    have z0 := lt_of hb (by omega)
    have hA0 : ¬ 1000000 < A 0 := by omega
    obtain ⟨G, y1_, hP2⟩ := t202 (ot := ot) (dp := dp) hd hL hS hN hrp hrt hP hin
    obtain ⟨gs2, hb2, h92⟩ := hP2.2.2.1
    have g02 := (h92.2 0 (by decide)).trans hS.2.1.1
    have g72 := (h92.2 7 (by decide)).trans hS.2.1.2
    obtain ⟨-, -, -, -, -, -, -, ⟨hwg0, lwg, cwg, nwg, ewg⟩⟩ := hS.2.2.2.2 i hin
    have hwg2 := hP2.1 _ _ cwg
    by_cases cw : wrg rp rt i = true
    · skip
      have eh := hrm_y (d := d) cw
      have y2_ : x_To x_tb x_tyl ot (dp + 5) 202 0 (x_en 0 [.inr (some (A 0)), .inl (nI (i)), .inl ((dYr d))]) [] H 0 0 (some (.inl (nI 1))) G := by
        rw [if_pos cw] at y1_
        exact y1_
      obtain ⟨H3, x3, x4⟩ := ih (i + 1) G (x_st (x_st (x_st (L) 7 (.inl (nI (1)))) 5 (.inl ((x_bin 0 (hrm d rp rt i) (dWt d i))))) 6 (.inl (nI (i + 1)))) (by omega) hP2 (lkN (by decide) (lkN (by decide) (lkN (by decide) (l0)))) (lkN (by decide) (lkN (by decide) (lkN (by decide) (l1)))) (lkN (by decide) (lkN (by decide) (lkN (by decide) (l2)))) (lkN (by decide) (lkN (by decide) (lkN (by decide) (l3)))) (lkN (by decide) (lkN (by decide) (lkN (by decide) (l4)))) (by rw [eh]; exact (lkN (by decide) (lkY))) (lkY)
      refine ⟨H3, ?_, x4⟩
      refine xT_iload g_q220 g220_6 (l6) ?_
      refine xT_aload_n g_q220 g220_8 (l0) ?_
      refine xT_getfield g_q220 g220_9 hA0 rfl hb rfl g0 ?_
      refine xT_if_icmpN g_q220 g220_12 (t := 179) (by decide) (c3N (a := i) (b := n) (by omega) (by omega) (by omega)) ?_
      refine xT_iload_n g_q220 g220_15 (l3) ?_
      refine xT_ifCondY g_q220 g220_16 (t := 82) (by decide) (c0Y (a := 0) (b := 0) rfl) ?_
      refine xT_aload_n g_q220 g220_82 (l0) ?_
      refine xT_iload g_q220 g220_83 (l6) ?_
      refine xT_iload_n g_q220 g220_85 (l1) ?_
      refine xT_invokevirtual (r := []) (u := some (.inl (nI (1)))) g_q220 g220_86 (j := 202) (so := 0) (by decide +kernel) g_q202 rfl (by rw [x_rcM hA0 hb]; rfl) (y2_) ?_
      refine xT_istore g_q220 g220_89 (by decide) ?_
      refine xT_iload_n g_q220 g220_91 (lkN (by decide) (l2)) ?_
      refine xT_iload g_q220 g220_92 (lkN (by decide) (l6)) ?_
      refine xT_ishrV (y := nI (0)) g_q220 g220_94 (sh0 i (by omega)) ?_
      refine xT_icV (y := nI (1)) g_q220 g220_95 (by decide) ?_
      refine xT_iandV (y := nI (0)) g_q220 g220_96 (by decide) ?_
      refine xT_icV (y := nI (1)) g_q220 g220_97 (by decide) ?_
      refine xT_if_icmpY g_q220 g220_98 (t := 139) (by decide) (c1Y (a := 0) (b := 1) (by omega) (by omega) (by omega)) ?_
      refine xT_iload g_q220 g220_139 (lkN (by decide) (l4)) ?_
      refine xT_ifCondY g_q220 g220_141 (t := 152) (by decide) (c0Y (a := 0) (b := 0) rfl) ?_
      refine xT_iload g_q220 g220_152 (lkN (by decide) (l5)) ?_
      refine xT_iload g_q220 g220_154 (lkY) ?_
      refine xT_ifCondN g_q220 g220_156 (t := 169) (by decide) (c0N (a := 1) (b := 0) (by omega) (by omega) (by omega)) ?_
      refine xT_aload_n g_q220 g220_159 (lkN (by decide) (l0)) ?_
      refine xT_getfield g_q220 g220_160 hA0 rfl hb2 rfl g72 ?_
      refine xT_iload g_q220 g220_163 (lkN (by decide) (l6)) ?_
      refine xT_iaload g_q220 g220_165 hwg0 hwg2 (ixN (n := 12) (by omega) nwg) (ixG (by omega) ewg) ?_
      refine xT_goto g_q220 g220_166 (t := 170) (by decide) ?_
      refine xT_iaddV (y := (x_bin 0 (hrm d rp rt i) (dWt d i))) g_q220 g220_170 (rfl) ?_
      refine xT_istore g_q220 g220_171 (by decide) ?_
      refine xT_iincV (y := nI (i + 1)) g_q220 g220_173 (lkN (by decide) (lkN (by decide) (l6))) (by decide) (bIncN _) ?_
      refine xT_goto g_q220 g220_176 (t := 6) (by decide) ?_
      exact x3
    · skip
      have eh := hrm_n (d := d) cw
      have y2_ : x_To x_tb x_tyl ot (dp + 5) 202 0 (x_en 0 [.inr (some (A 0)), .inl (nI (i)), .inl ((dYr d))]) [] H 0 0 (some (.inl (nI 0))) G := by
        rw [if_neg cw] at y1_
        exact y1_
      obtain ⟨H3, x3, x4⟩ := ih (i + 1) G (x_st (x_st (x_st (L) 7 (.inl (nI (0)))) 5 (.inl ((hrm d rp rt i)))) 6 (.inl (nI (i + 1)))) (by omega) hP2 (lkN (by decide) (lkN (by decide) (lkN (by decide) (l0)))) (lkN (by decide) (lkN (by decide) (lkN (by decide) (l1)))) (lkN (by decide) (lkN (by decide) (lkN (by decide) (l2)))) (lkN (by decide) (lkN (by decide) (lkN (by decide) (l3)))) (lkN (by decide) (lkN (by decide) (lkN (by decide) (l4)))) (by rw [eh]; exact (lkN (by decide) (lkY))) (lkY)
      refine ⟨H3, ?_, x4⟩
      refine xT_iload g_q220 g220_6 (l6) ?_
      refine xT_aload_n g_q220 g220_8 (l0) ?_
      refine xT_getfield g_q220 g220_9 hA0 rfl hb rfl g0 ?_
      refine xT_if_icmpN g_q220 g220_12 (t := 179) (by decide) (c3N (a := i) (b := n) (by omega) (by omega) (by omega)) ?_
      refine xT_iload_n g_q220 g220_15 (l3) ?_
      refine xT_ifCondY g_q220 g220_16 (t := 82) (by decide) (c0Y (a := 0) (b := 0) rfl) ?_
      refine xT_aload_n g_q220 g220_82 (l0) ?_
      refine xT_iload g_q220 g220_83 (l6) ?_
      refine xT_iload_n g_q220 g220_85 (l1) ?_
      refine xT_invokevirtual (r := []) (u := some (.inl (nI (0)))) g_q220 g220_86 (j := 202) (so := 0) (by decide +kernel) g_q202 rfl (by rw [x_rcM hA0 hb]; rfl) (y2_) ?_
      refine xT_istore g_q220 g220_89 (by decide) ?_
      refine xT_iload_n g_q220 g220_91 (lkN (by decide) (l2)) ?_
      refine xT_iload g_q220 g220_92 (lkN (by decide) (l6)) ?_
      refine xT_ishrV (y := nI (0)) g_q220 g220_94 (sh0 i (by omega)) ?_
      refine xT_icV (y := nI (1)) g_q220 g220_95 (by decide) ?_
      refine xT_iandV (y := nI (0)) g_q220 g220_96 (by decide) ?_
      refine xT_icV (y := nI (1)) g_q220 g220_97 (by decide) ?_
      refine xT_if_icmpY g_q220 g220_98 (t := 139) (by decide) (c1Y (a := 0) (b := 1) (by omega) (by omega) (by omega)) ?_
      refine xT_iload g_q220 g220_139 (lkN (by decide) (l4)) ?_
      refine xT_ifCondY g_q220 g220_141 (t := 152) (by decide) (c0Y (a := 0) (b := 0) rfl) ?_
      refine xT_iload g_q220 g220_152 (lkN (by decide) (l5)) ?_
      refine xT_iload g_q220 g220_154 (lkY) ?_
      refine xT_ifCondY g_q220 g220_156 (t := 169) (by decide) (c0Y (a := 0) (b := 0) rfl) ?_
      refine xT_icV (y := nI (0)) g_q220 g220_169 (by decide) ?_
      refine xT_iaddV (y := (hrm d rp rt i)) g_q220 g220_170 (Int32.add_zero _) ?_
      refine xT_istore g_q220 g220_171 (by decide) ?_
      refine xT_iincV (y := nI (i + 1)) g_q220 g220_173 (lkN (by decide) (lkN (by decide) (l6))) (by decide) (bIncN _) ?_
      refine xT_goto g_q220 g220_176 (t := 6) (by decide) ?_
      exact x3
end XH33_52
