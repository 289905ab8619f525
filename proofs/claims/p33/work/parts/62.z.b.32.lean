/-! p33 by hand, 31. -/
noncomputable section XH33_31
variable {ot : XO Int32} {dp : Nat} {H H0 : List (XC Int32)}
/-- do the two runs part: whatever comes of it, they stand alike where they don't -/
theorem t203_a {b F0 F1 ln cd ip sh shs fi fz tw tz fo pc tk dn en wo ws la W0 W1 q : Nat} {gs f0 f1 w0 w1 : List (XV Int32)} {a0 a1 b0 b1 c0 c1 d0 d1 e0 e1 h0 h1 : Int32} (hA0 : ¬ 1000000 < b) (hN1 : ¬ F0 = 1000000) (hN2 : ¬ F1 = 1000000) (hN3 : ¬ pc = 1000000) (hN4 : ¬ tk = 1000000) (hN5 : ¬ dn = 1000000) (hN6 : ¬ en = 1000000) (hN7 : ¬ W0 = 1000000) (hN8 : ¬ W1 = 1000000) (hN9 : ¬ ws = 1000000) (hN10 : ¬ la = 1000000) (hl0 : f0.length = 6) (hl1 : f1.length = 6) (hm0 : w0.length = 12) (hm1 : w1.length = 12) (hG : rG gs ln cd ip sh shs fi fz tw tz fo pc tk dn en wo ws la) (hfo : rQ H0 [b, F0, F1, pc, tk, dn, en, W0, W1, ws, la] fo 5 2 0 F0 ∧ rQ H0 [b, F0, F1, pc, tk, dn, en, W0, W1, ws, la] fo 5 2 1 F1) (hwo : rQ H0 [b, F0, F1, pc, tk, dn, en, W0, W1, ws, la] wo 5 2 0 W0 ∧ rQ H0 [b, F0, F1, pc, tk, dn, en, W0, W1, ws, la] wo 5 2 1 W1) (h : hm H0 H [b, F0, F1, pc, tk, dn, en, W0, W1, ws, la] [.inl (12, gs), .inr (0, f0), .inr (0, f1), .inr (0, [.inl (a0), .inl (a1)]), .inr (0, [.inl (b0), .inl (b1)]), .inr (0, [.inl (c0), .inl (c1)]), .inr (0, [.inl (d0), .inl (d1)]), .inr (0, w0), .inr (0, w1), .inr (0, [.inl (e0), .inl (e1)]), .inr (0, [.inl (h0), .inl (h1)])]) {yr : Int32} {tg at0 o : Nat} (ho : o ≤ 1) : ∃ r : Nat, r ≤ 1 ∧ (r = 0 → d0 = d1) ∧ ∀ (L : List (Nat × XV Int32)) (v : Option (XV Int32)) (H2 : List (XC Int32)), x_lk L 0 = some (.inr (some (b))) → x_lk L 1 = some (.inl (nI (q))) → x_lk L 2 = some (.inl (yr)) → x_lk L 3 = some (.inl (nI (tg))) → x_lk L 4 = some (.inl (nI (at0))) → x_lk L 5 = some (.inl (nI (o))) → x_To x_tb x_tyl ot dp 203 157 L [.inl (nI r)] H 0 0 v H2 → x_To x_tb x_tyl ot dp 203 83 L [] H 0 0 v H2 := by
  obtain ⟨g1, g2, g6, g11, g12, g13, g14, g15, g16, g50, g51, g52, g53, g54, g55, g56, g57, g58⟩ := id hG
  by_cases q1 : d0 = d1
  rotate_left
  · refine ⟨1, Nat.le_refl _, fun z => absurd z (by decide), fun L v H2 l0 l1 l2 l3 l4 l5 hk => ?_⟩
    refine xT_aload_n g_q203 g203_83 (l0) ?_
    refine xT_getfield g_q203 g203_84 hA0 rfl (hm_at h (i := 0) rfl rfl) rfl g54 ?_
    refine xT_icV (y := nI (0)) g_q203 g203_87 (by decide) ?_
    refine xT_iaload g_q203 g203_88 hN6 (hm_at h (i := 6) rfl rfl) (ixN (n := 2) (by decide) rfl) (ixG (by decide) rfl) ?_
    refine xT_aload_n g_q203 g203_89 (l0) ?_
    refine xT_getfield g_q203 g203_90 hA0 rfl (hm_at h (i := 0) rfl rfl) rfl g54 ?_
    refine xT_icV (y := nI (1)) g_q203 g203_93 (by decide) ?_
    refine xT_iaload g_q203 g203_94 hN6 (hm_at h (i := 6) rfl rfl) (ixN (n := 2) (by decide) rfl) (ixG (by decide) rfl) ?_
    refine xT_if_icmpY g_q203 g203_95 (t := 152) (by decide) (decide_eq_true q1) ?_
    refine xT_icV (y := nI (1)) g_q203 g203_152 (by decide) ?_
    refine xT_goto g_q203 g203_153 (t := 157) (by decide) ?_
    exact hk
  by_cases q2 : d0 < 0
  rotate_left
  · have q2n : (0 : Int32) ≤ d0 := Int32.not_lt.mp q2
    rcases (show o = 0 ∨ o = 1 by omega) with rfl | rfl
    · refine ⟨0, by decide, fun _ => q1, fun L v H2 l0 l1 l2 l3 l4 l5 hk => ?_⟩
      refine xT_aload_n g_q203 g203_83 (l0) ?_
      refine xT_getfield g_q203 g203_84 hA0 rfl (hm_at h (i := 0) rfl rfl) rfl g54 ?_
      refine xT_icV (y := nI (0)) g_q203 g203_87 (by decide) ?_
      refine xT_iaload g_q203 g203_88 hN6 (hm_at h (i := 6) rfl rfl) (ixN (n := 2) (by decide) rfl) (ixG (by decide) rfl) ?_
      refine xT_aload_n g_q203 g203_89 (l0) ?_
      refine xT_getfield g_q203 g203_90 hA0 rfl (hm_at h (i := 0) rfl rfl) rfl g54 ?_
      refine xT_icV (y := nI (1)) g_q203 g203_93 (by decide) ?_
      refine xT_iaload g_q203 g203_94 hN6 (hm_at h (i := 6) rfl rfl) (ixN (n := 2) (by decide) rfl) (ixG (by decide) rfl) ?_
      refine xT_if_icmpN g_q203 g203_95 (t := 152) (by decide) (decide_eq_false (fun z => z q1)) ?_
      refine xT_aload_n g_q203 g203_98 (l0) ?_
      refine xT_getfield g_q203 g203_99 hA0 rfl (hm_at h (i := 0) rfl rfl) rfl g54 ?_
      refine xT_icV (y := nI (0)) g_q203 g203_102 (by decide) ?_
      refine xT_iaload g_q203 g203_103 hN6 (hm_at h (i := 6) rfl rfl) (ixN (n := 2) (by decide) rfl) (ixG (by decide) rfl) ?_
      refine xT_ifCondY g_q203 g203_104 (t := 122) (by decide) (decide_eq_true q2n) ?_
      refine xT_iload g_q203 g203_122 (l5) ?_
      refine xT_ifCondY g_q203 g203_124 (t := 156) (by decide) (c0Y (a := 0) (b := 0) rfl) ?_
      refine xT_icV (y := nI (0)) g_q203 g203_156 (by decide) ?_
      exact hk
    by_cases q4 : d0 = nI 1
    · refine ⟨0, by decide, fun _ => q1, fun L v H2 l0 l1 l2 l3 l4 l5 hk => ?_⟩
      refine xT_aload_n g_q203 g203_83 (l0) ?_
      refine xT_getfield g_q203 g203_84 hA0 rfl (hm_at h (i := 0) rfl rfl) rfl g54 ?_
      refine xT_icV (y := nI (0)) g_q203 g203_87 (by decide) ?_
      refine xT_iaload g_q203 g203_88 hN6 (hm_at h (i := 6) rfl rfl) (ixN (n := 2) (by decide) rfl) (ixG (by decide) rfl) ?_
      refine xT_aload_n g_q203 g203_89 (l0) ?_
      refine xT_getfield g_q203 g203_90 hA0 rfl (hm_at h (i := 0) rfl rfl) rfl g54 ?_
      refine xT_icV (y := nI (1)) g_q203 g203_93 (by decide) ?_
      refine xT_iaload g_q203 g203_94 hN6 (hm_at h (i := 6) rfl rfl) (ixN (n := 2) (by decide) rfl) (ixG (by decide) rfl) ?_
      refine xT_if_icmpN g_q203 g203_95 (t := 152) (by decide) (decide_eq_false (fun z => z q1)) ?_
      refine xT_aload_n g_q203 g203_98 (l0) ?_
      refine xT_getfield g_q203 g203_99 hA0 rfl (hm_at h (i := 0) rfl rfl) rfl g54 ?_
      refine xT_icV (y := nI (0)) g_q203 g203_102 (by decide) ?_
      refine xT_iaload g_q203 g203_103 hN6 (hm_at h (i := 6) rfl rfl) (ixN (n := 2) (by decide) rfl) (ixG (by decide) rfl) ?_
      refine xT_ifCondY g_q203 g203_104 (t := 122) (by decide) (decide_eq_true q2n) ?_
      refine xT_iload g_q203 g203_122 (l5) ?_
      refine xT_ifCondN g_q203 g203_124 (t := 156) (by decide) (c0N (a := 1) (b := 0) (by omega) (by omega) (by omega)) ?_
      refine xT_aload_n g_q203 g203_127 (l0) ?_
      refine xT_getfield g_q203 g203_128 hA0 rfl (hm_at h (i := 0) rfl rfl) rfl g54 ?_
      refine xT_icV (y := nI (0)) g_q203 g203_131 (by decide) ?_
      refine xT_iaload g_q203 g203_132 hN6 (hm_at h (i := 6) rfl rfl) (ixN (n := 2) (by decide) rfl) (ixG (by decide) rfl) ?_
      refine xT_icV (y := nI (1)) g_q203 g203_133 (by decide) ?_
      refine xT_if_icmpY g_q203 g203_134 (t := 156) (by decide) (decide_eq_true q4) ?_
      refine xT_icV (y := nI (0)) g_q203 g203_156 (by decide) ?_
      exact hk
    by_cases q5 : h0 = h1
    · refine ⟨0, by decide, fun _ => q1, fun L v H2 l0 l1 l2 l3 l4 l5 hk => ?_⟩
      refine xT_aload_n g_q203 g203_83 (l0) ?_
      refine xT_getfield g_q203 g203_84 hA0 rfl (hm_at h (i := 0) rfl rfl) rfl g54 ?_
      refine xT_icV (y := nI (0)) g_q203 g203_87 (by decide) ?_
      refine xT_iaload g_q203 g203_88 hN6 (hm_at h (i := 6) rfl rfl) (ixN (n := 2) (by decide) rfl) (ixG (by decide) rfl) ?_
      refine xT_aload_n g_q203 g203_89 (l0) ?_
      refine xT_getfield g_q203 g203_90 hA0 rfl (hm_at h (i := 0) rfl rfl) rfl g54 ?_
      refine xT_icV (y := nI (1)) g_q203 g203_93 (by decide) ?_
      refine xT_iaload g_q203 g203_94 hN6 (hm_at h (i := 6) rfl rfl) (ixN (n := 2) (by decide) rfl) (ixG (by decide) rfl) ?_
      refine xT_if_icmpN g_q203 g203_95 (t := 152) (by decide) (decide_eq_false (fun z => z q1)) ?_
      refine xT_aload_n g_q203 g203_98 (l0) ?_
      refine xT_getfield g_q203 g203_99 hA0 rfl (hm_at h (i := 0) rfl rfl) rfl g54 ?_
      refine xT_icV (y := nI (0)) g_q203 g203_102 (by decide) ?_
      refine xT_iaload g_q203 g203_103 hN6 (hm_at h (i := 6) rfl rfl) (ixN (n := 2) (by decide) rfl) (ixG (by decide) rfl) ?_
      refine xT_ifCondY g_q203 g203_104 (t := 122) (by decide) (decide_eq_true q2n) ?_
      refine xT_iload g_q203 g203_122 (l5) ?_
      refine xT_ifCondN g_q203 g203_124 (t := 156) (by decide) (c0N (a := 1) (b := 0) (by omega) (by omega) (by omega)) ?_
      refine xT_aload_n g_q203 g203_127 (l0) ?_
      refine xT_getfield g_q203 g203_128 hA0 rfl (hm_at h (i := 0) rfl rfl) rfl g54 ?_
      refine xT_icV (y := nI (0)) g_q203 g203_131 (by decide) ?_
      refine xT_iaload g_q203 g203_132 hN6 (hm_at h (i := 6) rfl rfl) (ixN (n := 2) (by decide) rfl) (ixG (by decide) rfl) ?_
      refine xT_icV (y := nI (1)) g_q203 g203_133 (by decide) ?_
      refine xT_if_icmpN g_q203 g203_134 (t := 156) (by decide) (decide_eq_false q4) ?_
      refine xT_aload_n g_q203 g203_137 (l0) ?_
      refine xT_getfield g_q203 g203_138 hA0 rfl (hm_at h (i := 0) rfl rfl) rfl g57 ?_
      refine xT_icV (y := nI (0)) g_q203 g203_141 (by decide) ?_
      refine xT_iaload g_q203 g203_142 hN10 (hm_at h (i := 10) rfl rfl) (ixN (n := 2) (by decide) rfl) (ixG (by decide) rfl) ?_
      refine xT_aload_n g_q203 g203_143 (l0) ?_
      refine xT_getfield g_q203 g203_144 hA0 rfl (hm_at h (i := 0) rfl rfl) rfl g57 ?_
      refine xT_icV (y := nI (1)) g_q203 g203_147 (by decide) ?_
      refine xT_iaload g_q203 g203_148 hN10 (hm_at h (i := 10) rfl rfl) (ixN (n := 2) (by decide) rfl) (ixG (by decide) rfl) ?_
      refine xT_if_icmpY g_q203 g203_149 (t := 156) (by decide) (decide_eq_true q5) ?_
      refine xT_icV (y := nI (0)) g_q203 g203_156 (by decide) ?_
      exact hk
    · refine ⟨1, Nat.le_refl _, fun z => absurd z (by decide), fun L v H2 l0 l1 l2 l3 l4 l5 hk => ?_⟩
      refine xT_aload_n g_q203 g203_83 (l0) ?_
      refine xT_getfield g_q203 g203_84 hA0 rfl (hm_at h (i := 0) rfl rfl) rfl g54 ?_
      refine xT_icV (y := nI (0)) g_q203 g203_87 (by decide) ?_
      refine xT_iaload g_q203 g203_88 hN6 (hm_at h (i := 6) rfl rfl) (ixN (n := 2) (by decide) rfl) (ixG (by decide) rfl) ?_
      refine xT_aload_n g_q203 g203_89 (l0) ?_
      refine xT_getfield g_q203 g203_90 hA0 rfl (hm_at h (i := 0) rfl rfl) rfl g54 ?_
      refine xT_icV (y := nI (1)) g_q203 g203_93 (by decide) ?_
      refine xT_iaload g_q203 g203_94 hN6 (hm_at h (i := 6) rfl rfl) (ixN (n := 2) (by decide) rfl) (ixG (by decide) rfl) ?_
      refine xT_if_icmpN g_q203 g203_95 (t := 152) (by decide) (decide_eq_false (fun z => z q1)) ?_
      refine xT_aload_n g_q203 g203_98 (l0) ?_
      refine xT_getfield g_q203 g203_99 hA0 rfl (hm_at h (i := 0) rfl rfl) rfl g54 ?_
      refine xT_icV (y := nI (0)) g_q203 g203_102 (by decide) ?_
      refine xT_iaload g_q203 g203_103 hN6 (hm_at h (i := 6) rfl rfl) (ixN (n := 2) (by decide) rfl) (ixG (by decide) rfl) ?_
      refine xT_ifCondY g_q203 g203_104 (t := 122) (by decide) (decide_eq_true q2n) ?_
      refine xT_iload g_q203 g203_122 (l5) ?_
      refine xT_ifCondN g_q203 g203_124 (t := 156) (by decide) (c0N (a := 1) (b := 0) (by omega) (by omega) (by omega)) ?_
      refine xT_aload_n g_q203 g203_127 (l0) ?_
      refine xT_getfield g_q203 g203_128 hA0 rfl (hm_at h (i := 0) rfl rfl) rfl g54 ?_
      refine xT_icV (y := nI (0)) g_q203 g203_131 (by decide) ?_
      refine xT_iaload g_q203 g203_132 hN6 (hm_at h (i := 6) rfl rfl) (ixN (n := 2) (by decide) rfl) (ixG (by decide) rfl) ?_
      refine xT_icV (y := nI (1)) g_q203 g203_133 (by decide) ?_
      refine xT_if_icmpN g_q203 g203_134 (t := 156) (by decide) (decide_eq_false q4) ?_
      refine xT_aload_n g_q203 g203_137 (l0) ?_
      refine xT_getfield g_q203 g203_138 hA0 rfl (hm_at h (i := 0) rfl rfl) rfl g57 ?_
      refine xT_icV (y := nI (0)) g_q203 g203_141 (by decide) ?_
      refine xT_iaload g_q203 g203_142 hN10 (hm_at h (i := 10) rfl rfl) (ixN (n := 2) (by decide) rfl) (ixG (by decide) rfl) ?_
      refine xT_aload_n g_q203 g203_143 (l0) ?_
      refine xT_getfield g_q203 g203_144 hA0 rfl (hm_at h (i := 0) rfl rfl) rfl g57 ?_
      refine xT_icV (y := nI (1)) g_q203 g203_147 (by decide) ?_
      refine xT_iaload g_q203 g203_148 hN10 (hm_at h (i := 10) rfl rfl) (ixN (n := 2) (by decide) rfl) (ixG (by decide) rfl) ?_
      refine xT_if_icmpN g_q203 g203_149 (t := 156) (by decide) (decide_eq_false q5) ?_
      refine xT_icV (y := nI (1)) g_q203 g203_152 (by decide) ?_
      refine xT_goto g_q203 g203_153 (t := 157) (by decide) ?_
      exact hk
  have q2n : ¬ (0 : Int32) ≤ d0 := Int32.not_le.mpr q2
  by_cases q3 : a0 = a1
  rotate_left
  · refine ⟨1, Nat.le_refl _, fun z => absurd z (by decide), fun L v H2 l0 l1 l2 l3 l4 l5 hk => ?_⟩
    refine xT_aload_n g_q203 g203_83 (l0) ?_
    refine xT_getfield g_q203 g203_84 hA0 rfl (hm_at h (i := 0) rfl rfl) rfl g54 ?_
    refine xT_icV (y := nI (0)) g_q203 g203_87 (by decide) ?_
    refine xT_iaload g_q203 g203_88 hN6 (hm_at h (i := 6) rfl rfl) (ixN (n := 2) (by decide) rfl) (ixG (by decide) rfl) ?_
    refine xT_aload_n g_q203 g203_89 (l0) ?_
    refine xT_getfield g_q203 g203_90 hA0 rfl (hm_at h (i := 0) rfl rfl) rfl g54 ?_
    refine xT_icV (y := nI (1)) g_q203 g203_93 (by decide) ?_
    refine xT_iaload g_q203 g203_94 hN6 (hm_at h (i := 6) rfl rfl) (ixN (n := 2) (by decide) rfl) (ixG (by decide) rfl) ?_
    refine xT_if_icmpN g_q203 g203_95 (t := 152) (by decide) (decide_eq_false (fun z => z q1)) ?_
    refine xT_aload_n g_q203 g203_98 (l0) ?_
    refine xT_getfield g_q203 g203_99 hA0 rfl (hm_at h (i := 0) rfl rfl) rfl g54 ?_
    refine xT_icV (y := nI (0)) g_q203 g203_102 (by decide) ?_
    refine xT_iaload g_q203 g203_103 hN6 (hm_at h (i := 6) rfl rfl) (ixN (n := 2) (by decide) rfl) (ixG (by decide) rfl) ?_
    refine xT_ifCondN g_q203 g203_104 (t := 122) (by decide) (decide_eq_false q2n) ?_
    refine xT_aload_n g_q203 g203_107 (l0) ?_
    refine xT_getfield g_q203 g203_108 hA0 rfl (hm_at h (i := 0) rfl rfl) rfl g51 ?_
    refine xT_icV (y := nI (0)) g_q203 g203_111 (by decide) ?_
    refine xT_iaload g_q203 g203_112 hN3 (hm_at h (i := 3) rfl rfl) (ixN (n := 2) (by decide) rfl) (ixG (by decide) rfl) ?_
    refine xT_aload_n g_q203 g203_113 (l0) ?_
    refine xT_getfield g_q203 g203_114 hA0 rfl (hm_at h (i := 0) rfl rfl) rfl g51 ?_
    refine xT_icV (y := nI (1)) g_q203 g203_117 (by decide) ?_
    refine xT_iaload g_q203 g203_118 hN3 (hm_at h (i := 3) rfl rfl) (ixN (n := 2) (by decide) rfl) (ixG (by decide) rfl) ?_
    refine xT_if_icmpY g_q203 g203_119 (t := 152) (by decide) (decide_eq_true q3) ?_
    refine xT_icV (y := nI (1)) g_q203 g203_152 (by decide) ?_
    refine xT_goto g_q203 g203_153 (t := 157) (by decide) ?_
    exact hk
  rcases (show o = 0 ∨ o = 1 by omega) with rfl | rfl
  · refine ⟨0, by decide, fun _ => q1, fun L v H2 l0 l1 l2 l3 l4 l5 hk => ?_⟩
    refine xT_aload_n g_q203 g203_83 (l0) ?_
    refine xT_getfield g_q203 g203_84 hA0 rfl (hm_at h (i := 0) rfl rfl) rfl g54 ?_
    refine xT_icV (y := nI (0)) g_q203 g203_87 (by decide) ?_
    refine xT_iaload g_q203 g203_88 hN6 (hm_at h (i := 6) rfl rfl) (ixN (n := 2) (by decide) rfl) (ixG (by decide) rfl) ?_
    refine xT_aload_n g_q203 g203_89 (l0) ?_
    refine xT_getfield g_q203 g203_90 hA0 rfl (hm_at h (i := 0) rfl rfl) rfl g54 ?_
    refine xT_icV (y := nI (1)) g_q203 g203_93 (by decide) ?_
    refine xT_iaload g_q203 g203_94 hN6 (hm_at h (i := 6) rfl rfl) (ixN (n := 2) (by decide) rfl) (ixG (by decide) rfl) ?_
    refine xT_if_icmpN g_q203 g203_95 (t := 152) (by decide) (decide_eq_false (fun z => z q1)) ?_
    refine xT_aload_n g_q203 g203_98 (l0) ?_
    refine xT_getfield g_q203 g203_99 hA0 rfl (hm_at h (i := 0) rfl rfl) rfl g54 ?_
    refine xT_icV (y := nI (0)) g_q203 g203_102 (by decide) ?_
    refine xT_iaload g_q203 g203_103 hN6 (hm_at h (i := 6) rfl rfl) (ixN (n := 2) (by decide) rfl) (ixG (by decide) rfl) ?_
    refine xT_ifCondN g_q203 g203_104 (t := 122) (by decide) (decide_eq_false q2n) ?_
    refine xT_aload_n g_q203 g203_107 (l0) ?_
    refine xT_getfield g_q203 g203_108 hA0 rfl (hm_at h (i := 0) rfl rfl) rfl g51 ?_
    refine xT_icV (y := nI (0)) g_q203 g203_111 (by decide) ?_
    refine xT_iaload g_q203 g203_112 hN3 (hm_at h (i := 3) rfl rfl) (ixN (n := 2) (by decide) rfl) (ixG (by decide) rfl) ?_
    refine xT_aload_n g_q203 g203_113 (l0) ?_
    refine xT_getfield g_q203 g203_114 hA0 rfl (hm_at h (i := 0) rfl rfl) rfl g51 ?_
    refine xT_icV (y := nI (1)) g_q203 g203_117 (by decide) ?_
    refine xT_iaload g_q203 g203_118 hN3 (hm_at h (i := 3) rfl rfl) (ixN (n := 2) (by decide) rfl) (ixG (by decide) rfl) ?_
    refine xT_if_icmpN g_q203 g203_119 (t := 152) (by decide) (decide_eq_false (fun z => z q3)) ?_
    refine xT_iload g_q203 g203_122 (l5) ?_
    refine xT_ifCondY g_q203 g203_124 (t := 156) (by decide) (c0Y (a := 0) (b := 0) rfl) ?_
    refine xT_icV (y := nI (0)) g_q203 g203_156 (by decide) ?_
    exact hk
  by_cases q4 : d0 = nI 1
  · refine ⟨0, by decide, fun _ => q1, fun L v H2 l0 l1 l2 l3 l4 l5 hk => ?_⟩
    refine xT_aload_n g_q203 g203_83 (l0) ?_
    refine xT_getfield g_q203 g203_84 hA0 rfl (hm_at h (i := 0) rfl rfl) rfl g54 ?_
    refine xT_icV (y := nI (0)) g_q203 g203_87 (by decide) ?_
    refine xT_iaload g_q203 g203_88 hN6 (hm_at h (i := 6) rfl rfl) (ixN (n := 2) (by decide) rfl) (ixG (by decide) rfl) ?_
    refine xT_aload_n g_q203 g203_89 (l0) ?_
    refine xT_getfield g_q203 g203_90 hA0 rfl (hm_at h (i := 0) rfl rfl) rfl g54 ?_
    refine xT_icV (y := nI (1)) g_q203 g203_93 (by decide) ?_
    refine xT_iaload g_q203 g203_94 hN6 (hm_at h (i := 6) rfl rfl) (ixN (n := 2) (by decide) rfl) (ixG (by decide) rfl) ?_
    refine xT_if_icmpN g_q203 g203_95 (t := 152) (by decide) (decide_eq_false (fun z => z q1)) ?_
    refine xT_aload_n g_q203 g203_98 (l0) ?_
    refine xT_getfield g_q203 g203_99 hA0 rfl (hm_at h (i := 0) rfl rfl) rfl g54 ?_
    refine xT_icV (y := nI (0)) g_q203 g203_102 (by decide) ?_
    refine xT_iaload g_q203 g203_103 hN6 (hm_at h (i := 6) rfl rfl) (ixN (n := 2) (by decide) rfl) (ixG (by decide) rfl) ?_
    refine xT_ifCondN g_q203 g203_104 (t := 122) (by decide) (decide_eq_false q2n) ?_
    refine xT_aload_n g_q203 g203_107 (l0) ?_
    refine xT_getfield g_q203 g203_108 hA0 rfl (hm_at h (i := 0) rfl rfl) rfl g51 ?_
    refine xT_icV (y := nI (0)) g_q203 g203_111 (by decide) ?_
    refine xT_iaload g_q203 g203_112 hN3 (hm_at h (i := 3) rfl rfl) (ixN (n := 2) (by decide) rfl) (ixG (by decide) rfl) ?_
    refine xT_aload_n g_q203 g203_113 (l0) ?_
    refine xT_getfield g_q203 g203_114 hA0 rfl (hm_at h (i := 0) rfl rfl) rfl g51 ?_
    refine xT_icV (y := nI (1)) g_q203 g203_117 (by decide) ?_
    refine xT_iaload g_q203 g203_118 hN3 (hm_at h (i := 3) rfl rfl) (ixN (n := 2) (by decide) rfl) (ixG (by decide) rfl) ?_
    refine xT_if_icmpN g_q203 g203_119 (t := 152) (by decide) (decide_eq_false (fun z => z q3)) ?_
    refine xT_iload g_q203 g203_122 (l5) ?_
    refine xT_ifCondN g_q203 g203_124 (t := 156) (by decide) (c0N (a := 1) (b := 0) (by omega) (by omega) (by omega)) ?_
    refine xT_aload_n g_q203 g203_127 (l0) ?_
    refine xT_getfield g_q203 g203_128 hA0 rfl (hm_at h (i := 0) rfl rfl) rfl g54 ?_
    refine xT_icV (y := nI (0)) g_q203 g203_131 (by decide) ?_
    refine xT_iaload g_q203 g203_132 hN6 (hm_at h (i := 6) rfl rfl) (ixN (n := 2) (by decide) rfl) (ixG (by decide) rfl) ?_
    refine xT_icV (y := nI (1)) g_q203 g203_133 (by decide) ?_
    refine xT_if_icmpY g_q203 g203_134 (t := 156) (by decide) (decide_eq_true q4) ?_
    refine xT_icV (y := nI (0)) g_q203 g203_156 (by decide) ?_
    exact hk
  by_cases q5 : h0 = h1
  · refine ⟨0, by decide, fun _ => q1, fun L v H2 l0 l1 l2 l3 l4 l5 hk => ?_⟩
    refine xT_aload_n g_q203 g203_83 (l0) ?_
    refine xT_getfield g_q203 g203_84 hA0 rfl (hm_at h (i := 0) rfl rfl) rfl g54 ?_
    refine xT_icV (y := nI (0)) g_q203 g203_87 (by decide) ?_
    refine xT_iaload g_q203 g203_88 hN6 (hm_at h (i := 6) rfl rfl) (ixN (n := 2) (by decide) rfl) (ixG (by decide) rfl) ?_
    refine xT_aload_n g_q203 g203_89 (l0) ?_
    refine xT_getfield g_q203 g203_90 hA0 rfl (hm_at h (i := 0) rfl rfl) rfl g54 ?_
    refine xT_icV (y := nI (1)) g_q203 g203_93 (by decide) ?_
    refine xT_iaload g_q203 g203_94 hN6 (hm_at h (i := 6) rfl rfl) (ixN (n := 2) (by decide) rfl) (ixG (by decide) rfl) ?_
    refine xT_if_icmpN g_q203 g203_95 (t := 152) (by decide) (decide_eq_false (fun z => z q1)) ?_
    refine xT_aload_n g_q203 g203_98 (l0) ?_
    refine xT_getfield g_q203 g203_99 hA0 rfl (hm_at h (i := 0) rfl rfl) rfl g54 ?_
    refine xT_icV (y := nI (0)) g_q203 g203_102 (by decide) ?_
    refine xT_iaload g_q203 g203_103 hN6 (hm_at h (i := 6) rfl rfl) (ixN (n := 2) (by decide) rfl) (ixG (by decide) rfl) ?_
    refine xT_ifCondN g_q203 g203_104 (t := 122) (by decide) (decide_eq_false q2n) ?_
    refine xT_aload_n g_q203 g203_107 (l0) ?_
    refine xT_getfield g_q203 g203_108 hA0 rfl (hm_at h (i := 0) rfl rfl) rfl g51 ?_
    refine xT_icV (y := nI (0)) g_q203 g203_111 (by decide) ?_
    refine xT_iaload g_q203 g203_112 hN3 (hm_at h (i := 3) rfl rfl) (ixN (n := 2) (by decide) rfl) (ixG (by decide) rfl) ?_
    refine xT_aload_n g_q203 g203_113 (l0) ?_
    refine xT_getfield g_q203 g203_114 hA0 rfl (hm_at h (i := 0) rfl rfl) rfl g51 ?_
    refine xT_icV (y := nI (1)) g_q203 g203_117 (by decide) ?_
    refine xT_iaload g_q203 g203_118 hN3 (hm_at h (i := 3) rfl rfl) (ixN (n := 2) (by decide) rfl) (ixG (by decide) rfl) ?_
    refine xT_if_icmpN g_q203 g203_119 (t := 152) (by decide) (decide_eq_false (fun z => z q3)) ?_
    refine xT_iload g_q203 g203_122 (l5) ?_
    refine xT_ifCondN g_q203 g203_124 (t := 156) (by decide) (c0N (a := 1) (b := 0) (by omega) (by omega) (by omega)) ?_
    refine xT_aload_n g_q203 g203_127 (l0) ?_
    refine xT_getfield g_q203 g203_128 hA0 rfl (hm_at h (i := 0) rfl rfl) rfl g54 ?_
    refine xT_icV (y := nI (0)) g_q203 g203_131 (by decide) ?_
    refine xT_iaload g_q203 g203_132 hN6 (hm_at h (i := 6) rfl rfl) (ixN (n := 2) (by decide) rfl) (ixG (by decide) rfl) ?_
    refine xT_icV (y := nI (1)) g_q203 g203_133 (by decide) ?_
    refine xT_if_icmpN g_q203 g203_134 (t := 156) (by decide) (decide_eq_false q4) ?_
    refine xT_aload_n g_q203 g203_137 (l0) ?_
    refine xT_getfield g_q203 g203_138 hA0 rfl (hm_at h (i := 0) rfl rfl) rfl g57 ?_
    refine xT_icV (y := nI (0)) g_q203 g203_141 (by decide) ?_
    refine xT_iaload g_q203 g203_142 hN10 (hm_at h (i := 10) rfl rfl) (ixN (n := 2) (by decide) rfl) (ixG (by decide) rfl) ?_
    refine xT_aload_n g_q203 g203_143 (l0) ?_
    refine xT_getfield g_q203 g203_144 hA0 rfl (hm_at h (i := 0) rfl rfl) rfl g57 ?_
    refine xT_icV (y := nI (1)) g_q203 g203_147 (by decide) ?_
    refine xT_iaload g_q203 g203_148 hN10 (hm_at h (i := 10) rfl rfl) (ixN (n := 2) (by decide) rfl) (ixG (by decide) rfl) ?_
    refine xT_if_icmpY g_q203 g203_149 (t := 156) (by decide) (decide_eq_true q5) ?_
    refine xT_icV (y := nI (0)) g_q203 g203_156 (by decide) ?_
    exact hk
  · refine ⟨1, Nat.le_refl _, fun z => absurd z (by decide), fun L v H2 l0 l1 l2 l3 l4 l5 hk => ?_⟩
    refine xT_aload_n g_q203 g203_83 (l0) ?_
    refine xT_getfield g_q203 g203_84 hA0 rfl (hm_at h (i := 0) rfl rfl) rfl g54 ?_
    refine xT_icV (y := nI (0)) g_q203 g203_87 (by decide) ?_
    refine xT_iaload g_q203 g203_88 hN6 (hm_at h (i := 6) rfl rfl) (ixN (n := 2) (by decide) rfl) (ixG (by decide) rfl) ?_
    refine xT_aload_n g_q203 g203_89 (l0) ?_
    refine xT_getfield g_q203 g203_90 hA0 rfl (hm_at h (i := 0) rfl rfl) rfl g54 ?_
    refine xT_icV (y := nI (1)) g_q203 g203_93 (by decide) ?_
    refine xT_iaload g_q203 g203_94 hN6 (hm_at h (i := 6) rfl rfl) (ixN (n := 2) (by decide) rfl) (ixG (by decide) rfl) ?_
    refine xT_if_icmpN g_q203 g203_95 (t := 152) (by decide) (decide_eq_false (fun z => z q1)) ?_
    refine xT_aload_n g_q203 g203_98 (l0) ?_
    refine xT_getfield g_q203 g203_99 hA0 rfl (hm_at h (i := 0) rfl rfl) rfl g54 ?_
    refine xT_icV (y := nI (0)) g_q203 g203_102 (by decide) ?_
    refine xT_iaload g_q203 g203_103 hN6 (hm_at h (i := 6) rfl rfl) (ixN (n := 2) (by decide) rfl) (ixG (by decide) rfl) ?_
    refine xT_ifCondN g_q203 g203_104 (t := 122) (by decide) (decide_eq_false q2n) ?_
    refine xT_aload_n g_q203 g203_107 (l0) ?_
    refine xT_getfield g_q203 g203_108 hA0 rfl (hm_at h (i := 0) rfl rfl) rfl g51 ?_
    refine xT_icV (y := nI (0)) g_q203 g203_111 (by decide) ?_
    refine xT_iaload g_q203 g203_112 hN3 (hm_at h (i := 3) rfl rfl) (ixN (n := 2) (by decide) rfl) (ixG (by decide) rfl) ?_
    refine xT_aload_n g_q203 g203_113 (l0) ?_
    refine xT_getfield g_q203 g203_114 hA0 rfl (hm_at h (i := 0) rfl rfl) rfl g51 ?_
    refine xT_icV (y := nI (1)) g_q203 g203_117 (by decide) ?_
    refine xT_iaload g_q203 g203_118 hN3 (hm_at h (i := 3) rfl rfl) (ixN (n := 2) (by decide) rfl) (ixG (by decide) rfl) ?_
    refine xT_if_icmpN g_q203 g203_119 (t := 152) (by decide) (decide_eq_false (fun z => z q3)) ?_
    refine xT_iload g_q203 g203_122 (l5) ?_
    refine xT_ifCondN g_q203 g203_124 (t := 156) (by decide) (c0N (a := 1) (b := 0) (by omega) (by omega) (by omega)) ?_
    refine xT_aload_n g_q203 g203_127 (l0) ?_
    refine xT_getfield g_q203 g203_128 hA0 rfl (hm_at h (i := 0) rfl rfl) rfl g54 ?_
    refine xT_icV (y := nI (0)) g_q203 g203_131 (by decide) ?_
    refine xT_iaload g_q203 g203_132 hN6 (hm_at h (i := 6) rfl rfl) (ixN (n := 2) (by decide) rfl) (ixG (by decide) rfl) ?_
    refine xT_icV (y := nI (1)) g_q203 g203_133 (by decide) ?_
    refine xT_if_icmpN g_q203 g203_134 (t := 156) (by decide) (decide_eq_false q4) ?_
    refine xT_aload_n g_q203 g203_137 (l0) ?_
    refine xT_getfield g_q203 g203_138 hA0 rfl (hm_at h (i := 0) rfl rfl) rfl g57 ?_
    refine xT_icV (y := nI (0)) g_q203 g203_141 (by decide) ?_
    refine xT_iaload g_q203 g203_142 hN10 (hm_at h (i := 10) rfl rfl) (ixN (n := 2) (by decide) rfl) (ixG (by decide) rfl) ?_
    refine xT_aload_n g_q203 g203_143 (l0) ?_
    refine xT_getfield g_q203 g203_144 hA0 rfl (hm_at h (i := 0) rfl rfl) rfl g57 ?_
    refine xT_icV (y := nI (1)) g_q203 g203_147 (by decide) ?_
    refine xT_iaload g_q203 g203_148 hN10 (hm_at h (i := 10) rfl rfl) (ixN (n := 2) (by decide) rfl) (ixG (by decide) rfl) ?_
    refine xT_if_icmpN g_q203 g203_149 (t := 156) (by decide) (decide_eq_false q5) ?_
    refine xT_icV (y := nI (1)) g_q203 g203_152 (by decide) ?_
    refine xT_goto g_q203 g203_153 (t := 157) (by decide) ?_
    exact hk
end XH33_31
