/-! p35 by hand, 10. -/
noncomputable section XH3510
variable {ot : XO Int32} {dp : Nat} {H : List (XC Int32)} {p n m : Nat} {r : Nat → Nat} {pl mi la we ord hf : Nat → Nat}
theorem t261_l {b : Nat} (hS : isSt H b n pl mi la we) (hB : stB pl mi la we) (hO : ordOk n ord mi) {s : Nat} : ∀ (d k w f q : Nat) (L : List (Nat × XV Int32)), k + d = n → w ≤ 99 → f ≤ 998 → q < 2 ^ n → (∀ x, x < 8 → bitP q x = 1 → ∃ j, k ≤ j ∧ j < n ∧ ord j = x) → (∀ j, k ≤ j → j < n → (bitP q (ord j) = 1 ↔ bitP s (ord j) = 1)) → x_lk L 0 = some (.inr (some b)) → x_lk L 2 = some (.inl (nI w)) → x_lk L 3 = some (.inl (nI f)) → x_lk L 4 = some (.inl (nI q)) → x_To x_tb x_tyl ot dp 261 7 L [] H 0 0 (some (.inl (nI (mtD ord pl mi la s d k w f)))) H := by
  obtain ⟨fs, sr, st, rr, ⟨hbA, hb, h36, h8, h37, hst, hsl⟩, hrr0, -⟩ := id hS
  have hrr : ∀ x, x < 8 → sr[x]? = some (.inr (some (rr x))) ∧ rr x < 1000000 := fun x hx => ⟨(hrr0 x hx).1, (hrr0 x hx).2.1⟩
  have hR : ∀ x, x < n → H[rr x]? = some (.inr (0, [.inl (nI (pl x)), .inl (nI (mi x)), .inl (nI (la x)), .inl (nI (we x))])) := fun x hx => by
    obtain ⟨-, -, w, w1, -, w3⟩ := hrr0 x (by omega)
    rw [w1, w3 hx]
  obtain ⟨s1, s2, s3⟩ := b_shl n (by omega)
  have none0 : ∀ q, q < 2 ^ n → (∀ x, x < 8 → ¬ bitP q x = 1) → q = 0 := fun q h1 h2 => b_none n (by omega) q (by omega) h1 (fun i i1 _ => h2 i i1)
  intro d
  induction d with
  | zero =>
    intro k w f q L hk hw hf hq hi1 hi2 l0 l2 l3 l4
    obtain rfl : q = 0 := none0 q hq (fun x hx z => by
      obtain ⟨j, j1, j2, -⟩ := hi1 x hx z
      omega)
    refine xT_iload g_q261 g261_7 (l4) ?_
    refine xT_ifCondY g_q261 g261_9 (t := 165) (by decide) (c0Y (a := 0) (b := 0) (by omega)) ?_
    refine xT_icV (y := nI (1)) g_q261 g261_165 (by decide) ?_
    exact xT_ireturn g_q261 g261_166 (by decide +kernel)
  | succ d ih =>
    intro k w f q L hk hw hf hq hi1 hi2 l0 l2 l3 l4
    have hok := hO.1 k (by omega)
    obtain ⟨B0, B1, B2, -⟩ := hB (ord k)
    by_cases hb1 : bitP s (ord k) = 1
    · have hbq := (hi2 k (Nat.le_refl k) (by omega)).mpr hb1
      have hq0 : q ≠ 0 := fun e => by
        rw [e, bit0] at hbq
        exact absurd hbq (by decide)
      have hcl := b_clr q (by omega) (ord k) (by omega) hbq
      have hcb := b_clrb q (by omega) (ord k) (by omega) hbq
      have hmin : ∀ x, x < n → bitP q x = 1 → x ≠ ord k → mi (ord k) < mi x ∨ (mi (ord k) = mi x ∧ ord k < x) := fun x hx h1 h2 => by
        obtain ⟨j, j1, j2, rfl⟩ := hi1 x (by omega) h1
        have : k ≠ j := fun e => h2 (by rw [e])
        exact hO.2.1 k j (by omega) j2
      have hq2 : q - 2 ^ (ord k) < 2 ^ n := Nat.lt_of_le_of_lt (Nat.sub_le _ _) hq
      have hi3 : ∀ x, x < 8 → bitP (q - 2 ^ (ord k)) x = 1 → ∃ j, k + 1 ≤ j ∧ j < n ∧ ord j = x := fun x hx z => by
        rw [hcb x hx] at z
        by_cases e : x = ord k
        · rw [if_pos e] at z
          exact absurd z (by decide)
        · rw [if_neg e] at z
          obtain ⟨j, j1, j2, j3⟩ := hi1 x hx z
          have : j ≠ k := fun e2 => e (by rw [← j3, e2])
          exact ⟨j, by omega, j2, j3⟩
      have hi4 : ∀ j, k + 1 ≤ j → j < n → (bitP (q - 2 ^ (ord k)) (ord j) = 1 ↔ bitP s (ord j) = 1) := fun j j1 j2 => by
        have h3 := hO.1 j j2
        rw [hcb (ord j) (by omega), if_neg (fun e => by
          have := ord_inj hO j2 (by omega) e
          omega)]
        exact hi2 j (by omega) j2
      refine xT_iload g_q261 g261_7 (l4) ?_
      refine xT_ifCondN g_q261 g261_9 (t := 165) (by decide) (c0N (b := 0) hq0 (by omega) (by omega)) ?_
      refine xT_icV (y := -1) g_q261 g261_12 (by decide) ?_
      refine xT_istore g_q261 g261_13 (by decide) ?_
      refine xT_icV (y := nI (0)) g_q261 g261_15 (by decide) ?_
      refine xT_istore g_q261 g261_16 (by decide) ?_
      refine t261_in hS hB (by omega) hok hbq hmin (fun L m0 m2 m3 m4 m5 => ?_) n 0 (-1) _ (by omega) (Or.inr ⟨Nat.zero_le _, Or.inl rfl⟩) (lkN (by decide) (lkN (by decide) (l0))) (lkN (by decide) (lkN (by decide) (l2))) (lkN (by decide) (lkN (by decide) (l3))) (lkN (by decide) (lkN (by decide) (l4))) (lkN (by decide) (lkY)) (lkY)
      · skip
        by_cases hd : pl (ord k) < w
        · have hq9 : dN (pl (ord k)) w = w - pl (ord k) := if_pos hd
          have hq8 : dN (pl (ord k)) w ≤ 99 := by omega
          by_cases hl : mi (ord k) < f + dN (pl (ord k)) w
          · rw [show mtD ord pl mi la s (d + 1) k w f = 0 from (if_pos hb1).trans (if_pos hl)]
            refine xT_iload_n g_q261 g261_91 (m3) ?_
            refine xT_aload_n g_q261 g261_92 (m0) ?_
            refine xT_getfield g_q261 g261_93 hbA rfl hb rfl h37 ?_
            refine xT_iload g_q261 g261_96 (m5) ?_
            refine xT_aaload g_q261 g261_98 (by decide +kernel) hst (ixN (n := 8) (by omega) hsl) (ixG (by omega) (hrr _ (by omega)).1) ?_
            refine xT_icV (y := nI (0)) g_q261 g261_99 (by decide) ?_
            refine xT_iaload g_q261 g261_100 (by have := (hrr (ord k) (by omega)).2; omega) (hR (ord k) (by omega)) (ixN (n := 4) (by decide) rfl) (ixG (by decide) rfl) ?_
            refine xT_iload_n g_q261 g261_101 (m2) ?_
            refine xT_isubV (y := x_bin 1 (nI (pl (ord k))) (nI w)) g_q261 g261_102 (rfl) ?_
            refine xT_absNV (y := nI (dN (pl (ord k)) w)) g_q261 g261_103 (by decide +kernel) (by decide +kernel) rfl ((b_abs hd (by omega)).1) ((b_abs hd (by omega)).2.trans (congrArg nI hq9.symm)) ?_
            refine xT_iaddV (y := nI (f + dN (pl (ord k)) w)) g_q261 g261_106 (bAddN _ _) ?_
            refine xT_aload_n g_q261 g261_107 (m0) ?_
            refine xT_getfield g_q261 g261_108 hbA rfl hb rfl h37 ?_
            refine xT_iload g_q261 g261_111 (m5) ?_
            refine xT_aaload g_q261 g261_113 (by decide +kernel) hst (ixN (n := 8) (by omega) hsl) (ixG (by omega) (hrr _ (by omega)).1) ?_
            refine xT_icV (y := nI (1)) g_q261 g261_114 (by decide) ?_
            refine xT_iaload g_q261 g261_115 (by have := (hrr (ord k) (by omega)).2; omega) (hR (ord k) (by omega)) (ixN (n := 4) (by decide) rfl) (ixG (by decide) rfl) ?_
            refine xT_if_icmpN g_q261 g261_116 (t := 121) (by decide) (c5N (a := f + dN (pl (ord k)) w) (b := mi (ord k)) (by omega) (by omega) (by omega)) ?_
            refine xT_icV (y := nI (0)) g_q261 g261_119 (by decide) ?_
            exact xT_ireturn g_q261 g261_120 (by decide +kernel)
          · rw [show mtD ord pl mi la s (d + 1) k w f = mtD ord pl mi la s d (k + 1) (pl (ord k)) (mi (ord k) + la (ord k)) from (if_pos hb1).trans (if_neg hl)]
            have hl := Nat.le_of_not_lt hl
            refine xT_iload_n g_q261 g261_91 (m3) ?_
            refine xT_aload_n g_q261 g261_92 (m0) ?_
            refine xT_getfield g_q261 g261_93 hbA rfl hb rfl h37 ?_
            refine xT_iload g_q261 g261_96 (m5) ?_
            refine xT_aaload g_q261 g261_98 (by decide +kernel) hst (ixN (n := 8) (by omega) hsl) (ixG (by omega) (hrr _ (by omega)).1) ?_
            refine xT_icV (y := nI (0)) g_q261 g261_99 (by decide) ?_
            refine xT_iaload g_q261 g261_100 (by have := (hrr (ord k) (by omega)).2; omega) (hR (ord k) (by omega)) (ixN (n := 4) (by decide) rfl) (ixG (by decide) rfl) ?_
            refine xT_iload_n g_q261 g261_101 (m2) ?_
            refine xT_isubV (y := x_bin 1 (nI (pl (ord k))) (nI w)) g_q261 g261_102 (rfl) ?_
            refine xT_absNV (y := nI (dN (pl (ord k)) w)) g_q261 g261_103 (by decide +kernel) (by decide +kernel) rfl ((b_abs hd (by omega)).1) ((b_abs hd (by omega)).2.trans (congrArg nI hq9.symm)) ?_
            refine xT_iaddV (y := nI (f + dN (pl (ord k)) w)) g_q261 g261_106 (bAddN _ _) ?_
            refine xT_aload_n g_q261 g261_107 (m0) ?_
            refine xT_getfield g_q261 g261_108 hbA rfl hb rfl h37 ?_
            refine xT_iload g_q261 g261_111 (m5) ?_
            refine xT_aaload g_q261 g261_113 (by decide +kernel) hst (ixN (n := 8) (by omega) hsl) (ixG (by omega) (hrr _ (by omega)).1) ?_
            refine xT_icV (y := nI (1)) g_q261 g261_114 (by decide) ?_
            refine xT_iaload g_q261 g261_115 (by have := (hrr (ord k) (by omega)).2; omega) (hR (ord k) (by omega)) (ixN (n := 4) (by decide) rfl) (ixG (by decide) rfl) ?_
            refine xT_if_icmpY g_q261 g261_116 (t := 121) (by decide) (c5Y (a := f + dN (pl (ord k)) w) (b := mi (ord k)) (by omega) (by omega) (by omega)) ?_
            refine xT_aload_n g_q261 g261_121 (m0) ?_
            refine xT_getfield g_q261 g261_122 hbA rfl hb rfl h37 ?_
            refine xT_iload g_q261 g261_125 (m5) ?_
            refine xT_aaload g_q261 g261_127 (by decide +kernel) hst (ixN (n := 8) (by omega) hsl) (ixG (by omega) (hrr _ (by omega)).1) ?_
            refine xT_icV (y := nI (0)) g_q261 g261_128 (by decide) ?_
            refine xT_iaload g_q261 g261_129 (by have := (hrr (ord k) (by omega)).2; omega) (hR (ord k) (by omega)) (ixN (n := 4) (by decide) rfl) (ixG (by decide) rfl) ?_
            refine xT_istore_n g_q261 g261_130 (by decide) ?_
            refine xT_aload_n g_q261 g261_131 (lkN (by decide) (m0)) ?_
            refine xT_getfield g_q261 g261_132 hbA rfl hb rfl h37 ?_
            refine xT_iload g_q261 g261_135 (lkN (by decide) (m5)) ?_
            refine xT_aaload g_q261 g261_137 (by decide +kernel) hst (ixN (n := 8) (by omega) hsl) (ixG (by omega) (hrr _ (by omega)).1) ?_
            refine xT_icV (y := nI (1)) g_q261 g261_138 (by decide) ?_
            refine xT_iaload g_q261 g261_139 (by have := (hrr (ord k) (by omega)).2; omega) (hR (ord k) (by omega)) (ixN (n := 4) (by decide) rfl) (ixG (by decide) rfl) ?_
            refine xT_aload_n g_q261 g261_140 (lkN (by decide) (m0)) ?_
            refine xT_getfield g_q261 g261_141 hbA rfl hb rfl h37 ?_
            refine xT_iload g_q261 g261_144 (lkN (by decide) (m5)) ?_
            refine xT_aaload g_q261 g261_146 (by decide +kernel) hst (ixN (n := 8) (by omega) hsl) (ixG (by omega) (hrr _ (by omega)).1) ?_
            refine xT_icV (y := nI (2)) g_q261 g261_147 (by decide) ?_
            refine xT_iaload g_q261 g261_148 (by have := (hrr (ord k) (by omega)).2; omega) (hR (ord k) (by omega)) (ixN (n := 4) (by decide) rfl) (ixG (by decide) rfl) ?_
            refine xT_iaddV (y := nI (mi (ord k) + la (ord k))) g_q261 g261_149 (bAddN _ _) ?_
            refine xT_istore_n g_q261 g261_150 (by decide) ?_
            refine xT_iload g_q261 g261_151 (lkN (by decide) (lkN (by decide) (m4))) ?_
            refine xT_icV (y := nI (1)) g_q261 g261_153 (by decide) ?_
            refine xT_iload g_q261 g261_154 (lkN (by decide) (lkN (by decide) (m5))) ?_
            refine xT_ishlV (y := x_bin 6 (nI 1) (nI (ord k))) g_q261 g261_156 (rfl) ?_
            refine xT_icV (y := -1) g_q261 g261_157 (by decide) ?_
            refine xT_ixorV (y := x_bin 5 (x_bin 6 (nI 1) (nI (ord k))) (-1)) g_q261 g261_158 (rfl) ?_
            refine xT_iandV (y := nI (q - 2 ^ (ord k))) g_q261 g261_159 (hcl.1) ?_
            refine xT_istore g_q261 g261_160 (by decide) ?_
            refine xT_goto g_q261 g261_162 (t := 7) (by decide) ?_
            exact ih (k + 1) _ _ _ _ (by omega) (by omega) (by omega) (by omega) hi3 hi4 (lkN (by decide) (lkN (by decide) (lkN (by decide) (m0)))) (lkN (by decide) (lkN (by decide) (lkY))) (lkN (by decide) (lkY)) (lkY)
        · have hq9 : dN (pl (ord k)) w = pl (ord k) - w := if_neg hd
          have hd := Nat.le_of_not_lt hd
          have hq8 : dN (pl (ord k)) w ≤ 99 := by omega
          by_cases hl : mi (ord k) < f + dN (pl (ord k)) w
          · rw [show mtD ord pl mi la s (d + 1) k w f = 0 from (if_pos hb1).trans (if_pos hl)]
            refine xT_iload_n g_q261 g261_91 (m3) ?_
            refine xT_aload_n g_q261 g261_92 (m0) ?_
            refine xT_getfield g_q261 g261_93 hbA rfl hb rfl h37 ?_
            refine xT_iload g_q261 g261_96 (m5) ?_
            refine xT_aaload g_q261 g261_98 (by decide +kernel) hst (ixN (n := 8) (by omega) hsl) (ixG (by omega) (hrr _ (by omega)).1) ?_
            refine xT_icV (y := nI (0)) g_q261 g261_99 (by decide) ?_
            refine xT_iaload g_q261 g261_100 (by have := (hrr (ord k) (by omega)).2; omega) (hR (ord k) (by omega)) (ixN (n := 4) (by decide) rfl) (ixG (by decide) rfl) ?_
            refine xT_iload_n g_q261 g261_101 (m2) ?_
            refine xT_isubV (y := nI (dN (pl (ord k)) w)) g_q261 g261_102 ((bSubN hd).trans (congrArg nI hq9.symm)) ?_
            refine xT_absY g_q261 g261_103 (by decide +kernel) (by decide +kernel) rfl (c3Y (b := 0) (Nat.zero_le _) (by omega) (by omega)) ?_
            refine xT_iaddV (y := nI (f + dN (pl (ord k)) w)) g_q261 g261_106 (bAddN _ _) ?_
            refine xT_aload_n g_q261 g261_107 (m0) ?_
            refine xT_getfield g_q261 g261_108 hbA rfl hb rfl h37 ?_
            refine xT_iload g_q261 g261_111 (m5) ?_
            refine xT_aaload g_q261 g261_113 (by decide +kernel) hst (ixN (n := 8) (by omega) hsl) (ixG (by omega) (hrr _ (by omega)).1) ?_
            refine xT_icV (y := nI (1)) g_q261 g261_114 (by decide) ?_
            refine xT_iaload g_q261 g261_115 (by have := (hrr (ord k) (by omega)).2; omega) (hR (ord k) (by omega)) (ixN (n := 4) (by decide) rfl) (ixG (by decide) rfl) ?_
            refine xT_if_icmpN g_q261 g261_116 (t := 121) (by decide) (c5N (a := f + dN (pl (ord k)) w) (b := mi (ord k)) (by omega) (by omega) (by omega)) ?_
            refine xT_icV (y := nI (0)) g_q261 g261_119 (by decide) ?_
            exact xT_ireturn g_q261 g261_120 (by decide +kernel)
          · rw [show mtD ord pl mi la s (d + 1) k w f = mtD ord pl mi la s d (k + 1) (pl (ord k)) (mi (ord k) + la (ord k)) from (if_pos hb1).trans (if_neg hl)]
            have hl := Nat.le_of_not_lt hl
            refine xT_iload_n g_q261 g261_91 (m3) ?_
            refine xT_aload_n g_q261 g261_92 (m0) ?_
            refine xT_getfield g_q261 g261_93 hbA rfl hb rfl h37 ?_
            refine xT_iload g_q261 g261_96 (m5) ?_
            refine xT_aaload g_q261 g261_98 (by decide +kernel) hst (ixN (n := 8) (by omega) hsl) (ixG (by omega) (hrr _ (by omega)).1) ?_
            refine xT_icV (y := nI (0)) g_q261 g261_99 (by decide) ?_
            refine xT_iaload g_q261 g261_100 (by have := (hrr (ord k) (by omega)).2; omega) (hR (ord k) (by omega)) (ixN (n := 4) (by decide) rfl) (ixG (by decide) rfl) ?_
            refine xT_iload_n g_q261 g261_101 (m2) ?_
            refine xT_isubV (y := nI (dN (pl (ord k)) w)) g_q261 g261_102 ((bSubN hd).trans (congrArg nI hq9.symm)) ?_
            refine xT_absY g_q261 g261_103 (by decide +kernel) (by decide +kernel) rfl (c3Y (b := 0) (Nat.zero_le _) (by omega) (by omega)) ?_
            refine xT_iaddV (y := nI (f + dN (pl (ord k)) w)) g_q261 g261_106 (bAddN _ _) ?_
            refine xT_aload_n g_q261 g261_107 (m0) ?_
            refine xT_getfield g_q261 g261_108 hbA rfl hb rfl h37 ?_
            refine xT_iload g_q261 g261_111 (m5) ?_
            refine xT_aaload g_q261 g261_113 (by decide +kernel) hst (ixN (n := 8) (by omega) hsl) (ixG (by omega) (hrr _ (by omega)).1) ?_
            refine xT_icV (y := nI (1)) g_q261 g261_114 (by decide) ?_
            refine xT_iaload g_q261 g261_115 (by have := (hrr (ord k) (by omega)).2; omega) (hR (ord k) (by omega)) (ixN (n := 4) (by decide) rfl) (ixG (by decide) rfl) ?_
            refine xT_if_icmpY g_q261 g261_116 (t := 121) (by decide) (c5Y (a := f + dN (pl (ord k)) w) (b := mi (ord k)) (by omega) (by omega) (by omega)) ?_
            refine xT_aload_n g_q261 g261_121 (m0) ?_
            refine xT_getfield g_q261 g261_122 hbA rfl hb rfl h37 ?_
            refine xT_iload g_q261 g261_125 (m5) ?_
            refine xT_aaload g_q261 g261_127 (by decide +kernel) hst (ixN (n := 8) (by omega) hsl) (ixG (by omega) (hrr _ (by omega)).1) ?_
            refine xT_icV (y := nI (0)) g_q261 g261_128 (by decide) ?_
            refine xT_iaload g_q261 g261_129 (by have := (hrr (ord k) (by omega)).2; omega) (hR (ord k) (by omega)) (ixN (n := 4) (by decide) rfl) (ixG (by decide) rfl) ?_
            refine xT_istore_n g_q261 g261_130 (by decide) ?_
            refine xT_aload_n g_q261 g261_131 (lkN (by decide) (m0)) ?_
            refine xT_getfield g_q261 g261_132 hbA rfl hb rfl h37 ?_
            refine xT_iload g_q261 g261_135 (lkN (by decide) (m5)) ?_
            refine xT_aaload g_q261 g261_137 (by decide +kernel) hst (ixN (n := 8) (by omega) hsl) (ixG (by omega) (hrr _ (by omega)).1) ?_
            refine xT_icV (y := nI (1)) g_q261 g261_138 (by decide) ?_
            refine xT_iaload g_q261 g261_139 (by have := (hrr (ord k) (by omega)).2; omega) (hR (ord k) (by omega)) (ixN (n := 4) (by decide) rfl) (ixG (by decide) rfl) ?_
            refine xT_aload_n g_q261 g261_140 (lkN (by decide) (m0)) ?_
            refine xT_getfield g_q261 g261_141 hbA rfl hb rfl h37 ?_
            refine xT_iload g_q261 g261_144 (lkN (by decide) (m5)) ?_
            refine xT_aaload g_q261 g261_146 (by decide +kernel) hst (ixN (n := 8) (by omega) hsl) (ixG (by omega) (hrr _ (by omega)).1) ?_
            refine xT_icV (y := nI (2)) g_q261 g261_147 (by decide) ?_
            refine xT_iaload g_q261 g261_148 (by have := (hrr (ord k) (by omega)).2; omega) (hR (ord k) (by omega)) (ixN (n := 4) (by decide) rfl) (ixG (by decide) rfl) ?_
            refine xT_iaddV (y := nI (mi (ord k) + la (ord k))) g_q261 g261_149 (bAddN _ _) ?_
            refine xT_istore_n g_q261 g261_150 (by decide) ?_
            refine xT_iload g_q261 g261_151 (lkN (by decide) (lkN (by decide) (m4))) ?_
            refine xT_icV (y := nI (1)) g_q261 g261_153 (by decide) ?_
            refine xT_iload g_q261 g261_154 (lkN (by decide) (lkN (by decide) (m5))) ?_
            refine xT_ishlV (y := x_bin 6 (nI 1) (nI (ord k))) g_q261 g261_156 (rfl) ?_
            refine xT_icV (y := -1) g_q261 g261_157 (by decide) ?_
            refine xT_ixorV (y := x_bin 5 (x_bin 6 (nI 1) (nI (ord k))) (-1)) g_q261 g261_158 (rfl) ?_
            refine xT_iandV (y := nI (q - 2 ^ (ord k))) g_q261 g261_159 (hcl.1) ?_
            refine xT_istore g_q261 g261_160 (by decide) ?_
            refine xT_goto g_q261 g261_162 (t := 7) (by decide) ?_
            exact ih (k + 1) _ _ _ _ (by omega) (by omega) (by omega) (by omega) hi3 hi4 (lkN (by decide) (lkN (by decide) (lkN (by decide) (m0)))) (lkN (by decide) (lkN (by decide) (lkY))) (lkN (by decide) (lkY)) (lkY)

    · rw [show mtD ord pl mi la s (d + 1) k w f = mtD ord pl mi la s d (k + 1) w f from if_neg hb1]
      exact ih (k + 1) w f q L (by omega) hw hf hq (fun x hx z => by
        obtain ⟨j, j1, j2, j3⟩ := hi1 x hx z
        have : j ≠ k := fun e => by
          subst e
          subst j3
          exact hb1 ((hi2 j (Nat.le_refl j) j2).mp z)
        exact ⟨j, by omega, j2, j3⟩) (fun j j1 j2 => hi2 j (by omega) j2) l0 l2 l3 l4
theorem t261 {b : Nat} (hS : isSt H b n pl mi la we) (hB : stB pl mi la we) (hO : ordOk n ord mi) {s : Nat} (hs : s < 2 ^ n) : x_To x_tb x_tyl ot dp 261 0 (x_en 0 [.inr (some (b)), .inl (nI (s))]) [] H 0 0 (some (.inl (nI (mtD ord pl mi la s n 0 0 0)))) H := by
  obtain ⟨fs, sr, st, rr, ⟨-, -, -, h8, -⟩, -⟩ := id hS
  have hbit : ∀ x, x < 8 → bitP s x = 1 → x < n := fun x hx z => by
    rcases Nat.lt_or_ge x n with c | c
    · exact c
    · exact absurd z (b_big n (by omega) s hs x hx c)
  refine xT_icV (y := nI (0)) g_q261 g261_0 (by decide) ?_
  refine xT_istore_n g_q261 g261_1 (by decide) ?_
  refine xT_icV (y := nI (0)) g_q261 g261_2 (by decide) ?_
  refine xT_istore_n g_q261 g261_3 (by decide) ?_
  refine xT_iload_n g_q261 g261_4 (lkN (by decide) (lkN (by decide) (rfl))) ?_
  refine xT_istore g_q261 g261_5 (by decide) ?_
  exact t261_l hS hB hO n 0 0 0 s _ (by omega) (by omega) (by omega) hs (fun x hx z => by
    obtain ⟨j, j1, j2⟩ := hO.2.2 x (hbit x hx z)
    exact ⟨j, Nat.zero_le j, j1, j2⟩) (fun j _ _ => Iff.rfl) (lkN (by decide) (lkN (by decide) (lkN (by decide) (rfl)))) (lkN (by decide) (lkN (by decide) (lkY))) (lkN (by decide) (lkY)) (lkY)
end XH3510
