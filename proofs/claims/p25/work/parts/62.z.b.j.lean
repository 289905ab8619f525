/-! p25 by hand, 8. -/
noncomputable section XH258
variable {ot : XO Int32} {dp : Nat} {H : List (XC Int32)} {c pv rl n lo hi hi_ R : Nat} {a cnt ca : Nat} {vs : List (XV Int32)} {b i : Nat} {y : Nat → Nat}
theorem t80 {y r : Nat} (hy : y < 2 ^ 31) (hr : r < 3) : x_To x_tb x_tyl ot dp 80 0 (x_en 0 [.inl (nI (y)), .inl (nI (r))]) [] H 0 0 (some (.inl (nI (leapN y r)))) H := by
  rcases (show r = 0 ∨ r = 1 ∨ r = 2 by omega) with rfl | rfl | rfl
  · exact t80_0 hy
  · exact t80_1 hy
  · exact t80_2 hy
theorem t78 {v p : Nat} (hv : v < 2 ^ 31) (hp : p < 2 ^ 31) : x_To x_tb x_tyl ot dp 78 0 (x_en 0 [.inl (nI (v)), .inl (nI (p))]) [] H 0 0 (some (.inl (nI (meanN v p)))) H := by
  by_cases h : p ≤ v
  · rw [show meanN v p = 1900 + v from if_pos h]
    refine xT_iload_n g_q78 g78_0 (rfl) ?_
    refine xT_iload_n g_q78 g78_1 (rfl) ?_
    refine xT_if_icmpN g_q78 g78_2 (t := 13) (by decide) (c2N (a := v) (b := p) (by omega) (by omega) (by omega)) ?_
    refine xT_siV (y := nI (1900)) g_q78 g78_5 (by decide) ?_
    refine xT_iload_n g_q78 g78_8 (rfl) ?_
    refine xT_iaddV (y := nI (1900 + v)) g_q78 g78_9 (bAddN _ _) ?_
    refine xT_goto g_q78 g78_10 (t := 18) (by decide) ?_
    exact xT_ireturn g_q78 g78_18 (rfl)
  · rw [show meanN v p = 2000 + v from if_neg h]
    refine xT_iload_n g_q78 g78_0 (rfl) ?_
    refine xT_iload_n g_q78 g78_1 (rfl) ?_
    refine xT_if_icmpY g_q78 g78_2 (t := 13) (by decide) (c2Y (a := v) (b := p) (by omega) (by omega) (by omega)) ?_
    refine xT_siV (y := nI (2000)) g_q78 g78_13 (by decide) ?_
    refine xT_iload_n g_q78 g78_16 (rfl) ?_
    refine xT_iaddV (y := nI (2000 + v)) g_q78 g78_17 (bAddN _ _) ?_
    exact xT_ireturn g_q78 g78_18 (rfl)
theorem b_andc : ∀ a, a < 8 → ∀ l, l < 8 → x_bin 3 (nI a) (x_bin 5 (nI l) (-1)) = nI (a &&& (7 - l)) := by decide +kernel
def hi2 (pv hi f : Nat) : Nat := if pv ≤ f then minN hi f else hi
def lo2 (pv lo f : Nat) : Nat := if pv ≤ f then lo else mxN lo (f + 1)
def R2 (pv rl R f : Nat) : Nat := if leapN (meanN f pv) rl = 1 then R &&& lrN (meanN f pv) else R &&& (7 - lrN (meanN f pv))
def chL (pv rl n lo hi R : Nat) : List (XV Int32) := [.inl (nI pv), .inl (nI rl), .inl (nI n), .inl (nI lo), .inl (nI hi), .inl (nI R)]
theorem t121 (hC : isChip H c pv rl n lo hi R) (hR : R < 8) (hrl : rl < 3) (hpv : pv ≤ 100) (hlo : lo ≤ 100) (hhi : hi ≤ 100) {f : Nat} (hf : f < 100) : ∃ v : Int32, x_To x_tb x_tyl ot (dp + 2) 121 0 (x_en 0 [.inr (some (c)), .inl (nI (f))]) [] H 0 0 (some (.inl v)) (H.set c (.inl (11, chL pv rl (n + 1) (lo2 pv lo f) (hi2 pv hi f) (R2 pv rl R f)))) := by
  obtain ⟨hcA, hc⟩ := id hC
  have hm := meanN_lt (v := f) (p := pv) hf
  have hl := leapN_le (meanN f pv) rl
  by_cases h1 : pv ≤ f
  · have e1 : lo2 pv lo f = lo := if_pos h1
    have e2 : hi2 pv hi f = minN hi f := if_pos h1
    rw [e1, e2]
    by_cases h2 : f < hi
    · rw [show minN hi f = f from if_pos h2]
      by_cases h3 : leapN (meanN f pv) rl = 1
      · rw [show R2 pv rl R f = R &&& lrN (meanN f pv) from if_pos h3]
        refine ⟨nI (((2) * (meanN f pv)) + 1), ?_⟩
        refine xT_aload_n g_q121 g121_0 (rfl) ?_
        refine xT_dup g_q121 g121_1 ?_
        refine xT_getfield g_q121 g121_2 hcA rfl (hc) rfl rfl ?_
        refine xT_icV (y := nI (1)) g_q121 g121_5 (by decide) ?_
        refine xT_iaddV (y := nI (n + 1)) g_q121 g121_6 (bAddN _ _) ?_
        refine xT_putfield g_q121 g121_7 (ci := 11) (j := 2) (ty := (.int, false)) rfl (hc) rfl rfl ?_
        refine xT_iload_n g_q121 g121_10 (rfl) ?_
        refine xT_aload_n g_q121 g121_11 (rfl) ?_
        refine xT_getfield g_q121 g121_12 hcA rfl (gself hc) rfl rfl ?_
        refine xT_invokestatic (r := []) (u := some (.inl (nI (meanN f pv)))) g_q121 g121_15 (j := 78) (so := 3) (by decide +kernel) g_q78 (rfl) (t78 (by omega) (by omega)) ?_
        refine xT_istore_n g_q121 g121_18 (by decide) ?_
        refine xT_iload_n g_q121 g121_19 (lkY) ?_
        refine xT_aload_n g_q121 g121_20 (lkN (by decide) (rfl)) ?_
        refine xT_getfield g_q121 g121_21 hcA rfl (gself hc) rfl rfl ?_
        refine xT_invokestatic (r := []) (u := some (.inl (nI (leapN (meanN f pv) rl)))) g_q121 g121_24 (j := 80) (so := 3) (by decide +kernel) g_q80 (rfl) (t80 (by omega) hrl) ?_
        refine xT_istore_n g_q121 g121_27 (by decide) ?_
        refine xT_iload_n g_q121 g121_28 (lkN (by decide) (lkN (by decide) (rfl))) ?_
        refine xT_aload_n g_q121 g121_29 (lkN (by decide) (lkN (by decide) (rfl))) ?_
        refine xT_getfield g_q121 g121_30 hcA rfl (gself hc) rfl rfl ?_
        refine xT_if_icmpN g_q121 g121_33 (t := 51) (by decide) (c2N (a := f) (b := pv) (by omega) (by omega) (by omega)) ?_
        refine xT_aload_n g_q121 g121_36 (lkN (by decide) (lkN (by decide) (rfl))) ?_
        refine xT_aload_n g_q121 g121_37 (lkN (by decide) (lkN (by decide) (rfl))) ?_
        refine xT_getfield g_q121 g121_38 hcA rfl (gself hc) rfl rfl ?_
        refine xT_iload_n g_q121 g121_41 (lkN (by decide) (lkN (by decide) (rfl))) ?_
        refine xT_minY g_q121 g121_42 (by decide +kernel) (by decide +kernel) (rfl) (c2Y h2 (by omega) (by omega)) ?_
        refine xT_putfield g_q121 g121_45 (ci := 11) (j := 4) (ty := (.int, false)) rfl (gself hc) rfl rfl ?_
        rw [set_set]
        refine xT_goto g_q121 g121_48 (t := 65) (by decide) ?_
        refine xT_aload_n g_q121 g121_65 (lkN (by decide) (lkN (by decide) (rfl))) ?_
        refine xT_dup g_q121 g121_66 ?_
        refine xT_getfield g_q121 g121_67 hcA rfl (gself hc) rfl rfl ?_
        refine xT_iload_n g_q121 g121_70 (lkY) ?_
        refine xT_ifCondN g_q121 g121_71 (t := 81) (by decide) (c0N (b := 0) (by omega) (by omega) (by omega)) ?_
        refine xT_iload_n g_q121 g121_74 (lkN (by decide) (lkY)) ?_
        refine xT_invokestatic (r := []) (u := some (.inl (nI (lrN (meanN f pv))))) g_q121 g121_75 (j := 123) (so := 2) (by decide +kernel) g_q123 (rfl) (t123 (y := meanN f pv) (by omega)) ?_
        refine xT_goto g_q121 g121_78 (t := 87) (by decide) ?_
        refine xT_iandV (y := nI (R &&& lrN (meanN f pv))) g_q121 g121_87 ((b_and3 R hR _ (lrN_lt _)).1) ?_
        refine xT_putfield g_q121 g121_88 (ci := 11) (j := 5) (ty := (.int, false)) rfl (gself hc) rfl rfl ?_
        rw [set_set]
        refine xT_icV (y := nI (2)) g_q121 g121_91 (by decide) ?_
        refine xT_iload_n g_q121 g121_92 (lkN (by decide) (lkY)) ?_
        refine xT_imulV (y := nI ((2) * (meanN f pv))) g_q121 g121_93 (bMulN _ _) ?_
        refine xT_iload_n g_q121 g121_94 (lkY) ?_
        refine xT_ifCondN g_q121 g121_95 (t := 102) (by decide) (c0N (b := 0) (by omega) (by omega) (by omega)) ?_
        refine xT_icV (y := nI (1)) g_q121 g121_98 (by decide) ?_
        refine xT_goto g_q121 g121_99 (t := 103) (by decide) ?_
        refine xT_iaddV (y := nI (((2) * (meanN f pv)) + 1)) g_q121 g121_103 (bAddN _ _) ?_
        exact xT_ireturn g_q121 g121_104 (rfl)
      · rw [show R2 pv rl R f = R &&& (7 - lrN (meanN f pv)) from if_neg h3]
        refine ⟨nI (((2) * (meanN f pv)) + 0), ?_⟩
        refine xT_aload_n g_q121 g121_0 (rfl) ?_
        refine xT_dup g_q121 g121_1 ?_
        refine xT_getfield g_q121 g121_2 hcA rfl (hc) rfl rfl ?_
        refine xT_icV (y := nI (1)) g_q121 g121_5 (by decide) ?_
        refine xT_iaddV (y := nI (n + 1)) g_q121 g121_6 (bAddN _ _) ?_
        refine xT_putfield g_q121 g121_7 (ci := 11) (j := 2) (ty := (.int, false)) rfl (hc) rfl rfl ?_
        refine xT_iload_n g_q121 g121_10 (rfl) ?_
        refine xT_aload_n g_q121 g121_11 (rfl) ?_
        refine xT_getfield g_q121 g121_12 hcA rfl (gself hc) rfl rfl ?_
        refine xT_invokestatic (r := []) (u := some (.inl (nI (meanN f pv)))) g_q121 g121_15 (j := 78) (so := 3) (by decide +kernel) g_q78 (rfl) (t78 (by omega) (by omega)) ?_
        refine xT_istore_n g_q121 g121_18 (by decide) ?_
        refine xT_iload_n g_q121 g121_19 (lkY) ?_
        refine xT_aload_n g_q121 g121_20 (lkN (by decide) (rfl)) ?_
        refine xT_getfield g_q121 g121_21 hcA rfl (gself hc) rfl rfl ?_
        refine xT_invokestatic (r := []) (u := some (.inl (nI (leapN (meanN f pv) rl)))) g_q121 g121_24 (j := 80) (so := 3) (by decide +kernel) g_q80 (rfl) (t80 (by omega) hrl) ?_
        refine xT_istore_n g_q121 g121_27 (by decide) ?_
        refine xT_iload_n g_q121 g121_28 (lkN (by decide) (lkN (by decide) (rfl))) ?_
        refine xT_aload_n g_q121 g121_29 (lkN (by decide) (lkN (by decide) (rfl))) ?_
        refine xT_getfield g_q121 g121_30 hcA rfl (gself hc) rfl rfl ?_
        refine xT_if_icmpN g_q121 g121_33 (t := 51) (by decide) (c2N (a := f) (b := pv) (by omega) (by omega) (by omega)) ?_
        refine xT_aload_n g_q121 g121_36 (lkN (by decide) (lkN (by decide) (rfl))) ?_
        refine xT_aload_n g_q121 g121_37 (lkN (by decide) (lkN (by decide) (rfl))) ?_
        refine xT_getfield g_q121 g121_38 hcA rfl (gself hc) rfl rfl ?_
        refine xT_iload_n g_q121 g121_41 (lkN (by decide) (lkN (by decide) (rfl))) ?_
        refine xT_minY g_q121 g121_42 (by decide +kernel) (by decide +kernel) (rfl) (c2Y h2 (by omega) (by omega)) ?_
        refine xT_putfield g_q121 g121_45 (ci := 11) (j := 4) (ty := (.int, false)) rfl (gself hc) rfl rfl ?_
        rw [set_set]
        refine xT_goto g_q121 g121_48 (t := 65) (by decide) ?_
        refine xT_aload_n g_q121 g121_65 (lkN (by decide) (lkN (by decide) (rfl))) ?_
        refine xT_dup g_q121 g121_66 ?_
        refine xT_getfield g_q121 g121_67 hcA rfl (gself hc) rfl rfl ?_
        refine xT_iload_n g_q121 g121_70 (lkY) ?_
        refine xT_ifCondY g_q121 g121_71 (t := 81) (by decide) (c0Y (b := 0) (by omega)) ?_
        refine xT_iload_n g_q121 g121_81 (lkN (by decide) (lkY)) ?_
        refine xT_invokestatic (r := []) (u := some (.inl (nI (lrN (meanN f pv))))) g_q121 g121_82 (j := 123) (so := 2) (by decide +kernel) g_q123 (rfl) (t123 (y := meanN f pv) (by omega)) ?_
        refine xT_icV (y := -1) g_q121 g121_85 (by decide) ?_
        refine xT_ixorV (y := x_bin 5 (nI (lrN (meanN f pv))) (-1)) g_q121 g121_86 (rfl) ?_
        refine xT_iandV (y := nI (R &&& (7 - lrN (meanN f pv)))) g_q121 g121_87 (b_andc R hR _ (lrN_lt _)) ?_
        refine xT_putfield g_q121 g121_88 (ci := 11) (j := 5) (ty := (.int, false)) rfl (gself hc) rfl rfl ?_
        rw [set_set]
        refine xT_icV (y := nI (2)) g_q121 g121_91 (by decide) ?_
        refine xT_iload_n g_q121 g121_92 (lkN (by decide) (lkY)) ?_
        refine xT_imulV (y := nI ((2) * (meanN f pv))) g_q121 g121_93 (bMulN _ _) ?_
        refine xT_iload_n g_q121 g121_94 (lkY) ?_
        refine xT_ifCondY g_q121 g121_95 (t := 102) (by decide) (c0Y (b := 0) (by omega)) ?_
        refine xT_icV (y := nI (0)) g_q121 g121_102 (by decide) ?_
        refine xT_iaddV (y := nI (((2) * (meanN f pv)) + 0)) g_q121 g121_103 (bAddN _ _) ?_
        exact xT_ireturn g_q121 g121_104 (rfl)
    · rw [show minN hi f = hi from if_neg h2]
      have h2 := Nat.le_of_not_lt h2
      by_cases h3 : leapN (meanN f pv) rl = 1
      · rw [show R2 pv rl R f = R &&& lrN (meanN f pv) from if_pos h3]
        refine ⟨nI (((2) * (meanN f pv)) + 1), ?_⟩
        refine xT_aload_n g_q121 g121_0 (rfl) ?_
        refine xT_dup g_q121 g121_1 ?_
        refine xT_getfield g_q121 g121_2 hcA rfl (hc) rfl rfl ?_
        refine xT_icV (y := nI (1)) g_q121 g121_5 (by decide) ?_
        refine xT_iaddV (y := nI (n + 1)) g_q121 g121_6 (bAddN _ _) ?_
        refine xT_putfield g_q121 g121_7 (ci := 11) (j := 2) (ty := (.int, false)) rfl (hc) rfl rfl ?_
        refine xT_iload_n g_q121 g121_10 (rfl) ?_
        refine xT_aload_n g_q121 g121_11 (rfl) ?_
        refine xT_getfield g_q121 g121_12 hcA rfl (gself hc) rfl rfl ?_
        refine xT_invokestatic (r := []) (u := some (.inl (nI (meanN f pv)))) g_q121 g121_15 (j := 78) (so := 3) (by decide +kernel) g_q78 (rfl) (t78 (by omega) (by omega)) ?_
        refine xT_istore_n g_q121 g121_18 (by decide) ?_
        refine xT_iload_n g_q121 g121_19 (lkY) ?_
        refine xT_aload_n g_q121 g121_20 (lkN (by decide) (rfl)) ?_
        refine xT_getfield g_q121 g121_21 hcA rfl (gself hc) rfl rfl ?_
        refine xT_invokestatic (r := []) (u := some (.inl (nI (leapN (meanN f pv) rl)))) g_q121 g121_24 (j := 80) (so := 3) (by decide +kernel) g_q80 (rfl) (t80 (by omega) hrl) ?_
        refine xT_istore_n g_q121 g121_27 (by decide) ?_
        refine xT_iload_n g_q121 g121_28 (lkN (by decide) (lkN (by decide) (rfl))) ?_
        refine xT_aload_n g_q121 g121_29 (lkN (by decide) (lkN (by decide) (rfl))) ?_
        refine xT_getfield g_q121 g121_30 hcA rfl (gself hc) rfl rfl ?_
        refine xT_if_icmpN g_q121 g121_33 (t := 51) (by decide) (c2N (a := f) (b := pv) (by omega) (by omega) (by omega)) ?_
        refine xT_aload_n g_q121 g121_36 (lkN (by decide) (lkN (by decide) (rfl))) ?_
        refine xT_aload_n g_q121 g121_37 (lkN (by decide) (lkN (by decide) (rfl))) ?_
        refine xT_getfield g_q121 g121_38 hcA rfl (gself hc) rfl rfl ?_
        refine xT_iload_n g_q121 g121_41 (lkN (by decide) (lkN (by decide) (rfl))) ?_
        refine xT_minN g_q121 g121_42 (by decide +kernel) (by decide +kernel) (rfl) (c2N h2 (by omega) (by omega)) ?_
        refine xT_putfield g_q121 g121_45 (ci := 11) (j := 4) (ty := (.int, false)) rfl (gself hc) rfl rfl ?_
        rw [set_set]
        refine xT_goto g_q121 g121_48 (t := 65) (by decide) ?_
        refine xT_aload_n g_q121 g121_65 (lkN (by decide) (lkN (by decide) (rfl))) ?_
        refine xT_dup g_q121 g121_66 ?_
        refine xT_getfield g_q121 g121_67 hcA rfl (gself hc) rfl rfl ?_
        refine xT_iload_n g_q121 g121_70 (lkY) ?_
        refine xT_ifCondN g_q121 g121_71 (t := 81) (by decide) (c0N (b := 0) (by omega) (by omega) (by omega)) ?_
        refine xT_iload_n g_q121 g121_74 (lkN (by decide) (lkY)) ?_
        refine xT_invokestatic (r := []) (u := some (.inl (nI (lrN (meanN f pv))))) g_q121 g121_75 (j := 123) (so := 2) (by decide +kernel) g_q123 (rfl) (t123 (y := meanN f pv) (by omega)) ?_
        refine xT_goto g_q121 g121_78 (t := 87) (by decide) ?_
        refine xT_iandV (y := nI (R &&& lrN (meanN f pv))) g_q121 g121_87 ((b_and3 R hR _ (lrN_lt _)).1) ?_
        refine xT_putfield g_q121 g121_88 (ci := 11) (j := 5) (ty := (.int, false)) rfl (gself hc) rfl rfl ?_
        rw [set_set]
        refine xT_icV (y := nI (2)) g_q121 g121_91 (by decide) ?_
        refine xT_iload_n g_q121 g121_92 (lkN (by decide) (lkY)) ?_
        refine xT_imulV (y := nI ((2) * (meanN f pv))) g_q121 g121_93 (bMulN _ _) ?_
        refine xT_iload_n g_q121 g121_94 (lkY) ?_
        refine xT_ifCondN g_q121 g121_95 (t := 102) (by decide) (c0N (b := 0) (by omega) (by omega) (by omega)) ?_
        refine xT_icV (y := nI (1)) g_q121 g121_98 (by decide) ?_
        refine xT_goto g_q121 g121_99 (t := 103) (by decide) ?_
        refine xT_iaddV (y := nI (((2) * (meanN f pv)) + 1)) g_q121 g121_103 (bAddN _ _) ?_
        exact xT_ireturn g_q121 g121_104 (rfl)
      · rw [show R2 pv rl R f = R &&& (7 - lrN (meanN f pv)) from if_neg h3]
        refine ⟨nI (((2) * (meanN f pv)) + 0), ?_⟩
        refine xT_aload_n g_q121 g121_0 (rfl) ?_
        refine xT_dup g_q121 g121_1 ?_
        refine xT_getfield g_q121 g121_2 hcA rfl (hc) rfl rfl ?_
        refine xT_icV (y := nI (1)) g_q121 g121_5 (by decide) ?_
        refine xT_iaddV (y := nI (n + 1)) g_q121 g121_6 (bAddN _ _) ?_
        refine xT_putfield g_q121 g121_7 (ci := 11) (j := 2) (ty := (.int, false)) rfl (hc) rfl rfl ?_
        refine xT_iload_n g_q121 g121_10 (rfl) ?_
        refine xT_aload_n g_q121 g121_11 (rfl) ?_
        refine xT_getfield g_q121 g121_12 hcA rfl (gself hc) rfl rfl ?_
        refine xT_invokestatic (r := []) (u := some (.inl (nI (meanN f pv)))) g_q121 g121_15 (j := 78) (so := 3) (by decide +kernel) g_q78 (rfl) (t78 (by omega) (by omega)) ?_
        refine xT_istore_n g_q121 g121_18 (by decide) ?_
        refine xT_iload_n g_q121 g121_19 (lkY) ?_
        refine xT_aload_n g_q121 g121_20 (lkN (by decide) (rfl)) ?_
        refine xT_getfield g_q121 g121_21 hcA rfl (gself hc) rfl rfl ?_
        refine xT_invokestatic (r := []) (u := some (.inl (nI (leapN (meanN f pv) rl)))) g_q121 g121_24 (j := 80) (so := 3) (by decide +kernel) g_q80 (rfl) (t80 (by omega) hrl) ?_
        refine xT_istore_n g_q121 g121_27 (by decide) ?_
        refine xT_iload_n g_q121 g121_28 (lkN (by decide) (lkN (by decide) (rfl))) ?_
        refine xT_aload_n g_q121 g121_29 (lkN (by decide) (lkN (by decide) (rfl))) ?_
        refine xT_getfield g_q121 g121_30 hcA rfl (gself hc) rfl rfl ?_
        refine xT_if_icmpN g_q121 g121_33 (t := 51) (by decide) (c2N (a := f) (b := pv) (by omega) (by omega) (by omega)) ?_
        refine xT_aload_n g_q121 g121_36 (lkN (by decide) (lkN (by decide) (rfl))) ?_
        refine xT_aload_n g_q121 g121_37 (lkN (by decide) (lkN (by decide) (rfl))) ?_
        refine xT_getfield g_q121 g121_38 hcA rfl (gself hc) rfl rfl ?_
        refine xT_iload_n g_q121 g121_41 (lkN (by decide) (lkN (by decide) (rfl))) ?_
        refine xT_minN g_q121 g121_42 (by decide +kernel) (by decide +kernel) (rfl) (c2N h2 (by omega) (by omega)) ?_
        refine xT_putfield g_q121 g121_45 (ci := 11) (j := 4) (ty := (.int, false)) rfl (gself hc) rfl rfl ?_
        rw [set_set]
        refine xT_goto g_q121 g121_48 (t := 65) (by decide) ?_
        refine xT_aload_n g_q121 g121_65 (lkN (by decide) (lkN (by decide) (rfl))) ?_
        refine xT_dup g_q121 g121_66 ?_
        refine xT_getfield g_q121 g121_67 hcA rfl (gself hc) rfl rfl ?_
        refine xT_iload_n g_q121 g121_70 (lkY) ?_
        refine xT_ifCondY g_q121 g121_71 (t := 81) (by decide) (c0Y (b := 0) (by omega)) ?_
        refine xT_iload_n g_q121 g121_81 (lkN (by decide) (lkY)) ?_
        refine xT_invokestatic (r := []) (u := some (.inl (nI (lrN (meanN f pv))))) g_q121 g121_82 (j := 123) (so := 2) (by decide +kernel) g_q123 (rfl) (t123 (y := meanN f pv) (by omega)) ?_
        refine xT_icV (y := -1) g_q121 g121_85 (by decide) ?_
        refine xT_ixorV (y := x_bin 5 (nI (lrN (meanN f pv))) (-1)) g_q121 g121_86 (rfl) ?_
        refine xT_iandV (y := nI (R &&& (7 - lrN (meanN f pv)))) g_q121 g121_87 (b_andc R hR _ (lrN_lt _)) ?_
        refine xT_putfield g_q121 g121_88 (ci := 11) (j := 5) (ty := (.int, false)) rfl (gself hc) rfl rfl ?_
        rw [set_set]
        refine xT_icV (y := nI (2)) g_q121 g121_91 (by decide) ?_
        refine xT_iload_n g_q121 g121_92 (lkN (by decide) (lkY)) ?_
        refine xT_imulV (y := nI ((2) * (meanN f pv))) g_q121 g121_93 (bMulN _ _) ?_
        refine xT_iload_n g_q121 g121_94 (lkY) ?_
        refine xT_ifCondY g_q121 g121_95 (t := 102) (by decide) (c0Y (b := 0) (by omega)) ?_
        refine xT_icV (y := nI (0)) g_q121 g121_102 (by decide) ?_
        refine xT_iaddV (y := nI (((2) * (meanN f pv)) + 0)) g_q121 g121_103 (bAddN _ _) ?_
        exact xT_ireturn g_q121 g121_104 (rfl)
  · have h1 := Nat.lt_of_not_le h1
    have e1 : lo2 pv lo f = mxN lo (f + 1) := if_neg (by omega)
    have e2 : hi2 pv hi f = hi := if_neg (by omega)
    rw [e1, e2]
    by_cases h2 : lo < f + 1
    · rw [show mxN lo (f + 1) = f + 1 from if_pos h2]
      by_cases h3 : leapN (meanN f pv) rl = 1
      · rw [show R2 pv rl R f = R &&& lrN (meanN f pv) from if_pos h3]
        refine ⟨nI (((2) * (meanN f pv)) + 1), ?_⟩
        refine xT_aload_n g_q121 g121_0 (rfl) ?_
        refine xT_dup g_q121 g121_1 ?_
        refine xT_getfield g_q121 g121_2 hcA rfl (hc) rfl rfl ?_
        refine xT_icV (y := nI (1)) g_q121 g121_5 (by decide) ?_
        refine xT_iaddV (y := nI (n + 1)) g_q121 g121_6 (bAddN _ _) ?_
        refine xT_putfield g_q121 g121_7 (ci := 11) (j := 2) (ty := (.int, false)) rfl (hc) rfl rfl ?_
        refine xT_iload_n g_q121 g121_10 (rfl) ?_
        refine xT_aload_n g_q121 g121_11 (rfl) ?_
        refine xT_getfield g_q121 g121_12 hcA rfl (gself hc) rfl rfl ?_
        refine xT_invokestatic (r := []) (u := some (.inl (nI (meanN f pv)))) g_q121 g121_15 (j := 78) (so := 3) (by decide +kernel) g_q78 (rfl) (t78 (by omega) (by omega)) ?_
        refine xT_istore_n g_q121 g121_18 (by decide) ?_
        refine xT_iload_n g_q121 g121_19 (lkY) ?_
        refine xT_aload_n g_q121 g121_20 (lkN (by decide) (rfl)) ?_
        refine xT_getfield g_q121 g121_21 hcA rfl (gself hc) rfl rfl ?_
        refine xT_invokestatic (r := []) (u := some (.inl (nI (leapN (meanN f pv) rl)))) g_q121 g121_24 (j := 80) (so := 3) (by decide +kernel) g_q80 (rfl) (t80 (by omega) hrl) ?_
        refine xT_istore_n g_q121 g121_27 (by decide) ?_
        refine xT_iload_n g_q121 g121_28 (lkN (by decide) (lkN (by decide) (rfl))) ?_
        refine xT_aload_n g_q121 g121_29 (lkN (by decide) (lkN (by decide) (rfl))) ?_
        refine xT_getfield g_q121 g121_30 hcA rfl (gself hc) rfl rfl ?_
        refine xT_if_icmpY g_q121 g121_33 (t := 51) (by decide) (c2Y (a := f) (b := pv) (by omega) (by omega) (by omega)) ?_
        refine xT_aload_n g_q121 g121_51 (lkN (by decide) (lkN (by decide) (rfl))) ?_
        refine xT_aload_n g_q121 g121_52 (lkN (by decide) (lkN (by decide) (rfl))) ?_
        refine xT_getfield g_q121 g121_53 hcA rfl (gself hc) rfl rfl ?_
        refine xT_iload_n g_q121 g121_56 (lkN (by decide) (lkN (by decide) (rfl))) ?_
        refine xT_icV (y := nI (1)) g_q121 g121_57 (by decide) ?_
        refine xT_iaddV (y := nI (f + 1)) g_q121 g121_58 (bAddN _ _) ?_
        refine xT_maxY g_q121 g121_59 (by decide +kernel) (by decide +kernel) (rfl) (c2Y h2 (by omega) (by omega)) ?_
        refine xT_putfield g_q121 g121_62 (ci := 11) (j := 3) (ty := (.int, false)) rfl (gself hc) rfl rfl ?_
        rw [set_set]
        refine xT_aload_n g_q121 g121_65 (lkN (by decide) (lkN (by decide) (rfl))) ?_
        refine xT_dup g_q121 g121_66 ?_
        refine xT_getfield g_q121 g121_67 hcA rfl (gself hc) rfl rfl ?_
        refine xT_iload_n g_q121 g121_70 (lkY) ?_
        refine xT_ifCondN g_q121 g121_71 (t := 81) (by decide) (c0N (b := 0) (by omega) (by omega) (by omega)) ?_
        refine xT_iload_n g_q121 g121_74 (lkN (by decide) (lkY)) ?_
        refine xT_invokestatic (r := []) (u := some (.inl (nI (lrN (meanN f pv))))) g_q121 g121_75 (j := 123) (so := 2) (by decide +kernel) g_q123 (rfl) (t123 (y := meanN f pv) (by omega)) ?_
        refine xT_goto g_q121 g121_78 (t := 87) (by decide) ?_
        refine xT_iandV (y := nI (R &&& lrN (meanN f pv))) g_q121 g121_87 ((b_and3 R hR _ (lrN_lt _)).1) ?_
        refine xT_putfield g_q121 g121_88 (ci := 11) (j := 5) (ty := (.int, false)) rfl (gself hc) rfl rfl ?_
        rw [set_set]
        refine xT_icV (y := nI (2)) g_q121 g121_91 (by decide) ?_
        refine xT_iload_n g_q121 g121_92 (lkN (by decide) (lkY)) ?_
        refine xT_imulV (y := nI ((2) * (meanN f pv))) g_q121 g121_93 (bMulN _ _) ?_
        refine xT_iload_n g_q121 g121_94 (lkY) ?_
        refine xT_ifCondN g_q121 g121_95 (t := 102) (by decide) (c0N (b := 0) (by omega) (by omega) (by omega)) ?_
        refine xT_icV (y := nI (1)) g_q121 g121_98 (by decide) ?_
        refine xT_goto g_q121 g121_99 (t := 103) (by decide) ?_
        refine xT_iaddV (y := nI (((2) * (meanN f pv)) + 1)) g_q121 g121_103 (bAddN _ _) ?_
        exact xT_ireturn g_q121 g121_104 (rfl)
      · rw [show R2 pv rl R f = R &&& (7 - lrN (meanN f pv)) from if_neg h3]
        refine ⟨nI (((2) * (meanN f pv)) + 0), ?_⟩
        refine xT_aload_n g_q121 g121_0 (rfl) ?_
        refine xT_dup g_q121 g121_1 ?_
        refine xT_getfield g_q121 g121_2 hcA rfl (hc) rfl rfl ?_
        refine xT_icV (y := nI (1)) g_q121 g121_5 (by decide) ?_
        refine xT_iaddV (y := nI (n + 1)) g_q121 g121_6 (bAddN _ _) ?_
        refine xT_putfield g_q121 g121_7 (ci := 11) (j := 2) (ty := (.int, false)) rfl (hc) rfl rfl ?_
        refine xT_iload_n g_q121 g121_10 (rfl) ?_
        refine xT_aload_n g_q121 g121_11 (rfl) ?_
        refine xT_getfield g_q121 g121_12 hcA rfl (gself hc) rfl rfl ?_
        refine xT_invokestatic (r := []) (u := some (.inl (nI (meanN f pv)))) g_q121 g121_15 (j := 78) (so := 3) (by decide +kernel) g_q78 (rfl) (t78 (by omega) (by omega)) ?_
        refine xT_istore_n g_q121 g121_18 (by decide) ?_
        refine xT_iload_n g_q121 g121_19 (lkY) ?_
        refine xT_aload_n g_q121 g121_20 (lkN (by decide) (rfl)) ?_
        refine xT_getfield g_q121 g121_21 hcA rfl (gself hc) rfl rfl ?_
        refine xT_invokestatic (r := []) (u := some (.inl (nI (leapN (meanN f pv) rl)))) g_q121 g121_24 (j := 80) (so := 3) (by decide +kernel) g_q80 (rfl) (t80 (by omega) hrl) ?_
        refine xT_istore_n g_q121 g121_27 (by decide) ?_
        refine xT_iload_n g_q121 g121_28 (lkN (by decide) (lkN (by decide) (rfl))) ?_
        refine xT_aload_n g_q121 g121_29 (lkN (by decide) (lkN (by decide) (rfl))) ?_
        refine xT_getfield g_q121 g121_30 hcA rfl (gself hc) rfl rfl ?_
        refine xT_if_icmpY g_q121 g121_33 (t := 51) (by decide) (c2Y (a := f) (b := pv) (by omega) (by omega) (by omega)) ?_
        refine xT_aload_n g_q121 g121_51 (lkN (by decide) (lkN (by decide) (rfl))) ?_
        refine xT_aload_n g_q121 g121_52 (lkN (by decide) (lkN (by decide) (rfl))) ?_
        refine xT_getfield g_q121 g121_53 hcA rfl (gself hc) rfl rfl ?_
        refine xT_iload_n g_q121 g121_56 (lkN (by decide) (lkN (by decide) (rfl))) ?_
        refine xT_icV (y := nI (1)) g_q121 g121_57 (by decide) ?_
        refine xT_iaddV (y := nI (f + 1)) g_q121 g121_58 (bAddN _ _) ?_
        refine xT_maxY g_q121 g121_59 (by decide +kernel) (by decide +kernel) (rfl) (c2Y h2 (by omega) (by omega)) ?_
        refine xT_putfield g_q121 g121_62 (ci := 11) (j := 3) (ty := (.int, false)) rfl (gself hc) rfl rfl ?_
        rw [set_set]
        refine xT_aload_n g_q121 g121_65 (lkN (by decide) (lkN (by decide) (rfl))) ?_
        refine xT_dup g_q121 g121_66 ?_
        refine xT_getfield g_q121 g121_67 hcA rfl (gself hc) rfl rfl ?_
        refine xT_iload_n g_q121 g121_70 (lkY) ?_
        refine xT_ifCondY g_q121 g121_71 (t := 81) (by decide) (c0Y (b := 0) (by omega)) ?_
        refine xT_iload_n g_q121 g121_81 (lkN (by decide) (lkY)) ?_
        refine xT_invokestatic (r := []) (u := some (.inl (nI (lrN (meanN f pv))))) g_q121 g121_82 (j := 123) (so := 2) (by decide +kernel) g_q123 (rfl) (t123 (y := meanN f pv) (by omega)) ?_
        refine xT_icV (y := -1) g_q121 g121_85 (by decide) ?_
        refine xT_ixorV (y := x_bin 5 (nI (lrN (meanN f pv))) (-1)) g_q121 g121_86 (rfl) ?_
        refine xT_iandV (y := nI (R &&& (7 - lrN (meanN f pv)))) g_q121 g121_87 (b_andc R hR _ (lrN_lt _)) ?_
        refine xT_putfield g_q121 g121_88 (ci := 11) (j := 5) (ty := (.int, false)) rfl (gself hc) rfl rfl ?_
        rw [set_set]
        refine xT_icV (y := nI (2)) g_q121 g121_91 (by decide) ?_
        refine xT_iload_n g_q121 g121_92 (lkN (by decide) (lkY)) ?_
        refine xT_imulV (y := nI ((2) * (meanN f pv))) g_q121 g121_93 (bMulN _ _) ?_
        refine xT_iload_n g_q121 g121_94 (lkY) ?_
        refine xT_ifCondY g_q121 g121_95 (t := 102) (by decide) (c0Y (b := 0) (by omega)) ?_
        refine xT_icV (y := nI (0)) g_q121 g121_102 (by decide) ?_
        refine xT_iaddV (y := nI (((2) * (meanN f pv)) + 0)) g_q121 g121_103 (bAddN _ _) ?_
        exact xT_ireturn g_q121 g121_104 (rfl)
    · rw [show mxN lo (f + 1) = lo from if_neg h2]
      have h2 := Nat.le_of_not_lt h2
      by_cases h3 : leapN (meanN f pv) rl = 1
      · rw [show R2 pv rl R f = R &&& lrN (meanN f pv) from if_pos h3]
        refine ⟨nI (((2) * (meanN f pv)) + 1), ?_⟩
        refine xT_aload_n g_q121 g121_0 (rfl) ?_
        refine xT_dup g_q121 g121_1 ?_
        refine xT_getfield g_q121 g121_2 hcA rfl (hc) rfl rfl ?_
        refine xT_icV (y := nI (1)) g_q121 g121_5 (by decide) ?_
        refine xT_iaddV (y := nI (n + 1)) g_q121 g121_6 (bAddN _ _) ?_
        refine xT_putfield g_q121 g121_7 (ci := 11) (j := 2) (ty := (.int, false)) rfl (hc) rfl rfl ?_
        refine xT_iload_n g_q121 g121_10 (rfl) ?_
        refine xT_aload_n g_q121 g121_11 (rfl) ?_
        refine xT_getfield g_q121 g121_12 hcA rfl (gself hc) rfl rfl ?_
        refine xT_invokestatic (r := []) (u := some (.inl (nI (meanN f pv)))) g_q121 g121_15 (j := 78) (so := 3) (by decide +kernel) g_q78 (rfl) (t78 (by omega) (by omega)) ?_
        refine xT_istore_n g_q121 g121_18 (by decide) ?_
        refine xT_iload_n g_q121 g121_19 (lkY) ?_
        refine xT_aload_n g_q121 g121_20 (lkN (by decide) (rfl)) ?_
        refine xT_getfield g_q121 g121_21 hcA rfl (gself hc) rfl rfl ?_
        refine xT_invokestatic (r := []) (u := some (.inl (nI (leapN (meanN f pv) rl)))) g_q121 g121_24 (j := 80) (so := 3) (by decide +kernel) g_q80 (rfl) (t80 (by omega) hrl) ?_
        refine xT_istore_n g_q121 g121_27 (by decide) ?_
        refine xT_iload_n g_q121 g121_28 (lkN (by decide) (lkN (by decide) (rfl))) ?_
        refine xT_aload_n g_q121 g121_29 (lkN (by decide) (lkN (by decide) (rfl))) ?_
        refine xT_getfield g_q121 g121_30 hcA rfl (gself hc) rfl rfl ?_
        refine xT_if_icmpY g_q121 g121_33 (t := 51) (by decide) (c2Y (a := f) (b := pv) (by omega) (by omega) (by omega)) ?_
        refine xT_aload_n g_q121 g121_51 (lkN (by decide) (lkN (by decide) (rfl))) ?_
        refine xT_aload_n g_q121 g121_52 (lkN (by decide) (lkN (by decide) (rfl))) ?_
        refine xT_getfield g_q121 g121_53 hcA rfl (gself hc) rfl rfl ?_
        refine xT_iload_n g_q121 g121_56 (lkN (by decide) (lkN (by decide) (rfl))) ?_
        refine xT_icV (y := nI (1)) g_q121 g121_57 (by decide) ?_
        refine xT_iaddV (y := nI (f + 1)) g_q121 g121_58 (bAddN _ _) ?_
        refine xT_maxN g_q121 g121_59 (by decide +kernel) (by decide +kernel) (rfl) (c2N h2 (by omega) (by omega)) ?_
        refine xT_putfield g_q121 g121_62 (ci := 11) (j := 3) (ty := (.int, false)) rfl (gself hc) rfl rfl ?_
        rw [set_set]
        refine xT_aload_n g_q121 g121_65 (lkN (by decide) (lkN (by decide) (rfl))) ?_
        refine xT_dup g_q121 g121_66 ?_
        refine xT_getfield g_q121 g121_67 hcA rfl (gself hc) rfl rfl ?_
        refine xT_iload_n g_q121 g121_70 (lkY) ?_
        refine xT_ifCondN g_q121 g121_71 (t := 81) (by decide) (c0N (b := 0) (by omega) (by omega) (by omega)) ?_
        refine xT_iload_n g_q121 g121_74 (lkN (by decide) (lkY)) ?_
        refine xT_invokestatic (r := []) (u := some (.inl (nI (lrN (meanN f pv))))) g_q121 g121_75 (j := 123) (so := 2) (by decide +kernel) g_q123 (rfl) (t123 (y := meanN f pv) (by omega)) ?_
        refine xT_goto g_q121 g121_78 (t := 87) (by decide) ?_
        refine xT_iandV (y := nI (R &&& lrN (meanN f pv))) g_q121 g121_87 ((b_and3 R hR _ (lrN_lt _)).1) ?_
        refine xT_putfield g_q121 g121_88 (ci := 11) (j := 5) (ty := (.int, false)) rfl (gself hc) rfl rfl ?_
        rw [set_set]
        refine xT_icV (y := nI (2)) g_q121 g121_91 (by decide) ?_
        refine xT_iload_n g_q121 g121_92 (lkN (by decide) (lkY)) ?_
        refine xT_imulV (y := nI ((2) * (meanN f pv))) g_q121 g121_93 (bMulN _ _) ?_
        refine xT_iload_n g_q121 g121_94 (lkY) ?_
        refine xT_ifCondN g_q121 g121_95 (t := 102) (by decide) (c0N (b := 0) (by omega) (by omega) (by omega)) ?_
        refine xT_icV (y := nI (1)) g_q121 g121_98 (by decide) ?_
        refine xT_goto g_q121 g121_99 (t := 103) (by decide) ?_
        refine xT_iaddV (y := nI (((2) * (meanN f pv)) + 1)) g_q121 g121_103 (bAddN _ _) ?_
        exact xT_ireturn g_q121 g121_104 (rfl)
      · rw [show R2 pv rl R f = R &&& (7 - lrN (meanN f pv)) from if_neg h3]
        refine ⟨nI (((2) * (meanN f pv)) + 0), ?_⟩
        refine xT_aload_n g_q121 g121_0 (rfl) ?_
        refine xT_dup g_q121 g121_1 ?_
        refine xT_getfield g_q121 g121_2 hcA rfl (hc) rfl rfl ?_
        refine xT_icV (y := nI (1)) g_q121 g121_5 (by decide) ?_
        refine xT_iaddV (y := nI (n + 1)) g_q121 g121_6 (bAddN _ _) ?_
        refine xT_putfield g_q121 g121_7 (ci := 11) (j := 2) (ty := (.int, false)) rfl (hc) rfl rfl ?_
        refine xT_iload_n g_q121 g121_10 (rfl) ?_
        refine xT_aload_n g_q121 g121_11 (rfl) ?_
        refine xT_getfield g_q121 g121_12 hcA rfl (gself hc) rfl rfl ?_
        refine xT_invokestatic (r := []) (u := some (.inl (nI (meanN f pv)))) g_q121 g121_15 (j := 78) (so := 3) (by decide +kernel) g_q78 (rfl) (t78 (by omega) (by omega)) ?_
        refine xT_istore_n g_q121 g121_18 (by decide) ?_
        refine xT_iload_n g_q121 g121_19 (lkY) ?_
        refine xT_aload_n g_q121 g121_20 (lkN (by decide) (rfl)) ?_
        refine xT_getfield g_q121 g121_21 hcA rfl (gself hc) rfl rfl ?_
        refine xT_invokestatic (r := []) (u := some (.inl (nI (leapN (meanN f pv) rl)))) g_q121 g121_24 (j := 80) (so := 3) (by decide +kernel) g_q80 (rfl) (t80 (by omega) hrl) ?_
        refine xT_istore_n g_q121 g121_27 (by decide) ?_
        refine xT_iload_n g_q121 g121_28 (lkN (by decide) (lkN (by decide) (rfl))) ?_
        refine xT_aload_n g_q121 g121_29 (lkN (by decide) (lkN (by decide) (rfl))) ?_
        refine xT_getfield g_q121 g121_30 hcA rfl (gself hc) rfl rfl ?_
        refine xT_if_icmpY g_q121 g121_33 (t := 51) (by decide) (c2Y (a := f) (b := pv) (by omega) (by omega) (by omega)) ?_
        refine xT_aload_n g_q121 g121_51 (lkN (by decide) (lkN (by decide) (rfl))) ?_
        refine xT_aload_n g_q121 g121_52 (lkN (by decide) (lkN (by decide) (rfl))) ?_
        refine xT_getfield g_q121 g121_53 hcA rfl (gself hc) rfl rfl ?_
        refine xT_iload_n g_q121 g121_56 (lkN (by decide) (lkN (by decide) (rfl))) ?_
        refine xT_icV (y := nI (1)) g_q121 g121_57 (by decide) ?_
        refine xT_iaddV (y := nI (f + 1)) g_q121 g121_58 (bAddN _ _) ?_
        refine xT_maxN g_q121 g121_59 (by decide +kernel) (by decide +kernel) (rfl) (c2N h2 (by omega) (by omega)) ?_
        refine xT_putfield g_q121 g121_62 (ci := 11) (j := 3) (ty := (.int, false)) rfl (gself hc) rfl rfl ?_
        rw [set_set]
        refine xT_aload_n g_q121 g121_65 (lkN (by decide) (lkN (by decide) (rfl))) ?_
        refine xT_dup g_q121 g121_66 ?_
        refine xT_getfield g_q121 g121_67 hcA rfl (gself hc) rfl rfl ?_
        refine xT_iload_n g_q121 g121_70 (lkY) ?_
        refine xT_ifCondY g_q121 g121_71 (t := 81) (by decide) (c0Y (b := 0) (by omega)) ?_
        refine xT_iload_n g_q121 g121_81 (lkN (by decide) (lkY)) ?_
        refine xT_invokestatic (r := []) (u := some (.inl (nI (lrN (meanN f pv))))) g_q121 g121_82 (j := 123) (so := 2) (by decide +kernel) g_q123 (rfl) (t123 (y := meanN f pv) (by omega)) ?_
        refine xT_icV (y := -1) g_q121 g121_85 (by decide) ?_
        refine xT_ixorV (y := x_bin 5 (nI (lrN (meanN f pv))) (-1)) g_q121 g121_86 (rfl) ?_
        refine xT_iandV (y := nI (R &&& (7 - lrN (meanN f pv)))) g_q121 g121_87 (b_andc R hR _ (lrN_lt _)) ?_
        refine xT_putfield g_q121 g121_88 (ci := 11) (j := 5) (ty := (.int, false)) rfl (gself hc) rfl rfl ?_
        rw [set_set]
        refine xT_icV (y := nI (2)) g_q121 g121_91 (by decide) ?_
        refine xT_iload_n g_q121 g121_92 (lkN (by decide) (lkY)) ?_
        refine xT_imulV (y := nI ((2) * (meanN f pv))) g_q121 g121_93 (bMulN _ _) ?_
        refine xT_iload_n g_q121 g121_94 (lkY) ?_
        refine xT_ifCondY g_q121 g121_95 (t := 102) (by decide) (c0Y (b := 0) (by omega)) ?_
        refine xT_icV (y := nI (0)) g_q121 g121_102 (by decide) ?_
        refine xT_iaddV (y := nI (((2) * (meanN f pv)) + 0)) g_q121 g121_103 (bAddN _ _) ?_
        exact xT_ireturn g_q121 g121_104 (rfl)

end XH258
