/-! p25 by hand, 1. -/
noncomputable section XH251
variable {ot : XO Int32} {dp : Nat} {H : List (XC Int32)} {c pv rl n lo hi hi_ R : Nat} {a cnt ca : Nat} {vs : List (XV Int32)} {b i : Nat} {y : Nat → Nat}
/-- a chip: pivot, rule, how often asked, what its answers leave -/
def isChip (H : List (XC Int32)) (c pv rl n lo hi R : Nat) : Prop := ¬ 1000000 < c ∧ H[c]? = some (.inl (11, [.inl (nI pv), .inl (nI rl), .inl (nI n), .inl (nI lo), .inl (nI hi), .inl (nI R)]))
def mraN (R y : Nat) : Nat := if popN (R &&& lrN y) < popN R - popN (R &&& lrN y) then popN R - popN (R &&& lrN y) else popN (R &&& lrN y)
theorem mraN_le {R y : Nat} (hR : R < 8) : mraN R y ≤ 3 := by
  obtain ⟨-, b2, -, b4⟩ := b_and3 R hR (lrN y) (lrN_lt y)
  unfold mraN
  split
  · omega
  · omega
theorem t130 (hC : isChip H c pv rl n lo hi R) (hR : R < 8) {y : Nat} (hy : y < 2 ^ 31) : x_To x_tb x_tyl ot (dp + 2) 130 0 (x_en 0 [.inr (some (c)), .inl (nI (y))]) [] H 0 0 (some (.inl (nI (mraN R y)))) H := by
  obtain ⟨hcA, hc⟩ := id hC
  obtain ⟨b1, b2, b3, b4⟩ := b_and3 R hR (lrN y) (lrN_lt y)
  by_cases h : popN (R &&& lrN y) < popN R - popN (R &&& lrN y)
  · rw [show mraN R y = popN R - popN (R &&& lrN y) from if_pos h]
    refine xT_aload_n g_q130 g130_0 (rfl) ?_
    refine xT_getfield g_q130 g130_1 hcA rfl hc rfl rfl ?_
    refine xT_iload_n g_q130 g130_4 (rfl) ?_
    refine xT_invokestatic (r := []) (u := some (.inl (nI (lrN y)))) g_q130 g130_5 (j := 123) (so := 2) (by decide +kernel) g_q123 (rfl) (t123 hy) ?_
    refine xT_iandV (y := nI (R &&& lrN y)) g_q130 g130_8 (b1) ?_
    refine xT_invokestatic (r := []) (u := some (.inl (nI (popN (R &&& lrN y))))) g_q130 g130_9 (j := 126) (so := 2) (by decide +kernel) g_q126 (rfl) (t126 b3) ?_
    refine xT_istore_n g_q130 g130_12 (by decide) ?_
    refine xT_iload_n g_q130 g130_13 (lkY) ?_
    refine xT_aload_n g_q130 g130_14 (lkN (by decide) (rfl)) ?_
    refine xT_getfield g_q130 g130_15 hcA rfl hc rfl rfl ?_
    refine xT_invokestatic (r := []) (u := some (.inl (nI (popN R)))) g_q130 g130_18 (j := 126) (so := 2) (by decide +kernel) g_q126 (rfl) (t126 hR) ?_
    refine xT_iload_n g_q130 g130_21 (lkY) ?_
    refine xT_isubV (y := nI (popN R - popN (R &&& lrN y))) g_q130 g130_22 (bSubN b2) ?_
    refine xT_maxY g_q130 g130_23 (by decide +kernel) (by decide +kernel) (rfl) (c2Y h (by omega) (by omega)) ?_
    exact xT_ireturn g_q130 g130_26 (rfl)
  · have h := Nat.le_of_not_lt h
    rw [show mraN R y = popN (R &&& lrN y) from if_neg (Nat.not_lt.mpr h)]
    refine xT_aload_n g_q130 g130_0 (rfl) ?_
    refine xT_getfield g_q130 g130_1 hcA rfl hc rfl rfl ?_
    refine xT_iload_n g_q130 g130_4 (rfl) ?_
    refine xT_invokestatic (r := []) (u := some (.inl (nI (lrN y)))) g_q130 g130_5 (j := 123) (so := 2) (by decide +kernel) g_q123 (rfl) (t123 hy) ?_
    refine xT_iandV (y := nI (R &&& lrN y)) g_q130 g130_8 (b1) ?_
    refine xT_invokestatic (r := []) (u := some (.inl (nI (popN (R &&& lrN y))))) g_q130 g130_9 (j := 126) (so := 2) (by decide +kernel) g_q126 (rfl) (t126 b3) ?_
    refine xT_istore_n g_q130 g130_12 (by decide) ?_
    refine xT_iload_n g_q130 g130_13 (lkY) ?_
    refine xT_aload_n g_q130 g130_14 (lkN (by decide) (rfl)) ?_
    refine xT_getfield g_q130 g130_15 hcA rfl hc rfl rfl ?_
    refine xT_invokestatic (r := []) (u := some (.inl (nI (popN R)))) g_q130 g130_18 (j := 126) (so := 2) (by decide +kernel) g_q126 (rfl) (t126 hR) ?_
    refine xT_iload_n g_q130 g130_21 (lkY) ?_
    refine xT_isubV (y := nI (popN R - popN (R &&& lrN y))) g_q130 g130_22 (bSubN b2) ?_
    refine xT_maxN g_q130 g130_23 (by decide +kernel) (by decide +kernel) (rfl) (c2N h (by omega) (by omega)) ?_
    exact xT_ireturn g_q130 g130_26 (rfl)
set_option maxRecDepth 100000 in
theorem b_neg : ∀ m, m < 101 → ∀ lo, lo < 102 → m < lo → x_cmp 2 (nI 0) (x_bin 0 (x_bin 1 (nI m) (nI lo)) (nI 1)) = false := by decide +kernel
theorem b_small {a b : Nat} (ha : a ≤ 101) (hb : b ≤ 3) : a * b < 2 ^ 31 := Nat.lt_of_le_of_lt (Nat.mul_le_mul ha hb) (by decide)
def minN (a b : Nat) : Nat := if b < a then b else a
def earN (lo hi f : Nat) : Nat := if lo ≤ minN f hi then minN f hi - lo + 1 else 0
def mxN (a b : Nat) : Nat := if a < b then b else a
def maN (lo hi R f : Nat) : Nat := mxN (earN lo hi f * mraN R (1900 + f)) ((hi - lo + 1 - earN lo hi f) * mraN R (2000 + f))
set_option maxHeartbeats 4000000 in
theorem t129 (hC : isChip H c pv rl n lo hi R) (hR : R < 8) (hlh : lo ≤ hi) (hhi : hi ≤ 100) {f : Nat} (hf : f < 100) : x_To x_tb x_tyl ot (dp + 3) 129 0 (x_en 0 [.inr (some (c)), .inl (nI (f))]) [] H 0 0 (some (.inl (nI (maN lo hi R f)))) H := by
  obtain ⟨hcA, hc⟩ := id hC
  have m1 := mraN_le (y := 1900 + f) hR
  have m2 := mraN_le (y := 2000 + f) hR
  by_cases h1 : hi < f
  · have e0 : minN f hi = hi := if_pos h1
    by_cases h2 : lo ≤ hi
    · have e1 : earN lo hi f = hi - lo + 1 := by
        unfold earN
        rw [e0, if_pos h2]
      by_cases h3 : (hi - lo + 1) * (mraN R (1900 + f)) < (hi - lo + 1 - (hi - lo + 1)) * (mraN R (2000 + f))
      · rw [show maN lo hi R f = (hi - lo + 1 - (hi - lo + 1)) * (mraN R (2000 + f)) from by
          unfold maN
          rw [e1]
          exact if_pos h3]
        refine xT_icV (y := nI (0)) g_q129 g129_0 (by decide) ?_
        refine xT_iload_n g_q129 g129_1 (rfl) ?_
        refine xT_aload_n g_q129 g129_2 (rfl) ?_
        refine xT_getfield g_q129 g129_3 hcA rfl hc rfl rfl ?_
        refine xT_minY g_q129 g129_6 (by decide +kernel) (by decide +kernel) (rfl) (c2Y h1 (by omega) (by omega)) ?_
        refine xT_aload_n g_q129 g129_9 (rfl) ?_
        refine xT_getfield g_q129 g129_10 hcA rfl hc rfl rfl ?_
        refine xT_isubV (y := nI (hi - lo)) g_q129 g129_13 (bSubN h2) ?_
        refine xT_icV (y := nI (1)) g_q129 g129_14 (by decide) ?_
        refine xT_iaddV (y := nI (hi - lo + 1)) g_q129 g129_15 (bAddN _ _) ?_
        refine xT_maxY g_q129 g129_16 (by decide +kernel) (by decide +kernel) (rfl) (c2Y (a := 0) (by omega) (by omega) (by omega)) ?_
        refine xT_istore_n g_q129 g129_19 (by decide) ?_
        refine xT_aload_n g_q129 g129_20 (lkN (by decide) (rfl)) ?_
        refine xT_getfield g_q129 g129_21 hcA rfl hc rfl rfl ?_
        refine xT_aload_n g_q129 g129_24 (lkN (by decide) (rfl)) ?_
        refine xT_getfield g_q129 g129_25 hcA rfl hc rfl rfl ?_
        refine xT_isubV (y := nI (hi - lo)) g_q129 g129_28 (bSubN (by omega)) ?_
        refine xT_icV (y := nI (1)) g_q129 g129_29 (by decide) ?_
        refine xT_iaddV (y := nI (hi - lo + 1)) g_q129 g129_30 (bAddN _ _) ?_
        refine xT_iload_n g_q129 g129_31 (lkY) ?_
        refine xT_isubV (y := nI (hi - lo + 1 - (hi - lo + 1))) g_q129 g129_32 (bSubN (by omega)) ?_
        refine xT_istore_n g_q129 g129_33 (by decide) ?_
        refine xT_iload_n g_q129 g129_34 (lkN (by decide) (lkY)) ?_
        refine xT_aload_n g_q129 g129_35 (lkN (by decide) (lkN (by decide) (rfl))) ?_
        refine xT_siV (y := nI (1900)) g_q129 g129_36 (by decide) ?_
        refine xT_iload_n g_q129 g129_39 (lkN (by decide) (lkN (by decide) (rfl))) ?_
        refine xT_iaddV (y := nI (1900 + f)) g_q129 g129_40 (bAddN _ _) ?_
        refine xT_invokevirtual (r := [.inl (nI (hi - lo + 1))]) (u := some (.inl (nI (mraN R (1900 + f))))) g_q129 g129_41 (j := 130) (so := 0) (by decide +kernel) g_q130 rfl (by rw [x_rcM hcA hc]; rfl) (t130 hC hR (by omega)) ?_
        refine xT_imulV (y := nI ((hi - lo + 1) * (mraN R (1900 + f)))) g_q129 g129_44 (bMulN _ _) ?_
        refine xT_iload_n g_q129 g129_45 (lkY) ?_
        refine xT_aload_n g_q129 g129_46 (lkN (by decide) (lkN (by decide) (rfl))) ?_
        refine xT_siV (y := nI (2000)) g_q129 g129_47 (by decide) ?_
        refine xT_iload_n g_q129 g129_50 (lkN (by decide) (lkN (by decide) (rfl))) ?_
        refine xT_iaddV (y := nI (2000 + f)) g_q129 g129_51 (bAddN _ _) ?_
        refine xT_invokevirtual (r := [.inl (nI (hi - lo + 1 - (hi - lo + 1))), .inl (nI ((hi - lo + 1) * (mraN R (1900 + f))))]) (u := some (.inl (nI (mraN R (2000 + f))))) g_q129 g129_52 (j := 130) (so := 0) (by decide +kernel) g_q130 rfl (by rw [x_rcM hcA hc]; rfl) (t130 hC hR (by omega)) ?_
        refine xT_imulV (y := nI ((hi - lo + 1 - (hi - lo + 1)) * (mraN R (2000 + f)))) g_q129 g129_55 (bMulN _ _) ?_
        refine xT_maxY g_q129 g129_56 (by decide +kernel) (by decide +kernel) (rfl) (c2Y h3 (b_small (by omega) m1) (b_small (by omega) m2)) ?_
        exact xT_ireturn g_q129 g129_59 (rfl)
      · rw [show maN lo hi R f = (hi - lo + 1) * (mraN R (1900 + f)) from by
          unfold maN
          rw [e1]
          exact if_neg h3]
        have h3 := Nat.le_of_not_lt h3
        refine xT_icV (y := nI (0)) g_q129 g129_0 (by decide) ?_
        refine xT_iload_n g_q129 g129_1 (rfl) ?_
        refine xT_aload_n g_q129 g129_2 (rfl) ?_
        refine xT_getfield g_q129 g129_3 hcA rfl hc rfl rfl ?_
        refine xT_minY g_q129 g129_6 (by decide +kernel) (by decide +kernel) (rfl) (c2Y h1 (by omega) (by omega)) ?_
        refine xT_aload_n g_q129 g129_9 (rfl) ?_
        refine xT_getfield g_q129 g129_10 hcA rfl hc rfl rfl ?_
        refine xT_isubV (y := nI (hi - lo)) g_q129 g129_13 (bSubN h2) ?_
        refine xT_icV (y := nI (1)) g_q129 g129_14 (by decide) ?_
        refine xT_iaddV (y := nI (hi - lo + 1)) g_q129 g129_15 (bAddN _ _) ?_
        refine xT_maxY g_q129 g129_16 (by decide +kernel) (by decide +kernel) (rfl) (c2Y (a := 0) (by omega) (by omega) (by omega)) ?_
        refine xT_istore_n g_q129 g129_19 (by decide) ?_
        refine xT_aload_n g_q129 g129_20 (lkN (by decide) (rfl)) ?_
        refine xT_getfield g_q129 g129_21 hcA rfl hc rfl rfl ?_
        refine xT_aload_n g_q129 g129_24 (lkN (by decide) (rfl)) ?_
        refine xT_getfield g_q129 g129_25 hcA rfl hc rfl rfl ?_
        refine xT_isubV (y := nI (hi - lo)) g_q129 g129_28 (bSubN (by omega)) ?_
        refine xT_icV (y := nI (1)) g_q129 g129_29 (by decide) ?_
        refine xT_iaddV (y := nI (hi - lo + 1)) g_q129 g129_30 (bAddN _ _) ?_
        refine xT_iload_n g_q129 g129_31 (lkY) ?_
        refine xT_isubV (y := nI (hi - lo + 1 - (hi - lo + 1))) g_q129 g129_32 (bSubN (by omega)) ?_
        refine xT_istore_n g_q129 g129_33 (by decide) ?_
        refine xT_iload_n g_q129 g129_34 (lkN (by decide) (lkY)) ?_
        refine xT_aload_n g_q129 g129_35 (lkN (by decide) (lkN (by decide) (rfl))) ?_
        refine xT_siV (y := nI (1900)) g_q129 g129_36 (by decide) ?_
        refine xT_iload_n g_q129 g129_39 (lkN (by decide) (lkN (by decide) (rfl))) ?_
        refine xT_iaddV (y := nI (1900 + f)) g_q129 g129_40 (bAddN _ _) ?_
        refine xT_invokevirtual (r := [.inl (nI (hi - lo + 1))]) (u := some (.inl (nI (mraN R (1900 + f))))) g_q129 g129_41 (j := 130) (so := 0) (by decide +kernel) g_q130 rfl (by rw [x_rcM hcA hc]; rfl) (t130 hC hR (by omega)) ?_
        refine xT_imulV (y := nI ((hi - lo + 1) * (mraN R (1900 + f)))) g_q129 g129_44 (bMulN _ _) ?_
        refine xT_iload_n g_q129 g129_45 (lkY) ?_
        refine xT_aload_n g_q129 g129_46 (lkN (by decide) (lkN (by decide) (rfl))) ?_
        refine xT_siV (y := nI (2000)) g_q129 g129_47 (by decide) ?_
        refine xT_iload_n g_q129 g129_50 (lkN (by decide) (lkN (by decide) (rfl))) ?_
        refine xT_iaddV (y := nI (2000 + f)) g_q129 g129_51 (bAddN _ _) ?_
        refine xT_invokevirtual (r := [.inl (nI (hi - lo + 1 - (hi - lo + 1))), .inl (nI ((hi - lo + 1) * (mraN R (1900 + f))))]) (u := some (.inl (nI (mraN R (2000 + f))))) g_q129 g129_52 (j := 130) (so := 0) (by decide +kernel) g_q130 rfl (by rw [x_rcM hcA hc]; rfl) (t130 hC hR (by omega)) ?_
        refine xT_imulV (y := nI ((hi - lo + 1 - (hi - lo + 1)) * (mraN R (2000 + f)))) g_q129 g129_55 (bMulN _ _) ?_
        refine xT_maxN g_q129 g129_56 (by decide +kernel) (by decide +kernel) (rfl) (c2N h3 (b_small (by omega) m1) (b_small (by omega) m2)) ?_
        exact xT_ireturn g_q129 g129_59 (rfl)
    
    · have e1 : earN lo hi f = 0 := by
        unfold earN
        rw [e0, if_neg h2]
      have h2 := Nat.lt_of_not_le h2
      by_cases h3 : (0) * (mraN R (1900 + f)) < (hi - lo + 1 - (0)) * (mraN R (2000 + f))
      · rw [show maN lo hi R f = (hi - lo + 1 - (0)) * (mraN R (2000 + f)) from by
          unfold maN
          rw [e1]
          exact if_pos h3]
        refine xT_icV (y := nI (0)) g_q129 g129_0 (by decide) ?_
        refine xT_iload_n g_q129 g129_1 (rfl) ?_
        refine xT_aload_n g_q129 g129_2 (rfl) ?_
        refine xT_getfield g_q129 g129_3 hcA rfl hc rfl rfl ?_
        refine xT_minY g_q129 g129_6 (by decide +kernel) (by decide +kernel) (rfl) (c2Y h1 (by omega) (by omega)) ?_
        refine xT_aload_n g_q129 g129_9 (rfl) ?_
        refine xT_getfield g_q129 g129_10 hcA rfl hc rfl rfl ?_
        refine xT_isubV (y := x_bin 1 (nI (hi)) (nI (lo))) g_q129 g129_13 (rfl) ?_
        refine xT_icV (y := nI (1)) g_q129 g129_14 (by decide) ?_
        refine xT_iaddV (y := x_bin 0 (x_bin 1 (nI (hi)) (nI (lo))) (nI 1)) g_q129 g129_15 (rfl) ?_
        refine xT_maxN g_q129 g129_16 (by decide +kernel) (by decide +kernel) (rfl) (b_neg _ (by omega) _ (by omega) (by omega)) ?_
        refine xT_istore_n g_q129 g129_19 (by decide) ?_
        refine xT_aload_n g_q129 g129_20 (lkN (by decide) (rfl)) ?_
        refine xT_getfield g_q129 g129_21 hcA rfl hc rfl rfl ?_
        refine xT_aload_n g_q129 g129_24 (lkN (by decide) (rfl)) ?_
        refine xT_getfield g_q129 g129_25 hcA rfl hc rfl rfl ?_
        refine xT_isubV (y := nI (hi - lo)) g_q129 g129_28 (bSubN (by omega)) ?_
        refine xT_icV (y := nI (1)) g_q129 g129_29 (by decide) ?_
        refine xT_iaddV (y := nI (hi - lo + 1)) g_q129 g129_30 (bAddN _ _) ?_
        refine xT_iload_n g_q129 g129_31 (lkY) ?_
        refine xT_isubV (y := nI (hi - lo + 1 - (0))) g_q129 g129_32 (bSubN (by omega)) ?_
        refine xT_istore_n g_q129 g129_33 (by decide) ?_
        refine xT_iload_n g_q129 g129_34 (lkN (by decide) (lkY)) ?_
        refine xT_aload_n g_q129 g129_35 (lkN (by decide) (lkN (by decide) (rfl))) ?_
        refine xT_siV (y := nI (1900)) g_q129 g129_36 (by decide) ?_
        refine xT_iload_n g_q129 g129_39 (lkN (by decide) (lkN (by decide) (rfl))) ?_
        refine xT_iaddV (y := nI (1900 + f)) g_q129 g129_40 (bAddN _ _) ?_
        refine xT_invokevirtual (r := [.inl (nI (0))]) (u := some (.inl (nI (mraN R (1900 + f))))) g_q129 g129_41 (j := 130) (so := 0) (by decide +kernel) g_q130 rfl (by rw [x_rcM hcA hc]; rfl) (t130 hC hR (by omega)) ?_
        refine xT_imulV (y := nI ((0) * (mraN R (1900 + f)))) g_q129 g129_44 (bMulN _ _) ?_
        refine xT_iload_n g_q129 g129_45 (lkY) ?_
        refine xT_aload_n g_q129 g129_46 (lkN (by decide) (lkN (by decide) (rfl))) ?_
        refine xT_siV (y := nI (2000)) g_q129 g129_47 (by decide) ?_
        refine xT_iload_n g_q129 g129_50 (lkN (by decide) (lkN (by decide) (rfl))) ?_
        refine xT_iaddV (y := nI (2000 + f)) g_q129 g129_51 (bAddN _ _) ?_
        refine xT_invokevirtual (r := [.inl (nI (hi - lo + 1 - (0))), .inl (nI ((0) * (mraN R (1900 + f))))]) (u := some (.inl (nI (mraN R (2000 + f))))) g_q129 g129_52 (j := 130) (so := 0) (by decide +kernel) g_q130 rfl (by rw [x_rcM hcA hc]; rfl) (t130 hC hR (by omega)) ?_
        refine xT_imulV (y := nI ((hi - lo + 1 - (0)) * (mraN R (2000 + f)))) g_q129 g129_55 (bMulN _ _) ?_
        refine xT_maxY g_q129 g129_56 (by decide +kernel) (by decide +kernel) (rfl) (c2Y h3 (b_small (by omega) m1) (b_small (by omega) m2)) ?_
        exact xT_ireturn g_q129 g129_59 (rfl)
      · rw [show maN lo hi R f = (0) * (mraN R (1900 + f)) from by
          unfold maN
          rw [e1]
          exact if_neg h3]
        have h3 := Nat.le_of_not_lt h3
        refine xT_icV (y := nI (0)) g_q129 g129_0 (by decide) ?_
        refine xT_iload_n g_q129 g129_1 (rfl) ?_
        refine xT_aload_n g_q129 g129_2 (rfl) ?_
        refine xT_getfield g_q129 g129_3 hcA rfl hc rfl rfl ?_
        refine xT_minY g_q129 g129_6 (by decide +kernel) (by decide +kernel) (rfl) (c2Y h1 (by omega) (by omega)) ?_
        refine xT_aload_n g_q129 g129_9 (rfl) ?_
        refine xT_getfield g_q129 g129_10 hcA rfl hc rfl rfl ?_
        refine xT_isubV (y := x_bin 1 (nI (hi)) (nI (lo))) g_q129 g129_13 (rfl) ?_
        refine xT_icV (y := nI (1)) g_q129 g129_14 (by decide) ?_
        refine xT_iaddV (y := x_bin 0 (x_bin 1 (nI (hi)) (nI (lo))) (nI 1)) g_q129 g129_15 (rfl) ?_
        refine xT_maxN g_q129 g129_16 (by decide +kernel) (by decide +kernel) (rfl) (b_neg _ (by omega) _ (by omega) (by omega)) ?_
        refine xT_istore_n g_q129 g129_19 (by decide) ?_
        refine xT_aload_n g_q129 g129_20 (lkN (by decide) (rfl)) ?_
        refine xT_getfield g_q129 g129_21 hcA rfl hc rfl rfl ?_
        refine xT_aload_n g_q129 g129_24 (lkN (by decide) (rfl)) ?_
        refine xT_getfield g_q129 g129_25 hcA rfl hc rfl rfl ?_
        refine xT_isubV (y := nI (hi - lo)) g_q129 g129_28 (bSubN (by omega)) ?_
        refine xT_icV (y := nI (1)) g_q129 g129_29 (by decide) ?_
        refine xT_iaddV (y := nI (hi - lo + 1)) g_q129 g129_30 (bAddN _ _) ?_
        refine xT_iload_n g_q129 g129_31 (lkY) ?_
        refine xT_isubV (y := nI (hi - lo + 1 - (0))) g_q129 g129_32 (bSubN (by omega)) ?_
        refine xT_istore_n g_q129 g129_33 (by decide) ?_
        refine xT_iload_n g_q129 g129_34 (lkN (by decide) (lkY)) ?_
        refine xT_aload_n g_q129 g129_35 (lkN (by decide) (lkN (by decide) (rfl))) ?_
        refine xT_siV (y := nI (1900)) g_q129 g129_36 (by decide) ?_
        refine xT_iload_n g_q129 g129_39 (lkN (by decide) (lkN (by decide) (rfl))) ?_
        refine xT_iaddV (y := nI (1900 + f)) g_q129 g129_40 (bAddN _ _) ?_
        refine xT_invokevirtual (r := [.inl (nI (0))]) (u := some (.inl (nI (mraN R (1900 + f))))) g_q129 g129_41 (j := 130) (so := 0) (by decide +kernel) g_q130 rfl (by rw [x_rcM hcA hc]; rfl) (t130 hC hR (by omega)) ?_
        refine xT_imulV (y := nI ((0) * (mraN R (1900 + f)))) g_q129 g129_44 (bMulN _ _) ?_
        refine xT_iload_n g_q129 g129_45 (lkY) ?_
        refine xT_aload_n g_q129 g129_46 (lkN (by decide) (lkN (by decide) (rfl))) ?_
        refine xT_siV (y := nI (2000)) g_q129 g129_47 (by decide) ?_
        refine xT_iload_n g_q129 g129_50 (lkN (by decide) (lkN (by decide) (rfl))) ?_
        refine xT_iaddV (y := nI (2000 + f)) g_q129 g129_51 (bAddN _ _) ?_
        refine xT_invokevirtual (r := [.inl (nI (hi - lo + 1 - (0))), .inl (nI ((0) * (mraN R (1900 + f))))]) (u := some (.inl (nI (mraN R (2000 + f))))) g_q129 g129_52 (j := 130) (so := 0) (by decide +kernel) g_q130 rfl (by rw [x_rcM hcA hc]; rfl) (t130 hC hR (by omega)) ?_
        refine xT_imulV (y := nI ((hi - lo + 1 - (0)) * (mraN R (2000 + f)))) g_q129 g129_55 (bMulN _ _) ?_
        refine xT_maxN g_q129 g129_56 (by decide +kernel) (by decide +kernel) (rfl) (c2N h3 (b_small (by omega) m1) (b_small (by omega) m2)) ?_
        exact xT_ireturn g_q129 g129_59 (rfl)
  · have h1 := Nat.le_of_not_lt h1
    have e0 : minN f hi = f := if_neg (Nat.not_lt.mpr h1)
    by_cases h2 : lo ≤ f
    · have e1 : earN lo hi f = f - lo + 1 := by
        unfold earN
        rw [e0, if_pos h2]
      by_cases h3 : (f - lo + 1) * (mraN R (1900 + f)) < (hi - lo + 1 - (f - lo + 1)) * (mraN R (2000 + f))
      · rw [show maN lo hi R f = (hi - lo + 1 - (f - lo + 1)) * (mraN R (2000 + f)) from by
          unfold maN
          rw [e1]
          exact if_pos h3]
        refine xT_icV (y := nI (0)) g_q129 g129_0 (by decide) ?_
        refine xT_iload_n g_q129 g129_1 (rfl) ?_
        refine xT_aload_n g_q129 g129_2 (rfl) ?_
        refine xT_getfield g_q129 g129_3 hcA rfl hc rfl rfl ?_
        refine xT_minN g_q129 g129_6 (by decide +kernel) (by decide +kernel) (rfl) (c2N h1 (by omega) (by omega)) ?_
        refine xT_aload_n g_q129 g129_9 (rfl) ?_
        refine xT_getfield g_q129 g129_10 hcA rfl hc rfl rfl ?_
        refine xT_isubV (y := nI (f - lo)) g_q129 g129_13 (bSubN h2) ?_
        refine xT_icV (y := nI (1)) g_q129 g129_14 (by decide) ?_
        refine xT_iaddV (y := nI (f - lo + 1)) g_q129 g129_15 (bAddN _ _) ?_
        refine xT_maxY g_q129 g129_16 (by decide +kernel) (by decide +kernel) (rfl) (c2Y (a := 0) (by omega) (by omega) (by omega)) ?_
        refine xT_istore_n g_q129 g129_19 (by decide) ?_
        refine xT_aload_n g_q129 g129_20 (lkN (by decide) (rfl)) ?_
        refine xT_getfield g_q129 g129_21 hcA rfl hc rfl rfl ?_
        refine xT_aload_n g_q129 g129_24 (lkN (by decide) (rfl)) ?_
        refine xT_getfield g_q129 g129_25 hcA rfl hc rfl rfl ?_
        refine xT_isubV (y := nI (hi - lo)) g_q129 g129_28 (bSubN (by omega)) ?_
        refine xT_icV (y := nI (1)) g_q129 g129_29 (by decide) ?_
        refine xT_iaddV (y := nI (hi - lo + 1)) g_q129 g129_30 (bAddN _ _) ?_
        refine xT_iload_n g_q129 g129_31 (lkY) ?_
        refine xT_isubV (y := nI (hi - lo + 1 - (f - lo + 1))) g_q129 g129_32 (bSubN (by omega)) ?_
        refine xT_istore_n g_q129 g129_33 (by decide) ?_
        refine xT_iload_n g_q129 g129_34 (lkN (by decide) (lkY)) ?_
        refine xT_aload_n g_q129 g129_35 (lkN (by decide) (lkN (by decide) (rfl))) ?_
        refine xT_siV (y := nI (1900)) g_q129 g129_36 (by decide) ?_
        refine xT_iload_n g_q129 g129_39 (lkN (by decide) (lkN (by decide) (rfl))) ?_
        refine xT_iaddV (y := nI (1900 + f)) g_q129 g129_40 (bAddN _ _) ?_
        refine xT_invokevirtual (r := [.inl (nI (f - lo + 1))]) (u := some (.inl (nI (mraN R (1900 + f))))) g_q129 g129_41 (j := 130) (so := 0) (by decide +kernel) g_q130 rfl (by rw [x_rcM hcA hc]; rfl) (t130 hC hR (by omega)) ?_
        refine xT_imulV (y := nI ((f - lo + 1) * (mraN R (1900 + f)))) g_q129 g129_44 (bMulN _ _) ?_
        refine xT_iload_n g_q129 g129_45 (lkY) ?_
        refine xT_aload_n g_q129 g129_46 (lkN (by decide) (lkN (by decide) (rfl))) ?_
        refine xT_siV (y := nI (2000)) g_q129 g129_47 (by decide) ?_
        refine xT_iload_n g_q129 g129_50 (lkN (by decide) (lkN (by decide) (rfl))) ?_
        refine xT_iaddV (y := nI (2000 + f)) g_q129 g129_51 (bAddN _ _) ?_
        refine xT_invokevirtual (r := [.inl (nI (hi - lo + 1 - (f - lo + 1))), .inl (nI ((f - lo + 1) * (mraN R (1900 + f))))]) (u := some (.inl (nI (mraN R (2000 + f))))) g_q129 g129_52 (j := 130) (so := 0) (by decide +kernel) g_q130 rfl (by rw [x_rcM hcA hc]; rfl) (t130 hC hR (by omega)) ?_
        refine xT_imulV (y := nI ((hi - lo + 1 - (f - lo + 1)) * (mraN R (2000 + f)))) g_q129 g129_55 (bMulN _ _) ?_
        refine xT_maxY g_q129 g129_56 (by decide +kernel) (by decide +kernel) (rfl) (c2Y h3 (b_small (by omega) m1) (b_small (by omega) m2)) ?_
        exact xT_ireturn g_q129 g129_59 (rfl)
      · rw [show maN lo hi R f = (f - lo + 1) * (mraN R (1900 + f)) from by
          unfold maN
          rw [e1]
          exact if_neg h3]
        have h3 := Nat.le_of_not_lt h3
        refine xT_icV (y := nI (0)) g_q129 g129_0 (by decide) ?_
        refine xT_iload_n g_q129 g129_1 (rfl) ?_
        refine xT_aload_n g_q129 g129_2 (rfl) ?_
        refine xT_getfield g_q129 g129_3 hcA rfl hc rfl rfl ?_
        refine xT_minN g_q129 g129_6 (by decide +kernel) (by decide +kernel) (rfl) (c2N h1 (by omega) (by omega)) ?_
        refine xT_aload_n g_q129 g129_9 (rfl) ?_
        refine xT_getfield g_q129 g129_10 hcA rfl hc rfl rfl ?_
        refine xT_isubV (y := nI (f - lo)) g_q129 g129_13 (bSubN h2) ?_
        refine xT_icV (y := nI (1)) g_q129 g129_14 (by decide) ?_
        refine xT_iaddV (y := nI (f - lo + 1)) g_q129 g129_15 (bAddN _ _) ?_
        refine xT_maxY g_q129 g129_16 (by decide +kernel) (by decide +kernel) (rfl) (c2Y (a := 0) (by omega) (by omega) (by omega)) ?_
        refine xT_istore_n g_q129 g129_19 (by decide) ?_
        refine xT_aload_n g_q129 g129_20 (lkN (by decide) (rfl)) ?_
        refine xT_getfield g_q129 g129_21 hcA rfl hc rfl rfl ?_
        refine xT_aload_n g_q129 g129_24 (lkN (by decide) (rfl)) ?_
        refine xT_getfield g_q129 g129_25 hcA rfl hc rfl rfl ?_
        refine xT_isubV (y := nI (hi - lo)) g_q129 g129_28 (bSubN (by omega)) ?_
        refine xT_icV (y := nI (1)) g_q129 g129_29 (by decide) ?_
        refine xT_iaddV (y := nI (hi - lo + 1)) g_q129 g129_30 (bAddN _ _) ?_
        refine xT_iload_n g_q129 g129_31 (lkY) ?_
        refine xT_isubV (y := nI (hi - lo + 1 - (f - lo + 1))) g_q129 g129_32 (bSubN (by omega)) ?_
        refine xT_istore_n g_q129 g129_33 (by decide) ?_
        refine xT_iload_n g_q129 g129_34 (lkN (by decide) (lkY)) ?_
        refine xT_aload_n g_q129 g129_35 (lkN (by decide) (lkN (by decide) (rfl))) ?_
        refine xT_siV (y := nI (1900)) g_q129 g129_36 (by decide) ?_
        refine xT_iload_n g_q129 g129_39 (lkN (by decide) (lkN (by decide) (rfl))) ?_
        refine xT_iaddV (y := nI (1900 + f)) g_q129 g129_40 (bAddN _ _) ?_
        refine xT_invokevirtual (r := [.inl (nI (f - lo + 1))]) (u := some (.inl (nI (mraN R (1900 + f))))) g_q129 g129_41 (j := 130) (so := 0) (by decide +kernel) g_q130 rfl (by rw [x_rcM hcA hc]; rfl) (t130 hC hR (by omega)) ?_
        refine xT_imulV (y := nI ((f - lo + 1) * (mraN R (1900 + f)))) g_q129 g129_44 (bMulN _ _) ?_
        refine xT_iload_n g_q129 g129_45 (lkY) ?_
        refine xT_aload_n g_q129 g129_46 (lkN (by decide) (lkN (by decide) (rfl))) ?_
        refine xT_siV (y := nI (2000)) g_q129 g129_47 (by decide) ?_
        refine xT_iload_n g_q129 g129_50 (lkN (by decide) (lkN (by decide) (rfl))) ?_
        refine xT_iaddV (y := nI (2000 + f)) g_q129 g129_51 (bAddN _ _) ?_
        refine xT_invokevirtual (r := [.inl (nI (hi - lo + 1 - (f - lo + 1))), .inl (nI ((f - lo + 1) * (mraN R (1900 + f))))]) (u := some (.inl (nI (mraN R (2000 + f))))) g_q129 g129_52 (j := 130) (so := 0) (by decide +kernel) g_q130 rfl (by rw [x_rcM hcA hc]; rfl) (t130 hC hR (by omega)) ?_
        refine xT_imulV (y := nI ((hi - lo + 1 - (f - lo + 1)) * (mraN R (2000 + f)))) g_q129 g129_55 (bMulN _ _) ?_
        refine xT_maxN g_q129 g129_56 (by decide +kernel) (by decide +kernel) (rfl) (c2N h3 (b_small (by omega) m1) (b_small (by omega) m2)) ?_
        exact xT_ireturn g_q129 g129_59 (rfl)
    
    · have e1 : earN lo hi f = 0 := by
        unfold earN
        rw [e0, if_neg h2]
      have h2 := Nat.lt_of_not_le h2
      by_cases h3 : (0) * (mraN R (1900 + f)) < (hi - lo + 1 - (0)) * (mraN R (2000 + f))
      · rw [show maN lo hi R f = (hi - lo + 1 - (0)) * (mraN R (2000 + f)) from by
          unfold maN
          rw [e1]
          exact if_pos h3]
        refine xT_icV (y := nI (0)) g_q129 g129_0 (by decide) ?_
        refine xT_iload_n g_q129 g129_1 (rfl) ?_
        refine xT_aload_n g_q129 g129_2 (rfl) ?_
        refine xT_getfield g_q129 g129_3 hcA rfl hc rfl rfl ?_
        refine xT_minN g_q129 g129_6 (by decide +kernel) (by decide +kernel) (rfl) (c2N h1 (by omega) (by omega)) ?_
        refine xT_aload_n g_q129 g129_9 (rfl) ?_
        refine xT_getfield g_q129 g129_10 hcA rfl hc rfl rfl ?_
        refine xT_isubV (y := x_bin 1 (nI (f)) (nI (lo))) g_q129 g129_13 (rfl) ?_
        refine xT_icV (y := nI (1)) g_q129 g129_14 (by decide) ?_
        refine xT_iaddV (y := x_bin 0 (x_bin 1 (nI (f)) (nI (lo))) (nI 1)) g_q129 g129_15 (rfl) ?_
        refine xT_maxN g_q129 g129_16 (by decide +kernel) (by decide +kernel) (rfl) (b_neg _ (by omega) _ (by omega) (by omega)) ?_
        refine xT_istore_n g_q129 g129_19 (by decide) ?_
        refine xT_aload_n g_q129 g129_20 (lkN (by decide) (rfl)) ?_
        refine xT_getfield g_q129 g129_21 hcA rfl hc rfl rfl ?_
        refine xT_aload_n g_q129 g129_24 (lkN (by decide) (rfl)) ?_
        refine xT_getfield g_q129 g129_25 hcA rfl hc rfl rfl ?_
        refine xT_isubV (y := nI (hi - lo)) g_q129 g129_28 (bSubN (by omega)) ?_
        refine xT_icV (y := nI (1)) g_q129 g129_29 (by decide) ?_
        refine xT_iaddV (y := nI (hi - lo + 1)) g_q129 g129_30 (bAddN _ _) ?_
        refine xT_iload_n g_q129 g129_31 (lkY) ?_
        refine xT_isubV (y := nI (hi - lo + 1 - (0))) g_q129 g129_32 (bSubN (by omega)) ?_
        refine xT_istore_n g_q129 g129_33 (by decide) ?_
        refine xT_iload_n g_q129 g129_34 (lkN (by decide) (lkY)) ?_
        refine xT_aload_n g_q129 g129_35 (lkN (by decide) (lkN (by decide) (rfl))) ?_
        refine xT_siV (y := nI (1900)) g_q129 g129_36 (by decide) ?_
        refine xT_iload_n g_q129 g129_39 (lkN (by decide) (lkN (by decide) (rfl))) ?_
        refine xT_iaddV (y := nI (1900 + f)) g_q129 g129_40 (bAddN _ _) ?_
        refine xT_invokevirtual (r := [.inl (nI (0))]) (u := some (.inl (nI (mraN R (1900 + f))))) g_q129 g129_41 (j := 130) (so := 0) (by decide +kernel) g_q130 rfl (by rw [x_rcM hcA hc]; rfl) (t130 hC hR (by omega)) ?_
        refine xT_imulV (y := nI ((0) * (mraN R (1900 + f)))) g_q129 g129_44 (bMulN _ _) ?_
        refine xT_iload_n g_q129 g129_45 (lkY) ?_
        refine xT_aload_n g_q129 g129_46 (lkN (by decide) (lkN (by decide) (rfl))) ?_
        refine xT_siV (y := nI (2000)) g_q129 g129_47 (by decide) ?_
        refine xT_iload_n g_q129 g129_50 (lkN (by decide) (lkN (by decide) (rfl))) ?_
        refine xT_iaddV (y := nI (2000 + f)) g_q129 g129_51 (bAddN _ _) ?_
        refine xT_invokevirtual (r := [.inl (nI (hi - lo + 1 - (0))), .inl (nI ((0) * (mraN R (1900 + f))))]) (u := some (.inl (nI (mraN R (2000 + f))))) g_q129 g129_52 (j := 130) (so := 0) (by decide +kernel) g_q130 rfl (by rw [x_rcM hcA hc]; rfl) (t130 hC hR (by omega)) ?_
        refine xT_imulV (y := nI ((hi - lo + 1 - (0)) * (mraN R (2000 + f)))) g_q129 g129_55 (bMulN _ _) ?_
        refine xT_maxY g_q129 g129_56 (by decide +kernel) (by decide +kernel) (rfl) (c2Y h3 (b_small (by omega) m1) (b_small (by omega) m2)) ?_
        exact xT_ireturn g_q129 g129_59 (rfl)
      · rw [show maN lo hi R f = (0) * (mraN R (1900 + f)) from by
          unfold maN
          rw [e1]
          exact if_neg h3]
        have h3 := Nat.le_of_not_lt h3
        refine xT_icV (y := nI (0)) g_q129 g129_0 (by decide) ?_
        refine xT_iload_n g_q129 g129_1 (rfl) ?_
        refine xT_aload_n g_q129 g129_2 (rfl) ?_
        refine xT_getfield g_q129 g129_3 hcA rfl hc rfl rfl ?_
        refine xT_minN g_q129 g129_6 (by decide +kernel) (by decide +kernel) (rfl) (c2N h1 (by omega) (by omega)) ?_
        refine xT_aload_n g_q129 g129_9 (rfl) ?_
        refine xT_getfield g_q129 g129_10 hcA rfl hc rfl rfl ?_
        refine xT_isubV (y := x_bin 1 (nI (f)) (nI (lo))) g_q129 g129_13 (rfl) ?_
        refine xT_icV (y := nI (1)) g_q129 g129_14 (by decide) ?_
        refine xT_iaddV (y := x_bin 0 (x_bin 1 (nI (f)) (nI (lo))) (nI 1)) g_q129 g129_15 (rfl) ?_
        refine xT_maxN g_q129 g129_16 (by decide +kernel) (by decide +kernel) (rfl) (b_neg _ (by omega) _ (by omega) (by omega)) ?_
        refine xT_istore_n g_q129 g129_19 (by decide) ?_
        refine xT_aload_n g_q129 g129_20 (lkN (by decide) (rfl)) ?_
        refine xT_getfield g_q129 g129_21 hcA rfl hc rfl rfl ?_
        refine xT_aload_n g_q129 g129_24 (lkN (by decide) (rfl)) ?_
        refine xT_getfield g_q129 g129_25 hcA rfl hc rfl rfl ?_
        refine xT_isubV (y := nI (hi - lo)) g_q129 g129_28 (bSubN (by omega)) ?_
        refine xT_icV (y := nI (1)) g_q129 g129_29 (by decide) ?_
        refine xT_iaddV (y := nI (hi - lo + 1)) g_q129 g129_30 (bAddN _ _) ?_
        refine xT_iload_n g_q129 g129_31 (lkY) ?_
        refine xT_isubV (y := nI (hi - lo + 1 - (0))) g_q129 g129_32 (bSubN (by omega)) ?_
        refine xT_istore_n g_q129 g129_33 (by decide) ?_
        refine xT_iload_n g_q129 g129_34 (lkN (by decide) (lkY)) ?_
        refine xT_aload_n g_q129 g129_35 (lkN (by decide) (lkN (by decide) (rfl))) ?_
        refine xT_siV (y := nI (1900)) g_q129 g129_36 (by decide) ?_
        refine xT_iload_n g_q129 g129_39 (lkN (by decide) (lkN (by decide) (rfl))) ?_
        refine xT_iaddV (y := nI (1900 + f)) g_q129 g129_40 (bAddN _ _) ?_
        refine xT_invokevirtual (r := [.inl (nI (0))]) (u := some (.inl (nI (mraN R (1900 + f))))) g_q129 g129_41 (j := 130) (so := 0) (by decide +kernel) g_q130 rfl (by rw [x_rcM hcA hc]; rfl) (t130 hC hR (by omega)) ?_
        refine xT_imulV (y := nI ((0) * (mraN R (1900 + f)))) g_q129 g129_44 (bMulN _ _) ?_
        refine xT_iload_n g_q129 g129_45 (lkY) ?_
        refine xT_aload_n g_q129 g129_46 (lkN (by decide) (lkN (by decide) (rfl))) ?_
        refine xT_siV (y := nI (2000)) g_q129 g129_47 (by decide) ?_
        refine xT_iload_n g_q129 g129_50 (lkN (by decide) (lkN (by decide) (rfl))) ?_
        refine xT_iaddV (y := nI (2000 + f)) g_q129 g129_51 (bAddN _ _) ?_
        refine xT_invokevirtual (r := [.inl (nI (hi - lo + 1 - (0))), .inl (nI ((0) * (mraN R (1900 + f))))]) (u := some (.inl (nI (mraN R (2000 + f))))) g_q129 g129_52 (j := 130) (so := 0) (by decide +kernel) g_q130 rfl (by rw [x_rcM hcA hc]; rfl) (t130 hC hR (by omega)) ?_
        refine xT_imulV (y := nI ((hi - lo + 1 - (0)) * (mraN R (2000 + f)))) g_q129 g129_55 (bMulN _ _) ?_
        refine xT_maxN g_q129 g129_56 (by decide +kernel) (by decide +kernel) (rfl) (c2N h3 (b_small (by omega) m1) (b_small (by omega) m2)) ?_
        exact xT_ireturn g_q129 g129_59 (rfl)

end XH251
