/-! p25 by hand, 2. -/
noncomputable section XH252
variable {ot : XO Int32} {dp : Nat} {H : List (XC Int32)} {c pv rl n lo hi hi_ R : Nat} {a cnt ca : Nat} {vs : List (XV Int32)} {b i : Nat} {y : Nat → Nat}
theorem ear_le {lo hi f : Nat} (h : lo ≤ hi) (hh : hi ≤ 100) : earN lo hi f ≤ 101 := by
  unfold earN minN
  repeat' split
  all_goals omega
theorem ma_lt {lo hi R f : Nat} (hR : R < 8) (h : lo ≤ hi) (hh : hi ≤ 100) : maN lo hi R f < 2 ^ 31 := by
  have m1 := b_small (ear_le (f := f) h hh) (mraN_le (y := 1900 + f) hR)
  have m2 := b_small (a := hi - lo + 1 - earN lo hi f) (by omega) (mraN_le (y := 2000 + f) hR)
  unfold maN mxN
  split
  · exact m2
  · exact m1
def bstN (lo hi R : Nat) : Nat → Nat
  | 0 => 0
  | f + 1 => if maN lo hi R f < maN lo hi R (bstN lo hi R f) then f else bstN lo hi R f
theorem bst_lt {lo hi R : Nat} : ∀ f, f ≤ 100 → bstN lo hi R f < 100
  | 0, _ => by
    show (0 : Nat) < 100
    decide
  | f + 1, h => by
    show (if maN lo hi R f < maN lo hi R (bstN lo hi R f) then f else bstN lo hi R f) < 100
    split
    · omega
    · exact bst_lt f (by omega)
theorem bst_1 {lo hi R : Nat} : bstN lo hi R 1 = 0 := by
  show (if maN lo hi R 0 < maN lo hi R (bstN lo hi R 0) then 0 else bstN lo hi R 0) = 0
  split <;> rfl
theorem t128_l (hC : isChip H c pv rl n lo hi R) (hR : R < 8) (hlh : lo ≤ hi) (hhi : hi ≤ 100) : ∀ (d f : Nat) (L : List (Nat × XV Int32)), f + d = 100 → x_lk L 0 = some (.inr (some c)) → x_lk L 1 = some (.inl (nI (bstN lo hi R f))) → x_lk L 2 = some (.inl (nI f)) → x_To x_tb x_tyl ot (dp + 4) 128 4 L [] H 0 0 (some (.inl (nI (bstN lo hi R 100)))) H := by
  obtain ⟨hcA, hc⟩ := id hC
  intro d
  induction d with
  | zero =>
    intro f L hf h0 h1 h2
    obtain rfl : f = 100 := by omega
    refine xT_iload_n g_q128 g128_4 (h2) ?_
    refine xT_biV (y := nI (100)) g_q128 g128_5 (by decide) ?_
    refine xT_if_icmpY g_q128 g128_7 (t := 31) (by decide) (c3Y (a := 100) (b := 100) (by omega) (by omega) (by omega)) ?_
    refine xT_iload_n g_q128 g128_31 (h1) ?_
    exact xT_ireturn g_q128 g128_32 (rfl)
  | succ d ih =>
    intro f L hf h0 h1 h2
    by_cases h : maN lo hi R f < maN lo hi R (bstN lo hi R f)
    · have e : bstN lo hi R (f + 1) = f := if_pos h
      refine xT_iload_n g_q128 g128_4 (h2) ?_
      refine xT_biV (y := nI (100)) g_q128 g128_5 (by decide) ?_
      refine xT_if_icmpN g_q128 g128_7 (t := 31) (by decide) (c3N (a := f) (b := 100) (by omega) (by omega) (by omega)) ?_
      refine xT_aload_n g_q128 g128_10 (h0) ?_
      refine xT_iload_n g_q128 g128_11 (h2) ?_
      refine xT_invokevirtual (r := []) (u := some (.inl (nI (maN lo hi R f)))) g_q128 g128_12 (j := 129) (so := 0) (by decide +kernel) g_q129 rfl (by rw [x_rcM hcA hc]; rfl) (t129 hC hR hlh hhi (by omega)) ?_
      refine xT_aload_n g_q128 g128_15 (h0) ?_
      refine xT_iload_n g_q128 g128_16 (h1) ?_
      refine xT_invokevirtual (r := [.inl (nI (maN lo hi R f))]) (u := some (.inl (nI (maN lo hi R (bstN lo hi R f))))) g_q128 g128_17 (j := 129) (so := 0) (by decide +kernel) g_q129 rfl (by rw [x_rcM hcA hc]; rfl) (t129 hC hR hlh hhi (bst_lt f (by omega))) ?_
      refine xT_if_icmpN g_q128 g128_20 (t := 25) (by decide) (c3N h (ma_lt hR hlh hhi) (ma_lt hR hlh hhi)) ?_
      refine xT_iload_n g_q128 g128_23 (h2) ?_
      refine xT_istore_n g_q128 g128_24 (by decide) ?_
      refine xT_iincV (y := nI (f + 1)) g_q128 g128_25 (lkN (by decide) (h2)) (by decide) (bIncN _) ?_
      refine xT_goto g_q128 g128_28 (t := 4) (by decide) ?_
      exact ih (f + 1) _ (by omega) (lkN (by decide) (lkN (by decide) (h0))) (by
        rw [e]
        exact lkN (by decide) (lkY)) (lkY)
    · have e : bstN lo hi R (f + 1) = bstN lo hi R f := if_neg h
      refine xT_iload_n g_q128 g128_4 (h2) ?_
      refine xT_biV (y := nI (100)) g_q128 g128_5 (by decide) ?_
      refine xT_if_icmpN g_q128 g128_7 (t := 31) (by decide) (c3N (a := f) (b := 100) (by omega) (by omega) (by omega)) ?_
      refine xT_aload_n g_q128 g128_10 (h0) ?_
      refine xT_iload_n g_q128 g128_11 (h2) ?_
      refine xT_invokevirtual (r := []) (u := some (.inl (nI (maN lo hi R f)))) g_q128 g128_12 (j := 129) (so := 0) (by decide +kernel) g_q129 rfl (by rw [x_rcM hcA hc]; rfl) (t129 hC hR hlh hhi (by omega)) ?_
      refine xT_aload_n g_q128 g128_15 (h0) ?_
      refine xT_iload_n g_q128 g128_16 (h1) ?_
      refine xT_invokevirtual (r := [.inl (nI (maN lo hi R f))]) (u := some (.inl (nI (maN lo hi R (bstN lo hi R f))))) g_q128 g128_17 (j := 129) (so := 0) (by decide +kernel) g_q129 rfl (by rw [x_rcM hcA hc]; rfl) (t129 hC hR hlh hhi (bst_lt f (by omega))) ?_
      refine xT_if_icmpY g_q128 g128_20 (t := 25) (by decide) (c3Y (Nat.le_of_not_lt h) (ma_lt hR hlh hhi) (ma_lt hR hlh hhi)) ?_
      refine xT_iincV (y := nI (f + 1)) g_q128 g128_25 (h2) (by decide) (bIncN _) ?_
      refine xT_goto g_q128 g128_28 (t := 4) (by decide) ?_
      exact ih (f + 1) _ (by omega) (lkN (by decide) (h0)) (by
        rw [e]
        exact lkN (by decide) (h1)) (lkY)
theorem t128 (hC : isChip H c pv rl n lo hi R) (hR : R < 8) (hlh : lo ≤ hi) (hhi : hi ≤ 100) : x_To x_tb x_tyl ot (dp + 4) 128 0 (x_en 0 [.inr (some (c))]) [] H 0 0 (some (.inl (nI (bstN lo hi R 100)))) H := by
  refine xT_icV (y := nI (0)) g_q128 g128_0 (by decide) ?_
  refine xT_istore_n g_q128 g128_1 (by decide) ?_
  refine xT_icV (y := nI (1)) g_q128 g128_2 (by decide) ?_
  refine xT_istore_n g_q128 g128_3 (by decide) ?_
  exact t128_l hC hR hlh hhi 99 1 _ rfl (lkN (by decide) (lkN (by decide) (rfl))) (by
    rw [bst_1]
    exact lkN (by decide) (lkY)) (lkY)
theorem b_b2 : ∀ a, a < 8 → a ≠ 0 → ¬ bitN a 0 = 1 → ¬ bitN a 1 = 1 → bitN a 2 = 1 := by decide +kernel
def lowB (a : Nat) : Nat := if bitN a 0 = 1 then 0 else if bitN a 1 = 1 then 1 else 2
theorem t127 (hC : isChip H c pv rl n lo hi R) (hR : R < 8) (hR0 : R ≠ 0) : x_To x_tb x_tyl ot (dp + 1) 127 0 (x_en 0 [.inr (some (c))]) [] H 0 0 (some (.inl (nI (lo * 3 + lowB R)))) H := by
  obtain ⟨hcA, hc⟩ := id hC
  by_cases h0 : bitN R 0 = 1
  · rw [show lowB R = 0 from if_pos h0]
    refine xT_icV (y := nI (0)) g_q127 g127_0 (by decide) ?_
    refine xT_istore_n g_q127 g127_1 (by decide) ?_
    refine xT_iload_n g_q127 g127_2 (lkY) ?_
    refine xT_icV (y := nI (3)) g_q127 g127_3 (by decide) ?_
    refine xT_if_icmpN g_q127 g127_4 (t := 33) (by decide) (c3N (a := 0) (b := 3) (by omega) (by omega) (by omega)) ?_
    refine xT_aload_n g_q127 g127_7 (lkN (by decide) (rfl)) ?_
    refine xT_getfield g_q127 g127_8 hcA rfl hc rfl rfl ?_
    refine xT_iload_n g_q127 g127_11 (lkY) ?_
    refine xT_invokestatic (r := []) (u := some (.inl (nI (1)))) g_q127 g127_12 (j := 48) (so := 3) (by decide +kernel) g_q48 (rfl) (t48Y hR (by decide) h0) ?_
    refine xT_ifCondN g_q127 g127_15 (t := 27) (by decide) (c0N (a := 1) (b := 0) (by omega) (by omega) (by omega)) ?_
    refine xT_aload_n g_q127 g127_18 (lkN (by decide) (rfl)) ?_
    refine xT_getfield g_q127 g127_19 hcA rfl hc rfl rfl ?_
    refine xT_icV (y := nI (3)) g_q127 g127_22 (by decide) ?_
    refine xT_imulV (y := nI ((lo) * (3))) g_q127 g127_23 (bMulN _ _) ?_
    refine xT_iload_n g_q127 g127_24 (lkY) ?_
    refine xT_iaddV (y := nI (((lo) * (3)) + 0)) g_q127 g127_25 (bAddN _ _) ?_
    exact xT_ireturn g_q127 g127_26 (rfl)
  by_cases h1 : bitN R 1 = 1
  · rw [show lowB R = 1 from (if_neg h0).trans (if_pos h1)]
    refine xT_icV (y := nI (0)) g_q127 g127_0 (by decide) ?_
    refine xT_istore_n g_q127 g127_1 (by decide) ?_
    refine xT_iload_n g_q127 g127_2 (lkY) ?_
    refine xT_icV (y := nI (3)) g_q127 g127_3 (by decide) ?_
    refine xT_if_icmpN g_q127 g127_4 (t := 33) (by decide) (c3N (a := 0) (b := 3) (by omega) (by omega) (by omega)) ?_
    refine xT_aload_n g_q127 g127_7 (lkN (by decide) (rfl)) ?_
    refine xT_getfield g_q127 g127_8 hcA rfl hc rfl rfl ?_
    refine xT_iload_n g_q127 g127_11 (lkY) ?_
    refine xT_invokestatic (r := []) (u := some (.inl (nI (0)))) g_q127 g127_12 (j := 48) (so := 3) (by decide +kernel) g_q48 (rfl) (t48N hR (by decide) h0) ?_
    refine xT_ifCondY g_q127 g127_15 (t := 27) (by decide) (c0Y (a := 0) (b := 0) (by omega)) ?_
    refine xT_iincV (y := nI (1)) g_q127 g127_27 (lkY) (by decide) (by decide) ?_
    refine xT_goto g_q127 g127_30 (t := 2) (by decide) ?_
    refine xT_iload_n g_q127 g127_2 (lkY) ?_
    refine xT_icV (y := nI (3)) g_q127 g127_3 (by decide) ?_
    refine xT_if_icmpN g_q127 g127_4 (t := 33) (by decide) (c3N (a := 1) (b := 3) (by omega) (by omega) (by omega)) ?_
    refine xT_aload_n g_q127 g127_7 (lkN (by decide) (lkN (by decide) (rfl))) ?_
    refine xT_getfield g_q127 g127_8 hcA rfl hc rfl rfl ?_
    refine xT_iload_n g_q127 g127_11 (lkY) ?_
    refine xT_invokestatic (r := []) (u := some (.inl (nI (1)))) g_q127 g127_12 (j := 48) (so := 3) (by decide +kernel) g_q48 (rfl) (t48Y hR (by decide) h1) ?_
    refine xT_ifCondN g_q127 g127_15 (t := 27) (by decide) (c0N (a := 1) (b := 0) (by omega) (by omega) (by omega)) ?_
    refine xT_aload_n g_q127 g127_18 (lkN (by decide) (lkN (by decide) (rfl))) ?_
    refine xT_getfield g_q127 g127_19 hcA rfl hc rfl rfl ?_
    refine xT_icV (y := nI (3)) g_q127 g127_22 (by decide) ?_
    refine xT_imulV (y := nI ((lo) * (3))) g_q127 g127_23 (bMulN _ _) ?_
    refine xT_iload_n g_q127 g127_24 (lkY) ?_
    refine xT_iaddV (y := nI (((lo) * (3)) + 1)) g_q127 g127_25 (bAddN _ _) ?_
    exact xT_ireturn g_q127 g127_26 (rfl)
  · have h2 := b_b2 R hR hR0 h0 h1
    rw [show lowB R = 2 from (if_neg h0).trans (if_neg h1)]
    refine xT_icV (y := nI (0)) g_q127 g127_0 (by decide) ?_
    refine xT_istore_n g_q127 g127_1 (by decide) ?_
    refine xT_iload_n g_q127 g127_2 (lkY) ?_
    refine xT_icV (y := nI (3)) g_q127 g127_3 (by decide) ?_
    refine xT_if_icmpN g_q127 g127_4 (t := 33) (by decide) (c3N (a := 0) (b := 3) (by omega) (by omega) (by omega)) ?_
    refine xT_aload_n g_q127 g127_7 (lkN (by decide) (rfl)) ?_
    refine xT_getfield g_q127 g127_8 hcA rfl hc rfl rfl ?_
    refine xT_iload_n g_q127 g127_11 (lkY) ?_
    refine xT_invokestatic (r := []) (u := some (.inl (nI (0)))) g_q127 g127_12 (j := 48) (so := 3) (by decide +kernel) g_q48 (rfl) (t48N hR (by decide) h0) ?_
    refine xT_ifCondY g_q127 g127_15 (t := 27) (by decide) (c0Y (a := 0) (b := 0) (by omega)) ?_
    refine xT_iincV (y := nI (1)) g_q127 g127_27 (lkY) (by decide) (by decide) ?_
    refine xT_goto g_q127 g127_30 (t := 2) (by decide) ?_
    refine xT_iload_n g_q127 g127_2 (lkY) ?_
    refine xT_icV (y := nI (3)) g_q127 g127_3 (by decide) ?_
    refine xT_if_icmpN g_q127 g127_4 (t := 33) (by decide) (c3N (a := 1) (b := 3) (by omega) (by omega) (by omega)) ?_
    refine xT_aload_n g_q127 g127_7 (lkN (by decide) (lkN (by decide) (rfl))) ?_
    refine xT_getfield g_q127 g127_8 hcA rfl hc rfl rfl ?_
    refine xT_iload_n g_q127 g127_11 (lkY) ?_
    refine xT_invokestatic (r := []) (u := some (.inl (nI (0)))) g_q127 g127_12 (j := 48) (so := 3) (by decide +kernel) g_q48 (rfl) (t48N hR (by decide) h1) ?_
    refine xT_ifCondY g_q127 g127_15 (t := 27) (by decide) (c0Y (a := 0) (b := 0) (by omega)) ?_
    refine xT_iincV (y := nI (2)) g_q127 g127_27 (lkY) (by decide) (by decide) ?_
    refine xT_goto g_q127 g127_30 (t := 2) (by decide) ?_
    refine xT_iload_n g_q127 g127_2 (lkY) ?_
    refine xT_icV (y := nI (3)) g_q127 g127_3 (by decide) ?_
    refine xT_if_icmpN g_q127 g127_4 (t := 33) (by decide) (c3N (a := 2) (b := 3) (by omega) (by omega) (by omega)) ?_
    refine xT_aload_n g_q127 g127_7 (lkN (by decide) (lkN (by decide) (lkN (by decide) (rfl)))) ?_
    refine xT_getfield g_q127 g127_8 hcA rfl hc rfl rfl ?_
    refine xT_iload_n g_q127 g127_11 (lkY) ?_
    refine xT_invokestatic (r := []) (u := some (.inl (nI (1)))) g_q127 g127_12 (j := 48) (so := 3) (by decide +kernel) g_q48 (rfl) (t48Y hR (by decide) h2) ?_
    refine xT_ifCondN g_q127 g127_15 (t := 27) (by decide) (c0N (a := 1) (b := 0) (by omega) (by omega) (by omega)) ?_
    refine xT_aload_n g_q127 g127_18 (lkN (by decide) (lkN (by decide) (lkN (by decide) (rfl)))) ?_
    refine xT_getfield g_q127 g127_19 hcA rfl hc rfl rfl ?_
    refine xT_icV (y := nI (3)) g_q127 g127_22 (by decide) ?_
    refine xT_imulV (y := nI ((lo) * (3))) g_q127 g127_23 (bMulN _ _) ?_
    refine xT_iload_n g_q127 g127_24 (lkY) ?_
    refine xT_iaddV (y := nI (((lo) * (3)) + 2)) g_q127 g127_25 (bAddN _ _) ?_
    exact xT_ireturn g_q127 g127_26 (rfl)
theorem t125 (hC : isChip H c pv rl n lo hi R) (hR : R < 8) (hlh : lo ≤ hi) : x_To x_tb x_tyl ot (dp + 1) 125 0 (x_en 0 [.inr (some (c))]) [] H 0 0 (some (.inl (nI ((hi - lo + 1) * popN R)))) H := by
  obtain ⟨hcA, hc⟩ := id hC
  refine xT_aload_n g_q125 g125_0 (rfl) ?_
  refine xT_getfield g_q125 g125_1 hcA rfl hc rfl rfl ?_
  refine xT_aload_n g_q125 g125_4 (rfl) ?_
  refine xT_getfield g_q125 g125_5 hcA rfl hc rfl rfl ?_
  refine xT_isubV (y := nI (hi - lo)) g_q125 g125_8 (bSubN hlh) ?_
  refine xT_icV (y := nI (1)) g_q125 g125_9 (by decide) ?_
  refine xT_iaddV (y := nI (hi - lo + 1)) g_q125 g125_10 (bAddN _ _) ?_
  refine xT_aload_n g_q125 g125_11 (rfl) ?_
  refine xT_getfield g_q125 g125_12 hcA rfl hc rfl rfl ?_
  refine xT_invokestatic (r := []) (u := some (.inl (nI (popN R)))) g_q125 g125_15 (j := 126) (so := 2) (by decide +kernel) g_q126 (rfl) (t126 hR) ?_
  refine xT_imulV (y := nI ((hi - lo + 1) * popN R)) g_q125 g125_18 (bMulN _ _) ?_
  exact xT_ireturn g_q125 g125_19 (rfl)
end XH252
