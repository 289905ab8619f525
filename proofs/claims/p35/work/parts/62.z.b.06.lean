/-! p35 by hand, 5. -/
noncomputable section XH355
variable {ot : XO Int32} {dp : Nat} {H : List (XC Int32)} {p n m : Nat} {r : Nat → Nat} {pl mi la we ord hf : Nat → Nat}
theorem t153_l (hP : isPo H p n r pl mi la we ord hf m) (hB : stB pl mi la we) (h9 : ∀ k, hf k ≤ 9) (hm : 2 ^ n ≤ m) {g : Nat} (hg : g ≤ 3) : ∀ (d j : Nat) (L : List (Nat × XV Int32)), j + d = 2 ^ n → 1 ≤ j → x_lk L 0 = some (.inr (some p)) → x_lk L 1 = some (.inl (nI g)) → x_lk L 2 = some (.inl (nI (bsN (fun j => decide (hf j ≤ g)) (fun j => wtD we j n) j))) → x_lk L 3 = some (.inl (nI j)) → x_To x_tb x_tyl ot (dp + 2) 153 4 L [] H 0 0 (some (.inl (nI (bsN (fun j => decide (hf j ≤ g)) (fun j => wtD we j n) (2 ^ n))))) H := by
  obtain ⟨⟨hpA, hp, h8⟩, ⟨d0, v0, a0, b0, e0⟩, ⟨d1, v1, a1, b1, e1⟩, ⟨d2, v2, a2, b2, e2⟩, ⟨d3, v3, a3, b3, e3⟩, ⟨d4, v4, a4, b4, e4⟩, ⟨d5, v5, a5, b5, e5⟩⟩ := id hP
  obtain ⟨s1, s2, s3⟩ := b_shl n (by omega)
  have wt_31 : ∀ x, wtD we x n < 2 ^ 31 := fun x => by
    have := wtD_le (we := we) (s := x) (fun k => (hB k).2.2.2) n
    omega
  intro d
  induction d with
  | zero =>
    intro j L hj j1 l0 l1 l2 l3
    obtain rfl : j = 2 ^ n := by omega
    refine xT_iload_n g_q153 g153_4 (l3) ?_
    refine xT_icV (y := nI (1)) g_q153 g153_5 (by decide) ?_
    refine xT_aload_n g_q153 g153_6 (l0) ?_
    refine xT_getfield g_q153 g153_7 hpA rfl hp rfl rfl ?_
    refine xT_ishlV (y := nI (2 ^ n)) g_q153 g153_10 ((b_shl n (by omega)).1) ?_
    refine xT_if_icmpY g_q153 g153_11 (t := 45) (by decide) (c3Y (Nat.le_refl _) (by omega) (by omega)) ?_
    refine xT_iload_n g_q153 g153_45 (l2) ?_
    exact xT_ireturn g_q153 g153_46 (rfl)
  | succ d ih =>
    intro j L hj j1 l0 l1 l2 l3
    have hbj := bsN_lt (ok := fun j => decide (hf j ≤ g)) (wt := fun j => wtD we j n) j (by omega)
    by_cases hh : hf j ≤ g
    rotate_left
    · have e : bsN (fun j => decide (hf j ≤ g)) (fun j => wtD we j n) (j + 1) = bsN (fun j => decide (hf j ≤ g)) (fun j => wtD we j n) j := if_neg (fun z => hh (of_decide_eq_true z.1))
      refine xT_iload_n g_q153 g153_4 (l3) ?_
      refine xT_icV (y := nI (1)) g_q153 g153_5 (by decide) ?_
      refine xT_aload_n g_q153 g153_6 (l0) ?_
      refine xT_getfield g_q153 g153_7 hpA rfl hp rfl rfl ?_
      refine xT_ishlV (y := nI (2 ^ n)) g_q153 g153_10 ((b_shl n (by omega)).1) ?_
      refine xT_if_icmpN g_q153 g153_11 (t := 45) (by decide) (c3N (a := j) (b := 2 ^ n) (by omega) (by omega) (by omega)) ?_
      refine xT_aload_n g_q153 g153_14 (l0) ?_
      refine xT_getfield g_q153 g153_15 hpA rfl hp rfl rfl ?_
      refine xT_iload_n g_q153 g153_18 (l3) ?_
      refine xT_iaload g_q153 g153_19 (by omega) a5 (ixN (n := 256) (by omega) b5) (ixG (by omega) (e5 _ (by omega))) ?_
      refine xT_iload_n g_q153 g153_20 (l1) ?_
      refine xT_if_icmpY g_q153 g153_21 (t := 39) (by decide) (c4Y (a := hf j) (b := g) (by omega) (by have := h9 j; omega) (by omega)) ?_
      refine xT_iincV (y := nI (j + 1)) g_q153 g153_39 (l3) (by decide) (bIncN _) ?_
      refine xT_goto g_q153 g153_42 (t := 4) (by decide) ?_
      exact ih (j + 1) _ (by omega) (by omega) (lkN (by decide) (l0)) (lkN (by decide) (l1)) (by
        rw [e]
        exact lkN (by decide) (l2)) (lkY)
    by_cases hw : wtD we (bsN (fun j => decide (hf j ≤ g)) (fun j => wtD we j n) j) n < wtD we j n
    · have e : bsN (fun j => decide (hf j ≤ g)) (fun j => wtD we j n) (j + 1) = j := if_pos ⟨decide_eq_true hh, hw⟩
      refine xT_iload_n g_q153 g153_4 (l3) ?_
      refine xT_icV (y := nI (1)) g_q153 g153_5 (by decide) ?_
      refine xT_aload_n g_q153 g153_6 (l0) ?_
      refine xT_getfield g_q153 g153_7 hpA rfl hp rfl rfl ?_
      refine xT_ishlV (y := nI (2 ^ n)) g_q153 g153_10 ((b_shl n (by omega)).1) ?_
      refine xT_if_icmpN g_q153 g153_11 (t := 45) (by decide) (c3N (a := j) (b := 2 ^ n) (by omega) (by omega) (by omega)) ?_
      refine xT_aload_n g_q153 g153_14 (l0) ?_
      refine xT_getfield g_q153 g153_15 hpA rfl hp rfl rfl ?_
      refine xT_iload_n g_q153 g153_18 (l3) ?_
      refine xT_iaload g_q153 g153_19 (by omega) a5 (ixN (n := 256) (by omega) b5) (ixG (by omega) (e5 _ (by omega))) ?_
      refine xT_iload_n g_q153 g153_20 (l1) ?_
      refine xT_if_icmpN g_q153 g153_21 (t := 39) (by decide) (c4N (a := hf j) (b := g) hh (by have := h9 j; omega) (by omega)) ?_
      refine xT_aload_n g_q153 g153_24 (l0) ?_
      refine xT_iload_n g_q153 g153_25 (l3) ?_
      refine xT_invokevirtual (r := []) (u := some (.inl (nI (wtD we j n)))) g_q153 g153_26 (j := 154) (so := 0) (by decide +kernel) g_q154 rfl (by rw [x_rcM hpA hp]; rfl) (t154 hP (by omega)) ?_
      refine xT_aload_n g_q153 g153_29 (l0) ?_
      refine xT_iload_n g_q153 g153_30 (l2) ?_
      refine xT_invokevirtual (r := [.inl (nI (wtD we j n))]) (u := some (.inl (nI (wtD we (bsN (fun j => decide (hf j ≤ g)) (fun j => wtD we j n) j) n)))) g_q153 g153_31 (j := 154) (so := 0) (by decide +kernel) g_q154 rfl (by rw [x_rcM hpA hp]; rfl) (t154 hP (by omega)) ?_
      refine xT_if_icmpN g_q153 g153_34 (t := 39) (by decide) (c5N (b := wtD we (bsN (fun j => decide (hf j ≤ g)) (fun j => wtD we j n) j) n) hw (wt_31 _) (wt_31 _)) ?_
      refine xT_iload_n g_q153 g153_37 (l3) ?_
      refine xT_istore_n g_q153 g153_38 (by decide) ?_
      refine xT_iincV (y := nI (j + 1)) g_q153 g153_39 (lkN (by decide) (l3)) (by decide) (bIncN _) ?_
      refine xT_goto g_q153 g153_42 (t := 4) (by decide) ?_
      exact ih (j + 1) _ (by omega) (by omega) (lkN (by decide) (lkN (by decide) (l0))) (lkN (by decide) (lkN (by decide) (l1))) (by
        rw [e]
        exact lkN (by decide) (lkY)) (lkY)
    · have e : bsN (fun j => decide (hf j ≤ g)) (fun j => wtD we j n) (j + 1) = bsN (fun j => decide (hf j ≤ g)) (fun j => wtD we j n) j := if_neg (fun z => hw z.2)
      have hw := Nat.le_of_not_lt hw
      refine xT_iload_n g_q153 g153_4 (l3) ?_
      refine xT_icV (y := nI (1)) g_q153 g153_5 (by decide) ?_
      refine xT_aload_n g_q153 g153_6 (l0) ?_
      refine xT_getfield g_q153 g153_7 hpA rfl hp rfl rfl ?_
      refine xT_ishlV (y := nI (2 ^ n)) g_q153 g153_10 ((b_shl n (by omega)).1) ?_
      refine xT_if_icmpN g_q153 g153_11 (t := 45) (by decide) (c3N (a := j) (b := 2 ^ n) (by omega) (by omega) (by omega)) ?_
      refine xT_aload_n g_q153 g153_14 (l0) ?_
      refine xT_getfield g_q153 g153_15 hpA rfl hp rfl rfl ?_
      refine xT_iload_n g_q153 g153_18 (l3) ?_
      refine xT_iaload g_q153 g153_19 (by omega) a5 (ixN (n := 256) (by omega) b5) (ixG (by omega) (e5 _ (by omega))) ?_
      refine xT_iload_n g_q153 g153_20 (l1) ?_
      refine xT_if_icmpN g_q153 g153_21 (t := 39) (by decide) (c4N (a := hf j) (b := g) hh (by have := h9 j; omega) (by omega)) ?_
      refine xT_aload_n g_q153 g153_24 (l0) ?_
      refine xT_iload_n g_q153 g153_25 (l3) ?_
      refine xT_invokevirtual (r := []) (u := some (.inl (nI (wtD we j n)))) g_q153 g153_26 (j := 154) (so := 0) (by decide +kernel) g_q154 rfl (by rw [x_rcM hpA hp]; rfl) (t154 hP (by omega)) ?_
      refine xT_aload_n g_q153 g153_29 (l0) ?_
      refine xT_iload_n g_q153 g153_30 (l2) ?_
      refine xT_invokevirtual (r := [.inl (nI (wtD we j n))]) (u := some (.inl (nI (wtD we (bsN (fun j => decide (hf j ≤ g)) (fun j => wtD we j n) j) n)))) g_q153 g153_31 (j := 154) (so := 0) (by decide +kernel) g_q154 rfl (by rw [x_rcM hpA hp]; rfl) (t154 hP (by omega)) ?_
      refine xT_if_icmpY g_q153 g153_34 (t := 39) (by decide) (c5Y (b := wtD we (bsN (fun j => decide (hf j ≤ g)) (fun j => wtD we j n) j) n) hw (wt_31 _) (wt_31 _)) ?_
      refine xT_iincV (y := nI (j + 1)) g_q153 g153_39 (l3) (by decide) (bIncN _) ?_
      refine xT_goto g_q153 g153_42 (t := 4) (by decide) ?_
      exact ih (j + 1) _ (by omega) (by omega) (lkN (by decide) (l0)) (lkN (by decide) (l1)) (by
        rw [e]
        exact lkN (by decide) (l2)) (lkY)
theorem t153 (hP : isPo H p n r pl mi la we ord hf m) (hB : stB pl mi la we) (h9 : ∀ k, hf k ≤ 9) (hm : 2 ^ n ≤ m) {g : Nat} (hg : g ≤ 3) : x_To x_tb x_tyl ot (dp + 2) 153 0 (x_en 0 [.inr (some (p)), .inl (nI (g))]) [] H 0 0 (some (.inl (nI (bsN (fun j => decide (hf j ≤ g)) (fun j => wtD we j n) (2 ^ n))))) H := by
  have e : bsN (fun j => decide (hf j ≤ g)) (fun j => wtD we j n) 1 = 0 := by
    show (if decide (hf 0 ≤ g) = true ∧ wtD we 0 n < wtD we 0 n then 0 else 0) = 0
    split <;> rfl
  have h1 : 1 ≤ 2 ^ n := Nat.one_le_two_pow
  refine xT_icV (y := nI (0)) g_q153 g153_0 (by decide) ?_
  refine xT_istore_n g_q153 g153_1 (by decide) ?_
  refine xT_icV (y := nI (1)) g_q153 g153_2 (by decide) ?_
  refine xT_istore_n g_q153 g153_3 (by decide) ?_
  exact t153_l hP hB h9 hm hg (2 ^ n - 1) 1 _ (by omega) (Nat.le_refl 1) (lkN (by decide) (lkN (by decide) (rfl))) (lkN (by decide) (lkN (by decide) (rfl))) (by
    rw [e]
    exact lkN (by decide) (lkY)) (lkY)
end XH355
