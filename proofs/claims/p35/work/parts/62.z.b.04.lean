/-! p35 by hand, 3. -/
noncomputable section XH353
variable {ot : XO Int32} {dp : Nat} {H : List (XC Int32)} {p n m : Nat} {r : Nat → Nat} {pl mi la we ord hf : Nat → Nat}
theorem t149_l (hP : isPo H p n r pl mi la we ord hf m) {s : Nat} (hs : s < 256) (hm9 : s ≤ m) (h9 : ∀ k, hf k ≤ 9) : ∀ (d b : Nat) (L : List (Nat × XV Int32)), b + d = s → 1 ≤ b → x_lk L 0 = some (.inr (some p)) → x_lk L 1 = some (.inl (nI s)) → x_lk L 2 = some (.inl (nI (fewL hf s b))) → x_lk L 3 = some (.inl (nI b)) → x_To x_tb x_tyl ot (dp + 2) 149 15 L [] H 0 0 (some (.inl (nI (fewL hf s s)))) H := by
  obtain ⟨⟨hpA, hp, h8⟩, ⟨d0, v0, a0, b0, e0⟩, ⟨d1, v1, a1, b1, e1⟩, ⟨d2, v2, a2, b2, e2⟩, ⟨d3, v3, a3, b3, e3⟩, ⟨d4, v4, a4, b4, e4⟩, ⟨d5, v5, a5, b5, e5⟩⟩ := id hP
  intro d
  induction d with
  | zero =>
    intro b L hb b1 l0 l1 l2 l3
    obtain rfl : s = b := by omega
    refine xT_iload_n g_q149 g149_15 (l3) ?_
    refine xT_iload_n g_q149 g149_16 (l1) ?_
    refine xT_if_icmpY g_q149 g149_17 (t := 59) (by decide) (c3Y (a := s) (b := s) (by omega) (by omega) (by omega)) ?_
    refine xT_iload_n g_q149 g149_59 (l2) ?_
    exact xT_ireturn g_q149 g149_60 (rfl)
  | succ d ih =>
    intro b L hb b1 l0 l1 l2 l3
    by_cases hz : andn b s = 0
    rotate_left
    · have e : fewL hf s (b + 1) = fewL hf s b := if_neg (fun z => hz z.2.1)
      refine xT_iload_n g_q149 g149_15 (l3) ?_
      refine xT_iload_n g_q149 g149_16 (l1) ?_
      refine xT_if_icmpN g_q149 g149_17 (t := 59) (by decide) (c3N (a := b) (b := s) (by omega) (by omega) (by omega)) ?_
      refine xT_iload_n g_q149 g149_20 (l3) ?_
      refine xT_iload_n g_q149 g149_21 (l1) ?_
      refine xT_icV (y := -1) g_q149 g149_22 (by decide) ?_
      refine xT_ixorV (y := x_bin 5 (nI s) (-1)) g_q149 g149_23 (rfl) ?_
      refine xT_iandV (y := nI (andn b s)) g_q149 g149_24 (b_andn (by omega) hs) ?_
      refine xT_ifCondY g_q149 g149_25 (t := 53) (by decide) (c1Y (a := andn b s) (b := 0) hz (by have := andn_le b s; omega) (by omega)) ?_
      refine xT_iincV (y := nI (b + 1)) g_q149 g149_53 (l3) (by decide) (bIncN _) ?_
      refine xT_goto g_q149 g149_56 (t := 15) (by decide) ?_
      exact ih (b + 1) _ (by omega) (by omega) (lkN (by decide) (l0)) (lkN (by decide) (l1)) (by
        rw [e]
        exact lkN (by decide) (l2)) (lkY)
    by_cases h1 : hf b = 1
    rotate_left
    · have e : fewL hf s (b + 1) = fewL hf s b := if_neg (fun z => h1 z.2.2)
      refine xT_iload_n g_q149 g149_15 (l3) ?_
      refine xT_iload_n g_q149 g149_16 (l1) ?_
      refine xT_if_icmpN g_q149 g149_17 (t := 59) (by decide) (c3N (a := b) (b := s) (by omega) (by omega) (by omega)) ?_
      refine xT_iload_n g_q149 g149_20 (l3) ?_
      refine xT_iload_n g_q149 g149_21 (l1) ?_
      refine xT_icV (y := -1) g_q149 g149_22 (by decide) ?_
      refine xT_ixorV (y := x_bin 5 (nI s) (-1)) g_q149 g149_23 (rfl) ?_
      refine xT_iandV (y := nI (andn b s)) g_q149 g149_24 (b_andn (by omega) hs) ?_
      refine xT_ifCondN g_q149 g149_25 (t := 53) (by decide) (c1N (b := 0) hz) ?_
      refine xT_aload_n g_q149 g149_28 (l0) ?_
      refine xT_getfield g_q149 g149_29 hpA rfl hp rfl rfl ?_
      refine xT_iload_n g_q149 g149_32 (l3) ?_
      refine xT_iaload g_q149 g149_33 (by omega) a5 (ixN (n := 256) (by omega) b5) (ixG (by omega) (e5 _ (by omega))) ?_
      refine xT_icV (y := nI (1)) g_q149 g149_34 (by decide) ?_
      refine xT_if_icmpY g_q149 g149_35 (t := 53) (by decide) (c1Y (a := hf b) (b := 1) h1 (by have := h9 b; omega) (by omega)) ?_
      refine xT_iincV (y := nI (b + 1)) g_q149 g149_53 (l3) (by decide) (bIncN _) ?_
      refine xT_goto g_q149 g149_56 (t := 15) (by decide) ?_
      exact ih (b + 1) _ (by omega) (by omega) (lkN (by decide) (l0)) (lkN (by decide) (l1)) (by
        rw [e]
        exact lkN (by decide) (l2)) (lkY)
    have hx := (b_sub hs (by omega) hz).2.1
    have q5 := e5 (s - b) (by omega)
    by_cases hm : 1 + hf (s - b) < fewL hf s b
    · have e : fewL hf s (b + 1) = 1 + hf (s - b) := (if_pos ⟨by omega, hz, h1⟩).trans (if_pos hm)
      refine xT_iload_n g_q149 g149_15 (l3) ?_
      refine xT_iload_n g_q149 g149_16 (l1) ?_
      refine xT_if_icmpN g_q149 g149_17 (t := 59) (by decide) (c3N (a := b) (b := s) (by omega) (by omega) (by omega)) ?_
      refine xT_iload_n g_q149 g149_20 (l3) ?_
      refine xT_iload_n g_q149 g149_21 (l1) ?_
      refine xT_icV (y := -1) g_q149 g149_22 (by decide) ?_
      refine xT_ixorV (y := x_bin 5 (nI s) (-1)) g_q149 g149_23 (rfl) ?_
      refine xT_iandV (y := nI (andn b s)) g_q149 g149_24 (b_andn (by omega) hs) ?_
      refine xT_ifCondN g_q149 g149_25 (t := 53) (by decide) (c1N (b := 0) hz) ?_
      refine xT_aload_n g_q149 g149_28 (l0) ?_
      refine xT_getfield g_q149 g149_29 hpA rfl hp rfl rfl ?_
      refine xT_iload_n g_q149 g149_32 (l3) ?_
      refine xT_iaload g_q149 g149_33 (by omega) a5 (ixN (n := 256) (by omega) b5) (ixG (by omega) (e5 _ (by omega))) ?_
      refine xT_icV (y := nI (1)) g_q149 g149_34 (by decide) ?_
      refine xT_if_icmpN g_q149 g149_35 (t := 53) (by decide) (c1N (b := 1) h1) ?_
      refine xT_iload_n g_q149 g149_38 (l2) ?_
      refine xT_icV (y := nI (1)) g_q149 g149_39 (by decide) ?_
      refine xT_aload_n g_q149 g149_40 (l0) ?_
      refine xT_getfield g_q149 g149_41 hpA rfl hp rfl rfl ?_
      refine xT_iload_n g_q149 g149_44 (l1) ?_
      refine xT_iload_n g_q149 g149_45 (l3) ?_
      refine xT_ixorV (y := nI (s - b)) g_q149 g149_46 (hx) ?_
      refine xT_iaload g_q149 g149_47 (by omega) a5 (ixN (n := 256) (by omega) b5) (ixG (by omega) (e5 _ (by omega))) ?_
      refine xT_iaddV (y := nI (1 + hf (s - b))) g_q149 g149_48 (bAddN _ _) ?_
      refine xT_minY g_q149 g149_49 (by decide +kernel) (by decide +kernel) (rfl) (c2Y hm (by have := h9 (s - b); omega) (by have := few_9 (hf := hf) (s := s) b; omega)) ?_
      refine xT_istore_n g_q149 g149_52 (by decide) ?_
      refine xT_iincV (y := nI (b + 1)) g_q149 g149_53 (lkN (by decide) (l3)) (by decide) (bIncN _) ?_
      refine xT_goto g_q149 g149_56 (t := 15) (by decide) ?_
      exact ih (b + 1) _ (by omega) (by omega) (lkN (by decide) (lkN (by decide) (l0))) (lkN (by decide) (lkN (by decide) (l1))) (by
        rw [e]
        exact lkN (by decide) (lkY)) (lkY)
    · have e : fewL hf s (b + 1) = fewL hf s b := (if_pos ⟨by omega, hz, h1⟩).trans (if_neg hm)
      have hm := Nat.le_of_not_lt hm
      refine xT_iload_n g_q149 g149_15 (l3) ?_
      refine xT_iload_n g_q149 g149_16 (l1) ?_
      refine xT_if_icmpN g_q149 g149_17 (t := 59) (by decide) (c3N (a := b) (b := s) (by omega) (by omega) (by omega)) ?_
      refine xT_iload_n g_q149 g149_20 (l3) ?_
      refine xT_iload_n g_q149 g149_21 (l1) ?_
      refine xT_icV (y := -1) g_q149 g149_22 (by decide) ?_
      refine xT_ixorV (y := x_bin 5 (nI s) (-1)) g_q149 g149_23 (rfl) ?_
      refine xT_iandV (y := nI (andn b s)) g_q149 g149_24 (b_andn (by omega) hs) ?_
      refine xT_ifCondN g_q149 g149_25 (t := 53) (by decide) (c1N (b := 0) hz) ?_
      refine xT_aload_n g_q149 g149_28 (l0) ?_
      refine xT_getfield g_q149 g149_29 hpA rfl hp rfl rfl ?_
      refine xT_iload_n g_q149 g149_32 (l3) ?_
      refine xT_iaload g_q149 g149_33 (by omega) a5 (ixN (n := 256) (by omega) b5) (ixG (by omega) (e5 _ (by omega))) ?_
      refine xT_icV (y := nI (1)) g_q149 g149_34 (by decide) ?_
      refine xT_if_icmpN g_q149 g149_35 (t := 53) (by decide) (c1N (b := 1) h1) ?_
      refine xT_iload_n g_q149 g149_38 (l2) ?_
      refine xT_icV (y := nI (1)) g_q149 g149_39 (by decide) ?_
      refine xT_aload_n g_q149 g149_40 (l0) ?_
      refine xT_getfield g_q149 g149_41 hpA rfl hp rfl rfl ?_
      refine xT_iload_n g_q149 g149_44 (l1) ?_
      refine xT_iload_n g_q149 g149_45 (l3) ?_
      refine xT_ixorV (y := nI (s - b)) g_q149 g149_46 (hx) ?_
      refine xT_iaload g_q149 g149_47 (by omega) a5 (ixN (n := 256) (by omega) b5) (ixG (by omega) (e5 _ (by omega))) ?_
      refine xT_iaddV (y := nI (1 + hf (s - b))) g_q149 g149_48 (bAddN _ _) ?_
      refine xT_minN g_q149 g149_49 (by decide +kernel) (by decide +kernel) (rfl) (c2N hm (by have := h9 (s - b); omega) (by have := few_9 (hf := hf) (s := s) b; omega)) ?_
      refine xT_istore_n g_q149 g149_52 (by decide) ?_
      refine xT_iincV (y := nI (b + 1)) g_q149 g149_53 (lkN (by decide) (l3)) (by decide) (bIncN _) ?_
      refine xT_goto g_q149 g149_56 (t := 15) (by decide) ?_
      exact ih (b + 1) _ (by omega) (by omega) (lkN (by decide) (lkN (by decide) (l0))) (lkN (by decide) (lkN (by decide) (l1))) (by
        rw [e]
        exact lkN (by decide) (lkY)) (lkY)
theorem t149 (hP : isPo H p n r pl mi la we ord hf m) (hB : stB pl mi la we) (ho : ∀ k, k < n → ord k < n) {s : Nat} (hs : s < 256) (hm9 : s ≤ m) (h1s : 1 ≤ s) (h9 : ∀ k, hf k ≤ 9) : x_To x_tb x_tyl ot (dp + 2) 149 0 (x_en 0 [.inr (some (p)), .inl (nI (s))]) [] H 0 0 (some (.inl (nI (if mtD ord pl mi la s n 0 0 0 = 1 then 1 else fewL hf s s)))) H := by
  obtain ⟨⟨hpA, hp, h8⟩, ⟨d0, v0, a0, b0, e0⟩, ⟨d1, v1, a1, b1, e1⟩, ⟨d2, v2, a2, b2, e2⟩, ⟨d3, v3, a3, b3, e3⟩, ⟨d4, v4, a4, b4, e4⟩, ⟨d5, v5, a5, b5, e5⟩⟩ := id hP
  have z := t150 (ot := ot) (dp := dp) hP hB ho hs
  rcases mtD_b (ord := ord) (pl := pl) (mi := mi) (la := la) (s := s) n 0 0 0 with q | q
  · rw [q] at z
    rw [if_neg (by omega)]
    have e1 : fewL hf s 1 = 9 := if_neg (fun z => z.1 rfl)
    refine xT_aload_n g_q149 g149_0 (rfl) ?_
    refine xT_iload_n g_q149 g149_1 (rfl) ?_
    refine xT_invokevirtual (r := []) (u := some (.inl (nI (0)))) g_q149 g149_2 (j := 150) (so := 0) (by decide +kernel) g_q150 rfl (by rw [x_rcM hpA hp]; rfl) (z) ?_
    refine xT_ifCondY g_q149 g149_5 (t := 10) (by decide) (c0Y (b := 0) rfl) ?_
    refine xT_biV (y := nI (9)) g_q149 g149_10 (by decide) ?_
    refine xT_istore_n g_q149 g149_12 (by decide) ?_
    refine xT_icV (y := nI (1)) g_q149 g149_13 (by decide) ?_
    refine xT_istore_n g_q149 g149_14 (by decide) ?_
    exact t149_l hP hs hm9 h9 (s - 1) 1 _ (by omega) (Nat.le_refl 1) (lkN (by decide) (lkN (by decide) (rfl))) (lkN (by decide) (lkN (by decide) (rfl))) (by
      rw [e1]
      exact lkN (by decide) (lkY)) (lkY)
  · rw [q] at z
    rw [if_pos q]
    refine xT_aload_n g_q149 g149_0 (rfl) ?_
    refine xT_iload_n g_q149 g149_1 (rfl) ?_
    refine xT_invokevirtual (r := []) (u := some (.inl (nI (1)))) g_q149 g149_2 (j := 150) (so := 0) (by decide +kernel) g_q150 rfl (by rw [x_rcM hpA hp]; rfl) (z) ?_
    refine xT_ifCondN g_q149 g149_5 (t := 10) (by decide) (c0N (a := 1) (b := 0) (by omega) (by omega) (by omega)) ?_
    refine xT_icV (y := nI (1)) g_q149 g149_8 (by decide) ?_
    exact xT_ireturn g_q149 g149_9 (rfl)
end XH353
