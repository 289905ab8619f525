/-! p31 by hand, 5. -/
noncomputable section XH31_5
variable {ot : XO Int32} {dp : Nat} {H : List (XC Int32)} {a b tr tc fr r n m : Nat} {vs wl : List (XV Int32)}
theorem t138_l (hT : kT H a tr tc fr n m vs) {B : Nat → Int32} (hB : ∀ t, t < n → vs[t * 2 + 1]? = some (.inl (B t))) {s : Nat} (hs : s < 256) : ∀ (d t : Nat) (acc : Int32) (L : List (Nat × XV Int32)), t + d = n → x_lk L 0 = some (.inr (some (a))) → x_lk L 1 = some (.inl (nI (s))) → x_lk L 2 = some (.inl (acc)) → x_lk L 3 = some (.inl (nI (t))) → x_To x_tb x_tyl ot (dp + 2) 138 4 L [] H 0 0 (some (.inl (fS B s d t acc))) H := by
  obtain ⟨haA, htA, hfA, hcA, hn8, hm8, gs, ts, us, ha, g14, g15, ht0, s1, s2, s3, hf0, u3, hv, hvl⟩ := id hT
  intro d
  induction d with
  | zero =>
    intro t acc L hl l0 l1 l2 l3
    obtain rfl : n = t := by omega
    rw [show fS B s 0 n acc = acc from rfl]
    refine xT_iload_n g_q138 g138_4 (l3) ?_
    refine xT_aload_n g_q138 g138_5 (l0) ?_
    refine xT_getfield g_q138 g138_6 haA rfl ha rfl g14 ?_
    refine xT_getfield g_q138 g138_9 htA rfl ht0 rfl s3 ?_
    refine xT_if_icmpY g_q138 g138_12 (t := 41) (by decide) (c3Y (a := n) (b := n) (Nat.le_refl _) (by omega) (by omega)) ?_
    refine xT_iload_n g_q138 g138_41 (l2) ?_
    exact xT_ireturn g_q138 g138_42 (rfl)
  | succ d ih =>
    intro t acc L hl l0 l1 l2 l3
    have ht : t < n := by omega
    by_cases hb : (s >>> t) &&& 1 = 1
    · rw [show fS B s (d + 1) t acc = fS B s d (t + 1) (acc ||| B t) from congrArg (fS B s d (t + 1)) (if_pos hb)]
      refine xT_iload_n g_q138 g138_4 (l3) ?_
      refine xT_aload_n g_q138 g138_5 (l0) ?_
      refine xT_getfield g_q138 g138_6 haA rfl ha rfl g14 ?_
      refine xT_getfield g_q138 g138_9 htA rfl ht0 rfl s3 ?_
      refine xT_if_icmpN g_q138 g138_12 (t := 41) (by decide) (c3N (a := t) (b := n) (by omega) (by omega) (by omega)) ?_
      refine xT_iload_n g_q138 g138_15 (l1) ?_
      refine xT_iload_n g_q138 g138_16 (l3) ?_
      refine xT_invokestatic (r := []) (u := some (.inl (nI (1)))) g_q138 g138_17 (j := 48) (so := 2) (by decide +kernel) g_q48 (rfl) (t48Y hs (by omega) hb) ?_
      refine xT_ifCondN g_q138 g138_20 (t := 35) (by decide) (c0N (a := 1) (b := 0) (by omega) (by omega) (by omega)) ?_
      refine xT_iload_n g_q138 g138_23 (l2) ?_
      refine xT_aload_n g_q138 g138_24 (l0) ?_
      refine xT_getfield g_q138 g138_25 haA rfl ha rfl g14 ?_
      refine xT_iload_n g_q138 g138_28 (l3) ?_
      refine xT_icV (y := nI (1)) g_q138 g138_29 (by decide) ?_
      refine xT_invokevirtual (r := [.inl (acc)]) (u := some (.inl (B t))) g_q138 g138_30 (j := 111) (so := 0) (by decide +kernel) g_q111 rfl (by rw [x_rcM htA ht0]; rfl) (t111 (dp := dp) hT ht (hB t ht)) ?_
      refine xT_iorV (y := acc ||| B t) g_q138 g138_33 (rfl) ?_
      refine xT_istore_n g_q138 g138_34 (by decide) ?_
      refine xT_iincV (y := nI (t + 1)) g_q138 g138_35 (lkN (by decide) (l3)) (by decide) (bIncN _) ?_
      refine xT_goto g_q138 g138_38 (t := 4) (by decide) ?_
      exact ih (t + 1) _ _ (by omega) (lkN (by decide) (lkN (by decide) (l0))) (lkN (by decide) (lkN (by decide) (l1))) (lkN (by decide) (lkY)) (lkY)
    · rw [show fS B s (d + 1) t acc = fS B s d (t + 1) acc from congrArg (fS B s d (t + 1)) (if_neg hb)]
      refine xT_iload_n g_q138 g138_4 (l3) ?_
      refine xT_aload_n g_q138 g138_5 (l0) ?_
      refine xT_getfield g_q138 g138_6 haA rfl ha rfl g14 ?_
      refine xT_getfield g_q138 g138_9 htA rfl ht0 rfl s3 ?_
      refine xT_if_icmpN g_q138 g138_12 (t := 41) (by decide) (c3N (a := t) (b := n) (by omega) (by omega) (by omega)) ?_
      refine xT_iload_n g_q138 g138_15 (l1) ?_
      refine xT_iload_n g_q138 g138_16 (l3) ?_
      refine xT_invokestatic (r := []) (u := some (.inl (nI (0)))) g_q138 g138_17 (j := 48) (so := 2) (by decide +kernel) g_q48 (rfl) (t48N hs (by omega) hb) ?_
      refine xT_ifCondY g_q138 g138_20 (t := 35) (by decide) (c0Y (b := 0) rfl) ?_
      refine xT_iincV (y := nI (t + 1)) g_q138 g138_35 (l3) (by decide) (bIncN _) ?_
      refine xT_goto g_q138 g138_38 (t := 4) (by decide) ?_
      exact ih (t + 1) _ _ (by omega) (lkN (by decide) (l0)) (lkN (by decide) (l1)) (lkN (by decide) (l2)) (lkY)
theorem t138 (hT : kT H a tr tc fr n m vs) {B : Nat → Int32} (hB : ∀ t, t < n → vs[t * 2 + 1]? = some (.inl (B t))) {s : Nat} (hs : s < 256) : x_To x_tb x_tyl ot (dp + 2) 138 0 (x_en 0 [.inr (some (a)), .inl (nI (s))]) [] H 0 0 (some (.inl (fS B s n 0 0))) H := by
  refine xT_icV (y := nI (0)) g_q138 g138_0 (by decide) ?_
  refine xT_istore_n g_q138 g138_1 (by decide) ?_
  refine xT_icV (y := nI (0)) g_q138 g138_2 (by decide) ?_
  refine xT_istore_n g_q138 g138_3 (by decide) ?_
  exact t138_l hT hB hs n 0 _ _ (by omega) (lkN (by decide) (lkN (by decide) (rfl))) (lkN (by decide) (lkN (by decide) (rfl))) (lkN (by decide) (lkY)) (lkY)
theorem t138A_l (hT : kT H a tr tc fr n m vs) {B : Nat → Int32} (hB : ∀ t, t < n → vs[t * 2 + 1]? = some (.inl (B t))) : ∀ (d t : Nat) (acc : Int32) (L : List (Nat × XV Int32)), t + d = n → x_lk L 0 = some (.inr (some (a))) → x_lk L 1 = some (.inl (-1)) → x_lk L 2 = some (.inl (acc)) → x_lk L 3 = some (.inl (nI (t))) → x_To x_tb x_tyl ot (dp + 2) 138 4 L [] H 0 0 (some (.inl (fA B d t acc))) H := by
  obtain ⟨haA, htA, hfA, hcA, hn8, hm8, gs, ts, us, ha, g14, g15, ht0, s1, s2, s3, hf0, u3, hv, hvl⟩ := id hT
  intro d
  induction d with
  | zero =>
    intro t acc L hl l0 l1 l2 l3
    obtain rfl : n = t := by omega
    rw [show fA B 0 n acc = acc from rfl]
    refine xT_iload_n g_q138 g138_4 (l3) ?_
    refine xT_aload_n g_q138 g138_5 (l0) ?_
    refine xT_getfield g_q138 g138_6 haA rfl ha rfl g14 ?_
    refine xT_getfield g_q138 g138_9 htA rfl ht0 rfl s3 ?_
    refine xT_if_icmpY g_q138 g138_12 (t := 41) (by decide) (c3Y (a := n) (b := n) (Nat.le_refl _) (by omega) (by omega)) ?_
    refine xT_iload_n g_q138 g138_41 (l2) ?_
    exact xT_ireturn g_q138 g138_42 (rfl)
  | succ d ih =>
    intro t acc L hl l0 l1 l2 l3
    have ht : t < n := by omega
    rw [show fA B (d + 1) t acc = fA B d (t + 1) (acc ||| B t) from rfl]
    refine xT_iload_n g_q138 g138_4 (l3) ?_
    refine xT_aload_n g_q138 g138_5 (l0) ?_
    refine xT_getfield g_q138 g138_6 haA rfl ha rfl g14 ?_
    refine xT_getfield g_q138 g138_9 htA rfl ht0 rfl s3 ?_
    refine xT_if_icmpN g_q138 g138_12 (t := 41) (by decide) (c3N (a := t) (b := n) (by omega) (by omega) (by omega)) ?_
    refine xT_iload_n g_q138 g138_15 (l1) ?_
    refine xT_iload_n g_q138 g138_16 (l3) ?_
    refine xT_invokestatic (r := []) (u := some (.inl (nI (1)))) g_q138 g138_17 (j := 48) (so := 2) (by decide +kernel) g_q48 (rfl) (t48A (by omega)) ?_
    refine xT_ifCondN g_q138 g138_20 (t := 35) (by decide) (c0N (a := 1) (b := 0) (by omega) (by omega) (by omega)) ?_
    refine xT_iload_n g_q138 g138_23 (l2) ?_
    refine xT_aload_n g_q138 g138_24 (l0) ?_
    refine xT_getfield g_q138 g138_25 haA rfl ha rfl g14 ?_
    refine xT_iload_n g_q138 g138_28 (l3) ?_
    refine xT_icV (y := nI (1)) g_q138 g138_29 (by decide) ?_
    refine xT_invokevirtual (r := [.inl (acc)]) (u := some (.inl (B t))) g_q138 g138_30 (j := 111) (so := 0) (by decide +kernel) g_q111 rfl (by rw [x_rcM htA ht0]; rfl) (t111 (dp := dp) hT ht (hB t ht)) ?_
    refine xT_iorV (y := acc ||| B t) g_q138 g138_33 (rfl) ?_
    refine xT_istore_n g_q138 g138_34 (by decide) ?_
    refine xT_iincV (y := nI (t + 1)) g_q138 g138_35 (lkN (by decide) (l3)) (by decide) (bIncN _) ?_
    refine xT_goto g_q138 g138_38 (t := 4) (by decide) ?_
    exact ih (t + 1) _ _ (by omega) (lkN (by decide) (lkN (by decide) (l0))) (lkN (by decide) (lkN (by decide) (l1))) (lkN (by decide) (lkY)) (lkY)
theorem t138A (hT : kT H a tr tc fr n m vs) {B : Nat → Int32} (hB : ∀ t, t < n → vs[t * 2 + 1]? = some (.inl (B t))) : x_To x_tb x_tyl ot (dp + 2) 138 0 (x_en 0 [.inr (some (a)), .inl (-1)]) [] H 0 0 (some (.inl (fA B n 0 0))) H := by
  refine xT_icV (y := nI (0)) g_q138 g138_0 (by decide) ?_
  refine xT_istore_n g_q138 g138_1 (by decide) ?_
  refine xT_icV (y := nI (0)) g_q138 g138_2 (by decide) ?_
  refine xT_istore_n g_q138 g138_3 (by decide) ?_
  exact t138A_l hT hB n 0 _ _ (by omega) (lkN (by decide) (lkN (by decide) (rfl))) (lkN (by decide) (lkN (by decide) (rfl))) (lkN (by decide) (lkY)) (lkY)
end XH31_5
