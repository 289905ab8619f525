/-! p35 by hand, 4. -/
noncomputable section XH354
variable {ot : XO Int32} {dp : Nat} {H : List (XC Int32)} {p n m : Nat} {r : Nat → Nat} {pl mi la we ord hf : Nat → Nat}
theorem t154_l (hP : isPo H p n r pl mi la we ord hf m) {s : Nat} (hs : s < 256) : ∀ (d k : Nat) (L : List (Nat × XV Int32)), k + d = n → x_lk L 0 = some (.inr (some p)) → x_lk L 1 = some (.inl (nI s)) → x_lk L 2 = some (.inl (nI (wtD we s k))) → x_lk L 3 = some (.inl (nI k)) → x_To x_tb x_tyl ot (dp + 1) 154 4 L [] H 0 0 (some (.inl (nI (wtD we s n)))) H := by
  obtain ⟨⟨hpA, hp, h8⟩, ⟨d0, v0, a0, b0, e0⟩, ⟨d1, v1, a1, b1, e1⟩, ⟨d2, v2, a2, b2, e2⟩, ⟨d3, v3, a3, b3, e3⟩, ⟨d4, v4, a4, b4, e4⟩, ⟨d5, v5, a5, b5, e5⟩⟩ := id hP
  intro d
  induction d with
  | zero =>
    intro k L hk l0 l1 l2 l3
    obtain rfl : n = k := by omega
    refine xT_iload_n g_q154 g154_4 (l3) ?_
    refine xT_aload_n g_q154 g154_5 (l0) ?_
    refine xT_getfield g_q154 g154_6 hpA rfl hp rfl rfl ?_
    refine xT_if_icmpY g_q154 g154_9 (t := 39) (by decide) (c3Y (a := n) (b := n) (by omega) (by omega) (by omega)) ?_
    refine xT_iload_n g_q154 g154_39 (l2) ?_
    exact xT_ireturn g_q154 g154_40 (rfl)
  | succ d ih =>
    intro k L hk l0 l1 l2 l3
    by_cases hb : bitP s k = 1
    · have e : wtD we s (k + 1) = wtD we s k + we k := by
        show wtD we s k + (if bitP s k = 1 then we k else 0) = _
        rw [if_pos hb]
      refine xT_iload_n g_q154 g154_4 (l3) ?_
      refine xT_aload_n g_q154 g154_5 (l0) ?_
      refine xT_getfield g_q154 g154_6 hpA rfl hp rfl rfl ?_
      refine xT_if_icmpN g_q154 g154_9 (t := 39) (by decide) (c3N (a := k) (b := n) (by omega) (by omega) (by omega)) ?_
      refine xT_iload_n g_q154 g154_12 (l2) ?_
      refine xT_iload_n g_q154 g154_13 (l1) ?_
      refine xT_iload_n g_q154 g154_14 (l3) ?_
      refine xT_invokestatic (r := []) (u := some (.inl (nI (1)))) g_q154 g154_15 (j := 48) (so := 3) (by decide +kernel) g_q48 (rfl) (t48pY hs (by omega) hb) ?_
      refine xT_ifCondN g_q154 g154_18 (t := 30) (by decide) (c0N (a := 1) (b := 0) (by omega) (by omega) (by omega)) ?_
      refine xT_aload_n g_q154 g154_21 (l0) ?_
      refine xT_getfield g_q154 g154_22 hpA rfl hp rfl rfl ?_
      refine xT_iload_n g_q154 g154_25 (l3) ?_
      refine xT_iaload g_q154 g154_26 (by omega) a3 (ixN (n := 8) (by omega) b3) (ixG (by omega) (e3 _ (by omega))) ?_
      refine xT_goto g_q154 g154_27 (t := 31) (by decide) ?_
      refine xT_iaddV (y := nI (wtD we s (k + 1))) g_q154 g154_31 ((bAddN _ _).trans (congrArg nI e.symm)) ?_
      refine xT_istore_n g_q154 g154_32 (by decide) ?_
      refine xT_iincV (y := nI (k + 1)) g_q154 g154_33 (lkN (by decide) (l3)) (by decide) (bIncN _) ?_
      refine xT_goto g_q154 g154_36 (t := 4) (by decide) ?_
      exact ih (k + 1) _ (by omega) (lkN (by decide) (lkN (by decide) (l0))) (lkN (by decide) (lkN (by decide) (l1))) (lkN (by decide) (lkY)) (lkY)
    · have e : wtD we s (k + 1) = wtD we s k + 0 := by
        show wtD we s k + (if bitP s k = 1 then we k else 0) = _
        rw [if_neg hb]
      refine xT_iload_n g_q154 g154_4 (l3) ?_
      refine xT_aload_n g_q154 g154_5 (l0) ?_
      refine xT_getfield g_q154 g154_6 hpA rfl hp rfl rfl ?_
      refine xT_if_icmpN g_q154 g154_9 (t := 39) (by decide) (c3N (a := k) (b := n) (by omega) (by omega) (by omega)) ?_
      refine xT_iload_n g_q154 g154_12 (l2) ?_
      refine xT_iload_n g_q154 g154_13 (l1) ?_
      refine xT_iload_n g_q154 g154_14 (l3) ?_
      refine xT_invokestatic (r := []) (u := some (.inl (nI (0)))) g_q154 g154_15 (j := 48) (so := 3) (by decide +kernel) g_q48 (rfl) (t48pN hs (by omega) hb) ?_
      refine xT_ifCondY g_q154 g154_18 (t := 30) (by decide) (c0Y (b := 0) rfl) ?_
      refine xT_icV (y := nI (0)) g_q154 g154_30 (by decide) ?_
      refine xT_iaddV (y := nI (wtD we s (k + 1))) g_q154 g154_31 ((bAddN _ _).trans (congrArg nI e.symm)) ?_
      refine xT_istore_n g_q154 g154_32 (by decide) ?_
      refine xT_iincV (y := nI (k + 1)) g_q154 g154_33 (lkN (by decide) (l3)) (by decide) (bIncN _) ?_
      refine xT_goto g_q154 g154_36 (t := 4) (by decide) ?_
      exact ih (k + 1) _ (by omega) (lkN (by decide) (lkN (by decide) (l0))) (lkN (by decide) (lkN (by decide) (l1))) (lkN (by decide) (lkY)) (lkY)
theorem t154 (hP : isPo H p n r pl mi la we ord hf m) {s : Nat} (hs : s < 256) : x_To x_tb x_tyl ot (dp + 1) 154 0 (x_en 0 [.inr (some (p)), .inl (nI (s))]) [] H 0 0 (some (.inl (nI (wtD we s n)))) H := by
  refine xT_icV (y := nI (0)) g_q154 g154_0 (by decide) ?_
  refine xT_istore_n g_q154 g154_1 (by decide) ?_
  refine xT_icV (y := nI (0)) g_q154 g154_2 (by decide) ?_
  refine xT_istore_n g_q154 g154_3 (by decide) ?_
  exact t154_l hP hs n 0 _ (by omega) (lkN (by decide) (lkN (by decide) (rfl))) (lkN (by decide) (lkN (by decide) (rfl))) (lkN (by decide) (lkY)) (lkY)
end XH354
