/-! p31 by hand, 7. -/
noncomputable section XH31_7
variable {ot : XO Int32} {dp : Nat} {H : List (XC Int32)} {a b tr tc fr r n m : Nat} {vs wl : List (XV Int32)}
theorem t139_l (hT : kT H a tr tc fr n m vs) {B : Nat → Int32} (hB : ∀ t, t < n → vs[t * 2 + 1]? = some (.inl (B t))) : ∀ (k b : Nat) (L : List (Nat × XV Int32)), k ≤ 255 → b ≤ 255 → x_lk L 0 = some (.inr (some (a))) → x_lk L 1 = some (.inl ((fA B n 0 0))) → x_lk L 2 = some (.inl (nI (b))) → x_lk L 3 = some (.inl (dnI k)) → x_To x_tb x_tyl ot (dp + 3) 139 16 L [] H 0 0 (some (.inl (nI (mnD (pS B n) fC k b)))) H := by
  obtain ⟨haA, htA, hfA, hcA, hn8, hm8, gs, ts, us, ha, g14, g15, ht0, s1, s2, s3, hf0, u3, hv, hvl⟩ := id hT
  intro k
  induction k with
  | zero =>
    intro b L hk hb l0 l1 l2 l3
    rw [show mnD (pS B n) fC 0 b = b from rfl]
    have l3 : x_lk L 3 = some (.inl (-1)) := l3
    refine xT_iload_n g_q139 g139_16 (l3) ?_
    refine xT_ifCondY g_q139 g139_17 (t := 48) (by decide) ((by decide +kernel)) ?_
    refine xT_iload_n g_q139 g139_48 (l2) ?_
    exact xT_ireturn g_q139 g139_49 (rfl)
  | succ k ih =>
    intro b L hk hb l0 l1 l2 l3
    have l3 : x_lk L 3 = some (.inl (nI k)) := l3
    by_cases hc : bcI (nI b) < bcI (nI k)
    · rw [show mnD (pS B n) fC (k + 1) b = mnD (pS B n) fC k b from congrArg (mnD (pS B n) fC k) (if_neg (fun z => b_le.mp z.2 hc))]
      refine xT_iload_n g_q139 g139_16 (l3) ?_
      refine xT_ifCondN g_q139 g139_17 (t := 48) (by decide) (c2N (b := 0) (Nat.zero_le _) (by omega) (by omega)) ?_
      refine xT_iload_n g_q139 g139_20 (l3) ?_
      refine xT_invokestatic (r := []) (u := some (.inl (bcI (nI (k))))) g_q139 g139_21 (j := 126) (so := 2) (by decide +kernel) g_q126 (rfl) (t126 (x := nI (k))) ?_
      refine xT_iload_n g_q139 g139_24 (l2) ?_
      refine xT_invokestatic (r := []) (u := some (.inl (bcI (nI (b))))) g_q139 g139_25 (j := 126) (so := 2) (by decide +kernel) g_q126 (rfl) (t126 (x := nI (b))) ?_
      refine xT_if_icmpY g_q139 g139_28 (t := 42) (by decide) (decide_eq_true hc) ?_
      refine xT_iincV (y := dnI k) g_q139 g139_42 (l3) (by decide) (b_di (by omega)) ?_
      refine xT_goto g_q139 g139_45 (t := 16) (by decide) ?_
      exact ih _ _ (by omega) (by omega) (lkN (by decide) (l0)) (lkN (by decide) (l1)) (lkN (by decide) (l2)) (lkY)
    by_cases hp : fS B k n 0 0 = fA B n 0 0
    · rw [show mnD (pS B n) fC (k + 1) b = mnD (pS B n) fC k k from congrArg (mnD (pS B n) fC k) (if_pos ⟨decide_eq_true hp, b_le.mpr hc⟩)]
      refine xT_iload_n g_q139 g139_16 (l3) ?_
      refine xT_ifCondN g_q139 g139_17 (t := 48) (by decide) (c2N (b := 0) (Nat.zero_le _) (by omega) (by omega)) ?_
      refine xT_iload_n g_q139 g139_20 (l3) ?_
      refine xT_invokestatic (r := []) (u := some (.inl (bcI (nI (k))))) g_q139 g139_21 (j := 126) (so := 2) (by decide +kernel) g_q126 (rfl) (t126 (x := nI (k))) ?_
      refine xT_iload_n g_q139 g139_24 (l2) ?_
      refine xT_invokestatic (r := []) (u := some (.inl (bcI (nI (b))))) g_q139 g139_25 (j := 126) (so := 2) (by decide +kernel) g_q126 (rfl) (t126 (x := nI (b))) ?_
      refine xT_if_icmpN g_q139 g139_28 (t := 42) (by decide) (decide_eq_false hc) ?_
      refine xT_aload_n g_q139 g139_31 (l0) ?_
      refine xT_iload_n g_q139 g139_32 (l3) ?_
      refine xT_invokevirtual (r := []) (u := some (.inl (fS B k n 0 0))) g_q139 g139_33 (j := 138) (so := 0) (by decide +kernel) g_q138 rfl (by rw [x_rcM haA ha]; rfl) (t138 (dp := dp) hT hB (by omega)) ?_
      refine xT_iload_n g_q139 g139_36 (l1) ?_
      refine xT_if_icmpN g_q139 g139_37 (t := 42) (by decide) (decide_eq_false (fun z => z hp)) ?_
      refine xT_iload_n g_q139 g139_40 (l3) ?_
      refine xT_istore_n g_q139 g139_41 (by decide) ?_
      refine xT_iincV (y := dnI k) g_q139 g139_42 (lkN (by decide) (l3)) (by decide) (b_di (by omega)) ?_
      refine xT_goto g_q139 g139_45 (t := 16) (by decide) ?_
      exact ih _ _ (by omega) (by omega) (lkN (by decide) (lkN (by decide) (l0))) (lkN (by decide) (lkN (by decide) (l1))) (lkN (by decide) (lkY)) (lkY)
    · rw [show mnD (pS B n) fC (k + 1) b = mnD (pS B n) fC k b from congrArg (mnD (pS B n) fC k) (if_neg (fun z => hp (of_decide_eq_true z.1)))]
      refine xT_iload_n g_q139 g139_16 (l3) ?_
      refine xT_ifCondN g_q139 g139_17 (t := 48) (by decide) (c2N (b := 0) (Nat.zero_le _) (by omega) (by omega)) ?_
      refine xT_iload_n g_q139 g139_20 (l3) ?_
      refine xT_invokestatic (r := []) (u := some (.inl (bcI (nI (k))))) g_q139 g139_21 (j := 126) (so := 2) (by decide +kernel) g_q126 (rfl) (t126 (x := nI (k))) ?_
      refine xT_iload_n g_q139 g139_24 (l2) ?_
      refine xT_invokestatic (r := []) (u := some (.inl (bcI (nI (b))))) g_q139 g139_25 (j := 126) (so := 2) (by decide +kernel) g_q126 (rfl) (t126 (x := nI (b))) ?_
      refine xT_if_icmpN g_q139 g139_28 (t := 42) (by decide) (decide_eq_false hc) ?_
      refine xT_aload_n g_q139 g139_31 (l0) ?_
      refine xT_iload_n g_q139 g139_32 (l3) ?_
      refine xT_invokevirtual (r := []) (u := some (.inl (fS B k n 0 0))) g_q139 g139_33 (j := 138) (so := 0) (by decide +kernel) g_q138 rfl (by rw [x_rcM haA ha]; rfl) (t138 (dp := dp) hT hB (by omega)) ?_
      refine xT_iload_n g_q139 g139_36 (l1) ?_
      refine xT_if_icmpY g_q139 g139_37 (t := 42) (by decide) (decide_eq_true hp) ?_
      refine xT_iincV (y := dnI k) g_q139 g139_42 (l3) (by decide) (b_di (by omega)) ?_
      refine xT_goto g_q139 g139_45 (t := 16) (by decide) ?_
      exact ih _ _ (by omega) (by omega) (lkN (by decide) (l0)) (lkN (by decide) (l1)) (lkN (by decide) (l2)) (lkY)
theorem t139 (hT : kT H a tr tc fr n m vs) {B : Nat → Int32} (hB : ∀ t, t < n → vs[t * 2 + 1]? = some (.inl (B t))) : x_To x_tb x_tyl ot (dp + 3) 139 0 (x_en 0 [.inr (some (a)), .inl ((fA B n 0 0))]) [] H 0 0 (some (.inl (nI (mnD (pS B n) fC (2 ^ n - 1) (2 ^ n - 1))))) H := by
  obtain ⟨haA, htA, hfA, hcA, hn8, hm8, gs, ts, us, ha, g14, g15, ht0, s1, s2, s3, hf0, u3, hv, hvl⟩ := id hT
  obtain ⟨-, h256, h0⟩ := b_sh n hn8
  refine xT_icV (y := nI (1)) g_q139 g139_0 (by decide) ?_
  refine xT_aload_n g_q139 g139_1 (rfl) ?_
  refine xT_getfield g_q139 g139_2 haA rfl ha rfl g14 ?_
  refine xT_getfield g_q139 g139_5 htA rfl ht0 rfl s3 ?_
  refine xT_ishlV (y := nI (2 ^ n)) g_q139 g139_8 ((b_sh n hn8).1) ?_
  refine xT_icV (y := nI (1)) g_q139 g139_9 (by decide) ?_
  refine xT_isubV (y := nI (2 ^ n - 1)) g_q139 g139_10 (bSubN (b_sh n hn8).2.2) ?_
  refine xT_istore_n g_q139 g139_11 (by decide) ?_
  refine xT_iload_n g_q139 g139_12 (lkY) ?_
  refine xT_icV (y := nI (1)) g_q139 g139_13 (by decide) ?_
  refine xT_isubV (y := dnI (2 ^ n - 1)) g_q139 g139_14 (b_dn (by omega)) ?_
  refine xT_istore_n g_q139 g139_15 (by decide) ?_
  exact t139_l hT hB (2 ^ n - 1) (2 ^ n - 1) _ (by omega) (by omega) (lkN (by decide) (lkN (by decide) (rfl))) (lkN (by decide) (lkN (by decide) (rfl))) (lkN (by decide) (lkY)) (lkY)
end XH31_7
