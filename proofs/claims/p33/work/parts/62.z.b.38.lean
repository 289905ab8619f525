/-! p33 by hand, 37. -/
noncomputable section XH33_37
variable {ot : XO Int32} {dp : Nat} {H H0 : List (XC Int32)}
theorem t211_l {ra rb n m : Nat} {av bv : Nat → Int32} {la_ lb_ : List (XV Int32)} (ha0 : ¬ ra = 1000000) (hb0 : ¬ rb = 1000000) (ha : H[ra]? = some (.inr (0, la_))) (hb : H[rb]? = some (.inr (0, lb_))) (hal : la_.length = 12) (hbl : lb_.length = 12) (hn : n ≤ 12) (hav : ∀ k, k < n → la_[k]? = some (.inl (av k))) (hbv : ∀ k, k < n → lb_[k]? = some (.inl (bv k))) : ∀ (d i : Nat) (L : List (Nat × XV Int32)), i + d = n → x_lk L 0 = some (.inr (some (ra))) → x_lk L 1 = some (.inl (nI (n))) → x_lk L 2 = some (.inr (some (rb))) → x_lk L 3 = some (.inl (nI (m))) → x_lk L 4 = some (.inl (nI (1))) → x_lk L 5 = some (.inl (nI (i))) → x_To x_tb x_tyl ot dp 211 15 L [] H 0 0 (some (.inl (nI (if lkR av bv d i = true then 1 else 0)))) H := by
  intro d
  induction d with
  | zero =>
    intro i L hi l0 l1 l2 l3 l4 l5
    obtain rfl : n = i := by omega
    show x_To x_tb x_tyl ot dp 211 15 L [] H 0 0 (some (.inl (nI 1))) H
    refine xT_iload g_q211 g211_15 (l4) ?_
    refine xT_ifCondN g_q211 g211_17 (t := 50) (by decide) (c0N (a := 1) (b := 0) (by omega) (by omega) (by omega)) ?_
    refine xT_iload g_q211 g211_20 (l5) ?_
    refine xT_iload_n g_q211 g211_22 (l1) ?_
    refine xT_if_icmpY g_q211 g211_23 (t := 50) (by decide) (c3Y (a := n) (b := n) (Nat.le_refl _) (by omega) (by omega)) ?_
    refine xT_iload g_q211 g211_50 (l4) ?_
    exact xT_ireturn g_q211 g211_52 (by decide +kernel)
  | succ d ih =>
    intro i L hi l0 l1 l2 l3 l4 l5
    by_cases c : av i = bv i
    · rw [show lkR av bv (d + 1) i = lkR av bv d (i + 1) by
        show (decide (av i = bv i) && lkR av bv d (i + 1)) = _
        rw [decide_eq_true c, Bool.true_and]]
      refine xT_iload g_q211 g211_15 (l4) ?_
      refine xT_ifCondN g_q211 g211_17 (t := 50) (by decide) (c0N (a := 1) (b := 0) (by omega) (by omega) (by omega)) ?_
      refine xT_iload g_q211 g211_20 (l5) ?_
      refine xT_iload_n g_q211 g211_22 (l1) ?_
      refine xT_if_icmpN g_q211 g211_23 (t := 50) (by decide) (c3N (a := i) (b := n) (by omega) (by omega) (by omega)) ?_
      refine xT_aload_n g_q211 g211_26 (l0) ?_
      refine xT_iload g_q211 g211_27 (l5) ?_
      refine xT_iaload g_q211 g211_29 ha0 ha (ixN (n := 12) (by omega) hal) (ixG (by omega) (hav _ (by omega))) ?_
      refine xT_aload_n g_q211 g211_30 (l2) ?_
      refine xT_iload g_q211 g211_31 (l5) ?_
      refine xT_iaload g_q211 g211_33 hb0 hb (ixN (n := 12) (by omega) hbl) (ixG (by omega) (hbv _ (by omega))) ?_
      refine xT_if_icmpN g_q211 g211_34 (t := 41) (by decide) (decide_eq_false (fun z => z c)) ?_
      refine xT_icV (y := nI (1)) g_q211 g211_37 (by decide) ?_
      refine xT_goto g_q211 g211_38 (t := 42) (by decide) ?_
      refine xT_istore g_q211 g211_42 (by decide) ?_
      refine xT_iincV (y := nI (i + 1)) g_q211 g211_44 (lkN (by decide) (l5)) (by decide) (bIncN _) ?_
      refine xT_goto g_q211 g211_47 (t := 15) (by decide) ?_
      exact ih (i + 1) _ (by omega) (lkN (by decide) (lkN (by decide) (l0))) (lkN (by decide) (lkN (by decide) (l1))) (lkN (by decide) (lkN (by decide) (l2))) (lkN (by decide) (lkN (by decide) (l3))) (lkN (by decide) (lkY)) (lkY)
    · rw [show lkR av bv (d + 1) i = false by
        show (decide (av i = bv i) && lkR av bv d (i + 1)) = _
        rw [decide_eq_false c, Bool.false_and]]
      refine xT_iload g_q211 g211_15 (l4) ?_
      refine xT_ifCondN g_q211 g211_17 (t := 50) (by decide) (c0N (a := 1) (b := 0) (by omega) (by omega) (by omega)) ?_
      refine xT_iload g_q211 g211_20 (l5) ?_
      refine xT_iload_n g_q211 g211_22 (l1) ?_
      refine xT_if_icmpN g_q211 g211_23 (t := 50) (by decide) (c3N (a := i) (b := n) (by omega) (by omega) (by omega)) ?_
      refine xT_aload_n g_q211 g211_26 (l0) ?_
      refine xT_iload g_q211 g211_27 (l5) ?_
      refine xT_iaload g_q211 g211_29 ha0 ha (ixN (n := 12) (by omega) hal) (ixG (by omega) (hav _ (by omega))) ?_
      refine xT_aload_n g_q211 g211_30 (l2) ?_
      refine xT_iload g_q211 g211_31 (l5) ?_
      refine xT_iaload g_q211 g211_33 hb0 hb (ixN (n := 12) (by omega) hbl) (ixG (by omega) (hbv _ (by omega))) ?_
      refine xT_if_icmpY g_q211 g211_34 (t := 41) (by decide) (decide_eq_true c) ?_
      refine xT_icV (y := nI (0)) g_q211 g211_41 (by decide) ?_
      refine xT_istore g_q211 g211_42 (by decide) ?_
      refine xT_iincV (y := nI (i + 1)) g_q211 g211_44 (lkN (by decide) (l5)) (by decide) (bIncN _) ?_
      refine xT_goto g_q211 g211_47 (t := 15) (by decide) ?_
      refine xT_iload g_q211 g211_15 (lkN (by decide) (lkY)) ?_
      refine xT_ifCondY g_q211 g211_17 (t := 50) (by decide) (c0Y (a := 0) (b := 0) rfl) ?_
      refine xT_iload g_q211 g211_50 (lkN (by decide) (lkY)) ?_
      exact xT_ireturn g_q211 g211_52 (by decide +kernel)
theorem t211 {ra rb n m : Nat} {av bv : Nat → Int32} {la_ lb_ : List (XV Int32)} (ha0 : ¬ ra = 1000000) (hb0 : ¬ rb = 1000000) (ha : H[ra]? = some (.inr (0, la_))) (hb : H[rb]? = some (.inr (0, lb_))) (hal : la_.length = 12) (hbl : lb_.length = 12) (hn : n ≤ 12) (hav : ∀ k, k < n → la_[k]? = some (.inl (av k))) (hbv : n = m → ∀ k, k < n → lb_[k]? = some (.inl (bv k))) (hm : m ≤ 12) : x_To x_tb x_tyl ot dp 211 0 (x_en 0 [.inr (some (ra)), .inl (nI (n)), .inr (some (rb)), .inl (nI (m))]) [] H 0 0 (some (.inl (nI (if lkB n av m bv = true then 1 else 0)))) H := by
  by_cases c : n = m
  · rw [show lkB n av m bv = lkR av bv n 0 by
      show (decide (n = m) && lkR av bv n 0) = _
      rw [decide_eq_true c, Bool.true_and]]
    refine xT_iload_n g_q211 g211_0 (rfl) ?_
    refine xT_iload_n g_q211 g211_1 (rfl) ?_
    refine xT_if_icmpN g_q211 g211_2 (t := 9) (by decide) (c1N (a := n) (b := m) c) ?_
    refine xT_icV (y := nI (1)) g_q211 g211_5 (by decide) ?_
    refine xT_goto g_q211 g211_6 (t := 10) (by decide) ?_
    refine xT_istore g_q211 g211_10 (by decide) ?_
    refine xT_icV (y := nI (0)) g_q211 g211_12 (by decide) ?_
    refine xT_istore g_q211 g211_13 (by decide) ?_
    exact t211_l ha0 hb0 ha hb hal hbl hn hav (hbv c) n 0 _ (by omega) (lkN (by decide) (lkN (by decide) (rfl))) (lkN (by decide) (lkN (by decide) (rfl))) (lkN (by decide) (lkN (by decide) (rfl))) (lkN (by decide) (lkN (by decide) (rfl))) (lkN (by decide) (lkY)) (lkY)
  · rw [show lkB n av m bv = false by
      show (decide (n = m) && lkR av bv n 0) = _
      rw [decide_eq_false c, Bool.false_and]]
    refine xT_iload_n g_q211 g211_0 (rfl) ?_
    refine xT_iload_n g_q211 g211_1 (rfl) ?_
    refine xT_if_icmpY g_q211 g211_2 (t := 9) (by decide) (c1Y (a := n) (b := m) c (by omega) (by omega)) ?_
    refine xT_icV (y := nI (0)) g_q211 g211_9 (by decide) ?_
    refine xT_istore g_q211 g211_10 (by decide) ?_
    refine xT_icV (y := nI (0)) g_q211 g211_12 (by decide) ?_
    refine xT_istore g_q211 g211_13 (by decide) ?_
    refine xT_iload g_q211 g211_15 (lkN (by decide) (lkY)) ?_
    refine xT_ifCondY g_q211 g211_17 (t := 50) (by decide) (c0Y (a := 0) (b := 0) rfl) ?_
    refine xT_iload g_q211 g211_50 (lkN (by decide) (lkY)) ?_
    exact xT_ireturn g_q211 g211_52 (by decide +kernel)
end XH33_37
