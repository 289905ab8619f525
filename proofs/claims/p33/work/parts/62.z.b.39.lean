/-! p33 by hand, 38. -/
noncomputable section XH33_38
variable {ot : XO Int32} {dp : Nat} {H H0 : List (XC Int32)}
theorem t83_l {ra rb n m : Nat} {av bv : Nat → Int32} {la_ lb_ : List (XV Int32)} (ha0 : ¬ ra = 1000000) (hb0 : ¬ rb = 1000000) (ha : H[ra]? = some (.inr (0, la_))) (hb : H[rb]? = some (.inr (0, lb_))) (hal : la_.length = 12) (hbl : lb_.length = 12) (hn : n ≤ 12) (hav : ∀ k, k < n → la_[k]? = some (.inl (av k))) (hbv : ∀ k, k < n → lb_[k]? = some (.inl (bv k))) {xo yo : Nat} (hx0 : ¬ 1000000 < xo) (hy0 : ¬ 1000000 < yo) (hx : H[xo]? = some (.inl (5, [.inr (some ra), .inl (nI n)]))) (hy : H[yo]? = some (.inl (5, [.inr (some rb), .inl (nI m)]))) : ∀ (d i : Nat) (L : List (Nat × XV Int32)), i + d = n → x_lk L 0 = some (.inr (some (xo))) → x_lk L 1 = some (.inr (some (yo))) → x_lk L 2 = some (.inl (nI (i))) → x_To x_tb x_tyl ot dp 83 15 L [] H 0 0 (some (.inl (nI (if lkR av bv d i = true then 1 else 0)))) H := by
  intro d
  induction d with
  | zero =>
    intro i L hi l0 l1 l2
    obtain rfl : n = i := by omega
    show x_To x_tb x_tyl ot dp 83 15 L [] H 0 0 (some (.inl (nI 1))) H
    refine xT_iload_n g_q83 g83_15 (l2) ?_
    refine xT_aload_n g_q83 g83_16 (l0) ?_
    refine xT_getfield g_q83 g83_17 hx0 rfl hx rfl rfl ?_
    refine xT_if_icmpY g_q83 g83_20 (t := 46) (by decide) (c3Y (a := n) (b := n) (Nat.le_refl _) (by omega) (by omega)) ?_
    refine xT_icV (y := nI (1)) g_q83 g83_46 (by decide) ?_
    exact xT_ireturn g_q83 g83_47 (by decide +kernel)
  | succ d ih =>
    intro i L hi l0 l1 l2
    by_cases c : av i = bv i
    · rw [show lkR av bv (d + 1) i = lkR av bv d (i + 1) by
        show (decide (av i = bv i) && lkR av bv d (i + 1)) = _
        rw [decide_eq_true c, Bool.true_and]]
      refine xT_iload_n g_q83 g83_15 (l2) ?_
      refine xT_aload_n g_q83 g83_16 (l0) ?_
      refine xT_getfield g_q83 g83_17 hx0 rfl hx rfl rfl ?_
      refine xT_if_icmpN g_q83 g83_20 (t := 46) (by decide) (c3N (a := i) (b := n) (by omega) (by omega) (by omega)) ?_
      refine xT_aload_n g_q83 g83_23 (l0) ?_
      refine xT_getfield g_q83 g83_24 hx0 rfl hx rfl rfl ?_
      refine xT_iload_n g_q83 g83_27 (l2) ?_
      refine xT_iaload g_q83 g83_28 ha0 ha (ixN (n := 12) (by omega) hal) (ixG (by omega) (hav _ (by omega))) ?_
      refine xT_aload_n g_q83 g83_29 (l1) ?_
      refine xT_getfield g_q83 g83_30 hy0 rfl hy rfl rfl ?_
      refine xT_iload_n g_q83 g83_33 (l2) ?_
      refine xT_iaload g_q83 g83_34 hb0 hb (ixN (n := 12) (by omega) hbl) (ixG (by omega) (hbv _ (by omega))) ?_
      refine xT_if_icmpY g_q83 g83_35 (t := 40) (by decide) (decide_eq_true c) ?_
      refine xT_iincV (y := nI (i + 1)) g_q83 g83_40 (l2) (by decide) (bIncN _) ?_
      refine xT_goto g_q83 g83_43 (t := 15) (by decide) ?_
      exact ih (i + 1) _ (by omega) (lkN (by decide) (l0)) (lkN (by decide) (l1)) (lkY)
    · rw [show lkR av bv (d + 1) i = false by
        show (decide (av i = bv i) && lkR av bv d (i + 1)) = _
        rw [decide_eq_false c, Bool.false_and]]
      refine xT_iload_n g_q83 g83_15 (l2) ?_
      refine xT_aload_n g_q83 g83_16 (l0) ?_
      refine xT_getfield g_q83 g83_17 hx0 rfl hx rfl rfl ?_
      refine xT_if_icmpN g_q83 g83_20 (t := 46) (by decide) (c3N (a := i) (b := n) (by omega) (by omega) (by omega)) ?_
      refine xT_aload_n g_q83 g83_23 (l0) ?_
      refine xT_getfield g_q83 g83_24 hx0 rfl hx rfl rfl ?_
      refine xT_iload_n g_q83 g83_27 (l2) ?_
      refine xT_iaload g_q83 g83_28 ha0 ha (ixN (n := 12) (by omega) hal) (ixG (by omega) (hav _ (by omega))) ?_
      refine xT_aload_n g_q83 g83_29 (l1) ?_
      refine xT_getfield g_q83 g83_30 hy0 rfl hy rfl rfl ?_
      refine xT_iload_n g_q83 g83_33 (l2) ?_
      refine xT_iaload g_q83 g83_34 hb0 hb (ixN (n := 12) (by omega) hbl) (ixG (by omega) (hbv _ (by omega))) ?_
      refine xT_if_icmpN g_q83 g83_35 (t := 40) (by decide) (decide_eq_false c) ?_
      refine xT_icV (y := nI (0)) g_q83 g83_38 (by decide) ?_
      exact xT_ireturn g_q83 g83_39 (by decide +kernel)
theorem t83 {ra rb n m : Nat} {av bv : Nat → Int32} {la_ lb_ : List (XV Int32)} (ha0 : ¬ ra = 1000000) (hb0 : ¬ rb = 1000000) (ha : H[ra]? = some (.inr (0, la_))) (hb : H[rb]? = some (.inr (0, lb_))) (hal : la_.length = 12) (hbl : lb_.length = 12) (hn : n ≤ 12) (hav : ∀ k, k < n → la_[k]? = some (.inl (av k))) (hbv : n = m → ∀ k, k < n → lb_[k]? = some (.inl (bv k))) {xo yo : Nat} (hx0 : ¬ 1000000 < xo) (hy0 : ¬ 1000000 < yo) (hx : H[xo]? = some (.inl (5, [.inr (some ra), .inl (nI n)]))) (hy : H[yo]? = some (.inl (5, [.inr (some rb), .inl (nI m)]))) (hm : m ≤ 12) : x_To x_tb x_tyl ot dp 83 0 (x_en 0 [.inr (some (xo)), .inr (some (yo))]) [] H 0 0 (some (.inl (nI (if lkB n av m bv = true then 1 else 0)))) H := by
  by_cases c : n = m
  · rw [show lkB n av m bv = lkR av bv n 0 by
      show (decide (n = m) && lkR av bv n 0) = _
      rw [decide_eq_true c, Bool.true_and]]
    refine xT_aload_n g_q83 g83_0 (rfl) ?_
    refine xT_getfield g_q83 g83_1 hx0 rfl hx rfl rfl ?_
    refine xT_aload_n g_q83 g83_4 (rfl) ?_
    refine xT_getfield g_q83 g83_5 hy0 rfl hy rfl rfl ?_
    refine xT_if_icmpY g_q83 g83_8 (t := 13) (by decide) (c0Y (a := n) (b := m) c) ?_
    refine xT_icV (y := nI (0)) g_q83 g83_13 (by decide) ?_
    refine xT_istore_n g_q83 g83_14 (by decide) ?_
    exact t83_l ha0 hb0 ha hb hal hbl hn hav (hbv c) hx0 hy0 hx hy n 0 _ (by omega) (lkN (by decide) (rfl)) (lkN (by decide) (rfl)) (lkY)
  · rw [show lkB n av m bv = false by
      show (decide (n = m) && lkR av bv n 0) = _
      rw [decide_eq_false c, Bool.false_and]]
    refine xT_aload_n g_q83 g83_0 (rfl) ?_
    refine xT_getfield g_q83 g83_1 hx0 rfl hx rfl rfl ?_
    refine xT_aload_n g_q83 g83_4 (rfl) ?_
    refine xT_getfield g_q83 g83_5 hy0 rfl hy rfl rfl ?_
    refine xT_if_icmpN g_q83 g83_8 (t := 13) (by decide) (c0N (a := n) (b := m) c (by omega) (by omega)) ?_
    refine xT_icV (y := nI (0)) g_q83 g83_11 (by decide) ?_
    exact xT_ireturn g_q83 g83_12 (by decide +kernel)
end XH33_38
