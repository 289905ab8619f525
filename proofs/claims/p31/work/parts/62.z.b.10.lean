/-! p31 by hand, 9. -/
noncomputable section XH31_9
variable {ot : XO Int32} {dp : Nat} {H : List (XC Int32)} {a b tr tc fr r n m : Nat} {vs wl : List (XV Int32)}
theorem t249_i (hM : kM H b n m) (hY : isBy H r wl) {B : Nat → Int32} (hB : ∀ t, t < n → wl[t]? = some (.inl (B t))) {w s be : Nat} (hs8 : s < 256) {al : Int32} {v : Option (XV Int32)} {H2 : List (XC Int32)} {F : Int32} (kk : ∀ L, x_lk L 0 = some (.inr (some (b))) → x_lk L 1 = some (.inl (nI (w))) → x_lk L 2 = some (.inr (some (r))) → x_lk L 3 = some (.inl (al)) → x_lk L 4 = some (.inl (nI (be))) → x_lk L 5 = some (.inl (nI (s))) → x_lk L 6 = some (.inl F) → x_To x_tb x_tyl ot (dp + 1) 249 156 L [] H 1 8 v H2) : ∀ (d t : Nat) (acc : Int32) (L : List (Nat × XV Int32)), t + d = n → fS B s d t acc = F → x_lk L 0 = some (.inr (some (b))) → x_lk L 1 = some (.inl (nI (w))) → x_lk L 2 = some (.inr (some (r))) → x_lk L 3 = some (.inl (al)) → x_lk L 4 = some (.inl (nI (be))) → x_lk L 5 = some (.inl (nI (s))) → x_lk L 6 = some (.inl (acc)) → x_lk L 7 = some (.inl (nI (t))) → x_To x_tb x_tyl ot (dp + 1) 249 117 L [] H 1 8 v H2 := by
  obtain ⟨hbA, hn8, hm8, hs, hb0, h32, h34⟩ := id hM
  obtain ⟨hrA, hr0, hrl⟩ := id hY
  intro d
  induction d with
  | zero =>
    intro t acc L hl hF l0 l1 l2 l3 l4 l5 l6 l7
    obtain rfl : n = t := by omega
    have hF : acc = F := hF
    subst hF
    refine xT_iload g_q249 g249_117 (l7) ?_
    refine xT_aload_n g_q249 g249_119 (l0) ?_
    refine xT_getfield g_q249 g249_120 hbA rfl hb0 rfl h32 ?_
    refine xT_if_icmpY g_q249 g249_123 (t := 156) (by decide) (c3Y (a := n) (b := n) (Nat.le_refl _) (by omega) (by omega)) ?_
    exact kk _ l0 l1 l2 l3 l4 l5 l6
  | succ d ih =>
    intro t acc L hl hF l0 l1 l2 l3 l4 l5 l6 l7
    have ht : t < n := by omega
    by_cases hb : (s >>> t) &&& 1 = 1
    · rw [show fS B s (d + 1) t acc = fS B s d (t + 1) (acc ||| B t) from congrArg (fS B s d (t + 1)) (if_pos hb)] at hF
      refine xT_iload g_q249 g249_117 (l7) ?_
      refine xT_aload_n g_q249 g249_119 (l0) ?_
      refine xT_getfield g_q249 g249_120 hbA rfl hb0 rfl h32 ?_
      refine xT_if_icmpN g_q249 g249_123 (t := 156) (by decide) (c3N (a := t) (b := n) (by omega) (by omega) (by omega)) ?_
      refine xT_iload g_q249 g249_126 (l6) ?_
      refine xT_iload g_q249 g249_128 (l5) ?_
      refine xT_iload g_q249 g249_130 (l7) ?_
      refine xT_ishrV (y := x_bin 7 (nI (s)) (nI (t))) g_q249 g249_132 (rfl) ?_
      refine xT_icV (y := nI (1)) g_q249 g249_133 (by decide) ?_
      refine xT_iandV (y := x_bin 3 (x_bin 7 (nI (s)) (nI (t))) (nI (1))) g_q249 g249_134 (rfl) ?_
      refine xT_icV (y := nI (1)) g_q249 g249_135 (by decide) ?_
      refine xT_if_icmpN g_q249 g249_136 (t := 146) (by decide) (b_bitY (by omega) (by omega) hb) ?_
      refine xT_aload_n g_q249 g249_139 (l2) ?_
      refine xT_iload g_q249 g249_140 (l7) ?_
      refine xT_iaload g_q249 g249_142 (by omega) hr0 (ixN (n := 8) (by omega) hrl) (ixG (by omega) (hB _ (by omega))) ?_
      refine xT_goto g_q249 g249_143 (t := 147) (by decide) ?_
      refine xT_iorV (y := acc ||| B t) g_q249 g249_147 (rfl) ?_
      refine xT_istore g_q249 g249_148 (by decide) ?_
      refine xT_iincV (y := nI (t + 1)) g_q249 g249_150 (lkN (by decide) (l7)) (by decide) (bIncN _) ?_
      refine xT_goto g_q249 g249_153 (t := 117) (by decide) ?_
      exact ih (t + 1) _ _ (by omega) hF (lkN (by decide) (lkN (by decide) (l0))) (lkN (by decide) (lkN (by decide) (l1))) (lkN (by decide) (lkN (by decide) (l2))) (lkN (by decide) (lkN (by decide) (l3))) (lkN (by decide) (lkN (by decide) (l4))) (lkN (by decide) (lkN (by decide) (l5))) (lkN (by decide) (lkY)) (lkY)
    · rw [show fS B s (d + 1) t acc = fS B s d (t + 1) acc from congrArg (fS B s d (t + 1)) (if_neg hb)] at hF
      refine xT_iload g_q249 g249_117 (l7) ?_
      refine xT_aload_n g_q249 g249_119 (l0) ?_
      refine xT_getfield g_q249 g249_120 hbA rfl hb0 rfl h32 ?_
      refine xT_if_icmpN g_q249 g249_123 (t := 156) (by decide) (c3N (a := t) (b := n) (by omega) (by omega) (by omega)) ?_
      refine xT_iload g_q249 g249_126 (l6) ?_
      refine xT_iload g_q249 g249_128 (l5) ?_
      refine xT_iload g_q249 g249_130 (l7) ?_
      refine xT_ishrV (y := x_bin 7 (nI (s)) (nI (t))) g_q249 g249_132 (rfl) ?_
      refine xT_icV (y := nI (1)) g_q249 g249_133 (by decide) ?_
      refine xT_iandV (y := x_bin 3 (x_bin 7 (nI (s)) (nI (t))) (nI (1))) g_q249 g249_134 (rfl) ?_
      refine xT_icV (y := nI (1)) g_q249 g249_135 (by decide) ?_
      refine xT_if_icmpY g_q249 g249_136 (t := 146) (by decide) (b_bitN (by omega) (by omega) hb) ?_
      refine xT_icV (y := nI (0)) g_q249 g249_146 (by decide) ?_
      refine xT_iorV (y := acc) g_q249 g249_147 (Int32.or_zero) ?_
      refine xT_istore g_q249 g249_148 (by decide) ?_
      refine xT_iincV (y := nI (t + 1)) g_q249 g249_150 (lkN (by decide) (l7)) (by decide) (bIncN _) ?_
      refine xT_goto g_q249 g249_153 (t := 117) (by decide) ?_
      exact ih (t + 1) _ _ (by omega) hF (lkN (by decide) (lkN (by decide) (l0))) (lkN (by decide) (lkN (by decide) (l1))) (lkN (by decide) (lkN (by decide) (l2))) (lkN (by decide) (lkN (by decide) (l3))) (lkN (by decide) (lkN (by decide) (l4))) (lkN (by decide) (lkN (by decide) (l5))) (lkN (by decide) (lkY)) (lkY)
end XH31_9
