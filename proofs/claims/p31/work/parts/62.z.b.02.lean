/-! p31 by hand, 1. -/
noncomputable section XH31_1
variable {ot : XO Int32} {dp : Nat} {H : List (XC Int32)} {a b tr tc fr r n m : Nat} {vs wl : List (XV Int32)}
theorem t48Y {s k : Nat} (hs : s < 256) (hk : k < 8) (h : (s >>> k) &&& 1 = 1) : x_To x_tb x_tyl ot dp 48 0 (x_en 0 [.inl (nI (s)), .inl (nI (k))]) [] H 0 0 (some (.inl (nI 1))) H := by
  refine xT_iload_n g_q48 g48_0 (rfl) ?_
  refine xT_ifCondN g_q48 g48_1 (t := 23) (by decide) (c2N (b := 0) (Nat.zero_le _) (by omega) (by omega)) ?_
  refine xT_iload_n g_q48 g48_4 (rfl) ?_
  refine xT_biV (y := nI (32)) g_q48 g48_5 (by decide) ?_
  refine xT_if_icmpN g_q48 g48_7 (t := 23) (by decide) (c3N (a := k) (b := 32) (by omega) (by omega) (by omega)) ?_
  refine xT_iload_n g_q48 g48_10 (rfl) ?_
  refine xT_iload_n g_q48 g48_11 (rfl) ?_
  refine xT_ishrV (y := x_bin 7 (nI (s)) (nI (k))) g_q48 g48_12 (rfl) ?_
  refine xT_icV (y := nI (1)) g_q48 g48_13 (by decide) ?_
  refine xT_iandV (y := x_bin 3 (x_bin 7 (nI (s)) (nI (k))) (nI (1))) g_q48 g48_14 (rfl) ?_
  refine xT_icV (y := nI (1)) g_q48 g48_15 (by decide) ?_
  refine xT_if_icmpN g_q48 g48_16 (t := 23) (by decide) (b_bitY (by omega) (by omega) h) ?_
  refine xT_icV (y := nI (1)) g_q48 g48_19 (by decide) ?_
  refine xT_goto g_q48 g48_20 (t := 24) (by decide) ?_
  exact xT_ireturn g_q48 g48_24 (by decide +kernel)
theorem t48N {s k : Nat} (hs : s < 256) (hk : k < 8) (h : ¬ (s >>> k) &&& 1 = 1) : x_To x_tb x_tyl ot dp 48 0 (x_en 0 [.inl (nI (s)), .inl (nI (k))]) [] H 0 0 (some (.inl (nI 0))) H := by
  refine xT_iload_n g_q48 g48_0 (rfl) ?_
  refine xT_ifCondN g_q48 g48_1 (t := 23) (by decide) (c2N (b := 0) (Nat.zero_le _) (by omega) (by omega)) ?_
  refine xT_iload_n g_q48 g48_4 (rfl) ?_
  refine xT_biV (y := nI (32)) g_q48 g48_5 (by decide) ?_
  refine xT_if_icmpN g_q48 g48_7 (t := 23) (by decide) (c3N (a := k) (b := 32) (by omega) (by omega) (by omega)) ?_
  refine xT_iload_n g_q48 g48_10 (rfl) ?_
  refine xT_iload_n g_q48 g48_11 (rfl) ?_
  refine xT_ishrV (y := x_bin 7 (nI (s)) (nI (k))) g_q48 g48_12 (rfl) ?_
  refine xT_icV (y := nI (1)) g_q48 g48_13 (by decide) ?_
  refine xT_iandV (y := x_bin 3 (x_bin 7 (nI (s)) (nI (k))) (nI (1))) g_q48 g48_14 (rfl) ?_
  refine xT_icV (y := nI (1)) g_q48 g48_15 (by decide) ?_
  refine xT_if_icmpY g_q48 g48_16 (t := 23) (by decide) (b_bitN (by omega) (by omega) h) ?_
  refine xT_icV (y := nI (0)) g_q48 g48_23 (by decide) ?_
  exact xT_ireturn g_q48 g48_24 (by decide +kernel)
theorem b_bitA : ∀ k, k < 8 → x_cmp 1 (x_bin 3 (x_bin 7 (-1) (nI k)) (nI 1)) (nI 1) = false := by decide +kernel
theorem t48A {k : Nat} (hk : k < 8) : x_To x_tb x_tyl ot dp 48 0 (x_en 0 [.inl (-1), .inl (nI (k))]) [] H 0 0 (some (.inl (nI 1))) H := by
  refine xT_iload_n g_q48 g48_0 (rfl) ?_
  refine xT_ifCondN g_q48 g48_1 (t := 23) (by decide) (c2N (b := 0) (Nat.zero_le _) (by omega) (by omega)) ?_
  refine xT_iload_n g_q48 g48_4 (rfl) ?_
  refine xT_biV (y := nI (32)) g_q48 g48_5 (by decide) ?_
  refine xT_if_icmpN g_q48 g48_7 (t := 23) (by decide) (c3N (a := k) (b := 32) (by omega) (by omega) (by omega)) ?_
  refine xT_iload_n g_q48 g48_10 (rfl) ?_
  refine xT_iload_n g_q48 g48_11 (rfl) ?_
  refine xT_ishrV (y := x_bin 7 (-1) (nI (k))) g_q48 g48_12 (rfl) ?_
  refine xT_icV (y := nI (1)) g_q48 g48_13 (by decide) ?_
  refine xT_iandV (y := x_bin 3 (x_bin 7 (-1) (nI (k))) (nI (1))) g_q48 g48_14 (rfl) ?_
  refine xT_icV (y := nI (1)) g_q48 g48_15 (by decide) ?_
  refine xT_if_icmpN g_q48 g48_16 (t := 23) (by decide) (b_bitA k hk) ?_
  refine xT_icV (y := nI (1)) g_q48 g48_19 (by decide) ?_
  refine xT_goto g_q48 g48_20 (t := 24) (by decide) ?_
  exact xT_ireturn g_q48 g48_24 (by decide +kernel)
end XH31_1
