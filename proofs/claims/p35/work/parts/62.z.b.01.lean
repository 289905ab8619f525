/-! p35 by hand, 0. -/
noncomputable section XH350
variable {ot : XO Int32} {dp : Nat} {H : List (XC Int32)} {p n m : Nat} {r : Nat → Nat} {pl mi la we ord hf : Nat → Nat}
/-! Posts of the class: what the object holds. -/
def isRw (H : List (XC Int32)) (r len : Nat) (f : Nat → Nat) (n : Nat) : Prop := r < 1000000 ∧ ∃ l, H[r]? = some (.inr (0, l)) ∧ l.length = len ∧ ∀ k, k < n → l[k]? = some (.inl (nI (f k)))
def isPo (H : List (XC Int32)) (p n : Nat) (r : Nat → Nat) (pl mi la we ord hf : Nat → Nat) (m : Nat) : Prop := (¬ 1000000 < p ∧ H[p]? = some (.inl (7, [.inr (some (r 0)), .inr (some (r 1)), .inr (some (r 2)), .inr (some (r 3)), .inr (some (r 4)), .inr (some (r 5)), .inl (nI n)])) ∧ n ≤ 8) ∧ isRw H (r 0) 8 pl n ∧ isRw H (r 1) 8 mi n ∧ isRw H (r 2) 8 la n ∧ isRw H (r 3) 8 we n ∧ isRw H (r 4) 8 ord n ∧ isRw H (r 5) 256 hf m
def stB (pl mi la we : Nat → Nat) : Prop := ∀ k, pl k ≤ 99 ∧ mi k ≤ 899 ∧ la k ≤ 99 ∧ we k ≤ 99
theorem t48pY {a s : Nat} (ha : a < 256) (hs : s < 8) (h : bitP a s = 1) : x_To x_tb x_tyl ot dp 48 0 (x_en 0 [.inl (nI (a)), .inl (nI (s))]) [] H 0 0 (some (.inl (nI 1))) H := by
  refine xT_iload_n g_q48 g48_0 (rfl) ?_
  refine xT_ifCondN g_q48 g48_1 (t := 23) (by decide) (c2N (b := 0) (Nat.zero_le _) (by omega) (by omega)) ?_
  refine xT_iload_n g_q48 g48_4 (rfl) ?_
  refine xT_biV (y := nI (32)) g_q48 g48_5 (by decide) ?_
  refine xT_if_icmpN g_q48 g48_7 (t := 23) (by decide) (c3N (a := s) (b := 32) (by omega) (by omega) (by omega)) ?_
  refine xT_iload_n g_q48 g48_10 (rfl) ?_
  refine xT_iload_n g_q48 g48_11 (rfl) ?_
  refine xT_ishrV (y := x_bin 7 (nI (a)) (nI (s))) g_q48 g48_12 (rfl) ?_
  refine xT_icV (y := nI (1)) g_q48 g48_13 (by decide) ?_
  refine xT_iandV (y := x_bin 3 (x_bin 7 (nI (a)) (nI (s))) (nI (1))) g_q48 g48_14 (rfl) ?_
  refine xT_icV (y := nI (1)) g_q48 g48_15 (by decide) ?_
  refine xT_if_icmpN g_q48 g48_16 (t := 23) (by decide) (b_bitY ha hs h) ?_
  refine xT_icV (y := nI (1)) g_q48 g48_19 (by decide) ?_
  refine xT_goto g_q48 g48_20 (t := 24) (by decide) ?_
  exact xT_ireturn g_q48 g48_24 (by decide +kernel)
theorem t48pN {a s : Nat} (ha : a < 256) (hs : s < 8) (h : ¬ bitP a s = 1) : x_To x_tb x_tyl ot dp 48 0 (x_en 0 [.inl (nI (a)), .inl (nI (s))]) [] H 0 0 (some (.inl (nI 0))) H := by
  refine xT_iload_n g_q48 g48_0 (rfl) ?_
  refine xT_ifCondN g_q48 g48_1 (t := 23) (by decide) (c2N (b := 0) (Nat.zero_le _) (by omega) (by omega)) ?_
  refine xT_iload_n g_q48 g48_4 (rfl) ?_
  refine xT_biV (y := nI (32)) g_q48 g48_5 (by decide) ?_
  refine xT_if_icmpN g_q48 g48_7 (t := 23) (by decide) (c3N (a := s) (b := 32) (by omega) (by omega) (by omega)) ?_
  refine xT_iload_n g_q48 g48_10 (rfl) ?_
  refine xT_iload_n g_q48 g48_11 (rfl) ?_
  refine xT_ishrV (y := x_bin 7 (nI (a)) (nI (s))) g_q48 g48_12 (rfl) ?_
  refine xT_icV (y := nI (1)) g_q48 g48_13 (by decide) ?_
  refine xT_iandV (y := x_bin 3 (x_bin 7 (nI (a)) (nI (s))) (nI (1))) g_q48 g48_14 (rfl) ?_
  refine xT_icV (y := nI (1)) g_q48 g48_15 (by decide) ?_
  refine xT_if_icmpY g_q48 g48_16 (t := 23) (by decide) (b_bitN ha hs h) ?_
  refine xT_icV (y := nI (0)) g_q48 g48_23 (by decide) ?_
  exact xT_ireturn g_q48 g48_24 (by decide +kernel)
end XH350
