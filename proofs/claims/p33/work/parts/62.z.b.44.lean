/-! p33 by hand, 43. -/
noncomputable section XH33_43
variable {ot : XO Int32} {dp : Nat} {H H0 : List (XC Int32)}
theorem t42_0 {n : Nat} {d : Ld} {K : Ka} {WL : List Nat} {rp rt : Nat → rS} {col : Nat → Nat} (hd : dOk n d) (hL : H0.length ≤ 1000000) (hS : kSt n d K WL H0) (hN : kNe n K WL col) {i j : Nat} (hP : kPh n d K WL rp rt H0 H i j) : x_To x_tb x_tyl ot dp 42 0 (x_en 0 [.inr (some (aB K)), .inl (-1)]) [] H 0 0 (some (.inr none)) H := by
  have hd12 := hd.1
  have hlen := hP.2.1
  obtain ⟨⟨bf, cb, bf2, bf3, bf5, bf6, bf8, bf9⟩, ⟨pa, cpa, pal, pae⟩, -⟩ := id hS
  have hb := hP.1 _ _ cb
  have hpa := hP.1 _ _ cpa
  have hbl : ¬ 1000000 < aB K := by
    have := lt_of hb (by omega)
    omega
  refine xT_iload_n g_q42 g42_0 (rfl) ?_
  refine xT_ifCondY g_q42 g42_1 (t := 21) (by decide) ((by decide +kernel)) ?_
  refine xT_aconst_null g_q42 g42_21 ?_
  exact xT_areturn g_q42 g42_22 (rfl)
theorem t42_1 {n : Nat} {d : Ld} {K : Ka} {WL : List Nat} {rp rt : Nat → rS} {col : Nat → Nat} (hd : dOk n d) (hL : H0.length ≤ 1000000) (hS : kSt n d K WL H0) (hN : kNe n K WL col) {i j : Nat} (hP : kPh n d K WL rp rt H0 H i j) {s : Nat} (hs : s < n) : x_To x_tb x_tyl ot dp 42 0 (x_en 0 [.inr (some (aB K)), .inl (nI (s))]) [] H 0 0 (some (.inr (some (aP K (s))))) H := by
  have hd12 := hd.1
  have hlen := hP.2.1
  obtain ⟨⟨bf, cb, bf2, bf3, bf5, bf6, bf8, bf9⟩, ⟨pa, cpa, pal, pae⟩, -⟩ := id hS
  have hb := hP.1 _ _ cb
  have hpa := hP.1 _ _ cpa
  have hbl : ¬ 1000000 < aB K := by
    have := lt_of hb (by omega)
    omega
  refine xT_iload_n g_q42 g42_0 (rfl) ?_
  refine xT_ifCondN g_q42 g42_1 (t := 21) (by decide) (c2N (b := 0) (Nat.zero_le _) (by omega) (by omega)) ?_
  refine xT_iload_n g_q42 g42_4 (rfl) ?_
  refine xT_aload_n g_q42 g42_5 (rfl) ?_
  refine xT_getfield g_q42 g42_6 hbl rfl hb rfl bf3 ?_
  refine xT_if_icmpN g_q42 g42_9 (t := 21) (by decide) (c3N (a := s) (b := n) (by omega) (by omega) (by omega)) ?_
  refine xT_aload_n g_q42 g42_12 (rfl) ?_
  refine xT_getfield g_q42 g42_13 hbl rfl hb rfl bf2 ?_
  refine xT_iload_n g_q42 g42_16 (rfl) ?_
  refine xT_aaload g_q42 g42_17 (by decide +kernel) hpa (ixN (n := 12) (by omega) pal) (ixG (by omega) (pae _ (by omega))) ?_
  refine xT_goto g_q42 g42_18 (t := 22) (by decide) ?_
  exact xT_areturn g_q42 g42_22 (rfl)
set_option maxRecDepth 1000000 in
theorem sh1 : ∀ s, s < 12 → x_bin 7 (-1) (nI s) = -1 := by decide +kernel
set_option maxRecDepth 1000000 in
theorem sh0 : ∀ s, s < 12 → x_bin 7 (nI 0) (nI s) = nI 0 := by decide +kernel
theorem t48_1 {s : Nat} (hs : s < 12) : x_To x_tb x_tyl ot dp 48 0 (x_en 0 [.inl (-1), .inl (nI (s))]) [] H 0 0 (some (.inl (nI 1))) H := by
  refine xT_iload_n g_q48 g48_0 (rfl) ?_
  refine xT_ifCondN g_q48 g48_1 (t := 23) (by decide) (c2N (b := 0) (Nat.zero_le _) (by omega) (by omega)) ?_
  refine xT_iload_n g_q48 g48_4 (rfl) ?_
  refine xT_biV (y := nI (32)) g_q48 g48_5 (by decide) ?_
  refine xT_if_icmpN g_q48 g48_7 (t := 23) (by decide) (c3N (a := s) (b := 32) (by omega) (by omega) (by omega)) ?_
  refine xT_iload_n g_q48 g48_10 (rfl) ?_
  refine xT_iload_n g_q48 g48_11 (rfl) ?_
  refine xT_ishrV (y := -1) g_q48 g48_12 (sh1 s hs) ?_
  refine xT_icV (y := nI (1)) g_q48 g48_13 (by decide) ?_
  refine xT_iandV (y := nI (1)) g_q48 g48_14 (by decide) ?_
  refine xT_icV (y := nI (1)) g_q48 g48_15 (by decide) ?_
  refine xT_if_icmpN g_q48 g48_16 (t := 23) (by decide) (c1N (a := 1) (b := 1) rfl) ?_
  refine xT_icV (y := nI (1)) g_q48 g48_19 (by decide) ?_
  refine xT_goto g_q48 g48_20 (t := 24) (by decide) ?_
  exact xT_ireturn g_q48 g48_24 (by decide +kernel)
theorem t48_0 {s : Nat} (hs : s < 12) : x_To x_tb x_tyl ot dp 48 0 (x_en 0 [.inl (nI (0)), .inl (nI (s))]) [] H 0 0 (some (.inl (nI 0))) H := by
  refine xT_iload_n g_q48 g48_0 (rfl) ?_
  refine xT_ifCondN g_q48 g48_1 (t := 23) (by decide) (c2N (b := 0) (Nat.zero_le _) (by omega) (by omega)) ?_
  refine xT_iload_n g_q48 g48_4 (rfl) ?_
  refine xT_biV (y := nI (32)) g_q48 g48_5 (by decide) ?_
  refine xT_if_icmpN g_q48 g48_7 (t := 23) (by decide) (c3N (a := s) (b := 32) (by omega) (by omega) (by omega)) ?_
  refine xT_iload_n g_q48 g48_10 (rfl) ?_
  refine xT_iload_n g_q48 g48_11 (rfl) ?_
  refine xT_ishrV (y := nI (0)) g_q48 g48_12 (sh0 s hs) ?_
  refine xT_icV (y := nI (1)) g_q48 g48_13 (by decide) ?_
  refine xT_iandV (y := nI (0)) g_q48 g48_14 (by decide) ?_
  refine xT_icV (y := nI (1)) g_q48 g48_15 (by decide) ?_
  refine xT_if_icmpY g_q48 g48_16 (t := 23) (by decide) (c1Y (a := 0) (b := 1) (by omega) (by omega) (by omega)) ?_
  refine xT_icV (y := nI (0)) g_q48 g48_23 (by decide) ?_
  exact xT_ireturn g_q48 g48_24 (by decide +kernel)
end XH33_43
