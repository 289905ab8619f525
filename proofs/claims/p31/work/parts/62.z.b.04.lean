/-! p31 by hand, 3. -/
noncomputable section XH31_3
variable {ot : XO Int32} {dp : Nat} {H : List (XC Int32)} {a b tr tc fr r n m : Nat} {vs wl : List (XV Int32)}
theorem t110 (hT : kT H a tr tc fr n m vs) {t : Nat} (ht : t < n) : x_To x_tb x_tyl ot dp 110 0 (x_en 0 [.inr (some (tr)), .inl (nI (t)), .inl (nI (1))]) [] H 0 0 (some (.inl (nI 1))) H := by
  obtain ⟨haA, htA, hfA, hcA, hn8, hm8, gs, ts, us, ha, g14, g15, ht0, s1, s2, s3, hf0, u3, hv, hvl⟩ := id hT
  refine xT_iload_n g_q110 g110_0 (rfl) ?_
  refine xT_ifCondN g_q110 g110_1 (t := 28) (by decide) (c2N (b := 0) (Nat.zero_le _) (by omega) (by omega)) ?_
  refine xT_iload_n g_q110 g110_4 (rfl) ?_
  refine xT_aload_n g_q110 g110_5 (rfl) ?_
  refine xT_getfield g_q110 g110_6 htA rfl ht0 rfl s3 ?_
  refine xT_if_icmpN g_q110 g110_9 (t := 28) (by decide) (c3N (a := t) (b := n) (by omega) (by omega) (by omega)) ?_
  refine xT_iload_n g_q110 g110_12 (rfl) ?_
  refine xT_ifCondN g_q110 g110_13 (t := 28) (by decide) (c2N (b := 0) (Nat.zero_le _) (by omega) (by omega)) ?_
  refine xT_iload_n g_q110 g110_16 (rfl) ?_
  refine xT_aload_n g_q110 g110_17 (rfl) ?_
  refine xT_getfield g_q110 g110_18 htA rfl ht0 rfl s1 ?_
  refine xT_if_icmpN g_q110 g110_21 (t := 28) (by decide) (c3N (a := 1) (b := 2) (by omega) (by omega) (by omega)) ?_
  refine xT_icV (y := nI (1)) g_q110 g110_24 (by decide) ?_
  refine xT_goto g_q110 g110_25 (t := 29) (by decide) ?_
  exact xT_ireturn g_q110 g110_29 (by decide +kernel)
theorem t111 (hT : kT H a tr tc fr n m vs) {t : Nat} (ht : t < n) {x : Int32} (hx : vs[t * 2 + 1]? = some (.inl x)) : x_To x_tb x_tyl ot (dp + 1) 111 0 (x_en 0 [.inr (some (tr)), .inl (nI (t)), .inl (nI (1))]) [] H 0 0 (some (.inl x)) H := by
  obtain ⟨haA, htA, hfA, hcA, hn8, hm8, gs, ts, us, ha, g14, g15, ht0, s1, s2, s3, hf0, u3, hv, hvl⟩ := id hT
  refine xT_aload_n g_q111 g111_0 (rfl) ?_
  refine xT_iload_n g_q111 g111_1 (rfl) ?_
  refine xT_iload_n g_q111 g111_2 (rfl) ?_
  refine xT_invokevirtual (r := []) (u := some (.inl (nI (1)))) g_q111 g111_3 (j := 110) (so := 0) (by decide +kernel) g_q110 rfl (by rw [x_rcM htA ht0]; rfl) (t110 hT ht) ?_
  refine xT_ifCondN g_q111 g111_6 (t := 25) (by decide) (c0N (a := 1) (b := 0) (by omega) (by omega) (by omega)) ?_
  refine xT_aload_n g_q111 g111_9 (rfl) ?_
  refine xT_getfield g_q111 g111_10 htA rfl ht0 rfl s2 ?_
  refine xT_iload_n g_q111 g111_13 (rfl) ?_
  refine xT_aload_n g_q111 g111_14 (rfl) ?_
  refine xT_getfield g_q111 g111_15 htA rfl ht0 rfl s1 ?_
  refine xT_imulV (y := nI ((t) * (2))) g_q111 g111_18 (bMulN _ _) ?_
  refine xT_iload_n g_q111 g111_19 (rfl) ?_
  refine xT_iaddV (y := nI (((t) * (2)) + 1)) g_q111 g111_20 (bAddN _ _) ?_
  refine xT_iaload g_q111 g111_21 (by omega) hv (ixN (n := 16) (by omega) hvl) (ixG (by omega) hx) ?_
  refine xT_goto g_q111 g111_22 (t := 26) (by decide) ?_
  exact xT_ireturn g_q111 g111_26 (rfl)
end XH31_3
