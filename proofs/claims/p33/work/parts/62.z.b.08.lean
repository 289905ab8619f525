/-! p33 by hand, 7. -/
noncomputable section XH33_7
variable {ot : XO Int32} {dp : Nat} {H H0 : List (XC Int32)}
theorem t73y {p : rP} {As : List Nat} {Zs : List (XC Int32)} {inp : Nat} (h : hm H0 H As Zs) (hI : cI H0 As inp p) (h12 : pNi p ≤ 12) {i : Nat} (hi : i < pNi p) : x_To x_tb x_tyl ot dp 73 0 (x_en 0 [.inr (some (inp)), .inl (nI (i))]) [] H 0 0 (some (.inl (nI 1))) H := by
  obtain ⟨hiA, it, hinp, hit0, lit, cit, nit, eit⟩ := id hI
  refine xT_iload_n g_q73 g73_0 (rfl) ?_
  refine xT_ifCondN g_q73 g73_1 (t := 16) (by decide) (c2N (b := 0) (Nat.zero_le _) (by omega) (by omega)) ?_
  refine xT_iload_n g_q73 g73_4 (rfl) ?_
  refine xT_aload_n g_q73 g73_5 (rfl) ?_
  refine xT_getfield g_q73 g73_6 hiA rfl (hm_c h hinp) rfl rfl ?_
  refine xT_if_icmpN g_q73 g73_9 (t := 16) (by decide) (c3N (a := i) (b := pNi p) (by omega) (by omega) (by omega)) ?_
  refine xT_icV (y := nI (1)) g_q73 g73_12 (by decide) ?_
  refine xT_goto g_q73 g73_13 (t := 17) (by decide) ?_
  exact xT_ireturn g_q73 g73_17 (by decide +kernel)
theorem t73n {p : rP} {As : List Nat} {Zs : List (XC Int32)} {inp : Nat} (h : hm H0 H As Zs) (hI : cI H0 As inp p) (h12 : pNi p ≤ 12) {i : Nat} (hi : pNi p ≤ i) (hi2 : i ≤ 12) : x_To x_tb x_tyl ot dp 73 0 (x_en 0 [.inr (some (inp)), .inl (nI (i))]) [] H 0 0 (some (.inl (nI 0))) H := by
  obtain ⟨hiA, it, hinp, hit0, lit, cit, nit, eit⟩ := id hI
  refine xT_iload_n g_q73 g73_0 (rfl) ?_
  refine xT_ifCondN g_q73 g73_1 (t := 16) (by decide) (c2N (b := 0) (Nat.zero_le _) (by omega) (by omega)) ?_
  refine xT_iload_n g_q73 g73_4 (rfl) ?_
  refine xT_aload_n g_q73 g73_5 (rfl) ?_
  refine xT_getfield g_q73 g73_6 hiA rfl (hm_c h hinp) rfl rfl ?_
  refine xT_if_icmpY g_q73 g73_9 (t := 16) (by decide) (c3Y (a := i) (b := pNi p) (by omega) (by omega) (by omega)) ?_
  refine xT_icV (y := nI (0)) g_q73 g73_16 (by decide) ?_
  exact xT_ireturn g_q73 g73_17 (by decide +kernel)
theorem t74 {p : rP} {As : List Nat} {Zs : List (XC Int32)} {inp : Nat} (h : hm H0 H As Zs) (hI : cI H0 As inp p) (h12 : pNi p ≤ 12) {i : Nat} (hi : i < pNi p) : x_To x_tb x_tyl ot (dp + 1) 74 0 (x_en 0 [.inr (some (inp)), .inl (nI (i))]) [] H 0 0 (some (.inl (pIv p i))) H := by
  obtain ⟨hiA, it, hinp, hit0, lit, cit, nit, eit⟩ := id hI
  refine xT_aload_n g_q74 g74_0 (rfl) ?_
  refine xT_iload_n g_q74 g74_1 (rfl) ?_
  refine xT_invokevirtual (r := []) (u := some (.inl (nI (1)))) g_q74 g74_2 (j := 73) (so := 0) (by decide +kernel) g_q73 rfl (by rw [x_rcM hiA (hm_c h hinp)]; rfl) (t73y h hI h12 hi) ?_
  refine xT_ifCondN g_q74 g74_5 (t := 17) (by decide) (c0N (a := 1) (b := 0) (by omega) (by omega) (by omega)) ?_
  refine xT_aload_n g_q74 g74_8 (rfl) ?_
  refine xT_getfield g_q74 g74_9 hiA rfl (hm_c h hinp) rfl rfl ?_
  refine xT_iload_n g_q74 g74_12 (rfl) ?_
  refine xT_iaload g_q74 g74_13 hit0 (hm_c h cit) (ixN (n := 12) (by omega) nit) (ixG (by omega) (eit _ (by omega))) ?_
  refine xT_goto g_q74 g74_14 (t := 18) (by decide) ?_
  exact xT_ireturn g_q74 g74_18 (rfl)
end XH33_7
