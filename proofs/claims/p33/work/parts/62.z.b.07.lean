/-! p33 by hand, 6. -/
noncomputable section XH33_6
variable {ot : XO Int32} {dp : Nat} {H H0 : List (XC Int32)}
theorem t70 {p : rP} {As : List Nat} {Zs : List (XC Int32)} {se : Nat} (h : hm H0 H As Zs) (hS : cS H0 As se p) {f : Nat} (hf : f < 6) {v : Int32} : x_To x_tb x_tyl ot (dp + 1) 70 0 (x_en 0 [.inr (some (se)), .inl (nI (f)), .inl (v)]) [] H 0 0 (some (.inl (pCut p v))) H := by
  obtain ⟨hsA, ⟨dr, pr, hse, ⟨hdr0, ldr, cdr, ndr, edr⟩, ⟨hpr0, lpr, cpr, npr, epr⟩, hcut, hlp⟩ | ⟨dr, pr, hse, hcut, hlp⟩⟩ := id hS
  · rw [hcut]
    refine xT_aload_n g_q70 g70_0 (rfl) ?_
    refine xT_getfield g_q70 g70_1 hsA rfl (hm_c h hse) rfl rfl ?_
    refine xT_ifCondY g_q70 g70_4 (t := 11) (by decide) (c0Y (b := 0) rfl) ?_
    refine xT_iload_n g_q70 g70_11 (rfl) ?_
    refine xT_aload_n g_q70 g70_12 (rfl) ?_
    refine xT_getfield g_q70 g70_13 hsA rfl (hm_c h hse) rfl rfl ?_
    refine xT_iload_n g_q70 g70_16 (rfl) ?_
    refine xT_iaload g_q70 g70_17 hdr0 (hm_c h cdr) (ixN (n := 6) (by omega) ndr) (ixG (by omega) (edr _ (by omega))) ?_
    refine xT_icV (y := nI (2)) g_q70 g70_18 (by decide) ?_
    refine xT_if_icmpN g_q70 g70_19 (t := 27) (by decide) (c1N (a := 2) (b := 2) rfl) ?_
    refine xT_biV (y := nI (100)) g_q70 g70_22 (by decide) ?_
    refine xT_goto g_q70 g70_24 (t := 30) (by decide) ?_
    refine xT_invokestatic (r := []) (u := some (.inl ((fmI v)))) g_q70 g70_30 (j := 71) (so := 2) (by decide +kernel) g_q71 (rfl) (t71) ?_
    exact xT_ireturn g_q70 g70_33 (rfl)
  · rw [hcut]
    refine xT_aload_n g_q70 g70_0 (rfl) ?_
    refine xT_getfield g_q70 g70_1 hsA rfl (hm_c h hse) rfl rfl ?_
    refine xT_ifCondN g_q70 g70_4 (t := 11) (by decide) (c0N (a := 1) (b := 0) (by omega) (by omega) (by omega)) ?_
    refine xT_iload_n g_q70 g70_7 (rfl) ?_
    refine xT_goto g_q70 g70_8 (t := 33) (by decide) ?_
    exact xT_ireturn g_q70 g70_33 (rfl)
theorem t77 {p : rP} {As : List Nat} {Zs : List (XC Int32)} {se : Nat} (h : hm H0 H As Zs) (hS : cS H0 As se p) {f : Nat} (hf : f < 6) {v : Int32} : x_To x_tb x_tyl ot dp 77 0 (x_en 0 [.inr (some (se)), .inl (nI (f)), .inl (v)]) [] H 0 0 (some (.inl v)) H := by
  obtain ⟨hsA, ⟨dr, pr, hse, ⟨hdr0, ldr, cdr, ndr, edr⟩, ⟨hpr0, lpr, cpr, npr, epr⟩, hcut, hlp⟩ | ⟨dr, pr, hse, hcut, hlp⟩⟩ := id hS
  · skip
    refine xT_aload_n g_q77 g77_0 (rfl) ?_
    refine xT_getfield g_q77 g77_1 hsA rfl (hm_c h hse) rfl rfl ?_
    refine xT_ifCondN g_q77 g77_4 (t := 31) (by decide) (c1N (b := 0) rfl) ?_
    refine xT_aload_n g_q77 g77_7 (rfl) ?_
    refine xT_getfield g_q77 g77_8 hsA rfl (hm_c h hse) rfl rfl ?_
    refine xT_iload_n g_q77 g77_11 (rfl) ?_
    refine xT_iaload g_q77 g77_12 hdr0 (hm_c h cdr) (ixN (n := 6) (by omega) ndr) (ixG (by omega) (edr _ (by omega))) ?_
    refine xT_icV (y := nI (2)) g_q77 g77_13 (by decide) ?_
    refine xT_if_icmpN g_q77 g77_14 (t := 31) (by decide) (c1N (a := 2) (b := 2) rfl) ?_
    refine xT_aload_n g_q77 g77_17 (rfl) ?_
    refine xT_getfield g_q77 g77_18 hsA rfl (hm_c h hse) rfl rfl ?_
    refine xT_iload_n g_q77 g77_21 (rfl) ?_
    refine xT_iaload g_q77 g77_22 hpr0 (hm_c h cpr) (ixN (n := 6) (by omega) npr) (ixG (by omega) (epr _ (by omega))) ?_
    refine xT_icV (y := -1) g_q77 g77_23 (by decide) ?_
    refine xT_if_icmpY g_q77 g77_24 (t := 31) (by decide) ((show x_cmp 0 (-1 : Int32) (-1) = true by decide +kernel)) ?_
    refine xT_icV (y := nI (0)) g_q77 g77_31 (by decide) ?_
    refine xT_istore_n g_q77 g77_32 (by decide) ?_
    refine xT_iload_n g_q77 g77_33 (lkY) ?_
    refine xT_ifCondY g_q77 g77_34 (t := 50) (by decide) (c0Y (b := 0) rfl) ?_
    refine xT_iload_n g_q77 g77_50 (lkN (by decide) (rfl)) ?_
    exact xT_ireturn g_q77 g77_51 (rfl)
  · skip
    refine xT_aload_n g_q77 g77_0 (rfl) ?_
    refine xT_getfield g_q77 g77_1 hsA rfl (hm_c h hse) rfl rfl ?_
    refine xT_ifCondY g_q77 g77_4 (t := 31) (by decide) (c1Y (a := 1) (b := 0) (by omega) (by omega) (by omega)) ?_
    refine xT_icV (y := nI (0)) g_q77 g77_31 (by decide) ?_
    refine xT_istore_n g_q77 g77_32 (by decide) ?_
    refine xT_iload_n g_q77 g77_33 (lkY) ?_
    refine xT_ifCondY g_q77 g77_34 (t := 50) (by decide) (c0Y (b := 0) rfl) ?_
    refine xT_iload_n g_q77 g77_50 (lkN (by decide) (rfl)) ?_
    exact xT_ireturn g_q77 g77_51 (rfl)
theorem t79 {p : rP} {As : List Nat} {Zs : List (XC Int32)} {se : Nat} (h : hm H0 H As Zs) (hS : cS H0 As se p) {v : Int32} : x_To x_tb x_tyl ot (dp + 1) 79 0 (x_en 0 [.inr (some (se)), .inl (v)]) [] H 0 0 (some (.inl (nI (if pLp p v = true then 1 else 0)))) H := by
  obtain ⟨hsA, ⟨dr, pr, hse, ⟨hdr0, ldr, cdr, ndr, edr⟩, ⟨hpr0, lpr, cpr, npr, epr⟩, hcut, hlp⟩ | ⟨dr, pr, hse, hcut, hlp⟩⟩ := id hS
  · rw [hlp]
    show x_To x_tb x_tyl ot (dp + 1) 79 0 _ [] H 0 0 (some (.inl (nI (if lpB 0 (if v < nI 100 then x_bin 0 (nI 1900) v else v) = true then 1 else 0)))) H
    by_cases hv : v < nI 100
    · have hv2 : ¬ nI 100 ≤ v := Int32.not_le.mpr hv
      rw [if_pos hv]
      refine xT_aload_n g_q79 g79_0 (rfl) ?_
      refine xT_getfield g_q79 g79_1 hsA rfl (hm_c h hse) rfl rfl ?_
      refine xT_ifCondN g_q79 g79_4 (t := 21) (by decide) (c1N (b := 0) rfl) ?_
      refine xT_iload_n g_q79 g79_7 (rfl) ?_
      refine xT_biV (y := nI (100)) g_q79 g79_8 (by decide) ?_
      refine xT_if_icmpN g_q79 g79_10 (t := 21) (by decide) (decide_eq_false hv2) ?_
      refine xT_siV (y := nI (1900)) g_q79 g79_13 (by decide) ?_
      refine xT_iload_n g_q79 g79_16 (rfl) ?_
      refine xT_iaddV (y := x_bin 0 (nI (1900)) (v)) g_q79 g79_17 (rfl) ?_
      refine xT_goto g_q79 g79_18 (t := 22) (by decide) ?_
      refine xT_aload_n g_q79 g79_22 (rfl) ?_
      refine xT_getfield g_q79 g79_23 hsA rfl (hm_c h hse) rfl rfl ?_
      refine xT_invokestatic (r := []) (u := some (.inl ((nI (if lpB 0 (x_bin 0 (nI 1900) v) = true then 1 else 0))))) g_q79 g79_26 (j := 80) (so := 3) (by decide +kernel) g_q80 (rfl) (t80_0) ?_
      exact xT_ireturn g_q79 g79_29 (by split <;> decide +kernel)
    · have hv2 : nI 100 ≤ v := Int32.not_lt.mp hv
      rw [if_neg hv]
      refine xT_aload_n g_q79 g79_0 (rfl) ?_
      refine xT_getfield g_q79 g79_1 hsA rfl (hm_c h hse) rfl rfl ?_
      refine xT_ifCondN g_q79 g79_4 (t := 21) (by decide) (c1N (b := 0) rfl) ?_
      refine xT_iload_n g_q79 g79_7 (rfl) ?_
      refine xT_biV (y := nI (100)) g_q79 g79_8 (by decide) ?_
      refine xT_if_icmpY g_q79 g79_10 (t := 21) (by decide) (decide_eq_true hv2) ?_
      refine xT_iload_n g_q79 g79_21 (rfl) ?_
      refine xT_aload_n g_q79 g79_22 (rfl) ?_
      refine xT_getfield g_q79 g79_23 hsA rfl (hm_c h hse) rfl rfl ?_
      refine xT_invokestatic (r := []) (u := some (.inl ((nI (if lpB 0 v = true then 1 else 0))))) g_q79 g79_26 (j := 80) (so := 3) (by decide +kernel) g_q80 (rfl) (t80_0) ?_
      exact xT_ireturn g_q79 g79_29 (by split <;> decide +kernel)
  · rw [hlp]
    refine xT_aload_n g_q79 g79_0 (rfl) ?_
    refine xT_getfield g_q79 g79_1 hsA rfl (hm_c h hse) rfl rfl ?_
    refine xT_ifCondY g_q79 g79_4 (t := 21) (by decide) (c1Y (a := 1) (b := 0) (by omega) (by omega) (by omega)) ?_
    refine xT_iload_n g_q79 g79_21 (rfl) ?_
    refine xT_aload_n g_q79 g79_22 (rfl) ?_
    refine xT_getfield g_q79 g79_23 hsA rfl (hm_c h hse) rfl rfl ?_
    refine xT_invokestatic (r := []) (u := some (.inl ((nI (if lpB 2 v = true then 1 else 0))))) g_q79 g79_26 (j := 80) (so := 3) (by decide +kernel) g_q80 (rfl) (t80_2) ?_
    exact xT_ireturn g_q79 g79_29 (by split <;> decide +kernel)
end XH33_6
