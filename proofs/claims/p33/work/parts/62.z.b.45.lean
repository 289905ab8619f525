/-! p33 by hand, 44. -/
noncomputable section XH33_44
variable {ot : XO Int32} {dp : Nat} {H H0 : List (XC Int32)}
theorem t142_t {n : Nat} {d : Ld} {K : Ka} {WL : List Nat} {rp rt : Nat → rS} {col : Nat → Nat} (hd : dOk n d) (hL : H0.length ≤ 1000000) (hS : kSt n d K WL H0) (hN : kNe n K WL col) {i ix jx : Nat} (hP : kPh n d K WL rp rt H0 H ix jx) (hi : i < n) : x_To x_tb x_tyl ot (dp + 1) 142 0 (x_en 0 [.inr (some (aB K)), .inl (nI (i)), .inl (-1)]) [] H 0 0 (some (.inr (some (tIn d K i)))) H := by
  have hd12 := hd.1
  have hlen := hP.2.1
  obtain ⟨⟨bf, cb, bf2, bf3, bf5, bf6, bf8, bf9⟩, ⟨pa, cpa, pal, pae⟩, -⟩ := id hS
  have hb := hP.1 _ _ cb
  have hpa := hP.1 _ _ cpa
  have hbl : ¬ 1000000 < aB K := by
    have := lt_of hb (by omega)
    omega
  obtain ⟨fsi, yi, sti, hpi, hfi⟩ := (hP.2.2.2.2.1 i hi).1
  obtain ⟨pli, pci_0, pci_2, pci_3, pci_4, pci_5, pci_6, pci_7, pci_8, pci_9, pci_11⟩ := id hfi
  have hpli : ¬ 1000000 < aP K (i) := by
    have := lt_of hpi (by omega)
    omega
  obtain ⟨-, -, -, -, -, b1, b2, -⟩ := hd.2 i hi
  rcases hz : dSv d i with _ | s
  · rw [show tIn d K i = aH K (i) from if_pos hz]
    have pci_8 : fsi[8]? = some (.inl (-1)) := by
      rw [pci_8, hz]
      rfl
    refine xT_aload_n g_q142 g142_0 (rfl) ?_
    refine xT_getfield g_q142 g142_1 hbl rfl hb rfl bf2 ?_
    refine xT_iload_n g_q142 g142_4 (rfl) ?_
    refine xT_aaload g_q142 g142_5 (by decide +kernel) hpa (ixN (n := 12) (by omega) pal) (ixG (by omega) (pae _ (by omega))) ?_
    refine xT_getfield g_q142 g142_6 hpli rfl hpi rfl pci_8 ?_
    refine xT_istore_n g_q142 g142_9 (by decide) ?_
    refine xT_aload_n g_q142 g142_10 (lkN (by decide) (rfl)) ?_
    refine xT_iload_n g_q142 g142_11 (lkY) ?_
    refine xT_invokevirtual (r := []) (u := some (.inr none)) g_q142 g142_12 (j := 42) (so := 0) (by decide +kernel) g_q42 rfl (by rw [x_rcM hbl hb]; rfl) (t42_0 hd hL hS hN hP) ?_
    refine xT_astore g_q142 g142_15 (by decide) ?_
    refine xT_aload g_q142 g142_17 (lkY) ?_
    refine xT_ifnonnull0 g_q142 g142_19 (t := 32) (by decide) ?_
    refine xT_aload_n g_q142 g142_22 (lkN (by decide) (lkN (by decide) (rfl))) ?_
    refine xT_getfield g_q142 g142_23 hbl rfl hb rfl bf2 ?_
    refine xT_iload_n g_q142 g142_26 (lkN (by decide) (lkN (by decide) (rfl))) ?_
    refine xT_aaload g_q142 g142_27 (by decide +kernel) hpa (ixN (n := 12) (by omega) pal) (ixG (by omega) (pae _ (by omega))) ?_
    refine xT_getfield g_q142 g142_28 hpli rfl hpi rfl pci_2 ?_
    exact xT_areturn g_q142 g142_31 (rfl)
  · have hs : s < n := by omega
    have pci_8 : fsi[8]? = some (.inl (nI s)) := by
      rw [pci_8, hz]
      rfl
    obtain ⟨fss, ys, sts, hps, hfs⟩ := (hP.2.2.2.2.1 s hs).1
    obtain ⟨pls, pcs_0, pcs_2, pcs_3, pcs_4, pcs_5, pcs_6, pcs_7, pcs_8, pcs_9, pcs_11⟩ := id hfs
    have hpls : ¬ 1000000 < aP K (s) := by
      have := lt_of hps (by omega)
      omega
    by_cases e : s < i
    · rw [show tIn d K i = aX K (s) by
        unfold tIn
        rw [if_neg (by omega), if_pos (by omega), hz]
        rfl]
      refine xT_aload_n g_q142 g142_0 (rfl) ?_
      refine xT_getfield g_q142 g142_1 hbl rfl hb rfl bf2 ?_
      refine xT_iload_n g_q142 g142_4 (rfl) ?_
      refine xT_aaload g_q142 g142_5 (by decide +kernel) hpa (ixN (n := 12) (by omega) pal) (ixG (by omega) (pae _ (by omega))) ?_
      refine xT_getfield g_q142 g142_6 hpli rfl hpi rfl pci_8 ?_
      refine xT_istore_n g_q142 g142_9 (by decide) ?_
      refine xT_aload_n g_q142 g142_10 (lkN (by decide) (rfl)) ?_
      refine xT_iload_n g_q142 g142_11 (lkY) ?_
      refine xT_invokevirtual (r := []) (u := some (.inr (some (aP K (s))))) g_q142 g142_12 (j := 42) (so := 0) (by decide +kernel) g_q42 rfl (by rw [x_rcM hbl hb]; rfl) (t42_1 hd hL hS hN hP (s := s) (by omega)) ?_
      refine xT_astore g_q142 g142_15 (by decide) ?_
      refine xT_aload g_q142 g142_17 (lkY) ?_
      refine xT_ifnonnull1 g_q142 g142_19 (t := 32) (by decide) ?_
      refine xT_iload_n g_q142 g142_32 (lkN (by decide) (lkN (by decide) (rfl))) ?_
      refine xT_iload_n g_q142 g142_33 (lkN (by decide) (lkY)) ?_
      refine xT_invokestatic (r := []) (u := some (.inl (nI (1)))) g_q142 g142_34 (j := 48) (so := 2) (by decide +kernel) g_q48 (rfl) (t48_1 (by omega)) ?_
      refine xT_ifCondN g_q142 g142_37 (t := 59) (by decide) (c0N (a := 1) (b := 0) (by omega) (by omega) (by omega)) ?_
      refine xT_iload_n g_q142 g142_40 (lkN (by decide) (lkY)) ?_
      refine xT_iload_n g_q142 g142_41 (lkN (by decide) (lkN (by decide) (rfl))) ?_
      refine xT_if_icmpN g_q142 g142_42 (t := 53) (by decide) (c3N (a := s) (b := i) (by omega) (by omega) (by omega)) ?_
      refine xT_aload g_q142 g142_45 (lkY) ?_
      refine xT_getfield g_q142 g142_47 hpls rfl hps rfl pcs_6 ?_
      refine xT_goto g_q142 g142_50 (t := 58) (by decide) ?_
      exact xT_areturn g_q142 g142_58 (rfl)
    · rw [show tIn d K i = aT K (s) by
        unfold tIn
        rw [if_neg (by omega), if_neg (by omega), hz]
        rfl]
      refine xT_aload_n g_q142 g142_0 (rfl) ?_
      refine xT_getfield g_q142 g142_1 hbl rfl hb rfl bf2 ?_
      refine xT_iload_n g_q142 g142_4 (rfl) ?_
      refine xT_aaload g_q142 g142_5 (by decide +kernel) hpa (ixN (n := 12) (by omega) pal) (ixG (by omega) (pae _ (by omega))) ?_
      refine xT_getfield g_q142 g142_6 hpli rfl hpi rfl pci_8 ?_
      refine xT_istore_n g_q142 g142_9 (by decide) ?_
      refine xT_aload_n g_q142 g142_10 (lkN (by decide) (rfl)) ?_
      refine xT_iload_n g_q142 g142_11 (lkY) ?_
      refine xT_invokevirtual (r := []) (u := some (.inr (some (aP K (s))))) g_q142 g142_12 (j := 42) (so := 0) (by decide +kernel) g_q42 rfl (by rw [x_rcM hbl hb]; rfl) (t42_1 hd hL hS hN hP (s := s) (by omega)) ?_
      refine xT_astore g_q142 g142_15 (by decide) ?_
      refine xT_aload g_q142 g142_17 (lkY) ?_
      refine xT_ifnonnull1 g_q142 g142_19 (t := 32) (by decide) ?_
      refine xT_iload_n g_q142 g142_32 (lkN (by decide) (lkN (by decide) (rfl))) ?_
      refine xT_iload_n g_q142 g142_33 (lkN (by decide) (lkY)) ?_
      refine xT_invokestatic (r := []) (u := some (.inl (nI (1)))) g_q142 g142_34 (j := 48) (so := 2) (by decide +kernel) g_q48 (rfl) (t48_1 (by omega)) ?_
      refine xT_ifCondN g_q142 g142_37 (t := 59) (by decide) (c0N (a := 1) (b := 0) (by omega) (by omega) (by omega)) ?_
      refine xT_iload_n g_q142 g142_40 (lkN (by decide) (lkY)) ?_
      refine xT_iload_n g_q142 g142_41 (lkN (by decide) (lkN (by decide) (rfl))) ?_
      refine xT_if_icmpY g_q142 g142_42 (t := 53) (by decide) (c3Y (a := s) (b := i) (by omega) (by omega) (by omega)) ?_
      refine xT_aload g_q142 g142_53 (lkY) ?_
      refine xT_getfield g_q142 g142_55 hpls rfl hps rfl pcs_4 ?_
      exact xT_areturn g_q142 g142_58 (rfl)
theorem t142_p {n : Nat} {d : Ld} {K : Ka} {WL : List Nat} {rp rt : Nat → rS} {col : Nat → Nat} (hd : dOk n d) (hL : H0.length ≤ 1000000) (hS : kSt n d K WL H0) (hN : kNe n K WL col) {i ix jx : Nat} (hP : kPh n d K WL rp rt H0 H ix jx) (hi : i < n) : x_To x_tb x_tyl ot (dp + 1) 142 0 (x_en 0 [.inr (some (aB K)), .inl (nI (i)), .inl (nI (0))]) [] H 0 0 (some (.inr (some (pIn d K i)))) H := by
  have hd12 := hd.1
  have hlen := hP.2.1
  obtain ⟨⟨bf, cb, bf2, bf3, bf5, bf6, bf8, bf9⟩, ⟨pa, cpa, pal, pae⟩, -⟩ := id hS
  have hb := hP.1 _ _ cb
  have hpa := hP.1 _ _ cpa
  have hbl : ¬ 1000000 < aB K := by
    have := lt_of hb (by omega)
    omega
  obtain ⟨fsi, yi, sti, hpi, hfi⟩ := (hP.2.2.2.2.1 i hi).1
  obtain ⟨pli, pci_0, pci_2, pci_3, pci_4, pci_5, pci_6, pci_7, pci_8, pci_9, pci_11⟩ := id hfi
  have hpli : ¬ 1000000 < aP K (i) := by
    have := lt_of hpi (by omega)
    omega
  obtain ⟨-, -, -, -, -, b1, b2, -⟩ := hd.2 i hi
  rcases hz : dSv d i with _ | s
  · rw [show pIn d K i = aH K (i) from if_pos hz]
    have pci_8 : fsi[8]? = some (.inl (-1)) := by
      rw [pci_8, hz]
      rfl
    refine xT_aload_n g_q142 g142_0 (rfl) ?_
    refine xT_getfield g_q142 g142_1 hbl rfl hb rfl bf2 ?_
    refine xT_iload_n g_q142 g142_4 (rfl) ?_
    refine xT_aaload g_q142 g142_5 (by decide +kernel) hpa (ixN (n := 12) (by omega) pal) (ixG (by omega) (pae _ (by omega))) ?_
    refine xT_getfield g_q142 g142_6 hpli rfl hpi rfl pci_8 ?_
    refine xT_istore_n g_q142 g142_9 (by decide) ?_
    refine xT_aload_n g_q142 g142_10 (lkN (by decide) (rfl)) ?_
    refine xT_iload_n g_q142 g142_11 (lkY) ?_
    refine xT_invokevirtual (r := []) (u := some (.inr none)) g_q142 g142_12 (j := 42) (so := 0) (by decide +kernel) g_q42 rfl (by rw [x_rcM hbl hb]; rfl) (t42_0 hd hL hS hN hP) ?_
    refine xT_astore g_q142 g142_15 (by decide) ?_
    refine xT_aload g_q142 g142_17 (lkY) ?_
    refine xT_ifnonnull0 g_q142 g142_19 (t := 32) (by decide) ?_
    refine xT_aload_n g_q142 g142_22 (lkN (by decide) (lkN (by decide) (rfl))) ?_
    refine xT_getfield g_q142 g142_23 hbl rfl hb rfl bf2 ?_
    refine xT_iload_n g_q142 g142_26 (lkN (by decide) (lkN (by decide) (rfl))) ?_
    refine xT_aaload g_q142 g142_27 (by decide +kernel) hpa (ixN (n := 12) (by omega) pal) (ixG (by omega) (pae _ (by omega))) ?_
    refine xT_getfield g_q142 g142_28 hpli rfl hpi rfl pci_2 ?_
    exact xT_areturn g_q142 g142_31 (rfl)
  · have hs : s < n := by omega
    have pci_8 : fsi[8]? = some (.inl (nI s)) := by
      rw [pci_8, hz]
      rfl
    obtain ⟨fss, ys, sts, hps, hfs⟩ := (hP.2.2.2.2.1 s hs).1
    obtain ⟨pls, pcs_0, pcs_2, pcs_3, pcs_4, pcs_5, pcs_6, pcs_7, pcs_8, pcs_9, pcs_11⟩ := id hfs
    have hpls : ¬ 1000000 < aP K (s) := by
      have := lt_of hps (by omega)
      omega
    by_cases e : s < i
    · rw [show pIn d K i = aV K (s) by
        unfold pIn
        rw [if_neg (by omega), if_pos (by omega), hz]
        rfl]
      refine xT_aload_n g_q142 g142_0 (rfl) ?_
      refine xT_getfield g_q142 g142_1 hbl rfl hb rfl bf2 ?_
      refine xT_iload_n g_q142 g142_4 (rfl) ?_
      refine xT_aaload g_q142 g142_5 (by decide +kernel) hpa (ixN (n := 12) (by omega) pal) (ixG (by omega) (pae _ (by omega))) ?_
      refine xT_getfield g_q142 g142_6 hpli rfl hpi rfl pci_8 ?_
      refine xT_istore_n g_q142 g142_9 (by decide) ?_
      refine xT_aload_n g_q142 g142_10 (lkN (by decide) (rfl)) ?_
      refine xT_iload_n g_q142 g142_11 (lkY) ?_
      refine xT_invokevirtual (r := []) (u := some (.inr (some (aP K (s))))) g_q142 g142_12 (j := 42) (so := 0) (by decide +kernel) g_q42 rfl (by rw [x_rcM hbl hb]; rfl) (t42_1 hd hL hS hN hP (s := s) (by omega)) ?_
      refine xT_astore g_q142 g142_15 (by decide) ?_
      refine xT_aload g_q142 g142_17 (lkY) ?_
      refine xT_ifnonnull1 g_q142 g142_19 (t := 32) (by decide) ?_
      refine xT_iload_n g_q142 g142_32 (lkN (by decide) (lkN (by decide) (rfl))) ?_
      refine xT_iload_n g_q142 g142_33 (lkN (by decide) (lkY)) ?_
      refine xT_invokestatic (r := []) (u := some (.inl (nI (0)))) g_q142 g142_34 (j := 48) (so := 2) (by decide +kernel) g_q48 (rfl) (t48_0 (by omega)) ?_
      refine xT_ifCondY g_q142 g142_37 (t := 59) (by decide) (c0Y (a := 0) (b := 0) rfl) ?_
      refine xT_iload_n g_q142 g142_59 (lkN (by decide) (lkY)) ?_
      refine xT_iload_n g_q142 g142_60 (lkN (by decide) (lkN (by decide) (rfl))) ?_
      refine xT_if_icmpN g_q142 g142_61 (t := 72) (by decide) (c3N (a := s) (b := i) (by omega) (by omega) (by omega)) ?_
      refine xT_aload g_q142 g142_64 (lkY) ?_
      refine xT_getfield g_q142 g142_66 hpls rfl hps rfl pcs_5 ?_
      refine xT_goto g_q142 g142_69 (t := 77) (by decide) ?_
      exact xT_areturn g_q142 g142_77 (rfl)
    · rw [show pIn d K i = a3W K (s) by
        unfold pIn
        rw [if_neg (by omega), if_neg (by omega), hz]
        rfl]
      refine xT_aload_n g_q142 g142_0 (rfl) ?_
      refine xT_getfield g_q142 g142_1 hbl rfl hb rfl bf2 ?_
      refine xT_iload_n g_q142 g142_4 (rfl) ?_
      refine xT_aaload g_q142 g142_5 (by decide +kernel) hpa (ixN (n := 12) (by omega) pal) (ixG (by omega) (pae _ (by omega))) ?_
      refine xT_getfield g_q142 g142_6 hpli rfl hpi rfl pci_8 ?_
      refine xT_istore_n g_q142 g142_9 (by decide) ?_
      refine xT_aload_n g_q142 g142_10 (lkN (by decide) (rfl)) ?_
      refine xT_iload_n g_q142 g142_11 (lkY) ?_
      refine xT_invokevirtual (r := []) (u := some (.inr (some (aP K (s))))) g_q142 g142_12 (j := 42) (so := 0) (by decide +kernel) g_q42 rfl (by rw [x_rcM hbl hb]; rfl) (t42_1 hd hL hS hN hP (s := s) (by omega)) ?_
      refine xT_astore g_q142 g142_15 (by decide) ?_
      refine xT_aload g_q142 g142_17 (lkY) ?_
      refine xT_ifnonnull1 g_q142 g142_19 (t := 32) (by decide) ?_
      refine xT_iload_n g_q142 g142_32 (lkN (by decide) (lkN (by decide) (rfl))) ?_
      refine xT_iload_n g_q142 g142_33 (lkN (by decide) (lkY)) ?_
      refine xT_invokestatic (r := []) (u := some (.inl (nI (0)))) g_q142 g142_34 (j := 48) (so := 2) (by decide +kernel) g_q48 (rfl) (t48_0 (by omega)) ?_
      refine xT_ifCondY g_q142 g142_37 (t := 59) (by decide) (c0Y (a := 0) (b := 0) rfl) ?_
      refine xT_iload_n g_q142 g142_59 (lkN (by decide) (lkY)) ?_
      refine xT_iload_n g_q142 g142_60 (lkN (by decide) (lkN (by decide) (rfl))) ?_
      refine xT_if_icmpY g_q142 g142_61 (t := 72) (by decide) (c3Y (a := s) (b := i) (by omega) (by omega) (by omega)) ?_
      refine xT_aload g_q142 g142_72 (lkY) ?_
      refine xT_getfield g_q142 g142_74 hpls rfl hps rfl pcs_3 ?_
      exact xT_areturn g_q142 g142_77 (rfl)
end XH33_44
