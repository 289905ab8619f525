/-! p33 by hand, 47. -/
noncomputable section XH33_47
variable {ot : XO Int32} {dp : Nat} {H H0 : List (XC Int32)}
theorem t144_l {n : Nat} {d : Ld} {K : Ka} {WL : List Nat} {rp rt : Nat → rS} {col : Nat → Nat} (hd : dOk n d) (hL : H0.length ≤ 1000000) (hS : kSt n d K WL H0) (hN : kNe n K WL col) (hrp : rdP d rp) (hrt : rdT d rt) : ∀ (k i : Nat) (H : List (XC Int32)) (L : List (Nat × XV Int32)), i + k = n → kPh n d K WL rp rt H0 H n i → x_lk L 0 = some (.inr (some (aB K))) → x_lk L 1 = some (.inl (nI (0))) → x_lk L 2 = some (.inl ((dYr d))) → x_lk L 3 = some (.inl (nI (1))) → x_lk L 4 = some (.inl ((hrm d rp rt i))) → x_lk L 5 = some (.inl (nI (i))) → ∃ H2, x_To x_tb x_tyl ot (dp + 5) 144 6 L [] H 0 0 (some (.inl (hrm d rp rt n))) H2 ∧ kPh n d K WL rp rt H0 H2 n n := by
  intro k
  induction k with
  | zero =>
    intro i H L hi hP l0 l1 l2 l3 l4 l5
    obtain rfl : n = i := by omega
    have hd12 := hd.1
    have hlen := hP.2.1
    obtain ⟨⟨bf, cb, bf2, bf3, bf5, bf6, bf8, bf9⟩, ⟨pa, cpa, pal, pae⟩, -⟩ := id hS
    have hb := hP.1 _ _ cb
    have hpa := hP.1 _ _ cpa
    have hbl : ¬ 1000000 < aB K := by
      have := lt_of hb (by omega)
      omega
    refine ⟨H, ?_, hP⟩
    refine xT_iload g_q144 g144_6 (l5) ?_
    refine xT_aload_n g_q144 g144_8 (l0) ?_
    refine xT_getfield g_q144 g144_9 hbl rfl hb rfl bf3 ?_
    refine xT_if_icmpY g_q144 g144_12 (t := 159) (by decide) (c3Y (a := n) (b := n) (Nat.le_refl _) (by omega) (by omega)) ?_
    refine xT_iload g_q144 g144_159 (l4) ?_
    exact xT_ireturn g_q144 g144_161 (rfl)
  | succ k ih =>
    intro i H L hi hP l0 l1 l2 l3 l4 l5
    have hin : i < n := by omega
    have hd12 := hd.1
    have hlen := hP.2.1
    obtain ⟨⟨bf, cb, bf2, bf3, bf5, bf6, bf8, bf9⟩, ⟨pa, cpa, pal, pae⟩, -⟩ := id hS
    have hb := hP.1 _ _ cb
    have hpa := hP.1 _ _ cpa
    have hbl : ¬ 1000000 < aB K := by
      have := lt_of hb (by omega)
      omega
    obtain ⟨fsi, yi, sti, hpi, hfi⟩ := (hP.2.2.2.2.1 i hin).1
    obtain ⟨pli, pci_0, pci_2, pci_3, pci_4, pci_5, pci_6, pci_7, pci_8, pci_9, pci_11⟩ := id hfi
    have hpli : ¬ 1000000 < aP K (i) := by
      have := lt_of hpi (by omega)
      omega
    have y1_ := t142_p (ot := ot) (dp := dp + 3) hd hL hS hN hP hin
    have hI := pIn_at hd hL hS hN hP hin
    obtain ⟨⟨mW1, mW2, mW3, mW4, mW5⟩, ⟨cc1, cc2, cc3, cc4, cc5⟩, -, -, eq9⟩ := id hN
    obtain ⟨mi1, mi2, mi3, mi4, mi5⟩ := mW5 i hin
    obtain ⟨ci1, ci2, ci3, ci4, ci5⟩ := cc5 i hin
    have mv : ∀ (x : Nat) z, c3R H0 WL x z → c3R H [aOu K, a3N1 K, aV K i, aVi K i] x z := fun x z h => c3R_mv hP.1 (fun y hy => by
      simp only [List.mem_cons, List.not_mem_nil, or_false] at hy
      rcases hy with rfl | rfl | rfl | rfl
      · exact mW3
      · exact mW4
      · exact mi4
      · exact mi5) h
    have hok := pgP_ok hd hrp hin
    have hC := cC_mv mv ((hS.2.2.1 i hin).1 (inX d (dWn d) (dWv d) rp i))
    have hSe := cS_mv mv (hS.2.2.2.1 i (inX d (dWn d) (dWv d) rp i))
    obtain ⟨sp, c2, c3, c4, c5, c6, c7, c8, c9, c10, bs, hw, lw, nf, of, hnl, hol, h4⟩ := run4 hP.2.2.2.1 (hP.2.2.2.2.1 i hin).2.1 (inj4 (cne cc2 cc3 (by decide)) (cne cc2 ci2 (by decide)) (cne cc2 ci4 (by decide)) (cne cc3 ci2 (by decide)) (cne cc3 ci4 (by decide)) (cne ci2 ci4 (by decide)))
    have hot := hm_at h4 (i := 0) rfl rfl
    have hot_ := lt_of hot (by omega)
    have hnu_ := lt_of (hm_at h4 (i := 1) rfl rfl) (by omega)
    have hob_ := lt_of (hm_at h4 (i := 2) rfl rfl) (by omega)
    have hoi_ := lt_of (hm_at h4 (i := 3) rfl rfl) (by omega)
    have hot0 : ¬ 1000000 < aOu K := by omega
    obtain ⟨G1, y2_, hN1⟩ := t66 (ot := ot) (dp := dp + 3) (se := aF1 K) (inp := pIn d K i) (p := pgP d i (inX d (dWn d) (dWv d) rp i)) hot0 (by omega) (by omega) (by omega) hC hok.1 hok.2.1 hnl hol h4
    obtain ⟨nf1, of1, ln1, hw1, lw1, h41, -⟩ := id hN1
    have hot1 := hm_at h41 (i := 0) rfl rfl
    obtain ⟨G2, y3_, hN2⟩ := t116 (ot := ot) (dp := dp) hot0 (by omega) (by omega) (by omega) hC hSe hI hok hN1
    rw [← hrp i] at y3_ hN2
    obtain ⟨-, -, -, kp1⟩ := cN_run hN1
    have hb1 := kp1 _ _ hb (c3R_ne cb mW3) (c3R_ne cb mW4) (c3R_ne cb mi4) (c3R_ne cb mi5)
    have hbl1 := hbl
    have hP3 := kPh_2 hN hP hin hN2 (Nat.le_refl n)
    have hb2 := hP3.1 _ _ cb
    have hlen2 := hP3.2.1
    have hbl2 := hbl
    have hpa2 := hP3.1 _ _ cpa
    obtain ⟨fs2, y2, st2, hp2, hf2⟩ := (hP3.2.2.2.2.1 i hin).1
    obtain ⟨pl2, pc2_0, pc2_2, pc2_3, pc2_4, pc2_5, pc2_6, pc2_7, pc2_8, pc2_9, pc2_11⟩ := id hf2
    have hpl2 : ¬ 1000000 < aP K (i) := by
      have := lt_of hp2 (by omega)
      omega
    obtain ⟨⟨oX, hx1, hx2, hx3, hx4⟩, fst, hpt, pt7⟩ := hP3.2.2.2.2.2.1 i hin
    obtain ⟨oV, hv1, hv2, hv3, hv4⟩ := hP3.2.2.2.2.2.2 i (Nat.lt_succ_self i)
    have hov := hv1
    have z1 := lt_of hv1 (by omega)
    have z2 := lt_of hv2 (by omega)
    have z3 := lt_of hx1 (by omega)
    have z4 := lt_of hx2 (by omega)
    have hov0 : ¬ 1000000 < aV K i := by omega
    have y4 := t83 (ot := ot) (dp := dp + 4) (by omega) (by omega) hv2 hx2 hv3 hx3 (rdP_12 hd hrp hin) hv4 (fun em k hk => hx4 k (by omega)) hov0 (by omega) hv1 hx1 (rdT_12 hd hrt hin)
    have pre : ∀ H3, x_To x_tb x_tyl ot (dp + 5) 144 58 (x_st (L) 6 (.inr (some (aP K (i))))) [] H 0 0 (some (.inl (hrm d rp rt n))) H3 → x_To x_tb x_tyl ot (dp + 5) 144 6 L [] H 0 0 (some (.inl (hrm d rp rt n))) H3 := fun H3 hk => by
      by_cases cst : sti = nI 5
      · skip
        refine xT_iload g_q144 g144_6 (l5) ?_
        refine xT_aload_n g_q144 g144_8 (l0) ?_
        refine xT_getfield g_q144 g144_9 hbl rfl hb rfl bf3 ?_
        refine xT_if_icmpN g_q144 g144_12 (t := 159) (by decide) (c3N (a := i) (b := n) (by omega) (by omega) (by omega)) ?_
        refine xT_aload_n g_q144 g144_15 (l0) ?_
        refine xT_getfield g_q144 g144_16 hbl rfl hb rfl bf2 ?_
        refine xT_iload g_q144 g144_19 (l5) ?_
        refine xT_aaload g_q144 g144_21 (by decide +kernel) hpa (ixN (n := 12) (by omega) pal) (ixG (by omega) (pae _ (by omega))) ?_
        refine xT_astore g_q144 g144_22 (by decide) ?_
        refine xT_aload g_q144 g144_24 (lkY) ?_
        refine xT_getfield g_q144 g144_26 hpli rfl hpi rfl pci_9 ?_
        refine xT_icV (y := nI (5)) g_q144 g144_29 (by decide) ?_
        refine xT_if_icmpN g_q144 g144_30 (t := 58) (by decide) (decide_eq_false (fun z => z cst)) ?_
        refine xT_iload_n g_q144 g144_33 (lkN (by decide) (l3)) ?_
        refine xT_ifCondY g_q144 g144_34 (t := 58) (by decide) (c1Y (a := 1) (b := 0) (by omega) (by omega) (by omega)) ?_
        exact hk
      · skip
        refine xT_iload g_q144 g144_6 (l5) ?_
        refine xT_aload_n g_q144 g144_8 (l0) ?_
        refine xT_getfield g_q144 g144_9 hbl rfl hb rfl bf3 ?_
        refine xT_if_icmpN g_q144 g144_12 (t := 159) (by decide) (c3N (a := i) (b := n) (by omega) (by omega) (by omega)) ?_
        refine xT_aload_n g_q144 g144_15 (l0) ?_
        refine xT_getfield g_q144 g144_16 hbl rfl hb rfl bf2 ?_
        refine xT_iload g_q144 g144_19 (l5) ?_
        refine xT_aaload g_q144 g144_21 (by decide +kernel) hpa (ixN (n := 12) (by omega) pal) (ixG (by omega) (pae _ (by omega))) ?_
        refine xT_astore g_q144 g144_22 (by decide) ?_
        refine xT_aload g_q144 g144_24 (lkY) ?_
        refine xT_getfield g_q144 g144_26 hpli rfl hpi rfl pci_9 ?_
        refine xT_icV (y := nI (5)) g_q144 g144_29 (by decide) ?_
        refine xT_if_icmpY g_q144 g144_30 (t := 58) (by decide) (decide_eq_true cst) ?_
        exact hk
    by_cases ce : rEn (rp i) = rEn (rt i)
    rotate_left
    · skip
      have eh := hrm_y (d := d) (wrg_e ce)
      obtain ⟨H3, x3, x4⟩ := ih (i + 1) G2 (x_st (x_st (x_st (x_st (L) 6 (.inr (some (aP K (i))))) 7 (.inl ((rEn (rp i))))) 4 (.inl ((x_bin 0 (hrm d rp rt i) (dWt d i))))) 5 (.inl (nI (i + 1)))) (by omega) hP3 (lkN (by decide) (lkN (by decide) (lkN (by decide) (lkN (by decide) (l0))))) (lkN (by decide) (lkN (by decide) (lkN (by decide) (lkN (by decide) (l1))))) (lkN (by decide) (lkN (by decide) (lkN (by decide) (lkN (by decide) (l2))))) (lkN (by decide) (lkN (by decide) (lkN (by decide) (lkN (by decide) (l3))))) (by rw [eh]; exact (lkN (by decide) (lkY))) (lkY)
      refine ⟨H3, pre H3 ?_, x4⟩
      refine xT_iload_n g_q144 g144_58 (lkN (by decide) (l1)) ?_
      refine xT_iload g_q144 g144_59 (lkN (by decide) (l5)) ?_
      refine xT_invokestatic (r := []) (u := some (.inl (nI (0)))) g_q144 g144_61 (j := 48) (so := 2) (by decide +kernel) g_q48 (rfl) (t48_0 (by omega)) ?_
      refine xT_ifCondN g_q144 g144_64 (t := 153) (by decide) (c1N (a := 0) (b := 0) rfl) ?_
      refine xT_aload_n g_q144 g144_67 (lkN (by decide) (l0)) ?_
      refine xT_getfield g_q144 g144_68 hbl rfl hb rfl bf8 ?_
      refine xT_aload g_q144 g144_71 (lkY) ?_
      refine xT_getfield g_q144 g144_73 hpli rfl hpi rfl pci_0 ?_
      refine xT_iload_n g_q144 g144_76 (lkN (by decide) (l3)) ?_
      refine xT_ifCondN g_q144 g144_77 (t := 87) (by decide) (c0N (a := 1) (b := 0) (by omega) (by omega) (by omega)) ?_
      refine xT_aload_n g_q144 g144_80 (lkN (by decide) (l0)) ?_
      refine xT_getfield g_q144 g144_81 hbl rfl hb rfl bf5 ?_
      refine xT_goto g_q144 g144_84 (t := 92) (by decide) ?_
      refine xT_aload_n g_q144 g144_92 (lkN (by decide) (l0)) ?_
      refine xT_iload g_q144 g144_93 (lkN (by decide) (l5)) ?_
      refine xT_iload_n g_q144 g144_95 (lkN (by decide) (l1)) ?_
      refine xT_invokevirtual (r := [.inr (some (aF1 K)), .inr (some (a3C K (i))), .inr (some (aOu K))]) (u := some (.inr (some (pIn d K i)))) g_q144 g144_96 (j := 142) (so := 0) (by decide +kernel) g_q142 rfl (by rw [x_rcM hbl hb]; rfl) (y1_) ?_
      refine xT_aload g_q144 g144_99 (lkY) ?_
      refine xT_getfield g_q144 g144_101 hpli rfl hpi rfl pci_5 ?_
      refine xT_iload_n g_q144 g144_104 (lkN (by decide) (l2)) ?_
      refine xT_invokevirtual (r := []) (u := none) g_q144 g144_105 (j := 66) (so := 0) (by decide +kernel) g_q66 rfl (by rw [x_rcM hot0 hot]; rfl) (y2_) ?_
      refine xT_aload_n g_q144 g144_108 (lkN (by decide) (l0)) ?_
      refine xT_getfield g_q144 g144_109 hbl1 rfl hb1 rfl bf8 ?_
      refine xT_invokevirtual (r := []) (u := some (.inl ((rEn (rp i))))) g_q144 g144_112 (j := 116) (so := 0) (by decide +kernel) g_q116 rfl (by rw [x_rcM hot0 hot1]; rfl) (y3_) ?_
      refine xT_istore g_q144 g144_115 (by decide) ?_
      refine xT_iload g_q144 g144_117 (lkY) ?_
      refine xT_aload g_q144 g144_119 (lkN (by decide) (lkY)) ?_
      refine xT_getfield g_q144 g144_121 hpl2 rfl hpt rfl pt7 ?_
      refine xT_if_icmpY g_q144 g144_124 (t := 143) (by decide) (decide_eq_true ce) ?_
      refine xT_iload g_q144 g144_143 (lkN (by decide) (lkN (by decide) (l4))) ?_
      refine xT_aload g_q144 g144_145 (lkN (by decide) (lkY)) ?_
      refine xT_getfield g_q144 g144_147 hpl2 rfl hp2 rfl pc2_11 ?_
      refine xT_iaddV (y := (x_bin 0 (hrm d rp rt i) (dWt d i))) g_q144 g144_150 (rfl) ?_
      refine xT_istore g_q144 g144_151 (by decide) ?_
      refine xT_iincV (y := nI (i + 1)) g_q144 g144_153 (lkN (by decide) (lkN (by decide) (lkN (by decide) (l5)))) (by decide) (bIncN _) ?_
      refine xT_goto g_q144 g144_156 (t := 6) (by decide) ?_
      exact x3
    by_cases cl : lkB (rOs (rp i)) (rOv (rp i)) (rOs (rt i)) (rOv (rt i)) = true
    · have y4_ : x_To x_tb x_tyl ot (dp + 4) 83 0 (x_en 0 [.inr (some (aV K i)), .inr (some (aX K i))]) [] G2 0 0 (some (.inl (nI 1))) G2 := by
        rw [if_pos cl] at y4
        exact y4
      have eh := hrm_n (d := d) (wrg_n ce cl)
      obtain ⟨H3, x3, x4⟩ := ih (i + 1) G2 (x_st (x_st (x_st (L) 6 (.inr (some (aP K (i))))) 7 (.inl ((rEn (rp i))))) 5 (.inl (nI (i + 1)))) (by omega) hP3 (lkN (by decide) (lkN (by decide) (lkN (by decide) (l0)))) (lkN (by decide) (lkN (by decide) (lkN (by decide) (l1)))) (lkN (by decide) (lkN (by decide) (lkN (by decide) (l2)))) (lkN (by decide) (lkN (by decide) (lkN (by decide) (l3)))) (by rw [eh]; exact (lkN (by decide) (lkN (by decide) (lkN (by decide) (l4))))) (lkY)
      refine ⟨H3, pre H3 ?_, x4⟩
      refine xT_iload_n g_q144 g144_58 (lkN (by decide) (l1)) ?_
      refine xT_iload g_q144 g144_59 (lkN (by decide) (l5)) ?_
      refine xT_invokestatic (r := []) (u := some (.inl (nI (0)))) g_q144 g144_61 (j := 48) (so := 2) (by decide +kernel) g_q48 (rfl) (t48_0 (by omega)) ?_
      refine xT_ifCondN g_q144 g144_64 (t := 153) (by decide) (c1N (a := 0) (b := 0) rfl) ?_
      refine xT_aload_n g_q144 g144_67 (lkN (by decide) (l0)) ?_
      refine xT_getfield g_q144 g144_68 hbl rfl hb rfl bf8 ?_
      refine xT_aload g_q144 g144_71 (lkY) ?_
      refine xT_getfield g_q144 g144_73 hpli rfl hpi rfl pci_0 ?_
      refine xT_iload_n g_q144 g144_76 (lkN (by decide) (l3)) ?_
      refine xT_ifCondN g_q144 g144_77 (t := 87) (by decide) (c0N (a := 1) (b := 0) (by omega) (by omega) (by omega)) ?_
      refine xT_aload_n g_q144 g144_80 (lkN (by decide) (l0)) ?_
      refine xT_getfield g_q144 g144_81 hbl rfl hb rfl bf5 ?_
      refine xT_goto g_q144 g144_84 (t := 92) (by decide) ?_
      refine xT_aload_n g_q144 g144_92 (lkN (by decide) (l0)) ?_
      refine xT_iload g_q144 g144_93 (lkN (by decide) (l5)) ?_
      refine xT_iload_n g_q144 g144_95 (lkN (by decide) (l1)) ?_
      refine xT_invokevirtual (r := [.inr (some (aF1 K)), .inr (some (a3C K (i))), .inr (some (aOu K))]) (u := some (.inr (some (pIn d K i)))) g_q144 g144_96 (j := 142) (so := 0) (by decide +kernel) g_q142 rfl (by rw [x_rcM hbl hb]; rfl) (y1_) ?_
      refine xT_aload g_q144 g144_99 (lkY) ?_
      refine xT_getfield g_q144 g144_101 hpli rfl hpi rfl pci_5 ?_
      refine xT_iload_n g_q144 g144_104 (lkN (by decide) (l2)) ?_
      refine xT_invokevirtual (r := []) (u := none) g_q144 g144_105 (j := 66) (so := 0) (by decide +kernel) g_q66 rfl (by rw [x_rcM hot0 hot]; rfl) (y2_) ?_
      refine xT_aload_n g_q144 g144_108 (lkN (by decide) (l0)) ?_
      refine xT_getfield g_q144 g144_109 hbl1 rfl hb1 rfl bf8 ?_
      refine xT_invokevirtual (r := []) (u := some (.inl ((rEn (rp i))))) g_q144 g144_112 (j := 116) (so := 0) (by decide +kernel) g_q116 rfl (by rw [x_rcM hot0 hot1]; rfl) (y3_) ?_
      refine xT_istore g_q144 g144_115 (by decide) ?_
      refine xT_iload g_q144 g144_117 (lkY) ?_
      refine xT_aload g_q144 g144_119 (lkN (by decide) (lkY)) ?_
      refine xT_getfield g_q144 g144_121 hpl2 rfl hpt rfl pt7 ?_
      refine xT_if_icmpN g_q144 g144_124 (t := 143) (by decide) (decide_eq_false (fun z => z ce)) ?_
      refine xT_aload g_q144 g144_127 (lkN (by decide) (lkY)) ?_
      refine xT_getfield g_q144 g144_129 hpl2 rfl hp2 rfl pc2_5 ?_
      refine xT_aload g_q144 g144_132 (lkN (by decide) (lkY)) ?_
      refine xT_getfield g_q144 g144_134 hpl2 rfl hp2 rfl pc2_6 ?_
      refine xT_invokevirtual (r := []) (u := some (.inl (nI (1)))) g_q144 g144_137 (j := 83) (so := 0) (by decide +kernel) g_q83 rfl (by rw [x_rcM hov0 hov]; rfl) (y4_) ?_
      refine xT_ifCondY g_q144 g144_140 (t := 153) (by decide) (c1Y (a := 1) (b := 0) (by omega) (by omega) (by omega)) ?_
      refine xT_iincV (y := nI (i + 1)) g_q144 g144_153 (lkN (by decide) (lkN (by decide) (l5))) (by decide) (bIncN _) ?_
      refine xT_goto g_q144 g144_156 (t := 6) (by decide) ?_
      exact x3
    · have y4_ : x_To x_tb x_tyl ot (dp + 4) 83 0 (x_en 0 [.inr (some (aV K i)), .inr (some (aX K i))]) [] G2 0 0 (some (.inl (nI 0))) G2 := by
        rw [if_neg cl] at y4
        exact y4
      have eh := hrm_y (d := d) (wrg_l ce cl)
      obtain ⟨H3, x3, x4⟩ := ih (i + 1) G2 (x_st (x_st (x_st (x_st (L) 6 (.inr (some (aP K (i))))) 7 (.inl ((rEn (rp i))))) 4 (.inl ((x_bin 0 (hrm d rp rt i) (dWt d i))))) 5 (.inl (nI (i + 1)))) (by omega) hP3 (lkN (by decide) (lkN (by decide) (lkN (by decide) (lkN (by decide) (l0))))) (lkN (by decide) (lkN (by decide) (lkN (by decide) (lkN (by decide) (l1))))) (lkN (by decide) (lkN (by decide) (lkN (by decide) (lkN (by decide) (l2))))) (lkN (by decide) (lkN (by decide) (lkN (by decide) (lkN (by decide) (l3))))) (by rw [eh]; exact (lkN (by decide) (lkY))) (lkY)
      refine ⟨H3, pre H3 ?_, x4⟩
      refine xT_iload_n g_q144 g144_58 (lkN (by decide) (l1)) ?_
      refine xT_iload g_q144 g144_59 (lkN (by decide) (l5)) ?_
      refine xT_invokestatic (r := []) (u := some (.inl (nI (0)))) g_q144 g144_61 (j := 48) (so := 2) (by decide +kernel) g_q48 (rfl) (t48_0 (by omega)) ?_
      refine xT_ifCondN g_q144 g144_64 (t := 153) (by decide) (c1N (a := 0) (b := 0) rfl) ?_
      refine xT_aload_n g_q144 g144_67 (lkN (by decide) (l0)) ?_
      refine xT_getfield g_q144 g144_68 hbl rfl hb rfl bf8 ?_
      refine xT_aload g_q144 g144_71 (lkY) ?_
      refine xT_getfield g_q144 g144_73 hpli rfl hpi rfl pci_0 ?_
      refine xT_iload_n g_q144 g144_76 (lkN (by decide) (l3)) ?_
      refine xT_ifCondN g_q144 g144_77 (t := 87) (by decide) (c0N (a := 1) (b := 0) (by omega) (by omega) (by omega)) ?_
      refine xT_aload_n g_q144 g144_80 (lkN (by decide) (l0)) ?_
      refine xT_getfield g_q144 g144_81 hbl rfl hb rfl bf5 ?_
      refine xT_goto g_q144 g144_84 (t := 92) (by decide) ?_
      refine xT_aload_n g_q144 g144_92 (lkN (by decide) (l0)) ?_
      refine xT_iload g_q144 g144_93 (lkN (by decide) (l5)) ?_
      refine xT_iload_n g_q144 g144_95 (lkN (by decide) (l1)) ?_
      refine xT_invokevirtual (r := [.inr (some (aF1 K)), .inr (some (a3C K (i))), .inr (some (aOu K))]) (u := some (.inr (some (pIn d K i)))) g_q144 g144_96 (j := 142) (so := 0) (by decide +kernel) g_q142 rfl (by rw [x_rcM hbl hb]; rfl) (y1_) ?_
      refine xT_aload g_q144 g144_99 (lkY) ?_
      refine xT_getfield g_q144 g144_101 hpli rfl hpi rfl pci_5 ?_
      refine xT_iload_n g_q144 g144_104 (lkN (by decide) (l2)) ?_
      refine xT_invokevirtual (r := []) (u := none) g_q144 g144_105 (j := 66) (so := 0) (by decide +kernel) g_q66 rfl (by rw [x_rcM hot0 hot]; rfl) (y2_) ?_
      refine xT_aload_n g_q144 g144_108 (lkN (by decide) (l0)) ?_
      refine xT_getfield g_q144 g144_109 hbl1 rfl hb1 rfl bf8 ?_
      refine xT_invokevirtual (r := []) (u := some (.inl ((rEn (rp i))))) g_q144 g144_112 (j := 116) (so := 0) (by decide +kernel) g_q116 rfl (by rw [x_rcM hot0 hot1]; rfl) (y3_) ?_
      refine xT_istore g_q144 g144_115 (by decide) ?_
      refine xT_iload g_q144 g144_117 (lkY) ?_
      refine xT_aload g_q144 g144_119 (lkN (by decide) (lkY)) ?_
      refine xT_getfield g_q144 g144_121 hpl2 rfl hpt rfl pt7 ?_
      refine xT_if_icmpN g_q144 g144_124 (t := 143) (by decide) (decide_eq_false (fun z => z ce)) ?_
      refine xT_aload g_q144 g144_127 (lkN (by decide) (lkY)) ?_
      refine xT_getfield g_q144 g144_129 hpl2 rfl hp2 rfl pc2_5 ?_
      refine xT_aload g_q144 g144_132 (lkN (by decide) (lkY)) ?_
      refine xT_getfield g_q144 g144_134 hpl2 rfl hp2 rfl pc2_6 ?_
      refine xT_invokevirtual (r := []) (u := some (.inl (nI (0)))) g_q144 g144_137 (j := 83) (so := 0) (by decide +kernel) g_q83 rfl (by rw [x_rcM hov0 hov]; rfl) (y4_) ?_
      refine xT_ifCondN g_q144 g144_140 (t := 153) (by decide) (c1N (a := 0) (b := 0) rfl) ?_
      refine xT_iload g_q144 g144_143 (lkN (by decide) (lkN (by decide) (l4))) ?_
      refine xT_aload g_q144 g144_145 (lkN (by decide) (lkY)) ?_
      refine xT_getfield g_q144 g144_147 hpl2 rfl hp2 rfl pc2_11 ?_
      refine xT_iaddV (y := (x_bin 0 (hrm d rp rt i) (dWt d i))) g_q144 g144_150 (rfl) ?_
      refine xT_istore g_q144 g144_151 (by decide) ?_
      refine xT_iincV (y := nI (i + 1)) g_q144 g144_153 (lkN (by decide) (lkN (by decide) (lkN (by decide) (l5)))) (by decide) (bIncN _) ?_
      refine xT_goto g_q144 g144_156 (t := 6) (by decide) ?_
      exact x3
end XH33_47
