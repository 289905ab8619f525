/-! p33 by hand, 45. -/
noncomputable section XH33_45
variable {ot : XO Int32} {dp : Nat} {H H0 : List (XC Int32)}
theorem t141_l {n : Nat} {d : Ld} {K : Ka} {WL : List Nat} {rp rt : Nat → rS} {col : Nat → Nat} (hd : dOk n d) (hL : H0.length ≤ 1000000) (hS : kSt n d K WL H0) (hN : kNe n K WL col) (hrt : rdT d rt) : ∀ (k i : Nat) (H : List (XC Int32)) (L : List (Nat × XV Int32)), i + k = n → kPh n d K WL rp rt H0 H i 0 → x_lk L 0 = some (.inr (some (aB K))) → x_lk L 1 = some (.inl ((dYr d))) → x_lk L 2 = some (.inl (nI (1))) → x_lk L 3 = some (.inl (nI (i))) → ∃ H2, x_To x_tb x_tyl ot (dp + 5) 141 2 L [] H 0 0 none H2 ∧ kPh n d K WL rp rt H0 H2 n 0 := by
  intro k
  induction k with
  | zero =>
    intro i H L hi hP l0 l1 l2 l3
    obtain rfl : n = i := by omega
    have hd12 := hd.1
    have hlen := hP.2.1
    obtain ⟨⟨bf, cb, bf2, bf3, bf5, bf6, bf8, bf9⟩, ⟨pa, cpa, pal, pae⟩, -⟩ := id hS
    have hb := hP.1 _ _ cb
    have hpa := hP.1 _ _ cpa
    have hbl : ¬ 1000000 < aB K := by
      have := lt_of hb (by omega)
      omega
    refine ⟨H, ?_, hP⟩
    refine xT_iload_n g_q141 g141_2 (l3) ?_
    refine xT_aload_n g_q141 g141_3 (l0) ?_
    refine xT_getfield g_q141 g141_4 hbl rfl hb rfl bf3 ?_
    refine xT_if_icmpY g_q141 g141_7 (t := 88) (by decide) (c3Y (a := n) (b := n) (Nat.le_refl _) (by omega) (by omega)) ?_
    exact xT_return_ g_q141 g141_88 (rfl)
  | succ k ih =>
    intro i H L hi hP l0 l1 l2 l3
    have hin : i < n := by omega
    have hd12 := hd.1
    have hlen := hP.2.1
    obtain ⟨⟨bf, cb, bf2, bf3, bf5, bf6, bf8, bf9⟩, ⟨pa, cpa, pal, pae⟩, -⟩ := id hS
    have hb := hP.1 _ _ cb
    have hpa := hP.1 _ _ cpa
    have hbl : ¬ 1000000 < aB K := by
      have := lt_of hb (by omega)
      omega
    obtain ⟨fsi, yi, sti, hpi, hfi⟩ := (hP.2.2.2.2.1 i hin).1
    obtain ⟨pli, pci_0, pci_2, pci_3, pci_4, pci_5, pci_6, pci_7, pci_8, pci_9, pci_11⟩ := id hfi
    have hpli : ¬ 1000000 < aP K (i) := by
      have := lt_of hpi (by omega)
      omega
    have y1_ := t142_t (ot := ot) (dp := dp + 3) hd hL hS hN hP hin
    have hI := tIn_at hd hL hS hN hP hin
    obtain ⟨⟨mW1, mW2, mW3, mW4, mW5⟩, ⟨cc1, cc2, cc3, cc4, cc5⟩, -, -, -⟩ := id hN
    obtain ⟨mi1, mi2, mi3, mi4, mi5⟩ := mW5 i hin
    obtain ⟨ci1, ci2, ci3, ci4, ci5⟩ := cc5 i hin
    have mv : ∀ (x : Nat) z, c3R H0 WL x z → c3R H [aOt K, a3N2 K, aX K i, aXi K i] x z := fun x z h => c3R_mv hP.1 (fun y hy => by
      simp only [List.mem_cons, List.not_mem_nil, or_false] at hy
      rcases hy with rfl | rfl | rfl | rfl
      · exact mW1
      · exact mW2
      · exact mi2
      · exact mi3) h
    have hok := pgT_ok hd hrt hin
    have hC := cC_mv mv ((hS.2.2.1 i hin).1 (inX d (dTn d) (dTv d) rt i))
    have hC := cC_pt hC
    have hSe := cS_mv mv (hS.2.2.2.2 i (inX d (dTn d) (dTv d) rt i))
    obtain ⟨sp, c2, c3, c4, c5, c6, c7, c8, c9, c10, bs, hw, lw, nf, of, hnl, hol, h4⟩ := run4 hP.2.2.1 (hP.2.2.2.2.1 i hin).2.2 (inj4 (cne cc1 cc4 (by decide)) (cne cc1 ci3 (by decide)) (cne cc1 ci5 (by decide)) (cne cc4 ci3 (by decide)) (cne cc4 ci5 (by decide)) (cne ci3 ci5 (by decide)))
    have hot := hm_at h4 (i := 0) rfl rfl
    have hot_ := lt_of hot (by omega)
    have hnu_ := lt_of (hm_at h4 (i := 1) rfl rfl) (by omega)
    have hob_ := lt_of (hm_at h4 (i := 2) rfl rfl) (by omega)
    have hoi_ := lt_of (hm_at h4 (i := 3) rfl rfl) (by omega)
    have hot0 : ¬ 1000000 < aOt K := by omega
    obtain ⟨G1, y2_, hN1⟩ := t66 (ot := ot) (dp := dp + 3) (se := aTw K) (inp := tIn d K i) (p := pgT d i (inX d (dTn d) (dTv d) rt i)) hot0 (by omega) (by omega) (by omega) hC hok.1 hok.2.1 hnl hol h4
    obtain ⟨nf1, of1, ln1, hw1, lw1, h41, -⟩ := id hN1
    have hot1 := hm_at h41 (i := 0) rfl rfl
    obtain ⟨G2, y3_, hN2⟩ := t116 (ot := ot) (dp := dp) hot0 (by omega) (by omega) (by omega) hC hSe hI hok hN1
    rw [← hrt i] at y3_ hN2
    obtain ⟨-, -, -, kp1⟩ := cN_run hN1
    obtain ⟨-, -, -, kp2⟩ := cN_run hN2
    have hp2 := kp2 _ _ hpi (cne ci1 cc1 (by decide)) (cne ci1 cc4 (by decide)) (cne ci1 ci3 (by decide)) (cne ci1 ci5 (by decide))
    have hb1 := kp1 _ _ hb (c3R_ne cb mW1) (c3R_ne cb mW2) (c3R_ne cb mi2) (c3R_ne cb mi3)
    have hbl1 := hbl
    have hP3 := kPh_1 hN hP hin hN2 hpi hfi (Nat.zero_le n)
    obtain ⟨H3, x3, x4⟩ := ih (i + 1) _ (x_st (x_st (L) 4 (.inr (some (aP K (i))))) 3 (.inl (nI (i + 1)))) (by omega) hP3 (lkN (by decide) (lkN (by decide) (l0))) (lkN (by decide) (lkN (by decide) (l1))) (lkN (by decide) (lkN (by decide) (l2))) (lkY)
    refine ⟨H3, ?_, x4⟩
    have pre : x_To x_tb x_tyl ot (dp + 5) 141 42 (x_st (L) 4 (.inr (some (aP K (i))))) [] H 0 0 none H3 → x_To x_tb x_tyl ot (dp + 5) 141 2 L [] H 0 0 none H3 := fun hk => by
      by_cases cst : sti = nI 5
      · skip
        refine xT_iload_n g_q141 g141_2 (l3) ?_
        refine xT_aload_n g_q141 g141_3 (l0) ?_
        refine xT_getfield g_q141 g141_4 hbl rfl hb rfl bf3 ?_
        refine xT_if_icmpN g_q141 g141_7 (t := 88) (by decide) (c3N (a := i) (b := n) (by omega) (by omega) (by omega)) ?_
        refine xT_aload_n g_q141 g141_10 (l0) ?_
        refine xT_getfield g_q141 g141_11 hbl rfl hb rfl bf2 ?_
        refine xT_iload_n g_q141 g141_14 (l3) ?_
        refine xT_aaload g_q141 g141_15 (by decide +kernel) hpa (ixN (n := 12) (by omega) pal) (ixG (by omega) (pae _ (by omega))) ?_
        refine xT_astore g_q141 g141_16 (by decide) ?_
        refine xT_aload g_q141 g141_18 (lkY) ?_
        refine xT_getfield g_q141 g141_20 hpli rfl hpi rfl pci_9 ?_
        refine xT_icV (y := nI (5)) g_q141 g141_23 (by decide) ?_
        refine xT_if_icmpN g_q141 g141_24 (t := 42) (by decide) (decide_eq_false (fun z => z cst)) ?_
        refine xT_iload_n g_q141 g141_27 (lkN (by decide) (l2)) ?_
        refine xT_ifCondY g_q141 g141_28 (t := 42) (by decide) (c1Y (a := 1) (b := 0) (by omega) (by omega) (by omega)) ?_
        exact hk
      · skip
        refine xT_iload_n g_q141 g141_2 (l3) ?_
        refine xT_aload_n g_q141 g141_3 (l0) ?_
        refine xT_getfield g_q141 g141_4 hbl rfl hb rfl bf3 ?_
        refine xT_if_icmpN g_q141 g141_7 (t := 88) (by decide) (c3N (a := i) (b := n) (by omega) (by omega) (by omega)) ?_
        refine xT_aload_n g_q141 g141_10 (l0) ?_
        refine xT_getfield g_q141 g141_11 hbl rfl hb rfl bf2 ?_
        refine xT_iload_n g_q141 g141_14 (l3) ?_
        refine xT_aaload g_q141 g141_15 (by decide +kernel) hpa (ixN (n := 12) (by omega) pal) (ixG (by omega) (pae _ (by omega))) ?_
        refine xT_astore g_q141 g141_16 (by decide) ?_
        refine xT_aload g_q141 g141_18 (lkY) ?_
        refine xT_getfield g_q141 g141_20 hpli rfl hpi rfl pci_9 ?_
        refine xT_icV (y := nI (5)) g_q141 g141_23 (by decide) ?_
        refine xT_if_icmpY g_q141 g141_24 (t := 42) (by decide) (decide_eq_true cst) ?_
        exact hk
    refine pre ?_
    refine xT_aload_n g_q141 g141_42 (lkN (by decide) (l0)) ?_
    refine xT_getfield g_q141 g141_43 hbl rfl hb rfl bf9 ?_
    refine xT_aload g_q141 g141_46 (lkY) ?_
    refine xT_getfield g_q141 g141_48 hpli rfl hpi rfl pci_0 ?_
    refine xT_aload_n g_q141 g141_51 (lkN (by decide) (l0)) ?_
    refine xT_getfield g_q141 g141_52 hbl rfl hb rfl bf6 ?_
    refine xT_aload_n g_q141 g141_55 (lkN (by decide) (l0)) ?_
    refine xT_iload_n g_q141 g141_56 (lkN (by decide) (l3)) ?_
    refine xT_icV (y := -1) g_q141 g141_57 (by decide) ?_
    refine xT_invokevirtual (r := [.inr (some (aTw K)), .inr (some (a3C K (i))), .inr (some (aOt K))]) (u := some (.inr (some (tIn d K i)))) g_q141 g141_58 (j := 142) (so := 0) (by decide +kernel) g_q142 rfl (by rw [x_rcM hbl hb]; rfl) (y1_) ?_
    refine xT_aload g_q141 g141_61 (lkY) ?_
    refine xT_getfield g_q141 g141_63 hpli rfl hpi rfl pci_6 ?_
    refine xT_iload_n g_q141 g141_66 (lkN (by decide) (l1)) ?_
    refine xT_invokevirtual (r := []) (u := none) g_q141 g141_67 (j := 66) (so := 0) (by decide +kernel) g_q66 rfl (by rw [x_rcM hot0 hot]; rfl) (y2_) ?_
    refine xT_aload g_q141 g141_70 (lkY) ?_
    refine xT_aload_n g_q141 g141_72 (lkN (by decide) (l0)) ?_
    refine xT_getfield g_q141 g141_73 hbl1 rfl hb1 rfl bf9 ?_
    refine xT_invokevirtual (r := [.inr (some (aP K (i)))]) (u := some (.inl ((rEn (rt i))))) g_q141 g141_76 (j := 116) (so := 0) (by decide +kernel) g_q116 rfl (by rw [x_rcM hot0 hot1]; rfl) (y3_) ?_
    refine xT_putfield g_q141 g141_79 (ci := 10) (j := 7) rfl hp2 rfl (by rw [decide_eq_true (show 7 < fsi.length by omega)]; rfl) ?_
    refine xT_iincV (y := nI (i + 1)) g_q141 g141_82 (lkN (by decide) (l3)) (by decide) (bIncN _) ?_
    refine xT_goto g_q141 g141_85 (t := 2) (by decide) ?_
    exact x3
end XH33_45
