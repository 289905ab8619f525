/-! p33 by hand, 56. -/
noncomputable section XH33_56
variable {ot : XO Int32} {dp : Nat} {H H0 : List (XC Int32)}
theorem t222 {n : Nat} {d : Ld} {A FR TR FS TS : Nat → Nat} {WL : List Nat} {rp rt : Nat → rS} {gs : List (XV Int32)} {col : Nat → Nat} {lF lT : Nat → List (XV Int32)} {D V U : Nat} (hd : dOk n d) (hN : mNe A FR TR WL col) (hG : mG n A gs) (hrp : rdP d rp) (hrt : rdT d rt) (g3 : gs[3]? = some (.inr (some D))) (g4 : gs[4]? = some (.inr (some V))) (g5 : gs[5]? = some (.inr (some U))) {H : List (XC Int32)} (hL : H.length ≤ 1000000) (hS : mS0 n d A FR TR FS TS lF lT WL H) (hD : mD n D V U WL H) (hb : H[A 0]? = some (.inl (12, gs))) : ∃ H2, x_To x_tb x_tyl ot (dp + 7) 222 0 (x_en 0 [.inr (some (A 0)), .inl ((dYr d)), .inl (nI (0)), .inl (nI (0))]) [] H 0 0 (some (.inl (hrm d rp rt n))) H2 ∧ ∃ gs2 : List (XV Int32), H2[A 0]? = some (.inl (12, gs2)) ∧ gs2.length = gs.length := by
  obtain ⟨hl62, g0, hg⟩ := id hG
  have z0 := lt_of hb hL
  have hA0 : ¬ 1000000 < A 0 := by omega
  have g13 := hg 13 23 (by decide)
  have g14 := hg 14 24 (by decide)
  have g15 := hg 15 25 (by decide)
  have g16 := hg 16 26 (by decide)
  have g59 := hg 59 18 (by decide)
  have g60 := hg 60 19 (by decide)
  have g61 := hg 61 11 (by decide)
  have g62 := hg 62 12 (by decide)
  obtain ⟨-, -, hS3, ⟨l24, c24, w24, e24⟩, ⟨l26, c26, w26, e26⟩, ⟨l11, c11, n11⟩, ⟨l12, c12, n12⟩, -, -⟩ := id hS
  obtain ⟨G', hc, hk⟩ := t222_l (ot := ot) (dp := dp + 7) hd hN hG hL hS hb 12 0 H (x_st (x_st (x_st (x_st (x_st ((x_en 0 [.inr (some (A 0)), .inl ((dYr d)), .inl (nI (0)), .inl (nI (0))])) 4 (.inr (some (A 23)))) 5 (.inr (some (A 25)))) 6 (.inr (some (A 24)))) 7 (.inr (some (A 26)))) 8 (.inl (nI (0)))) (by omega) (cPh_0 (fun q hq => (hS3 q hq).2.2.1) (fun q hq => (hS3 q hq).2.2.2)) (lkN (by decide) (lkN (by decide) (lkN (by decide) (lkN (by decide) (lkN (by decide) (rfl)))))) (lkN (by decide) (lkN (by decide) (lkN (by decide) (lkN (by decide) (lkN (by decide) (rfl)))))) (lkN (by decide) (lkN (by decide) (lkN (by decide) (lkN (by decide) (lkN (by decide) (rfl)))))) (lkN (by decide) (lkN (by decide) (lkN (by decide) (lkN (by decide) (lkN (by decide) (rfl)))))) (lkN (by decide) (lkN (by decide) (lkN (by decide) (lkN (by decide) (lkY))))) (lkN (by decide) (lkN (by decide) (lkN (by decide) (lkY)))) (lkN (by decide) (lkN (by decide) (lkY))) (lkN (by decide) (lkY)) (lkY)
  obtain ⟨q1, q2, q3⟩ := id hc
  have k0 := hN.1 0 (by decide)
  have k11 := hN.1 11 (by decide)
  have k12 := hN.1 12 (by decide)
  have nF : ∀ {x j : Nat}, col x = j → j < 13 → ∀ q, q < 12 → x ≠ FR q ∧ x ≠ TR q := fun hx hj q hq => ⟨cne hx (hN.2.1 q hq).2.2.1 (by omega), cne hx (hN.2.1 q hq).2.2.2 (by omega)⟩
  have no : ∀ {x : Nat}, x ≠ A 0 → x ≠ A 11 → x ≠ A 12 → ∀ k : Nat, [A 0, A 11, A 12][k]? ≠ some x := fun a b c k hk => by
    rcases k with _ | _ | _ | k
    · cases hk
      exact a rfl
    · cases hk
      exact b rfl
    · cases hk
      exact c rfl
    · cases hk
  have mvG : ∀ (x : Nat) z, c3R H WL x z → c3R G' [A 0, A 11, A 12] x z := fun x z h => ⟨q1 x z h.1 (fun q hq => ⟨c3R_ne h (hN.2.1 q hq).1, c3R_ne h (hN.2.1 q hq).2.1⟩), no (c3R_ne h k0.1) (c3R_ne h k11.1) (c3R_ne h k12.1)⟩
  have c24 := mvG _ _ c24
  have c26 := mvG _ _ c26
  have h3 : hm G' G' [A 0, A 11, A 12] [.inl (12, gs), .inr (0, l11), .inr (0, l12)] := hm_rf (inj_of col (cs := [0, 11, 12]) (by simp only [List.map_cons, List.map_nil, k0.2, k11.2, k12.2]) (by decide +kernel)) rfl (fun k a z hk hz => by
    rcases k with _ | _ | _ | k
    · cases hk
      cases hz
      exact q1 _ _ hb (nF k0.2 (by decide))
    · cases hk
      cases hz
      exact q1 _ _ c11 (nF k11.2 (by decide))
    · cases hk
      cases hz
      exact q1 _ _ c12 (nF k12.2 (by decide))
    · cases hk)
  have g1_ : hm _ _ [A 0, A 11, A 12] [.inl (12, gs), .inr (0, l24), .inr (0, l12)] := hm_set (i := 1) (z2 := .inr (0, l24)) h3 rfl
  have g2_ : hm _ _ [A 0, A 11, A 12] [.inl (12, gs), .inr (0, l24), .inr (0, l26)] := hm_set (i := 2) (z2 := .inr (0, l26)) g1_ rfl
  have g3_ : hm _ _ [A 0, A 11, A 12] [.inl (12, (gs).set 13 (.inr (some (A 18)))), .inr (0, l24), .inr (0, l26)] := hm_set (i := 0) (z2 := .inl (12, (gs).set 13 (.inr (some (A 18))))) g2_ rfl
  have g4_ : hm _ _ [A 0, A 11, A 12] [.inl (12, ((gs).set 13 (.inr (some (A 18)))).set 15 (.inr (some (A 19)))), .inr (0, l24), .inr (0, l26)] := hm_set (i := 0) (z2 := .inl (12, ((gs).set 13 (.inr (some (A 18)))).set 15 (.inr (some (A 19))))) g3_ rfl
  have g5_ : hm _ _ [A 0, A 11, A 12] [.inl (12, (((gs).set 13 (.inr (some (A 18)))).set 15 (.inr (some (A 19)))).set 14 (.inr (some (A 11)))), .inr (0, l24), .inr (0, l26)] := hm_set (i := 0) (z2 := .inl (12, (((gs).set 13 (.inr (some (A 18)))).set 15 (.inr (some (A 19)))).set 14 (.inr (some (A 11))))) g4_ rfl
  have g6_ : hm _ _ [A 0, A 11, A 12] [.inl (12, ((((gs).set 13 (.inr (some (A 18)))).set 15 (.inr (some (A 19)))).set 14 (.inr (some (A 11)))).set 16 (.inr (some (A 12)))), .inr (0, l24), .inr (0, l26)] := hm_set (i := 0) (z2 := .inl (12, ((((gs).set 13 (.inr (some (A 18)))).set 15 (.inr (some (A 19)))).set 14 (.inr (some (A 11)))).set 16 (.inr (some (A 12))))) g5_ rfl
  obtain ⟨hS4, hP4, hL4⟩ := n_begin (rp := rp) (rt := rt) hd hN hG g3 g4 g5 hS hD hc ⟨w24, e24⟩ ⟨w26, e26⟩ g6_
  obtain ⟨H5, y5_, hP5⟩ := t220 (ot := ot) (dp := dp) hd (by omega) hS4 hN hrp hrt hP4
  obtain ⟨gs5, hb5, h95⟩ := hP5.2.2.1
  have hl5 : 62 < gs5.length := by
    rw [h95.1, gN_len]
    exact hl62
  have h5 : hm H5 H5 [A 0] [.inl (12, gs5)] := hm_rf (fun i j x hi hj => by
    rcases i with _ | i
    · rcases j with _ | j
      · rfl
      · cases hj
    · cases hi) rfl (fun k a z hk hz => by
    rcases k with _ | k
    · cases hk
      cases hz
      exact hb5
    · cases hk)
  have g21_ : hm _ _ [A 0] [.inl (12, (gs5).set 13 (.inr (some (A 23))))] := hm_set (i := 0) (z2 := .inl (12, (gs5).set 13 (.inr (some (A 23))))) h5 rfl
  have g22_ : hm _ _ [A 0] [.inl (12, ((gs5).set 13 (.inr (some (A 23)))).set 15 (.inr (some (A 25))))] := hm_set (i := 0) (z2 := .inl (12, ((gs5).set 13 (.inr (some (A 23)))).set 15 (.inr (some (A 25))))) g21_ rfl
  have g23_ : hm _ _ [A 0] [.inl (12, (((gs5).set 13 (.inr (some (A 23)))).set 15 (.inr (some (A 25)))).set 14 (.inr (some (A 24))))] := hm_set (i := 0) (z2 := .inl (12, (((gs5).set 13 (.inr (some (A 23)))).set 15 (.inr (some (A 25)))).set 14 (.inr (some (A 24))))) g22_ rfl
  have g24_ : hm _ _ [A 0] [.inl (12, ((((gs5).set 13 (.inr (some (A 23)))).set 15 (.inr (some (A 25)))).set 14 (.inr (some (A 24)))).set 16 (.inr (some (A 26))))] := hm_set (i := 0) (z2 := .inl (12, ((((gs5).set 13 (.inr (some (A 23)))).set 15 (.inr (some (A 25)))).set 14 (.inr (some (A 24)))).set 16 (.inr (some (A 26))))) g23_ rfl
  refine ⟨_, ?_, _, hm_at g24_ (i := 0) rfl rfl, ?_⟩
  rotate_left
  · rw [List.length_set, List.length_set, List.length_set, List.length_set, h95.1, gN_len]
  refine xT_aload_n g_q222 g222_0 (rfl) ?_
  refine xT_getfield g_q222 g222_1 hA0 rfl hb rfl g13 ?_
  refine xT_astore g_q222 g222_4 (by decide) ?_
  refine xT_aload_n g_q222 g222_6 (lkN (by decide) (rfl)) ?_
  refine xT_getfield g_q222 g222_7 hA0 rfl hb rfl g15 ?_
  refine xT_astore g_q222 g222_10 (by decide) ?_
  refine xT_aload_n g_q222 g222_12 (lkN (by decide) (lkN (by decide) (rfl))) ?_
  refine xT_getfield g_q222 g222_13 hA0 rfl hb rfl g14 ?_
  refine xT_astore g_q222 g222_16 (by decide) ?_
  refine xT_aload_n g_q222 g222_18 (lkN (by decide) (lkN (by decide) (lkN (by decide) (rfl)))) ?_
  refine xT_getfield g_q222 g222_19 hA0 rfl hb rfl g16 ?_
  refine xT_astore g_q222 g222_22 (by decide) ?_
  refine xT_icV (y := nI (0)) g_q222 g222_24 (by decide) ?_
  refine xT_istore g_q222 g222_25 (by decide) ?_
  refine hk _ _ (fun L l0 l1 l2 l3 l4 l5 l6 l7 => ?_)
  · skip
    refine xT_aload g_q222 g222_78 (l6) ?_
    refine xT_icV (y := nI (0)) g_q222 g222_80 (by decide) ?_
    refine xT_aload_n g_q222 g222_81 (l0) ?_
    refine xT_getfield g_q222 g222_82 hA0 rfl (hm_at h3 (i := 0) rfl rfl) rfl g61 ?_
    refine xT_icV (y := nI (0)) g_q222 g222_85 (by decide) ?_
    refine xT_biV (y := nI (12)) g_q222 g222_86 (by decide) ?_
    refine xT_arraycopy g_q222 g222_88 (by decide +kernel) (by decide +kernel) (hm_c h3 c24) (hm_at h3 (i := 1) rfl rfl) (ac4 w24 n11) ?_
    rw [acl w24.1 n11]
    refine xT_aload g_q222 g222_91 (l7) ?_
    refine xT_icV (y := nI (0)) g_q222 g222_93 (by decide) ?_
    refine xT_aload_n g_q222 g222_94 (l0) ?_
    refine xT_getfield g_q222 g222_95 hA0 rfl (hm_at g1_ (i := 0) rfl rfl) rfl g62 ?_
    refine xT_icV (y := nI (0)) g_q222 g222_98 (by decide) ?_
    refine xT_biV (y := nI (12)) g_q222 g222_99 (by decide) ?_
    refine xT_arraycopy g_q222 g222_101 (by decide +kernel) (by decide +kernel) (hm_ro g1_ c26.1 c26.2) (hm_at g1_ (i := 2) rfl rfl) (ac4 w26 n12) ?_
    rw [acl w26.1 n12]
    refine xT_aload_n g_q222 g222_104 (l0) ?_
    refine xT_aload_n g_q222 g222_105 (l0) ?_
    refine xT_getfield g_q222 g222_106 hA0 rfl (hm_at g2_ (i := 0) rfl rfl) rfl g59 ?_
    refine xT_putfield g_q222 g222_109 (ci := 12) (j := 13) rfl (hm_at g2_ (i := 0) rfl rfl) rfl (by rw [decide_eq_true (show 13 < (gs).length from (by omega))]; rfl) ?_
    refine xT_aload_n g_q222 g222_112 (l0) ?_
    refine xT_aload_n g_q222 g222_113 (l0) ?_
    refine xT_getfield g_q222 g222_114 hA0 rfl (hm_at g3_ (i := 0) rfl rfl) rfl ((List.getElem?_set_ne (by decide)).trans (g60)) ?_
    refine xT_putfield g_q222 g222_117 (ci := 12) (j := 15) rfl (hm_at g3_ (i := 0) rfl rfl) rfl (by rw [decide_eq_true (show 15 < ((gs).set 13 (.inr (some (A 18)))).length from (by rw [List.length_set]; omega))]; rfl) ?_
    refine xT_aload_n g_q222 g222_120 (l0) ?_
    refine xT_aload_n g_q222 g222_121 (l0) ?_
    refine xT_getfield g_q222 g222_122 hA0 rfl (hm_at g4_ (i := 0) rfl rfl) rfl ((List.getElem?_set_ne (by decide)).trans (((List.getElem?_set_ne (by decide)).trans (g61)))) ?_
    refine xT_putfield g_q222 g222_125 (ci := 12) (j := 14) rfl (hm_at g4_ (i := 0) rfl rfl) rfl (by rw [decide_eq_true (show 14 < (((gs).set 13 (.inr (some (A 18)))).set 15 (.inr (some (A 19)))).length from (by rw [List.length_set, List.length_set]; omega))]; rfl) ?_
    refine xT_aload_n g_q222 g222_128 (l0) ?_
    refine xT_aload_n g_q222 g222_129 (l0) ?_
    refine xT_getfield g_q222 g222_130 hA0 rfl (hm_at g5_ (i := 0) rfl rfl) rfl ((List.getElem?_set_ne (by decide)).trans (((List.getElem?_set_ne (by decide)).trans (((List.getElem?_set_ne (by decide)).trans (g62)))))) ?_
    refine xT_putfield g_q222 g222_133 (ci := 12) (j := 16) rfl (hm_at g5_ (i := 0) rfl rfl) rfl (by rw [decide_eq_true (show 16 < ((((gs).set 13 (.inr (some (A 18)))).set 15 (.inr (some (A 19)))).set 14 (.inr (some (A 11)))).length from (by rw [List.length_set, List.length_set, List.length_set]; omega))]; rfl) ?_
    refine xT_aload_n g_q222 g222_136 (l0) ?_
    refine xT_iload_n g_q222 g222_137 (l1) ?_
    refine xT_iload_n g_q222 g222_138 (l2) ?_
    refine xT_iload_n g_q222 g222_139 (l3) ?_
    refine xT_icV (y := nI (0)) g_q222 g222_140 (by decide) ?_
    refine xT_invokevirtual (r := []) (u := some (.inl ((hrm d rp rt n)))) g_q222 g222_141 (j := 220) (so := 0) (by decide +kernel) g_q220 rfl (by rw [x_rcM hA0 (hm_at g6_ (i := 0) rfl rfl)]; rfl) (y5_) ?_
    refine xT_istore g_q222 g222_144 (by decide) ?_
    refine xT_aload_n g_q222 g222_146 (lkN (by decide) (l0)) ?_
    refine xT_aload g_q222 g222_147 (lkN (by decide) (l4)) ?_
    refine xT_putfield g_q222 g222_149 (ci := 12) (j := 13) rfl (hm_at h5 (i := 0) rfl rfl) rfl (by rw [decide_eq_true (show 13 < (gs5).length from (by omega))]; rfl) ?_
    refine xT_aload_n g_q222 g222_152 (lkN (by decide) (l0)) ?_
    refine xT_aload g_q222 g222_153 (lkN (by decide) (l5)) ?_
    refine xT_putfield g_q222 g222_155 (ci := 12) (j := 15) rfl (hm_at g21_ (i := 0) rfl rfl) rfl (by rw [decide_eq_true (show 15 < ((gs5).set 13 (.inr (some (A 23)))).length from (by rw [List.length_set]; omega))]; rfl) ?_
    refine xT_aload_n g_q222 g222_158 (lkN (by decide) (l0)) ?_
    refine xT_aload g_q222 g222_159 (lkN (by decide) (l6)) ?_
    refine xT_putfield g_q222 g222_161 (ci := 12) (j := 14) rfl (hm_at g22_ (i := 0) rfl rfl) rfl (by rw [decide_eq_true (show 14 < (((gs5).set 13 (.inr (some (A 23)))).set 15 (.inr (some (A 25)))).length from (by rw [List.length_set, List.length_set]; omega))]; rfl) ?_
    refine xT_aload_n g_q222 g222_164 (lkN (by decide) (l0)) ?_
    refine xT_aload g_q222 g222_165 (lkN (by decide) (l7)) ?_
    refine xT_putfield g_q222 g222_167 (ci := 12) (j := 16) rfl (hm_at g23_ (i := 0) rfl rfl) rfl (by rw [decide_eq_true (show 16 < ((((gs5).set 13 (.inr (some (A 23)))).set 15 (.inr (some (A 25)))).set 14 (.inr (some (A 24)))).length from (by rw [List.length_set, List.length_set, List.length_set]; omega))]; rfl) ?_
    refine xT_iload g_q222 g222_170 (lkY) ?_
    exact xT_ireturn g_q222 g222_172 (rfl)
end XH33_56
