/-! p33 by hand, 56. -/
noncomputable section XH33_56
variable {ot : XO Int32} {dp : Nat} {H H0 : List (XC Int32)}
theorem t222 {n : Nat} {d : Ld} {A FR TR FS TS : Nat → Nat} {WL : List Nat} {rp rt : Nat → rS} {gs : List (XV Int32)} {col : Nat → Nat} {lF lT : Nat → List (XV Int32)} {D V U : Nat} (hd : dOk n d) (hN : mNe A FR TR WL col) (hG : mG n A gs) (hrp : rdP d rp) (hrt : rdT d rt) (g3 : gs[3]? = some (.inr (some D))) (g4 : gs[4]? = some (.inr (some V))) (g5 : gs[5]? = some (.inr (some U))) {H : List (XC Int32)} (hL : H.length ≤ 1000000) (hS : mS0 n d A FR TR FS TS lF lT WL H) (hD : mD n D V U WL H) (hb : H[A 0]? = some (.inl (12, gs))) : ∃ H2, x_To x_tb x_tyl ot (dp + 7) 222 0 (x_en 0 [.inr (some (A 0)), .inl ((dYr d)), .inl (nI (0)), .inl (nI (0))]) [] H 0 0 (some (.inl (hrm d rp rt n))) H2 ∧ ∃ gs2 : List (XV Int32), H2[A 0]? = some (.inl (12, gs2)) ∧ gs2.length = gs.length := by
  obtain ⟨hl62, g0, hg⟩ := id hG
  have z0 := lt_of hb hL
  have hA0 : ¬ 1000000 < A 0 := by omega
  have g13 := hg 13 23 (by decide)
  have g14 := hg 14 24 (by decide)
  have g15 := hg 15 25 (by decide)
  have g16 := hg 16 26 (by decide)
  have g59 := hg 59 18 (by decide)
  have g60 := hg 60 19 (by decide)
  have g61 := hg 61 11 (by decide)
  have g62 := hg 62 12 (by decide)
  obtain ⟨-, -, hS3, ⟨l24, c24, w24, e24⟩, ⟨l26, c26, w26, e26⟩, ⟨l11, c11, n11⟩, ⟨l12, c12, n12⟩, -, -⟩ := id hS
  obtain ⟨G', hc, hk⟩ := t222_l (ot := ot) (dp := dp + 7) hd hN hG hL hS hb 12 0 H (x_st (x_st (x_st (x_st (x_st ((x_en 0 [.inr (some (A 0)), .inl ((dYr d)), .inl (nI (0)), .inl (nI (0))])) 4 (.inr (some (A 23)))) 5 (.inr (some (A 25)))) 6 (.inr (some (A 24)))) 7 (.inr (some (A 26)))) 8 (.inl (nI (0)))) (by omega) (cPh_0 (fun q hq => (hS3 q hq).2.2.1) (fun q hq => (hS3 q hq).2.2.2)) (lkN (by decide) (lkN (by decide) (lkN (by decide) (lkN (by decide) (lkN (by decide) (rfl)))))) (lkN (by decide) (lkN (by decide) (lkN (by decide) (lkN (by decide) (lkN (by decide) (rfl)))))) (lkN (by decide) (lkN (by decide) (lkN (by decide) (lkN (by decide) (lkN (by decide) (rfl)))))) (lkN (by decide) (lkN (by decide) (lkN (by decide) (lkN (by decide) (lkN (by decide) (rfl)))))) (lkN (by decide) (lkN (by decide) (lkN (by decide) (lkN (by decide) (lkY))))) (lkN (by decide) (lkN (by decide) (lkN (by decide) (lkY)))) (lkN (by decide) (lkN (by decide) (lkY))) (lkN (by decide) (lkY)) (lkY)
  obtain ⟨q1, q2, q3⟩ := id hc
  have k0 := hN.1 0 (by decide)
  have k11 := hN.1 11 (by decide)
  have k12 := hN.1 12 (by decide)
  have nF : ∀ {x j : Nat}, col x = j → j < 13 → ∀ q, q < 12 → x ≠ FR q ∧ x ≠ TR q := fun hx hj q hq => ⟨cne hx (hN.2.1 q hq).2.2.1 (by omega), cne hx (hN.2.1 q hq).2.2.2 (by omega)⟩
  have no : ∀ {x : Nat}, x ≠ A 0 → x ≠ A 11 → x ≠ A 12 → ∀ k : Nat, [A 0, A 11, A 12][k]? ≠ some x := fun a b c k hk => by
    rcases k with _ | _ | _ | k
    · cases hk
      exact a rfl
    · cases hk
      exact b rfl
    · cases hk
      exact c rfl
    · cases hk
  have mvG : ∀ (x : Nat) z, c3R H WL x z → c3R G' [A 0, A 11, A 12] x z := fun x z h => ⟨q1 x z h.1 (fun q hq => ⟨c3R_ne h (hN.2.1 q hq).1, c3R_ne h (hN.2.1 q hq).2.1⟩), no (c3R_ne h k0.1) (c3R_ne h k11.1) (c3R_ne h k12.1)⟩
  have c24 := mvG _ _ c24
  have c26 := mvG _ _ c26
  have h3 : hm G' G' [A 0, A 11, A 12] [.inl (12, gs), .inr (0, l11), .inr (0, l12)] := hm_rf (inj_of col (cs := [0, 11, 12]) (by simp only [List.map_cons, List.map_nil, k0.2, k11.2, k12.2]) (by decide +kernel)) rfl (fun k a z hk hz => by
    rcases k with _ | _ | _ | k
    · cases hk
      cases hz
      exact q1 _ _ hb (nF k0.2 (by decide))
    · cases hk
      cases hz
      exact q1 _ _ c11 (nF k11.2 (by decide))
    · cases hk
      cases hz
      exact q1 _ _ c12 (nF k12.2 (by decide))
    · cases hk)
  have g1_ : hm _ _ [A 0, A 11, A 12] [.inl (12, gs), .inr (0, l24), .inr (0, l12)] := hm_set (i := 1) (z2 := .inr (0, l24)) h3 rfl
  have g2_ : hm _ _ [A 0, A 11, A 12] [.inl (12, gs), .inr (0, l24), .inr (0, l26)] := hm_set (i := 2) (z2 := .inr (0, l26)) g1_ rfl
  have g3_ : hm _ _ [A 0, A 11, A 12] [.inl (12, (gs).set 13 (.inr (some (A 18)))), .inr (0, l24), .inr (0, l26)] := hm_set (i := 0) (z2 := .inl (12, (gs).set 13 (.inr (some (A 18))))) g2_ rfl
  have g4_ : hm _ _ [A 0, A 11, A 12] [.inl (12, ((gs).set 13 (.inr (some (A 18)))).set 15 (.inr (some (A 19)))), .inr (0, l24), .inr (0, l26)] := hm_set (i := 0) (z2 := .inl (12, ((gs).set 13 (.inr (some (A 18)))).set 15 (.inr (some (A 19))))) g3_ rfl
  have g5_ : hm _ _ [A 0, A 11, A 12] [.inl (12, (((gs).set 13 (.inr (some (A 18)))).set 15 (.inr (some (A 19)))).set 14 (.inr (some (A 11)))), .inr (0, l24), .inr (0, l26)] := hm_set (i := 0) (z2 := .inl (12, (((gs).set 13 (.inr (some (A 18)))).set 15 (.inr (some (A 19)))).set 14 (.inr (some (A 11))))) g4_ rfl
  have g6_ : hm _ _ [A 0, A 11, A 12] [.inl (12, ((((gs).set 13 (.inr (some (A 18)))).set 15 (.inr (some (A 19)))).set 14 (.inr (some (A 11)))).set 16 (.inr (some (A 12)))), .inr (0, l24), .inr (0, l26)] := hm_set (i := 0) (z2 := .inl (12, ((((gs).set 13 (.inr (some (A 18)))).set 15 (.inr (some (A 19)))).set 14 (.inr (some (A 11)))).set 16 (.inr (some (A 12))))) g5_ rfl
  obtain ⟨hS4, hP4, hL4⟩ := n_begin (rp := rp) (rt := rt) hd hN hG g3 g4 g5 hS hD hc ⟨w24, e24⟩ ⟨w26, e26⟩ g6_
  obtain ⟨H5, y5_, hP5⟩ := t220 (ot := ot) (dp := dp) hd (by omega) hS4 hN hrp hrt hP4
  obtain ⟨gs5, hb5, h95⟩ := hP5.2.2.1
  have hl5 : 62 < gs5.length := by
    rw [h95.1, gN_len]
    exact hl62
  have h5 : hm H5 H5 [A 0] [.inl (12, gs5)] := hm_rf (fun i j x hi hj => by
    rcases i with _ | i
    · rcases j with _ | j
      · rfl
      · cases hj
    · cases hi) rfl (fun k a z hk hz => by
    rcases k with _ | k
    · cases hk
      cases hz
      exact hb5
    · cases hk)
  have g21_ : hm _ _ [A 0] [.inl (12, (gs5).set 13 (.inr (some (A 23))))] := hm_set (i := 0) (z2 := .inl (12, (gs5).set 13 (.inr (some (A 23))))) h5 rfl
  have g22_ : hm _ _ [A 0] [.inl (12, ((gs5).set 13 (.inr (some (A 23)))).set 15 (.inr (some (A 25))))] := hm_set (i := 0) (z2 := .inl (12, ((gs5).set 13 (.inr (some (A 23)))).set 15 (.inr (some (A 25))))) g21_ rfl
  have g23_ : hm _ _ [A 0] [.inl (12, (((gs5).set 13 (.inr (some (A 23)))).set 15 (.inr (some (A 25)))).set 14 (.inr (some (A 24))))] := hm_set (i := 0) (z2 := .inl (12, (((gs5).set 13 (.inr (some (A 23)))).set 15 (.inr (some (A 25)))).set 14 (.inr (some (A 24))))) g22_ rfl
  have g24_ : hm _ _ [A 0] [.inl (12, ((((gs5).set 13 (.inr (some (A 23)))).set 15 (.inr (some (A 25)))).set 14 (.inr (some (A 24)))).set 16 (.inr (some (A 26))))] := hm_set (i := 0) (z2 := .inl (12, ((((gs5).set 13 (.inr (some (A 23)))).set 15 (.inr (some (A 25)))).set 14 (.inr (some (A 24)))).set 16 (.inr (some (A 26))))) g23_ rfl
  refine ⟨_, ?_, _, hm_at g24_ (i := 0) rfl rfl, ?_⟩
  rotate_left
  · rw [List.length_set, List.length_set, List.length_set, List.length_set, h95.1, gN_len]
  refine xT_aload_n g_q222 g222_0 (rfl) ?_
  refine xT_getfield g_q222 g222_1 hA0 rfl hb rfl g13 ?_
  refine xT_astore g_q222 g222_4 (by decide) ?_
  refine xT_aload_n g_q222 g222_6 (lkN (by decide) (rfl)) ?_
  refine xT_getfield g_q222 g222_7 hA0 rfl hb rfl g15 ?_
  refine xT_astore g_q222 g222_10 (by decide) ?_
  refine xT_aload_n g_q222 g222_12 (lkN (by decide) (lkN (by decide) (rfl))) ?_
  refine xT_getfield g_q222 g222_13 hA0 rfl hb rfl g14 ?_
  refine xT_astore g_q222 g222_16 (by decide) ?_
  refine xT_aload_n g_q222 g222_18 (lkN (by decide) (lkN (by decide) (lkN (by decide) (rfl)))) ?_
  refine xT_getfield g_q222 g222_19 hA0 rfl hb rfl g16 ?_
  refine xT_astore g_q222 g222_22 (by decide) ?_
  refine xT_icV (y := nI (0)) g_q222 g222_24 (by decide) ?_
  refine xT_istore g_q222 g222_25 (by decide) ?_
  refine hk _ _ (fun L l0 l1 l2 l3 l4 l5 l6 l7 => ?_)
  · skip
    refine xT_aload g_q222 g222_78 (l6) ?_
    refine xT_icV (y := nI (0)) g_q222 g222_80 (by decide) ?_
    refine xT_aload_n g_q222 g222_81 (l0) ?_
    refine xT_getfield g_q222 g222_82 hA0 rfl (hm_at h3 (i := 0) rfl rfl) rfl g61 ?_
    refine xT_icV (y := nI (0)) g_q222 g222_85 (by decide) ?_
    refine xT_biV (y := nI (12)) g_q222 g222_86 (by decide) ?_
    refine xT_arraycopy g_q222 g222_88 (by decide +kernel) (by decide +kernel) (hm_c h3 c24) (hm_at h3 (i := 1) rfl rfl) (ac4 w24 n11) ?_
    rw [acl w24.1 n11]
    refine xT_aload g_q222 g222_91 (l7) ?_
    refine xT_icV (y := nI (0)) g_q222 g222_93 (by decide) ?_
    refine xT_aload_n g_q222 g222_94 (l0) ?_
    refine xT_getfield g_q222 g222_95 hA0 rfl (hm_at g1_ (i := 0) rfl rfl) rfl g62 ?_
    refine xT_icV (y := nI (0)) g_q222 g222_98 (by decide) ?_
    refine xT_biV (y := nI (12)) g_q222 g222_99 (by decide) ?_
    refine xT_arraycopy g_q222 g222_101 (by decide +kernel) (by decide +kernel) (hm_ro g1_ c26.1 c26.2) (hm_at g1_ (i := 2) rfl rfl) (ac4 w26 n12) ?_
    rw [acl w26.1 n12]
    refine xT_aload_n g_q222 g222_104 (l0) ?_
    refine xT_aload_n g_q222 g222_105 (l0) ?_
    refine xT_getfield g_q222 g222_106 hA0 rfl (hm_at g2_ (i := 0) rfl rfl) rfl g59 ?_
    refine xT_putfield g_q222 g222_109 (ci := 12) (j := 13) rfl (hm_at g2_ (i := 0) rfl rfl) rfl (by rw [decide_eq_true (show 13 < (gs).length from (by omega))]; rfl) ?_
    refine xT_aload_n g_q222 g222_112 (l0) ?_
    refine xT_aload_n g_q222 g222_113 (l0) ?_
    refine xT_getfield g_q222 g222_114 hA0 rfl (hm_at g3_ (i := 0) rfl rfl) rfl (List.getElem?_set_ne (by decide)).trans (g60) ?_
    refine xT_putfield g_q222 g222_117 (ci := 12) (j := 15) rfl (hm_at g3_ (i := 0) rfl rfl) rfl (by rw [decide_eq_true (show 15 < ((gs).set 13 (.inr (some (A 18)))).length from (by rw [List.length_set]; omega))]; rfl) ?_
    refine xT_aload_n g_q222 g222_120 (l0) ?_
    refine xT_aload_n g_q222 g222_121 (l0) ?_
    refine xT_getfield g_q222 g222_122 hA0 rfl (hm_at g4_ (i := 0) rfl rfl) rfl (List.getElem?_set_ne (by decide)).trans ((List.getElem?_set_ne (by decide)).trans (g61)) ?_
    refine xT_putfield g_q222 g222_125 (ci := 12) (j := 14) rfl (hm_at g4_ (i := 0) rfl rfl) rfl (by rw [decide_eq_true (show 14 < (((gs).set 13 (.inr (some (A 18)))).set 15 (.inr (some (A 19)))).length from (by rw [List.length_set, List.length_set]; omega))]; rfl) ?_
    refine xT_aload_n g_q222 g222_128 (l0) ?_
    refine xT_aload_n g_q222 g222_129 (l0) ?_
    refine xT_getfield g_q222 g222_130 hA0 rfl (hm_at g5_ (i := 0) rfl rfl) rfl (List.getElem?_set_ne (by decide)).trans ((List.getElem?_set_ne (by decide)).trans ((List.getElem?_set_ne (by decide)).trans (g62))) ?_
    refine xT_putfield g_q222 g222_133 (ci := 12) (j := 16) rfl (hm_at g5_ (i := 0) rfl rfl) rfl (by rw [decide_eq_true (show 16 < ((((gs).set 13 (.inr (some (A 18)))).set 15 (.inr (some (A 19)))).set 14 (.inr (some (A 11)))).length from (by rw [List.length_set, List.length_set, List.length_set]; omega))]; rfl) ?_
    refine xT_aload_n g_q222 g222_136 (l0) ?_
    refine xT_iload_n g_q222 g222_137 (l1) ?_
    refine xT_iload_n g_q222 g222_138 (l2) ?_
    refine xT_iload_n g_q222 g222_139 (l3) ?_
    refine xT_icV (y := nI (0)) g_q222 g222_140 (by decide) ?_
    refine xT_invokevirtual (r := []) (u := some (.inl ((hrm d rp rt n)))) g_q222 g222_141 (j := 220) (so := 0) (by decide +kernel) g_q220 rfl (by rw [x_rcM hA0 (hm_at g6_ (i := 0) rfl rfl)]; rfl) (y5_) ?_
    refine xT_istore g_q222 g222_144 (by decide) ?_
    refine xT_aload_n g_q222 g222_146 (lkN (by decide) (l0)) ?_
    refine xT_aload g_q222 g222_147 (lkN (by decide) (l4)) ?_
    refine xT_putfield g_q222 g222_149 (ci := 12) (j := 13) rfl (hm_at h5 (i := 0) rfl rfl) rfl (by rw [decide_eq_true (show 13 < (gs5).length from (by omega))]; rfl) ?_
    refine xT_aload_n g_q222 g222_152 (lkN (by decide) (l0)) ?_
    refine xT_aload g_q222 g222_153 (lkN (by decide) (l5)) ?_
    refine xT_putfield g_q222 g222_155 (ci := 12) (j := 15) rfl (hm_at g21_ (i := 0) rfl rfl) rfl (by rw [decide_eq_true (show 15 < ((gs5).set 13 (.inr (some (A 23)))).length from (by rw [List.length_set]; omega))]; rfl) ?_
    refine xT_aload_n g_q222 g222_158 (lkN (by decide) (l0)) ?_
    refine xT_aload g_q222 g222_159 (lkN (by decide) (l6)) ?_
    refine xT_putfield g_q222 g222_161 (ci := 12) (j := 14) rfl (hm_at g22_ (i := 0) rfl rfl) rfl (by rw [decide_eq_true (show 14 < (((gs5).set 13 (.inr (some (A 23)))).set 15 (.inr (some (A 25)))).length from (by rw [List.length_set, List.length_set]; omega))]; rfl) ?_
    refine xT_aload_n g_q222 g222_164 (lkN (by decide) (l0)) ?_
    refine xT_aload g_q222 g222_165 (lkN (by decide) (l7)) ?_
    refine xT_putfield g_q222 g222_167 (ci := 12) (j := 16) rfl (hm_at g23_ (i := 0) rfl rfl) rfl (by rw [decide_eq_true (show 16 < ((((gs5).set 13 (.inr (some (A 23)))).set 15 (.inr (some (A 25)))).set 14 (.inr (some (A 24)))).length from (by rw [List.length_set, List.length_set, List.length_set]; omega))]; rfl) ?_
    refine xT_iload g_q222 g222_170 (lkY) ?_
    exact xT_ireturn g_q222 g222_172 (rfl)
end XH33_56
/-! p33 by hand, 57. -/
noncomputable section XH33_57
variable {ot : XO Int32} {dp : Nat} {H H0 : List (XC Int32)}
/-- the settings of p programs are as at first -/
def fPh (D V : Nat) (K G : List (XC Int32)) (p : Nat) : Prop := (∀ (x : Nat) z, K[x]? = some z → (∀ q, q < 12 → x ≠ D + 1 + q ∧ x ≠ V + 1 + q) → G[x]? = some z) ∧ G.length = K.length ∧ ∀ q, q < 12 → (∃ l : List (XV Int32), G[D + 1 + q]? = some (.inr (0, l)) ∧ l.length = 6 ∧ (q < p → ∀ f, f < 6 → l[f]? = some (.inl (nI 2)))) ∧ ∃ l : List (XV Int32), G[V + 1 + q]? = some (.inr (0, l)) ∧ l.length = 6 ∧ (q < p → ∀ f, f < 6 → l[f]? = some (.inl (-1)))
theorem fPh_s {D V p : Nat} {K G G2 : List (XC Int32)} (h : fPh D V K G p) (hp : p < 12) (hv : V = D + 13) {l1 l2 : List (XV Int32)} (h1 : l1.length = 6 ∧ ∀ f, f < 6 → l1[f]? = some (.inl (nI 2))) (h2 : l2.length = 6 ∧ ∀ f, f < 6 → l2[f]? = some (.inl (-1))) (g : hm G G2 [D + 1 + p, V + 1 + p] [.inr (0, l1), .inr (0, l2)]) : fPh D V K G2 (p + 1) := by
  obtain ⟨a, b, c⟩ := h
  have no : ∀ {x : Nat}, x ≠ D + 1 + p → x ≠ V + 1 + p → ∀ k : Nat, [D + 1 + p, V + 1 + p][k]? ≠ some x := fun a b k hk => by
    rcases k with _ | _ | k
    · cases hk
      exact a rfl
    · cases hk
      exact b rfl
    · cases hk
  refine ⟨fun x z hx hn => hm_ro g (a x z hx hn) (no (hn p hp).1 (hn p hp).2), (hm_len g).trans b, fun q hq => ?_⟩
  obtain ⟨⟨l, e, f, i⟩, ⟨m, j, k, o⟩⟩ := c q hq
  by_cases w : q = p
  · subst w
    exact ⟨⟨_, hm_at g (i := 0) rfl rfl, h1.1, fun _ => h1.2⟩, ⟨_, hm_at g (i := 1) rfl rfl, h2.1, fun _ => h2.2⟩⟩
  · exact ⟨⟨l, hm_ro g e (no (by omega) (by omega)), f, fun z => i (by omega)⟩, ⟨m, hm_ro g j (no (by omega) (by omega)), k, fun z => o (by omega)⟩⟩
theorem t221_l {d : Ld} {A : Nat → Nat} {gs : List (XV Int32)} {D V a2 a3 a4 cn sn : Nat} (hv : V = D + 13) (h0 : A 0 < D) (g3 : gs[3]? = some (.inr (some D))) (g4 : gs[4]? = some (.inr (some V))) {K : List (XC Int32)} (hL : K.length ≤ 1000000) (hb : K[A 0]? = some (.inl (12, gs))) (hKD : K[D]? = some (.inr (5, x_refs (D + 1) 12))) (hKV : K[V]? = some (.inr (5, x_refs (V + 1) 12))) : ∀ (k p : Nat) (G : List (XC Int32)) (L : List (Nat × XV Int32)), p + k = 12 → fPh D V K G p → x_lk L 0 = some (.inr (some (A 0))) → x_lk L 1 = some (.inl ((dYr d))) → x_lk L 2 = some (.inr (some (a2))) → x_lk L 3 = some (.inr (some (a3))) → x_lk L 4 = some (.inr (some (a4))) → x_lk L 5 = some (.inl (nI (p))) → ∃ G', fPh D V K G' 12 ∧ ∀ (v : Option (XV Int32)) (H2 : List (XC Int32)), (∀ L', x_lk L' 0 = some (.inr (some (A 0))) → x_lk L' 1 = some (.inl ((dYr d))) → x_lk L' 2 = some (.inr (some (a2))) → x_lk L' 3 = some (.inr (some (a3))) → x_lk L' 4 = some (.inr (some (a4))) → x_To x_tb x_tyl ot dp 221 112 L' [] G' cn sn v H2) → x_To x_tb x_tyl ot dp 221 61 L [] G cn sn v H2 := by
  have z0 := lt_of hb hL
  have hA0 : ¬ 1000000 < A 0 := by omega
  intro k
  induction k with
  | zero =>
    intro p G L hp hc l0 l1 l2 l3 l4 l5
    obtain rfl : p = 12 := by omega
    refine ⟨G, hc, fun v H2 hk => ?_⟩
    refine xT_iload g_q221 g221_61 (l5) ?_
    refine xT_biV (y := nI (12)) g_q221 g221_63 (by decide) ?_
    refine xT_if_icmpY g_q221 g221_65 (t := 112) (by decide) (c3Y (a := 12) (b := 12) (Nat.le_refl _) (by omega) (by omega)) ?_
    exact hk _ (l0) (l1) (l2) (l3) (l4)
  | succ k ih =>
    intro p G L hp hc l0 l1 l2 l3 l4 l5
    have hp12 : p < 12 := by omega
    obtain ⟨h1, h2, h3⟩ := id hc
    obtain ⟨⟨la_, ca, nla, -⟩, ⟨lb_, cb_, nlb, -⟩⟩ := h3 p hp12
    have no : ∀ {x : Nat}, x ≠ D + 1 + p → x ≠ V + 1 + p → ∀ k : Nat, [D + 1 + p, V + 1 + p][k]? ≠ some x := fun a b k hk => by
      rcases k with _ | _ | k
      · cases hk
        exact a rfl
      · cases hk
        exact b rfl
      · cases hk
    have cb : c3R G [D + 1 + p, V + 1 + p] (A 0) (.inl (12, gs)) := ⟨h1 _ _ hb (fun q hq => ⟨by omega, by omega⟩), no (by omega) (by omega)⟩
    have cD : c3R G [D + 1 + p, V + 1 + p] D (.inr (5, x_refs (D + 1) 12)) := ⟨h1 _ _ hKD (fun q hq => ⟨by omega, by omega⟩), no (by omega) (by omega)⟩
    have cV : c3R G [D + 1 + p, V + 1 + p] V (.inr (5, x_refs (V + 1) 12)) := ⟨h1 _ _ hKV (fun q hq => ⟨by omega, by omega⟩), no (by omega) (by omega)⟩
    have g0 : hm G G [D + 1 + p, V + 1 + p] [.inr (0, la_), .inr (0, lb_)] := hm_rf (fun i j x hi hj => by
      rcases i with _ | _ | i
      · rcases j with _ | _ | j
        · rfl
        · cases hi
          injection hj with hj
          omega
        · cases hj
      · rcases j with _ | _ | j
        · cases hi
          injection hj with hj
          omega
        · rfl
        · cases hj
      · cases hi) rfl (fun k a z hk hz => by
      rcases k with _ | _ | k
      · cases hk
        cases hz
        exact ca
      · cases hk
        cases hz
        exact cb_
      · cases hk)
    have g1_ : hm H0 _ [D + 1 + p, V + 1 + p] [.inr (0, (la_).set (0) (.inl (nI (2)))), .inr (0, lb_)] := hm_set (i := 0) (z2 := .inr (0, (la_).set (0) (.inl (nI (2))))) g0 rfl
    have g2_ : hm H0 _ [D + 1 + p, V + 1 + p] [.inr (0, (la_).set (0) (.inl (nI (2)))), .inr (0, (lb_).set (0) (.inl (-1)))] := hm_set (i := 1) (z2 := .inr (0, (lb_).set (0) (.inl (-1)))) g1_ rfl
    have g3_ : hm H0 _ [D + 1 + p, V + 1 + p] [.inr (0, ((la_).set (0) (.inl (nI (2)))).set (0 + 1) (.inl (nI (2)))), .inr (0, (lb_).set (0) (.inl (-1)))] := hm_set (i := 0) (z2 := .inr (0, ((la_).set (0) (.inl (nI (2)))).set (0 + 1) (.inl (nI (2))))) g2_ rfl
    have g4_ : hm H0 _ [D + 1 + p, V + 1 + p] [.inr (0, ((la_).set (0) (.inl (nI (2)))).set (0 + 1) (.inl (nI (2)))), .inr (0, ((lb_).set (0) (.inl (-1))).set (0 + 1) (.inl (-1)))] := hm_set (i := 1) (z2 := .inr (0, ((lb_).set (0) (.inl (-1))).set (0 + 1) (.inl (-1)))) g3_ rfl
    have g5_ : hm H0 _ [D + 1 + p, V + 1 + p] [.inr (0, (((la_).set (0) (.inl (nI (2)))).set (0 + 1) (.inl (nI (2)))).set (0 + 1 + 1) (.inl (nI (2)))), .inr (0, ((lb_).set (0) (.inl (-1))).set (0 + 1) (.inl (-1)))] := hm_set (i := 0) (z2 := .inr (0, (((la_).set (0) (.inl (nI (2)))).set (0 + 1) (.inl (nI (2)))).set (0 + 1 + 1) (.inl (nI (2))))) g4_ rfl
    have g6_ : hm H0 _ [D + 1 + p, V + 1 + p] [.inr (0, (((la_).set (0) (.inl (nI (2)))).set (0 + 1) (.inl (nI (2)))).set (0 + 1 + 1) (.inl (nI (2)))), .inr (0, (((lb_).set (0) (.inl (-1))).set (0 + 1) (.inl (-1))).set (0 + 1 + 1) (.inl (-1)))] := hm_set (i := 1) (z2 := .inr (0, (((lb_).set (0) (.inl (-1))).set (0 + 1) (.inl (-1))).set (0 + 1 + 1) (.inl (-1)))) g5_ rfl
    have g7_ : hm H0 _ [D + 1 + p, V + 1 + p] [.inr (0, ((((la_).set (0) (.inl (nI (2)))).set (0 + 1) (.inl (nI (2)))).set (0 + 1 + 1) (.inl (nI (2)))).set (0 + 1 + 1 + 1) (.inl (nI (2)))), .inr (0, (((lb_).set (0) (.inl (-1))).set (0 + 1) (.inl (-1))).set (0 + 1 + 1) (.inl (-1)))] := hm_set (i := 0) (z2 := .inr (0, ((((la_).set (0) (.inl (nI (2)))).set (0 + 1) (.inl (nI (2)))).set (0 + 1 + 1) (.inl (nI (2)))).set (0 + 1 + 1 + 1) (.inl (nI (2))))) g6_ rfl
    have g8_ : hm H0 _ [D + 1 + p, V + 1 + p] [.inr (0, ((((la_).set (0) (.inl (nI (2)))).set (0 + 1) (.inl (nI (2)))).set (0 + 1 + 1) (.inl (nI (2)))).set (0 + 1 + 1 + 1) (.inl (nI (2)))), .inr (0, ((((lb_).set (0) (.inl (-1))).set (0 + 1) (.inl (-1))).set (0 + 1 + 1) (.inl (-1))).set (0 + 1 + 1 + 1) (.inl (-1)))] := hm_set (i := 1) (z2 := .inr (0, ((((lb_).set (0) (.inl (-1))).set (0 + 1) (.inl (-1))).set (0 + 1 + 1) (.inl (-1))).set (0 + 1 + 1 + 1) (.inl (-1)))) g7_ rfl
    have g9_ : hm H0 _ [D + 1 + p, V + 1 + p] [.inr (0, (((((la_).set (0) (.inl (nI (2)))).set (0 + 1) (.inl (nI (2)))).set (0 + 1 + 1) (.inl (nI (2)))).set (0 + 1 + 1 + 1) (.inl (nI (2)))).set (0 + 1 + 1 + 1 + 1) (.inl (nI (2)))), .inr (0, ((((lb_).set (0) (.inl (-1))).set (0 + 1) (.inl (-1))).set (0 + 1 + 1) (.inl (-1))).set (0 + 1 + 1 + 1) (.inl (-1)))] := hm_set (i := 0) (z2 := .inr (0, (((((la_).set (0) (.inl (nI (2)))).set (0 + 1) (.inl (nI (2)))).set (0 + 1 + 1) (.inl (nI (2)))).set (0 + 1 + 1 + 1) (.inl (nI (2)))).set (0 + 1 + 1 + 1 + 1) (.inl (nI (2))))) g8_ rfl
    have g10_ : hm H0 _ [D + 1 + p, V + 1 + p] [.inr (0, (((((la_).set (0) (.inl (nI (2)))).set (0 + 1) (.inl (nI (2)))).set (0 + 1 + 1) (.inl (nI (2)))).set (0 + 1 + 1 + 1) (.inl (nI (2)))).set (0 + 1 + 1 + 1 + 1) (.inl (nI (2)))), .inr (0, (((((lb_).set (0) (.inl (-1))).set (0 + 1) (.inl (-1))).set (0 + 1 + 1) (.inl (-1))).set (0 + 1 + 1 + 1) (.inl (-1))).set (0 + 1 + 1 + 1 + 1) (.inl (-1)))] := hm_set (i := 1) (z2 := .inr (0, (((((lb_).set (0) (.inl (-1))).set (0 + 1) (.inl (-1))).set (0 + 1 + 1) (.inl (-1))).set (0 + 1 + 1 + 1) (.inl (-1))).set (0 + 1 + 1 + 1 + 1) (.inl (-1)))) g9_ rfl
    have g11_ : hm H0 _ [D + 1 + p, V + 1 + p] [.inr (0, ((((((la_).set (0) (.inl (nI (2)))).set (0 + 1) (.inl (nI (2)))).set (0 + 1 + 1) (.inl (nI (2)))).set (0 + 1 + 1 + 1) (.inl (nI (2)))).set (0 + 1 + 1 + 1 + 1) (.inl (nI (2)))).set (0 + 1 + 1 + 1 + 1 + 1) (.inl (nI (2)))), .inr (0, (((((lb_).set (0) (.inl (-1))).set (0 + 1) (.inl (-1))).set (0 + 1 + 1) (.inl (-1))).set (0 + 1 + 1 + 1) (.inl (-1))).set (0 + 1 + 1 + 1 + 1) (.inl (-1)))] := hm_set (i := 0) (z2 := .inr (0, ((((((la_).set (0) (.inl (nI (2)))).set (0 + 1) (.inl (nI (2)))).set (0 + 1 + 1) (.inl (nI (2)))).set (0 + 1 + 1 + 1) (.inl (nI (2)))).set (0 + 1 + 1 + 1 + 1) (.inl (nI (2)))).set (0 + 1 + 1 + 1 + 1 + 1) (.inl (nI (2))))) g10_ rfl
    have g12_ : hm H0 _ [D + 1 + p, V + 1 + p] [.inr (0, ((((((la_).set (0) (.inl (nI (2)))).set (0 + 1) (.inl (nI (2)))).set (0 + 1 + 1) (.inl (nI (2)))).set (0 + 1 + 1 + 1) (.inl (nI (2)))).set (0 + 1 + 1 + 1 + 1) (.inl (nI (2)))).set (0 + 1 + 1 + 1 + 1 + 1) (.inl (nI (2)))), .inr (0, ((((((lb_).set (0) (.inl (-1))).set (0 + 1) (.inl (-1))).set (0 + 1 + 1) (.inl (-1))).set (0 + 1 + 1 + 1) (.inl (-1))).set (0 + 1 + 1 + 1 + 1) (.inl (-1))).set (0 + 1 + 1 + 1 + 1 + 1) (.inl (-1)))] := hm_set (i := 1) (z2 := .inr (0, ((((((lb_).set (0) (.inl (-1))).set (0 + 1) (.inl (-1))).set (0 + 1 + 1) (.inl (-1))).set (0 + 1 + 1 + 1) (.inl (-1))).set (0 + 1 + 1 + 1 + 1) (.inl (-1))).set (0 + 1 + 1 + 1 + 1 + 1) (.inl (-1)))) g11_ rfl
    obtain ⟨G', x1, x2⟩ := ih (p + 1) _ (x_st (x_st (x_st (x_st (x_st (x_st (x_st (x_st (L) 6 (.inl (nI (0)))) 6 (.inl (nI (0 + 1)))) 6 (.inl (nI (0 + 1 + 1)))) 6 (.inl (nI (0 + 1 + 1 + 1)))) 6 (.inl (nI (0 + 1 + 1 + 1 + 1)))) 6 (.inl (nI (0 + 1 + 1 + 1 + 1 + 1)))) 6 (.inl (nI (0 + 1 + 1 + 1 + 1 + 1 + 1)))) 5 (.inl (nI (p + 1)))) (by omega) (fPh_s hc hp12 hv ⟨by rw [List.length_set, List.length_set, List.length_set, List.length_set, List.length_set, List.length_set]; exact nla, six_v nla⟩ ⟨by rw [List.length_set, List.length_set, List.length_set, List.length_set, List.length_set, List.length_set]; exact nlb, six_v nlb⟩ g12_) (lkN (by decide) (lkN (by decide) (lkN (by decide) (lkN (by decide) (lkN (by decide) (lkN (by decide) (lkN (by decide) (lkN (by decide) (l0))))))))) (lkN (by decide) (lkN (by decide) (lkN (by decide) (lkN (by decide) (lkN (by decide) (lkN (by decide) (lkN (by decide) (lkN (by decide) (l1))))))))) (lkN (by decide) (lkN (by decide) (lkN (by decide) (lkN (by decide) (lkN (by decide) (lkN (by decide) (lkN (by decide) (lkN (by decide) (l2))))))))) (lkN (by decide) (lkN (by decide) (lkN (by decide) (lkN (by decide) (lkN (by decide) (lkN (by decide) (lkN (by decide) (lkN (by decide) (l3))))))))) (lkN (by decide) (lkN (by decide) (lkN (by decide) (lkN (by decide) (lkN (by decide) (lkN (by decide) (lkN (by decide) (lkN (by decide) (l4))))))))) (lkY)
    refine ⟨G', x1, fun v H2 hk => ?_⟩
    refine xT_iload g_q221 g221_61 (l5) ?_
    refine xT_biV (y := nI (12)) g_q221 g221_63 (by decide) ?_
    refine xT_if_icmpN g_q221 g221_65 (t := 112) (by decide) (c3N (a := p) (b := 12) (by omega) (by omega) (by omega)) ?_
    refine xT_icV (y := nI (0)) g_q221 g221_68 (by decide) ?_
    refine xT_istore g_q221 g221_69 (by decide) ?_
    refine xT_iload g_q221 g221_71 (lkY) ?_
    refine xT_biV (y := nI (6)) g_q221 g221_73 (by decide) ?_
    refine xT_if_icmpN g_q221 g221_75 (t := 106) (by decide) (c3N (a := 0) (b := 6) (by omega) (by omega) (by omega)) ?_
    refine xT_aload_n g_q221 g221_78 (lkN (by decide) (l0)) ?_
    refine xT_getfield g_q221 g221_79 hA0 rfl (hm_c g0 cb) rfl g3 ?_
    refine xT_iload g_q221 g221_82 (lkN (by decide) (l5)) ?_
    refine xT_aaload g_q221 g221_84 (by decide +kernel) (hm_c g0 cD) (ixN (n := 12) (by omega) (xr_len 12 _)) (ixG (by omega) ((xr_get 12 _ p).trans (if_pos hp12))) ?_
    refine xT_iload g_q221 g221_85 (lkY) ?_
    refine xT_icV (y := nI (2)) g_q221 g221_87 (by decide) ?_
    refine xT_iastore g_q221 g221_88 (hm_at g0 (i := 0) rfl rfl) (ixN (n := 6) (by omega) nla) ?_
    rw [nI_clamp (by omega)]
    refine xT_aload_n g_q221 g221_89 (lkN (by decide) (l0)) ?_
    refine xT_getfield g_q221 g221_90 hA0 rfl (hm_c g1_ cb) rfl g4 ?_
    refine xT_iload g_q221 g221_93 (lkN (by decide) (l5)) ?_
    refine xT_aaload g_q221 g221_95 (by decide +kernel) (hm_c g1_ cV) (ixN (n := 12) (by omega) (xr_len 12 _)) (ixG (by omega) ((xr_get 12 _ p).trans (if_pos hp12))) ?_
    refine xT_iload g_q221 g221_96 (lkY) ?_
    refine xT_icV (y := -1) g_q221 g221_98 (by decide) ?_
    refine xT_iastore g_q221 g221_99 (hm_at g1_ (i := 1) rfl rfl) (ixN (n := 6) (by omega) nlb) ?_
    rw [nI_clamp (by omega)]
    refine xT_iincV (y := nI (0 + 1)) g_q221 g221_100 (lkY) (by decide) (bIncN _) ?_
    refine xT_goto g_q221 g221_103 (t := 71) (by decide) ?_
    refine xT_iload g_q221 g221_71 (lkY) ?_
    refine xT_biV (y := nI (6)) g_q221 g221_73 (by decide) ?_
    refine xT_if_icmpN g_q221 g221_75 (t := 106) (by decide) (c3N (a := 0 + 1) (b := 6) (by omega) (by omega) (by omega)) ?_
    refine xT_aload_n g_q221 g221_78 (lkN (by decide) (lkN (by decide) (l0))) ?_
    refine xT_getfield g_q221 g221_79 hA0 rfl (hm_c g2_ cb) rfl g3 ?_
    refine xT_iload g_q221 g221_82 (lkN (by decide) (lkN (by decide) (l5))) ?_
    refine xT_aaload g_q221 g221_84 (by decide +kernel) (hm_c g2_ cD) (ixN (n := 12) (by omega) (xr_len 12 _)) (ixG (by omega) ((xr_get 12 _ p).trans (if_pos hp12))) ?_
    refine xT_iload g_q221 g221_85 (lkY) ?_
    refine xT_icV (y := nI (2)) g_q221 g221_87 (by decide) ?_
    refine xT_iastore g_q221 g221_88 (hm_at g2_ (i := 0) rfl rfl) (ixN (n := 6) (by omega) (by rw [List.length_set]; exact nla)) ?_
    rw [nI_clamp (by omega)]
    refine xT_aload_n g_q221 g221_89 (lkN (by decide) (lkN (by decide) (l0))) ?_
    refine xT_getfield g_q221 g221_90 hA0 rfl (hm_c g3_ cb) rfl g4 ?_
    refine xT_iload g_q221 g221_93 (lkN (by decide) (lkN (by decide) (l5))) ?_
    refine xT_aaload g_q221 g221_95 (by decide +kernel) (hm_c g3_ cV) (ixN (n := 12) (by omega) (xr_len 12 _)) (ixG (by omega) ((xr_get 12 _ p).trans (if_pos hp12))) ?_
    refine xT_iload g_q221 g221_96 (lkY) ?_
    refine xT_icV (y := -1) g_q221 g221_98 (by decide) ?_
    refine xT_iastore g_q221 g221_99 (hm_at g3_ (i := 1) rfl rfl) (ixN (n := 6) (by omega) (by rw [List.length_set]; exact nlb)) ?_
    rw [nI_clamp (by omega)]
    refine xT_iincV (y := nI (0 + 1 + 1)) g_q221 g221_100 (lkY) (by decide) (bIncN _) ?_
    refine xT_goto g_q221 g221_103 (t := 71) (by decide) ?_
    refine xT_iload g_q221 g221_71 (lkY) ?_
    refine xT_biV (y := nI (6)) g_q221 g221_73 (by decide) ?_
    refine xT_if_icmpN g_q221 g221_75 (t := 106) (by decide) (c3N (a := 0 + 1 + 1) (b := 6) (by omega) (by omega) (by omega)) ?_
    refine xT_aload_n g_q221 g221_78 (lkN (by decide) (lkN (by decide) (lkN (by decide) (l0)))) ?_
    refine xT_getfield g_q221 g221_79 hA0 rfl (hm_c g4_ cb) rfl g3 ?_
    refine xT_iload g_q221 g221_82 (lkN (by decide) (lkN (by decide) (lkN (by decide) (l5)))) ?_
    refine xT_aaload g_q221 g221_84 (by decide +kernel) (hm_c g4_ cD) (ixN (n := 12) (by omega) (xr_len 12 _)) (ixG (by omega) ((xr_get 12 _ p).trans (if_pos hp12))) ?_
    refine xT_iload g_q221 g221_85 (lkY) ?_
    refine xT_icV (y := nI (2)) g_q221 g221_87 (by decide) ?_
    refine xT_iastore g_q221 g221_88 (hm_at g4_ (i := 0) rfl rfl) (ixN (n := 6) (by omega) (by rw [List.length_set, List.length_set]; exact nla)) ?_
    rw [nI_clamp (by omega)]
    refine xT_aload_n g_q221 g221_89 (lkN (by decide) (lkN (by decide) (lkN (by decide) (l0)))) ?_
    refine xT_getfield g_q221 g221_90 hA0 rfl (hm_c g5_ cb) rfl g4 ?_
    refine xT_iload g_q221 g221_93 (lkN (by decide) (lkN (by decide) (lkN (by decide) (l5)))) ?_
    refine xT_aaload g_q221 g221_95 (by decide +kernel) (hm_c g5_ cV) (ixN (n := 12) (by omega) (xr_len 12 _)) (ixG (by omega) ((xr_get 12 _ p).trans (if_pos hp12))) ?_
    refine xT_iload g_q221 g221_96 (lkY) ?_
    refine xT_icV (y := -1) g_q221 g221_98 (by decide) ?_
    refine xT_iastore g_q221 g221_99 (hm_at g5_ (i := 1) rfl rfl) (ixN (n := 6) (by omega) (by rw [List.length_set, List.length_set]; exact nlb)) ?_
    rw [nI_clamp (by omega)]
    refine xT_iincV (y := nI (0 + 1 + 1 + 1)) g_q221 g221_100 (lkY) (by decide) (bIncN _) ?_
    refine xT_goto g_q221 g221_103 (t := 71) (by decide) ?_
    refine xT_iload g_q221 g221_71 (lkY) ?_
    refine xT_biV (y := nI (6)) g_q221 g221_73 (by decide) ?_
    refine xT_if_icmpN g_q221 g221_75 (t := 106) (by decide) (c3N (a := 0 + 1 + 1 + 1) (b := 6) (by omega) (by omega) (by omega)) ?_
    refine xT_aload_n g_q221 g221_78 (lkN (by decide) (lkN (by decide) (lkN (by decide) (lkN (by decide) (l0))))) ?_
    refine xT_getfield g_q221 g221_79 hA0 rfl (hm_c g6_ cb) rfl g3 ?_
    refine xT_iload g_q221 g221_82 (lkN (by decide) (lkN (by decide) (lkN (by decide) (lkN (by decide) (l5))))) ?_
    refine xT_aaload g_q221 g221_84 (by decide +kernel) (hm_c g6_ cD) (ixN (n := 12) (by omega) (xr_len 12 _)) (ixG (by omega) ((xr_get 12 _ p).trans (if_pos hp12))) ?_
    refine xT_iload g_q221 g221_85 (lkY) ?_
    refine xT_icV (y := nI (2)) g_q221 g221_87 (by decide) ?_
    refine xT_iastore g_q221 g221_88 (hm_at g6_ (i := 0) rfl rfl) (ixN (n := 6) (by omega) (by rw [List.length_set, List.length_set, List.length_set]; exact nla)) ?_
    rw [nI_clamp (by omega)]
    refine xT_aload_n g_q221 g221_89 (lkN (by decide) (lkN (by decide) (lkN (by decide) (lkN (by decide) (l0))))) ?_
    refine xT_getfield g_q221 g221_90 hA0 rfl (hm_c g7_ cb) rfl g4 ?_
    refine xT_iload g_q221 g221_93 (lkN (by decide) (lkN (by decide) (lkN (by decide) (lkN (by decide) (l5))))) ?_
    refine xT_aaload g_q221 g221_95 (by decide +kernel) (hm_c g7_ cV) (ixN (n := 12) (by omega) (xr_len 12 _)) (ixG (by omega) ((xr_get 12 _ p).trans (if_pos hp12))) ?_
    refine xT_iload g_q221 g221_96 (lkY) ?_
    refine xT_icV (y := -1) g_q221 g221_98 (by decide) ?_
    refine xT_iastore g_q221 g221_99 (hm_at g7_ (i := 1) rfl rfl) (ixN (n := 6) (by omega) (by rw [List.length_set, List.length_set, List.length_set]; exact nlb)) ?_
    rw [nI_clamp (by omega)]
    refine xT_iincV (y := nI (0 + 1 + 1 + 1 + 1)) g_q221 g221_100 (lkY) (by decide) (bIncN _) ?_
    refine xT_goto g_q221 g221_103 (t := 71) (by decide) ?_
    refine xT_iload g_q221 g221_71 (lkY) ?_
    refine xT_biV (y := nI (6)) g_q221 g221_73 (by decide) ?_
    refine xT_if_icmpN g_q221 g221_75 (t := 106) (by decide) (c3N (a := 0 + 1 + 1 + 1 + 1) (b := 6) (by omega) (by omega) (by omega)) ?_
    refine xT_aload_n g_q221 g221_78 (lkN (by decide) (lkN (by decide) (lkN (by decide) (lkN (by decide) (lkN (by decide) (l0)))))) ?_
    refine xT_getfield g_q221 g221_79 hA0 rfl (hm_c g8_ cb) rfl g3 ?_
    refine xT_iload g_q221 g221_82 (lkN (by decide) (lkN (by decide) (lkN (by decide) (lkN (by decide) (lkN (by decide) (l5)))))) ?_
    refine xT_aaload g_q221 g221_84 (by decide +kernel) (hm_c g8_ cD) (ixN (n := 12) (by omega) (xr_len 12 _)) (ixG (by omega) ((xr_get 12 _ p).trans (if_pos hp12))) ?_
    refine xT_iload g_q221 g221_85 (lkY) ?_
    refine xT_icV (y := nI (2)) g_q221 g221_87 (by decide) ?_
    refine xT_iastore g_q221 g221_88 (hm_at g8_ (i := 0) rfl rfl) (ixN (n := 6) (by omega) (by rw [List.length_set, List.length_set, List.length_set, List.length_set]; exact nla)) ?_
    rw [nI_clamp (by omega)]
    refine xT_aload_n g_q221 g221_89 (lkN (by decide) (lkN (by decide) (lkN (by decide) (lkN (by decide) (lkN (by decide) (l0)))))) ?_
    refine xT_getfield g_q221 g221_90 hA0 rfl (hm_c g9_ cb) rfl g4 ?_
    refine xT_iload g_q221 g221_93 (lkN (by decide) (lkN (by decide) (lkN (by decide) (lkN (by decide) (lkN (by decide) (l5)))))) ?_
    refine xT_aaload g_q221 g221_95 (by decide +kernel) (hm_c g9_ cV) (ixN (n := 12) (by omega) (xr_len 12 _)) (ixG (by omega) ((xr_get 12 _ p).trans (if_pos hp12))) ?_
    refine xT_iload g_q221 g221_96 (lkY) ?_
    refine xT_icV (y := -1) g_q221 g221_98 (by decide) ?_
    refine xT_iastore g_q221 g221_99 (hm_at g9_ (i := 1) rfl rfl) (ixN (n := 6) (by omega) (by rw [List.length_set, List.length_set, List.length_set, List.length_set]; exact nlb)) ?_
    rw [nI_clamp (by omega)]
    refine xT_iincV (y := nI (0 + 1 + 1 + 1 + 1 + 1)) g_q221 g221_100 (lkY) (by decide) (bIncN _) ?_
    refine xT_goto g_q221 g221_103 (t := 71) (by decide) ?_
    refine xT_iload g_q221 g221_71 (lkY) ?_
    refine xT_biV (y := nI (6)) g_q221 g221_73 (by decide) ?_
    refine xT_if_icmpN g_q221 g221_75 (t := 106) (by decide) (c3N (a := 0 + 1 + 1 + 1 + 1 + 1) (b := 6) (by omega) (by omega) (by omega)) ?_
    refine xT_aload_n g_q221 g221_78 (lkN (by decide) (lkN (by decide) (lkN (by decide) (lkN (by decide) (lkN (by decide) (lkN (by decide) (l0))))))) ?_
    refine xT_getfield g_q221 g221_79 hA0 rfl (hm_c g10_ cb) rfl g3 ?_
    refine xT_iload g_q221 g221_82 (lkN (by decide) (lkN (by decide) (lkN (by decide) (lkN (by decide) (lkN (by decide) (lkN (by decide) (l5))))))) ?_
    refine xT_aaload g_q221 g221_84 (by decide +kernel) (hm_c g10_ cD) (ixN (n := 12) (by omega) (xr_len 12 _)) (ixG (by omega) ((xr_get 12 _ p).trans (if_pos hp12))) ?_
    refine xT_iload g_q221 g221_85 (lkY) ?_
    refine xT_icV (y := nI (2)) g_q221 g221_87 (by decide) ?_
    refine xT_iastore g_q221 g221_88 (hm_at g10_ (i := 0) rfl rfl) (ixN (n := 6) (by omega) (by rw [List.length_set, List.length_set, List.length_set, List.length_set, List.length_set]; exact nla)) ?_
    rw [nI_clamp (by omega)]
    refine xT_aload_n g_q221 g221_89 (lkN (by decide) (lkN (by decide) (lkN (by decide) (lkN (by decide) (lkN (by decide) (lkN (by decide) (l0))))))) ?_
    refine xT_getfield g_q221 g221_90 hA0 rfl (hm_c g11_ cb) rfl g4 ?_
    refine xT_iload g_q221 g221_93 (lkN (by decide) (lkN (by decide) (lkN (by decide) (lkN (by decide) (lkN (by decide) (lkN (by decide) (l5))))))) ?_
    refine xT_aaload g_q221 g221_95 (by decide +kernel) (hm_c g11_ cV) (ixN (n := 12) (by omega) (xr_len 12 _)) (ixG (by omega) ((xr_get 12 _ p).trans (if_pos hp12))) ?_
    refine xT_iload g_q221 g221_96 (lkY) ?_
    refine xT_icV (y := -1) g_q221 g221_98 (by decide) ?_
    refine xT_iastore g_q221 g221_99 (hm_at g11_ (i := 1) rfl rfl) (ixN (n := 6) (by omega) (by rw [List.length_set, List.length_set, List.length_set, List.length_set, List.length_set]; exact nlb)) ?_
    rw [nI_clamp (by omega)]
    refine xT_iincV (y := nI (0 + 1 + 1 + 1 + 1 + 1 + 1)) g_q221 g221_100 (lkY) (by decide) (bIncN _) ?_
    refine xT_goto g_q221 g221_103 (t := 71) (by decide) ?_
    refine xT_iload g_q221 g221_71 (lkY) ?_
    refine xT_biV (y := nI (6)) g_q221 g221_73 (by decide) ?_
    refine xT_if_icmpY g_q221 g221_75 (t := 106) (by decide) (c3Y (a := 0 + 1 + 1 + 1 + 1 + 1 + 1) (b := 6) (by omega) (by omega) (by omega)) ?_
    refine xT_iincV (y := nI (p + 1)) g_q221 g221_106 (lkN (by decide) (lkN (by decide) (lkN (by decide) (lkN (by decide) (lkN (by decide) (lkN (by decide) (lkN (by decide) (l5)))))))) (by decide) (bIncN _) ?_
    refine xT_goto g_q221 g221_109 (t := 61) (by decide) ?_
    exact x2 v H2 hk
end XH33_57
/-! p33 by hand, 58. -/
noncomputable section XH33_58
variable {ot : XO Int32} {dp : Nat} {H H0 : List (XC Int32)}
theorem t221n {a : Nat} {y : Int32} (hy : y < nI 1900 ∨ nI 2099 < y) : x_To x_tb x_tyl ot (dp + 8) 221 0 (x_en 0 [.inr (some (a)), .inl (y)]) [] H 0 0 (some (.inl (-2))) H := by
  refine xT_iload_n g_q221 g221_0 (rfl) ?_
  refine xT_invokestatic (r := []) (u := some (.inl (nI (0)))) g_q221 g221_1 (j := 196) (so := 2) (by decide +kernel) g_q196 (rfl) (t196N (dp := dp + 6) hy) ?_
  refine xT_ifCondN g_q221 g221_4 (t := 10) (by decide) (c1N (a := 0) (b := 0) rfl) ?_
  refine xT_biV (y := -2) g_q221 g221_7 (by decide) ?_
  exact xT_ireturn g_q221 g221_9 (rfl)
theorem t221 {n : Nat} {d : Ld} {A FR TR FS TS : Nat → Nat} {WL : List Nat} {rp rt : Nat → rS} {gs : List (XV Int32)} {col : Nat → Nat} {lF lT : Nat → List (XV Int32)} {D0 V0 U0 : Nat} (hd : dOk n d) (hN : mNe A FR TR WL col) (hG : mG n A gs) (hrp : rdP d rp) (hrt : rdT d rt) (q3 : gs[3]? = some (.inr (some D0))) (q4 : gs[4]? = some (.inr (some V0))) (q5 : gs[5]? = some (.inr (some U0))) {H : List (XC Int32)} (hL : H.length + 27 ≤ 1000000) (hS : mS0 n d A FR TR FS TS lF lT WL H) (hb : H[A 0]? = some (.inl (12, gs))) (hWL : ∀ x, x ∈ WL → x < H.length) (hy1 : ¬ dYr d < nI 1900) (hy2 : ¬ nI 2099 < dYr d) : ∃ H2, x_To x_tb x_tyl ot (dp + 8) 221 0 (x_en 0 [.inr (some (A 0)), .inl ((dYr d))]) [] H 0 0 (some (.inl (hrm d rp rt n))) H2 := by
  obtain ⟨hl62, q0, hg⟩ := id hG
  have z0 := (List.getElem?_eq_some_iff.mp hb).1
  have hA0 : ¬ 1000000 < A 0 := by omega
  have k0 := hN.1 0 (by decide)
  have f1 := al_heap (X := H) (m := H.length) (rows := x_rows 0 (List.replicate 6 (.inl 0)) 12) (z := .inr (5, x_refs (H.length + 1) 12)) (z1 := .inl (12, gs.set 3 (.inr (some H.length)))) rfl hb
  generalize e1 : (H ++ .inr (5, x_refs (H.length + 1) 12) :: x_rows 0 (List.replicate 6 (.inl 0)) 12).set (A 0) (.inl (12, gs.set 3 (.inr (some H.length)))) = K1 at f1
  obtain ⟨l1, b1, r1, o1, w1⟩ := f1
  rw [xrow_len] at l1
  have l1 : K1.length = H.length + 13 := l1
  have f2 := al_heap (X := K1) (m := H.length + 13) (rows := x_rows 0 (List.replicate 6 (.inl 0)) 12) (z := .inr (5, x_refs (H.length + 13 + 1) 12)) (z1 := .inl (12, (gs.set 3 (.inr (some H.length))).set 4 (.inr (some (H.length + 13))))) l1 b1
  generalize e2 : (K1 ++ .inr (5, x_refs (H.length + 13 + 1) 12) :: x_rows 0 (List.replicate 6 (.inl 0)) 12).set (A 0) (.inl (12, (gs.set 3 (.inr (some H.length))).set 4 (.inr (some (H.length + 13))))) = K2 at f2
  obtain ⟨l2, b2, r2, o2, w2⟩ := f2
  rw [xrow_len] at l2
  have l2 : K2.length = H.length + 26 := l2
  have f3 := al_heap (X := K2) (m := H.length + 26) (rows := []) (z := .inr (0, List.replicate 12 (.inl 0))) (z1 := .inl (12, ((gs.set 3 (.inr (some H.length))).set 4 (.inr (some (H.length + 13)))).set 5 (.inr (some (H.length + 26))))) l2 b2
  generalize e3 : (K2 ++ [.inr (0, List.replicate 12 (.inl 0))]).set (A 0) (.inl (12, ((gs.set 3 (.inr (some H.length))).set 4 (.inr (some (H.length + 13)))).set 5 (.inr (some (H.length + 26))))) = K3 at f3
  obtain ⟨l3, b3, r3, o3, -⟩ := f3
  have l3 : K3.length = H.length + 27 := l3
  have t3 : ∀ x, x < H.length → x ≠ A 0 → K3[x]? = H[x]? := fun x hx hn => by rw [r3 x (by omega) hn, r2 x (by omega) hn, r1 x hx hn]
  have u3 : ∀ x, x < H.length + 13 → x ≠ A 0 → K3[x]? = K1[x]? := fun x hx hn => by rw [r3 x (by omega) hn, r2 x (by omega) hn]
  have hKD : K3[H.length]? = some (.inr (5, x_refs (H.length + 1) 12)) := (u3 _ (by omega) (by omega)).trans o1
  have hKV : K3[H.length + 13]? = some (.inr (5, x_refs (H.length + 13 + 1) 12)) := (r3 _ (by omega) (by omega)).trans o2
  have rD : ∀ q, q < 12 → K3[H.length + 1 + q]? = some (.inr (0, List.replicate 6 (.inl 0))) := fun q hq => by
    rw [u3 _ (by omega) (by omega), w1 q, xrow_get, if_pos hq]
  have rV_ : ∀ q, q < 12 → K3[H.length + 13 + 1 + q]? = some (.inr (0, List.replicate 6 (.inl 0))) := fun q hq => by
    rw [r3 _ (by omega) (by omega), w2 q, xrow_get, if_pos hq]
  have gl3 : (((gs.set 3 (.inr (some H.length))).set 4 (.inr (some (H.length + 13)))).set 5 (.inr (some (H.length + 26)))).length = gs.length := by rw [List.length_set, List.length_set, List.length_set]
  have gne3 : ∀ {j : Nat}, j ≠ 3 ∧ j ≠ 4 ∧ j ≠ 5 → (((gs.set 3 (.inr (some H.length))).set 4 (.inr (some (H.length + 13)))).set 5 (.inr (some (H.length + 26))))[j]? = gs[j]? := fun h => by
    rw [List.getElem?_set_ne (by omega), List.getElem?_set_ne (by omega), List.getElem?_set_ne (by omega)]
  have g3 : (((gs.set 3 (.inr (some H.length))).set 4 (.inr (some (H.length + 13)))).set 5 (.inr (some (H.length + 26))))[3]? = some (.inr (some H.length)) := by
    rw [List.getElem?_set_ne (by decide), List.getElem?_set_ne (by decide)]
    exact List.getElem?_set_self (by omega)
  have g4 : (((gs.set 3 (.inr (some H.length))).set 4 (.inr (some (H.length + 13)))).set 5 (.inr (some (H.length + 26))))[4]? = some (.inr (some (H.length + 13))) := by
    rw [List.getElem?_set_ne (by decide)]
    exact List.getElem?_set_self (by rw [List.length_set]; omega)
  have g5 : (((gs.set 3 (.inr (some H.length))).set 4 (.inr (some (H.length + 13)))).set 5 (.inr (some (H.length + 26))))[5]? = some (.inr (some (H.length + 26))) := List.getElem?_set_self (by rw [List.length_set, List.length_set]; omega)
  have gl3b : 62 < (((gs.set 3 (.inr (some H.length))).set 4 (.inr (some (H.length + 13)))).set 5 (.inr (some (H.length + 26)))).length := by omega
  have hG3 : mG n A (((gs.set 3 (.inr (some H.length))).set 4 (.inr (some (H.length + 13)))).set 5 (.inr (some (H.length + 26)))) := ⟨gl3b, (gne3 (by decide)).trans q0, fun j k hj => (gne3 (by
    have hj2 : j ∈ tabG.map Prod.fst := List.mem_map.mpr ⟨(j, k), hj, rfl⟩
    have hj3 : j ∈ [1, 2, 6, 7, 11, 12, 13, 14, 15, 16, 50, 51, 52, 53, 54, 55, 56, 57, 59, 60, 61, 62] := hj2
    simp only [List.mem_cons, List.not_mem_nil, or_false] at hj3
    omega)).trans (hg j k hj)⟩
  have hc0 : fPh H.length (H.length + 13) K3 K3 0 := ⟨fun _ _ h _ => h, rfl, fun q hq => ⟨⟨_, rD q hq, List.length_replicate, fun z => absurd z (Nat.not_lt_zero q)⟩, ⟨_, rV_ q hq, List.length_replicate, fun z => absurd z (Nat.not_lt_zero q)⟩⟩⟩
  obtain ⟨G, hc, hk⟩ := t221_l (ot := ot) (dp := dp + 8) (d := d) (a2 := D0) (a3 := V0) (a4 := U0) (cn := 27) (sn := 180) (V := H.length + 13) rfl z0 g3 g4 (by omega) b3 hKD hKV 12 0 K3 (x_st (x_st (x_st (x_st ((x_en 0 [.inr (some (A 0)), .inl ((dYr d))])) 2 (.inr (some (D0)))) 3 (.inr (some (V0)))) 4 (.inr (some (U0)))) 5 (.inl (nI (0)))) (by omega) hc0 (lkN (by decide) (lkN (by decide) (lkN (by decide) (lkN (by decide) (rfl))))) (lkN (by decide) (lkN (by decide) (lkN (by decide) (lkN (by decide) (rfl))))) (lkN (by decide) (lkN (by decide) (lkN (by decide) (lkY)))) (lkN (by decide) (lkN (by decide) (lkY))) (lkN (by decide) (lkY)) (lkY)
  obtain ⟨h1, h2, h3⟩ := id hc
  have toG : ∀ (x : Nat) z, x < H.length → x ≠ A 0 → H[x]? = some z → G[x]? = some z := fun x z hx hn h => h1 x z ((t3 x hx hn).trans h) (fun q hq => ⟨by omega, by omega⟩)
  have mv : ∀ (x : Nat) z, c3R H WL x z → c3R G WL x z := fun x z h => ⟨toG x z (List.getElem?_eq_some_iff.mp h.1).1 (c3R_ne h k0.1) h.1, h.2⟩
  have hS2 := mS0_mv mv hN hS (fun x z hx hn h => toG x z (hWL x hx) hn h)
  have hbG : G[A 0]? = some (.inl (12, ((gs.set 3 (.inr (some H.length))).set 4 (.inr (some (H.length + 13)))).set 5 (.inr (some (H.length + 26))))) := h1 _ _ b3 (fun q hq => ⟨by omega, by omega⟩)
  have nWL : ∀ x, H.length ≤ x → ∀ k : Nat, WL[k]? ≠ some x := fun x hx k hk => by
    have := hWL x (List.mem_of_getElem? hk)
    omega
  have hD : mD n H.length (H.length + 13) (H.length + 26) WL G := fun q hq => by
    obtain ⟨⟨l, c1, c2, c3⟩, ⟨l', c4, c5, c6⟩⟩ := h3 q hq
    refine ⟨H.length + 1 + q, H.length + 13 + 1 + q, ⟨_, ⟨h1 _ _ hKD (fun q hq => ⟨by omega, by omega⟩), nWL _ (Nat.le_refl _)⟩, xr_len 12 _, (xr_get 12 _ q).trans (if_pos hq)⟩, ⟨_, ⟨h1 _ _ hKV (fun q hq => ⟨by omega, by omega⟩), nWL _ (by omega)⟩, xr_len 12 _, (xr_get 12 _ q).trans (if_pos hq)⟩, ⟨by omega, l, ⟨c1, nWL _ (by omega)⟩, c2, c3 hq⟩, ⟨by omega, l', ⟨c4, nWL _ (by omega)⟩, c5, c6 hq⟩, by omega, _, ⟨h1 _ _ o3 (fun q hq => ⟨by omega, by omega⟩), nWL _ (by omega)⟩, List.length_replicate, ?_⟩
    rw [List.getElem?_replicate, if_pos hq]
    rfl
  obtain ⟨H6, y6_, gs6, hb6, hl6⟩ := t222 (ot := ot) (dp := dp) hd hN hG3 hrp hrt g3 g4 g5 (by omega) hS2 hD hbG
  have hl62 : 62 < gs6.length := by omega
  have h6 : hm H6 H6 [A 0] [.inl (12, gs6)] := hm_rf (fun i j x hi hj => by
    rcases i with _ | i
    · rcases j with _ | j
      · rfl
      · cases hj
    · cases hi) rfl (fun k a z hk hz => by
    rcases k with _ | k
    · cases hk
      cases hz
      exact hb6
    · cases hk)
  have g31_ : hm _ _ [A 0] [.inl (12, (gs6).set 3 (.inr (some (D0))))] := hm_set (i := 0) (z2 := .inl (12, (gs6).set 3 (.inr (some (D0))))) h6 rfl
  have g32_ : hm _ _ [A 0] [.inl (12, ((gs6).set 3 (.inr (some (D0)))).set 4 (.inr (some (V0))))] := hm_set (i := 0) (z2 := .inl (12, ((gs6).set 3 (.inr (some (D0)))).set 4 (.inr (some (V0))))) g31_ rfl
  have g33_ : hm _ _ [A 0] [.inl (12, (((gs6).set 3 (.inr (some (D0)))).set 4 (.inr (some (V0)))).set 5 (.inr (some (U0))))] := hm_set (i := 0) (z2 := .inl (12, (((gs6).set 3 (.inr (some (D0)))).set 4 (.inr (some (V0)))).set 5 (.inr (some (U0))))) g32_ rfl
  refine ⟨_, ?_⟩
  refine xT_iload_n g_q221 g221_0 (rfl) ?_
  refine xT_invokestatic (r := []) (u := some (.inl (nI (1)))) g_q221 g221_1 (j := 196) (so := 2) (by decide +kernel) g_q196 (rfl) (t196Y (dp := dp + 6) hy1 hy2) ?_
  refine xT_ifCondY g_q221 g221_4 (t := 10) (by decide) (c1Y (a := 1) (b := 0) (by omega) (by omega) (by omega)) ?_
  refine xT_aload_n g_q221 g221_10 (rfl) ?_
  refine xT_getfield g_q221 g221_11 hA0 rfl hb rfl q3 ?_
  refine xT_astore_n g_q221 g221_14 (by decide) ?_
  refine xT_aload_n g_q221 g221_15 (lkN (by decide) (rfl)) ?_
  refine xT_getfield g_q221 g221_16 hA0 rfl hb rfl q4 ?_
  refine xT_astore_n g_q221 g221_19 (by decide) ?_
  refine xT_aload_n g_q221 g221_20 (lkN (by decide) (lkN (by decide) (rfl))) ?_
  refine xT_getfield g_q221 g221_21 hA0 rfl hb rfl q5 ?_
  refine xT_astore g_q221 g221_24 (by decide) ?_
  refine xT_aload_n g_q221 g221_26 (lkN (by decide) (lkN (by decide) (lkN (by decide) (rfl)))) ?_
  refine xT_biV (y := nI (12)) g_q221 g221_27 (by decide) ?_
  refine xT_biV (y := nI (6)) g_q221 g221_29 (by decide) ?_
  refine xT_multianewarray g_q221 g221_31 (t2 := 5) (t1 := 0) (by decide +kernel) (by rw [decide_eq_true (show H.length + 1 + (nI 12).toNatClampNeg ≤ 1000000 from (by have e : (nI 12).toNatClampNeg = 12 := rfl; omega))]; rfl) ?_
  show x_To x_tb x_tyl ot (dp + 8) 221 35 _ (.inr (some H.length) :: _) (H ++ .inr (5, x_refs (H.length + 1) 12) :: x_rows 0 (List.replicate 6 (.inl 0)) 12) 13 84 _ _
  refine xT_putfield g_q221 g221_35 (ci := 12) (j := 3) rfl (al_b hb) rfl (by rw [decide_eq_true (show 3 < (gs).length from (by omega))]; rfl) ?_
  rw [e1]
  refine xT_aload_n g_q221 g221_38 (lkN (by decide) (lkN (by decide) (lkN (by decide) (rfl)))) ?_
  refine xT_biV (y := nI (12)) g_q221 g221_39 (by decide) ?_
  refine xT_biV (y := nI (6)) g_q221 g221_41 (by decide) ?_
  refine xT_multianewarray g_q221 g221_43 (t2 := 5) (t1 := 0) (by decide +kernel) (by rw [decide_eq_true (show K1.length + 1 + (nI 12).toNatClampNeg ≤ 1000000 from (by have e : (nI 12).toNatClampNeg = 12 := rfl; omega))]; rfl) ?_
  show x_To x_tb x_tyl ot (dp + 8) 221 47 _ (.inr (some K1.length) :: _) (K1 ++ .inr (5, x_refs (K1.length + 1) 12) :: x_rows 0 (List.replicate 6 (.inl 0)) 12) 26 168 _ _
  rw [l1]
  refine xT_putfield g_q221 g221_47 (ci := 12) (j := 4) rfl (al_b b1) rfl (by rw [decide_eq_true (show 4 < (gs.set 3 (.inr (some H.length))).length from (by rw [List.length_set]; omega))]; rfl) ?_
  rw [e2]
  refine xT_aload_n g_q221 g221_50 (lkN (by decide) (lkN (by decide) (lkN (by decide) (rfl)))) ?_
  refine xT_biV (y := nI (12)) g_q221 g221_51 (by decide) ?_
  refine xT_newarrayI g_q221 g221_53 (by rw [decide_eq_true (show K2.length + 1 ≤ 1000000 by omega)]; rfl) ?_
  show x_To x_tb x_tyl ot (dp + 8) 221 55 _ (.inr (some K2.length) :: _) (K2 ++ [.inr (0, List.replicate 12 (.inl 0))]) 27 180 _ _
  rw [l2]
  refine xT_putfield g_q221 g221_55 (ci := 12) (j := 5) rfl (al_b b2) rfl (by rw [decide_eq_true (show 5 < ((gs.set 3 (.inr (some H.length))).set 4 (.inr (some (H.length + 13)))).length from (by rw [List.length_set, List.length_set]; omega))]; rfl) ?_
  rw [e3]
  refine xT_icV (y := nI (0)) g_q221 g221_58 (by decide) ?_
  refine xT_istore g_q221 g221_59 (by decide) ?_
  refine hk _ _ (fun L l0 l1 l2 l3 l4 => ?_)
  · skip
    refine xT_aload_n g_q221 g221_112 (l0) ?_
    refine xT_iload_n g_q221 g221_113 (l1) ?_
    refine xT_icV (y := nI (0)) g_q221 g221_114 (by decide) ?_
    refine xT_icV (y := nI (0)) g_q221 g221_115 (by decide) ?_
    refine xT_invokevirtual (r := []) (u := some (.inl ((hrm d rp rt n)))) g_q221 g221_116 (j := 222) (so := 0) (by decide +kernel) g_q222 rfl (by rw [x_rcM hA0 hbG]; rfl) (y6_) ?_
    refine xT_istore g_q221 g221_119 (by decide) ?_
    refine xT_aload_n g_q221 g221_121 (lkN (by decide) (l0)) ?_
    refine xT_aload_n g_q221 g221_122 (lkN (by decide) (l2)) ?_
    refine xT_putfield g_q221 g221_123 (ci := 12) (j := 3) rfl (hm_at h6 (i := 0) rfl rfl) rfl (by rw [decide_eq_true (show 3 < (gs6).length from (by omega))]; rfl) ?_
    refine xT_aload_n g_q221 g221_126 (lkN (by decide) (l0)) ?_
    refine xT_aload_n g_q221 g221_127 (lkN (by decide) (l3)) ?_
    refine xT_putfield g_q221 g221_128 (ci := 12) (j := 4) rfl (hm_at g31_ (i := 0) rfl rfl) rfl (by rw [decide_eq_true (show 4 < ((gs6).set 3 (.inr (some (D0)))).length from (by rw [List.length_set]; omega))]; rfl) ?_
    refine xT_aload_n g_q221 g221_131 (lkN (by decide) (l0)) ?_
    refine xT_aload g_q221 g221_132 (lkN (by decide) (l4)) ?_
    refine xT_putfield g_q221 g221_134 (ci := 12) (j := 5) rfl (hm_at g32_ (i := 0) rfl rfl) rfl (by rw [decide_eq_true (show 5 < (((gs6).set 3 (.inr (some (D0)))).set 4 (.inr (some (V0)))).length from (by rw [List.length_set, List.length_set]; omega))]; rfl) ?_
    refine xT_iload g_q221 g221_137 (lkY) ?_
    exact xT_ireturn g_q221 g221_139 (rfl)
end XH33_58
