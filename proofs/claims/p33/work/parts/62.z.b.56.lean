/-! p33 by hand, 55. -/
noncomputable section XH33_55
variable {ot : XO Int32} {dp : Nat} {H H0 : List (XC Int32)}
theorem t222_l {n : Nat} {d : Ld} {A FR TR FS TS : Nat → Nat} {WL : List Nat} {gs : List (XV Int32)} {col : Nat → Nat} {lF lT : Nat → List (XV Int32)} (hd : dOk n d) (hN : mNe A FR TR WL col) (hG : mG n A gs) {H : List (XC Int32)} (hL : H.length ≤ 1000000) (hS : mS0 n d A FR TR FS TS lF lT WL H) (hb : H[A 0]? = some (.inl (12, gs))) : ∀ (k p : Nat) (G : List (XC Int32)) (L : List (Nat × XV Int32)), p + k = 12 → cPh FR TR lF lT H G p → x_lk L 0 = some (.inr (some (A 0))) → x_lk L 1 = some (.inl ((dYr d))) → x_lk L 2 = some (.inl (nI (0))) → x_lk L 3 = some (.inl (nI (0))) → x_lk L 4 = some (.inr (some (A 23))) → x_lk L 5 = some (.inr (some (A 25))) → x_lk L 6 = some (.inr (some (A 24))) → x_lk L 7 = some (.inr (some (A 26))) → x_lk L 8 = some (.inl (nI (p))) → ∃ G', cPh FR TR lF lT H G' 12 ∧ ∀ (v : Option (XV Int32)) (H2 : List (XC Int32)), (∀ L', x_lk L' 0 = some (.inr (some (A 0))) → x_lk L' 1 = some (.inl ((dYr d))) → x_lk L' 2 = some (.inl (nI (0))) → x_lk L' 3 = some (.inl (nI (0))) → x_lk L' 4 = some (.inr (some (A 23))) → x_lk L' 5 = some (.inr (some (A 25))) → x_lk L' 6 = some (.inr (some (A 24))) → x_lk L' 7 = some (.inr (some (A 26))) → x_To x_tb x_tyl ot dp 222 78 L' [] G' 0 0 v H2) → x_To x_tb x_tyl ot dp 222 27 L [] G 0 0 v H2 := by
  obtain ⟨hl62, g0, hg⟩ := id hG
  have z0 := lt_of hb hL
  have hA0 : ¬ 1000000 < A 0 := by omega
  have g59 := hg 59 18 (by decide)
  have g60 := hg 60 19 (by decide)
  intro k
  induction k with
  | zero =>
    intro p G L hp hc l0 l1 l2 l3 l4 l5 l6 l7 l8
    obtain rfl : p = 12 := by omega
    refine ⟨G, hc, fun v H2 hk => ?_⟩
    refine xT_iload g_q222 g222_27 (l8) ?_
    refine xT_biV (y := nI (12)) g_q222 g222_29 (by decide) ?_
    refine xT_if_icmpY g_q222 g222_31 (t := 78) (by decide) (c3Y (a := 12) (b := 12) (Nat.le_refl _) (by omega) (by omega)) ?_
    exact hk _ (l0) (l1) (l2) (l3) (l4) (l5) (l6) (l7)
  | succ k ih =>
    intro p G L hp hc l0 l1 l2 l3 l4 l5 l6 l7 l8
    have hp12 : p < 12 := by omega
    obtain ⟨h1, h2, h3⟩ := id hc
    obtain ⟨⟨la_, ca, nla, -⟩, ⟨lb_, cb_, nlb, -⟩⟩ := h3 p hp12
    obtain ⟨n1, n2, n13, n14⟩ := hN.2.1 p hp12
    have k0 := hN.1 0 (by decide)
    have no : ∀ {x : Nat}, x ≠ FR p → x ≠ TR p → ∀ k : Nat, [FR p, TR p][k]? ≠ some x := fun a b k hk => by
      rcases k with _ | _ | k
      · cases hk
        exact a rfl
      · cases hk
        exact b rfl
      · cases hk
    have mvG : ∀ (x : Nat) z, c3R H WL x z → c3R G [FR p, TR p] x z := fun x z h => ⟨h1 x z h.1 (fun q hq => ⟨c3R_ne h (hN.2.1 q hq).1, c3R_ne h (hN.2.1 q hq).2.1⟩), no (c3R_ne h n1) (c3R_ne h n2)⟩
    have cb : c3R G [FR p, TR p] (A 0) (.inl (12, gs)) := ⟨h1 _ _ hb (fun q hq => ⟨cne k0.2 (hN.2.1 q hq).2.2.1 (by decide), cne k0.2 (hN.2.1 q hq).2.2.2 (by decide)⟩), no (cne k0.2 n13 (by decide)) (cne k0.2 n14 (by decide))⟩
    obtain ⟨⟨r1, r2, r3, r4⟩, ⟨cF, wF, cT, wT⟩, -, -⟩ := hS.2.2.1 p hp12
    obtain ⟨lfr, cfr, nfr, efr⟩ := rQ_mv mvG r1
    obtain ⟨ltr, ctr, ntr, etr⟩ := rQ_mv mvG r2
    obtain ⟨lfs, cfs, nfs, efs⟩ := rQ_mv mvG r3
    obtain ⟨lts, cts, nts, ets⟩ := rQ_mv mvG r4
    have cF := mvG _ _ cF
    have cT := mvG _ _ cT
    have g0 : hm G G [FR p, TR p] [.inr (0, la_), .inr (0, lb_)] := hm_rf (inj_of col (cs := [13, 14]) (by simp only [List.map_cons, List.map_nil, n13, n14]) (by decide +kernel)) rfl (fun k a z hk hz => by
      rcases k with _ | _ | k
      · cases hk
        cases hz
        exact ca
      · cases hk
        cases hz
        exact cb_
      · cases hk)
    have g1_ : hm _ _ [FR p, TR p] [.inr (0, lF p), .inr (0, lb_)] := hm_set (i := 0) (z2 := .inr (0, lF p)) g0 rfl
    have g2_ : hm _ _ [FR p, TR p] [.inr (0, lF p), .inr (0, lT p)] := hm_set (i := 1) (z2 := .inr (0, lT p)) g1_ rfl
    obtain ⟨G', x1, x2⟩ := ih (p + 1) _ (x_st (L) 8 (.inl (nI (p + 1)))) (by omega) (cPh_s hc hp12 hN wF.1 wT.1 g2_) (lkN (by decide) (l0)) (lkN (by decide) (l1)) (lkN (by decide) (l2)) (lkN (by decide) (l3)) (lkN (by decide) (l4)) (lkN (by decide) (l5)) (lkN (by decide) (l6)) (lkN (by decide) (l7)) (lkY)
    refine ⟨G', x1, fun v H2 hk => ?_⟩
    refine xT_iload g_q222 g222_27 (l8) ?_
    refine xT_biV (y := nI (12)) g_q222 g222_29 (by decide) ?_
    refine xT_if_icmpN g_q222 g222_31 (t := 78) (by decide) (c3N (a := p) (b := 12) (by omega) (by omega) (by omega)) ?_
    refine xT_aload g_q222 g222_34 (l4) ?_
    refine xT_iload g_q222 g222_36 (l8) ?_
    refine xT_aaload g_q222 g222_38 (by decide +kernel) (hm_c g0 cfs) (ixN (n := 12) (by omega) nfs) (ixG (by omega) efs) ?_
    refine xT_icV (y := nI (0)) g_q222 g222_39 (by decide) ?_
    refine xT_aload_n g_q222 g222_40 (l0) ?_
    refine xT_getfield g_q222 g222_41 hA0 rfl (hm_c g0 cb) rfl g59 ?_
    refine xT_iload g_q222 g222_44 (l8) ?_
    refine xT_aaload g_q222 g222_46 (by decide +kernel) (hm_c g0 cfr) (ixN (n := 12) (by omega) nfr) (ixG (by omega) efr) ?_
    refine xT_icV (y := nI (0)) g_q222 g222_47 (by decide) ?_
    refine xT_biV (y := nI (12)) g_q222 g222_48 (by decide) ?_
    refine xT_arraycopy g_q222 g222_50 (by decide +kernel) (by decide +kernel) (hm_c g0 cF) (hm_at g0 (i := 0) rfl rfl) (ac4 wF nla) ?_
    rw [acl wF.1 nla]
    refine xT_aload g_q222 g222_53 (l5) ?_
    refine xT_iload g_q222 g222_55 (l8) ?_
    refine xT_aaload g_q222 g222_57 (by decide +kernel) (hm_c g1_ cts) (ixN (n := 12) (by omega) nts) (ixG (by omega) ets) ?_
    refine xT_icV (y := nI (0)) g_q222 g222_58 (by decide) ?_
    refine xT_aload_n g_q222 g222_59 (l0) ?_
    refine xT_getfield g_q222 g222_60 hA0 rfl (hm_c g1_ cb) rfl g60 ?_
    refine xT_iload g_q222 g222_63 (l8) ?_
    refine xT_aaload g_q222 g222_65 (by decide +kernel) (hm_c g1_ ctr) (ixN (n := 12) (by omega) ntr) (ixG (by omega) etr) ?_
    refine xT_icV (y := nI (0)) g_q222 g222_66 (by decide) ?_
    refine xT_biV (y := nI (12)) g_q222 g222_67 (by decide) ?_
    refine xT_arraycopy g_q222 g222_69 (by decide +kernel) (by decide +kernel) (hm_c g1_ cT) (hm_at g1_ (i := 1) rfl rfl) (ac4 wT nlb) ?_
    rw [acl wT.1 nlb]
    refine xT_iincV (y := nI (p + 1)) g_q222 g222_72 (l8) (by decide) (bIncN _) ?_
    refine xT_goto g_q222 g222_75 (t := 27) (by decide) ?_
    exact x2 v H2 hk
end XH33_55
