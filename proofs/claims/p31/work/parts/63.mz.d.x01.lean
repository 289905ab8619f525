/-! p31 by hand, both sides, 1. -/
noncomputable section XG31_1
variable {xs : Nat → Int32} {n0 : Nat} {sf : Option Nat} {DA DB : Nat} {R : Option (XV Int32) → List (XC Int32) → Option (XV Int32) → List (XC Int32) → Prop} {a b tr tc fr rb n m la lb : Nat} {vs wl : List (XV Int32)}
theorem cvT (hG : wGoes x_KT x_tb x_tyl (x_otS xs n0 sf) lwFR lwGA.length lwGB.length 7 28 44 shwWA shwWB 136 248 65 66 shw_in (shw_g0_ex.map (fun x => (false, x)))) (hDA : 66 ≤ DA) (hDB : 66 ≤ DB) {w : Nat} {c0 : pC} (kk : ∀ (B : Nat → Int32) (c : pC) (vs wl : List (XV Int32)) (LA LB : List (Nat × XV Int32)), J a b tr tc fr rb n m la lb c vs wl → cvFar c0 c → (∀ i, i < n → vs[i * 2 + 1]? = some (.inl (B i)) ∧ wl[i]? = some (.inl (B i))) → x_lk LA 0 = some (.inr (some (a))) → x_lk LA 1 = some (.inl (nI (w))) → x_lk LB 0 = some (.inr (some (b))) → x_lk LB 1 = some (.inl (nI (w))) → x_lk LB 2 = some (.inr (some (rb))) → x_lk LB 3 = some (.inl ((fA B n 0 0))) → GO (x_otS xs n0 sf) DA DB R 84 87 LA LB (cHA c) (cHB c)) : ∀ (d t : Nat) (B : Nat → Int32) (A : Int32) (c : pC) (vs wl : List (XV Int32)) (LA LB : List (Nat × XV Int32)), t + d = n → J a b tr tc fr rb n m la lb c vs wl → cvFar c0 c → (∀ i, i < t → vs[i * 2 + 1]? = some (.inl (B i)) ∧ wl[i]? = some (.inl (B i))) → (∀ i, t ≤ i → i < 8 → wl[i]? = some (.inl (nI 0))) → A = fA B t 0 0 → x_lk LA 0 = some (.inr (some (a))) → x_lk LA 1 = some (.inl (nI (w))) → x_lk LA 2 = some (.inl (nI (t))) → x_lk LB 0 = some (.inr (some (b))) → x_lk LB 1 = some (.inl (nI (w))) → x_lk LB 2 = some (.inr (some (rb))) → x_lk LB 3 = some (.inl (A)) → x_lk LB 4 = some (.inl (nI (t))) → GO (x_otS xs n0 sf) DA DB R 13 21 LA LB (cHA c) (cHB c) := by
  intro d
  induction d with
  | zero =>
    intro t B A c vs wl LA LB htd hJ hW hS0 hZ hA l0 l1 l2 m0 m1 m2 m3 m4
    obtain ⟨haA, htA, hfA, hcA, hn8, hm8, gs, ts, us, ha, g14, g15, ht0, s1, s2, s3, hf0, u3, hv, hvl⟩ := J_T hJ
    obtain ⟨hbA, -, -, hs, hb0, h32, h34⟩ := J_M hJ
    obtain ⟨hrA, hr0, hrl⟩ := J_Y hJ
    obtain rfl : n = t := by omega
    subst hA
    obtain ⟨vA, H1, vB, H2, x1, x2, hR⟩ := kk B c vs wl LA LB hJ hW hS0 l0 l1 m0 m1 m2 m3
    refine ⟨vA, H1, vB, H2, ?_, ?_, hR⟩
    · skip
      refine xT_iload_n g_q137 g137_13 (l2) ?_
      refine xT_aload_n g_q137 g137_14 (l0) ?_
      refine xT_getfield g_q137 g137_15 haA rfl ha rfl g14 ?_
      refine xT_getfield g_q137 g137_18 htA rfl ht0 rfl s3 ?_
      refine xT_if_icmpY g_q137 g137_21 (t := 84) (by decide) (c3Y (a := n) (b := n) (Nat.le_refl _) (by omega) (by omega)) ?_
      exact x1
    · skip
      refine xT_iload g_q249 g249_21 (m4) ?_
      refine xT_aload_n g_q249 g249_23 (m0) ?_
      refine xT_getfield g_q249 g249_24 hbA rfl hb0 rfl h32 ?_
      refine xT_if_icmpY g_q249 g249_27 (t := 87) (by decide) (c3Y (a := n) (b := n) (Nat.le_refl _) (by omega) (by omega)) ?_
      exact x2
  | succ d ih =>
    intro t B A c vs wl LA LB htd hJ hW hS0 hZ hA l0 l1 l2 m0 m1 m2 m3 m4
    have ht : t < n := by omega
    have hn8 := (J_8 hJ).1
    have go := cvF hG hDA hDB ht (vs := vs) (wl0 := wl) (A := A) (w := w) (c0 := c0) (R := R) (fun S c2 wl2 LA2 LB2 hJ2 hW2 hS hO p0 p1 p2 p3 q0 q1 q2 q3 q4 => by
      obtain ⟨hJ3, hW3⟩ := J_put hJ2 (t := t) (x := S)
      have hvl2 : vs.length = 16 := by
        obtain ⟨-, -, -, -, -, -, gs, ts, us, -, -, -, -, -, -, -, -, -, -, hvl⟩ := J_T hJ2
        exact hvl
      obtain ⟨vA, H1, vB, H2, x1, x2, hR⟩ := ih (t + 1) (fun i => if i = t then S else B i) (A ||| S) _ _ wl2 (x_st (LA2) 2 (.inl (nI (t + 1)))) (x_st (x_st (LB2) 3 (.inl (A ||| S))) 4 (.inl (nI (t + 1)))) (by omega) hJ3 (wFar_tr hW2 hW3) (fun i hi => by
        by_cases e : i = t
        · subst e
          try dsimp only
          rw [if_pos rfl]
          exact ⟨List.getElem?_set_self (by omega), hS⟩
        · try dsimp only
          rw [if_neg e, List.getElem?_set_ne (by omega), hO i e]
          exact hS0 i (by omega)) (fun i h1 h2 => by
        rw [hO i (by omega)]
        exact hZ i (by omega) h2) (by
        rw [fA_sn, Nat.zero_add]
        try dsimp only
        rw [if_pos rfl, hA]
        congr 1
        exact fA_cg t 0 0 (fun k h1 h2 => (if_neg (by omega)).symm)) (lkN (by decide) (p0)) (lkN (by decide) (p1)) (lkY) (lkN (by decide) (lkN (by decide) (q0))) (lkN (by decide) (lkN (by decide) (q1))) (lkN (by decide) (lkN (by decide) (q2))) (lkN (by decide) (lkY)) (lkY)
      refine ⟨vA, H1, vB, H2, ?_, ?_, hR⟩
      · have hJ := hJ2
        obtain ⟨haA, htA, hfA, hcA, hn8, hm8, gs, ts, us, ha, g14, g15, ht0, s1, s2, s3, hf0, u3, hv, hvl⟩ := J_T hJ
        refine xT_aload_n g_q137 g137_68 (p0) ?_
        refine xT_getfield g_q137 g137_69 haA rfl ha rfl g14 ?_
        refine xT_iload_n g_q137 g137_72 (p2) ?_
        refine xT_icV (y := nI (1)) g_q137 g137_73 (by decide) ?_
        refine xT_iload_n g_q137 g137_74 (p3) ?_
        refine xT_invokevirtual (r := []) (u := none) g_q137 g137_75 (j := 102) (so := 0) (by decide +kernel) g_q102 rfl (by rw [x_rcM htA ht0]; rfl) (t102 (dp := DA) (J_T hJ2) (by omega)) ?_
        refine xT_iincV (y := nI (t + 1)) g_q137 g137_78 (p2) (by decide) (bIncN _) ?_
        refine xT_goto g_q137 g137_81 (t := 13) (by decide) ?_
        exact x1
      · have hJ := hJ2
        obtain ⟨hbA, -, -, hs, hb0, h32, h34⟩ := J_M hJ
        obtain ⟨hrA, hr0, hrl⟩ := J_Y hJ
        refine xT_iload_n g_q249 g249_74 (q3) ?_
        refine xT_aload_n g_q249 g249_75 (q2) ?_
        refine xT_iload g_q249 g249_76 (q4) ?_
        refine xT_iaload g_q249 g249_78 (by omega) hr0 (ixN (n := 8) (by omega) hrl) (ixG (by omega) hS) ?_
        refine xT_iorV (y := A ||| S) g_q249 g249_79 (rfl) ?_
        refine xT_istore_n g_q249 g249_80 (by decide) ?_
        refine xT_iincV (y := nI (t + 1)) g_q249 g249_81 (lkN (by decide) (q4)) (by decide) (bIncN _) ?_
        refine xT_goto g_q249 g249_84 (t := 21) (by decide) ?_
        exact x2) m 0 (nI 0) c wl (x_st (x_st (LA) 3 (.inl (nI (0)))) 4 (.inl (nI (0)))) (x_st (LB) 5 (.inl (nI (0)))) (by omega) hJ hW (hZ t (Nat.le_refl _) (by omega)) (fun _ _ => rfl) (lkN (by decide) (lkN (by decide) (l0))) (lkN (by decide) (lkN (by decide) (l1))) (lkN (by decide) (lkN (by decide) (l2))) (lkN (by decide) (lkY)) (lkY) (lkN (by decide) (m0)) (lkN (by decide) (m1)) (lkN (by decide) (m2)) (lkN (by decide) (m3)) (lkN (by decide) (m4)) (lkY)
    obtain ⟨haA, htA, hfA, hcA, hn8, hm8, gs, ts, us, ha, g14, g15, ht0, s1, s2, s3, hf0, u3, hv, hvl⟩ := J_T hJ
    obtain ⟨hbA, -, -, hs, hb0, h32, h34⟩ := J_M hJ
    obtain ⟨hrA, hr0, hrl⟩ := J_Y hJ
    obtain ⟨vA, H1, vB, H2, x1, x2, hR⟩ := go
    refine ⟨vA, H1, vB, H2, ?_, ?_, hR⟩
    · skip
      refine xT_iload_n g_q137 g137_13 (l2) ?_
      refine xT_aload_n g_q137 g137_14 (l0) ?_
      refine xT_getfield g_q137 g137_15 haA rfl ha rfl g14 ?_
      refine xT_getfield g_q137 g137_18 htA rfl ht0 rfl s3 ?_
      refine xT_if_icmpN g_q137 g137_21 (t := 84) (by decide) (c3N (a := t) (b := n) (by omega) (by omega) (by omega)) ?_
      refine xT_icV (y := nI (0)) g_q137 g137_24 (by decide) ?_
      refine xT_istore_n g_q137 g137_25 (by decide) ?_
      refine xT_icV (y := nI (0)) g_q137 g137_26 (by decide) ?_
      refine xT_istore g_q137 g137_27 (by decide) ?_
      exact x1
    · skip
      refine xT_iload g_q249 g249_21 (m4) ?_
      refine xT_aload_n g_q249 g249_23 (m0) ?_
      refine xT_getfield g_q249 g249_24 hbA rfl hb0 rfl h32 ?_
      refine xT_if_icmpN g_q249 g249_27 (t := 87) (by decide) (c3N (a := t) (b := n) (by omega) (by omega) (by omega)) ?_
      refine xT_icV (y := nI (0)) g_q249 g249_30 (by decide) ?_
      refine xT_istore g_q249 g249_31 (by decide) ?_
      exact x2
end XG31_1
