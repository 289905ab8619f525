/-! p33 by hand, 58. -/
noncomputable section XH33_58
variable {ot : XO Int32} {dp : Nat} {H H0 : List (XC Int32)}
theorem ex_of {P : List (XC Int32) → Prop} {K0 K : List (XC Int32)} {As : List Nat} {Zs : List (XC Int32)} (h : hm K0 K As Zs) (hp : P K) : ∃ H2, P H2 := ⟨K, hp⟩
theorem t221n {a : Nat} {y : Int32} (hy : y < nI 1900 ∨ nI 2099 < y) : x_To x_tb x_tyl ot (dp + 8) 221 0 (x_en 0 [.inr (some (a)), .inl (y)]) [] H 0 0 (some (.inl (-2))) H := by
  refine xT_iload_n g_q221 g221_0 (rfl) ?_
  refine xT_invokestatic (r := []) (u := some (.inl (nI (0)))) g_q221 g221_1 (j := 196) (so := 2) (by decide +kernel) g_q196 (rfl) (t196N (dp := dp + 6) hy) ?_
  refine xT_ifCondN g_q221 g221_4 (t := 10) (by decide) (c1N (a := 0) (b := 0) rfl) ?_
  refine xT_biV (y := -2) g_q221 g221_7 (by decide) ?_
  exact xT_ireturn g_q221 g221_9 (rfl)
theorem t221 {n : Nat} {d : Ld} {A FR TR FS TS : Nat → Nat} {WL : List Nat} {rp rt : Nat → rS} {gs : List (XV Int32)} {col : Nat → Nat} {lF lT : Nat → List (XV Int32)} {D0 V0 U0 : Nat} (hd : dOk n d) (hN : mNe A FR TR WL col) (hG : mG n A gs) (hrp : rdP d rp) (hrt : rdT d rt) (q3 : gs[3]? = some (.inr (some D0))) (q4 : gs[4]? = some (.inr (some V0))) (q5 : gs[5]? = some (.inr (some U0))) {H : List (XC Int32)} (hL : H.length + 27 ≤ 1000000) (hS : mS0 n d A FR TR FS TS lF lT WL H) (hb : H[A 0]? = some (.inl (12, gs))) (hWL : ∀ x, x ∈ WL → x < H.length) (hy1 : ¬ dYr d < nI 1900) (hy2 : ¬ nI 2099 < dYr d) : ∃ H2, x_To x_tb x_tyl ot (dp + 8) 221 0 (x_en 0 [.inr (some (A 0)), .inl ((dYr d))]) [] H 0 0 (some (.inl (hrm d rp rt n))) H2 := by
  obtain ⟨hl62, q0, hg⟩ := id hG
  have z0 := (List.getElem?_eq_some_iff.mp hb).1
  have hA0 : ¬ 1000000 < A 0 := by omega
  have k0 := hN.1 0 (by decide)
  have f1 := al_heap (X := H) (m := H.length) (rows := x_rows 0 (List.replicate 6 (.inl 0)) 12) (z := .inr (5, x_refs (H.length + 1) 12)) (z1 := .inl (12, gs.set 3 (.inr (some H.length)))) rfl hb
  generalize e1 : (H ++ (.inr (5, x_refs (H.length + 1) 12) : XC Int32) :: x_rows 0 (List.replicate 6 (.inl 0)) 12).set (A 0) (.inl (12, gs.set 3 (.inr (some H.length))) : XC Int32) = K1 at f1
  obtain ⟨l1, b1, r1, o1, w1⟩ := f1
  rw [xrow_len] at l1
  have l1 : K1.length = H.length + 13 := l1
  have f2 := al_heap (X := K1) (m := H.length + 13) (rows := x_rows 0 (List.replicate 6 (.inl 0)) 12) (z := .inr (5, x_refs (H.length + 13 + 1) 12)) (z1 := .inl (12, (gs.set 3 (.inr (some H.length))).set 4 (.inr (some (H.length + 13))))) l1 b1
  generalize e2 : (K1 ++ (.inr (5, x_refs (H.length + 13 + 1) 12) : XC Int32) :: x_rows 0 (List.replicate 6 (.inl 0)) 12).set (A 0) (.inl (12, (gs.set 3 (.inr (some H.length))).set 4 (.inr (some (H.length + 13)))) : XC Int32) = K2 at f2
  obtain ⟨l2, b2, r2, o2, w2⟩ := f2
  rw [xrow_len] at l2
  have l2 : K2.length = H.length + 26 := l2
  have f3 := al_heap (X := K2) (m := H.length + 26) (rows := []) (z := .inr (0, List.replicate 12 (.inl 0))) (z1 := .inl (12, ((gs.set 3 (.inr (some H.length))).set 4 (.inr (some (H.length + 13)))).set 5 (.inr (some (H.length + 26))))) l2 b2
  generalize e3 : (K2 ++ [(.inr (0, List.replicate 12 (.inl 0)) : XC Int32)]).set (A 0) (.inl (12, ((gs.set 3 (.inr (some H.length))).set 4 (.inr (some (H.length + 13)))).set 5 (.inr (some (H.length + 26)))) : XC Int32) = K3 at f3
  obtain ⟨l3, b3, r3, o3, -⟩ := f3
  have l3 : K3.length = H.length + 27 := l3
  have t3 : ∀ x, x < H.length → x ≠ A 0 → K3[x]? = H[x]? := fun x hx hn => by rw [r3 x (by omega) hn, r2 x (by omega) hn, r1 x hx hn]
  have u3 : ∀ x, x < H.length + 13 → x ≠ A 0 → K3[x]? = K1[x]? := fun x hx hn => by rw [r3 x (by omega) hn, r2 x (by omega) hn]
  have hKD : K3[H.length]? = some (.inr (5, x_refs (H.length + 1) 12)) := (u3 _ (by omega) (by omega)).trans o1
  have hKV : K3[H.length + 13]? = some (.inr (5, x_refs (H.length + 13 + 1) 12)) := (r3 _ (by omega) (by omega)).trans o2
  have rD : ∀ q, q < 12 → K3[H.length + 1 + q]? = some (.inr (0, List.replicate 6 (.inl 0))) := fun q hq => by
    rw [u3 _ (by omega) (by omega), w1 q, xrow_get, if_pos hq]
  have rV_ : ∀ q, q < 12 → K3[H.length + 13 + 1 + q]? = some (.inr (0, List.replicate 6 (.inl 0))) := fun q hq => by
    rw [r3 _ (by omega) (by omega), w2 q, xrow_get, if_pos hq]
  have gl3 : (((gs.set 3 (.inr (some H.length))).set 4 (.inr (some (H.length + 13)))).set 5 (.inr (some (H.length + 26)))).length = gs.length := by rw [List.length_set, List.length_set, List.length_set]
  have gne3 : ∀ {j : Nat}, j ≠ 3 ∧ j ≠ 4 ∧ j ≠ 5 → (((gs.set 3 (.inr (some H.length))).set 4 (.inr (some (H.length + 13)))).set 5 (.inr (some (H.length + 26))))[j]? = gs[j]? := fun h => by
    rw [List.getElem?_set_ne (by omega), List.getElem?_set_ne (by omega), List.getElem?_set_ne (by omega)]
  have g3 : (((gs.set 3 (.inr (some H.length))).set 4 (.inr (some (H.length + 13)))).set 5 (.inr (some (H.length + 26))))[3]? = some (.inr (some H.length)) := by
    rw [List.getElem?_set_ne (by decide), List.getElem?_set_ne (by decide)]
    exact List.getElem?_set_self (by omega)
  have g4 : (((gs.set 3 (.inr (some H.length))).set 4 (.inr (some (H.length + 13)))).set 5 (.inr (some (H.length + 26))))[4]? = some (.inr (some (H.length + 13))) := by
    rw [List.getElem?_set_ne (by decide)]
    exact List.getElem?_set_self (by rw [List.length_set]; omega)
  have g5 : (((gs.set 3 (.inr (some H.length))).set 4 (.inr (some (H.length + 13)))).set 5 (.inr (some (H.length + 26))))[5]? = some (.inr (some (H.length + 26))) := List.getElem?_set_self (by rw [List.length_set, List.length_set]; omega)
  have gl3b : 62 < (((gs.set 3 (.inr (some H.length))).set 4 (.inr (some (H.length + 13)))).set 5 (.inr (some (H.length + 26)))).length := by omega
  have hG3 : mG n A (((gs.set 3 (.inr (some H.length))).set 4 (.inr (some (H.length + 13)))).set 5 (.inr (some (H.length + 26)))) := ⟨gl3b, (gne3 (by decide)).trans q0, fun j k hj => (gne3 (by
    have hj2 : j ∈ tabG.map Prod.fst := List.mem_map.mpr ⟨(j, k), hj, rfl⟩
    have hj3 : j ∈ [1, 2, 6, 7, 11, 12, 13, 14, 15, 16, 50, 51, 52, 53, 54, 55, 56, 57, 59, 60, 61, 62] := hj2
    simp only [List.mem_cons, List.not_mem_nil, or_false] at hj3
    omega)).trans (hg j k hj)⟩
  have hc0 : fPh H.length (H.length + 13) K3 K3 0 := ⟨fun _ _ h _ => h, rfl, fun q hq => ⟨⟨_, rD q hq, List.length_replicate, fun z => absurd z (Nat.not_lt_zero q)⟩, ⟨_, rV_ q hq, List.length_replicate, fun z => absurd z (Nat.not_lt_zero q)⟩⟩⟩
  obtain ⟨G, hc, hk⟩ := t221_l (ot := ot) (dp := dp + 8) (d := d) (a2 := D0) (a3 := V0) (a4 := U0) (cn := 27) (sn := 180) (V := H.length + 13) rfl z0 g3 g4 (by omega) b3 hKD hKV 12 0 K3 (x_st (x_st (x_st (x_st ((x_en 0 [.inr (some (A 0)), .inl ((dYr d))])) 2 (.inr (some (D0)))) 3 (.inr (some (V0)))) 4 (.inr (some (U0)))) 5 (.inl (nI (0)))) (by omega) hc0 (lkN (by decide) (lkN (by decide) (lkN (by decide) (lkN (by decide) (rfl))))) (lkN (by decide) (lkN (by decide) (lkN (by decide) (lkN (by decide) (rfl))))) (lkN (by decide) (lkN (by decide) (lkN (by decide) (lkY)))) (lkN (by decide) (lkN (by decide) (lkY))) (lkN (by decide) (lkY)) (lkY)
  obtain ⟨h1, h2, h3⟩ := id hc
  have toG : ∀ (x : Nat) z, x < H.length → x ≠ A 0 → H[x]? = some z → G[x]? = some z := fun x z hx hn h => h1 x z ((t3 x hx hn).trans h) (fun q hq => ⟨by omega, by omega⟩)
  have mv : ∀ (x : Nat) z, c3R H WL x z → c3R G WL x z := fun x z h => ⟨toG x z (List.getElem?_eq_some_iff.mp h.1).1 (c3R_ne h k0.1) h.1, h.2⟩
  have hS2 := mS0_mv mv hN hS (fun x z hx hn h => toG x z (hWL x hx) hn h)
  have hbG : G[A 0]? = some (.inl (12, ((gs.set 3 (.inr (some H.length))).set 4 (.inr (some (H.length + 13)))).set 5 (.inr (some (H.length + 26))))) := h1 _ _ b3 (fun q hq => ⟨by omega, by omega⟩)
  have nWL : ∀ x, H.length ≤ x → ∀ k : Nat, WL[k]? ≠ some x := fun x hx k hk => by
    have := hWL x (List.mem_of_getElem? hk)
    omega
  have hD : mD n H.length (H.length + 13) (H.length + 26) WL G := fun q hq => by
    obtain ⟨⟨l, c1, c2, c3⟩, ⟨l', c4, c5, c6⟩⟩ := h3 q hq
    refine ⟨H.length + 1 + q, H.length + 13 + 1 + q, ⟨_, ⟨h1 _ _ hKD (fun q hq => ⟨by omega, by omega⟩), nWL _ (Nat.le_refl _)⟩, xr_len 12 _, (xr_get 12 _ q).trans (if_pos hq)⟩, ⟨_, ⟨h1 _ _ hKV (fun q hq => ⟨by omega, by omega⟩), nWL _ (by omega)⟩, xr_len 12 _, (xr_get 12 _ q).trans (if_pos hq)⟩, ⟨by omega, l, ⟨c1, nWL _ (by omega)⟩, c2, c3 hq⟩, ⟨by omega, l', ⟨c4, nWL _ (by omega)⟩, c5, c6 hq⟩, by omega, _, ⟨h1 _ _ o3 (fun q hq => ⟨by omega, by omega⟩), nWL _ (by omega)⟩, List.length_replicate, ?_⟩
    rw [List.getElem?_replicate, if_pos hq]
    rfl
  obtain ⟨H6, y6_, gs6, hb6, hl6⟩ := t222 (ot := ot) (dp := dp) hd hN hG3 hrp hrt g3 g4 g5 (by omega) hS2 hD hbG
  have hl62 : 62 < gs6.length := by omega
  have h6 : hm H6 H6 [A 0] [.inl (12, gs6)] := hm_rf (fun i j x hi hj => by
    rcases i with _ | i
    · rcases j with _ | j
      · rfl
      · cases hj
    · cases hi) rfl (fun k a z hk hz => by
    rcases k with _ | k
    · cases hk
      cases hz
      exact hb6
    · cases hk)
  have g31_ : hm _ _ [A 0] [.inl (12, (gs6).set 3 (.inr (some (D0))))] := hm_set (i := 0) (z2 := .inl (12, (gs6).set 3 (.inr (some (D0))))) h6 rfl
  have g32_ : hm _ _ [A 0] [.inl (12, ((gs6).set 3 (.inr (some (D0)))).set 4 (.inr (some (V0))))] := hm_set (i := 0) (z2 := .inl (12, ((gs6).set 3 (.inr (some (D0)))).set 4 (.inr (some (V0))))) g31_ rfl
  have g33_ : hm _ _ [A 0] [.inl (12, (((gs6).set 3 (.inr (some (D0)))).set 4 (.inr (some (V0)))).set 5 (.inr (some (U0))))] := hm_set (i := 0) (z2 := .inl (12, (((gs6).set 3 (.inr (some (D0)))).set 4 (.inr (some (V0)))).set 5 (.inr (some (U0))))) g32_ rfl
  refine ex_of g33_ ?_
  refine xT_iload_n g_q221 g221_0 (rfl) ?_
  refine xT_invokestatic (r := []) (u := some (.inl (nI (1)))) g_q221 g221_1 (j := 196) (so := 2) (by decide +kernel) g_q196 (rfl) (t196Y (dp := dp + 6) hy1 hy2) ?_
  refine xT_ifCondY g_q221 g221_4 (t := 10) (by decide) (c1Y (a := 1) (b := 0) (by omega) (by omega) (by omega)) ?_
  refine xT_aload_n g_q221 g221_10 (rfl) ?_
  refine xT_getfield g_q221 g221_11 hA0 rfl hb rfl q3 ?_
  refine xT_astore_n g_q221 g221_14 (by decide) ?_
  refine xT_aload_n g_q221 g221_15 (lkN (by decide) (rfl)) ?_
  refine xT_getfield g_q221 g221_16 hA0 rfl hb rfl q4 ?_
  refine xT_astore_n g_q221 g221_19 (by decide) ?_
  refine xT_aload_n g_q221 g221_20 (lkN (by decide) (lkN (by decide) (rfl))) ?_
  refine xT_getfield g_q221 g221_21 hA0 rfl hb rfl q5 ?_
  refine xT_astore g_q221 g221_24 (by decide) ?_
  refine xT_aload_n g_q221 g221_26 (lkN (by decide) (lkN (by decide) (lkN (by decide) (rfl)))) ?_
  refine xT_biV (y := nI (12)) g_q221 g221_27 (by decide) ?_
  refine xT_biV (y := nI (6)) g_q221 g221_29 (by decide) ?_
  refine xT_multianewarray g_q221 g221_31 (t2 := 5) (t1 := 0) (by decide +kernel) (by rw [decide_eq_true (show H.length + 1 + (nI 12).toNatClampNeg ≤ 1000000 from (by have e : (nI 12).toNatClampNeg = 12 := rfl; omega))]; rfl) ?_
  show x_To x_tb x_tyl ot (dp + 8) 221 35 _ (.inr (some H.length) :: _) (H ++ .inr (5, x_refs (H.length + 1) 12) :: x_rows 0 (List.replicate 6 (.inl 0)) 12) 13 84 _ _
  refine xT_putfield g_q221 g221_35 (ci := 12) (j := 3) rfl (al_b hb) rfl (by rw [decide_eq_true (show 3 < (gs).length from (by omega))]; rfl) ?_
  rw [e1]
  refine xT_aload_n g_q221 g221_38 (lkN (by decide) (lkN (by decide) (lkN (by decide) (rfl)))) ?_
  refine xT_biV (y := nI (12)) g_q221 g221_39 (by decide) ?_
  refine xT_biV (y := nI (6)) g_q221 g221_41 (by decide) ?_
  refine xT_multianewarray g_q221 g221_43 (t2 := 5) (t1 := 0) (by decide +kernel) (by rw [decide_eq_true (show K1.length + 1 + (nI 12).toNatClampNeg ≤ 1000000 from (by have e : (nI 12).toNatClampNeg = 12 := rfl; omega))]; rfl) ?_
  show x_To x_tb x_tyl ot (dp + 8) 221 47 _ (.inr (some K1.length) :: _) (K1 ++ .inr (5, x_refs (K1.length + 1) 12) :: x_rows 0 (List.replicate 6 (.inl 0)) 12) 26 168 _ _
  rw [l1]
  refine xT_putfield g_q221 g221_47 (ci := 12) (j := 4) rfl (al_b b1) rfl (by rw [decide_eq_true (show 4 < (gs.set 3 (.inr (some H.length))).length from (by rw [List.length_set]; omega))]; rfl) ?_
  rw [e2]
  refine xT_aload_n g_q221 g221_50 (lkN (by decide) (lkN (by decide) (lkN (by decide) (rfl)))) ?_
  refine xT_biV (y := nI (12)) g_q221 g221_51 (by decide) ?_
  refine xT_newarrayI g_q221 g221_53 (by rw [decide_eq_true (show K2.length + 1 ≤ 1000000 by omega)]; rfl) ?_
  show x_To x_tb x_tyl ot (dp + 8) 221 55 _ (.inr (some K2.length) :: _) (K2 ++ [.inr (0, List.replicate 12 (.inl 0))]) 27 180 _ _
  rw [l2]
  refine xT_putfield g_q221 g221_55 (ci := 12) (j := 5) rfl (al_b b2) rfl (by rw [decide_eq_true (show 5 < ((gs.set 3 (.inr (some H.length))).set 4 (.inr (some (H.length + 13)))).length from (by rw [List.length_set, List.length_set]; omega))]; rfl) ?_
  rw [e3]
  refine xT_icV (y := nI (0)) g_q221 g221_58 (by decide) ?_
  refine xT_istore g_q221 g221_59 (by decide) ?_
  refine hk _ _ (fun L l0 l1 l2 l3 l4 => ?_)
  · skip
    refine xT_aload_n g_q221 g221_112 (l0) ?_
    refine xT_iload_n g_q221 g221_113 (l1) ?_
    refine xT_icV (y := nI (0)) g_q221 g221_114 (by decide) ?_
    refine xT_icV (y := nI (0)) g_q221 g221_115 (by decide) ?_
    refine xT_invokevirtual (r := []) (u := some (.inl ((hrm d rp rt n)))) g_q221 g221_116 (j := 222) (so := 0) (by decide +kernel) g_q222 rfl (by rw [x_rcM hA0 hbG]; rfl) (y6_) ?_
    refine xT_istore g_q221 g221_119 (by decide) ?_
    refine xT_aload_n g_q221 g221_121 (lkN (by decide) (l0)) ?_
    refine xT_aload_n g_q221 g221_122 (lkN (by decide) (l2)) ?_
    refine xT_putfield g_q221 g221_123 (ci := 12) (j := 3) rfl (hm_at h6 (i := 0) rfl rfl) rfl (by rw [decide_eq_true (show 3 < (gs6).length from (by omega))]; rfl) ?_
    refine xT_aload_n g_q221 g221_126 (lkN (by decide) (l0)) ?_
    refine xT_aload_n g_q221 g221_127 (lkN (by decide) (l3)) ?_
    refine xT_putfield g_q221 g221_128 (ci := 12) (j := 4) rfl (hm_at g31_ (i := 0) rfl rfl) rfl (by rw [decide_eq_true (show 4 < ((gs6).set 3 (.inr (some (D0)))).length from (by rw [List.length_set]; omega))]; rfl) ?_
    refine xT_aload_n g_q221 g221_131 (lkN (by decide) (l0)) ?_
    refine xT_aload g_q221 g221_132 (lkN (by decide) (l4)) ?_
    refine xT_putfield g_q221 g221_134 (ci := 12) (j := 5) rfl (hm_at g32_ (i := 0) rfl rfl) rfl (by rw [decide_eq_true (show 5 < (((gs6).set 3 (.inr (some (D0)))).set 4 (.inr (some (V0)))).length from (by rw [List.length_set, List.length_set]; omega))]; rfl) ?_
    refine xT_iload g_q221 g221_137 (lkY) ?_
    exact xT_ireturn g_q221 g221_139 (rfl)
end XH33_58
