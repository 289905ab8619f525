/-! p33 by hand, 57. -/
noncomputable section XH33_57
variable {ot : XO Int32} {dp : Nat} {H H0 : List (XC Int32)}
/-- the settings of p programs are as at first -/
def fPh (D V : Nat) (K G : List (XC Int32)) (p : Nat) : Prop := (∀ (x : Nat) z, K[x]? = some z → (∀ q, q < 12 → x ≠ D + 1 + q ∧ x ≠ V + 1 + q) → G[x]? = some z) ∧ G.length = K.length ∧ ∀ q, q < 12 → (∃ l : List (XV Int32), G[D + 1 + q]? = some (.inr (0, l)) ∧ l.length = 6 ∧ (q < p → ∀ f, f < 6 → l[f]? = some (.inl (nI 2)))) ∧ ∃ l : List (XV Int32), G[V + 1 + q]? = some (.inr (0, l)) ∧ l.length = 6 ∧ (q < p → ∀ f, f < 6 → l[f]? = some (.inl (-1)))
theorem fPh_s {D V p : Nat} {K G G2 : List (XC Int32)} (h : fPh D V K G p) (hp : p < 12) (hv : V = D + 13) {l1 l2 : List (XV Int32)} (h1 : l1.length = 6 ∧ ∀ f, f < 6 → l1[f]? = some (.inl (nI 2))) (h2 : l2.length = 6 ∧ ∀ f, f < 6 → l2[f]? = some (.inl (-1))) (g : hm G G2 [D + 1 + p, V + 1 + p] [.inr (0, l1), .inr (0, l2)]) : fPh D V K G2 (p + 1) := by
  obtain ⟨a, b, c⟩ := h
  have no : ∀ {x : Nat}, x ≠ D + 1 + p → x ≠ V + 1 + p → ∀ k : Nat, [D + 1 + p, V + 1 + p][k]? ≠ some x := fun a b k hk => by
    rcases k with _ | _ | k
    · cases hk
      exact a rfl
    · cases hk
      exact b rfl
    · cases hk
  refine ⟨fun x z hx hn => hm_ro g (a x z hx hn) (no (hn p hp).1 (hn p hp).2), (hm_len g).trans b, fun q hq => ?_⟩
  obtain ⟨⟨l, e, f, i⟩, ⟨m, j, k, o⟩⟩ := c q hq
  by_cases w : q = p
  · subst w
    exact ⟨⟨_, hm_at g (i := 0) rfl rfl, h1.1, fun _ => h1.2⟩, ⟨_, hm_at g (i := 1) rfl rfl, h2.1, fun _ => h2.2⟩⟩
  · exact ⟨⟨l, hm_ro g e (no (by omega) (by omega)), f, fun z => i (by omega)⟩, ⟨m, hm_ro g j (no (by omega) (by omega)), k, fun z => o (by omega)⟩⟩
theorem t221_l {d : Ld} {A : Nat → Nat} {gs : List (XV Int32)} {D V a2 a3 a4 cn sn : Nat} (hv : V = D + 13) (h0 : A 0 < D) (g3 : gs[3]? = some (.inr (some D))) (g4 : gs[4]? = some (.inr (some V))) {K : List (XC Int32)} (hL : K.length ≤ 1000000) (hb : K[A 0]? = some (.inl (12, gs))) (hKD : K[D]? = some (.inr (5, x_refs (D + 1) 12))) (hKV : K[V]? = some (.inr (5, x_refs (V + 1) 12))) : ∀ (k p : Nat) (G : List (XC Int32)) (L : List (Nat × XV Int32)), p + k = 12 → fPh D V K G p → x_lk L 0 = some (.inr (some (A 0))) → x_lk L 1 = some (.inl ((dYr d))) → x_lk L 2 = some (.inr (some (a2))) → x_lk L 3 = some (.inr (some (a3))) → x_lk L 4 = some (.inr (some (a4))) → x_lk L 5 = some (.inl (nI (p))) → ∃ G', fPh D V K G' 12 ∧ ∀ (v : Option (XV Int32)) (H2 : List (XC Int32)), (∀ L', x_lk L' 0 = some (.inr (some (A 0))) → x_lk L' 1 = some (.inl ((dYr d))) → x_lk L' 2 = some (.inr (some (a2))) → x_lk L' 3 = some (.inr (some (a3))) → x_lk L' 4 = some (.inr (some (a4))) → x_To x_tb x_tyl ot dp 221 112 L' [] G' cn sn v H2) → x_To x_tb x_tyl ot dp 221 61 L [] G cn sn v H2 := by
  have z0 := lt_of hb hL
  have hA0 : ¬ 1000000 < A 0 := by omega
  intro k
  induction k with
  | zero =>
    intro p G L hp hc l0 l1 l2 l3 l4 l5
    obtain rfl : p = 12 := by omega
    refine ⟨G, hc, fun v H2 hk => ?_⟩
    refine xT_iload g_q221 g221_61 (l5) ?_
    refine xT_biV (y := nI (12)) g_q221 g221_63 (by decide) ?_
    refine xT_if_icmpY g_q221 g221_65 (t := 112) (by decide) (c3Y (a := 12) (b := 12) (Nat.le_refl _) (by omega) (by omega)) ?_
    exact hk _ (l0) (l1) (l2) (l3) (l4)
  | succ k ih =>
    intro p G L hp hc l0 l1 l2 l3 l4 l5
    have hp12 : p < 12 := by omega
    obtain ⟨h1, h2, h3⟩ := id hc
    obtain ⟨⟨la_, ca, nla, -⟩, ⟨lb_, cb_, nlb, -⟩⟩ := h3 p hp12
    have no : ∀ {x : Nat}, x ≠ D + 1 + p → x ≠ V + 1 + p → ∀ k : Nat, [D + 1 + p, V + 1 + p][k]? ≠ some x := fun a b k hk => by
      rcases k with _ | _ | k
      · cases hk
        exact a rfl
      · cases hk
        exact b rfl
      · cases hk
    have cb : c3R G [D + 1 + p, V + 1 + p] (A 0) (.inl (12, gs)) := ⟨h1 _ _ hb (fun q hq => ⟨by omega, by omega⟩), no (by omega) (by omega)⟩
    have cD : c3R G [D + 1 + p, V + 1 + p] D (.inr (5, x_refs (D + 1) 12)) := ⟨h1 _ _ hKD (fun q hq => ⟨by omega, by omega⟩), no (by omega) (by omega)⟩
    have cV : c3R G [D + 1 + p, V + 1 + p] V (.inr (5, x_refs (V + 1) 12)) := ⟨h1 _ _ hKV (fun q hq => ⟨by omega, by omega⟩), no (by omega) (by omega)⟩
    have g0 : hm G G [D + 1 + p, V + 1 + p] [.inr (0, la_), .inr (0, lb_)] := hm_rf (fun i j x hi hj => by
      rcases i with _ | _ | i
      · rcases j with _ | _ | j
        · rfl
        · cases hi
          injection hj with hj
          omega
        · cases hj
      · rcases j with _ | _ | j
        · cases hi
          injection hj with hj
          omega
        · rfl
        · cases hj
      · cases hi) rfl (fun k a z hk hz => by
      rcases k with _ | _ | k
      · cases hk
        cases hz
        exact ca
      · cases hk
        cases hz
        exact cb_
      · cases hk)
    have g1_ : hm _ _ [D + 1 + p, V + 1 + p] [.inr (0, (la_).set (0) (.inl (nI (2)))), .inr (0, lb_)] := hm_set (i := 0) (z2 := .inr (0, (la_).set (0) (.inl (nI (2))))) g0 rfl
    have g2_ : hm _ _ [D + 1 + p, V + 1 + p] [.inr (0, (la_).set (0) (.inl (nI (2)))), .inr (0, (lb_).set (0) (.inl (-1)))] := hm_set (i := 1) (z2 := .inr (0, (lb_).set (0) (.inl (-1)))) g1_ rfl
    have g3_ : hm _ _ [D + 1 + p, V + 1 + p] [.inr (0, ((la_).set (0) (.inl (nI (2)))).set (0 + 1) (.inl (nI (2)))), .inr (0, (lb_).set (0) (.inl (-1)))] := hm_set (i := 0) (z2 := .inr (0, ((la_).set (0) (.inl (nI (2)))).set (0 + 1) (.inl (nI (2))))) g2_ rfl
    have g4_ : hm _ _ [D + 1 + p, V + 1 + p] [.inr (0, ((la_).set (0) (.inl (nI (2)))).set (0 + 1) (.inl (nI (2)))), .inr (0, ((lb_).set (0) (.inl (-1))).set (0 + 1) (.inl (-1)))] := hm_set (i := 1) (z2 := .inr (0, ((lb_).set (0) (.inl (-1))).set (0 + 1) (.inl (-1)))) g3_ rfl
    have g5_ : hm _ _ [D + 1 + p, V + 1 + p] [.inr (0, (((la_).set (0) (.inl (nI (2)))).set (0 + 1) (.inl (nI (2)))).set (0 + 1 + 1) (.inl (nI (2)))), .inr (0, ((lb_).set (0) (.inl (-1))).set (0 + 1) (.inl (-1)))] := hm_set (i := 0) (z2 := .inr (0, (((la_).set (0) (.inl (nI (2)))).set (0 + 1) (.inl (nI (2)))).set (0 + 1 + 1) (.inl (nI (2))))) g4_ rfl
    have g6_ : hm _ _ [D + 1 + p, V + 1 + p] [.inr (0, (((la_).set (0) (.inl (nI (2)))).set (0 + 1) (.inl (nI (2)))).set (0 + 1 + 1) (.inl (nI (2)))), .inr (0, (((lb_).set (0) (.inl (-1))).set (0 + 1) (.inl (-1))).set (0 + 1 + 1) (.inl (-1)))] := hm_set (i := 1) (z2 := .inr (0, (((lb_).set (0) (.inl (-1))).set (0 + 1) (.inl (-1))).set (0 + 1 + 1) (.inl (-1)))) g5_ rfl
    have g7_ : hm _ _ [D + 1 + p, V + 1 + p] [.inr (0, ((((la_).set (0) (.inl (nI (2)))).set (0 + 1) (.inl (nI (2)))).set (0 + 1 + 1) (.inl (nI (2)))).set (0 + 1 + 1 + 1) (.inl (nI (2)))), .inr (0, (((lb_).set (0) (.inl (-1))).set (0 + 1) (.inl (-1))).set (0 + 1 + 1) (.inl (-1)))] := hm_set (i := 0) (z2 := .inr (0, ((((la_).set (0) (.inl (nI (2)))).set (0 + 1) (.inl (nI (2)))).set (0 + 1 + 1) (.inl (nI (2)))).set (0 + 1 + 1 + 1) (.inl (nI (2))))) g6_ rfl
    have g8_ : hm _ _ [D + 1 + p, V + 1 + p] [.inr (0, ((((la_).set (0) (.inl (nI (2)))).set (0 + 1) (.inl (nI (2)))).set (0 + 1 + 1) (.inl (nI (2)))).set (0 + 1 + 1 + 1) (.inl (nI (2)))), .inr (0, ((((lb_).set (0) (.inl (-1))).set (0 + 1) (.inl (-1))).set (0 + 1 + 1) (.inl (-1))).set (0 + 1 + 1 + 1) (.inl (-1)))] := hm_set (i := 1) (z2 := .inr (0, ((((lb_).set (0) (.inl (-1))).set (0 + 1) (.inl (-1))).set (0 + 1 + 1) (.inl (-1))).set (0 + 1 + 1 + 1) (.inl (-1)))) g7_ rfl
    have g9_ : hm _ _ [D + 1 + p, V + 1 + p] [.inr (0, (((((la_).set (0) (.inl (nI (2)))).set (0 + 1) (.inl (nI (2)))).set (0 + 1 + 1) (.inl (nI (2)))).set (0 + 1 + 1 + 1) (.inl (nI (2)))).set (0 + 1 + 1 + 1 + 1) (.inl (nI (2)))), .inr (0, ((((lb_).set (0) (.inl (-1))).set (0 + 1) (.inl (-1))).set (0 + 1 + 1) (.inl (-1))).set (0 + 1 + 1 + 1) (.inl (-1)))] := hm_set (i := 0) (z2 := .inr (0, (((((la_).set (0) (.inl (nI (2)))).set (0 + 1) (.inl (nI (2)))).set (0 + 1 + 1) (.inl (nI (2)))).set (0 + 1 + 1 + 1) (.inl (nI (2)))).set (0 + 1 + 1 + 1 + 1) (.inl (nI (2))))) g8_ rfl
    have g10_ : hm _ _ [D + 1 + p, V + 1 + p] [.inr (0, (((((la_).set (0) (.inl (nI (2)))).set (0 + 1) (.inl (nI (2)))).set (0 + 1 + 1) (.inl (nI (2)))).set (0 + 1 + 1 + 1) (.inl (nI (2)))).set (0 + 1 + 1 + 1 + 1) (.inl (nI (2)))), .inr (0, (((((lb_).set (0) (.inl (-1))).set (0 + 1) (.inl (-1))).set (0 + 1 + 1) (.inl (-1))).set (0 + 1 + 1 + 1) (.inl (-1))).set (0 + 1 + 1 + 1 + 1) (.inl (-1)))] := hm_set (i := 1) (z2 := .inr (0, (((((lb_).set (0) (.inl (-1))).set (0 + 1) (.inl (-1))).set (0 + 1 + 1) (.inl (-1))).set (0 + 1 + 1 + 1) (.inl (-1))).set (0 + 1 + 1 + 1 + 1) (.inl (-1)))) g9_ rfl
    have g11_ : hm _ _ [D + 1 + p, V + 1 + p] [.inr (0, ((((((la_).set (0) (.inl (nI (2)))).set (0 + 1) (.inl (nI (2)))).set (0 + 1 + 1) (.inl (nI (2)))).set (0 + 1 + 1 + 1) (.inl (nI (2)))).set (0 + 1 + 1 + 1 + 1) (.inl (nI (2)))).set (0 + 1 + 1 + 1 + 1 + 1) (.inl (nI (2)))), .inr (0, (((((lb_).set (0) (.inl (-1))).set (0 + 1) (.inl (-1))).set (0 + 1 + 1) (.inl (-1))).set (0 + 1 + 1 + 1) (.inl (-1))).set (0 + 1 + 1 + 1 + 1) (.inl (-1)))] := hm_set (i := 0) (z2 := .inr (0, ((((((la_).set (0) (.inl (nI (2)))).set (0 + 1) (.inl (nI (2)))).set (0 + 1 + 1) (.inl (nI (2)))).set (0 + 1 + 1 + 1) (.inl (nI (2)))).set (0 + 1 + 1 + 1 + 1) (.inl (nI (2)))).set (0 + 1 + 1 + 1 + 1 + 1) (.inl (nI (2))))) g10_ rfl
    have g12_ : hm _ _ [D + 1 + p, V + 1 + p] [.inr (0, ((((((la_).set (0) (.inl (nI (2)))).set (0 + 1) (.inl (nI (2)))).set (0 + 1 + 1) (.inl (nI (2)))).set (0 + 1 + 1 + 1) (.inl (nI (2)))).set (0 + 1 + 1 + 1 + 1) (.inl (nI (2)))).set (0 + 1 + 1 + 1 + 1 + 1) (.inl (nI (2)))), .inr (0, ((((((lb_).set (0) (.inl (-1))).set (0 + 1) (.inl (-1))).set (0 + 1 + 1) (.inl (-1))).set (0 + 1 + 1 + 1) (.inl (-1))).set (0 + 1 + 1 + 1 + 1) (.inl (-1))).set (0 + 1 + 1 + 1 + 1 + 1) (.inl (-1)))] := hm_set (i := 1) (z2 := .inr (0, ((((((lb_).set (0) (.inl (-1))).set (0 + 1) (.inl (-1))).set (0 + 1 + 1) (.inl (-1))).set (0 + 1 + 1 + 1) (.inl (-1))).set (0 + 1 + 1 + 1 + 1) (.inl (-1))).set (0 + 1 + 1 + 1 + 1 + 1) (.inl (-1)))) g11_ rfl
    obtain ⟨G', x1, x2⟩ := ih (p + 1) _ (x_st (x_st (x_st (x_st (x_st (x_st (x_st (x_st (L) 6 (.inl (nI (0)))) 6 (.inl (nI (0 + 1)))) 6 (.inl (nI (0 + 1 + 1)))) 6 (.inl (nI (0 + 1 + 1 + 1)))) 6 (.inl (nI (0 + 1 + 1 + 1 + 1)))) 6 (.inl (nI (0 + 1 + 1 + 1 + 1 + 1)))) 6 (.inl (nI (0 + 1 + 1 + 1 + 1 + 1 + 1)))) 5 (.inl (nI (p + 1)))) (by omega) (fPh_s hc hp12 hv ⟨by rw [List.length_set, List.length_set, List.length_set, List.length_set, List.length_set, List.length_set]; exact nla, six_v nla⟩ ⟨by rw [List.length_set, List.length_set, List.length_set, List.length_set, List.length_set, List.length_set]; exact nlb, six_v nlb⟩ g12_) (lkN (by decide) (lkN (by decide) (lkN (by decide) (lkN (by decide) (lkN (by decide) (lkN (by decide) (lkN (by decide) (lkN (by decide) (l0))))))))) (lkN (by decide) (lkN (by decide) (lkN (by decide) (lkN (by decide) (lkN (by decide) (lkN (by decide) (lkN (by decide) (lkN (by decide) (l1))))))))) (lkN (by decide) (lkN (by decide) (lkN (by decide) (lkN (by decide) (lkN (by decide) (lkN (by decide) (lkN (by decide) (lkN (by decide) (l2))))))))) (lkN (by decide) (lkN (by decide) (lkN (by decide) (lkN (by decide) (lkN (by decide) (lkN (by decide) (lkN (by decide) (lkN (by decide) (l3))))))))) (lkN (by decide) (lkN (by decide) (lkN (by decide) (lkN (by decide) (lkN (by decide) (lkN (by decide) (lkN (by decide) (lkN (by decide) (l4))))))))) (lkY)
    refine ⟨G', x1, fun v H2 hk => ?_⟩
    refine xT_iload g_q221 g221_61 (l5) ?_
    refine xT_biV (y := nI (12)) g_q221 g221_63 (by decide) ?_
    refine xT_if_icmpN g_q221 g221_65 (t := 112) (by decide) (c3N (a := p) (b := 12) (by omega) (by omega) (by omega)) ?_
    refine xT_icV (y := nI (0)) g_q221 g221_68 (by decide) ?_
    refine xT_istore g_q221 g221_69 (by decide) ?_
    refine xT_iload g_q221 g221_71 (lkY) ?_
    refine xT_biV (y := nI (6)) g_q221 g221_73 (by decide) ?_
    refine xT_if_icmpN g_q221 g221_75 (t := 106) (by decide) (c3N (a := 0) (b := 6) (by omega) (by omega) (by omega)) ?_
    refine xT_aload_n g_q221 g221_78 (lkN (by decide) (l0)) ?_
    refine xT_getfield g_q221 g221_79 hA0 rfl (hm_c g0 cb) rfl g3 ?_
    refine xT_iload g_q221 g221_82 (lkN (by decide) (l5)) ?_
    refine xT_aaload g_q221 g221_84 (by decide +kernel) (hm_c g0 cD) (ixN (n := 12) (by omega) (xr_len 12 _)) (ixG (by omega) ((xr_get 12 _ p).trans (if_pos hp12))) ?_
    refine xT_iload g_q221 g221_85 (lkY) ?_
    refine xT_icV (y := nI (2)) g_q221 g221_87 (by decide) ?_
    refine xT_iastore g_q221 g221_88 (hm_at g0 (i := 0) rfl rfl) (ixN (n := 6) (by omega) nla) ?_
    rw [nI_clamp (by omega)]
    refine xT_aload_n g_q221 g221_89 (lkN (by decide) (l0)) ?_
    refine xT_getfield g_q221 g221_90 hA0 rfl (hm_c g1_ cb) rfl g4 ?_
    refine xT_iload g_q221 g221_93 (lkN (by decide) (l5)) ?_
    refine xT_aaload g_q221 g221_95 (by decide +kernel) (hm_c g1_ cV) (ixN (n := 12) (by omega) (xr_len 12 _)) (ixG (by omega) ((xr_get 12 _ p).trans (if_pos hp12))) ?_
    refine xT_iload g_q221 g221_96 (lkY) ?_
    refine xT_icV (y := -1) g_q221 g221_98 (by decide) ?_
    refine xT_iastore g_q221 g221_99 (hm_at g1_ (i := 1) rfl rfl) (ixN (n := 6) (by omega) nlb) ?_
    rw [nI_clamp (by omega)]
    refine xT_iincV (y := nI (0 + 1)) g_q221 g221_100 (lkY) (by decide) (bIncN _) ?_
    refine xT_goto g_q221 g221_103 (t := 71) (by decide) ?_
    refine xT_iload g_q221 g221_71 (lkY) ?_
    refine xT_biV (y := nI (6)) g_q221 g221_73 (by decide) ?_
    refine xT_if_icmpN g_q221 g221_75 (t := 106) (by decide) (c3N (a := 0 + 1) (b := 6) (by omega) (by omega) (by omega)) ?_
    refine xT_aload_n g_q221 g221_78 (lkN (by decide) (lkN (by decide) (l0))) ?_
    refine xT_getfield g_q221 g221_79 hA0 rfl (hm_c g2_ cb) rfl g3 ?_
    refine xT_iload g_q221 g221_82 (lkN (by decide) (lkN (by decide) (l5))) ?_
    refine xT_aaload g_q221 g221_84 (by decide +kernel) (hm_c g2_ cD) (ixN (n := 12) (by omega) (xr_len 12 _)) (ixG (by omega) ((xr_get 12 _ p).trans (if_pos hp12))) ?_
    refine xT_iload g_q221 g221_85 (lkY) ?_
    refine xT_icV (y := nI (2)) g_q221 g221_87 (by decide) ?_
    refine xT_iastore g_q221 g221_88 (hm_at g2_ (i := 0) rfl rfl) (ixN (n := 6) (by omega) (by rw [List.length_set]; exact nla)) ?_
    rw [nI_clamp (by omega)]
    refine xT_aload_n g_q221 g221_89 (lkN (by decide) (lkN (by decide) (l0))) ?_
    refine xT_getfield g_q221 g221_90 hA0 rfl (hm_c g3_ cb) rfl g4 ?_
    refine xT_iload g_q221 g221_93 (lkN (by decide) (lkN (by decide) (l5))) ?_
    refine xT_aaload g_q221 g221_95 (by decide +kernel) (hm_c g3_ cV) (ixN (n := 12) (by omega) (xr_len 12 _)) (ixG (by omega) ((xr_get 12 _ p).trans (if_pos hp12))) ?_
    refine xT_iload g_q221 g221_96 (lkY) ?_
    refine xT_icV (y := -1) g_q221 g221_98 (by decide) ?_
    refine xT_iastore g_q221 g221_99 (hm_at g3_ (i := 1) rfl rfl) (ixN (n := 6) (by omega) (by rw [List.length_set]; exact nlb)) ?_
    rw [nI_clamp (by omega)]
    refine xT_iincV (y := nI (0 + 1 + 1)) g_q221 g221_100 (lkY) (by decide) (bIncN _) ?_
    refine xT_goto g_q221 g221_103 (t := 71) (by decide) ?_
    refine xT_iload g_q221 g221_71 (lkY) ?_
    refine xT_biV (y := nI (6)) g_q221 g221_73 (by decide) ?_
    refine xT_if_icmpN g_q221 g221_75 (t := 106) (by decide) (c3N (a := 0 + 1 + 1) (b := 6) (by omega) (by omega) (by omega)) ?_
    refine xT_aload_n g_q221 g221_78 (lkN (by decide) (lkN (by decide) (lkN (by decide) (l0)))) ?_
    refine xT_getfield g_q221 g221_79 hA0 rfl (hm_c g4_ cb) rfl g3 ?_
    refine xT_iload g_q221 g221_82 (lkN (by decide) (lkN (by decide) (lkN (by decide) (l5)))) ?_
    refine xT_aaload g_q221 g221_84 (by decide +kernel) (hm_c g4_ cD) (ixN (n := 12) (by omega) (xr_len 12 _)) (ixG (by omega) ((xr_get 12 _ p).trans (if_pos hp12))) ?_
    refine xT_iload g_q221 g221_85 (lkY) ?_
    refine xT_icV (y := nI (2)) g_q221 g221_87 (by decide) ?_
    refine xT_iastore g_q221 g221_88 (hm_at g4_ (i := 0) rfl rfl) (ixN (n := 6) (by omega) (by rw [List.length_set, List.length_set]; exact nla)) ?_
    rw [nI_clamp (by omega)]
    refine xT_aload_n g_q221 g221_89 (lkN (by decide) (lkN (by decide) (lkN (by decide) (l0)))) ?_
    refine xT_getfield g_q221 g221_90 hA0 rfl (hm_c g5_ cb) rfl g4 ?_
    refine xT_iload g_q221 g221_93 (lkN (by decide) (lkN (by decide) (lkN (by decide) (l5)))) ?_
    refine xT_aaload g_q221 g221_95 (by decide +kernel) (hm_c g5_ cV) (ixN (n := 12) (by omega) (xr_len 12 _)) (ixG (by omega) ((xr_get 12 _ p).trans (if_pos hp12))) ?_
    refine xT_iload g_q221 g221_96 (lkY) ?_
    refine xT_icV (y := -1) g_q221 g221_98 (by decide) ?_
    refine xT_iastore g_q221 g221_99 (hm_at g5_ (i := 1) rfl rfl) (ixN (n := 6) (by omega) (by rw [List.length_set, List.length_set]; exact nlb)) ?_
    rw [nI_clamp (by omega)]
    refine xT_iincV (y := nI (0 + 1 + 1 + 1)) g_q221 g221_100 (lkY) (by decide) (bIncN _) ?_
    refine xT_goto g_q221 g221_103 (t := 71) (by decide) ?_
    refine xT_iload g_q221 g221_71 (lkY) ?_
    refine xT_biV (y := nI (6)) g_q221 g221_73 (by decide) ?_
    refine xT_if_icmpN g_q221 g221_75 (t := 106) (by decide) (c3N (a := 0 + 1 + 1 + 1) (b := 6) (by omega) (by omega) (by omega)) ?_
    refine xT_aload_n g_q221 g221_78 (lkN (by decide) (lkN (by decide) (lkN (by decide) (lkN (by decide) (l0))))) ?_
    refine xT_getfield g_q221 g221_79 hA0 rfl (hm_c g6_ cb) rfl g3 ?_
    refine xT_iload g_q221 g221_82 (lkN (by decide) (lkN (by decide) (lkN (by decide) (lkN (by decide) (l5))))) ?_
    refine xT_aaload g_q221 g221_84 (by decide +kernel) (hm_c g6_ cD) (ixN (n := 12) (by omega) (xr_len 12 _)) (ixG (by omega) ((xr_get 12 _ p).trans (if_pos hp12))) ?_
    refine xT_iload g_q221 g221_85 (lkY) ?_
    refine xT_icV (y := nI (2)) g_q221 g221_87 (by decide) ?_
    refine xT_iastore g_q221 g221_88 (hm_at g6_ (i := 0) rfl rfl) (ixN (n := 6) (by omega) (by rw [List.length_set, List.length_set, List.length_set]; exact nla)) ?_
    rw [nI_clamp (by omega)]
    refine xT_aload_n g_q221 g221_89 (lkN (by decide) (lkN (by decide) (lkN (by decide) (lkN (by decide) (l0))))) ?_
    refine xT_getfield g_q221 g221_90 hA0 rfl (hm_c g7_ cb) rfl g4 ?_
    refine xT_iload g_q221 g221_93 (lkN (by decide) (lkN (by decide) (lkN (by decide) (lkN (by decide) (l5))))) ?_
    refine xT_aaload g_q221 g221_95 (by decide +kernel) (hm_c g7_ cV) (ixN (n := 12) (by omega) (xr_len 12 _)) (ixG (by omega) ((xr_get 12 _ p).trans (if_pos hp12))) ?_
    refine xT_iload g_q221 g221_96 (lkY) ?_
    refine xT_icV (y := -1) g_q221 g221_98 (by decide) ?_
    refine xT_iastore g_q221 g221_99 (hm_at g7_ (i := 1) rfl rfl) (ixN (n := 6) (by omega) (by rw [List.length_set, List.length_set, List.length_set]; exact nlb)) ?_
    rw [nI_clamp (by omega)]
    refine xT_iincV (y := nI (0 + 1 + 1 + 1 + 1)) g_q221 g221_100 (lkY) (by decide) (bIncN _) ?_
    refine xT_goto g_q221 g221_103 (t := 71) (by decide) ?_
    refine xT_iload g_q221 g221_71 (lkY) ?_
    refine xT_biV (y := nI (6)) g_q221 g221_73 (by decide) ?_
    refine xT_if_icmpN g_q221 g221_75 (t := 106) (by decide) (c3N (a := 0 + 1 + 1 + 1 + 1) (b := 6) (by omega) (by omega) (by omega)) ?_
    refine xT_aload_n g_q221 g221_78 (lkN (by decide) (lkN (by decide) (lkN (by decide) (lkN (by decide) (lkN (by decide) (l0)))))) ?_
    refine xT_getfield g_q221 g221_79 hA0 rfl (hm_c g8_ cb) rfl g3 ?_
    refine xT_iload g_q221 g221_82 (lkN (by decide) (lkN (by decide) (lkN (by decide) (lkN (by decide) (lkN (by decide) (l5)))))) ?_
    refine xT_aaload g_q221 g221_84 (by decide +kernel) (hm_c g8_ cD) (ixN (n := 12) (by omega) (xr_len 12 _)) (ixG (by omega) ((xr_get 12 _ p).trans (if_pos hp12))) ?_
    refine xT_iload g_q221 g221_85 (lkY) ?_
    refine xT_icV (y := nI (2)) g_q221 g221_87 (by decide) ?_
    refine xT_iastore g_q221 g221_88 (hm_at g8_ (i := 0) rfl rfl) (ixN (n := 6) (by omega) (by rw [List.length_set, List.length_set, List.length_set, List.length_set]; exact nla)) ?_
    rw [nI_clamp (by omega)]
    refine xT_aload_n g_q221 g221_89 (lkN (by decide) (lkN (by decide) (lkN (by decide) (lkN (by decide) (lkN (by decide) (l0)))))) ?_
    refine xT_getfield g_q221 g221_90 hA0 rfl (hm_c g9_ cb) rfl g4 ?_
    refine xT_iload g_q221 g221_93 (lkN (by decide) (lkN (by decide) (lkN (by decide) (lkN (by decide) (lkN (by decide) (l5)))))) ?_
    refine xT_aaload g_q221 g221_95 (by decide +kernel) (hm_c g9_ cV) (ixN (n := 12) (by omega) (xr_len 12 _)) (ixG (by omega) ((xr_get 12 _ p).trans (if_pos hp12))) ?_
    refine xT_iload g_q221 g221_96 (lkY) ?_
    refine xT_icV (y := -1) g_q221 g221_98 (by decide) ?_
    refine xT_iastore g_q221 g221_99 (hm_at g9_ (i := 1) rfl rfl) (ixN (n := 6) (by omega) (by rw [List.length_set, List.length_set, List.length_set, List.length_set]; exact nlb)) ?_
    rw [nI_clamp (by omega)]
    refine xT_iincV (y := nI (0 + 1 + 1 + 1 + 1 + 1)) g_q221 g221_100 (lkY) (by decide) (bIncN _) ?_
    refine xT_goto g_q221 g221_103 (t := 71) (by decide) ?_
    refine xT_iload g_q221 g221_71 (lkY) ?_
    refine xT_biV (y := nI (6)) g_q221 g221_73 (by decide) ?_
    refine xT_if_icmpN g_q221 g221_75 (t := 106) (by decide) (c3N (a := 0 + 1 + 1 + 1 + 1 + 1) (b := 6) (by omega) (by omega) (by omega)) ?_
    refine xT_aload_n g_q221 g221_78 (lkN (by decide) (lkN (by decide) (lkN (by decide) (lkN (by decide) (lkN (by decide) (lkN (by decide) (l0))))))) ?_
    refine xT_getfield g_q221 g221_79 hA0 rfl (hm_c g10_ cb) rfl g3 ?_
    refine xT_iload g_q221 g221_82 (lkN (by decide) (lkN (by decide) (lkN (by decide) (lkN (by decide) (lkN (by decide) (lkN (by decide) (l5))))))) ?_
    refine xT_aaload g_q221 g221_84 (by decide +kernel) (hm_c g10_ cD) (ixN (n := 12) (by omega) (xr_len 12 _)) (ixG (by omega) ((xr_get 12 _ p).trans (if_pos hp12))) ?_
    refine xT_iload g_q221 g221_85 (lkY) ?_
    refine xT_icV (y := nI (2)) g_q221 g221_87 (by decide) ?_
    refine xT_iastore g_q221 g221_88 (hm_at g10_ (i := 0) rfl rfl) (ixN (n := 6) (by omega) (by rw [List.length_set, List.length_set, List.length_set, List.length_set, List.length_set]; exact nla)) ?_
    rw [nI_clamp (by omega)]
    refine xT_aload_n g_q221 g221_89 (lkN (by decide) (lkN (by decide) (lkN (by decide) (lkN (by decide) (lkN (by decide) (lkN (by decide) (l0))))))) ?_
    refine xT_getfield g_q221 g221_90 hA0 rfl (hm_c g11_ cb) rfl g4 ?_
    refine xT_iload g_q221 g221_93 (lkN (by decide) (lkN (by decide) (lkN (by decide) (lkN (by decide) (lkN (by decide) (lkN (by decide) (l5))))))) ?_
    refine xT_aaload g_q221 g221_95 (by decide +kernel) (hm_c g11_ cV) (ixN (n := 12) (by omega) (xr_len 12 _)) (ixG (by omega) ((xr_get 12 _ p).trans (if_pos hp12))) ?_
    refine xT_iload g_q221 g221_96 (lkY) ?_
    refine xT_icV (y := -1) g_q221 g221_98 (by decide) ?_
    refine xT_iastore g_q221 g221_99 (hm_at g11_ (i := 1) rfl rfl) (ixN (n := 6) (by omega) (by rw [List.length_set, List.length_set, List.length_set, List.length_set, List.length_set]; exact nlb)) ?_
    rw [nI_clamp (by omega)]
    refine xT_iincV (y := nI (0 + 1 + 1 + 1 + 1 + 1 + 1)) g_q221 g221_100 (lkY) (by decide) (bIncN _) ?_
    refine xT_goto g_q221 g221_103 (t := 71) (by decide) ?_
    refine xT_iload g_q221 g221_71 (lkY) ?_
    refine xT_biV (y := nI (6)) g_q221 g221_73 (by decide) ?_
    refine xT_if_icmpY g_q221 g221_75 (t := 106) (by decide) (c3Y (a := 0 + 1 + 1 + 1 + 1 + 1 + 1) (b := 6) (by omega) (by omega) (by omega)) ?_
    refine xT_iincV (y := nI (p + 1)) g_q221 g221_106 (lkN (by decide) (lkN (by decide) (lkN (by decide) (lkN (by decide) (lkN (by decide) (lkN (by decide) (lkN (by decide) (l5)))))))) (by decide) (bIncN _) ?_
    refine xT_goto g_q221 g221_109 (t := 61) (by decide) ?_
    exact x2 v H2 hk
end XH33_57
