/-! p31 by hand, both sides, 0. -/
noncomputable section XG31_0
variable {xs : Nat → Int32} {n0 : Nat} {sf : Option Nat} {DA DB : Nat} {R : Option (XV Int32) → List (XC Int32) → Option (XV Int32) → List (XC Int32) → Prop} {a b tr tc fr rb n m la lb : Nat} {vs wl : List (XV Int32)}
theorem cvF (hG : wGoes x_KT x_tb x_tyl (x_otS xs n0 sf) lwFR lwGA.length lwGB.length 7 28 44 shwWA shwWB 136 248 65 66 shw_in (shw_g0_ex.map (fun x => (false, x)))) (hDA : 66 ≤ DA) (hDB : 66 ≤ DB) {t w : Nat} (ht : t < n) {vs wl0 : List (XV Int32)} {A : Int32} {c0 : pC} (kk : ∀ (S : Int32) (c : pC) (wl : List (XV Int32)) (LA LB : List (Nat × XV Int32)), J a b tr tc fr rb n m la lb c vs wl → cvFar c0 c → wl[t]? = some (.inl S) → (∀ i, i ≠ t → wl[i]? = wl0[i]?) → x_lk LA 0 = some (.inr (some (a))) → x_lk LA 1 = some (.inl (nI (w))) → x_lk LA 2 = some (.inl (nI (t))) → x_lk LA 3 = some (.inl (S)) → x_lk LB 0 = some (.inr (some (b))) → x_lk LB 1 = some (.inl (nI (w))) → x_lk LB 2 = some (.inr (some (rb))) → x_lk LB 3 = some (.inl (A)) → x_lk LB 4 = some (.inl (nI (t))) → GO (x_otS xs n0 sf) DA DB R 68 74 LA LB (cHA c) (cHB c)) : ∀ (d f : Nat) (S : Int32) (c : pC) (wl : List (XV Int32)) (LA LB : List (Nat × XV Int32)), f + d = m → J a b tr tc fr rb n m la lb c vs wl → cvFar c0 c → wl[t]? = some (.inl S) → (∀ i, i ≠ t → wl[i]? = wl0[i]?) → x_lk LA 0 = some (.inr (some (a))) → x_lk LA 1 = some (.inl (nI (w))) → x_lk LA 2 = some (.inl (nI (t))) → x_lk LA 3 = some (.inl (S)) → x_lk LA 4 = some (.inl (nI (f))) → x_lk LB 0 = some (.inr (some (b))) → x_lk LB 1 = some (.inl (nI (w))) → x_lk LB 2 = some (.inr (some (rb))) → x_lk LB 3 = some (.inl (A)) → x_lk LB 4 = some (.inl (nI (t))) → x_lk LB 5 = some (.inl (nI (f))) → GO (x_otS xs n0 sf) DA DB R 29 33 LA LB (cHA c) (cHB c) := by
  intro d
  induction d with
  | zero =>
    intro f S c wl LA LB hfd hJ hW hS hO l0 l1 l2 l3 l4 m0 m1 m2 m3 m4 m5
    obtain ⟨haA, htA, hfA, hcA, hn8, hm8, gs, ts, us, ha, g14, g15, ht0, s1, s2, s3, hf0, u3, hv, hvl⟩ := J_T hJ
    obtain ⟨hbA, -, -, hs, hb0, h32, h34⟩ := J_M hJ
    obtain ⟨hrA, hr0, hrl⟩ := J_Y hJ
    obtain rfl : m = f := by omega
    obtain ⟨vA, H1, vB, H2, x1, x2, hR⟩ := kk S c wl LA LB hJ hW hS hO l0 l1 l2 l3 m0 m1 m2 m3 m4
    refine ⟨vA, H1, vB, H2, ?_, ?_, hR⟩
    · skip
      refine xT_iload g_q137 g137_29 (l4) ?_
      refine xT_aload_n g_q137 g137_31 (l0) ?_
      refine xT_getfield g_q137 g137_32 haA rfl ha rfl g15 ?_
      refine xT_getfield g_q137 g137_35 hfA rfl hf0 rfl u3 ?_
      refine xT_if_icmpY g_q137 g137_38 (t := 68) (by decide) (c3Y (a := m) (b := m) (Nat.le_refl _) (by omega) (by omega)) ?_
      exact x1
    · skip
      refine xT_iload g_q249 g249_33 (m5) ?_
      refine xT_aload_n g_q249 g249_35 (m0) ?_
      refine xT_getfield g_q249 g249_36 hbA rfl hb0 rfl h34 ?_
      refine xT_if_icmpY g_q249 g249_39 (t := 74) (by decide) (c3Y (a := m) (b := m) (Nat.le_refl _) (by omega) (by omega)) ?_
      exact x2
  | succ d ih =>
    intro f S c wl LA LB hfd hJ hW hS hO l0 l1 l2 l3 l4 m0 m1 m2 m3 m4 m5
    obtain ⟨haA, htA, hfA, hcA, hn8, hm8, gs, ts, us, ha, g14, g15, ht0, s1, s2, s3, hf0, u3, hv, hvl⟩ := J_T hJ
    obtain ⟨hbA, -, -, hs, hb0, h32, h34⟩ := J_M hJ
    obtain ⟨hrA, hr0, hrl⟩ := J_Y hJ
    obtain ⟨x, d2, hx, y1, y2, hJ2, hW2⟩ := J_is hG hDA hDB hJ ht (show f < m by omega)
    rcases (show x = 0 ∨ x = 1 by omega) with rfl | rfl
    · have hr2 := (J_Y hJ2).2.1
      obtain ⟨hJ3, hW3⟩ := J_by hJ2 (t := t) (x := x_bin 4 S (nI 0))
      obtain ⟨vA, H1, vB, H2, x1, x2, hR⟩ := ih (f + 1) (x_bin 4 S (nI 0)) _ _ (x_st (x_st (LA) 3 (.inl (x_bin 4 S (nI 0)))) 4 (.inl (nI (f + 1)))) (x_st (LB) 5 (.inl (nI (f + 1)))) (by omega) hJ3 (wFar_tr hW (wFar_tr hW2 hW3)) (List.getElem?_set_self (by omega)) (fun i hi => by
        rw [List.getElem?_set_ne (fun z => hi z.symm)]
        exact hO i hi) (lkN (by decide) (lkN (by decide) (l0))) (lkN (by decide) (lkN (by decide) (l1))) (lkN (by decide) (lkN (by decide) (l2))) (lkN (by decide) (lkY)) (lkY) (lkN (by decide) (m0)) (lkN (by decide) (m1)) (lkN (by decide) (m2)) (lkN (by decide) (m3)) (lkN (by decide) (m4)) (lkY)
      refine ⟨vA, H1, vB, H2, ?_, ?_, hR⟩
      · skip
        refine xT_iload g_q137 g137_29 (l4) ?_
        refine xT_aload_n g_q137 g137_31 (l0) ?_
        refine xT_getfield g_q137 g137_32 haA rfl ha rfl g15 ?_
        refine xT_getfield g_q137 g137_35 hfA rfl hf0 rfl u3 ?_
        refine xT_if_icmpN g_q137 g137_38 (t := 68) (by decide) (c3N (a := f) (b := m) (by omega) (by omega) (by omega)) ?_
        refine xT_iload_n g_q137 g137_41 (l3) ?_
        refine xT_aload_n g_q137 g137_42 (l0) ?_
        refine xT_iload_n g_q137 g137_43 (l2) ?_
        refine xT_iload g_q137 g137_44 (l4) ?_
        refine xT_invokevirtual (r := [.inl (S)]) (u := some (.inl (nI (0)))) g_q137 g137_46 (j := 136) (so := 0) (by decide +kernel) g_q136 rfl (by rw [x_rcM haA ha]; rfl) (y1) ?_
        refine xT_ifCondY g_q137 g137_49 (t := 59) (by decide) (c0Y (b := 0) rfl) ?_
        refine xT_icV (y := nI (0)) g_q137 g137_59 (by decide) ?_
        refine xT_iorV (y := x_bin 4 S (nI 0)) g_q137 g137_60 (rfl) ?_
        refine xT_istore_n g_q137 g137_61 (by decide) ?_
        refine xT_iincV (y := nI (f + 1)) g_q137 g137_62 (lkN (by decide) (l4)) (by decide) (bIncN _) ?_
        refine xT_goto g_q137 g137_65 (t := 29) (by decide) ?_
        exact x1
      · skip
        refine xT_iload g_q249 g249_33 (m5) ?_
        refine xT_aload_n g_q249 g249_35 (m0) ?_
        refine xT_getfield g_q249 g249_36 hbA rfl hb0 rfl h34 ?_
        refine xT_if_icmpN g_q249 g249_39 (t := 74) (by decide) (c3N (a := f) (b := m) (by omega) (by omega) (by omega)) ?_
        refine xT_aload_n g_q249 g249_42 (m2) ?_
        refine xT_iload g_q249 g249_43 (m4) ?_
        refine xT_dup2 g_q249 g249_45 ?_
        refine xT_iaload g_q249 g249_46 (by omega) hr0 (ixN (n := 8) (by omega) hrl) (ixG (by omega) hS) ?_
        refine xT_aload_n g_q249 g249_47 (m0) ?_
        refine xT_iload g_q249 g249_48 (m4) ?_
        refine xT_iload g_q249 g249_50 (m5) ?_
        refine xT_invokevirtual (r := [.inl (S), .inl (nI (t)), .inr (some (rb))]) (u := some (.inl (nI (0)))) g_q249 g249_52 (j := 248) (so := 0) (by decide +kernel) g_q248 rfl (by rw [x_rcM hbA hb0]; rfl) (y2) ?_
        refine xT_ifCondY g_q249 g249_55 (t := 65) (by decide) (c0Y (b := 0) rfl) ?_
        refine xT_icV (y := nI (0)) g_q249 g249_65 (by decide) ?_
        refine xT_iorV (y := x_bin 4 S (nI 0)) g_q249 g249_66 (rfl) ?_
        refine xT_iastore g_q249 g249_67 hr2 (ixN (n := 8) (by omega) hrl) ?_
        rw [nI_clamp (by omega)]
        refine xT_iincV (y := nI (f + 1)) g_q249 g249_68 (m5) (by decide) (bIncN _) ?_
        refine xT_goto g_q249 g249_71 (t := 33) (by decide) ?_
        exact x2
    · have hr2 := (J_Y hJ2).2.1
      obtain ⟨hJ3, hW3⟩ := J_by hJ2 (t := t) (x := x_bin 4 S (x_bin 6 (nI 1) (nI f)))
      obtain ⟨vA, H1, vB, H2, x1, x2, hR⟩ := ih (f + 1) (x_bin 4 S (x_bin 6 (nI 1) (nI f))) _ _ (x_st (x_st (LA) 3 (.inl (x_bin 4 S (x_bin 6 (nI 1) (nI f))))) 4 (.inl (nI (f + 1)))) (x_st (LB) 5 (.inl (nI (f + 1)))) (by omega) hJ3 (wFar_tr hW (wFar_tr hW2 hW3)) (List.getElem?_set_self (by omega)) (fun i hi => by
        rw [List.getElem?_set_ne (fun z => hi z.symm)]
        exact hO i hi) (lkN (by decide) (lkN (by decide) (l0))) (lkN (by decide) (lkN (by decide) (l1))) (lkN (by decide) (lkN (by decide) (l2))) (lkN (by decide) (lkY)) (lkY) (lkN (by decide) (m0)) (lkN (by decide) (m1)) (lkN (by decide) (m2)) (lkN (by decide) (m3)) (lkN (by decide) (m4)) (lkY)
      refine ⟨vA, H1, vB, H2, ?_, ?_, hR⟩
      · skip
        refine xT_iload g_q137 g137_29 (l4) ?_
        refine xT_aload_n g_q137 g137_31 (l0) ?_
        refine xT_getfield g_q137 g137_32 haA rfl ha rfl g15 ?_
        refine xT_getfield g_q137 g137_35 hfA rfl hf0 rfl u3 ?_
        refine xT_if_icmpN g_q137 g137_38 (t := 68) (by decide) (c3N (a := f) (b := m) (by omega) (by omega) (by omega)) ?_
        refine xT_iload_n g_q137 g137_41 (l3) ?_
        refine xT_aload_n g_q137 g137_42 (l0) ?_
        refine xT_iload_n g_q137 g137_43 (l2) ?_
        refine xT_iload g_q137 g137_44 (l4) ?_
        refine xT_invokevirtual (r := [.inl (S)]) (u := some (.inl (nI (1)))) g_q137 g137_46 (j := 136) (so := 0) (by decide +kernel) g_q136 rfl (by rw [x_rcM haA ha]; rfl) (y1) ?_
        refine xT_ifCondN g_q137 g137_49 (t := 59) (by decide) (c0N (a := 1) (b := 0) (by omega) (by omega) (by omega)) ?_
        refine xT_icV (y := nI (1)) g_q137 g137_52 (by decide) ?_
        refine xT_iload g_q137 g137_53 (l4) ?_
        refine xT_ishlV (y := x_bin 6 (nI 1) (nI f)) g_q137 g137_55 (rfl) ?_
        refine xT_goto g_q137 g137_56 (t := 60) (by decide) ?_
        refine xT_iorV (y := x_bin 4 S (x_bin 6 (nI 1) (nI f))) g_q137 g137_60 (rfl) ?_
        refine xT_istore_n g_q137 g137_61 (by decide) ?_
        refine xT_iincV (y := nI (f + 1)) g_q137 g137_62 (lkN (by decide) (l4)) (by decide) (bIncN _) ?_
        refine xT_goto g_q137 g137_65 (t := 29) (by decide) ?_
        exact x1
      · skip
        refine xT_iload g_q249 g249_33 (m5) ?_
        refine xT_aload_n g_q249 g249_35 (m0) ?_
        refine xT_getfield g_q249 g249_36 hbA rfl hb0 rfl h34 ?_
        refine xT_if_icmpN g_q249 g249_39 (t := 74) (by decide) (c3N (a := f) (b := m) (by omega) (by omega) (by omega)) ?_
        refine xT_aload_n g_q249 g249_42 (m2) ?_
        refine xT_iload g_q249 g249_43 (m4) ?_
        refine xT_dup2 g_q249 g249_45 ?_
        refine xT_iaload g_q249 g249_46 (by omega) hr0 (ixN (n := 8) (by omega) hrl) (ixG (by omega) hS) ?_
        refine xT_aload_n g_q249 g249_47 (m0) ?_
        refine xT_iload g_q249 g249_48 (m4) ?_
        refine xT_iload g_q249 g249_50 (m5) ?_
        refine xT_invokevirtual (r := [.inl (S), .inl (nI (t)), .inr (some (rb))]) (u := some (.inl (nI (1)))) g_q249 g249_52 (j := 248) (so := 0) (by decide +kernel) g_q248 rfl (by rw [x_rcM hbA hb0]; rfl) (y2) ?_
        refine xT_ifCondN g_q249 g249_55 (t := 65) (by decide) (c0N (a := 1) (b := 0) (by omega) (by omega) (by omega)) ?_
        refine xT_icV (y := nI (1)) g_q249 g249_58 (by decide) ?_
        refine xT_iload g_q249 g249_59 (m5) ?_
        refine xT_ishlV (y := x_bin 6 (nI 1) (nI f)) g_q249 g249_61 (rfl) ?_
        refine xT_goto g_q249 g249_62 (t := 66) (by decide) ?_
        refine xT_iorV (y := x_bin 4 S (x_bin 6 (nI 1) (nI f))) g_q249 g249_66 (rfl) ?_
        refine xT_iastore g_q249 g249_67 hr2 (ixN (n := 8) (by omega) hrl) ?_
        rw [nI_clamp (by omega)]
        refine xT_iincV (y := nI (f + 1)) g_q249 g249_68 (m5) (by decide) (bIncN _) ?_
        refine xT_goto g_q249 g249_71 (t := 33) (by decide) ?_
        exact x2
end XG31_0
