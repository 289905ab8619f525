/-! p31 by hand, both sides, 2. -/
noncomputable section XG31_2

theorem coverX {xs : Nat → Int32} {n0 : Nat} {sf : Option Nat} (hG : wGoes x_KT x_tb x_tyl (x_otS xs n0 sf) lwFR lwGA.length lwGB.length 7 28 44 shwWA shwWB 136 248 65 66 shw_in (shw_g0_ex.map (fun x => (false, x)))) : wGoes x_KT x_tb x_tyl (x_otS xs n0 sf) lwFR lwGA.length lwGB.length 7 28 44 coverWA coverWB 137 249 70 70 cover_l0 covero1 := by
  intro qA qB dA dB BA BB hqA hqB hdA hdB hBA hBB c LA LB a1 a2 b1 b2 hat R hout
  obtain ⟨h1, h2, ⟨⟨g1, g2⟩, g3, g4, g5⟩, ⟨⟨k1, k2⟩, k3, k4, k5⟩, h5⟩ := hat
  rw [g_q137] at hqA
  cases hqA
  rw [g_q249] at hqB
  cases hqB
  have g4 : (a1 : Int) ≤ lEv (cR c) (lK 0) := g4
  have g5 : (a2 : Int) ≤ lEv (cR c) (lK 0) := g5
  have k4 : (b1 : Int) ≤ lEv (cR c) (lK 0) := k4
  have k5 : (b2 : Int) ≤ lEv (cR c) (lK 0) := k5
  rw [lK_ev] at g4 g5 k4 k5
  obtain rfl : a1 = 0 := by omega
  obtain rfl : a2 = 0 := by omega
  obtain rfl : b1 = 0 := by omega
  obtain rfl : b2 = 0 := by omega
  have mB : mMc xm249 = 1 := rfl
  have mA : mMc xm137 = 0 := rfl
  rw [mB] at hBB
  rw [mA] at hBA
  obtain ⟨DA, rfl⟩ : ∃ D, dA = D + 1 := ⟨dA - 1, by omega⟩
  obtain ⟨DB, rfl⟩ : ∃ D, dB = D + 1 := ⟨dB - 1, by omega⟩
  have hI : iHd (cR c) (zipI 0 (List.append shwI_ [((0), (1))])) → iHd (cR c) (zipI 0 shwI_) := fun g => zipI_spec.mpr (fun j p hp => zipI_spec.mp g j p (by
    show (shwI_ ++ [((0 : Int), (1 : Int))])[j]? = some p
    rw [List.getElem?_append_left (List.getElem?_eq_some_iff.mp hp).1]
    exact hp))
  have hR : RL c := ⟨⟨h1.1, h1.2.1, h1.2.2.1, hI h1.2.2.2.1, h1.2.2.2.2⟩, ⟨h2.1, h2.2.1, h2.2.2.1, hI h2.2.2.2.1, h2.2.2.2.2⟩, h5⟩
  have b7 : (0 : Int) ≤ cR c 7 ∧ cR c 7 ≤ 1 := by
    have := zipI_spec.mp h1.2.2.2.1 7 (0, 1) rfl
    simpa using this
  have b3 : (0 : Int) ≤ cR c 3 ∧ cR c 3 ≤ 8 := by
    have := zipI_spec.mp h1.2.2.2.1 3 (0, 8) rfl
    simpa using this
  have b4 : (0 : Int) ≤ cR c 4 ∧ cR c 4 ≤ 8 := by
    have := zipI_spec.mp h1.2.2.2.1 4 (0, 8) rfl
    simpa using this
  obtain ⟨w, hw⟩ : ∃ w : Nat, cR c 7 = (w : Int) := ⟨(cR c 7).toNat, by omega⟩
  obtain ⟨n, hn⟩ : ∃ w : Nat, cR c 3 = (w : Int) := ⟨(cR c 3).toNat, by omega⟩
  obtain ⟨m, hm⟩ : ∃ w : Nat, cR c 4 = (w : Int) := ⟨(cR c 4).toNat, by omega⟩
  have hw2 : w = 0 ∨ w = 1 := by omega
  have l0 : x_lk LA 0 = some (.inr (some (sR (cSA c) 0))) := g3 0 (.inr (some 0)) rfl
  have l1 : x_lk LA 1 = some (.inl (nI w)) := by
    have z := g3 1 (.inl (lSy 7)) rfl
    have z : x_lk LA 1 = some (.inl (Int32.ofInt (lEv (cR c) (lSy 7)))) := z
    rw [lSy_ev, oI hw (by omega)] at z
    exact z
  have m0 : x_lk LB 0 = some (.inr (some (sR (cSB c) 0))) := k3 0 (.inr (some 0)) rfl
  have m1 : x_lk LB 1 = some (.inl (nI w)) := by
    have z := k3 1 (.inl (lSy 7)) rfl
    have z : x_lk LB 1 = some (.inl (Int32.ofInt (lEv (cR c) (lSy 7)))) := z
    rw [lSy_ev, oI hw (by omega)] at z
    exact z
  obtain ⟨hR1, hl1, hf1⟩ := RL_N hR (vs := List.replicate 8 (.inl 0)) rfl (fun j u hu => by
    rw [List.getElem?_replicate] at hu
    split at hu
    · cases hu
      exact ⟨0, rfl⟩
    · cases hu)
  obtain ⟨vs, v1, v2⟩ := cell_r hR.1.1 (RL_bA hR 26 11 rfl) (t := 0) (m := 16) (by decide +kernel)
  have hJ : J (sR (cSA c) 0) (sR (cSB c) 0) (sR (cSA c) 1) (sR (cSA c) 26) (sR (cSA c) 2) (cHB c).length n m (cHA c).length ((cHB c).length + 1) (nB_ c (.inr (0, List.replicate 8 (.inl 0)))) vs (List.replicate 8 (.inl 0)) := by
    refine ⟨hR1, ⟨rfl, rfl, rfl, rfl, rfl⟩, ⟨hn, hm⟩, v1, ?_, if_pos rfl, Nat.le_refl _, ?_, by omega, by omega⟩
    · show (cHB c ++ [_])[(cHB c).length]? = _
      rw [List.getElem?_append_right (Nat.le_refl _), Nat.sub_self]
      rfl
    · show (cHB c ++ [_]).length ≤ _
      rw [List.length_append]
      exact Nat.le_refl _
  have hW : cvFar c (nB_ c (.inr (0, List.replicate 8 (.inl 0)))) := ⟨fun _ _ => rfl, fun _ _ => rfl, fun _ _ => rfl, vLe_rf _, hl1, vFrm_rf _ _ _, vFrm_app (vFrm_rf _ _ _) _⟩
  have go := cvT hG (DA := DA) (DB := DB) (by omega) (by omega) (w := w) (c0 := c) (R := R) (fun B d vs wl LA2 LB2 hJ2 hW2 hB p0 p1 q0 q1 q2 q3 => by
    obtain ⟨hn8, hm8⟩ := J_8 hJ2
    obtain ⟨eA, rfl⟩ : ∃ e, DA = e + 3 := ⟨DA - 3, by omega⟩
    have zA := t137_e (dp := eA) (ot := x_otS xs n0 sf) (J_T hJ2) (fun t ht => (hB t ht).1) hw2 p0 p1
    have zB := t249_e (dp := DB) (ot := x_otS xs n0 sf) (J_M hJ2) (J_Y hJ2) (fun t ht => (hB t ht).2) hw2 q0 q1 q2 q3
    have e2 : 2 ^ n = (2 ^ n - 1) + 1 := by
      have := (b_sh n hn8).2.2
      omega
    have eq : mnD (pS B n) fC (2 ^ n - 1) (2 ^ n - 1) = mnU (pS B n) fC (2 ^ n) 0 (2 ^ n - 1) := by
      rw [mn_eq (2 ^ n - 1), ← e2]
    rw [← eq] at zB
    obtain ⟨hR2, -, -, -, -, -, hlA, hlB, -, -⟩ := id hJ2
    generalize (if w = 0 then nI (mnD (pS B n) fC (2 ^ n - 1) (2 ^ n - 1)) else bcI (fA B n 0 0)) = V at zA zB
    let ρ' : Nat → Int := fun i => if i = 7 then V.toInt else cR d i
    have e7 : ρ' 7 = V.toInt := rfl
    have eo : ∀ i, i < 7 → ρ' i = cR d i := fun i hi => if_neg (by omega)
    have gA := vRel_ext (ρ2 := ρ') (σ2 := cSA d) hR2.1 (by decide +kernel) (fun i hi => eo i hi) (fun _ _ => rfl)
    have gB := vRel_ext (ρ2 := ρ') (σ2 := cSB d) hR2.2.1 (by decide +kernel) (fun i hi => eo i hi) (fun _ _ => rfl)
    have hI2 : iHd ρ' (zipI 0 shwI_) → iHd ρ' (zipI 0 (List.append shwI_ [((-2147483648), (2147483647))])) := fun g => zipI_spec.mpr (fun j p hp => by
      have hp : (shwI_ ++ [((-2147483648 : Int), (2147483647 : Int))])[j]? = some p := hp
      rcases Nat.lt_or_ge j 7 with z | z
      · rw [List.getElem?_append_left z] at hp
        exact zipI_spec.mp g j p hp
      · rw [List.getElem?_append_right z] at hp
        obtain ⟨k, rfl⟩ : ∃ k, j = 7 + k := ⟨j - 7, by omega⟩
        rw [show 7 + k - shwI_.length = k by rw [shI_len]; omega] at hp
        rcases k with _ | k
        · cases hp
          show (-2147483648 : Int) ≤ ρ' (0 + (7 + 0)) ∧ ρ' (0 + (7 + 0)) ≤ 2147483647
          rw [show 0 + (7 + 0) = 7 from rfl, e7]
          exact vTop_spec V
        · cases hp)
    have eV : Int32.ofInt (lEv ρ' (lSy 7)) = V := by
      rw [lSy_ev, e7]
      exact Int32.ofInt_toInt V
    let d2 : pC := (ρ', cSA d, cSB d, cTA d, cTB d, cHA d, cHB d)
    have hat2 : wAt x_KT lwFR lwGA.length lwGB.length (mMc xm137) (mMc xm249) BA BB cover_fe d2 LA2 LB2 0 0 1 8 := by
      refine ⟨⟨gA.1, gA.2.1, gA.2.2.1, hI2 gA.2.2.2.1, gA.2.2.2.2.1, gA.2.2.2.2.2⟩, ⟨gB.1, gB.2.1, gB.2.2.1, hI2 gB.2.2.2.1, gB.2.2.2.2.1, gB.2.2.2.2.2⟩, ⟨⟨?_, ?_⟩, (fun j v hv => by cases hv), ?_, ?_⟩, ⟨⟨?_, ?_⟩, (fun j v hv => by cases hv), ?_, ?_⟩, hR2.2.2⟩
      · show (cHA d).length ≤ BA + 0
        omega
      · show (cHA d).length ≤ 1000000
        omega
      · exact Int.le_of_eq (lK_ev _ _).symm
      · exact Int.le_of_eq (lK_ev _ _).symm
      · show (cHB d).length ≤ BB + 1
        omega
      · show (cHB d).length ≤ 1000000
        omega
      · exact Int.le_of_eq (lK_ev _ _).symm
      · exact Int.le_of_eq (lK_ev _ _).symm
    have hW3 : wFar 7 28 44 coverWA coverWB c d2 := ⟨fun i hi => (eo i hi).trans (hW2.1 i hi), hW2.2⟩
    obtain ⟨vA, H1, vB, H2, y1, y2, hRR⟩ := hout (true, cover_fe) List.mem_cons_self d2 LA2 LB2 0 0 1 8 hat2 hW3 (fun _ => ⟨by
      show (0 : Int) ≤ lEv _ (lK 1)
      rw [lK_ev]
      decide, by
      show lEv _ (lK 1) < lEv _ (lK 1000)
      rw [lK_ev, lK_ev]
      decide⟩)
    have y1 : x_To x_tb x_tyl (x_otS xs n0 sf) (eA + 3 + 1) 137 106 LA2 [.inl (Int32.ofInt (lEv ρ' (lSy 7)))] (cHA d) 0 0 vA H1 := y1
    have y2 : x_To x_tb x_tyl (x_otS xs n0 sf) (DB + 1) 249 220 LB2 [.inl (Int32.ofInt (lEv ρ' (lSy 7)))] (cHB d) 1 8 vB H2 := y2
    rw [eV] at y1 y2
    have r1 : x_To x_tb x_tyl (x_otS xs n0 sf) (eA + 3 + 1) 137 106 LA2 [.inl V] (cHA d) 0 0 (some (.inl V)) (cHA d) := xT_ireturn g_q137 g137_106 (rfl)
    have r2 : x_To x_tb x_tyl (x_otS xs n0 sf) (DB + 1) 249 220 LB2 [.inl V] (cHB d) 1 8 (some (.inl V)) (cHB d) := xT_ireturn g_q249 g249_220 (rfl)
    obtain ⟨rfl, rfl⟩ := x_To_one y1 r1
    obtain ⟨rfl, rfl⟩ := x_To_one y2 r2
    exact ⟨_, _, _, _, zA, zB, hRR⟩) n 0 (fun _ => 0) 0 (nB_ c (.inr (0, List.replicate 8 (.inl 0)))) vs (List.replicate 8 (.inl 0)) (x_st (LA) 2 (.inl (nI (0)))) (x_st (x_st (x_st (LB) 2 (.inr (some ((cHB c).length)))) 3 (.inl (nI (0)))) 4 (.inl (nI (0)))) (by omega) hJ hW (fun i hi => absurd hi (Nat.not_lt_zero _)) (fun i _ hi => by
      rw [List.getElem?_replicate, if_pos hi]
      rfl) rfl (lkN (by decide) (l0)) (lkN (by decide) (l1)) (lkY) (lkN (by decide) (lkN (by decide) (lkN (by decide) (m0)))) (lkN (by decide) (lkN (by decide) (lkN (by decide) (m1)))) (lkN (by decide) (lkN (by decide) (lkY))) (lkN (by decide) (lkY)) (lkY)
  obtain ⟨vA, H1, vB, H2, x1, x2, hRR⟩ := go
  refine ⟨vA, H1, vB, H2, ?_, ?_, hRR⟩
  · show x_To x_tb x_tyl (x_otS xs n0 sf) (DA + 1) 137 11 LA [] (cHA c) 0 0 vA H1
    · skip
      refine xT_icV (y := nI (0)) g_q137 g137_11 (by decide) ?_
      refine xT_istore_n g_q137 g137_12 (by decide) ?_
      exact x1
  · show x_To x_tb x_tyl (x_otS xs n0 sf) (DB + 1) 249 11 LB [] (cHB c) 0 0 vB H2
    · skip
      refine xT_biV (y := nI (8)) g_q249 g249_11 (by decide) ?_
      refine xT_newarrayI (e := nI 8) g_q249 g249_13 (by rw [show (nI 8).toNatClampNeg = 8 from rfl, decide_eq_true (show (cHB c).length + 1 ≤ 1000000 by omega)]; decide +kernel) ?_
      rw [nI_clamp (by omega)]
      refine xT_astore_n g_q249 g249_15 (by decide) ?_
      refine xT_icV (y := nI (0)) g_q249 g249_16 (by decide) ?_
      refine xT_istore_n g_q249 g249_17 (by decide) ?_
      refine xT_icV (y := nI (0)) g_q249 g249_18 (by decide) ?_
      refine xT_istore g_q249 g249_19 (by decide) ?_
      exact x2
end XG31_2
