/-! The law's loop, checked: some blocks of it are proved by themselves; a fact of the heap is kept beside the note. -/
noncomputable section XLaw3
def cHdOk (KT : vKT) (tb : XT) (tyl : List FieldType) (ot : XO Int32) (W : List (Nat × Nat)) (ty0 : Nat → Option Nat) (H0 : List (XC Int32)) (B dp : Nat) (s : vSt) (ρ : Nat → Int) (σ : Nat → Nat) (cu0 : vCu) (Post : Option (XV Int32) → List (XC Int32) → Prop) : Prop := ∀ pc g, cu0 pc = some g → vHdOk KT tb tyl ot W ty0 H0 B dp pc s ρ σ g Post
def vLw3 (KT : vKT) (tb : XT) (tyl : List FieldType) (ov : vOt) (CT : Nat → List vCt) (hs : Nat → Nat → Option (List vHn)) (kn : Nat → Nat → Option Nat) (W : List (Nat × Nat)) (dp : Nat) (cu0 : vCu) (ret : vSt → Option vA → Bool) : Nat → Nat → List (lT × lT) → Nat → List (Nat × vA) → List vA → vSt → lT → lT → Bool
  | 0, _, _, _, _, _, _, _, _ => false
  | f + 1, go, R, pc, L, S, s, cn, sn => vChk KT tb tyl ov CT hs kn W 4000 go dp 0 pc L S s cn sn (fun pc2 => match cu0 pc2 with | some g => some g | none => match (match tMth tb 0 with | some q => mC q pc2 | none => none) with
      | some (.iaload, _) => some (fun L2 S2 s2 cn2 sn2 => match S2 with
        | .inl e :: .inr (some a) :: r => decide (a = 1000000) && lGe (sI s2) (sC s2) e && lGe (sI s2) (sC s2) (lSub (lSub (lSy 0) e) (lK 1)) && (match lFnd e R with
          | some t => vLw3 KT tb tyl ov CT hs kn W dp cu0 ret f 0 R (pc2 + 1) L2 (.inl t :: r) s2 cn2 sn2
          | none => sBd s2 && vFr L2 r cn2 sn2 s2 && lBd (sN s2) e && vLw3 KT tb tyl ov CT hs kn W dp cu0 ret f 0 ((e, lSy (sN s2)) :: R) (pc2 + 1) L2 (.inl (lSy (sN s2)) :: r) (vNi vTop s2) cn2 sn2)
        | _ => false)
      | some (.arraylength, _) => some (fun L2 S2 s2 cn2 sn2 => match S2 with
        | .inr (some a) :: r => decide (a = 1000000) && vLw3 KT tb tyl ov CT hs kn W dp cu0 ret f 0 R (pc2 + 1) L2 (.inl (lSy 0) :: r) s2 cn2 sn2
        | _ => false)
      | _ => none) ret
theorem vLw3_spec {KT : vKT} {tb : XT} {tyl : List FieldType} {ot : XO Int32} {CT : Nat → List vCt} {hs : Nat → Nat → Option (List vHn)} {kn : Nat → Nat → Option Nat} {W : List (Nat × Nat)} {dp dp2 : Nat} {cu0 : vCu} {ret : vSt → Option vA → Bool} {q : XM} {B : Nat} {Post : Option (XV Int32) → List (XC Int32) → Prop} (hCT : ∀ j c, c ∈ CT j → vCtSem KT tb tyl ot j c) {ty0 : Nat → Option Nat} {H0 : List (XC Int32)} (hr0 : ∀ a c, ty0 a = some c → kRaw KT c = none) (hq : tMth tb 0 = some q) (hdp : dp ≤ dp2) (hB : B + mMc q ≤ 1000000) (hn : oSn ot < 1000000) :
    ∀ (f go : Nat) {R : List (lT × lT)} {pc : Nat} {L : List (Nat × vA)} {S : List vA} {s : vSt} {cn sn : lT} {ρ : Nat → Int} {σ : Nat → Nat} {ty : Nat → Option Nat} {H : List (XC Int32)} {Lc : List (Nat × XV Int32)} {cn2 sn2 : Nat},
      vAt KT W ty0 H0 B L s cn sn ρ σ ty H Lc cn2 sn2 → ρ 0 = (oSn ot : Int) → 0 < sN s → vRds ot (sN s) ρ R → vLw3 KT tb tyl (o4 ot) CT hs kn W dp cu0 ret f go R pc L S s cn sn = true → vRetOk KT W ty0 H0 (B + mMc q) s ρ σ ret Post → cHdOk KT tb tyl ot W ty0 H0 B dp2 s ρ σ cu0 Post →
      ∃ v H2, x_To tb tyl ot dp2 0 pc Lc (S.map (cv ρ σ)) H cn2 sn2 v H2 ∧ Post v H2
  | 0, _, _, _, _, _, _, _, _, _, _, _, _, _, _, _, _, _, _, _, hk, _, _ => by cases hk
  | f + 1, go, R, pc, L, S, s, cn, sn, ρ, σ, ty, H, Lc, cn2, sn2, hat, h0, hs0, hR, hk, hret, hhd => by
    unfold vLw3 at hk
    refine vChk_spec (vOvLe_rf (o4 ot)) hCT hr0 4000 go hq hdp hB hat hk hret ?_
    intro pc2 g hg ρ2 σ2 ty2 H2 s2 L2 S2 cn3 sn3 Lc2 cn4 sn4 e1 e2 e3
    dsimp only at hg
    rcases hcu : cu0 pc2 with _ | g2
    rotate_left
    · rw [hcu] at hg
      cases hg
      exact hhd pc2 _ hcu ρ2 σ2 ty2 H2 s2 L2 S2 cn3 sn3 Lc2 cn4 sn4 e1 e2 e3
    rw [hcu, hq] at hg
    dsimp only at hg
    have z0 : ρ2 0 = (oSn ot : Int) := (e1.1 0 hs0).trans h0
    have zs : 0 < sN s2 := Nat.lt_of_lt_of_le hs0 e1.2.2.1
    have hR2 : vRds ot (sN s2) ρ2 R := vRds_ext hR e1.1 e1.2.2.1
    have hret2 := vRetOk_ext e1 hret
    have hhd2 : cHdOk KT tb tyl ot W ty0 H0 B dp2 s2 ρ2 σ2 cu0 Post := fun pcX gX hX ρ3 σ3 ty3 H3 s3 L3 S3 c5 c6 Lc3 c7 c8 y1 y2 y3 => hhd pcX gX hX ρ3 σ3 ty3 H3 s3 L3 S3 c5 c6 Lc3 c7 c8 (vExt_tr e1 y1) y2 y3
    have hsr : ∀ τ : Nat → Nat, sR τ 1000000 = 1000000 := fun τ => if_neg (Nat.lt_irrefl _)
    split at hg
    · rename_i n hi
      cases hg
      dsimp only at e3
      split at e3
      rotate_left
      · cases e3
      rename_i e a r
      simp only [Bool.and_eq_true] at e3
      obtain ⟨⟨⟨k1, k2⟩, k3⟩, k6⟩ := e3
      have k1 : a = 1000000 := of_decide_eq_true k1
      subst k1
      have k2 := lGe_spec e2.2.2.2.1.2.2.2.1 e2.2.2.2.1.2.2.2.2.1 k2
      have k3 := lGe_spec e2.2.2.2.1.2.2.2.1 e2.2.2.2.1.2.2.2.2.1 k3
      rw [lSub_ev, lSub_ev, lSy_ev, lK_ev, z0] at k3
      have ei : (Int32.ofInt (lEv ρ2 e)).toInt = lEv ρ2 e := ofInt_toInt (by omega) (by omega)
      have eN : (Int32.ofInt (lEv ρ2 e)).toNatClampNeg = (lEv ρ2 e).toNat := by
        show (Int32.ofInt (lEv ρ2 e)).toInt.toNat = _
        rw [ei]
      have nxt : ∃ v H3, x_To tb tyl ot dp2 0 (pc2 + 1) Lc2 (.inl (oSc ot (lEv ρ2 e).toNat) :: r.map (cv ρ2 σ2)) H2 cn4 sn4 v H3 ∧ Post v H3 := by
        rcases hf : lFnd e R with _ | t
        · rw [hf] at k6
          dsimp only at k6
          simp only [Bool.and_eq_true] at k6
          obtain ⟨⟨⟨k4, k5⟩, k7⟩, k6⟩ := k6
          have hx := vTop_spec (oSc ot (lEv ρ2 e).toNat)
          obtain ⟨ρ3, g1, g2, g3⟩ := vNi_spec e2.2.2.2.1 k4 (p := vTop) (x := (oSc ot (lEv ρ2 e).toNat).toInt) hx
          have g4 := vFr_spec g1 k5
          have hat3 := vAt_ext e2 g2 g4
          have hR3 : vRds ot (sN (vNi vTop s2)) ρ3 ((e, lSy (sN s2)) :: R) := fun p hp => by
            rcases List.mem_cons.mp hp with rfl | hp
            · refine ⟨lBds_le (Nat.le_succ _) _ k7, ?_, ?_⟩
              · show (Nat.ble (sN s2 + 1) (sN s2 + 1) && true) = true
                rw [Nat.ble_eq_true_of_le (Nat.le_refl (sN s2 + 1))]
                rfl
              · show oSc ot (lEv ρ3 e).toNat = Int32.ofInt (lEv ρ3 (lSy (sN s2)))
                rw [lBd_spec g1.1 k7, lSy_ev, g3, Int32.ofInt_toInt]
            · exact vRds_ext hR2 g1.1 g1.2.2.1 p hp
          obtain ⟨v, H3, h1, h2⟩ := vLw3_spec hCT hr0 hq hdp hB hn f 0 hat3 ((g1.1 0 zs).trans z0) (Nat.lt_of_lt_of_le zs g1.2.2.1) hR3 k6 (vRetOk_ext g1 hret2) (fun pcX gX hX ρ3 σ3 ty3 H3 s3 L3 S3 c5 c6 Lc3 c7 c8 y1 y2 y3 => hhd2 pcX gX hX ρ3 σ3 ty3 H3 s3 L3 S3 c5 c6 Lc3 c7 c8 (vExt_tr g1 y1) y2 y3)
          refine ⟨v, H3, ?_, h2⟩
          rw [List.map_cons, g4.2.1, show cv ρ3 σ2 (.inl (lSy (sN s2))) = .inl (oSc ot (lEv ρ2 e).toNat) from congrArg Sum.inl (by rw [lSy_ev, g3, Int32.ofInt_toInt])] at h1
          exact h1
        · rw [hf] at k6
          dsimp only at k6
          obtain ⟨v, H3, h1, h2⟩ := vLw3_spec hCT hr0 hq hdp hB hn f 0 e2 z0 zs hR2 k6 hret2 hhd2
          refine ⟨v, H3, ?_, h2⟩
          have ht := (hR2 _ (lFnd_spec hf)).2.2
          rw [List.map_cons, show cv ρ2 σ2 (.inl t) = .inl (oSc ot (lEv ρ2 e).toNat) from congrArg Sum.inl ht.symm] at h1
          exact h1
      obtain ⟨v, H3, h1, h2⟩ := nxt
      refine ⟨v, H3, ?_, h2⟩
      have hneg : ¬ Int32.ofInt (lEv ρ2 e) < 0 := fun z => by
        have z2 : (Int32.ofInt (lEv ρ2 e)).toInt < (0 : Int) := Int32.lt_iff_toInt_lt.mp z
        omega
      have key : x_To tb tyl ot dp2 0 pc2 Lc2 (.inl (Int32.ofInt (lEv ρ2 e)) :: .inr (some 1000000) :: r.map (cv ρ2 σ2)) H2 cn4 sn4 v H3 := by
        refine xT_ialoadS hq hi ?_ ?_
        · rw [decide_eq_false hneg, eN]
          exact decide_eq_false (by omega)
        · rw [eN]
          exact h1
      have em : (Sum.inl e :: Sum.inr (some 1000000) :: r : List vA).map (cv ρ2 σ2) = .inl (Int32.ofInt (lEv ρ2 e)) :: .inr (some 1000000) :: r.map (cv ρ2 σ2) := by
        rw [List.map_cons, List.map_cons]
        show _ :: Sum.inr (some (sR σ2 1000000)) :: _ = _
        rw [hsr]
        rfl
      rw [em]
      exact key
    · rename_i n hi
      cases hg
      dsimp only at e3
      split at e3
      rotate_left
      · cases e3
      rename_i a r
      simp only [Bool.and_eq_true] at e3
      obtain ⟨k1, k6⟩ := e3
      have k1 : a = 1000000 := of_decide_eq_true k1
      subst k1
      obtain ⟨v, H3, h1, h2⟩ := vLw3_spec hCT hr0 hq hdp hB hn f 0 e2 z0 zs hR2 k6 hret2 hhd2
      refine ⟨v, H3, ?_, h2⟩
      have key : x_To tb tyl ot dp2 0 pc2 Lc2 (.inr (some 1000000) :: r.map (cv ρ2 σ2)) H2 cn4 sn4 v H3 := by
        refine xT_arraylengthS hq hi ?_
        rw [List.map_cons, show cv ρ2 σ2 (.inl (lSy 0)) = .inl (Int32.ofNat (oSn ot)) from congrArg Sum.inl (by rw [lSy_ev, z0]; rfl)] at h1
        exact h1
      have em : (Sum.inr (some 1000000) :: r : List vA).map (cv ρ2 σ2) = .inr (some 1000000) :: r.map (cv ρ2 σ2) := by
        rw [List.map_cons]
        show Sum.inr (some (sR σ2 1000000)) :: _ = _
        rw [hsr]
      rw [em]
      exact key
    · cases hg
def lwG3 (m0 : Nat) (N : vAn) (W : List (Nat × Nat)) (L : List (Nat × vA)) (S : List vA) (s0 : vSt) (cn sn : lT) : Bool := (fun s => vHit 1 m0 W none L S s cn sn N && (match x_lk L 3 with
  | some (.inl t) => lQ (sI s) (sC s) t (lAdd (lSy 1) (lK 7))
  | _ => false)) (sPl s0)
def lwC3 (N : vAn) (L : List (Nat × vA)) (S : List vA) (s : vSt) (cn sn : lT) : Bool := vMc N ((List.range (aI N).length).map lSy) (List.range (aG N).length) L S s && lGe (sI s) (sC s) (lSub (lSub (lSy 0) (lSy 1)) (lK 7)) && lGe (sI s) (sC s) (lSub (aCn N) cn) && lGe (sI s) (sC s) (lSub (aSn N) sn)
def lwU (m0 : Nat) (N : vAn) (W : List (Nat × Nat)) (hd : Nat) (cb : List Nat) : vCu := fun pc => if pc = hd then some (lwG3 m0 N W) else if decide (pc ∈ cb) = true then some (lwC3 N) else none
/-- the state at the head, or at a block that is proved by itself -/
def lwAt (KT : vKT) (ot : XO Int32) (N : vAn) (P : (Nat → Nat) → (Nat → Option Nat) → List (XC Int32) → Prop) (ρ : Nat → Int) (σ : Nat → Nat) (ty : Nat → Option Nat) (H : List (XC Int32)) (Lc : List (Nat × XV Int32)) (cn2 sn2 : Nat) : Prop :=
  ρ 0 = (oSn ot : Int) ∧ H.length ≤ cn2 ∧ H.length ≤ 1000000 ∧ vRel KT ρ σ ty H (aSt N) ∧ vCov ρ σ (aL N) Lc ∧ (cn2 : Int) ≤ lEv ρ (aCn N) ∧ (sn2 : Int) ≤ lEv ρ (aSn N) ∧ P σ ty H
theorem vLaw3_spec {KT : vKT} {tb : XT} {tyl : List FieldType} {ot : XO Int32} {CT : Nat → List vCt} {hs : Nat → Nat → Option (List vHn)} {kn : Nat → Nat → Option Nat} {W : List (Nat × Nat)} {hd dp dp2 f : Nat} {q : XM} (hCT : ∀ j c, c ∈ CT j → vCtSem KT tb tyl ot j c) {m0 : Nat} {cb : List Nat} {P : (Nat → Nat) → (Nat → Option Nat) → List (XC Int32) → Prop} (hq : tMth tb 0 = some q) (hdp : dp ≤ dp2) (hB : 0 + mMc q ≤ 1000000) (hn : oSn ot < 1000000) {N : vAn} (hN : lwOk N = true) (n6 : lBd (aI N).length (aCn N) = true) (n7 : lBd (aI N).length (aSn N) = true) (hm0 : m0 ≤ (aG N).length) (hk : vLw3 KT tb tyl (o4 ot) CT hs kn W dp (lwU m0 N W hd cb) lwR f 1 [] hd (aL N) (aS N) (aSt N) (aCn N) (aSn N) = true)
    (hP : ∀ ρ σ ty H ρ2 σ2 ty2 H2, vRel KT ρ σ ty H (aSt N) → P σ ty H → (∀ i, i < m0 → σ2 i = σ i) → vLe ty ty2 → vFrm W ty H H2 → vRel KT ρ2 σ2 ty2 H2 (aSt N) → P σ2 ty2 H2)
    (hCb : ∀ pc ∈ cb, ∀ ρ σ ty H Lc cn2 sn2, lwAt KT ot N P ρ σ ty H Lc cn2 sn2 → 0 ≤ ρ 1 → ρ 1 + 7 ≤ ρ 0 → (∀ ρ2 σ2 ty2 H2 Lc2 cn3 sn3, ρ2 1 = ρ 1 + 7 → lwAt KT ot N P ρ2 σ2 ty2 H2 Lc2 cn3 sn3 → ∃ H3, x_To tb tyl ot dp2 0 hd Lc2 [] H2 cn3 sn3 (some (.inl 1)) H3) → ∃ H3, x_To tb tyl ot dp2 0 pc Lc [] H cn2 sn2 (some (.inl 1)) H3) :
    ∀ (m : Nat) {ρ : Nat → Int} {σ : Nat → Nat} {ty : Nat → Option Nat} {H : List (XC Int32)} {Lc : List (Nat × XV Int32)} {cn2 sn2 : Nat}, (ρ 0 - ρ 1).toNat < m → lwAt KT ot N P ρ σ ty H Lc cn2 sn2 →
      ∃ H2, x_To tb tyl ot dp2 0 hd Lc [] H cn2 sn2 (some (.inl 1)) H2
  | 0, _, _, _, _, _, _, _, hm, _ => absurd hm (Nat.not_lt_zero _)
  | m + 1, ρ, σ, ty, H, Lc, cn2, sn2, hm, hLA => by
    obtain ⟨h0, hl1, hl2, hr, hc, c1, c2, hPP⟩ := hLA
    have hN0 := hN
    unfold lwOk at hN
    simp only [Bool.and_eq_true] at hN
    obtain ⟨⟨⟨⟨n1, n1b⟩, n3⟩, n4⟩, n5⟩ := id hN
    have n3 := of_decide_eq_true n3
    have hlen : 2 ≤ (aI N).length ∧ 0 ≤ ρ 1 ∧ ρ 1 ≤ 1000000 := by
      rcases hI : aI N with _ | ⟨p0, _ | ⟨p1, r⟩⟩
      · rw [hI] at n1
        cases n1
      · rw [hI] at n1
        cases n1
      · rw [hI] at n1
        simp only [Bool.and_eq_true] at n1
        have y1 := of_decide_eq_true n1.1.1
        have y2 := of_decide_eq_true n1.1.2
        have hz := zipI_spec.mp hr.2.2.2.1 1 p1 (by rw [hI]; rfl)
        rw [Nat.zero_add] at hz
        exact ⟨by simp only [List.length_cons]; omega, by omega, by omega⟩
    have noraw : ∀ a c, ty a = some c → kRaw KT c = none := fun a c ha => by
      rcases hR : kRaw KT c with _ | d
      · rfl
      · obtain ⟨i, hi, -⟩ := hr.2.2.2.2.2.2.2 a c d ha hR
        cases hi
    have hat : vAt KT W ty H 0 (aL N) (aSt N) (aCn N) (aSn N) ρ σ ty H Lc cn2 sn2 := ⟨⟨by omega, hl2⟩, vLe_rf ty, vFrm_rf W ty H, hr, hc, c1, c2⟩
    have main := vLw3_spec (ret := lwR) (Post := fun v _ => v = some (.inl 1)) hCT noraw hq hdp hB hn f 1 hat h0 (show 0 < (aI N).length by omega) (fun p hp => absurd hp List.not_mem_nil) hk ?_ ?_
    · obtain ⟨v, H2, h1, h2⟩ := main
      subst h2
      rw [n3] at h1
      exact ⟨H2, h1⟩
    · intro ρ2 σ2 ty2 H2 s2 av e1 e2 e3 e4 e5 e6
      unfold lwR at e6
      split at e6
      rotate_left
      · cases e6
      rename_i e
      have := lQ_spec e4.2.2.2.1 e4.2.2.2.2.1 e6
      rw [lK_ev] at this
      show some (Sum.inl (Int32.ofInt (lEv ρ2 e))) = some (Sum.inl 1)
      rw [this]
      rfl
    · intro pcX gX hX ρ2 σ2 ty2 H2 s2 L2 S2 cn3 sn3 Lc2 cn4 sn4 e1 e2 e3
      unfold lwU at hX
      try dsimp only at hX
      split at hX
      rotate_left
      · split at hX
        rotate_left
        · cases hX
        rename_i hne hcb
        cases hX
        have hcb := of_decide_eq_true hcb
        unfold lwC3 at e3
        simp only [Bool.and_eq_true] at e3
        obtain ⟨⟨⟨k1, k2⟩, k3⟩, k4⟩ := e3
        have hr2 := e2.2.2.2.1
        have k2 := lGe_spec hr2.2.2.2.1 hr2.2.2.2.2.1 k2
        have k3 := lGe_spec hr2.2.2.2.1 hr2.2.2.2.2.1 k3
        have k4 := lGe_spec hr2.2.2.2.1 hr2.2.2.2.2.1 k4
        obtain ⟨g1, g2, g3, -, -, -⟩ := vMc_spec hr2 k1
        have hρ : ∀ i, i < (aI N).length → rO ρ2 ((List.range (aI N).length).map lSy) i = ρ2 i := fun i hi => by
          unfold rO
          rw [List.getD_eq_getElem?_getD, List.getElem?_map, List.getElem?_range hi]
          exact lSy_ev ρ2 i
        have hG : (aG N).length < 1000000 := of_decide_eq_true n1b
        have hσ : ∀ i, i < (aG N).length → sO σ2 (List.range (aG N).length) i = σ i := fun i hi => by
          unfold sO
          rw [List.getD_eq_getElem?_getD, List.getElem?_range hi]
          show (if i < 1000000 then σ2 i else i) = σ i
          rw [if_pos (by omega)]
          exact e1.2.1 i hi
        have q0 : rO ρ2 ((List.range (aI N).length).map lSy) 0 = ρ 0 := (hρ 0 (by omega)).trans (e1.1 0 (show 0 < (aI N).length by omega))
        have q1 : rO ρ2 ((List.range (aI N).length).map lSy) 1 = ρ 1 := (hρ 1 (by omega)).trans (e1.1 1 (show 1 < (aI N).length by omega))
        have w0 : ρ2 0 = ρ 0 := e1.1 0 (show 0 < (aI N).length by omega)
        have w1 : ρ2 1 = ρ 1 := e1.1 1 (show 1 < (aI N).length by omega)
        rw [lSub_ev, lSub_ev, lSy_ev, lSy_ev, lK_ev] at k2
        rw [lSub_ev] at k3 k4
        have hcn : lEv (rO ρ2 ((List.range (aI N).length).map lSy)) (aCn N) = lEv ρ2 (aCn N) := lBd_spec hρ n6
        have hsn : lEv (rO ρ2 ((List.range (aI N).length).map lSy)) (aSn N) = lEv ρ2 (aSn N) := lBd_spec hρ n7
        obtain ⟨H3, h3⟩ := hCb pcX hcb (rO ρ2 ((List.range (aI N).length).map lSy)) (sO σ2 (List.range (aG N).length)) ty2 H2 Lc2 cn4 sn4 ⟨q0.trans h0, by have := e2.1.1; omega, e2.1.2, g1, g2 _ e2.2.2.2.2.1, by rw [hcn]; have := e2.2.2.2.2.2.1; omega, by rw [hsn]; have := e2.2.2.2.2.2.2; omega, hP ρ σ ty H _ _ ty2 H2 hr hPP (fun i hi => hσ i (by omega)) e2.2.1 e2.2.2.1 g1⟩ (by omega) (by omega) (fun ρ3 σ3 ty3 H3 Lc3 cn5 sn5 y1 y2 => vLaw3_spec hCT hq hdp hB hn hN0 n6 n7 hm0 hk hP hCb m (by
          have := y2.1
          omega) y2)
        refine ⟨_, H3, ?_, rfl⟩
        rw [g3, n3]
        exact h3
      rename_i hpc
      subst hpc
      cases hX
      have hrr := sPl_rel e2.2.2.2.1
      unfold lwG3 at e3
      dsimp only at e3
      have e4 := Bool.and_eq_true_iff.mp e3
      have hh := e4.1
      unfold vHit at hh
      split at hh
      · cases hh
      rename_i p hp
      simp only [Bool.and_eq_true] at hh
      obtain ⟨⟨k1, k2⟩, -⟩ := hh
      have k1 := lGe_spec hrr.2.2.2.1 hrr.2.2.2.2.1 k1
      have k2 := lGe_spec hrr.2.2.2.1 hrr.2.2.2.2.1 k2
      rw [lSub_ev, lSb_ev] at k1 k2
      obtain ⟨g1, g2, g3, -, -, -, g7, g8⟩ := vMt_spec hrr hp (show m0 < 1000000 by have : (aG N).length < 1000000 := of_decide_eq_true n1b; omega)
      have hc2 := g2 _ e2.2.2.2.2.1
      have f0 : rO ρ2 p.1 0 = (oSn ot : Int) := (g7 0 (by decide)).trans ((e1.1 0 (show 0 < (aI N).length by omega)).trans h0)
      have hI1 := zipI_spec.mp g1.2.2.2.1
      have f1 : rO ρ2 p.1 1 = ρ 1 + 7 := by
        have h5 := e4.2
        split at h5
        rotate_left
        · cases h5
        rename_i t ht
        have a1 := e2.2.2.2.2.1 3 _ ht
        have a2 := n4
        split at a2
        rotate_left
        · cases a2
        rename_i u hu
        have a3 := hc2 3 _ hu
        rw [a1] at a3
        have a4 : Int32.ofInt (lEv ρ2 t) = Int32.ofInt (lEv (rO ρ2 p.1) u) := Sum.inl.inj (Option.some.inj a3)
        have a5 := lQ_spec hrr.2.2.2.1 hrr.2.2.2.2.1 h5
        rw [lAdd_ev, lSy_ev, lK_ev, e1.1 1 (show 1 < (aI N).length by omega)] at a5
        rw [lEq_spec a2, lSy_ev, a5] at a4
        have b2 : 0 ≤ rO ρ2 p.1 1 ∧ rO ρ2 p.1 1 ≤ 1000000 := by
          rcases hI : aI N with _ | ⟨p0, _ | ⟨p1, r⟩⟩
          · rw [hI] at n1
            cases n1
          · rw [hI] at n1
            cases n1
          · rw [hI] at n1
            simp only [Bool.and_eq_true] at n1
            have y1 := of_decide_eq_true n1.1.1
            have y2 := of_decide_eq_true n1.1.2
            have hz := hI1 1 p1 (by rw [hI]; rfl)
            rw [Nat.zero_add] at hz
            exact ⟨by omega, by omega⟩
        have a6 := congrArg Int32.toInt a4
        rw [ofInt_toInt (by omega) (by omega), ofInt_toInt (by omega) (by omega)] at a6
        exact a6.symm
      have f2 : rO ρ2 p.1 1 ≤ rO ρ2 p.1 0 := by
        obtain ⟨c, hcm, hce⟩ := List.any_eq_true.mp n5
        have b := g1.2.2.2.2.1 c hcm
        rw [lEq_spec hce, lSub_ev, lSy_ev, lSy_ev] at b
        omega
      have hσ0 : ∀ i, i < m0 → sO σ2 p.2 i = σ i := fun i hi => (g8 i hi).trans (e1.2.1 i (show i < (aG N).length by omega))
      obtain ⟨H3, h3⟩ := vLaw3_spec hCT hq hdp hB hn hN0 n6 n7 hm0 hk hP hCb m (ρ := rO ρ2 p.1) (σ := sO σ2 p.2) (ty := ty2) (H := H2) (Lc := Lc2) (cn2 := cn4) (sn2 := sn4) (by omega) ⟨f0, by have := e2.1.1; omega, e2.1.2, g1, hc2, by have := e2.2.2.2.2.2.1; omega, by have := e2.2.2.2.2.2.2; omega, hP ρ σ ty H _ _ ty2 H2 hr hPP hσ0 e2.2.1 e2.2.2.1 g1⟩
      refine ⟨_, H3, ?_, rfl⟩
      rw [g3, n3]
      exact h3
end XLaw3
