/-! A method whose ways are checked from its entry and from each note keeps its contract. -/
section XMeth
def uGet : List (Nat × List vAn) → Nat → Option (List vAn)
  | [], _ => none
  | u :: r, pc => if u.1 = pc then some u.2 else uGet r pc
theorem uGet_spec {pc : Nat} {As : List vAn} : ∀ {l : List (Nat × List vAn)}, uGet l pc = some As → (pc, As) ∈ l
  | [], h => by cases h
  | u :: r, h => by
    unfold uGet at h
    split at h
    · rename_i e
      cases h
      rw [← e]
      exact List.mem_cons_self
    · exact List.mem_cons_of_mem _ (uGet_spec h)
/-- a note is met, and its rank is less -/
def vHit (n0 m0 : Nat) (rk : Option lT) (L : List (Nat × vA)) (S : List vA) (s : vSt) (cn sn : lT) (A : vAn) : Bool := match vMt A n0 m0 L S s with
  | none => false
  | some p => lGe (sI s) (sC s) (lSub (lSb p.1 (aCn A)) cn) && lGe (sI s) (sC s) (lSub (lSb p.1 (aSn A)) sn) && (match rk with
    | none => true
    | some r => lGe (sI s) (sC s) (lSb p.1 (aRk A)) && lGe3 (sI s) (sC s) (lSub (lSub r (lSb p.1 (aRk A))) (lK 1)))
def vCuF (c : vCt) (rk : Option lT) : vCu := fun pc => match uGet (cU c) pc with
  | none => none
  | some As => some (fun L S s cn sn => As.any (vHit (aI (cE c)).length (aG (cE c)).length rk L S s cn sn))
def vRtF (c : vCt) (s : vSt) (av : Option vA) : Bool := (cX c).any (fun X => (vMt X (aI (cE c)).length (aG (cE c)).length [] av.toList s).isSome)
def vMeth (KT : vKT) (tb : XT) (tyl : List FieldType) (ov : vOt) (CT : Nat → List vCt) (hs : Nat → Nat → Option (List vHn)) (kn : Nat → Nat → Option Nat) (f k : Nat) (c : vCt) : Bool :=
  decide ((aG (cE c)).length < 1000000) && vChk KT tb tyl ov CT hs kn (cW c) f 0 (cD c) k 0 (aL (cE c)) [] (aSt (cE c)) (lK 0) (lK 0) (vCuF c none) (vRtF c) &&
  (cU c).all (fun u => u.2.all (fun A => decide ((aI (cE c)).length ≤ (aI A).length) && decide ((aG (cE c)).length ≤ (aG A).length) && lBd (aI A).length (aRk A) && vChk KT tb tyl ov CT hs kn (cW c) f 1 (cD c) k u.1 (aL A) (aS A) (aSt A) (aCn A) (aSn A) (vCuF c (some (aRk A))) (vRtF c)))
theorem vMeth_spec {KT : vKT} {tb : XT} {tyl : List FieldType} {ot : XO Int32} {CT : Nat → List vCt} {hs : Nat → Nat → Option (List vHn)} {kn : Nat → Nat → Option Nat} (hCT : ∀ j c, c ∈ CT j → vCtSem KT tb tyl ot j c) {f k : Nat} {c : vCt} (hk : vMeth KT tb tyl (o4 ot) CT hs kn f k c = true) : vCtSem KT tb tyl ot k c := by
  intro dp q ρ0 σ0 ty0 H0 Lc0 hdp hq h0 hc0 hlen
  unfold vMeth at hk
  simp only [Bool.and_eq_true] at hk
  obtain ⟨⟨km, ke⟩, ku⟩ := hk
  have km := of_decide_eq_true km
  have hr0 : ∀ a c, ty0 a = some c → kRaw KT c = none := fun a c ha => by
    rcases hR : kRaw KT c with _ | d
    · rfl
    · obtain ⟨i, hi, -⟩ := h0.2.2.2.2.2.2.2 a c d ha hR
      cases hi
  have hret : ∀ (s : vSt) (ρ : Nat → Int) (σ : Nat → Nat), (aI (cE c)).length ≤ sN s → (aG (cE c)).length ≤ (sG s).length → (∀ i, i < (aI (cE c)).length → ρ i = ρ0 i) → (∀ i, i < (aG (cE c)).length → σ i = σ0 i) → vRetOk KT (cW c) ty0 H0 (H0.length + mMc q) s ρ σ (vRtF c) (vPost KT (cW c) (cX c) (aI (cE c)).length (aG (cE c)).length (mMc q) ρ0 σ0 ty0 H0) := by
    intro s ρ σ hn hm a1 a2 ρ2 σ2 ty2 H2 s2 av e1 e2 e3 e4 e5 e6
    obtain ⟨X, hX, hx⟩ := List.any_eq_true.mp e6
    rcases hp : vMt X (aI (cE c)).length (aG (cE c)).length [] av.toList s2 with _ | p
    · rw [hp] at hx
      cases hx
    obtain ⟨g1, -, g3, -, -, -, g7, g8⟩ := vMt_spec e4 hp km
    refine ⟨X, hX, rO ρ2 p.1, sO σ2 p.2, ty2, fun i hi => ?_, fun i hi => ?_, g1, ?_, e2, e3, e5⟩
    · rw [g7 i hi, e1.1 i (Nat.lt_of_lt_of_le hi hn), a1 i hi]
    · rw [g8 i hi, e1.2.1 i (Nat.lt_of_lt_of_le hi hm), a2 i hi]
    · rw [← g3]
      rcases av with _ | av <;> rfl
  have hcut : ∀ (N : Nat) (rk : Option lT) (s : vSt) (ρ : Nat → Int) (σ : Nat → Nat), (∀ r, rk = some r → lBd (sN s) r = true → True) → (aI (cE c)).length ≤ sN s → (aG (cE c)).length ≤ (sG s).length → (∀ i, i < (aI (cE c)).length → ρ i = ρ0 i) → (∀ i, i < (aG (cE c)).length → σ i = σ0 i) → (∀ r, rk = some r → (lBd (sN s) r = true) ∧ (lEv ρ r).toNat < N + 1) →
      (∀ (pc : Nat) (A : vAn) (As : List vAn) (ρ : Nat → Int) (σ : Nat → Nat) (ty : Nat → Option Nat) (H : List (XC Int32)) (Lc : List (Nat × XV Int32)) (cn2 sn2 : Nat), (pc, As) ∈ cU c → A ∈ As → (rk = none ∨ (lEv ρ (aRk A)).toNat < N) → (∀ i, i < (aI (cE c)).length → ρ i = ρ0 i) → (∀ i, i < (aG (cE c)).length → σ i = σ0 i) → vAt KT (cW c) ty0 H0 H0.length (aL A) (aSt A) (aCn A) (aSn A) ρ σ ty H Lc cn2 sn2 → ∃ v H2, x_To tb tyl ot dp k pc Lc ((aS A).map (cv ρ σ)) H cn2 sn2 v H2 ∧ vPost KT (cW c) (cX c) (aI (cE c)).length (aG (cE c)).length (mMc q) ρ0 σ0 ty0 H0 v H2) →
      vCutOk KT tb tyl ot (cW c) ty0 H0 H0.length dp k s ρ σ (vCuF c rk) (vPost KT (cW c) (cX c) (aI (cE c)).length (aG (cE c)).length (mMc q) ρ0 σ0 ty0 H0) := by
    intro N rk s ρ σ _ hn hm a1 a2 hN hgo pc g hg ρ2 σ2 ty2 H2 s2 L S cn sn Lc cn2 sn2 e1 e2 e3
    unfold vCuF at hg
    split at hg
    · cases hg
    rename_i As hAs
    cases hg
    obtain ⟨A, hA, hh⟩ := List.any_eq_true.mp e3
    unfold vHit at hh
    split at hh
    · cases hh
    rename_i p hp
    simp only [Bool.and_eq_true] at hh
    obtain ⟨⟨k1, k2⟩, k3⟩ := hh
    have k1 := lGe_spec e2.2.2.2.1.2.2.2.1 e2.2.2.2.1.2.2.2.2.1 k1
    have k2 := lGe_spec e2.2.2.2.1.2.2.2.1 e2.2.2.2.1.2.2.2.2.1 k2
    rw [lSub_ev, lSb_ev] at k1 k2
    obtain ⟨g1, g2, g3, -, -, -, g7, g8⟩ := vMt_spec e2.2.2.2.1 hp km
    have hrk : rk = none ∨ (lEv (rO ρ2 p.1) (aRk A)).toNat < N := by
      rcases rk with _ | r
      · exact Or.inl rfl
      · refine Or.inr ?_
        have k4 := Bool.and_eq_true_iff.mp k3
        have k5 := lGe_spec e2.2.2.2.1.2.2.2.1 e2.2.2.2.1.2.2.2.2.1 k4.1
        have k6 := lGe3_spec e2.2.2.2.1.2.2.2.1 e2.2.2.2.1.2.2.2.2.1 k4.2
        rw [lSub_ev, lSub_ev, lK_ev, lSb_ev] at k6
        rw [lSb_ev] at k5
        obtain ⟨n1, n2⟩ := hN r rfl
        rw [lBd_spec e1.1 n1] at k6
        omega
    obtain ⟨v, H3, h1, h2⟩ := hgo pc A As (rO ρ2 p.1) (sO σ2 p.2) ty2 H2 Lc cn2 sn2 (uGet_spec hAs) hA hrk (fun i hi => by rw [g7 i hi, e1.1 i (Nat.lt_of_lt_of_le hi hn), a1 i hi]) (fun i hi => by rw [g8 i hi, e1.2.1 i (Nat.lt_of_lt_of_le hi hm), a2 i hi])
      ⟨e2.1, e2.2.1, e2.2.2.1, g1, g2 _ e2.2.2.2.2.1, by have := e2.2.2.2.2.2.1; omega, by have := e2.2.2.2.2.2.2; omega⟩
    rw [← g3] at h1
    exact ⟨v, H3, h1, h2⟩
  have hgo : ∀ (N pc : Nat) (A : vAn) (As : List vAn) (ρ : Nat → Int) (σ : Nat → Nat) (ty : Nat → Option Nat) (H : List (XC Int32)) (Lc : List (Nat × XV Int32)) (cn2 sn2 : Nat), (pc, As) ∈ cU c → A ∈ As → (lEv ρ (aRk A)).toNat < N → (∀ i, i < (aI (cE c)).length → ρ i = ρ0 i) → (∀ i, i < (aG (cE c)).length → σ i = σ0 i) → vAt KT (cW c) ty0 H0 H0.length (aL A) (aSt A) (aCn A) (aSn A) ρ σ ty H Lc cn2 sn2 → ∃ v H2, x_To tb tyl ot dp k pc Lc ((aS A).map (cv ρ σ)) H cn2 sn2 v H2 ∧ vPost KT (cW c) (cX c) (aI (cE c)).length (aG (cE c)).length (mMc q) ρ0 σ0 ty0 H0 v H2 := by
    intro N
    induction N with
    | zero => intro pc A As ρ σ ty H Lc cn2 sn2 _ _ h; omega
    | succ N ih =>
      intro pc A As ρ σ ty H Lc cn2 sn2 hu hA hN a1 a2 hat
      have k1 := List.all_eq_true.mp (List.all_eq_true.mp ku (pc, As) hu) A hA
      simp only [Bool.and_eq_true] at k1
      obtain ⟨⟨⟨k2, k3⟩, hb⟩, k4⟩ := k1
      have k2 := of_decide_eq_true k2
      have k3 := of_decide_eq_true k3
      exact vChk_spec hCT hr0 f 1 hq hdp hlen hat k4 (hret (aSt A) ρ σ k2 k3 a1 a2) (hcut N (some (aRk A)) (aSt A) ρ σ (fun _ _ _ => trivial) k2 k3 a1 a2 (fun r hr => by cases hr; exact ⟨hb, hN⟩) (fun pc2 A2 As2 ρ2 σ2 ty2 H2 Lc2 cn3 sn3 b1 b2 b3 b4 b5 b6 => ih pc2 A2 As2 ρ2 σ2 ty2 H2 Lc2 cn3 sn3 b1 b2 (by
          rcases b3 with b3 | b3
          · cases b3
          · exact b3) b4 b5 b6))
  have hat0 : vAt KT (cW c) ty0 H0 H0.length (aL (cE c)) (aSt (cE c)) (lK 0) (lK 0) ρ0 σ0 ty0 H0 Lc0 0 0 := ⟨⟨Nat.le_refl _, by omega⟩, vLe_rf ty0, vFrm_rf _ _ _, h0, hc0, Int.le_refl _, Int.le_refl _⟩
  exact vChk_spec hCT hr0 f 0 hq hdp hlen hat0 ke (hret (aSt (cE c)) ρ0 σ0 (Nat.le_refl _) (Nat.le_refl _) (fun _ _ => rfl) (fun _ _ => rfl)) (hcut 0 none (aSt (cE c)) ρ0 σ0 (fun _ _ _ => trivial) (Nat.le_refl _) (Nat.le_refl _) (fun _ _ => rfl) (fun _ _ => rfl) (fun r hr => by cases hr) (fun pc2 A2 As2 ρ2 σ2 ty2 H2 Lc2 cn3 sn3 b1 b2 _ b4 b5 b6 => hgo _ pc2 A2 As2 ρ2 σ2 ty2 H2 Lc2 cn3 sn3 b1 b2 (Nat.lt_succ_self _) b4 b5 b6))
/-- all contracts, by the order of the calls -/
theorem vAll_spec {KT : vKT} {tb : XT} {tyl : List FieldType} {ot : XO Int32} {CT : Nat → List vCt} {hs : Nat → Nat → Option (List vHn)} {kn : Nat → Nat → Option Nat} (rank : Nat → Nat) (f : Nat) (h : ∀ j, (CT j).all (vMeth KT tb tyl (o4 ot) (fun i => if rank i < rank j then CT i else []) hs kn f j) = true) : ∀ j c, c ∈ CT j → vCtSem KT tb tyl ot j c := by
  have go : ∀ (n j : Nat) (c : vCt), rank j < n → c ∈ CT j → vCtSem KT tb tyl ot j c := by
    intro n
    induction n with
    | zero => intro j c hj; omega
    | succ n ih =>
      intro j c hj hc
      refine vMeth_spec (fun i c2 hc2 => ?_) (List.all_eq_true.mp (h j) c hc)
      have hc2 : c2 ∈ (if rank i < rank j then CT i else []) := hc2
      split at hc2
      · exact ih i c2 (by omega) hc2
      · cases hc2
  exact fun j c hc => go (rank j + 1) j c (Nat.lt_succ_self _) hc
end XMeth
