/-! Edges gone once more at ints that are told. -/
noncomputable section XEdR
theorem vChkR2_spec {KT : vKT} {tb : XT} {tyl : List FieldType} {ot : XO Int32} {ov : vOt} (hov : vOvLe ov (o4 ot)) {CT : Nat → List vCt} {hs : Nat → Nat → Option (List vHn)} {kn : Nat → Nat → Option Nat} {W : List (Nat × Nat)} (hCT : ∀ j c, c ∈ CT j → vCtSem KT tb tyl ot j c) {ty0 : Nat → Option Nat} {H0 : List (XC Int32)} (hr0 : ∀ a c, ty0 a = some c → kRaw KT c = none) : ∀ (f go : Nat) {dp k pc dp2' B : Nat} {q : XM} {L : List (Nat × vA)} {S : List vA} {s : vSt} {cn sn : lT} {cu : vCu} {ret : vSt → Option vA → Bool} {ρ : Nat → Int} {σ : Nat → Nat} {ty : Nat → Option Nat} {H : List (XC Int32)} {Lc : List (Nat × XV Int32)} {cn2 sn2 : Nat} {Post : XOu → Prop}
    (_ : tMth tb k = some q) (_ : dp ≤ dp2') (_ : B + mMc q ≤ 1000000) (_ : vAt KT W ty0 H0 B L s cn sn ρ σ ty H Lc cn2 sn2) (_ : vChk KT tb tyl ov CT hs kn W f go dp k pc L S s cn sn cu ret = true) (_ : vRetOk KT W ty0 H0 (B + mMc q) s ρ σ ret (fun v H => Post (.inr (v, H)))) (_ : vCutR KT W ty0 H0 B s ρ σ cu Post),
    ∃ o, xRC tb tyl ot dp2' k (fun pc => (cu pc).isSome) (Nat.ble 1 go) pc Lc (S.map (cv ρ σ)) H cn2 sn2 o ∧ Post o := by
  simp only [vChk_eq]
  exact vChkR_spec hov hCT hr0
theorem xCu_eq {cuB : Nat → Bool} {α : Type} {F : Nat → α} : (fun pc => ((if cuB pc = true then some (F pc) else none) : Option α).isSome) = cuB := by
  funext pc
  by_cases h : cuB pc = true
  · rw [if_pos h, h]
    rfl
  · rw [if_neg h, Bool.eq_false_iff.mpr h]
    rfl
/-- an outcome: at a place, or ended -/
def xOf (e : Option Nat) (L : List (Nat × XV Int32)) (S : List (XV Int32)) (H : List (XC Int32)) (cn sn : Nat) (o : XOu) : Prop := match e with
  | some pc => o = .inl (pc, L, S, H, cn, sn)
  | none => ∃ v : Option (XV Int32), v.toList = S ∧ o = .inr (v, H)
def xOh (o : XOu) : List (XC Int32) := match o with
  | .inl s => s.2.2.2.1
  | .inr p => p.2
theorem xOf_h {e : Option Nat} {L : List (Nat × XV Int32)} {S : List (XV Int32)} {H : List (XC Int32)} {cn sn : Nat} {o : XOu} (h : xOf e L S H cn sn o) : xOh o = H := by
  rcases e with _ | pc
  · obtain ⟨v, -, e⟩ := h
    rw [e]
    rfl
  · have h : o = .inl (pc, L, S, H, cn, sn) := h
    rw [h]
    rfl
/-- what goes on from an outcome -/
theorem xOf_fin {tb : XT} {tyl : List FieldType} {ot : XO Int32} {dp k : Nat} {e : Option Nat} {L : List (Nat × XV Int32)} {S : List (XV Int32)} {H : List (XC Int32)} {cn sn : Nat} {o : XOu} (h : xOf e L S H cn sn o) {v : Option (XV Int32)} {H2 : List (XC Int32)} (g : xE tb tyl ot e dp k L S H cn sn v H2) : xFin tb tyl ot dp k o v H2 := by
  rcases e with _ | pc
  · obtain ⟨w, hw, e⟩ := h
    rw [e]
    obtain ⟨g1, g2⟩ := g
    exact ⟨optList (g1.trans hw.symm), g2⟩
  · have h : o = .inl (pc, L, S, H, cn, sn) := h
    rw [h]
    exact g
theorem wPx_R {KT : vKT} {tb : XT} {tyl : List FieldType} {ot : XO Int32} {ov : vOt} (hov : vOvLe ov (o4 ot)) {CT : Nat → List vCt} {hs : Nat → Nat → Option (List vHn)} {kn : Nat → Nat → Option Nat} {WA WB : List (Nat × Nat)} (hCT : ∀ j c, c ∈ CT j → vCtSem KT tb tyl ot j c) {f goA dpA kA pcA goB dpB kB pcB dA dB : Nat} {LA LB : List (Nat × vA)} {SA SB : List vA} {cA sA cB sB : lT} {cuA cuB : Nat → Bool} {fin : wFn} {s : vSt} {g : wGs}
    (hk : wPx KT tb tyl ov CT hs kn WA WB f goA dpA kA pcA goB dpB kB pcB LA SA cA sA LB SB cB sB cuA cuB fin s g = true) {qA qB : XM} (hqA : tMth tb kA = some qA) (hqB : tMth tb kB = some qB) (hdA : dpA ≤ dA) (hdB : dpB ≤ dB) {BA BB : Nat} (hBA : BA + mMc qA ≤ 1000000) (hBB : BB + mMc qB ≤ 1000000)
    {ρ : Nat → Int} {σA σB : Nat → Nat} {tyA tyB : Nat → Option Nat} {GA GB : List (XC Int32)} {Lc1 Lc2 : List (Nat × XV Int32)} {a1 a2 b1 b2 : Nat}
    (hA : vRel KT ρ σA tyA GA s) (hB : vRel KT ρ σB tyB GB (wB s g)) (eA : eCov ρ σA (some pcA) BA (mMc qA) LA cA sA GA Lc1 a1 a2) (eB : eCov ρ σB (some pcB) BB (mMc qB) LB cB sB GB Lc2 b1 b2)
    {R : XOu → XOu → Prop}
    (hout : ∀ xA L S s1 cn sn xB L2 S2 s2 cn2 sn2, fin xA L S s1 cn sn xB L2 S2 s2 cn2 sn2 = true → sRw s1 = [] → sRw s2 = [] → ∀ ρ2 σA2 σB2 tyA2 tyB2 HA HB La Lb ca sa cb sb, (∀ i, i < sN s → ρ2 i = ρ i) → (∀ i, i < (sG s).length → σA2 i = σA i) → (∀ i, i < g.1.length → σB2 i = σB i) → vLe tyA tyA2 → vLe tyB tyB2 → vFrm WA tyA GA HA → vFrm WB tyB GB HB →
      vRel KT ρ2 σA2 tyA2 HA (sJn s1 s2) → vRel KT ρ2 σB2 tyB2 HB s2 → eCov ρ2 σA2 xA BA (mMc qA) L cn sn HA La ca sa → eCov ρ2 σB2 xB BB (mMc qB) L2 cn2 sn2 HB Lb cb sb →
      ∀ oA oB, xOf xA La (S.map (cv ρ2 σA2)) HA ca sa oA → xOf xB Lb (S2.map (cv ρ2 σB2)) HB cb sb oB → R oA oB) :
    ∃ oA oB, xRC tb tyl ot dA kA cuA (Nat.ble 1 goA) pcA Lc1 (SA.map (cv ρ σA)) GA a1 a2 oA ∧ xRC tb tyl ot dB kB cuB (Nat.ble 1 goB) pcB Lc2 (SB.map (cv ρ σB)) GB b1 b2 oB ∧ R oA oB := by
  unfold wPx at hk
  simp only [Bool.and_eq_true] at hk
  obtain ⟨⟨⟨⟨⟨⟨k1, k2⟩, k3⟩, k4⟩, k5⟩, k6⟩, k7⟩ := hk
  have hrA := vRel_noraw hA (List.isEmpty_iff.mp k1)
  have hrB := vRel_noraw hB rfl
  have hatA : vAt KT WA tyA GA BA LA s cA sA ρ σA tyA GA Lc1 a1 a2 := ⟨eA.1, vLe_rf tyA, vFrm_rf WA tyA GA, hA, eA.2⟩
  have hb : ∀ (e : Option Nat) ρ2 σA2 tyA2 HA s1 L S cn sn La ca sa, vExt s s1 ρ ρ2 σA σA2 → vLe tyA tyA2 → vFrm WA tyA GA HA → vRel KT ρ2 σA2 tyA2 HA s1 → eCov ρ2 σA2 e BA (mMc qA) L cn sn HA La ca sa → wPy KT tb tyl ov CT hs kn WB f goB dpB kB pcB LB SB cB sB g cuB fin e L S s1 cn sn = true →
      ∃ oB, xRC tb tyl ot dB kB cuB (Nat.ble 1 goB) pcB Lc2 (SB.map (cv ρ σB)) GB b1 b2 oB ∧ ∀ oA, xOf e La (S.map (cv ρ2 σA2)) HA ca sa oA → R oA oB := by
    intro e ρ2 σA2 tyA2 HA s1 L S cn sn La ca sa x1 x2 x3 x4 x5 x6
    unfold wPy at x6
    simp only [Bool.and_eq_true] at x6
    obtain ⟨⟨⟨y1, y2⟩, y3⟩, y4⟩ := x6
    have y2 : sRw s1 = [] := List.isEmpty_iff.mp y2
    have hB2 : vRel KT ρ2 σB tyB GB (wB s1 g) := wB_of x4 (vRel_ext hB k2 (fun i hi => x1.1 i hi) (fun _ _ => rfl)) rfl rfl hrB
    have hcovB : vCov ρ2 σB LB Lc2 := vBd_loc (n := sN s) (m := g.1.length) (fun i hi => x1.1 i hi) (fun _ _ => rfl) k3 eB.2.1
    have hSB : SB.map (cv ρ2 σB) = SB.map (cv ρ σB) := vBd_list (n := sN s) (m := g.1.length) (fun i hi => x1.1 i hi) (fun _ _ => rfl) k4
    have hatB : vAt KT WB tyB GB BB LB (wB s1 g) cB sB ρ2 σB tyB GB Lc2 b1 b2 := ⟨eB.1, vLe_rf tyB, vFrm_rf WB tyB GB, hB2, hcovB, by
      rw [lBd_spec (n := sN s) (fun i hi => x1.1 i hi) k5]
      exact eB.2.2.1, by
      rw [lBd_spec (n := sN s) (fun i hi => x1.1 i hi) k6]
      exact eB.2.2.2⟩
    have fi : ∀ (eb : Option Nat) ρ3 σB3 tyB3 HB s2 L2 S2 cn2 sn2 Lb cb sb, vExt (wB s1 g) s2 ρ2 ρ3 σB σB3 → vLe tyB tyB3 → vFrm WB tyB GB HB → vRel KT ρ3 σB3 tyB3 HB s2 → eCov ρ3 σB3 eb BB (mMc qB) L2 cn2 sn2 HB Lb cb sb → ((sRw s2).isEmpty && fin e L S s1 cn sn eb L2 S2 s2 cn2 sn2) = true →
        ∀ oB, xOf eb Lb (S2.map (cv ρ3 σB3)) HB cb sb oB → ∀ oA, xOf e La (S.map (cv ρ2 σA2)) HA ca sa oA → R oA oB := by
      intro eb ρ3 σB3 tyB3 HB s2 L2 S2 cn2 sn2 Lb cb sb w1 w2 w3 w4 w5 w6
      obtain ⟨w7, w8⟩ := Bool.and_eq_true_iff.mp w6
      have hρ3 : ∀ i, i < sN s1 → ρ3 i = ρ2 i := fun i hi => w1.1 i hi
      have hA3 : vRel KT ρ3 σA2 tyA2 HA (sJn s1 s2) := by
        obtain ⟨a1, a2, a3, a4, a5, a6, a7, a8⟩ := vRel_ext x4 y1 hρ3 (fun _ _ => rfl)
        exact ⟨a1, a2, a3, w4.2.2.2.1, w4.2.2.2.2.1, w4.2.2.2.2.2.1, a7, a8⟩
      have hfr := vFr_spec (s := s1) (s2 := sJn s1 s2) (ρ := ρ2) (ρ2 := ρ3) (σ := σA2) (σ2 := σA2) ⟨hρ3, fun _ _ => rfl, w1.2.2.1, Nat.le_refl _⟩ y3
      have eA3 : eCov ρ3 σA2 e BA (mMc qA) L cn sn HA La ca sa := by
        rcases e with _ | pe
        · exact x5
        · obtain ⟨x5, x6, x7, x8⟩ := x5
          exact ⟨x5, hfr.1 _ x6, by rw [hfr.2.2.1]; exact x7, by rw [hfr.2.2.2]; exact x8⟩
      have hn : sN s ≤ sN s1 := x1.2.2.1
      have zz := hout e L S s1 cn sn eb L2 S2 s2 cn2 sn2 w8 y2 (List.isEmpty_iff.mp w7) ρ3 σA2 σB3 tyA2 tyB3 HA HB La Lb ca sa cb sb (fun i hi => (hρ3 i (by omega)).trans (x1.1 i hi)) x1.2.1 w1.2.1 x2 w2 x3 w3 hA3 w4 eA3 w5
      intro oB u1 oA u2
      refine zz oA oB ?_ u1
      rw [hfr.2.1]
      exact u2
    obtain ⟨oB, z1, z2⟩ := vChkR2_spec (Post := fun oB => ∀ oA, xOf e La (S.map (cv ρ2 σA2)) HA ca sa oA → R oA oB) hov hCT hrB f goB hqB hdB hBB hatB y4 (fun ρ3 σ3 ty3 HB s2 av w1 w2 w3 w4 w5 w6 => fi none ρ3 σ3 ty3 HB s2 [] av.toList (lK 0) (lK 0) [] 0 0 w1 w2 w3 w4 w5 w6 _ ⟨av.map (cv ρ3 σ3), by rcases av with _ | av <;> rfl, rfl⟩) (fun pc gg hg ρ3 σ3 ty3 HB s2 L2 S2 cn2 sn2 Lb cb sb w1 w2 w3 => by
      try dsimp only at hg
      split at hg
      · cases hg
        exact fi (some pc) ρ3 σ3 ty3 HB s2 L2 S2 cn2 sn2 Lb cb sb w1 w2.2.1 w2.2.2.1 w2.2.2.2.1 ⟨w2.1, w2.2.2.2.2⟩ w3 _ rfl
      · cases hg)
    rw [hSB, xCu_eq] at z1
    exact ⟨oB, z1, z2⟩
  obtain ⟨oA, z1, oB, z2, z3⟩ := vChkR2_spec (Post := fun oA => ∃ oB, xRC tb tyl ot dB kB cuB (Nat.ble 1 goB) pcB Lc2 (SB.map (cv ρ σB)) GB b1 b2 oB ∧ R oA oB) hov hCT hrA f goA hqA hdA hBA hatA k7 (fun ρ2 σ2 ty2 HA s1 av w1 w2 w3 w4 w5 w6 => by
    obtain ⟨oB, u0, u1⟩ := hb none ρ2 σ2 ty2 HA s1 [] av.toList (lK 0) (lK 0) [] 0 0 w1 w2 w3 w4 w5 w6
    exact ⟨oB, u0, u1 _ ⟨av.map (cv ρ2 σ2), by rcases av with _ | av <;> rfl, rfl⟩⟩) (fun pc gg hg ρ2 σ2 ty2 HA s1 L S cn sn La ca sa w1 w2 w3 => by
    try dsimp only at hg
    split at hg
    · cases hg
      obtain ⟨oB, u0, u1⟩ := hb (some pc) ρ2 σ2 ty2 HA s1 L S cn sn La ca sa w1 w2.2.1 w2.2.2.1 w2.2.2.2.1 ⟨w2.1, w2.2.2.2.2⟩ w3
      exact ⟨oB, u0, u1 _ rfl⟩
    · cases hg)
  rw [xCu_eq] at z1
  exact ⟨oA, oB, z1, z2, z3⟩
end XEdR
