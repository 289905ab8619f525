/-! Pairs of runs: from stand to stand. -/
noncomputable section XNode
def eCov (ρ : Nat → Int) (σ : Nat → Nat) (e : Option Nat) (B mc : Nat) (L : List (Nat × vA)) (cn sn : lT) (H : List (XC Int32)) (Lc : List (Nat × XV Int32)) (cn2 sn2 : Nat) : Prop := match e with
  | some _ => (H.length ≤ B + cn2 ∧ H.length ≤ 1000000) ∧ vCov ρ σ L Lc ∧ (cn2 : Int) ≤ lEv ρ cn ∧ (sn2 : Int) ≤ lEv ρ sn
  | none => H.length ≤ B + mc
abbrev wFn : Type := Option Nat → List (Nat × vA) → List vA → vSt → lT → lT → Option Nat → List (Nat × vA) → List vA → vSt → lT → lT → Bool
/-- the second's way, from the ints of the first -/
def wPy (KT : vKT) (tb : XT) (tyl : List FieldType) (ov : vOt) (CT : Nat → List vCt) (hs : Nat → Nat → Option (List vHn)) (kn : Nat → Nat → Option Nat) (WB : List (Nat × Nat)) (f goB dpB kB pcB : Nat) (LB : List (Nat × vA)) (SB : List vA) (cB sB : lT) (g : wGs) (cuB : Nat → Bool) (fin : wFn) (xA : Option Nat) (L : List (Nat × vA)) (S : List vA) (s1 : vSt) (cn sn : lT) : Bool :=
  sBd s1 && (sRw s1).isEmpty && vFr L S cn sn s1 && vChk KT tb tyl ov CT hs kn WB f goB dpB kB pcB LB SB (wB s1 g) cB sB
    (fun pc => if cuB pc = true then some (fun L2 S2 s2 cn2 sn2 => (sRw s2).isEmpty && fin xA L S s1 cn sn (some pc) L2 S2 s2 cn2 sn2) else none)
    (fun s2 av => (sRw s2).isEmpty && fin xA L S s1 cn sn none [] av.toList s2 (lK 0) (lK 0))
def wPx (KT : vKT) (tb : XT) (tyl : List FieldType) (ov : vOt) (CT : Nat → List vCt) (hs : Nat → Nat → Option (List vHn)) (kn : Nat → Nat → Option Nat) (WA WB : List (Nat × Nat)) (f goA dpA kA pcA goB dpB kB pcB : Nat) (LA : List (Nat × vA)) (SA : List vA) (cA sA : lT) (LB : List (Nat × vA)) (SB : List vA) (cB sB : lT) (cuA cuB : Nat → Bool) (fin : wFn) (s : vSt) (g : wGs) : Bool :=
  (sRw s).isEmpty && sBd (wB s g) && LB.all (fun q => vBd (sN s) g.1.length q.2) && SB.all (vBd (sN s) g.1.length) && lBd (sN s) cB && lBd (sN s) sB && vChk KT tb tyl ov CT hs kn WA f goA dpA kA pcA LA SA s cA sA
    (fun pc => if cuA pc = true then some (fun L S s1 cn sn => wPy KT tb tyl ov CT hs kn WB f goB dpB kB pcB LB SB cB sB g cuB fin (some pc) L S s1 cn sn) else none)
    (fun s1 av => wPy KT tb tyl ov CT hs kn WB f goB dpB kB pcB LB SB cB sB g cuB fin none [] av.toList s1 (lK 0) (lK 0))
theorem wPx_spec {KT : vKT} {tb : XT} {tyl : List FieldType} {ot : XO Int32} {ov : vOt} (hov : vOvLe ov (o4 ot)) {CT : Nat → List vCt} {hs : Nat → Nat → Option (List vHn)} {kn : Nat → Nat → Option Nat} {WA WB : List (Nat × Nat)} (hCT : ∀ j c, c ∈ CT j → vCtSem KT tb tyl ot j c) {f goA dpA kA pcA goB dpB kB pcB dA dB : Nat} {LA LB : List (Nat × vA)} {SA SB : List vA} {cA sA cB sB : lT} {cuA cuB : Nat → Bool} {fin : wFn} {s : vSt} {g : wGs}
    (hk : wPx KT tb tyl ov CT hs kn WA WB f goA dpA kA pcA goB dpB kB pcB LA SA cA sA LB SB cB sB cuA cuB fin s g = true) {qA qB : XM} (hqA : tMth tb kA = some qA) (hqB : tMth tb kB = some qB) (hdA : dpA ≤ dA) (hdB : dpB ≤ dB) {BA BB : Nat} (hBA : BA + mMc qA ≤ 1000000) (hBB : BB + mMc qB ≤ 1000000)
    {ρ : Nat → Int} {σA σB : Nat → Nat} {tyA tyB : Nat → Option Nat} {GA GB : List (XC Int32)} {Lc1 Lc2 : List (Nat × XV Int32)} {a1 a2 b1 b2 : Nat}
    (hA : vRel KT ρ σA tyA GA s) (hB : vRel KT ρ σB tyB GB (wB s g)) (eA : eCov ρ σA (some pcA) BA (mMc qA) LA cA sA GA Lc1 a1 a2) (eB : eCov ρ σB (some pcB) BB (mMc qB) LB cB sB GB Lc2 b1 b2)
    {R : Option (XV Int32) → List (XC Int32) → Option (XV Int32) → List (XC Int32) → Prop}
    (hout : ∀ xA L S s1 cn sn xB L2 S2 s2 cn2 sn2, fin xA L S s1 cn sn xB L2 S2 s2 cn2 sn2 = true → sRw s1 = [] → sRw s2 = [] → ∀ ρ2 σA2 σB2 tyA2 tyB2 HA HB La Lb ca sa cb sb, (∀ i, i < sN s → ρ2 i = ρ i) → (∀ i, i < (sG s).length → σA2 i = σA i) → (∀ i, i < g.1.length → σB2 i = σB i) → vLe tyA tyA2 → vLe tyB tyB2 → vFrm WA tyA GA HA → vFrm WB tyB GB HB →
      vRel KT ρ2 σA2 tyA2 HA (sJn s1 s2) → vRel KT ρ2 σB2 tyB2 HB s2 → eCov ρ2 σA2 xA BA (mMc qA) L cn sn HA La ca sa → eCov ρ2 σB2 xB BB (mMc qB) L2 cn2 sn2 HB Lb cb sb →
      ∃ vA H1 vB H2, xE tb tyl ot xA dA kA La (S.map (cv ρ2 σA2)) HA ca sa vA H1 ∧ xE tb tyl ot xB dB kB Lb (S2.map (cv ρ2 σB2)) HB cb sb vB H2 ∧ R vA H1 vB H2) :
    ∃ vA H1 vB H2, x_To tb tyl ot dA kA pcA Lc1 (SA.map (cv ρ σA)) GA a1 a2 vA H1 ∧ x_To tb tyl ot dB kB pcB Lc2 (SB.map (cv ρ σB)) GB b1 b2 vB H2 ∧ R vA H1 vB H2 := by
  unfold wPx at hk
  simp only [Bool.and_eq_true] at hk
  obtain ⟨⟨⟨⟨⟨⟨k1, k2⟩, k3⟩, k4⟩, k5⟩, k6⟩, k7⟩ := hk
  have hrA := vRel_noraw hA (List.isEmpty_iff.mp k1)
  have hrB := vRel_noraw hB rfl
  have hatA : vAt KT WA tyA GA BA LA s cA sA ρ σA tyA GA Lc1 a1 a2 := ⟨eA.1, vLe_rf tyA, vFrm_rf WA tyA GA, hA, eA.2⟩
  have hb : ∀ (e : Option Nat) ρ2 σA2 tyA2 HA s1 L S cn sn La ca sa, vExt s s1 ρ ρ2 σA σA2 → vLe tyA tyA2 → vFrm WA tyA GA HA → vRel KT ρ2 σA2 tyA2 HA s1 → eCov ρ2 σA2 e BA (mMc qA) L cn sn HA La ca sa → wPy KT tb tyl ov CT hs kn WB f goB dpB kB pcB LB SB cB sB g cuB fin e L S s1 cn sn = true →
      ∃ vB H2, x_To tb tyl ot dB kB pcB Lc2 (SB.map (cv ρ σB)) GB b1 b2 vB H2 ∧ ∃ vA H1, xE tb tyl ot e dA kA La (S.map (cv ρ2 σA2)) HA ca sa vA H1 ∧ R vA H1 vB H2 := by
    intro e ρ2 σA2 tyA2 HA s1 L S cn sn La ca sa x1 x2 x3 x4 x5 x6
    unfold wPy at x6
    simp only [Bool.and_eq_true] at x6
    obtain ⟨⟨⟨y1, y2⟩, y3⟩, y4⟩ := x6
    have y2 : sRw s1 = [] := List.isEmpty_iff.mp y2
    have hB2 : vRel KT ρ2 σB tyB GB (wB s1 g) := wB_of x4 (vRel_ext hB k2 (fun i hi => x1.1 i hi) (fun _ _ => rfl)) rfl rfl hrB
    have hcovB : vCov ρ2 σB LB Lc2 := vBd_loc (n := sN s) (m := g.1.length) (fun i hi => x1.1 i hi) (fun _ _ => rfl) k3 eB.2.1
    have hSB : SB.map (cv ρ2 σB) = SB.map (cv ρ σB) := vBd_list (n := sN s) (m := g.1.length) (fun i hi => x1.1 i hi) (fun _ _ => rfl) k4
    have hatB : vAt KT WB tyB GB BB LB (wB s1 g) cB sB ρ2 σB tyB GB Lc2 b1 b2 := ⟨eB.1, vLe_rf tyB, vFrm_rf WB tyB GB, hB2, hcovB, by
      rw [lBd_spec (n := sN s) (fun i hi => x1.1 i hi) k5]
      exact eB.2.2.1, by
      rw [lBd_spec (n := sN s) (fun i hi => x1.1 i hi) k6]
      exact eB.2.2.2⟩
    have fi : ∀ (eb : Option Nat) ρ3 σB3 tyB3 HB s2 L2 S2 cn2 sn2 Lb cb sb, vExt (wB s1 g) s2 ρ2 ρ3 σB σB3 → vLe tyB tyB3 → vFrm WB tyB GB HB → vRel KT ρ3 σB3 tyB3 HB s2 → eCov ρ3 σB3 eb BB (mMc qB) L2 cn2 sn2 HB Lb cb sb → ((sRw s2).isEmpty && fin e L S s1 cn sn eb L2 S2 s2 cn2 sn2) = true →
        ∃ vB H2, xE tb tyl ot eb dB kB Lb (S2.map (cv ρ3 σB3)) HB cb sb vB H2 ∧ ∃ vA H1, xE tb tyl ot e dA kA La (S.map (cv ρ2 σA2)) HA ca sa vA H1 ∧ R vA H1 vB H2 := by
      intro eb ρ3 σB3 tyB3 HB s2 L2 S2 cn2 sn2 Lb cb sb w1 w2 w3 w4 w5 w6
      obtain ⟨w7, w8⟩ := Bool.and_eq_true_iff.mp w6
      have hρ3 : ∀ i, i < sN s1 → ρ3 i = ρ2 i := fun i hi => w1.1 i hi
      have hA3 : vRel KT ρ3 σA2 tyA2 HA (sJn s1 s2) := by
        obtain ⟨a1, a2, a3, a4, a5, a6, a7, a8⟩ := vRel_ext x4 y1 hρ3 (fun _ _ => rfl)
        exact ⟨a1, a2, a3, w4.2.2.2.1, w4.2.2.2.2.1, w4.2.2.2.2.2.1, a7, a8⟩
      have hfr := vFr_spec (s := s1) (s2 := sJn s1 s2) (ρ := ρ2) (ρ2 := ρ3) (σ := σA2) (σ2 := σA2) ⟨hρ3, fun _ _ => rfl, w1.2.2.1, Nat.le_refl _⟩ y3
      have eA3 : eCov ρ3 σA2 e BA (mMc qA) L cn sn HA La ca sa := by
        rcases e with _ | pe
        · exact x5
        · obtain ⟨x5, x6, x7, x8⟩ := x5
          exact ⟨x5, hfr.1 _ x6, by rw [hfr.2.2.1]; exact x7, by rw [hfr.2.2.2]; exact x8⟩
      have hn : sN s ≤ sN s1 := x1.2.2.1
      obtain ⟨vA, H1, vB, H2, z1, z2, z3⟩ := hout e L S s1 cn sn eb L2 S2 s2 cn2 sn2 w8 y2 (List.isEmpty_iff.mp w7) ρ3 σA2 σB3 tyA2 tyB3 HA HB La Lb ca sa cb sb (fun i hi => (hρ3 i (by omega)).trans (x1.1 i hi)) x1.2.1 w1.2.1 x2 w2 x3 w3 hA3 w4 eA3 w5
      rw [hfr.2.1] at z1
      exact ⟨vB, H2, z2, vA, H1, z1, z3⟩
    obtain ⟨vB, H2, z1, z2⟩ := vChk_spec (Post := fun vB H2 => ∃ vA H1, xE tb tyl ot e dA kA La (S.map (cv ρ2 σA2)) HA ca sa vA H1 ∧ R vA H1 vB H2) hov hCT hrB f goB hqB hdB hBB hatB y4 (fun ρ3 σ3 ty3 HB s2 av w1 w2 w3 w4 w5 w6 => by
      obtain ⟨vB, H2, u1, u2⟩ := fi none ρ3 σ3 ty3 HB s2 [] av.toList (lK 0) (lK 0) [] 0 0 w1 w2 w3 w4 w5 w6
      obtain ⟨u3, u4⟩ := u1
      have u5 : vB = av.map (cv ρ3 σ3) := optList (by rw [u3]; rcases av with _ | av <;> rfl)
      rw [← u5, ← u4]
      exact u2) (fun pc gg hg ρ3 σ3 ty3 HB s2 L2 S2 cn2 sn2 Lb cb sb w1 w2 w3 => by
      try dsimp only at hg
      split at hg
      · cases hg
        exact fi (some pc) ρ3 σ3 ty3 HB s2 L2 S2 cn2 sn2 Lb cb sb w1 w2.2.1 w2.2.2.1 w2.2.2.2.1 ⟨w2.1, w2.2.2.2.2⟩ w3
      · cases hg)
    rw [hSB] at z1
    exact ⟨vB, H2, z1, z2⟩
  obtain ⟨vA, H1, z1, vB, H2, z2, z3⟩ := vChk_spec (Post := fun vA H1 => ∃ vB H2, x_To tb tyl ot dB kB pcB Lc2 (SB.map (cv ρ σB)) GB b1 b2 vB H2 ∧ R vA H1 vB H2) hov hCT hrA f goA hqA hdA hBA hatA k7 (fun ρ2 σ2 ty2 HA s1 av w1 w2 w3 w4 w5 w6 => by
    obtain ⟨vB, H2, u0, vA, H1, u1, u2⟩ := hb none ρ2 σ2 ty2 HA s1 [] av.toList (lK 0) (lK 0) [] 0 0 w1 w2 w3 w4 w5 w6
    obtain ⟨u3, u4⟩ := u1
    have u5 : vA = av.map (cv ρ2 σ2) := optList (by rw [u3]; rcases av with _ | av <;> rfl)
    rw [← u5, ← u4]
    exact ⟨vB, H2, u0, u2⟩) (fun pc gg hg ρ2 σ2 ty2 HA s1 L S cn sn La ca sa w1 w2 w3 => by
    try dsimp only at hg
    split at hg
    · cases hg
      obtain ⟨vB, H2, u0, vA, H1, u1, u2⟩ := hb (some pc) ρ2 σ2 ty2 HA s1 L S cn sn La ca sa w1 w2.2.1 w2.2.2.1 w2.2.2.2.1 ⟨w2.1, w2.2.2.2.2⟩ w3
      exact ⟨vA, H1, u1, vB, H2, u0, u2⟩
    · cases hg)
  exact ⟨vA, H1, vB, H2, z1, z2, z3⟩
/-- a stand: where the first is, where the second is (none: at its end), their notes, which families hold -/
abbrev wE : Type := Option Nat × Option Nat × vAn × vAn × List Nat
abbrev wQA (e : wE) : Option Nat := e.1
abbrev wQB (e : wE) : Option Nat := e.2.1
abbrev wNA (e : wE) : vAn := e.2.2.1
abbrev wNB (e : wE) : vAn := e.2.2.2.1
abbrev wUs (e : wE) : List Nat := e.2.2.2.2
abbrev cR (c : pC) : Nat → Int := c.1
abbrev cSA (c : pC) : Nat → Nat := c.2.1
abbrev cSB (c : pC) : Nat → Nat := c.2.2.1
abbrev cTA (c : pC) : Nat → Option Nat := c.2.2.2.1
abbrev cTB (c : pC) : Nat → Option Nat := c.2.2.2.2.1
abbrev cHA (c : pC) : List (XC Int32) := c.2.2.2.2.2.1
abbrev cHB (c : pC) : List (XC Int32) := c.2.2.2.2.2.2
def wHs (FS : List wN) (gA gB : Nat) (us : List Nat) (c : pC) : Prop := ∀ i, i ∈ us → ∀ u, FS[i]? = some u → wHd gA gB u (cSA c) (cSB c) (cHA c) (cHB c)
def wAt (KT : vKT) (FS : List wN) (gA gB mcA mcB BA BB : Nat) (e : wE) (c : pC) (LA LB : List (Nat × XV Int32)) (a1 a2 b1 b2 : Nat) : Prop :=
  vRel KT (cR c) (cSA c) (cTA c) (cHA c) (aSt (wNA e)) ∧ vRel KT (cR c) (cSB c) (cTB c) (cHB c) (aSt (wNB e)) ∧ eCov (cR c) (cSA c) (wQA e) BA mcA (aL (wNA e)) (aCn (wNA e)) (aSn (wNA e)) (cHA c) LA a1 a2 ∧ eCov (cR c) (cSB c) (wQB e) BB mcB (aL (wNB e)) (aCn (wNB e)) (aSn (wNB e)) (cHB c) LB b1 b2 ∧ wHs FS gA gB (wUs e) c
def wFar (n0 mA mB : Nat) (WA WB : List (Nat × Nat)) (b c : pC) : Prop := (∀ i, i < n0 → cR c i = cR b i) ∧ (∀ i, i < mA → cSA c i = cSA b i) ∧ (∀ i, i < mB → cSB c i = cSB b i) ∧ vLe (cTA b) (cTA c) ∧ vLe (cTB b) (cTB c) ∧ vFrm WA (cTA b) (cHA b) (cHA c) ∧ vFrm WB (cTB b) (cHB b) (cHB c)
theorem wFar_tr {n0 mA mB : Nat} {WA WB : List (Nat × Nat)} {b c d : pC} (h : wFar n0 mA mB WA WB b c) (g : wFar n0 mA mB WA WB c d) : wFar n0 mA mB WA WB b d := by
  obtain ⟨h1, h2, h3, h4, h5, h6, h7⟩ := h
  obtain ⟨g1, g2, g3, g4, g5, g6, g7⟩ := g
  exact ⟨fun i hi => (g1 i hi).trans (h1 i hi), fun i hi => (g2 i hi).trans (h2 i hi), fun i hi => (g3 i hi).trans (h3 i hi), vLe_tr h4 g4, vLe_tr h5 g5, vFrm_tr h6 h4 (fun _ _ h => h) g6, vFrm_tr h7 h5 (fun _ _ h => h) g7⟩
theorem wFar_mono {n0 mA mB n1 m1 m2 : Nat} {WA WB WA2 WB2 : List (Nat × Nat)} {b c : pC} (hn : n0 ≤ n1) (hA : mA ≤ m1) (hB : mB ≤ m2) (wA : ∀ c k, wIn WA2 c k = true → wIn WA c k = true) (wB : ∀ c k, wIn WB2 c k = true → wIn WB c k = true) (h : wFar n1 m1 m2 WA2 WB2 b c) : wFar n0 mA mB WA WB b c := by
  obtain ⟨h1, h2, h3, h4, h5, h6, h7⟩ := h
  exact ⟨fun i hi => h1 i (by omega), fun i hi => h2 i (by omega), fun i hi => h3 i (by omega), h4, h5, vFrm_tr (vFrm_rf WA (cTA b) (cHA b)) (vLe_rf _) wA h6, vFrm_tr (vFrm_rf WB (cTB b) (cHB b)) (vLe_rf _) wB h7⟩
/-- from a stand both come to one of others -/
def wGoes (KT : vKT) (tb : XT) (tyl : List FieldType) (ot : XO Int32) (FS : List wN) (gA gB n0 mA mB : Nat) (WA WB : List (Nat × Nat)) (kA kB dpA dpB : Nat) (e : wE) (outs : List (Bool × wE)) : Prop :=
  ∀ (qA qB : XM) (dA dB BA BB : Nat), tMth tb kA = some qA → tMth tb kB = some qB → dpA ≤ dA → dpB ≤ dB → BA + mMc qA ≤ 1000000 → BB + mMc qB ≤ 1000000 → ∀ (c : pC) (LA LB : List (Nat × XV Int32)) (a1 a2 b1 b2 : Nat), wAt KT FS gA gB (mMc qA) (mMc qB) BA BB e c LA LB a1 a2 b1 b2 →
    ∀ R : Option (XV Int32) → List (XC Int32) → Option (XV Int32) → List (XC Int32) → Prop,
      (∀ o ∈ outs, ∀ (d : pC) (LA2 LB2 : List (Nat × XV Int32)) (c1 c2 d1 d2 : Nat), wAt KT FS gA gB (mMc qA) (mMc qB) BA BB o.2 d LA2 LB2 c1 c2 d1 d2 → wFar n0 mA mB WA WB c d → (o.1 = true → 0 ≤ lEv (cR d) (aRk (wNA o.2)) ∧ lEv (cR d) (aRk (wNA o.2)) < lEv (cR c) (aRk (wNA e))) →
        ∃ vA H1 vB H2, xE tb tyl ot (wQA o.2) dA kA LA2 ((aS (wNA o.2)).map (cv (cR d) (cSA d))) (cHA d) c1 c2 vA H1 ∧ xE tb tyl ot (wQB o.2) dB kB LB2 ((aS (wNB o.2)).map (cv (cR d) (cSB d))) (cHB d) d1 d2 vB H2 ∧ R vA H1 vB H2) →
      ∃ vA H1 vB H2, xE tb tyl ot (wQA e) dA kA LA ((aS (wNA e)).map (cv (cR c) (cSA c))) (cHA c) a1 a2 vA H1 ∧ xE tb tyl ot (wQB e) dB kB LB ((aS (wNB e)).map (cv (cR c) (cSB c))) (cHB c) b1 b2 vB H2 ∧ R vA H1 vB H2
/-- loops: at each stand a rank falls -/
theorem wGraph {KT : vKT} {tb : XT} {tyl : List FieldType} {ot : XO Int32} {FS : List wN} {gA gB n0 mA mB : Nat} {WA WB : List (Nat × Nat)} {kA kB dpA dpB : Nat} {nodes : List wE} {exits : List wE}
    (h : ∀ nd ∈ nodes, ∃ outs, wGoes KT tb tyl ot FS gA gB n0 mA mB WA WB kA kB dpA dpB nd outs ∧ ∀ o ∈ outs, o.2 ∈ exits ∨ (o.1 = true ∧ o.2 ∈ nodes)) : ∀ nd ∈ nodes, wGoes KT tb tyl ot FS gA gB n0 mA mB WA WB kA kB dpA dpB nd (exits.map (fun x => (false, x))) := by
  intro nd hnd qA qB dA dB BA BB hqA hqB hdA hdB hBA hBB
  have key : ∀ (n : Nat) (nd : wE), nd ∈ nodes → ∀ (c : pC) (LA LB : List (Nat × XV Int32)) (a1 a2 b1 b2 : Nat), (lEv (cR c) (aRk (wNA nd))).toNat ≤ n → wAt KT FS gA gB (mMc qA) (mMc qB) BA BB nd c LA LB a1 a2 b1 b2 →
      ∀ R : Option (XV Int32) → List (XC Int32) → Option (XV Int32) → List (XC Int32) → Prop,
      (∀ x ∈ exits, ∀ (d : pC) (LA2 LB2 : List (Nat × XV Int32)) (c1 c2 d1 d2 : Nat), wAt KT FS gA gB (mMc qA) (mMc qB) BA BB x d LA2 LB2 c1 c2 d1 d2 → wFar n0 mA mB WA WB c d → ∃ vA H1 vB H2, xE tb tyl ot (wQA x) dA kA LA2 ((aS (wNA x)).map (cv (cR d) (cSA d))) (cHA d) c1 c2 vA H1 ∧ xE tb tyl ot (wQB x) dB kB LB2 ((aS (wNB x)).map (cv (cR d) (cSB d))) (cHB d) d1 d2 vB H2 ∧ R vA H1 vB H2) →
      ∃ vA H1 vB H2, xE tb tyl ot (wQA nd) dA kA LA ((aS (wNA nd)).map (cv (cR c) (cSA c))) (cHA c) a1 a2 vA H1 ∧ xE tb tyl ot (wQB nd) dB kB LB ((aS (wNB nd)).map (cv (cR c) (cSB c))) (cHB c) b1 b2 vB H2 ∧ R vA H1 vB H2 := by
    intro n
    induction n with
    | zero =>
      intro nd hnd c LA LB a1 a2 b1 b2 hr hat R hout
      obtain ⟨outs, g1, g2⟩ := h nd hnd
      refine g1 qA qB dA dB BA BB hqA hqB hdA hdB hBA hBB c LA LB a1 a2 b1 b2 hat R (fun o ho d LA2 LB2 c1 c2 d1 d2 w1 w2 w3 => ?_)
      rcases g2 o ho with g3 | ⟨g3, g4⟩
      · exact hout o.2 g3 d LA2 LB2 c1 c2 d1 d2 w1 w2
      · have := w3 g3
        omega
    | succ n ih =>
      intro nd hnd c LA LB a1 a2 b1 b2 hr hat R hout
      obtain ⟨outs, g1, g2⟩ := h nd hnd
      refine g1 qA qB dA dB BA BB hqA hqB hdA hdB hBA hBB c LA LB a1 a2 b1 b2 hat R (fun o ho d LA2 LB2 c1 c2 d1 d2 w1 w2 w3 => ?_)
      rcases g2 o ho with g3 | ⟨g3, g4⟩
      · exact hout o.2 g3 d LA2 LB2 c1 c2 d1 d2 w1 w2
      · have w4 := w3 g3
        exact ih o.2 g4 d LA2 LB2 c1 c2 d1 d2 (by omega) w1 R (fun x hx d2' La Lb e1 e2 e3 e4 v1 v2 => hout x hx d2' La Lb e1 e2 e3 e4 v1 (wFar_tr w2 v2))
  intro c LA LB a1 a2 b1 b2 hat R hout
  exact key _ nd hnd c LA LB a1 a2 b1 b2 (Nat.le_refl _) hat R (fun x hx d LA2 LB2 c1 c2 d1 d2 w1 w2 => hout (false, x) (List.mem_map.mpr ⟨x, hx, rfl⟩) d LA2 LB2 c1 c2 d1 d2 w1 w2 (fun h => absurd h Bool.false_ne_true))
/-- one after the other -/
theorem wSeq {KT : vKT} {tb : XT} {tyl : List FieldType} {ot : XO Int32} {FS : List wN} {gA gB n0 mA mB : Nat} {WA WB : List (Nat × Nat)} {kA kB dpA dpB : Nat} {e : wE} {mid outs : List (Bool × wE)} (h : wGoes KT tb tyl ot FS gA gB n0 mA mB WA WB kA kB dpA dpB e mid) (g : ∀ o ∈ mid, wGoes KT tb tyl ot FS gA gB n0 mA mB WA WB kA kB dpA dpB o.2 outs) (hf : ∀ o ∈ outs, o.1 = false) : wGoes KT tb tyl ot FS gA gB n0 mA mB WA WB kA kB dpA dpB e outs := by
  intro qA qB dA dB BA BB hqA hqB hdA hdB hBA hBB c LA LB a1 a2 b1 b2 hat R hout
  refine h qA qB dA dB BA BB hqA hqB hdA hdB hBA hBB c LA LB a1 a2 b1 b2 hat R (fun o ho d LA2 LB2 c1 c2 d1 d2 w1 w2 w3 => ?_)
  exact g o ho qA qB dA dB BA BB hqA hqB hdA hdB hBA hBB d LA2 LB2 c1 c2 d1 d2 w1 R (fun o2 ho2 d' La Lb e1 e2 e3 e4 v1 v2 v3 => hout o2 ho2 d' La Lb e1 e2 e3 e4 v1 (wFar_tr w2 v2) (fun hx => by
    rw [hf o2 ho2] at hx
    cases hx))
end XNode
