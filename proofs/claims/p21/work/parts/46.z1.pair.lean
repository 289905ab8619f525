/-! Two runs side by side, each on cells of its own: a way of the first, then one of the second, from a pair of notes to another. -/
noncomputable section XPair
/-- where a run stands: at a place, or at its end (its answer is the stack) -/
def xE (tb : XT) (tyl : List FieldType) (ot : XO Int32) (e : Option Nat) (dp k : Nat) (Lc : List (Nat × XV Int32)) (Sc : List (XV Int32)) (H : List (XC Int32)) (cn sn : Nat) (v : Option (XV Int32)) (H2 : List (XC Int32)) : Prop := match e with
  | some pc => x_To tb tyl ot dp k pc Lc Sc H cn sn v H2
  | none => v.toList = Sc ∧ H2 = H
def eAt (ρ : Nat → Int) (σ : Nat → Nat) (e : Option Nat) (B mc : Nat) (A : vAn) (H : List (XC Int32)) (Lc : List (Nat × XV Int32)) (cn2 sn2 : Nat) : Prop := match e with
  | some _ => (H.length ≤ B + cn2 ∧ H.length ≤ 1000000) ∧ vCov ρ σ (aL A) Lc ∧ (cn2 : Int) ≤ lEv ρ (aCn A) ∧ (sn2 : Int) ≤ lEv ρ (aSn A)
  | none => H.length ≤ B + mc
/-- where both end: the first, the second, their notes; is the rank less -/
abbrev vPo : Type := Option Nat × Option Nat × vAn × vAn × Bool
/-- rows of the first that stand in rows of the second: each element j at k * j + c -/
abbrev vTl : Type := List (Nat × Nat × Nat × Nat)
def tHd (tl : vTl) (σA σB : Nat → Nat) (GA GB : List (XC Int32)) : Prop := ∀ p ∈ tl, ∀ t vs, GA[sR σA p.1]? = some (.inr (t, vs)) → ∃ t2 us, GB[sR σB p.2.1]? = some (.inr (t2, us)) ∧ ∀ (j : Nat) (u : XV Int32), vs[j]? = some u → us[p.2.2.1 * j + p.2.2.2]? = some u
def tMp (tl : vTl) (f : vK) : List vK := match f.2.1, f.2.2 with
  | .inr e, .inl v => (tl.filter (fun p => decide (p.1 = f.1))).map (fun p => (p.2.1, .inr (lAdd (lSc (p.2.2.1 : Int) e) (lK (p.2.2.2 : Int))), .inl v))
  | _, _ => []
theorem tMp_spec {tl : vTl} {ρ : Nat → Int} {σA σB : Nat → Nat} {GA GB : List (XC Int32)} (h : tHd tl σA σB GA GB) {f : vK} (hf : vHolds ρ σA GA f) : ∀ g ∈ tMp tl f, vHolds ρ σB GB g := by
  intro g hg
  obtain ⟨i, j | e, u⟩ := f
  · exact absurd hg List.not_mem_nil
  rcases u with v | o
  rotate_left
  · exact absurd hg List.not_mem_nil
  obtain ⟨p, hp, rfl⟩ := List.mem_map.mp hg
  obtain ⟨hp1, hp2⟩ := List.mem_filter.mp hp
  have hp2 : p.1 = i := of_decide_eq_true hp2
  obtain ⟨t, vs, h1, h0, h2⟩ := vHolds_int hf
  have h1 : GA[sR σA i]? = some (.inr (t, vs)) := h1
  rw [← hp2] at h1
  obtain ⟨t2, us, g1, g2⟩ := h p hp1 t vs h1
  have h0 : 0 ≤ lEv ρ e := h0
  have e1 : lEv ρ (lAdd (lSc (p.2.2.1 : Int) e) (lK (p.2.2.2 : Int))) = (p.2.2.1 : Int) * lEv ρ e + (p.2.2.2 : Int) := by
    rw [lAdd_ev, lSc_ev, lK_ev]
  have e2 : (p.2.2.1 : Int) * lEv ρ e + (p.2.2.2 : Int) = ((p.2.2.1 * (lEv ρ e).toNat + p.2.2.2 : Nat) : Int) := by
    rw [Int.natCast_add, Int.natCast_mul, Int.toNat_of_nonneg h0]
  refine Or.inl ⟨t2, us, g1, ?_, ?_⟩
  · show 0 ≤ lEv ρ (lAdd (lSc (p.2.2.1 : Int) e) (lK (p.2.2.2 : Int)))
    rw [e1, e2]
    exact Int.natCast_nonneg _
  · show us[(lEv ρ (lAdd (lSc (p.2.2.1 : Int) e) (lK (p.2.2.2 : Int)))).toNat]? = _
    rw [e1, e2, Int.toNat_natCast]
    exact g2 _ _ h2
/-- ints of the newer, cells of the older -/
def sJn (s s2 : vSt) : vSt := (sN s2, sG s, sF s, sI s2, sC s2, sM s2, sRw s)
def sBs (tl : vTl) (A : vAn) (s : vSt) : vSt := (sN s, aG A, (sF s).flatMap (tMp tl) ++ aF A, sI s, sC s, sM s, [])
def eCk (e : Option Nat) (s2 : vSt) (θ : List lT) (A : vAn) (cn sn : lT) : Bool := match e with
  | none => true
  | some _ => lGe (sI s2) (sC s2) (lSub (lSb θ (aCn A)) cn) && lGe (sI s2) (sC s2) (lSub (lSb θ (aSn A)) sn)
def vPm (n0 mA mB : Nat) (NA : vAn) (eA : Option Nat) (L : List (Nat × vA)) (S : List vA) (s : vSt) (cn sn : lT) (eB : Option Nat) (L2 : List (Nat × vA)) (S2 : List vA) (s2 : vSt) (cn2 sn2 : lT) (o : vPo) : Bool :=
  decide (o.1 = eA) && decide (o.2.1 = eB) && (match rcs L S s (aRc o.2.2.1) ((List.range n0).map lSy) (List.range mA) with
    | none => false
    | some p => match rcs L2 S2 s2 (aRc o.2.2.2.1) p.1 (List.range mB) with
      | none => false
      | some q => vMc o.2.2.1 q.1 p.2 L S (sJn s s2) && vMc o.2.2.2.1 q.1 q.2 L2 S2 s2 && eCk eA s2 q.1 o.2.2.1 cn sn && eCk eB s2 q.1 o.2.2.2.1 cn2 sn2 && (!o.2.2.2.2 || (lGe (sI s2) (sC s2) (lSb q.1 (aRk o.2.2.1)) && lGe (sI s2) (sC s2) (lSub (lSub (aRk NA) (lSb q.1 (aRk o.2.2.1))) (lK 1)))))
def vPb (KT : vKT) (tb : XT) (tyl : List FieldType) (ov : vOt) (CT : Nat → List vCt) (hs : Nat → Nat → Option (List vHn)) (kn : Nat → Nat → Option Nat) (WB : List (Nat × Nat)) (n0 mA mB : Nat) (tl : vTl) (f goB dpB kB pcB : Nat) (NA NB : vAn) (outs : List vPo) (eA : Option Nat) (L : List (Nat × vA)) (S : List vA) (s : vSt) (cn sn : lT) : Bool :=
  sBd s && (sRw s).isEmpty && vFr L S cn sn s && vChk KT tb tyl ov CT hs kn WB f goB dpB kB pcB (aL NB) (aS NB) (sBs tl NB s) (aCn NB) (aSn NB)
    (fun pc => if outs.any (fun o => decide (o.2.1 = some pc)) = true then some (fun L2 S2 s2 cn2 sn2 => outs.any (vPm n0 mA mB NA eA L S s cn sn (some pc) L2 S2 s2 cn2 sn2)) else none)
    (fun s2 av => outs.any (vPm n0 mA mB NA eA L S s cn sn none [] av.toList s2 (lK 0) (lK 0)))
def vPe (KT : vKT) (tb : XT) (tyl : List FieldType) (ov : vOt) (CT : Nat → List vCt) (hs : Nat → Nat → Option (List vHn)) (kn : Nat → Nat → Option Nat) (WA WB : List (Nat × Nat)) (n0 mA mB : Nat) (tl : vTl) (f goA dpA kA pcA goB dpB kB pcB : Nat) (NA NB : vAn) (outs : List vPo) : Bool :=
  sBd (aSt NB) && lBd (aI NA).length (aRk NA) && decide ((aI NB).length = (aI NA).length) && decide (n0 ≤ (aI NA).length) && decide (mA ≤ (aG NA).length) && decide (mB ≤ (aG NB).length) && decide ((aG NA).length < 1000000) && (aL NB).all (fun q => vBd (aI NA).length (aG NB).length q.2) && (aS NB).all (vBd (aI NA).length (aG NB).length) && lBd (aI NA).length (aCn NB) && lBd (aI NA).length (aSn NB) &&
  tl.all (fun p => decide (p.1 < (aG NA).length) && decide (p.2.1 < (aG NB).length) && (match (aG NA)[p.1]? with
    | some c => !(wIn WA c 0) && !(wIn WA c 1)
    | none => false)) &&
  vChk KT tb tyl ov CT hs kn WA f goA dpA kA pcA (aL NA) (aS NA) (aSt NA) (aCn NA) (aSn NA)
    (fun pc => if outs.any (fun o => decide (o.1 = some pc)) = true then some (fun L S s cn sn => vPb KT tb tyl ov CT hs kn WB n0 mA mB tl f goB dpB kB pcB NA NB outs (some pc) L S s cn sn) else none)
    (fun s av => vPb KT tb tyl ov CT hs kn WB n0 mA mB tl f goB dpB kB pcB NA NB outs none [] av.toList s (lK 0) (lK 0))
theorem vRel_noraw {KT : vKT} {ρ : Nat → Int} {σ : Nat → Nat} {ty : Nat → Option Nat} {H : List (XC Int32)} {s : vSt} (h : vRel KT ρ σ ty H s) (hr : sRw s = []) : ∀ a c, ty a = some c → kRaw KT c = none := fun a c ha => by
  rcases hR : kRaw KT c with _ | d
  · rfl
  · obtain ⟨i, hi, -⟩ := h.2.2.2.2.2.2.2 a c d ha hR
    rw [hr] at hi
    cases hi
/-- a run's row that isn't written stands as it stood -/
theorem vFrm_row {W : List (Nat × Nat)} {ty : Nat → Option Nat} {H H2 : List (XC Int32)} (h : vFrm W ty H H2) {a c t : Nat} {vs : List (XV Int32)} (ha : ty a = some c) (w0 : wIn W c 0 = false) (w1 : wIn W c 1 = false) (hH : H[a]? = some (.inr (t, vs))) : H2[a]? = some (.inr (t, vs)) := by
  obtain ⟨z2, g1, g2⟩ := h a c _ ha hH
  rcases z2 with z2 | ⟨t2, us⟩
  · exact g2.elim
  · obtain ⟨e, g3⟩ := g2
    have g3 := g3 w0
    unfold vMonV at g3
    rw [w1, if_neg (by decide)] at g3
    have e : t2 = t := e
    have g3 : us = vs := g3
    rw [g1, g3, e]
theorem tHd_mv {tl : vTl} {σA σB σA2 σB2 : Nat → Nat} {GA GB HA HB : List (XC Int32)} (h : tHd tl σA σB GA GB) (ha : ∀ p ∈ tl, sR σA2 p.1 = sR σA p.1 ∧ (∀ t vs, HA[sR σA p.1]? = some (.inr (t, vs)) → GA[sR σA p.1]? = some (.inr (t, vs)))) (hb : ∀ p ∈ tl, sR σB2 p.2.1 = sR σB p.2.1 ∧ (∀ t vs, GB[sR σB p.2.1]? = some (.inr (t, vs)) → HB[sR σB p.2.1]? = some (.inr (t, vs)))) : tHd tl σA2 σB2 HA HB := fun p hp t vs hv => by
  obtain ⟨a1, a2⟩ := ha p hp
  obtain ⟨b1, b2⟩ := hb p hp
  rw [a1] at hv
  obtain ⟨t2, us, g1, g2⟩ := h p hp t vs (a2 t vs hv)
  exact ⟨t2, us, by rw [b1]; exact b2 _ _ g1, g2⟩
theorem vFrm_rowB {W : List (Nat × Nat)} {ty : Nat → Option Nat} {H H2 : List (XC Int32)} (h : vFrm W ty H H2) {KT : vKT} (hp : vHp (fun c => KT.1[c]?) ty H) {a c t : Nat} {vs : List (XV Int32)} (ha : ty a = some c) (w0 : wIn W c 0 = false) (w1 : wIn W c 1 = false) (hH : H2[a]? = some (.inr (t, vs))) : H[a]? = some (.inr (t, vs)) := by
  obtain ⟨kd, z, -, h2, -⟩ := hp a c ha
  rcases z with z | ⟨t2, us⟩
  · obtain ⟨z2, g1, g2⟩ := h a c _ ha h2
    rw [hH] at g1
    cases g1
    exact g2.elim
  · have h3 := vFrm_row h ha w0 w1 h2
    rw [hH] at h3
    rw [h2, ← h3]
theorem optList {v w : Option (XV Int32)} (h : v.toList = w.toList) : v = w := by
  rcases v with _ | v <;> rcases w with _ | w <;> first | rfl | (cases h; done) | (cases h; rfl)
theorem vPe_spec {KT : vKT} {tb : XT} {tyl : List FieldType} {ot : XO Int32} {ov : vOt} (hov : vOvLe ov (o4 ot)) {CT : Nat → List vCt} {hs : Nat → Nat → Option (List vHn)} {kn : Nat → Nat → Option Nat} {WA WB : List (Nat × Nat)} (hCT : ∀ j c, c ∈ CT j → vCtSem KT tb tyl ot j c) {n0 mA mB : Nat} {tl : vTl} {f goA dpA kA pcA goB dpB kB pcB dA dB : Nat} {NA NB : vAn} {outs : List vPo}
    (hk : vPe KT tb tyl ov CT hs kn WA WB n0 mA mB tl f goA dpA kA pcA goB dpB kB pcB NA NB outs = true) {qA qB : XM} (hqA : tMth tb kA = some qA) (hqB : tMth tb kB = some qB) (hdA : dpA ≤ dA) (hdB : dpB ≤ dB) {BA BB : Nat} (hBA : BA + mMc qA ≤ 1000000) (hBB : BB + mMc qB ≤ 1000000)
    {ρ : Nat → Int} {σA σB : Nat → Nat} {tyA tyB : Nat → Option Nat} {GA GB : List (XC Int32)} {LA LB : List (Nat × XV Int32)} {cA sA cB sB : Nat}
    (hA : vRel KT ρ σA tyA GA (aSt NA)) (hB : vRel KT ρ σB tyB GB (aSt NB)) (hl : tHd tl σA σB GA GB) (eA : eAt ρ σA (some pcA) BA (mMc qA) NA GA LA cA sA) (eB : eAt ρ σB (some pcB) BB (mMc qB) NB GB LB cB sB)
    {R : Option (XV Int32) → List (XC Int32) → Option (XV Int32) → List (XC Int32) → Prop}
    (hout : ∀ o ∈ outs, ∀ ρ2 σA2 σB2 tyA2 tyB2 HA HB LA2 LB2 cA2 sA2 cB2 sB2, (∀ i, i < n0 → ρ2 i = ρ i) → (∀ i, i < mA → σA2 i = σA i) → (∀ i, i < mB → σB2 i = σB i) → (o.2.2.2.2 = true → 0 ≤ lEv ρ2 (aRk o.2.2.1) ∧ lEv ρ2 (aRk o.2.2.1) < lEv ρ (aRk NA)) → vLe tyA tyA2 → vLe tyB tyB2 → vFrm WA tyA GA HA → vFrm WB tyB GB HB →
      vRel KT ρ2 σA2 tyA2 HA (aSt o.2.2.1) → vRel KT ρ2 σB2 tyB2 HB (aSt o.2.2.2.1) → eAt ρ2 σA2 o.1 BA (mMc qA) o.2.2.1 HA LA2 cA2 sA2 → eAt ρ2 σB2 o.2.1 BB (mMc qB) o.2.2.2.1 HB LB2 cB2 sB2 →
      ∃ vA H1 vB H2, xE tb tyl ot o.1 dA kA LA2 ((aS o.2.2.1).map (cv ρ2 σA2)) HA cA2 sA2 vA H1 ∧ xE tb tyl ot o.2.1 dB kB LB2 ((aS o.2.2.2.1).map (cv ρ2 σB2)) HB cB2 sB2 vB H2 ∧ R vA H1 vB H2) :
    ∃ vA H1 vB H2, x_To tb tyl ot dA kA pcA LA ((aS NA).map (cv ρ σA)) GA cA sA vA H1 ∧ x_To tb tyl ot dB kB pcB LB ((aS NB).map (cv ρ σB)) GB cB sB vB H2 ∧ R vA H1 vB H2 := by
  unfold vPe at hk
  simp only [Bool.and_eq_true] at hk
  obtain ⟨⟨⟨⟨⟨⟨⟨⟨⟨⟨⟨⟨k1, k2⟩, k3⟩, k4⟩, k5⟩, k6⟩, k7⟩, k8⟩, k9⟩, k10⟩, k11⟩, k12⟩, k13⟩ := hk
  have k3 := of_decide_eq_true k3
  have k4 := of_decide_eq_true k4
  have k5 := of_decide_eq_true k5
  have k6 := of_decide_eq_true k6
  have k7 := of_decide_eq_true k7
  have hrA := vRel_noraw hA rfl
  have hrB := vRel_noraw hB rfl
  have hatA : vAt KT WA tyA GA BA (aL NA) (aSt NA) (aCn NA) (aSn NA) ρ σA tyA GA LA cA sA := ⟨eA.1, vLe_rf tyA, vFrm_rf WA tyA GA, hA, eA.2⟩
  have hb : ∀ (e : Option Nat) ρ2 σA2 tyA2 HA s L S cn sn LA2 cA2 sA2, vExt (aSt NA) s ρ ρ2 σA σA2 → vLe tyA tyA2 → vFrm WA tyA GA HA → vRel KT ρ2 σA2 tyA2 HA s → (match e with
      | some _ => (HA.length ≤ BA + cA2 ∧ HA.length ≤ 1000000) ∧ vCov ρ2 σA2 L LA2 ∧ (cA2 : Int) ≤ lEv ρ2 cn ∧ (sA2 : Int) ≤ lEv ρ2 sn
      | none => L = [] ∧ HA.length ≤ BA + mMc qA) → vPb KT tb tyl ov CT hs kn WB n0 mA mB tl f goB dpB kB pcB NA NB outs e L S s cn sn = true →
      ∃ vB H2, x_To tb tyl ot dB kB pcB LB ((aS NB).map (cv ρ σB)) GB cB sB vB H2 ∧ ∃ vA H1, xE tb tyl ot e dA kA LA2 (S.map (cv ρ2 σA2)) HA cA2 sA2 vA H1 ∧ R vA H1 vB H2 := by
    intro e ρ2 σA2 tyA2 HA s L S cn sn LA2 cA2 sA2 x1 x2 x3 x4 x5 x6
    unfold vPb at x6
    simp only [Bool.and_eq_true] at x6
    obtain ⟨⟨⟨y1, y2⟩, y3⟩, y4⟩ := x6
    have y2 : sRw s = [] := List.isEmpty_iff.mp y2
    have hρ : ∀ i, i < sN (aSt NB) → ρ2 i = ρ i := fun i hi => x1.1 i (show i < (aI NA).length by
      have hi : i < (aI NB).length := hi
      omega)
    obtain ⟨b1, b2, b3, b4, b5, b6, b7, b8⟩ := vRel_ext hB k1 hρ (fun _ _ => rfl)
    have hl2 : tHd tl σA2 σB HA GB := tHd_mv hl (fun p hp => by
      have k12 := List.all_eq_true.mp k12 p hp
      simp only [Bool.and_eq_true] at k12
      obtain ⟨⟨z1, -⟩, z2⟩ := k12
      have z1 := of_decide_eq_true z1
      have e1 : sR σA2 p.1 = sR σA p.1 := by
        unfold sR
        rw [if_pos (by omega), if_pos (by omega)]
        exact x1.2.1 p.1 z1
      refine ⟨e1, fun t vs hv => ?_⟩
      split at z2
      · rename_i c hc
        have z2 := Bool.and_eq_true_iff.mp z2
        exact vFrm_rowB x3 hA.1 (hA.2.1 _ _ hc) (by simpa using z2.1) (by simpa using z2.2) hv
      · cases z2) (fun p hp => ⟨rfl, fun t vs hv => hv⟩)
    have hB2 : vRel KT ρ2 σB tyB GB (sBs tl NB s) := by
      refine ⟨b1, b2, fun g hg => ?_, x4.2.2.2.1, x4.2.2.2.2.1, x4.2.2.2.2.2.1, b7, b8⟩
      rcases List.mem_append.mp hg with hg | hg
      · obtain ⟨h0, hh, hg⟩ := List.mem_flatMap.mp hg
        exact tMp_spec hl2 (x4.2.2.1 h0 hh) g hg
      · exact b3 g hg
    have hcovB : vCov ρ2 σB (aL NB) LB := vBd_loc (n := (aI NA).length) (m := (aG NB).length) (fun i hi => x1.1 i hi) (fun _ _ => rfl) k8 eB.2.1
    have hSB : (aS NB).map (cv ρ2 σB) = (aS NB).map (cv ρ σB) := vBd_list (n := (aI NA).length) (m := (aG NB).length) (fun i hi => x1.1 i hi) (fun _ _ => rfl) k9
    have hatB : vAt KT WB tyB GB BB (aL NB) (sBs tl NB s) (aCn NB) (aSn NB) ρ2 σB tyB GB LB cB sB := ⟨eB.1, vLe_rf tyB, vFrm_rf WB tyB GB, hB2, hcovB, by
      rw [lBd_spec (n := (aI NA).length) (fun i hi => x1.1 i hi) k10]
      exact eB.2.2.1, by
      rw [lBd_spec (n := (aI NA).length) (fun i hi => x1.1 i hi) k11]
      exact eB.2.2.2⟩
    have fin : ∀ (eb : Option Nat) ρ3 σB3 tyB3 HB s2 L2 S2 cn2 sn2 LB2 cB2 sB2, vExt (sBs tl NB s) s2 ρ2 ρ3 σB σB3 → vLe tyB tyB3 → vFrm WB tyB GB HB → vRel KT ρ3 σB3 tyB3 HB s2 → (match eb with
        | some _ => (HB.length ≤ BB + cB2 ∧ HB.length ≤ 1000000) ∧ vCov ρ3 σB3 L2 LB2 ∧ (cB2 : Int) ≤ lEv ρ3 cn2 ∧ (sB2 : Int) ≤ lEv ρ3 sn2
        | none => L2 = [] ∧ HB.length ≤ BB + mMc qB) → outs.any (vPm n0 mA mB NA e L S s cn sn eb L2 S2 s2 cn2 sn2) = true →
        ∃ vB H2, xE tb tyl ot eb dB kB LB2 (S2.map (cv ρ3 σB3)) HB cB2 sB2 vB H2 ∧ ∃ vA H1, xE tb tyl ot e dA kA LA2 (S.map (cv ρ2 σA2)) HA cA2 sA2 vA H1 ∧ R vA H1 vB H2 := by
      intro eb ρ3 σB3 tyB3 HB s2 L2 S2 cn2 sn2 LB2 cB2 sB2 w1 w2 w3 w4 w5 w6
      obtain ⟨o, ho, w6⟩ := List.any_eq_true.mp w6
      unfold vPm at w6
      simp only [Bool.and_eq_true] at w6
      obtain ⟨⟨o1, o2⟩, w6⟩ := w6
      have o1 := of_decide_eq_true o1
      have o2 := of_decide_eq_true o2
      split at w6
      · cases w6
      rename_i p hp
      split at w6
      · cases w6
      rename_i q hq
      simp only [Bool.and_eq_true] at w6
      obtain ⟨⟨⟨⟨w7, w8⟩, w9⟩, w10⟩, w11⟩ := w6
      have hρ3 : ∀ i, i < sN s → ρ3 i = ρ2 i := fun i hi => w1.1 i hi
      have hA3 : vRel KT ρ3 σA2 tyA2 HA (sJn s s2) := by
        obtain ⟨a1, a2, a3, a4, a5, a6, a7, a8⟩ := vRel_ext x4 y1 hρ3 (fun _ _ => rfl)
        exact ⟨a1, a2, a3, w4.2.2.2.1, w4.2.2.2.2.1, w4.2.2.2.2.2.1, a7, a8⟩
      have hfr := vFr_spec (s := s) (s2 := sJn s s2) (ρ := ρ2) (ρ2 := ρ3) (σ := σA2) (σ2 := σA2) ⟨hρ3, fun _ _ => rfl, w1.2.2.1, Nat.le_refl _⟩ y3
      obtain ⟨m1, m2, m3, m4, m5, -⟩ := vMc_spec hA3 w7
      obtain ⟨r1, r2, r3, r4, r5, -⟩ := vMc_spec w4 w8
      obtain ⟨⟨t1, ht1⟩, ⟨t2, ht2⟩⟩ := rcs_pre hp
      obtain ⟨⟨t3, ht3⟩, ⟨t4, ht4⟩⟩ := rcs_pre hq
      have hn : sN (aSt NA) ≤ sN s := x1.2.2.1
      have g1 : ∀ i, i < n0 → rO ρ3 q.1 i = ρ i := fun i hi => by
        unfold rO
        rw [ht3, ht1, List.append_assoc, List.getD_eq_getElem?_getD, List.getElem?_append_left (by rw [List.length_map, List.length_range]; exact hi), List.getElem?_map, List.getElem?_range hi]
        show lEv ρ3 (lSy i) = ρ i
        have hn : (aI NA).length ≤ sN s := hn
        rw [lSy_ev, hρ3 i (by omega), x1.1 i (show i < (aI NA).length by omega)]
      have g2 : ∀ i, i < mA → sO σA2 p.2 i = σA i := fun i hi => by
        unfold sO
        rw [ht2, List.getD_eq_getElem?_getD, List.getElem?_append_left (by rw [List.length_range]; exact hi), List.getElem?_range hi]
        show (if i < 1000000 then σA2 i else i) = σA i
        rw [if_pos (by omega)]
        exact x1.2.1 i (show i < (aG NA).length by omega)
      have hGB : (aG NB).length < 1000000 := (sBd_spec k1).1
      have g3 : ∀ i, i < mB → sO σB3 q.2 i = σB i := fun i hi => by
        unfold sO
        rw [ht4, List.getD_eq_getElem?_getD, List.getElem?_append_left (by rw [List.length_range]; exact hi), List.getElem?_range hi]
        show (if i < 1000000 then σB3 i else i) = σB i
        rw [if_pos (by omega)]
        exact w1.2.1 i (show i < (aG NB).length by omega)
      have g4 : o.2.2.2.2 = true → 0 ≤ lEv (rO ρ3 q.1) (aRk o.2.2.1) ∧ lEv (rO ρ3 q.1) (aRk o.2.2.1) < lEv ρ (aRk NA) := fun hfl => by
        rw [hfl] at w11
        simp only [Bool.not_true, Bool.false_or, Bool.and_eq_true] at w11
        have u1 := lGe_spec w4.2.2.2.1 w4.2.2.2.2.1 w11.1
        have u2 := lGe_spec w4.2.2.2.1 w4.2.2.2.2.1 w11.2
        have u3 : lEv ρ3 (aRk NA) = lEv ρ (aRk NA) := lBd_spec (n := (aI NA).length) (fun i hi => by
          have hn : (aI NA).length ≤ sN s := hn
          rw [hρ3 i (by omega), x1.1 i hi]) k2
        rw [lSb_ev] at u1
        rw [lSub_ev, lSub_ev, lSb_ev, lK_ev, u3] at u2
        exact ⟨u1, by omega⟩
      have g5 : eAt (rO ρ3 q.1) (sO σA2 p.2) o.1 BA (mMc qA) o.2.2.1 HA LA2 cA2 sA2 := by
        rw [o1]
        rcases e with _ | pe
        · exact x5.2
        · obtain ⟨x5, x6, x7, x8⟩ := x5
          have w9 := Bool.and_eq_true_iff.mp w9
          have u1 := lGe_spec w4.2.2.2.1 w4.2.2.2.2.1 w9.1
          have u2 := lGe_spec w4.2.2.2.1 w4.2.2.2.2.1 w9.2
          rw [lSub_ev, lSb_ev, hfr.2.2.1] at u1
          rw [lSub_ev, lSb_ev, hfr.2.2.2] at u2
          exact ⟨x5, m2 _ (hfr.1 _ x6), by omega, by omega⟩
      have g6 : eAt (rO ρ3 q.1) (sO σB3 q.2) o.2.1 BB (mMc qB) o.2.2.2.1 HB LB2 cB2 sB2 := by
        rw [o2]
        rcases eb with _ | pe
        · exact w5.2
        · obtain ⟨x5, x6, x7, x8⟩ := w5
          have w10 := Bool.and_eq_true_iff.mp w10
          have u1 := lGe_spec w4.2.2.2.1 w4.2.2.2.2.1 w10.1
          have u2 := lGe_spec w4.2.2.2.1 w4.2.2.2.2.1 w10.2
          rw [lSub_ev, lSb_ev] at u1 u2
          exact ⟨x5, r2 _ x6, by omega, by omega⟩
      obtain ⟨vA, H1, vB, H2, z1, z2, z3⟩ := hout o ho (rO ρ3 q.1) (sO σA2 p.2) (sO σB3 q.2) tyA2 tyB3 HA HB LA2 LB2 cA2 sA2 cB2 sB2 g1 g2 g3 g4 x2 w2 x3 w3 m1 r1 g5 g6
      rw [← m3, hfr.2.1, o1] at z1
      rw [← r3, o2] at z2
      exact ⟨vB, H2, z2, vA, H1, z1, z3⟩
    obtain ⟨vB, H2, z1, z2⟩ := vChk_spec (Post := fun vB H2 => ∃ vA H1, xE tb tyl ot e dA kA LA2 (S.map (cv ρ2 σA2)) HA cA2 sA2 vA H1 ∧ R vA H1 vB H2) hov hCT hrB f goB hqB hdB hBB hatB y4 (fun ρ3 σ3 ty3 HB s2 av w1 w2 w3 w4 w5 w6 => by
      obtain ⟨vB, H2, u1, u2⟩ := fin none ρ3 σ3 ty3 HB s2 [] av.toList (lK 0) (lK 0) [] 0 0 w1 w2 w3 w4 ⟨rfl, w5⟩ w6
      obtain ⟨u3, u4⟩ := u1
      have u5 : vB = av.map (cv ρ3 σ3) := optList (by rw [u3]; rcases av with _ | av <;> rfl)
      rw [← u5, ← u4]
      exact u2) (fun pc g hg ρ3 σ3 ty3 HB s2 L2 S2 cn2 sn2 LB2 cB2 sB2 w1 w2 w3 => by
      try dsimp only at hg
      split at hg
      · cases hg
        exact fin (some pc) ρ3 σ3 ty3 HB s2 L2 S2 cn2 sn2 LB2 cB2 sB2 w1 w2.2.1 w2.2.2.1 w2.2.2.2.1 ⟨w2.1, w2.2.2.2.2⟩ w3
      · cases hg)
    rw [hSB] at z1
    exact ⟨vB, H2, z1, z2⟩
  obtain ⟨vA, H1, z1, vB, H2, z2, z3⟩ := vChk_spec (Post := fun vA H1 => ∃ vB H2, x_To tb tyl ot dB kB pcB LB ((aS NB).map (cv ρ σB)) GB cB sB vB H2 ∧ R vA H1 vB H2) hov hCT hrA f goA hqA hdA hBA hatA k13 (fun ρ2 σ2 ty2 HA s av w1 w2 w3 w4 w5 w6 => by
    obtain ⟨vB, H2, u0, vA, H1, u1, u2⟩ := hb none ρ2 σ2 ty2 HA s [] av.toList (lK 0) (lK 0) [] 0 0 w1 w2 w3 w4 ⟨rfl, w5⟩ w6
    obtain ⟨u3, u4⟩ := u1
    have u5 : vA = av.map (cv ρ2 σ2) := optList (by rw [u3]; rcases av with _ | av <;> rfl)
    rw [← u5, ← u4]
    exact ⟨vB, H2, u0, u2⟩) (fun pc g hg ρ2 σ2 ty2 HA s L S cn sn LA2 cA2 sA2 w1 w2 w3 => by
    try dsimp only at hg
    split at hg
    · cases hg
      obtain ⟨vB, H2, u0, vA, H1, u1, u2⟩ := hb (some pc) ρ2 σ2 ty2 HA s L S cn sn LA2 cA2 sA2 w1 w2.2.1 w2.2.2.1 w2.2.2.2.1 ⟨w2.1, w2.2.2.2.2⟩ w3
      exact ⟨vA, H1, u1, vB, H2, u0, u2⟩
    · cases hg)
  exact ⟨vA, H1, vB, H2, z1, z2, z3⟩
end XPair
