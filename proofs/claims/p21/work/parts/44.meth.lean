/-! A method whose ways are checked from its entry and from each note keeps its contract. -/
noncomputable section XMeth
def uGet : List (Nat × List vAn) → Nat → Option (List vAn)
  | [], _ => none
  | u :: r, pc => if u.1 = pc then some u.2 else uGet r pc
theorem uGet_spec {pc : Nat} {As : List vAn} : ∀ {l : List (Nat × List vAn)}, uGet l pc = some As → (pc, As) ∈ l
  | [], h => by cases h
  | u :: r, h => by
    unfold uGet at h
    split at h
    · rename_i e
      cases h
      rw [← e]
      exact List.mem_cons_self
    · exact List.mem_cons_of_mem _ (uGet_spec h)
/-- zeros of a row -/
def vZr : XV Int32 → Bool
  | .inl x => decide (x = 0)
  | _ => false
def zCell : Option (XC Int32) → Nat
  | some (.inr o) => o.2.countP vZr
  | _ => 0
def zMu (σ : Nat → Nat) (H : List (XC Int32)) : List Nat → Nat
  | [] => 0
  | z :: r => zCell H[sR σ z]? + zMu σ H r
theorem zCnt : ∀ (a b : List (XV Int32)), b.length = a.length → (∀ j : Nat, b[j]? = a[j]? ∨ (j < a.length ∧ b[j]? = some (.inl 1))) → b.countP vZr ≤ a.countP vZr ∧ ((∃ j : Nat, a[j]? = some (.inl 0) ∧ b[j]? = some (.inl 1)) → b.countP vZr < a.countP vZr)
  | [], [], _, _ => ⟨Nat.le_refl _, fun ⟨j, h, _⟩ => by cases h⟩
  | [], _ :: _, h, _ => by cases h
  | _ :: _, [], h, _ => by cases h
  | x :: a, y :: b, h, g => by
    obtain ⟨i1, i2⟩ := zCnt a b (Nat.succ.inj h) (fun j => by
      rcases g (j + 1) with g1 | ⟨g1, g2⟩
      · exact Or.inl g1
      · exact Or.inr ⟨Nat.lt_of_succ_lt_succ g1, g2⟩)
    have h0 : y = x ∨ y = .inl 1 := by
      rcases g 0 with g1 | ⟨-, g2⟩
      · exact Or.inl (Option.some.inj g1)
      · exact Or.inr (Option.some.inj g2)
    have hz : vZr (.inl 1) = false := by decide
    have hz0 : vZr (.inl 0) = true := by decide
    rw [List.countP_cons, List.countP_cons]
    constructor
    · rcases h0 with rfl | rfl
      · omega
      · rw [hz, if_neg (by decide)]
        omega
    · rintro ⟨j, j1, j2⟩
      rcases j with _ | j
      · cases j1
        cases j2
        rw [hz, hz0, if_neg (by decide), if_pos rfl]
        omega
      · have := i2 ⟨j, j1, j2⟩
        rcases h0 with rfl | rfl
        · omega
        · rw [hz, if_neg (by decide)]
          omega
theorem zMon {m : Bool} {a b : List (XV Int32)} (h : vMonV m a b) : b.countP vZr ≤ a.countP vZr ∧ ((∃ j : Nat, a[j]? = some (.inl 0) ∧ b[j]? = some (.inl 1)) → b.countP vZr < a.countP vZr) := by
  unfold vMonV at h
  split at h
  · exact zCnt a b h.1 h.2
  · subst h
    refine ⟨Nat.le_refl _, fun ⟨j, h1, h2⟩ => ?_⟩
    rw [h1] at h2
    exact absurd (Option.some.inj h2) (by decide)
/-- a row has changed from 0 to 1 since the note -/
def vFlp (A : vAn) (s : vSt) : Bool := (aF A).any (fun f => match f.2.1, f.2.2 with
  | .inr e, .inl l => lEq l (lK 0) && decide (f.1 ∈ aZs A) && lBd (aI A).length e && (match fGet f.1 (.inr e) (sF s) with
    | some (.inl x) => lEq x (lK 1)
    | _ => false)
  | _, _ => false)
/-- a note is met, and its rank is less than that of A -/
def vHit (n0 m0 : Nat) (W : List (Nat × Nat)) (rk : Option vAn) (L : List (Nat × vA)) (S : List vA) (s : vSt) (cn sn : lT) (B : vAn) : Bool := match vMt B n0 m0 L S s with
  | none => false
  | some p => lGe (sI s) (sC s) (lSub (lSb p.1 (aCn B)) cn) && lGe (sI s) (sC s) (lSub (lSb p.1 (aSn B)) sn) && (match rk with
    | none => true
    | some A => decide (aPh B < aPh A) || (decide (aPh B = aPh A) && decide (aCf B = aCf A) && decide ((aZs B).map (tSb p.2) = aZs A) && (aZs A).all (fun z => match (aG A)[z]? with
        | some c => !(wIn W c 0)
        | none => false) && lGe (sI s) (sC s) (lSb p.1 (aRk B)) && lGe3 (sI s) (sC s) (lSub (lSub (lAdd (aRk A) (lK (if vFlp A s then (aCf A : Int) else 0))) (lSb p.1 (aRk B))) (lK 1))))
def vCuF (c : vCt) (W : List (Nat × Nat)) (rk : Option vAn) : vCu := fun pc => match uGet (cU c) pc with
  | none => none
  | some As => some (fun L S s cn sn => As.any (vHit (aI (cE c)).length (aG (cE c)).length W rk L S s cn sn))
def vRtF (c : vCt) (s : vSt) (av : Option vA) : Bool := (cX c).any (fun X => (vMt X (aI (cE c)).length (aG (cE c)).length [] av.toList s).isSome)
/-- what may be written from a note on -/
def aW (c : vCt) (A : vAn) : List (Nat × Nat) := match aWn A with
  | none => cW c
  | some W => W
def vMeth (KT : vKT) (tb : XT) (tyl : List FieldType) (ov : vOt) (CT : Nat → List vCt) (hs : Nat → Nat → Option (List vHn)) (kn : Nat → Nat → Option Nat) (f k : Nat) (c : vCt) : Bool :=
  decide ((aG (cE c)).length < 1000000) && vChk KT tb tyl ov CT hs kn (cW c) f 0 (cD c) k 0 (aL (cE c)) [] (aSt (cE c)) (lK 0) (lK 0) (vCuF c (cW c) none) (vRtF c) &&
  (cU c).all (fun u => u.2.all (fun A => decide ((aI (cE c)).length ≤ (aI A).length) && decide ((aG (cE c)).length ≤ (aG A).length) && lBd (aI A).length (aRk A) && wSub (aW c A) (cW c) && decide ((aG A).length < 1000000) && vChk KT tb tyl ov CT hs kn (aW c A) f 1 (cD c) k u.1 (aL A) (aS A) (aSt A) (aCn A) (aSn A) (vCuF c (aW c A) (some A)) (vRtF c)))
theorem zMu_le {W : List (Nat × Nat)} {tyS : Nat → Option Nat} {HS H2 : List (XC Int32)} {σ : Nat → Nat} {G : List Nat} {KT : vKT} (hf : vFrm W tyS HS H2) (hs : vSym tyS σ G) (hp : vHp (fun c => KT.1[c]?) tyS HS) : ∀ zs : List Nat, (∀ z ∈ zs, ∃ c, G[z]? = some c ∧ wIn W c 0 = false) → zMu σ H2 zs ≤ zMu σ HS zs ∧ ((∃ (z : Nat) (j t : Nat) (vs : List (XV Int32)) (t2 : Nat) (us : List (XV Int32)), z ∈ zs ∧ HS[sR σ z]? = some (.inr (t, vs)) ∧ vs[j]? = some (.inl 0) ∧ H2[sR σ z]? = some (.inr (t2, us)) ∧ us[j]? = some (.inl 1)) → zMu σ H2 zs < zMu σ HS zs)
  | [], _ => ⟨Nat.le_refl _, fun ⟨z, _, _, _, _, _, hz, _⟩ => by cases hz⟩
  | z :: r, hz => by
    obtain ⟨i1, i2⟩ := zMu_le (KT := KT) hf hs hp r (fun y hy => hz y (List.mem_cons_of_mem _ hy))
    obtain ⟨c, hc, hw⟩ := hz z List.mem_cons_self
    have hty := hs z c hc
    obtain ⟨kd, z1, -, q2, -⟩ := hp _ _ hty
    obtain ⟨z2, q4, q5⟩ := hf _ _ _ hty q2
    have one : zCell H2[sR σ z]? ≤ zCell HS[sR σ z]? ∧ ((∃ (j t : Nat) (vs : List (XV Int32)) (t2 : Nat) (us : List (XV Int32)), HS[sR σ z]? = some (.inr (t, vs)) ∧ vs[j]? = some (.inl 0) ∧ H2[sR σ z]? = some (.inr (t2, us)) ∧ us[j]? = some (.inl 1)) → zCell H2[sR σ z]? < zCell HS[sR σ z]?) := by
      rw [q2, q4]
      rcases z1 with o | ⟨t, vs⟩ <;> rcases z2 with o2 | ⟨t2, us⟩
      · refine ⟨Nat.le_refl _, fun ⟨_, _, _, _, _, e, _⟩ => by cases e⟩
      · exact q5.elim
      · exact q5.elim
      · have hm := zMon (q5.2 hw)
        refine ⟨hm.1, fun ⟨j, t3, vs3, t4, us4, e1, e2, e3, e4⟩ => ?_⟩
        cases e1
        cases e3
        exact hm.2 ⟨j, e2, e4⟩
    constructor
    · show zCell _ + _ ≤ zCell _ + _
      omega
    · rintro ⟨y, j, t, vs, t2, us, hy, e1, e2, e3, e4⟩
      show zCell _ + _ < zCell _ + _
      rcases List.mem_cons.mp hy with rfl | hy
      · have := one.2 ⟨j, t, vs, t2, us, e1, e2, e3, e4⟩
        omega
      · have := i2 ⟨y, j, t, vs, t2, us, hy, e1, e2, e3, e4⟩
        omega
theorem zMu_map (σ : Nat → Nat) (τ : List Nat) (H : List (XC Int32)) : ∀ zs : List Nat, zMu (sO σ τ) H zs = zMu σ H (zs.map (tSb τ))
  | [] => rfl
  | z :: r => by
    show zCell H[sR (sO σ τ) z]? + zMu (sO σ τ) H r = zCell H[sR σ (tSb τ z)]? + zMu σ H (r.map (tSb τ))
    rw [tSb_spec, zMu_map σ τ H r]
theorem zMu_ext {σ σ2 : Nat → Nat} {m : Nat} (h : ∀ i, i < m → σ2 i = σ i) (H : List (XC Int32)) : ∀ zs : List Nat, (∀ z ∈ zs, z < m) → zMu σ2 H zs = zMu σ H zs
  | [], _ => rfl
  | z :: r, hz => by
    show zCell H[sR σ2 z]? + zMu σ2 H r = zCell H[sR σ z]? + zMu σ H r
    rw [sR_spec h (by rw [decide_eq_true (hz z List.mem_cons_self)]; rfl), zMu_ext h H r (fun y hy => hz y (List.mem_cons_of_mem _ hy))]
def vMea (A : vAn) (ρ : Nat → Int) (σ : Nat → Nat) (H : List (XC Int32)) : Nat := aCf A * zMu σ H (aZs A) + (lEv ρ (aRk A)).toNat
theorem vRank {KT : vKT} {W : List (Nat × Nat)} {tyS ty2 : Nat → Option Nat} {HS H2 : List (XC Int32)} {A B : vAn} {ρ ρ2 : Nat → Int} {σ σ2 : Nat → Nat} {s : vSt} {p : List lT × List Nat} (h : vRel KT ρ σ tyS HS (aSt A)) (hf : vFrm W tyS HS H2) (h2 : vRel KT ρ2 σ2 ty2 H2 s) (hx : vExt (aSt A) s ρ ρ2 σ σ2) (hb : lBd (aI A).length (aRk A) = true) (hG : (aG A).length < 1000000)
    (hk : (decide (aPh B = aPh A) && decide (aCf B = aCf A) && decide ((aZs B).map (tSb p.2) = aZs A) && (aZs A).all (fun z => match (aG A)[z]? with
        | some c => !(wIn W c 0)
        | none => false) && lGe (sI s) (sC s) (lSb p.1 (aRk B)) && lGe3 (sI s) (sC s) (lSub (lSub (lAdd (aRk A) (lK (if vFlp A s then (aCf A : Int) else 0))) (lSb p.1 (aRk B))) (lK 1))) = true) :
    aPh B = aPh A ∧ vMea B (rO ρ2 p.1) (sO σ2 p.2) H2 < vMea A ρ σ HS := by
  simp only [Bool.and_eq_true] at hk
  obtain ⟨⟨⟨⟨⟨k1, k2⟩, k3⟩, k4⟩, k5⟩, k6⟩ := hk
  have k2 := of_decide_eq_true k2
  have k3 := of_decide_eq_true k3
  have k5 := lGe_spec h2.2.2.2.1 h2.2.2.2.2.1 k5
  have k6 := lGe3_spec h2.2.2.2.1 h2.2.2.2.2.1 k6
  rw [lSub_ev, lSub_ev, lAdd_ev, lK_ev, lK_ev, lSb_ev, lBd_spec hx.1 hb] at k6
  rw [lSb_ev] at k5
  have hzs : ∀ z ∈ aZs A, ∃ c, (aG A)[z]? = some c ∧ wIn W c 0 = false := fun z hz => by
    have q := List.all_eq_true.mp k4 z hz
    split at q
    · rename_i c hc
      exact ⟨c, hc, by simpa using q⟩
    · cases q
  have hlt : ∀ z ∈ aZs A, z < (aG A).length := fun z hz => by
    obtain ⟨c, hc, -⟩ := hzs z hz
    exact (List.getElem?_eq_some_iff.mp hc).1
  obtain ⟨m1, m2⟩ := zMu_le (KT := KT) hf h.2.1 h.1 (aZs A) hzs
  have e1 : zMu (sO σ2 p.2) H2 (aZs B) = zMu σ H2 (aZs A) := by
    rw [zMu_map, k3, zMu_ext hx.2.1 H2 (aZs A) hlt]
  refine ⟨of_decide_eq_true k1, ?_⟩
  unfold vMea
  rw [e1, k2]
  by_cases hfl : vFlp A s = true
  · rw [if_pos hfl] at k6
    obtain ⟨f, hF, hq⟩ := List.any_eq_true.mp hfl
    obtain ⟨i, key, v⟩ := f
    dsimp only at hq
    split at hq
    rotate_left
    · cases hq
    rename_i e l
    simp only [Bool.and_eq_true] at hq
    obtain ⟨⟨⟨q1, q2⟩, q3⟩, q4⟩ := hq
    have q2 : i ∈ aZs A := of_decide_eq_true q2
    split at q4
    rotate_left
    · cases q4
    rename_i x hxx
    obtain ⟨t, vs, y1, y0, y2⟩ := vHolds_int (h.2.2.1 _ hF)
    have y1 : HS[sR σ i]? = some (.inr (t, vs)) := y1
    have y2 : vs[(lEv ρ e).toNat]? = some (.inl (Int32.ofInt (lEv ρ l))) := y2
    rw [lEq_spec q1, lK_ev] at y2
    obtain ⟨t2, us, w1, w0, w2⟩ := fGet_spec h2.2.2.1 hxx
    have w1 : H2[sR σ2 i]? = some (.inr (t2, us)) := w1
    have w2 : us[(lEv ρ2 e).toNat]? = some (.inl (Int32.ofInt (lEv ρ2 x))) := w2
    rw [lEq_spec q4, lK_ev, lBd_spec hx.1 q3] at w2
    rw [sR_spec hx.2.1 (by rw [decide_eq_true (show i < (sG (aSt A)).length from hlt i q2)]; rfl)] at w1
    have := m2 ⟨i, _, t, vs, t2, us, q2, y1, y2, w1, w2⟩
    have hmul : aCf A * zMu σ H2 (aZs A) + aCf A ≤ aCf A * zMu σ HS (aZs A) := by
      have := Nat.mul_le_mul_left (aCf A) (show zMu σ H2 (aZs A) + 1 ≤ zMu σ HS (aZs A) from this)
      rw [Nat.mul_add, Nat.mul_one] at this
      exact this
    omega
  · rw [if_neg hfl] at k6
    have hmul := Nat.mul_le_mul_left (aCf A) m1
    omega
theorem vMeth_spec {KT : vKT} {tb : XT} {tyl : List FieldType} {ot : XO Int32} {ov : vOt} (hov : vOvLe ov (o4 ot)) {CT : Nat → List vCt} {hs : Nat → Nat → Option (List vHn)} {kn : Nat → Nat → Option Nat} (hCT : ∀ j c, c ∈ CT j → vCtSem KT tb tyl ot j c) {f k : Nat} {c : vCt} (hk : vMeth KT tb tyl ov CT hs kn f k c = true) : vCtSem KT tb tyl ot k c := by
  intro dp q ρ0 σ0 ty0 H0 Lc0 hdp hq h0 hc0 hlen
  unfold vMeth at hk
  simp only [Bool.and_eq_true] at hk
  obtain ⟨⟨km, ke⟩, ku⟩ := hk
  have km := of_decide_eq_true km
  have noraw : ∀ {A : vAn} {ρ : Nat → Int} {σ : Nat → Nat} {ty : Nat → Option Nat} {H : List (XC Int32)}, vRel KT ρ σ ty H (aSt A) → ∀ a c, ty a = some c → kRaw KT c = none := fun h a c ha => by
    rcases hR : kRaw KT c with _ | d
    · rfl
    · obtain ⟨i, hi, -⟩ := h.2.2.2.2.2.2.2 a c d ha hR
      cases hi
  have hret : ∀ (W : List (Nat × Nat)) (tyS : Nat → Option Nat) (HS : List (XC Int32)) (s : vSt) (ρ : Nat → Int) (σ : Nat → Nat), wSub W (cW c) = true ∨ W = cW c → vLe ty0 tyS → vFrm (cW c) ty0 H0 HS → (aI (cE c)).length ≤ sN s → (aG (cE c)).length ≤ (sG s).length → (∀ i, i < (aI (cE c)).length → ρ i = ρ0 i) → (∀ i, i < (aG (cE c)).length → σ i = σ0 i) → vRetOk KT W tyS HS (H0.length + mMc q) s ρ σ (vRtF c) (vPost KT (cW c) (cX c) (aI (cE c)).length (aG (cE c)).length (mMc q) ρ0 σ0 ty0 H0) := by
    intro W tyS HS s ρ σ hW hl hfS hn hm a1 a2 ρ2 σ2 ty2 H2 s2 av e1 e2 e3 e4 e5 e6
    have hW2 : ∀ c0 k0, wIn W c0 k0 = true → wIn (cW c) c0 k0 = true := by
      rcases hW with hW | rfl
      · exact wSub_spec hW
      · exact fun _ _ h => h
    obtain ⟨X, hX, hx⟩ := List.any_eq_true.mp e6
    rcases hp : vMt X (aI (cE c)).length (aG (cE c)).length [] av.toList s2 with _ | p
    · rw [hp] at hx
      cases hx
    obtain ⟨g1, -, g3, -, -, -, g7, g8⟩ := vMt_spec e4 hp km
    refine ⟨X, hX, rO ρ2 p.1, sO σ2 p.2, ty2, fun i hi => ?_, fun i hi => ?_, g1, ?_, vLe_tr hl e2, vFrm_tr hfS hl hW2 e3, e5⟩
    · rw [g7 i hi, e1.1 i (Nat.lt_of_lt_of_le hi hn), a1 i hi]
    · rw [g8 i hi, e1.2.1 i (Nat.lt_of_lt_of_le hi hm), a2 i hi]
    · rw [← g3]
      rcases av with _ | av <;> rfl
  have hcut : ∀ (W : List (Nat × Nat)) (tyS : Nat → Option Nat) (HS : List (XC Int32)) (rk : Option vAn) (s : vSt) (ρ : Nat → Int) (σ : Nat → Nat), wSub W (cW c) = true ∨ W = cW c → vLe ty0 tyS → vFrm (cW c) ty0 H0 HS → (aI (cE c)).length ≤ sN s → (aG (cE c)).length ≤ (sG s).length → (∀ i, i < (aI (cE c)).length → ρ i = ρ0 i) → (∀ i, i < (aG (cE c)).length → σ i = σ0 i) → (∀ A, rk = some A → s = aSt A ∧ vRel KT ρ σ tyS HS (aSt A) ∧ lBd (aI A).length (aRk A) = true ∧ (aG A).length < 1000000) →
      (∀ (pc : Nat) (B : vAn) (As : List vAn) (ρ2 : Nat → Int) (σ2 : Nat → Nat) (ty : Nat → Option Nat) (H : List (XC Int32)) (Lc : List (Nat × XV Int32)) (cn2 sn2 : Nat), (pc, As) ∈ cU c → B ∈ As → (∀ A, rk = some A → aPh B < aPh A ∨ (aPh B = aPh A ∧ vMea B ρ2 σ2 H < vMea A ρ σ HS)) → (∀ i, i < (aI (cE c)).length → ρ2 i = ρ0 i) → (∀ i, i < (aG (cE c)).length → σ2 i = σ0 i) → vAt KT (cW c) ty0 H0 H0.length (aL B) (aSt B) (aCn B) (aSn B) ρ2 σ2 ty H Lc cn2 sn2 → ∃ v H2, x_To tb tyl ot dp k pc Lc ((aS B).map (cv ρ2 σ2)) H cn2 sn2 v H2 ∧ vPost KT (cW c) (cX c) (aI (cE c)).length (aG (cE c)).length (mMc q) ρ0 σ0 ty0 H0 v H2) →
      vCutOk KT tb tyl ot W tyS HS H0.length dp k s ρ σ (vCuF c W rk) (vPost KT (cW c) (cX c) (aI (cE c)).length (aG (cE c)).length (mMc q) ρ0 σ0 ty0 H0) := by
    intro W tyS HS rk s ρ σ hW hl hfS hn hm a1 a2 hA0 hgo pc g hg ρ2 σ2 ty2 H2 s2 L S cn sn Lc cn2 sn2 e1 e2 e3
    have hW2 : ∀ c0 k0, wIn W c0 k0 = true → wIn (cW c) c0 k0 = true := by
      rcases hW with hW | rfl
      · exact wSub_spec hW
      · exact fun _ _ h => h
    unfold vCuF at hg
    split at hg
    · cases hg
    rename_i As hAs
    cases hg
    obtain ⟨B, hB, hh⟩ := List.any_eq_true.mp e3
    unfold vHit at hh
    split at hh
    · cases hh
    rename_i p hp
    simp only [Bool.and_eq_true] at hh
    obtain ⟨⟨k1, k2⟩, k3⟩ := hh
    have k1 := lGe_spec e2.2.2.2.1.2.2.2.1 e2.2.2.2.1.2.2.2.2.1 k1
    have k2 := lGe_spec e2.2.2.2.1.2.2.2.1 e2.2.2.2.1.2.2.2.2.1 k2
    rw [lSub_ev, lSb_ev] at k1 k2
    obtain ⟨g1, g2, g3, -, -, -, g7, g8⟩ := vMt_spec e2.2.2.2.1 hp km
    have hrk : ∀ A, rk = some A → aPh B < aPh A ∨ (aPh B = aPh A ∧ vMea B (rO ρ2 p.1) (sO σ2 p.2) H2 < vMea A ρ σ HS) := by
      intro A hA
      subst hA
      obtain ⟨z1, z2, z3, z4⟩ := hA0 A rfl
      subst z1
      rcases Bool.or_eq_true_iff.mp k3 with k3 | k3
      · exact Or.inl (of_decide_eq_true k3)
      · exact Or.inr (vRank z2 e2.2.2.1 e2.2.2.2.1 e1 z3 z4 k3)
    obtain ⟨v, H3, h1, h2⟩ := hgo pc B As (rO ρ2 p.1) (sO σ2 p.2) ty2 H2 Lc cn2 sn2 (uGet_spec hAs) hB hrk (fun i hi => by rw [g7 i hi, e1.1 i (Nat.lt_of_lt_of_le hi hn), a1 i hi]) (fun i hi => by rw [g8 i hi, e1.2.1 i (Nat.lt_of_lt_of_le hi hm), a2 i hi])
      ⟨e2.1, vLe_tr hl e2.2.1, vFrm_tr hfS hl hW2 e2.2.2.1, g1, g2 _ e2.2.2.2.2.1, by have := e2.2.2.2.2.2.1; omega, by have := e2.2.2.2.2.2.2; omega⟩
    rw [← g3] at h1
    exact ⟨v, H3, h1, h2⟩
  have hgo : ∀ (P N pc : Nat) (A : vAn) (As : List vAn) (ρ : Nat → Int) (σ : Nat → Nat) (ty : Nat → Option Nat) (H : List (XC Int32)) (Lc : List (Nat × XV Int32)) (cn2 sn2 : Nat), (pc, As) ∈ cU c → A ∈ As → aPh A < P → vMea A ρ σ H < N → (∀ i, i < (aI (cE c)).length → ρ i = ρ0 i) → (∀ i, i < (aG (cE c)).length → σ i = σ0 i) → vAt KT (cW c) ty0 H0 H0.length (aL A) (aSt A) (aCn A) (aSn A) ρ σ ty H Lc cn2 sn2 → ∃ v H2, x_To tb tyl ot dp k pc Lc ((aS A).map (cv ρ σ)) H cn2 sn2 v H2 ∧ vPost KT (cW c) (cX c) (aI (cE c)).length (aG (cE c)).length (mMc q) ρ0 σ0 ty0 H0 v H2 := by
    intro P
    induction P with
    | zero => intro N pc A As ρ σ ty H Lc cn2 sn2 _ _ h; omega
    | succ P ihP =>
    intro N
    induction N with
    | zero => intro pc A As ρ σ ty H Lc cn2 sn2 _ _ _ h; omega
    | succ N ih =>
      intro pc A As ρ σ ty H Lc cn2 sn2 hu hA hP hN a1 a2 hat
      have k1 := List.all_eq_true.mp (List.all_eq_true.mp ku (pc, As) hu) A hA
      simp only [Bool.and_eq_true] at k1
      obtain ⟨⟨⟨⟨⟨k2, k3⟩, hb⟩, kw⟩, kg⟩, k4⟩ := k1
      have k2 := of_decide_eq_true k2
      have k3 := of_decide_eq_true k3
      have kg := of_decide_eq_true kg
      refine vChk_spec hov hCT (noraw hat.2.2.2.1) f 1 hq hdp hlen (⟨hat.1, vLe_rf ty, vFrm_rf _ _ _, hat.2.2.2.1, hat.2.2.2.2⟩ : vAt KT (aW c A) ty H H0.length (aL A) (aSt A) (aCn A) (aSn A) ρ σ ty H Lc cn2 sn2) k4 (hret (aW c A) ty H (aSt A) ρ σ (Or.inl kw) hat.2.1 hat.2.2.1 k2 k3 a1 a2) (hcut (aW c A) ty H (some A) (aSt A) ρ σ (Or.inl kw) hat.2.1 hat.2.2.1 k2 k3 a1 a2 (fun A2 hA2 => by cases hA2; exact ⟨rfl, hat.2.2.2.1, hb, kg⟩) (fun pc2 B As2 ρ2 σ2 ty2 H2 Lc2 cn3 sn3 b1 b2 b3 b4 b5 b6 => ?_))
      rcases b3 A rfl with b3 | ⟨b3, b7⟩
      · exact ihP (vMea B ρ2 σ2 H2 + 1) pc2 B As2 ρ2 σ2 ty2 H2 Lc2 cn3 sn3 b1 b2 (by omega) (Nat.lt_succ_self _) b4 b5 b6
      · exact ih pc2 B As2 ρ2 σ2 ty2 H2 Lc2 cn3 sn3 b1 b2 (by omega) (by omega) b4 b5 b6
  have hat0 : vAt KT (cW c) ty0 H0 H0.length (aL (cE c)) (aSt (cE c)) (lK 0) (lK 0) ρ0 σ0 ty0 H0 Lc0 0 0 := ⟨⟨Nat.le_refl _, by omega⟩, vLe_rf ty0, vFrm_rf _ _ _, h0, hc0, Int.le_refl _, Int.le_refl _⟩
  exact vChk_spec hov hCT (noraw h0) f 0 hq hdp hlen hat0 ke (hret (cW c) ty0 H0 (aSt (cE c)) ρ0 σ0 (Or.inr rfl) (vLe_rf ty0) (vFrm_rf _ _ _) (Nat.le_refl _) (Nat.le_refl _) (fun _ _ => rfl) (fun _ _ => rfl)) (hcut (cW c) ty0 H0 none (aSt (cE c)) ρ0 σ0 (Or.inr rfl) (vLe_rf ty0) (vFrm_rf _ _ _) (Nat.le_refl _) (Nat.le_refl _) (fun _ _ => rfl) (fun _ _ => rfl) (fun A hA => by cases hA) (fun pc2 B As2 ρ2 σ2 ty2 H2 Lc2 cn3 sn3 b1 b2 _ b4 b5 b6 => hgo (aPh B + 1) _ pc2 B As2 ρ2 σ2 ty2 H2 Lc2 cn3 sn3 b1 b2 (Nat.lt_succ_self _) (Nat.lt_succ_self _) b4 b5 b6))
/-- all contracts, by the order of the calls -/
theorem vAll_spec {KT : vKT} {tb : XT} {tyl : List FieldType} {ot : XO Int32} {CT : Nat → List vCt} {hs : Nat → Nat → Option (List vHn)} {kn : Nat → Nat → Option Nat} (rank : Nat → Nat) (f : Nat) (ovf : Nat → vOt) (hov : ∀ j, vOvLe (ovf j) (o4 ot)) (h : ∀ j, (CT j).all (vMeth KT tb tyl (ovf j) (fun i => if rank i < rank j then CT i else []) hs kn f j) = true) : ∀ j c, c ∈ CT j → vCtSem KT tb tyl ot j c := by
  have go : ∀ (n j : Nat) (c : vCt), rank j < n → c ∈ CT j → vCtSem KT tb tyl ot j c := by
    intro n
    induction n with
    | zero => intro j c hj; omega
    | succ n ih =>
      intro j c hj hc
      refine vMeth_spec (hov j) (fun i c2 hc2 => ?_) (List.all_eq_true.mp (h j) c hc)
      have hc2 : c2 ∈ (if rank i < rank j then CT i else []) := hc2
      split at hc2
      · exact ih i c2 (by omega) hc2
      · cases hc2
  exact fun j c hc => go (rank j + 1) j c (Nat.lt_succ_self _) hc
end XMeth
