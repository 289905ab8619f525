/-! Calls at the head, where one of some notes is kept. -/
noncomputable section XNote
/-- one of these holds at the head, of the head's symbols -/
def lwPn (KT : vKT) (PN : List vAn) (σ : Nat → Nat) (ty : Nat → Option Nat) (H : List (XC Int32)) : Prop := ∃ A ∈ PN, ∃ ρ, vRel KT ρ σ ty H (aSt A)
theorem lwPn_keep {KT : vKT} {N : vAn} {W : List (Nat × Nat)} {PN : List vAn} {m0 : Nat} (hk : PN.all (fun A => decide (aG A = aG N) && decide ((aG A).length ≤ m0) && (aF A).all (fun f => decide ((fCal W (aG A) [f]).length = 1)) && sBd (aSt A)) = true) : ∀ (ρ : Nat → Int) (σ : Nat → Nat) (ty : Nat → Option Nat) (H : List (XC Int32)) (ρ2 : Nat → Int) (σ2 : Nat → Nat) (ty2 : Nat → Option Nat) (H2 : List (XC Int32)), vRel KT ρ σ ty H (aSt N) → lwPn KT PN σ ty H → (∀ i, i < m0 → σ2 i = σ i) → vLe ty ty2 → vFrm W ty H H2 → vRel KT ρ2 σ2 ty2 H2 (aSt N) → lwPn KT PN σ2 ty2 H2 := by
  intro ρ σ ty H ρ2 σ2 ty2 H2 h hP hs _ hf h2
  obtain ⟨A, hA, ρ3, g⟩ := hP
  have k := List.all_eq_true.mp hk A hA
  simp only [Bool.and_eq_true] at k
  obtain ⟨⟨⟨k1, k2⟩, k3⟩, k4⟩ := k
  have k1 := of_decide_eq_true k1
  have k2 := of_decide_eq_true k2
  obtain ⟨-, s2, -, -, -, -⟩ := sBd_spec k4
  refine ⟨A, hA, ρ3, h2.1, fun i c hc => h2.2.1 i c (by
    have hc : (aG A)[i]? = some c := hc
    rw [k1] at hc
    exact hc), fun f hf2 => ?_, g.2.2.2.1, g.2.2.2.2.1, g.2.2.2.2.2.1, h2.2.2.2.2.2.2.1, fun a c d ha hd => by
    obtain ⟨i, hi, -⟩ := h2.2.2.2.2.2.2.2 a c d ha hd
    cases hi⟩
  have hf2 : f ∈ aF A := hf2
  have k5 := of_decide_eq_true (List.all_eq_true.mp k3 f hf2)
  have hm : f ∈ fCal W (aG A) [f] := by
    rcases hl : fCal W (aG A) [f] with _ | ⟨x, r⟩
    · rw [hl] at k5
      cases k5
    · have hx : x ∈ fCal W (aG A) [f] := by rw [hl]; exact List.mem_cons_self
      have hx2 : x ∈ [f] := (List.mem_filter.mp hx).1
      rw [List.mem_singleton.mp hx2]
      exact List.mem_cons_self
  have q := fCal_spec (ρ := ρ3) (σ := σ) (H2 := H2) g.2.1 hf (F := [f]) (fun z hz => by
    rcases List.mem_singleton.mp hz with rfl
    exact g.2.2.1 _ hf2) f hm
  exact fBd_spec (n := sN (aSt A)) (m := (aG A).length) (fun _ _ => rfl) (fun i hi => hs i (by omega)) (s2 f hf2) q
def lShf (n : Nat) (l : lT) : lT := (l.1, l.2.map (fun p => (p.1 + n, p.2)))
theorem lShf_ev {ρ : Nat → Int} (n : Nat) (l : lT) : lEv ρ (lShf n l) = lEv (fun i => ρ (i + n)) l := by
  obtain ⟨c, r⟩ := l
  show c + lS ρ (r.map (fun p => (p.1 + n, p.2))) = c + lS (fun i => ρ (i + n)) r
  congr 1
  induction r with
  | nil => rfl
  | cons p r ih =>
    show p.2 * ρ (p.1 + n) + lS ρ (r.map (fun p => (p.1 + n, p.2))) = p.2 * ρ (p.1 + n) + lS (fun i => ρ (i + n)) r
    rw [ih]
def fShf (n : Nat) (f : vK) : vK := (f.1, (match f.2.1 with | .inl j => .inl j | .inr e => .inr (lShf n e)), (match f.2.2 with | .inl e => .inl (lShf n e) | .inr o => .inr o))
theorem vNot_shf {σ : Nat → Nat} {f : vK} {n : Nat} (h : vNot σ f) : vNot σ (fShf n f) := by
  obtain ⟨k, h1, h2, h3⟩ := h
  refine ⟨k, ?_, ?_, h3⟩
  · unfold fShf
    rw [h1]
    rfl
  · unfold fShf
    rw [h2]
/-- two notes of the same symbols -/
def aMrg (A B : vAn) : vAn := (aG A, aI A ++ aI B, [], [], aF A ++ (aF B).map (fShf (aI A).length), aC A ++ (aC B).map (lShf (aI A).length), aM A, A.2.2.2.2.2.2.2.1, [])
theorem vRel_mrg {KT : vKT} {ρ ρ3 : Nat → Int} {σ : Nat → Nat} {ty : Nat → Option Nat} {H : List (XC Int32)} {A B : vAn} (hA : vRel KT ρ σ ty H (aSt A)) (hB : vRel KT ρ3 σ ty H (aSt B)) (bA : sBd (aSt A) = true) : vRel KT (fun i => if i < (aI A).length then ρ i else ρ3 (i - (aI A).length)) σ ty H (aSt (aMrg A B)) := by
  have eρ : ∀ i, i < (aI A).length → (fun i => if i < (aI A).length then ρ i else ρ3 (i - (aI A).length)) i = ρ i := fun i hi => if_pos hi
  have eS : ∀ l : lT, lEv (fun i => if i < (aI A).length then ρ i else ρ3 (i - (aI A).length)) (lShf (aI A).length l) = lEv ρ3 l := fun l => by
    rw [lShf_ev]
    congr 1
    funext i
    show (if i + (aI A).length < (aI A).length then _ else ρ3 (i + (aI A).length - (aI A).length)) = ρ3 i
    rw [if_neg (by omega), Nat.add_sub_cancel]
  have g := vRel_ext hA bA (fun i hi => eρ i hi) (fun _ _ => rfl)
  refine ⟨g.1, g.2.1, fun f hf => ?_, zipI_spec.mpr (fun j p hp => ?_), fun c hc => ?_, g.2.2.2.2.2⟩
  · rcases List.mem_append.mp hf with hf | hf
    · exact g.2.2.1 f hf
    · obtain ⟨f0, h0, rfl⟩ := List.mem_map.mp hf
      have q := hB.2.2.1 f0 h0
      rcases q with q | q
      rotate_left
      · exact Or.inr (vNot_shf q)
      refine Or.inl ?_
      obtain ⟨x, key, v⟩ := f0
      have ev : cv (fun i => if i < (aI A).length then ρ i else ρ3 (i - (aI A).length)) σ (fShf (aI A).length (x, key, v)).2.2 = cv ρ3 σ v := by
        rcases v with e | (_ | k)
        · exact congrArg (fun z => Sum.inl (Int32.ofInt z)) (eS e)
        · rfl
        · rfl
      rw [ev]
      rcases key with j | e
      · obtain ⟨ci, fs, y1, y2⟩ := q
        show ∃ ci fs, H[sR σ x]? = some (.inl (ci, fs)) ∧ fs[j]? = some (cv ρ3 σ v)
        exact ⟨ci, fs, y1, y2⟩
      · obtain ⟨t, vs, y1, y0, y2⟩ := q
        show ∃ t vs, H[sR σ x]? = some (.inr (t, vs)) ∧ 0 ≤ lEv (fun i => if i < (aI A).length then ρ i else ρ3 (i - (aI A).length)) (lShf (aI A).length e) ∧ vs[(lEv (fun i => if i < (aI A).length then ρ i else ρ3 (i - (aI A).length)) (lShf (aI A).length e)).toNat]? = some (cv ρ3 σ v)
        refine ⟨t, vs, y1, ?_, ?_⟩
        · rw [eS]
          exact y0
        · rw [eS]
          exact y2
  · rw [Nat.zero_add]
    by_cases hj : j < (aI A).length
    · have hp : (aI A ++ aI B)[j]? = some p := hp
      rw [List.getElem?_append_left hj] at hp
      have q := zipI_spec.mp g.2.2.2.1 j p hp
      rw [Nat.zero_add] at q
      exact q
    · have hp : (aI A ++ aI B)[j]? = some p := hp
      rw [List.getElem?_append_right (by omega)] at hp
      have q := zipI_spec.mp hB.2.2.2.1 _ p hp
      rw [Nat.zero_add] at q
      show p.1 ≤ (if j < (aI A).length then ρ j else ρ3 (j - (aI A).length)) ∧ (if j < (aI A).length then ρ j else ρ3 (j - (aI A).length)) ≤ p.2
      rw [if_neg hj]
      exact q
  · rcases List.mem_append.mp hc with hc | hc
    · exact g.2.2.2.2.1 c hc
    · obtain ⟨c0, h0, rfl⟩ := List.mem_map.mp hc
      rw [eS]
      exact hB.2.2.2.2.1 c0 h0
/-- by the note that holds: the notes at both entries; those at both ends, what they make of the head's ints, which note holds then, and its ints -/
abbrev bEn : Type := vAn × vAn × vAn × List ((vAn × vAn × List lT) × (Nat × List lT))
def bEnOk (n : Nat) (N : vAn) (PN : List vAn) (pA pB : Nat → Bool) (mA mB : Nat) (τA τB : List Nat) (ps : List (Bool × Nat)) (e : bEn) : Bool :=
  vMc (aNl e.2.1) ((List.range (aI (aMrg (aArg n N) e.1)).length).map lSy) τA [] [] (aSt (aMrg (aArg n N) e.1)) && vMc (aNl e.2.2.1) ((List.range (aI (aMrg (aArg n N) e.1)).length).map lSy) τB [] [] (aSt (aMrg (aArg n N) e.1)) && (aG e.2.1).all pA && (aG e.2.2.1).all pB && aBd e.2.1 && aBd e.2.2.1 && decide ((aG (aMrg (aArg n N) e.1)).length < 1000000) &&
  (e.2.2.2.map (fun x => x.1)).all (jOk (aNl N) (aI (aMrg (aArg n N) e.1)).length mA mB τA τB ps) &&
  e.2.2.2.all (fun x => (match PN[x.2.1]? with
    | some A => vMc (aNl A) x.2.2 (jTa (aG x.1.1).length ps) [] [] (jSt x.1.1 x.1.2.1)
    | none => false) && (match aS x.1.1, aS x.1.2.1 with | [_], [_] => true | _, _ => false)) && decide ((aG e.2.1).length < 1000000) && decide (mA ≤ (aG e.2.1).length) && decide (mB ≤ (aG e.2.2.1).length)
theorem bPN {KT : vKT} {tb : XT} {tyl : List FieldType} {ot : XO Int32} {ov : vOt} (hov : vOvLe ov (o4 ot)) {CT : Nat → List vCt} {hs : Nat → Nat → Option (List vHn)} {kn : Nat → Nat → Option Nat} (hCT : ∀ j c, c ∈ CT j → vCtSem KT tb tyl ot j c) {N : vAn} {pA pB : Nat → Bool} {n : Nat}
    (cA : kCl KT.1 pA = true) (cB : kCl KT.1 pB = true) (qA : pA KT.2.1.1 = true → pA KT.2.1.2.2.2.1 = true) (qB : pB KT.2.1.1 = true → pB KT.2.1.2.2.2.1 = true) (hd : ∀ c, pA c = true → pB c = true → False) (hJ : KT.1.all (fun kd => match kd with | .inr o => decide (o.1 ≠ 77) | _ => true) = true)
    {τA τB : List Nat} {ps : List (Bool × Nat)} (hNp : ps.length = (aG N).length) (hNs : aS N = []) (htA : τA.all (fun i => decide (i < 1000000)) = true) (htB : τB.all (fun i => decide (i < 1000000)) = true)
    {mA mB kA kB d mcA mcB : Nat} {WA WB : List (Nat × Nat)} (hbN : sBd (aSt N) = true) (hbN2 : sBd (aSt (aArg n N)) = true) (hl2 : 2 ≤ (aI N).length) (hm1 : mA < 1000000) (hm2 : mB < 1000000)
    {es : List bEn} (hes : es.all (bEnOk n N (es.map (fun e => e.1)) pA pB mA mB τA τB ps) = true)
    {f dA dB : Nat} (hk : ∀ e ∈ es, vPe KT tb tyl ov CT hs kn WA WB (aI (aMrg (aArg n N) e.1)).length mA mB [] f 0 dA kA 0 0 dB kB 0 e.2.1 e.2.2.1 ((e.2.2.2.map (fun x => x.1)).map (fun x => (none, none, x.1, x.2.1, false))) = true) {xA xB : XM} (hxA : tMth tb kA = some xA) (hxB : tMth tb kB = some xB) (hmA : mMc xA = mcA) (hmB : mMc xB = mcB) (hdA : dA ≤ d) (hdB : dB ≤ d)
    (hE : ∀ e ∈ es, aL e.2.1 = x_en 0 (.inr (some 0) :: argVs (aI N).length n) ∧ aL e.2.2.1 = x_en 0 (.inr (some 0) :: argVs (aI N).length n) ∧ aS e.2.1 = [] ∧ aS e.2.2.1 = [] ∧ aCn e.2.1 = lK 0 ∧ aSn e.2.1 = lK 0 ∧ aCn e.2.2.1 = lK 0 ∧ aSn e.2.2.1 = lK 0)
    (tA0 : τA[0]? = some 0) (tB0 : τB[0]? = some 1) (hps0 : 2 ≤ ps.length) (hB0 : ∀ e ∈ es, 0 < (aG e.2.2.1).length)
    {rA rB : Nat} (hrA : gRc KT N 0 = some rA) (hrB : gRc KT N 1 = some rB) :
    bPP KT tb tyl ot N (lwPn KT (es.map (fun e => e.1))) d kA kB n (mcA + mcB) rA rB True := by
  intro ρ σ ty H t h0 h1 ht hlen h hP
  obtain ⟨A, hA, ρA, gP⟩ := hP
  obtain ⟨e, he, rfl⟩ := List.mem_map.mp hA
  let ρ1 : Nat → Int := fun j => if j < (aI N).length then ρ j else (oSc ot (t + (1 + (j - (aI N).length)))).toInt
  have eρ : ∀ j, j < (aI N).length → ρ1 j = ρ j := fun j hj => if_pos hj
  have eV : ∀ j, j < n → ρ1 ((aI N).length + j) = (oSc ot (t + (1 + j))).toInt := fun j _ => by
    show (if (aI N).length + j < (aI N).length then _ else (oSc ot (t + (1 + ((aI N).length + j - (aI N).length)))).toInt) = _
    rw [if_neg (by omega), Nat.add_sub_cancel_left]
  have hA1 := vRel_arg h hbN (by omega) hl2 (n := n) (vals := fun j => oSc ot (t + (1 + j))) eρ eV
  have hNE := vRel_mrg hA1 gP hbN2
  have hlen1 : (aI (aArg n N)).length = (aI N).length + n := by
    show (aI N ++ List.replicate n _).length = _
    rw [List.length_append, List.length_replicate]
  have hok := List.all_eq_true.mp hes e he
  unfold bEnOk at hok
  simp only [Bool.and_eq_true] at hok
  obtain ⟨⟨⟨⟨⟨⟨⟨⟨⟨⟨⟨k1, k2⟩, k3⟩, k4⟩, k5⟩, k6⟩, k7⟩, k8⟩, k9⟩, k10⟩, k11⟩, k12⟩ := hok
  obtain ⟨l1, l2, l3, l4, l5, l6, l7, l8⟩ := hE e he
  have hlenM : (aI (aMrg (aArg n N) e.1)).length = (aI (aArg n N)).length + (aI e.1).length := List.length_append
  obtain ⟨b, H1, H2, a, HA, HH, ρ3, σ2, ty2, q1, q2, q3, q4, q5, q6, q7, -, q9, q10, q11, q12, q13, q14, q15, q16, q17, z, hz, hzA⟩ := pJoinX (tb := tb) (tyl := tyl) (ot := ot) (N := N) (NE := aMrg (aArg n N) e.1) (EA := e.2.1) (EB := e.2.2.1) (pA := pA) (pB := pB) cA cB qA qB hd hJ (τA := τA) (τB := τB) (ps := ps) k1 k2 k3 k4 k5 k6 (of_decide_eq_true k7) hNp hNs htA htB (n0 := (aI (aMrg (aArg n N) e.1)).length) (mA := mA) (mB := mB) (kA := kA) (kB := kB) (d := d) (mcA := mcA) (mcB := mcB) (WA := WA) (WB := WB) (XS := e.2.2.2.map (fun x => x.1)) (Nat.le_refl _) k8 hNE (LA := x_en 0 (.inr (some (sR σ 0)) :: bVs ot t n 1)) (LB := x_en 0 (.inr (some (sR σ 1)) :: bVs ot t n 1)) (Q := fun b vA H1 vB H2 => pQ KT (aI (aMrg (aArg n N) e.1)).length mA mB WA WB mcA mcB ((e.2.2.2.map (fun x => x.1)).map (fun x => (x.1, x.2.1))) b vA H1 vB H2) (fun _ _ _ _ _ z => z) (fun b hb e1 e2 e3 e4 e5 e6 e7 e8 e9 => by
    have bv : ∀ i, i < n → b.1 ((aI N).length + i) = (oSc ot (t + (1 + i))).toInt := fun i hi => by
      rw [e1]
      have hlt : (aI N).length + i < (aI (aMrg (aArg n N) e.1)).length := by omega
      unfold rO
      rw [List.getD_eq_getElem?_getD, List.getElem?_map, List.getElem?_range hlt]
      show lEv _ (lSy ((aI N).length + i)) = _
      rw [lSy_ev]
      show (if (aI N).length + i < (aI (aArg n N)).length then ρ1 ((aI N).length + i) else _) = _
      rw [if_pos (by omega)]
      exact eV i hi
    have u0 : sR b.2.1 0 = sR σ 0 := by rw [e2]; exact sOx tA0 (by omega)
    have u1 : sR b.2.2.1 0 = sR σ 1 := by rw [e3]; exact sOx tB0 (by omega)
    have lA : (.inr (some 0) :: argVs (aI N).length n : List vA).map (cv b.1 b.2.1) = .inr (some (sR σ 0)) :: bVs ot t n 1 := by
      rw [List.map_cons, argVs_cv n _ 1 bv, ← u0]
      rfl
    have lB : (.inr (some 0) :: argVs (aI N).length n : List vA).map (cv b.1 b.2.2.1) = .inr (some (sR σ 1)) :: bVs ot t n 1 := by
      rw [List.map_cons, argVs_cv n _ 1 bv, ← u1]
      rfl
    have zc : ∀ ρ : Nat → Int, ((0 : Nat) : Int) ≤ lEv ρ (lK 0) := fun ρ => by
      rw [lK_ev]
      exact Int.le_refl _
    obtain ⟨vA, H1, vB, H2, g1, g2, g3⟩ : ∃ vA H1 vB H2, x_To tb tyl ot d kA 0 (x_en 0 ((.inr (some 0) :: argVs (aI N).length n).map (cv b.1 b.2.1))) ((aS e.2.1).map (cv b.1 b.2.1)) b.2.2.2.2.2.1 0 0 vA H1 ∧ x_To tb tyl ot d kB 0 (x_en 0 ((.inr (some 0) :: argVs (aI N).length n).map (cv b.1 b.2.2.1))) ((aS e.2.2.1).map (cv b.1 b.2.2.1)) b.2.2.2.2.2.2 0 0 vB H2 ∧ pQ KT (aI (aMrg (aArg n N) e.1)).length mA mB WA WB mcA mcB ((e.2.2.2.map (fun x => x.1)).map (fun x => (x.1, x.2.1))) b vA H1 vB H2 := by
      refine vPe_st hov hCT (hk e he) hxA hxB hdA hdB (BA := b.2.2.2.2.2.1.length) (BB := b.2.2.2.2.2.2.length) (by rw [hmA, e8]; omega) (by rw [hmB]; omega) ⟨hb.1.1, hm1, hm2, fun p hp => absurd hp List.not_mem_nil, fun p hp => absurd hp List.not_mem_nil⟩ (c := b) hb (cA := 0) (sA := 0) (cB := 0) (sB := 0) ⟨⟨Nat.le_refl _, by omega⟩, by rw [l1]; exact vCov_en _ 0, by rw [l5]; exact zc _, by rw [l6]; exact zc _⟩ ⟨⟨Nat.le_refl _, by omega⟩, by rw [l2]; exact vCov_en _ 0, by rw [l7]; exact zc _, by rw [l8]; exact zc _⟩ ?_
      intro o ho d2 LA2 LB2 cA2 sA2 cB2 sB2 y1 y2 y3 y4
      obtain ⟨x, hx, rfl⟩ := List.mem_map.mp ho
      obtain ⟨w, hw, rfl⟩ := List.mem_map.mp hx
      have hs := (Bool.and_eq_true_iff.mp (List.all_eq_true.mp k9 w hw)).2
      split at hs
      · rename_i u v hu hv
        exact pQ_end (List.mem_map.mpr ⟨_, hx, rfl⟩) y1 hu hv (by rw [← hmA]; exact y3) (by rw [← hmB]; exact y4)
      · cases hs
    rw [l3] at g1
    rw [l4] at g2
    exact ⟨vA, H1, vB, H2, by rw [← lA]; exact g1, by rw [← lB]; exact g2, g3⟩)
  have gN : ∀ i r, gRc KT N i = some r → ∃ c o, (aG N)[i]? = some c ∧ KT.1[c]? = some (.inl o) ∧ o.1 = r := fun i r hr => gRc_spec hr
  obtain ⟨c0, o0, n1, n2, n3⟩ := gN 0 rA hrA
  obtain ⟨c1, o1, m1, m2, m3⟩ := gN 1 rB hrB
  have tyB : ∀ i j c, τB[i]? = some j → (aG e.2.2.1)[i]? = some c → tyP pB ty (sR σ j) = some c := fun i j c hτ hg => by
    obtain ⟨eB, -, -, -, -, -⟩ := vMc_spec hNE k2
    have z := eB.2.1 i c hg
    have hi := (List.getElem?_eq_some_iff.mp hg).1
    have k6' := k6
    unfold aBd at k6'
    simp only [Bool.and_eq_true] at k6'
    have := of_decide_eq_true k6'.2
    rw [sOx hτ (by omega)] at z
    exact tyP_iff.mpr ⟨z, List.all_eq_true.mp k4 c (List.mem_of_getElem? hg)⟩
  have hw0 := tyB 0 1 _ tB0 (List.getElem?_eq_getElem (hB0 e he))
  obtain ⟨w, hw, rfl⟩ := List.mem_map.mp hz
  have hsw := (Bool.and_eq_true_iff.mp (List.all_eq_true.mp k9 w hw)).1
  refine ⟨a, a, HA, HH, ρ3, σ2, ty2, ?_, q1, ?_, q2, fun _ => rfl, ?_, ?_, q5 0 (by omega), q5 1 (by omega), q6, ?_, q7⟩
  · rw [xRc h (by omega) (show (sG (aSt N))[0]? = some c0 from n1) n2 rfl, n3]
  · rw [xRc h (by omega) (show (sG (aSt N))[1]? = some c1 from m1) m2 ((q15 _ _ hw0).2), m3]
  · rw [q3]
    show (if 0 < (aI (aArg n N)).length then ρ1 0 else _) = _
    rw [if_pos (by omega)]
    exact eρ 0 (by omega)
  · rw [q4]
    show (if 1 < (aI (aArg n N)).length then ρ1 1 else _) + 7 = _
    rw [if_pos (by omega), eρ 1 (by omega)]
  · split at hsw
    · rename_i B hB
      obtain ⟨ρ4, g4⟩ := hzA (aNl B) w.2.2 hsw
      exact ⟨B, List.mem_of_getElem? hB, ρ4, g4⟩
    · cases hsw
end XNote
