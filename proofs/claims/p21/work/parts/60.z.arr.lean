/-! Pairs of calls at the head: rows that stand in both alike. -/
noncomputable section XArr
/-- the head's note, with the ints of a call -/
def aArg (n : Nat) (N : vAn) : vAn := (aG N, aI N ++ List.replicate n ((-2147483648 : Int), (2147483647 : Int)), [], [], aF N, lAdd (lAdd (lK (-7)) (lSy 0)) (lSc (-1) (lSy 1)) :: aC N, aM N, N.2.2.2.2.2.2.2.1, [])
theorem vRel_arg {KT : vKT} {ρ ρ2 : Nat → Int} {σ : Nat → Nat} {ty : Nat → Option Nat} {H : List (XC Int32)} {N : vAn} (h : vRel KT ρ σ ty H (aSt N)) (hb : sBd (aSt N) = true) (h7 : ρ 1 + 7 ≤ ρ 0) (hl : 2 ≤ (aI N).length) {n : Nat} {vals : Nat → Int32} (h1 : ∀ j, j < (aI N).length → ρ2 j = ρ j) (h2 : ∀ j, j < n → ρ2 ((aI N).length + j) = (vals j).toInt) : vRel KT ρ2 σ ty H (aSt (aArg n N)) := by
  have g := vRel_ext h hb (fun i hi => h1 i hi) (fun _ _ => rfl)
  refine ⟨g.1, g.2.1, g.2.2.1, zipI_spec.mpr (fun j p hp => ?_), fun c hc => ?_, g.2.2.2.2.2⟩
  · rw [Nat.zero_add]
    have hp : (aI N ++ List.replicate n ((-2147483648 : Int), (2147483647 : Int)))[j]? = some p := hp
    by_cases hj : j < (aI N).length
    · rw [List.getElem?_append_left hj] at hp
      have q := zipI_spec.mp g.2.2.2.1 j p hp
      rw [Nat.zero_add] at q
      exact q
    · rw [List.getElem?_append_right (by omega), List.getElem?_replicate] at hp
      split at hp
      · rename_i hlt
        cases hp
        have e := h2 (j - (aI N).length) hlt
        rw [show (aI N).length + (j - (aI N).length) = j by omega] at e
        rw [e]
        exact vTop_spec (vals (j - (aI N).length))
      · cases hp
  · rcases List.mem_cons.mp hc with rfl | hc
    · rw [lAdd_ev, lAdd_ev, lK_ev, lSc_ev, lSy_ev, lSy_ev, h1 0 (by omega), h1 1 (by omega)]
      omega
    · exact g.2.2.2.2.1 c hc
def argVs : Nat → Nat → List vA
  | _, 0 => []
  | k, n + 1 => .inl (lSy k) :: argVs (k + 1) n
theorem argVs_cv {ot : XO Int32} {t : Nat} {ρ : Nat → Int} {σ : Nat → Nat} : ∀ (n k j : Nat), (∀ i, i < n → ρ (k + i) = (oSc ot (t + (j + i))).toInt) → (argVs k n).map (cv ρ σ) = bVs ot t n j
  | 0, _, _, _ => rfl
  | n + 1, k, j, h => by
    show Sum.inl (Int32.ofInt (lEv ρ (lSy k))) :: (argVs (k + 1) n).map (cv ρ σ) = Sum.inl (oSc ot (t + j)) :: bVs ot t n (j + 1)
    have h0 := h 0 (by omega)
    rw [Nat.add_zero, Nat.add_zero] at h0
    rw [lSy_ev, h0, Int32.ofInt_toInt, argVs_cv n (k + 1) (j + 1) (fun i hi => by
      have := h (i + 1) (by omega)
      rw [show k + 1 + i = k + (i + 1) by omega, show j + 1 + i = j + (i + 1) by omega]
      exact this)]
/-- rows that stand in both alike -/
def lwPs (ps : List (Nat × Nat)) (σ : Nat → Nat) (_ : Nat → Option Nat) (H : List (XC Int32)) : Prop := ∀ p ∈ ps, ∃ t vs, H[sR σ p.1]? = some (.inr (t, vs)) ∧ H[sR σ p.2]? = some (.inr (t, vs))
/-- unwritten rows of symbols -/
def unW (W : List (Nat × Nat)) (G : List Nat) (i : Nat) : Bool := match G[i]? with
  | some c => !(wIn W c 0) && !(wIn W c 1)
  | none => false
theorem unW_spec {W : List (Nat × Nat)} {G : List Nat} {i : Nat} (h : unW W G i = true) : ∃ c, G[i]? = some c ∧ wIn W c 0 = false ∧ wIn W c 1 = false := by
  unfold unW at h
  split at h
  · rename_i c hc
    have h2 := Bool.and_eq_true_iff.mp h
    exact ⟨c, hc, by simpa using h2.1, by simpa using h2.2⟩
  · cases h
theorem lwPs_keep {KT : vKT} {N : vAn} {W : List (Nat × Nat)} {ps : List (Nat × Nat)} {m0 : Nat} (hm : m0 ≤ 1000000) (hk : ps.all (fun p => decide (p.1 < m0) && decide (p.2 < m0) && unW W (aG N) p.1 && unW W (aG N) p.2) = true) : ∀ (ρ : Nat → Int) (σ : Nat → Nat) (ty : Nat → Option Nat) (H : List (XC Int32)) (ρ2 : Nat → Int) (σ2 : Nat → Nat) (ty2 : Nat → Option Nat) (H2 : List (XC Int32)), vRel KT ρ σ ty H (aSt N) → lwPs ps σ ty H → (∀ i, i < m0 → σ2 i = σ i) → vLe ty ty2 → vFrm W ty H H2 → vRel KT ρ2 σ2 ty2 H2 (aSt N) → lwPs ps σ2 ty2 H2 := by
  intro ρ σ ty H ρ2 σ2 ty2 H2 h hP hs _ hf _ p hp
  obtain ⟨t, vs, h1, h2⟩ := hP p hp
  have k := List.all_eq_true.mp hk p hp
  simp only [Bool.and_eq_true] at k
  obtain ⟨⟨⟨k1, k2⟩, k3⟩, k4⟩ := k
  have k1 := of_decide_eq_true k1
  have k2 := of_decide_eq_true k2
  have e : ∀ i, i < m0 → sR σ2 i = sR σ i := fun i hi => by
    unfold sR
    rw [if_pos (by omega), if_pos (by omega)]
    exact hs i hi
  obtain ⟨c, c1, c2, c3⟩ := unW_spec k3
  obtain ⟨d, d1, d2, d3⟩ := unW_spec k4
  exact ⟨t, vs, by rw [e _ k1]; exact vFrm_row hf (h.2.1 _ c c1) c2 c3 h1, by rw [e _ k2]; exact vFrm_row hf (h.2.1 _ d d1) d2 d3 h2⟩
theorem sOx {σ : Nat → Nat} {τ : List Nat} {i j : Nat} (h : τ[i]? = some j) (hi : i < 1000000) : sR (sO σ τ) i = sR σ j := by
  show (if i < 1000000 then sR σ (τ.getD i 0) else i) = _
  rw [if_pos hi, List.getD_eq_getElem?_getD, h]
  rfl
theorem xRc {KT : vKT} {ot : XO Int32} {ρ : Nat → Int} {σ : Nat → Nat} {ty : Nat → Option Nat} {H : List (XC Int32)} {s : vSt} (h : vRel KT ρ σ ty H s) (hl : H.length ≤ 1000000) {i c : Nat} {o : Nat × List vF} (hi : (sG s)[i]? = some c) (hk : KT.1[c]? = some (.inl o)) {G : List (XC Int32)} (hG : G[sR σ i]? = H[sR σ i]?) : x_rc ot G (sR σ i) = some o.1 := by
  have ha := h.2.1 i c hi
  obtain ⟨fs, f1, -, -⟩ := vHp_obj h.1 ha (show (fun c => KT.1[c]?) c = some (.inl (o.1, o.2)) from hk)
  have hlt := vHp_lt h.1 ha
  unfold x_rc
  rw [if_neg (by omega), hG, f1]
/-- the class by its number of a note's first symbol -/
def gRc (KT : vKT) (A : vAn) (i : Nat) : Option Nat := match (aG A)[i]? with
  | some c => match KT.1[c]? with
    | some (.inl o) => some o.1
    | _ => none
  | none => none
theorem gRc_spec {KT : vKT} {A : vAn} {i r : Nat} (h : gRc KT A i = some r) : ∃ c o, (aG A)[i]? = some c ∧ KT.1[c]? = some (.inl o) ∧ o.1 = r := by
  unfold gRc at h
  split at h
  · rename_i c hc
    split at h
    · rename_i o ho
      cases h
      exact ⟨c, o, hc, ho, rfl⟩
    · cases h
  · cases h
/-- a call of both at the head: what is asked of its tables -/
theorem aPP {KT : vKT} {tb : XT} {tyl : List FieldType} {ot : XO Int32} {ov : vOt} (hov : vOvLe ov (o4 ot)) {CT : Nat → List vCt} {hs : Nat → Nat → Option (List vHn)} {kn : Nat → Nat → Option Nat} (hCT : ∀ j c, c ∈ CT j → vCtSem KT tb tyl ot j c) {N EA EB : vAn} {pA pB : Nat → Bool} {n : Nat}
    (cA : kCl KT.1 pA = true) (cB : kCl KT.1 pB = true) (qA : pA KT.2.1.1 = true → pA KT.2.1.2.2.2.1 = true) (qB : pB KT.2.1.1 = true → pB KT.2.1.2.2.2.1 = true) (hd : ∀ c, pA c = true → pB c = true → False) (hJ : KT.1.all (fun kd => match kd with | .inr o => decide (o.1 ≠ 77) | _ => true) = true)
    {τA τB : List Nat} {ps : List (Bool × Nat)} (mA1 : vMc (aNl EA) ((List.range (aI (aArg n N)).length).map lSy) τA [] [] (aSt (aArg n N)) = true) (mB1 : vMc (aNl EB) ((List.range (aI (aArg n N)).length).map lSy) τB [] [] (aSt (aArg n N)) = true) (gA : (aG EA).all pA = true) (gB : (aG EB).all pB = true) (bA : aBd EA = true) (bB : aBd EB = true) (hnN : (aG (aArg n N)).length < 1000000) (hNp : ps.length = (aG N).length) (hNs : aS N = []) (htA : τA.all (fun i => decide (i < 1000000)) = true) (htB : τB.all (fun i => decide (i < 1000000)) = true)
    {mA mB kA kB d mcA mcB : Nat} {WA WB : List (Nat × Nat)} {XS : List (vAn × vAn × List lT)} (hXS : XS.all (jOk (aNl N) (aI (aArg n N)).length mA mB τA τB ps) = true)
    (hbN : sBd (aSt N) = true) (hl2 : 2 ≤ (aI N).length) (hm1 : mA < 1000000) (hm2 : mB < 1000000)
    {f dA dB : Nat} {tl : vTl} (hk : vPe KT tb tyl ov CT hs kn WA WB (aI (aArg n N)).length mA mB tl f 0 dA kA 0 0 dB kB 0 EA EB (XS.map (fun x => (none, none, x.1, x.2.1, false))) = true) {xA xB : XM} (hxA : tMth tb kA = some xA) (hxB : tMth tb kB = some xB) (hmA : mMc xA = mcA) (hmB : mMc xB = mcB) (hdA : dA ≤ d) (hdB : dB ≤ d)
    (hLA : aL EA = x_en 0 (.inr (some 0) :: argVs (aI N).length n)) (hLB : aL EB = x_en 0 (.inr (some 0) :: argVs (aI N).length n)) (hSA : aS EA = []) (hSB : aS EB = []) (hcA : lEv (fun _ => 0) (aCn EA) = 0 ∧ aCn EA = lK 0 ∧ aSn EA = lK 0) (hcB : aCn EB = lK 0 ∧ aSn EB = lK 0) (h1S : XS.all (fun x => match aS x.1, aS x.2.1 with | [_], [_] => true | _, _ => false) = true)
    (tA0 : τA[0]? = some 0) (tB0 : τB[0]? = some 1) (hps0 : 2 ≤ ps.length)
    {qs : List (Nat × Nat × Nat × Nat)} (hqs : qs.all (fun q => decide (τA[q.2.2.1]? = some q.1) && decide (τB[q.2.2.2]? = some q.2.1) && decide (q.2.2.1 < mA) && decide (q.2.2.2 < mB) && decide (q.1 < ps.length) && decide (q.2.1 < ps.length)) = true) (hgl : (aG EA).length < 1000000 ∧ (aG EB).length < 1000000 ∧ mA ≤ (aG EA).length ∧ mB ≤ (aG EB).length)
    (htl : tl.all (fun p => qs.any (fun q => decide (q.2.2.1 = p.1) && decide (q.2.2.2 = p.2.1)) && decide (p.2.2.1 = 1) && decide (p.2.2.2 = 0) && unW WA (aG EA) p.1 && unW WB (aG EB) p.2.1) = true)
    {rA rB : Nat} (hrA : gRc KT N 0 = some rA) (hrB : gRc KT N 1 = some rB)
    (hW : ∀ q ∈ qs, ∀ (b : pC) (x : Nat → Int32), pSt KT (aI (aArg n N)).length mA mB WA WB b b EA EB → (∀ i, i < n → b.1 ((aI N).length + i) = (x i).toInt) → b.2.2.2.2.2.1.length + mcA ≤ 1000000 → b.2.2.2.2.2.2.length + mcB ≤ 1000000 → pTl KT mA mB WA WB tl b → (∃ t vs, b.2.2.2.2.2.1[sR b.2.1 q.2.2.1]? = some (.inr (t, vs)) ∧ b.2.2.2.2.2.2[sR b.2.2.1 q.2.2.2]? = some (.inr (t, vs))) → ∀ vA H1 vB H2, x_To tb tyl ot d kA 0 (x_en 0 ((.inr (some 0) :: argVs (aI N).length n).map (cv b.1 b.2.1))) [] b.2.2.2.2.2.1 0 0 vA H1 → x_To tb tyl ot d kB 0 (x_en 0 ((.inr (some 0) :: argVs (aI N).length n).map (cv b.1 b.2.2.1))) [] b.2.2.2.2.2.2 0 0 vB H2 → pQ KT (aI (aArg n N)).length mA mB WA WB mcA mcB (XS.map (fun x => (x.1, x.2.1))) b vA H1 vB H2 → ∃ t vs, H1[sR b.2.1 q.2.2.1]? = some (.inr (t, vs)) ∧ H2[sR b.2.2.1 q.2.2.2]? = some (.inr (t, vs))) :
    bPP KT tb tyl ot N (lwPs (qs.map (fun q => (q.1, q.2.1)))) d kA kB n (mcA + mcB) rA rB True := by
  intro ρ σ ty H t h0 h1 ht hlen h hP
  let ρ2 : Nat → Int := fun j => if j < (aI N).length then ρ j else (oSc ot (t + (1 + (j - (aI N).length)))).toInt
  have eρ : ∀ j, j < (aI N).length → ρ2 j = ρ j := fun j hj => if_pos hj
  have eV : ∀ j, j < n → ρ2 ((aI N).length + j) = (oSc ot (t + (1 + j))).toInt := fun j _ => by
    show (if (aI N).length + j < (aI N).length then _ else (oSc ot (t + (1 + ((aI N).length + j - (aI N).length)))).toInt) = _
    rw [if_neg (by omega), Nat.add_sub_cancel_left]
  have hNE := vRel_arg h hbN (by omega) hl2 (n := n) (vals := fun j => oSc ot (t + (1 + j))) eρ eV
  have hlq : ∀ q ∈ qs, τA[q.2.2.1]? = some q.1 ∧ τB[q.2.2.2]? = some q.2.1 ∧ q.2.2.1 < mA ∧ q.2.2.2 < mB ∧ q.1 < ps.length ∧ q.2.1 < ps.length := fun q hq => by
    have k := List.all_eq_true.mp hqs q hq
    simp only [Bool.and_eq_true, decide_eq_true_eq] at k
    exact ⟨k.1.1.1.1.1, k.1.1.1.1.2, k.1.1.1.2, k.1.1.2, k.1.2, k.2⟩
  obtain ⟨b, H1, H2, a, HA, HH, ρ3, σ2, ty2, q1, q2, q3, q4, q5, q6, q7, ⟨vA, vB, q8, q8r⟩, q9, q10, q11, q12, q13, q14, q15, q16, q17⟩ := pJoin (tb := tb) (tyl := tyl) (ot := ot) (N := N) (NE := aArg n N) (EA := EA) (EB := EB) (pA := pA) (pB := pB) cA cB qA qB hd hJ (τA := τA) (τB := τB) (ps := ps) mA1 mB1 gA gB bA bB hnN hNp hNs htA htB (n0 := (aI (aArg n N)).length) (mA := mA) (mB := mB) (kA := kA) (kB := kB) (d := d) (mcA := mcA) (mcB := mcB) (WA := WA) (WB := WB) (XS := XS) (Nat.le_refl _) hXS hNE (LA := x_en 0 (.inr (some (sR σ 0)) :: bVs ot t n 1)) (LB := x_en 0 (.inr (some (sR σ 1)) :: bVs ot t n 1)) (Q := fun b vA H1 vB H2 => pQ KT (aI (aArg n N)).length mA mB WA WB mcA mcB (XS.map (fun x => (x.1, x.2.1))) b vA H1 vB H2 ∧ ∀ q ∈ qs, ∃ t vs, H1[sR b.2.1 q.2.2.1]? = some (.inr (t, vs)) ∧ H2[sR b.2.2.1 q.2.2.2]? = some (.inr (t, vs))) (fun _ _ _ _ _ z => z.1) (fun b hb e1 e2 e3 e4 e5 e6 e7 e8 e9 => by
    have bv : ∀ i, i < n → b.1 ((aI N).length + i) = (oSc ot (t + (1 + i))).toInt := fun i hi => by
      rw [e1]
      have hlt : (aI N).length + i < (aI (aArg n N)).length := by
        show _ < (aI N ++ List.replicate n _).length
        rw [List.length_append, List.length_replicate]
        omega
      unfold rO
      rw [List.getD_eq_getElem?_getD, List.getElem?_map, List.getElem?_range hlt]
      show lEv ρ2 (lSy ((aI N).length + i)) = _
      rw [lSy_ev]
      exact eV i hi
    have u0 : sR b.2.1 0 = sR σ 0 := by rw [e2]; exact sOx tA0 (by omega)
    have u1 : sR b.2.2.1 0 = sR σ 1 := by rw [e3]; exact sOx tB0 (by omega)
    have lA : (.inr (some 0) :: argVs (aI N).length n : List vA).map (cv b.1 b.2.1) = .inr (some (sR σ 0)) :: bVs ot t n 1 := by
      rw [List.map_cons, argVs_cv n _ 1 bv, ← u0]
      rfl
    have lB : (.inr (some 0) :: argVs (aI N).length n : List vA).map (cv b.1 b.2.2.1) = .inr (some (sR σ 1)) :: bVs ot t n 1 := by
      rw [List.map_cons, argVs_cv n _ 1 bv, ← u1]
      rfl
    have rows : ∀ q ∈ qs, ∃ t vs, b.2.2.2.2.2.1[sR b.2.1 q.2.2.1]? = some (.inr (t, vs)) ∧ b.2.2.2.2.2.2[sR b.2.2.1 q.2.2.2]? = some (.inr (t, vs)) := fun q hq => by
      obtain ⟨z1, z2, z3, z4, z5, z6⟩ := hlq q hq
      obtain ⟨tt, vs, p3, p4⟩ := hP (q.1, q.2.1) (List.mem_map.mpr ⟨q, hq, rfl⟩)
      have s1 : sR b.2.1 q.2.2.1 = sR σ q.1 := by rw [e2]; exact sOx z1 (by omega)
      have s2 : sR b.2.2.1 q.2.2.2 = sR σ q.2.1 := by rw [e3]; exact sOx z2 (by omega)
      have g1 : (aG EA)[q.2.2.1]? = some ((aG EA)[q.2.2.1]'(by omega)) := List.getElem?_eq_getElem (by omega)
      have g2 : (aG EB)[q.2.2.2]? = some ((aG EB)[q.2.2.2]'(by omega)) := List.getElem?_eq_getElem (by omega)
      have t1 := hb.1.2.1 _ _ g1
      have t2 := hb.2.1.2.1 _ _ g2
      refine ⟨tt, vs, ?_, ?_⟩
      · rw [e6 _ _ (e4 ▸ t1), s1]
        exact p3
      · rw [e7 _ _ (e5 ▸ t2), s2]
        exact p4
    have hTl : pTl KT mA mB WA WB tl b := by
      refine ⟨hb.1.1, hm1, hm2, fun p hp => ?_, fun p hp t2 ws hw => ?_⟩
      all_goals
        have k := List.all_eq_true.mp htl p hp
        simp only [Bool.and_eq_true, decide_eq_true_eq] at k
        obtain ⟨⟨⟨⟨k1, k2⟩, k3⟩, k4⟩, k5⟩ := k
        obtain ⟨q, hq, k1⟩ := List.any_eq_true.mp k1
        simp only [Bool.and_eq_true, decide_eq_true_eq] at k1
        obtain ⟨k6, k7⟩ := k1
        obtain ⟨z1, z2, z3, z4, z5, z6⟩ := hlq q hq
      · obtain ⟨c, c1, c2, c3⟩ := unW_spec k4
        obtain ⟨e, d1, d2, d3⟩ := unW_spec k5
        exact ⟨by omega, by omega, ⟨c, hb.1.2.1 _ _ c1, c2, c3⟩, e, hb.2.1.2.1 _ _ d1, d2, d3⟩
      · obtain ⟨tt, vs, r1, r2⟩ := rows q hq
        rw [k6] at r1
        rw [k7] at r2
        rw [r1] at hw
        cases hw
        refine ⟨_, _, r2, fun j u hu => ?_⟩
        rw [k2, k3, Nat.one_mul, Nat.add_zero]
        exact hu
    have zc : ∀ ρ : Nat → Int, ((0 : Nat) : Int) ≤ lEv ρ (lK 0) := fun ρ => by
      rw [lK_ev]
      exact Int.le_refl _
    obtain ⟨vA, H1, vB, H2, g1, g2, g3⟩ : ∃ vA H1 vB H2, x_To tb tyl ot d kA 0 (x_en 0 ((.inr (some 0) :: argVs (aI N).length n).map (cv b.1 b.2.1))) ((aS EA).map (cv b.1 b.2.1)) b.2.2.2.2.2.1 0 0 vA H1 ∧ x_To tb tyl ot d kB 0 (x_en 0 ((.inr (some 0) :: argVs (aI N).length n).map (cv b.1 b.2.2.1))) ((aS EB).map (cv b.1 b.2.2.1)) b.2.2.2.2.2.2 0 0 vB H2 ∧ pQ KT (aI (aArg n N)).length mA mB WA WB mcA mcB (XS.map (fun x => (x.1, x.2.1))) b vA H1 vB H2 := by
      refine vPe_st hov hCT hk hxA hxB hdA hdB (BA := b.2.2.2.2.2.1.length) (BB := b.2.2.2.2.2.2.length) (by rw [hmA, e8]; omega) (by rw [hmB]; omega) hTl (c := b) hb (cA := 0) (sA := 0) (cB := 0) (sB := 0) ⟨⟨Nat.le_refl _, by omega⟩, by rw [hLA]; exact vCov_en _ 0, by rw [hcA.2.1]; exact zc _, by rw [hcA.2.2]; exact zc _⟩ ⟨⟨Nat.le_refl _, by omega⟩, by rw [hLB]; exact vCov_en _ 0, by rw [hcB.1]; exact zc _, by rw [hcB.2]; exact zc _⟩ ?_
      intro o ho d2 LA2 LB2 cA2 sA2 cB2 sB2 y1 y2 y3 y4
      obtain ⟨x, hx, rfl⟩ := List.mem_map.mp ho
      have hs := List.all_eq_true.mp h1S x hx
      split at hs
      · rename_i u w hu hw
        exact pQ_end (List.mem_map.mpr ⟨x, hx, rfl⟩) y1 hu hw (by rw [← hmA]; exact y3) (by rw [← hmB]; exact y4)
      · cases hs
    rw [hSA] at g1
    rw [hSB] at g2
    refine ⟨vA, H1, vB, H2, by rw [← lA]; exact g1, by rw [← lB]; exact g2, g3, fun q hq => hW q hq b (fun i => oSc ot (t + (1 + i))) hb bv (by rw [e8]; omega) (by omega) hTl (rows q hq) vA H1 vB H2 g1 g2 g3⟩)
  have gN : ∀ i r, gRc KT N i = some r → ∃ c o, (aG N)[i]? = some c ∧ KT.1[c]? = some (.inl o) ∧ o.1 = r := fun i r hr => gRc_spec hr
  obtain ⟨c0, o0, n1, n2, n3⟩ := gN 0 rA hrA
  obtain ⟨c1, o1, m1, m2, m3⟩ := gN 1 rB hrB
  have tyA : ∀ i j c, τA[i]? = some j → (aG EA)[i]? = some c → tyP pA ty (sR σ j) = some c := fun i j c hτ hg => by
    obtain ⟨eA, -, -, -, -, -⟩ := vMc_spec hNE mA1
    have z := eA.2.1 i c hg
    have hi := (List.getElem?_eq_some_iff.mp hg).1
    rw [sOx hτ (by omega)] at z
    exact tyP_iff.mpr ⟨z, List.all_eq_true.mp gA c (List.mem_of_getElem? hg)⟩
  have tyB : ∀ i j c, τB[i]? = some j → (aG EB)[i]? = some c → tyP pB ty (sR σ j) = some c := fun i j c hτ hg => by
    obtain ⟨eB, -, -, -, -, -⟩ := vMc_spec hNE mB1
    have z := eB.2.1 i c hg
    have hi := (List.getElem?_eq_some_iff.mp hg).1
    rw [sOx hτ (by omega)] at z
    exact tyP_iff.mpr ⟨z, List.all_eq_true.mp gB c (List.mem_of_getElem? hg)⟩
  have lenB : τB.length = (aG EB).length := (vMc_spec hNE mB1).2.2.2.2.1
  have hw0 : ∃ c, tyP pB ty (sR σ 1) = some c := by
    have hlt : 0 < (aG EB).length := by
      rw [← lenB]
      exact (List.getElem?_eq_some_iff.mp tB0).1
    exact ⟨_, tyB 0 1 _ tB0 (List.getElem?_eq_getElem hlt)⟩
  obtain ⟨cw, hw0⟩ := hw0
  refine ⟨a, a, HA, HH, ρ3, σ2, ty2, ?_, q1, ?_, q2, fun _ => rfl, ?_, ?_, q5 0 (by omega), q5 1 (by omega), q6, fun p hp => ?_, q7⟩
  · rw [xRc h (by omega) (show (sG (aSt N))[0]? = some c0 from n1) n2 rfl, n3]
  · rw [xRc h (by omega) (show (sG (aSt N))[1]? = some c1 from m1) m2 ((q15 _ _ hw0).2), m3]
  · rw [q3]
    exact eρ 0 (by omega)
  · rw [q4, eρ 1 (by omega)]
  · obtain ⟨q, hq, rfl⟩ := List.mem_map.mp hp
    obtain ⟨z1, z2, z3, z4, z5, z6⟩ := hlq q hq
    obtain ⟨tt, vs, r1, r2⟩ := q8r q hq
    have s1 : sR b.2.1 q.2.2.1 = sR σ q.1 := by rw [q10]; exact sOx z1 (by omega)
    have s2 : sR b.2.2.1 q.2.2.2 = sR σ q.2.1 := by rw [q11]; exact sOx z2 (by omega)
    have w1 := tyA _ _ _ z1 (List.getElem?_eq_getElem (show q.2.2.1 < (aG EA).length by omega))
    have w2 := tyB _ _ _ z2 (List.getElem?_eq_getElem (show q.2.2.2 < (aG EB).length by omega))
    rw [s1] at r1
    rw [s2] at r2
    refine ⟨tt, vs, ?_, ?_⟩
    · rw [q5 _ z5, q16 _ _ w1]
      exact r1
    · rw [q5 _ z6, q17 _ _ w2]
      exact r2
/-- rows that neither call writes -/
theorem aRowW {KT : vKT} {n0 mA mB mcA mcB : Nat} {WA WB : List (Nat × Nat)} {XS : List (vAn × vAn)} {b : pC} {EA EB : vAn} (hb : pSt KT n0 mA mB WA WB b b EA EB) {i j : Nat} (hi : unW WA (aG EA) i = true) (hj : unW WB (aG EB) j = true) (hr : ∃ t vs, b.2.2.2.2.2.1[sR b.2.1 i]? = some (.inr (t, vs)) ∧ b.2.2.2.2.2.2[sR b.2.2.1 j]? = some (.inr (t, vs))) {vA vB : Option (XV Int32)} {H1 H2 : List (XC Int32)} (hq : pQ KT n0 mA mB WA WB mcA mcB XS b vA H1 vB H2) : ∃ t vs, H1[sR b.2.1 i]? = some (.inr (t, vs)) ∧ H2[sR b.2.2.1 j]? = some (.inr (t, vs)) := by
  obtain ⟨t, vs, r1, r2⟩ := hr
  obtain ⟨x, -, ρ2, σA2, σB2, tyA2, tyB2, ⟨-, -, -, -, -, -, -, z8, z9⟩, -, -, -, -⟩ := hq
  obtain ⟨c, c1, c2, c3⟩ := unW_spec hi
  obtain ⟨d, d1, d2, d3⟩ := unW_spec hj
  exact ⟨t, vs, vFrm_row z8 (hb.1.2.1 _ _ c1) c2 c3 r1, vFrm_row z9 (hb.2.1.2.1 _ _ d1) d2 d3 r2⟩
/-- rows that both calls write alike: element by element, by cases of its place -/
theorem aRowV {KT : vKT} {tb : XT} {tyl : List FieldType} {ot : XO Int32} {ov : vOt} (hov : vOvLe ov (o4 ot)) {CT : Nat → List vCt} {hs : Nat → Nat → Option (List vHn)} {kn : Nat → Nat → Option Nat} (hCT : ∀ j c, c ∈ CT j → vCtSem KT tb tyl ot j c) {WA WB : List (Nat × Nat)} {EA EB : vAn} {n0 mA mB kA kB mcA mcB f dA dB d : Nat} {xA xB : XM} (hxA : tMth tb kA = some xA) (hxB : tMth tb kB = some xB) (hmA : mMc xA = mcA) (hmB : mMc xB = mcB) (hdA : dA ≤ d) (hdB : dB ≤ d) {XS : List (vAn × vAn)} {b : pC} (hb : pSt KT n0 mA mB WA WB b b EA EB) (hlA : b.2.2.2.2.2.1.length + mcA ≤ 1000000) (hlB : b.2.2.2.2.2.2.length + mcB ≤ 1000000) {tl : vTl} (hTl : pTl KT mA mB WA WB tl b)
    {i j m cA cB : Nat} {r rr : Int × Int} (gA : (aG EA)[i]? = some cA) (gB : (aG EB)[j]? = some cB) (kcA : KT.1[cA]? = some (.inr (0, m, [.inl r]))) (kcB : KT.1[cB]? = some (.inr (0, m, [.inl rr]))) (hi : i < mA) (hj : j < mB) (hm1 : mA < 1000000) (hm2 : mB < 1000000)
    {Lv : List vA} (hLA : aL EA = x_en 0 Lv) (hLB : aL EB = x_en 0 Lv) (hbL : Lv.all (vBd n0 1) = true) (hn : (aI EA).length = n0) (hnB : (aI EB).length = n0) (bA : sBd (aSt EA) = true) (bB : sBd (aSt EB) = true)
    {nv : Nat} {lim : Int} {key : Nat → lT} {VA VB YA YB : Nat → vAn} (hVA : ∀ v, v < nv → aSt (VA v) = ((aI EA ++ [((-2147483648 : Int), (2147483647 : Int)), ((0 : Int), lim)]).length, aG EA, [(i, .inr (key v), .inl (lSy n0))] ++ aF EA, zipI 0 (aI EA ++ [((-2147483648 : Int), (2147483647 : Int)), ((0 : Int), lim)]), [] ++ aC EA, aM EA, []) ∧ aL (VA v) = x_en 0 Lv ∧ aS (VA v) = [] ∧ aCn (VA v) = lK 0 ∧ aSn (VA v) = lK 0)
    (hVB : ∀ v, v < nv → aSt (VB v) = ((aI EB ++ [((-2147483648 : Int), (2147483647 : Int)), ((0 : Int), lim)]).length, aG EB, [(j, .inr (key v), .inl (lSy n0))] ++ aF EB, zipI 0 (aI EB ++ [((-2147483648 : Int), (2147483647 : Int)), ((0 : Int), lim)]), [] ++ aC EB, aM EB, []) ∧ aL (VB v) = x_en 0 Lv ∧ aS (VB v) = [] ∧ aCn (VB v) = lK 0 ∧ aSn (VB v) = lK 0)
    (hY : ∀ v, v < nv → (∃ r1, aF (YA v) = (i, .inr (key v), .inl (lSy (n0 + 2))) :: r1) ∧ (∃ r2, aF (YB v) = (j, .inr (key v), .inl (lSy (n0 + 2))) :: r2) ∧ (∃ u, aS (YA v) = [u]) ∧ ∃ u, aS (YB v) = [u])
    (hE : ∀ v, v < nv → vPe KT tb tyl ov CT hs kn WA WB (n0 + 2) mA mB tl f 0 dA kA 0 0 dB kB 0 (VA v) (VB v) [(none, none, YA v, YB v, false)] = true)
    (hpick : ∀ ρ : Nat → Int, iHd ρ (zipI 0 (aI EA)) → ∀ J, J < m → ∃ v, v < nv ∧ ∃ δ : Int, (0 ≤ δ ∧ δ ≤ lim) ∧ ∀ ρ2 : Nat → Int, (∀ k, k < n0 → ρ2 k = ρ k) → ρ2 (n0 + 1) = δ → lEv ρ2 (key v) = (J : Int))
    (hr : ∃ t vs, b.2.2.2.2.2.1[sR b.2.1 i]? = some (.inr (t, vs)) ∧ b.2.2.2.2.2.2[sR b.2.2.1 j]? = some (.inr (t, vs))) {vA : Option (XV Int32)} {H1 : List (XC Int32)} {vB : Option (XV Int32)} {H2 : List (XC Int32)} (g1 : x_To tb tyl ot d kA 0 (x_en 0 (Lv.map (cv b.1 b.2.1))) [] b.2.2.2.2.2.1 0 0 vA H1) (g2 : x_To tb tyl ot d kB 0 (x_en 0 (Lv.map (cv b.1 b.2.2.1))) [] b.2.2.2.2.2.2 0 0 vB H2) (hq : pQ KT n0 mA mB WA WB mcA mcB XS b vA H1 vB H2) :
    ∃ t vs, H1[sR b.2.1 i]? = some (.inr (t, vs)) ∧ H2[sR b.2.2.1 j]? = some (.inr (t, vs)) := by
  obtain ⟨tt, vs, r1, r2⟩ := hr
  have tA := hb.1.2.1 i cA gA
  have tB := hb.2.1.2.1 j cB gB
  obtain ⟨x, -, ρ4, σA3, σB3, tyA3, tyB3, ⟨z1, z2, -, -, -, z6, z7, -, -⟩, -, -, -, -⟩ := hq
  obtain ⟨wa, f1, f2, -⟩ := vHp_arr z1.1 (z6 _ _ tA) (show (fun c => KT.1[c]?) cA = some (.inr (0, m, [.inl r])) from kcA)
  obtain ⟨wb, f3, f4, -⟩ := vHp_arr z2.1 (z7 _ _ tB) (show (fun c => KT.1[c]?) cB = some (.inr (0, m, [.inl rr])) from kcB)
  obtain ⟨va, e1, e2, e3⟩ := vHp_arr hb.1.1 tA (show (fun c => KT.1[c]?) cA = some (.inr (0, m, [.inl r])) from kcA)
  rw [r1] at e1
  cases e1
  have f1 : H1[sR b.2.1 i]? = some (.inr (0, wa)) := f1
  have f3 : H2[sR b.2.2.1 j]? = some (.inr (0, wb)) := f3
  have zc : ∀ ρ : Nat → Int, ((0 : Nat) : Int) ≤ lEv ρ (lK 0) := fun ρ => by
    rw [lK_ev]
    exact Int.le_refl _
  have hw : wb = wa := List.ext_getElem? fun J => by
    by_cases hJ : J < m
    rotate_left
    · rw [List.getElem?_eq_none (by omega), List.getElem?_eq_none (by omega)]
    obtain ⟨u, v1, v2⟩ := e3 J (.inl r) hJ (by
      show ([.inl r] : List vF)[J % 1]? = _
      rw [Nat.mod_one]
      rfl)
    rcases u with y | u
    rotate_left
    · exact v2.elim
    obtain ⟨v, hv, δ, hδ, hk⟩ := hpick b.1 hb.1.2.2.2.1 J hJ
    let ρ2 : Nat → Int := fun k => if k = n0 then y.toInt else if k = n0 + 1 then δ else b.1 k
    have eρ : ∀ k, k < n0 → ρ2 k = b.1 k := fun k hk => by
      show (if k = n0 then y.toInt else if k = n0 + 1 then δ else b.1 k) = b.1 k
      rw [if_neg (by omega), if_neg (by omega)]
    have e7 : ρ2 n0 = y.toInt := if_pos rfl
    have e8 : ρ2 (n0 + 1) = δ := by
      show (if n0 + 1 = n0 then y.toInt else if n0 + 1 = n0 + 1 then δ else b.1 (n0 + 1)) = δ
      rw [if_neg (by omega), if_pos rfl]
    have hkey := hk ρ2 eρ e8
    obtain ⟨a1, a2, a3, a4, a5⟩ := hVA v hv
    obtain ⟨b1, b2, b3, b4, b5⟩ := hVB v hv
    have hI : ∀ (k : Nat) (p : Int × Int), [((-2147483648 : Int), (2147483647 : Int)), ((0 : Int), lim)][k]? = some p → p.1 ≤ ρ2 (n0 + k) ∧ ρ2 (n0 + k) ≤ p.2 := fun k p hp => by
      rcases k with _ | _ | k
      · cases hp
        rw [Nat.add_zero, e7]
        exact vTop_spec y
      · cases hp
        rw [show n0 + (0 + 1) = n0 + 1 from rfl, e8]
        exact hδ
      · cases hp
    have mk : ∀ (σ : Nat → Nat) (G : List (XC Int32)) (a : Nat), G[sR σ a]? = some (.inr (0, vs)) → ∀ f ∈ ([(a, .inr (key v), .inl (lSy n0))] : List vK), vHolds ρ2 σ G f := fun σ G a ha f hf => by
      rcases List.mem_singleton.mp hf with rfl
      refine Or.inl ⟨0, vs, ha, ?_, ?_⟩
      · show 0 ≤ lEv ρ2 (key v)
        rw [hkey]
        exact Int.natCast_nonneg _
      · show vs[(lEv ρ2 (key v)).toNat]? = some (.inl (Int32.ofInt (lEv ρ2 (lSy n0))))
        rw [hkey, lSy_ev, e7, Int32.ofInt_toInt, Int.toNat_natCast]
        exact v1
    have vA' := vRel_more hb.1 bA (V := VA v) a1 (fun k hk => eρ k (by omega)) (by rw [hn]; exact hI) (mk _ _ i r1) (fun c hc => absurd hc List.not_mem_nil)
    have vB' := vRel_more hb.2.1 bB (V := VB v) b1 (fun k hk => eρ k (by omega)) (by rw [hnB]; exact hI) (mk _ _ j r2) (fun c hc => absurd hc List.not_mem_nil)
    have cvA : ∀ σ : Nat → Nat, Lv.map (cv ρ2 σ) = Lv.map (cv b.1 σ) := fun σ => vBd_list (n := n0) (m := 1) eρ (fun _ _ => rfl) hbL
    obtain ⟨v1', J1, v2', J2, k1, k2, k3⟩ : ∃ v1 J1 v2 J2, x_To tb tyl ot d kA 0 (x_en 0 (Lv.map (cv ρ2 b.2.1))) ((aS (VA v)).map (cv ρ2 b.2.1)) b.2.2.2.2.2.1 0 0 v1 J1 ∧ x_To tb tyl ot d kB 0 (x_en 0 (Lv.map (cv ρ2 b.2.2.1))) ((aS (VB v)).map (cv ρ2 b.2.2.1)) b.2.2.2.2.2.2 0 0 v2 J2 ∧ ∃ t1 w1 t2 w2 u, J1[sR b.2.1 i]? = some (.inr (t1, w1)) ∧ J2[sR b.2.2.1 j]? = some (.inr (t2, w2)) ∧ w1[J]? = some u ∧ w2[J]? = some u := by
      refine vPe_st (tl := tl) (b := (ρ2, b.2)) (c := (ρ2, b.2)) (R := fun _ J1 _ J2 => ∃ t1 w1 t2 w2 u, J1[sR b.2.1 i]? = some (.inr (t1, w1)) ∧ J2[sR b.2.2.1 j]? = some (.inr (t2, w2)) ∧ w1[J]? = some u ∧ w2[J]? = some u) hov hCT (hE v hv) hxA hxB hdA hdB (BA := b.2.2.2.2.2.1.length) (BB := b.2.2.2.2.2.2.length) (by rw [hmA]; exact hlA) (by rw [hmB]; exact hlB) hTl ⟨vA', vB', fun _ _ => rfl, fun _ _ => rfl, fun _ _ => rfl, vLe_rf _, vLe_rf _, vFrm_rf _ _ _, vFrm_rf _ _ _⟩ (cA := 0) (sA := 0) (cB := 0) (sB := 0) ⟨⟨Nat.le_refl _, show b.2.2.2.2.2.1.length ≤ 1000000 by omega⟩, by rw [a2]; exact vCov_en _ 0, by rw [a4]; exact zc _, by rw [a5]; exact zc _⟩ ⟨⟨Nat.le_refl _, show b.2.2.2.2.2.2.length ≤ 1000000 by omega⟩, by rw [b2]; exact vCov_en _ 0, by rw [b4]; exact zc _, by rw [b5]; exact zc _⟩ ?_
      intro o ho d2 LA2 LB2 cA2 sA2 cB2 sB2 h1 h2 h3 h4
      rcases List.mem_singleton.mp ho with rfl
      obtain ⟨⟨q1, y1⟩, ⟨q2, y2⟩, ⟨u1, y3⟩, ⟨u2, y4⟩⟩ := hY v hv
      have dk := hk d2.1 (fun k hk => (h1.2.2.1 k (by omega)).trans (eρ k hk)) ((h1.2.2.1 (n0 + 1) (by omega)).trans e8)
      have m1 : (i, .inr (key v), .inl (lSy (n0 + 2))) ∈ sF (aSt (YA v)) := by
        show _ ∈ aF (YA v)
        rw [y1]
        exact List.mem_cons_self
      have m2 : (j, .inr (key v), .inl (lSy (n0 + 2))) ∈ sF (aSt (YB v)) := by
        show _ ∈ aF (YB v)
        rw [y2]
        exact List.mem_cons_self
      obtain ⟨ta, xa, l1, -, l2⟩ := vHolds_int (h1.1.2.2.1 _ m1)
      obtain ⟨tb2, xb, n1, -, n2⟩ := vHolds_int (h1.2.1.2.2.1 _ m2)
      have l2 : xa[(lEv d2.1 (key v)).toNat]? = some (cv d2.1 d2.2.1 (.inl (lSy (n0 + 2)))) := l2
      have n2 : xb[(lEv d2.1 (key v)).toNat]? = some (cv d2.1 d2.2.2.1 (.inl (lSy (n0 + 2)))) := n2
      rw [dk, Int.toNat_natCast] at l2 n2
      have sA : sR d2.2.1 i = sR b.2.1 i := by
        unfold sR
        rw [if_pos (by omega), if_pos (by omega)]
        exact h1.2.2.2.1 i hi
      have sB : sR d2.2.2.1 j = sR b.2.2.1 j := by
        unfold sR
        rw [if_pos (by omega), if_pos (by omega)]
        exact h1.2.2.2.2.1 j hj
      have l1 : d2.2.2.2.2.2.1[sR d2.2.1 i]? = some (.inr (ta, xa)) := l1
      have n1 : d2.2.2.2.2.2.2[sR d2.2.2.1 j]? = some (.inr (tb2, xb)) := n1
      rw [sA] at l1
      rw [sB] at n1
      exact ⟨some (cv d2.1 d2.2.1 u1), _, some (cv d2.1 d2.2.2.1 u2), _, ⟨by rw [y3]; rfl, rfl⟩, ⟨by rw [y4]; rfl, rfl⟩, ta, xa, tb2, xb, _, l1, n1, l2, n2⟩
    rw [a3, cvA] at k1
    rw [b3, cvA] at k2
    obtain ⟨-, o1⟩ := x_To_one g1 k1
    obtain ⟨-, o2⟩ := x_To_one g2 k2
    obtain ⟨t1, w1, t2, w2, u, s1, s2, s3, s4⟩ := k3
    rw [o1, f1] at s1
    rw [o2, f3] at s2
    cases s1
    cases s2
    rw [s3, s4]
  exact ⟨0, wa, f1, by rw [f3, hw]⟩
end XArr
