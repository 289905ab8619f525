/-! Families gone through again together: one run for many. -/
noncomputable section XGrp
/-- a way over what is known -/
def gPth (F : List vK) : List (Nat ⊕ lT) → Nat → Option Nat
  | [], c => some c
  | k :: r, c => match fGet c k F with
    | some (.inr (some d)) => gPth F r d
    | _ => none
/-- a place: of the second or not, the cell it begins at, the way, the last key -/
abbrev gPl : Type := Bool × Nat × List (Nat ⊕ lT) × (Nat ⊕ lT)
def gAt1 (F : List vK) (p : gPl) : Option lT := match gPth F p.2.2.1 p.2.1 with
  | none => none
  | some d => match fGet d p.2.2.2 F with
    | some (.inl l) => some l
    | _ => none
def gFst (F G : List vK) : List gPl → Option lT
  | [] => none
  | p :: r => match (match p.1 with
    | true => gAt1 G p
    | false => gAt1 F p) with
    | some l => some l
    | none => gFst F G r
abbrev gVr : Type := Nat ⊕ List gPl
def gVal (F G : List vK) (sk : List lT) : gVr → Option lT
  | .inl j => sk[j]?
  | .inr ps => gFst F G ps
def gVals (F G : List vK) (sk : List lT) : List gVr → Option (List lT)
  | [] => some []
  | v :: r => match gVal F G sk v with
    | none => none
    | some l => match gVals F G sk r with
      | none => none
      | some t => some (l :: t)
/-- what is known of ints before a run, one of some: sums at places, sums over them, ops by which it is seen -/
abbrev gDj : Type := List gVr × List (List lT) × List uOp
def gAlt (F G : List vK) (sk : List lT) (d : gDj) : List (List lT) := match gVals F G sk d.1 with
  | none => [[]]
  | some T => d.2.1.map (fun cs => cs.map (lSb T))
def gDk (GA0 GB0 : List Nat) (US : List wN) (alts : List (List lT)) (ops : List uOp) (sk : List lT) (b : Bool) (s : vSt) (g : wGs) : Bool := match alts with
  | [[]] => true
  | _ => alts.all (fun cs => cs.all (lBd (sN s))) && wGo GA0 GB0 US (fun _ s2 _ => alts.any (fun cs => cs.all (fun c => lGe (sI s2) (sC s2) c))) ops sk b s g
theorem gDk_spec {KT : vKT} {tyA tyB : Nat → Option Nat} {HA HB : List (XC Int32)} {GA0 GB0 : List Nat} {US : List wN} (hok : ∀ u ∈ US, wOk KT GA0 GB0 u = true) {alts : List (List lT)} {ops : List uOp} {sk : List lT} {b : Bool} {ρ : Nat → Int} {σA σB : Nat → Nat} {s : vSt} {g : wGs} (hA : vRel KT ρ σA tyA HA s) (hB : vRel KT ρ σB tyB HB (wB s g)) (hGA : ∀ (i c : Nat), GA0[i]? = some c → (sG s)[i]? = some c) (hGB : ∀ (i c : Nat), GB0[i]? = some c → g.1[i]? = some c) (hU : ∀ u ∈ US, wHd GA0.length GB0.length u σA σB HA HB) (hk : gDk GA0 GB0 US alts ops sk b s g = true) : ∃ cs ∈ alts, ∀ c ∈ cs, lBd (sN s) c = true ∧ 0 ≤ lEv ρ c := by
  unfold gDk at hk
  split at hk
  · exact ⟨[], List.mem_cons_self, fun c hc => by cases hc⟩
  · obtain ⟨k1, k2⟩ := Bool.and_eq_true_iff.mp hk
    obtain ⟨ρ2, σA2, σB2, s2, g2, sk2, a1, a2, a3, a4, a5, a6, a7, a8⟩ := wGo_spec hok ops sk b hA hB hGA hGB hU k2
    obtain ⟨cs, h1, h2⟩ := List.any_eq_true.mp a8
    refine ⟨cs, h1, fun c hc => ?_⟩
    have q := lGe_spec a4.2.2.2.1 a4.2.2.2.2.1 (List.all_eq_true.mp h2 c hc)
    have k3 := List.all_eq_true.mp (List.all_eq_true.mp k1 cs h1) c hc
    rw [lBd_spec (n := sN s) a1.1 k3] at q
    exact ⟨k3, q⟩
theorem gCo_spec {KT : vKT} {ρ : Nat → Int} {σ : Nat → Nat} {ty : Nat → Option Nat} {H : List (XC Int32)} : ∀ {l : List lT} {s : vSt}, vRel KT ρ σ ty H s → (∀ e ∈ l, 0 ≤ lEv ρ e) → ∃ s2, uCo l s = some s2 ∧ vRel KT ρ σ ty H s2 ∧ vExt s s2 ρ ρ σ σ ∧ sG s2 = sG s
  | [], s, h, _ => ⟨s, rfl, h, vExt_rf s ρ σ, rfl⟩
  | e :: r, s, h, he => by
    obtain ⟨s2, v1, v2, v3, v4, -⟩ := vCo_spec h (he e List.mem_cons_self)
    obtain ⟨s3, w1, w2, w3, w4⟩ := gCo_spec v2 (fun x hx => he x (List.mem_cons_of_mem _ hx))
    refine ⟨s3, ?_, w2, vExt_tr v3 w3, w4.trans v4⟩
    unfold uCo
    rw [v1]
    exact w1
/-- one of each -/
def gEx (kk : vSt → Bool) : List (List (List lT)) → vSt → Bool
  | [], J => kk J
  | A :: r, J => A.all (fun cs => match uCo cs J with
    | none => true
    | some J2 => gEx kk r J2)
theorem gEx_spec {KT : vKT} {ρ : Nat → Int} {σ : Nat → Nat} {ty : Nat → Option Nat} {H : List (XC Int32)} {kk : vSt → Bool} : ∀ {l : List (List (List lT))} {J : vSt}, vRel KT ρ σ ty H J → (∀ A ∈ l, ∃ cs ∈ A, ∀ c ∈ cs, 0 ≤ lEv ρ c) → gEx kk l J = true → ∃ J2, vRel KT ρ σ ty H J2 ∧ sG J2 = sG J ∧ kk J2 = true
  | [], J, h, _, hk => ⟨J, h, rfl, hk⟩
  | A :: r, J, h, hl, hk => by
    obtain ⟨cs, h1, h2⟩ := hl A List.mem_cons_self
    unfold gEx at hk
    have k := List.all_eq_true.mp hk cs h1
    obtain ⟨J2, v1, v2, -, v4⟩ := gCo_spec h h2
    rw [v1] at k
    obtain ⟨J3, w1, w2, w3⟩ := gEx_spec v2 (fun B hB => hl B (List.mem_cons_of_mem _ hB)) k
    exact ⟨J3, w1, w2.trans v4, w3⟩
/-- a way is gone before a run: what is unknown there is read -/
def gRd (KT : vKT) (kk : vSt → Bool) : List (Nat ⊕ lT) → Nat → vSt → Bool
  | [], _, s => kk s
  | k :: r, c, s => match fGet c k (sF s) with
    | some (.inr (some d)) => gRd KT kk r d s
    | some _ => kk s
    | none => match k with
      | .inl j => match (sG s)[c]? with
        | none => kk s
        | some z => match KT.1[z]? with
          | some (.inl o) => (match o.2[j]? with
            | some (.inr (true, _)) => kk s
            | some fz => vRd fz c (.inl j) false s (fun s2 v => match v with
              | .inr (some d) => gRd KT kk r d s2
              | _ => kk s2)
            | none => kk s)
          | _ => kk s
      | .inr e => match (sG s)[c]? with
        | none => kk s
        | some z => match KT.1[z]? with
          | some (.inr o) => if vIdx e o.2.1 s = true then (match vRes o.2.2 e with
            | some (.inr (true, _)) => kk s
            | some fz => vRd fz c (.inr e) false s (fun s2 v => match v with
              | .inr (some d) => gRd KT kk r d s2
              | _ => kk s2)
            | none => kk s) else kk s
          | _ => kk s
theorem gRd_spec {KT : vKT} {ty : Nat → Option Nat} {H : List (XC Int32)} {kk : vSt → Bool} : ∀ {p : List (Nat ⊕ lT)} {c : Nat} {ρ : Nat → Int} {σ : Nat → Nat} {s : vSt}, vRel KT ρ σ ty H s → gRd KT kk p c s = true → ∃ ρ2 σ2 s2, vExt s s2 ρ ρ2 σ σ2 ∧ vRel KT ρ2 σ2 ty H s2 ∧ kk s2 = true
  | [], c, ρ, σ, s, h, hk => ⟨ρ, σ, s, vExt_rf s ρ σ, h, hk⟩
  | k :: r, c, ρ, σ, s, h, hk => by
    unfold gRd at hk
    split at hk
    · exact gRd_spec h hk
    · exact ⟨ρ, σ, s, vExt_rf s ρ σ, h, hk⟩
    split at hk
    · rename_i j _
      split at hk
      · exact ⟨ρ, σ, s, vExt_rf s ρ σ, h, hk⟩
      rename_i z hG
      split at hk
      rotate_left
      · exact ⟨ρ, σ, s, vExt_rf s ρ σ, h, hk⟩
      rename_i o hK
      split at hk
      · exact ⟨ρ, σ, s, vExt_rf s ρ σ, h, hk⟩
      rotate_left
      · exact ⟨ρ, σ, s, vExt_rf s ρ σ, h, hk⟩
      rename_i fz _ hz
      have ha := h.2.1 c z hG
      obtain ⟨ci, fl⟩ := o
      obtain ⟨fs, f1, f2, f3⟩ := vHp_obj h.1 ha hK
      obtain ⟨u, u1, u2⟩ := f3 j fz hz
      obtain ⟨ρ2, σ2, s2, v0, g0, g1, g2, g3⟩ := vRd_spec h (i := c) (key := .inl j) (u := u) ⟨ci, fs, f1, u1⟩ u2 (fun z => by cases z) hk
      split at g3
      · obtain ⟨ρ3, σ3, s3, w1, w2, w3⟩ := gRd_spec g1 g3
        exact ⟨ρ3, σ3, s3, vExt_tr g0 w1, w2, w3⟩
      · exact ⟨ρ2, σ2, s2, g0, g1, g3⟩
    rename_i e _
    split at hk
    · exact ⟨ρ, σ, s, vExt_rf s ρ σ, h, hk⟩
    rename_i z hG
    split at hk
    rotate_left
    · exact ⟨ρ, σ, s, vExt_rf s ρ σ, h, hk⟩
    rename_i o hK
    split at hk
    rotate_left
    · exact ⟨ρ, σ, s, vExt_rf s ρ σ, h, hk⟩
    rename_i hi
    split at hk
    · exact ⟨ρ, σ, s, vExt_rf s ρ σ, h, hk⟩
    rotate_left
    · exact ⟨ρ, σ, s, vExt_rf s ρ σ, h, hk⟩
    rename_i fz _ hz
    have ha := h.2.1 c z hG
    obtain ⟨t, m, fl⟩ := o
    obtain ⟨vs, f1, f2, f3⟩ := vHp_arr h.1 ha hK
    obtain ⟨x1, x2, x3, x4⟩ := vIdx_spec h hi
    obtain ⟨u, u1, u2⟩ := f3 _ fz x2 (vRes_spec x3 hz)
    obtain ⟨ρ2, σ2, s2, v0, g0, g1, g2, g3⟩ := vRd_spec h (i := c) (key := .inr e) (u := u) ⟨_, vs, f1, x3, u1⟩ u2 (fun z => by cases z) hk
    split at g3
    · obtain ⟨ρ3, σ3, s3, w1, w2, w3⟩ := gRd_spec g1 g3
      exact ⟨ρ3, σ3, s3, vExt_tr g0 w1, w2, w3⟩
    · exact ⟨ρ2, σ2, s2, g0, g1, g3⟩
def gRds (KT : vKT) (kk : vSt → wGs → Bool) : List (Bool × Nat × List (Nat ⊕ lT)) → vSt → wGs → Bool
  | [], s, g => kk s g
  | p :: r, s, g => match p.1 with
    | false => sBd (wB s g) && gRd KT (fun s2 => gRds KT kk r s2 g) p.2.2 p.2.1 s
    | true => sBd s && gRd KT (fun t => gRds KT kk r (sJn s t) (sG t, sF t)) p.2.2 p.2.1 (wB s g)
theorem gRds_spec {KT : vKT} {tyA tyB : Nat → Option Nat} {HA HB : List (XC Int32)} {kk : vSt → wGs → Bool} : ∀ {l : List (Bool × Nat × List (Nat ⊕ lT))} {ρ : Nat → Int} {σA σB : Nat → Nat} {s : vSt} {g : wGs}, vRel KT ρ σA tyA HA s → vRel KT ρ σB tyB HB (wB s g) → gRds KT kk l s g = true →
    ∃ ρ2 σA2 σB2 s2 g2, vExt s s2 ρ ρ2 σA σA2 ∧ (∀ i, i < g.1.length → σB2 i = σB i) ∧ g.1.length ≤ g2.1.length ∧ vRel KT ρ2 σA2 tyA HA s2 ∧ vRel KT ρ2 σB2 tyB HB (wB s2 g2) ∧ kk s2 g2 = true
  | [], ρ, σA, σB, s, g, hA, hB, hk => ⟨ρ, σA, σB, s, g, vExt_rf s ρ σA, fun _ _ => rfl, Nat.le_refl _, hA, hB, hk⟩
  | p :: r, ρ, σA, σB, s, g, hA, hB, hk => by
    have nrB : ∀ a c, tyB a = some c → kRaw KT c = none := vRel_noraw hB rfl
    unfold gRds at hk
    split at hk
    · obtain ⟨k1, k2⟩ := Bool.and_eq_true_iff.mp hk
      obtain ⟨ρ2, σ2, s2, a1, a2, a3⟩ := gRd_spec hA k2
      obtain ⟨ρ3, σA3, σB3, s3, g3, b1, b2, b3, b4, b5, b6⟩ := gRds_spec a2 (wB_of a2 (vRel_ext hB k1 (fun i hi => a1.1 i hi) (fun _ _ => rfl)) rfl rfl nrB) a3
      exact ⟨ρ3, σA3, σB3, s3, g3, vExt_tr a1 b1, b2, b3, b4, b5, b6⟩
    · obtain ⟨k1, k2⟩ := Bool.and_eq_true_iff.mp hk
      obtain ⟨ρ2, σ2, t, a1, a2, a3⟩ := gRd_spec hB k2
      have e1 : ∀ i, i < sN s → ρ2 i = ρ i := fun i hi => a1.1 i hi
      have e2 : sN s ≤ sN t := a1.2.2.1
      have hA2 : vRel KT ρ2 σA tyA HA (sJn s t) := by
        obtain ⟨c1, c2, c3, c4, c5, c6, c7, c8⟩ := vRel_ext hA k1 e1 (fun _ _ => rfl)
        exact ⟨c1, c2, c3, a2.2.2.2.1, a2.2.2.2.2.1, a2.2.2.2.2.2.1, c7, c8⟩
      obtain ⟨ρ3, σA3, σB3, s3, g3, b1, b2, b3, b4, b5, b6⟩ := gRds_spec hA2 (wB_of hA2 a2 rfl rfl nrB) a3
      have l1 : g.1.length ≤ (sG t).length := a1.2.2.2
      have l2 : (sG t).length ≤ g3.1.length := b3
      refine ⟨ρ3, σA3, σB3, s3, g3, ⟨fun i hi => (b1.1 i (Nat.lt_of_lt_of_le hi e2)).trans (e1 i hi), b1.2.1, Nat.le_trans e2 b1.2.2.1, b1.2.2.2⟩, fun i hi => (b2 i (Nat.lt_of_lt_of_le hi l1)).trans (a1.2.1 i hi), Nat.le_trans l1 l2, b4, b5, b6⟩
/-- an item: the family, what is known of ints before the run, ops behind it -/
abbrev gIt : Type := Nat × List gDj × List uOp
noncomputable def gEnd (GA0 GB0 : List Nat) (FS : List wN) (sk : List lT) (b : Bool) (i : Nat) (alts : List (List (List lT))) (ops : List uOp) (J : vSt) (g : wGs) : Bool := match FS[i]? with
  | none => false
  | some u => gEx (fun J2 => wGo GA0 GB0 [] (fun sk3 J3 g3 => wPo GA0.length GB0.length u (sk3.take (wBd u).length) J3 g3) ops sk b J2 g) alts J
theorem gEnd_spec {KT : vKT} {ρ : Nat → Int} {σA σB : Nat → Nat} {tyA tyB : Nat → Option Nat} {HA HB : List (XC Int32)} {GA0 GB0 : List Nat} {FS : List wN} {sk : List lT} {b : Bool} {i : Nat} {alts : List (List (List lT))} {ops : List uOp} {J : vSt} {g : wGs} (hA : vRel KT ρ σA tyA HA J) (hB : vRel KT ρ σB tyB HB (wB J g)) (hGA : ∀ (i c : Nat), GA0[i]? = some c → (sG J)[i]? = some c) (hGB : ∀ (i c : Nat), GB0[i]? = some c → g.1[i]? = some c) (hl : ∀ A ∈ alts, ∃ cs ∈ A, ∀ c ∈ cs, 0 ≤ lEv ρ c) (hk : gEnd GA0 GB0 FS sk b i alts ops J g = true) {u : wN} (hu : FS[i]? = some u) (hlA : GA0.length ≤ (sG J).length) (hlB : GB0.length ≤ g.1.length) (hpi : ∀ p ∈ wPi u, p.1 < GA0.length) {ρ1 : Nat → Int} (h1 : wPn (wPi u) ρ1 σA HA) (h2 : ∀ j, j < (wBd u).length → rO ρ sk j = ρ1 ((wPi u).length + j)) (h3 : ∀ c ∈ wPr u, 0 ≤ lEv ρ1 c) : wCon GA0.length GB0.length u ρ1 σA σB HA HB := by
  have nrB : ∀ a c, tyB a = some c → kRaw KT c = none := vRel_noraw hB rfl
  unfold gEnd at hk
  rw [hu] at hk
  obtain ⟨J2, v1, v2, v3⟩ := gEx_spec hA hl hk
  obtain ⟨ρ2, σA2, σB2, s2, g2, sk2, a1, a2, a3, a4, a5, a6, a7, a8⟩ := wGo_spec (KT := KT) (GA0 := GA0) (GB0 := GB0) (US := []) (fun u hu => by cases hu) ops sk b v1 (wB_of v1 hB rfl rfl nrB : vRel KT ρ σB tyB HB (wB J2 g)) (by rw [v2]; exact hGA) hGB (fun u hu => by cases hu) v3
  have sA : ∀ i, i < GA0.length → sR σA2 i = sR σA i := fun i hi => by
    unfold sR
    rw [a1.2.1 i (by rw [v2]; omega)]
  have sB : ∀ i, i < GB0.length → sR σB2 i = sR σB i := fun i hi => by
    unfold sR
    rw [a2 i (by omega)]
  refine wCon_ext (wPo_spec a4 a5 a8 (wPn_ext h1 (fun p hp => sA _ (hpi p hp))) (fun j hj => ?_) h3) (fun i hi => (sA i hi).symm) (fun i hi => (sB i hi).symm)
  rw [← h2 j hj]
  unfold rO
  rw [List.getD_eq_getElem?_getD, List.getElem?_take, if_pos hj, ← List.getD_eq_getElem?_getD]
  exact a7 j
def gRn (sk told : List lT) : Bool := !((sk.zip told).all (fun p => lEq p.1 p.2))
noncomputable def gLeaf (KT : vKT) (tb : XT) (tyl : List FieldType) (ov : vOt) (CT : Nat → List vCt) (hs : Nat → Nat → Option (List vHn)) (kn : Nat → Nat → Option Nat) (FS : List wN) (GA0 GB0 : List Nat) (WA WB : List (Nat × Nat)) (f goA dpA kA pcA goB dpB kB pcB : Nat) (outs : List (Bool × wE)) (e : wE) (rds : List (Bool × Nat × List (Nat ⊕ lT))) (items : List gIt) (b : Bool) (sk : List lT) (s : vSt) (g : wGs) : Bool :=
  sk.all (lBd (sN s)) && gRds KT (fun s g => decide ((sG s).take GA0.length = GA0) && decide (g.1.take GB0.length = GB0) && sBd s && sBd (wB s g) && items.all (fun it => it.2.1.all (fun d => gDk GA0 GB0 (wSel FS (wUs e)) (gAlt (sF s) g.2 sk d) d.2.2 sk b s g)) && wPx KT tb tyl ov CT hs kn WA WB f goA dpA kA pcA goB dpB kB pcB (aL (wNA e)) (aS (wNA e)) (aCn (wNA e)) (aSn (wNA e)) (aL (wNB e)) (aS (wNB e)) (aCn (wNB e)) (aSn (wNB e)) (wCA outs) (wCB outs)
    (fun _ _ _ s1 _ _ _ _ _ s2 _ _ => decide ((sG s1).take GA0.length = GA0) && decide ((sG s2).take GB0.length = GB0) && items.all (fun it => gEnd GA0 GB0 FS sk b it.1 (it.2.1.map (gAlt (sF s) g.2 sk)) it.2.2 (sJn s1 s2) (sG s2, sF s2))) s g) rds s g
/-- pins that an edge doesn't write -/
def gPin (GA0 : List Nat) (WA : List (Nat × Nat)) (u : wN) : Bool := (wPi u).all (fun p => match GA0[p.1]? with
  | some c => !(wIn WA c (p.2 + 1))
  | none => false)
theorem gPin_spec {KT : vKT} {GA0 : List Nat} {u : wN} {WA : List (Nat × Nat)} (hk : gPin GA0 WA u = true) {ρ1 : Nat → Int} {σA : Nat → Nat} {tyA : Nat → Option Nat} {HA HA2 : List (XC Int32)} (pA : vHp (fun c => KT.1[c]?) tyA HA) (bA : ∀ (i c : Nat), GA0[i]? = some c → tyA (sR σA i) = some c) (fA : vFrm WA tyA HA HA2) (h1 : wPn (wPi u) ρ1 σA HA2) : wPn (wPi u) ρ1 σA HA := fun i p hp => by
  obtain ⟨b1, ci, fs, b2, b3⟩ := h1 i p hp
  have k3 := List.all_eq_true.mp hk p (List.mem_of_getElem? hp)
  split at k3
  rotate_left
  · cases k3
  rename_i c hc
  have hw : wIn WA c (p.2 + 1) = false := by simpa using k3
  obtain ⟨kd, z, -, z2, -⟩ := pA _ c (bA _ c hc)
  obtain ⟨y, y1, y2⟩ := fA _ c z (bA _ c hc) z2
  rw [b2] at y1
  cases y1
  rcases z with ⟨c2, gs⟩ | z
  · refine ⟨b1, c2, gs, z2, ?_⟩
    rw [← y2.2.2 p.2 hw]
    exact b3
  · exact y2.elim
def gLed (FS : List wN) (u0 : wN) (items : List gIt) : Bool := items.all (fun it => match FS[it.1]? with
  | none => false
  | some u => ((decide (wPi u = wPi u0) && decide (wPr u = wPr u0) && (wPr u).all (lBd (wNp u))) || ((wPi u0).isEmpty && (wPr u0).isEmpty)) && decide ((wBd u0).take (wBd u).length = wBd u))
noncomputable def gRk (KT : vKT) (tb : XT) (tyl : List FieldType) (ov : vOt) (CT : Nat → List vCt) (hs : Nat → Nat → Option (List vHn)) (kn : Nat → Nat → Option Nat) (FS : List wN) (GA0 GB0 : List Nat) (WA WB : List (Nat × Nat)) (f goA dpA kA goB dpB kB : Nat) (outs : List (Bool × wE)) (e : wE) (u0 : wN) (ops : List uOp) (rds : List (Bool × Nat × List (Nat ⊕ lT))) (items : List gIt) : Bool :=
  wSd 0 GA0.length GB0.length GA0 GB0 e && sBd (aSt (wNA e)) && sBd (wB (aSt (wNA e)) (aG (wNB e), aF (wNB e))) && (wBd u0).all (fun p => decide (p.1 ≤ p.2)) && gLed FS u0 items && (match wSm (aSt (wNA e)) (wPi u0), wQA e, wQB e with
    | some P, some pcA, some pcB => (match uCo ((wPr u0).map (lSb (P ++ wTold (aI (wNA e)).length (wBd u0).length))) (wMo (aSt (wNA e)) (wBd u0)) with
      | none => true
      | some s0 => wGo GA0 GB0 (wSel FS (wUs e)) (fun sk s g => gLeaf KT tb tyl ov CT hs kn FS GA0 GB0 WA WB f goA dpA kA pcA goB dpB kB pcB outs e rds items (gRn sk (wTold (aI (wNA e)).length (wBd u0).length)) sk s g) ops (wTold (aI (wNA e)).length (wBd u0).length) false s0 (aG (wNB e), aF (wNB e)))
    | _, _, _ => false)
/-- the same, one class of leaves -/
noncomputable def gRkF (es : List lT) (i : Nat) (KT : vKT) (tb : XT) (tyl : List FieldType) (ov : vOt) (CT : Nat → List vCt) (hs : Nat → Nat → Option (List vHn)) (kn : Nat → Nat → Option Nat) (FS : List wN) (GA0 GB0 : List Nat) (WA WB : List (Nat × Nat)) (f goA dpA kA goB dpB kB : Nat) (outs : List (Bool × wE)) (e : wE) (u0 : wN) (ops : List uOp) (rds : List (Bool × Nat × List (Nat ⊕ lT))) (items : List gIt) : Bool :=
  wSd 0 GA0.length GB0.length GA0 GB0 e && sBd (aSt (wNA e)) && sBd (wB (aSt (wNA e)) (aG (wNB e), aF (wNB e))) && (wBd u0).all (fun p => decide (p.1 ≤ p.2)) && gLed FS u0 items && (match wSm (aSt (wNA e)) (wPi u0), wQA e, wQB e with
    | some P, some pcA, some pcB => (match uCo ((wPr u0).map (lSb (P ++ wTold (aI (wNA e)).length (wBd u0).length))) (wMo (aSt (wNA e)) (wBd u0)) with
      | none => true
      | some s0 => wGo GA0 GB0 (wSel FS (wUs e)) (fun sk s g => !(Nat.beq (wSg es s) i) || gLeaf KT tb tyl ov CT hs kn FS GA0 GB0 WA WB f goA dpA kA pcA goB dpB kB pcB outs e rds items (gRn sk (wTold (aI (wNA e)).length (wBd u0).length)) sk s g) ops (wTold (aI (wNA e)).length (wBd u0).length) false s0 (aG (wNB e), aF (wNB e)))
    | _, _, _ => false)
theorem gRk_F (es : List lT) {KT : vKT} {tb : XT} {tyl : List FieldType} {ov : vOt} {CT : Nat → List vCt} {hs : Nat → Nat → Option (List vHn)} {kn : Nat → Nat → Option Nat} {FS : List wN} {GA0 GB0 : List Nat} {WA WB : List (Nat × Nat)} {f goA dpA kA goB dpB kB : Nat} {outs : List (Bool × wE)} {e : wE} {u0 : wN} {ops : List uOp} {rds : List (Bool × Nat × List (Nat ⊕ lT))} {items : List gIt} (h : ∀ i, i < 2 ^ es.length → gRkF es i KT tb tyl ov CT hs kn FS GA0 GB0 WA WB f goA dpA kA goB dpB kB outs e u0 ops rds items = true) : gRk KT tb tyl ov CT hs kn FS GA0 GB0 WA WB f goA dpA kA goB dpB kB outs e u0 ops rds items = true := by
  have h0 := h 0 (Nat.pow_pos (by decide))
  unfold gRkF at h h0
  unfold gRk
  obtain ⟨a1, a2⟩ := Bool.and_eq_true_iff.mp h0
  refine Bool.and_eq_true_iff.mpr ⟨a1, ?_⟩
  have a3 := fun i hi => (Bool.and_eq_true_iff.mp (h i hi)).2
  clear h h0
  split at a2
  · rename_i P pcA pcB hP hpA hpB
    simp only [hP, hpA, hpB] at a3 ⊢
    split at a2
    · rfl
    · rename_i s0 hc
      simp only [hc] at a3 ⊢
      exact wGo_and (f := wSg es) (wSg_lt es) ops _ false _ _ a3
  · cases a2
theorem gRk_spec {KT : vKT} {tb : XT} {tyl : List FieldType} {ot : XO Int32} {ov : vOt} (hov : vOvLe ov (o4 ot)) {CT : Nat → List vCt} {hs : Nat → Nat → Option (List vHn)} {kn : Nat → Nat → Option Nat} (hCT : ∀ j c, c ∈ CT j → vCtSem KT tb tyl ot j c) {FS : List wN} {GA0 GB0 : List Nat} (hFS : ∀ u ∈ FS, wOk KT GA0 GB0 u = true) {n0 mA mB : Nat} {WAe WBe WA WB : List (Nat × Nat)} {f fe goA dpA kA goB dpB kB : Nat} {outs : List (Bool × wE)} {e : wE} {ops0 : List uOp}
    (hE : wEd KT tb tyl ov CT hs kn FS GA0 GB0 n0 mA mB WAe WBe fe goA dpA kA goB dpB kB e ops0 outs = true) (gA : GA0.length ≤ mA) (gB : GB0.length ≤ mB) {u0 : wN} {ops : List uOp} {rds : List (Bool × Nat × List (Nat ⊕ lT))} {items : List gIt} (hk : gRk KT tb tyl ov CT hs kn FS GA0 GB0 WA WB f goA dpA kA goB dpB kB outs e u0 ops rds items = true) (hpin : gPin GA0 WAe u0 = true) : ∀ it ∈ items, ∀ u, FS[it.1]? = some u → wReE KT tb tyl ot FS GA0.length GB0.length kA kB dpA dpB goA goB outs e u := by
  intro it hit u hu qA qB dA dB BA BB hqA hqB hdA hdB hBA hBB c LA LB a1 a2 b1 b2 hat v hv
  obtain ⟨oA, oB, hr, o, ho, d, LA2, LB2, c1, c2, d1, d2, w1, w2, w3, w4, w5⟩ := wEd_R (ot := ot) hov hCT hFS hE qA qB dA dB BA BB hqA hqB hdA hdB hBA hBB c LA LB a1 a2 b1 b2 hat
  refine ⟨oA, oB, hr, fun ρ1 p1 p2 p3 => ?_⟩
  obtain ⟨h1, h2, h3, h4, h5⟩ := hat
  have hoku := hFS u (List.mem_of_getElem? hu)
  obtain ⟨ok1, ok2, ok3, ok4⟩ := wOk_a hoku
  unfold gRk at hk
  simp only [Bool.and_eq_true] at hk
  obtain ⟨⟨⟨⟨⟨k2, k3⟩, k4⟩, k7⟩, k8⟩, k9⟩ := hk
  unfold wSd at k2
  simp only [Bool.and_eq_true] at k2
  obtain ⟨⟨⟨⟨⟨⟨⟨⟨⟨⟨⟨⟨⟨⟨⟨⟨⟨e1, e2⟩, e3⟩, e4⟩, e5⟩, e6⟩, e7⟩, e8⟩, e9⟩, e10⟩, e11⟩, e12⟩, e13⟩, e14⟩, e15⟩, e16⟩, e17⟩, e18⟩ := k2
  have e2 := of_decide_eq_true e2
  have e3 := of_decide_eq_true e3
  have e4 := of_decide_eq_true e4
  have e5 := of_decide_eq_true e5
  have e8 := of_decide_eq_true e8
  have e9 := of_decide_eq_true e9
  have tA := take_at e8
  have tB := take_at e9
  -- the item is led
  have l1 := List.all_eq_true.mp k8 it hit
  rw [hu] at l1
  simp only [Bool.and_eq_true] at l1
  obtain ⟨l1, l3⟩ := l1
  have l3 := of_decide_eq_true l3
  have l4 : (wBd u).length ≤ (wBd u0).length := by
    have := congrArg List.length l3
    rw [List.length_take] at this
    omega
  have nrB : ∀ a d, cTB c a = some d → kRaw KT d = none := vRel_noraw h2 rfl
  split at k9
  rotate_left
  · cases k9
  rename_i P pcA pcB hP hpA hpB
  rw [hpA] at h3
  rw [hpB] at h4
  -- the pins stood so at the start
  have pS : wPn (wPi u0) ρ1 (cSA c) (cHA c) := by
    rcases Bool.or_eq_true_iff.mp l1 with l1 | l1
    · have l1 := of_decide_eq_true (Bool.and_eq_true_iff.mp (Bool.and_eq_true_iff.mp l1).1).1
      refine gPin_spec hpin h1.1 (fun i z hz => h1.2.1 i z (tA i z hz)) w2.2.2.2.2.2.1 ?_
      rw [← l1, ← xOf_h w4]
      exact p1
    · have l1 := List.isEmpty_iff.mp (Bool.and_eq_true_iff.mp l1).1
      intro i p hp
      rw [l1] at hp
      cases hp
  let v' : Nat → Int := fun j => if j < (wBd u).length then v j else ((wBd u0).getD j (0, 0)).1
  let ρ0 : Nat → Int := fun i => if i < (aI (wNA e)).length then cR c i else v' (i - (aI (wNA e)).length)
  have t1 : ∀ i, i < (aI (wNA e)).length → ρ0 i = cR c i := fun i hi => if_pos hi
  have t2 : ∀ j, ρ0 ((aI (wNA e)).length + j) = v' j := fun j => by
    show (if (aI (wNA e)).length + j < (aI (wNA e)).length then _ else v' ((aI (wNA e)).length + j - (aI (wNA e)).length)) = v' j
    rw [if_neg (by omega), Nat.add_sub_cancel_left]
  have t3 : ∀ j, j < (wBd u).length → v' j = v j := fun j hj => if_pos hj
  have hA0 : vRel KT ρ0 (cSA c) (cTA c) (cHA c) (wMo (aSt (wNA e)) (wBd u0)) := wMo_spec h1 k3 (bd := wBd u0) t1 (fun j p hp => by
    show p.1 ≤ ρ0 ((aI (wNA e)).length + j) ∧ ρ0 ((aI (wNA e)).length + j) ≤ p.2
    rw [t2]
    by_cases hj : j < (wBd u).length
    · rw [t3 j hj]
      refine hv j p ?_
      rw [← l3, List.getElem?_take, if_pos hj]
      exact hp
    · show p.1 ≤ (if j < (wBd u).length then v j else ((wBd u0).getD j (0, 0)).1) ∧ (if j < (wBd u).length then v j else ((wBd u0).getD j (0, 0)).1) ≤ p.2
      rw [if_neg hj, List.getD_eq_getElem?_getD, hp]
      exact ⟨Int.le_refl _, of_decide_eq_true (List.all_eq_true.mp k7 p (List.mem_of_getElem? hp))⟩)
  have hB00 : vRel KT (cR c) (cSB c) (cTB c) (cHB c) (wB (aSt (wNA e)) (aG (wNB e), aF (wNB e))) := wB_of h1 h2 rfl rfl nrB
  have hB0 : vRel KT ρ0 (cSB c) (cTB c) (cHB c) (wB (wMo (aSt (wNA e)) (wBd u0)) (aG (wNB e), aF (wNB e))) := wB_of hA0 (vRel_ext hB00 k4 (fun i hi => t1 i hi) (fun _ _ => rfl)) rfl rfl nrB
  -- what is supposed holds
  have g0 := vRel_ext h1 k3 t1 (fun _ _ => rfl)
  obtain ⟨q1, q2⟩ := wSm_spec g0 hP
  have q3 := wPn_one q2 pS
  have hpre : ∀ x ∈ (wPr u0).map (lSb (P ++ wTold (aI (wNA e)).length (wBd u0).length)), 0 ≤ lEv ρ0 x := by
    rcases Bool.or_eq_true_iff.mp l1 with l1 | l1
    · obtain ⟨l1, l5⟩ := Bool.and_eq_true_iff.mp l1
      obtain ⟨l1, l2⟩ := Bool.and_eq_true_iff.mp l1
      have l1 := of_decide_eq_true l1
      have l2 := of_decide_eq_true l2
      have e30 : ∀ i, i < wNp u → rO ρ0 (P ++ wTold (aI (wNA e)).length (wBd u0).length) i = ρ1 i := fun i hi => by
        have hi : i < (wPi u).length + (wBd u).length := hi
        have hl : (wPi u).length = (wPi u0).length := by rw [l1]
        by_cases cc : i < P.length
        · rw [rO_l cc]
          exact q3 i (by omega)
        · have hj : i - P.length < (wBd u).length := by omega
          have h := rO_r (ρ := ρ0) (P := P) (θ := wTold (aI (wNA e)).length (wBd u0).length) (j := i - P.length)
          rw [show P.length + (i - P.length) = i by omega] at h
          rw [h, wTold_at (by omega), t2, t3 _ hj, ← p2 _ hj]
          congr 1
          omega
      intro x hx
      obtain ⟨y, hy, rfl⟩ := List.mem_map.mp hx
      have hy2 : y ∈ wPr u := by
        rw [l2]
        exact hy
      rw [lSb_ev, lBd_spec e30 (List.all_eq_true.mp l5 y hy2)]
      exact p3 y hy2
    · have l1 := List.isEmpty_iff.mp (Bool.and_eq_true_iff.mp l1).2
      rw [l1]
      exact fun x hx => absurd hx List.not_mem_nil
  obtain ⟨s0, u1, u2, u3, u4⟩ := gCo_spec (l := (wPr u0).map (lSb (P ++ wTold (aI (wNA e)).length (wBd u0).length))) hA0 hpre
  rw [u1] at k9
  dsimp only at k9
  have hU : ∀ x ∈ wSel FS (wUs e), wOk KT GA0 GB0 x = true := fun x hx => by
    obtain ⟨i, -, hi⟩ := wSel_mem hx
    exact hFS x (List.mem_of_getElem? hi)
  have hW : ∀ x ∈ wSel FS (wUs e), wHd GA0.length GB0.length x (cSA c) (cSB c) (cHA c) (cHB c) := fun x hx => by
    obtain ⟨i, hi, hx⟩ := wSel_mem hx
    exact h5 i hi x hx
  obtain ⟨ρ2, σA2, σB2, s2, g2, sk2, x1, x2, x3, x4, x5, x6, x7, x8⟩ := wGo_spec (KT := KT) (GA0 := GA0) (GB0 := GB0) (US := wSel FS (wUs e)) hU ops (wTold (aI (wNA e)).length (wBd u0).length) false u2 (wB_of u2 hB0 rfl rfl nrB : vRel KT ρ0 (cSB c) (cTB c) (cHB c) (wB s0 (aG (wNB e), aF (wNB e)))) (by
    rw [u4]
    exact tA) tB hW k9
  unfold gLeaf at x8
  obtain ⟨z1, x8⟩ := Bool.and_eq_true_iff.mp x8
  obtain ⟨ρ3, σA3, σB3, s3, g3, y1, y2, y3, y4, y5, y6⟩ := gRds_spec x4 x5 x8
  simp only [Bool.and_eq_true] at y6
  obtain ⟨⟨⟨⟨⟨z2, z3⟩, z4⟩, z5⟩, z6⟩, z7⟩ := y6
  have z2 := of_decide_eq_true z2
  have z3 := of_decide_eq_true z3
  have m0 : (aI (wNA e)).length + (wBd u0).length ≤ sN s0 := u3.2.2.1
  have m1 : sN s0 ≤ sN s2 := x1.2.2.1
  have m2 : sN s2 ≤ sN s3 := y1.2.2.1
  have m3 : (sG s0).length ≤ (sG s2).length := x1.2.2.2
  have m4 : (sG s2).length ≤ (sG s3).length := y1.2.2.2
  have m5 : (sG s0).length = (aG (wNA e)).length := congrArg List.length u4
  have m6 : (aG (wNB e)).length ≤ g2.1.length := x3
  have r1 : ∀ i, i < (aI (wNA e)).length → ρ3 i = cR c i := fun i hi => ((y1.1 i (by omega)).trans (x1.1 i (by omega))).trans (t1 i hi)
  have r2 : ∀ i, i < (aG (wNA e)).length → σA3 i = cSA c i := fun i hi => (y1.2.1 i (by omega)).trans (x1.2.1 i (by omega))
  have r3 : ∀ i, i < (aG (wNB e)).length → σB3 i = cSB c i := fun i hi => (y2 i (by omega)).trans (x2 i hi)
  have hW3 : ∀ x ∈ wSel FS (wUs e), wHd GA0.length GB0.length x σA3 σB3 (cHA c) (cHB c) := fun x hx => wHd_ext (wOk_a (hU x hx)).1 (hW x hx) (fun i hi => by
    unfold sR
    rw [r2 i (by omega)]) (fun i hi => by
    unfold sR
    rw [r3 i (by omega)])
  have hdis : ∀ dj ∈ it.2.1, ∃ cs ∈ gAlt (sF s3) g3.2 sk2 dj, ∀ x ∈ cs, lBd (sN s3) x = true ∧ 0 ≤ lEv ρ3 x := fun dj hd => gDk_spec hU y4 y5 (take_at z2) (take_at z3) hW3 (List.all_eq_true.mp (List.all_eq_true.mp z6 it hit) dj hd)
  have pA : eCov ρ3 σA3 (some pcA) BA (mMc qA) (aL (wNA e)) (aCn (wNA e)) (aSn (wNA e)) (cHA c) LA a1 a2 := ⟨h3.1, vBd_loc r1 r2 e11 h3.2.1, by rw [lBd_spec r1 e13]; exact h3.2.2.1, by rw [lBd_spec r1 e14]; exact h3.2.2.2⟩
  have pB : eCov ρ3 σB3 (some pcB) BB (mMc qB) (aL (wNB e)) (aCn (wNB e)) (aSn (wNB e)) (cHB c) LB b1 b2 := ⟨h4.1, vBd_loc r1 r3 e15 h4.2.1, by rw [lBd_spec r1 e17]; exact h4.2.2.1, by rw [lBd_spec r1 e18]; exact h4.2.2.2⟩
  obtain ⟨oA2, oB2, f1, f2, f3⟩ := wPx_R (R := fun oA oB => wPn (wPi u) ρ1 (cSA c) (xOh oA) → wCon GA0.length GB0.length u ρ1 (cSA c) (cSB c) (xOh oA) (xOh oB)) hov hCT z7 hqA hqB hdA hdB hBA hBB y4 y5 pA pB (fun xA L S s1 cn sn xB L2 S2 s4 cn2 sn2 f5 r0 r0' ρ4 σA4 σB4 tyA4 tyB4 HA HB La Lb ca sa cb sb n1 n2 n3 n4 n5 n6 n7 n8 n9 n10 n11 oA oB v1 v2 => by
    rw [xOf_h v1, xOf_h v2]
    intro p1
    simp only [Bool.and_eq_true] at f5
    obtain ⟨⟨i1, i2⟩, i3⟩ := f5
    have i1 := of_decide_eq_true i1
    have i2 := of_decide_eq_true i2
    have sA : ∀ i, i < GA0.length → sR σA4 i = sR (cSA c) i := fun i hi => by
      unfold sR
      rw [n2 i (by omega), r2 i (by omega)]
    have sB : ∀ i, i < GB0.length → sR σB4 i = sR (cSB c) i := fun i hi => by
      unfold sR
      rw [n3 i (by have := y3; omega), r3 i (by omega)]
    have hB3 : vRel KT ρ4 σB4 tyB4 HB (wB (sJn s1 s4) (sG s4, sF s4)) := wB_of n8 n9 rfl rfl (vRel_noraw n9 r0')
    have lA : GA0.length ≤ (sG s1).length := by
      have := congrArg List.length i1
      rw [List.length_take] at this
      omega
    have lB : GB0.length ≤ (sG s4).length := by
      have := congrArg List.length i2
      rw [List.length_take] at this
      omega
    refine wCon_ext (gEnd_spec (i := it.1) n8 hB3 (take_at i1) (take_at i2) (fun A hA => ?_) (List.all_eq_true.mp i3 it hit) hu lA lB ok1 (wPn_ext p1 (fun p hp => sA _ (ok1 p hp))) (fun j hj => ?_) p3) (fun i hi => (sA i hi).symm) (fun i hi => (sB i hi).symm)
    · obtain ⟨dj, hd, rfl⟩ := List.mem_map.mp hA
      obtain ⟨cs, hc, hx⟩ := hdis dj hd
      refine ⟨cs, hc, fun x hxx => ?_⟩
      obtain ⟨hb, hv⟩ := hx x hxx
      rw [lBd_spec (n := sN s3) n1 hb]
      exact hv
    · rw [p2 j hj]
      have lk : sk2.length = (wBd u0).length := by
        rw [x6]
        unfold wTold
        rw [List.length_map, List.length_range]
      have hs : sk2[j]? = some (sk2[j]'(by omega)) := List.getElem?_eq_getElem (by omega)
      have e4 := x7 j
      unfold rO
      rw [List.getD_eq_getElem?_getD, hs] at e4 ⊢
      have e5 : lEv ρ4 (sk2[j]'(by omega)) = lEv ρ2 (sk2[j]'(by omega)) := lBd_spec (n := sN s2) (fun i hi => (n1 i (Nat.lt_of_lt_of_le hi m2)).trans (y1.1 i hi)) (List.all_eq_true.mp z1 _ (List.mem_of_getElem? hs))
      show lEv ρ4 (sk2[j]'(by omega)) = v j
      rw [e5]
      refine Eq.trans e4 ?_
      have h := wTold_at (ρ := ρ0) (n := (aI (wNA e)).length) (k := (wBd u0).length) (j := j) (by omega)
      unfold rO at h
      rw [h, t2, t3 j hj])
  rw [vBd_list r1 r2 e12] at f1
  rw [vBd_list r1 r3 e16] at f2
  obtain ⟨q4, q5⟩ := wRuns_one hr ⟨pcA, pcB, hpA, hpB, f1, f2⟩
  rw [q4, q5] at f3
  exact f3 p1
end XGrp
