/-! Pairs of runs with families: what holds of each row, of each element, while both go. -/
noncomputable section XFam
theorem vExt1_th {KT : vKT} {W : List (Nat × Nat)} {X : vAn} {n0 m0 : Nat} {θ : List lT} {τ : List Nat} {s : vSt} {kk : vSt → List vA → Bool} (hk : vExt1 W X n0 m0 θ τ s kk = true) {ρ ρ2 : Nat → Int} {σ σ2 : Nat → Nat} {ty ty2 : Nat → Option Nat} {H H2 : List (XC Int32)} (h : vRel KT ρ σ ty H s) (hρ : ∀ i, i < n0 → ρ2 i = rO ρ θ i) (hσ : ∀ i, i < m0 → σ2 i = sO σ τ i) (h2 : vRel KT ρ2 σ2 ty2 H2 (aSt X)) (hle : vLe ty ty2) (hf : vFrm W ty H H2) :
    ∃ ρ3 σ3, vExt s (vExS W X n0 m0 θ τ s) ρ ρ3 σ σ3 ∧ vRel KT ρ3 σ3 ty2 H2 (vExS W X n0 m0 θ τ s) ∧ (∀ i, i < (aI X).length → rO ρ3 (thX (sN s) ((aI X).length - n0) θ) i = ρ2 i) ∧ (∀ i, i < (aG X).length → sO σ3 (taX (sG s).length ((aG X).length - m0) τ) i = σ2 i) ∧ kk (vExS W X n0 m0 θ τ s) ((aS X).map (vSb (thX (sN s) ((aI X).length - n0) θ) (taX (sG s).length ((aG X).length - m0) τ))) = true := by
  unfold vExt1 at hk
  simp only [Bool.and_eq_true] at hk
  obtain ⟨⟨⟨⟨⟨⟨⟨⟨⟨k0, k1⟩, k2⟩, k3⟩, k4⟩, k5⟩, k6⟩, k7⟩, k8⟩, k9⟩ := hk
  have k1 := of_decide_eq_true k1
  have k2 := of_decide_eq_true k2
  have k3 := of_decide_eq_true k3
  have k4 := of_decide_eq_true k4
  have k8 := of_decide_eq_true k8
  unfold aBd at k0
  simp only [Bool.and_eq_true] at k0
  obtain ⟨⟨⟨⟨b1, b2⟩, b3⟩, b4⟩, b5⟩ := k0
  have b5 := of_decide_eq_true b5
  let ρ3 : Nat → Int := fun i => if i < sN s then ρ i else ρ2 (n0 + (i - sN s))
  let σ3 : Nat → Nat := fun i => if i < (sG s).length then σ i else σ2 (m0 + (i - (sG s).length))
  have e1 : ∀ i, i < sN s → ρ3 i = ρ i := fun i hi => if_pos hi
  have e2 : ∀ i, i < (sG s).length → σ3 i = σ i := fun i hi => if_pos hi
  have t1 : ∀ i, i < (aI X).length → rO ρ3 (thX (sN s) ((aI X).length - n0) θ) i = ρ2 i := fun i hi => by
    unfold rO thX
    by_cases c : i < n0
    · rw [List.getD_eq_getElem?_getD, List.getElem?_append_left (by omega), hρ i c]
      have hl : θ[i]? = some (θ[i]'(by omega)) := List.getElem?_eq_getElem (by omega)
      unfold rO
      rw [List.getD_eq_getElem?_getD, hl]
      exact lBd_spec e1 (List.all_eq_true.mp k5 _ (List.mem_of_getElem? hl))
    · rw [List.getD_eq_getElem?_getD, List.getElem?_append_right (by omega), List.getElem?_map, List.getElem?_range (by omega)]
      show lEv ρ3 (lSy (sN s + (i - θ.length))) = ρ2 i
      rw [lSy_ev]
      show (if sN s + (i - θ.length) < sN s then _ else ρ2 (n0 + (sN s + (i - θ.length) - sN s))) = ρ2 i
      rw [if_neg (by omega)]
      congr 1
      omega
  have t2 : ∀ i, i < (aG X).length → sO σ3 (taX (sG s).length ((aG X).length - m0) τ) i = σ2 i := fun i hi => by
    unfold sO taX
    by_cases c : i < m0
    · rw [List.getD_eq_getElem?_getD, List.getElem?_append_left (by omega), hσ i c]
      have hl : τ[i]? = some (τ[i]'(by omega)) := List.getElem?_eq_getElem (by omega)
      unfold sO
      rw [List.getD_eq_getElem?_getD, hl]
      exact sR_spec e2 (List.all_eq_true.mp k6 _ (List.mem_of_getElem? hl))
    · rw [List.getD_eq_getElem?_getD, List.getElem?_append_right (by omega), List.getElem?_map, List.getElem?_range (by omega)]
      show (if (sG s).length + (i - τ.length) < 1000000 then (if (sG s).length + (i - τ.length) < (sG s).length then _ else σ2 (m0 + ((sG s).length + (i - τ.length) - (sG s).length))) else _) = σ2 i
      rw [if_pos (by omega), if_neg (by omega)]
      congr 1
      omega
  have u1 : ∀ l, lBd (aI X).length l = true → lEv ρ3 (lSb (thX (sN s) ((aI X).length - n0) θ) l) = lEv ρ2 l := fun l hl => by
    rw [lSb_ev]
    exact lBd_spec t1 hl
  have u2 : ∀ i, (decide (i < (aG X).length) || decide (1000000 ≤ i)) = true → sR σ3 (tSb (taX (sG s).length ((aG X).length - m0) τ) i) = sR σ2 i := fun i hi => by
    rw [tSb_spec]
    exact sR_spec t2 hi
  have u3 : ∀ v, vBd (aI X).length (aG X).length v = true → cv ρ3 σ3 (vSb (thX (sN s) ((aI X).length - n0) θ) (taX (sG s).length ((aG X).length - m0) τ) v) = cv ρ2 σ2 v := fun v hv => by
    rw [vSb_cv]
    exact vBd_spec t1 t2 hv
  obtain ⟨g1, g2, g3, g4, g5, g6, g7, g8⟩ := h2
  obtain ⟨f1, f2, f3, f4, f5, f6, f7, f8⟩ := vRel_ext h k7 e1 e2
  refine ⟨ρ3, σ3, ⟨e1, e2, Nat.le_add_right _ _, ?_⟩, ⟨g1, fun i c hc => ?_, fun f hm => ?_, fun q hq => ?_, fun c hc => ?_, fun m hm => ?_, g7, fun a c d ha hd => (by obtain ⟨i, hi, -⟩ := g8 a c d ha hd; cases hi)⟩, t1, t2, k9⟩
  · show (sG s).length ≤ (sG s ++ _).length
    rw [List.length_append]
    exact Nat.le_add_right _ _
  · have hc : (sG s ++ (aG X).drop m0)[i]? = some c := hc
    by_cases c1 : i < (sG s).length
    · rw [List.getElem?_append_left c1] at hc
      exact hle _ _ (f2 i c hc)
    · rw [List.getElem?_append_right (by omega), List.getElem?_drop] at hc
      have hlt : m0 + (i - (sG s).length) < (aG X).length := (List.getElem?_eq_some_iff.mp hc).1
      have z := g2 _ c hc
      have e : sR σ3 i = sR σ2 (m0 + (i - (sG s).length)) := by
        show (if i < 1000000 then (if i < (sG s).length then _ else σ2 (m0 + (i - (sG s).length))) else i) = (if m0 + (i - (sG s).length) < 1000000 then σ2 (m0 + (i - (sG s).length)) else _)
        rw [if_pos (by omega), if_neg c1, if_pos (by omega)]
      rw [e]
      exact z
  · rcases List.mem_append.mp hm with hm | hm
    · obtain ⟨f0, y1, rfl⟩ := List.mem_map.mp hm
      have y2 := List.all_eq_true.mp b1 f0 y1
      simp only [Bool.and_eq_true] at y2
      obtain ⟨⟨y3, y4⟩, y5⟩ := y2
      have y6 := g3 f0 y1
      obtain ⟨x, key, v⟩ := f0
      rcases y6 with y6 | ⟨k, n1, n2, n3⟩
      rotate_left
      · have n1 : key = .inr (lK (-1)) := n1
        have n2 : v = .inr (some k) := n2
        subst n1
        subst n2
        have y5 : (decide (k < (aG X).length) || decide (1000000 ≤ k)) = true := y5
        refine Or.inr ⟨tSb (taX (sG s).length ((aG X).length - m0) τ) k, rfl, rfl, ?_⟩
        have hx := u2 x (by rw [show decide (x < (aG X).length) = true from y3]; rfl)
        have hy := u2 k y5
        show sR σ3 (tSb (taX (sG s).length ((aG X).length - m0) τ) x) ≠ sR σ3 (tSb (taX (sG s).length ((aG X).length - m0) τ) k)
        rw [hx, hy]
        exact n3
      refine Or.inl ?_
      unfold vPlace at y6 ⊢
      dsimp only at y3 y4 y5 y6 ⊢
      rw [u3 v y5]
      have hx := u2 x (by rw [y3]; rfl)
      rcases key with j | e
      · obtain ⟨ci, fs, z1, z2⟩ := y6
        exact ⟨ci, fs, by rw [hx]; exact z1, z2⟩
      · obtain ⟨t, vs, z1, z0, z2⟩ := y6
        have he := u1 e y4
        exact ⟨t, vs, by rw [hx]; exact z1, by rw [he]; exact z0, by rw [he]; exact z2⟩
    · exact fCal_spec f2 hf f3 f hm
  · rcases List.mem_append.mp hq with hq | hq
    · refine zipI_spec.mpr (fun i p hp => ?_) q hq
      rw [List.getElem?_drop] at hp
      have z := zipI_spec.mp g4 _ p hp
      rw [Nat.zero_add] at z
      show p.1 ≤ (if sN s + i < sN s then _ else ρ2 (n0 + (sN s + i - sN s))) ∧ (if sN s + i < sN s then _ else ρ2 (n0 + (sN s + i - sN s))) ≤ p.2
      rw [if_neg (by omega), Nat.add_sub_cancel_left]
      exact z
    · exact f4 q hq
  · rcases List.mem_append.mp hc with hc | hc
    · obtain ⟨c0, y1, rfl⟩ := List.mem_map.mp hc
      rw [u1 c0 (List.all_eq_true.mp b2 c0 y1)]
      exact g5 c0 y1
    · exact f5 c hc
  · rcases List.mem_append.mp hm with hm | hm
    · obtain ⟨m0', y1, rfl⟩ := List.mem_map.mp hm
      have y2 := List.all_eq_true.mp b3 m0' y1
      have y3 := Bool.and_eq_true_iff.mp y2
      have y4 := Bool.and_eq_true_iff.mp y3.1
      have y5 := g6 m0' y1
      unfold mHd at y5 ⊢
      dsimp only
      rw [u1 _ y4.1, u1 _ y4.2, u1 _ y3.2]
      exact y5
    · exact f6 m hm
/-- a family: places of the first's cells that tell its first ints (cell, field), bounds of the ints that are told, what is supposed, notes of both sides (one of them holds) -/
abbrev wN : Type := List (Nat × Nat) × List (Int × Int) × List lT × List (vAn × vAn)
abbrev wPi (u : wN) : List (Nat × Nat) := u.1
abbrev wBd (u : wN) : List (Int × Int) := u.2.1
abbrev wPr (u : wN) : List lT := u.2.2.1
abbrev wAl (u : wN) : List (vAn × vAn) := u.2.2.2
abbrev wNp (u : wN) : Nat := (wPi u).length + (wBd u).length
def nH2 (x : vAn × vAn) (ρ : Nat → Int) (σA σB : Nat → Nat) (HA HB : List (XC Int32)) : Prop := (∀ f ∈ aF x.1, vHolds ρ σA HA f) ∧ (∀ f ∈ aF x.2, vHolds ρ σB HB f) ∧ iHd ρ (zipI 0 (aI x.1)) ∧ ∀ c ∈ aC x.1, 0 ≤ lEv ρ c
def wPn (P : List (Nat × Nat)) (ρ : Nat → Int) (σ : Nat → Nat) (H : List (XC Int32)) : Prop := ∀ (i : Nat) (p : Nat × Nat), P[i]? = some p → (-2147483648 ≤ ρ i ∧ ρ i ≤ 2147483647) ∧ vPlace ρ σ H p.1 (.inl p.2) (.inl (Int32.ofInt (ρ i)))
def wCon (gA gB : Nat) (u : wN) (ρ1 : Nat → Int) (σA σB : Nat → Nat) (HA HB : List (XC Int32)) : Prop := ∃ x ∈ wAl u, ∃ (ρ2 : Nat → Int) (σA2 σB2 : Nat → Nat), (∀ i, i < wNp u → ρ2 i = ρ1 i) ∧ (∀ i, i < gA → σA2 i = sR σA i) ∧ (∀ i, i < gB → σB2 i = sR σB i) ∧ nH2 x ρ2 σA2 σB2 HA HB
def wHd (gA gB : Nat) (u : wN) (σA σB : Nat → Nat) (HA HB : List (XC Int32)) : Prop := ∀ ρ1 : Nat → Int, wPn (wPi u) ρ1 σA HA → (∀ (j : Nat) (p : Int × Int), (wBd u)[j]? = some p → p.1 ≤ ρ1 ((wPi u).length + j) ∧ ρ1 ((wPi u).length + j) ≤ p.2) → (∀ c ∈ wPr u, 0 ≤ lEv ρ1 c) → wCon gA gB u ρ1 σA σB HA HB
theorem wPn_ext {P : List (Nat × Nat)} {ρ : Nat → Int} {σ σ' : Nat → Nat} {H : List (XC Int32)} (h : wPn P ρ σ H) (e : ∀ p ∈ P, sR σ' p.1 = sR σ p.1) : wPn P ρ σ' H := fun i p hp => by
  obtain ⟨a, ci, fs, b, c⟩ := h i p hp
  exact ⟨a, ci, fs, by rw [e p (List.mem_of_getElem? hp)]; exact b, c⟩
theorem wPn_rho {P : List (Nat × Nat)} {ρ ρ' : Nat → Int} {σ : Nat → Nat} {H : List (XC Int32)} (h : wPn P ρ σ H) (e : ∀ i, i < P.length → ρ' i = ρ i) : wPn P ρ' σ H := fun i p hp => by
  obtain ⟨a, ci, fs, b, c⟩ := h i p hp
  have e := e i (List.getElem?_eq_some_iff.mp hp).1
  exact ⟨by rw [e]; exact a, ci, fs, b, by rw [e]; exact c⟩
theorem wPn_one {P : List (Nat × Nat)} {ρ ρ' : Nat → Int} {σ : Nat → Nat} {H : List (XC Int32)} (h : wPn P ρ σ H) (g : wPn P ρ' σ H) : ∀ i, i < P.length → ρ i = ρ' i := fun i hi => by
  obtain ⟨a, ci, fs, b, c⟩ := h i _ (List.getElem?_eq_getElem hi)
  obtain ⟨a2, ci2, fs2, b2, c2⟩ := g i _ (List.getElem?_eq_getElem hi)
  rw [b] at b2
  cases b2
  rw [c] at c2
  have c3 : Int32.ofInt (ρ i) = Int32.ofInt (ρ' i) := by
    injection c2 with c2
    injection c2
  have e2 := congrArg Int32.toInt c3
  rw [ofInt_toInt (by omega) (by omega), ofInt_toInt (by omega) (by omega)] at e2
  exact e2
theorem wCon_ext {gA gB : Nat} {u : wN} {ρ : Nat → Int} {σA σB σA' σB' : Nat → Nat} {HA HB : List (XC Int32)} (h : wCon gA gB u ρ σA σB HA HB) (eA : ∀ i, i < gA → sR σA' i = sR σA i) (eB : ∀ i, i < gB → sR σB' i = sR σB i) : wCon gA gB u ρ σA' σB' HA HB := by
  obtain ⟨x, hx, ρ2, σA2, σB2, a, b, c, d⟩ := h
  exact ⟨x, hx, ρ2, σA2, σB2, a, fun i hi => (b i hi).trans (eA i hi).symm, fun i hi => (c i hi).trans (eB i hi).symm, d⟩
theorem wCon_rho {gA gB : Nat} {u : wN} {ρ ρ' : Nat → Int} {σA σB : Nat → Nat} {HA HB : List (XC Int32)} (h : wCon gA gB u ρ σA σB HA HB) (e : ∀ i, i < wNp u → ρ' i = ρ i) : wCon gA gB u ρ' σA σB HA HB := by
  obtain ⟨x, hx, ρ2, σA2, σB2, a, b⟩ := h
  exact ⟨x, hx, ρ2, σA2, σB2, fun i hi => (a i hi).trans (e i hi).symm, b⟩
theorem wHd_ext {gA gB : Nat} {u : wN} (hp : ∀ p ∈ wPi u, p.1 < gA) {σA σB σA' σB' : Nat → Nat} {HA HB : List (XC Int32)} (h : wHd gA gB u σA σB HA HB) (eA : ∀ i, i < gA → sR σA' i = sR σA i) (eB : ∀ i, i < gB → sR σB' i = sR σB i) : wHd gA gB u σA' σB' HA HB := fun ρ1 h1 h2 h3 =>
  wCon_ext (h ρ1 (wPn_ext h1 (fun p hq => (eA _ (hp p hq)).symm)) h2 h3) eA eB
/-- the sums that stand at a family's places -/
def wSm (s : vSt) : List (Nat × Nat) → Option (List lT)
  | [] => some []
  | p :: r => match fGet p.1 (.inl p.2) (sF s), wSm s r with
    | some (.inl l), some t => if lFit (sI s) l = true then some (l :: t) else none
    | _, _ => none
theorem wSm_spec {KT : vKT} {ρ : Nat → Int} {σ : Nat → Nat} {ty : Nat → Option Nat} {H : List (XC Int32)} {s : vSt} (h : vRel KT ρ σ ty H s) : ∀ {P : List (Nat × Nat)} {l : List lT}, wSm s P = some l → l.length = P.length ∧ wPn P (rO ρ l) σ H
  | [], l, hk => by
    cases hk
    exact ⟨rfl, fun i p hp => by cases hp⟩
  | q :: r, l, hk => by
    unfold wSm at hk
    split at hk
    · rename_i e t he ht
      split at hk
      · rename_i hf
        cases hk
        obtain ⟨a, b⟩ := wSm_spec h ht
        refine ⟨congrArg (· + 1) a, fun i p hp => ?_⟩
        rcases i with _ | i
        · cases hp
          have k := lFit_spec h.2.2.2.1 hf
          have k1 := Int32.le_toInt (Int32.ofInt (lEv ρ e))
          have k2 := Int32.toInt_lt (Int32.ofInt (lEv ρ e))
          rw [k] at k1 k2
          refine ⟨⟨?_, ?_⟩, ?_⟩
          · show -2147483648 ≤ lEv ρ e
            omega
          · show lEv ρ e ≤ 2147483647
            omega
          · exact fGet_spec h.2.2.1 he
        · exact b i p hp
      · cases hk
    · cases hk
def wPm (u : wN) (P θ : List lT) (s : vSt) : Bool := decide (θ.length = (wBd u).length) && (List.range θ.length).all (fun j => match θ[j]?, (wBd u)[j]? with
  | some l, some p => lGe (sI s) (sC s) (lSub l (lK p.1)) && lGe (sI s) (sC s) (lSub (lK p.2) l)
  | _, _ => false) && (wPr u).all (fun c => lGe (sI s) (sC s) (lSb (P ++ θ) c))
theorem rO_l {ρ : Nat → Int} {P θ : List lT} {i : Nat} (hi : i < P.length) : rO ρ (P ++ θ) i = rO ρ P i := by
  unfold rO
  rw [List.getD_eq_getElem?_getD, List.getD_eq_getElem?_getD, List.getElem?_append_left hi]
theorem rO_r {ρ : Nat → Int} {P θ : List lT} {j : Nat} : rO ρ (P ++ θ) (P.length + j) = rO ρ θ j := by
  unfold rO
  rw [List.getD_eq_getElem?_getD, List.getD_eq_getElem?_getD, List.getElem?_append_right (by omega), Nat.add_sub_cancel_left]
theorem wPm_spec {KT : vKT} {ρ : Nat → Int} {σ : Nat → Nat} {ty : Nat → Option Nat} {H : List (XC Int32)} {s : vSt} (h : vRel KT ρ σ ty H s) {u : wN} {P θ : List lT} (hS : wSm s (wPi u) = some P) (hk : wPm u P θ s = true) :
    wPn (wPi u) (rO ρ (P ++ θ)) σ H ∧ (∀ (j : Nat) (p : Int × Int), (wBd u)[j]? = some p → p.1 ≤ rO ρ (P ++ θ) ((wPi u).length + j) ∧ rO ρ (P ++ θ) ((wPi u).length + j) ≤ p.2) ∧ (∀ c ∈ wPr u, 0 ≤ lEv (rO ρ (P ++ θ)) c) ∧ (P ++ θ).length = wNp u := by
  obtain ⟨a, b⟩ := wSm_spec h hS
  unfold wPm at hk
  simp only [Bool.and_eq_true] at hk
  obtain ⟨⟨p1, p2⟩, p3⟩ := hk
  have p1 := of_decide_eq_true p1
  refine ⟨wPn_rho b (fun i hi => rO_l (by omega)), fun j p hj => ?_, fun c hc => ?_, by rw [List.length_append, a, p1]⟩
  · have hl := (List.getElem?_eq_some_iff.mp hj).1
    have ht : θ[j]? = some (θ[j]'(by omega)) := List.getElem?_eq_getElem (by omega)
    have q := List.all_eq_true.mp p2 j (List.mem_range.mpr (by omega))
    rw [ht, hj] at q
    obtain ⟨q1, q2⟩ := Bool.and_eq_true_iff.mp q
    have q1 := lGe_spec h.2.2.2.1 h.2.2.2.2.1 q1
    have q2 := lGe_spec h.2.2.2.1 h.2.2.2.2.1 q2
    rw [lSub_ev, lK_ev] at q1 q2
    have e : rO ρ (P ++ θ) ((wPi u).length + j) = lEv ρ (θ[j]'(by omega)) := by
      rw [← a, rO_r]
      unfold rO
      rw [List.getD_eq_getElem?_getD, ht]
      rfl
    rw [e]
    omega
  · rw [← lSb_ev]
    exact lGe_spec h.2.2.2.1 h.2.2.2.2.1 (List.all_eq_true.mp p3 c hc)
/-- the second's cells and what is known of them, over the ints of the first -/
abbrev wGs : Type := List Nat × List vK
def wB (s : vSt) (g : wGs) : vSt := (sN s, g.1, g.2, sI s, sC s, sM s, [])
theorem wB_of {KT : vKT} {ρ : Nat → Int} {σA σB : Nat → Nat} {tyA tyB : Nat → Option Nat} {HA HB : List (XC Int32)} {s t : vSt} {g : wGs} (hA : vRel KT ρ σA tyA HA s) (hB : vRel KT ρ σB tyB HB t) (e1 : sG t = g.1) (e2 : sF t = g.2) (e3 : ∀ a c, tyB a = some c → kRaw KT c = none) : vRel KT ρ σB tyB HB (wB s g) := by
  refine ⟨hB.1, fun i c hc => hB.2.1 i c ?_, fun f hf => hB.2.2.1 f ?_, hA.2.2.2.1, hA.2.2.2.2.1, hA.2.2.2.2.2.1, hB.2.2.2.2.2.2.1, fun a c d ha hd => ?_⟩
  · rw [e1]
    exact hc
  · rw [e2]
    exact hf
  · rw [e3 a c ha] at hd
    cases hd
def wNb (x : vAn × vAn) : vAn := (aG x.2, aI x.1, [], [], aF x.2, [], [], (lK 0, lK 0, lK 0, 0, 0, [], none), [])
def wTk (gA gB : Nat) (u : wN) (P θ : List lT) (s : vSt) (g : wGs) (kk : vSt → wGs → Bool) : Bool := (sRw s).isEmpty && sBd (wB s g) && (wAl u).all (fun x => vExt1 [] x.1 (wNp u) gA (P ++ θ) (List.range gA) s (fun s2 _ => sBd s2 && vExt1 [] (wNb x) (aI x.1).length gB (thX (sN s) ((aI x.1).length - wNp u) (P ++ θ)) (List.range gB) (wB s2 g) (fun sb _ => kk s2 (sG sb, sF sb))))
def wOk (KT : vKT) (GA0 GB0 : List Nat) (u : wN) : Bool := (wPi u).all (fun p => decide (p.1 < GA0.length)) && decide (GA0.length < 1000000) && decide (GB0.length < 1000000) && (wAl u).all (fun x => uTy KT GA0.length x.1 && uTy KT GB0.length x.2 && decide ((aG x.1).take GA0.length = GA0) && decide ((aG x.2).take GB0.length = GB0) && decide (aM x.1 = []) && decide (wNp u ≤ (aI x.1).length))
theorem wTk_spec {KT : vKT} {ρ : Nat → Int} {σA σB : Nat → Nat} {tyA tyB : Nat → Option Nat} {HA HB : List (XC Int32)} {s : vSt} {g : wGs} {GA0 GB0 : List Nat} {u : wN} (hA : vRel KT ρ σA tyA HA s) (hB : vRel KT ρ σB tyB HB (wB s g)) (hGA : ∀ (i c : Nat), GA0[i]? = some c → (sG s)[i]? = some c) (hGB : ∀ (i c : Nat), GB0[i]? = some c → g.1[i]? = some c) (hu : wHd GA0.length GB0.length u σA σB HA HB) (hok : wOk KT GA0 GB0 u = true) {P θ : List lT} (hS : wSm s (wPi u) = some P) (hp : wPm u P θ s = true) {kk : vSt → wGs → Bool} (hk : wTk GA0.length GB0.length u P θ s g kk = true) :
    ∃ ρ2 σA2 σB2 s2 g2, vExt s s2 ρ ρ2 σA σA2 ∧ (∀ i, i < g.1.length → σB2 i = σB i) ∧ g.1.length ≤ g2.1.length ∧ vRel KT ρ2 σA2 tyA HA s2 ∧ vRel KT ρ2 σB2 tyB HB (wB s2 g2) ∧ kk s2 g2 = true := by
  unfold wOk at hok
  simp only [Bool.and_eq_true] at hok
  obtain ⟨⟨⟨o1, o2⟩, o3⟩, o4⟩ := hok
  have o2 := of_decide_eq_true o2
  have o3 := of_decide_eq_true o3
  obtain ⟨q1, q2, q3, q4⟩ := wPm_spec hA hS hp
  obtain ⟨x, hx, ρ1, σA1, σB1, a1, a2, a3, a4, a5, a6, a7⟩ := hu _ q1 q2 q3
  have o5 := List.all_eq_true.mp o4 x hx
  simp only [Bool.and_eq_true] at o5
  obtain ⟨⟨⟨⟨⟨t1, t2⟩, t3⟩, t4⟩, t5⟩, t6⟩ := o5
  have t3 := of_decide_eq_true t3
  have t4 := of_decide_eq_true t4
  have t5 := of_decide_eq_true t5
  have t6 := of_decide_eq_true t6
  unfold wTk at hk
  simp only [Bool.and_eq_true] at hk
  obtain ⟨⟨k1, k2⟩, k3⟩ := hk
  have k3 := List.all_eq_true.mp k3 x hx
  have nrA : ∀ a c, tyA a = some c → kRaw KT c = none := vRel_noraw hA (List.isEmpty_iff.mp k1)
  have nrB : ∀ a c, tyB a = some c → kRaw KT c = none := vRel_noraw hB rfl
  have sx : ∀ {m : Nat} {σ σ' : Nat → Nat}, m < 1000000 → (∀ i, i < m → σ' i = sR σ i) → ∀ i, i < m → sR σ' i = sR σ i := fun {m σ σ'} hm h i hi => by
    have e := h i hi
    unfold sR at e ⊢
    rw [if_pos (by omega)] at e ⊢
    rw [if_pos (by omega)]
    exact e
  have sy : ∀ {m : Nat} {σ σ' : Nat → Nat}, m < 1000000 → (∀ i, i < m → σ' i = sR σ i) → ∀ i, i < m → σ' i = sO σ (List.range m) i := fun {m σ σ'} hm h i hi => by
    rw [h i hi]
    unfold sO
    rw [List.getD_eq_getElem?_getD, List.getElem?_range hi]
    rfl
  have rA : vRel KT ρ1 σA1 tyA HA (aSt x.1) := by
    refine ⟨hA.1, fun i c hc => uTy_spec t1 hA.1 a4 (fun i c hi hc => ?_) (i + 1) i c (Nat.lt_succ_self i) hc, a4, a6, a7, fun m hm => ?_, hA.2.2.2.2.2.2.1, fun a c d ha hd => ?_⟩
    · rw [sx o2 a2 i hi]
      refine hA.2.1 i c (hGA i c ?_)
      rw [← t3, List.getElem?_take, if_pos hi]
      exact hc
    · have hm : m ∈ aM x.1 := hm
      rw [t5] at hm
      cases hm
    · rw [nrA a c ha] at hd
      cases hd
  have rB : vRel KT ρ1 σB1 tyB HB (aSt (wNb x)) := by
    refine ⟨hB.1, fun i c hc => uTy_spec t2 hB.1 a5 (fun i c hi hc => ?_) (i + 1) i c (Nat.lt_succ_self i) hc, a5, a6, (fun c hc => by cases hc), (fun m hm => by cases hm), hB.2.2.2.2.2.2.1, fun a c d ha hd => ?_⟩
    · rw [sx o3 a3 i hi]
      refine hB.2.1 i c (hGB i c ?_)
      rw [← t4, List.getElem?_take, if_pos hi]
      exact hc
    · rw [nrB a c ha] at hd
      cases hd
  obtain ⟨ρ3, σA3, b1, b2, b3, -, b5⟩ := vExt1_th k3 hA (fun i hi => a1 i hi) (sy o2 a2) rA (vLe_rf tyA) (vFrm_rf [] tyA HA)
  obtain ⟨b6, b7⟩ := Bool.and_eq_true_iff.mp b5
  have hB3 : vRel KT ρ3 σB tyB HB (wB (vExS [] x.1 (wNp u) GA0.length (P ++ θ) (List.range GA0.length) s) g) := wB_of b2 (vRel_ext hB k2 (fun i hi => b1.1 i hi) (fun _ _ => rfl)) rfl rfl nrB
  obtain ⟨ρ4, σB4, c1, c2, -, -, c5⟩ := vExt1_th b7 hB3 (ρ2 := ρ1) (σ2 := σB1) (fun i hi => (b3 i hi).symm) (sy o3 a3) rB (vLe_rf tyB) (vFrm_rf [] tyB HB)
  have hA4 : vRel KT ρ4 σA3 tyA HA (vExS [] x.1 (wNp u) GA0.length (P ++ θ) (List.range GA0.length) s) := vRel_ext b2 b6 (fun i hi => c1.1 i hi) (fun _ _ => rfl)
  refine ⟨ρ4, σA3, σB4, (vExS [] x.1 (wNp u) GA0.length (P ++ θ) (List.range GA0.length) s), (sG (vExS [] (wNb x) (aI x.1).length GB0.length (thX (sN s) ((aI x.1).length - wNp u) (P ++ θ)) (List.range GB0.length) (wB (vExS [] x.1 (wNp u) GA0.length (P ++ θ) (List.range GA0.length) s) g)), sF (vExS [] (wNb x) (aI x.1).length GB0.length (thX (sN s) ((aI x.1).length - wNp u) (P ++ θ)) (List.range GB0.length) (wB (vExS [] x.1 (wNp u) GA0.length (P ++ θ) (List.range GA0.length) s) g))), ⟨fun i hi => (c1.1 i (Nat.lt_of_lt_of_le hi b1.2.2.1)).trans (b1.1 i hi), b1.2.1, b1.2.2.1, b1.2.2.2⟩, c1.2.1, c1.2.2.2, hA4, wB_of hA4 c2 rfl rfl nrB, c5⟩
/-- what is done before a pair of runs: sums are asked, families taken -/
def wUn (l : List Nat) (s : vSt) (g : wGs) : wGs := (g.1, sF (uUn l (wB s g)))
def wNw (n m : Nat) : List Nat := (List.range (m - n)).map (fun i => n + i)
/-- how many times -/
def wMu (n : Nat) : Int := ((Nat.sub n 1000 : Nat) : Int)
theorem wMu_nn (n : Nat) : 0 ≤ wMu n := Int.natCast_nonneg _
/-- e isn't below 0, seen by two of what is known -/
def wG2 (s : vSt) (e : lT) : Bool := lGe (sI s) (sC s) e || (sC s).any (fun c => lGe (sI s) (sC s) (lSub e c))
theorem wG2_spec {KT : vKT} {ρ : Nat → Int} {σ : Nat → Nat} {ty : Nat → Option Nat} {H : List (XC Int32)} {s : vSt} (h : vRel KT ρ σ ty H s) {e : lT} (hk : wG2 s e = true) : 0 ≤ lEv ρ e := by
  rcases Bool.or_eq_true_iff.mp hk with k | k
  · exact lGe_spec h.2.2.2.1 h.2.2.2.2.1 k
  · obtain ⟨c, hc, k⟩ := List.any_eq_true.mp k
    have k2 := lGe_spec h.2.2.2.1 h.2.2.2.2.1 k
    have k3 := h.2.2.2.2.1 c hc
    rw [lSub_ev] at k2
    omega
def wMl (p : Nat × lT) (s : vSt) (kk : vSt → Bool) : Bool := if wG2 s p.2 = true then (match vCo (lSc (wMu p.1) p.2) s with
  | some s2 => kk s2
  | none => true) else kk s
theorem wMl_spec {KT : vKT} {ρ : Nat → Int} {σ : Nat → Nat} {ty : Nat → Option Nat} {H : List (XC Int32)} {s : vSt} (h : vRel KT ρ σ ty H s) {p : Nat × lT} {kk : vSt → Bool} (hk : wMl p s kk = true) : ∃ s2, vRel KT ρ σ ty H s2 ∧ vExt s s2 ρ ρ σ σ ∧ sG s2 = sG s ∧ kk s2 = true := by
  unfold wMl at hk
  split at hk
  · rename_i hg
    obtain ⟨s2, v1, v2, v3, v4, -⟩ := vCo_spec h (e := lSc (wMu p.1) p.2) (by
      rw [lSc_ev]
      exact Int.mul_nonneg (wMu_nn _) (wG2_spec h hg))
    rw [v1] at hk
    exact ⟨s2, v2, v3, v4, hk⟩
  · exact ⟨s, h, vExt_rf s ρ σ, rfl, hk⟩
theorem wMl_eq (p : Nat × lT) (s : vSt) : (∃ s2, ∀ kk, wMl p s kk = kk s2) ∨ ∀ kk, wMl p s kk = true := by
  by_cases c : wG2 s p.2 = true
  · rcases hv : vCo (lSc (wMu p.1) p.2) s with _ | s2
    · refine Or.inr fun kk => ?_
      unfold wMl
      rw [if_pos c, hv]
    · refine Or.inl ⟨s2, fun kk => ?_⟩
      unfold wMl
      rw [if_pos c, hv]
  · refine Or.inl ⟨s, fun kk => ?_⟩
    unfold wMl
    rw [if_neg c]
/-- contradictory: a cell apart from itself; two cells at one place that are apart -/
def tdAp (F : List vK) : Bool := F.any (fun f => kyAp f.2.1 && (match f.2.2 with
  | .inr (some k) => Nat.beq k f.1
  | _ => false))
def tdTw (F0 : List vK) : List vK → Bool
  | [] => false
  | f :: r => (!(kyAp f.2.1) && (match f.2.2 with
    | .inr (some a) => r.any (fun g => Nat.beq g.1 f.1 && (kyEq g.2.1 f.2.1 && (match g.2.2 with
      | .inr (some b) => fAp F0 a b
      | _ => false)))
    | _ => false)) || tdTw F0 r
theorem vHolds_pl {ρ : Nat → Int} {σ : Nat → Nat} {H : List (XC Int32)} {f : vK} (h : vHolds ρ σ H f) (hk : kyAp f.2.1 = false) : vPlace ρ σ H f.1 f.2.1 (cv ρ σ f.2.2) := by
  rcases h with h | ⟨k, k1, -, -⟩
  · exact h
  · rw [k1] at hk
    exact absurd hk (by decide)
theorem tdAp_spec {ρ : Nat → Int} {σ : Nat → Nat} {H : List (XC Int32)} {F : List vK} (hF : ∀ f ∈ F, vHolds ρ σ H f) (h : tdAp F = true) : False := by
  obtain ⟨f, hf, h⟩ := List.any_eq_true.mp h
  obtain ⟨h1, h2⟩ := Bool.and_eq_true_iff.mp h
  split at h2
  · rename_i k hk
    have e := Nat.eq_of_beq_eq_true h2
    have : fAp F f.1 f.1 = true := List.any_eq_true.mpr ⟨f, hf, Bool.and_eq_true_iff.mpr ⟨h1, by
      rw [hk, e]
      simp⟩⟩
    exact fAp_spec hF this rfl
  · cases h2
theorem tdTw_spec {ρ : Nat → Int} {σ : Nat → Nat} {H : List (XC Int32)} {F0 : List vK} (h0 : ∀ f ∈ F0, vHolds ρ σ H f) : ∀ {F : List vK}, (∀ f ∈ F, vHolds ρ σ H f) → tdTw F0 F = true → False
  | [], _, h => by cases h
  | f :: r, hF, h => by
    unfold tdTw at h
    rcases Bool.or_eq_true_iff.mp h with h | h
    rotate_left
    · exact tdTw_spec h0 (fun g hg => hF g (List.mem_cons_of_mem _ hg)) h
    obtain ⟨h1, h2⟩ := Bool.and_eq_true_iff.mp h
    have h1 : kyAp f.2.1 = false := by simpa using h1
    split at h2
    rotate_left
    · cases h2
    rename_i a ha
    obtain ⟨g, hg, h3⟩ := List.any_eq_true.mp h2
    obtain ⟨h4, h5⟩ := Bool.and_eq_true_iff.mp h3
    obtain ⟨h5, h6⟩ := Bool.and_eq_true_iff.mp h5
    have e1 := Nat.eq_of_beq_eq_true h4
    have e2 := kyEq_spec h5
    split at h6
    rotate_left
    · cases h6
    rename_i b hb
    have p1 := vHolds_pl (hF f List.mem_cons_self) h1
    have p2 := vHolds_pl (hF g (List.mem_cons_of_mem _ hg)) (by rw [e2]; exact h1)
    rw [e1, e2] at p2
    have e3 := vPlace_one p1 p2
    rw [ha, hb] at e3
    have e4 : sR σ a = sR σ b := by
      have e3 : (Sum.inr (some (sR σ a)) : XV Int32) = Sum.inr (some (sR σ b)) := e3
      injection e3 with e3
      injection e3
    exact fAp_spec h0 h6 e4
/-- the same by the list's own recursor; of the newest facts alone -/
def lAnyR {α : Type} (p : α → Bool) (l : List α) : Bool := List.rec (motive := fun _ => Bool) false (fun a _ h => Bool.rec (motive := fun _ => Bool) h true (p a)) l
theorem lAnyR_eq {α : Type} (p : α → Bool) : ∀ l : List α, lAnyR p l = l.any p
  | [] => rfl
  | a :: r => by
    show Bool.rec (motive := fun _ => Bool) (lAnyR p r) true (p a) = (p a || r.any p)
    rw [lAnyR_eq p r]
    cases p a <;> rfl
def tdTwG (F0 : List vK) (i : Nat) (k : Nat ⊕ lT) (a : Nat) (g : vK) : Bool := Bool.rec (motive := fun _ => Bool) false (Bool.rec (motive := fun _ => Bool) false (Sum.rec (motive := fun _ => Bool) (fun _ => false) (fun o => Option.rec (motive := fun _ => Bool) false (fun b => fAp F0 a b) o) g.2.2) (kyEq g.2.1 k)) (Nat.beq g.1 i)
theorem tdTwG_eq (F0 : List vK) (i : Nat) (k : Nat ⊕ lT) (a : Nat) (g : vK) : tdTwG F0 i k a g = (Nat.beq g.1 i && (kyEq g.2.1 k && (match g.2.2 with
      | .inr (some b) => fAp F0 a b
      | _ => false))) := by
  obtain ⟨j, k2, v⟩ := g
  show Bool.rec (motive := fun _ => Bool) false (Bool.rec (motive := fun _ => Bool) false (Sum.rec (motive := fun _ => Bool) (fun _ => false) (fun o => Option.rec (motive := fun _ => Bool) false (fun b => fAp F0 a b) o) v) (kyEq k2 k)) (Nat.beq j i) = _
  rcases v with e | (_ | b) <;> dsimp only <;> cases Nat.beq j i <;> cases kyEq k2 k <;> rfl
def tdTw1 (F0 : List vK) (f : vK) (r : List vK) : Bool := Sum.rec (motive := fun _ => Bool) (fun _ => false) (fun o => Option.rec (motive := fun _ => Bool) false (fun a => Bool.rec (motive := fun _ => Bool) (lAnyR (tdTwG F0 f.1 f.2.1 a) r) false (kyAp f.2.1)) o) f.2.2
theorem tdTw1_tw {F0 : List vK} {f : vK} {r : List vK} (h : tdTw1 F0 f r = true) : tdTw F0 (f :: r) = true := by
  obtain ⟨i, k, v⟩ := f
  unfold tdTw1 at h
  rcases v with e | (_ | a)
  · cases h
  · cases h
  have h : Bool.rec (motive := fun _ => Bool) (lAnyR (tdTwG F0 i k a) r) false (kyAp k) = true := h
  rcases hk : kyAp k with _ | _
  · rw [hk] at h
    have h : lAnyR (tdTwG F0 i k a) r = true := h
    rw [lAnyR_eq, funext (tdTwG_eq F0 i k a)] at h
    unfold tdTw
    dsimp only
    rw [hk, h]
    rfl
  · rw [hk] at h
    cases h
def tdTwN (F0 : List vK) : Nat → List vK → Bool
  | 0, _ => false
  | _ + 1, [] => false
  | n + 1, f :: r => tdTw1 F0 f r || tdTwN F0 n r
theorem tdTwN_spec {ρ : Nat → Int} {σ : Nat → Nat} {H : List (XC Int32)} {F0 : List vK} (h0 : ∀ f ∈ F0, vHolds ρ σ H f) : ∀ {n : Nat} {F : List vK}, (∀ f ∈ F, vHolds ρ σ H f) → tdTwN F0 n F = true → False
  | 0, _, _, h => by cases h
  | _ + 1, [], _, h => by cases h
  | n + 1, f :: r, hF, h => by
    rcases Bool.or_eq_true_iff.mp h with h | h
    · exact tdTw_spec h0 hF (tdTw1_tw h)
    · exact tdTwN_spec h0 (fun g hg => hF g (List.mem_cons_of_mem _ hg)) h
def tdTwR (F : List vK) : Bool := tdTwN F F.length F
/-- sums at one place are alike: differences that are 0 -/
def tdEq (I : lI) : List vK → List lT
  | [] => []
  | f :: r => match f.2.2 with
    | .inl v => if kyAp f.2.1 = true then tdEq I r else (match fGet f.1 f.2.1 r with
      | some (.inl u) => if (!(lEq v u) && lFit I v && lFit I u) = true then lSub v u :: tdEq I r else tdEq I r
      | _ => tdEq I r)
    | _ => tdEq I r
theorem tdEq_spec {ρ : Nat → Int} {σ : Nat → Nat} {H : List (XC Int32)} {I : lI} (hI : iHd ρ I) : ∀ {F : List vK}, (∀ f ∈ F, vHolds ρ σ H f) → ∀ e ∈ tdEq I F, lEv ρ e = 0
  | [], _, e, he => by cases he
  | f :: r, hF, e, he => by
    have ih := tdEq_spec (H := H) hI (F := r) (fun g hg => hF g (List.mem_cons_of_mem _ hg)) e
    unfold tdEq at he
    split at he
    rotate_left
    · exact ih he
    rename_i v hv
    split at he
    · exact ih he
    rename_i hk
    split at he
    rotate_left
    · exact ih he
    rename_i u hu
    split at he
    rotate_left
    · exact ih he
    rename_i hc
    rcases List.mem_cons.mp he with he | he
    rotate_left
    · exact ih he
    simp only [Bool.and_eq_true] at hc
    have p1 := vHolds_pl (hF f List.mem_cons_self) (by simpa using hk)
    have p2 := fGet_spec (fun g hg => hF g (List.mem_cons_of_mem _ hg)) hu
    have e3 := vPlace_one p1 p2
    rw [hv] at e3
    have e3 : (Sum.inl (Int32.ofInt (lEv ρ v)) : XV Int32) = Sum.inl (Int32.ofInt (lEv ρ u)) := e3
    injection e3 with e3
    have a := lFit_spec hI hc.1.2
    have b := lFit_spec hI hc.2
    rw [e3] at a
    rw [he, lSub_ev]
    omega
def tdEqN (I : lI) : Nat → List vK → List lT
  | 0, _ => []
  | _ + 1, [] => []
  | n + 1, f :: r => match f.2.2 with
    | .inl v => if kyAp f.2.1 = true then tdEqN I n r else (match fGet f.1 f.2.1 r with
      | some (.inl u) => if (!(lEq v u) && lFit I v && lFit I u) = true then lSub v u :: tdEqN I n r else tdEqN I n r
      | _ => tdEqN I n r)
    | _ => tdEqN I n r
theorem tdEqN_spec {ρ : Nat → Int} {σ : Nat → Nat} {H : List (XC Int32)} {I : lI} (hI : iHd ρ I) : ∀ {n : Nat} {F : List vK}, (∀ f ∈ F, vHolds ρ σ H f) → ∀ e ∈ tdEqN I n F, lEv ρ e = 0
  | 0, _, _, e, he => by cases he
  | _ + 1, [], _, e, he => by cases he
  | n + 1, f :: r, hF, e, he => by
    have ih := tdEqN_spec (H := H) hI (n := n) (F := r) (fun g hg => hF g (List.mem_cons_of_mem _ hg)) e
    unfold tdEqN at he
    split at he
    rotate_left
    · exact ih he
    rename_i v hv
    split at he
    · exact ih he
    rename_i hk
    split at he
    rotate_left
    · exact ih he
    rename_i u hu
    split at he
    rotate_left
    · exact ih he
    rename_i hc
    rcases List.mem_cons.mp he with he | he
    rotate_left
    · exact ih he
    simp only [Bool.and_eq_true] at hc
    have p1 := vHolds_pl (hF f List.mem_cons_self) (by simpa using hk)
    have p2 := fGet_spec (fun g hg => hF g (List.mem_cons_of_mem _ hg)) hu
    have e3 := vPlace_one p1 p2
    rw [hv] at e3
    have e3 : (Sum.inl (Int32.ofInt (lEv ρ v)) : XV Int32) = Sum.inl (Int32.ofInt (lEv ρ u)) := e3
    injection e3 with e3
    have a := lFit_spec hI hc.1.2
    have b := lFit_spec hI hc.2
    rw [e3] at a
    rw [he, lSub_ev]
    omega
def lCoef : List (Nat × Int) → Nat → Int
  | [], _ => 0
  | p :: r, x => bif Nat.beq p.1 x then p.2 else lCoef r x
/-- with its greatest unknown once -/
def tdNm (e : lT) : List lT := match e.2 with
  | p :: _ => if iE p.2 1 || iE p.2 (-1) then [lSc p.2 e] else []
  | [] => []
/-- sums that are 0, for they and their opposites aren't below 0 -/
def tdCe (C : List lT) : List lT := C.filter (fun c => (match c.2 with
  | p :: _ => iE p.2 1
  | [] => false) && C.any (fun d => lEq d (lSc (-1) c)))
def tdRw1 (e : lT) (x : Nat) (F : List vK) : List vK := F.filterMap (fun f => match f.2.2 with
  | .inl v => if kyAp f.2.1 = true then none else if iE (lCoef v.2 x) 0 then none else some (f.1, f.2.1, .inl (lSub v (lSc (lCoef v.2 x) e)))
  | _ => none)
def tdRw (E : List lT) (F : List vK) : List vK := E.flatMap (fun e => match e.2 with
  | p :: _ => tdRw1 e p.1 F
  | [] => [])
def tdNw (C : List lT) (e : lT) : List lT := e :: lSc (-1) e :: e.2.flatMap (fun p => C.filterMap (fun c => if iE (lCoef c.2 p.1) 0 then none else if iE p.2 1 || iE p.2 (-1) then some (lSub c (lSc (lCoef c.2 p.1 * p.2) e)) else none))
def tdAd : List lT → vSt → Option vSt
  | [], s => some s
  | e :: r, s => if lGe (sI s) (sC s) e = true then tdAd r s else (match vCo e s with
    | none => none
    | some s2 => tdAd r s2)
theorem tdAd_spec {KT : vKT} {ρ : Nat → Int} {σ : Nat → Nat} {ty : Nat → Option Nat} {H : List (XC Int32)} : ∀ {l : List lT} {s : vSt}, vRel KT ρ σ ty H s → (∀ e ∈ l, 0 ≤ lEv ρ e) → ∃ s2, tdAd l s = some s2 ∧ vRel KT ρ σ ty H s2 ∧ vExt s s2 ρ ρ σ σ ∧ sG s2 = sG s
  | [], s, h, _ => ⟨s, rfl, h, vExt_rf s ρ σ, rfl⟩
  | e :: r, s, h, he => by
    unfold tdAd
    split
    · exact tdAd_spec h (fun x hx => he x (List.mem_cons_of_mem _ hx))
    · obtain ⟨s2, v1, v2, v3, v4, -⟩ := vCo_spec h (he e List.mem_cons_self)
      rw [v1]
      obtain ⟨s3, w1, w2, w3, w4⟩ := tdAd_spec v2 (fun x hx => he x (List.mem_cons_of_mem _ hx))
      exact ⟨s3, w1, w2, vExt_tr v3 w3, w4.trans v4⟩
theorem tdNm_spec {ρ : Nat → Int} {e : lT} (h : lEv ρ e = 0) : ∀ x ∈ tdNm e, lEv ρ x = 0 := fun x hx => by
  unfold tdNm at hx
  split at hx
  · split at hx
    · rw [List.mem_singleton.mp hx, lSc_ev, h, Int.mul_zero]
    · cases hx
  · cases hx
theorem tdCe_spec {ρ : Nat → Int} {C : List lT} (h : ∀ c ∈ C, 0 ≤ lEv ρ c) : ∀ x ∈ tdCe C, lEv ρ x = 0 := fun x hx => by
  obtain ⟨h1, h2⟩ := List.mem_filter.mp hx
  obtain ⟨d, hd, h3⟩ := List.any_eq_true.mp (Bool.and_eq_true_iff.mp h2).2
  have a := h x h1
  have b := h d hd
  rw [lEq_spec h3, lSc_ev] at b
  omega
theorem tdRw_spec {ρ : Nat → Int} {σ : Nat → Nat} {H : List (XC Int32)} {E : List lT} (hE : ∀ e ∈ E, lEv ρ e = 0) {F : List vK} (hF : ∀ f ∈ F, vHolds ρ σ H f) : ∀ f ∈ tdRw E F, vHolds ρ σ H f := fun f hf => by
  obtain ⟨e, he, hf⟩ := List.mem_flatMap.mp hf
  split at hf
  rotate_left
  · cases hf
  obtain ⟨g, hg, hf⟩ := List.mem_filterMap.mp hf
  split at hf
  rotate_left
  · cases hf
  rename_i v hv
  split at hf
  · cases hf
  rename_i hk
  split at hf
  · cases hf
  cases hf
  have p := vHolds_pl (hF g hg) (by simpa using hk)
  rw [hv] at p
  refine Or.inl ?_
  show vPlace ρ σ H g.1 g.2.1 (Sum.inl (Int32.ofInt (lEv ρ (lSub v (lSc _ e)))))
  rw [lSub_ev, lSc_ev, hE e he, Int.mul_zero, Int.sub_zero]
  exact p
theorem tdNw_spec {ρ : Nat → Int} {C : List lT} (h : ∀ c ∈ C, 0 ≤ lEv ρ c) {e : lT} (he : lEv ρ e = 0) : ∀ x ∈ tdNw C e, 0 ≤ lEv ρ x := fun x hx => by
  rcases List.mem_cons.mp hx with hx | hx
  · rw [hx]
    omega
  rcases List.mem_cons.mp hx with hx | hx
  · rw [hx, lSc_ev]
    omega
  obtain ⟨p, -, hx⟩ := List.mem_flatMap.mp hx
  obtain ⟨c, hc, hx⟩ := List.mem_filterMap.mp hx
  split at hx
  · cases hx
  split at hx
  · cases hx
    rw [lSub_ev, lSc_ev, he, Int.mul_zero, Int.sub_zero]
    exact h c hc
  · cases hx
def tdE (s : vSt) (g : wGs) : List lT := tdEq (sI s) (sF s) ++ tdEq (sI s) g.2
def tdE2 (s : vSt) (g : wGs) : List lT := (tdE s g).flatMap tdNm ++ tdCe (sC s)
def tdS (s : vSt) (g : wGs) : vSt := (sN s, sG s, tdRw (tdE2 s g) (sF s) ++ sF s, sI s, sC s, sM s, sRw s)
def wTd (s : vSt) (g : wGs) (kk : vSt → wGs → Bool) : Bool := if (tdAp (sF s) || tdTwR (sF s) || tdAp g.2 || tdTwR g.2) = true then true else (match tdAd ((tdE s g).flatMap (tdNw (sC s))) (tdS s g) with
  | none => true
  | some s2 => if (sC s2).any (fun c => lGe (sI s2) (sC s2) (lSub (lK (-1)) c)) = true then true else kk s2 (g.1, tdRw (tdE2 s g) g.2 ++ g.2))
theorem wTd_spec {KT : vKT} {ρ : Nat → Int} {σA σB : Nat → Nat} {tyA tyB : Nat → Option Nat} {HA HB : List (XC Int32)} {s : vSt} {g : wGs} (hA : vRel KT ρ σA tyA HA s) (hB : vRel KT ρ σB tyB HB (wB s g)) {kk : vSt → wGs → Bool} (hk : wTd s g kk = true) : ∃ s2 g2, vRel KT ρ σA tyA HA s2 ∧ vRel KT ρ σB tyB HB (wB s2 g2) ∧ vExt s s2 ρ ρ σA σA ∧ sG s2 = sG s ∧ g2.1 = g.1 ∧ kk s2 g2 = true := by
  have nrB := vRel_noraw hB rfl
  have hFA := hA.2.2.1
  have hFB : ∀ f ∈ g.2, vHolds ρ σB HB f := hB.2.2.1
  have hE : ∀ e ∈ tdE s g, lEv ρ e = 0 := fun e he => by
    rcases List.mem_append.mp he with he | he
    · exact tdEq_spec hA.2.2.2.1 hFA e he
    · exact tdEq_spec hA.2.2.2.1 hFB e he
  have hE2 : ∀ e ∈ tdE2 s g, lEv ρ e = 0 := fun e he => by
    rcases List.mem_append.mp he with he | he
    · obtain ⟨x, hx, he⟩ := List.mem_flatMap.mp he
      exact tdNm_spec (hE x hx) e he
    · exact tdCe_spec hA.2.2.2.2.1 e he
  unfold wTd at hk
  split at hk
  · rename_i hc
    exfalso
    rcases Bool.or_eq_true_iff.mp hc with hc | hc
    · rcases Bool.or_eq_true_iff.mp hc with hc | hc
      · rcases Bool.or_eq_true_iff.mp hc with hc | hc
        · exact tdAp_spec hFA hc
        · exact tdTwN_spec hFA hFA hc
      · exact tdAp_spec hFB hc
    · exact tdTwN_spec hFB hFB hc
  have h1 : vRel KT ρ σA tyA HA (tdS s g) := ⟨hA.1, hA.2.1, fun f hf => by
    rcases List.mem_append.mp hf with hf | hf
    · exact tdRw_spec hE2 hFA f hf
    · exact hFA f hf, hA.2.2.2.1, hA.2.2.2.2.1, hA.2.2.2.2.2.1, hA.2.2.2.2.2.2.1, hA.2.2.2.2.2.2.2⟩
  obtain ⟨s2, v1, v2, v3, v4⟩ := tdAd_spec (l := (tdE s g).flatMap (tdNw (sC s))) h1 (fun e he => by
    obtain ⟨x, hx, he⟩ := List.mem_flatMap.mp he
    exact tdNw_spec hA.2.2.2.2.1 (hE x hx) e he)
  rw [v1] at hk
  dsimp only at hk
  split at hk
  · rename_i hc
    exfalso
    obtain ⟨c, hc, h2⟩ := List.any_eq_true.mp hc
    have a := v2.2.2.2.2.1 c hc
    have b := lGe_spec v2.2.2.2.1 v2.2.2.2.2.1 h2
    rw [lSub_ev, lK_ev] at b
    omega
  refine ⟨s2, (g.1, tdRw (tdE2 s g) g.2 ++ g.2), v2, ?_, v3, v4, rfl, hk⟩
  have hB1 : vRel KT ρ σB tyB HB (wB s (g.1, tdRw (tdE2 s g) g.2 ++ g.2)) := ⟨hB.1, hB.2.1, fun f hf => by
    rcases List.mem_append.mp hf with hf | hf
    · exact tdRw_spec hE2 hFB f hf
    · exact hFB f hf, hB.2.2.2.1, hB.2.2.2.2.1, hB.2.2.2.2.2.1, hB.2.2.2.2.2.2.1, hB.2.2.2.2.2.2.2⟩
  exact wB_of v2 hB1 rfl rfl nrB
theorem wTd_eq (s : vSt) (g : wGs) : (∃ s2 g2, ∀ kk, wTd s g kk = kk s2 g2) ∨ ∀ kk, wTd s g kk = true := by
  by_cases c : (tdAp (sF s) || tdTwR (sF s) || tdAp g.2 || tdTwR g.2) = true
  · refine Or.inr fun kk => ?_
    unfold wTd
    rw [if_pos c]
  rcases h : tdAd ((tdE s g).flatMap (tdNw (sC s))) (tdS s g) with _ | s2
  · refine Or.inr fun kk => ?_
    unfold wTd
    rw [if_neg c, h]
  by_cases d : (sC s2).any (fun c => lGe (sI s2) (sC s2) (lSub (lK (-1)) c)) = true
  · refine Or.inr fun kk => ?_
    unfold wTd
    rw [if_neg c, h]
    dsimp only
    rw [if_pos d]
  · refine Or.inl ⟨s2, (g.1, tdRw (tdE2 s g) g.2 ++ g.2), fun kk => ?_⟩
    unfold wTd
    rw [if_neg c, h]
    dsimp only
    rw [if_neg d]
/-- tidied by the newest facts alone -/
def tdEN (n : Nat) (s : vSt) (g : wGs) : List lT := tdEqN (sI s) n (sF s) ++ tdEqN (sI s) n g.2
def wTdN (n : Nat) (s : vSt) (g : wGs) (kk : vSt → wGs → Bool) : Bool := if (tdTwN (sF s) n (sF s) || tdTwN g.2 n g.2) = true then true else (match tdAd ((tdEN n s g).flatMap (tdNw (tdEN n s g ++ ((tdEN n s g).map (lSc (-1)) ++ sC s)))) s with
  | none => true
  | some s2 => if (sC s2).any (fun c => lGe (sI s2) (sC s2) (lSub (lK (-1)) c)) = true then true else kk s2 g)
theorem wTdN_spec {KT : vKT} {ρ : Nat → Int} {σA σB : Nat → Nat} {tyA tyB : Nat → Option Nat} {HA HB : List (XC Int32)} {n : Nat} {s : vSt} {g : wGs} (hA : vRel KT ρ σA tyA HA s) (hB : vRel KT ρ σB tyB HB (wB s g)) {kk : vSt → wGs → Bool} (hk : wTdN n s g kk = true) : ∃ s2 g2, vRel KT ρ σA tyA HA s2 ∧ vRel KT ρ σB tyB HB (wB s2 g2) ∧ vExt s s2 ρ ρ σA σA ∧ sG s2 = sG s ∧ g2.1 = g.1 ∧ kk s2 g2 = true := by
  have nrB := vRel_noraw hB rfl
  have hFA := hA.2.2.1
  have hFB : ∀ f ∈ g.2, vHolds ρ σB HB f := hB.2.2.1
  have hE : ∀ e ∈ tdEN n s g, lEv ρ e = 0 := fun e he => by
    rcases List.mem_append.mp he with he | he
    · exact tdEqN_spec hA.2.2.2.1 hFA e he
    · exact tdEqN_spec hA.2.2.2.1 hFB e he
  have hC : ∀ c ∈ tdEN n s g ++ ((tdEN n s g).map (lSc (-1)) ++ sC s), 0 ≤ lEv ρ c := fun c hc => by
    rcases List.mem_append.mp hc with hc | hc
    · rw [hE c hc]
      exact Int.le_refl 0
    rcases List.mem_append.mp hc with hc | hc
    · obtain ⟨e, he, rfl⟩ := List.mem_map.mp hc
      rw [lSc_ev, hE e he, Int.mul_zero]
      exact Int.le_refl 0
    · exact hA.2.2.2.2.1 c hc
  unfold wTdN at hk
  split at hk
  · rename_i hc
    exfalso
    rcases Bool.or_eq_true_iff.mp hc with hc | hc
    · exact tdTwN_spec hFA hFA hc
    · exact tdTwN_spec hFB hFB hc
  obtain ⟨s2, v1, v2, v3, v4⟩ := tdAd_spec (l := (tdEN n s g).flatMap (tdNw (tdEN n s g ++ ((tdEN n s g).map (lSc (-1)) ++ sC s)))) hA (fun e he => by
    obtain ⟨x, hx, he⟩ := List.mem_flatMap.mp he
    exact tdNw_spec hC (hE x hx) e he)
  rw [v1] at hk
  dsimp only at hk
  split at hk
  · rename_i hc
    exfalso
    obtain ⟨c, hc, h2⟩ := List.any_eq_true.mp hc
    have a := v2.2.2.2.2.1 c hc
    have b := lGe_spec v2.2.2.2.1 v2.2.2.2.2.1 h2
    rw [lSub_ev, lK_ev] at b
    omega
  exact ⟨s2, g, v2, wB_of v2 hB rfl rfl nrB, v3, v4, rfl, hk⟩
theorem wTdN_eq (n : Nat) (s : vSt) (g : wGs) : (∃ s2 g2, ∀ kk, wTdN n s g kk = kk s2 g2) ∨ ∀ kk, wTdN n s g kk = true := by
  by_cases c : (tdTwN (sF s) n (sF s) || tdTwN g.2 n g.2) = true
  · refine Or.inr fun kk => ?_
    unfold wTdN
    rw [if_pos c]
  rcases h : tdAd ((tdEN n s g).flatMap (tdNw (tdEN n s g ++ ((tdEN n s g).map (lSc (-1)) ++ sC s)))) s with _ | s2
  · refine Or.inr fun kk => ?_
    unfold wTdN
    rw [if_neg c, h]
  by_cases d : (sC s2).any (fun c => lGe (sI s2) (sC s2) (lSub (lK (-1)) c)) = true
  · refine Or.inr fun kk => ?_
    unfold wTdN
    rw [if_neg c, h]
    dsimp only
    rw [if_pos d]
  · refine Or.inl ⟨s2, g, fun kk => ?_⟩
    unfold wTdN
    rw [if_neg c, h]
    dsimp only
    rw [if_neg d]
/-- ops beside asks and families: known so many times; tidied -/
def wXo (p : Nat × lT) (s : vSt) (g : wGs) (kk : vSt → wGs → Bool) : Bool := if Nat.ble 2001 p.1 = true then wTdN (Nat.sub p.1 2000) s g kk else if Nat.ble 2000 p.1 = true then wTd s g kk else if lBd (sN s) p.2 = true then wMl p s (fun s2 => kk s2 g) else kk s g
theorem wXo_spec {KT : vKT} {ρ : Nat → Int} {σA σB : Nat → Nat} {tyA tyB : Nat → Option Nat} {HA HB : List (XC Int32)} {p : Nat × lT} {s : vSt} {g : wGs} (hA : vRel KT ρ σA tyA HA s) (hB : vRel KT ρ σB tyB HB (wB s g)) {kk : vSt → wGs → Bool} (hk : wXo p s g kk = true) : ∃ s2 g2, vRel KT ρ σA tyA HA s2 ∧ vRel KT ρ σB tyB HB (wB s2 g2) ∧ vExt s s2 ρ ρ σA σA ∧ sG s2 = sG s ∧ g2.1 = g.1 ∧ kk s2 g2 = true := by
  unfold wXo at hk
  split at hk
  · exact wTdN_spec hA hB hk
  split at hk
  · exact wTd_spec hA hB hk
  split at hk
  · obtain ⟨s2, v2, v3, v4, v5⟩ := wMl_spec hA hk
    exact ⟨s2, g, v2, wB_of v2 hB rfl rfl (vRel_noraw hB rfl), v3, v4, rfl, v5⟩
  · exact ⟨s, g, hA, hB, vExt_rf s ρ σA, rfl, rfl, hk⟩
theorem wXo_eq (p : Nat × lT) (s : vSt) (g : wGs) : (∃ s2 g2, ∀ kk, wXo p s g kk = kk s2 g2) ∨ ∀ kk, wXo p s g kk = true := by
  unfold wXo
  split
  · exact wTdN_eq _ s g
  split
  · exact wTd_eq s g
  split
  · rcases wMl_eq p s with ⟨s2, e⟩ | e
    · exact Or.inl ⟨s2, g, fun kk => e _⟩
    · exact Or.inr fun kk => e _
  · exact Or.inl ⟨s, g, fun kk => rfl⟩
def wGo (GA0 GB0 : List Nat) (US : List wN) (kk : List lT → vSt → wGs → Bool) : List uOp → List lT → Bool → vSt → wGs → Bool
  | [], sk, _, s, g => kk sk s g
  | .inl e :: r, sk, b, s, g => if lBd (sN s) e = true then vAsk e s (fun s2 => wGo GA0 GB0 US kk r sk b s2 g) (fun s2 => wGo GA0 GB0 US kk r sk b s2 g) else wGo GA0 GB0 US kk r sk b s g
  | .inr (.inl p) :: r, sk, b, s, g => match sk[p.1]? with
    | some l => if lQ (sI s) (sC s) l p.2 = true then wGo GA0 GB0 US kk r (sk.set p.1 p.2) true s g else wGo GA0 GB0 US kk r sk b s g
    | none => wXo p s g (fun s2 g2 => wGo GA0 GB0 US kk r sk b s2 g2)
  | .inr (.inr q) :: r, sk, b, s, g => match US[q.1]? with
    | some u => if (q.2.isEmpty && b && !((wBd u).isEmpty)) = true then wGo GA0 GB0 US kk r sk b s g else (match wSm s (wPi u) with
      | none => wGo GA0 GB0 US kk r sk b s g
      | some P => if wPm u P ((uTh sk q.2).take (wBd u).length) s = true then sk.all (lBd (sN s)) && wTk GA0.length GB0.length u P ((uTh sk q.2).take (wBd u).length) s g (fun s2 g2 => decide ((sG s2).take GA0.length = GA0) && decide (g2.1.take GB0.length = GB0) && wGo GA0 GB0 US kk r sk b (uUn (wNw (sG s).length (sG s2).length) s2) (wUn (wNw g.1.length g2.1.length) s2 g2)) else wGo GA0 GB0 US kk r sk b s g)
    | none => false
theorem wGo_spec {KT : vKT} {tyA tyB : Nat → Option Nat} {HA HB : List (XC Int32)} {GA0 GB0 : List Nat} {US : List wN} (hok : ∀ u ∈ US, wOk KT GA0 GB0 u = true) {kk : List lT → vSt → wGs → Bool} : ∀ (ops : List uOp) (sk : List lT) (b : Bool) {ρ : Nat → Int} {σA σB : Nat → Nat} {s : vSt} {g : wGs}, vRel KT ρ σA tyA HA s → vRel KT ρ σB tyB HB (wB s g) → (∀ (i c : Nat), GA0[i]? = some c → (sG s)[i]? = some c) → (∀ (i c : Nat), GB0[i]? = some c → g.1[i]? = some c) → (∀ u ∈ US, wHd GA0.length GB0.length u σA σB HA HB) → wGo GA0 GB0 US kk ops sk b s g = true →
    ∃ ρ2 σA2 σB2 s2 g2 sk2, vExt s s2 ρ ρ2 σA σA2 ∧ (∀ i, i < g.1.length → σB2 i = σB i) ∧ g.1.length ≤ g2.1.length ∧ vRel KT ρ2 σA2 tyA HA s2 ∧ vRel KT ρ2 σB2 tyB HB (wB s2 g2) ∧ sk2.length = sk.length ∧ (∀ j : Nat, lEv ρ2 (sk2.getD j (lK 0)) = lEv ρ (sk.getD j (lK 0))) ∧ kk sk2 s2 g2 = true := by
  intro ops
  induction ops with
  | nil =>
    intro sk b ρ σA σB s g hA hB hGA hGB hU hk
    exact ⟨ρ, σA, σB, s, g, sk, vExt_rf s ρ σA, fun _ _ => rfl, Nat.le_refl _, hA, hB, rfl, fun _ => rfl, hk⟩
  | cons x r ih =>
    intro sk b ρ σA σB s g hA hB hGA hGB hU hk
    have nrB : ∀ a c, tyB a = some c → kRaw KT c = none := vRel_noraw hB rfl
    rcases x with e | p | q
    · unfold wGo at hk
      split at hk
      rotate_left
      · exact ih sk b hA hB hGA hGB hU hk
      obtain ⟨s2, g0, g1, g2⟩ := vAsk_spec hA hk
      have hk2 : wGo GA0 GB0 US kk r sk b s2 g = true := by
        rcases g2 with ⟨-, g2⟩ | ⟨-, g2⟩
        · exact g2
        · exact g2
      obtain ⟨e1, e2, e3, e4⟩ := g1
      obtain ⟨ρ2, σA2, σB2, s3, g3, sk2, a1, a2, a3, a4, a5, a6, a7, a8⟩ := ih sk b g0 (wB_of g0 hB rfl rfl nrB) (by rw [e2]; exact hGA) hGB hU hk2
      exact ⟨ρ2, σA2, σB2, s3, g3, sk2, vExt_tr (vExt_eq ρ σA e1 (by rw [e2])) a1, a2, a3, a4, a5, a6, a7, a8⟩
    · unfold wGo at hk
      split at hk
      rotate_left
      · obtain ⟨s2, g2, v2, v2b, v3, v4, v4b, v5⟩ := wXo_spec hA hB hk
        obtain ⟨ρ2, σA2, σB2, s3, g3, sk2, a1, a2, a3, a4, a5, a6, a7, a8⟩ := ih sk b v2 v2b (by rw [v4]; exact hGA) (by rw [v4b]; exact hGB) hU v5
        rw [v4b] at a2 a3
        exact ⟨ρ2, σA2, σB2, s3, g3, sk2, vExt_tr v3 a1, a2, a3, a4, a5, a6, a7, a8⟩
      rename_i l hl
      split at hk
      · rename_i hq
        have hq2 := lQ_spec hA.2.2.2.1 hA.2.2.2.2.1 hq
        obtain ⟨ρ2, σA2, σB2, s3, g3, sk2, a1, a2, a3, a4, a5, a6, a7, a8⟩ := ih (sk.set p.1 p.2) true hA hB hGA hGB hU hk
        refine ⟨ρ2, σA2, σB2, s3, g3, sk2, a1, a2, a3, a4, a5, a6.trans (List.length_set ..), fun j => (a7 j).trans ?_, a8⟩
        rw [List.getD_eq_getElem?_getD, List.getD_eq_getElem?_getD, List.getElem?_set]
        by_cases c : p.1 = j
        · subst c
          rw [if_pos rfl, if_pos (List.getElem?_eq_some_iff.mp hl).1, hl]
          exact hq2.symm
        · rw [if_neg c]
      · exact ih sk b hA hB hGA hGB hU hk
    · unfold wGo at hk
      split at hk
      rotate_left
      · cases hk
      rename_i u hu
      split at hk
      · exact ih sk b hA hB hGA hGB hU hk
      split at hk
      · exact ih sk b hA hB hGA hGB hU hk
      rename_i P hS
      split at hk
      rotate_left
      · exact ih sk b hA hB hGA hGB hU hk
      rename_i hp
      obtain ⟨k1, k2⟩ := Bool.and_eq_true_iff.mp hk
      have hm := List.mem_of_getElem? hu
      have hoku := hok u hm
      obtain ⟨ρ2, σA2, σB2, s2, g2, b1, b2, b3, b4, b5, b6⟩ := wTk_spec hA hB hGA hGB (hU u hm) hoku hS hp k2
      simp only [Bool.and_eq_true] at b6
      obtain ⟨⟨b6, b7⟩, b8⟩ := b6
      have b6 := of_decide_eq_true b6
      have b7 := of_decide_eq_true b7
      have hlA : ∀ i, i < GA0.length → i < (sG s).length := fun i hi => (List.getElem?_eq_some_iff.mp (hGA i _ (List.getElem?_eq_getElem hi))).1
      have hlB : ∀ i, i < GB0.length → i < g.1.length := fun i hi => (List.getElem?_eq_some_iff.mp (hGB i _ (List.getElem?_eq_getElem hi))).1
      obtain ⟨c1, c2, c3⟩ := uUn_spec (wNw (sG s).length (sG s2).length) b4
      obtain ⟨d1, d2, d3⟩ := uUn_spec (wNw g.1.length g2.1.length) b5
      have d4 : vRel KT ρ2 σB2 tyB HB (wB (uUn (wNw (sG s).length (sG s2).length) s2) (wUn (wNw g.1.length g2.1.length) s2 g2)) := wB_of c1 d1 d3 rfl nrB
      have hpi : ∀ u ∈ US, ∀ p ∈ wPi u, p.1 < GA0.length := fun u hu p hp => by
        have o := hok u hu
        unfold wOk at o
        simp only [Bool.and_eq_true] at o
        exact of_decide_eq_true (List.all_eq_true.mp o.1.1.1 p hp)
      obtain ⟨ρ3, σA3, σB3, s3, g3, sk2, a1, a2, a3, a4, a5, a6, a7, a8⟩ := ih sk b c1 d4 (by rw [c3]; exact take_at b6) (take_at b7) (fun v hv => wHd_ext (hpi v hv) (hU v hv) (fun i hi => by
        unfold sR
        rw [b1.2.1 i (hlA i hi)]) (fun i hi => by
        unfold sR
        rw [b2 i (hlB i hi)])) b8
      refine ⟨ρ3, σA3, σB3, s3, g3, sk2, vExt_tr b1 (vExt_tr (vExt_eq ρ2 σA2 c2 (by rw [c3])) a1), fun i hi => (a2 i (Nat.lt_of_lt_of_le hi b3)).trans (b2 i hi), Nat.le_trans b3 a3, a4, a5, a6, fun j => (a7 j).trans ?_, a8⟩
      rw [List.getD_eq_getElem?_getD]
      rcases hj : sk[j]? with _ | l
      · show lEv ρ2 (lK 0) = lEv ρ (lK 0)
        rw [lK_ev, lK_ev]
      · exact lBd_spec b1.1 (List.all_eq_true.mp k1 l (List.mem_of_getElem? hj))
/-- by the signs of some sums, one class of leaves at a time -/
def wSg (es : List lT) (s : vSt) : Nat := match es with
  | [] => 0
  | e :: r => (bif lGe (sI s) (sC s) e then 2 ^ r.length else 0) + wSg r s
theorem wSg_lt : ∀ (es : List lT) (s : vSt), wSg es s < 2 ^ es.length
  | [], s => Nat.one_pos
  | e :: r, s => by
    have ih := wSg_lt r s
    have h2 : 2 ^ (e :: r).length = 2 ^ r.length + 2 ^ r.length := by
      rw [List.length_cons, Nat.pow_succ]
      omega
    unfold wSg
    rw [h2]
    rcases lGe (sI s) (sC s) e with _ | _
    · show 0 + wSg r s < _
      omega
    · show 2 ^ r.length + wSg r s < _
      omega
theorem wTk_eq (gA gB : Nat) (u : wN) (P θ : List lT) (s : vSt) (g : wGs) : ∃ (C : Bool) (l : List (vSt × wGs)), ∀ kk : vSt → wGs → Bool, wTk gA gB u P θ s g kk = (C && l.all (fun p => kk p.1 p.2)) := by
  have key : ∀ L : List (vAn × vAn), ∃ (C : Bool) (l : List (vSt × wGs)), ∀ kk : vSt → wGs → Bool, L.all (fun x => vExt1 [] x.1 (wNp u) gA (P ++ θ) (List.range gA) s (fun s2 _ => sBd s2 && vExt1 [] (wNb x) (aI x.1).length gB (thX (sN s) ((aI x.1).length - wNp u) (P ++ θ)) (List.range gB) (wB s2 g) (fun sb _ => kk s2 (sG sb, sF sb)))) = (C && l.all (fun p => kk p.1 p.2)) := by
    intro L
    induction L with
    | nil => exact ⟨true, [], fun kk => rfl⟩
    | cons x L ih =>
      obtain ⟨C, l, h⟩ := ih
      let s2 := vExS [] x.1 (wNp u) gA (P ++ θ) (List.range gA) s
      let sb := vExS [] (wNb x) (aI x.1).length gB (thX (sN s) ((aI x.1).length - wNp u) (P ++ θ)) (List.range gB) (wB s2 g)
      refine ⟨vExt1 [] x.1 (wNp u) gA (P ++ θ) (List.range gA) s (fun s2 _ => sBd s2 && vExt1 [] (wNb x) (aI x.1).length gB (thX (sN s) ((aI x.1).length - wNp u) (P ++ θ)) (List.range gB) (wB s2 g) (fun _ _ => true)) && C, (s2, (sG sb, sF sb)) :: l, fun kk => ?_⟩
      rw [List.all_cons, List.all_cons, h kk]
      have e : vExt1 [] x.1 (wNp u) gA (P ++ θ) (List.range gA) s (fun s2 _ => sBd s2 && vExt1 [] (wNb x) (aI x.1).length gB (thX (sN s) ((aI x.1).length - wNp u) (P ++ θ)) (List.range gB) (wB s2 g) (fun sb _ => kk s2 (sG sb, sF sb))) = (vExt1 [] x.1 (wNp u) gA (P ++ θ) (List.range gA) s (fun s2 _ => sBd s2 && vExt1 [] (wNb x) (aI x.1).length gB (thX (sN s) ((aI x.1).length - wNp u) (P ++ θ)) (List.range gB) (wB s2 g) (fun _ _ => true)) && kk s2 (sG sb, sF sb)) := by
        unfold vExt1
        simp only [Bool.and_true, Bool.and_assoc]
        rfl
      rw [e]
      rcases (vExt1 [] x.1 (wNp u) gA (P ++ θ) (List.range gA) s (fun s2 _ => sBd s2 && vExt1 [] (wNb x) (aI x.1).length gB (thX (sN s) ((aI x.1).length - wNp u) (P ++ θ)) (List.range gB) (wB s2 g) (fun _ _ => true))) with _ | _ <;> rcases C with _ | _ <;> rcases kk s2 (sG sb, sF sb) with _ | _ <;> simp
  obtain ⟨C, l, h⟩ := key (wAl u)
  refine ⟨((sRw s).isEmpty && sBd (wB s g)) && C, l, fun kk => ?_⟩
  unfold wTk
  rw [h kk]
  exact (Bool.and_assoc _ _ _).symm
theorem wGo_and {GA0 GB0 : List Nat} {US : List wN} {kk : List lT → vSt → wGs → Bool} {N : Nat} {f : vSt → Nat} (hf : ∀ s, f s < N) : ∀ (ops : List uOp) (sk : List lT) (b : Bool) (s : vSt) (g : wGs), (∀ i, i < N → wGo GA0 GB0 US (fun sk s g => !(Nat.beq (f s) i) || kk sk s g) ops sk b s g = true) → wGo GA0 GB0 US kk ops sk b s g = true := by
  intro ops
  induction ops with
  | nil =>
    intro sk b s g h
    have g1 := h (f s) (hf s)
    have g1 : (!(Nat.beq (f s) (f s)) || kk sk s g) = true := g1
    rw [Nat.beq_refl (f s), Bool.not_true, Bool.false_or] at g1
    exact g1
  | cons x r ih =>
    intro sk b s g h
    rcases x with e | p | q
    · by_cases hbd : lBd (sN s) e = true
      rotate_left
      · unfold wGo
        rw [if_neg hbd]
        refine ih sk b s g (fun i hi => ?_)
        have k := h i hi
        unfold wGo at k
        rw [if_neg hbd] at k
        exact k
      have h0 : ∀ i, i < N → vAsk e s (fun s2 => wGo GA0 GB0 US (fun sk s g => !(Nat.beq (f s) i) || kk sk s g) r sk b s2 g) (fun s2 => wGo GA0 GB0 US (fun sk s g => !(Nat.beq (f s) i) || kk sk s g) r sk b s2 g) = true := fun i hi => by
        have k := h i hi
        unfold wGo at k
        rw [if_pos hbd] at k
        exact k
      unfold wGo
      rw [if_pos hbd]
      unfold vAsk at h0 ⊢
      by_cases c1 : lGe (sI s) (sC s) e = true
      · rw [if_pos c1]
        refine ih sk b s g (fun i hi => ?_)
        have k := h0 i hi
        rw [if_pos c1] at k
        exact k
      by_cases c2 : lGe (sI s) (sC s) (lSub (lK (-1)) e) = true
      · rw [if_neg c1, if_pos c2]
        refine ih sk b s g (fun i hi => ?_)
        have k := h0 i hi
        rw [if_neg c1, if_pos c2] at k
        exact k
      rw [if_neg c1, if_neg c2]
      refine Bool.and_eq_true_iff.mpr ⟨?_, ?_⟩
      · rcases hv : vCo e s with _ | s2
        · rfl
        · refine ih sk b s2 g (fun i hi => ?_)
          have k := h0 i hi
          rw [if_neg c1, if_neg c2, hv] at k
          exact (Bool.and_eq_true_iff.mp k).1
      · rcases hv : vCo (lSub (lK (-1)) e) s with _ | s2
        · rfl
        · refine ih sk b s2 g (fun i hi => ?_)
          have k := h0 i hi
          rw [if_neg c1, if_neg c2, hv] at k
          exact (Bool.and_eq_true_iff.mp k).2
    · rcases hs : sk[p.1]? with _ | l
      · unfold wGo
        rw [hs]
        dsimp only
        rcases wXo_eq p s g with ⟨s2, g2, e⟩ | e
        · rw [e]
          refine ih _ b s2 g2 (fun i hi => ?_)
          have k := h i hi
          unfold wGo at k
          rw [hs] at k
          dsimp only at k
          rw [e] at k
          exact k
        · exact e _
      · unfold wGo
        rw [hs]
        dsimp only
        by_cases c : lQ (sI s) (sC s) l p.2 = true
        · rw [if_pos c]
          refine ih _ true s g (fun i hi => ?_)
          have k := h i hi
          unfold wGo at k
          rw [hs] at k
          dsimp only at k
          rw [if_pos c] at k
          exact k
        · rw [if_neg c]
          refine ih _ b s g (fun i hi => ?_)
          have k := h i hi
          unfold wGo at k
          rw [hs] at k
          dsimp only at k
          rw [if_neg c] at k
          exact k
    · have hN := hf s
      rcases hu : US[q.1]? with _ | u
      · have k := h (f s) hN
        unfold wGo at k
        rw [hu] at k
        cases k
      · unfold wGo
        rw [hu]
        dsimp only
        have h0 : ∀ i, i < N → (if (q.2.isEmpty && b && !((wBd u).isEmpty)) = true then wGo GA0 GB0 US (fun sk s g => !(Nat.beq (f s) i) || kk sk s g) r sk b s g else (match wSm s (wPi u) with
          | none => wGo GA0 GB0 US (fun sk s g => !(Nat.beq (f s) i) || kk sk s g) r sk b s g
          | some P => if wPm u P ((uTh sk q.2).take (wBd u).length) s = true then sk.all (lBd (sN s)) && wTk GA0.length GB0.length u P ((uTh sk q.2).take (wBd u).length) s g (fun s2 g2 => decide ((sG s2).take GA0.length = GA0) && decide (g2.1.take GB0.length = GB0) && wGo GA0 GB0 US (fun sk s g => !(Nat.beq (f s) i) || kk sk s g) r sk b (uUn (wNw (sG s).length (sG s2).length) s2) (wUn (wNw g.1.length g2.1.length) s2 g2)) else wGo GA0 GB0 US (fun sk s g => !(Nat.beq (f s) i) || kk sk s g) r sk b s g)) = true := fun i hi => by
          have k := h i hi
          unfold wGo at k
          rw [hu] at k
          exact k
        by_cases c1 : (q.2.isEmpty && b && !((wBd u).isEmpty)) = true
        · rw [if_pos c1]
          refine ih _ b s g (fun i hi => ?_)
          have k := h0 i hi
          rw [if_pos c1] at k
          exact k
        rw [if_neg c1]
        rcases hS : wSm s (wPi u) with _ | P
        · dsimp only
          refine ih _ b s g (fun i hi => ?_)
          have k := h0 i hi
          rw [if_neg c1, hS] at k
          exact k
        dsimp only
        by_cases c2 : wPm u P ((uTh sk q.2).take (wBd u).length) s = true
        · rw [if_pos c2]
          obtain ⟨C, l, hC⟩ := wTk_eq GA0.length GB0.length u P ((uTh sk q.2).take (wBd u).length) s g
          rw [hC]
          have h1 : ∀ i, i < N → (sk.all (lBd (sN s)) && (C && l.all (fun p => decide ((sG p.1).take GA0.length = GA0) && decide (p.2.1.take GB0.length = GB0) && wGo GA0 GB0 US (fun sk s g => !(Nat.beq (f s) i) || kk sk s g) r sk b (uUn (wNw (sG s).length (sG p.1).length) p.1) (wUn (wNw g.1.length p.2.1.length) p.1 p.2)))) = true := fun i hi => by
            have k := h0 i hi
            rw [if_neg c1, hS] at k
            dsimp only at k
            rw [if_pos c2, hC] at k
            exact k
          have k := h1 (f s) hN
          obtain ⟨k1, k2⟩ := Bool.and_eq_true_iff.mp k
          obtain ⟨k3, k4⟩ := Bool.and_eq_true_iff.mp k2
          refine Bool.and_eq_true_iff.mpr ⟨k1, Bool.and_eq_true_iff.mpr ⟨k3, List.all_eq_true.mpr fun p hp => ?_⟩⟩
          have k5 := Bool.and_eq_true_iff.mp (List.all_eq_true.mp k4 p hp)
          refine Bool.and_eq_true_iff.mpr ⟨k5.1, ih _ b _ _ (fun i hi => ?_)⟩
          have k6 := (Bool.and_eq_true_iff.mp (Bool.and_eq_true_iff.mp (h1 i hi)).2).2
          exact (Bool.and_eq_true_iff.mp (List.all_eq_true.mp k6 p hp)).2
        · rw [if_neg c2]
          refine ih _ b s g (fun i hi => ?_)
          have k := h0 i hi
          rw [if_neg c1, hS] at k
          dsimp only at k
          rw [if_neg c2] at k
          exact k
end XFam
