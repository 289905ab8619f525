/-! Reading, writing, making, of a state in symbols; what stays as it was. -/
noncomputable section XHeap
/-- written places: a kind, 0 for its elements, else a field and one -/
def wIn (W : List (Nat × Nat)) (c k : Nat) : Bool := W.any (fun w => Nat.beq w.1 c && Nat.beq w.2 k)
/-- as it was; or (m) elements that are 1 now, too -/
def vMonV (m : Bool) (a b : List (XV Int32)) : Prop := if m = true then b.length = a.length ∧ ∀ j : Nat, b[j]? = a[j]? ∨ (j < a.length ∧ b[j]? = some (.inl 1)) else b = a
theorem vMonV_rf (m : Bool) (a : List (XV Int32)) : vMonV m a a := by
  unfold vMonV
  split
  · exact ⟨rfl, fun _ => Or.inl rfl⟩
  · rfl
theorem vMonV_tr {m m2 : Bool} (hm : m2 = true → m = true) {a b c : List (XV Int32)} (h : vMonV m a b) (g : vMonV m2 b c) : vMonV m a c := by
  unfold vMonV at h g ⊢
  cases m
  · have e : m2 = false := by
      cases m2
      · rfl
      · exact absurd (hm rfl) (by decide)
    subst e
    rw [if_neg (by decide)] at h g ⊢
    rw [g, h]
  · rw [if_pos rfl] at h ⊢
    cases m2
    · rw [if_neg (by decide)] at g
      subst g
      exact h
    · rw [if_pos rfl] at g
      refine ⟨g.1.trans h.1, fun j => ?_⟩
      rcases g.2 j with g2 | ⟨g2, g3⟩
      · rcases h.2 j with h2 | ⟨h2, h3⟩
        · exact Or.inl (g2.trans h2)
        · exact Or.inr ⟨h2, g2.trans h3⟩
      · exact Or.inr ⟨by rw [← h.1]; exact g2, g3⟩
theorem vMonV_set (a : List (XV Int32)) (i : Nat) : vMonV true a (a.set i (.inl 1)) := by
  unfold vMonV
  rw [if_pos rfl]
  refine ⟨List.length_set .., fun j => ?_⟩
  by_cases e : i = j
  · subst e
    by_cases hl : i < a.length
    · exact Or.inr ⟨hl, List.getElem?_set_self hl⟩
    · refine Or.inl ?_
      rw [List.getElem?_eq_none (by rw [List.length_set]; omega), List.getElem?_eq_none (by omega)]
  · exact Or.inl (List.getElem?_set_ne e)
def vSameC (W : List (Nat × Nat)) (c : Nat) : XC Int32 → XC Int32 → Prop
  | .inl o, .inl p => p.1 = o.1 ∧ p.2.length = o.2.length ∧ ∀ j, wIn W c (j + 1) = false → p.2[j]? = o.2[j]?
  | .inr o, .inr p => p.1 = o.1 ∧ (wIn W c 0 = false → vMonV (wIn W c 1) o.2 p.2)
  | _, _ => False
theorem vSameC_rf (W : List (Nat × Nat)) (c : Nat) (z : XC Int32) : vSameC W c z z := by
  rcases z with z | z
  · exact ⟨rfl, rfl, fun _ _ => rfl⟩
  · exact ⟨rfl, fun _ => vMonV_rf _ _⟩
theorem vSameC_tr {W W2 : List (Nat × Nat)} {c : Nat} (hW : ∀ k, wIn W2 c k = true → wIn W c k = true) {x y z : XC Int32} (h : vSameC W c x y) (g : vSameC W2 c y z) : vSameC W c x z := by
  have hn : ∀ k, wIn W c k = false → wIn W2 c k = false := fun k hk => by
    cases h2 : wIn W2 c k
    · rfl
    · rw [hW k h2] at hk
      cases hk
  rcases x with x | x <;> rcases y with y | y <;> rcases z with z | z <;> first | (exact h.elim) | (exact g.elim) | skip
  · exact ⟨g.1.trans h.1, g.2.1.trans h.2.1, fun j hj => (g.2.2 j (hn _ hj)).trans (h.2.2 j hj)⟩
  · exact ⟨g.1.trans h.1, fun hj => vMonV_tr (hW 1) (h.2 hj) (g.2 (hn _ hj))⟩
/-- what isn't written is as it was -/
def vFrm (W : List (Nat × Nat)) (ty : Nat → Option Nat) (H H2 : List (XC Int32)) : Prop := ∀ (a c : Nat) (z : XC Int32), ty a = some c → H[a]? = some z → ∃ z2, H2[a]? = some z2 ∧ vSameC W c z z2
theorem vFrm_rf (W : List (Nat × Nat)) (ty : Nat → Option Nat) (H : List (XC Int32)) : vFrm W ty H H := fun _ c z _ h => ⟨z, h, vSameC_rf W c z⟩
theorem vFrm_set {W : List (Nat × Nat)} {ty0 ty : Nat → Option Nat} {H0 H : List (XC Int32)} (h : vFrm W ty0 H0 H) (hle : vLe ty0 ty) {a c : Nat} {z z2 : XC Int32} (ha : ty a = some c) (hz : H[a]? = some z) (hs : vSameC W c z z2) : vFrm W ty0 H0 (H.set a z2) := by
  intro b d y hb hy
  obtain ⟨y2, g1, g2⟩ := h b d y hb hy
  by_cases e : a = b
  · subst e
    have := hle a d hb
    rw [ha] at this
    cases this
    rw [hz] at g1
    cases g1
    exact ⟨z2, List.getElem?_set_self (List.getElem?_eq_some_iff.mp hz).1, vSameC_tr (fun _ h => h) g2 hs⟩
  · exact ⟨y2, by rw [List.getElem?_set_ne e]; exact g1, g2⟩
theorem vFrm_app {W : List (Nat × Nat)} {ty0 : Nat → Option Nat} {H0 H : List (XC Int32)} (h : vFrm W ty0 H0 H) (l : List (XC Int32)) : vFrm W ty0 H0 (H ++ l) := fun b d y hb hy => by
  obtain ⟨y2, g1, g2⟩ := h b d y hb hy
  exact ⟨y2, by rw [List.getElem?_append_left (List.getElem?_eq_some_iff.mp g1).1]; exact g1, g2⟩
theorem vFrm_tr {W W2 : List (Nat × Nat)} {ty0 ty : Nat → Option Nat} {H0 H H2 : List (XC Int32)} (h : vFrm W ty0 H0 H) (hle : vLe ty0 ty) (hW : ∀ c k, wIn W2 c k = true → wIn W c k = true) (g : vFrm W2 ty H H2) : vFrm W ty0 H0 H2 := fun b d y hb hy => by
  obtain ⟨y2, g1, g2⟩ := h b d y hb hy
  obtain ⟨y3, k1, k2⟩ := g b d y2 (hle b d hb) g1
  exact ⟨y3, k1, vSameC_tr (hW d) g2 k2⟩
theorem vLe_rf (ty : Nat → Option Nat) : vLe ty ty := fun _ _ h => h
theorem vLe_tr {t1 t2 t3 : Nat → Option Nat} (h : vLe t1 t2) (g : vLe t2 t3) : vLe t1 t3 := fun a c z => g a c (h a c z)
/-- what a place holds: known, or new by its kind (null and not, where it may be) -/
def vRd (f : vF) (i : Nat) (key : Nat ⊕ lT) (nn : Bool) (s : vSt) (kk : vSt → vA → Bool) : Bool := match fGet i key (sF s) with
  | some v => kk s v
  | none => sBd s && fBd (sN s) (sG s).length (i, key, .inr none) && (match f with
    | .inl p => if p.1 = p.2 then kk (vKn (i, key, .inl (lK p.1)) s) (.inl (lK p.1)) else kk (vKn (i, key, .inl (lSy (sN s))) (vNi p s)) (.inl (lSy (sN s)))
    | .inr q => kk (vKn (i, key, .inr (some (sG s).length)) (vNr q.2 s)) (.inr (some (sG s).length)) && (!q.1 || nn || kk (vKn (i, key, .inr none) s) (.inr none)))
theorem vRd_spec {KT : vKT} {ρ : Nat → Int} {σ : Nat → Nat} {ty : Nat → Option Nat} {H : List (XC Int32)} {s : vSt} (h : vRel KT ρ σ ty H s) {f : vF} {i : Nat} {key : Nat ⊕ lT} {nn : Bool} {u : XV Int32} (hp : vPlace ρ σ H i key u) (hu : vFit ty f u) (hnn : nn = true → u ≠ .inr none) {kk : vSt → vA → Bool} (hk : vRd f i key nn s kk = true) :
    ∃ ρ2 σ2 s2 v, vExt s s2 ρ ρ2 σ σ2 ∧ vRel KT ρ2 σ2 ty H s2 ∧ cv ρ2 σ2 v = u ∧ kk s2 v = true := by
  unfold vRd at hk
  split at hk
  · rename_i v hv
    exact ⟨ρ, σ, s, v, vExt_rf s ρ σ, h, vPlace_one (fGet_spec h.2.2.1 hv) hp, hk⟩
  · have hk2 := Bool.and_eq_true_iff.mp hk
    have hk3 := Bool.and_eq_true_iff.mp hk2.1
    have hlt := (sBd_spec hk3.1).1
    rcases f with p | q
    · have hk4 : (if p.1 = p.2 then kk (vKn (i, key, .inl (lK p.1)) s) (.inl (lK p.1)) else kk (vKn (i, key, .inl (lSy (sN s))) (vNi p s)) (.inl (lSy (sN s)))) = true := hk2.2
      rcases u with x | u
      · have hu : p.1 ≤ x.toInt ∧ x.toInt ≤ p.2 := hu
        split at hk4
        · rename_i hpp
          have e : cv ρ σ (.inl (lK p.1)) = .inl x := by
            show (Sum.inl (Int32.ofInt (lEv ρ (lK p.1))) : XV Int32) = _
            rw [lK_ev, show p.1 = x.toInt by omega, Int32.ofInt_toInt]
          refine ⟨ρ, σ, vKn (i, key, .inl (lK p.1)) s, .inl (lK p.1), vExt_eq ρ σ rfl rfl, vKn_spec h ?_, e, hk4⟩
          refine Or.inl ?_
          show vPlace ρ σ H i key (cv ρ σ (.inl (lK p.1)))
          rw [e]
          exact hp
        · obtain ⟨ρ2, g1, g2, g3⟩ := vNi_spec h hk3.1 hu
          have e : cv ρ2 σ (.inl (lSy (sN s))) = .inl x := by
            show (Sum.inl (Int32.ofInt (lEv ρ2 (lSy (sN s)))) : XV Int32) = _
            rw [lSy_ev, g3, Int32.ofInt_toInt]
          refine ⟨ρ2, σ, vKn (i, key, .inl (lSy (sN s))) (vNi p s), .inl (lSy (sN s)), ⟨g1.1, g1.2.1, g1.2.2.1, g1.2.2.2⟩, vKn_spec g2 ?_, e, hk4⟩
          refine Or.inl ?_
          show vPlace ρ2 σ H i key (cv ρ2 σ (.inl (lSy (sN s))))
          rw [e]
          exact vPlace_ext g1.1 g1.2.1 hk3.2 hp
      · rcases u with _ | a
        · exact hu.elim
        · exact hu.elim
    · have hk4 := Bool.and_eq_true_iff.mp hk2.2
      rcases u with x | (_ | a)
      · exact hu.elim
      · have hq : q.1 = true := hu
        have hk5 : (!q.1 || nn || kk (vKn (i, key, .inr none) s) (.inr none)) = true := hk4.2
        have hnn2 : nn = false := by
          cases nn
          · rfl
          · exact (hnn rfl rfl).elim
        rw [hq, hnn2] at hk5
        have hk5 : kk (vKn (i, key, .inr none) s) (.inr none) = true := hk5
        exact ⟨ρ, σ, vKn (i, key, .inr none) s, .inr none, vExt_eq ρ σ rfl rfl, vKn_spec h (Or.inl hp), rfl, hk5⟩
      · obtain ⟨σ2, g1, g2, g3⟩ := vNr_spec h hk3.1 (a := a) (c := q.2) hu
        have e : cv ρ σ2 (.inr (some (sG s).length)) = .inr (some a) := congrArg (fun z => Sum.inr (some z)) g3
        refine ⟨ρ, σ2, vKn (i, key, .inr (some (sG s).length)) (vNr q.2 s), .inr (some (sG s).length), ⟨g1.1, g1.2.1, g1.2.2.1, g1.2.2.2⟩, vKn_spec g2 ?_, e, hk4.1⟩
        refine Or.inl ?_
        show vPlace ρ σ2 H i key (cv ρ σ2 (.inr (some (sG s).length)))
        rw [e]
        exact vPlace_ext g1.1 g1.2.1 hk3.2 hp
/-- the row is a counted one, and the place counts -/
def vNnQ (KT : vKT) (i : Nat) (e : lT) (s : vSt) : Bool := (sF s).any (fun f => match f.2.1, f.2.2 with
  | .inl j, .inr (some b) => decide (j = KT.2.1.2.2.1) && decide (b = i) && decide ((sG s)[f.1]? = some KT.2.1.1) && (match fGet f.1 (.inl KT.2.1.2.1) (sF s) with
    | some (.inl n) => lFit (sI s) n && lGe (sI s) (sC s) (lSub (lSub n e) (lK 1))
    | _ => false)
  | _, _ => false)
theorem vNnQ_spec {KT : vKT} {ρ : Nat → Int} {σ : Nat → Nat} {ty : Nat → Option Nat} {H : List (XC Int32)} {s : vSt} (h : vRel KT ρ σ ty H s) {i : Nat} {e : lT} (hk : vNnQ KT i e s = true) (h0 : 0 ≤ lEv ρ e) : ∃ t vs p, H[sR σ i]? = some (.inr (t, vs)) ∧ vs[(lEv ρ e).toNat]? = some (.inr (some p)) := by
  obtain ⟨f, hf, hk⟩ := List.any_eq_true.mp hk
  obtain ⟨x, key, v⟩ := f
  dsimp only at hk
  split at hk
  · rename_i j b
    simp only [Bool.and_eq_true] at hk
    obtain ⟨⟨⟨k1, k2⟩, k3⟩, k4⟩ := hk
    have j1 := of_decide_eq_true k1
    have j2 := of_decide_eq_true k2
    have j3 := of_decide_eq_true k3
    subst j1
    subst j2
    split at k4
    · rename_i n hn
      have k5 := Bool.and_eq_true_iff.mp k4
      have k6 := lGe_spec h.2.2.2.1 h.2.2.2.2.1 k5.2
      rw [lSub_ev, lSub_ev, lK_ev] at k6
      have k7 := lFit_spec h.2.2.2.1 k5.1
      obtain ⟨ci, fs, m, a, t, vs, z1, z2, z3, z4, z5, z6⟩ := h.2.2.2.2.2.2.1.1 _ (h.2.1 x _ j3)
      obtain ⟨c2, gs, y1, y2⟩ := vHolds_fld (h.2.2.1 _ hf)
      have y1 : H[sR σ x]? = some (.inl (c2, gs)) := y1
      rw [z1] at y1
      cases y1
      have y2 : fs[KT.2.1.2.2.1]? = some (.inr (some (sR σ b))) := y2
      rw [z3] at y2
      cases y2
      obtain ⟨c3, gs3, x1, x2⟩ := fGet_spec h.2.2.1 hn
      have x1 : H[sR σ x]? = some (.inl (c3, gs3)) := x1
      rw [z1] at x1
      cases x1
      have x2 : fs[KT.2.1.2.1]? = some (.inl (Int32.ofInt (lEv ρ n))) := x2
      rw [z2] at x2
      cases x2
      obtain ⟨p, hp⟩ := z6 (lEv ρ e).toNat (by omega)
      exact ⟨t, vs, p, z5, hp⟩
    · cases k4
  · cases hk
/-- may a place keep this value -/
def vFits (f : vF) (v : vA) (s : vSt) : Bool := match f, v with
  | .inl p, .inl e => lFit (sI s) e && lGe (sI s) (sC s) (lSub e (lK p.1)) && lGe (sI s) (sC s) (lSub (lK p.2) e) || (decide (p.1 ≤ -2147483648) && decide (2147483647 ≤ p.2))
  | .inr q, .inr none => q.1
  | .inr q, .inr (some i) => decide ((sG s)[i]? = some q.2)
  | _, _ => false
theorem vFits_spec {KT : vKT} {ρ : Nat → Int} {σ : Nat → Nat} {ty : Nat → Option Nat} {H : List (XC Int32)} {s : vSt} (h : vRel KT ρ σ ty H s) {f : vF} {v : vA} (hk : vFits f v s = true) : vFit ty f (cv ρ σ v) := by
  unfold vFits at hk
  split at hk
  · rename_i p e
    show p.1 ≤ (Int32.ofInt (lEv ρ e)).toInt ∧ (Int32.ofInt (lEv ρ e)).toInt ≤ p.2
    rcases Bool.or_eq_true_iff.mp hk with hk | hk
    · simp only [Bool.and_eq_true] at hk
      obtain ⟨⟨k1, k2⟩, k3⟩ := hk
      have k1 := lFit_spec h.2.2.2.1 k1
      have k2 := lGe_spec h.2.2.2.1 h.2.2.2.2.1 k2
      have k3 := lGe_spec h.2.2.2.1 h.2.2.2.2.1 k3
      rw [lSub_ev, lK_ev] at k2 k3
      omega
    · have hk2 := Bool.and_eq_true_iff.mp hk
      have k1 := of_decide_eq_true hk2.1
      have k2 := of_decide_eq_true hk2.2
      have t1 : -2147483648 ≤ (Int32.ofInt (lEv ρ e)).toInt ∧ (Int32.ofInt (lEv ρ e)).toInt ≤ 2147483647 := vTop_spec _
      omega
  · exact hk
  · rename_i q i
    exact h.2.1 i q.2 (of_decide_eq_true hk)
  · cases hk
/-- may this field be written so, where rows are counted -/
def vPutQ (KT : vKT) (c i j : Nat) (v : vA) (s : vSt) : Bool :=
  if c = KT.2.1.1 then (if j = KT.2.1.2.2.1 then false else if j = KT.2.1.2.1 then (match v, fGet i (.inl KT.2.1.2.2.1) (sF s), fGet i (.inl KT.2.1.2.1) (sF s) with
    | .inl l, some (.inr (some b)), some (.inl n) => lFit (sI s) l && lFit (sI s) n && lGe (sI s) (sC s) n && lEq l (lAdd n (lK 1)) && (match fGet b (.inr n) (sF s) with
      | some (.inr (some _)) => true
      | _ => false)
    | _, _, _ => false) else true) else true
theorem vNN_put {KT : vKT} {ρ : Nat → Int} {σ : Nat → Nat} {ty : Nat → Option Nat} {H : List (XC Int32)} {s : vSt} (h : vRel KT ρ σ ty H s) {c i j ci : Nat} {fs : List (XV Int32)} {v : vA} (hG : ty (sR σ i) = some c) (hH : H[sR σ i]? = some (.inl (ci, fs))) (hk : vPutQ KT c i j v s = true) : vNN KT ty (H.set (sR σ i) (.inl (ci, fs.set j (cv ρ σ v)))) := by
  intro a ha
  obtain ⟨c2, gs, n, b, t, vs, z1, z2, z3, z4, z5, z6⟩ := h.2.2.2.2.2.2.1.1 a ha
  have hb : sR σ i ≠ b := fun e => by
    rw [← e, hH] at z5
    cases z5
  have z5' : (H.set (sR σ i) (.inl (ci, fs.set j (cv ρ σ v))))[b]? = some (.inr (t, vs)) := by
    rw [List.getElem?_set_ne hb]
    exact z5
  by_cases e : sR σ i = a
  · subst e
    rw [hG] at ha
    cases ha
    rw [hH] at z1
    cases z1
    have hset := List.getElem?_set_self (a := (.inl (ci, fs.set j (cv ρ σ v)) : XC Int32)) (List.getElem?_eq_some_iff.mp hH).1
    unfold vPutQ at hk
    rw [if_pos rfl] at hk
    split at hk
    · cases hk
    rename_i hja
    have z3' : (fs.set j (cv ρ σ v))[KT.2.1.2.2.1]? = some (.inr (some b)) := by
      rw [List.getElem?_set_ne hja]
      exact z3
    split at hk
    · rename_i hjc
      split at hk
      · rename_i l b2 n2 hb2 hn2
        simp only [Bool.and_eq_true] at hk
        obtain ⟨⟨⟨⟨k1, k2⟩, k3⟩, k4⟩, k5⟩ := hk
        have k1 := lFit_spec h.2.2.2.1 k1
        have k2 := lFit_spec h.2.2.2.1 k2
        have k3 := lGe_spec h.2.2.2.1 h.2.2.2.2.1 k3
        have k4 := lEq_spec k4
        subst k4
        rw [lAdd_ev, lK_ev] at k1
        obtain ⟨c3, gs3, x1, x2⟩ := fGet_spec h.2.2.1 hb2
        have x1 : H[sR σ i]? = some (.inl (c3, gs3)) := x1
        rw [hH] at x1
        cases x1
        have x2 : fs[KT.2.1.2.2.1]? = some (.inr (some (sR σ b2))) := x2
        rw [z3] at x2
        cases x2
        obtain ⟨c3, gs3, x1, x2⟩ := fGet_spec h.2.2.1 hn2
        have x1 : H[sR σ i]? = some (.inl (c3, gs3)) := x1
        rw [hH] at x1
        cases x1
        have x2 : fs[KT.2.1.2.1]? = some (.inl (Int32.ofInt (lEv ρ n2))) := x2
        rw [z2] at x2
        cases x2
        subst hjc
        refine ⟨ci, _, Int32.ofInt (lEv ρ (lAdd n2 (lK 1))), sR σ b2, t, vs, hset, List.getElem?_set_self (List.getElem?_eq_some_iff.mp z2).1, z3', z4, z5', fun k hk => ?_⟩
        rw [lAdd_ev, lK_ev, k1] at hk
        by_cases hlt : (k : Int) < lEv ρ n2
        · exact z6 k (by rw [k2]; exact hlt)
        · split at k5
          · rename_i p hp
            obtain ⟨t2, vs2, y1, -, y2⟩ := fGet_spec h.2.2.1 hp
            have y1 : H[sR σ b2]? = some (.inr (t2, vs2)) := y1
            rw [z5] at y1
            cases y1
            have e3 : (lEv ρ n2).toNat = k := by omega
            rw [e3] at y2
            exact ⟨_, y2⟩
          · cases k5
      · cases hk
    · rename_i hjc
      exact ⟨ci, _, n, b, t, vs, hset, by rw [List.getElem?_set_ne hjc]; exact z2, z3', z4, z5', z6⟩
  · exact ⟨c2, gs, n, b, t, vs, by rw [List.getElem?_set_ne e]; exact z1, z2, z3, z4, z5', z6⟩
/-- an array is written: where it is a counted one, its cells stay -/
theorem vNN_arr {KT : vKT} {ty : Nat → Option Nat} {H : List (XC Int32)} (h : vNN KT ty H) {c a0 t0 : Nat} {vs0 us : List (XV Int32)} (hG : ty a0 = some c) (hH : H[a0]? = some (.inr (t0, vs0))) (hk : c = KT.2.1.2.2.2.1 → ∀ (i p : Nat), vs0[i]? = some (.inr (some p)) → ∃ p2, us[i]? = some (.inr (some p2))) : vNN KT ty (H.set a0 (.inr (t0, us))) := by
  intro a ha
  obtain ⟨c2, gs, n, b, t, vs, z1, z2, z3, z4, z5, z6⟩ := h a ha
  have hne : a0 ≠ a := fun e => by
    rw [← e, hH] at z1
    cases z1
  by_cases e : a0 = b
  · subst e
    rw [hH] at z5
    cases z5
    rw [hG] at z4
    cases z4
    refine ⟨c2, gs, n, a0, t0, us, by rw [List.getElem?_set_ne hne]; exact z1, z2, z3, hG, List.getElem?_set_self (List.getElem?_eq_some_iff.mp hH).1, fun k hk2 => ?_⟩
    obtain ⟨p, hp⟩ := z6 k hk2
    exact hk rfl k p hp
  · exact ⟨c2, gs, n, b, t, vs, by rw [List.getElem?_set_ne hne]; exact z1, z2, z3, z4, by rw [List.getElem?_set_ne e]; exact z5, z6⟩
theorem vGp_put {KT : vKT} {ty : Nat → Option Nat} {H : List (XC Int32)} (h : vGp KT ty H) {a0 : Nat} {o : Nat × List (XV Int32)} (hlt : a0 < H.length) : vGp KT ty (H.set a0 (.inl o)) := fun a t vs ha hH => by
  by_cases e : a0 = a
  · subst e
    rw [List.getElem?_set_self hlt] at hH
    cases hH
  · rw [List.getElem?_set_ne e] at hH
    exact h a t vs ha hH
theorem vGp_arr {KT : vKT} {ty : Nat → Option Nat} {H : List (XC Int32)} (h : vGp KT ty H) {a0 c t0 : Nat} {us : List (XV Int32)} (hG : ty a0 = some c) (hlt : a0 < H.length) (hk : c = KT.2.1.2.2.2.2 → vGrp us) : vGp KT ty (H.set a0 (.inr (t0, us))) := fun a t vs ha hH => by
  by_cases e : a0 = a
  · subst e
    rw [List.getElem?_set_self hlt] at hH
    cases hH
    rw [hG] at ha
    cases ha
    exact hk rfl
  · rw [List.getElem?_set_ne e] at hH
    exact h a t vs ha hH
def vPut (a j : Nat) (v : vA) (s : vSt) : vSt := (sN s, sG s, (a, .inl j, v) :: fPut (sG s) a j (sF s), sI s, sC s, sM s, sRw s)
theorem vPut_rel {KT : vKT} {ρ : Nat → Int} {σ : Nat → Nat} {ty : Nat → Option Nat} {H : List (XC Int32)} {s : vSt} (h : vRel KT ρ σ ty H s) {a c ci j : Nat} {fl : List vF} {f : vF} {fs : List (XV Int32)} {v : vA} (ha : ty (sR σ a) = some c) (hK : KT.1[c]? = some (.inl (ci, fl))) (hH : H[sR σ a]? = some (.inl (ci, fs))) (hf : fl[j]? = some f) (hi : j < fs.length) (hu : vFit ty f (cv ρ σ v)) (hq : vPutQ KT c a j v s = true) :
    vRel KT ρ σ ty (H.set (sR σ a) (.inl (ci, fs.set j (cv ρ σ v)))) (vPut a j v s) := by
  refine ⟨vHp_put h.1 ha hK hH hf hu, h.2.1, fun g hg => ?_, h.2.2.2.1, h.2.2.2.2.1, h.2.2.2.2.2.1, ⟨vNN_put h ha hH hq, vGp_put h.2.2.2.2.2.2.1.2 (vHp_lt h.1 ha)⟩, h.2.2.2.2.2.2.2⟩
  rcases List.mem_cons.mp hg with rfl | hg
  · exact Or.inl ⟨ci, fs.set j (cv ρ σ v), List.getElem?_set_self (vHp_lt h.1 ha), List.getElem?_set_self hi⟩
  · exact fPut_spec h.2.1 hH h.2.2.1 g hg
/-- surely other sums, by what is known of them -/
def lNeC (I : lI) (C : List lT) (a b : lT) : Bool := lNe I a b || lGe I C (lSub (lSub a b) (lK 1)) || lGe I C (lSub (lSub b a) (lK 1))
theorem lNeC_spec {ρ : Nat → Int} {I : lI} (hI : iHd ρ I) {C : List lT} (hC : ∀ c ∈ C, 0 ≤ lEv ρ c) {a b : lT} (h : lNeC I C a b = true) : lEv ρ a ≠ lEv ρ b := by
  rcases Bool.or_eq_true_iff.mp h with h | h
  · rcases Bool.or_eq_true_iff.mp h with h | h
    · exact lNe_spec hI h
    · have := lGe_spec hI hC h
      rw [lSub_ev, lSub_ev, lK_ev] at this
      omega
  · have := lGe_spec hI hC h
    rw [lSub_ev, lSub_ev, lK_ev] at this
    omega
def vSto (a : Nat) (e : lT) (v : vA) (s : vSt) : vSt := (sN s, sG s, (a, .inr e, v) :: fArr (fun e2 => lNeC (sI s) (sC s) e2 e) (sG s) a (sF s), sI s, sC s, sM s, sRw s)
theorem vSto_rel {KT : vKT} {ρ : Nat → Int} {σ : Nat → Nat} {ty : Nat → Option Nat} {H : List (XC Int32)} {s : vSt} (h : vRel KT ρ σ ty H s) {a c t m : Nat} {fl : List vF} {f : vF} {vs : List (XV Int32)} {e : lT} {v : vA} (ha : ty (sR σ a) = some c) (hK : KT.1[c]? = some (.inr (t, m, fl))) (hH : H[sR σ a]? = some (.inr (t, vs))) (h0 : 0 ≤ lEv ρ e) (hi : (lEv ρ e).toNat < vs.length) (hf : vEl fl (lEv ρ e).toNat = some f) (hu : vFit ty f (cv ρ σ v)) (hq : c = KT.2.1.2.2.2.1 → ∃ p, cv ρ σ v = .inr (some p)) (hg2 : c ≠ KT.2.1.2.2.2.2) :
    vRel KT ρ σ ty (H.set (sR σ a) (.inr (t, vs.set (lEv ρ e).toNat (cv ρ σ v)))) (vSto a e v s) := by
  refine ⟨vHp_sto h.1 ha hK hH hf hu, h.2.1, fun g hg => ?_, h.2.2.2.1, h.2.2.2.2.1, h.2.2.2.2.2.1, ⟨vNN_arr h.2.2.2.2.2.2.1.1 ha hH (fun hc k p hp => ?_), vGp_arr h.2.2.2.2.2.2.1.2 ha (vHp_lt h.1 ha) (fun hc => (hg2 hc).elim)⟩, h.2.2.2.2.2.2.2⟩
  · rcases List.mem_cons.mp hg with rfl | hg
    · exact Or.inl ⟨t, _, List.getElem?_set_self (vHp_lt h.1 ha), h0, List.getElem?_set_self hi⟩
    · refine fArr_spec h.2.1 hH (fun e2 hk h2 => ?_) h.2.2.1 g hg
      have hne := lNeC_spec h.2.2.2.1 h.2.2.2.2.1 hk
      rw [List.getElem?_set_ne]
      omega
  · obtain ⟨p2, hp2⟩ := hq hc
    by_cases e1 : (lEv ρ e).toNat = k
    · subst e1
      exact ⟨p2, by rw [List.getElem?_set_self hi, hp2]⟩
    · exact ⟨p, by rw [List.getElem?_set_ne e1]; exact hp⟩
def vCpy (a : Nat) (s : vSt) : vSt := (sN s, sG s, fArr (fun _ => false) (sG s) a (sF s), sI s, sC s, sM s, sRw s)
theorem vCpy_rel {KT : vKT} {ρ : Nat → Int} {σ : Nat → Nat} {ty : Nat → Option Nat} {H : List (XC Int32)} {s : vSt} (h : vRel KT ρ σ ty H s) {a b c d t m n i j k : Nat} {fl : List vF} {us vs : List (XV Int32)} (ha : ty (sR σ a) = some c) (hK : KT.1[c]? = some (.inr (t, m, fl))) (hH : H[sR σ a]? = some (.inr (t, vs))) (hb : ty (sR σ b) = some d) (hD : KT.1[d]? = some (.inr (t, n, fl))) (hB : H[sR σ b]? = some (.inr (t, us))) (hi : i + k ≤ us.length) (hj : j + k ≤ vs.length) (hij : i % fl.length = j % fl.length) (hq : c ≠ KT.2.1.2.2.2.1) (hg2 : c ≠ KT.2.1.2.2.2.2) :
    vRel KT ρ σ ty (H.set (sR σ a) (.inr (t, vs.take j ++ (us.drop i).take k ++ vs.drop (j + k)))) (vCpy a s) :=
  ⟨vHp_cpy h.1 ha hK hH hb hD hB hi hj hij, h.2.1, fArr_spec (kp := fun _ => false) h.2.1 hH (fun _ hk _ => by cases hk) h.2.2.1, h.2.2.2.1, h.2.2.2.2.1, h.2.2.2.2.2.1, ⟨vNN_arr h.2.2.2.2.2.2.1.1 ha hH (fun hc => (hq hc).elim), vGp_arr h.2.2.2.2.2.2.1.2 ha (vHp_lt h.1 ha) (fun hc => (hg2 hc).elim)⟩, h.2.2.2.2.2.2.2⟩
/-- a new cell of a kind -/
def vMke (KT : vKT) (c : Nat) (s : vSt) : vSt := (sN s, sG s ++ [c], sF s, sI s, sC s, sM s, if (kRaw KT c).isSome then (sG s).length :: sRw s else sRw s)
theorem vMke_rel {KT : vKT} {ρ : Nat → Int} {σ : Nat → Nat} {ty : Nat → Option Nat} {H : List (XC Int32)} {s : vSt} (h : vRel KT ρ σ ty H s) (hb : sBd s = true) {c : Nat} {kd : vKd} {z : XC Int32} (hK : KT.1[c]? = some kd) (hz : vCell (vAdd ty H.length c) kd z) (hc : c ≠ KT.2.1.1) (hg2 : c ≠ KT.2.1.2.2.2.2) :
    ∃ σ2, vExt s (vMke KT c s) ρ ρ σ σ2 ∧ vRel KT ρ σ2 (vAdd ty H.length c) (H ++ [z]) (vMke KT c s) ∧ sR σ2 (sG s).length = H.length ∧ vLe ty (vAdd ty H.length c) := by
  obtain ⟨hle, hn⟩ := vHp_new h.1 hK hz
  have he : ∀ i, i < (sG s).length → (fun i => if i = (sG s).length then H.length else σ i) i = σ i := fun i hi => if_neg (Nat.ne_of_lt hi)
  have hlt := (sBd_spec hb).1
  have hrw := (sBd_spec hb).2.2.2.2.2
  obtain ⟨g1, g2, g3, g4, g5, g6, g7, g8⟩ := vRel_ext h hb (fun _ _ => rfl) he
  have hv : sR (fun i => if i = (sG s).length then H.length else σ i) (sG s).length = H.length := by
    unfold sR
    rw [if_pos hlt]
    exact if_pos rfl
  have hself : vAdd ty H.length c H.length = some c := if_pos rfl
  have happ : ∀ (a : Nat) (y : XC Int32), H[a]? = some y → (H ++ [z])[a]? = some y := fun a y hy => by
    rw [List.getElem?_append_left (List.getElem?_eq_some_iff.mp hy).1]
    exact hy
  refine ⟨fun i => if i = (sG s).length then H.length else σ i, ⟨fun _ _ => rfl, he, Nat.le_refl _, ?_⟩, ⟨hn, fun i d hd => ?_, fun f hf => ?_, g4, g5, g6, ⟨fun a ha => ?_, fun a t vs ha hH => ?_⟩, fun a d e ha hd => ?_⟩, hv, hle⟩
  · show (sG s).length ≤ (sG s ++ [c]).length
    rw [List.length_append]
    exact Nat.le_add_right _ _
  · have hd : (sG s ++ [c])[i]? = some d := hd
    by_cases e : i = (sG s).length
    · subst e
      rw [List.getElem?_append_right (Nat.le_refl _), Nat.sub_self] at hd
      have hd : some c = some d := hd
      rw [hv, hself]
      exact hd
    · have hl : i < (sG s).length := by
        have := (List.getElem?_eq_some_iff.mp hd).1
        rw [List.length_append] at this
        have : i < (sG s).length + 1 := this
        omega
      rw [List.getElem?_append_left hl] at hd
      exact hle _ _ (g2 i d hd)
  · have h1 := g3 f hf
    rcases h1 with h1 | h1
    rotate_left
    · exact Or.inr h1
    refine Or.inl ?_
    obtain ⟨x, key, v⟩ := f
    rcases key with j | e
    · obtain ⟨ci, fs, y1, y2⟩ := h1
      exact ⟨ci, fs, happ _ _ y1, y2⟩
    · obtain ⟨t, vs, y1, y0, y2⟩ := h1
      exact ⟨t, vs, happ _ _ y1, y0, y2⟩
  · have hne : a ≠ H.length := fun e => by
      rw [e, hself] at ha
      cases ha
      exact hc rfl
    have ha2 : ty a = some KT.2.1.1 := by
      have : (if a = H.length then some c else ty a) = some KT.2.1.1 := ha
      rw [if_neg hne] at this
      exact this
    obtain ⟨c2, gs, n, b, t, vs, z1, z2, z3, z4, z5, z6⟩ := g7.1 a ha2
    exact ⟨c2, gs, n, b, t, vs, happ _ _ z1, z2, z3, hle _ _ z4, happ _ _ z5, z6⟩
  · have hne : a ≠ H.length := fun e => by
      rw [e, hself] at ha
      cases ha
      exact hg2 rfl
    have ha2 : ty a = some KT.2.1.2.2.2.2 := by
      have : (if a = H.length then some c else ty a) = some KT.2.1.2.2.2.2 := ha
      rw [if_neg hne] at this
      exact this
    rw [List.getElem?_append_left (vHp_lt h.1 ha2)] at hH
    exact g7.2 a t vs ha2 hH
  · by_cases e1 : a = H.length
    · subst e1
      rw [hself] at ha
      cases ha
      refine ⟨(sG s).length, ?_, hv⟩
      show (sG s).length ∈ (if (kRaw KT c).isSome then (sG s).length :: sRw s else sRw s)
      rw [hd]
      exact List.mem_cons_self
    · have ha2 : ty a = some d := by
        have : (if a = H.length then some c else ty a) = some d := ha
        rw [if_neg e1] at this
        exact this
      obtain ⟨i, hi, e2⟩ := g8 a d e ha2 hd
      refine ⟨i, ?_, e2⟩
      show i ∈ (if (kRaw KT c).isSome then (sG s).length :: sRw s else sRw s)
      split
      · exact List.mem_cons_of_mem _ hi
      · exact hi
/-- a new cell is none of those of its kind that are known (nor of the kind that it will have) -/
def vApN (KT : vKT) (c : Nat) (s : vSt) : List vK := ((List.range (sG s).length).filter (fun i => match (sG s)[i]? with
  | some d => Nat.beq d c || decide (kRaw KT c = some d)
  | none => false)).map (fun i => ((sG s).length, .inr (lK (-1)), .inr (some i)))
def vMkA (KT : vKT) (c : Nat) (s : vSt) : vSt := (sN s, sG s ++ [c], vApN KT c s ++ sF s, sI s, sC s, sM s, if (kRaw KT c).isSome then (sG s).length :: sRw s else sRw s)
theorem vMkA_rel {KT : vKT} {ρ : Nat → Int} {σ : Nat → Nat} {ty : Nat → Option Nat} {H : List (XC Int32)} {s : vSt} (h : vRel KT ρ σ ty H s) (hb : sBd s = true) {c : Nat} {kd : vKd} {z : XC Int32} (hK : KT.1[c]? = some kd) (hz : vCell (vAdd ty H.length c) kd z) (hc : c ≠ KT.2.1.1) (hg2 : c ≠ KT.2.1.2.2.2.2) :
    ∃ σ2, vExt s (vMkA KT c s) ρ ρ σ σ2 ∧ vRel KT ρ σ2 (vAdd ty H.length c) (H ++ [z]) (vMkA KT c s) ∧ sR σ2 (sG s).length = H.length ∧ vLe ty (vAdd ty H.length c) := by
  obtain ⟨σ2, g1, g2, g3, g4⟩ := vMke_rel h hb hK hz hc hg2
  refine ⟨σ2, g1, ⟨g2.1, g2.2.1, fun f hf => ?_, g2.2.2.2⟩, g3, g4⟩
  rcases List.mem_append.mp hf with hf | hf
  · obtain ⟨k, hk, rfl⟩ := List.mem_map.mp hf
    have hk := List.mem_range.mp (List.mem_filter.mp hk).1
    refine Or.inr ⟨k, rfl, rfl, fun e => ?_⟩
    have e : sR σ2 (sG s).length = sR σ2 k := e
    have hlt := (sBd_spec hb).1
    have e2 : sR σ2 k = sR σ k := by
      unfold sR
      rw [if_pos (by omega), if_pos (by omega)]
      exact g1.2.1 k hk
    rw [g3, e2] at e
    have h9 := vHp_lt h.1 (h.2.1 k _ (List.getElem?_eq_getElem hk))
    omega
  · exact g2.2.2.1 f hf
/-- kinds name no kind that isn't ready -/
def kFOk (KT : vKT) (f : vF) : Bool := match f with
  | .inl _ => true
  | .inr q => (kRaw KT q.2).isNone
def kOk (KT : vKT) : Bool := KT.1.all (fun kd => match kd with
  | .inl o => o.2.all (kFOk KT)
  | .inr o => o.2.2.all (kFOk KT)) && (kRaw KT KT.2.1.1).isNone && (kRaw KT KT.2.1.2.2.2.1).isNone
/-- a cell is ready now -/
def vPro (KT : vKT) (i : Nat) (s : vSt) (kk : vSt → Bool) : Bool := match (sG s)[i]? with
  | none => false
  | some c => match kRaw KT c with
    | none => false
    | some d => match KT.1[c]?, KT.1[d]? with
      | some (.inl o), some (.inl p) => kOk KT && decide (p.1 = o.1) && decide (p.2.length = o.2.length) && decide (d ≠ KT.2.1.1) && decide (d ≠ KT.2.1.2.2.2.2) && (kRaw KT d).isNone && (List.range (sG s).length).all (fun k => decide (k = i) || decide ((sG s)[k]? ≠ some c)) &&
          (List.range p.2.length).all (fun j => decide (p.2[j]? = o.2[j]?) || (match p.2[j]?, fGet i (.inl j) (sF s) with
            | some f, some v => vFits f v s
            | _, _ => false)) && kk (sN s, (sG s).set i d, sF s, sI s, sC s, sM s, (sRw s).filter (fun k => decide (k ≠ i)))
      | _, _ => false
theorem vPro_spec {KT : vKT} {ρ : Nat → Int} {σ : Nat → Nat} {ty ty0 : Nat → Option Nat} {H : List (XC Int32)} {s : vSt} (h : vRel KT ρ σ ty H s) (h0 : vLe ty0 ty) (hr : ∀ a c, ty0 a = some c → kRaw KT c = none) {i : Nat} {kk : vSt → Bool} (hk : vPro KT i s kk = true) :
    ∃ ty2 s2, vExt s s2 ρ ρ σ σ ∧ vRel KT ρ σ ty2 H s2 ∧ vLe ty0 ty2 ∧ kk s2 = true := by
  unfold vPro at hk
  split at hk
  · cases hk
  rename_i c hG
  split at hk
  · cases hk
  rename_i d hR
  split at hk
  rotate_left
  · cases hk
  rename_i o p ho hp
  simp only [Bool.and_eq_true] at hk
  obtain ⟨⟨⟨⟨⟨⟨⟨⟨k0, k1⟩, k2⟩, k3⟩, k3g⟩, k4⟩, k5⟩, k6⟩, k7⟩ := hk
  obtain ⟨ci, fl⟩ := o
  obtain ⟨ci2, gl⟩ := p
  have k1 : ci2 = ci := of_decide_eq_true k1
  subst k1
  have k2 : gl.length = fl.length := of_decide_eq_true k2
  have k3 : d ≠ KT.2.1.1 := of_decide_eq_true k3
  have k3g : d ≠ KT.2.1.2.2.2.2 := of_decide_eq_true k3g
  have k4 : kRaw KT d = none := by simpa using k4
  simp only [kOk, Bool.and_eq_true] at k0
  obtain ⟨⟨q1, q2⟩, q3⟩ := k0
  have q2 : kRaw KT KT.2.1.1 = none := by simpa using q2
  have q3 : kRaw KT KT.2.1.2.2.2.1 = none := by simpa using q3
  obtain ⟨h1, h2, h3, h4, h5, h6, h7, h8⟩ := h
  have ha := h2 i c hG
  have self : (fun a => if a = sR σ i then some d else ty a) (sR σ i) = some d := if_pos rfl
  have other : ∀ a e, ty a = some e → e ≠ c → (fun a => if a = sR σ i then some d else ty a) a = some e := fun a e hae hne => by
    show (if a = sR σ i then some d else ty a) = some e
    rw [if_neg]
    · exact hae
    · intro e2
      rw [e2, ha] at hae
      cases hae
      exact hne rfl
  have back : ∀ a e, (fun a => if a = sR σ i then some d else ty a) a = some e → (a = sR σ i ∧ e = d) ∨ (a ≠ sR σ i ∧ ty a = some e) := fun a e hae => by
    have hae : (if a = sR σ i then some d else ty a) = some e := hae
    by_cases e2 : a = sR σ i
    · rw [if_pos e2] at hae
      cases hae
      exact Or.inl ⟨e2, rfl⟩
    · rw [if_neg e2] at hae
      exact Or.inr ⟨e2, hae⟩
  have fit : ∀ (f : vF) (u : XV Int32), kFOk KT f = true → vFit ty f u → vFit (fun a => if a = sR σ i then some d else ty a) f u := fun f u hf hu => by
    rcases f with f | f <;> rcases u with u | (_ | u)
    · exact hu
    · exact hu.elim
    · exact hu.elim
    · exact hu.elim
    · exact hu
    · refine other u f.2 hu (fun e => ?_)
      have hf : (kRaw KT f.2).isNone = true := hf
      rw [e, hR] at hf
      cases hf
  have kok : ∀ (e : Nat) (kd : vKd), KT.1[e]? = some kd → (match kd with
      | .inl o => o.2.all (kFOk KT)
      | .inr o => o.2.2.all (kFOk KT)) = true := fun e kd he => List.all_eq_true.mp q1 kd (List.mem_of_getElem? he)
  have hp2 : KT.1[d]? = some (.inl (ci2, gl)) := hp
  have hgl := kok d _ hp2
  refine ⟨fun a => if a = sR σ i then some d else ty a, (sN s, (sG s).set i d, sF s, sI s, sC s, sM s, (sRw s).filter (fun k => decide (k ≠ i))), vExt_eq ρ σ rfl (List.length_set ..), ⟨fun b e hb => ?_, fun k e hk => ?_, h3, h4, h5, h6, ⟨fun a hae => ?_, fun a t vs hae hH => ?_⟩, fun a e f hae hf => ?_⟩, fun a e hae => ?_, k7⟩
  · rcases back b e hb with ⟨rfl, rfl⟩ | ⟨hne, hb⟩
    · obtain ⟨fs, f1, f2, f3⟩ := vHp_obj h1 ha ho
      refine ⟨.inl (ci2, gl), .inl (ci2, fs), hp2, f1, rfl, f2.trans k2.symm, fun j f u hf hu => ?_⟩
      have hf : gl[j]? = some f := hf
      have hu : fs[j]? = some u := hu
      refine fit f u (List.all_eq_true.mp hgl f (List.mem_of_getElem? hf)) ?_
      have hj := (List.getElem?_eq_some_iff.mp hf).1
      have k8 := List.all_eq_true.mp k6 j (List.mem_range.mpr hj)
      rcases Bool.or_eq_true_iff.mp k8 with k8 | k8
      · have k8 : gl[j]? = fl[j]? := of_decide_eq_true k8
        obtain ⟨u2, y1, y2⟩ := f3 j f (k8 ▸ hf)
        rw [hu] at y1
        cases y1
        exact y2
      · have k9 : (match gl[j]?, fGet i (.inl j) (sF s) with
            | some f, some v => vFits f v s
            | _, _ => false) = true := k8
        rw [hf] at k9
        split at k9
        · rename_i f' v' e1 e2
          cases e1
          have y := vFits_spec (KT := KT) (ρ := ρ) (σ := σ) (ty := ty) (H := H) ⟨h1, h2, h3, h4, h5, h6, h7, h8⟩ k9
          obtain ⟨c3, gs, z1, z2⟩ := fGet_spec h3 e2
          have z1 : H[sR σ i]? = some (.inl (c3, gs)) := z1
          rw [f1] at z1
          cases z1
          rw [hu] at z2
          cases z2
          exact y
        · cases k9
    · obtain ⟨kd, z, y1, y2, y3⟩ := h1 b e hb
      refine ⟨kd, z, y1, y2, ?_⟩
      have y4 := kok e kd y1
      rcases kd with kd | kd <;> rcases z with z | z
      · exact ⟨y3.1, y3.2.1, fun j f u hf hu => fit f u (List.all_eq_true.mp y4 f (List.mem_of_getElem? hf)) (y3.2.2 j f u hf hu)⟩
      · exact y3.elim
      · exact y3.elim
      · exact ⟨y3.1, y3.2.1, fun j f u hf hu => fit f u (List.all_eq_true.mp y4 f (List.mem_of_getElem? hf)) (y3.2.2 j f u hf hu)⟩
  · have hk : ((sG s).set i d)[k]? = some e := hk
    by_cases e1 : i = k
    · subst e1
      rw [List.getElem?_set_self (List.getElem?_eq_some_iff.mp hG).1] at hk
      cases hk
      exact self
    · rw [List.getElem?_set_ne e1] at hk
      refine other _ e (h2 k e hk) (fun e2 => ?_)
      have k8 := List.all_eq_true.mp k5 k (List.mem_range.mpr (List.getElem?_eq_some_iff.mp hk).1)
      rcases Bool.or_eq_true_iff.mp k8 with k8 | k8
      · exact e1 (of_decide_eq_true k8).symm
      · exact of_decide_eq_true k8 (e2 ▸ hk)
  · rcases back a _ hae with ⟨-, e1⟩ | ⟨-, hae⟩
    · exact (k3 e1.symm).elim
    · obtain ⟨c2, gs, n, b, t, vs, z1, z2, z3, z4, z5, z6⟩ := h7.1 a hae
      refine ⟨c2, gs, n, b, t, vs, z1, z2, z3, other b _ z4 (fun e2 => ?_), z5, z6⟩
      rw [e2, hR] at q3
      cases q3
  · rcases back a _ hae with ⟨-, e1⟩ | ⟨-, hae⟩
    · exact (k3g e1.symm).elim
    · exact h7.2 a t vs hae hH
  · rcases back a _ hae with ⟨-, e1⟩ | ⟨hne, hae⟩
    · rw [e1, k4] at hf
      cases hf
    · obtain ⟨k, hk, e2⟩ := h8 a e f hae hf
      refine ⟨k, List.mem_filter.mpr ⟨hk, decide_eq_true (fun e3 => hne ?_)⟩, e2⟩
      rw [← e2, e3]
  · refine other a e (h0 a e hae) (fun e2 => ?_)
    have := hr a e hae
    rw [e2, hR] at this
    cases this
end XHeap
