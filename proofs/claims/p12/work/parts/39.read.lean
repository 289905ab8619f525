/-! New symbols; what a field or an element holds. -/
section XRead
/-- next unknown, kinds of the cells' symbols, what is known, what holds -/
abbrev vSt : Type := Nat × List Nat × List vK × List TK
def vRel (KT : Nat → Option vKd) (ρ : Nat → Int32) (σ : Nat → Nat) (ty : Nat → Option Nat) (H : List (XC Int32)) (s : vSt) : Prop :=
  vHp KT ty H ∧ vSym ty σ s.2.1 ∧ (∀ f ∈ s.2.2.1, vHolds ρ σ H f) ∧ XPa (tHd ρ) s.2.2.2
/-- older symbols stand for what they stood for -/
def vExt (s s2 : vSt) (ρ ρ2 : Nat → Int32) (σ σ2 : Nat → Nat) : Prop :=
  (∀ i, i < s.1 → ρ2 i = ρ i) ∧ (∀ i, i < s.2.1.length → σ2 i = σ i) ∧ s.1 ≤ s2.1 ∧ s.2.1.length ≤ s2.2.1.length
theorem vExt_rf (s : vSt) (ρ : Nat → Int32) (σ : Nat → Nat) : vExt s s ρ ρ σ σ := ⟨fun _ _ => rfl, fun _ _ => rfl, Nat.le_refl _, Nat.le_refl _⟩
theorem vExt_tr {s s2 s3 : vSt} {ρ ρ2 ρ3 : Nat → Int32} {σ σ2 σ3 : Nat → Nat} (h : vExt s s2 ρ ρ2 σ σ2) (g : vExt s2 s3 ρ2 ρ3 σ2 σ3) : vExt s s3 ρ ρ3 σ σ3 :=
  ⟨fun i hi => (g.1 i (Nat.lt_of_lt_of_le hi h.2.2.1)).trans (h.1 i hi), fun i hi => (g.2.1 i (Nat.lt_of_lt_of_le hi h.2.2.2)).trans (h.2.1 i hi), Nat.le_trans h.2.2.1 g.2.2.1, Nat.le_trans h.2.2.2 g.2.2.2⟩
def sBd (s : vSt) : Bool := s.2.2.1.all (fBd s.1 s.2.1.length) && s.2.2.2.all (kBd s.1)
def pOk (p : Int × Int) : Bool := decide (-2147483648 ≤ p.1) && decide (p.1 ≤ 2147483647) && decide (-2147483648 ≤ p.2) && decide (p.2 ≤ 2147483647)
/-- a new unknown within bounds -/
def vNi (p : Int × Int) (s : vSt) : vSt := (s.1 + 1, s.2.1, s.2.2.1, (true, .arg s.1, .int (Int32.ofInt p.1), false) :: (true, .int (Int32.ofInt p.2), .arg s.1, false) :: s.2.2.2)
theorem vNi_spec {KT : Nat → Option vKd} {ρ : Nat → Int32} {σ : Nat → Nat} {ty : Nat → Option Nat} {H : List (XC Int32)} {s : vSt} (h : vRel KT ρ σ ty H s) (hb : sBd s = true) {p : Int × Int} (hp : pOk p = true) {x : Int32} (hx : vIn p x) :
    ∃ ρ2, vExt s (vNi p s) ρ ρ2 σ σ ∧ vRel KT ρ2 σ ty H (vNi p s) ∧ ρ2 s.1 = x := by
  obtain ⟨h1, h2, h3, h4⟩ := h
  have hb2 := Bool.and_eq_true_iff.mp hb
  have he : ∀ i, i < s.1 → (fun i => if i = s.1 then x else ρ i) i = ρ i := fun i hi => if_neg (Nat.ne_of_lt hi)
  have hv : (fun i => if i = s.1 then x else ρ i) s.1 = x := if_pos rfl
  simp only [pOk, Bool.and_eq_true, decide_eq_true_eq] at hp
  obtain ⟨⟨⟨p1, p2⟩, p3⟩, p4⟩ := hp
  have e1 : (Int32.ofInt p.1).toInt = p.1 := by rw [Int32.toInt_ofInt]; exact vBm p1 p2
  have e2 : (Int32.ofInt p.2).toInt = p.2 := by rw [Int32.toInt_ofInt]; exact vBm p3 p4
  refine ⟨fun i => if i = s.1 then x else ρ i, ⟨he, fun _ _ => rfl, Nat.le_succ _, Nat.le_refl _⟩, ⟨h1, h2, fun f hf => fBd_spec he (fun _ _ => rfl) (List.all_eq_true.mp hb2.1 f hf) (h3 f hf), fun k hk => ?_⟩, hv⟩
  have hk : k ∈ (true, .arg s.1, .int (Int32.ofInt p.1), false) :: (true, .int (Int32.ofInt p.2), .arg s.1, false) :: s.2.2.2 := hk
  rcases List.mem_cons.mp hk with rfl | hk
  · show decide ((if s.1 = s.1 then x else ρ s.1) < Int32.ofInt p.1) = false
    rw [if_pos rfl]
    exact decide_eq_false (fun z => by have := Int32.lt_iff_toInt_lt.mp z; have := hx.1; omega)
  rcases List.mem_cons.mp hk with rfl | hk
  · show decide (Int32.ofInt p.2 < (if s.1 = s.1 then x else ρ s.1)) = false
    rw [if_pos rfl]
    exact decide_eq_false (fun z => by have := Int32.lt_iff_toInt_lt.mp z; have := hx.2; omega)
  · exact kBd_spec he hb2.2 h4 k hk
/-- a new symbol for a cell of a kind -/
def vNr (c : Nat) (s : vSt) : vSt := (s.1, s.2.1 ++ [c], s.2.2.1, s.2.2.2)
theorem vNr_spec {KT : Nat → Option vKd} {ρ : Nat → Int32} {σ : Nat → Nat} {ty : Nat → Option Nat} {H : List (XC Int32)} {s : vSt} (h : vRel KT ρ σ ty H s) (hb : sBd s = true) {a c : Nat} (ha : ty a = some c) :
    ∃ σ2, vExt s (vNr c s) ρ ρ σ σ2 ∧ vRel KT ρ σ2 ty H (vNr c s) ∧ σ2 s.2.1.length = a := by
  obtain ⟨h1, h2, h3, h4⟩ := h
  have hb2 := Bool.and_eq_true_iff.mp hb
  have he : ∀ i, i < s.2.1.length → (fun i => if i = s.2.1.length then a else σ i) i = σ i := fun i hi => if_neg (Nat.ne_of_lt hi)
  refine ⟨fun i => if i = s.2.1.length then a else σ i, ⟨fun _ _ => rfl, he, Nat.le_refl _, ?_⟩, ⟨h1, fun i d hd => ?_, fun f hf => fBd_spec (fun _ _ => rfl) he (List.all_eq_true.mp hb2.1 f hf) (h3 f hf), h4⟩, if_pos rfl⟩
  · show s.2.1.length ≤ (s.2.1 ++ [c]).length
    rw [List.length_append]
    exact Nat.le_add_right _ _
  · have hd : (s.2.1 ++ [c])[i]? = some d := hd
    show ty (if i = s.2.1.length then a else σ i) = some d
    by_cases e : i = s.2.1.length
    · rw [if_pos e]
      rw [e, List.getElem?_append_right (Nat.le_refl _), Nat.sub_self] at hd
      have hd : some c = some d := hd
      rw [ha]
      exact hd
    · rw [if_neg e]
      have hlt : i < s.2.1.length := by
        have := (List.getElem?_eq_some_iff.mp hd).1
        rw [List.length_append] at this
        have : i < s.2.1.length + 1 := this
        omega
      rw [List.getElem?_append_left hlt] at hd
      exact h2 i d hd
def vKn (f : vK) (s : vSt) : vSt := (s.1, s.2.1, f :: s.2.2.1, s.2.2.2)
theorem vKn_spec {KT : Nat → Option vKd} {ρ : Nat → Int32} {σ : Nat → Nat} {ty : Nat → Option Nat} {H : List (XC Int32)} {s : vSt} (h : vRel KT ρ σ ty H s) {f : vK} (hf : vHolds ρ σ H f) : vRel KT ρ σ ty H (vKn f s) :=
  ⟨h.1, h.2.1, fun g hg => by
    rcases List.mem_cons.mp hg with rfl | hg
    · exact hf
    · exact h.2.2.1 g hg, h.2.2.2⟩
def fGet (i : Nat) (key : Nat ⊕ Jvm.Term) (F : List vK) : Option vA := (F.find? (fun f => decide (f.1 = i) && decide (f.2.1 = key))).map (fun f => f.2.2)
theorem fGet_spec {ρ : Nat → Int32} {σ : Nat → Nat} {H : List (XC Int32)} {i : Nat} {key : Nat ⊕ Jvm.Term} {F : List vK} {v : vA} (hF : ∀ f ∈ F, vHolds ρ σ H f) (h : fGet i key F = some v) : vHolds ρ σ H (i, key, v) := by
  unfold fGet at h
  obtain ⟨f, h1, h2⟩ := Option.map_eq_some_iff.mp h
  have h3 := List.find?_some h1
  have h4 := hF f (List.mem_of_find?_eq_some h1)
  simp only [Bool.and_eq_true, decide_eq_true_eq] at h3
  obtain ⟨i2, k2, v2⟩ := f
  obtain ⟨rfl, rfl⟩ := h3
  have h2 : v2 = v := h2
  rw [← h2]
  exact h4
/-- a place (field, or element at a term) of a cell's symbol holds that -/
def vPlace (ρ : Nat → Int32) (σ : Nat → Nat) (H : List (XC Int32)) (i : Nat) (key : Nat ⊕ Jvm.Term) (u : XV Int32) : Prop := match key with
  | .inl j => ∃ ci fs, H[σ i]? = some (.inl (ci, fs)) ∧ fs[j]? = some u
  | .inr e => ∃ t vs, H[σ i]? = some (.inr (t, vs)) ∧ vs[(tEv ρ e).toNatClampNeg]? = some u
theorem vPlace_holds {ρ : Nat → Int32} {σ : Nat → Nat} {H : List (XC Int32)} {i : Nat} {key : Nat ⊕ Jvm.Term} {v : vA} : vHolds ρ σ H (i, key, v) ↔ vPlace ρ σ H i key (cv ρ σ v) := by
  rcases key with j | e
  · exact Iff.rfl
  · exact Iff.rfl
theorem vPlace_one {ρ : Nat → Int32} {σ : Nat → Nat} {H : List (XC Int32)} {i : Nat} {key : Nat ⊕ Jvm.Term} {u v : XV Int32} (h : vPlace ρ σ H i key u) (g : vPlace ρ σ H i key v) : u = v := by
  rcases key with j | e
  · obtain ⟨c1, fs, h1, h2⟩ := h
    obtain ⟨c2, gs, g1, g2⟩ := g
    rw [h1] at g1
    cases g1
    rw [h2] at g2
    cases g2
    rfl
  · obtain ⟨c1, fs, h1, h2⟩ := h
    obtain ⟨c2, gs, g1, g2⟩ := g
    rw [h1] at g1
    cases g1
    rw [h2] at g2
    cases g2
    rfl
theorem vPlace_ext {n m : Nat} {ρ ρ2 : Nat → Int32} {σ σ2 : Nat → Nat} (h : ∀ i, i < n → ρ2 i = ρ i) (g : ∀ i, i < m → σ2 i = σ i) {H : List (XC Int32)} {i : Nat} {key : Nat ⊕ Jvm.Term} {u : XV Int32} (hb : fBd n m (i, key, .inr none) = true) (hf : vPlace ρ σ H i key u) : vPlace ρ2 σ2 H i key u := by
  have hb2 := Bool.and_eq_true_iff.mp hb
  have hb3 := Bool.and_eq_true_iff.mp hb2.1
  rcases key with j | e
  · obtain ⟨ci, fs, h1, h2⟩ := hf
    refine ⟨ci, fs, ?_, h2⟩
    rw [g i (of_decide_eq_true hb3.1)]
    exact h1
  · obtain ⟨t, vs, h1, h2⟩ := hf
    refine ⟨t, vs, ?_, ?_⟩
    · rw [g i (of_decide_eq_true hb3.1)]
      exact h1
    · rw [tBd_spec h e hb3.2]
      exact h2
/-- what a place holds: known, or new by its kind (null and not, where it may be) -/
def vRd (f : vF) (i : Nat) (key : Nat ⊕ Jvm.Term) (s : vSt) (kk : vSt → vA → Bool) : Bool := match fGet i key s.2.2.1 with
  | some v => kk s v
  | none => sBd s && fBd s.1 s.2.1.length (i, key, .inr none) && (match f with
    | .inl p => pOk p && kk (vKn (i, key, .inl (.arg s.1)) (vNi p s)) (.inl (.arg s.1))
    | .inr q => kk (vKn (i, key, .inr (some s.2.1.length)) (vNr q.2 s)) (.inr (some s.2.1.length)) && (!q.1 || kk (vKn (i, key, .inr none) s) (.inr none)))
theorem vRd_spec {KT : Nat → Option vKd} {ρ : Nat → Int32} {σ : Nat → Nat} {ty : Nat → Option Nat} {H : List (XC Int32)} {s : vSt} (h : vRel KT ρ σ ty H s) {f : vF} {i : Nat} {key : Nat ⊕ Jvm.Term} {u : XV Int32} (hp : vPlace ρ σ H i key u) (hu : vFit ty f u) {kk : vSt → vA → Bool} (hk : vRd f i key s kk = true) :
    ∃ ρ2 σ2 s2 v, vExt s s2 ρ ρ2 σ σ2 ∧ vRel KT ρ2 σ2 ty H s2 ∧ cv ρ2 σ2 v = u ∧ kk s2 v = true := by
  unfold vRd at hk
  split at hk
  · rename_i v hv
    exact ⟨ρ, σ, s, v, vExt_rf s ρ σ, h, vPlace_one (vPlace_holds.mp (fGet_spec h.2.2.1 hv)) hp, hk⟩
  · have hk2 := Bool.and_eq_true_iff.mp hk
    have hk3 := Bool.and_eq_true_iff.mp hk2.1
    rcases f with p | q
    · have hk4 := Bool.and_eq_true_iff.mp hk2.2
      rcases u with x | u
      · obtain ⟨ρ2, g1, g2, g3⟩ := vNi_spec h hk3.1 hk4.1 (x := x) hu
        have e : cv ρ2 σ (.inl (.arg s.1)) = .inl x := congrArg Sum.inl g3
        refine ⟨ρ2, σ, vKn (i, key, .inl (.arg s.1)) (vNi p s), .inl (.arg s.1), g1, vKn_spec g2 (vPlace_holds.mpr ?_), e, hk4.2⟩
        rw [e]
        exact vPlace_ext g1.1 g1.2.1 hk3.2 hp
      · rcases u with _ | a
        · exact hu.elim
        · exact hu.elim
    · have hk4 := Bool.and_eq_true_iff.mp hk2.2
      rcases u with x | (_ | a)
      · exact hu.elim
      · have hq : q.1 = true := hu
        have hk5 : (!q.1 || kk (vKn (i, key, .inr none) s) (.inr none)) = true := hk4.2
        rw [hq] at hk5
        have hk5 : kk (vKn (i, key, .inr none) s) (.inr none) = true := hk5
        exact ⟨ρ, σ, vKn (i, key, .inr none) s, .inr none, vExt_rf s ρ σ, vKn_spec h (vPlace_holds.mpr hp), rfl, hk5⟩
      · obtain ⟨σ2, g1, g2, g3⟩ := vNr_spec h hk3.1 (a := a) (c := q.2) hu
        have e : cv ρ σ2 (.inr (some s.2.1.length)) = .inr (some a) := congrArg (fun z => Sum.inr (some z)) g3
        refine ⟨ρ, σ2, vKn (i, key, .inr (some s.2.1.length)) (vNr q.2 s), .inr (some s.2.1.length), g1, vKn_spec g2 (vPlace_holds.mpr ?_), e, hk4.1⟩
        rw [e]
        exact vPlace_ext g1.1 g1.2.1 hk3.2 hp
end XRead
