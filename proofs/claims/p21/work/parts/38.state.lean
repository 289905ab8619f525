/-! A state in symbols: ints by sums, cells by symbols of a kind, what is known of fields and elements. -/
noncomputable section XState
abbrev vA : Type := XV lT
/-- a symbol's cell; from 1000000 on: what lies outside, itself -/
def sR (σ : Nat → Nat) (i : Nat) : Nat := if i < 1000000 then σ i else i
def cv (ρ : Nat → Int) (σ : Nat → Nat) : vA → XV Int32
  | .inl e => .inl (Int32.ofInt (lEv ρ e))
  | .inr none => .inr none
  | .inr (some i) => .inr (some (sR σ i))
/-- what is known of the locals -/
def vCov (ρ : Nat → Int) (σ : Nat → Nat) (L : List (Nat × vA)) (Lc : List (Nat × XV Int32)) : Prop := ∀ j v, x_lk L j = some v → x_lk Lc j = some (cv ρ σ v)
theorem x_lk_st {E : Type} (L : List (Nat × XV E)) (i j : Nat) (v : XV E) : x_lk (x_st L i v) j = if i = j then some v else x_lk L j := by
  simp only [x_lk_eq, x_st_eq]
  by_cases h : i = j
  · rw [if_pos h, List.find?_cons_of_pos (by simpa using h)]
    rfl
  · rw [if_neg h, List.find?_cons_of_neg (by simpa using h)]
    congr 1
    rw [List.find?_filter]
    congr 1
    funext q
    by_cases h1 : q.1 = j
    · subst h1
      have h2 : ¬ q.1 = i := fun e => h e.symm
      simp [h2]
    · simp [h1]
theorem vCov_st {ρ : Nat → Int} {σ : Nat → Nat} {L : List (Nat × vA)} {Lc : List (Nat × XV Int32)} (h : vCov ρ σ L Lc) (i : Nat) (v : vA) : vCov ρ σ (x_st L i v) (x_st Lc i (cv ρ σ v)) := fun j u hj => by
  rw [x_lk_st] at hj ⊢
  split at hj
  · rename_i e
    rw [if_pos e]
    cases hj
    rfl
  · rename_i e
    rw [if_neg e]
    exact h j u hj
theorem vCov_en {ρ : Nat → Int} {σ : Nat → Nat} : ∀ (vs : List vA) (i : Nat), vCov ρ σ (x_en i vs) (x_en i (vs.map (cv ρ σ)))
  | [], _ => fun j u hj => by cases hj
  | v :: vs, i => fun j u hj => by
    have ih := vCov_en (ρ := ρ) (σ := σ) vs (i + 1) j u
    show x_lk ((i, cv ρ σ v) :: x_en (i + 1) (vs.map (cv ρ σ))) j = _
    have hj : x_lk ((i, v) :: x_en (i + 1) vs) j = some u := hj
    simp only [x_lk_eq] at hj ih ⊢
    by_cases e : i = j
    · rw [List.find?_cons_of_pos (by simpa using e)] at hj ⊢
      cases hj
      rfl
    · rw [List.find?_cons_of_neg (by simpa using e)] at hj ⊢
      exact ih hj
def vBd (n m : Nat) : vA → Bool
  | .inl e => lBd n e
  | .inr none => true
  | .inr (some i) => decide (i < m) || decide (1000000 ≤ i)
theorem sR_spec {m : Nat} {σ σ2 : Nat → Nat} (g : ∀ i, i < m → σ2 i = σ i) {i : Nat} (h : (decide (i < m) || decide (1000000 ≤ i)) = true) : sR σ2 i = sR σ i := by
  unfold sR
  rcases Bool.or_eq_true_iff.mp h with h | h
  · rw [g i (of_decide_eq_true h)]
  · have := of_decide_eq_true h
    rw [if_neg (by omega), if_neg (by omega)]
theorem vBd_spec {n m : Nat} {ρ ρ2 : Nat → Int} {σ σ2 : Nat → Nat} (h : ∀ i, i < n → ρ2 i = ρ i) (g : ∀ i, i < m → σ2 i = σ i) {v : vA} (hv : vBd n m v = true) : cv ρ2 σ2 v = cv ρ σ v := by
  rcases v with e | (_ | i)
  · exact congrArg (fun z => Sum.inl (Int32.ofInt z)) (lBd_spec h hv)
  · rfl
  · exact congrArg (fun z => Sum.inr (some z)) (sR_spec g hv)
theorem vBd_list {n m : Nat} {ρ ρ2 : Nat → Int} {σ σ2 : Nat → Nat} (h : ∀ i, i < n → ρ2 i = ρ i) (g : ∀ i, i < m → σ2 i = σ i) {S : List vA} (hS : S.all (vBd n m) = true) : S.map (cv ρ2 σ2) = S.map (cv ρ σ) :=
  List.map_congr_left fun v hv => vBd_spec h g (List.all_eq_true.mp hS v hv)
theorem vBd_loc {n m : Nat} {ρ ρ2 : Nat → Int} {σ σ2 : Nat → Nat} (h : ∀ i, i < n → ρ2 i = ρ i) (g : ∀ i, i < m → σ2 i = σ i) {L : List (Nat × vA)} {Lc : List (Nat × XV Int32)} (hL : L.all (fun q => vBd n m q.2) = true) (hc : vCov ρ σ L Lc) : vCov ρ2 σ2 L Lc := fun j v hj => by
  have hm : vBd n m v = true := by
    simp only [x_lk_eq] at hj
    obtain ⟨q, hq, rfl⟩ := Option.map_eq_some_iff.mp hj
    exact List.all_eq_true.mp hL q (List.mem_of_find?_eq_some hq)
  rw [vBd_spec h g hm]
  exact hc j v hj
/-- what is known: of a cell's field, or of its element at a sum -/
abbrev vK : Type := Nat × (Nat ⊕ lT) × vA
/-- a place (field, or element at a sum) of a cell's symbol holds that -/
def vPlace (ρ : Nat → Int) (σ : Nat → Nat) (H : List (XC Int32)) (i : Nat) (key : Nat ⊕ lT) (u : XV Int32) : Prop := match key with
  | .inl j => ∃ ci fs, H[sR σ i]? = some (.inl (ci, fs)) ∧ fs[j]? = some u
  | .inr e => ∃ t vs, H[sR σ i]? = some (.inr (t, vs)) ∧ 0 ≤ lEv ρ e ∧ vs[(lEv ρ e).toNat]? = some u
/-- what else may be known of a cell's symbol: that it isn't another's -/
def vNot (σ : Nat → Nat) (f : vK) : Prop := ∃ k, f.2.1 = .inr (lK (-1)) ∧ f.2.2 = .inr (some k) ∧ sR σ f.1 ≠ sR σ k
def vHolds (ρ : Nat → Int) (σ : Nat → Nat) (H : List (XC Int32)) (f : vK) : Prop := vPlace ρ σ H f.1 f.2.1 (cv ρ σ f.2.2) ∨ vNot σ f
theorem vHolds_int {ρ : Nat → Int} {σ : Nat → Nat} {H : List (XC Int32)} {i : Nat} {key : Nat ⊕ lT} {e : lT} (h : vHolds ρ σ H (i, key, .inl e)) : vPlace ρ σ H i key (cv ρ σ (.inl e)) := by
  rcases h with h | ⟨k, -, h, -⟩
  · exact h
  · cases h
theorem vHolds_fld {ρ : Nat → Int} {σ : Nat → Nat} {H : List (XC Int32)} {i j : Nat} {v : vA} (h : vHolds ρ σ H (i, .inl j, v)) : vPlace ρ σ H i (.inl j) (cv ρ σ v) := by
  rcases h with h | ⟨k, h, -, -⟩
  · exact h
  · cases h
def kyAp : Nat ⊕ lT → Bool
  | .inl _ => false
  | .inr e => decide (e.1 = -1) && e.2.isEmpty
/-- two symbols are known for two cells -/
def fAp (F : List vK) (a b : Nat) : Bool := F.any (fun f => kyAp f.2.1 && (match f.2.2 with
  | .inr (some k) => (decide (f.1 = a) && decide (k = b)) || (decide (f.1 = b) && decide (k = a))
  | _ => false))
def kyBd (n : Nat) : Nat ⊕ lT → Bool
  | .inl _ => true
  | .inr e => lBd n e
def fBd (n m : Nat) (f : vK) : Bool := (decide (f.1 < m) || decide (1000000 ≤ f.1)) && kyBd n f.2.1 && vBd n m f.2.2
theorem vPlace_ext {n m : Nat} {ρ ρ2 : Nat → Int} {σ σ2 : Nat → Nat} (h : ∀ i, i < n → ρ2 i = ρ i) (g : ∀ i, i < m → σ2 i = σ i) {H : List (XC Int32)} {i : Nat} {key : Nat ⊕ lT} {u : XV Int32} (hb : fBd n m (i, key, .inr none) = true) (hf : vPlace ρ σ H i key u) : vPlace ρ2 σ2 H i key u := by
  have hb2 := Bool.and_eq_true_iff.mp hb
  have hb3 := Bool.and_eq_true_iff.mp hb2.1
  have hs := sR_spec g hb3.1
  rcases key with j | e
  · obtain ⟨ci, fs, h1, h2⟩ := hf
    exact ⟨ci, fs, by rw [hs]; exact h1, h2⟩
  · obtain ⟨t, vs, h1, h0, h2⟩ := hf
    have he : lEv ρ2 e = lEv ρ e := lBd_spec h hb3.2
    exact ⟨t, vs, by rw [hs]; exact h1, by rw [he]; exact h0, by rw [he]; exact h2⟩
theorem fBd_spec {n m : Nat} {ρ ρ2 : Nat → Int} {σ σ2 : Nat → Nat} (h : ∀ i, i < n → ρ2 i = ρ i) (g : ∀ i, i < m → σ2 i = σ i) {H : List (XC Int32)} {f : vK} (hb : fBd n m f = true) (hf : vHolds ρ σ H f) : vHolds ρ2 σ2 H f := by
  have hb2 := Bool.and_eq_true_iff.mp hb
  rcases hf with hf | ⟨k, k1, k2, k3⟩
  · refine Or.inl ?_
    rw [vBd_spec h g hb2.2]
    refine vPlace_ext h g ?_ hf
    show ((decide (f.1 < m) || decide (1000000 ≤ f.1)) && kyBd n f.2.1 && true) = true
    rw [hb2.1]
    rfl
  · have h1 := (Bool.and_eq_true_iff.mp hb2.1).1
    have h2 := hb2.2
    rw [k2] at h2
    have h2 : (decide (k < m) || decide (1000000 ≤ k)) = true := h2
    exact Or.inr ⟨k, k1, k2, by rw [sR_spec g h1, sR_spec g h2]; exact k3⟩
theorem fAp_spec {ρ : Nat → Int} {σ : Nat → Nat} {H : List (XC Int32)} {F : List vK} (hF : ∀ f ∈ F, vHolds ρ σ H f) {a b : Nat} (h : fAp F a b = true) : sR σ a ≠ sR σ b := by
  obtain ⟨f, hf, h⟩ := List.any_eq_true.mp h
  have h1 := Bool.and_eq_true_iff.mp h
  obtain ⟨x, key, v⟩ := f
  have hk := h1.1
  rcases key with j | e
  · cases hk
  have hk := Bool.and_eq_true_iff.mp hk
  have e1 := of_decide_eq_true hk.1
  have e2 := List.isEmpty_iff.mp hk.2
  have e1 : e.1 = -1 := e1
  have e2 : e.2 = [] := e2
  rcases hF _ hf with ⟨t, vs, -, h0, -⟩ | ⟨k, -, k2, k3⟩
  · have h0 : 0 ≤ lEv ρ e := h0
    have h3 : lEv ρ e = e.1 + lS ρ e.2 := rfl
    rw [e1, e2] at h3
    have h4 : lS ρ [] = 0 := rfl
    omega
  · have k2 : v = .inr (some k) := k2
    subst k2
    have k3 : sR σ x ≠ sR σ k := k3
    rcases Bool.or_eq_true_iff.mp h1.2 with h2 | h2
    · have h3 := Bool.and_eq_true_iff.mp h2
      have a1 : x = a := of_decide_eq_true h3.1
      have a2 : k = b := of_decide_eq_true h3.2
      rw [← a1, ← a2]
      exact k3
    · have h3 := Bool.and_eq_true_iff.mp h2
      have a1 : x = b := of_decide_eq_true h3.1
      have a2 : k = a := of_decide_eq_true h3.2
      rw [← a1, ← a2]
      exact k3.symm
theorem vPlace_one {ρ : Nat → Int} {σ : Nat → Nat} {H : List (XC Int32)} {i : Nat} {key : Nat ⊕ lT} {u v : XV Int32} (h : vPlace ρ σ H i key u) (g : vPlace ρ σ H i key v) : u = v := by
  rcases key with j | e
  · obtain ⟨c1, fs, h1, h2⟩ := h
    obtain ⟨c2, gs, g1, g2⟩ := g
    rw [h1] at g1
    cases g1
    rw [h2] at g2
    cases g2
    rfl
  · obtain ⟨c1, fs, h1, -, h2⟩ := h
    obtain ⟨c2, gs, g1, -, g2⟩ := g
    rw [h1] at g1
    cases g1
    rw [h2] at g2
    cases g2
    rfl
/-- symbols of cells are of their kinds -/
def vSym (ty : Nat → Option Nat) (σ : Nat → Nat) (G : List Nat) : Prop := ∀ (i c : Nat), G[i]? = some c → ty (sR σ i) = some c
/-- do two symbols surely stand for two cells -/
def gAt (G : List Nat) : Nat → Option Nat := List.rec (motive := fun _ => Nat → Option Nat) (fun _ => none) (fun a _ h n => Nat.rec (motive := fun _ => Option Nat) (some a) (fun m _ => h m) n) G
theorem gAt_eq : ∀ (G : List Nat) (i : Nat), gAt G i = G[i]?
  | [], _ => rfl
  | _ :: _, 0 => rfl
  | _ :: G, i + 1 => by
    rw [List.getElem?_cons_succ]
    exact gAt_eq G i
def vApart (G : List Nat) (i j : Nat) : Bool := Option.rec (motive := fun _ => Bool) false (fun a => Option.rec (motive := fun _ => Bool) false (fun b => Bool.rec (motive := fun _ => Bool) true false (Nat.beq a b)) (gAt G j)) (gAt G i)
theorem vApart_c (G : List Nat) (i j : Nat) : vApart G i j = match G[i]?, G[j]? with
    | some a, some b => !(Nat.beq a b)
    | _, _ => false := by
  show Option.rec (motive := fun _ => Bool) false (fun a => Option.rec (motive := fun _ => Bool) false (fun b => Bool.rec (motive := fun _ => Bool) true false (Nat.beq a b)) (gAt G j)) (gAt G i) = _
  rw [gAt_eq, gAt_eq]
  cases G[i]? with
  | none => rfl
  | some a => cases G[j]? with
    | none => rfl
    | some b =>
      show Bool.rec (motive := fun _ => Bool) true false (Nat.beq a b) = !(Nat.beq a b)
      cases Nat.beq a b <;> rfl
theorem vApart_spec {ty : Nat → Option Nat} {σ : Nat → Nat} {G : List Nat} (h : vSym ty σ G) {i j : Nat} (ha : vApart G i j = true) : sR σ i ≠ sR σ j := by
  rw [vApart_c] at ha
  split at ha
  · rename_i a b h1 h2
    intro e
    have g1 := h i a h1
    have g2 := h j b h2
    rw [e, g2] at g1
    cases g1
    exact Nat.ne_of_beq_eq_false (show Nat.beq a a = false by simpa using ha) rfl
  · cases ha
/-- what stays known when field j of i is written -/
def fPut (G : List Nat) (i j : Nat) (F : List vK) : List vK := lFil (fun f => Bool.rec (motive := fun _ => Bool) (Bool.rec (motive := fun _ => Bool) (fAp F f.1 i) true (vApart G f.1 i)) true (Sum.rec (motive := fun _ => Bool) (fun j2 => Bool.rec (motive := fun _ => Bool) true false (Nat.beq j2 j)) (fun _ => true) f.2.1)) F
theorem fPut_spec {ρ : Nat → Int} {ty : Nat → Option Nat} {σ : Nat → Nat} {G : List Nat} (hs : vSym ty σ G) {H : List (XC Int32)} {i j ci : Nat} {fs : List (XV Int32)} {u : XV Int32} (hH : H[sR σ i]? = some (.inl (ci, fs))) {F : List vK} (hF : ∀ f ∈ F, vHolds ρ σ H f) : ∀ f ∈ fPut G i j F, vHolds ρ σ (H.set (sR σ i) (.inl (ci, fs.set j u))) f := by
  intro f hf
  obtain ⟨h1, h2⟩ := lFil_mem _ hf
  have h2 : ((match f.2.1 with | .inl j2 => !(Nat.beq j2 j) | .inr _ => true) || vApart G f.1 i || fAp F f.1 i) = true := by
    obtain ⟨x, k | e, v⟩ := f
    · have h3 : Bool.rec (motive := fun _ => Bool) (Bool.rec (motive := fun _ => Bool) (fAp F x i) true (vApart G x i)) true (Bool.rec (motive := fun _ => Bool) true false (Nat.beq k j)) = true := h2
      show (!(Nat.beq k j) || vApart G x i || fAp F x i) = true
      revert h3
      cases Nat.beq k j <;> cases vApart G x i <;> intro h3 <;> first | rfl | exact h3
    · rfl
  have h3 := hF f h1
  rcases h3 with h3 | h3
  rotate_left
  · exact Or.inr h3
  refine Or.inl ?_
  obtain ⟨i2, j2 | e, v⟩ := f
  · obtain ⟨c2, gs, h4, h5⟩ := h3
    by_cases he : sR σ i = sR σ i2
    · have h2 := Bool.or_eq_true_iff.mp h2
      rcases h2 with h2 | h2
      rotate_left
      · exact (fAp_spec hF h2 he.symm).elim
      rcases Bool.or_eq_true_iff.mp h2 with h2 | h2
      rotate_left
      · exact (vApart_spec hs h2 he.symm).elim
      · have hj : j2 ≠ j := nb_ne h2
        have h4 : H[sR σ i2]? = some (.inl (c2, gs)) := h4
        rw [← he, hH] at h4
        cases h4
        refine ⟨ci, fs.set j u, ?_, ?_⟩
        · show (H.set (sR σ i) _)[sR σ i2]? = _
          rw [← he]
          exact List.getElem?_set_self (List.getElem?_eq_some_iff.mp hH).1
        · show (fs.set j u)[j2]? = _
          rw [List.getElem?_set_ne (Ne.symm hj)]
          exact h5
    · refine ⟨c2, gs, ?_, h5⟩
      show (H.set (sR σ i) _)[sR σ i2]? = _
      rw [List.getElem?_set_ne he]
      exact h4
  · obtain ⟨t, vs, h4, h5⟩ := h3
    have h4 : H[sR σ i2]? = some (.inr (t, vs)) := h4
    have he : sR σ i ≠ sR σ i2 := fun he => by
      rw [← he, hH] at h4
      cases h4
    refine ⟨t, vs, ?_, h5⟩
    show (H.set (sR σ i) _)[sR σ i2]? = _
    rw [List.getElem?_set_ne he]
    exact h4
/-- what stays known when elements of i are written; kp: places that stay -/
def fArr (kp : lT → Bool) (G : List Nat) (i : Nat) (F : List vK) : List vK := lFil (fun f => Sum.rec (motive := fun _ => Bool) (fun _ => true) (fun e => Bool.rec (motive := fun _ => Bool) (Bool.rec (motive := fun _ => Bool) (Bool.rec (motive := fun _ => Bool) (fAp F f.1 i) true (kyAp f.2.1)) true (kp e)) true (vApart G f.1 i)) f.2.1) F
theorem fArr_spec {ρ : Nat → Int} {ty : Nat → Option Nat} {σ : Nat → Nat} {G : List Nat} {kp : lT → Bool} (hs : vSym ty σ G) {H : List (XC Int32)} {i t : Nat} {vs us : List (XV Int32)} (hH : H[sR σ i]? = some (.inr (t, vs))) (hkp : ∀ e, kp e = true → 0 ≤ lEv ρ e → us[(lEv ρ e).toNat]? = vs[(lEv ρ e).toNat]?) {F : List vK} (hF : ∀ f ∈ F, vHolds ρ σ H f) : ∀ f ∈ fArr kp G i F, vHolds ρ σ (H.set (sR σ i) (.inr (t, us))) f := by
  intro f hf
  obtain ⟨h1, h2⟩ := lFil_mem _ hf
  have h2 : ((match f.2.1 with | .inl _ => true | .inr e => kp e || kyAp f.2.1) || vApart G f.1 i || fAp F f.1 i) = true := by
    obtain ⟨x, k | e, v⟩ := f
    · rfl
    · have h3 : Bool.rec (motive := fun _ => Bool) (Bool.rec (motive := fun _ => Bool) (Bool.rec (motive := fun _ => Bool) (fAp F x i) true (kyAp (.inr e))) true (kp e)) true (vApart G x i) = true := h2
      show (kp e || kyAp (.inr e) || vApart G x i || fAp F x i) = true
      revert h3
      cases kp e <;> cases kyAp (.inr e) <;> cases vApart G x i <;> intro h3 <;> first | rfl | exact h3
  have h3 := hF f h1
  rcases h3 with h3 | h3
  rotate_left
  · exact Or.inr h3
  refine Or.inl ?_
  obtain ⟨i2, j2 | e, v⟩ := f
  · obtain ⟨c2, gs, h4, h5⟩ := h3
    have h4 : H[sR σ i2]? = some (.inl (c2, gs)) := h4
    have he : sR σ i ≠ sR σ i2 := fun he => by
      rw [← he, hH] at h4
      cases h4
    refine ⟨c2, gs, ?_, h5⟩
    show (H.set (sR σ i) _)[sR σ i2]? = _
    rw [List.getElem?_set_ne he]
    exact h4
  · obtain ⟨t2, ws, h4, h0, h5⟩ := h3
    by_cases he : sR σ i = sR σ i2
    · rcases Bool.or_eq_true_iff.mp h2 with h2 | h2
      rotate_left
      · exact (fAp_spec hF h2 he.symm).elim
      rcases Bool.or_eq_true_iff.mp h2 with h2 | h2
      rotate_left
      · exact (vApart_spec hs h2 he.symm).elim
      have h0 : 0 ≤ lEv ρ e := h0
      have h2 : kp e = true := by
        rcases Bool.or_eq_true_iff.mp h2 with h2 | h2
        · exact h2
        · have hk := Bool.and_eq_true_iff.mp h2
          have e1 : e.1 = -1 := of_decide_eq_true hk.1
          have e2 : e.2 = [] := List.isEmpty_iff.mp hk.2
          have h6 : lEv ρ e = e.1 + lS ρ e.2 := rfl
          rw [e1, e2] at h6
          have h7 : lS ρ [] = 0 := rfl
          omega
      have h4 : H[sR σ i2]? = some (.inr (t2, ws)) := h4
      rw [← he, hH] at h4
      cases h4
      refine ⟨t, us, ?_, h0, ?_⟩
      · show (H.set (sR σ i) _)[sR σ i2]? = _
        rw [← he]
        exact List.getElem?_set_self (List.getElem?_eq_some_iff.mp hH).1
      · rw [hkp e h2 h0]
        exact h5
    · refine ⟨t2, ws, ?_, h0, h5⟩
      show (H.set (sR σ i) _)[sR σ i2]? = _
      rw [List.getElem?_set_ne he]
      exact h4
/-- two sums surely differ -/
def lNe (I : lI) (a b : lT) : Bool := Option.rec (motive := fun _ => Bool) false (fun t => Bool.rec (motive := fun _ => Bool) (iMi t.2) true (iPs t.1)) (lRn I (lSub a b))
theorem lNe_c (I : lI) (a b : lT) : lNe I a b = match lRn I (lSub a b) with
    | none => false
    | some t => iPs t.1 || iMi t.2 := by
  show Option.rec (motive := fun _ => Bool) false (fun t => Bool.rec (motive := fun _ => Bool) (iMi t.2) true (iPs t.1)) (lRn I (lSub a b)) = _
  cases lRn I (lSub a b) with
  | none => rfl
  | some t =>
    show Bool.rec (motive := fun _ => Bool) (iMi t.2) true (iPs t.1) = (iPs t.1 || iMi t.2)
    cases iPs t.1 <;> rfl
theorem lNe_spec {ρ : Nat → Int} {I : lI} (hI : iHd ρ I) {a b : lT} (h : lNe I a b = true) : lEv ρ a ≠ lEv ρ b := by
  rw [lNe_c] at h
  split at h
  · cases h
  rename_i t ht
  have h1 := lRn_spec hI ht
  rw [lSub_ev] at h1
  rcases Bool.or_eq_true_iff.mp h with h | h
  · have := iPs_spec h
    omega
  · have := iMi_spec h
    omega
/-- what came of an operation: which, of what, what -/
abbrev vMm : Type := Nat × lT × lT × lT
def mHd (ρ : Nat → Int) (m : vMm) : Prop := x_bin m.1 (Int32.ofInt (lEv ρ m.2.1)) (Int32.ofInt (lEv ρ m.2.2.1)) = Int32.ofInt (lEv ρ m.2.2.2)
def mBd (n : Nat) (m : vMm) : Bool := lBd n m.2.1 && lBd n m.2.2.1 && lBd n m.2.2.2
theorem mBd_spec {n : Nat} {ρ ρ2 : Nat → Int} (h : ∀ i, i < n → ρ2 i = ρ i) {m : vMm} (hb : mBd n m = true) (hm : mHd ρ m) : mHd ρ2 m := by
  have h1 := Bool.and_eq_true_iff.mp hb
  have h2 := Bool.and_eq_true_iff.mp h1.1
  unfold mHd at hm ⊢
  rw [lBd_spec h h2.1, lBd_spec h h2.2, lBd_spec h h1.2]
  exact hm
/-- kinds; a counted row: the kind that counts, the field of the number, the field of the row, the row's kind; the kind of the lines' rows; kinds not yet ready, and what they become -/
abbrev vKT : Type := List vKd × (Nat × Nat × Nat × Nat × Nat) × List (Nat × Nat)
def kRaw (KT : vKT) (c : Nat) : Option Nat := (KT.2.2.find? (fun q => decide (q.1 = c))).map (fun q => q.2)
/-- of each four: the first from 4 to 8: the third is a field; up to 9: the second is one -/
def vGrp (vs : List (XV Int32)) : Prop := ∀ (b : Nat) (o : Int32), b % 4 = 0 → vs[b]? = some (.inl o) → (o.toInt ≤ 9 → ∀ f : Int32, vs[b + 1]? = some (.inl f) → f.toInt ≤ 5) ∧ (4 ≤ o.toInt → o.toInt ≤ 8 → ∀ g : Int32, vs[b + 2]? = some (.inl g) → g.toInt ≤ 5)
def vGp (KT : vKT) (ty : Nat → Option Nat) (H : List (XC Int32)) : Prop := ∀ a t vs, ty a = some KT.2.1.2.2.2.2 → H[a]? = some (.inr (t, vs)) → vGrp vs
/-- rows that are counted have their cells, as far as they count -/
def vNN (KT : vKT) (ty : Nat → Option Nat) (H : List (XC Int32)) : Prop := ∀ a, ty a = some KT.2.1.1 → ∃ ci fs n b t vs, H[a]? = some (.inl (ci, fs)) ∧ fs[KT.2.1.2.1]? = some (.inl n) ∧ fs[KT.2.1.2.2.1]? = some (.inr (some b)) ∧ ty b = some KT.2.1.2.2.2.1 ∧ H[b]? = some (.inr (t, vs)) ∧ ∀ i : Nat, (i : Int) < n.toInt → ∃ p, vs[i]? = some (.inr (some p))
/-- next unknown, kinds of the cells' symbols, what is known, bounds, what isn't below 0, what came of operations, cells not yet ready -/
abbrev vSt : Type := Nat × List Nat × List vK × lI × List lT × List vMm × List Nat
abbrev sN (s : vSt) : Nat := s.1
abbrev sG (s : vSt) : List Nat := s.2.1
abbrev sF (s : vSt) : List vK := s.2.2.1
abbrev sI (s : vSt) : lI := s.2.2.2.1
abbrev sC (s : vSt) : List lT := s.2.2.2.2.1
abbrev sM (s : vSt) : List vMm := s.2.2.2.2.2.1
abbrev sRw (s : vSt) : List Nat := s.2.2.2.2.2.2
def vRel (KT : vKT) (ρ : Nat → Int) (σ : Nat → Nat) (ty : Nat → Option Nat) (H : List (XC Int32)) (s : vSt) : Prop :=
  vHp (fun c => KT.1[c]?) ty H ∧ vSym ty σ (sG s) ∧ (∀ f ∈ sF s, vHolds ρ σ H f) ∧ iHd ρ (sI s) ∧ (∀ c ∈ sC s, 0 ≤ lEv ρ c) ∧ (∀ m ∈ sM s, mHd ρ m) ∧ (vNN KT ty H ∧ vGp KT ty H) ∧ (∀ a c d, ty a = some c → kRaw KT c = some d → ∃ i ∈ sRw s, sR σ i = a)
/-- older symbols stand for what they stood for -/
def vExt (s s2 : vSt) (ρ ρ2 : Nat → Int) (σ σ2 : Nat → Nat) : Prop :=
  (∀ i, i < sN s → ρ2 i = ρ i) ∧ (∀ i, i < (sG s).length → σ2 i = σ i) ∧ sN s ≤ sN s2 ∧ (sG s).length ≤ (sG s2).length
theorem vExt_rf (s : vSt) (ρ : Nat → Int) (σ : Nat → Nat) : vExt s s ρ ρ σ σ := ⟨fun _ _ => rfl, fun _ _ => rfl, Nat.le_refl _, Nat.le_refl _⟩
theorem vExt_tr {s s2 s3 : vSt} {ρ ρ2 ρ3 : Nat → Int} {σ σ2 σ3 : Nat → Nat} (h : vExt s s2 ρ ρ2 σ σ2) (g : vExt s2 s3 ρ2 ρ3 σ2 σ3) : vExt s s3 ρ ρ3 σ σ3 :=
  ⟨fun i hi => (g.1 i (Nat.lt_of_lt_of_le hi h.2.2.1)).trans (h.1 i hi), fun i hi => (g.2.1 i (Nat.lt_of_lt_of_le hi h.2.2.2)).trans (h.2.1 i hi), Nat.le_trans h.2.2.1 g.2.2.1, Nat.le_trans h.2.2.2 g.2.2.2⟩
/-- the same unknowns and symbols -/
theorem vExt_eq {s s2 : vSt} (ρ : Nat → Int) (σ : Nat → Nat) (h1 : sN s2 = sN s) (h2 : (sG s2).length = (sG s).length) : vExt s s2 ρ ρ σ σ := ⟨fun _ _ => rfl, fun _ _ => rfl, Nat.le_of_eq h1.symm, Nat.le_of_eq h2.symm⟩
theorem bleD (a b : Nat) : Nat.ble a b = decide (a ≤ b) := by
  by_cases c : a ≤ b
  · rw [decide_eq_true c]
    exact Nat.ble_eq_true_of_le c
  · rw [decide_eq_false c]
    exact Bool.eq_false_iff.mpr (fun h => c (Nat.le_of_ble_eq_true h))
def lAllR {α : Type} (p : α → Bool) (l : List α) : Bool := List.rec (motive := fun _ => Bool) true (fun a _ h => Bool.rec (motive := fun _ => Bool) false h (p a)) l
theorem lAllR_eq {α : Type} (p : α → Bool) : ∀ l : List α, lAllR p l = l.all p
  | [] => rfl
  | a :: r => by
    show Bool.rec (motive := fun _ => Bool) false (lAllR p r) (p a) = (p a && r.all p)
    rw [lAllR_eq p r]
    cases p a <;> rfl
def lBdR (n : Nat) (l : List (Nat × Int)) : Bool := List.rec (motive := fun _ => Bool) true (fun p _ h => Bool.rec (motive := fun _ => Bool) false h (Nat.ble (Nat.succ p.1) n)) l
theorem lBdR_eq (n : Nat) : ∀ l : List (Nat × Int), lBdR n l = lBds n l
  | [] => rfl
  | p :: r => by
    show Bool.rec (motive := fun _ => Bool) false (lBdR n r) (Nat.ble (p.1 + 1) n) = (Nat.ble (p.1 + 1) n && lBds n r)
    rw [lBdR_eq n r]
    cases Nat.ble (p.1 + 1) n <;> rfl
def iBdR (m i : Nat) : Bool := Bool.rec (motive := fun _ => Bool) (Nat.ble 1000000 i) true (Nat.ble (Nat.succ i) m)
theorem iBdR_eq (m i : Nat) : iBdR m i = (decide (i < m) || decide (1000000 ≤ i)) := by
  show Bool.rec (motive := fun _ => Bool) (Nat.ble 1000000 i) true (Nat.ble (i + 1) m) = (decide (i + 1 ≤ m) || _)
  rw [← bleD, ← bleD]
  cases Nat.ble (i + 1) m <;> rfl
def vBdR (n m : Nat) (v : vA) : Bool := Sum.rec (motive := fun _ => Bool) (fun l => lBdR n l.2) (fun o => Option.rec (motive := fun _ => Bool) true (fun i => iBdR m i) o) v
theorem vBdR_eq (n m : Nat) (v : vA) : vBdR n m v = vBd n m v := by
  rcases v with e | (_ | i)
  · exact lBdR_eq n e.2
  · rfl
  · exact iBdR_eq m i
def fBdR (n m : Nat) (f : vK) : Bool := Bool.rec (motive := fun _ => Bool) false (Bool.rec (motive := fun _ => Bool) false (vBdR n m f.2.2) (Sum.rec (motive := fun _ => Bool) (fun _ => true) (fun e => lBdR n e.2) f.2.1)) (iBdR m f.1)
theorem fBdR_eq (n m : Nat) (f : vK) : fBdR n m f = fBd n m f := by
  obtain ⟨i, k, v⟩ := f
  have hk : (Sum.rec (motive := fun _ => Bool) (fun _ => true) (fun e => lBdR n e.2) k : Bool) = kyBd n k := by
    rcases k with j | e
    · rfl
    · exact lBdR_eq n e.2
  show Bool.rec (motive := fun _ => Bool) false (Bool.rec (motive := fun _ => Bool) false (vBdR n m v) (Sum.rec (motive := fun _ => Bool) (fun _ => true) (fun e => lBdR n e.2) k)) (iBdR m i) = ((decide (i < m) || decide (1000000 ≤ i)) && kyBd n k && vBd n m v)
  rw [hk, iBdR_eq, vBdR_eq]
  cases (decide (i < m) || decide (1000000 ≤ i)) <;> cases kyBd n k <;> rfl
def sBd (s : vSt) : Bool := Bool.rec (motive := fun _ => Bool) false (Bool.rec (motive := fun _ => Bool) false (Bool.rec (motive := fun _ => Bool) false (Bool.rec (motive := fun _ => Bool) false (Bool.rec (motive := fun _ => Bool) false (lAllR (fun i => Nat.ble (Nat.succ i) (sG s).length) (sRw s)) (lAllR (fun q => Nat.ble (Nat.succ q.1) (sN s)) (sI s))) (lAllR (mBd (sN s)) (sM s))) (lAllR (fun c => lBdR (sN s) c.2) (sC s))) (lAllR (fBdR (sN s) (sG s).length) (sF s))) (Nat.ble (Nat.succ (sG s).length) 1000000)
theorem bRec (a b : Bool) : (Bool.rec (motive := fun _ => Bool) false a b : Bool) = (b && a) := by cases b <;> rfl
theorem sBd_c (s : vSt) : sBd s = (decide ((sG s).length < 1000000) && (sF s).all (fBd (sN s) (sG s).length) && (sC s).all (lBd (sN s)) && (sM s).all (mBd (sN s)) && (sI s).all (fun q => decide (q.1 < sN s)) && (sRw s).all (fun i => decide (i < (sG s).length))) := by
  have e1 : fBdR (sN s) (sG s).length = fBd (sN s) (sG s).length := funext fun f => fBdR_eq _ _ f
  have e2 : (fun c : lT => lBdR (sN s) c.2) = lBd (sN s) := funext fun c => lBdR_eq _ c.2
  have e3 : (fun q : Nat × Int × Int => Nat.ble (Nat.succ q.1) (sN s)) = (fun q => decide (q.1 < sN s)) := funext fun q => bleD (q.1 + 1) (sN s)
  have e4 : (fun i => Nat.ble (Nat.succ i) (sG s).length) = (fun i => decide (i < (sG s).length)) := funext fun i => bleD (i + 1) _
  have e5 : Nat.ble (Nat.succ (sG s).length) 1000000 = decide ((sG s).length < 1000000) := bleD _ _
  unfold sBd
  rw [bRec, bRec, bRec, bRec, bRec, lAllR_eq, lAllR_eq, lAllR_eq, lAllR_eq, lAllR_eq, e1, e2, e3, e4, e5]
  simp only [Bool.and_assoc]
theorem sBd_spec {s : vSt} (h : sBd s = true) : (sG s).length < 1000000 ∧ (∀ f ∈ sF s, fBd (sN s) (sG s).length f = true) ∧ (∀ c ∈ sC s, lBd (sN s) c = true) ∧ (∀ m ∈ sM s, mBd (sN s) m = true) ∧ (∀ q ∈ sI s, q.1 < sN s) ∧ (∀ i ∈ sRw s, i < (sG s).length) := by
  rw [sBd_c] at h
  simp only [Bool.and_eq_true] at h
  obtain ⟨⟨⟨⟨⟨h1, h2⟩, h3⟩, h4⟩, h5⟩, h6⟩ := h
  exact ⟨of_decide_eq_true h1, List.all_eq_true.mp h2, List.all_eq_true.mp h3, List.all_eq_true.mp h4, fun q hq => of_decide_eq_true (List.all_eq_true.mp h5 q hq), fun i hi => of_decide_eq_true (List.all_eq_true.mp h6 i hi)⟩
/-- what holds stays, for other unknowns and symbols -/
theorem vRel_ext {KT : vKT} {ρ ρ2 : Nat → Int} {σ σ2 : Nat → Nat} {ty : Nat → Option Nat} {H : List (XC Int32)} {s : vSt} (h : vRel KT ρ σ ty H s) (hb : sBd s = true) (he : ∀ i, i < sN s → ρ2 i = ρ i) (hg : ∀ i, i < (sG s).length → σ2 i = σ i) : vRel KT ρ2 σ2 ty H s := by
  obtain ⟨b1, b2, b3, b4, b5, b6⟩ := sBd_spec hb
  obtain ⟨h1, h2, h3, h4, h5, h6, h7, h8⟩ := h
  have hs : ∀ i, i < (sG s).length → sR σ2 i = sR σ i := fun i hi => sR_spec hg (by rw [decide_eq_true hi]; rfl)
  refine ⟨h1, fun i c hc => ?_, fun f hf => fBd_spec he hg (b2 f hf) (h3 f hf), fun q hq => ?_, fun c hc => ?_, fun m hm => mBd_spec he (b4 m hm) (h6 m hm), h7, fun a c d ha hd => ?_⟩
  · rw [hs i (List.getElem?_eq_some_iff.mp hc).1]
    exact h2 i c hc
  · rw [he q.1 (b5 q hq)]
    exact h4 q hq
  · rw [lBd_spec he (b3 c hc)]
    exact h5 c hc
  · obtain ⟨i, hi, e⟩ := h8 a c d ha hd
    exact ⟨i, hi, by rw [hs i (b6 i hi)]; exact e⟩
/-- a new unknown within bounds -/
def vNi (p : Int × Int) (s : vSt) : vSt := (sN s + 1, sG s, sF s, (sN s, p) :: sI s, sC s, sM s, sRw s)
theorem vNi_spec {KT : vKT} {ρ : Nat → Int} {σ : Nat → Nat} {ty : Nat → Option Nat} {H : List (XC Int32)} {s : vSt} (h : vRel KT ρ σ ty H s) (hb : sBd s = true) {p : Int × Int} {x : Int} (hx : p.1 ≤ x ∧ x ≤ p.2) :
    ∃ ρ2, vExt s (vNi p s) ρ ρ2 σ σ ∧ vRel KT ρ2 σ ty H (vNi p s) ∧ ρ2 (sN s) = x := by
  have he : ∀ i, i < sN s → (fun i => if i = sN s then x else ρ i) i = ρ i := fun i hi => if_neg (Nat.ne_of_lt hi)
  have hv : (fun i => if i = sN s then x else ρ i) (sN s) = x := if_pos rfl
  obtain ⟨g1, g2, g3, g4, g5, g6, g7, g8⟩ := vRel_ext h hb he (fun _ _ => rfl)
  refine ⟨fun i => if i = sN s then x else ρ i, ⟨he, fun _ _ => rfl, Nat.le_succ _, Nat.le_refl _⟩, ⟨g1, g2, g3, fun q hq => ?_, g5, g6, g7, g8⟩, hv⟩
  rcases List.mem_cons.mp hq with rfl | hq
  · show p.1 ≤ (if sN s = sN s then x else ρ (sN s)) ∧ (if sN s = sN s then x else ρ (sN s)) ≤ p.2
    rw [if_pos rfl]
    exact hx
  · exact g4 q hq
/-- a new symbol for a cell of a kind -/
def vNr (c : Nat) (s : vSt) : vSt := (sN s, sG s ++ [c], sF s, sI s, sC s, sM s, sRw s)
theorem vNr_spec {KT : vKT} {ρ : Nat → Int} {σ : Nat → Nat} {ty : Nat → Option Nat} {H : List (XC Int32)} {s : vSt} (h : vRel KT ρ σ ty H s) (hb : sBd s = true) {a c : Nat} (ha : ty a = some c) :
    ∃ σ2, vExt s (vNr c s) ρ ρ σ σ2 ∧ vRel KT ρ σ2 ty H (vNr c s) ∧ sR σ2 (sG s).length = a := by
  have he : ∀ i, i < (sG s).length → (fun i => if i = (sG s).length then a else σ i) i = σ i := fun i hi => if_neg (Nat.ne_of_lt hi)
  obtain ⟨g1, g2, g3, g4, g5, g6, g7, g8⟩ := vRel_ext h hb (fun _ _ => rfl) he
  have hlt := (sBd_spec hb).1
  have hv : sR (fun i => if i = (sG s).length then a else σ i) (sG s).length = a := by
    unfold sR
    rw [if_pos hlt]
    exact if_pos rfl
  refine ⟨fun i => if i = (sG s).length then a else σ i, ⟨fun _ _ => rfl, he, Nat.le_refl _, ?_⟩, ⟨g1, fun i d hd => ?_, g3, g4, g5, g6, g7, g8⟩, hv⟩
  · show (sG s).length ≤ (sG s ++ [c]).length
    rw [List.length_append]
    exact Nat.le_add_right _ _
  · have hd : (sG s ++ [c])[i]? = some d := hd
    by_cases e : i = (sG s).length
    · subst e
      rw [List.getElem?_append_right (Nat.le_refl _), Nat.sub_self] at hd
      have hd : some c = some d := hd
      rw [hv, ha]
      exact hd
    · have hl : i < (sG s).length := by
        have := (List.getElem?_eq_some_iff.mp hd).1
        rw [List.length_append] at this
        have : i < (sG s).length + 1 := this
        omega
      rw [List.getElem?_append_left hl] at hd
      exact g2 i d hd
/-- one thing more is known; holds; came of an operation -/
def vKn (f : vK) (s : vSt) : vSt := (sN s, sG s, f :: sF s, sI s, sC s, sM s, sRw s)
theorem vKn_spec {KT : vKT} {ρ : Nat → Int} {σ : Nat → Nat} {ty : Nat → Option Nat} {H : List (XC Int32)} {s : vSt} (h : vRel KT ρ σ ty H s) {f : vK} (hf : vHolds ρ σ H f) : vRel KT ρ σ ty H (vKn f s) :=
  ⟨h.1, h.2.1, fun g hg => by
    rcases List.mem_cons.mp hg with rfl | hg
    · exact hf
    · exact h.2.2.1 g hg, h.2.2.2⟩
def vMk (m : vMm) (s : vSt) : vSt := (sN s, sG s, sF s, sI s, sC s, m :: sM s, sRw s)
theorem vMk_spec {KT : vKT} {ρ : Nat → Int} {σ : Nat → Nat} {ty : Nat → Option Nat} {H : List (XC Int32)} {s : vSt} (h : vRel KT ρ σ ty H s) {m : vMm} (hm : mHd ρ m) : vRel KT ρ σ ty H (vMk m s) :=
  ⟨h.1, h.2.1, h.2.2.1, h.2.2.2.1, h.2.2.2.2.1, fun g hg => by
    rcases List.mem_cons.mp hg with rfl | hg
    · exact hm
    · exact h.2.2.2.2.2.1 g hg, h.2.2.2.2.2.2⟩
/-- e is not below 0 from here on; none: that can't be -/
def vCo (e : lT) (s : vSt) : Option vSt := match iRef (sI s) e with
  | none => none
  | some I2 => some (sN s, sG s, sF s, I2, (if e.2.length ≤ 1 then sC s else e :: sC s), sM s, sRw s)
theorem vCo_spec {KT : vKT} {ρ : Nat → Int} {σ : Nat → Nat} {ty : Nat → Option Nat} {H : List (XC Int32)} {s : vSt} (h : vRel KT ρ σ ty H s) {e : lT} (he : 0 ≤ lEv ρ e) : ∃ s2, vCo e s = some s2 ∧ vRel KT ρ σ ty H s2 ∧ vExt s s2 ρ ρ σ σ ∧ sG s2 = sG s ∧ sF s2 = sF s := by
  obtain ⟨h1, h2, h3, h4, h5, h6, h7, h8⟩ := h
  obtain ⟨I2, g1, g2⟩ := iRef_spec h4 he
  unfold vCo
  rw [g1]
  refine ⟨_, rfl, ⟨h1, h2, h3, g2, fun c hc => ?_, h6, h7, h8⟩, vExt_eq ρ σ rfl rfl, rfl, rfl⟩
  have hc : c ∈ (if e.2.length ≤ 1 then sC s else e :: sC s) := hc
  split at hc
  · exact h5 c hc
  · rcases List.mem_cons.mp hc with rfl | hc
    · exact he
    · exact h5 c hc
def kyEq (a b : Nat ⊕ lT) : Bool := Sum.rec (motive := fun _ => Bool) (fun i => Sum.rec (motive := fun _ => Bool) (fun j => Nat.beq i j) (fun _ => false) b) (fun e => Sum.rec (motive := fun _ => Bool) (fun _ => false) (fun d => lEq e d) b) a
theorem kyEq_spec {a b : Nat ⊕ lT} (h : kyEq a b = true) : a = b := by
  rcases a with a | a <;> rcases b with b | b
  · exact congrArg Sum.inl (Nat.eq_of_beq_eq_true h)
  · cases h
  · cases h
  · exact congrArg Sum.inr (lEq_spec h)
def fGet (i : Nat) (key : Nat ⊕ lT) (F : List vK) : Option vA := List.rec (motive := fun _ => Option vA) none (fun f _ h => Bool.rec (motive := fun _ => Option vA) h (Bool.rec (motive := fun _ => Option vA) h (Bool.rec (motive := fun _ => Option vA) (some f.2.2) h (kyAp f.2.1)) (kyEq f.2.1 key)) (Nat.beq f.1 i)) F
theorem fGet_c (i : Nat) (key : Nat ⊕ lT) (f : vK) (F : List vK) : fGet i key (f :: F) = bif Nat.beq f.1 i && (kyEq f.2.1 key && !(kyAp f.2.1)) then some f.2.2 else fGet i key F := by
  show Bool.rec (motive := fun _ => Option vA) (fGet i key F) (Bool.rec (motive := fun _ => Option vA) (fGet i key F) (Bool.rec (motive := fun _ => Option vA) (some f.2.2) (fGet i key F) (kyAp f.2.1)) (kyEq f.2.1 key)) (Nat.beq f.1 i) = _
  cases Nat.beq f.1 i
  · rfl
  · cases kyEq f.2.1 key
    · rfl
    · cases kyAp f.2.1 <;> rfl
theorem fGet_spec {ρ : Nat → Int} {σ : Nat → Nat} {H : List (XC Int32)} {i : Nat} {key : Nat ⊕ lT} {v : vA} : ∀ {F : List vK}, (∀ f ∈ F, vHolds ρ σ H f) → fGet i key F = some v → vPlace ρ σ H i key (cv ρ σ v)
  | [], _, h => by cases h
  | f :: F, hF, h => by
    rw [fGet_c] at h
    rcases e : Nat.beq f.1 i && (kyEq f.2.1 key && !(kyAp f.2.1)) with _ | _
    · rw [e] at h
      exact fGet_spec (fun g hg => hF g (List.mem_cons_of_mem _ hg)) h
    · rw [e] at h
      have h : some f.2.2 = some v := h
      cases h
      obtain ⟨e1, e2⟩ := Bool.and_eq_true_iff.mp e
      have e1 := Nat.eq_of_beq_eq_true e1
      have h1 := hF f List.mem_cons_self
      obtain ⟨e2, e3⟩ := Bool.and_eq_true_iff.mp e2
      rcases h1 with h1 | ⟨k, k1, -, -⟩
      · rw [e1, kyEq_spec e2] at h1
        exact h1
      · rw [k1] at e3
        exact absurd e3 (by decide)
end XState
