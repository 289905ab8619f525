/-! A state in symbols: ints by terms, cells by symbols of a kind, what is known of fields and elements. -/
section XState
abbrev vA : Type := XV Jvm.Term
def cv (ρ : Nat → Int32) (σ : Nat → Nat) : vA → XV Int32
  | .inl e => .inl (tEv ρ e)
  | .inr none => .inr none
  | .inr (some i) => .inr (some (σ i))
abbrev cvL (ρ : Nat → Int32) (σ : Nat → Nat) (L : List (Nat × vA)) : List (Nat × XV Int32) := L.map (fun q => (q.1, cv ρ σ q.2))
theorem cv_lk (ρ : Nat → Int32) (σ : Nat → Nat) (j : Nat) : ∀ L : List (Nat × vA), x_lk (cvL ρ σ L) j = (x_lk L j).map (cv ρ σ)
  | [] => rfl
  | q :: L => by
    have ih := cv_lk ρ σ j L
    unfold x_lk at ih ⊢
    by_cases h : (q.1 == j) = true
    · rw [cvL, List.map_cons, List.find?_cons_of_pos (by exact h), List.find?_cons_of_pos (by exact h)]
      rfl
    · rw [cvL, List.map_cons, List.find?_cons_of_neg (by exact h), List.find?_cons_of_neg (by exact h)]
      exact ih
theorem cv_st (ρ : Nat → Int32) (σ : Nat → Nat) (j : Nat) (v : vA) (L : List (Nat × vA)) : x_st (cvL ρ σ L) j (cv ρ σ v) = cvL ρ σ (x_st L j v) := by
  unfold x_st
  rw [cvL, cvL, List.map_cons, List.filter_map]
  rfl
theorem cv_en (ρ : Nat → Int32) (σ : Nat → Nat) : ∀ (vs : List vA) (i : Nat), x_en i (vs.map (cv ρ σ)) = cvL ρ σ (x_en i vs)
  | [], _ => rfl
  | v :: vs, i => by
    show (i, cv ρ σ v) :: x_en (i + 1) (vs.map (cv ρ σ)) = (i, cv ρ σ v) :: cvL ρ σ (x_en (i + 1) vs)
    rw [cv_en ρ σ vs (i + 1)]
/-- only unknowns below n -/
def tBd (n : Nat) : Jvm.Term → Bool
  | .arg i => decide (i < n)
  | .elem (.add (.index _) a) b => tBd n a && tBd n b
  | .length (.add (.index _) a) => tBd n a
  | _ => true
theorem tBd_spec {n : Nat} {ρ ρ2 : Nat → Int32} (h : ∀ i, i < n → ρ2 i = ρ i) : ∀ e : Jvm.Term, tBd n e = true → tEv ρ2 e = tEv ρ e := by
  intro e
  fun_induction tBd n e with
  | case1 i =>
    intro hb
    exact h i (of_decide_eq_true hb)
  | case2 o a b iha ihb =>
    intro hb
    have hb := Bool.and_eq_true_iff.mp hb
    show x_bin o (tEv ρ2 a) (tEv ρ2 b) = x_bin o (tEv ρ a) (tEv ρ b)
    rw [iha hb.1, ihb hb.2]
  | case3 o a iha =>
    intro hb
    show x_un o (tEv ρ2 a) = x_un o (tEv ρ a)
    rw [iha hb]
  | case4 e h1 h2 h3 =>
    intro _
    unfold tEv
    split
    · rfl
    · rename_i i
      exact (h1 i rfl).elim
    · rename_i o a b
      exact (h2 o a b rfl).elim
    · rename_i o a
      exact (h3 o a rfl).elim
    · rfl
def vBd (n m : Nat) : vA → Bool
  | .inl e => tBd n e
  | .inr none => true
  | .inr (some i) => decide (i < m)
theorem vBd_spec {n m : Nat} {ρ ρ2 : Nat → Int32} {σ σ2 : Nat → Nat} (h : ∀ i, i < n → ρ2 i = ρ i) (g : ∀ i, i < m → σ2 i = σ i) {v : vA} (hv : vBd n m v = true) : cv ρ2 σ2 v = cv ρ σ v := by
  rcases v with e | (_ | i)
  · exact congrArg Sum.inl (tBd_spec h e hv)
  · rfl
  · exact congrArg (fun z => Sum.inr (some z)) (g i (of_decide_eq_true hv))
theorem vBd_list {n m : Nat} {ρ ρ2 : Nat → Int32} {σ σ2 : Nat → Nat} (h : ∀ i, i < n → ρ2 i = ρ i) (g : ∀ i, i < m → σ2 i = σ i) {S : List vA} (hS : S.all (vBd n m) = true) : S.map (cv ρ2 σ2) = S.map (cv ρ σ) :=
  List.map_congr_left fun v hv => vBd_spec h g (List.all_eq_true.mp hS v hv)
theorem vBd_loc {n m : Nat} {ρ ρ2 : Nat → Int32} {σ σ2 : Nat → Nat} (h : ∀ i, i < n → ρ2 i = ρ i) (g : ∀ i, i < m → σ2 i = σ i) {L : List (Nat × vA)} (hL : L.all (fun q => vBd n m q.2) = true) : cvL ρ2 σ2 L = cvL ρ σ L :=
  List.map_congr_left fun q hq => by rw [vBd_spec h g (List.all_eq_true.mp hL q hq)]
def kBd (n : Nat) (k : TK) : Bool := tBd n k.2.1 && tBd n k.2.2.1
theorem kBd_spec {n : Nat} {ρ ρ2 : Nat → Int32} (h : ∀ i, i < n → ρ2 i = ρ i) {w : List TK} (hb : w.all (kBd n) = true) (hw : XPa (tHd ρ) w) : XPa (tHd ρ2) w := fun k hk => by
  have h1 := Bool.and_eq_true_iff.mp (List.all_eq_true.mp hb k hk)
  have h2 : tRel ρ k = k.2.2.2 := hw k hk
  show tRel ρ2 k = k.2.2.2
  rw [← h2]
  unfold tRel
  rw [tBd_spec h _ h1.1, tBd_spec h _ h1.2]
/-- what is known: of a cell's field, or of its element at a term -/
abbrev vK : Type := Nat × (Nat ⊕ Jvm.Term) × vA
def vHolds (ρ : Nat → Int32) (σ : Nat → Nat) (H : List (XC Int32)) (f : vK) : Prop := match f.2.1 with
  | .inl j => ∃ ci fs, H[σ f.1]? = some (.inl (ci, fs)) ∧ fs[j]? = some (cv ρ σ f.2.2)
  | .inr e => ∃ t vs, H[σ f.1]? = some (.inr (t, vs)) ∧ vs[(tEv ρ e).toNatClampNeg]? = some (cv ρ σ f.2.2)
def fBd (n m : Nat) (f : vK) : Bool := decide (f.1 < m) && (match f.2.1 with | .inl _ => true | .inr e => tBd n e) && vBd n m f.2.2
theorem fBd_spec {n m : Nat} {ρ ρ2 : Nat → Int32} {σ σ2 : Nat → Nat} (h : ∀ i, i < n → ρ2 i = ρ i) (g : ∀ i, i < m → σ2 i = σ i) {H : List (XC Int32)} {f : vK} (hb : fBd n m f = true) (hf : vHolds ρ σ H f) : vHolds ρ2 σ2 H f := by
  obtain ⟨i, j | e, v⟩ := f
  · have hb2 := Bool.and_eq_true_iff.mp hb
    have hb3 := Bool.and_eq_true_iff.mp hb2.1
    obtain ⟨ci, fs, h1, h2⟩ := hf
    refine ⟨ci, fs, ?_, ?_⟩
    · show H[σ2 i]? = _
      rw [g i (of_decide_eq_true hb3.1)]
      exact h1
    · show fs[j]? = some (cv ρ2 σ2 v)
      rw [vBd_spec h g hb2.2]
      exact h2
  · have hb2 := Bool.and_eq_true_iff.mp hb
    have hb3 := Bool.and_eq_true_iff.mp hb2.1
    obtain ⟨t, vs, h1, h2⟩ := hf
    refine ⟨t, vs, ?_, ?_⟩
    · show H[σ2 i]? = _
      rw [g i (of_decide_eq_true hb3.1)]
      exact h1
    · show vs[(tEv ρ2 e).toNatClampNeg]? = some (cv ρ2 σ2 v)
      rw [vBd_spec h g hb2.2, tBd_spec h e hb3.2]
      exact h2
/-- symbols of cells are of their kinds -/
def vSym (ty : Nat → Option Nat) (σ : Nat → Nat) (G : List Nat) : Prop := ∀ (i c : Nat), G[i]? = some c → ty (σ i) = some c
/-- do two symbols surely stand for two cells -/
def vApart (G : List Nat) (i j : Nat) : Bool := match G[i]?, G[j]? with
  | some a, some b => decide (a ≠ b)
  | _, _ => false
theorem vApart_spec {ty : Nat → Option Nat} {σ : Nat → Nat} {G : List Nat} (h : vSym ty σ G) {i j : Nat} (ha : vApart G i j = true) : σ i ≠ σ j := by
  unfold vApart at ha
  split at ha
  · rename_i a b h1 h2
    intro e
    have g1 := h i a h1
    have g2 := h j b h2
    rw [e, g2] at g1
    cases g1
    exact of_decide_eq_true ha rfl
  · cases ha
/-- what stays known when field j of i is written -/
def fPut (G : List Nat) (i j : Nat) (F : List vK) : List vK := F.filter (fun f => vApart G f.1 i || (match f.2.1 with | .inl j2 => decide (j2 ≠ j) | .inr _ => true))
theorem fPut_spec {ρ : Nat → Int32} {ty : Nat → Option Nat} {σ : Nat → Nat} {G : List Nat} (hs : vSym ty σ G) {H : List (XC Int32)} {i j ci : Nat} {fs : List (XV Int32)} {u : XV Int32} (hH : H[σ i]? = some (.inl (ci, fs))) {F : List vK} (hF : ∀ f ∈ F, vHolds ρ σ H f) : ∀ f ∈ fPut G i j F, vHolds ρ σ (H.set (σ i) (.inl (ci, fs.set j u))) f := by
  intro f hf
  obtain ⟨h1, h2⟩ := List.mem_filter.mp hf
  have h3 := hF f h1
  obtain ⟨i2, j2 | e, v⟩ := f
  · obtain ⟨c2, gs, h4, h5⟩ := h3
    by_cases he : σ i = σ i2
    · have h2 := Bool.or_eq_true_iff.mp h2
      rcases h2 with h2 | h2
      · exact (vApart_spec hs h2 he.symm).elim
      · have hj : j2 ≠ j := of_decide_eq_true h2
        have h4 : H[σ i2]? = some (.inl (c2, gs)) := h4
        rw [← he, hH] at h4
        cases h4
        refine ⟨ci, fs.set j u, ?_, ?_⟩
        · show (H.set (σ i) _)[σ i2]? = _
          rw [← he]
          exact List.getElem?_set_self (List.getElem?_eq_some_iff.mp hH).1
        · show (fs.set j u)[j2]? = _
          rw [List.getElem?_set_ne (Ne.symm hj)]
          exact h5
    · refine ⟨c2, gs, ?_, h5⟩
      show (H.set (σ i) _)[σ i2]? = _
      rw [List.getElem?_set_ne he]
      exact h4
  · obtain ⟨t, vs, h4, h5⟩ := h3
    have h4 : H[σ i2]? = some (.inr (t, vs)) := h4
    have he : σ i ≠ σ i2 := fun he => by
      rw [← he, hH] at h4
      cases h4
    refine ⟨t, vs, ?_, h5⟩
    show (H.set (σ i) _)[σ i2]? = _
    rw [List.getElem?_set_ne he]
    exact h4
/-- what stays known when an element of i is written -/
def fSto (G : List Nat) (i : Nat) (F : List vK) : List vK := F.filter (fun f => vApart G f.1 i || (match f.2.1 with | .inl _ => true | .inr _ => false))
theorem fSto_spec {ρ : Nat → Int32} {ty : Nat → Option Nat} {σ : Nat → Nat} {G : List Nat} (hs : vSym ty σ G) {H : List (XC Int32)} {i t : Nat} {vs us : List (XV Int32)} (hH : H[σ i]? = some (.inr (t, vs))) {F : List vK} (hF : ∀ f ∈ F, vHolds ρ σ H f) : ∀ f ∈ fSto G i F, vHolds ρ σ (H.set (σ i) (.inr (t, us))) f := by
  intro f hf
  obtain ⟨h1, h2⟩ := List.mem_filter.mp hf
  have h3 := hF f h1
  obtain ⟨i2, j2 | e, v⟩ := f
  · obtain ⟨c2, gs, h4, h5⟩ := h3
    have h4 : H[σ i2]? = some (.inl (c2, gs)) := h4
    have he : σ i ≠ σ i2 := fun he => by
      rw [← he, hH] at h4
      cases h4
    refine ⟨c2, gs, ?_, h5⟩
    show (H.set (σ i) _)[σ i2]? = _
    rw [List.getElem?_set_ne he]
    exact h4
  · obtain ⟨t2, ws, h4, h5⟩ := h3
    have h2 := Bool.or_eq_true_iff.mp h2
    rcases h2 with h2 | h2
    · have he : σ i ≠ σ i2 := fun he => vApart_spec hs h2 he.symm
      refine ⟨t2, ws, ?_, h5⟩
      show (H.set (σ i) _)[σ i2]? = _
      rw [List.getElem?_set_ne he]
      exact h4
    · cases h2
end XState
