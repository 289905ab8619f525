/-! Kinds and places, by hand. -/
noncomputable section XHk
variable {H H2 : List (XC Int32)} {ty : Nat → Option Nat} {ρ : Nat → Int} {σ : Nat → Nat} {n : Nat}
-- kinds
def kf (c j : Nat) : Option vF := match x_KT.1[c]? with
  | some (.inl o) => o.2[j]?
  | _ => none
theorem cell_f (hp : vHp (fun c => x_KT.1[c]?) ty H) {a c c2 ci j u : Nat} {z : Bool} {fs : List (XV Int32)} (ha : ty a = some c) (hk : kf c j = some (.inr (z, c2))) (hH : H[a]? = some (.inl (ci, fs))) (hf : fs[j]? = some (.inr (some u))) : ty u = some c2 := by
  obtain ⟨kd, w, h1, h2, h3⟩ := hp a c ha
  rw [hH] at h2
  cases h2
  have h1 : x_KT.1[c]? = some kd := h1
  unfold kf at hk
  rw [h1] at hk
  rcases kd with o | o
  · exact h3.2.2 j _ _ hk hf
  · cases hk
theorem cell_fx (hp : vHp (fun c => x_KT.1[c]?) ty H) {a c c2 ci j : Nat} {fs : List (XV Int32)} (ha : ty a = some c) (hk : kf c j = some (.inr (false, c2))) (hH : H[a]? = some (.inl (ci, fs))) : ∃ u, fs[j]? = some (.inr (some u)) ∧ ty u = some c2 := by
  obtain ⟨kd, w, h1, h2, h3⟩ := hp a c ha
  rw [hH] at h2
  cases h2
  have h1 : x_KT.1[c]? = some kd := h1
  unfold kf at hk
  rw [h1] at hk
  rcases kd with o | o
  · have hl : fs.length = o.2.length := h3.2.1
    have hj : j < o.2.length := (List.getElem?_eq_some_iff.mp hk).1
    have hu : fs[j]? = some (fs[j]'(by omega)) := List.getElem?_eq_getElem (by omega)
    have hf := h3.2.2 j _ _ hk hu
    rcases hx : fs[j]'(by omega) with x | (_ | u)
    · rw [hx] at hf
      exact hf.elim
    · rw [hx] at hf
      cases hf
    · rw [hx] at hf hu
      exact ⟨u, hu, hf⟩
  · cases hk
def kr (c : Nat) : Option (Nat × Nat) := match x_KT.1[c]? with
  | some (.inr o) => some (o.1, o.2.1)
  | _ => none
theorem cell_r (hp : vHp (fun c => x_KT.1[c]?) ty H) {a c t m : Nat} (ha : ty a = some c) (hk : kr c = some (t, m)) : ∃ vs, H[a]? = some (.inr (t, vs)) ∧ vs.length = m := by
  obtain ⟨kd, w, h1, h2, h3⟩ := hp a c ha
  have h1 : x_KT.1[c]? = some kd := h1
  unfold kr at hk
  rw [h1] at hk
  rcases kd with o | o
  · cases hk
  · injection hk with hk
    injection hk with e1 e2
    rcases w with z | z
    · exact h3.elim
    · refine ⟨z.2, ?_, ?_⟩
      · rw [h2, ← e1, ← h3.1]
      · rw [← e2]
        exact h3.2.1
def kob (c : Nat) : Option (Nat × Nat) := match x_KT.1[c]? with
  | some (.inl o) => some (o.1, o.2.length)
  | _ => none
theorem cell_o (hp : vHp (fun c => x_KT.1[c]?) ty H) {a c t m : Nat} (ha : ty a = some c) (hk : kob c = some (t, m)) : ∃ vs, H[a]? = some (.inl (t, vs)) ∧ vs.length = m := by
  obtain ⟨kd, w, h1, h2, h3⟩ := hp a c ha
  have h1 : x_KT.1[c]? = some kd := h1
  unfold kob at hk
  rw [h1] at hk
  rcases kd with o | o
  · injection hk with hk
    injection hk with e1 e2
    rcases w with z | z
    · refine ⟨z.2, ?_, ?_⟩
      · rw [h2, ← e1, ← h3.1]
      · rw [← e2]
        exact h3.2.1
    · exact h3.elim
  · cases hk
def kel (c j : Nat) : Option vF := match x_KT.1[c]? with
  | some (.inr o) => vEl o.2.2 j
  | _ => none
theorem cell_e (hp : vHp (fun c => x_KT.1[c]?) ty H) {a c c2 t j u : Nat} {z : Bool} {vs : List (XV Int32)} (ha : ty a = some c) (hk : kel c j = some (.inr (z, c2))) (hH : H[a]? = some (.inr (t, vs))) (hf : vs[j]? = some (.inr (some u))) : ty u = some c2 := by
  obtain ⟨kd, w, h1, h2, h3⟩ := hp a c ha
  rw [hH] at h2
  cases h2
  have h1 : x_KT.1[c]? = some kd := h1
  unfold kel at hk
  rw [h1] at hk
  rcases kd with o | o
  · cases hk
  · exact h3.2.2 j _ _ hk hf
theorem cell_ex (hp : vHp (fun c => x_KT.1[c]?) ty H) {a c c2 t j : Nat} {vs : List (XV Int32)} (ha : ty a = some c) (hk : kel c j = some (.inr (false, c2))) (hH : H[a]? = some (.inr (t, vs))) (hj : j < vs.length) : ∃ u, vs[j]? = some (.inr (some u)) ∧ ty u = some c2 := by
  obtain ⟨kd, w, h1, h2, h3⟩ := hp a c ha
  rw [hH] at h2
  cases h2
  have h1 : x_KT.1[c]? = some kd := h1
  unfold kel at hk
  rw [h1] at hk
  rcases kd with o | o
  · cases hk
  · have hu : vs[j]? = some (vs[j]'hj) := List.getElem?_eq_getElem hj
    have hf := h3.2.2 j _ _ hk hu
    rcases hx : vs[j]'hj with x | (_ | u)
    · rw [hx] at hf
      exact hf.elim
    · rw [hx] at hf
      cases hf
    · rw [hx] at hf hu
      exact ⟨u, hu, hf⟩
theorem cell_ei (hp : vHp (fun c => x_KT.1[c]?) ty H) {a c t j : Nat} {p : Int × Int} {vs : List (XV Int32)} (ha : ty a = some c) (hk : kel c j = some (.inl p)) (hH : H[a]? = some (.inr (t, vs))) (hj : j < vs.length) : ∃ x : Int32, vs[j]? = some (.inl x) := by
  obtain ⟨kd, w, h1, h2, h3⟩ := hp a c ha
  rw [hH] at h2
  cases h2
  have h1 : x_KT.1[c]? = some kd := h1
  unfold kel at hk
  rw [h1] at hk
  rcases kd with o | o
  · cases hk
  · have hu : vs[j]? = some (vs[j]'hj) := List.getElem?_eq_getElem hj
    have hf := h3.2.2 j _ _ hk hu
    rcases hx : vs[j]'hj with x | u
    · rw [hx] at hu
      exact ⟨x, hu⟩
    · rw [hx] at hf
      rcases u with _ | u
      · exact hf.elim
      · exact hf.elim
-- places
def rV (H : List (XC Int32)) (a j : Nat) : Option (XV Int32) := match H[a]? with
  | some (.inl z) => z.2[j]?
  | some (.inr z) => z.2[j]?
  | none => none
def rR (H : List (XC Int32)) (a j : Nat) : Nat := match rV H a j with
  | some (.inr (some u)) => u
  | _ => 0
def rN (H : List (XC Int32)) (a j : Nat) : Nat := match rV H a j with
  | some (.inl x) => x.toInt.toNat
  | _ => 0
theorem rV_o {a j ci : Nat} {fs : List (XV Int32)} (h : H[a]? = some (.inl (ci, fs))) : rV H a j = fs[j]? := by
  unfold rV
  rw [h]
theorem rV_r {a j ci : Nat} {fs : List (XV Int32)} (h : H[a]? = some (.inr (ci, fs))) : rV H a j = fs[j]? := by
  unfold rV
  rw [h]
theorem rR_of {a j u : Nat} (h : rV H a j = some (.inr (some u))) : rR H a j = u := by
  unfold rR
  rw [h]
theorem rN_of {a j k : Nat} (h : rV H a j = some (.inl (nI k))) (hk : k < 2147483648) : rN H a j = k := by
  unfold rN
  rw [h]
  show (nI k).toInt.toNat = k
  rw [nI_toInt (by omega)]
  omega
theorem oI {x : Int} {k : Nat} (h : x = (k : Int)) (hk : k < 2147483648) : Int32.ofInt x = nI k := by
  apply Int32.toInt_inj.mp
  rw [ofInt_toInt (by omega) (by omega), nI_toInt (by omega)]
  exact h
theorem pl_f {i j : Nat} {u : XV Int32} (h : vPlace ρ σ H i (.inl j) u) : rV H (sR σ i) j = some u := by
  obtain ⟨ci, fs, h1, h2⟩ := h
  rw [rV_o h1]
  exact h2
theorem pl_e {i j : Nat} {e : lT} {u : XV Int32} (h : vPlace ρ σ H i (.inr e) u) (e1 : lEv ρ e = (j : Int)) : rV H (sR σ i) j = some u := by
  obtain ⟨t, vs, h1, -, h2⟩ := h
  rw [e1, Int.toNat_natCast] at h2
  rw [rV_r h1]
  exact h2
theorem fO {i j k : Nat} (h : vHolds ρ σ H (i, .inl j, .inr (some k))) : rV H (sR σ i) j = some (.inr (some (sR σ k))) := pl_f (vHolds_fld h)
theorem fI {i j : Nat} {e : lT} (h : vHolds ρ σ H (i, .inl j, .inl e)) : rV H (sR σ i) j = some (.inl (Int32.ofInt (lEv ρ e))) := pl_f (vHolds_fld h)
theorem fE {i j k : Nat} {e : lT} (h : vHolds ρ σ H (i, .inr e, .inr (some k))) (e1 : lEv ρ e = (j : Int)) : rV H (sR σ i) j = some (.inr (some (sR σ k))) := by
  rcases h with h | ⟨k2, h1, -, -⟩
  · exact pl_e h e1
  · have h1 : (Sum.inr e : Nat ⊕ lT) = .inr (lK (-1)) := h1
    injection h1 with h1
    rw [h1, lK_ev] at e1
    omega
theorem fJ {i j : Nat} {e e2 : lT} (h : vHolds ρ σ H (i, .inr e, .inl e2)) (e1 : lEv ρ e = (j : Int)) : rV H (sR σ i) j = some (.inl (Int32.ofInt (lEv ρ e2))) := pl_e (vHolds_int h) e1
theorem fN {i k : Nat} (h : vHolds ρ σ H (i, .inr (lK (-1)), .inr (some k))) : sR σ i ≠ sR σ k := by
  rcases h with ⟨t, vs, -, h1, -⟩ | ⟨k2, -, h1, h2⟩
  · rw [lK_ev] at h1
    omega
  · have h1 : (Sum.inr (some k) : vA) = .inr (some k2) := h1
    injection h1 with h1
    injection h1 with h1
    subst h1
    exact h2
-- families
def evL (l : List Int) (i : Nat) : Int := l.getD i 0
def mK (f : vK) (l : List vK) : Bool := l.any (fun g => @decide (f = g) (dvK f g))
theorem mK_at {f : vK} {l : List vK} (h : mK f l = true) : f ∈ l := by
  obtain ⟨g, hg, e⟩ := List.any_eq_true.mp h
  have e : f = g := @of_decide_eq_true (f = g) (dvK f g) e
  rw [e]
  exact hg
def inA (l : List vK) (x : vAn) : Bool := l.all (fun f => mK f (aF x))
theorem inA_at {l : List vK} {x : vAn} (h : inA l x = true) {f : vK} (hf : f ∈ l) : f ∈ aF x := mK_at (List.all_eq_true.mp h f hf)
theorem sAx {τ : List Nat} {σ2 : Nat → Nat} {g i j : Nat} (e : ∀ i, i < g → σ2 i = sR (sO σ τ) i) (hi : i < g) (ht : τ[i]? = some j) (h6 : i < 1000000) : sR σ2 i = sR σ j := by
  have h := e i hi
  rw [sOx ht h6] at h
  rw [← h]
  exact if_pos h6
end XHk
