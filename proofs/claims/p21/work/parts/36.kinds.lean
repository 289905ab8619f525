/-! Kinds of cells: what a heap of known kinds keeps. -/
noncomputable section XKinds
/-- what a field or an element may be: an int between two bounds, or a cell of a kind (null too, or not) -/
abbrev vF : Type := (Int × Int) ⊕ (Bool × Nat)
/-- a kind: an object of a class with its fields, or an array: type, length, elements (by the rest of their place) -/
abbrev vKd : Type := (Nat × List vF) ⊕ (Nat × Nat × List vF)
def vEl (fs : List vF) (j : Nat) : Option vF := fs[j % fs.length]?
def vFit (ty : Nat → Option Nat) : vF → XV Int32 → Prop
  | .inl p, .inl x => vIn p x
  | .inr p, .inr none => p.1 = true
  | .inr p, .inr (some a) => ty a = some p.2
  | _, _ => False
def vCell (ty : Nat → Option Nat) : vKd → XC Int32 → Prop
  | .inl o, .inl z => z.1 = o.1 ∧ z.2.length = o.2.length ∧ ∀ (j : Nat) (f : vF) (u : XV Int32), o.2[j]? = some f → z.2[j]? = some u → vFit ty f u
  | .inr o, .inr z => z.1 = o.1 ∧ z.2.length = o.2.1 ∧ ∀ (j : Nat) (f : vF) (u : XV Int32), vEl o.2.2 j = some f → z.2[j]? = some u → vFit ty f u
  | _, _ => False
def vHp (KT : Nat → Option vKd) (ty : Nat → Option Nat) (H : List (XC Int32)) : Prop := ∀ (a c : Nat), ty a = some c → ∃ kd z, KT c = some kd ∧ H[a]? = some z ∧ vCell ty kd z
theorem vHp_lt {KT : Nat → Option vKd} {ty : Nat → Option Nat} {H : List (XC Int32)} (h : vHp KT ty H) {a c : Nat} (ha : ty a = some c) : a < H.length := by
  obtain ⟨kd, z, -, h2, -⟩ := h a c ha
  exact (List.getElem?_eq_some_iff.mp h2).1
theorem vHp_obj {KT : Nat → Option vKd} {ty : Nat → Option Nat} {H : List (XC Int32)} (h : vHp KT ty H) {a c ci : Nat} {fl : List vF} (ha : ty a = some c) (hk : KT c = some (.inl (ci, fl))) :
    ∃ fs, H[a]? = some (.inl (ci, fs)) ∧ fs.length = fl.length ∧ ∀ (j : Nat) (f : vF), fl[j]? = some f → ∃ u, fs[j]? = some u ∧ vFit ty f u := by
  obtain ⟨kd, z, h1, h2, h3⟩ := h a c ha
  rw [hk] at h1
  cases h1
  rcases z with ⟨ci2, fs⟩ | z
  · obtain ⟨e, h4, h5⟩ := h3
    have e : ci2 = ci := e
    subst e
    refine ⟨fs, h2, h4, fun j f hf => ?_⟩
    have hj := (List.getElem?_eq_some_iff.mp hf).1
    have h4 : fs.length = fl.length := h4
    have hu : fs[j]? = some (fs[j]'(by omega)) := List.getElem?_eq_getElem (by omega)
    exact ⟨_, hu, h5 j f _ hf hu⟩
  · exact h3.elim
theorem vHp_arr {KT : Nat → Option vKd} {ty : Nat → Option Nat} {H : List (XC Int32)} (h : vHp KT ty H) {a c t m : Nat} {f : List vF} (ha : ty a = some c) (hk : KT c = some (.inr (t, m, f))) :
    ∃ vs, H[a]? = some (.inr (t, vs)) ∧ vs.length = m ∧ ∀ (j : Nat) (g : vF), j < m → vEl f j = some g → ∃ u, vs[j]? = some u ∧ vFit ty g u := by
  obtain ⟨kd, z, h1, h2, h3⟩ := h a c ha
  rw [hk] at h1
  cases h1
  rcases z with z | ⟨t2, vs⟩
  · exact h3.elim
  · obtain ⟨e, h4, h5⟩ := h3
    have e : t2 = t := e
    subst e
    have h4 : vs.length = m := h4
    refine ⟨vs, h2, h4, fun j g hj hg => ?_⟩
    have hu : vs[j]? = some (vs[j]'(by omega)) := List.getElem?_eq_getElem (by omega)
    exact ⟨_, hu, h5 j g _ hg hu⟩
theorem vHp_set {KT : Nat → Option vKd} {ty : Nat → Option Nat} {H : List (XC Int32)} (h : vHp KT ty H) {a c : Nat} {kd : vKd} {z : XC Int32} (ha : ty a = some c) (hk : KT c = some kd) (hz : vCell ty kd z) : vHp KT ty (H.set a z) := by
  intro b d hb
  obtain ⟨kd2, z2, h1, h2, h3⟩ := h b d hb
  by_cases e : a = b
  · subst e
    rw [ha] at hb
    cases hb
    exact ⟨kd, z, hk, List.getElem?_set_self (vHp_lt h ha), hz⟩
  · exact ⟨kd2, z2, h1, by rw [List.getElem?_set_ne e]; exact h2, h3⟩
theorem vHp_put {KT : Nat → Option vKd} {ty : Nat → Option Nat} {H : List (XC Int32)} (h : vHp KT ty H) {a c ci j : Nat} {fl : List vF} {fs : List (XV Int32)} {f : vF} {u : XV Int32} (ha : ty a = some c) (hk : KT c = some (.inl (ci, fl))) (hH : H[a]? = some (.inl (ci, fs))) (hf : fl[j]? = some f) (hu : vFit ty f u) : vHp KT ty (H.set a (.inl (ci, fs.set j u))) := by
  refine vHp_set h ha hk ?_
  obtain ⟨kd, z, h1, h2, h3⟩ := h a c ha
  rw [hk] at h1
  cases h1
  rw [hH] at h2
  cases h2
  obtain ⟨-, h4, h5⟩ := h3
  refine ⟨rfl, ?_, ?_⟩
  · show (fs.set j u).length = fl.length
    rw [List.length_set]
    exact h4
  · intro i g x hg hx
    have hx : (fs.set j u)[i]? = some x := hx
    have hg : fl[i]? = some g := hg
    by_cases e : j = i
    · subst e
      have hj := (List.getElem?_eq_some_iff.mp hf).1
      have h4 : fs.length = fl.length := h4
      rw [List.getElem?_set_self (by omega)] at hx
      cases hx
      rw [hf] at hg
      cases hg
      exact hu
    · rw [List.getElem?_set_ne e] at hx
      exact h5 i g x hg hx
theorem vHp_sto {KT : Nat → Option vKd} {ty : Nat → Option Nat} {H : List (XC Int32)} (h : vHp KT ty H) {a c t m j : Nat} {f : List vF} {g : vF} {vs : List (XV Int32)} {u : XV Int32} (ha : ty a = some c) (hk : KT c = some (.inr (t, m, f))) (hH : H[a]? = some (.inr (t, vs))) (hg : vEl f j = some g) (hu : vFit ty g u) : vHp KT ty (H.set a (.inr (t, vs.set j u))) := by
  refine vHp_set h ha hk ?_
  obtain ⟨kd, z, h1, h2, h3⟩ := h a c ha
  rw [hk] at h1
  cases h1
  rw [hH] at h2
  cases h2
  obtain ⟨-, h4, h5⟩ := h3
  refine ⟨rfl, ?_, ?_⟩
  · show (vs.set j u).length = m
    rw [List.length_set]
    exact h4
  · intro i g2 x hg2 hx
    have hx : (vs.set j u)[i]? = some x := hx
    by_cases e : j = i
    · subst e
      rw [List.getElem?_set] at hx
      split at hx
      · split at hx
        · cases hx
          have hg2 : vEl f j = some g2 := hg2
          rw [hg] at hg2
          cases hg2
          exact hu
        · cases hx
      · exact h5 j g2 x hg2 hx
    · rw [List.getElem?_set_ne e] at hx
      exact h5 i g2 x hg2 hx
theorem vHp_cpy {KT : Nat → Option vKd} {ty : Nat → Option Nat} {H : List (XC Int32)} (h : vHp KT ty H) {a b c e t m n : Nat} {f : List vF} {us vs : List (XV Int32)} {i j k : Nat} (ha : ty a = some c) (hk : KT c = some (.inr (t, m, f))) (hH : H[a]? = some (.inr (t, vs))) (hb : ty b = some e) (he : KT e = some (.inr (t, n, f))) (hB : H[b]? = some (.inr (t, us)))
    (hi : i + k ≤ us.length) (hj : j + k ≤ vs.length) (hij : i % f.length = j % f.length) : vHp KT ty (H.set a (.inr (t, vs.take j ++ (us.drop i).take k ++ vs.drop (j + k)))) := by
  refine vHp_set h ha hk ?_
  obtain ⟨kd, z, h1, h2, h3⟩ := h a c ha
  rw [hk] at h1
  cases h1
  rw [hH] at h2
  cases h2
  obtain ⟨-, h4, h5⟩ := h3
  obtain ⟨kd, z, h1, h2, h3⟩ := h b e hb
  rw [he] at h1
  cases h1
  rw [hB] at h2
  cases h2
  obtain ⟨-, h6, h7⟩ := h3
  have h4 : vs.length = m := h4
  refine ⟨rfl, ?_, ?_⟩
  · show (vs.take j ++ (us.drop i).take k ++ vs.drop (j + k)).length = m
    simp only [List.length_append, List.length_take, List.length_drop]
    omega
  · intro l g x hg hx
    have hx : (vs.take j ++ (us.drop i).take k ++ vs.drop (j + k))[l]? = some x := hx
    by_cases c1 : l < j
    · rw [List.append_assoc, List.getElem?_append_left (by rw [List.length_take]; omega), List.getElem?_take_of_lt c1] at hx
      exact h5 l g x hg hx
    by_cases c2 : l < j + k
    · rw [List.append_assoc, List.getElem?_append_right (by rw [List.length_take]; omega), List.getElem?_append_left (by rw [List.length_take, List.length_take, List.length_drop]; omega), List.length_take, Nat.min_eq_left (by omega), List.getElem?_take_of_lt (by omega), List.getElem?_drop] at hx
      refine h7 _ g x ?_ hx
      show vEl f (i + (l - j)) = some g
      have hg : vEl f l = some g := hg
      unfold vEl at hg ⊢
      have e1 : (i + (l - j)) % f.length = l % f.length := by
        rw [Nat.add_mod, hij, ← Nat.add_mod]
        congr 1
        omega
      rw [e1]
      exact hg
    · rw [List.append_assoc, List.getElem?_append_right (by rw [List.length_take]; omega), List.getElem?_append_right (by rw [List.length_take, List.length_take, List.length_drop]; omega), List.getElem?_drop] at hx
      simp only [List.length_take, List.length_drop] at hx
      have e1 : j + k + (l - min j vs.length - min k (us.length - i)) = l := by omega
      rw [e1] at hx
      exact h5 l g x hg hx
/-- kinds may be added -/
def vLe (ty ty2 : Nat → Option Nat) : Prop := ∀ a c, ty a = some c → ty2 a = some c
theorem vFit_le {ty ty2 : Nat → Option Nat} (h : vLe ty ty2) {f : vF} {u : XV Int32} (hu : vFit ty f u) : vFit ty2 f u := by
  rcases f with p | p <;> rcases u with x | (_ | a)
  · exact hu
  · exact hu.elim
  · exact hu.elim
  · exact hu.elim
  · exact hu
  · exact h a _ hu
theorem vCell_le {ty ty2 : Nat → Option Nat} (h : vLe ty ty2) {kd : vKd} {z : XC Int32} (hz : vCell ty kd z) : vCell ty2 kd z := by
  rcases kd with o | o <;> rcases z with z | z
  · exact ⟨hz.1, hz.2.1, fun j f u h1 h2 => vFit_le h (hz.2.2 j f u h1 h2)⟩
  · exact hz.elim
  · exact hz.elim
  · exact ⟨hz.1, hz.2.1, fun j f u h0 h1 => vFit_le h (hz.2.2 j f u h0 h1)⟩
def vAdd (ty : Nat → Option Nat) (a c : Nat) : Nat → Option Nat := fun b => if b = a then some c else ty b
theorem vHp_new {KT : Nat → Option vKd} {ty : Nat → Option Nat} {H : List (XC Int32)} (h : vHp KT ty H) {c : Nat} {kd : vKd} {z : XC Int32} (hk : KT c = some kd) (hz : vCell (vAdd ty H.length c) kd z) : vLe ty (vAdd ty H.length c) ∧ vHp KT (vAdd ty H.length c) (H ++ [z]) := by
  have hle : vLe ty (vAdd ty H.length c) := by
    intro a d ha
    have := vHp_lt h ha
    unfold vAdd
    rw [if_neg (by omega)]
    exact ha
  refine ⟨hle, fun b d hb => ?_⟩
  by_cases e : b = H.length
  · subst e
    have hb : (if H.length = H.length then some c else ty H.length) = some d := hb
    rw [if_pos rfl] at hb
    cases hb
    exact ⟨kd, z, hk, by rw [List.getElem?_append_right (Nat.le_refl _), Nat.sub_self]; rfl, hz⟩
  · have hb : (if b = H.length then some c else ty b) = some d := hb
    rw [if_neg e] at hb
    obtain ⟨kd2, z2, h1, h2, h3⟩ := h b d hb
    exact ⟨kd2, z2, h1, by rw [List.getElem?_append_left (vHp_lt h hb)]; exact h2, vCell_le hle h3⟩
end XKinds
