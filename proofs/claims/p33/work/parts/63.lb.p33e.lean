/-! p5: what stands at the head, read off the families. -/
noncomputable section XP33e
variable {H H2 : List (XC Int32)} {ty : Nat → Option Nat} {ρ : Nat → Int} {σ : Nat → Nat} {n : Nat}
-- kinds
def kf (c j : Nat) : Option vF := match x_KT.1[c]? with
  | some (.inl o) => o.2[j]?
  | _ => none
theorem cell_f (hp : vHp (fun c => x_KT.1[c]?) ty H) {a c c2 ci j u : Nat} {z : Bool} {fs : List (XV Int32)} (ha : ty a = some c) (hk : kf c j = some (.inr (z, c2))) (hH : H[a]? = some (.inl (ci, fs))) (hf : fs[j]? = some (.inr (some u))) : ty u = some c2 := by
  obtain ⟨kd, w, h1, h2, h3⟩ := hp a c ha
  rw [hH] at h2
  cases h2
  have h1 : x_KT.1[c]? = some kd := h1
  unfold kf at hk
  rw [h1] at hk
  rcases kd with o | o
  · exact h3.2.2 j _ _ hk hf
  · cases hk
theorem cell_fx (hp : vHp (fun c => x_KT.1[c]?) ty H) {a c c2 ci j : Nat} {fs : List (XV Int32)} (ha : ty a = some c) (hk : kf c j = some (.inr (false, c2))) (hH : H[a]? = some (.inl (ci, fs))) : ∃ u, fs[j]? = some (.inr (some u)) ∧ ty u = some c2 := by
  obtain ⟨kd, w, h1, h2, h3⟩ := hp a c ha
  rw [hH] at h2
  cases h2
  have h1 : x_KT.1[c]? = some kd := h1
  unfold kf at hk
  rw [h1] at hk
  rcases kd with o | o
  · have hl : fs.length = o.2.length := h3.2.1
    have hj : j < o.2.length := (List.getElem?_eq_some_iff.mp hk).1
    have hu : fs[j]? = some (fs[j]'(by omega)) := List.getElem?_eq_getElem (by omega)
    have hf := h3.2.2 j _ _ hk hu
    rcases hx : fs[j]'(by omega) with x | (_ | u)
    · rw [hx] at hf
      exact hf.elim
    · rw [hx] at hf
      cases hf
    · rw [hx] at hf hu
      exact ⟨u, hu, hf⟩
  · cases hk
def kr (c : Nat) : Option (Nat × Nat) := match x_KT.1[c]? with
  | some (.inr o) => some (o.1, o.2.1)
  | _ => none
theorem cell_r (hp : vHp (fun c => x_KT.1[c]?) ty H) {a c t m : Nat} (ha : ty a = some c) (hk : kr c = some (t, m)) : ∃ vs, H[a]? = some (.inr (t, vs)) ∧ vs.length = m := by
  obtain ⟨kd, w, h1, h2, h3⟩ := hp a c ha
  have h1 : x_KT.1[c]? = some kd := h1
  unfold kr at hk
  rw [h1] at hk
  rcases kd with o | o
  · cases hk
  · injection hk with hk
    injection hk with e1 e2
    rcases w with z | z
    · exact h3.elim
    · refine ⟨z.2, ?_, ?_⟩
      · rw [h2, ← e1, ← h3.1]
      · rw [← e2]
        exact h3.2.1
def kob (c : Nat) : Option (Nat × Nat) := match x_KT.1[c]? with
  | some (.inl o) => some (o.1, o.2.length)
  | _ => none
theorem cell_o (hp : vHp (fun c => x_KT.1[c]?) ty H) {a c t m : Nat} (ha : ty a = some c) (hk : kob c = some (t, m)) : ∃ vs, H[a]? = some (.inl (t, vs)) ∧ vs.length = m := by
  obtain ⟨kd, w, h1, h2, h3⟩ := hp a c ha
  have h1 : x_KT.1[c]? = some kd := h1
  unfold kob at hk
  rw [h1] at hk
  rcases kd with o | o
  · injection hk with hk
    injection hk with e1 e2
    rcases w with z | z
    · refine ⟨z.2, ?_, ?_⟩
      · rw [h2, ← e1, ← h3.1]
      · rw [← e2]
        exact h3.2.1
    · exact h3.elim
  · cases hk
def kel (c j : Nat) : Option vF := match x_KT.1[c]? with
  | some (.inr o) => vEl o.2.2 j
  | _ => none
theorem cell_e (hp : vHp (fun c => x_KT.1[c]?) ty H) {a c c2 t j u : Nat} {z : Bool} {vs : List (XV Int32)} (ha : ty a = some c) (hk : kel c j = some (.inr (z, c2))) (hH : H[a]? = some (.inr (t, vs))) (hf : vs[j]? = some (.inr (some u))) : ty u = some c2 := by
  obtain ⟨kd, w, h1, h2, h3⟩ := hp a c ha
  rw [hH] at h2
  cases h2
  have h1 : x_KT.1[c]? = some kd := h1
  unfold kel at hk
  rw [h1] at hk
  rcases kd with o | o
  · cases hk
  · exact h3.2.2 j _ _ hk hf
theorem cell_ex (hp : vHp (fun c => x_KT.1[c]?) ty H) {a c c2 t j : Nat} {vs : List (XV Int32)} (ha : ty a = some c) (hk : kel c j = some (.inr (false, c2))) (hH : H[a]? = some (.inr (t, vs))) (hj : j < vs.length) : ∃ u, vs[j]? = some (.inr (some u)) ∧ ty u = some c2 := by
  obtain ⟨kd, w, h1, h2, h3⟩ := hp a c ha
  rw [hH] at h2
  cases h2
  have h1 : x_KT.1[c]? = some kd := h1
  unfold kel at hk
  rw [h1] at hk
  rcases kd with o | o
  · cases hk
  · have hu : vs[j]? = some (vs[j]'hj) := List.getElem?_eq_getElem hj
    have hf := h3.2.2 j _ _ hk hu
    rcases hx : vs[j]'hj with x | (_ | u)
    · rw [hx] at hf
      exact hf.elim
    · rw [hx] at hf
      cases hf
    · rw [hx] at hf hu
      exact ⟨u, hu, hf⟩
theorem cell_ei (hp : vHp (fun c => x_KT.1[c]?) ty H) {a c t j : Nat} {p : Int × Int} {vs : List (XV Int32)} (ha : ty a = some c) (hk : kel c j = some (.inl p)) (hH : H[a]? = some (.inr (t, vs))) (hj : j < vs.length) : ∃ x : Int32, vs[j]? = some (.inl x) := by
  obtain ⟨kd, w, h1, h2, h3⟩ := hp a c ha
  rw [hH] at h2
  cases h2
  have h1 : x_KT.1[c]? = some kd := h1
  unfold kel at hk
  rw [h1] at hk
  rcases kd with o | o
  · cases hk
  · have hu : vs[j]? = some (vs[j]'hj) := List.getElem?_eq_getElem hj
    have hf := h3.2.2 j _ _ hk hu
    rcases hx : vs[j]'hj with x | u
    · rw [hx] at hu
      exact ⟨x, hu⟩
    · rw [hx] at hf
      rcases u with _ | u
      · exact hf.elim
      · exact hf.elim
-- places
def rV (H : List (XC Int32)) (a j : Nat) : Option (XV Int32) := match H[a]? with
  | some (.inl z) => z.2[j]?
  | some (.inr z) => z.2[j]?
  | none => none
def rR (H : List (XC Int32)) (a j : Nat) : Nat := match rV H a j with
  | some (.inr (some u)) => u
  | _ => 0
def hN_ (H : List (XC Int32)) (a j : Nat) : Nat := match rV H a j with
  | some (.inl x) => x.toInt.toNat
  | _ => 0
def hS_ (H : List (XC Int32)) (a j : Nat) : Nat := match rV H a j with
  | some (.inl x) => (x.toInt + 1).toNat
  | _ => 0
theorem rV_o {a j ci : Nat} {fs : List (XV Int32)} (h : H[a]? = some (.inl (ci, fs))) : rV H a j = fs[j]? := by
  unfold rV
  rw [h]
theorem rV_r {a j ci : Nat} {fs : List (XV Int32)} (h : H[a]? = some (.inr (ci, fs))) : rV H a j = fs[j]? := by
  unfold rV
  rw [h]
theorem rR_of {a j u : Nat} (h : rV H a j = some (.inr (some u))) : rR H a j = u := by
  unfold rR
  rw [h]
theorem hN_of {a j k : Nat} (h : rV H a j = some (.inl (nI k))) (hk : k < 2147483648) : hN_ H a j = k := by
  unfold hN_
  rw [h]
  show (nI k).toInt.toNat = k
  rw [nI_toInt (by omega)]
  omega
theorem hS_of {a j k : Nat} (h : rV H a j = some (.inl (svI k))) (hk : k < 2147483648) : hS_ H a j = k := by
  unfold hS_
  rw [h]
  show ((svI k).toInt + 1).toNat = k
  rcases k with _ | k
  · rfl
  · show ((nI k).toInt + 1).toNat = k + 1
    rw [nI_toInt (by omega)]
    omega
theorem oI {x : Int} {k : Nat} (h : x = (k : Int)) (hk : k < 2147483648) : Int32.ofInt x = nI k := by
  apply Int32.toInt_inj.mp
  rw [ofInt_toInt (by omega) (by omega), nI_toInt (by omega)]
  exact h
theorem oS {x : Int} (h1 : -1 ≤ x) (h2 : x ≤ 11) : Int32.ofInt x = svI (x + 1).toNat := by
  by_cases c : x = -1
  · subst c
    rfl
  · obtain ⟨k, hk⟩ : ∃ k : Nat, x = (k : Int) := ⟨x.toNat, by omega⟩
    rw [show (x + 1).toNat = k + 1 by omega]
    exact oI hk (by omega)
theorem pl_f {i j : Nat} {u : XV Int32} (h : vPlace ρ σ H i (.inl j) u) : rV H (sR σ i) j = some u := by
  obtain ⟨ci, fs, h1, h2⟩ := h
  rw [rV_o h1]
  exact h2
theorem pl_e {i j : Nat} {e : lT} {u : XV Int32} (h : vPlace ρ σ H i (.inr e) u) (e1 : lEv ρ e = (j : Int)) : rV H (sR σ i) j = some u := by
  obtain ⟨t, vs, h1, -, h2⟩ := h
  rw [e1, Int.toNat_natCast] at h2
  rw [rV_r h1]
  exact h2
theorem fO {i j k : Nat} (h : vHolds ρ σ H (i, .inl j, .inr (some k))) : rV H (sR σ i) j = some (.inr (some (sR σ k))) := pl_f (vHolds_fld h)
theorem fI {i j : Nat} {e : lT} (h : vHolds ρ σ H (i, .inl j, .inl e)) : rV H (sR σ i) j = some (.inl (Int32.ofInt (lEv ρ e))) := pl_f (vHolds_fld h)
theorem fE {i j k : Nat} {e : lT} (h : vHolds ρ σ H (i, .inr e, .inr (some k))) (e1 : lEv ρ e = (j : Int)) : rV H (sR σ i) j = some (.inr (some (sR σ k))) := by
  rcases h with h | ⟨k2, h1, -, -⟩
  · exact pl_e h e1
  · have h1 : (Sum.inr e : Nat ⊕ lT) = .inr (lK (-1)) := h1
    injection h1 with h1
    rw [h1, lK_ev] at e1
    omega
theorem fJ {i j : Nat} {e e2 : lT} (h : vHolds ρ σ H (i, .inr e, .inl e2)) (e1 : lEv ρ e = (j : Int)) : rV H (sR σ i) j = some (.inl (Int32.ofInt (lEv ρ e2))) := pl_e (vHolds_int h) e1
theorem hNe {i k : Nat} (h : vHolds ρ σ H (i, .inr (lK (-1)), .inr (some k))) : sR σ i ≠ sR σ k := by
  rcases h with ⟨t, vs, -, h1, -⟩ | ⟨k2, -, h1, h2⟩
  · rw [lK_ev] at h1
    omega
  · have h1 : (Sum.inr (some k) : vA) = .inr (some k2) := h1
    injection h1 with h1
    injection h1 with h1
    subst h1
    exact h2
-- families
def evL (l : List Int) (i : Nat) : Int := l.getD i 0
def mK (f : vK) (l : List vK) : Bool := l.any (fun g => @decide (f = g) (dvK f g))
theorem mK_at {f : vK} {l : List vK} (h : mK f l = true) : f ∈ l := by
  obtain ⟨g, hg, e⟩ := List.any_eq_true.mp h
  have e : f = g := @of_decide_eq_true (f = g) (dvK f g) e
  rw [e]
  exact hg
def inA (l : List vK) (x : vAn) : Bool := l.all (fun f => mK f (aF x))
theorem inA_at {l : List vK} {x : vAn} (h : inA l x = true) {f : vK} (hf : f ∈ l) : f ∈ aF x := mK_at (List.all_eq_true.mp h f hf)
theorem sAx {τ : List Nat} {σ2 : Nat → Nat} {g i j : Nat} (e : ∀ i, i < g → σ2 i = sR (sO σ τ) i) (hi : i < g) (ht : τ[i]? = some j) (h6 : i < 1000000) : sR σ2 i = sR σ j := by
  have h := e i hi
  rw [sOx ht h6] at h
  rw [← h]
  exact if_pos h6
def HX (ρ : Nat → Int) (σ : Nat → Nat) (ty : Nat → Option Nat) (H : List (XC Int32)) (n : Nat) : Prop := vRel x_KT ρ σ ty H (aSt lwN) ∧ lwPw lwFS lwTA lwTB σ ty H ∧ ρ 3 = (n : Int)
theorem HX_12 (h : HX ρ σ ty H n) : n ≤ 12 := by
  have h1 := h.1.2.2.2.1 (3, ((0 : Int), (12 : Int))) (by decide +kernel)
  have h1 : (0 : Int) ≤ ρ 3 ∧ ρ 3 ≤ 12 := h1
  have h2 := h.2.2
  omega
theorem pin_of (h : HX ρ σ ty H n) {l : List Int} (h0 : evL l 0 = (n : Int)) : wPn [(0, 3)] (evL l) (sO σ lwTA) H := fun i p hp => by
  have hn := HX_12 h
  rcases i with _ | i
  · cases hp
    refine ⟨by omega, ?_⟩
    obtain ⟨ci, fs, h1, h2⟩ := vHolds_fld (h.1.2.2.1 (0, .inl 3, .inl (lSy 3)) (mK_at (by decide +kernel)))
    have h2 : fs[3]? = some (.inl (Int32.ofInt (lEv ρ (lSy 3)))) := h2
    rw [lSy_ev, h.2.2, ← h0] at h2
    exact ⟨ci, fs, by rw [sOx (j := 0) rfl (by decide)]; exact h1, h2⟩
  · cases hp
theorem cell_fi (hp : vHp (fun c => x_KT.1[c]?) ty H) {a c ci j : Nat} {p : Int × Int} {fs : List (XV Int32)} (ha : ty a = some c) (hk : kf c j = some (.inl p)) (hH : H[a]? = some (.inl (ci, fs))) : ∃ x : Int32, fs[j]? = some (.inl x) := by
  obtain ⟨kd, w, h1, h2, h3⟩ := hp a c ha
  rw [hH] at h2
  cases h2
  have h1 : x_KT.1[c]? = some kd := h1
  unfold kf at hk
  rw [h1] at hk
  rcases kd with o | o
  · have hl : fs.length = o.2.length := h3.2.1
    have hj : j < o.2.length := (List.getElem?_eq_some_iff.mp hk).1
    have hu : fs[j]? = some (fs[j]'(by omega)) := List.getElem?_eq_getElem (by omega)
    have hf := h3.2.2 j _ _ hk hu
    rcases hx : fs[j]'(by omega) with x | u
    · rw [hx] at hu
      exact ⟨x, hu⟩
    · rw [hx] at hf
      rcases u with _ | u
      · exact hf.elim
      · exact hf.elim
  · cases hk
def rI9 (H : List (XC Int32)) (a j : Nat) : Int32 := match rV H a j with
  | some (.inl x) => x
  | _ => 0
theorem rI9_of {a j : Nat} {x : Int32} (h : rV H a j = some (.inl x)) : rI9 H a j = x := by
  unfold rI9
  rw [h]
theorem ty_of (h : HX ρ σ ty H n) {i c : Nat} (hi : (sG (aSt lwN))[i]? = some c) : ty (sR σ i) = some c := h.1.2.1 i c hi
theorem nty {x y c e : Nat} (h1 : ty x = some c) (h2 : ty y = some e) (h : c ≠ e) : x ≠ y := fun z => h (by
  rw [z, h2] at h1
  exact (Option.some.inj h1).symm)
def Fmsc_A0 : List vK := [(3, .inr (lSy 1), .inr (some 27)), (27, .inl 8, .inl (lSy 2)), (27, .inl 9, .inl (lSy 3)), (27, .inl 10, .inl (lSy 4)), (27, .inl 11, .inl (lSy 5)), (27, .inl 12, .inl (lSy 6)), (27, .inl 1, .inr (some 28)), (28, .inl 3, .inl (lSy 7)), (27, .inl 0, .inr (some 29)), (29, .inl 4, .inl (lSy 8)), (28, .inl 0, .inl (lK 0)), (28, .inl 1, .inr (some 30)), (28, .inl 2, .inr (some 31)), (29, .inl 0, .inr (some 32)), (29, .inl 1, .inr (some 33)), (29, .inl 2, .inr (some 34)), (29, .inl 3, .inr (some 35))]
def Fmsc_B0 : List vK := [(24, .inr (lSy 1), .inl (lSy 2)), (25, .inr (lSy 1), .inl (lSy 3)), (26, .inr (lSy 1), .inl (lSy 4)), (23, .inr (lSy 1), .inl (lSy 7)), (20, .inr (lSy 1), .inl (lSy 8)), (27, .inr (lSy 1), .inl (lSy 5)), (28, .inr (lSy 1), .inl (lSy 6)), (19, .inr (lSy 1), .inr (some 42))]
def Fmsc_A1 : List vK := [(3, .inr (lSy 1), .inr (some 27)), (27, .inl 8, .inl (lSy 2)), (27, .inl 9, .inl (lSy 3)), (27, .inl 10, .inl (lSy 4)), (27, .inl 11, .inl (lSy 5)), (27, .inl 12, .inl (lSy 6)), (27, .inl 1, .inr (some 28)), (28, .inl 3, .inl (lSy 7)), (27, .inl 0, .inr (some 29)), (29, .inl 4, .inl (lSy 8)), (28, .inl 0, .inl (lK 0)), (28, .inl 1, .inr (some 30)), (28, .inl 2, .inr (some 31)), (29, .inl 0, .inr (some 32)), (29, .inl 1, .inr (some 33)), (29, .inl 2, .inr (some 34)), (29, .inl 3, .inr (some 35))]
def Fmsc_B1 : List vK := [(24, .inr (lSy 1), .inl (lSy 2)), (25, .inr (lSy 1), .inl (lSy 3)), (26, .inr (lSy 1), .inl (lSy 4)), (23, .inr (lSy 1), .inl (lSy 7)), (20, .inr (lSy 1), .inl (lSy 8)), (27, .inr (lSy 1), .inl (lSy 5)), (28, .inr (lSy 1), .inl (lSy 6)), (19, .inr (lSy 1), .inr (some 42))]
theorem Fmsc_ok : (wAl lwF0).all (fun x => (inA Fmsc_A0 x.1 && inA Fmsc_B0 x.2 && decide ((aI x.1)[2]? = some (-1, 11)) && decide ((aI x.1)[3]? = some (0, 5)) && decide ((aI x.1)[4]? = some (0, 4)) && decide ((aI x.1)[7]? = some (0, 2)) && decide ((aI x.1)[8]? = some (1, 12)) && decide ((lAdd (lSc (-1) (lSy 2)) (lAdd (lSy 0) (lK (-1)))) ∈ aC x.1) && decide ((lAdd (lSc (-1) (lSy 2)) (lAdd (lSy 1) (lK (-1)))) ∈ aC x.1)) || (inA Fmsc_A1 x.1 && inA Fmsc_B1 x.2 && decide ((aI x.1)[2]? = some (-1, 11)) && decide ((aI x.1)[3]? = some (0, 5)) && decide ((aI x.1)[4]? = some (0, 4)) && decide ((aI x.1)[7]? = some (0, 2)) && decide ((aI x.1)[8]? = some (1, 12)) && decide ((lAdd (lSc (-1) (lSy 2)) (lAdd (lSy 0) (lK (-1)))) ∈ aC x.1) && decide ((lAdd (lSy 2) (lAdd (lSc (-1) (lSy 1)) (lK (-1)))) ∈ aC x.1))) = true := by decide +kernel
theorem Fmsc (h : HX ρ σ ty H n) {q : Nat} (hq : q < n) : (∃ (p27 p28 p29 p30 p31 p32 p33 p34 p35 q42 : Nat), ∃ (z2 z3 z4 z5 z6 z7 z8 : Int), rV H (sR σ 6) q = some (.inr (some (p27))) ∧ rV H (p27) 8 = some (.inl (Int32.ofInt (z2))) ∧ rV H (p27) 9 = some (.inl (Int32.ofInt (z3))) ∧ rV H (p27) 10 = some (.inl (Int32.ofInt (z4))) ∧ rV H (p27) 11 = some (.inl (Int32.ofInt (z5))) ∧ rV H (p27) 12 = some (.inl (Int32.ofInt (z6))) ∧ rV H (p27) 1 = some (.inr (some (p28))) ∧ rV H (p28) 3 = some (.inl (Int32.ofInt (z7))) ∧ rV H (p27) 0 = some (.inr (some (p29))) ∧ rV H (p29) 4 = some (.inl (Int32.ofInt (z8))) ∧ rV H (p28) 0 = some (.inl (Int32.ofInt (0))) ∧ rV H (p28) 1 = some (.inr (some (p30))) ∧ rV H (p28) 2 = some (.inr (some (p31))) ∧ rV H (p29) 0 = some (.inr (some (p32))) ∧ rV H (p29) 1 = some (.inr (some (p33))) ∧ rV H (p29) 2 = some (.inr (some (p34))) ∧ rV H (p29) 3 = some (.inr (some (p35))) ∧ rV H (sR σ 48) q = some (.inl (Int32.ofInt (z2))) ∧ rV H (sR σ 49) q = some (.inl (Int32.ofInt (z3))) ∧ rV H (sR σ 50) q = some (.inl (Int32.ofInt (z4))) ∧ rV H (sR σ 47) q = some (.inl (Int32.ofInt (z7))) ∧ rV H (sR σ 44) q = some (.inl (Int32.ofInt (z8))) ∧ rV H (sR σ 51) q = some (.inl (Int32.ofInt (z5))) ∧ rV H (sR σ 52) q = some (.inl (Int32.ofInt (z6))) ∧ rV H (sR σ 43) q = some (.inr (some (q42))) ∧ ((-1 : Int) ≤ z2 ∧ z2 ≤ 11) ∧ ((0 : Int) ≤ z3 ∧ z3 ≤ 5) ∧ ((0 : Int) ≤ z4 ∧ z4 ≤ 4) ∧ ((0 : Int) ≤ z7 ∧ z7 ≤ 2) ∧ ((1 : Int) ≤ z8 ∧ z8 ≤ 12) ∧ (0 : Int) ≤ ((-1) * z2 + ((n : Int) + (-1))) ∧ (0 : Int) ≤ ((-1) * z2 + ((q : Int) + (-1)))) ∨ (∃ (p27 p28 p29 p30 p31 p32 p33 p34 p35 q42 : Nat), ∃ (z2 z3 z4 z5 z6 z7 z8 : Int), rV H (sR σ 6) q = some (.inr (some (p27))) ∧ rV H (p27) 8 = some (.inl (Int32.ofInt (z2))) ∧ rV H (p27) 9 = some (.inl (Int32.ofInt (z3))) ∧ rV H (p27) 10 = some (.inl (Int32.ofInt (z4))) ∧ rV H (p27) 11 = some (.inl (Int32.ofInt (z5))) ∧ rV H (p27) 12 = some (.inl (Int32.ofInt (z6))) ∧ rV H (p27) 1 = some (.inr (some (p28))) ∧ rV H (p28) 3 = some (.inl (Int32.ofInt (z7))) ∧ rV H (p27) 0 = some (.inr (some (p29))) ∧ rV H (p29) 4 = some (.inl (Int32.ofInt (z8))) ∧ rV H (p28) 0 = some (.inl (Int32.ofInt (0))) ∧ rV H (p28) 1 = some (.inr (some (p30))) ∧ rV H (p28) 2 = some (.inr (some (p31))) ∧ rV H (p29) 0 = some (.inr (some (p32))) ∧ rV H (p29) 1 = some (.inr (some (p33))) ∧ rV H (p29) 2 = some (.inr (some (p34))) ∧ rV H (p29) 3 = some (.inr (some (p35))) ∧ rV H (sR σ 48) q = some (.inl (Int32.ofInt (z2))) ∧ rV H (sR σ 49) q = some (.inl (Int32.ofInt (z3))) ∧ rV H (sR σ 50) q = some (.inl (Int32.ofInt (z4))) ∧ rV H (sR σ 47) q = some (.inl (Int32.ofInt (z7))) ∧ rV H (sR σ 44) q = some (.inl (Int32.ofInt (z8))) ∧ rV H (sR σ 51) q = some (.inl (Int32.ofInt (z5))) ∧ rV H (sR σ 52) q = some (.inl (Int32.ofInt (z6))) ∧ rV H (sR σ 43) q = some (.inr (some (q42))) ∧ ((-1 : Int) ≤ z2 ∧ z2 ≤ 11) ∧ ((0 : Int) ≤ z3 ∧ z3 ≤ 5) ∧ ((0 : Int) ≤ z4 ∧ z4 ≤ 4) ∧ ((0 : Int) ≤ z7 ∧ z7 ≤ 2) ∧ ((1 : Int) ≤ z8 ∧ z8 ≤ 12) ∧ (0 : Int) ≤ ((-1) * z2 + ((n : Int) + (-1))) ∧ (0 : Int) ≤ (z2 + ((-1) * (q : Int) + (-1)))) := by
  have hn := HX_12 h
  have hw := h.2.1 lwF0 (List.mem_of_getElem? (i := 0) rfl) (evL [(n : Int), (q : Int)]) (pin_of h rfl) (fun j p hj => by
    rcases j with _ | j
    · cases hj
      exact ⟨show (0 : Int) ≤ (q : Int) by omega, show (q : Int) ≤ 11 by omega⟩
    · cases hj) (fun c hc => by
    have hc : c ∈ [(lAdd (lSc (-1) (lSy 1)) (lAdd (lSy 0) (lK (-1))))] := hc
    simp only [List.mem_cons, List.not_mem_nil, or_false] at hc
    rcases hc with rfl
    · simp only [lAdd_ev, lSc_ev, lSy_ev, lK_ev]
      show (0 : Int) ≤ ((-1) * (q : Int) + ((n : Int) + (-1)))
      omega)
  obtain ⟨x, hx, ρ2, σA, σB, e1, e2, e3, n1, n2, n3, n4⟩ := hw
  have r0 : ρ2 0 = (n : Int) := e1 0 (by decide +kernel)
  have r1 : ρ2 1 = (q : Int) := e1 1 (by decide +kernel)
  have kk := List.all_eq_true.mp Fmsc_ok x hx
  simp only [Bool.or_eq_true] at kk
  rcases kk with kk | kk
  · simp only [Bool.and_eq_true] at kk
    obtain ⟨⟨⟨⟨⟨⟨⟨⟨k0, k1⟩, k2⟩, k3⟩, k4⟩, k5⟩, k6⟩, k7⟩, k8⟩ := kk
    have f0 := fE (n1 _ (inA_at k0 (f := (3, .inr (lSy 1), .inr (some 27))) (mK_at (by decide +kernel)))) (j := q) ((lSy_ev _ _).trans r1)
    rw [sAx e2 (i := 3) (j := 6) (by decide +kernel) rfl (by decide)] at f0
    have f1 := fI (n1 _ (inA_at k0 (f := (27, .inl 8, .inl (lSy 2))) (mK_at (by decide +kernel))))
    simp only [lAdd_ev, lSc_ev, lSy_ev, lK_ev, r0, r1] at f1
    have f2 := fI (n1 _ (inA_at k0 (f := (27, .inl 9, .inl (lSy 3))) (mK_at (by decide +kernel))))
    simp only [lAdd_ev, lSc_ev, lSy_ev, lK_ev, r0, r1] at f2
    have f3 := fI (n1 _ (inA_at k0 (f := (27, .inl 10, .inl (lSy 4))) (mK_at (by decide +kernel))))
    simp only [lAdd_ev, lSc_ev, lSy_ev, lK_ev, r0, r1] at f3
    have f4 := fI (n1 _ (inA_at k0 (f := (27, .inl 11, .inl (lSy 5))) (mK_at (by decide +kernel))))
    simp only [lAdd_ev, lSc_ev, lSy_ev, lK_ev, r0, r1] at f4
    have f5 := fI (n1 _ (inA_at k0 (f := (27, .inl 12, .inl (lSy 6))) (mK_at (by decide +kernel))))
    simp only [lAdd_ev, lSc_ev, lSy_ev, lK_ev, r0, r1] at f5
    have f6 := fO (n1 _ (inA_at k0 (f := (27, .inl 1, .inr (some 28))) (mK_at (by decide +kernel))))
    have f7 := fI (n1 _ (inA_at k0 (f := (28, .inl 3, .inl (lSy 7))) (mK_at (by decide +kernel))))
    simp only [lAdd_ev, lSc_ev, lSy_ev, lK_ev, r0, r1] at f7
    have f8 := fO (n1 _ (inA_at k0 (f := (27, .inl 0, .inr (some 29))) (mK_at (by decide +kernel))))
    have f9 := fI (n1 _ (inA_at k0 (f := (29, .inl 4, .inl (lSy 8))) (mK_at (by decide +kernel))))
    simp only [lAdd_ev, lSc_ev, lSy_ev, lK_ev, r0, r1] at f9
    have f10 := fI (n1 _ (inA_at k0 (f := (28, .inl 0, .inl (lK 0))) (mK_at (by decide +kernel))))
    simp only [lAdd_ev, lSc_ev, lSy_ev, lK_ev, r0, r1] at f10
    have f11 := fO (n1 _ (inA_at k0 (f := (28, .inl 1, .inr (some 30))) (mK_at (by decide +kernel))))
    have f12 := fO (n1 _ (inA_at k0 (f := (28, .inl 2, .inr (some 31))) (mK_at (by decide +kernel))))
    have f13 := fO (n1 _ (inA_at k0 (f := (29, .inl 0, .inr (some 32))) (mK_at (by decide +kernel))))
    have f14 := fO (n1 _ (inA_at k0 (f := (29, .inl 1, .inr (some 33))) (mK_at (by decide +kernel))))
    have f15 := fO (n1 _ (inA_at k0 (f := (29, .inl 2, .inr (some 34))) (mK_at (by decide +kernel))))
    have f16 := fO (n1 _ (inA_at k0 (f := (29, .inl 3, .inr (some 35))) (mK_at (by decide +kernel))))
    have f17 := fJ (n2 _ (inA_at k1 (f := (24, .inr (lSy 1), .inl (lSy 2))) (mK_at (by decide +kernel)))) (j := q) ((lSy_ev _ _).trans r1)
    rw [sAx e3 (i := 24) (j := 48) (by decide +kernel) rfl (by decide)] at f17
    simp only [lAdd_ev, lSc_ev, lSy_ev, lK_ev, r0, r1] at f17
    have f18 := fJ (n2 _ (inA_at k1 (f := (25, .inr (lSy 1), .inl (lSy 3))) (mK_at (by decide +kernel)))) (j := q) ((lSy_ev _ _).trans r1)
    rw [sAx e3 (i := 25) (j := 49) (by decide +kernel) rfl (by decide)] at f18
    simp only [lAdd_ev, lSc_ev, lSy_ev, lK_ev, r0, r1] at f18
    have f19 := fJ (n2 _ (inA_at k1 (f := (26, .inr (lSy 1), .inl (lSy 4))) (mK_at (by decide +kernel)))) (j := q) ((lSy_ev _ _).trans r1)
    rw [sAx e3 (i := 26) (j := 50) (by decide +kernel) rfl (by decide)] at f19
    simp only [lAdd_ev, lSc_ev, lSy_ev, lK_ev, r0, r1] at f19
    have f20 := fJ (n2 _ (inA_at k1 (f := (23, .inr (lSy 1), .inl (lSy 7))) (mK_at (by decide +kernel)))) (j := q) ((lSy_ev _ _).trans r1)
    rw [sAx e3 (i := 23) (j := 47) (by decide +kernel) rfl (by decide)] at f20
    simp only [lAdd_ev, lSc_ev, lSy_ev, lK_ev, r0, r1] at f20
    have f21 := fJ (n2 _ (inA_at k1 (f := (20, .inr (lSy 1), .inl (lSy 8))) (mK_at (by decide +kernel)))) (j := q) ((lSy_ev _ _).trans r1)
    rw [sAx e3 (i := 20) (j := 44) (by decide +kernel) rfl (by decide)] at f21
    simp only [lAdd_ev, lSc_ev, lSy_ev, lK_ev, r0, r1] at f21
    have f22 := fJ (n2 _ (inA_at k1 (f := (27, .inr (lSy 1), .inl (lSy 5))) (mK_at (by decide +kernel)))) (j := q) ((lSy_ev _ _).trans r1)
    rw [sAx e3 (i := 27) (j := 51) (by decide +kernel) rfl (by decide)] at f22
    simp only [lAdd_ev, lSc_ev, lSy_ev, lK_ev, r0, r1] at f22
    have f23 := fJ (n2 _ (inA_at k1 (f := (28, .inr (lSy 1), .inl (lSy 6))) (mK_at (by decide +kernel)))) (j := q) ((lSy_ev _ _).trans r1)
    rw [sAx e3 (i := 28) (j := 52) (by decide +kernel) rfl (by decide)] at f23
    simp only [lAdd_ev, lSc_ev, lSy_ev, lK_ev, r0, r1] at f23
    have f24 := fE (n2 _ (inA_at k1 (f := (19, .inr (lSy 1), .inr (some 42))) (mK_at (by decide +kernel)))) (j := q) ((lSy_ev _ _).trans r1)
    rw [sAx e3 (i := 19) (j := 43) (by decide +kernel) rfl (by decide)] at f24
    have b2 : (-1 : Int) ≤ ρ2 2 ∧ ρ2 2 ≤ 11 := by
      have := zipI_spec.mp n3 2 _ (of_decide_eq_true k2)
      simpa using this
    have b3 : (0 : Int) ≤ ρ2 3 ∧ ρ2 3 ≤ 5 := by
      have := zipI_spec.mp n3 3 _ (of_decide_eq_true k3)
      simpa using this
    have b4 : (0 : Int) ≤ ρ2 4 ∧ ρ2 4 ≤ 4 := by
      have := zipI_spec.mp n3 4 _ (of_decide_eq_true k4)
      simpa using this
    have b7 : (0 : Int) ≤ ρ2 7 ∧ ρ2 7 ≤ 2 := by
      have := zipI_spec.mp n3 7 _ (of_decide_eq_true k5)
      simpa using this
    have b8 : (1 : Int) ≤ ρ2 8 ∧ ρ2 8 ≤ 12 := by
      have := zipI_spec.mp n3 8 _ (of_decide_eq_true k6)
      simpa using this
    have c0 := n4 _ (of_decide_eq_true k7)
    simp only [lAdd_ev, lSc_ev, lSy_ev, lK_ev, r0, r1] at c0
    have c1 := n4 _ (of_decide_eq_true k8)
    simp only [lAdd_ev, lSc_ev, lSy_ev, lK_ev, r0, r1] at c1
    exact Or.inl ⟨_, _, _, _, _, _, _, _, _, _, ρ2 2, ρ2 3, ρ2 4, ρ2 5, ρ2 6, ρ2 7, ρ2 8, f0, f1, f2, f3, f4, f5, f6, f7, f8, f9, f10, f11, f12, f13, f14, f15, f16, f17, f18, f19, f20, f21, f22, f23, f24, b2, b3, b4, b7, b8, c0, c1⟩
  · simp only [Bool.and_eq_true] at kk
    obtain ⟨⟨⟨⟨⟨⟨⟨⟨k0, k1⟩, k2⟩, k3⟩, k4⟩, k5⟩, k6⟩, k7⟩, k8⟩ := kk
    have f0 := fE (n1 _ (inA_at k0 (f := (3, .inr (lSy 1), .inr (some 27))) (mK_at (by decide +kernel)))) (j := q) ((lSy_ev _ _).trans r1)
    rw [sAx e2 (i := 3) (j := 6) (by decide +kernel) rfl (by decide)] at f0
    have f1 := fI (n1 _ (inA_at k0 (f := (27, .inl 8, .inl (lSy 2))) (mK_at (by decide +kernel))))
    simp only [lAdd_ev, lSc_ev, lSy_ev, lK_ev, r0, r1] at f1
    have f2 := fI (n1 _ (inA_at k0 (f := (27, .inl 9, .inl (lSy 3))) (mK_at (by decide +kernel))))
    simp only [lAdd_ev, lSc_ev, lSy_ev, lK_ev, r0, r1] at f2
    have f3 := fI (n1 _ (inA_at k0 (f := (27, .inl 10, .inl (lSy 4))) (mK_at (by decide +kernel))))
    simp only [lAdd_ev, lSc_ev, lSy_ev, lK_ev, r0, r1] at f3
    have f4 := fI (n1 _ (inA_at k0 (f := (27, .inl 11, .inl (lSy 5))) (mK_at (by decide +kernel))))
    simp only [lAdd_ev, lSc_ev, lSy_ev, lK_ev, r0, r1] at f4
    have f5 := fI (n1 _ (inA_at k0 (f := (27, .inl 12, .inl (lSy 6))) (mK_at (by decide +kernel))))
    simp only [lAdd_ev, lSc_ev, lSy_ev, lK_ev, r0, r1] at f5
    have f6 := fO (n1 _ (inA_at k0 (f := (27, .inl 1, .inr (some 28))) (mK_at (by decide +kernel))))
    have f7 := fI (n1 _ (inA_at k0 (f := (28, .inl 3, .inl (lSy 7))) (mK_at (by decide +kernel))))
    simp only [lAdd_ev, lSc_ev, lSy_ev, lK_ev, r0, r1] at f7
    have f8 := fO (n1 _ (inA_at k0 (f := (27, .inl 0, .inr (some 29))) (mK_at (by decide +kernel))))
    have f9 := fI (n1 _ (inA_at k0 (f := (29, .inl 4, .inl (lSy 8))) (mK_at (by decide +kernel))))
    simp only [lAdd_ev, lSc_ev, lSy_ev, lK_ev, r0, r1] at f9
    have f10 := fI (n1 _ (inA_at k0 (f := (28, .inl 0, .inl (lK 0))) (mK_at (by decide +kernel))))
    simp only [lAdd_ev, lSc_ev, lSy_ev, lK_ev, r0, r1] at f10
    have f11 := fO (n1 _ (inA_at k0 (f := (28, .inl 1, .inr (some 30))) (mK_at (by decide +kernel))))
    have f12 := fO (n1 _ (inA_at k0 (f := (28, .inl 2, .inr (some 31))) (mK_at (by decide +kernel))))
    have f13 := fO (n1 _ (inA_at k0 (f := (29, .inl 0, .inr (some 32))) (mK_at (by decide +kernel))))
    have f14 := fO (n1 _ (inA_at k0 (f := (29, .inl 1, .inr (some 33))) (mK_at (by decide +kernel))))
    have f15 := fO (n1 _ (inA_at k0 (f := (29, .inl 2, .inr (some 34))) (mK_at (by decide +kernel))))
    have f16 := fO (n1 _ (inA_at k0 (f := (29, .inl 3, .inr (some 35))) (mK_at (by decide +kernel))))
    have f17 := fJ (n2 _ (inA_at k1 (f := (24, .inr (lSy 1), .inl (lSy 2))) (mK_at (by decide +kernel)))) (j := q) ((lSy_ev _ _).trans r1)
    rw [sAx e3 (i := 24) (j := 48) (by decide +kernel) rfl (by decide)] at f17
    simp only [lAdd_ev, lSc_ev, lSy_ev, lK_ev, r0, r1] at f17
    have f18 := fJ (n2 _ (inA_at k1 (f := (25, .inr (lSy 1), .inl (lSy 3))) (mK_at (by decide +kernel)))) (j := q) ((lSy_ev _ _).trans r1)
    rw [sAx e3 (i := 25) (j := 49) (by decide +kernel) rfl (by decide)] at f18
    simp only [lAdd_ev, lSc_ev, lSy_ev, lK_ev, r0, r1] at f18
    have f19 := fJ (n2 _ (inA_at k1 (f := (26, .inr (lSy 1), .inl (lSy 4))) (mK_at (by decide +kernel)))) (j := q) ((lSy_ev _ _).trans r1)
    rw [sAx e3 (i := 26) (j := 50) (by decide +kernel) rfl (by decide)] at f19
    simp only [lAdd_ev, lSc_ev, lSy_ev, lK_ev, r0, r1] at f19
    have f20 := fJ (n2 _ (inA_at k1 (f := (23, .inr (lSy 1), .inl (lSy 7))) (mK_at (by decide +kernel)))) (j := q) ((lSy_ev _ _).trans r1)
    rw [sAx e3 (i := 23) (j := 47) (by decide +kernel) rfl (by decide)] at f20
    simp only [lAdd_ev, lSc_ev, lSy_ev, lK_ev, r0, r1] at f20
    have f21 := fJ (n2 _ (inA_at k1 (f := (20, .inr (lSy 1), .inl (lSy 8))) (mK_at (by decide +kernel)))) (j := q) ((lSy_ev _ _).trans r1)
    rw [sAx e3 (i := 20) (j := 44) (by decide +kernel) rfl (by decide)] at f21
    simp only [lAdd_ev, lSc_ev, lSy_ev, lK_ev, r0, r1] at f21
    have f22 := fJ (n2 _ (inA_at k1 (f := (27, .inr (lSy 1), .inl (lSy 5))) (mK_at (by decide +kernel)))) (j := q) ((lSy_ev _ _).trans r1)
    rw [sAx e3 (i := 27) (j := 51) (by decide +kernel) rfl (by decide)] at f22
    simp only [lAdd_ev, lSc_ev, lSy_ev, lK_ev, r0, r1] at f22
    have f23 := fJ (n2 _ (inA_at k1 (f := (28, .inr (lSy 1), .inl (lSy 6))) (mK_at (by decide +kernel)))) (j := q) ((lSy_ev _ _).trans r1)
    rw [sAx e3 (i := 28) (j := 52) (by decide +kernel) rfl (by decide)] at f23
    simp only [lAdd_ev, lSc_ev, lSy_ev, lK_ev, r0, r1] at f23
    have f24 := fE (n2 _ (inA_at k1 (f := (19, .inr (lSy 1), .inr (some 42))) (mK_at (by decide +kernel)))) (j := q) ((lSy_ev _ _).trans r1)
    rw [sAx e3 (i := 19) (j := 43) (by decide +kernel) rfl (by decide)] at f24
    have b2 : (-1 : Int) ≤ ρ2 2 ∧ ρ2 2 ≤ 11 := by
      have := zipI_spec.mp n3 2 _ (of_decide_eq_true k2)
      simpa using this
    have b3 : (0 : Int) ≤ ρ2 3 ∧ ρ2 3 ≤ 5 := by
      have := zipI_spec.mp n3 3 _ (of_decide_eq_true k3)
      simpa using this
    have b4 : (0 : Int) ≤ ρ2 4 ∧ ρ2 4 ≤ 4 := by
      have := zipI_spec.mp n3 4 _ (of_decide_eq_true k4)
      simpa using this
    have b7 : (0 : Int) ≤ ρ2 7 ∧ ρ2 7 ≤ 2 := by
      have := zipI_spec.mp n3 7 _ (of_decide_eq_true k5)
      simpa using this
    have b8 : (1 : Int) ≤ ρ2 8 ∧ ρ2 8 ≤ 12 := by
      have := zipI_spec.mp n3 8 _ (of_decide_eq_true k6)
      simpa using this
    have c0 := n4 _ (of_decide_eq_true k7)
    simp only [lAdd_ev, lSc_ev, lSy_ev, lK_ev, r0, r1] at c0
    have c1 := n4 _ (of_decide_eq_true k8)
    simp only [lAdd_ev, lSc_ev, lSy_ev, lK_ev, r0, r1] at c1
    exact Or.inr (⟨_, _, _, _, _, _, _, _, _, _, ρ2 2, ρ2 3, ρ2 4, ρ2 5, ρ2 6, ρ2 7, ρ2 8, f0, f1, f2, f3, f4, f5, f6, f7, f8, f9, f10, f11, f12, f13, f14, f15, f16, f17, f18, f19, f20, f21, f22, f23, f24, b2, b3, b4, b7, b8, c0, c1⟩)
def Fmcd_A0 : List vK := [(3, .inr (lSy 1), .inr (some 27)), (27, .inl 0, .inr (some 28)), (28, .inl 0, .inr (some 29)), (28, .inl 1, .inr (some 30)), (28, .inl 2, .inr (some 31)), (28, .inl 3, .inr (some 32)), (28, .inl 4, .inl (lSy 3)), (29, .inr (lSy 2), .inl (lSy 4)), (30, .inr (lSy 2), .inl (lSy 5)), (31, .inr (lSy 2), .inl (lSy 6)), (32, .inr (lSy 2), .inl (lSy 7))]
def Fmcd_B0 : List vK := [(19, .inr (lSy 1), .inr (some 42)), (42, .inr (lSc 4 (lSy 2)), .inl (lK 0)), (42, .inr (lAdd (lSc 4 (lSy 2)) (lK 1)), .inl (lSy 5))]
def Fmcd_A1 : List vK := [(3, .inr (lSy 1), .inr (some 27)), (27, .inl 0, .inr (some 28)), (28, .inl 0, .inr (some 29)), (28, .inl 1, .inr (some 30)), (28, .inl 2, .inr (some 31)), (28, .inl 3, .inr (some 32)), (28, .inl 4, .inl (lSy 3)), (29, .inr (lSy 2), .inl (lSy 4)), (30, .inr (lSy 2), .inl (lSy 5)), (31, .inr (lSy 2), .inl (lSy 6)), (32, .inr (lSy 2), .inl (lSy 7))]
def Fmcd_B1 : List vK := [(19, .inr (lSy 1), .inr (some 42)), (42, .inr (lSc 4 (lSy 2)), .inl (lK 1)), (42, .inr (lAdd (lSc 4 (lSy 2)) (lK 1)), .inl (lSy 5))]
def Fmcd_A2 : List vK := [(3, .inr (lSy 1), .inr (some 27)), (27, .inl 0, .inr (some 28)), (28, .inl 0, .inr (some 29)), (28, .inl 1, .inr (some 30)), (28, .inl 2, .inr (some 31)), (28, .inl 3, .inr (some 32)), (28, .inl 4, .inl (lSy 3)), (29, .inr (lSy 2), .inl (lSy 4)), (30, .inr (lSy 2), .inl (lSy 5)), (31, .inr (lSy 2), .inl (lSy 6)), (32, .inr (lSy 2), .inl (lSy 7))]
def Fmcd_B2 : List vK := [(19, .inr (lSy 1), .inr (some 42)), (42, .inr (lSc 4 (lSy 2)), .inl (lK 2)), (42, .inr (lAdd (lSc 4 (lSy 2)) (lK 1)), .inl (lSy 5))]
def Fmcd_A3 : List vK := [(3, .inr (lSy 1), .inr (some 27)), (27, .inl 0, .inr (some 28)), (28, .inl 0, .inr (some 29)), (28, .inl 1, .inr (some 30)), (28, .inl 2, .inr (some 31)), (28, .inl 3, .inr (some 32)), (28, .inl 4, .inl (lSy 3)), (29, .inr (lSy 2), .inl (lSy 4)), (30, .inr (lSy 2), .inl (lSy 5)), (31, .inr (lSy 2), .inl (lSy 6)), (32, .inr (lSy 2), .inl (lSy 7))]
def Fmcd_B3 : List vK := [(19, .inr (lSy 1), .inr (some 42)), (42, .inr (lSc 4 (lSy 2)), .inl (lK 3)), (42, .inr (lAdd (lSc 4 (lSy 2)) (lK 1)), .inl (lSy 5)), (42, .inr (lAdd (lSc 4 (lSy 2)) (lK 3)), .inl (lSy 7))]
def Fmcd_A4 : List vK := [(3, .inr (lSy 1), .inr (some 27)), (27, .inl 0, .inr (some 28)), (28, .inl 0, .inr (some 29)), (28, .inl 1, .inr (some 30)), (28, .inl 2, .inr (some 31)), (28, .inl 3, .inr (some 32)), (28, .inl 4, .inl (lSy 3)), (29, .inr (lSy 2), .inl (lSy 4)), (30, .inr (lSy 2), .inl (lSy 5)), (31, .inr (lSy 2), .inl (lSy 6)), (32, .inr (lSy 2), .inl (lSy 7))]
def Fmcd_B4 : List vK := [(19, .inr (lSy 1), .inr (some 42)), (42, .inr (lSc 4 (lSy 2)), .inl (lK 4)), (42, .inr (lAdd (lSc 4 (lSy 2)) (lK 1)), .inl (lSy 5)), (42, .inr (lAdd (lSc 4 (lSy 2)) (lK 2)), .inl (lSy 6))]
def Fmcd_A5 : List vK := [(3, .inr (lSy 1), .inr (some 27)), (27, .inl 0, .inr (some 28)), (28, .inl 0, .inr (some 29)), (28, .inl 1, .inr (some 30)), (28, .inl 2, .inr (some 31)), (28, .inl 3, .inr (some 32)), (28, .inl 4, .inl (lSy 3)), (29, .inr (lSy 2), .inl (lSy 4)), (30, .inr (lSy 2), .inl (lSy 5)), (31, .inr (lSy 2), .inl (lSy 6)), (32, .inr (lSy 2), .inl (lSy 7))]
def Fmcd_B5 : List vK := [(19, .inr (lSy 1), .inr (some 42)), (42, .inr (lSc 4 (lSy 2)), .inl (lK 5)), (42, .inr (lAdd (lSc 4 (lSy 2)) (lK 1)), .inl (lSy 5)), (42, .inr (lAdd (lSc 4 (lSy 2)) (lK 2)), .inl (lSy 6))]
def Fmcd_A6 : List vK := [(3, .inr (lSy 1), .inr (some 27)), (27, .inl 0, .inr (some 28)), (28, .inl 0, .inr (some 29)), (28, .inl 1, .inr (some 30)), (28, .inl 2, .inr (some 31)), (28, .inl 3, .inr (some 32)), (28, .inl 4, .inl (lSy 3)), (29, .inr (lSy 2), .inl (lSy 4)), (30, .inr (lSy 2), .inl (lSy 5)), (31, .inr (lSy 2), .inl (lSy 6)), (32, .inr (lSy 2), .inl (lSy 7))]
def Fmcd_B6 : List vK := [(19, .inr (lSy 1), .inr (some 42)), (42, .inr (lSc 4 (lSy 2)), .inl (lK 6)), (42, .inr (lAdd (lSc 4 (lSy 2)) (lK 1)), .inl (lSy 5)), (42, .inr (lAdd (lSc 4 (lSy 2)) (lK 2)), .inl (lSy 6))]
def Fmcd_A7 : List vK := [(3, .inr (lSy 1), .inr (some 27)), (27, .inl 0, .inr (some 28)), (28, .inl 0, .inr (some 29)), (28, .inl 1, .inr (some 30)), (28, .inl 2, .inr (some 31)), (28, .inl 3, .inr (some 32)), (28, .inl 4, .inl (lSy 3)), (29, .inr (lSy 2), .inl (lSy 4)), (30, .inr (lSy 2), .inl (lSy 5)), (31, .inr (lSy 2), .inl (lSy 6)), (32, .inr (lSy 2), .inl (lSy 7))]
def Fmcd_B7 : List vK := [(19, .inr (lSy 1), .inr (some 42)), (42, .inr (lSc 4 (lSy 2)), .inl (lK 7)), (42, .inr (lAdd (lSc 4 (lSy 2)) (lK 1)), .inl (lSy 5)), (42, .inr (lAdd (lSc 4 (lSy 2)) (lK 2)), .inl (lSy 6)), (42, .inr (lAdd (lSc 4 (lSy 2)) (lK 3)), .inl (lSy 7))]
def Fmcd_A8 : List vK := [(3, .inr (lSy 1), .inr (some 27)), (27, .inl 0, .inr (some 28)), (28, .inl 0, .inr (some 29)), (28, .inl 1, .inr (some 30)), (28, .inl 2, .inr (some 31)), (28, .inl 3, .inr (some 32)), (28, .inl 4, .inl (lSy 3)), (29, .inr (lSy 2), .inl (lSy 4)), (30, .inr (lSy 2), .inl (lSy 5)), (31, .inr (lSy 2), .inl (lSy 6)), (32, .inr (lSy 2), .inl (lSy 7))]
def Fmcd_B8 : List vK := [(19, .inr (lSy 1), .inr (some 42)), (42, .inr (lSc 4 (lSy 2)), .inl (lK 9)), (42, .inr (lAdd (lSc 4 (lSy 2)) (lK 1)), .inl (lSy 5)), (42, .inr (lAdd (lSc 4 (lSy 2)) (lK 3)), .inl (lSy 7))]
def Fmcd_A9 : List vK := [(3, .inr (lSy 1), .inr (some 27)), (27, .inl 0, .inr (some 28)), (28, .inl 0, .inr (some 29)), (28, .inl 1, .inr (some 30)), (28, .inl 2, .inr (some 31)), (28, .inl 3, .inr (some 32)), (28, .inl 4, .inl (lSy 3)), (29, .inr (lSy 2), .inl (lSy 4)), (30, .inr (lSy 2), .inl (lSy 5)), (31, .inr (lSy 2), .inl (lSy 6)), (32, .inr (lSy 2), .inl (lSy 7))]
def Fmcd_B9 : List vK := [(19, .inr (lSy 1), .inr (some 42)), (42, .inr (lSc 4 (lSy 2)), .inl (lK 10)), (42, .inr (lAdd (lSc 4 (lSy 2)) (lK 3)), .inl (lSy 7))]
def Fmcd_A10 : List vK := [(3, .inr (lSy 1), .inr (some 27)), (27, .inl 0, .inr (some 28)), (28, .inl 0, .inr (some 29)), (28, .inl 1, .inr (some 30)), (28, .inl 2, .inr (some 31)), (28, .inl 3, .inr (some 32)), (28, .inl 4, .inl (lSy 3)), (29, .inr (lSy 2), .inl (lSy 4)), (30, .inr (lSy 2), .inl (lSy 5)), (31, .inr (lSy 2), .inl (lSy 6)), (32, .inr (lSy 2), .inl (lSy 7))]
def Fmcd_B10 : List vK := [(19, .inr (lSy 1), .inr (some 42)), (42, .inr (lSc 4 (lSy 2)), .inl (lK 11))]
def Fmcd_A11 : List vK := [(3, .inr (lSy 1), .inr (some 27)), (27, .inl 0, .inr (some 28)), (28, .inl 0, .inr (some 29)), (28, .inl 1, .inr (some 30)), (28, .inl 2, .inr (some 31)), (28, .inl 3, .inr (some 32)), (28, .inl 4, .inl (lSy 3)), (29, .inr (lSy 2), .inl (lSy 4)), (30, .inr (lSy 2), .inl (lSy 5)), (31, .inr (lSy 2), .inl (lSy 6)), (32, .inr (lSy 2), .inl (lSy 7))]
def Fmcd_B11 : List vK := [(19, .inr (lSy 1), .inr (some 42)), (42, .inr (lSc 4 (lSy 2)), .inl (lK 8)), (42, .inr (lAdd (lSc 4 (lSy 2)) (lK 1)), .inl (lSy 5)), (42, .inr (lAdd (lSc 4 (lSy 2)) (lK 2)), .inl (lSy 6)), (42, .inr (lAdd (lSc 4 (lSy 2)) (lK 3)), .inl (lSy 7))]
def Fmcd_A12 : List vK := [(3, .inr (lSy 1), .inr (some 27)), (27, .inl 0, .inr (some 28)), (28, .inl 4, .inl (lSy 3))]
def Fmcd_B12 : List vK := []
theorem Fmcd_ok : (wAl lwF1).all (fun x => (inA Fmcd_A0 x.1 && inA Fmcd_B0 x.2 && decide ((aI x.1)[3]? = some (1, 12)) && decide ((aI x.1)[4]? = some (0, 0)) && decide ((aI x.1)[5]? = some (0, 5)) && decide ((aI x.1)[6]? = some (0, 5)) && decide ((aI x.1)[7]? = some (0, 9999)) && decide ((lAdd (lSy 3) (lAdd (lSc (-1) (lSy 2)) (lK (-1)))) ∈ aC x.1)) || (inA Fmcd_A1 x.1 && inA Fmcd_B1 x.2 && decide ((aI x.1)[3]? = some (1, 12)) && decide ((aI x.1)[4]? = some (1, 1)) && decide ((aI x.1)[5]? = some (0, 5)) && decide ((aI x.1)[6]? = some (0, 5)) && decide ((aI x.1)[7]? = some (0, 9999)) && decide ((lAdd (lSy 3) (lAdd (lSc (-1) (lSy 2)) (lK (-1)))) ∈ aC x.1)) || (inA Fmcd_A2 x.1 && inA Fmcd_B2 x.2 && decide ((aI x.1)[3]? = some (1, 12)) && decide ((aI x.1)[4]? = some (2, 2)) && decide ((aI x.1)[5]? = some (0, 5)) && decide ((aI x.1)[6]? = some (0, 5)) && decide ((aI x.1)[7]? = some (0, 9999)) && decide ((lAdd (lSy 3) (lAdd (lSc (-1) (lSy 2)) (lK (-1)))) ∈ aC x.1)) || (inA Fmcd_A3 x.1 && inA Fmcd_B3 x.2 && decide ((aI x.1)[3]? = some (1, 12)) && decide ((aI x.1)[4]? = some (3, 3)) && decide ((aI x.1)[5]? = some (0, 5)) && decide ((aI x.1)[6]? = some (0, 5)) && decide ((aI x.1)[7]? = some (0, 9999)) && decide ((lAdd (lSy 3) (lAdd (lSc (-1) (lSy 2)) (lK (-1)))) ∈ aC x.1)) || (inA Fmcd_A4 x.1 && inA Fmcd_B4 x.2 && decide ((aI x.1)[3]? = some (1, 12)) && decide ((aI x.1)[4]? = some (4, 4)) && decide ((aI x.1)[5]? = some (0, 5)) && decide ((aI x.1)[6]? = some (0, 5)) && decide ((aI x.1)[7]? = some (0, 9999)) && decide ((lAdd (lSy 3) (lAdd (lSc (-1) (lSy 2)) (lK (-1)))) ∈ aC x.1)) || (inA Fmcd_A5 x.1 && inA Fmcd_B5 x.2 && decide ((aI x.1)[3]? = some (1, 12)) && decide ((aI x.1)[4]? = some (5, 5)) && decide ((aI x.1)[5]? = some (0, 5)) && decide ((aI x.1)[6]? = some (0, 5)) && decide ((aI x.1)[7]? = some (0, 9999)) && decide ((lAdd (lSy 3) (lAdd (lSc (-1) (lSy 2)) (lK (-1)))) ∈ aC x.1)) || (inA Fmcd_A6 x.1 && inA Fmcd_B6 x.2 && decide ((aI x.1)[3]? = some (1, 12)) && decide ((aI x.1)[4]? = some (6, 6)) && decide ((aI x.1)[5]? = some (0, 5)) && decide ((aI x.1)[6]? = some (0, 5)) && decide ((aI x.1)[7]? = some (0, 9999)) && decide ((lAdd (lSy 3) (lAdd (lSc (-1) (lSy 2)) (lK (-1)))) ∈ aC x.1)) || (inA Fmcd_A7 x.1 && inA Fmcd_B7 x.2 && decide ((aI x.1)[3]? = some (1, 12)) && decide ((aI x.1)[4]? = some (7, 7)) && decide ((aI x.1)[5]? = some (0, 5)) && decide ((aI x.1)[6]? = some (0, 5)) && decide ((aI x.1)[7]? = some (0, 9999)) && decide ((lAdd (lSy 3) (lAdd (lSc (-1) (lSy 2)) (lK (-1)))) ∈ aC x.1)) || (inA Fmcd_A8 x.1 && inA Fmcd_B8 x.2 && decide ((aI x.1)[3]? = some (1, 12)) && decide ((aI x.1)[4]? = some (8, 8)) && decide ((aI x.1)[5]? = some (0, 5)) && decide ((aI x.1)[6]? = some (0, 5)) && decide ((aI x.1)[7]? = some (0, 9999)) && decide ((lAdd (lSy 3) (lAdd (lSc (-1) (lSy 2)) (lK (-1)))) ∈ aC x.1)) || (inA Fmcd_A9 x.1 && inA Fmcd_B9 x.2 && decide ((aI x.1)[3]? = some (1, 12)) && decide ((aI x.1)[4]? = some (9, 9)) && decide ((aI x.1)[5]? = some (0, 5)) && decide ((aI x.1)[6]? = some (0, 5)) && decide ((aI x.1)[7]? = some (0, 9999)) && decide ((lAdd (lSy 3) (lAdd (lSc (-1) (lSy 2)) (lK (-1)))) ∈ aC x.1)) || (inA Fmcd_A10 x.1 && inA Fmcd_B10 x.2 && decide ((aI x.1)[3]? = some (1, 12)) && decide ((aI x.1)[4]? = some (10, 10)) && decide ((aI x.1)[5]? = some (0, 5)) && decide ((aI x.1)[6]? = some (0, 5)) && decide ((aI x.1)[7]? = some (0, 9999)) && decide ((lAdd (lSy 3) (lAdd (lSc (-1) (lSy 2)) (lK (-1)))) ∈ aC x.1)) || (inA Fmcd_A11 x.1 && inA Fmcd_B11 x.2 && decide ((aI x.1)[3]? = some (1, 12)) && decide ((aI x.1)[4]? = some (11, 11)) && decide ((aI x.1)[5]? = some (0, 5)) && decide ((aI x.1)[6]? = some (0, 5)) && decide ((aI x.1)[7]? = some (0, 9999)) && decide ((lAdd (lSy 3) (lAdd (lSc (-1) (lSy 2)) (lK (-1)))) ∈ aC x.1)) || (inA Fmcd_A12 x.1 && inA Fmcd_B12 x.2 && decide ((aI x.1)[3]? = some (1, 12)) && decide ((lAdd (lSc (-1) (lSy 3)) (lSy 2)) ∈ aC x.1))) = true := by decide +kernel
theorem Fmcd (h : HX ρ σ ty H n) {q : Nat} {l : Nat} (hq : q < n) (hl : l < 12) : (∃ (p27 p28 p29 p30 p31 p32 q42 : Nat), ∃ (z3 z4 z5 z6 z7 : Int), rV H (sR σ 6) q = some (.inr (some (p27))) ∧ rV H (p27) 0 = some (.inr (some (p28))) ∧ rV H (p28) 0 = some (.inr (some (p29))) ∧ rV H (p28) 1 = some (.inr (some (p30))) ∧ rV H (p28) 2 = some (.inr (some (p31))) ∧ rV H (p28) 3 = some (.inr (some (p32))) ∧ rV H (p28) 4 = some (.inl (Int32.ofInt (z3))) ∧ rV H (p29) l = some (.inl (Int32.ofInt (z4))) ∧ rV H (p30) l = some (.inl (Int32.ofInt (z5))) ∧ rV H (p31) l = some (.inl (Int32.ofInt (z6))) ∧ rV H (p32) l = some (.inl (Int32.ofInt (z7))) ∧ rV H (sR σ 43) q = some (.inr (some (q42))) ∧ rV H (q42) (4 * l) = some (.inl (Int32.ofInt (0))) ∧ rV H (q42) (4 * l + 1) = some (.inl (Int32.ofInt (z5))) ∧ ((1 : Int) ≤ z3 ∧ z3 ≤ 12) ∧ ((0 : Int) ≤ z4 ∧ z4 ≤ 0) ∧ ((0 : Int) ≤ z5 ∧ z5 ≤ 5) ∧ ((0 : Int) ≤ z6 ∧ z6 ≤ 5) ∧ ((0 : Int) ≤ z7 ∧ z7 ≤ 9999) ∧ (0 : Int) ≤ (z3 + ((-1) * (l : Int) + (-1)))) ∨ (∃ (p27 p28 p29 p30 p31 p32 q42 : Nat), ∃ (z3 z4 z5 z6 z7 : Int), rV H (sR σ 6) q = some (.inr (some (p27))) ∧ rV H (p27) 0 = some (.inr (some (p28))) ∧ rV H (p28) 0 = some (.inr (some (p29))) ∧ rV H (p28) 1 = some (.inr (some (p30))) ∧ rV H (p28) 2 = some (.inr (some (p31))) ∧ rV H (p28) 3 = some (.inr (some (p32))) ∧ rV H (p28) 4 = some (.inl (Int32.ofInt (z3))) ∧ rV H (p29) l = some (.inl (Int32.ofInt (z4))) ∧ rV H (p30) l = some (.inl (Int32.ofInt (z5))) ∧ rV H (p31) l = some (.inl (Int32.ofInt (z6))) ∧ rV H (p32) l = some (.inl (Int32.ofInt (z7))) ∧ rV H (sR σ 43) q = some (.inr (some (q42))) ∧ rV H (q42) (4 * l) = some (.inl (Int32.ofInt (1))) ∧ rV H (q42) (4 * l + 1) = some (.inl (Int32.ofInt (z5))) ∧ ((1 : Int) ≤ z3 ∧ z3 ≤ 12) ∧ ((1 : Int) ≤ z4 ∧ z4 ≤ 1) ∧ ((0 : Int) ≤ z5 ∧ z5 ≤ 5) ∧ ((0 : Int) ≤ z6 ∧ z6 ≤ 5) ∧ ((0 : Int) ≤ z7 ∧ z7 ≤ 9999) ∧ (0 : Int) ≤ (z3 + ((-1) * (l : Int) + (-1)))) ∨ (∃ (p27 p28 p29 p30 p31 p32 q42 : Nat), ∃ (z3 z4 z5 z6 z7 : Int), rV H (sR σ 6) q = some (.inr (some (p27))) ∧ rV H (p27) 0 = some (.inr (some (p28))) ∧ rV H (p28) 0 = some (.inr (some (p29))) ∧ rV H (p28) 1 = some (.inr (some (p30))) ∧ rV H (p28) 2 = some (.inr (some (p31))) ∧ rV H (p28) 3 = some (.inr (some (p32))) ∧ rV H (p28) 4 = some (.inl (Int32.ofInt (z3))) ∧ rV H (p29) l = some (.inl (Int32.ofInt (z4))) ∧ rV H (p30) l = some (.inl (Int32.ofInt (z5))) ∧ rV H (p31) l = some (.inl (Int32.ofInt (z6))) ∧ rV H (p32) l = some (.inl (Int32.ofInt (z7))) ∧ rV H (sR σ 43) q = some (.inr (some (q42))) ∧ rV H (q42) (4 * l) = some (.inl (Int32.ofInt (2))) ∧ rV H (q42) (4 * l + 1) = some (.inl (Int32.ofInt (z5))) ∧ ((1 : Int) ≤ z3 ∧ z3 ≤ 12) ∧ ((2 : Int) ≤ z4 ∧ z4 ≤ 2) ∧ ((0 : Int) ≤ z5 ∧ z5 ≤ 5) ∧ ((0 : Int) ≤ z6 ∧ z6 ≤ 5) ∧ ((0 : Int) ≤ z7 ∧ z7 ≤ 9999) ∧ (0 : Int) ≤ (z3 + ((-1) * (l : Int) + (-1)))) ∨ (∃ (p27 p28 p29 p30 p31 p32 q42 : Nat), ∃ (z3 z4 z5 z6 z7 : Int), rV H (sR σ 6) q = some (.inr (some (p27))) ∧ rV H (p27) 0 = some (.inr (some (p28))) ∧ rV H (p28) 0 = some (.inr (some (p29))) ∧ rV H (p28) 1 = some (.inr (some (p30))) ∧ rV H (p28) 2 = some (.inr (some (p31))) ∧ rV H (p28) 3 = some (.inr (some (p32))) ∧ rV H (p28) 4 = some (.inl (Int32.ofInt (z3))) ∧ rV H (p29) l = some (.inl (Int32.ofInt (z4))) ∧ rV H (p30) l = some (.inl (Int32.ofInt (z5))) ∧ rV H (p31) l = some (.inl (Int32.ofInt (z6))) ∧ rV H (p32) l = some (.inl (Int32.ofInt (z7))) ∧ rV H (sR σ 43) q = some (.inr (some (q42))) ∧ rV H (q42) (4 * l) = some (.inl (Int32.ofInt (3))) ∧ rV H (q42) (4 * l + 1) = some (.inl (Int32.ofInt (z5))) ∧ rV H (q42) (4 * l + 3) = some (.inl (Int32.ofInt (z7))) ∧ ((1 : Int) ≤ z3 ∧ z3 ≤ 12) ∧ ((3 : Int) ≤ z4 ∧ z4 ≤ 3) ∧ ((0 : Int) ≤ z5 ∧ z5 ≤ 5) ∧ ((0 : Int) ≤ z6 ∧ z6 ≤ 5) ∧ ((0 : Int) ≤ z7 ∧ z7 ≤ 9999) ∧ (0 : Int) ≤ (z3 + ((-1) * (l : Int) + (-1)))) ∨ (∃ (p27 p28 p29 p30 p31 p32 q42 : Nat), ∃ (z3 z4 z5 z6 z7 : Int), rV H (sR σ 6) q = some (.inr (some (p27))) ∧ rV H (p27) 0 = some (.inr (some (p28))) ∧ rV H (p28) 0 = some (.inr (some (p29))) ∧ rV H (p28) 1 = some (.inr (some (p30))) ∧ rV H (p28) 2 = some (.inr (some (p31))) ∧ rV H (p28) 3 = some (.inr (some (p32))) ∧ rV H (p28) 4 = some (.inl (Int32.ofInt (z3))) ∧ rV H (p29) l = some (.inl (Int32.ofInt (z4))) ∧ rV H (p30) l = some (.inl (Int32.ofInt (z5))) ∧ rV H (p31) l = some (.inl (Int32.ofInt (z6))) ∧ rV H (p32) l = some (.inl (Int32.ofInt (z7))) ∧ rV H (sR σ 43) q = some (.inr (some (q42))) ∧ rV H (q42) (4 * l) = some (.inl (Int32.ofInt (4))) ∧ rV H (q42) (4 * l + 1) = some (.inl (Int32.ofInt (z5))) ∧ rV H (q42) (4 * l + 2) = some (.inl (Int32.ofInt (z6))) ∧ ((1 : Int) ≤ z3 ∧ z3 ≤ 12) ∧ ((4 : Int) ≤ z4 ∧ z4 ≤ 4) ∧ ((0 : Int) ≤ z5 ∧ z5 ≤ 5) ∧ ((0 : Int) ≤ z6 ∧ z6 ≤ 5) ∧ ((0 : Int) ≤ z7 ∧ z7 ≤ 9999) ∧ (0 : Int) ≤ (z3 + ((-1) * (l : Int) + (-1)))) ∨ (∃ (p27 p28 p29 p30 p31 p32 q42 : Nat), ∃ (z3 z4 z5 z6 z7 : Int), rV H (sR σ 6) q = some (.inr (some (p27))) ∧ rV H (p27) 0 = some (.inr (some (p28))) ∧ rV H (p28) 0 = some (.inr (some (p29))) ∧ rV H (p28) 1 = some (.inr (some (p30))) ∧ rV H (p28) 2 = some (.inr (some (p31))) ∧ rV H (p28) 3 = some (.inr (some (p32))) ∧ rV H (p28) 4 = some (.inl (Int32.ofInt (z3))) ∧ rV H (p29) l = some (.inl (Int32.ofInt (z4))) ∧ rV H (p30) l = some (.inl (Int32.ofInt (z5))) ∧ rV H (p31) l = some (.inl (Int32.ofInt (z6))) ∧ rV H (p32) l = some (.inl (Int32.ofInt (z7))) ∧ rV H (sR σ 43) q = some (.inr (some (q42))) ∧ rV H (q42) (4 * l) = some (.inl (Int32.ofInt (5))) ∧ rV H (q42) (4 * l + 1) = some (.inl (Int32.ofInt (z5))) ∧ rV H (q42) (4 * l + 2) = some (.inl (Int32.ofInt (z6))) ∧ ((1 : Int) ≤ z3 ∧ z3 ≤ 12) ∧ ((5 : Int) ≤ z4 ∧ z4 ≤ 5) ∧ ((0 : Int) ≤ z5 ∧ z5 ≤ 5) ∧ ((0 : Int) ≤ z6 ∧ z6 ≤ 5) ∧ ((0 : Int) ≤ z7 ∧ z7 ≤ 9999) ∧ (0 : Int) ≤ (z3 + ((-1) * (l : Int) + (-1)))) ∨ (∃ (p27 p28 p29 p30 p31 p32 q42 : Nat), ∃ (z3 z4 z5 z6 z7 : Int), rV H (sR σ 6) q = some (.inr (some (p27))) ∧ rV H (p27) 0 = some (.inr (some (p28))) ∧ rV H (p28) 0 = some (.inr (some (p29))) ∧ rV H (p28) 1 = some (.inr (some (p30))) ∧ rV H (p28) 2 = some (.inr (some (p31))) ∧ rV H (p28) 3 = some (.inr (some (p32))) ∧ rV H (p28) 4 = some (.inl (Int32.ofInt (z3))) ∧ rV H (p29) l = some (.inl (Int32.ofInt (z4))) ∧ rV H (p30) l = some (.inl (Int32.ofInt (z5))) ∧ rV H (p31) l = some (.inl (Int32.ofInt (z6))) ∧ rV H (p32) l = some (.inl (Int32.ofInt (z7))) ∧ rV H (sR σ 43) q = some (.inr (some (q42))) ∧ rV H (q42) (4 * l) = some (.inl (Int32.ofInt (6))) ∧ rV H (q42) (4 * l + 1) = some (.inl (Int32.ofInt (z5))) ∧ rV H (q42) (4 * l + 2) = some (.inl (Int32.ofInt (z6))) ∧ ((1 : Int) ≤ z3 ∧ z3 ≤ 12) ∧ ((6 : Int) ≤ z4 ∧ z4 ≤ 6) ∧ ((0 : Int) ≤ z5 ∧ z5 ≤ 5) ∧ ((0 : Int) ≤ z6 ∧ z6 ≤ 5) ∧ ((0 : Int) ≤ z7 ∧ z7 ≤ 9999) ∧ (0 : Int) ≤ (z3 + ((-1) * (l : Int) + (-1)))) ∨ (∃ (p27 p28 p29 p30 p31 p32 q42 : Nat), ∃ (z3 z4 z5 z6 z7 : Int), rV H (sR σ 6) q = some (.inr (some (p27))) ∧ rV H (p27) 0 = some (.inr (some (p28))) ∧ rV H (p28) 0 = some (.inr (some (p29))) ∧ rV H (p28) 1 = some (.inr (some (p30))) ∧ rV H (p28) 2 = some (.inr (some (p31))) ∧ rV H (p28) 3 = some (.inr (some (p32))) ∧ rV H (p28) 4 = some (.inl (Int32.ofInt (z3))) ∧ rV H (p29) l = some (.inl (Int32.ofInt (z4))) ∧ rV H (p30) l = some (.inl (Int32.ofInt (z5))) ∧ rV H (p31) l = some (.inl (Int32.ofInt (z6))) ∧ rV H (p32) l = some (.inl (Int32.ofInt (z7))) ∧ rV H (sR σ 43) q = some (.inr (some (q42))) ∧ rV H (q42) (4 * l) = some (.inl (Int32.ofInt (7))) ∧ rV H (q42) (4 * l + 1) = some (.inl (Int32.ofInt (z5))) ∧ rV H (q42) (4 * l + 2) = some (.inl (Int32.ofInt (z6))) ∧ rV H (q42) (4 * l + 3) = some (.inl (Int32.ofInt (z7))) ∧ ((1 : Int) ≤ z3 ∧ z3 ≤ 12) ∧ ((7 : Int) ≤ z4 ∧ z4 ≤ 7) ∧ ((0 : Int) ≤ z5 ∧ z5 ≤ 5) ∧ ((0 : Int) ≤ z6 ∧ z6 ≤ 5) ∧ ((0 : Int) ≤ z7 ∧ z7 ≤ 9999) ∧ (0 : Int) ≤ (z3 + ((-1) * (l : Int) + (-1)))) ∨ (∃ (p27 p28 p29 p30 p31 p32 q42 : Nat), ∃ (z3 z4 z5 z6 z7 : Int), rV H (sR σ 6) q = some (.inr (some (p27))) ∧ rV H (p27) 0 = some (.inr (some (p28))) ∧ rV H (p28) 0 = some (.inr (some (p29))) ∧ rV H (p28) 1 = some (.inr (some (p30))) ∧ rV H (p28) 2 = some (.inr (some (p31))) ∧ rV H (p28) 3 = some (.inr (some (p32))) ∧ rV H (p28) 4 = some (.inl (Int32.ofInt (z3))) ∧ rV H (p29) l = some (.inl (Int32.ofInt (z4))) ∧ rV H (p30) l = some (.inl (Int32.ofInt (z5))) ∧ rV H (p31) l = some (.inl (Int32.ofInt (z6))) ∧ rV H (p32) l = some (.inl (Int32.ofInt (z7))) ∧ rV H (sR σ 43) q = some (.inr (some (q42))) ∧ rV H (q42) (4 * l) = some (.inl (Int32.ofInt (9))) ∧ rV H (q42) (4 * l + 1) = some (.inl (Int32.ofInt (z5))) ∧ rV H (q42) (4 * l + 3) = some (.inl (Int32.ofInt (z7))) ∧ ((1 : Int) ≤ z3 ∧ z3 ≤ 12) ∧ ((8 : Int) ≤ z4 ∧ z4 ≤ 8) ∧ ((0 : Int) ≤ z5 ∧ z5 ≤ 5) ∧ ((0 : Int) ≤ z6 ∧ z6 ≤ 5) ∧ ((0 : Int) ≤ z7 ∧ z7 ≤ 9999) ∧ (0 : Int) ≤ (z3 + ((-1) * (l : Int) + (-1)))) ∨ (∃ (p27 p28 p29 p30 p31 p32 q42 : Nat), ∃ (z3 z4 z5 z6 z7 : Int), rV H (sR σ 6) q = some (.inr (some (p27))) ∧ rV H (p27) 0 = some (.inr (some (p28))) ∧ rV H (p28) 0 = some (.inr (some (p29))) ∧ rV H (p28) 1 = some (.inr (some (p30))) ∧ rV H (p28) 2 = some (.inr (some (p31))) ∧ rV H (p28) 3 = some (.inr (some (p32))) ∧ rV H (p28) 4 = some (.inl (Int32.ofInt (z3))) ∧ rV H (p29) l = some (.inl (Int32.ofInt (z4))) ∧ rV H (p30) l = some (.inl (Int32.ofInt (z5))) ∧ rV H (p31) l = some (.inl (Int32.ofInt (z6))) ∧ rV H (p32) l = some (.inl (Int32.ofInt (z7))) ∧ rV H (sR σ 43) q = some (.inr (some (q42))) ∧ rV H (q42) (4 * l) = some (.inl (Int32.ofInt (10))) ∧ rV H (q42) (4 * l + 3) = some (.inl (Int32.ofInt (z7))) ∧ ((1 : Int) ≤ z3 ∧ z3 ≤ 12) ∧ ((9 : Int) ≤ z4 ∧ z4 ≤ 9) ∧ ((0 : Int) ≤ z5 ∧ z5 ≤ 5) ∧ ((0 : Int) ≤ z6 ∧ z6 ≤ 5) ∧ ((0 : Int) ≤ z7 ∧ z7 ≤ 9999) ∧ (0 : Int) ≤ (z3 + ((-1) * (l : Int) + (-1)))) ∨ (∃ (p27 p28 p29 p30 p31 p32 q42 : Nat), ∃ (z3 z4 z5 z6 z7 : Int), rV H (sR σ 6) q = some (.inr (some (p27))) ∧ rV H (p27) 0 = some (.inr (some (p28))) ∧ rV H (p28) 0 = some (.inr (some (p29))) ∧ rV H (p28) 1 = some (.inr (some (p30))) ∧ rV H (p28) 2 = some (.inr (some (p31))) ∧ rV H (p28) 3 = some (.inr (some (p32))) ∧ rV H (p28) 4 = some (.inl (Int32.ofInt (z3))) ∧ rV H (p29) l = some (.inl (Int32.ofInt (z4))) ∧ rV H (p30) l = some (.inl (Int32.ofInt (z5))) ∧ rV H (p31) l = some (.inl (Int32.ofInt (z6))) ∧ rV H (p32) l = some (.inl (Int32.ofInt (z7))) ∧ rV H (sR σ 43) q = some (.inr (some (q42))) ∧ rV H (q42) (4 * l) = some (.inl (Int32.ofInt (11))) ∧ ((1 : Int) ≤ z3 ∧ z3 ≤ 12) ∧ ((10 : Int) ≤ z4 ∧ z4 ≤ 10) ∧ ((0 : Int) ≤ z5 ∧ z5 ≤ 5) ∧ ((0 : Int) ≤ z6 ∧ z6 ≤ 5) ∧ ((0 : Int) ≤ z7 ∧ z7 ≤ 9999) ∧ (0 : Int) ≤ (z3 + ((-1) * (l : Int) + (-1)))) ∨ (∃ (p27 p28 p29 p30 p31 p32 q42 : Nat), ∃ (z3 z4 z5 z6 z7 : Int), rV H (sR σ 6) q = some (.inr (some (p27))) ∧ rV H (p27) 0 = some (.inr (some (p28))) ∧ rV H (p28) 0 = some (.inr (some (p29))) ∧ rV H (p28) 1 = some (.inr (some (p30))) ∧ rV H (p28) 2 = some (.inr (some (p31))) ∧ rV H (p28) 3 = some (.inr (some (p32))) ∧ rV H (p28) 4 = some (.inl (Int32.ofInt (z3))) ∧ rV H (p29) l = some (.inl (Int32.ofInt (z4))) ∧ rV H (p30) l = some (.inl (Int32.ofInt (z5))) ∧ rV H (p31) l = some (.inl (Int32.ofInt (z6))) ∧ rV H (p32) l = some (.inl (Int32.ofInt (z7))) ∧ rV H (sR σ 43) q = some (.inr (some (q42))) ∧ rV H (q42) (4 * l) = some (.inl (Int32.ofInt (8))) ∧ rV H (q42) (4 * l + 1) = some (.inl (Int32.ofInt (z5))) ∧ rV H (q42) (4 * l + 2) = some (.inl (Int32.ofInt (z6))) ∧ rV H (q42) (4 * l + 3) = some (.inl (Int32.ofInt (z7))) ∧ ((1 : Int) ≤ z3 ∧ z3 ≤ 12) ∧ ((11 : Int) ≤ z4 ∧ z4 ≤ 11) ∧ ((0 : Int) ≤ z5 ∧ z5 ≤ 5) ∧ ((0 : Int) ≤ z6 ∧ z6 ≤ 5) ∧ ((0 : Int) ≤ z7 ∧ z7 ≤ 9999) ∧ (0 : Int) ≤ (z3 + ((-1) * (l : Int) + (-1)))) ∨ (∃ (p27 p28 : Nat), ∃ (z3 : Int), rV H (sR σ 6) q = some (.inr (some (p27))) ∧ rV H (p27) 0 = some (.inr (some (p28))) ∧ rV H (p28) 4 = some (.inl (Int32.ofInt (z3))) ∧ ((1 : Int) ≤ z3 ∧ z3 ≤ 12) ∧ (0 : Int) ≤ ((-1) * z3 + (l : Int))) := by
  have hn := HX_12 h
  have hw := h.2.1 lwF1 (List.mem_of_getElem? (i := 1) rfl) (evL [(n : Int), (q : Int), (l : Int)]) (pin_of h rfl) (fun j p hj => by
    rcases j with _ | _ | j
    · cases hj
      exact ⟨show (0 : Int) ≤ (q : Int) by omega, show (q : Int) ≤ 11 by omega⟩
    · cases hj
      exact ⟨show (0 : Int) ≤ (l : Int) by omega, show (l : Int) ≤ 11 by omega⟩
    · cases hj) (fun c hc => by
    have hc : c ∈ [(lAdd (lSc (-1) (lSy 1)) (lAdd (lSy 0) (lK (-1))))] := hc
    simp only [List.mem_cons, List.not_mem_nil, or_false] at hc
    rcases hc with rfl
    · simp only [lAdd_ev, lSc_ev, lSy_ev, lK_ev]
      show (0 : Int) ≤ ((-1) * (q : Int) + ((n : Int) + (-1)))
      omega)
  obtain ⟨x, hx, ρ2, σA, σB, e1, e2, e3, n1, n2, n3, n4⟩ := hw
  have r0 : ρ2 0 = (n : Int) := e1 0 (by decide +kernel)
  have r1 : ρ2 1 = (q : Int) := e1 1 (by decide +kernel)
  have r2 : ρ2 2 = (l : Int) := e1 2 (by decide +kernel)
  have kk := List.all_eq_true.mp Fmcd_ok x hx
  simp only [Bool.or_eq_true] at kk
  rcases kk with (((((((((((kk | kk) | kk) | kk) | kk) | kk) | kk) | kk) | kk) | kk) | kk) | kk) | kk
  · simp only [Bool.and_eq_true] at kk
    obtain ⟨⟨⟨⟨⟨⟨⟨k0, k1⟩, k2⟩, k3⟩, k4⟩, k5⟩, k6⟩, k7⟩ := kk
    have f0 := fE (n1 _ (inA_at k0 (f := (3, .inr (lSy 1), .inr (some 27))) (mK_at (by decide +kernel)))) (j := q) ((lSy_ev _ _).trans r1)
    rw [sAx e2 (i := 3) (j := 6) (by decide +kernel) rfl (by decide)] at f0
    have f1 := fO (n1 _ (inA_at k0 (f := (27, .inl 0, .inr (some 28))) (mK_at (by decide +kernel))))
    have f2 := fO (n1 _ (inA_at k0 (f := (28, .inl 0, .inr (some 29))) (mK_at (by decide +kernel))))
    have f3 := fO (n1 _ (inA_at k0 (f := (28, .inl 1, .inr (some 30))) (mK_at (by decide +kernel))))
    have f4 := fO (n1 _ (inA_at k0 (f := (28, .inl 2, .inr (some 31))) (mK_at (by decide +kernel))))
    have f5 := fO (n1 _ (inA_at k0 (f := (28, .inl 3, .inr (some 32))) (mK_at (by decide +kernel))))
    have f6 := fI (n1 _ (inA_at k0 (f := (28, .inl 4, .inl (lSy 3))) (mK_at (by decide +kernel))))
    simp only [lAdd_ev, lSc_ev, lSy_ev, lK_ev, r0, r1, r2] at f6
    have f7 := fJ (n1 _ (inA_at k0 (f := (29, .inr (lSy 2), .inl (lSy 4))) (mK_at (by decide +kernel)))) (j := l) ((lSy_ev _ _).trans r2)
    simp only [lAdd_ev, lSc_ev, lSy_ev, lK_ev, r0, r1, r2] at f7
    have f8 := fJ (n1 _ (inA_at k0 (f := (30, .inr (lSy 2), .inl (lSy 5))) (mK_at (by decide +kernel)))) (j := l) ((lSy_ev _ _).trans r2)
    simp only [lAdd_ev, lSc_ev, lSy_ev, lK_ev, r0, r1, r2] at f8
    have f9 := fJ (n1 _ (inA_at k0 (f := (31, .inr (lSy 2), .inl (lSy 6))) (mK_at (by decide +kernel)))) (j := l) ((lSy_ev _ _).trans r2)
    simp only [lAdd_ev, lSc_ev, lSy_ev, lK_ev, r0, r1, r2] at f9
    have f10 := fJ (n1 _ (inA_at k0 (f := (32, .inr (lSy 2), .inl (lSy 7))) (mK_at (by decide +kernel)))) (j := l) ((lSy_ev _ _).trans r2)
    simp only [lAdd_ev, lSc_ev, lSy_ev, lK_ev, r0, r1, r2] at f10
    have f11 := fE (n2 _ (inA_at k1 (f := (19, .inr (lSy 1), .inr (some 42))) (mK_at (by decide +kernel)))) (j := q) ((lSy_ev _ _).trans r1)
    rw [sAx e3 (i := 19) (j := 43) (by decide +kernel) rfl (by decide)] at f11
    have f12 := fJ (n2 _ (inA_at k1 (f := (42, .inr (lSc 4 (lSy 2)), .inl (lK 0))) (mK_at (by decide +kernel)))) (j := 4 * l) (by simp only [lAdd_ev, lSc_ev, lSy_ev, lK_ev, r0, r1, r2]; omega)
    simp only [lAdd_ev, lSc_ev, lSy_ev, lK_ev, r0, r1, r2] at f12
    have f13 := fJ (n2 _ (inA_at k1 (f := (42, .inr (lAdd (lSc 4 (lSy 2)) (lK 1)), .inl (lSy 5))) (mK_at (by decide +kernel)))) (j := (4 * l + 1)) (by simp only [lAdd_ev, lSc_ev, lSy_ev, lK_ev, r0, r1, r2]; omega)
    simp only [lAdd_ev, lSc_ev, lSy_ev, lK_ev, r0, r1, r2] at f13
    have b3 : (1 : Int) ≤ ρ2 3 ∧ ρ2 3 ≤ 12 := by
      have := zipI_spec.mp n3 3 _ (of_decide_eq_true k2)
      simpa using this
    have b4 : (0 : Int) ≤ ρ2 4 ∧ ρ2 4 ≤ 0 := by
      have := zipI_spec.mp n3 4 _ (of_decide_eq_true k3)
      simpa using this
    have b5 : (0 : Int) ≤ ρ2 5 ∧ ρ2 5 ≤ 5 := by
      have := zipI_spec.mp n3 5 _ (of_decide_eq_true k4)
      simpa using this
    have b6 : (0 : Int) ≤ ρ2 6 ∧ ρ2 6 ≤ 5 := by
      have := zipI_spec.mp n3 6 _ (of_decide_eq_true k5)
      simpa using this
    have b7 : (0 : Int) ≤ ρ2 7 ∧ ρ2 7 ≤ 9999 := by
      have := zipI_spec.mp n3 7 _ (of_decide_eq_true k6)
      simpa using this
    have c0 := n4 _ (of_decide_eq_true k7)
    simp only [lAdd_ev, lSc_ev, lSy_ev, lK_ev, r0, r1, r2] at c0
    exact Or.inl ⟨_, _, _, _, _, _, _, ρ2 3, ρ2 4, ρ2 5, ρ2 6, ρ2 7, f0, f1, f2, f3, f4, f5, f6, f7, f8, f9, f10, f11, f12, f13, b3, b4, b5, b6, b7, c0⟩
  · simp only [Bool.and_eq_true] at kk
    obtain ⟨⟨⟨⟨⟨⟨⟨k0, k1⟩, k2⟩, k3⟩, k4⟩, k5⟩, k6⟩, k7⟩ := kk
    have f0 := fE (n1 _ (inA_at k0 (f := (3, .inr (lSy 1), .inr (some 27))) (mK_at (by decide +kernel)))) (j := q) ((lSy_ev _ _).trans r1)
    rw [sAx e2 (i := 3) (j := 6) (by decide +kernel) rfl (by decide)] at f0
    have f1 := fO (n1 _ (inA_at k0 (f := (27, .inl 0, .inr (some 28))) (mK_at (by decide +kernel))))
    have f2 := fO (n1 _ (inA_at k0 (f := (28, .inl 0, .inr (some 29))) (mK_at (by decide +kernel))))
    have f3 := fO (n1 _ (inA_at k0 (f := (28, .inl 1, .inr (some 30))) (mK_at (by decide +kernel))))
    have f4 := fO (n1 _ (inA_at k0 (f := (28, .inl 2, .inr (some 31))) (mK_at (by decide +kernel))))
    have f5 := fO (n1 _ (inA_at k0 (f := (28, .inl 3, .inr (some 32))) (mK_at (by decide +kernel))))
    have f6 := fI (n1 _ (inA_at k0 (f := (28, .inl 4, .inl (lSy 3))) (mK_at (by decide +kernel))))
    simp only [lAdd_ev, lSc_ev, lSy_ev, lK_ev, r0, r1, r2] at f6
    have f7 := fJ (n1 _ (inA_at k0 (f := (29, .inr (lSy 2), .inl (lSy 4))) (mK_at (by decide +kernel)))) (j := l) ((lSy_ev _ _).trans r2)
    simp only [lAdd_ev, lSc_ev, lSy_ev, lK_ev, r0, r1, r2] at f7
    have f8 := fJ (n1 _ (inA_at k0 (f := (30, .inr (lSy 2), .inl (lSy 5))) (mK_at (by decide +kernel)))) (j := l) ((lSy_ev _ _).trans r2)
    simp only [lAdd_ev, lSc_ev, lSy_ev, lK_ev, r0, r1, r2] at f8
    have f9 := fJ (n1 _ (inA_at k0 (f := (31, .inr (lSy 2), .inl (lSy 6))) (mK_at (by decide +kernel)))) (j := l) ((lSy_ev _ _).trans r2)
    simp only [lAdd_ev, lSc_ev, lSy_ev, lK_ev, r0, r1, r2] at f9
    have f10 := fJ (n1 _ (inA_at k0 (f := (32, .inr (lSy 2), .inl (lSy 7))) (mK_at (by decide +kernel)))) (j := l) ((lSy_ev _ _).trans r2)
    simp only [lAdd_ev, lSc_ev, lSy_ev, lK_ev, r0, r1, r2] at f10
    have f11 := fE (n2 _ (inA_at k1 (f := (19, .inr (lSy 1), .inr (some 42))) (mK_at (by decide +kernel)))) (j := q) ((lSy_ev _ _).trans r1)
    rw [sAx e3 (i := 19) (j := 43) (by decide +kernel) rfl (by decide)] at f11
    have f12 := fJ (n2 _ (inA_at k1 (f := (42, .inr (lSc 4 (lSy 2)), .inl (lK 1))) (mK_at (by decide +kernel)))) (j := 4 * l) (by simp only [lAdd_ev, lSc_ev, lSy_ev, lK_ev, r0, r1, r2]; omega)
    simp only [lAdd_ev, lSc_ev, lSy_ev, lK_ev, r0, r1, r2] at f12
    have f13 := fJ (n2 _ (inA_at k1 (f := (42, .inr (lAdd (lSc 4 (lSy 2)) (lK 1)), .inl (lSy 5))) (mK_at (by decide +kernel)))) (j := (4 * l + 1)) (by simp only [lAdd_ev, lSc_ev, lSy_ev, lK_ev, r0, r1, r2]; omega)
    simp only [lAdd_ev, lSc_ev, lSy_ev, lK_ev, r0, r1, r2] at f13
    have b3 : (1 : Int) ≤ ρ2 3 ∧ ρ2 3 ≤ 12 := by
      have := zipI_spec.mp n3 3 _ (of_decide_eq_true k2)
      simpa using this
    have b4 : (1 : Int) ≤ ρ2 4 ∧ ρ2 4 ≤ 1 := by
      have := zipI_spec.mp n3 4 _ (of_decide_eq_true k3)
      simpa using this
    have b5 : (0 : Int) ≤ ρ2 5 ∧ ρ2 5 ≤ 5 := by
      have := zipI_spec.mp n3 5 _ (of_decide_eq_true k4)
      simpa using this
    have b6 : (0 : Int) ≤ ρ2 6 ∧ ρ2 6 ≤ 5 := by
      have := zipI_spec.mp n3 6 _ (of_decide_eq_true k5)
      simpa using this
    have b7 : (0 : Int) ≤ ρ2 7 ∧ ρ2 7 ≤ 9999 := by
      have := zipI_spec.mp n3 7 _ (of_decide_eq_true k6)
      simpa using this
    have c0 := n4 _ (of_decide_eq_true k7)
    simp only [lAdd_ev, lSc_ev, lSy_ev, lK_ev, r0, r1, r2] at c0
    exact Or.inr (Or.inl ⟨_, _, _, _, _, _, _, ρ2 3, ρ2 4, ρ2 5, ρ2 6, ρ2 7, f0, f1, f2, f3, f4, f5, f6, f7, f8, f9, f10, f11, f12, f13, b3, b4, b5, b6, b7, c0⟩)
  · simp only [Bool.and_eq_true] at kk
    obtain ⟨⟨⟨⟨⟨⟨⟨k0, k1⟩, k2⟩, k3⟩, k4⟩, k5⟩, k6⟩, k7⟩ := kk
    have f0 := fE (n1 _ (inA_at k0 (f := (3, .inr (lSy 1), .inr (some 27))) (mK_at (by decide +kernel)))) (j := q) ((lSy_ev _ _).trans r1)
    rw [sAx e2 (i := 3) (j := 6) (by decide +kernel) rfl (by decide)] at f0
    have f1 := fO (n1 _ (inA_at k0 (f := (27, .inl 0, .inr (some 28))) (mK_at (by decide +kernel))))
    have f2 := fO (n1 _ (inA_at k0 (f := (28, .inl 0, .inr (some 29))) (mK_at (by decide +kernel))))
    have f3 := fO (n1 _ (inA_at k0 (f := (28, .inl 1, .inr (some 30))) (mK_at (by decide +kernel))))
    have f4 := fO (n1 _ (inA_at k0 (f := (28, .inl 2, .inr (some 31))) (mK_at (by decide +kernel))))
    have f5 := fO (n1 _ (inA_at k0 (f := (28, .inl 3, .inr (some 32))) (mK_at (by decide +kernel))))
    have f6 := fI (n1 _ (inA_at k0 (f := (28, .inl 4, .inl (lSy 3))) (mK_at (by decide +kernel))))
    simp only [lAdd_ev, lSc_ev, lSy_ev, lK_ev, r0, r1, r2] at f6
    have f7 := fJ (n1 _ (inA_at k0 (f := (29, .inr (lSy 2), .inl (lSy 4))) (mK_at (by decide +kernel)))) (j := l) ((lSy_ev _ _).trans r2)
    simp only [lAdd_ev, lSc_ev, lSy_ev, lK_ev, r0, r1, r2] at f7
    have f8 := fJ (n1 _ (inA_at k0 (f := (30, .inr (lSy 2), .inl (lSy 5))) (mK_at (by decide +kernel)))) (j := l) ((lSy_ev _ _).trans r2)
    simp only [lAdd_ev, lSc_ev, lSy_ev, lK_ev, r0, r1, r2] at f8
    have f9 := fJ (n1 _ (inA_at k0 (f := (31, .inr (lSy 2), .inl (lSy 6))) (mK_at (by decide +kernel)))) (j := l) ((lSy_ev _ _).trans r2)
    simp only [lAdd_ev, lSc_ev, lSy_ev, lK_ev, r0, r1, r2] at f9
    have f10 := fJ (n1 _ (inA_at k0 (f := (32, .inr (lSy 2), .inl (lSy 7))) (mK_at (by decide +kernel)))) (j := l) ((lSy_ev _ _).trans r2)
    simp only [lAdd_ev, lSc_ev, lSy_ev, lK_ev, r0, r1, r2] at f10
    have f11 := fE (n2 _ (inA_at k1 (f := (19, .inr (lSy 1), .inr (some 42))) (mK_at (by decide +kernel)))) (j := q) ((lSy_ev _ _).trans r1)
    rw [sAx e3 (i := 19) (j := 43) (by decide +kernel) rfl (by decide)] at f11
    have f12 := fJ (n2 _ (inA_at k1 (f := (42, .inr (lSc 4 (lSy 2)), .inl (lK 2))) (mK_at (by decide +kernel)))) (j := 4 * l) (by simp only [lAdd_ev, lSc_ev, lSy_ev, lK_ev, r0, r1, r2]; omega)
    simp only [lAdd_ev, lSc_ev, lSy_ev, lK_ev, r0, r1, r2] at f12
    have f13 := fJ (n2 _ (inA_at k1 (f := (42, .inr (lAdd (lSc 4 (lSy 2)) (lK 1)), .inl (lSy 5))) (mK_at (by decide +kernel)))) (j := (4 * l + 1)) (by simp only [lAdd_ev, lSc_ev, lSy_ev, lK_ev, r0, r1, r2]; omega)
    simp only [lAdd_ev, lSc_ev, lSy_ev, lK_ev, r0, r1, r2] at f13
    have b3 : (1 : Int) ≤ ρ2 3 ∧ ρ2 3 ≤ 12 := by
      have := zipI_spec.mp n3 3 _ (of_decide_eq_true k2)
      simpa using this
    have b4 : (2 : Int) ≤ ρ2 4 ∧ ρ2 4 ≤ 2 := by
      have := zipI_spec.mp n3 4 _ (of_decide_eq_true k3)
      simpa using this
    have b5 : (0 : Int) ≤ ρ2 5 ∧ ρ2 5 ≤ 5 := by
      have := zipI_spec.mp n3 5 _ (of_decide_eq_true k4)
      simpa using this
    have b6 : (0 : Int) ≤ ρ2 6 ∧ ρ2 6 ≤ 5 := by
      have := zipI_spec.mp n3 6 _ (of_decide_eq_true k5)
      simpa using this
    have b7 : (0 : Int) ≤ ρ2 7 ∧ ρ2 7 ≤ 9999 := by
      have := zipI_spec.mp n3 7 _ (of_decide_eq_true k6)
      simpa using this
    have c0 := n4 _ (of_decide_eq_true k7)
    simp only [lAdd_ev, lSc_ev, lSy_ev, lK_ev, r0, r1, r2] at c0
    exact Or.inr (Or.inr (Or.inl ⟨_, _, _, _, _, _, _, ρ2 3, ρ2 4, ρ2 5, ρ2 6, ρ2 7, f0, f1, f2, f3, f4, f5, f6, f7, f8, f9, f10, f11, f12, f13, b3, b4, b5, b6, b7, c0⟩))
  · simp only [Bool.and_eq_true] at kk
    obtain ⟨⟨⟨⟨⟨⟨⟨k0, k1⟩, k2⟩, k3⟩, k4⟩, k5⟩, k6⟩, k7⟩ := kk
    have f0 := fE (n1 _ (inA_at k0 (f := (3, .inr (lSy 1), .inr (some 27))) (mK_at (by decide +kernel)))) (j := q) ((lSy_ev _ _).trans r1)
    rw [sAx e2 (i := 3) (j := 6) (by decide +kernel) rfl (by decide)] at f0
    have f1 := fO (n1 _ (inA_at k0 (f := (27, .inl 0, .inr (some 28))) (mK_at (by decide +kernel))))
    have f2 := fO (n1 _ (inA_at k0 (f := (28, .inl 0, .inr (some 29))) (mK_at (by decide +kernel))))
    have f3 := fO (n1 _ (inA_at k0 (f := (28, .inl 1, .inr (some 30))) (mK_at (by decide +kernel))))
    have f4 := fO (n1 _ (inA_at k0 (f := (28, .inl 2, .inr (some 31))) (mK_at (by decide +kernel))))
    have f5 := fO (n1 _ (inA_at k0 (f := (28, .inl 3, .inr (some 32))) (mK_at (by decide +kernel))))
    have f6 := fI (n1 _ (inA_at k0 (f := (28, .inl 4, .inl (lSy 3))) (mK_at (by decide +kernel))))
    simp only [lAdd_ev, lSc_ev, lSy_ev, lK_ev, r0, r1, r2] at f6
    have f7 := fJ (n1 _ (inA_at k0 (f := (29, .inr (lSy 2), .inl (lSy 4))) (mK_at (by decide +kernel)))) (j := l) ((lSy_ev _ _).trans r2)
    simp only [lAdd_ev, lSc_ev, lSy_ev, lK_ev, r0, r1, r2] at f7
    have f8 := fJ (n1 _ (inA_at k0 (f := (30, .inr (lSy 2), .inl (lSy 5))) (mK_at (by decide +kernel)))) (j := l) ((lSy_ev _ _).trans r2)
    simp only [lAdd_ev, lSc_ev, lSy_ev, lK_ev, r0, r1, r2] at f8
    have f9 := fJ (n1 _ (inA_at k0 (f := (31, .inr (lSy 2), .inl (lSy 6))) (mK_at (by decide +kernel)))) (j := l) ((lSy_ev _ _).trans r2)
    simp only [lAdd_ev, lSc_ev, lSy_ev, lK_ev, r0, r1, r2] at f9
    have f10 := fJ (n1 _ (inA_at k0 (f := (32, .inr (lSy 2), .inl (lSy 7))) (mK_at (by decide +kernel)))) (j := l) ((lSy_ev _ _).trans r2)
    simp only [lAdd_ev, lSc_ev, lSy_ev, lK_ev, r0, r1, r2] at f10
    have f11 := fE (n2 _ (inA_at k1 (f := (19, .inr (lSy 1), .inr (some 42))) (mK_at (by decide +kernel)))) (j := q) ((lSy_ev _ _).trans r1)
    rw [sAx e3 (i := 19) (j := 43) (by decide +kernel) rfl (by decide)] at f11
    have f12 := fJ (n2 _ (inA_at k1 (f := (42, .inr (lSc 4 (lSy 2)), .inl (lK 3))) (mK_at (by decide +kernel)))) (j := 4 * l) (by simp only [lAdd_ev, lSc_ev, lSy_ev, lK_ev, r0, r1, r2]; omega)
    simp only [lAdd_ev, lSc_ev, lSy_ev, lK_ev, r0, r1, r2] at f12
    have f13 := fJ (n2 _ (inA_at k1 (f := (42, .inr (lAdd (lSc 4 (lSy 2)) (lK 1)), .inl (lSy 5))) (mK_at (by decide +kernel)))) (j := (4 * l + 1)) (by simp only [lAdd_ev, lSc_ev, lSy_ev, lK_ev, r0, r1, r2]; omega)
    simp only [lAdd_ev, lSc_ev, lSy_ev, lK_ev, r0, r1, r2] at f13
    have f14 := fJ (n2 _ (inA_at k1 (f := (42, .inr (lAdd (lSc 4 (lSy 2)) (lK 3)), .inl (lSy 7))) (mK_at (by decide +kernel)))) (j := (4 * l + 3)) (by simp only [lAdd_ev, lSc_ev, lSy_ev, lK_ev, r0, r1, r2]; omega)
    simp only [lAdd_ev, lSc_ev, lSy_ev, lK_ev, r0, r1, r2] at f14
    have b3 : (1 : Int) ≤ ρ2 3 ∧ ρ2 3 ≤ 12 := by
      have := zipI_spec.mp n3 3 _ (of_decide_eq_true k2)
      simpa using this
    have b4 : (3 : Int) ≤ ρ2 4 ∧ ρ2 4 ≤ 3 := by
      have := zipI_spec.mp n3 4 _ (of_decide_eq_true k3)
      simpa using this
    have b5 : (0 : Int) ≤ ρ2 5 ∧ ρ2 5 ≤ 5 := by
      have := zipI_spec.mp n3 5 _ (of_decide_eq_true k4)
      simpa using this
    have b6 : (0 : Int) ≤ ρ2 6 ∧ ρ2 6 ≤ 5 := by
      have := zipI_spec.mp n3 6 _ (of_decide_eq_true k5)
      simpa using this
    have b7 : (0 : Int) ≤ ρ2 7 ∧ ρ2 7 ≤ 9999 := by
      have := zipI_spec.mp n3 7 _ (of_decide_eq_true k6)
      simpa using this
    have c0 := n4 _ (of_decide_eq_true k7)
    simp only [lAdd_ev, lSc_ev, lSy_ev, lK_ev, r0, r1, r2] at c0
    exact Or.inr (Or.inr (Or.inr (Or.inl ⟨_, _, _, _, _, _, _, ρ2 3, ρ2 4, ρ2 5, ρ2 6, ρ2 7, f0, f1, f2, f3, f4, f5, f6, f7, f8, f9, f10, f11, f12, f13, f14, b3, b4, b5, b6, b7, c0⟩)))
  · simp only [Bool.and_eq_true] at kk
    obtain ⟨⟨⟨⟨⟨⟨⟨k0, k1⟩, k2⟩, k3⟩, k4⟩, k5⟩, k6⟩, k7⟩ := kk
    have f0 := fE (n1 _ (inA_at k0 (f := (3, .inr (lSy 1), .inr (some 27))) (mK_at (by decide +kernel)))) (j := q) ((lSy_ev _ _).trans r1)
    rw [sAx e2 (i := 3) (j := 6) (by decide +kernel) rfl (by decide)] at f0
    have f1 := fO (n1 _ (inA_at k0 (f := (27, .inl 0, .inr (some 28))) (mK_at (by decide +kernel))))
    have f2 := fO (n1 _ (inA_at k0 (f := (28, .inl 0, .inr (some 29))) (mK_at (by decide +kernel))))
    have f3 := fO (n1 _ (inA_at k0 (f := (28, .inl 1, .inr (some 30))) (mK_at (by decide +kernel))))
    have f4 := fO (n1 _ (inA_at k0 (f := (28, .inl 2, .inr (some 31))) (mK_at (by decide +kernel))))
    have f5 := fO (n1 _ (inA_at k0 (f := (28, .inl 3, .inr (some 32))) (mK_at (by decide +kernel))))
    have f6 := fI (n1 _ (inA_at k0 (f := (28, .inl 4, .inl (lSy 3))) (mK_at (by decide +kernel))))
    simp only [lAdd_ev, lSc_ev, lSy_ev, lK_ev, r0, r1, r2] at f6
    have f7 := fJ (n1 _ (inA_at k0 (f := (29, .inr (lSy 2), .inl (lSy 4))) (mK_at (by decide +kernel)))) (j := l) ((lSy_ev _ _).trans r2)
    simp only [lAdd_ev, lSc_ev, lSy_ev, lK_ev, r0, r1, r2] at f7
    have f8 := fJ (n1 _ (inA_at k0 (f := (30, .inr (lSy 2), .inl (lSy 5))) (mK_at (by decide +kernel)))) (j := l) ((lSy_ev _ _).trans r2)
    simp only [lAdd_ev, lSc_ev, lSy_ev, lK_ev, r0, r1, r2] at f8
    have f9 := fJ (n1 _ (inA_at k0 (f := (31, .inr (lSy 2), .inl (lSy 6))) (mK_at (by decide +kernel)))) (j := l) ((lSy_ev _ _).trans r2)
    simp only [lAdd_ev, lSc_ev, lSy_ev, lK_ev, r0, r1, r2] at f9
    have f10 := fJ (n1 _ (inA_at k0 (f := (32, .inr (lSy 2), .inl (lSy 7))) (mK_at (by decide +kernel)))) (j := l) ((lSy_ev _ _).trans r2)
    simp only [lAdd_ev, lSc_ev, lSy_ev, lK_ev, r0, r1, r2] at f10
    have f11 := fE (n2 _ (inA_at k1 (f := (19, .inr (lSy 1), .inr (some 42))) (mK_at (by decide +kernel)))) (j := q) ((lSy_ev _ _).trans r1)
    rw [sAx e3 (i := 19) (j := 43) (by decide +kernel) rfl (by decide)] at f11
    have f12 := fJ (n2 _ (inA_at k1 (f := (42, .inr (lSc 4 (lSy 2)), .inl (lK 4))) (mK_at (by decide +kernel)))) (j := 4 * l) (by simp only [lAdd_ev, lSc_ev, lSy_ev, lK_ev, r0, r1, r2]; omega)
    simp only [lAdd_ev, lSc_ev, lSy_ev, lK_ev, r0, r1, r2] at f12
    have f13 := fJ (n2 _ (inA_at k1 (f := (42, .inr (lAdd (lSc 4 (lSy 2)) (lK 1)), .inl (lSy 5))) (mK_at (by decide +kernel)))) (j := (4 * l + 1)) (by simp only [lAdd_ev, lSc_ev, lSy_ev, lK_ev, r0, r1, r2]; omega)
    simp only [lAdd_ev, lSc_ev, lSy_ev, lK_ev, r0, r1, r2] at f13
    have f14 := fJ (n2 _ (inA_at k1 (f := (42, .inr (lAdd (lSc 4 (lSy 2)) (lK 2)), .inl (lSy 6))) (mK_at (by decide +kernel)))) (j := (4 * l + 2)) (by simp only [lAdd_ev, lSc_ev, lSy_ev, lK_ev, r0, r1, r2]; omega)
    simp only [lAdd_ev, lSc_ev, lSy_ev, lK_ev, r0, r1, r2] at f14
    have b3 : (1 : Int) ≤ ρ2 3 ∧ ρ2 3 ≤ 12 := by
      have := zipI_spec.mp n3 3 _ (of_decide_eq_true k2)
      simpa using this
    have b4 : (4 : Int) ≤ ρ2 4 ∧ ρ2 4 ≤ 4 := by
      have := zipI_spec.mp n3 4 _ (of_decide_eq_true k3)
      simpa using this
    have b5 : (0 : Int) ≤ ρ2 5 ∧ ρ2 5 ≤ 5 := by
      have := zipI_spec.mp n3 5 _ (of_decide_eq_true k4)
      simpa using this
    have b6 : (0 : Int) ≤ ρ2 6 ∧ ρ2 6 ≤ 5 := by
      have := zipI_spec.mp n3 6 _ (of_decide_eq_true k5)
      simpa using this
    have b7 : (0 : Int) ≤ ρ2 7 ∧ ρ2 7 ≤ 9999 := by
      have := zipI_spec.mp n3 7 _ (of_decide_eq_true k6)
      simpa using this
    have c0 := n4 _ (of_decide_eq_true k7)
    simp only [lAdd_ev, lSc_ev, lSy_ev, lK_ev, r0, r1, r2] at c0
    exact Or.inr (Or.inr (Or.inr (Or.inr (Or.inl ⟨_, _, _, _, _, _, _, ρ2 3, ρ2 4, ρ2 5, ρ2 6, ρ2 7, f0, f1, f2, f3, f4, f5, f6, f7, f8, f9, f10, f11, f12, f13, f14, b3, b4, b5, b6, b7, c0⟩))))
  · simp only [Bool.and_eq_true] at kk
    obtain ⟨⟨⟨⟨⟨⟨⟨k0, k1⟩, k2⟩, k3⟩, k4⟩, k5⟩, k6⟩, k7⟩ := kk
    have f0 := fE (n1 _ (inA_at k0 (f := (3, .inr (lSy 1), .inr (some 27))) (mK_at (by decide +kernel)))) (j := q) ((lSy_ev _ _).trans r1)
    rw [sAx e2 (i := 3) (j := 6) (by decide +kernel) rfl (by decide)] at f0
    have f1 := fO (n1 _ (inA_at k0 (f := (27, .inl 0, .inr (some 28))) (mK_at (by decide +kernel))))
    have f2 := fO (n1 _ (inA_at k0 (f := (28, .inl 0, .inr (some 29))) (mK_at (by decide +kernel))))
    have f3 := fO (n1 _ (inA_at k0 (f := (28, .inl 1, .inr (some 30))) (mK_at (by decide +kernel))))
    have f4 := fO (n1 _ (inA_at k0 (f := (28, .inl 2, .inr (some 31))) (mK_at (by decide +kernel))))
    have f5 := fO (n1 _ (inA_at k0 (f := (28, .inl 3, .inr (some 32))) (mK_at (by decide +kernel))))
    have f6 := fI (n1 _ (inA_at k0 (f := (28, .inl 4, .inl (lSy 3))) (mK_at (by decide +kernel))))
    simp only [lAdd_ev, lSc_ev, lSy_ev, lK_ev, r0, r1, r2] at f6
    have f7 := fJ (n1 _ (inA_at k0 (f := (29, .inr (lSy 2), .inl (lSy 4))) (mK_at (by decide +kernel)))) (j := l) ((lSy_ev _ _).trans r2)
    simp only [lAdd_ev, lSc_ev, lSy_ev, lK_ev, r0, r1, r2] at f7
    have f8 := fJ (n1 _ (inA_at k0 (f := (30, .inr (lSy 2), .inl (lSy 5))) (mK_at (by decide +kernel)))) (j := l) ((lSy_ev _ _).trans r2)
    simp only [lAdd_ev, lSc_ev, lSy_ev, lK_ev, r0, r1, r2] at f8
    have f9 := fJ (n1 _ (inA_at k0 (f := (31, .inr (lSy 2), .inl (lSy 6))) (mK_at (by decide +kernel)))) (j := l) ((lSy_ev _ _).trans r2)
    simp only [lAdd_ev, lSc_ev, lSy_ev, lK_ev, r0, r1, r2] at f9
    have f10 := fJ (n1 _ (inA_at k0 (f := (32, .inr (lSy 2), .inl (lSy 7))) (mK_at (by decide +kernel)))) (j := l) ((lSy_ev _ _).trans r2)
    simp only [lAdd_ev, lSc_ev, lSy_ev, lK_ev, r0, r1, r2] at f10
    have f11 := fE (n2 _ (inA_at k1 (f := (19, .inr (lSy 1), .inr (some 42))) (mK_at (by decide +kernel)))) (j := q) ((lSy_ev _ _).trans r1)
    rw [sAx e3 (i := 19) (j := 43) (by decide +kernel) rfl (by decide)] at f11
    have f12 := fJ (n2 _ (inA_at k1 (f := (42, .inr (lSc 4 (lSy 2)), .inl (lK 5))) (mK_at (by decide +kernel)))) (j := 4 * l) (by simp only [lAdd_ev, lSc_ev, lSy_ev, lK_ev, r0, r1, r2]; omega)
    simp only [lAdd_ev, lSc_ev, lSy_ev, lK_ev, r0, r1, r2] at f12
    have f13 := fJ (n2 _ (inA_at k1 (f := (42, .inr (lAdd (lSc 4 (lSy 2)) (lK 1)), .inl (lSy 5))) (mK_at (by decide +kernel)))) (j := (4 * l + 1)) (by simp only [lAdd_ev, lSc_ev, lSy_ev, lK_ev, r0, r1, r2]; omega)
    simp only [lAdd_ev, lSc_ev, lSy_ev, lK_ev, r0, r1, r2] at f13
    have f14 := fJ (n2 _ (inA_at k1 (f := (42, .inr (lAdd (lSc 4 (lSy 2)) (lK 2)), .inl (lSy 6))) (mK_at (by decide +kernel)))) (j := (4 * l + 2)) (by simp only [lAdd_ev, lSc_ev, lSy_ev, lK_ev, r0, r1, r2]; omega)
    simp only [lAdd_ev, lSc_ev, lSy_ev, lK_ev, r0, r1, r2] at f14
    have b3 : (1 : Int) ≤ ρ2 3 ∧ ρ2 3 ≤ 12 := by
      have := zipI_spec.mp n3 3 _ (of_decide_eq_true k2)
      simpa using this
    have b4 : (5 : Int) ≤ ρ2 4 ∧ ρ2 4 ≤ 5 := by
      have := zipI_spec.mp n3 4 _ (of_decide_eq_true k3)
      simpa using this
    have b5 : (0 : Int) ≤ ρ2 5 ∧ ρ2 5 ≤ 5 := by
      have := zipI_spec.mp n3 5 _ (of_decide_eq_true k4)
      simpa using this
    have b6 : (0 : Int) ≤ ρ2 6 ∧ ρ2 6 ≤ 5 := by
      have := zipI_spec.mp n3 6 _ (of_decide_eq_true k5)
      simpa using this
    have b7 : (0 : Int) ≤ ρ2 7 ∧ ρ2 7 ≤ 9999 := by
      have := zipI_spec.mp n3 7 _ (of_decide_eq_true k6)
      simpa using this
    have c0 := n4 _ (of_decide_eq_true k7)
    simp only [lAdd_ev, lSc_ev, lSy_ev, lK_ev, r0, r1, r2] at c0
    exact Or.inr (Or.inr (Or.inr (Or.inr (Or.inr (Or.inl ⟨_, _, _, _, _, _, _, ρ2 3, ρ2 4, ρ2 5, ρ2 6, ρ2 7, f0, f1, f2, f3, f4, f5, f6, f7, f8, f9, f10, f11, f12, f13, f14, b3, b4, b5, b6, b7, c0⟩)))))
  · simp only [Bool.and_eq_true] at kk
    obtain ⟨⟨⟨⟨⟨⟨⟨k0, k1⟩, k2⟩, k3⟩, k4⟩, k5⟩, k6⟩, k7⟩ := kk
    have f0 := fE (n1 _ (inA_at k0 (f := (3, .inr (lSy 1), .inr (some 27))) (mK_at (by decide +kernel)))) (j := q) ((lSy_ev _ _).trans r1)
    rw [sAx e2 (i := 3) (j := 6) (by decide +kernel) rfl (by decide)] at f0
    have f1 := fO (n1 _ (inA_at k0 (f := (27, .inl 0, .inr (some 28))) (mK_at (by decide +kernel))))
    have f2 := fO (n1 _ (inA_at k0 (f := (28, .inl 0, .inr (some 29))) (mK_at (by decide +kernel))))
    have f3 := fO (n1 _ (inA_at k0 (f := (28, .inl 1, .inr (some 30))) (mK_at (by decide +kernel))))
    have f4 := fO (n1 _ (inA_at k0 (f := (28, .inl 2, .inr (some 31))) (mK_at (by decide +kernel))))
    have f5 := fO (n1 _ (inA_at k0 (f := (28, .inl 3, .inr (some 32))) (mK_at (by decide +kernel))))
    have f6 := fI (n1 _ (inA_at k0 (f := (28, .inl 4, .inl (lSy 3))) (mK_at (by decide +kernel))))
    simp only [lAdd_ev, lSc_ev, lSy_ev, lK_ev, r0, r1, r2] at f6
    have f7 := fJ (n1 _ (inA_at k0 (f := (29, .inr (lSy 2), .inl (lSy 4))) (mK_at (by decide +kernel)))) (j := l) ((lSy_ev _ _).trans r2)
    simp only [lAdd_ev, lSc_ev, lSy_ev, lK_ev, r0, r1, r2] at f7
    have f8 := fJ (n1 _ (inA_at k0 (f := (30, .inr (lSy 2), .inl (lSy 5))) (mK_at (by decide +kernel)))) (j := l) ((lSy_ev _ _).trans r2)
    simp only [lAdd_ev, lSc_ev, lSy_ev, lK_ev, r0, r1, r2] at f8
    have f9 := fJ (n1 _ (inA_at k0 (f := (31, .inr (lSy 2), .inl (lSy 6))) (mK_at (by decide +kernel)))) (j := l) ((lSy_ev _ _).trans r2)
    simp only [lAdd_ev, lSc_ev, lSy_ev, lK_ev, r0, r1, r2] at f9
    have f10 := fJ (n1 _ (inA_at k0 (f := (32, .inr (lSy 2), .inl (lSy 7))) (mK_at (by decide +kernel)))) (j := l) ((lSy_ev _ _).trans r2)
    simp only [lAdd_ev, lSc_ev, lSy_ev, lK_ev, r0, r1, r2] at f10
    have f11 := fE (n2 _ (inA_at k1 (f := (19, .inr (lSy 1), .inr (some 42))) (mK_at (by decide +kernel)))) (j := q) ((lSy_ev _ _).trans r1)
    rw [sAx e3 (i := 19) (j := 43) (by decide +kernel) rfl (by decide)] at f11
    have f12 := fJ (n2 _ (inA_at k1 (f := (42, .inr (lSc 4 (lSy 2)), .inl (lK 6))) (mK_at (by decide +kernel)))) (j := 4 * l) (by simp only [lAdd_ev, lSc_ev, lSy_ev, lK_ev, r0, r1, r2]; omega)
    simp only [lAdd_ev, lSc_ev, lSy_ev, lK_ev, r0, r1, r2] at f12
    have f13 := fJ (n2 _ (inA_at k1 (f := (42, .inr (lAdd (lSc 4 (lSy 2)) (lK 1)), .inl (lSy 5))) (mK_at (by decide +kernel)))) (j := (4 * l + 1)) (by simp only [lAdd_ev, lSc_ev, lSy_ev, lK_ev, r0, r1, r2]; omega)
    simp only [lAdd_ev, lSc_ev, lSy_ev, lK_ev, r0, r1, r2] at f13
    have f14 := fJ (n2 _ (inA_at k1 (f := (42, .inr (lAdd (lSc 4 (lSy 2)) (lK 2)), .inl (lSy 6))) (mK_at (by decide +kernel)))) (j := (4 * l + 2)) (by simp only [lAdd_ev, lSc_ev, lSy_ev, lK_ev, r0, r1, r2]; omega)
    simp only [lAdd_ev, lSc_ev, lSy_ev, lK_ev, r0, r1, r2] at f14
    have b3 : (1 : Int) ≤ ρ2 3 ∧ ρ2 3 ≤ 12 := by
      have := zipI_spec.mp n3 3 _ (of_decide_eq_true k2)
      simpa using this
    have b4 : (6 : Int) ≤ ρ2 4 ∧ ρ2 4 ≤ 6 := by
      have := zipI_spec.mp n3 4 _ (of_decide_eq_true k3)
      simpa using this
    have b5 : (0 : Int) ≤ ρ2 5 ∧ ρ2 5 ≤ 5 := by
      have := zipI_spec.mp n3 5 _ (of_decide_eq_true k4)
      simpa using this
    have b6 : (0 : Int) ≤ ρ2 6 ∧ ρ2 6 ≤ 5 := by
      have := zipI_spec.mp n3 6 _ (of_decide_eq_true k5)
      simpa using this
    have b7 : (0 : Int) ≤ ρ2 7 ∧ ρ2 7 ≤ 9999 := by
      have := zipI_spec.mp n3 7 _ (of_decide_eq_true k6)
      simpa using this
    have c0 := n4 _ (of_decide_eq_true k7)
    simp only [lAdd_ev, lSc_ev, lSy_ev, lK_ev, r0, r1, r2] at c0
    exact Or.inr (Or.inr (Or.inr (Or.inr (Or.inr (Or.inr (Or.inl ⟨_, _, _, _, _, _, _, ρ2 3, ρ2 4, ρ2 5, ρ2 6, ρ2 7, f0, f1, f2, f3, f4, f5, f6, f7, f8, f9, f10, f11, f12, f13, f14, b3, b4, b5, b6, b7, c0⟩))))))
  · simp only [Bool.and_eq_true] at kk
    obtain ⟨⟨⟨⟨⟨⟨⟨k0, k1⟩, k2⟩, k3⟩, k4⟩, k5⟩, k6⟩, k7⟩ := kk
    have f0 := fE (n1 _ (inA_at k0 (f := (3, .inr (lSy 1), .inr (some 27))) (mK_at (by decide +kernel)))) (j := q) ((lSy_ev _ _).trans r1)
    rw [sAx e2 (i := 3) (j := 6) (by decide +kernel) rfl (by decide)] at f0
    have f1 := fO (n1 _ (inA_at k0 (f := (27, .inl 0, .inr (some 28))) (mK_at (by decide +kernel))))
    have f2 := fO (n1 _ (inA_at k0 (f := (28, .inl 0, .inr (some 29))) (mK_at (by decide +kernel))))
    have f3 := fO (n1 _ (inA_at k0 (f := (28, .inl 1, .inr (some 30))) (mK_at (by decide +kernel))))
    have f4 := fO (n1 _ (inA_at k0 (f := (28, .inl 2, .inr (some 31))) (mK_at (by decide +kernel))))
    have f5 := fO (n1 _ (inA_at k0 (f := (28, .inl 3, .inr (some 32))) (mK_at (by decide +kernel))))
    have f6 := fI (n1 _ (inA_at k0 (f := (28, .inl 4, .inl (lSy 3))) (mK_at (by decide +kernel))))
    simp only [lAdd_ev, lSc_ev, lSy_ev, lK_ev, r0, r1, r2] at f6
    have f7 := fJ (n1 _ (inA_at k0 (f := (29, .inr (lSy 2), .inl (lSy 4))) (mK_at (by decide +kernel)))) (j := l) ((lSy_ev _ _).trans r2)
    simp only [lAdd_ev, lSc_ev, lSy_ev, lK_ev, r0, r1, r2] at f7
    have f8 := fJ (n1 _ (inA_at k0 (f := (30, .inr (lSy 2), .inl (lSy 5))) (mK_at (by decide +kernel)))) (j := l) ((lSy_ev _ _).trans r2)
    simp only [lAdd_ev, lSc_ev, lSy_ev, lK_ev, r0, r1, r2] at f8
    have f9 := fJ (n1 _ (inA_at k0 (f := (31, .inr (lSy 2), .inl (lSy 6))) (mK_at (by decide +kernel)))) (j := l) ((lSy_ev _ _).trans r2)
    simp only [lAdd_ev, lSc_ev, lSy_ev, lK_ev, r0, r1, r2] at f9
    have f10 := fJ (n1 _ (inA_at k0 (f := (32, .inr (lSy 2), .inl (lSy 7))) (mK_at (by decide +kernel)))) (j := l) ((lSy_ev _ _).trans r2)
    simp only [lAdd_ev, lSc_ev, lSy_ev, lK_ev, r0, r1, r2] at f10
    have f11 := fE (n2 _ (inA_at k1 (f := (19, .inr (lSy 1), .inr (some 42))) (mK_at (by decide +kernel)))) (j := q) ((lSy_ev _ _).trans r1)
    rw [sAx e3 (i := 19) (j := 43) (by decide +kernel) rfl (by decide)] at f11
    have f12 := fJ (n2 _ (inA_at k1 (f := (42, .inr (lSc 4 (lSy 2)), .inl (lK 7))) (mK_at (by decide +kernel)))) (j := 4 * l) (by simp only [lAdd_ev, lSc_ev, lSy_ev, lK_ev, r0, r1, r2]; omega)
    simp only [lAdd_ev, lSc_ev, lSy_ev, lK_ev, r0, r1, r2] at f12
    have f13 := fJ (n2 _ (inA_at k1 (f := (42, .inr (lAdd (lSc 4 (lSy 2)) (lK 1)), .inl (lSy 5))) (mK_at (by decide +kernel)))) (j := (4 * l + 1)) (by simp only [lAdd_ev, lSc_ev, lSy_ev, lK_ev, r0, r1, r2]; omega)
    simp only [lAdd_ev, lSc_ev, lSy_ev, lK_ev, r0, r1, r2] at f13
    have f14 := fJ (n2 _ (inA_at k1 (f := (42, .inr (lAdd (lSc 4 (lSy 2)) (lK 2)), .inl (lSy 6))) (mK_at (by decide +kernel)))) (j := (4 * l + 2)) (by simp only [lAdd_ev, lSc_ev, lSy_ev, lK_ev, r0, r1, r2]; omega)
    simp only [lAdd_ev, lSc_ev, lSy_ev, lK_ev, r0, r1, r2] at f14
    have f15 := fJ (n2 _ (inA_at k1 (f := (42, .inr (lAdd (lSc 4 (lSy 2)) (lK 3)), .inl (lSy 7))) (mK_at (by decide +kernel)))) (j := (4 * l + 3)) (by simp only [lAdd_ev, lSc_ev, lSy_ev, lK_ev, r0, r1, r2]; omega)
    simp only [lAdd_ev, lSc_ev, lSy_ev, lK_ev, r0, r1, r2] at f15
    have b3 : (1 : Int) ≤ ρ2 3 ∧ ρ2 3 ≤ 12 := by
      have := zipI_spec.mp n3 3 _ (of_decide_eq_true k2)
      simpa using this
    have b4 : (7 : Int) ≤ ρ2 4 ∧ ρ2 4 ≤ 7 := by
      have := zipI_spec.mp n3 4 _ (of_decide_eq_true k3)
      simpa using this
    have b5 : (0 : Int) ≤ ρ2 5 ∧ ρ2 5 ≤ 5 := by
      have := zipI_spec.mp n3 5 _ (of_decide_eq_true k4)
      simpa using this
    have b6 : (0 : Int) ≤ ρ2 6 ∧ ρ2 6 ≤ 5 := by
      have := zipI_spec.mp n3 6 _ (of_decide_eq_true k5)
      simpa using this
    have b7 : (0 : Int) ≤ ρ2 7 ∧ ρ2 7 ≤ 9999 := by
      have := zipI_spec.mp n3 7 _ (of_decide_eq_true k6)
      simpa using this
    have c0 := n4 _ (of_decide_eq_true k7)
    simp only [lAdd_ev, lSc_ev, lSy_ev, lK_ev, r0, r1, r2] at c0
    exact Or.inr (Or.inr (Or.inr (Or.inr (Or.inr (Or.inr (Or.inr (Or.inl ⟨_, _, _, _, _, _, _, ρ2 3, ρ2 4, ρ2 5, ρ2 6, ρ2 7, f0, f1, f2, f3, f4, f5, f6, f7, f8, f9, f10, f11, f12, f13, f14, f15, b3, b4, b5, b6, b7, c0⟩)))))))
  · simp only [Bool.and_eq_true] at kk
    obtain ⟨⟨⟨⟨⟨⟨⟨k0, k1⟩, k2⟩, k3⟩, k4⟩, k5⟩, k6⟩, k7⟩ := kk
    have f0 := fE (n1 _ (inA_at k0 (f := (3, .inr (lSy 1), .inr (some 27))) (mK_at (by decide +kernel)))) (j := q) ((lSy_ev _ _).trans r1)
    rw [sAx e2 (i := 3) (j := 6) (by decide +kernel) rfl (by decide)] at f0
    have f1 := fO (n1 _ (inA_at k0 (f := (27, .inl 0, .inr (some 28))) (mK_at (by decide +kernel))))
    have f2 := fO (n1 _ (inA_at k0 (f := (28, .inl 0, .inr (some 29))) (mK_at (by decide +kernel))))
    have f3 := fO (n1 _ (inA_at k0 (f := (28, .inl 1, .inr (some 30))) (mK_at (by decide +kernel))))
    have f4 := fO (n1 _ (inA_at k0 (f := (28, .inl 2, .inr (some 31))) (mK_at (by decide +kernel))))
    have f5 := fO (n1 _ (inA_at k0 (f := (28, .inl 3, .inr (some 32))) (mK_at (by decide +kernel))))
    have f6 := fI (n1 _ (inA_at k0 (f := (28, .inl 4, .inl (lSy 3))) (mK_at (by decide +kernel))))
    simp only [lAdd_ev, lSc_ev, lSy_ev, lK_ev, r0, r1, r2] at f6
    have f7 := fJ (n1 _ (inA_at k0 (f := (29, .inr (lSy 2), .inl (lSy 4))) (mK_at (by decide +kernel)))) (j := l) ((lSy_ev _ _).trans r2)
    simp only [lAdd_ev, lSc_ev, lSy_ev, lK_ev, r0, r1, r2] at f7
    have f8 := fJ (n1 _ (inA_at k0 (f := (30, .inr (lSy 2), .inl (lSy 5))) (mK_at (by decide +kernel)))) (j := l) ((lSy_ev _ _).trans r2)
    simp only [lAdd_ev, lSc_ev, lSy_ev, lK_ev, r0, r1, r2] at f8
    have f9 := fJ (n1 _ (inA_at k0 (f := (31, .inr (lSy 2), .inl (lSy 6))) (mK_at (by decide +kernel)))) (j := l) ((lSy_ev _ _).trans r2)
    simp only [lAdd_ev, lSc_ev, lSy_ev, lK_ev, r0, r1, r2] at f9
    have f10 := fJ (n1 _ (inA_at k0 (f := (32, .inr (lSy 2), .inl (lSy 7))) (mK_at (by decide +kernel)))) (j := l) ((lSy_ev _ _).trans r2)
    simp only [lAdd_ev, lSc_ev, lSy_ev, lK_ev, r0, r1, r2] at f10
    have f11 := fE (n2 _ (inA_at k1 (f := (19, .inr (lSy 1), .inr (some 42))) (mK_at (by decide +kernel)))) (j := q) ((lSy_ev _ _).trans r1)
    rw [sAx e3 (i := 19) (j := 43) (by decide +kernel) rfl (by decide)] at f11
    have f12 := fJ (n2 _ (inA_at k1 (f := (42, .inr (lSc 4 (lSy 2)), .inl (lK 9))) (mK_at (by decide +kernel)))) (j := 4 * l) (by simp only [lAdd_ev, lSc_ev, lSy_ev, lK_ev, r0, r1, r2]; omega)
    simp only [lAdd_ev, lSc_ev, lSy_ev, lK_ev, r0, r1, r2] at f12
    have f13 := fJ (n2 _ (inA_at k1 (f := (42, .inr (lAdd (lSc 4 (lSy 2)) (lK 1)), .inl (lSy 5))) (mK_at (by decide +kernel)))) (j := (4 * l + 1)) (by simp only [lAdd_ev, lSc_ev, lSy_ev, lK_ev, r0, r1, r2]; omega)
    simp only [lAdd_ev, lSc_ev, lSy_ev, lK_ev, r0, r1, r2] at f13
    have f14 := fJ (n2 _ (inA_at k1 (f := (42, .inr (lAdd (lSc 4 (lSy 2)) (lK 3)), .inl (lSy 7))) (mK_at (by decide +kernel)))) (j := (4 * l + 3)) (by simp only [lAdd_ev, lSc_ev, lSy_ev, lK_ev, r0, r1, r2]; omega)
    simp only [lAdd_ev, lSc_ev, lSy_ev, lK_ev, r0, r1, r2] at f14
    have b3 : (1 : Int) ≤ ρ2 3 ∧ ρ2 3 ≤ 12 := by
      have := zipI_spec.mp n3 3 _ (of_decide_eq_true k2)
      simpa using this
    have b4 : (8 : Int) ≤ ρ2 4 ∧ ρ2 4 ≤ 8 := by
      have := zipI_spec.mp n3 4 _ (of_decide_eq_true k3)
      simpa using this
    have b5 : (0 : Int) ≤ ρ2 5 ∧ ρ2 5 ≤ 5 := by
      have := zipI_spec.mp n3 5 _ (of_decide_eq_true k4)
      simpa using this
    have b6 : (0 : Int) ≤ ρ2 6 ∧ ρ2 6 ≤ 5 := by
      have := zipI_spec.mp n3 6 _ (of_decide_eq_true k5)
      simpa using this
    have b7 : (0 : Int) ≤ ρ2 7 ∧ ρ2 7 ≤ 9999 := by
      have := zipI_spec.mp n3 7 _ (of_decide_eq_true k6)
      simpa using this
    have c0 := n4 _ (of_decide_eq_true k7)
    simp only [lAdd_ev, lSc_ev, lSy_ev, lK_ev, r0, r1, r2] at c0
    exact Or.inr (Or.inr (Or.inr (Or.inr (Or.inr (Or.inr (Or.inr (Or.inr (Or.inl ⟨_, _, _, _, _, _, _, ρ2 3, ρ2 4, ρ2 5, ρ2 6, ρ2 7, f0, f1, f2, f3, f4, f5, f6, f7, f8, f9, f10, f11, f12, f13, f14, b3, b4, b5, b6, b7, c0⟩))))))))
  · simp only [Bool.and_eq_true] at kk
    obtain ⟨⟨⟨⟨⟨⟨⟨k0, k1⟩, k2⟩, k3⟩, k4⟩, k5⟩, k6⟩, k7⟩ := kk
    have f0 := fE (n1 _ (inA_at k0 (f := (3, .inr (lSy 1), .inr (some 27))) (mK_at (by decide +kernel)))) (j := q) ((lSy_ev _ _).trans r1)
    rw [sAx e2 (i := 3) (j := 6) (by decide +kernel) rfl (by decide)] at f0
    have f1 := fO (n1 _ (inA_at k0 (f := (27, .inl 0, .inr (some 28))) (mK_at (by decide +kernel))))
    have f2 := fO (n1 _ (inA_at k0 (f := (28, .inl 0, .inr (some 29))) (mK_at (by decide +kernel))))
    have f3 := fO (n1 _ (inA_at k0 (f := (28, .inl 1, .inr (some 30))) (mK_at (by decide +kernel))))
    have f4 := fO (n1 _ (inA_at k0 (f := (28, .inl 2, .inr (some 31))) (mK_at (by decide +kernel))))
    have f5 := fO (n1 _ (inA_at k0 (f := (28, .inl 3, .inr (some 32))) (mK_at (by decide +kernel))))
    have f6 := fI (n1 _ (inA_at k0 (f := (28, .inl 4, .inl (lSy 3))) (mK_at (by decide +kernel))))
    simp only [lAdd_ev, lSc_ev, lSy_ev, lK_ev, r0, r1, r2] at f6
    have f7 := fJ (n1 _ (inA_at k0 (f := (29, .inr (lSy 2), .inl (lSy 4))) (mK_at (by decide +kernel)))) (j := l) ((lSy_ev _ _).trans r2)
    simp only [lAdd_ev, lSc_ev, lSy_ev, lK_ev, r0, r1, r2] at f7
    have f8 := fJ (n1 _ (inA_at k0 (f := (30, .inr (lSy 2), .inl (lSy 5))) (mK_at (by decide +kernel)))) (j := l) ((lSy_ev _ _).trans r2)
    simp only [lAdd_ev, lSc_ev, lSy_ev, lK_ev, r0, r1, r2] at f8
    have f9 := fJ (n1 _ (inA_at k0 (f := (31, .inr (lSy 2), .inl (lSy 6))) (mK_at (by decide +kernel)))) (j := l) ((lSy_ev _ _).trans r2)
    simp only [lAdd_ev, lSc_ev, lSy_ev, lK_ev, r0, r1, r2] at f9
    have f10 := fJ (n1 _ (inA_at k0 (f := (32, .inr (lSy 2), .inl (lSy 7))) (mK_at (by decide +kernel)))) (j := l) ((lSy_ev _ _).trans r2)
    simp only [lAdd_ev, lSc_ev, lSy_ev, lK_ev, r0, r1, r2] at f10
    have f11 := fE (n2 _ (inA_at k1 (f := (19, .inr (lSy 1), .inr (some 42))) (mK_at (by decide +kernel)))) (j := q) ((lSy_ev _ _).trans r1)
    rw [sAx e3 (i := 19) (j := 43) (by decide +kernel) rfl (by decide)] at f11
    have f12 := fJ (n2 _ (inA_at k1 (f := (42, .inr (lSc 4 (lSy 2)), .inl (lK 10))) (mK_at (by decide +kernel)))) (j := 4 * l) (by simp only [lAdd_ev, lSc_ev, lSy_ev, lK_ev, r0, r1, r2]; omega)
    simp only [lAdd_ev, lSc_ev, lSy_ev, lK_ev, r0, r1, r2] at f12
    have f13 := fJ (n2 _ (inA_at k1 (f := (42, .inr (lAdd (lSc 4 (lSy 2)) (lK 3)), .inl (lSy 7))) (mK_at (by decide +kernel)))) (j := (4 * l + 3)) (by simp only [lAdd_ev, lSc_ev, lSy_ev, lK_ev, r0, r1, r2]; omega)
    simp only [lAdd_ev, lSc_ev, lSy_ev, lK_ev, r0, r1, r2] at f13
    have b3 : (1 : Int) ≤ ρ2 3 ∧ ρ2 3 ≤ 12 := by
      have := zipI_spec.mp n3 3 _ (of_decide_eq_true k2)
      simpa using this
    have b4 : (9 : Int) ≤ ρ2 4 ∧ ρ2 4 ≤ 9 := by
      have := zipI_spec.mp n3 4 _ (of_decide_eq_true k3)
      simpa using this
    have b5 : (0 : Int) ≤ ρ2 5 ∧ ρ2 5 ≤ 5 := by
      have := zipI_spec.mp n3 5 _ (of_decide_eq_true k4)
      simpa using this
    have b6 : (0 : Int) ≤ ρ2 6 ∧ ρ2 6 ≤ 5 := by
      have := zipI_spec.mp n3 6 _ (of_decide_eq_true k5)
      simpa using this
    have b7 : (0 : Int) ≤ ρ2 7 ∧ ρ2 7 ≤ 9999 := by
      have := zipI_spec.mp n3 7 _ (of_decide_eq_true k6)
      simpa using this
    have c0 := n4 _ (of_decide_eq_true k7)
    simp only [lAdd_ev, lSc_ev, lSy_ev, lK_ev, r0, r1, r2] at c0
    exact Or.inr (Or.inr (Or.inr (Or.inr (Or.inr (Or.inr (Or.inr (Or.inr (Or.inr (Or.inl ⟨_, _, _, _, _, _, _, ρ2 3, ρ2 4, ρ2 5, ρ2 6, ρ2 7, f0, f1, f2, f3, f4, f5, f6, f7, f8, f9, f10, f11, f12, f13, b3, b4, b5, b6, b7, c0⟩)))))))))
  · simp only [Bool.and_eq_true] at kk
    obtain ⟨⟨⟨⟨⟨⟨⟨k0, k1⟩, k2⟩, k3⟩, k4⟩, k5⟩, k6⟩, k7⟩ := kk
    have f0 := fE (n1 _ (inA_at k0 (f := (3, .inr (lSy 1), .inr (some 27))) (mK_at (by decide +kernel)))) (j := q) ((lSy_ev _ _).trans r1)
    rw [sAx e2 (i := 3) (j := 6) (by decide +kernel) rfl (by decide)] at f0
    have f1 := fO (n1 _ (inA_at k0 (f := (27, .inl 0, .inr (some 28))) (mK_at (by decide +kernel))))
    have f2 := fO (n1 _ (inA_at k0 (f := (28, .inl 0, .inr (some 29))) (mK_at (by decide +kernel))))
    have f3 := fO (n1 _ (inA_at k0 (f := (28, .inl 1, .inr (some 30))) (mK_at (by decide +kernel))))
    have f4 := fO (n1 _ (inA_at k0 (f := (28, .inl 2, .inr (some 31))) (mK_at (by decide +kernel))))
    have f5 := fO (n1 _ (inA_at k0 (f := (28, .inl 3, .inr (some 32))) (mK_at (by decide +kernel))))
    have f6 := fI (n1 _ (inA_at k0 (f := (28, .inl 4, .inl (lSy 3))) (mK_at (by decide +kernel))))
    simp only [lAdd_ev, lSc_ev, lSy_ev, lK_ev, r0, r1, r2] at f6
    have f7 := fJ (n1 _ (inA_at k0 (f := (29, .inr (lSy 2), .inl (lSy 4))) (mK_at (by decide +kernel)))) (j := l) ((lSy_ev _ _).trans r2)
    simp only [lAdd_ev, lSc_ev, lSy_ev, lK_ev, r0, r1, r2] at f7
    have f8 := fJ (n1 _ (inA_at k0 (f := (30, .inr (lSy 2), .inl (lSy 5))) (mK_at (by decide +kernel)))) (j := l) ((lSy_ev _ _).trans r2)
    simp only [lAdd_ev, lSc_ev, lSy_ev, lK_ev, r0, r1, r2] at f8
    have f9 := fJ (n1 _ (inA_at k0 (f := (31, .inr (lSy 2), .inl (lSy 6))) (mK_at (by decide +kernel)))) (j := l) ((lSy_ev _ _).trans r2)
    simp only [lAdd_ev, lSc_ev, lSy_ev, lK_ev, r0, r1, r2] at f9
    have f10 := fJ (n1 _ (inA_at k0 (f := (32, .inr (lSy 2), .inl (lSy 7))) (mK_at (by decide +kernel)))) (j := l) ((lSy_ev _ _).trans r2)
    simp only [lAdd_ev, lSc_ev, lSy_ev, lK_ev, r0, r1, r2] at f10
    have f11 := fE (n2 _ (inA_at k1 (f := (19, .inr (lSy 1), .inr (some 42))) (mK_at (by decide +kernel)))) (j := q) ((lSy_ev _ _).trans r1)
    rw [sAx e3 (i := 19) (j := 43) (by decide +kernel) rfl (by decide)] at f11
    have f12 := fJ (n2 _ (inA_at k1 (f := (42, .inr (lSc 4 (lSy 2)), .inl (lK 11))) (mK_at (by decide +kernel)))) (j := 4 * l) (by simp only [lAdd_ev, lSc_ev, lSy_ev, lK_ev, r0, r1, r2]; omega)
    simp only [lAdd_ev, lSc_ev, lSy_ev, lK_ev, r0, r1, r2] at f12
    have b3 : (1 : Int) ≤ ρ2 3 ∧ ρ2 3 ≤ 12 := by
      have := zipI_spec.mp n3 3 _ (of_decide_eq_true k2)
      simpa using this
    have b4 : (10 : Int) ≤ ρ2 4 ∧ ρ2 4 ≤ 10 := by
      have := zipI_spec.mp n3 4 _ (of_decide_eq_true k3)
      simpa using this
    have b5 : (0 : Int) ≤ ρ2 5 ∧ ρ2 5 ≤ 5 := by
      have := zipI_spec.mp n3 5 _ (of_decide_eq_true k4)
      simpa using this
    have b6 : (0 : Int) ≤ ρ2 6 ∧ ρ2 6 ≤ 5 := by
      have := zipI_spec.mp n3 6 _ (of_decide_eq_true k5)
      simpa using this
    have b7 : (0 : Int) ≤ ρ2 7 ∧ ρ2 7 ≤ 9999 := by
      have := zipI_spec.mp n3 7 _ (of_decide_eq_true k6)
      simpa using this
    have c0 := n4 _ (of_decide_eq_true k7)
    simp only [lAdd_ev, lSc_ev, lSy_ev, lK_ev, r0, r1, r2] at c0
    exact Or.inr (Or.inr (Or.inr (Or.inr (Or.inr (Or.inr (Or.inr (Or.inr (Or.inr (Or.inr (Or.inl ⟨_, _, _, _, _, _, _, ρ2 3, ρ2 4, ρ2 5, ρ2 6, ρ2 7, f0, f1, f2, f3, f4, f5, f6, f7, f8, f9, f10, f11, f12, b3, b4, b5, b6, b7, c0⟩))))))))))
  · simp only [Bool.and_eq_true] at kk
    obtain ⟨⟨⟨⟨⟨⟨⟨k0, k1⟩, k2⟩, k3⟩, k4⟩, k5⟩, k6⟩, k7⟩ := kk
    have f0 := fE (n1 _ (inA_at k0 (f := (3, .inr (lSy 1), .inr (some 27))) (mK_at (by decide +kernel)))) (j := q) ((lSy_ev _ _).trans r1)
    rw [sAx e2 (i := 3) (j := 6) (by decide +kernel) rfl (by decide)] at f0
    have f1 := fO (n1 _ (inA_at k0 (f := (27, .inl 0, .inr (some 28))) (mK_at (by decide +kernel))))
    have f2 := fO (n1 _ (inA_at k0 (f := (28, .inl 0, .inr (some 29))) (mK_at (by decide +kernel))))
    have f3 := fO (n1 _ (inA_at k0 (f := (28, .inl 1, .inr (some 30))) (mK_at (by decide +kernel))))
    have f4 := fO (n1 _ (inA_at k0 (f := (28, .inl 2, .inr (some 31))) (mK_at (by decide +kernel))))
    have f5 := fO (n1 _ (inA_at k0 (f := (28, .inl 3, .inr (some 32))) (mK_at (by decide +kernel))))
    have f6 := fI (n1 _ (inA_at k0 (f := (28, .inl 4, .inl (lSy 3))) (mK_at (by decide +kernel))))
    simp only [lAdd_ev, lSc_ev, lSy_ev, lK_ev, r0, r1, r2] at f6
    have f7 := fJ (n1 _ (inA_at k0 (f := (29, .inr (lSy 2), .inl (lSy 4))) (mK_at (by decide +kernel)))) (j := l) ((lSy_ev _ _).trans r2)
    simp only [lAdd_ev, lSc_ev, lSy_ev, lK_ev, r0, r1, r2] at f7
    have f8 := fJ (n1 _ (inA_at k0 (f := (30, .inr (lSy 2), .inl (lSy 5))) (mK_at (by decide +kernel)))) (j := l) ((lSy_ev _ _).trans r2)
    simp only [lAdd_ev, lSc_ev, lSy_ev, lK_ev, r0, r1, r2] at f8
    have f9 := fJ (n1 _ (inA_at k0 (f := (31, .inr (lSy 2), .inl (lSy 6))) (mK_at (by decide +kernel)))) (j := l) ((lSy_ev _ _).trans r2)
    simp only [lAdd_ev, lSc_ev, lSy_ev, lK_ev, r0, r1, r2] at f9
    have f10 := fJ (n1 _ (inA_at k0 (f := (32, .inr (lSy 2), .inl (lSy 7))) (mK_at (by decide +kernel)))) (j := l) ((lSy_ev _ _).trans r2)
    simp only [lAdd_ev, lSc_ev, lSy_ev, lK_ev, r0, r1, r2] at f10
    have f11 := fE (n2 _ (inA_at k1 (f := (19, .inr (lSy 1), .inr (some 42))) (mK_at (by decide +kernel)))) (j := q) ((lSy_ev _ _).trans r1)
    rw [sAx e3 (i := 19) (j := 43) (by decide +kernel) rfl (by decide)] at f11
    have f12 := fJ (n2 _ (inA_at k1 (f := (42, .inr (lSc 4 (lSy 2)), .inl (lK 8))) (mK_at (by decide +kernel)))) (j := 4 * l) (by simp only [lAdd_ev, lSc_ev, lSy_ev, lK_ev, r0, r1, r2]; omega)
    simp only [lAdd_ev, lSc_ev, lSy_ev, lK_ev, r0, r1, r2] at f12
    have f13 := fJ (n2 _ (inA_at k1 (f := (42, .inr (lAdd (lSc 4 (lSy 2)) (lK 1)), .inl (lSy 5))) (mK_at (by decide +kernel)))) (j := (4 * l + 1)) (by simp only [lAdd_ev, lSc_ev, lSy_ev, lK_ev, r0, r1, r2]; omega)
    simp only [lAdd_ev, lSc_ev, lSy_ev, lK_ev, r0, r1, r2] at f13
    have f14 := fJ (n2 _ (inA_at k1 (f := (42, .inr (lAdd (lSc 4 (lSy 2)) (lK 2)), .inl (lSy 6))) (mK_at (by decide +kernel)))) (j := (4 * l + 2)) (by simp only [lAdd_ev, lSc_ev, lSy_ev, lK_ev, r0, r1, r2]; omega)
    simp only [lAdd_ev, lSc_ev, lSy_ev, lK_ev, r0, r1, r2] at f14
    have f15 := fJ (n2 _ (inA_at k1 (f := (42, .inr (lAdd (lSc 4 (lSy 2)) (lK 3)), .inl (lSy 7))) (mK_at (by decide +kernel)))) (j := (4 * l + 3)) (by simp only [lAdd_ev, lSc_ev, lSy_ev, lK_ev, r0, r1, r2]; omega)
    simp only [lAdd_ev, lSc_ev, lSy_ev, lK_ev, r0, r1, r2] at f15
    have b3 : (1 : Int) ≤ ρ2 3 ∧ ρ2 3 ≤ 12 := by
      have := zipI_spec.mp n3 3 _ (of_decide_eq_true k2)
      simpa using this
    have b4 : (11 : Int) ≤ ρ2 4 ∧ ρ2 4 ≤ 11 := by
      have := zipI_spec.mp n3 4 _ (of_decide_eq_true k3)
      simpa using this
    have b5 : (0 : Int) ≤ ρ2 5 ∧ ρ2 5 ≤ 5 := by
      have := zipI_spec.mp n3 5 _ (of_decide_eq_true k4)
      simpa using this
    have b6 : (0 : Int) ≤ ρ2 6 ∧ ρ2 6 ≤ 5 := by
      have := zipI_spec.mp n3 6 _ (of_decide_eq_true k5)
      simpa using this
    have b7 : (0 : Int) ≤ ρ2 7 ∧ ρ2 7 ≤ 9999 := by
      have := zipI_spec.mp n3 7 _ (of_decide_eq_true k6)
      simpa using this
    have c0 := n4 _ (of_decide_eq_true k7)
    simp only [lAdd_ev, lSc_ev, lSy_ev, lK_ev, r0, r1, r2] at c0
    exact Or.inr (Or.inr (Or.inr (Or.inr (Or.inr (Or.inr (Or.inr (Or.inr (Or.inr (Or.inr (Or.inr (Or.inl ⟨_, _, _, _, _, _, _, ρ2 3, ρ2 4, ρ2 5, ρ2 6, ρ2 7, f0, f1, f2, f3, f4, f5, f6, f7, f8, f9, f10, f11, f12, f13, f14, f15, b3, b4, b5, b6, b7, c0⟩)))))))))))
  · simp only [Bool.and_eq_true] at kk
    obtain ⟨⟨⟨k0, k1⟩, k2⟩, k3⟩ := kk
    have f0 := fE (n1 _ (inA_at k0 (f := (3, .inr (lSy 1), .inr (some 27))) (mK_at (by decide +kernel)))) (j := q) ((lSy_ev _ _).trans r1)
    rw [sAx e2 (i := 3) (j := 6) (by decide +kernel) rfl (by decide)] at f0
    have f1 := fO (n1 _ (inA_at k0 (f := (27, .inl 0, .inr (some 28))) (mK_at (by decide +kernel))))
    have f2 := fI (n1 _ (inA_at k0 (f := (28, .inl 4, .inl (lSy 3))) (mK_at (by decide +kernel))))
    simp only [lAdd_ev, lSc_ev, lSy_ev, lK_ev, r0, r1, r2] at f2
    have b3 : (1 : Int) ≤ ρ2 3 ∧ ρ2 3 ≤ 12 := by
      have := zipI_spec.mp n3 3 _ (of_decide_eq_true k2)
      simpa using this
    have c0 := n4 _ (of_decide_eq_true k3)
    simp only [lAdd_ev, lSc_ev, lSy_ev, lK_ev, r0, r1, r2] at c0
    exact Or.inr (Or.inr (Or.inr (Or.inr (Or.inr (Or.inr (Or.inr (Or.inr (Or.inr (Or.inr (Or.inr (Or.inr (⟨_, _, ρ2 3, f0, f1, f2, b3, c0⟩))))))))))))
def Fmtw_A0 : List vK := [(12, .inl 0, .inl (lK 1)), (12, .inl 3, .inl (lK 2))]
def Fmtw_B0 : List vK := []
theorem Fmtw_ok : (wAl lwF3).all (fun x => (inA Fmtw_A0 x.1 && inA Fmtw_B0 x.2)) = true := by decide +kernel
theorem Fmtw (h : HX ρ σ ty H n)   : rV H (sR σ 15) 0 = some (.inl (Int32.ofInt (1))) ∧ rV H (sR σ 15) 3 = some (.inl (Int32.ofInt (2))) := by
  have hn := HX_12 h
  have hw := h.2.1 lwF3 (List.mem_of_getElem? (i := 3) rfl) (evL []) (fun i p hp => by cases hp) (fun j p hj => by
    cases hj) (fun c hc => by
    cases hc)
  obtain ⟨x, hx, ρ2, σA, σB, e1, e2, e3, n1, n2, n3, n4⟩ := hw
  have kk := List.all_eq_true.mp Fmtw_ok x hx
  simp only [Bool.and_eq_true] at kk
  obtain ⟨k0, k1⟩ := kk
  have f0 := fI (n1 _ (inA_at k0 (f := (12, .inl 0, .inl (lK 1))) (mK_at (by decide +kernel))))
  rw [sAx e2 (i := 12) (j := 15) (by decide +kernel) rfl (by decide)] at f0
  simp only [lAdd_ev, lSc_ev, lSy_ev, lK_ev] at f0
  have f1 := fI (n1 _ (inA_at k0 (f := (12, .inl 3, .inl (lK 2))) (mK_at (by decide +kernel))))
  rw [sAx e2 (i := 12) (j := 15) (by decide +kernel) rfl (by decide)] at f1
  simp only [lAdd_ev, lSc_ev, lSy_ev, lK_ev] at f1
  exact ⟨f0, f1⟩
def Fmap_A0 : List vK := [(5, .inr (lK (-1)), .inr (some 9)), (19, .inr (lK (-1)), .inr (some 21)), (19, .inr (lK (-1)), .inr (some 23)), (21, .inr (lK (-1)), .inr (some 23)), (12, .inr (lK (-1)), .inr (some 13)), (6, .inr (lK (-1)), .inr (some 10)), (7, .inr (lK (-1)), .inr (some 11)), (24, .inr (lK (-1)), .inr (some 12)), (24, .inr (lK (-1)), .inr (some 13)), (25, .inr (lK (-1)), .inr (some 14)), (26, .inr (lK (-1)), .inr (some 15))]
def Fmap_B0 : List vK := [(8, .inr (lK (-1)), .inr (some 9)), (11, .inr (lK (-1)), .inr (some 12)), (27, .inr (lK (-1)), .inr (some 28)), (4, .inr (lK (-1)), .inr (some 5)), (4, .inr (lK (-1)), .inr (some 6)), (5, .inr (lK (-1)), .inr (some 6)), (31, .inr (lK (-1)), .inr (some 38)), (33, .inr (lK (-1)), .inr (some 39)), (32, .inr (lK (-1)), .inr (some 40)), (34, .inr (lK (-1)), .inr (some 41))]
theorem Fmap_ok : (wAl lwF4).all (fun x => (inA Fmap_A0 x.1 && inA Fmap_B0 x.2)) = true := by decide +kernel
theorem Fmap (h : HX ρ σ ty H n)   : sR σ 8 ≠ sR σ 12 ∧ sR σ 22 ≠ sR σ 24 ∧ sR σ 22 ≠ sR σ 26 ∧ sR σ 24 ≠ sR σ 26 ∧ sR σ 15 ≠ sR σ 16 ∧ sR σ 9 ≠ sR σ 13 ∧ sR σ 10 ≠ sR σ 14 ∧ sR σ 66 ≠ sR σ 15 ∧ sR σ 66 ≠ sR σ 16 ∧ sR σ 67 ≠ sR σ 17 ∧ sR σ 68 ≠ sR σ 18 ∧ sR σ 32 ≠ sR σ 33 ∧ sR σ 35 ≠ sR σ 36 ∧ sR σ 51 ≠ sR σ 52 ∧ sR σ 28 ≠ sR σ 29 ∧ sR σ 28 ≠ sR σ 30 ∧ sR σ 29 ≠ sR σ 30 ∧ sR σ 55 ≠ sR σ 62 ∧ sR σ 57 ≠ sR σ 63 ∧ sR σ 56 ≠ sR σ 64 ∧ sR σ 58 ≠ sR σ 65 := by
  have hn := HX_12 h
  have hw := h.2.1 lwF4 (List.mem_of_getElem? (i := 4) rfl) (evL []) (fun i p hp => by cases hp) (fun j p hj => by
    cases hj) (fun c hc => by
    cases hc)
  obtain ⟨x, hx, ρ2, σA, σB, e1, e2, e3, n1, n2, n3, n4⟩ := hw
  have kk := List.all_eq_true.mp Fmap_ok x hx
  simp only [Bool.and_eq_true] at kk
  obtain ⟨k0, k1⟩ := kk
  have f0 := hNe (n1 _ (inA_at k0 (f := (5, .inr (lK (-1)), .inr (some 9))) (mK_at (by decide +kernel))))
  rw [sAx e2 (i := 5) (j := 8) (by decide +kernel) rfl (by decide)] at f0
  rw [sAx e2 (i := 9) (j := 12) (by decide +kernel) rfl (by decide)] at f0
  have f1 := hNe (n1 _ (inA_at k0 (f := (19, .inr (lK (-1)), .inr (some 21))) (mK_at (by decide +kernel))))
  rw [sAx e2 (i := 19) (j := 22) (by decide +kernel) rfl (by decide)] at f1
  rw [sAx e2 (i := 21) (j := 24) (by decide +kernel) rfl (by decide)] at f1
  have f2 := hNe (n1 _ (inA_at k0 (f := (19, .inr (lK (-1)), .inr (some 23))) (mK_at (by decide +kernel))))
  rw [sAx e2 (i := 19) (j := 22) (by decide +kernel) rfl (by decide)] at f2
  rw [sAx e2 (i := 23) (j := 26) (by decide +kernel) rfl (by decide)] at f2
  have f3 := hNe (n1 _ (inA_at k0 (f := (21, .inr (lK (-1)), .inr (some 23))) (mK_at (by decide +kernel))))
  rw [sAx e2 (i := 21) (j := 24) (by decide +kernel) rfl (by decide)] at f3
  rw [sAx e2 (i := 23) (j := 26) (by decide +kernel) rfl (by decide)] at f3
  have f4 := hNe (n1 _ (inA_at k0 (f := (12, .inr (lK (-1)), .inr (some 13))) (mK_at (by decide +kernel))))
  rw [sAx e2 (i := 12) (j := 15) (by decide +kernel) rfl (by decide)] at f4
  rw [sAx e2 (i := 13) (j := 16) (by decide +kernel) rfl (by decide)] at f4
  have f5 := hNe (n1 _ (inA_at k0 (f := (6, .inr (lK (-1)), .inr (some 10))) (mK_at (by decide +kernel))))
  rw [sAx e2 (i := 6) (j := 9) (by decide +kernel) rfl (by decide)] at f5
  rw [sAx e2 (i := 10) (j := 13) (by decide +kernel) rfl (by decide)] at f5
  have f6 := hNe (n1 _ (inA_at k0 (f := (7, .inr (lK (-1)), .inr (some 11))) (mK_at (by decide +kernel))))
  rw [sAx e2 (i := 7) (j := 10) (by decide +kernel) rfl (by decide)] at f6
  rw [sAx e2 (i := 11) (j := 14) (by decide +kernel) rfl (by decide)] at f6
  have f7 := hNe (n1 _ (inA_at k0 (f := (24, .inr (lK (-1)), .inr (some 12))) (mK_at (by decide +kernel))))
  rw [sAx e2 (i := 12) (j := 15) (by decide +kernel) rfl (by decide)] at f7
  rw [sAx e2 (i := 24) (j := 66) (by decide +kernel) rfl (by decide)] at f7
  have f8 := hNe (n1 _ (inA_at k0 (f := (24, .inr (lK (-1)), .inr (some 13))) (mK_at (by decide +kernel))))
  rw [sAx e2 (i := 13) (j := 16) (by decide +kernel) rfl (by decide)] at f8
  rw [sAx e2 (i := 24) (j := 66) (by decide +kernel) rfl (by decide)] at f8
  have f9 := hNe (n1 _ (inA_at k0 (f := (25, .inr (lK (-1)), .inr (some 14))) (mK_at (by decide +kernel))))
  rw [sAx e2 (i := 14) (j := 17) (by decide +kernel) rfl (by decide)] at f9
  rw [sAx e2 (i := 25) (j := 67) (by decide +kernel) rfl (by decide)] at f9
  have f10 := hNe (n1 _ (inA_at k0 (f := (26, .inr (lK (-1)), .inr (some 15))) (mK_at (by decide +kernel))))
  rw [sAx e2 (i := 15) (j := 18) (by decide +kernel) rfl (by decide)] at f10
  rw [sAx e2 (i := 26) (j := 68) (by decide +kernel) rfl (by decide)] at f10
  have f11 := hNe (n2 _ (inA_at k1 (f := (8, .inr (lK (-1)), .inr (some 9))) (mK_at (by decide +kernel))))
  rw [sAx e3 (i := 8) (j := 32) (by decide +kernel) rfl (by decide)] at f11
  rw [sAx e3 (i := 9) (j := 33) (by decide +kernel) rfl (by decide)] at f11
  have f12 := hNe (n2 _ (inA_at k1 (f := (11, .inr (lK (-1)), .inr (some 12))) (mK_at (by decide +kernel))))
  rw [sAx e3 (i := 11) (j := 35) (by decide +kernel) rfl (by decide)] at f12
  rw [sAx e3 (i := 12) (j := 36) (by decide +kernel) rfl (by decide)] at f12
  have f13 := hNe (n2 _ (inA_at k1 (f := (27, .inr (lK (-1)), .inr (some 28))) (mK_at (by decide +kernel))))
  rw [sAx e3 (i := 27) (j := 51) (by decide +kernel) rfl (by decide)] at f13
  rw [sAx e3 (i := 28) (j := 52) (by decide +kernel) rfl (by decide)] at f13
  have f14 := hNe (n2 _ (inA_at k1 (f := (4, .inr (lK (-1)), .inr (some 5))) (mK_at (by decide +kernel))))
  rw [sAx e3 (i := 4) (j := 28) (by decide +kernel) rfl (by decide)] at f14
  rw [sAx e3 (i := 5) (j := 29) (by decide +kernel) rfl (by decide)] at f14
  have f15 := hNe (n2 _ (inA_at k1 (f := (4, .inr (lK (-1)), .inr (some 6))) (mK_at (by decide +kernel))))
  rw [sAx e3 (i := 4) (j := 28) (by decide +kernel) rfl (by decide)] at f15
  rw [sAx e3 (i := 6) (j := 30) (by decide +kernel) rfl (by decide)] at f15
  have f16 := hNe (n2 _ (inA_at k1 (f := (5, .inr (lK (-1)), .inr (some 6))) (mK_at (by decide +kernel))))
  rw [sAx e3 (i := 5) (j := 29) (by decide +kernel) rfl (by decide)] at f16
  rw [sAx e3 (i := 6) (j := 30) (by decide +kernel) rfl (by decide)] at f16
  have f17 := hNe (n2 _ (inA_at k1 (f := (31, .inr (lK (-1)), .inr (some 38))) (mK_at (by decide +kernel))))
  rw [sAx e3 (i := 31) (j := 55) (by decide +kernel) rfl (by decide)] at f17
  rw [sAx e3 (i := 38) (j := 62) (by decide +kernel) rfl (by decide)] at f17
  have f18 := hNe (n2 _ (inA_at k1 (f := (33, .inr (lK (-1)), .inr (some 39))) (mK_at (by decide +kernel))))
  rw [sAx e3 (i := 33) (j := 57) (by decide +kernel) rfl (by decide)] at f18
  rw [sAx e3 (i := 39) (j := 63) (by decide +kernel) rfl (by decide)] at f18
  have f19 := hNe (n2 _ (inA_at k1 (f := (32, .inr (lK (-1)), .inr (some 40))) (mK_at (by decide +kernel))))
  rw [sAx e3 (i := 32) (j := 56) (by decide +kernel) rfl (by decide)] at f19
  rw [sAx e3 (i := 40) (j := 64) (by decide +kernel) rfl (by decide)] at f19
  have f20 := hNe (n2 _ (inA_at k1 (f := (34, .inr (lK (-1)), .inr (some 41))) (mK_at (by decide +kernel))))
  rw [sAx e3 (i := 34) (j := 58) (by decide +kernel) rfl (by decide)] at f20
  rw [sAx e3 (i := 41) (j := 65) (by decide +kernel) rfl (by decide)] at f20
  exact ⟨f0, f1, f2, f3, f4, f5, f6, f7, f8, f9, f10, f11, f12, f13, f14, f15, f16, f17, f18, f19, f20⟩
def FmW_A0 : List vK := [(3, .inr (lSy 1), .inr (some 27)), (27, .inl 3, .inr (some 28)), (28, .inl 0, .inr (some 29)), (28, .inl 1, .inl (lSy 3)), (29, .inr (lSy 2), .inl (lSy 4))]
def FmW_B0 : List vK := [(32, .inr (lSy 1), .inl (lSy 3)), (31, .inr (lSy 1), .inr (some 42)), (42, .inr (lSy 2), .inl (lSy 4))]
def FmW_A1 : List vK := [(3, .inr (lSy 1), .inr (some 27)), (27, .inl 3, .inr (some 28)), (28, .inl 0, .inr (some 29)), (28, .inl 1, .inl (lSy 3))]
def FmW_B1 : List vK := [(32, .inr (lSy 1), .inl (lSy 3))]
theorem FmW_ok : (wAl lwF5).all (fun x => (inA FmW_A0 x.1 && inA FmW_B0 x.2 && decide ((aI x.1)[3]? = some (0, 12)) && decide ((lAdd (lSy 3) (lAdd (lSc (-1) (lSy 2)) (lK (-1)))) ∈ aC x.1)) || (inA FmW_A1 x.1 && inA FmW_B1 x.2 && decide ((aI x.1)[3]? = some (0, 12)) && decide ((lAdd (lSc (-1) (lSy 3)) (lSy 2)) ∈ aC x.1))) = true := by decide +kernel
theorem FmW (h : HX ρ σ ty H n) {q : Nat} {k : Nat} (hq : q < n) (hk : k < 12) : (∃ (p27 p28 p29 q42 : Nat), ∃ (z3 z4 : Int), rV H (sR σ 6) q = some (.inr (some (p27))) ∧ rV H (p27) 3 = some (.inr (some (p28))) ∧ rV H (p28) 0 = some (.inr (some (p29))) ∧ rV H (p28) 1 = some (.inl (Int32.ofInt (z3))) ∧ rV H (p29) k = some (.inl (Int32.ofInt (z4))) ∧ rV H (sR σ 56) q = some (.inl (Int32.ofInt (z3))) ∧ rV H (sR σ 55) q = some (.inr (some (q42))) ∧ rV H (q42) k = some (.inl (Int32.ofInt (z4))) ∧ ((0 : Int) ≤ z3 ∧ z3 ≤ 12) ∧ (0 : Int) ≤ (z3 + ((-1) * (k : Int) + (-1)))) ∨ (∃ (p27 p28 p29 : Nat), ∃ (z3 : Int), rV H (sR σ 6) q = some (.inr (some (p27))) ∧ rV H (p27) 3 = some (.inr (some (p28))) ∧ rV H (p28) 0 = some (.inr (some (p29))) ∧ rV H (p28) 1 = some (.inl (Int32.ofInt (z3))) ∧ rV H (sR σ 56) q = some (.inl (Int32.ofInt (z3))) ∧ ((0 : Int) ≤ z3 ∧ z3 ≤ 12) ∧ (0 : Int) ≤ ((-1) * z3 + (k : Int))) := by
  have hn := HX_12 h
  have hw := h.2.1 lwF5 (List.mem_of_getElem? (i := 5) rfl) (evL [(n : Int), (q : Int), (k : Int)]) (pin_of h rfl) (fun j p hj => by
    rcases j with _ | _ | j
    · cases hj
      exact ⟨show (0 : Int) ≤ (q : Int) by omega, show (q : Int) ≤ 11 by omega⟩
    · cases hj
      exact ⟨show (0 : Int) ≤ (k : Int) by omega, show (k : Int) ≤ 11 by omega⟩
    · cases hj) (fun c hc => by
    have hc : c ∈ [(lAdd (lSc (-1) (lSy 1)) (lAdd (lSy 0) (lK (-1))))] := hc
    simp only [List.mem_cons, List.not_mem_nil, or_false] at hc
    rcases hc with rfl
    · simp only [lAdd_ev, lSc_ev, lSy_ev, lK_ev]
      show (0 : Int) ≤ ((-1) * (q : Int) + ((n : Int) + (-1)))
      omega)
  obtain ⟨x, hx, ρ2, σA, σB, e1, e2, e3, n1, n2, n3, n4⟩ := hw
  have r0 : ρ2 0 = (n : Int) := e1 0 (by decide +kernel)
  have r1 : ρ2 1 = (q : Int) := e1 1 (by decide +kernel)
  have r2 : ρ2 2 = (k : Int) := e1 2 (by decide +kernel)
  have kk := List.all_eq_true.mp FmW_ok x hx
  simp only [Bool.or_eq_true] at kk
  rcases kk with kk | kk
  · simp only [Bool.and_eq_true] at kk
    obtain ⟨⟨⟨k0, k1⟩, k2⟩, k3⟩ := kk
    have f0 := fE (n1 _ (inA_at k0 (f := (3, .inr (lSy 1), .inr (some 27))) (mK_at (by decide +kernel)))) (j := q) ((lSy_ev _ _).trans r1)
    rw [sAx e2 (i := 3) (j := 6) (by decide +kernel) rfl (by decide)] at f0
    have f1 := fO (n1 _ (inA_at k0 (f := (27, .inl 3, .inr (some 28))) (mK_at (by decide +kernel))))
    have f2 := fO (n1 _ (inA_at k0 (f := (28, .inl 0, .inr (some 29))) (mK_at (by decide +kernel))))
    have f3 := fI (n1 _ (inA_at k0 (f := (28, .inl 1, .inl (lSy 3))) (mK_at (by decide +kernel))))
    simp only [lAdd_ev, lSc_ev, lSy_ev, lK_ev, r0, r1, r2] at f3
    have f4 := fJ (n1 _ (inA_at k0 (f := (29, .inr (lSy 2), .inl (lSy 4))) (mK_at (by decide +kernel)))) (j := k) ((lSy_ev _ _).trans r2)
    simp only [lAdd_ev, lSc_ev, lSy_ev, lK_ev, r0, r1, r2] at f4
    have f5 := fJ (n2 _ (inA_at k1 (f := (32, .inr (lSy 1), .inl (lSy 3))) (mK_at (by decide +kernel)))) (j := q) ((lSy_ev _ _).trans r1)
    rw [sAx e3 (i := 32) (j := 56) (by decide +kernel) rfl (by decide)] at f5
    simp only [lAdd_ev, lSc_ev, lSy_ev, lK_ev, r0, r1, r2] at f5
    have f6 := fE (n2 _ (inA_at k1 (f := (31, .inr (lSy 1), .inr (some 42))) (mK_at (by decide +kernel)))) (j := q) ((lSy_ev _ _).trans r1)
    rw [sAx e3 (i := 31) (j := 55) (by decide +kernel) rfl (by decide)] at f6
    have f7 := fJ (n2 _ (inA_at k1 (f := (42, .inr (lSy 2), .inl (lSy 4))) (mK_at (by decide +kernel)))) (j := k) ((lSy_ev _ _).trans r2)
    simp only [lAdd_ev, lSc_ev, lSy_ev, lK_ev, r0, r1, r2] at f7
    have b3 : (0 : Int) ≤ ρ2 3 ∧ ρ2 3 ≤ 12 := by
      have := zipI_spec.mp n3 3 _ (of_decide_eq_true k2)
      simpa using this
    have c0 := n4 _ (of_decide_eq_true k3)
    simp only [lAdd_ev, lSc_ev, lSy_ev, lK_ev, r0, r1, r2] at c0
    exact Or.inl ⟨_, _, _, _, ρ2 3, ρ2 4, f0, f1, f2, f3, f4, f5, f6, f7, b3, c0⟩
  · simp only [Bool.and_eq_true] at kk
    obtain ⟨⟨⟨k0, k1⟩, k2⟩, k3⟩ := kk
    have f0 := fE (n1 _ (inA_at k0 (f := (3, .inr (lSy 1), .inr (some 27))) (mK_at (by decide +kernel)))) (j := q) ((lSy_ev _ _).trans r1)
    rw [sAx e2 (i := 3) (j := 6) (by decide +kernel) rfl (by decide)] at f0
    have f1 := fO (n1 _ (inA_at k0 (f := (27, .inl 3, .inr (some 28))) (mK_at (by decide +kernel))))
    have f2 := fO (n1 _ (inA_at k0 (f := (28, .inl 0, .inr (some 29))) (mK_at (by decide +kernel))))
    have f3 := fI (n1 _ (inA_at k0 (f := (28, .inl 1, .inl (lSy 3))) (mK_at (by decide +kernel))))
    simp only [lAdd_ev, lSc_ev, lSy_ev, lK_ev, r0, r1, r2] at f3
    have f4 := fJ (n2 _ (inA_at k1 (f := (32, .inr (lSy 1), .inl (lSy 3))) (mK_at (by decide +kernel)))) (j := q) ((lSy_ev _ _).trans r1)
    rw [sAx e3 (i := 32) (j := 56) (by decide +kernel) rfl (by decide)] at f4
    simp only [lAdd_ev, lSc_ev, lSy_ev, lK_ev, r0, r1, r2] at f4
    have b3 : (0 : Int) ≤ ρ2 3 ∧ ρ2 3 ≤ 12 := by
      have := zipI_spec.mp n3 3 _ (of_decide_eq_true k2)
      simpa using this
    have c0 := n4 _ (of_decide_eq_true k3)
    simp only [lAdd_ev, lSc_ev, lSy_ev, lK_ev, r0, r1, r2] at c0
    exact Or.inr (⟨_, _, _, ρ2 3, f0, f1, f2, f3, f4, b3, c0⟩)
def FmT_A0 : List vK := [(3, .inr (lSy 1), .inr (some 27)), (27, .inl 4, .inr (some 28)), (28, .inl 0, .inr (some 29)), (28, .inl 1, .inl (lSy 3)), (29, .inr (lSy 2), .inl (lSy 4))]
def FmT_B0 : List vK := [(34, .inr (lSy 1), .inl (lSy 3)), (33, .inr (lSy 1), .inr (some 42)), (42, .inr (lSy 2), .inl (lSy 4))]
def FmT_A1 : List vK := [(3, .inr (lSy 1), .inr (some 27)), (27, .inl 4, .inr (some 28)), (28, .inl 0, .inr (some 29)), (28, .inl 1, .inl (lSy 3))]
def FmT_B1 : List vK := [(34, .inr (lSy 1), .inl (lSy 3))]
theorem FmT_ok : (wAl lwF6).all (fun x => (inA FmT_A0 x.1 && inA FmT_B0 x.2 && decide ((aI x.1)[3]? = some (0, 12)) && decide ((lAdd (lSy 3) (lAdd (lSc (-1) (lSy 2)) (lK (-1)))) ∈ aC x.1)) || (inA FmT_A1 x.1 && inA FmT_B1 x.2 && decide ((aI x.1)[3]? = some (0, 12)) && decide ((lAdd (lSc (-1) (lSy 3)) (lSy 2)) ∈ aC x.1))) = true := by decide +kernel
theorem FmT (h : HX ρ σ ty H n) {q : Nat} {k : Nat} (hq : q < n) (hk : k < 12) : (∃ (p27 p28 p29 q42 : Nat), ∃ (z3 z4 : Int), rV H (sR σ 6) q = some (.inr (some (p27))) ∧ rV H (p27) 4 = some (.inr (some (p28))) ∧ rV H (p28) 0 = some (.inr (some (p29))) ∧ rV H (p28) 1 = some (.inl (Int32.ofInt (z3))) ∧ rV H (p29) k = some (.inl (Int32.ofInt (z4))) ∧ rV H (sR σ 58) q = some (.inl (Int32.ofInt (z3))) ∧ rV H (sR σ 57) q = some (.inr (some (q42))) ∧ rV H (q42) k = some (.inl (Int32.ofInt (z4))) ∧ ((0 : Int) ≤ z3 ∧ z3 ≤ 12) ∧ (0 : Int) ≤ (z3 + ((-1) * (k : Int) + (-1)))) ∨ (∃ (p27 p28 p29 : Nat), ∃ (z3 : Int), rV H (sR σ 6) q = some (.inr (some (p27))) ∧ rV H (p27) 4 = some (.inr (some (p28))) ∧ rV H (p28) 0 = some (.inr (some (p29))) ∧ rV H (p28) 1 = some (.inl (Int32.ofInt (z3))) ∧ rV H (sR σ 58) q = some (.inl (Int32.ofInt (z3))) ∧ ((0 : Int) ≤ z3 ∧ z3 ≤ 12) ∧ (0 : Int) ≤ ((-1) * z3 + (k : Int))) := by
  have hn := HX_12 h
  have hw := h.2.1 lwF6 (List.mem_of_getElem? (i := 6) rfl) (evL [(n : Int), (q : Int), (k : Int)]) (pin_of h rfl) (fun j p hj => by
    rcases j with _ | _ | j
    · cases hj
      exact ⟨show (0 : Int) ≤ (q : Int) by omega, show (q : Int) ≤ 11 by omega⟩
    · cases hj
      exact ⟨show (0 : Int) ≤ (k : Int) by omega, show (k : Int) ≤ 11 by omega⟩
    · cases hj) (fun c hc => by
    have hc : c ∈ [(lAdd (lSc (-1) (lSy 1)) (lAdd (lSy 0) (lK (-1))))] := hc
    simp only [List.mem_cons, List.not_mem_nil, or_false] at hc
    rcases hc with rfl
    · simp only [lAdd_ev, lSc_ev, lSy_ev, lK_ev]
      show (0 : Int) ≤ ((-1) * (q : Int) + ((n : Int) + (-1)))
      omega)
  obtain ⟨x, hx, ρ2, σA, σB, e1, e2, e3, n1, n2, n3, n4⟩ := hw
  have r0 : ρ2 0 = (n : Int) := e1 0 (by decide +kernel)
  have r1 : ρ2 1 = (q : Int) := e1 1 (by decide +kernel)
  have r2 : ρ2 2 = (k : Int) := e1 2 (by decide +kernel)
  have kk := List.all_eq_true.mp FmT_ok x hx
  simp only [Bool.or_eq_true] at kk
  rcases kk with kk | kk
  · simp only [Bool.and_eq_true] at kk
    obtain ⟨⟨⟨k0, k1⟩, k2⟩, k3⟩ := kk
    have f0 := fE (n1 _ (inA_at k0 (f := (3, .inr (lSy 1), .inr (some 27))) (mK_at (by decide +kernel)))) (j := q) ((lSy_ev _ _).trans r1)
    rw [sAx e2 (i := 3) (j := 6) (by decide +kernel) rfl (by decide)] at f0
    have f1 := fO (n1 _ (inA_at k0 (f := (27, .inl 4, .inr (some 28))) (mK_at (by decide +kernel))))
    have f2 := fO (n1 _ (inA_at k0 (f := (28, .inl 0, .inr (some 29))) (mK_at (by decide +kernel))))
    have f3 := fI (n1 _ (inA_at k0 (f := (28, .inl 1, .inl (lSy 3))) (mK_at (by decide +kernel))))
    simp only [lAdd_ev, lSc_ev, lSy_ev, lK_ev, r0, r1, r2] at f3
    have f4 := fJ (n1 _ (inA_at k0 (f := (29, .inr (lSy 2), .inl (lSy 4))) (mK_at (by decide +kernel)))) (j := k) ((lSy_ev _ _).trans r2)
    simp only [lAdd_ev, lSc_ev, lSy_ev, lK_ev, r0, r1, r2] at f4
    have f5 := fJ (n2 _ (inA_at k1 (f := (34, .inr (lSy 1), .inl (lSy 3))) (mK_at (by decide +kernel)))) (j := q) ((lSy_ev _ _).trans r1)
    rw [sAx e3 (i := 34) (j := 58) (by decide +kernel) rfl (by decide)] at f5
    simp only [lAdd_ev, lSc_ev, lSy_ev, lK_ev, r0, r1, r2] at f5
    have f6 := fE (n2 _ (inA_at k1 (f := (33, .inr (lSy 1), .inr (some 42))) (mK_at (by decide +kernel)))) (j := q) ((lSy_ev _ _).trans r1)
    rw [sAx e3 (i := 33) (j := 57) (by decide +kernel) rfl (by decide)] at f6
    have f7 := fJ (n2 _ (inA_at k1 (f := (42, .inr (lSy 2), .inl (lSy 4))) (mK_at (by decide +kernel)))) (j := k) ((lSy_ev _ _).trans r2)
    simp only [lAdd_ev, lSc_ev, lSy_ev, lK_ev, r0, r1, r2] at f7
    have b3 : (0 : Int) ≤ ρ2 3 ∧ ρ2 3 ≤ 12 := by
      have := zipI_spec.mp n3 3 _ (of_decide_eq_true k2)
      simpa using this
    have c0 := n4 _ (of_decide_eq_true k3)
    simp only [lAdd_ev, lSc_ev, lSy_ev, lK_ev, r0, r1, r2] at c0
    exact Or.inl ⟨_, _, _, _, ρ2 3, ρ2 4, f0, f1, f2, f3, f4, f5, f6, f7, b3, c0⟩
  · simp only [Bool.and_eq_true] at kk
    obtain ⟨⟨⟨k0, k1⟩, k2⟩, k3⟩ := kk
    have f0 := fE (n1 _ (inA_at k0 (f := (3, .inr (lSy 1), .inr (some 27))) (mK_at (by decide +kernel)))) (j := q) ((lSy_ev _ _).trans r1)
    rw [sAx e2 (i := 3) (j := 6) (by decide +kernel) rfl (by decide)] at f0
    have f1 := fO (n1 _ (inA_at k0 (f := (27, .inl 4, .inr (some 28))) (mK_at (by decide +kernel))))
    have f2 := fO (n1 _ (inA_at k0 (f := (28, .inl 0, .inr (some 29))) (mK_at (by decide +kernel))))
    have f3 := fI (n1 _ (inA_at k0 (f := (28, .inl 1, .inl (lSy 3))) (mK_at (by decide +kernel))))
    simp only [lAdd_ev, lSc_ev, lSy_ev, lK_ev, r0, r1, r2] at f3
    have f4 := fJ (n2 _ (inA_at k1 (f := (34, .inr (lSy 1), .inl (lSy 3))) (mK_at (by decide +kernel)))) (j := q) ((lSy_ev _ _).trans r1)
    rw [sAx e3 (i := 34) (j := 58) (by decide +kernel) rfl (by decide)] at f4
    simp only [lAdd_ev, lSc_ev, lSy_ev, lK_ev, r0, r1, r2] at f4
    have b3 : (0 : Int) ≤ ρ2 3 ∧ ρ2 3 ≤ 12 := by
      have := zipI_spec.mp n3 3 _ (of_decide_eq_true k2)
      simpa using this
    have c0 := n4 _ (of_decide_eq_true k3)
    simp only [lAdd_ev, lSc_ev, lSy_ev, lK_ev, r0, r1, r2] at c0
    exact Or.inr (⟨_, _, _, ρ2 3, f0, f1, f2, f3, f4, b3, c0⟩)
def FmS_A0 : List vK := [(3, .inr (lSy 1), .inr (some 27)), (27, .inl 2, .inr (some 28)), (28, .inl 0, .inr (some 29)), (28, .inl 1, .inl (lSy 3)), (29, .inr (lSy 2), .inl (lSy 4))]
def FmS_B0 : List vK := [(30, .inr (lSy 1), .inl (lSy 3)), (29, .inr (lSy 1), .inr (some 42)), (42, .inr (lSy 2), .inl (lSy 4))]
def FmS_A1 : List vK := [(3, .inr (lSy 1), .inr (some 27)), (27, .inl 2, .inr (some 28)), (28, .inl 0, .inr (some 29)), (28, .inl 1, .inl (lSy 3)), (29, .inr (lSy 2), .inl (lK 0))]
def FmS_B1 : List vK := [(30, .inr (lSy 1), .inl (lSy 3)), (29, .inr (lSy 1), .inr (some 42)), (42, .inr (lSy 2), .inl (lK (-1)))]
def FmS_A2 : List vK := [(3, .inr (lSy 1), .inr (some 27)), (27, .inl 2, .inr (some 28)), (28, .inl 0, .inr (some 29)), (28, .inl 1, .inl (lSy 3))]
def FmS_B2 : List vK := [(30, .inr (lSy 1), .inl (lSy 3)), (29, .inr (lSy 1), .inr (some 42))]
theorem FmS_ok : (wAl lwF7).all (fun x => (inA FmS_A0 x.1 && inA FmS_B0 x.2 && decide ((aI x.1)[3]? = some (0, 12)) && decide ((aI x.1)[4]? = some (0, 9999)) && decide ((lAdd (lSy 3) (lAdd (lSc (-1) (lSy 2)) (lK (-1)))) ∈ aC x.1)) || (inA FmS_A1 x.1 && inA FmS_B1 x.2 && decide ((aI x.1)[3]? = some (0, 12)) && decide ((lAdd (lSy 3) (lAdd (lSc (-1) (lSy 2)) (lK (-1)))) ∈ aC x.1)) || (inA FmS_A2 x.1 && inA FmS_B2 x.2 && decide ((aI x.1)[3]? = some (0, 12)) && decide ((lAdd (lSc (-1) (lSy 3)) (lSy 2)) ∈ aC x.1))) = true := by decide +kernel
theorem FmS (h : HX ρ σ ty H n) {q : Nat} {k : Nat} (hq : q < n) (hk : k < 12) : (∃ (p27 p28 p29 q42 : Nat), ∃ (z3 z4 : Int), rV H (sR σ 6) q = some (.inr (some (p27))) ∧ rV H (p27) 2 = some (.inr (some (p28))) ∧ rV H (p28) 0 = some (.inr (some (p29))) ∧ rV H (p28) 1 = some (.inl (Int32.ofInt (z3))) ∧ rV H (p29) k = some (.inl (Int32.ofInt (z4))) ∧ rV H (sR σ 54) q = some (.inl (Int32.ofInt (z3))) ∧ rV H (sR σ 53) q = some (.inr (some (q42))) ∧ rV H (q42) k = some (.inl (Int32.ofInt (z4))) ∧ ((0 : Int) ≤ z3 ∧ z3 ≤ 12) ∧ ((0 : Int) ≤ z4 ∧ z4 ≤ 9999) ∧ (0 : Int) ≤ (z3 + ((-1) * (k : Int) + (-1)))) ∨ (∃ (p27 p28 p29 q42 : Nat), ∃ (z3 : Int), rV H (sR σ 6) q = some (.inr (some (p27))) ∧ rV H (p27) 2 = some (.inr (some (p28))) ∧ rV H (p28) 0 = some (.inr (some (p29))) ∧ rV H (p28) 1 = some (.inl (Int32.ofInt (z3))) ∧ rV H (p29) k = some (.inl (Int32.ofInt (0))) ∧ rV H (sR σ 54) q = some (.inl (Int32.ofInt (z3))) ∧ rV H (sR σ 53) q = some (.inr (some (q42))) ∧ rV H (q42) k = some (.inl (Int32.ofInt ((-1)))) ∧ ((0 : Int) ≤ z3 ∧ z3 ≤ 12) ∧ (0 : Int) ≤ (z3 + ((-1) * (k : Int) + (-1)))) ∨ (∃ (p27 p28 p29 q42 : Nat), ∃ (z3 : Int), rV H (sR σ 6) q = some (.inr (some (p27))) ∧ rV H (p27) 2 = some (.inr (some (p28))) ∧ rV H (p28) 0 = some (.inr (some (p29))) ∧ rV H (p28) 1 = some (.inl (Int32.ofInt (z3))) ∧ rV H (sR σ 54) q = some (.inl (Int32.ofInt (z3))) ∧ rV H (sR σ 53) q = some (.inr (some (q42))) ∧ ((0 : Int) ≤ z3 ∧ z3 ≤ 12) ∧ (0 : Int) ≤ ((-1) * z3 + (k : Int))) := by
  have hn := HX_12 h
  have hw := h.2.1 lwF7 (List.mem_of_getElem? (i := 7) rfl) (evL [(n : Int), (q : Int), (k : Int)]) (pin_of h rfl) (fun j p hj => by
    rcases j with _ | _ | j
    · cases hj
      exact ⟨show (0 : Int) ≤ (q : Int) by omega, show (q : Int) ≤ 11 by omega⟩
    · cases hj
      exact ⟨show (0 : Int) ≤ (k : Int) by omega, show (k : Int) ≤ 11 by omega⟩
    · cases hj) (fun c hc => by
    have hc : c ∈ [(lAdd (lSc (-1) (lSy 1)) (lAdd (lSy 0) (lK (-1))))] := hc
    simp only [List.mem_cons, List.not_mem_nil, or_false] at hc
    rcases hc with rfl
    · simp only [lAdd_ev, lSc_ev, lSy_ev, lK_ev]
      show (0 : Int) ≤ ((-1) * (q : Int) + ((n : Int) + (-1)))
      omega)
  obtain ⟨x, hx, ρ2, σA, σB, e1, e2, e3, n1, n2, n3, n4⟩ := hw
  have r0 : ρ2 0 = (n : Int) := e1 0 (by decide +kernel)
  have r1 : ρ2 1 = (q : Int) := e1 1 (by decide +kernel)
  have r2 : ρ2 2 = (k : Int) := e1 2 (by decide +kernel)
  have kk := List.all_eq_true.mp FmS_ok x hx
  simp only [Bool.or_eq_true] at kk
  rcases kk with (kk | kk) | kk
  · simp only [Bool.and_eq_true] at kk
    obtain ⟨⟨⟨⟨k0, k1⟩, k2⟩, k3⟩, k4⟩ := kk
    have f0 := fE (n1 _ (inA_at k0 (f := (3, .inr (lSy 1), .inr (some 27))) (mK_at (by decide +kernel)))) (j := q) ((lSy_ev _ _).trans r1)
    rw [sAx e2 (i := 3) (j := 6) (by decide +kernel) rfl (by decide)] at f0
    have f1 := fO (n1 _ (inA_at k0 (f := (27, .inl 2, .inr (some 28))) (mK_at (by decide +kernel))))
    have f2 := fO (n1 _ (inA_at k0 (f := (28, .inl 0, .inr (some 29))) (mK_at (by decide +kernel))))
    have f3 := fI (n1 _ (inA_at k0 (f := (28, .inl 1, .inl (lSy 3))) (mK_at (by decide +kernel))))
    simp only [lAdd_ev, lSc_ev, lSy_ev, lK_ev, r0, r1, r2] at f3
    have f4 := fJ (n1 _ (inA_at k0 (f := (29, .inr (lSy 2), .inl (lSy 4))) (mK_at (by decide +kernel)))) (j := k) ((lSy_ev _ _).trans r2)
    simp only [lAdd_ev, lSc_ev, lSy_ev, lK_ev, r0, r1, r2] at f4
    have f5 := fJ (n2 _ (inA_at k1 (f := (30, .inr (lSy 1), .inl (lSy 3))) (mK_at (by decide +kernel)))) (j := q) ((lSy_ev _ _).trans r1)
    rw [sAx e3 (i := 30) (j := 54) (by decide +kernel) rfl (by decide)] at f5
    simp only [lAdd_ev, lSc_ev, lSy_ev, lK_ev, r0, r1, r2] at f5
    have f6 := fE (n2 _ (inA_at k1 (f := (29, .inr (lSy 1), .inr (some 42))) (mK_at (by decide +kernel)))) (j := q) ((lSy_ev _ _).trans r1)
    rw [sAx e3 (i := 29) (j := 53) (by decide +kernel) rfl (by decide)] at f6
    have f7 := fJ (n2 _ (inA_at k1 (f := (42, .inr (lSy 2), .inl (lSy 4))) (mK_at (by decide +kernel)))) (j := k) ((lSy_ev _ _).trans r2)
    simp only [lAdd_ev, lSc_ev, lSy_ev, lK_ev, r0, r1, r2] at f7
    have b3 : (0 : Int) ≤ ρ2 3 ∧ ρ2 3 ≤ 12 := by
      have := zipI_spec.mp n3 3 _ (of_decide_eq_true k2)
      simpa using this
    have b4 : (0 : Int) ≤ ρ2 4 ∧ ρ2 4 ≤ 9999 := by
      have := zipI_spec.mp n3 4 _ (of_decide_eq_true k3)
      simpa using this
    have c0 := n4 _ (of_decide_eq_true k4)
    simp only [lAdd_ev, lSc_ev, lSy_ev, lK_ev, r0, r1, r2] at c0
    exact Or.inl ⟨_, _, _, _, ρ2 3, ρ2 4, f0, f1, f2, f3, f4, f5, f6, f7, b3, b4, c0⟩
  · simp only [Bool.and_eq_true] at kk
    obtain ⟨⟨⟨k0, k1⟩, k2⟩, k3⟩ := kk
    have f0 := fE (n1 _ (inA_at k0 (f := (3, .inr (lSy 1), .inr (some 27))) (mK_at (by decide +kernel)))) (j := q) ((lSy_ev _ _).trans r1)
    rw [sAx e2 (i := 3) (j := 6) (by decide +kernel) rfl (by decide)] at f0
    have f1 := fO (n1 _ (inA_at k0 (f := (27, .inl 2, .inr (some 28))) (mK_at (by decide +kernel))))
    have f2 := fO (n1 _ (inA_at k0 (f := (28, .inl 0, .inr (some 29))) (mK_at (by decide +kernel))))
    have f3 := fI (n1 _ (inA_at k0 (f := (28, .inl 1, .inl (lSy 3))) (mK_at (by decide +kernel))))
    simp only [lAdd_ev, lSc_ev, lSy_ev, lK_ev, r0, r1, r2] at f3
    have f4 := fJ (n1 _ (inA_at k0 (f := (29, .inr (lSy 2), .inl (lK 0))) (mK_at (by decide +kernel)))) (j := k) ((lSy_ev _ _).trans r2)
    simp only [lAdd_ev, lSc_ev, lSy_ev, lK_ev, r0, r1, r2] at f4
    have f5 := fJ (n2 _ (inA_at k1 (f := (30, .inr (lSy 1), .inl (lSy 3))) (mK_at (by decide +kernel)))) (j := q) ((lSy_ev _ _).trans r1)
    rw [sAx e3 (i := 30) (j := 54) (by decide +kernel) rfl (by decide)] at f5
    simp only [lAdd_ev, lSc_ev, lSy_ev, lK_ev, r0, r1, r2] at f5
    have f6 := fE (n2 _ (inA_at k1 (f := (29, .inr (lSy 1), .inr (some 42))) (mK_at (by decide +kernel)))) (j := q) ((lSy_ev _ _).trans r1)
    rw [sAx e3 (i := 29) (j := 53) (by decide +kernel) rfl (by decide)] at f6
    have f7 := fJ (n2 _ (inA_at k1 (f := (42, .inr (lSy 2), .inl (lK (-1)))) (mK_at (by decide +kernel)))) (j := k) ((lSy_ev _ _).trans r2)
    simp only [lAdd_ev, lSc_ev, lSy_ev, lK_ev, r0, r1, r2] at f7
    have b3 : (0 : Int) ≤ ρ2 3 ∧ ρ2 3 ≤ 12 := by
      have := zipI_spec.mp n3 3 _ (of_decide_eq_true k2)
      simpa using this
    have c0 := n4 _ (of_decide_eq_true k3)
    simp only [lAdd_ev, lSc_ev, lSy_ev, lK_ev, r0, r1, r2] at c0
    exact Or.inr (Or.inl ⟨_, _, _, _, ρ2 3, f0, f1, f2, f3, f4, f5, f6, f7, b3, c0⟩)
  · simp only [Bool.and_eq_true] at kk
    obtain ⟨⟨⟨k0, k1⟩, k2⟩, k3⟩ := kk
    have f0 := fE (n1 _ (inA_at k0 (f := (3, .inr (lSy 1), .inr (some 27))) (mK_at (by decide +kernel)))) (j := q) ((lSy_ev _ _).trans r1)
    rw [sAx e2 (i := 3) (j := 6) (by decide +kernel) rfl (by decide)] at f0
    have f1 := fO (n1 _ (inA_at k0 (f := (27, .inl 2, .inr (some 28))) (mK_at (by decide +kernel))))
    have f2 := fO (n1 _ (inA_at k0 (f := (28, .inl 0, .inr (some 29))) (mK_at (by decide +kernel))))
    have f3 := fI (n1 _ (inA_at k0 (f := (28, .inl 1, .inl (lSy 3))) (mK_at (by decide +kernel))))
    simp only [lAdd_ev, lSc_ev, lSy_ev, lK_ev, r0, r1, r2] at f3
    have f4 := fJ (n2 _ (inA_at k1 (f := (30, .inr (lSy 1), .inl (lSy 3))) (mK_at (by decide +kernel)))) (j := q) ((lSy_ev _ _).trans r1)
    rw [sAx e3 (i := 30) (j := 54) (by decide +kernel) rfl (by decide)] at f4
    simp only [lAdd_ev, lSc_ev, lSy_ev, lK_ev, r0, r1, r2] at f4
    have f5 := fE (n2 _ (inA_at k1 (f := (29, .inr (lSy 1), .inr (some 42))) (mK_at (by decide +kernel)))) (j := q) ((lSy_ev _ _).trans r1)
    rw [sAx e3 (i := 29) (j := 53) (by decide +kernel) rfl (by decide)] at f5
    have b3 : (0 : Int) ≤ ρ2 3 ∧ ρ2 3 ≤ 12 := by
      have := zipI_spec.mp n3 3 _ (of_decide_eq_true k2)
      simpa using this
    have c0 := n4 _ (of_decide_eq_true k3)
    simp only [lAdd_ev, lSc_ev, lSy_ev, lK_ev, r0, r1, r2] at c0
    exact Or.inr (Or.inr (⟨_, _, _, _, ρ2 3, f0, f1, f2, f3, f4, f5, b3, c0⟩))
def FmzS_A0 : List vK := [(3, .inr (lSy 1), .inr (some 27)), (27, .inl 2, .inr (some 28)), (28, .inl 0, .inr (some 29)), (28, .inl 1, .inl (lSy 2))]
def FmzS_B0 : List vK := [(30, .inr (lSy 1), .inl (lSy 2)), (29, .inr (lSy 1), .inr (some 42))]
theorem FmzS_ok : (wAl lwF8).all (fun x => (inA FmzS_A0 x.1 && inA FmzS_B0 x.2 && decide ((aI x.1)[2]? = some (0, 12)))) = true := by decide +kernel
theorem FmzS (h : HX ρ σ ty H n) {q : Nat} (hq : q < n) : ∃ (p27 p28 p29 q42 : Nat), ∃ (z2 : Int), rV H (sR σ 6) q = some (.inr (some (p27))) ∧ rV H (p27) 2 = some (.inr (some (p28))) ∧ rV H (p28) 0 = some (.inr (some (p29))) ∧ rV H (p28) 1 = some (.inl (Int32.ofInt (z2))) ∧ rV H (sR σ 54) q = some (.inl (Int32.ofInt (z2))) ∧ rV H (sR σ 53) q = some (.inr (some (q42))) ∧ ((0 : Int) ≤ z2 ∧ z2 ≤ 12) := by
  have hn := HX_12 h
  have hw := h.2.1 lwF8 (List.mem_of_getElem? (i := 8) rfl) (evL [(n : Int), (q : Int)]) (pin_of h rfl) (fun j p hj => by
    rcases j with _ | j
    · cases hj
      exact ⟨show (0 : Int) ≤ (q : Int) by omega, show (q : Int) ≤ 11 by omega⟩
    · cases hj) (fun c hc => by
    have hc : c ∈ [(lAdd (lSc (-1) (lSy 1)) (lAdd (lSy 0) (lK (-1))))] := hc
    simp only [List.mem_cons, List.not_mem_nil, or_false] at hc
    rcases hc with rfl
    · simp only [lAdd_ev, lSc_ev, lSy_ev, lK_ev]
      show (0 : Int) ≤ ((-1) * (q : Int) + ((n : Int) + (-1)))
      omega)
  obtain ⟨x, hx, ρ2, σA, σB, e1, e2, e3, n1, n2, n3, n4⟩ := hw
  have r0 : ρ2 0 = (n : Int) := e1 0 (by decide +kernel)
  have r1 : ρ2 1 = (q : Int) := e1 1 (by decide +kernel)
  have kk := List.all_eq_true.mp FmzS_ok x hx
  simp only [Bool.and_eq_true] at kk
  obtain ⟨⟨k0, k1⟩, k2⟩ := kk
  have f0 := fE (n1 _ (inA_at k0 (f := (3, .inr (lSy 1), .inr (some 27))) (mK_at (by decide +kernel)))) (j := q) ((lSy_ev _ _).trans r1)
  rw [sAx e2 (i := 3) (j := 6) (by decide +kernel) rfl (by decide)] at f0
  have f1 := fO (n1 _ (inA_at k0 (f := (27, .inl 2, .inr (some 28))) (mK_at (by decide +kernel))))
  have f2 := fO (n1 _ (inA_at k0 (f := (28, .inl 0, .inr (some 29))) (mK_at (by decide +kernel))))
  have f3 := fI (n1 _ (inA_at k0 (f := (28, .inl 1, .inl (lSy 2))) (mK_at (by decide +kernel))))
  simp only [lAdd_ev, lSc_ev, lSy_ev, lK_ev, r0, r1] at f3
  have f4 := fJ (n2 _ (inA_at k1 (f := (30, .inr (lSy 1), .inl (lSy 2))) (mK_at (by decide +kernel)))) (j := q) ((lSy_ev _ _).trans r1)
  rw [sAx e3 (i := 30) (j := 54) (by decide +kernel) rfl (by decide)] at f4
  simp only [lAdd_ev, lSc_ev, lSy_ev, lK_ev, r0, r1] at f4
  have f5 := fE (n2 _ (inA_at k1 (f := (29, .inr (lSy 1), .inr (some 42))) (mK_at (by decide +kernel)))) (j := q) ((lSy_ev _ _).trans r1)
  rw [sAx e3 (i := 29) (j := 53) (by decide +kernel) rfl (by decide)] at f5
  have b2 : (0 : Int) ≤ ρ2 2 ∧ ρ2 2 ≤ 12 := by
    have := zipI_spec.mp n3 2 _ (of_decide_eq_true k2)
    simpa using this
  exact ⟨_, _, _, _, ρ2 2, f0, f1, f2, f3, f4, f5, b2⟩
def FmzW_A0 : List vK := [(3, .inr (lSy 1), .inr (some 27)), (27, .inl 3, .inr (some 28)), (28, .inl 0, .inr (some 29)), (28, .inl 1, .inl (lSy 2))]
def FmzW_B0 : List vK := [(32, .inr (lSy 1), .inl (lSy 2))]
theorem FmzW_ok : (wAl lwF9).all (fun x => (inA FmzW_A0 x.1 && inA FmzW_B0 x.2 && decide ((aI x.1)[2]? = some (0, 12)))) = true := by decide +kernel
theorem FmzW (h : HX ρ σ ty H n) {q : Nat} (hq : q < n) : ∃ (p27 p28 p29 : Nat), ∃ (z2 : Int), rV H (sR σ 6) q = some (.inr (some (p27))) ∧ rV H (p27) 3 = some (.inr (some (p28))) ∧ rV H (p28) 0 = some (.inr (some (p29))) ∧ rV H (p28) 1 = some (.inl (Int32.ofInt (z2))) ∧ rV H (sR σ 56) q = some (.inl (Int32.ofInt (z2))) ∧ ((0 : Int) ≤ z2 ∧ z2 ≤ 12) := by
  have hn := HX_12 h
  have hw := h.2.1 lwF9 (List.mem_of_getElem? (i := 9) rfl) (evL [(n : Int), (q : Int)]) (pin_of h rfl) (fun j p hj => by
    rcases j with _ | j
    · cases hj
      exact ⟨show (0 : Int) ≤ (q : Int) by omega, show (q : Int) ≤ 11 by omega⟩
    · cases hj) (fun c hc => by
    have hc : c ∈ [(lAdd (lSc (-1) (lSy 1)) (lAdd (lSy 0) (lK (-1))))] := hc
    simp only [List.mem_cons, List.not_mem_nil, or_false] at hc
    rcases hc with rfl
    · simp only [lAdd_ev, lSc_ev, lSy_ev, lK_ev]
      show (0 : Int) ≤ ((-1) * (q : Int) + ((n : Int) + (-1)))
      omega)
  obtain ⟨x, hx, ρ2, σA, σB, e1, e2, e3, n1, n2, n3, n4⟩ := hw
  have r0 : ρ2 0 = (n : Int) := e1 0 (by decide +kernel)
  have r1 : ρ2 1 = (q : Int) := e1 1 (by decide +kernel)
  have kk := List.all_eq_true.mp FmzW_ok x hx
  simp only [Bool.and_eq_true] at kk
  obtain ⟨⟨k0, k1⟩, k2⟩ := kk
  have f0 := fE (n1 _ (inA_at k0 (f := (3, .inr (lSy 1), .inr (some 27))) (mK_at (by decide +kernel)))) (j := q) ((lSy_ev _ _).trans r1)
  rw [sAx e2 (i := 3) (j := 6) (by decide +kernel) rfl (by decide)] at f0
  have f1 := fO (n1 _ (inA_at k0 (f := (27, .inl 3, .inr (some 28))) (mK_at (by decide +kernel))))
  have f2 := fO (n1 _ (inA_at k0 (f := (28, .inl 0, .inr (some 29))) (mK_at (by decide +kernel))))
  have f3 := fI (n1 _ (inA_at k0 (f := (28, .inl 1, .inl (lSy 2))) (mK_at (by decide +kernel))))
  simp only [lAdd_ev, lSc_ev, lSy_ev, lK_ev, r0, r1] at f3
  have f4 := fJ (n2 _ (inA_at k1 (f := (32, .inr (lSy 1), .inl (lSy 2))) (mK_at (by decide +kernel)))) (j := q) ((lSy_ev _ _).trans r1)
  rw [sAx e3 (i := 32) (j := 56) (by decide +kernel) rfl (by decide)] at f4
  simp only [lAdd_ev, lSc_ev, lSy_ev, lK_ev, r0, r1] at f4
  have b2 : (0 : Int) ≤ ρ2 2 ∧ ρ2 2 ≤ 12 := by
    have := zipI_spec.mp n3 2 _ (of_decide_eq_true k2)
    simpa using this
  exact ⟨_, _, _, ρ2 2, f0, f1, f2, f3, f4, b2⟩
def FmzT_A0 : List vK := [(3, .inr (lSy 1), .inr (some 27)), (27, .inl 4, .inr (some 28)), (28, .inl 0, .inr (some 29)), (28, .inl 1, .inl (lSy 2))]
def FmzT_B0 : List vK := [(34, .inr (lSy 1), .inl (lSy 2))]
theorem FmzT_ok : (wAl lwF10).all (fun x => (inA FmzT_A0 x.1 && inA FmzT_B0 x.2 && decide ((aI x.1)[2]? = some (0, 12)))) = true := by decide +kernel
theorem FmzT (h : HX ρ σ ty H n) {q : Nat} (hq : q < n) : ∃ (p27 p28 p29 : Nat), ∃ (z2 : Int), rV H (sR σ 6) q = some (.inr (some (p27))) ∧ rV H (p27) 4 = some (.inr (some (p28))) ∧ rV H (p28) 0 = some (.inr (some (p29))) ∧ rV H (p28) 1 = some (.inl (Int32.ofInt (z2))) ∧ rV H (sR σ 58) q = some (.inl (Int32.ofInt (z2))) ∧ ((0 : Int) ≤ z2 ∧ z2 ≤ 12) := by
  have hn := HX_12 h
  have hw := h.2.1 lwF10 (List.mem_of_getElem? (i := 10) rfl) (evL [(n : Int), (q : Int)]) (pin_of h rfl) (fun j p hj => by
    rcases j with _ | j
    · cases hj
      exact ⟨show (0 : Int) ≤ (q : Int) by omega, show (q : Int) ≤ 11 by omega⟩
    · cases hj) (fun c hc => by
    have hc : c ∈ [(lAdd (lSc (-1) (lSy 1)) (lAdd (lSy 0) (lK (-1))))] := hc
    simp only [List.mem_cons, List.not_mem_nil, or_false] at hc
    rcases hc with rfl
    · simp only [lAdd_ev, lSc_ev, lSy_ev, lK_ev]
      show (0 : Int) ≤ ((-1) * (q : Int) + ((n : Int) + (-1)))
      omega)
  obtain ⟨x, hx, ρ2, σA, σB, e1, e2, e3, n1, n2, n3, n4⟩ := hw
  have r0 : ρ2 0 = (n : Int) := e1 0 (by decide +kernel)
  have r1 : ρ2 1 = (q : Int) := e1 1 (by decide +kernel)
  have kk := List.all_eq_true.mp FmzT_ok x hx
  simp only [Bool.and_eq_true] at kk
  obtain ⟨⟨k0, k1⟩, k2⟩ := kk
  have f0 := fE (n1 _ (inA_at k0 (f := (3, .inr (lSy 1), .inr (some 27))) (mK_at (by decide +kernel)))) (j := q) ((lSy_ev _ _).trans r1)
  rw [sAx e2 (i := 3) (j := 6) (by decide +kernel) rfl (by decide)] at f0
  have f1 := fO (n1 _ (inA_at k0 (f := (27, .inl 4, .inr (some 28))) (mK_at (by decide +kernel))))
  have f2 := fO (n1 _ (inA_at k0 (f := (28, .inl 0, .inr (some 29))) (mK_at (by decide +kernel))))
  have f3 := fI (n1 _ (inA_at k0 (f := (28, .inl 1, .inl (lSy 2))) (mK_at (by decide +kernel))))
  simp only [lAdd_ev, lSc_ev, lSy_ev, lK_ev, r0, r1] at f3
  have f4 := fJ (n2 _ (inA_at k1 (f := (34, .inr (lSy 1), .inl (lSy 2))) (mK_at (by decide +kernel)))) (j := q) ((lSy_ev _ _).trans r1)
  rw [sAx e3 (i := 34) (j := 58) (by decide +kernel) rfl (by decide)] at f4
  simp only [lAdd_ev, lSc_ev, lSy_ev, lK_ev, r0, r1] at f4
  have b2 : (0 : Int) ≤ ρ2 2 ∧ ρ2 2 ≤ 12 := by
    have := zipI_spec.mp n3 2 _ (of_decide_eq_true k2)
    simpa using this
  exact ⟨_, _, _, ρ2 2, f0, f1, f2, f3, f4, b2⟩
def Fma3_A0 : List vK := [(3, .inr (lSy 1), .inr (some 27)), (27, .inl 1, .inr (some 28)), (28, .inl 1, .inr (some 29)), (28, .inl 2, .inr (some 30)), (3, .inr (lSy 2), .inr (some 31)), (31, .inl 1, .inr (some 32)), (32, .inl 1, .inr (some 33)), (32, .inl 2, .inr (some 34)), (27, .inr (lK (-1)), .inr (some 31)), (28, .inr (lK (-1)), .inr (some 32)), (29, .inr (lK (-1)), .inr (some 33)), (30, .inr (lK (-1)), .inr (some 34))]
def Fma3_B0 : List vK := [(21, .inr (lSy 1), .inr (some 42)), (22, .inr (lSy 1), .inr (some 43)), (21, .inr (lSy 2), .inr (some 44)), (22, .inr (lSy 2), .inr (some 45)), (42, .inr (lK (-1)), .inr (some 44)), (43, .inr (lK (-1)), .inr (some 45))]
theorem Fma3_ok : (wAl lwF16).all (fun x => (inA Fma3_A0 x.1 && inA Fma3_B0 x.2)) = true := by decide +kernel
theorem Fma3 (h : HX ρ σ ty H n) {q : Nat} {k : Nat} (hq : q < k) (hk : k < n) : ∃ (p27 p28 p29 p30 p31 p32 p33 p34 q42 q43 q44 q45 : Nat), rV H (sR σ 6) q = some (.inr (some (p27))) ∧ rV H (p27) 1 = some (.inr (some (p28))) ∧ rV H (p28) 1 = some (.inr (some (p29))) ∧ rV H (p28) 2 = some (.inr (some (p30))) ∧ rV H (sR σ 6) k = some (.inr (some (p31))) ∧ rV H (p31) 1 = some (.inr (some (p32))) ∧ rV H (p32) 1 = some (.inr (some (p33))) ∧ rV H (p32) 2 = some (.inr (some (p34))) ∧ p27 ≠ p31 ∧ p28 ≠ p32 ∧ p29 ≠ p33 ∧ p30 ≠ p34 ∧ rV H (sR σ 45) q = some (.inr (some (q42))) ∧ rV H (sR σ 46) q = some (.inr (some (q43))) ∧ rV H (sR σ 45) k = some (.inr (some (q44))) ∧ rV H (sR σ 46) k = some (.inr (some (q45))) ∧ q42 ≠ q44 ∧ q43 ≠ q45 := by
  have hn := HX_12 h
  have hw := h.2.1 lwF16 (List.mem_of_getElem? (i := 16) rfl) (evL [(n : Int), (q : Int), (k : Int)]) (pin_of h rfl) (fun j p hj => by
    rcases j with _ | _ | j
    · cases hj
      exact ⟨show (0 : Int) ≤ (q : Int) by omega, show (q : Int) ≤ 11 by omega⟩
    · cases hj
      exact ⟨show (0 : Int) ≤ (k : Int) by omega, show (k : Int) ≤ 11 by omega⟩
    · cases hj) (fun c hc => by
    have hc : c ∈ [(lAdd (lSy 2) (lAdd (lSc (-1) (lSy 1)) (lK (-1)))), (lAdd (lSc (-1) (lSy 2)) (lAdd (lSy 0) (lK (-1))))] := hc
    simp only [List.mem_cons, List.not_mem_nil, or_false] at hc
    rcases hc with rfl | rfl
    · simp only [lAdd_ev, lSc_ev, lSy_ev, lK_ev]
      show (0 : Int) ≤ ((k : Int) + ((-1) * (q : Int) + (-1)))
      omega
    · simp only [lAdd_ev, lSc_ev, lSy_ev, lK_ev]
      show (0 : Int) ≤ ((-1) * (k : Int) + ((n : Int) + (-1)))
      omega)
  obtain ⟨x, hx, ρ2, σA, σB, e1, e2, e3, n1, n2, n3, n4⟩ := hw
  have r0 : ρ2 0 = (n : Int) := e1 0 (by decide +kernel)
  have r1 : ρ2 1 = (q : Int) := e1 1 (by decide +kernel)
  have r2 : ρ2 2 = (k : Int) := e1 2 (by decide +kernel)
  have kk := List.all_eq_true.mp Fma3_ok x hx
  simp only [Bool.and_eq_true] at kk
  obtain ⟨k0, k1⟩ := kk
  have f0 := fE (n1 _ (inA_at k0 (f := (3, .inr (lSy 1), .inr (some 27))) (mK_at (by decide +kernel)))) (j := q) ((lSy_ev _ _).trans r1)
  rw [sAx e2 (i := 3) (j := 6) (by decide +kernel) rfl (by decide)] at f0
  have f1 := fO (n1 _ (inA_at k0 (f := (27, .inl 1, .inr (some 28))) (mK_at (by decide +kernel))))
  have f2 := fO (n1 _ (inA_at k0 (f := (28, .inl 1, .inr (some 29))) (mK_at (by decide +kernel))))
  have f3 := fO (n1 _ (inA_at k0 (f := (28, .inl 2, .inr (some 30))) (mK_at (by decide +kernel))))
  have f4 := fE (n1 _ (inA_at k0 (f := (3, .inr (lSy 2), .inr (some 31))) (mK_at (by decide +kernel)))) (j := k) ((lSy_ev _ _).trans r2)
  rw [sAx e2 (i := 3) (j := 6) (by decide +kernel) rfl (by decide)] at f4
  have f5 := fO (n1 _ (inA_at k0 (f := (31, .inl 1, .inr (some 32))) (mK_at (by decide +kernel))))
  have f6 := fO (n1 _ (inA_at k0 (f := (32, .inl 1, .inr (some 33))) (mK_at (by decide +kernel))))
  have f7 := fO (n1 _ (inA_at k0 (f := (32, .inl 2, .inr (some 34))) (mK_at (by decide +kernel))))
  have f8 := hNe (n1 _ (inA_at k0 (f := (27, .inr (lK (-1)), .inr (some 31))) (mK_at (by decide +kernel))))
  have f9 := hNe (n1 _ (inA_at k0 (f := (28, .inr (lK (-1)), .inr (some 32))) (mK_at (by decide +kernel))))
  have f10 := hNe (n1 _ (inA_at k0 (f := (29, .inr (lK (-1)), .inr (some 33))) (mK_at (by decide +kernel))))
  have f11 := hNe (n1 _ (inA_at k0 (f := (30, .inr (lK (-1)), .inr (some 34))) (mK_at (by decide +kernel))))
  have f12 := fE (n2 _ (inA_at k1 (f := (21, .inr (lSy 1), .inr (some 42))) (mK_at (by decide +kernel)))) (j := q) ((lSy_ev _ _).trans r1)
  rw [sAx e3 (i := 21) (j := 45) (by decide +kernel) rfl (by decide)] at f12
  have f13 := fE (n2 _ (inA_at k1 (f := (22, .inr (lSy 1), .inr (some 43))) (mK_at (by decide +kernel)))) (j := q) ((lSy_ev _ _).trans r1)
  rw [sAx e3 (i := 22) (j := 46) (by decide +kernel) rfl (by decide)] at f13
  have f14 := fE (n2 _ (inA_at k1 (f := (21, .inr (lSy 2), .inr (some 44))) (mK_at (by decide +kernel)))) (j := k) ((lSy_ev _ _).trans r2)
  rw [sAx e3 (i := 21) (j := 45) (by decide +kernel) rfl (by decide)] at f14
  have f15 := fE (n2 _ (inA_at k1 (f := (22, .inr (lSy 2), .inr (some 45))) (mK_at (by decide +kernel)))) (j := k) ((lSy_ev _ _).trans r2)
  rw [sAx e3 (i := 22) (j := 46) (by decide +kernel) rfl (by decide)] at f15
  have f16 := hNe (n2 _ (inA_at k1 (f := (42, .inr (lK (-1)), .inr (some 44))) (mK_at (by decide +kernel))))
  have f17 := hNe (n2 _ (inA_at k1 (f := (43, .inr (lK (-1)), .inr (some 45))) (mK_at (by decide +kernel))))
  exact ⟨_, _, _, _, _, _, _, _, _, _, _, _, f0, f1, f2, f3, f4, f5, f6, f7, f8, f9, f10, f11, f12, f13, f14, f15, f16, f17⟩
def FmaT_A0 : List vK := [(3, .inr (lSy 1), .inr (some 27)), (27, .inl 2, .inr (some 28)), (28, .inl 0, .inr (some 29)), (27, .inl 3, .inr (some 30)), (30, .inl 0, .inr (some 31)), (27, .inl 4, .inr (some 32)), (32, .inl 0, .inr (some 33)), (3, .inr (lSy 2), .inr (some 34)), (34, .inl 6, .inr (some 35)), (35, .inl 0, .inr (some 36)), (34, .inl 5, .inr (some 37)), (37, .inl 0, .inr (some 38)), (28, .inr (lK (-1)), .inr (some 35)), (29, .inr (lK (-1)), .inr (some 36)), (28, .inr (lK (-1)), .inr (some 37)), (29, .inr (lK (-1)), .inr (some 38)), (30, .inr (lK (-1)), .inr (some 35)), (31, .inr (lK (-1)), .inr (some 36)), (30, .inr (lK (-1)), .inr (some 37)), (31, .inr (lK (-1)), .inr (some 38)), (32, .inr (lK (-1)), .inr (some 35)), (33, .inr (lK (-1)), .inr (some 36)), (32, .inr (lK (-1)), .inr (some 37)), (33, .inr (lK (-1)), .inr (some 38))]
def FmaT_B0 : List vK := []
theorem FmaT_ok : (wAl lwF18).all (fun x => (inA FmaT_A0 x.1 && inA FmaT_B0 x.2)) = true := by decide +kernel
theorem FmaT (h : HX ρ σ ty H n) {q : Nat} {k : Nat} (hq : q < n) (hk : k < n) : ∃ (p27 p28 p29 p30 p31 p32 p33 p34 p35 p36 p37 p38 : Nat), rV H (sR σ 6) q = some (.inr (some (p27))) ∧ rV H (p27) 2 = some (.inr (some (p28))) ∧ rV H (p28) 0 = some (.inr (some (p29))) ∧ rV H (p27) 3 = some (.inr (some (p30))) ∧ rV H (p30) 0 = some (.inr (some (p31))) ∧ rV H (p27) 4 = some (.inr (some (p32))) ∧ rV H (p32) 0 = some (.inr (some (p33))) ∧ rV H (sR σ 6) k = some (.inr (some (p34))) ∧ rV H (p34) 6 = some (.inr (some (p35))) ∧ rV H (p35) 0 = some (.inr (some (p36))) ∧ rV H (p34) 5 = some (.inr (some (p37))) ∧ rV H (p37) 0 = some (.inr (some (p38))) ∧ p28 ≠ p35 ∧ p29 ≠ p36 ∧ p28 ≠ p37 ∧ p29 ≠ p38 ∧ p30 ≠ p35 ∧ p31 ≠ p36 ∧ p30 ≠ p37 ∧ p31 ≠ p38 ∧ p32 ≠ p35 ∧ p33 ≠ p36 ∧ p32 ≠ p37 ∧ p33 ≠ p38 := by
  have hn := HX_12 h
  have hw := h.2.1 lwF18 (List.mem_of_getElem? (i := 18) rfl) (evL [(n : Int), (q : Int), (k : Int)]) (pin_of h rfl) (fun j p hj => by
    rcases j with _ | _ | j
    · cases hj
      exact ⟨show (0 : Int) ≤ (q : Int) by omega, show (q : Int) ≤ 11 by omega⟩
    · cases hj
      exact ⟨show (0 : Int) ≤ (k : Int) by omega, show (k : Int) ≤ 11 by omega⟩
    · cases hj) (fun c hc => by
    have hc : c ∈ [(lAdd (lSc (-1) (lSy 1)) (lAdd (lSy 0) (lK (-1)))), (lAdd (lSc (-1) (lSy 2)) (lAdd (lSy 0) (lK (-1))))] := hc
    simp only [List.mem_cons, List.not_mem_nil, or_false] at hc
    rcases hc with rfl | rfl
    · simp only [lAdd_ev, lSc_ev, lSy_ev, lK_ev]
      show (0 : Int) ≤ ((-1) * (q : Int) + ((n : Int) + (-1)))
      omega
    · simp only [lAdd_ev, lSc_ev, lSy_ev, lK_ev]
      show (0 : Int) ≤ ((-1) * (k : Int) + ((n : Int) + (-1)))
      omega)
  obtain ⟨x, hx, ρ2, σA, σB, e1, e2, e3, n1, n2, n3, n4⟩ := hw
  have r0 : ρ2 0 = (n : Int) := e1 0 (by decide +kernel)
  have r1 : ρ2 1 = (q : Int) := e1 1 (by decide +kernel)
  have r2 : ρ2 2 = (k : Int) := e1 2 (by decide +kernel)
  have kk := List.all_eq_true.mp FmaT_ok x hx
  simp only [Bool.and_eq_true] at kk
  obtain ⟨k0, k1⟩ := kk
  have f0 := fE (n1 _ (inA_at k0 (f := (3, .inr (lSy 1), .inr (some 27))) (mK_at (by decide +kernel)))) (j := q) ((lSy_ev _ _).trans r1)
  rw [sAx e2 (i := 3) (j := 6) (by decide +kernel) rfl (by decide)] at f0
  have f1 := fO (n1 _ (inA_at k0 (f := (27, .inl 2, .inr (some 28))) (mK_at (by decide +kernel))))
  have f2 := fO (n1 _ (inA_at k0 (f := (28, .inl 0, .inr (some 29))) (mK_at (by decide +kernel))))
  have f3 := fO (n1 _ (inA_at k0 (f := (27, .inl 3, .inr (some 30))) (mK_at (by decide +kernel))))
  have f4 := fO (n1 _ (inA_at k0 (f := (30, .inl 0, .inr (some 31))) (mK_at (by decide +kernel))))
  have f5 := fO (n1 _ (inA_at k0 (f := (27, .inl 4, .inr (some 32))) (mK_at (by decide +kernel))))
  have f6 := fO (n1 _ (inA_at k0 (f := (32, .inl 0, .inr (some 33))) (mK_at (by decide +kernel))))
  have f7 := fE (n1 _ (inA_at k0 (f := (3, .inr (lSy 2), .inr (some 34))) (mK_at (by decide +kernel)))) (j := k) ((lSy_ev _ _).trans r2)
  rw [sAx e2 (i := 3) (j := 6) (by decide +kernel) rfl (by decide)] at f7
  have f8 := fO (n1 _ (inA_at k0 (f := (34, .inl 6, .inr (some 35))) (mK_at (by decide +kernel))))
  have f9 := fO (n1 _ (inA_at k0 (f := (35, .inl 0, .inr (some 36))) (mK_at (by decide +kernel))))
  have f10 := fO (n1 _ (inA_at k0 (f := (34, .inl 5, .inr (some 37))) (mK_at (by decide +kernel))))
  have f11 := fO (n1 _ (inA_at k0 (f := (37, .inl 0, .inr (some 38))) (mK_at (by decide +kernel))))
  have f12 := hNe (n1 _ (inA_at k0 (f := (28, .inr (lK (-1)), .inr (some 35))) (mK_at (by decide +kernel))))
  have f13 := hNe (n1 _ (inA_at k0 (f := (29, .inr (lK (-1)), .inr (some 36))) (mK_at (by decide +kernel))))
  have f14 := hNe (n1 _ (inA_at k0 (f := (28, .inr (lK (-1)), .inr (some 37))) (mK_at (by decide +kernel))))
  have f15 := hNe (n1 _ (inA_at k0 (f := (29, .inr (lK (-1)), .inr (some 38))) (mK_at (by decide +kernel))))
  have f16 := hNe (n1 _ (inA_at k0 (f := (30, .inr (lK (-1)), .inr (some 35))) (mK_at (by decide +kernel))))
  have f17 := hNe (n1 _ (inA_at k0 (f := (31, .inr (lK (-1)), .inr (some 36))) (mK_at (by decide +kernel))))
  have f18 := hNe (n1 _ (inA_at k0 (f := (30, .inr (lK (-1)), .inr (some 37))) (mK_at (by decide +kernel))))
  have f19 := hNe (n1 _ (inA_at k0 (f := (31, .inr (lK (-1)), .inr (some 38))) (mK_at (by decide +kernel))))
  have f20 := hNe (n1 _ (inA_at k0 (f := (32, .inr (lK (-1)), .inr (some 35))) (mK_at (by decide +kernel))))
  have f21 := hNe (n1 _ (inA_at k0 (f := (33, .inr (lK (-1)), .inr (some 36))) (mK_at (by decide +kernel))))
  have f22 := hNe (n1 _ (inA_at k0 (f := (32, .inr (lK (-1)), .inr (some 37))) (mK_at (by decide +kernel))))
  have f23 := hNe (n1 _ (inA_at k0 (f := (33, .inr (lK (-1)), .inr (some 38))) (mK_at (by decide +kernel))))
  exact ⟨_, _, _, _, _, _, _, _, _, _, _, _, f0, f1, f2, f3, f4, f5, f6, f7, f8, f9, f10, f11, f12, f13, f14, f15, f16, f17, f18, f19, f20, f21, f22, f23⟩
def FmaM_A0 : List vK := []
def FmaM_B0 : List vK := [(31, .inr (lSy 0), .inr (some 42)), (33, .inr (lSy 0), .inr (some 43)), (38, .inr (lSy 1), .inr (some 44)), (39, .inr (lSy 1), .inr (some 45)), (42, .inr (lK (-1)), .inr (some 44)), (43, .inr (lK (-1)), .inr (some 45))]
theorem FmaM_ok : (wAl lwF19).all (fun x => (inA FmaM_A0 x.1 && inA FmaM_B0 x.2)) = true := by decide +kernel
theorem FmaM (h : HX ρ σ ty H n) {q : Nat} {k : Nat} (hq : q < 12) (hk : k < 12) : ∃ (q42 q43 q44 q45 : Nat), rV H (sR σ 55) q = some (.inr (some (q42))) ∧ rV H (sR σ 57) q = some (.inr (some (q43))) ∧ rV H (sR σ 62) k = some (.inr (some (q44))) ∧ rV H (sR σ 63) k = some (.inr (some (q45))) ∧ q42 ≠ q44 ∧ q43 ≠ q45 := by
  have hn := HX_12 h
  have hw := h.2.1 lwF19 (List.mem_of_getElem? (i := 19) rfl) (evL [(q : Int), (k : Int)]) (fun i p hp => by cases hp) (fun j p hj => by
    rcases j with _ | _ | j
    · cases hj
      exact ⟨show (0 : Int) ≤ (q : Int) by omega, show (q : Int) ≤ 11 by omega⟩
    · cases hj
      exact ⟨show (0 : Int) ≤ (k : Int) by omega, show (k : Int) ≤ 11 by omega⟩
    · cases hj) (fun c hc => by
    cases hc)
  obtain ⟨x, hx, ρ2, σA, σB, e1, e2, e3, n1, n2, n3, n4⟩ := hw
  have r0 : ρ2 0 = (q : Int) := e1 0 (by decide +kernel)
  have r1 : ρ2 1 = (k : Int) := e1 1 (by decide +kernel)
  have kk := List.all_eq_true.mp FmaM_ok x hx
  simp only [Bool.and_eq_true] at kk
  obtain ⟨k0, k1⟩ := kk
  have f0 := fE (n2 _ (inA_at k1 (f := (31, .inr (lSy 0), .inr (some 42))) (mK_at (by decide +kernel)))) (j := q) ((lSy_ev _ _).trans r0)
  rw [sAx e3 (i := 31) (j := 55) (by decide +kernel) rfl (by decide)] at f0
  have f1 := fE (n2 _ (inA_at k1 (f := (33, .inr (lSy 0), .inr (some 43))) (mK_at (by decide +kernel)))) (j := q) ((lSy_ev _ _).trans r0)
  rw [sAx e3 (i := 33) (j := 57) (by decide +kernel) rfl (by decide)] at f1
  have f2 := fE (n2 _ (inA_at k1 (f := (38, .inr (lSy 1), .inr (some 44))) (mK_at (by decide +kernel)))) (j := k) ((lSy_ev _ _).trans r1)
  rw [sAx e3 (i := 38) (j := 62) (by decide +kernel) rfl (by decide)] at f2
  have f3 := fE (n2 _ (inA_at k1 (f := (39, .inr (lSy 1), .inr (some 45))) (mK_at (by decide +kernel)))) (j := k) ((lSy_ev _ _).trans r1)
  rw [sAx e3 (i := 39) (j := 63) (by decide +kernel) rfl (by decide)] at f3
  have f4 := hNe (n2 _ (inA_at k1 (f := (42, .inr (lK (-1)), .inr (some 44))) (mK_at (by decide +kernel))))
  have f5 := hNe (n2 _ (inA_at k1 (f := (43, .inr (lK (-1)), .inr (some 45))) (mK_at (by decide +kernel))))
  exact ⟨_, _, _, _, f0, f1, f2, f3, f4, f5⟩
def FmaF_A0 : List vK := [(24, .inl 0, .inl (lK 0)), (24, .inl 3, .inl (lK 0)), (25, .inr (lSy 0), .inl (lK 2)), (26, .inr (lSy 0), .inl (lK (-1)))]
def FmaF_B0 : List vK := []
theorem FmaF_ok : (wAl lwF29).all (fun x => (inA FmaF_A0 x.1 && inA FmaF_B0 x.2)) = true := by decide +kernel
theorem FmaF (h : HX ρ σ ty H n) {f : Nat} (hf : f < 6) : rV H (sR σ 66) 0 = some (.inl (Int32.ofInt (0))) ∧ rV H (sR σ 66) 3 = some (.inl (Int32.ofInt (0))) ∧ rV H (sR σ 67) f = some (.inl (Int32.ofInt (2))) ∧ rV H (sR σ 68) f = some (.inl (Int32.ofInt ((-1)))) := by
  have hn := HX_12 h
  have hw := h.2.1 lwF29 (List.mem_of_getElem? (i := 29) rfl) (evL [(f : Int)]) (fun i p hp => by cases hp) (fun j p hj => by
    rcases j with _ | j
    · cases hj
      exact ⟨show (0 : Int) ≤ (f : Int) by omega, show (f : Int) ≤ 5 by omega⟩
    · cases hj) (fun c hc => by
    cases hc)
  obtain ⟨x, hx, ρ2, σA, σB, e1, e2, e3, n1, n2, n3, n4⟩ := hw
  have r0 : ρ2 0 = (f : Int) := e1 0 (by decide +kernel)
  have kk := List.all_eq_true.mp FmaF_ok x hx
  simp only [Bool.and_eq_true] at kk
  obtain ⟨k0, k1⟩ := kk
  have f0 := fI (n1 _ (inA_at k0 (f := (24, .inl 0, .inl (lK 0))) (mK_at (by decide +kernel))))
  rw [sAx e2 (i := 24) (j := 66) (by decide +kernel) rfl (by decide)] at f0
  simp only [lAdd_ev, lSc_ev, lSy_ev, lK_ev, r0] at f0
  have f1 := fI (n1 _ (inA_at k0 (f := (24, .inl 3, .inl (lK 0))) (mK_at (by decide +kernel))))
  rw [sAx e2 (i := 24) (j := 66) (by decide +kernel) rfl (by decide)] at f1
  simp only [lAdd_ev, lSc_ev, lSy_ev, lK_ev, r0] at f1
  have f2 := fJ (n1 _ (inA_at k0 (f := (25, .inr (lSy 0), .inl (lK 2))) (mK_at (by decide +kernel)))) (j := f) ((lSy_ev _ _).trans r0)
  rw [sAx e2 (i := 25) (j := 67) (by decide +kernel) rfl (by decide)] at f2
  simp only [lAdd_ev, lSc_ev, lSy_ev, lK_ev, r0] at f2
  have f3 := fJ (n1 _ (inA_at k0 (f := (26, .inr (lSy 0), .inl (lK (-1)))) (mK_at (by decide +kernel)))) (j := f) ((lSy_ev _ _).trans r0)
  rw [sAx e2 (i := 26) (j := 68) (by decide +kernel) rfl (by decide)] at f3
  simp only [lAdd_ev, lSc_ev, lSy_ev, lK_ev, r0] at f3
  exact ⟨f0, f1, f2, f3⟩
def FmaV_A0 : List vK := [(3, .inr (lSy 1), .inr (some 27)), (27, .inl 6, .inr (some 28)), (28, .inl 0, .inr (some 29)), (27, .inl 5, .inr (some 30)), (30, .inl 0, .inr (some 31)), (28, .inr (lK (-1)), .inr (some 30)), (29, .inr (lK (-1)), .inr (some 31))]
def FmaV_B0 : List vK := []
theorem FmaV_ok : (wAl lwF30).all (fun x => (inA FmaV_A0 x.1 && inA FmaV_B0 x.2)) = true := by decide +kernel
theorem FmaV (h : HX ρ σ ty H n) {q : Nat} (hq : q < n) : ∃ (p27 p28 p29 p30 p31 : Nat), rV H (sR σ 6) q = some (.inr (some (p27))) ∧ rV H (p27) 6 = some (.inr (some (p28))) ∧ rV H (p28) 0 = some (.inr (some (p29))) ∧ rV H (p27) 5 = some (.inr (some (p30))) ∧ rV H (p30) 0 = some (.inr (some (p31))) ∧ p28 ≠ p30 ∧ p29 ≠ p31 := by
  have hn := HX_12 h
  have hw := h.2.1 lwF30 (List.mem_of_getElem? (i := 30) rfl) (evL [(n : Int), (q : Int)]) (pin_of h rfl) (fun j p hj => by
    rcases j with _ | j
    · cases hj
      exact ⟨show (0 : Int) ≤ (q : Int) by omega, show (q : Int) ≤ 11 by omega⟩
    · cases hj) (fun c hc => by
    have hc : c ∈ [(lAdd (lSc (-1) (lSy 1)) (lAdd (lSy 0) (lK (-1))))] := hc
    simp only [List.mem_cons, List.not_mem_nil, or_false] at hc
    rcases hc with rfl
    · simp only [lAdd_ev, lSc_ev, lSy_ev, lK_ev]
      show (0 : Int) ≤ ((-1) * (q : Int) + ((n : Int) + (-1)))
      omega)
  obtain ⟨x, hx, ρ2, σA, σB, e1, e2, e3, n1, n2, n3, n4⟩ := hw
  have r0 : ρ2 0 = (n : Int) := e1 0 (by decide +kernel)
  have r1 : ρ2 1 = (q : Int) := e1 1 (by decide +kernel)
  have kk := List.all_eq_true.mp FmaV_ok x hx
  simp only [Bool.and_eq_true] at kk
  obtain ⟨k0, k1⟩ := kk
  have f0 := fE (n1 _ (inA_at k0 (f := (3, .inr (lSy 1), .inr (some 27))) (mK_at (by decide +kernel)))) (j := q) ((lSy_ev _ _).trans r1)
  rw [sAx e2 (i := 3) (j := 6) (by decide +kernel) rfl (by decide)] at f0
  have f1 := fO (n1 _ (inA_at k0 (f := (27, .inl 6, .inr (some 28))) (mK_at (by decide +kernel))))
  have f2 := fO (n1 _ (inA_at k0 (f := (28, .inl 0, .inr (some 29))) (mK_at (by decide +kernel))))
  have f3 := fO (n1 _ (inA_at k0 (f := (27, .inl 5, .inr (some 30))) (mK_at (by decide +kernel))))
  have f4 := fO (n1 _ (inA_at k0 (f := (30, .inl 0, .inr (some 31))) (mK_at (by decide +kernel))))
  have f5 := hNe (n1 _ (inA_at k0 (f := (28, .inr (lK (-1)), .inr (some 30))) (mK_at (by decide +kernel))))
  have f6 := hNe (n1 _ (inA_at k0 (f := (29, .inr (lK (-1)), .inr (some 31))) (mK_at (by decide +kernel))))
  exact ⟨_, _, _, _, _, f0, f1, f2, f3, f4, f5, f6⟩
def FmaX_A0 : List vK := [(3, .inr (lSy 1), .inr (some 27)), (27, .inl 6, .inr (some 28)), (28, .inl 0, .inr (some 29)), (27, .inl 5, .inr (some 30)), (30, .inl 0, .inr (some 31)), (3, .inr (lSy 2), .inr (some 32)), (32, .inl 6, .inr (some 33)), (33, .inl 0, .inr (some 34)), (32, .inl 5, .inr (some 35)), (35, .inl 0, .inr (some 36)), (28, .inr (lK (-1)), .inr (some 33)), (29, .inr (lK (-1)), .inr (some 34)), (28, .inr (lK (-1)), .inr (some 35)), (29, .inr (lK (-1)), .inr (some 36)), (30, .inr (lK (-1)), .inr (some 33)), (31, .inr (lK (-1)), .inr (some 34)), (30, .inr (lK (-1)), .inr (some 35)), (31, .inr (lK (-1)), .inr (some 36))]
def FmaX_B0 : List vK := []
theorem FmaX_ok : (wAl lwF31).all (fun x => (inA FmaX_A0 x.1 && inA FmaX_B0 x.2)) = true := by decide +kernel
theorem FmaX (h : HX ρ σ ty H n) {q : Nat} {k : Nat} (hq : q < k) (hk : k < n) : ∃ (p27 p28 p29 p30 p31 p32 p33 p34 p35 p36 : Nat), rV H (sR σ 6) q = some (.inr (some (p27))) ∧ rV H (p27) 6 = some (.inr (some (p28))) ∧ rV H (p28) 0 = some (.inr (some (p29))) ∧ rV H (p27) 5 = some (.inr (some (p30))) ∧ rV H (p30) 0 = some (.inr (some (p31))) ∧ rV H (sR σ 6) k = some (.inr (some (p32))) ∧ rV H (p32) 6 = some (.inr (some (p33))) ∧ rV H (p33) 0 = some (.inr (some (p34))) ∧ rV H (p32) 5 = some (.inr (some (p35))) ∧ rV H (p35) 0 = some (.inr (some (p36))) ∧ p28 ≠ p33 ∧ p29 ≠ p34 ∧ p28 ≠ p35 ∧ p29 ≠ p36 ∧ p30 ≠ p33 ∧ p31 ≠ p34 ∧ p30 ≠ p35 ∧ p31 ≠ p36 := by
  have hn := HX_12 h
  have hw := h.2.1 lwF31 (List.mem_of_getElem? (i := 31) rfl) (evL [(n : Int), (q : Int), (k : Int)]) (pin_of h rfl) (fun j p hj => by
    rcases j with _ | _ | j
    · cases hj
      exact ⟨show (0 : Int) ≤ (q : Int) by omega, show (q : Int) ≤ 11 by omega⟩
    · cases hj
      exact ⟨show (0 : Int) ≤ (k : Int) by omega, show (k : Int) ≤ 11 by omega⟩
    · cases hj) (fun c hc => by
    have hc : c ∈ [(lAdd (lSy 2) (lAdd (lSc (-1) (lSy 1)) (lK (-1)))), (lAdd (lSc (-1) (lSy 2)) (lAdd (lSy 0) (lK (-1))))] := hc
    simp only [List.mem_cons, List.not_mem_nil, or_false] at hc
    rcases hc with rfl | rfl
    · simp only [lAdd_ev, lSc_ev, lSy_ev, lK_ev]
      show (0 : Int) ≤ ((k : Int) + ((-1) * (q : Int) + (-1)))
      omega
    · simp only [lAdd_ev, lSc_ev, lSy_ev, lK_ev]
      show (0 : Int) ≤ ((-1) * (k : Int) + ((n : Int) + (-1)))
      omega)
  obtain ⟨x, hx, ρ2, σA, σB, e1, e2, e3, n1, n2, n3, n4⟩ := hw
  have r0 : ρ2 0 = (n : Int) := e1 0 (by decide +kernel)
  have r1 : ρ2 1 = (q : Int) := e1 1 (by decide +kernel)
  have r2 : ρ2 2 = (k : Int) := e1 2 (by decide +kernel)
  have kk := List.all_eq_true.mp FmaX_ok x hx
  simp only [Bool.and_eq_true] at kk
  obtain ⟨k0, k1⟩ := kk
  have f0 := fE (n1 _ (inA_at k0 (f := (3, .inr (lSy 1), .inr (some 27))) (mK_at (by decide +kernel)))) (j := q) ((lSy_ev _ _).trans r1)
  rw [sAx e2 (i := 3) (j := 6) (by decide +kernel) rfl (by decide)] at f0
  have f1 := fO (n1 _ (inA_at k0 (f := (27, .inl 6, .inr (some 28))) (mK_at (by decide +kernel))))
  have f2 := fO (n1 _ (inA_at k0 (f := (28, .inl 0, .inr (some 29))) (mK_at (by decide +kernel))))
  have f3 := fO (n1 _ (inA_at k0 (f := (27, .inl 5, .inr (some 30))) (mK_at (by decide +kernel))))
  have f4 := fO (n1 _ (inA_at k0 (f := (30, .inl 0, .inr (some 31))) (mK_at (by decide +kernel))))
  have f5 := fE (n1 _ (inA_at k0 (f := (3, .inr (lSy 2), .inr (some 32))) (mK_at (by decide +kernel)))) (j := k) ((lSy_ev _ _).trans r2)
  rw [sAx e2 (i := 3) (j := 6) (by decide +kernel) rfl (by decide)] at f5
  have f6 := fO (n1 _ (inA_at k0 (f := (32, .inl 6, .inr (some 33))) (mK_at (by decide +kernel))))
  have f7 := fO (n1 _ (inA_at k0 (f := (33, .inl 0, .inr (some 34))) (mK_at (by decide +kernel))))
  have f8 := fO (n1 _ (inA_at k0 (f := (32, .inl 5, .inr (some 35))) (mK_at (by decide +kernel))))
  have f9 := fO (n1 _ (inA_at k0 (f := (35, .inl 0, .inr (some 36))) (mK_at (by decide +kernel))))
  have f10 := hNe (n1 _ (inA_at k0 (f := (28, .inr (lK (-1)), .inr (some 33))) (mK_at (by decide +kernel))))
  have f11 := hNe (n1 _ (inA_at k0 (f := (29, .inr (lK (-1)), .inr (some 34))) (mK_at (by decide +kernel))))
  have f12 := hNe (n1 _ (inA_at k0 (f := (28, .inr (lK (-1)), .inr (some 35))) (mK_at (by decide +kernel))))
  have f13 := hNe (n1 _ (inA_at k0 (f := (29, .inr (lK (-1)), .inr (some 36))) (mK_at (by decide +kernel))))
  have f14 := hNe (n1 _ (inA_at k0 (f := (30, .inr (lK (-1)), .inr (some 33))) (mK_at (by decide +kernel))))
  have f15 := hNe (n1 _ (inA_at k0 (f := (31, .inr (lK (-1)), .inr (some 34))) (mK_at (by decide +kernel))))
  have f16 := hNe (n1 _ (inA_at k0 (f := (30, .inr (lK (-1)), .inr (some 35))) (mK_at (by decide +kernel))))
  have f17 := hNe (n1 _ (inA_at k0 (f := (31, .inr (lK (-1)), .inr (some 36))) (mK_at (by decide +kernel))))
  exact ⟨_, _, _, _, _, _, _, _, _, _, f0, f1, f2, f3, f4, f5, f6, f7, f8, f9, f10, f11, f12, f13, f14, f15, f16, f17⟩
def FmaN_A0 : List vK := []
def FmaN_B0 : List vK := [(38, .inr (lSy 0), .inr (some 42)), (39, .inr (lSy 0), .inr (some 43)), (38, .inr (lSy 1), .inr (some 44)), (39, .inr (lSy 1), .inr (some 45)), (42, .inr (lK (-1)), .inr (some 44)), (43, .inr (lK (-1)), .inr (some 45))]
theorem FmaN_ok : (wAl lwF32).all (fun x => (inA FmaN_A0 x.1 && inA FmaN_B0 x.2)) = true := by decide +kernel
theorem FmaN (h : HX ρ σ ty H n) {q : Nat} {k : Nat} (hq : q < k) (hk : k < 12) : ∃ (q42 q43 q44 q45 : Nat), rV H (sR σ 62) q = some (.inr (some (q42))) ∧ rV H (sR σ 63) q = some (.inr (some (q43))) ∧ rV H (sR σ 62) k = some (.inr (some (q44))) ∧ rV H (sR σ 63) k = some (.inr (some (q45))) ∧ q42 ≠ q44 ∧ q43 ≠ q45 := by
  have hn := HX_12 h
  have hw := h.2.1 lwF32 (List.mem_of_getElem? (i := 32) rfl) (evL [(q : Int), (k : Int)]) (fun i p hp => by cases hp) (fun j p hj => by
    rcases j with _ | _ | j
    · cases hj
      exact ⟨show (0 : Int) ≤ (q : Int) by omega, show (q : Int) ≤ 11 by omega⟩
    · cases hj
      exact ⟨show (0 : Int) ≤ (k : Int) by omega, show (k : Int) ≤ 11 by omega⟩
    · cases hj) (fun c hc => by
    have hc : c ∈ [(lAdd (lSy 1) (lAdd (lSc (-1) (lSy 0)) (lK (-1))))] := hc
    simp only [List.mem_cons, List.not_mem_nil, or_false] at hc
    rcases hc with rfl
    · simp only [lAdd_ev, lSc_ev, lSy_ev, lK_ev]
      show (0 : Int) ≤ ((k : Int) + ((-1) * (q : Int) + (-1)))
      omega)
  obtain ⟨x, hx, ρ2, σA, σB, e1, e2, e3, n1, n2, n3, n4⟩ := hw
  have r0 : ρ2 0 = (q : Int) := e1 0 (by decide +kernel)
  have r1 : ρ2 1 = (k : Int) := e1 1 (by decide +kernel)
  have kk := List.all_eq_true.mp FmaN_ok x hx
  simp only [Bool.and_eq_true] at kk
  obtain ⟨k0, k1⟩ := kk
  have f0 := fE (n2 _ (inA_at k1 (f := (38, .inr (lSy 0), .inr (some 42))) (mK_at (by decide +kernel)))) (j := q) ((lSy_ev _ _).trans r0)
  rw [sAx e3 (i := 38) (j := 62) (by decide +kernel) rfl (by decide)] at f0
  have f1 := fE (n2 _ (inA_at k1 (f := (39, .inr (lSy 0), .inr (some 43))) (mK_at (by decide +kernel)))) (j := q) ((lSy_ev _ _).trans r0)
  rw [sAx e3 (i := 39) (j := 63) (by decide +kernel) rfl (by decide)] at f1
  have f2 := fE (n2 _ (inA_at k1 (f := (38, .inr (lSy 1), .inr (some 44))) (mK_at (by decide +kernel)))) (j := k) ((lSy_ev _ _).trans r1)
  rw [sAx e3 (i := 38) (j := 62) (by decide +kernel) rfl (by decide)] at f2
  have f3 := fE (n2 _ (inA_at k1 (f := (39, .inr (lSy 1), .inr (some 45))) (mK_at (by decide +kernel)))) (j := k) ((lSy_ev _ _).trans r1)
  rw [sAx e3 (i := 39) (j := 63) (by decide +kernel) rfl (by decide)] at f3
  have f4 := hNe (n2 _ (inA_at k1 (f := (42, .inr (lK (-1)), .inr (some 44))) (mK_at (by decide +kernel))))
  have f5 := hNe (n2 _ (inA_at k1 (f := (43, .inr (lK (-1)), .inr (some 45))) (mK_at (by decide +kernel))))
  exact ⟨_, _, _, _, f0, f1, f2, f3, f4, f5⟩
-- the land, the addresses
def gP (H : List (XC Int32)) (p q : Nat) : Nat := rR H p q
def gC (H : List (XC Int32)) (p q : Nat) : Nat := rR H (gP H p q) 0
def gR (H : List (XC Int32)) (p j q : Nat) : Nat := rR H (gP H p q) j
def gI (H : List (XC Int32)) (p j q : Nat) : Nat := rR H (gR H p j q) 0
def gL (H : List (XC Int32)) (p j q : Nat) : Nat := rR H (gC H p q) j
def gD (H : List (XC Int32)) (σ : Nat → Nat) (yr : Int32) : Ld := (fun q l => hN_ H (gL H (sR σ 6) 0 q) l, fun q l => hN_ H (gL H (sR σ 6) 1 q) l, fun q l => hN_ H (gL H (sR σ 6) 2 q) l, fun q l => hN_ H (gL H (sR σ 6) 3 q) l, fun q => hN_ H (gC H (sR σ 6) q) 4, fun q => hS_ H (gP H (sR σ 6) q) 8, fun q => hN_ H (gR H (sR σ 6) 2 q) 1, fun q k => rI9 H (gI H (sR σ 6) 2 q) k, fun q => hN_ H (gR H (sR σ 6) 3 q) 1, fun q k => rI9 H (gI H (sR σ 6) 3 q) k, fun q => hN_ H (gR H (sR σ 6) 4 q) 1, fun q k => rI9 H (gI H (sR σ 6) 4 q) k, fun q => rI9 H (gP H (sR σ 6) q) 11, yr)
def gK (H : List (XC Int32)) (σ : Nat → Nat) : Ka := (gP H (sR σ 6), gC H (sR σ 6), gR H (sR σ 6) 2, gR H (sR σ 6) 3, gR H (sR σ 6) 4, gR H (sR σ 6) 5, gI H (sR σ 6) 5, gR H (sR σ 6) 6, gI H (sR σ 6) 6, sR σ 0, sR σ 6, sR σ 66, sR σ 15, sR σ 7, sR σ 8, sR σ 11, sR σ 12)
variable {yr : Int32}
theorem p_at (h : HX ρ σ ty H n) {q : Nat} (hq : q < n) : rV H (sR σ 6) q = some (.inr (some (gP H (sR σ 6) q))) ∧ rV H (gP H (sR σ 6) q) 8 = some (.inl (svI (dSv (gD H σ yr) q))) ∧ rV H (gP H (sR σ 6) q) 0 = some (.inr (some (gC H (sR σ 6) q))) ∧ rV H (gC H (sR σ 6) q) 4 = some (.inl (nI (dNl (gD H σ yr) q))) ∧ (1 ≤ dNl (gD H σ yr) q ∧ dNl (gD H σ yr) q ≤ 12) ∧ (dSv (gD H σ yr) q ≤ n ∧ dSv (gD H σ yr) q ≠ q + 1) ∧ rV H (gP H (sR σ 6) q) 11 = some (.inl (dWt (gD H σ yr) q)) ∧ rV H (sR σ 43) q = some (.inr (some (gP H (sR σ 43) q))) ∧ rV H (sR σ 44) q = some (.inl (nI (dNl (gD H σ yr) q))) ∧ rV H (sR σ 48) q = some (.inl (svI (dSv (gD H σ yr) q))) ∧ rV H (sR σ 51) q = some (.inl (dWt (gD H σ yr) q)) := by
  have hn := HX_12 h
  have key : ∃ (P C D : Nat) (z2 z5 z8 : Int), rV H (sR σ 6) q = some (.inr (some P)) ∧ rV H P 8 = some (.inl (Int32.ofInt z2)) ∧ rV H P 0 = some (.inr (some C)) ∧ rV H C 4 = some (.inl (Int32.ofInt z8)) ∧ rV H P 11 = some (.inl (Int32.ofInt z5)) ∧ rV H (sR σ 43) q = some (.inr (some D)) ∧ rV H (sR σ 44) q = some (.inl (Int32.ofInt z8)) ∧ rV H (sR σ 48) q = some (.inl (Int32.ofInt z2)) ∧ rV H (sR σ 51) q = some (.inl (Int32.ofInt z5)) ∧ (-1 ≤ z2 ∧ z2 ≤ 11) ∧ (1 ≤ z8 ∧ z8 ≤ 12) ∧ z2 + 1 ≤ (n : Int) ∧ z2 ≠ (q : Int) := by
    rcases Fmsc h hq with ⟨p27, p28, p29, p30, p31, p32, p33, p34, p35, q42, z2, z3, z4, z5, z6, z7, z8, f0, f1, f2, f3, f4, f5, f6, f7, f8, f9, f10, f11, f12, f13, f14, f15, f16, f17, f18, f19, f20, f21, f22, f23, f24, b2, b3, b4, b7, b8, c0, c1⟩ | ⟨p27, p28, p29, p30, p31, p32, p33, p34, p35, q42, z2, z3, z4, z5, z6, z7, z8, f0, f1, f2, f3, f4, f5, f6, f7, f8, f9, f10, f11, f12, f13, f14, f15, f16, f17, f18, f19, f20, f21, f22, f23, f24, b2, b3, b4, b7, b8, c0, c1⟩
    · exact ⟨p27, p29, q42, z2, z5, z8, f0, f1, f8, f9, f4, f24, f21, f17, f22, ⟨b2.1, b2.2⟩, ⟨b8.1, b8.2⟩, by omega, by omega⟩
    · exact ⟨p27, p29, q42, z2, z5, z8, f0, f1, f8, f9, f4, f24, f21, f17, f22, ⟨b2.1, b2.2⟩, ⟨b8.1, b8.2⟩, by omega, by omega⟩
  obtain ⟨P, C, D, z2, z5, z8, f1, f2, f3, f4, f5, f6, f7, f8, f9, ⟨b1, b2⟩, ⟨b3, b4⟩, b5, b6⟩ := key
  rw [oS b1 b2] at f2 f8
  rw [oI (k := z8.toNat) (by omega) (by omega)] at f4 f7
  have e1 : gP H (sR σ 6) q = P := rR_of f1
  have e2 : dSv (gD H σ yr) q = (z2 + 1).toNat := by
    show hS_ H (gP H (sR σ 6) q) 8 = _
    rw [e1]
    exact hS_of f2 (by omega)
  have e3 : gC H (sR σ 6) q = C := by
    unfold gC
    rw [e1]
    exact rR_of f3
  have e4 : dNl (gD H σ yr) q = z8.toNat := by
    show hN_ H (gC H (sR σ 6) q) 4 = _
    rw [e3]
    exact hN_of f4 (by omega)
  have e5 : dWt (gD H σ yr) q = Int32.ofInt z5 := by
    show rI9 H (gP H (sR σ 6) q) 11 = _
    rw [e1]
    exact rI9_of f5
  have e6 : gP H (sR σ 43) q = D := rR_of f6
  rw [e1, e2, e3, e4, e5, e6]
  exact ⟨f1, f2, f3, f4, ⟨by omega, by omega⟩, ⟨by omega, by omega⟩, f5, f6, f7, f8, f9⟩
theorem cd_at (h : HX ρ σ ty H n) {q l : Nat} (hq : q < n) (hl : l < 12) : (∃ (P C : Nat) (z3 : Int), rV H (sR σ 6) q = some (.inr (some P)) ∧ rV H P 0 = some (.inr (some C)) ∧ rV H C 4 = some (.inl (Int32.ofInt z3)) ∧ (1 ≤ z3 ∧ z3 ≤ 12) ∧ z3 ≤ (l : Int)) ∨
    ∃ (P C r0 r1 r2 r3 D o f g m : Nat), rV H (sR σ 6) q = some (.inr (some P)) ∧ rV H P 0 = some (.inr (some C)) ∧ rV H C 0 = some (.inr (some r0)) ∧ rV H C 1 = some (.inr (some r1)) ∧ rV H C 2 = some (.inr (some r2)) ∧ rV H C 3 = some (.inr (some r3)) ∧ rV H r0 l = some (.inl (nI o)) ∧ rV H r1 l = some (.inl (nI f)) ∧ rV H r2 l = some (.inl (nI g)) ∧ rV H r3 l = some (.inl (nI m)) ∧ (o ≤ 11 ∧ f < 6 ∧ g < 6 ∧ m < 10000) ∧ rV H (sR σ 43) q = some (.inr (some D)) ∧ rV H D (4 * l) = some (.inl (nI (opR o))) ∧ (o ≠ 9 → o ≠ 10 → rV H D (4 * l + 1) = some (.inl (nI f))) ∧ ((o = 4 ∨ o = 5 ∨ o = 6 ∨ o = 7 ∨ o = 11) → rV H D (4 * l + 2) = some (.inl (nI g))) ∧ ((o = 3 ∨ o = 7 ∨ o = 8 ∨ o = 9 ∨ o = 11) → rV H D (4 * l + 3) = some (.inl (nI m))) := by
  rcases Fmcd h hq hl with ⟨p27, p28, p29, p30, p31, p32, q42, z3, z4, z5, z6, z7, f0, f1, f2, f3, f4, f5, f6, f7, f8, f9, f10, f11, f12, f13, b3, b4, b5, b6, b7, c0⟩ | ⟨p27, p28, p29, p30, p31, p32, q42, z3, z4, z5, z6, z7, f0, f1, f2, f3, f4, f5, f6, f7, f8, f9, f10, f11, f12, f13, b3, b4, b5, b6, b7, c0⟩ | ⟨p27, p28, p29, p30, p31, p32, q42, z3, z4, z5, z6, z7, f0, f1, f2, f3, f4, f5, f6, f7, f8, f9, f10, f11, f12, f13, b3, b4, b5, b6, b7, c0⟩ | ⟨p27, p28, p29, p30, p31, p32, q42, z3, z4, z5, z6, z7, f0, f1, f2, f3, f4, f5, f6, f7, f8, f9, f10, f11, f12, f13, f14, b3, b4, b5, b6, b7, c0⟩ | ⟨p27, p28, p29, p30, p31, p32, q42, z3, z4, z5, z6, z7, f0, f1, f2, f3, f4, f5, f6, f7, f8, f9, f10, f11, f12, f13, f14, b3, b4, b5, b6, b7, c0⟩ | ⟨p27, p28, p29, p30, p31, p32, q42, z3, z4, z5, z6, z7, f0, f1, f2, f3, f4, f5, f6, f7, f8, f9, f10, f11, f12, f13, f14, b3, b4, b5, b6, b7, c0⟩ | ⟨p27, p28, p29, p30, p31, p32, q42, z3, z4, z5, z6, z7, f0, f1, f2, f3, f4, f5, f6, f7, f8, f9, f10, f11, f12, f13, f14, b3, b4, b5, b6, b7, c0⟩ | ⟨p27, p28, p29, p30, p31, p32, q42, z3, z4, z5, z6, z7, f0, f1, f2, f3, f4, f5, f6, f7, f8, f9, f10, f11, f12, f13, f14, f15, b3, b4, b5, b6, b7, c0⟩ | ⟨p27, p28, p29, p30, p31, p32, q42, z3, z4, z5, z6, z7, f0, f1, f2, f3, f4, f5, f6, f7, f8, f9, f10, f11, f12, f13, f14, b3, b4, b5, b6, b7, c0⟩ | ⟨p27, p28, p29, p30, p31, p32, q42, z3, z4, z5, z6, z7, f0, f1, f2, f3, f4, f5, f6, f7, f8, f9, f10, f11, f12, f13, b3, b4, b5, b6, b7, c0⟩ | ⟨p27, p28, p29, p30, p31, p32, q42, z3, z4, z5, z6, z7, f0, f1, f2, f3, f4, f5, f6, f7, f8, f9, f10, f11, f12, b3, b4, b5, b6, b7, c0⟩ | ⟨p27, p28, p29, p30, p31, p32, q42, z3, z4, z5, z6, z7, f0, f1, f2, f3, f4, f5, f6, f7, f8, f9, f10, f11, f12, f13, f14, f15, b3, b4, b5, b6, b7, c0⟩ | ⟨p27, p28, z3, f0, f1, f2, b3, c0⟩
  · have e4 : z4 = ((0 : Nat) : Int) := by omega
    rw [oI e4 (by decide)] at f7
    rw [oI (k := z5.toNat) (by omega) (by omega)] at f8 f13
    rw [oI (k := z6.toNat) (by omega) (by omega)] at f9
    rw [oI (k := z7.toNat) (by omega) (by omega)] at f10
    rw [oI (x := (0 : Int)) (k := 0) rfl (by decide)] at f12
    exact Or.inr ⟨p27, p28, p29, p30, p31, p32, q42, 0, z5.toNat, z6.toNat, z7.toNat, f0, f1, f2, f3, f4, f5, f7, f8, f9, f10, ⟨by decide, by omega, by omega, by omega⟩, f11, f12, fun _ _ => f13, fun z => absurd z (by decide), fun z => absurd z (by decide)⟩
  · have e4 : z4 = ((1 : Nat) : Int) := by omega
    rw [oI e4 (by decide)] at f7
    rw [oI (k := z5.toNat) (by omega) (by omega)] at f8 f13
    rw [oI (k := z6.toNat) (by omega) (by omega)] at f9
    rw [oI (k := z7.toNat) (by omega) (by omega)] at f10
    rw [oI (x := (1 : Int)) (k := 1) rfl (by decide)] at f12
    exact Or.inr ⟨p27, p28, p29, p30, p31, p32, q42, 1, z5.toNat, z6.toNat, z7.toNat, f0, f1, f2, f3, f4, f5, f7, f8, f9, f10, ⟨by decide, by omega, by omega, by omega⟩, f11, f12, fun _ _ => f13, fun z => absurd z (by decide), fun z => absurd z (by decide)⟩
  · have e4 : z4 = ((2 : Nat) : Int) := by omega
    rw [oI e4 (by decide)] at f7
    rw [oI (k := z5.toNat) (by omega) (by omega)] at f8 f13
    rw [oI (k := z6.toNat) (by omega) (by omega)] at f9
    rw [oI (k := z7.toNat) (by omega) (by omega)] at f10
    rw [oI (x := (2 : Int)) (k := 2) rfl (by decide)] at f12
    exact Or.inr ⟨p27, p28, p29, p30, p31, p32, q42, 2, z5.toNat, z6.toNat, z7.toNat, f0, f1, f2, f3, f4, f5, f7, f8, f9, f10, ⟨by decide, by omega, by omega, by omega⟩, f11, f12, fun _ _ => f13, fun z => absurd z (by decide), fun z => absurd z (by decide)⟩
  · have e4 : z4 = ((3 : Nat) : Int) := by omega
    rw [oI e4 (by decide)] at f7
    rw [oI (k := z5.toNat) (by omega) (by omega)] at f8 f13
    rw [oI (k := z6.toNat) (by omega) (by omega)] at f9
    rw [oI (k := z7.toNat) (by omega) (by omega)] at f10 f14
    rw [oI (x := (3 : Int)) (k := 3) rfl (by decide)] at f12
    exact Or.inr ⟨p27, p28, p29, p30, p31, p32, q42, 3, z5.toNat, z6.toNat, z7.toNat, f0, f1, f2, f3, f4, f5, f7, f8, f9, f10, ⟨by decide, by omega, by omega, by omega⟩, f11, f12, fun _ _ => f13, fun z => absurd z (by decide), fun _ => f14⟩
  · have e4 : z4 = ((4 : Nat) : Int) := by omega
    rw [oI e4 (by decide)] at f7
    rw [oI (k := z5.toNat) (by omega) (by omega)] at f8 f13
    rw [oI (k := z6.toNat) (by omega) (by omega)] at f9 f14
    rw [oI (k := z7.toNat) (by omega) (by omega)] at f10
    rw [oI (x := (4 : Int)) (k := 4) rfl (by decide)] at f12
    exact Or.inr ⟨p27, p28, p29, p30, p31, p32, q42, 4, z5.toNat, z6.toNat, z7.toNat, f0, f1, f2, f3, f4, f5, f7, f8, f9, f10, ⟨by decide, by omega, by omega, by omega⟩, f11, f12, fun _ _ => f13, fun _ => f14, fun z => absurd z (by decide)⟩
  · have e4 : z4 = ((5 : Nat) : Int) := by omega
    rw [oI e4 (by decide)] at f7
    rw [oI (k := z5.toNat) (by omega) (by omega)] at f8 f13
    rw [oI (k := z6.toNat) (by omega) (by omega)] at f9 f14
    rw [oI (k := z7.toNat) (by omega) (by omega)] at f10
    rw [oI (x := (5 : Int)) (k := 5) rfl (by decide)] at f12
    exact Or.inr ⟨p27, p28, p29, p30, p31, p32, q42, 5, z5.toNat, z6.toNat, z7.toNat, f0, f1, f2, f3, f4, f5, f7, f8, f9, f10, ⟨by decide, by omega, by omega, by omega⟩, f11, f12, fun _ _ => f13, fun _ => f14, fun z => absurd z (by decide)⟩
  · have e4 : z4 = ((6 : Nat) : Int) := by omega
    rw [oI e4 (by decide)] at f7
    rw [oI (k := z5.toNat) (by omega) (by omega)] at f8 f13
    rw [oI (k := z6.toNat) (by omega) (by omega)] at f9 f14
    rw [oI (k := z7.toNat) (by omega) (by omega)] at f10
    rw [oI (x := (6 : Int)) (k := 6) rfl (by decide)] at f12
    exact Or.inr ⟨p27, p28, p29, p30, p31, p32, q42, 6, z5.toNat, z6.toNat, z7.toNat, f0, f1, f2, f3, f4, f5, f7, f8, f9, f10, ⟨by decide, by omega, by omega, by omega⟩, f11, f12, fun _ _ => f13, fun _ => f14, fun z => absurd z (by decide)⟩
  · have e4 : z4 = ((7 : Nat) : Int) := by omega
    rw [oI e4 (by decide)] at f7
    rw [oI (k := z5.toNat) (by omega) (by omega)] at f8 f13
    rw [oI (k := z6.toNat) (by omega) (by omega)] at f9 f14
    rw [oI (k := z7.toNat) (by omega) (by omega)] at f10 f15
    rw [oI (x := (7 : Int)) (k := 7) rfl (by decide)] at f12
    exact Or.inr ⟨p27, p28, p29, p30, p31, p32, q42, 7, z5.toNat, z6.toNat, z7.toNat, f0, f1, f2, f3, f4, f5, f7, f8, f9, f10, ⟨by decide, by omega, by omega, by omega⟩, f11, f12, fun _ _ => f13, fun _ => f14, fun _ => f15⟩
  · have e4 : z4 = ((8 : Nat) : Int) := by omega
    rw [oI e4 (by decide)] at f7
    rw [oI (k := z5.toNat) (by omega) (by omega)] at f8 f13
    rw [oI (k := z6.toNat) (by omega) (by omega)] at f9
    rw [oI (k := z7.toNat) (by omega) (by omega)] at f10 f14
    rw [oI (x := (9 : Int)) (k := 9) rfl (by decide)] at f12
    exact Or.inr ⟨p27, p28, p29, p30, p31, p32, q42, 8, z5.toNat, z6.toNat, z7.toNat, f0, f1, f2, f3, f4, f5, f7, f8, f9, f10, ⟨by decide, by omega, by omega, by omega⟩, f11, f12, fun _ _ => f13, fun z => absurd z (by decide), fun _ => f14⟩
  · have e4 : z4 = ((9 : Nat) : Int) := by omega
    rw [oI e4 (by decide)] at f7
    rw [oI (k := z5.toNat) (by omega) (by omega)] at f8
    rw [oI (k := z6.toNat) (by omega) (by omega)] at f9
    rw [oI (k := z7.toNat) (by omega) (by omega)] at f10 f13
    rw [oI (x := (10 : Int)) (k := 10) rfl (by decide)] at f12
    exact Or.inr ⟨p27, p28, p29, p30, p31, p32, q42, 9, z5.toNat, z6.toNat, z7.toNat, f0, f1, f2, f3, f4, f5, f7, f8, f9, f10, ⟨by decide, by omega, by omega, by omega⟩, f11, f12, fun z _ => absurd rfl z, fun z => absurd z (by decide), fun _ => f13⟩
  · have e4 : z4 = ((10 : Nat) : Int) := by omega
    rw [oI e4 (by decide)] at f7
    rw [oI (k := z5.toNat) (by omega) (by omega)] at f8
    rw [oI (k := z6.toNat) (by omega) (by omega)] at f9
    rw [oI (k := z7.toNat) (by omega) (by omega)] at f10
    rw [oI (x := (11 : Int)) (k := 11) rfl (by decide)] at f12
    exact Or.inr ⟨p27, p28, p29, p30, p31, p32, q42, 10, z5.toNat, z6.toNat, z7.toNat, f0, f1, f2, f3, f4, f5, f7, f8, f9, f10, ⟨by decide, by omega, by omega, by omega⟩, f11, f12, fun _ z => absurd rfl z, fun z => absurd z (by decide), fun z => absurd z (by decide)⟩
  · have e4 : z4 = ((11 : Nat) : Int) := by omega
    rw [oI e4 (by decide)] at f7
    rw [oI (k := z5.toNat) (by omega) (by omega)] at f8 f13
    rw [oI (k := z6.toNat) (by omega) (by omega)] at f9 f14
    rw [oI (k := z7.toNat) (by omega) (by omega)] at f10 f15
    rw [oI (x := (8 : Int)) (k := 8) rfl (by decide)] at f12
    exact Or.inr ⟨p27, p28, p29, p30, p31, p32, q42, 11, z5.toNat, z6.toNat, z7.toNat, f0, f1, f2, f3, f4, f5, f7, f8, f9, f10, ⟨by decide, by omega, by omega, by omega⟩, f11, f12, fun _ _ => f13, fun _ => f14, fun _ => f15⟩
  · exact Or.inl ⟨p27, p28, z3, f0, f1, f2, ⟨by omega, by omega⟩, by omega⟩
theorem c_at (h : HX ρ σ ty H n) {q l : Nat} (hq : q < n) (hl : l < dNl (gD H σ yr) q) : (rV H (gL H (sR σ 6) 0 q) l = some (.inl (nI (dOp (gD H σ yr) q l))) ∧ rV H (gL H (sR σ 6) 1 q) l = some (.inl (nI (dLf (gD H σ yr) q l))) ∧ rV H (gL H (sR σ 6) 2 q) l = some (.inl (nI (dRt (gD H σ yr) q l))) ∧ rV H (gL H (sR σ 6) 3 q) l = some (.inl (nI (dNm (gD H σ yr) q l)))) ∧ (dOp (gD H σ yr) q l ≤ 11 ∧ dLf (gD H σ yr) q l < 6 ∧ dRt (gD H σ yr) q l < 6 ∧ dNm (gD H σ yr) q l < 10000) ∧ rV H (gP H (sR σ 43) q) (4 * l) = some (.inl (nI (opR (dOp (gD H σ yr) q l)))) ∧ (dOp (gD H σ yr) q l ≠ 9 → dOp (gD H σ yr) q l ≠ 10 → rV H (gP H (sR σ 43) q) (4 * l + 1) = some (.inl (nI (dLf (gD H σ yr) q l)))) ∧ ((dOp (gD H σ yr) q l = 4 ∨ dOp (gD H σ yr) q l = 5 ∨ dOp (gD H σ yr) q l = 6 ∨ dOp (gD H σ yr) q l = 7 ∨ dOp (gD H σ yr) q l = 11) → rV H (gP H (sR σ 43) q) (4 * l + 2) = some (.inl (nI (dRt (gD H σ yr) q l)))) ∧ ((dOp (gD H σ yr) q l = 3 ∨ dOp (gD H σ yr) q l = 7 ∨ dOp (gD H σ yr) q l = 8 ∨ dOp (gD H σ yr) q l = 9 ∨ dOp (gD H σ yr) q l = 11) → rV H (gP H (sR σ 43) q) (4 * l + 3) = some (.inl (nI (dNm (gD H σ yr) q l)))) := by
  obtain ⟨p1, p2, p3, p4, p5, -⟩ := p_at (yr := yr) h hq
  rcases cd_at h hq (l := l) (by omega) with ⟨P, C, z3, f1, f2, f3, ⟨b1, b2⟩, b3⟩ | ⟨P, C, r0, r1, r2, r3, D, o, f, g, m, f1, f2, f3, f4, f5, f5b, f6, f7, f8, f8b, f9, f10, f11, f12, f13, f14⟩
  · have e1 : gP H (sR σ 6) q = P := rR_of f1
    have e3 : gC H (sR σ 6) q = C := by
      unfold gC
      rw [e1]
      exact rR_of f2
    rw [oI (k := z3.toNat) (by omega) (by omega)] at f3
    have e4 : dNl (gD H σ yr) q = z3.toNat := by
      show hN_ H (gC H (sR σ 6) q) 4 = _
      rw [e3]
      exact hN_of f3 (by omega)
    omega
  · have e1 : gP H (sR σ 6) q = P := rR_of f1
    have e3 : gC H (sR σ 6) q = C := by
      unfold gC
      rw [e1]
      exact rR_of f2
    have a0 : gL H (sR σ 6) 0 q = r0 := by
      unfold gL
      rw [e3]
      exact rR_of f3
    have a1 : gL H (sR σ 6) 1 q = r1 := by
      unfold gL
      rw [e3]
      exact rR_of f4
    have a2 : gL H (sR σ 6) 2 q = r2 := by
      unfold gL
      rw [e3]
      exact rR_of f5
    have a3 : gL H (sR σ 6) 3 q = r3 := by
      unfold gL
      rw [e3]
      exact rR_of f5b
    have o0 : dOp (gD H σ yr) q l = o := by
      show hN_ H (gL H (sR σ 6) 0 q) l = _
      rw [a0]
      exact hN_of f6 (by omega)
    have o1 : dLf (gD H σ yr) q l = f := by
      show hN_ H (gL H (sR σ 6) 1 q) l = _
      rw [a1]
      exact hN_of f7 (by omega)
    have o2 : dRt (gD H σ yr) q l = g := by
      show hN_ H (gL H (sR σ 6) 2 q) l = _
      rw [a2]
      exact hN_of f8 (by omega)
    have o3 : dNm (gD H σ yr) q l = m := by
      show hN_ H (gL H (sR σ 6) 3 q) l = _
      rw [a3]
      exact hN_of f8b (by omega)
    have e5 : gP H (sR σ 43) q = D := rR_of f10
    rw [a0, a1, a2, a3, o0, o1, o2, o3, e5]
    exact ⟨⟨f6, f7, f8, f8b⟩, f9, f11, f12, f13, f14⟩
theorem tP_of (h : HX ρ σ ty H n) {q : Nat} (hq : q < n) : ty (gP H (sR σ 6) q) = some 44 := by
  have hn := HX_12 h
  have hp := h.1.1
  have p1 := (p_at (yr := 0) h hq).1
  have t6 := ty_of h (i := 6) (c := 23) rfl
  obtain ⟨vs, v1, v2⟩ := cell_r hp t6 (t := 2) (m := 12) (by decide +kernel)
  exact cell_e hp t6 (j := q) (z := true) (c2 := 44) ((by decide +kernel : ∀ j, j < 12 → kel 23 j = some (.inr (true, 44))) q (by omega)) v1 (by rw [← rV_r v1]; exact p1)
theorem tC_of (h : HX ρ σ ty H n) {q : Nat} (hq : q < n) : ty (gC H (sR σ 6) q) = some 27 := by
  have tP := tP_of h hq
  obtain ⟨po, o1, o2⟩ := cell_o h.1.1 tP (t := 10) (m := 20) (by decide +kernel)
  exact cell_f h.1.1 tP (j := 0) (z := false) (c2 := 27) (by decide +kernel) o1 (by rw [← rV_o o1]; exact (p_at (yr := 0) h hq).2.2.1)
/-- a program's rows: shelf, file, twin, and of trials -/
theorem r_of (h : HX ρ σ ty H n) {q j : Nat} (hq : q < n) (h2 : 2 ≤ j) (h6 : j ≤ 6) : rV H (gP H (sR σ 6) q) j = some (.inr (some (gR H (sR σ 6) j q))) ∧ ty (gR H (sR σ 6) j q) = some 31 ∧ ty (gI H (sR σ 6) j q) = some 8 ∧ (∃ bs : Int32, H[gR H (sR σ 6) j q]? = some (.inl (5, [.inr (some (gI H (sR σ 6) j q)), .inl bs]))) ∧ ∃ l, H[gI H (sR σ 6) j q]? = some (.inr (0, l)) ∧ l.length = 12 := by
  have hp := h.1.1
  have tP := tP_of h hq
  obtain ⟨po, o1, o2⟩ := cell_o hp tP (t := 10) (m := 20) (by decide +kernel)
  have kj : kf 44 j = some (.inr (false, 31)) := by
    rcases (show j = 2 ∨ j = 3 ∨ j = 4 ∨ j = 5 ∨ j = 6 by omega) with rfl | rfl | rfl | rfl | rfl
    all_goals decide +kernel
  obtain ⟨r, w, tr⟩ := cell_fx hp tP kj o1
  rw [← rV_o o1] at w
  have er : gR H (sR σ 6) j q = r := rR_of w
  obtain ⟨ro, x1, x2⟩ := cell_o hp tr (t := 5) (m := 2) (by decide +kernel)
  obtain ⟨it, y1, ti⟩ := cell_fx hp tr (j := 0) (c2 := 8) (by decide +kernel) x1
  obtain ⟨bs, y2⟩ := cell_fi hp tr (j := 1) (p := (0, 12)) (by decide +kernel) x1
  have ei : gI H (sR σ 6) j q = it := by
    unfold gI
    rw [er]
    exact rR_of (by rw [rV_o x1]; exact y1)
  obtain ⟨l, z1, z2⟩ := cell_r hp ti (t := 0) (m := 12) (by decide +kernel)
  rw [ei, er]
  refine ⟨w, tr, ti, ⟨bs, ?_⟩, l, z1, z2⟩
  rw [x1]
  rcases ro with _ | ⟨a, _ | ⟨b, _ | ⟨c, ro⟩⟩⟩
  · cases y1
  · cases y2
  · cases y1
    cases y2
    rfl
  · exact absurd x2 (by simp)
theorem zS_of (h : HX ρ σ ty H n) {q : Nat} (hq : q < n) : rV H (gR H (sR σ 6) 2 q) 1 = some (.inl (nI (dHn (gD H σ yr) q))) ∧ rV H (sR σ 54) q = some (.inl (nI (dHn (gD H σ yr) q))) ∧ dHn (gD H σ yr) q ≤ 12 := by
  have hn := HX_12 h
  obtain ⟨p27, p28, p29, q42, z2, f0, f1, f2, f3, f4, f5, b2⟩ := FmzS h hq
  rw [oI (k := z2.toNat) (by omega) (by omega)] at f3 f4
  have e1 : gP H (sR σ 6) q = p27 := rR_of f0
  have e2 : gR H (sR σ 6) 2 q = p28 := by
    unfold gR
    rw [e1]
    exact rR_of f1
  have e3 : dHn (gD H σ yr) q = z2.toNat := by
    show hN_ H (gR H (sR σ 6) 2 q) 1 = _
    rw [e2]
    exact hN_of f3 (by omega)
  rw [e2, e3]
  exact ⟨f3, f4, by omega⟩
theorem zW_of (h : HX ρ σ ty H n) {q : Nat} (hq : q < n) : rV H (gR H (sR σ 6) 3 q) 1 = some (.inl (nI (dWn (gD H σ yr) q))) ∧ rV H (sR σ 56) q = some (.inl (nI (dWn (gD H σ yr) q))) ∧ dWn (gD H σ yr) q ≤ 12 := by
  have hn := HX_12 h
  obtain ⟨p27, p28, p29, z2, f0, f1, f2, f3, f4, b2⟩ := FmzW h hq
  rw [oI (k := z2.toNat) (by omega) (by omega)] at f3 f4
  have e1 : gP H (sR σ 6) q = p27 := rR_of f0
  have e2 : gR H (sR σ 6) 3 q = p28 := by
    unfold gR
    rw [e1]
    exact rR_of f1
  have e3 : dWn (gD H σ yr) q = z2.toNat := by
    show hN_ H (gR H (sR σ 6) 3 q) 1 = _
    rw [e2]
    exact hN_of f3 (by omega)
  rw [e2, e3]
  exact ⟨f3, f4, by omega⟩
theorem zT_of (h : HX ρ σ ty H n) {q : Nat} (hq : q < n) : rV H (gR H (sR σ 6) 4 q) 1 = some (.inl (nI (dTn (gD H σ yr) q))) ∧ rV H (sR σ 58) q = some (.inl (nI (dTn (gD H σ yr) q))) ∧ dTn (gD H σ yr) q ≤ 12 := by
  have hn := HX_12 h
  obtain ⟨p27, p28, p29, z2, f0, f1, f2, f3, f4, b2⟩ := FmzT h hq
  rw [oI (k := z2.toNat) (by omega) (by omega)] at f3 f4
  have e1 : gP H (sR σ 6) q = p27 := rR_of f0
  have e2 : gR H (sR σ 6) 4 q = p28 := by
    unfold gR
    rw [e1]
    exact rR_of f1
  have e3 : dTn (gD H σ yr) q = z2.toNat := by
    show hN_ H (gR H (sR σ 6) 4 q) 1 = _
    rw [e2]
    exact hN_of f3 (by omega)
  rw [e2, e3]
  exact ⟨f3, f4, by omega⟩
theorem W_of (h : HX ρ σ ty H n) {q k : Nat} (hq : q < n) (hk : k < dWn (gD H σ yr) q) : rV H (gI H (sR σ 6) 3 q) k = some (.inl (dWv (gD H σ yr) q k)) ∧ rV H (rR H (sR σ 55) q) k = some (.inl (dWv (gD H σ yr) q k)) := by
  have hn := HX_12 h
  obtain ⟨u1, -, u3⟩ := zW_of (yr := yr) h hq
  rcases FmW h hq (k := k) (by omega) with ⟨p27, p28, p29, q42, z3, z4, f0, f1, f2, f3, f4, f5, f6, f7, b3, c0⟩ | ⟨p27, p28, p29, z3, f0, f1, f2, f3, f4, b3, c0⟩
  · have e1 : gP H (sR σ 6) q = p27 := rR_of f0
    have e2 : gR H (sR σ 6) 3 q = p28 := by
      unfold gR
      rw [e1]
      exact rR_of f1
    have e3 : gI H (sR σ 6) 3 q = p29 := by
      unfold gI
      rw [e2]
      exact rR_of f2
    have e4 : dWv (gD H σ yr) q k = Int32.ofInt z4 := by
      show rI9 H (gI H (sR σ 6) 3 q) k = _
      rw [e3]
      exact rI9_of f4
    have e5 : rR H (sR σ 55) q = q42 := rR_of f6
    rw [e3, e4, e5]
    exact ⟨f4, f7⟩
  · have e1 : gP H (sR σ 6) q = p27 := rR_of f0
    have e2 : gR H (sR σ 6) 3 q = p28 := by
      unfold gR
      rw [e1]
      exact rR_of f1
    rw [e2] at u1
    rw [oI (k := z3.toNat) (by omega) (by omega)] at f3
    have u4 := u1.symm.trans f3
    have u5 : dWn (gD H σ yr) q = z3.toNat := by
      injection u4 with u4
      injection u4 with u4
      exact (nI_eq (by omega) (by omega)).mp u4
    omega
theorem T_of (h : HX ρ σ ty H n) {q k : Nat} (hq : q < n) (hk : k < dTn (gD H σ yr) q) : rV H (gI H (sR σ 6) 4 q) k = some (.inl (dTv (gD H σ yr) q k)) ∧ rV H (rR H (sR σ 57) q) k = some (.inl (dTv (gD H σ yr) q k)) := by
  have hn := HX_12 h
  obtain ⟨u1, -, u3⟩ := zT_of (yr := yr) h hq
  rcases FmT h hq (k := k) (by omega) with ⟨p27, p28, p29, q42, z3, z4, f0, f1, f2, f3, f4, f5, f6, f7, b3, c0⟩ | ⟨p27, p28, p29, z3, f0, f1, f2, f3, f4, b3, c0⟩
  · have e1 : gP H (sR σ 6) q = p27 := rR_of f0
    have e2 : gR H (sR σ 6) 4 q = p28 := by
      unfold gR
      rw [e1]
      exact rR_of f1
    have e3 : gI H (sR σ 6) 4 q = p29 := by
      unfold gI
      rw [e2]
      exact rR_of f2
    have e4 : dTv (gD H σ yr) q k = Int32.ofInt z4 := by
      show rI9 H (gI H (sR σ 6) 4 q) k = _
      rw [e3]
      exact rI9_of f4
    have e5 : rR H (sR σ 57) q = q42 := rR_of f6
    rw [e3, e4, e5]
    exact ⟨f4, f7⟩
  · have e1 : gP H (sR σ 6) q = p27 := rR_of f0
    have e2 : gR H (sR σ 6) 4 q = p28 := by
      unfold gR
      rw [e1]
      exact rR_of f1
    rw [e2] at u1
    rw [oI (k := z3.toNat) (by omega) (by omega)] at f3
    have u4 := u1.symm.trans f3
    have u5 : dTn (gD H σ yr) q = z3.toNat := by
      injection u4 with u4
      injection u4 with u4
      exact (nI_eq (by omega) (by omega)).mp u4
    omega
theorem S_of (h : HX ρ σ ty H n) {q k : Nat} (hq : q < n) (hk : k < dHn (gD H σ yr) q) : rV H (gI H (sR σ 6) 2 q) k = some (.inl (dHv (gD H σ yr) q k)) ∧ ∃ x : Int32, rV H (rR H (sR σ 53) q) k = some (.inl x) ∧ dHv (gD H σ yr) q k = if x = -1 then 0 else x := by
  have hn := HX_12 h
  obtain ⟨u1, -, u3⟩ := zS_of (yr := yr) h hq
  rcases FmS h hq (k := k) (by omega) with ⟨p27, p28, p29, q42, z3, z4, f0, f1, f2, f3, f4, f5, f6, f7, b3, b4, c0⟩ | ⟨p27, p28, p29, q42, z3, f0, f1, f2, f3, f4, f5, f6, f7, b3, c0⟩ | ⟨p27, p28, p29, q42, z3, f0, f1, f2, f3, f4, f5, b3, c0⟩
  · have e1 : gP H (sR σ 6) q = p27 := rR_of f0
    have e2 : gR H (sR σ 6) 2 q = p28 := by
      unfold gR
      rw [e1]
      exact rR_of f1
    have e3 : gI H (sR σ 6) 2 q = p29 := by
      unfold gI
      rw [e2]
      exact rR_of f2
    have e5 : rR H (sR σ 53) q = q42 := rR_of f6
    have e4 : dHv (gD H σ yr) q k = Int32.ofInt z4 := by
      show rI9 H (gI H (sR σ 6) 2 q) k = _
      rw [e3]
      exact rI9_of f4
    rw [e3, e4, e5]
    refine ⟨f4, _, f7, ?_⟩
    rw [oI (k := z4.toNat) (by omega) (by omega), if_neg (fun z => ?_)]
    have z : (nI z4.toNat).toInt = -1 := by
      rw [z]
      rfl
    rw [nI_toInt (by omega)] at z
    omega
  · have e1 : gP H (sR σ 6) q = p27 := rR_of f0
    have e2 : gR H (sR σ 6) 2 q = p28 := by
      unfold gR
      rw [e1]
      exact rR_of f1
    have e3 : gI H (sR σ 6) 2 q = p29 := by
      unfold gI
      rw [e2]
      exact rR_of f2
    have e5 : rR H (sR σ 53) q = q42 := rR_of f6
    have e4 : dHv (gD H σ yr) q k = Int32.ofInt 0 := by
      show rI9 H (gI H (sR σ 6) 2 q) k = _
      rw [e3]
      exact rI9_of f4
    rw [e3, e4, e5]
    exact ⟨f4, _, f7, rfl⟩
  · have e1 : gP H (sR σ 6) q = p27 := rR_of f0
    have e2 : gR H (sR σ 6) 2 q = p28 := by
      unfold gR
      rw [e1]
      exact rR_of f1
    rw [e2] at u1
    rw [oI (k := z3.toNat) (by omega) (by omega)] at f3
    have u4 := u1.symm.trans f3
    have u5 : dHn (gD H σ yr) q = z3.toNat := by
      injection u4 with u4
      injection u4 with u4
      exact (nI_eq (by omega) (by omega)).mp u4
    omega
theorem gI_e (h : HX ρ σ ty H n) : ∀ j q, gI H (sR σ 6) j q = rR H (gR H (sR σ 6) j q) 0 := fun _ _ => rfl
/-- what the class's night writes -/
def wlA (n : Nat) (K : Ka) : List Nat := [aOt K, a3N2 K, aOu K, a3N1 K] ++ (List.range n).flatMap (fun q => [aP K q, aX K q, aXi K q, aV K q, aVi K q])
theorem wlA_no {K : Ka} {x : Nat} (h1 : x ≠ aOt K) (h2 : x ≠ a3N2 K) (h3 : x ≠ aOu K) (h4 : x ≠ a3N1 K) (h5 : ∀ q, q < n → x ≠ aP K q ∧ x ≠ aX K q ∧ x ≠ aXi K q ∧ x ≠ aV K q ∧ x ≠ aVi K q) : ∀ k : Nat, (wlA n K)[k]? ≠ some x := fun k hk => by
  have hm := List.mem_of_getElem? hk
  unfold wlA at hm
  rcases List.mem_append.mp hm with hm | hm
  · simp only [List.mem_cons, List.not_mem_nil, or_false] at hm
    rcases hm with hm | hm | hm | hm
    · exact h1 hm
    · exact h2 hm
    · exact h3 hm
    · exact h4 hm
  · obtain ⟨q, hq, hm⟩ := List.mem_flatMap.mp hm
    obtain ⟨a, b, c, e, f⟩ := h5 q (List.mem_range.mp hq)
    simp only [List.mem_cons, List.not_mem_nil, or_false] at hm
    rcases hm with hm | hm | hm | hm | hm
    · exact a hm
    · exact b hm
    · exact c hm
    · exact e hm
    · exact f hm
theorem wlA_in {K : Ka} : aOt K ∈ wlA n K ∧ a3N2 K ∈ wlA n K ∧ aOu K ∈ wlA n K ∧ a3N1 K ∈ wlA n K ∧ ∀ q, q < n → aP K q ∈ wlA n K ∧ aX K q ∈ wlA n K ∧ aXi K q ∈ wlA n K ∧ aV K q ∈ wlA n K ∧ aVi K q ∈ wlA n K := by
  have a : ∀ x, x ∈ [aOt K, a3N2 K, aOu K, a3N1 K] → x ∈ wlA n K := fun x hx => List.mem_append.mpr (Or.inl hx)
  have b : ∀ q, q < n → ∀ x, x ∈ [aP K q, aX K q, aXi K q, aV K q, aVi K q] → x ∈ wlA n K := fun q hq x hx => List.mem_append.mpr (Or.inr (List.mem_flatMap.mpr ⟨q, List.mem_range.mpr hq, hx⟩))
  exact ⟨a _ (by simp), a _ (by simp), a _ (by simp), a _ (by simp), fun q hq => ⟨b q hq _ (by simp), b q hq _ (by simp), b q hq _ (by simp), b q hq _ (by simp), b q hq _ (by simp)⟩⟩
def colA (ty : Nat → Option Nat) (x : Nat) : Nat := match ty x with
  | some 34 => 0
  | some 33 => 0
  | some 7 => 1
  | some 31 => 2
  | some 8 => 3
  | some 44 => 4
  | _ => 9
theorem colA_of {x c : Nat} (h : ty x = some c) : colA ty x = match (some c : Option Nat) with
  | some 34 => 0
  | some 33 => 0
  | some 7 => 1
  | some 31 => 2
  | some 8 => 3
  | some 44 => 4
  | _ => 9 := by
  unfold colA
  rw [h]
theorem kty (h : HX ρ σ ty H n) : ty (aOt (gK H σ)) = some 34 ∧ ty (a3N2 (gK H σ)) = some 7 ∧ ty (aOu (gK H σ)) = some 33 ∧ ty (a3N1 (gK H σ)) = some 7 := ⟨show ty (sR σ 11) = some 34 from ty_of h rfl, show ty (sR σ 12) = some 7 from ty_of h rfl, show ty (sR σ 7) = some 33 from ty_of h rfl, show ty (sR σ 8) = some 7 from ty_of h rfl⟩
theorem wlA_ty (h : HX ρ σ ty H n) {x c : Nat} (hx : ty x = some c) (hc : c ≠ 34 ∧ c ≠ 33 ∧ c ≠ 7 ∧ c ≠ 31 ∧ c ≠ 8 ∧ c ≠ 44) : ∀ k : Nat, (wlA n (gK H σ))[k]? ≠ some x := by
  obtain ⟨t1, t2, t3, t4⟩ := kty h
  obtain ⟨c1, c2, c3, c4, c5, c6⟩ := hc
  refine wlA_no (nty hx t1 c1) (nty hx t2 c3) (nty hx t3 c2) (nty hx t4 c3) (fun q hq => ?_)
  obtain ⟨-, x1, x2, -⟩ := r_of h (j := 6) hq (by decide) (by decide)
  obtain ⟨-, v1, v2, -⟩ := r_of h (j := 5) hq (by decide) (by decide)
  exact ⟨nty hx (tP_of h hq) c6, nty hx x1 c4, nty hx x2 c5, nty hx v1 c4, nty hx v2 c5⟩
/-- rows of programs are none of those of trials -/
theorem aT_of (h : HX ρ σ ty H n) {q k j : Nat} (hq : q < n) (hk : k < n) (hj : j = 2 ∨ j = 3 ∨ j = 4) : gR H (sR σ 6) j q ≠ gR H (sR σ 6) 6 k ∧ gI H (sR σ 6) j q ≠ gI H (sR σ 6) 6 k ∧ gR H (sR σ 6) j q ≠ gR H (sR σ 6) 5 k ∧ gI H (sR σ 6) j q ≠ gI H (sR σ 6) 5 k := by
  obtain ⟨p27, p28, p29, p30, p31, p32, p33, p34, p35, p36, p37, p38, f0, f1, f2, f3, f4, f5, f6, f7, f8, f9, f10, f11, f12, f13, f14, f15, f16, f17, f18, f19, f20, f21, f22, f23⟩ := FmaT h hq hk
  have e1 : gP H (sR σ 6) q = p27 := rR_of f0
  have e2 : gP H (sR σ 6) k = p34 := rR_of f7
  have a6 : gR H (sR σ 6) 6 k = p35 := by
    unfold gR
    rw [e2]
    exact rR_of f8
  have a5 : gR H (sR σ 6) 5 k = p37 := by
    unfold gR
    rw [e2]
    exact rR_of f10
  have i6 : gI H (sR σ 6) 6 k = p36 := by
    unfold gI
    rw [a6]
    exact rR_of f9
  have i5 : gI H (sR σ 6) 5 k = p38 := by
    unfold gI
    rw [a5]
    exact rR_of f11
  rw [a6, a5, i6, i5]
  rcases hj with rfl | rfl | rfl
  · have a : gR H (sR σ 6) 2 q = p28 := by
      unfold gR
      rw [e1]
      exact rR_of f1
    have i : gI H (sR σ 6) 2 q = p29 := by
      unfold gI
      rw [a]
      exact rR_of f2
    rw [a, i]
    exact ⟨f12, f13, f14, f15⟩
  · have a : gR H (sR σ 6) 3 q = p30 := by
      unfold gR
      rw [e1]
      exact rR_of f3
    have i : gI H (sR σ 6) 3 q = p31 := by
      unfold gI
      rw [a]
      exact rR_of f4
    rw [a, i]
    exact ⟨f16, f17, f18, f19⟩
  · have a : gR H (sR σ 6) 4 q = p32 := by
      unfold gR
      rw [e1]
      exact rR_of f5
    have i : gI H (sR σ 6) 4 q = p33 := by
      unfold gI
      rw [a]
      exact rR_of f6
    rw [a, i]
    exact ⟨f20, f21, f22, f23⟩
theorem aX_of (h : HX ρ σ ty H n) {q k : Nat} (hq : q < k) (hk : k < n) : (gR H (sR σ 6) 6 q ≠ gR H (sR σ 6) 6 k ∧ gI H (sR σ 6) 6 q ≠ gI H (sR σ 6) 6 k) ∧ (gR H (sR σ 6) 6 q ≠ gR H (sR σ 6) 5 k ∧ gI H (sR σ 6) 6 q ≠ gI H (sR σ 6) 5 k) ∧ (gR H (sR σ 6) 5 q ≠ gR H (sR σ 6) 6 k ∧ gI H (sR σ 6) 5 q ≠ gI H (sR σ 6) 6 k) ∧ (gR H (sR σ 6) 5 q ≠ gR H (sR σ 6) 5 k ∧ gI H (sR σ 6) 5 q ≠ gI H (sR σ 6) 5 k) := by
  obtain ⟨p27, p28, p29, p30, p31, p32, p33, p34, p35, p36, f0, f1, f2, f3, f4, f5, f6, f7, f8, f9, f10, f11, f12, f13, f14, f15, f16, f17⟩ := FmaX h hq hk
  have e1 : gP H (sR σ 6) q = p27 := rR_of f0
  have e2 : gP H (sR σ 6) k = p32 := rR_of f5
  have a1 : gR H (sR σ 6) 6 q = p28 := by
    unfold gR
    rw [e1]
    exact rR_of f1
  have i1 : gI H (sR σ 6) 6 q = p29 := by
    unfold gI
    rw [a1]
    exact rR_of f2
  have a2 : gR H (sR σ 6) 5 q = p30 := by
    unfold gR
    rw [e1]
    exact rR_of f3
  have i2 : gI H (sR σ 6) 5 q = p31 := by
    unfold gI
    rw [a2]
    exact rR_of f4
  have a3 : gR H (sR σ 6) 6 k = p33 := by
    unfold gR
    rw [e2]
    exact rR_of f6
  have i3 : gI H (sR σ 6) 6 k = p34 := by
    unfold gI
    rw [a3]
    exact rR_of f7
  have a4 : gR H (sR σ 6) 5 k = p35 := by
    unfold gR
    rw [e2]
    exact rR_of f8
  have i4 : gI H (sR σ 6) 5 k = p36 := by
    unfold gI
    rw [a4]
    exact rR_of f9
  rw [a1, a2, a3, a4, i1, i2, i3, i4]
  exact ⟨⟨f10, f11⟩, ⟨f12, f13⟩, ⟨f14, f15⟩, ⟨f16, f17⟩⟩
theorem aV_of (h : HX ρ σ ty H n) {q : Nat} (hq : q < n) : gR H (sR σ 6) 6 q ≠ gR H (sR σ 6) 5 q ∧ gI H (sR σ 6) 6 q ≠ gI H (sR σ 6) 5 q := by
  obtain ⟨p27, p28, p29, p30, p31, f0, f1, f2, f3, f4, f5, f6⟩ := FmaV h hq
  have e1 : gP H (sR σ 6) q = p27 := rR_of f0
  have a1 : gR H (sR σ 6) 6 q = p28 := by
    unfold gR
    rw [e1]
    exact rR_of f1
  have i1 : gI H (sR σ 6) 6 q = p29 := by
    unfold gI
    rw [a1]
    exact rR_of f2
  have a2 : gR H (sR σ 6) 5 q = p30 := by
    unfold gR
    rw [e1]
    exact rR_of f3
  have i2 : gI H (sR σ 6) 5 q = p31 := by
    unfold gI
    rw [a2]
    exact rR_of f4
  rw [a1, a2, i1, i2]
  exact ⟨f5, f6⟩
theorem a3_of (h : HX ρ σ ty H n) {q k : Nat} (hq : q < k) (hk : k < n) : gP H (sR σ 6) q ≠ gP H (sR σ 6) k := by
  obtain ⟨p27, p28, p29, p30, p31, p32, p33, p34, q42, q43, q44, q45, f0, f1, f2, f3, f4, f5, f6, f7, f8, f9, f10, f11, f12, f13, f14, f15, f16, f17⟩ := Fma3 h hq hk
  rw [show gP H (sR σ 6) q = p27 from rR_of f0, show gP H (sR σ 6) k = p31 from rR_of f4]
  exact f8
theorem kNe_of (h : HX ρ σ ty H n) : kNe n (gK H σ) (wlA n (gK H σ)) (colA ty) := by
  obtain ⟨t1, t2, t3, t4⟩ := kty h
  refine ⟨wlA_in, ⟨colA_of t1, colA_of t3, colA_of t4, colA_of t2, fun q hq => ?_⟩, nty t1 t3 (by decide), ?_, fun q k hq hk => ⟨?_, fun hn => ?_⟩⟩
  · obtain ⟨-, x1, x2, -⟩ := r_of h (j := 6) hq (by decide) (by decide)
    obtain ⟨-, v1, v2, -⟩ := r_of h (j := 5) hq (by decide) (by decide)
    exact ⟨colA_of (tP_of h hq), colA_of v1, colA_of x1, colA_of v2, colA_of x2⟩
  · exact (Fmap h).1
  · rcases Nat.lt_trichotomy q k with c | c | c
    · exact (aX_of h c hk).2.2.1
    · subst c
      exact ⟨fun z => (aV_of h hq).1 z.symm, fun z => (aV_of h hq).2 z.symm⟩
    · exact ⟨fun z => (aX_of h c hq).2.1.1 z.symm, fun z => (aX_of h c hq).2.1.2 z.symm⟩
  · rcases Nat.lt_or_gt_of_ne hn with c | c
    · obtain ⟨x1, -, -, x4⟩ := aX_of h c hk
      exact ⟨a3_of h c hk, x4.1, x1.1, x4.2, x1.2⟩
    · obtain ⟨x1, -, -, x4⟩ := aX_of h c hq
      exact ⟨fun z => a3_of h c hq z.symm, fun z => x4.1 z.symm, fun z => x1.1 z.symm, fun z => x4.2 z.symm, fun z => x1.2 z.symm⟩
theorem c3W_of (h : HX ρ σ ty H n) (hL : H.length ≤ 1000000) {r c m len : Nat} {f : Nat → Int32} (tr : ty r = some c) (hk : kr c = some (0, len)) (hc : c ≠ 34 ∧ c ≠ 33 ∧ c ≠ 7 ∧ c ≠ 31 ∧ c ≠ 8 ∧ c ≠ 44) (hf : ∀ l, l < m → rV H r l = some (.inl (f l))) : c3W H (wlA n (gK H σ)) r len f m := by
  have h0 := vHp_lt h.1.1 tr
  obtain ⟨l, h1, h2⟩ := cell_r h.1.1 tr hk
  exact ⟨by omega, l, ⟨h1, wlA_ty h tr hc⟩, h2, fun x hx => by rw [← rV_r h1]; exact hf x hx⟩
/-- a program's row -/
theorem cRw_of (h : HX ρ σ ty H n) (hL : H.length ≤ 1000000) {q j nn : Nat} {vv : Nat → Int32} (hq : q < n) (hj : j = 2 ∨ j = 3 ∨ j = 4) (h1 : rV H (gR H (sR σ 6) j q) 1 = some (.inl (nI nn))) (h2 : ∀ k, k < nn → rV H (gI H (sR σ 6) j q) k = some (.inl (vv k))) : cRw H (wlA n (gK H σ)) (gR H (sR σ 6) j q) nn vv := by
  obtain ⟨-, r1, r2, ⟨bs, r3⟩, l, r4, r5⟩ := r_of h (j := j) hq (by omega) (by omega)
  obtain ⟨t1, t2, t3, t4⟩ := kty h
  have l1 := vHp_lt h.1.1 r1
  have l2 := vHp_lt h.1.1 r2
  rw [rV_o r3] at h1
  have h1 : (some (.inl bs) : Option (XV Int32)) = some (.inl (nI nn)) := h1
  cases h1
  refine ⟨by omega, _, ⟨r3, wlA_no (nty r1 t1 (by decide)) (nty r1 t2 (by decide)) (nty r1 t3 (by decide)) (nty r1 t4 (by decide)) (fun k hk => ?_)⟩, by omega, l, ⟨r4, wlA_no (nty r2 t1 (by decide)) (nty r2 t2 (by decide)) (nty r2 t3 (by decide)) (nty r2 t4 (by decide)) (fun k hk => ?_)⟩, r5, fun k hk => by rw [← rV_r r4]; exact h2 k hk⟩
  · obtain ⟨-, x1, x2, -⟩ := r_of h (j := 6) hk (by decide) (by decide)
    obtain ⟨-, v1, v2, -⟩ := r_of h (j := 5) hk (by decide) (by decide)
    obtain ⟨y1, y2, y3, y4⟩ := aT_of h hq hk hj
    exact ⟨nty r1 (tP_of h hk) (by decide), y1, nty r1 x2 (by decide), y3, nty r1 v2 (by decide)⟩
  · obtain ⟨-, x1, x2, -⟩ := r_of h (j := 6) hk (by decide) (by decide)
    obtain ⟨-, v1, v2, -⟩ := r_of h (j := 5) hk (by decide) (by decide)
    obtain ⟨y1, y2, y3, y4⟩ := aT_of h hq hk hj
    exact ⟨nty r2 (tP_of h hk) (by decide), nty r2 x1 (by decide), y2, nty r2 v1 (by decide), y4⟩
/-- a setting's cell -/
theorem se_of (h : HX ρ σ ty H n) (hL : H.length ≤ 1000000) {s : Nat} (ts : ty s = some 29) {w r : Int32} (h0 : rV H s 0 = some (.inl w)) (h3 : rV H s 3 = some (.inl r)) : ¬ 1000000 < s ∧ ty (rR H s 1) = some 5 ∧ ty (rR H s 2) = some 6 ∧ c3R H (wlA n (gK H σ)) s (.inl (3, [.inl w, .inr (some (rR H s 1)), .inr (some (rR H s 2)), .inl r])) := by
  have hp := h.1.1
  obtain ⟨so, x1, x2⟩ := cell_o hp ts (t := 3) (m := 4) (by decide +kernel)
  obtain ⟨d, y1, td⟩ := cell_fx hp ts (j := 1) (c2 := 5) (by decide +kernel) x1
  obtain ⟨v, y2, tv⟩ := cell_fx hp ts (j := 2) (c2 := 6) (by decide +kernel) x1
  have e1 : rR H s 1 = d := rR_of (by rw [rV_o x1]; exact y1)
  have e2 : rR H s 2 = v := rR_of (by rw [rV_o x1]; exact y2)
  rw [rV_o x1] at h0 h3
  have l1 := vHp_lt hp ts
  rw [e1, e2]
  refine ⟨by omega, td, tv, ?_, wlA_ty h ts (by decide)⟩
  rw [x1]
  rcases so with _ | ⟨a, _ | ⟨b, _ | ⟨c, _ | ⟨e, _ | ⟨f, so⟩⟩⟩⟩⟩
  · cases h0
  · cases y1
  · cases y2
  · cases h3
  · cases h0
    cases y1
    cases y2
    cases h3
    rfl
  · exact absurd x2 (by simp)
theorem kSt_of (h : HX ρ σ ty H n) (hL : H.length ≤ 1000000) : kSt n (gD H σ yr) (gK H σ) (wlA n (gK H σ)) H := by
  have hn := HX_12 h
  have hp := h.1.1
  have t0 := ty_of h (i := 0) (c := 47) rfl
  have t6 := ty_of h (i := 6) (c := 23) rfl
  obtain ⟨gs, g1, g2⟩ := cell_o hp t0 (t := 0) (m := 19) (by decide +kernel)
  obtain ⟨vs, v1, v2⟩ := cell_r hp t6 (t := 2) (m := 12) (by decide +kernel)
  have f3 := fI (h.1.2.2.1 (0, .inl 3, .inl (lSy 3)) (mK_at (by decide +kernel)))
  have f2 := fO (h.1.2.2.1 (0, .inl 2, .inr (some 6)) (mK_at (by decide +kernel)))
  have f5 := fO (h.1.2.2.1 (0, .inl 5, .inr (some 66)) (mK_at (by decide +kernel)))
  have f6 := fO (h.1.2.2.1 (0, .inl 6, .inr (some 15)) (mK_at (by decide +kernel)))
  have f8 := fO (h.1.2.2.1 (0, .inl 8, .inr (some 7)) (mK_at (by decide +kernel)))
  have f9 := fO (h.1.2.2.1 (0, .inl 9, .inr (some 11)) (mK_at (by decide +kernel)))
  rw [lSy_ev, oI h.2.2 (by omega), rV_o g1] at f3
  rw [rV_o g1] at f2 f5 f6 f8 f9
  refine ⟨⟨gs, ⟨g1, wlA_ty h t0 (by decide)⟩, f2, f3, f5, f6, f8, f9⟩, ⟨vs, ⟨v1, wlA_ty h t6 (by decide)⟩, v2, fun q hq => by rw [← rV_r v1]; exact (p_at (yr := yr) h hq).1⟩, fun q hq => ⟨fun x => ?_, cRw_of h hL hq (Or.inl rfl) (zS_of h hq).1 (fun k hk => (S_of h hq hk).1), cRw_of h hL hq (Or.inr (Or.inl rfl)) (zW_of h hq).1 (fun k hk => (W_of h hq hk).1), cRw_of h hL hq (Or.inr (Or.inr rfl)) (zT_of h hq).1 (fun k hk => (T_of h hq hk).1)⟩, fun q x => ?_, fun q x => ?_⟩
  · have tC := tC_of h hq
    obtain ⟨co, o1, o2⟩ := cell_o hp tC (t := 2) (m := 5) (by decide +kernel)
    obtain ⟨r0, w0, t0⟩ := cell_fx hp tC (j := 0) (c2 := 1) (by decide +kernel) o1
    obtain ⟨r1, w1, t1⟩ := cell_fx hp tC (j := 1) (c2 := 2) (by decide +kernel) o1
    obtain ⟨r2, w2, t2⟩ := cell_fx hp tC (j := 2) (c2 := 3) (by decide +kernel) o1
    obtain ⟨r3, w3, t3⟩ := cell_fx hp tC (j := 3) (c2 := 4) (by decide +kernel) o1
    have a0 : gL H (sR σ 6) 0 q = r0 := rR_of (by rw [rV_o o1]; exact w0)
    have a1 : gL H (sR σ 6) 1 q = r1 := rR_of (by rw [rV_o o1]; exact w1)
    have a2 : gL H (sR σ 6) 2 q = r2 := rR_of (by rw [rV_o o1]; exact w2)
    have a3 : gL H (sR σ 6) 3 q = r3 := rR_of (by rw [rV_o o1]; exact w3)
    have p4 := (p_at (yr := yr) h hq).2.2.2.1
    rw [rV_o o1] at p4
    have := vHp_lt hp tC
    refine ⟨show ¬ 1000000 < gC H (sR σ 6) q by omega, r0, r1, r2, r3, ⟨?_, wlA_ty h tC (by decide)⟩, c3W_of h hL t0 (by decide +kernel) (by decide) (fun l hl => by rw [← a0]; exact (c_at (yr := yr) h hq hl).1.1), c3W_of h hL t1 (by decide +kernel) (by decide) (fun l hl => by rw [← a1]; exact (c_at (yr := yr) h hq hl).1.2.1), c3W_of h hL t2 (by decide +kernel) (by decide) (fun l hl => by rw [← a2]; exact (c_at (yr := yr) h hq hl).1.2.2.1), c3W_of h hL t3 (by decide +kernel) (by decide) (fun l hl => by rw [← a3]; exact (c_at (yr := yr) h hq hl).1.2.2.2)⟩
    show H[gC H (sR σ 6) q]? = _
    rw [o1]
    rcases co with _ | ⟨a, _ | ⟨b, _ | ⟨c, _ | ⟨e, _ | ⟨f, _ | ⟨g, co⟩⟩⟩⟩⟩⟩
    · cases w0
    · cases w1
    · cases w2
    · cases w3
    · cases p4
    · cases w0
      cases w1
      cases w2
      cases w3
      cases p4
      rfl
    · exact absurd o2 (by simp)
  · obtain ⟨a1, a2, -, -⟩ := FmaF h (f := 0) (by decide)
    obtain ⟨s1, s2, s3, s4⟩ := se_of h hL (s := sR σ 66) (ty_of h rfl) a1 a2
    have e1 : rR H (sR σ 66) 1 = sR σ 67 := rR_of (fO (h.1.2.2.1 (66, .inl 1, .inr (some 67)) (mK_at (by decide +kernel))))
    have e2 : rR H (sR σ 66) 2 = sR σ 68 := rR_of (fO (h.1.2.2.1 (66, .inl 2, .inr (some 68)) (mK_at (by decide +kernel))))
    exact ⟨s1, Or.inl ⟨_, _, s4, c3W_of h hL s2 (by decide +kernel) (by decide) (fun l hl => by rw [e1]; exact (FmaF h hl).2.2.1), c3W_of h hL s3 (by decide +kernel) (by decide) (fun l hl => by rw [e2]; exact (FmaF h hl).2.2.2), rfl, rfl⟩⟩
  · obtain ⟨a1, a2⟩ := Fmtw h
    obtain ⟨s1, s2, s3, s4⟩ := se_of h hL (s := sR σ 15) (ty_of h rfl) a1 a2
    exact ⟨s1, Or.inr ⟨_, _, s4, rfl, rfl⟩⟩
theorem dOk_of (h : HX ρ σ ty H n) : dOk n (gD H σ yr) := ⟨HX_12 h, fun q hq => by
  obtain ⟨-, -, -, -, p5, p6, -⟩ := p_at (yr := yr) h hq
  exact ⟨p5.1, p5.2, (zS_of h hq).2.2, (zW_of h hq).2.2, (zT_of h hq).2.2, p6.1, p6.2, fun l hl => (c_at (yr := yr) h hq hl).2.1⟩⟩
theorem kRn_of (h : HX ρ σ ty H n) {R nu c sp : Nat} (tR : ty R = some c) (hc : c = 33 ∨ c = 34) (tN : ty nu = some 7) (f0 : rV H R 0 = some (.inr (some nu))) (f1 : rV H R 1 = some (.inr (some sp))) : kRn H R nu := by
  have hp := h.1.1
  have ko : kob c = some (4, 13) := by
    rcases hc with rfl | rfl
    all_goals decide +kernel
  have k11 : kf c 11 = some (.inl (0, 1)) := by
    rcases hc with rfl | rfl
    all_goals decide +kernel
  have k12 : kf c 12 = some (.inl (-2147483648, 2147483647)) := by
    rcases hc with rfl | rfl
    all_goals decide +kernel
  obtain ⟨ro, x1, x2⟩ := cell_o hp tR ko
  obtain ⟨hw, y1⟩ := cell_fi hp tR k11 x1
  obtain ⟨lw, y2⟩ := cell_fi hp tR k12 x1
  obtain ⟨nf, z1, z2⟩ := cell_r hp tN (t := 0) (m := 6) (by decide +kernel)
  rw [rV_o x1] at f0 f1
  rcases ro with _ | ⟨a0, _ | ⟨a1, _ | ⟨a2, _ | ⟨a3, _ | ⟨a4, _ | ⟨a5, _ | ⟨a6, _ | ⟨a7, _ | ⟨a8, _ | ⟨a9, _ | ⟨a10, _ | ⟨a11, _ | ⟨a12, _ | ⟨a13, ro⟩⟩⟩⟩⟩⟩⟩⟩⟩⟩⟩⟩⟩⟩
  rotate_left 13
  · cases f0
    cases f1
    cases y1
    cases y2
    exact ⟨sp, a2, a3, a4, a5, a6, a7, a8, a9, a10, hw, lw, nf, x1, z1, z2⟩
  all_goals exact absurd x2 (by simp)
theorem kPh_of (h : HX ρ σ ty H n) (rp rt : Nat → rS) : kPh n (gD H σ yr) (gK H σ) (wlA n (gK H σ)) rp rt H H 0 0 := by
  have hp := h.1.1
  refine ⟨fun _ _ z => z.1, rfl, kRn_of h (ty_of h (i := 11) rfl) (Or.inr rfl) (ty_of h (i := 12) rfl) (fO (h.1.2.2.1 (11, .inl 0, .inr (some 12)) (mK_at (by decide +kernel)))) (fO (h.1.2.2.1 (11, .inl 1, .inr (some 13)) (mK_at (by decide +kernel)))), kRn_of h (ty_of h (i := 7) rfl) (Or.inl rfl) (ty_of h (i := 8) rfl) (fO (h.1.2.2.1 (7, .inl 0, .inr (some 8)) (mK_at (by decide +kernel)))) (fO (h.1.2.2.1 (7, .inl 1, .inr (some 9)) (mK_at (by decide +kernel)))), fun q hq => ⟨?_, ?_, ?_⟩, fun q hq => absurd hq (Nat.not_lt_zero q), fun q hq => absurd hq (Nat.not_lt_zero q)⟩
  · have tP := tP_of h hq
    obtain ⟨po, o1, o2⟩ := cell_o hp tP (t := 10) (m := 20) (by decide +kernel)
    obtain ⟨y, y1⟩ := cell_fi hp tP (j := 7) (p := (-2147483648, 2147483647)) (by decide +kernel) o1
    obtain ⟨st, y2⟩ := cell_fi hp tP (j := 9) (p := (0, 5)) (by decide +kernel) o1
    obtain ⟨p1, p2, p3, -, -, -, p7, -⟩ := p_at (yr := yr) h hq
    rw [rV_o o1] at p2 p3 p7
    have rj : ∀ j, 2 ≤ j → j ≤ 6 → po[j]? = some (.inr (some (gR H (sR σ 6) j q))) := fun j a b => by
      rw [← rV_o o1]
      exact (r_of h hq a b).1
    exact ⟨po, y, st, o1, o2, p3, rj 2 (by decide) (by decide), rj 3 (by decide) (by decide), rj 4 (by decide) (by decide), rj 5 (by decide) (by decide), rj 6 (by decide) (by decide), y1, p2, y2, p7⟩
  · obtain ⟨-, -, -, ⟨bs, r3⟩, l, r4, r5⟩ := r_of h (j := 5) hq (by decide) (by decide)
    exact ⟨_, l, r3, r4, r5⟩
  · obtain ⟨-, -, -, ⟨bs, r3⟩, l, r4, r5⟩ := r_of h (j := 6) hq (by decide) (by decide)
    exact ⟨_, l, r3, r4, r5⟩
def gAl : List Nat := [1, 32, 33, 37, 38, 39, 40, 35, 36, 41, 42, 64, 65, 44, 43, 48, 53, 54, 62, 63, 31, 34, 51, 55, 56, 57, 58]
def gAk : List Nat := [117, 96, 96, 98, 99, 100, 101, 102, 102, 104, 105, 65, 68, 48, 50, 56, 61, 62, 64, 67, 97, 103, 57, 64, 65, 67, 68]
def gA (σ : Nat → Nat) (j : Nat) : Nat := sR σ (gAl.getD j 0)
theorem gA_ty (h : HX ρ σ ty H n) {j : Nat} (hj : j < 27) : ty (gA σ j) = some (gAk.getD j 0) := ty_of h ((by decide +kernel : ∀ j, j < 27 → (sG (aSt lwN))[gAl.getD j 0]? = some (gAk.getD j 0)) j hj)
def wlB (H : List (XC Int32)) (σ : Nat → Nat) : List Nat := (List.range 13).map (gA σ) ++ (List.range 12).flatMap (fun q => [rR H (sR σ 62) q, rR H (sR σ 63) q])
theorem wlB_no {x : Nat} (h1 : ∀ j, j < 13 → x ≠ gA σ j) (h2 : ∀ q, q < 12 → x ≠ rR H (sR σ 62) q ∧ x ≠ rR H (sR σ 63) q) : ∀ k : Nat, (wlB H σ)[k]? ≠ some x := fun k hk => by
  have hm := List.mem_of_getElem? hk
  unfold wlB at hm
  rcases List.mem_append.mp hm with hm | hm
  · obtain ⟨j, hj, e⟩ := List.mem_map.mp hm
    exact h1 j (List.mem_range.mp hj) e.symm
  · obtain ⟨q, hq, hm⟩ := List.mem_flatMap.mp hm
    simp only [List.mem_cons, List.not_mem_nil, or_false] at hm
    rcases hm with hm | hm
    · exact (h2 q (List.mem_range.mp hq)).1 hm
    · exact (h2 q (List.mem_range.mp hq)).2 hm
theorem wlB_in : (∀ j, j < 13 → gA σ j ∈ wlB H σ) ∧ ∀ q, q < 12 → rR H (sR σ 62) q ∈ wlB H σ ∧ rR H (sR σ 63) q ∈ wlB H σ := by
  have b : ∀ q, q < 12 → ∀ x, x ∈ [rR H (sR σ 62) q, rR H (sR σ 63) q] → x ∈ wlB H σ := fun q hq x hx => List.mem_append.mpr (Or.inr (List.mem_flatMap.mpr ⟨q, List.mem_range.mpr hq, hx⟩))
  exact ⟨fun j hj => List.mem_append.mpr (Or.inl (List.mem_map.mpr ⟨j, List.mem_range.mpr hj, rfl⟩)), fun q hq => ⟨b q hq _ (by simp), b q hq _ (by simp)⟩⟩
/-- a row of rows -/
theorem rw_at (h : HX ρ σ ty H n) {i ck ek m : Nat} (ti : ty (sR σ i) = some ck) (k1 : kr ck = some (5, m)) (k2 : ∀ j, j < m → kel ck j = some (.inr (false, ek))) {q : Nat} (hq : q < m) : ∃ vs, H[sR σ i]? = some (.inr (5, vs)) ∧ vs.length = m ∧ vs[q]? = some (.inr (some (rR H (sR σ i) q))) ∧ ty (rR H (sR σ i) q) = some ek := by
  obtain ⟨vs, v1, v2⟩ := cell_r h.1.1 ti k1
  obtain ⟨x, x1, x2⟩ := cell_ex h.1.1 ti (k2 q hq) v1 (by omega)
  have e : rR H (sR σ i) q = x := rR_of (by rw [rV_r v1]; exact x1)
  rw [e]
  exact ⟨vs, v1, v2, x1, x2⟩
def gF (H : List (XC Int32)) (r : Nat) : List (XV Int32) := match H[r]? with
  | some (.inr z) => z.2
  | _ => []
theorem gF_of (h : HX ρ σ ty H n) {r c : Nat} (tr : ty r = some c) (k1 : kr c = some (0, 12)) {p : Int × Int} (k2 : ∀ j, j < 12 → kel c j = some (.inl p)) : H[r]? = some (.inr (0, gF H r)) ∧ wLf (gF H r) := by
  obtain ⟨l, l1, l2⟩ := cell_r h.1.1 tr k1
  have e : gF H r = l := by
    unfold gF
    rw [l1]
  rw [e]
  refine ⟨l1, l2, List.all_eq_true.mpr (fun u hu => ?_)⟩
  obtain ⟨j, hj⟩ := List.getElem?_of_mem hu
  have hj2 := (List.getElem?_eq_some_iff.mp hj).1
  obtain ⟨x, hx⟩ := cell_ei h.1.1 tr (k2 j (by omega)) l1 hj2
  rw [hx] at hj
  cases hj
  rfl
theorem two_of (h : HX ρ σ ty H n) {r c : Nat} (tr : ty r = some c) (k1 : kr c = some (0, 2)) {p : Int × Int} (k2 : ∀ j, j < 2 → kel c j = some (.inl p)) : ∃ a b : Int32, H[r]? = some (.inr (0, [.inl a, .inl b])) := by
  obtain ⟨l, l1, l2⟩ := cell_r h.1.1 tr k1
  obtain ⟨a, ha⟩ := cell_ei h.1.1 tr (k2 0 (by decide)) l1 (by omega)
  obtain ⟨b, hb⟩ := cell_ei h.1.1 tr (k2 1 (by decide)) l1 (by omega)
  refine ⟨a, b, ?_⟩
  rw [l1]
  rcases l with _ | ⟨x, _ | ⟨y, _ | ⟨z, l⟩⟩⟩
  · cases ha
  · cases hb
  · cases ha
    cases hb
    rfl
  · exact absurd l2 (by simp)
def colB (σ : Nat → Nat) (ty : Nat → Option Nat) (x : Nat) : Nat := if x = gA σ 2 then 2 else if x = gA σ 8 then 8 else match ty x with
  | some 117 => 0
  | some 96 => 1
  | some 98 => 3
  | some 99 => 4
  | some 100 => 5
  | some 101 => 6
  | some 102 => 7
  | some 104 => 9
  | some 105 => 10
  | some 65 => 11
  | some 68 => 12
  | some 63 => 13
  | some 66 => 14
  | _ => 99
theorem colB_of {x c : Nat} (h : ty x = some c) (h2 : x ≠ gA σ 2) (h8 : x ≠ gA σ 8) : colB σ ty x = match (some c : Option Nat) with
  | some 117 => 0
  | some 96 => 1
  | some 98 => 3
  | some 99 => 4
  | some 100 => 5
  | some 101 => 6
  | some 102 => 7
  | some 104 => 9
  | some 105 => 10
  | some 65 => 11
  | some 68 => 12
  | some 63 => 13
  | some 66 => 14
  | _ => 99 := by
  unfold colB
  rw [if_neg h2, if_neg h8, h]
theorem fr_ty (h : HX ρ σ ty H n) {q : Nat} (hq : q < 12) : ty (rR H (sR σ 62) q) = some 63 ∧ ty (rR H (sR σ 63) q) = some 66 ∧ ty (rR H (sR σ 55) q) = some 63 ∧ ty (rR H (sR σ 57) q) = some 66 := by
  obtain ⟨_, _, _, _, a⟩ := rw_at h (i := 62) (ek := 63) (m := 12) (ty_of h rfl) (by decide +kernel) (by decide +kernel) hq
  obtain ⟨_, _, _, _, b⟩ := rw_at h (i := 63) (ek := 66) (m := 12) (ty_of h rfl) (by decide +kernel) (by decide +kernel) hq
  obtain ⟨_, _, _, _, c⟩ := rw_at h (i := 55) (ek := 63) (m := 12) (ty_of h rfl) (by decide +kernel) (by decide +kernel) hq
  obtain ⟨_, _, _, _, e⟩ := rw_at h (i := 57) (ek := 66) (m := 12) (ty_of h rfl) (by decide +kernel) (by decide +kernel) hq
  exact ⟨a, b, c, e⟩
theorem wlB_ty (h : HX ρ σ ty H n) {x c : Nat} (hx : ty x = some c) (hc : ∀ j, j < 13 → c ≠ gAk.getD j 0) (h1 : c ≠ 63) (h2 : c ≠ 66) : ∀ k : Nat, (wlB H σ)[k]? ≠ some x := wlB_no (fun j hj => nty hx (gA_ty h (by omega)) (hc j hj)) (fun q hq => ⟨nty hx (fr_ty h hq).1 h1, nty hx (fr_ty h hq).2.1 h2⟩)
theorem col_A (h : HX ρ σ ty H n) {j : Nat} (hj : j < 13) : colB σ ty (gA σ j) = j := by
  rcases (show j = 0 ∨ j = 1 ∨ j = 2 ∨ j = 3 ∨ j = 4 ∨ j = 5 ∨ j = 6 ∨ j = 7 ∨ j = 8 ∨ j = 9 ∨ j = 10 ∨ j = 11 ∨ j = 12 by omega) with rfl | rfl | rfl | rfl | rfl | rfl | rfl | rfl | rfl | rfl | rfl | rfl | rfl
  · exact colB_of (gA_ty h (j := 0) (by decide)) (nty (gA_ty h (j := 0) (by decide)) (gA_ty h (j := 2) (by decide)) (by decide)) (nty (gA_ty h (j := 0) (by decide)) (gA_ty h (j := 8) (by decide)) (by decide))
  · exact colB_of (gA_ty h (j := 1) (by decide)) ((Fmap h).2.2.2.2.2.2.2.2.2.2.2.1) (nty (gA_ty h (j := 1) (by decide)) (gA_ty h (j := 8) (by decide)) (by decide))
  · show (if gA σ 2 = gA σ 2 then 2 else if gA σ 2 = gA σ 8 then 8 else _) = _
    exact if_pos rfl
  · exact colB_of (gA_ty h (j := 3) (by decide)) (nty (gA_ty h (j := 3) (by decide)) (gA_ty h (j := 2) (by decide)) (by decide)) (nty (gA_ty h (j := 3) (by decide)) (gA_ty h (j := 8) (by decide)) (by decide))
  · exact colB_of (gA_ty h (j := 4) (by decide)) (nty (gA_ty h (j := 4) (by decide)) (gA_ty h (j := 2) (by decide)) (by decide)) (nty (gA_ty h (j := 4) (by decide)) (gA_ty h (j := 8) (by decide)) (by decide))
  · exact colB_of (gA_ty h (j := 5) (by decide)) (nty (gA_ty h (j := 5) (by decide)) (gA_ty h (j := 2) (by decide)) (by decide)) (nty (gA_ty h (j := 5) (by decide)) (gA_ty h (j := 8) (by decide)) (by decide))
  · exact colB_of (gA_ty h (j := 6) (by decide)) (nty (gA_ty h (j := 6) (by decide)) (gA_ty h (j := 2) (by decide)) (by decide)) (nty (gA_ty h (j := 6) (by decide)) (gA_ty h (j := 8) (by decide)) (by decide))
  · exact colB_of (gA_ty h (j := 7) (by decide)) (nty (gA_ty h (j := 7) (by decide)) (gA_ty h (j := 2) (by decide)) (by decide)) ((Fmap h).2.2.2.2.2.2.2.2.2.2.2.2.1)
  · show (if gA σ 8 = gA σ 2 then 2 else if gA σ 8 = gA σ 8 then 8 else _) = _
    rw [if_neg (nty (gA_ty h (j := 8) (by decide)) (gA_ty h (j := 2) (by decide)) (by decide))]
    exact if_pos rfl
  · exact colB_of (gA_ty h (j := 9) (by decide)) (nty (gA_ty h (j := 9) (by decide)) (gA_ty h (j := 2) (by decide)) (by decide)) (nty (gA_ty h (j := 9) (by decide)) (gA_ty h (j := 8) (by decide)) (by decide))
  · exact colB_of (gA_ty h (j := 10) (by decide)) (nty (gA_ty h (j := 10) (by decide)) (gA_ty h (j := 2) (by decide)) (by decide)) (nty (gA_ty h (j := 10) (by decide)) (gA_ty h (j := 8) (by decide)) (by decide))
  · exact colB_of (gA_ty h (j := 11) (by decide)) (nty (gA_ty h (j := 11) (by decide)) (gA_ty h (j := 2) (by decide)) (by decide)) (nty (gA_ty h (j := 11) (by decide)) (gA_ty h (j := 8) (by decide)) (by decide))
  · exact colB_of (gA_ty h (j := 12) (by decide)) (nty (gA_ty h (j := 12) (by decide)) (gA_ty h (j := 2) (by decide)) (by decide)) (nty (gA_ty h (j := 12) (by decide)) (gA_ty h (j := 8) (by decide)) (by decide))
theorem aN_of (h : HX ρ σ ty H n) {q k : Nat} (hq : q < k) (hk : k < 12) : rR H (sR σ 62) q ≠ rR H (sR σ 62) k ∧ rR H (sR σ 63) q ≠ rR H (sR σ 63) k := by
  obtain ⟨q42, q43, q44, q45, f0, f1, f2, f3, f4, f5⟩ := FmaN h hq hk
  rw [show rR H (sR σ 62) q = q42 from rR_of f0, show rR H (sR σ 63) q = q43 from rR_of f1, show rR H (sR σ 62) k = q44 from rR_of f2, show rR H (sR σ 63) k = q45 from rR_of f3]
  exact ⟨f4, f5⟩
theorem aM_of (h : HX ρ σ ty H n) {q k : Nat} (hq : q < 12) (hk : k < 12) : rR H (sR σ 55) q ≠ rR H (sR σ 62) k ∧ rR H (sR σ 57) q ≠ rR H (sR σ 63) k := by
  obtain ⟨q42, q43, q44, q45, f0, f1, f2, f3, f4, f5⟩ := FmaM h hq hk
  rw [show rR H (sR σ 55) q = q42 from rR_of f0, show rR H (sR σ 57) q = q43 from rR_of f1, show rR H (sR σ 62) k = q44 from rR_of f2, show rR H (sR σ 63) k = q45 from rR_of f3]
  exact ⟨f4, f5⟩
theorem mNe_of (h : HX ρ σ ty H n) : mNe (gA σ) (fun q => rR H (sR σ 62) q) (fun q => rR H (sR σ 63) q) (wlB H σ) (colB σ ty) := by
  refine ⟨fun j hj => ⟨wlB_in.1 j hj, col_A h hj⟩, fun q hq => ?_, fun q k hq hk hn => ?_⟩
  · obtain ⟨t1, t2, -, -⟩ := fr_ty h hq
    obtain ⟨w1, w2⟩ := wlB_in.2 q hq
    exact ⟨w1, w2, colB_of t1 (nty t1 (gA_ty h (j := 2) (by decide)) (by decide)) (nty t1 (gA_ty h (j := 8) (by decide)) (by decide)), colB_of t2 (nty t2 (gA_ty h (j := 2) (by decide)) (by decide)) (nty t2 (gA_ty h (j := 8) (by decide)) (by decide))⟩
  · rcases Nat.lt_or_gt_of_ne hn with c | c
    · exact aN_of h c hk
    · exact ⟨fun z => (aN_of h c hq).1 z.symm, fun z => (aN_of h c hq).2 z.symm⟩
theorem mG_of (h : HX ρ σ ty H n) : ∃ gs : List (XV Int32), H[gA σ 0]? = some (.inl (12, gs)) ∧ mG n (gA σ) gs ∧ gs[3]? = some (.inr (some (sR σ 45))) ∧ gs[4]? = some (.inr (some (sR σ 46))) ∧ gs[5]? = some (.inr (some (sR σ 47))) := by
  have hn := HX_12 h
  obtain ⟨gs, g1, g2⟩ := cell_o h.1.1 (gA_ty h (j := 0) (by decide)) (t := 12) (m := 69) (by decide +kernel)
  have g1 : H[sR σ 1]? = some (.inl (12, gs)) := g1
  refine ⟨gs, g1, ⟨by omega, ?_, fun j k hj => ?_⟩, (rV_o g1).symm.trans (fO (h.1.2.2.1 (1, .inl 3, .inr (some 45)) (mK_at (by decide +kernel)))), (rV_o g1).symm.trans (fO (h.1.2.2.1 (1, .inl 4, .inr (some 46)) (mK_at (by decide +kernel)))), (rV_o g1).symm.trans (fO (h.1.2.2.1 (1, .inl 5, .inr (some 47)) (mK_at (by decide +kernel))))⟩
  · have f0 := fI (h.1.2.2.1 (1, .inl 0, .inl (lSy 3)) (mK_at (by decide +kernel)))
    rw [lSy_ev, oI h.2.2 (by omega), rV_o g1] at f0
    exact f0
  unfold tabG at hj
  simp only [List.mem_cons, Prod.mk.injEq, List.not_mem_nil, or_false] at hj
  rcases hj with ⟨rfl, rfl⟩ | ⟨rfl, rfl⟩ | ⟨rfl, rfl⟩ | ⟨rfl, rfl⟩ | ⟨rfl, rfl⟩ | ⟨rfl, rfl⟩ | ⟨rfl, rfl⟩ | ⟨rfl, rfl⟩ | ⟨rfl, rfl⟩ | ⟨rfl, rfl⟩ | ⟨rfl, rfl⟩ | ⟨rfl, rfl⟩ | ⟨rfl, rfl⟩ | ⟨rfl, rfl⟩ | ⟨rfl, rfl⟩ | ⟨rfl, rfl⟩ | ⟨rfl, rfl⟩ | ⟨rfl, rfl⟩ | ⟨rfl, rfl⟩ | ⟨rfl, rfl⟩ | ⟨rfl, rfl⟩ | ⟨rfl, rfl⟩
  · exact (rV_o g1).symm.trans (fO (h.1.2.2.1 (1, .inl 1, .inr (some 44)) (mK_at (by decide +kernel))))
  · exact (rV_o g1).symm.trans (fO (h.1.2.2.1 (1, .inl 2, .inr (some 43)) (mK_at (by decide +kernel))))
  · exact (rV_o g1).symm.trans (fO (h.1.2.2.1 (1, .inl 6, .inr (some 48)) (mK_at (by decide +kernel))))
  · exact (rV_o g1).symm.trans (fO (h.1.2.2.1 (1, .inl 7, .inr (some 51)) (mK_at (by decide +kernel))))
  · exact (rV_o g1).symm.trans (fO (h.1.2.2.1 (1, .inl 11, .inr (some 53)) (mK_at (by decide +kernel))))
  · exact (rV_o g1).symm.trans (fO (h.1.2.2.1 (1, .inl 12, .inr (some 54)) (mK_at (by decide +kernel))))
  · exact (rV_o g1).symm.trans (fO (h.1.2.2.1 (1, .inl 13, .inr (some 55)) (mK_at (by decide +kernel))))
  · exact (rV_o g1).symm.trans (fO (h.1.2.2.1 (1, .inl 14, .inr (some 56)) (mK_at (by decide +kernel))))
  · exact (rV_o g1).symm.trans (fO (h.1.2.2.1 (1, .inl 15, .inr (some 57)) (mK_at (by decide +kernel))))
  · exact (rV_o g1).symm.trans (fO (h.1.2.2.1 (1, .inl 16, .inr (some 58)) (mK_at (by decide +kernel))))
  · exact (rV_o g1).symm.trans (fO (h.1.2.2.1 (1, .inl 50, .inr (some 31)) (mK_at (by decide +kernel))))
  · exact (rV_o g1).symm.trans (fO (h.1.2.2.1 (1, .inl 51, .inr (some 37)) (mK_at (by decide +kernel))))
  · exact (rV_o g1).symm.trans (fO (h.1.2.2.1 (1, .inl 52, .inr (some 38)) (mK_at (by decide +kernel))))
  · exact (rV_o g1).symm.trans (fO (h.1.2.2.1 (1, .inl 53, .inr (some 39)) (mK_at (by decide +kernel))))
  · exact (rV_o g1).symm.trans (fO (h.1.2.2.1 (1, .inl 54, .inr (some 40)) (mK_at (by decide +kernel))))
  · exact (rV_o g1).symm.trans (fO (h.1.2.2.1 (1, .inl 55, .inr (some 34)) (mK_at (by decide +kernel))))
  · exact (rV_o g1).symm.trans (fO (h.1.2.2.1 (1, .inl 56, .inr (some 41)) (mK_at (by decide +kernel))))
  · exact (rV_o g1).symm.trans (fO (h.1.2.2.1 (1, .inl 57, .inr (some 42)) (mK_at (by decide +kernel))))
  · exact (rV_o g1).symm.trans (fO (h.1.2.2.1 (1, .inl 59, .inr (some 62)) (mK_at (by decide +kernel))))
  · exact (rV_o g1).symm.trans (fO (h.1.2.2.1 (1, .inl 60, .inr (some 63)) (mK_at (by decide +kernel))))
  · exact (rV_o g1).symm.trans (fO (h.1.2.2.1 (1, .inl 61, .inr (some 64)) (mK_at (by decide +kernel))))
  · exact (rV_o g1).symm.trans (fO (h.1.2.2.1 (1, .inl 62, .inr (some 65)) (mK_at (by decide +kernel))))
/-- what stands before the reference's night, wherever its cells are as they were -/
theorem mS0_of (h : HX ρ σ ty H n) {HA : List (XC Int32)} (hL : H.length ≤ 1000000) (hA : ∀ x c, ty x = some c → 48 ≤ c → HA[x]? = H[x]?) : mS0 n (gD H σ yr) (gA σ) (fun q => rR H (sR σ 62) q) (fun q => rR H (sR σ 63) q) (fun q => rR H (sR σ 55) q) (fun q => rR H (sR σ 57) q) (fun q => gF H (rR H (sR σ 55) q)) (fun q => gF H (rR H (sR σ 57) q)) (wlB H σ) HA := by
  have hn := HX_12 h
  have hp := h.1.1
  have lt : ∀ {x c : Nat}, ty x = some c → x < 1000000 := fun hx => by
    have := vHp_lt hp hx
    omega
  have cr : ∀ {x c : Nat} {z : XC Int32}, ty x = some c → 48 ≤ c → (∀ j, j < 13 → c ≠ gAk.getD j 0) → c ≠ 63 → c ≠ 66 → H[x]? = some z → c3R HA (wlB H σ) x z := fun hx h48 h1 h2 h3 hz => ⟨(hA _ _ hx h48).trans hz, wlB_ty h hx h1 h2 h3⟩
  have rq : ∀ {j ek m q : Nat}, j < 27 → 48 ≤ gAk.getD j 0 → (∀ i, i < 13 → gAk.getD j 0 ≠ gAk.getD i 0) → gAk.getD j 0 ≠ 63 → gAk.getD j 0 ≠ 66 → kr (gAk.getD j 0) = some (5, m) → (∀ i, i < m → kel (gAk.getD j 0) i = some (.inr (false, ek))) → q < m → rQ HA (wlB H σ) (gA σ j) 5 m q (rR H (gA σ j) q) ∧ ty (rR H (gA σ j) q) = some ek := fun hj h48 h1 h2 h3 k1 k2 hq => by
    obtain ⟨vs, v1, v2, v3, v4⟩ := rw_at h (gA_ty h hj) k1 k2 hq
    exact ⟨⟨vs, cr (gA_ty h hj) h48 h1 h2 h3 v1, v2, v3⟩, v4⟩
  have ri : ∀ {j m q : Nat} {x : Int32}, j < 27 → 48 ≤ gAk.getD j 0 → (∀ i, i < 13 → gAk.getD j 0 ≠ gAk.getD i 0) → gAk.getD j 0 ≠ 63 → gAk.getD j 0 ≠ 66 → kr (gAk.getD j 0) = some (0, m) → rV H (gA σ j) q = some (.inl x) → rI HA (wlB H σ) (gA σ j) m q x := fun hj h48 h1 h2 h3 k1 hv => by
    obtain ⟨l, l1, l2⟩ := cell_r hp (gA_ty h hj) k1
    have := lt (gA_ty h hj)
    exact ⟨by omega, l, cr (gA_ty h hj) h48 h1 h2 h3 l1, l2, by rw [← rV_r l1]; exact hv⟩
  refine ⟨⟨?_, ?_⟩, ⟨?_, ?_⟩, fun q hq => ⟨⟨(rq (j := 18) (ek := 63) (by decide) (by decide) (by decide) (by decide) (by decide) (by decide +kernel) (by decide +kernel) hq).1, (rq (j := 19) (ek := 66) (by decide) (by decide) (by decide) (by decide) (by decide) (by decide +kernel) (by decide +kernel) hq).1, (rq (j := 23) (ek := 63) (by decide) (by decide) (by decide) (by decide) (by decide) (by decide +kernel) (by decide +kernel) hq).1, (rq (j := 25) (ek := 66) (by decide) (by decide) (by decide) (by decide) (by decide) (by decide +kernel) (by decide +kernel) hq).1⟩, ?_, ?_, ?_⟩, ?_, ?_, ?_, ?_, ?_, fun q hq => ?_⟩
  · have e := fE (h.1.2.2.1 (31, .inr (lK 0), .inr (some 32)) (mK_at (by decide +kernel))) (j := 0) (lK_ev _ _)
    have g := (rq (j := 20) (ek := 96) (m := 2) (q := 0) (by decide) (by decide) (by decide) (by decide) (by decide) (by decide +kernel) (by decide +kernel) (by decide)).1
    rw [show rR H (gA σ 20) 0 = gA σ 1 from rR_of e] at g
    exact g
  · have e := fE (h.1.2.2.1 (31, .inr (lK 1), .inr (some 33)) (mK_at (by decide +kernel))) (j := 1) (lK_ev _ _)
    have g := (rq (j := 20) (ek := 96) (m := 2) (q := 1) (by decide) (by decide) (by decide) (by decide) (by decide) (by decide +kernel) (by decide +kernel) (by decide)).1
    rw [show rR H (gA σ 20) 1 = gA σ 2 from rR_of e] at g
    exact g
  · have e := fE (h.1.2.2.1 (34, .inr (lK 0), .inr (some 35)) (mK_at (by decide +kernel))) (j := 0) (lK_ev _ _)
    have g := (rq (j := 21) (ek := 102) (m := 2) (q := 0) (by decide) (by decide) (by decide) (by decide) (by decide) (by decide +kernel) (by decide +kernel) (by decide)).1
    rw [show rR H (gA σ 21) 0 = gA σ 7 from rR_of e] at g
    exact g
  · have e := fE (h.1.2.2.1 (34, .inr (lK 1), .inr (some 36)) (mK_at (by decide +kernel))) (j := 1) (lK_ev _ _)
    have g := (rq (j := 21) (ek := 102) (m := 2) (q := 1) (by decide) (by decide) (by decide) (by decide) (by decide) (by decide +kernel) (by decide +kernel) (by decide)).1
    rw [show rR H (gA σ 21) 1 = gA σ 8 from rR_of e] at g
    exact g
  · obtain ⟨-, -, t3, t4⟩ := fr_ty h hq
    obtain ⟨a1, a2⟩ := gF_of h t3 (p := (-2147483648, 2147483647)) (by decide +kernel) (by decide +kernel)
    obtain ⟨b1, b2⟩ := gF_of h t4 (p := (-2147483648, 2147483647)) (by decide +kernel) (by decide +kernel)
    exact ⟨⟨(hA _ _ t3 (by decide)).trans a1, wlB_no (fun j hj => nty t3 (gA_ty h (by omega)) ((by decide : ∀ j, j < 13 → (63 : Nat) ≠ gAk.getD j 0) j hj)) (fun k hk => ⟨(aM_of h hq hk).1, nty t3 (fr_ty h hk).2.1 (by decide)⟩)⟩, a2, ⟨(hA _ _ t4 (by decide)).trans b1, wlB_no (fun j hj => nty t4 (gA_ty h (by omega)) ((by decide : ∀ j, j < 13 → (66 : Nat) ≠ gAk.getD j 0) j hj)) (fun k hk => ⟨nty t4 (fr_ty h hk).1 (by decide), (aM_of h hq hk).2⟩)⟩, b2⟩
  · obtain ⟨t1, -, -, -⟩ := fr_ty h hq
    obtain ⟨l, l1, l2⟩ := cell_r hp t1 (t := 0) (m := 12) (by decide +kernel)
    exact ⟨l, (hA _ _ t1 (by decide)).trans l1, l2⟩
  · obtain ⟨-, t1, -, -⟩ := fr_ty h hq
    obtain ⟨l, l1, l2⟩ := cell_r hp t1 (t := 0) (m := 12) (by decide +kernel)
    exact ⟨l, (hA _ _ t1 (by decide)).trans l1, l2⟩
  · have tz := gA_ty h (j := 24) (by decide)
    obtain ⟨a1, a2⟩ := gF_of h tz (p := (0, 12)) (by decide +kernel) (by decide +kernel)
    refine ⟨_, ⟨(hA _ _ tz (by decide)).trans a1, wlB_no (fun j hj => ?_) (fun k hk => ⟨nty tz (fr_ty h hk).1 (by decide), nty tz (fr_ty h hk).2.1 (by decide)⟩)⟩, a2, fun q hq => by rw [← rV_r a1]; exact (zW_of h hq).2.1⟩
    by_cases c : j = 11
    · subst c
      exact (Fmap h).2.2.2.2.2.2.2.2.2.2.2.2.2.2.2.2.2.2.2.1
    · exact nty tz (gA_ty h (by omega)) ((by decide : ∀ j, j < 13 → j ≠ 11 → gAk.getD 24 0 ≠ gAk.getD j 0) j hj c)
  · have tz := gA_ty h (j := 26) (by decide)
    obtain ⟨a1, a2⟩ := gF_of h tz (p := (0, 12)) (by decide +kernel) (by decide +kernel)
    refine ⟨_, ⟨(hA _ _ tz (by decide)).trans a1, wlB_no (fun j hj => ?_) (fun k hk => ⟨nty tz (fr_ty h hk).1 (by decide), nty tz (fr_ty h hk).2.1 (by decide)⟩)⟩, a2, fun q hq => by rw [← rV_r a1]; exact (zT_of h hq).2.1⟩
    by_cases c : j = 12
    · subst c
      exact (Fmap h).2.2.2.2.2.2.2.2.2.2.2.2.2.2.2.2.2.2.2.2
    · exact nty tz (gA_ty h (by omega)) ((by decide : ∀ j, j < 13 → j ≠ 12 → gAk.getD 26 0 ≠ gAk.getD j 0) j hj c)
  · have tz := gA_ty h (j := 11) (by decide)
    obtain ⟨l, l1, l2⟩ := cell_r hp tz (t := 0) (m := 12) (by decide +kernel)
    exact ⟨l, (hA _ _ tz (by decide)).trans l1, l2⟩
  · have tz := gA_ty h (j := 12) (by decide)
    obtain ⟨l, l1, l2⟩ := cell_r hp tz (t := 0) (m := 12) (by decide +kernel)
    exact ⟨l, (hA _ _ tz (by decide)).trans l1, l2⟩
  · have tj : ∀ j, j < 27 → ty (gA σ j) = some (gAk.getD j 0) := fun j hj => gA_ty h hj
    have to : ∀ (j : Nat) z, j < 27 → 48 ≤ gAk.getD j 0 → H[gA σ j]? = some z → HA[gA σ j]? = some z := fun j z hj h48 hz => (hA _ _ (tj j hj) h48).trans hz
    obtain ⟨f0, x1, y1⟩ := cell_r hp (tj 1 (by decide)) (t := 0) (m := 6) (by decide +kernel)
    obtain ⟨f1, x2, y2⟩ := cell_r hp (tj 2 (by decide)) (t := 0) (m := 6) (by decide +kernel)
    obtain ⟨a0, a1, x3⟩ := two_of h (tj 3 (by decide)) (p := (0, 9999)) (by decide +kernel) (by decide +kernel)
    obtain ⟨b0, b1, x4⟩ := two_of h (tj 4 (by decide)) (p := (0, 12)) (by decide +kernel) (by decide +kernel)
    obtain ⟨c0, c1, x5⟩ := two_of h (tj 5 (by decide)) (p := (0, 150)) (by decide +kernel) (by decide +kernel)
    obtain ⟨d0, d1, x6⟩ := two_of h (tj 6 (by decide)) (p := (-1, 2)) (by decide +kernel) (by decide +kernel)
    obtain ⟨x7, y7⟩ := gF_of h (tj 7 (by decide)) (p := (-2147483648, 2147483647)) (by decide +kernel) (by decide +kernel)
    obtain ⟨x8, y8⟩ := gF_of h (tj 8 (by decide)) (p := (-2147483648, 2147483647)) (by decide +kernel) (by decide +kernel)
    obtain ⟨e0, e1, x9⟩ := two_of h (tj 9 (by decide)) (p := (0, 12)) (by decide +kernel) (by decide +kernel)
    obtain ⟨h0, h1, x10⟩ := two_of h (tj 10 (by decide)) (p := (-2147483648, 2147483647)) (by decide +kernel) (by decide +kernel)
    exact ⟨f0, f1, _, _, a0, a1, b0, b1, c0, c1, d0, d1, e0, e1, h0, h1, ⟨y1, y2, y7, y8⟩, to 1 _ (by decide) (by decide) x1, to 2 _ (by decide) (by decide) x2, to 3 _ (by decide) (by decide) x3, to 4 _ (by decide) (by decide) x4, to 5 _ (by decide) (by decide) x5, to 6 _ (by decide) (by decide) x6, to 7 _ (by decide) (by decide) x7, to 8 _ (by decide) (by decide) x8, to 9 _ (by decide) (by decide) x9, to 10 _ (by decide) (by decide) x10⟩
  · obtain ⟨-, -, -, -, -, -, -, p8, p9, p10, p11⟩ := p_at (yr := yr) h hq
    have q12 : q < 12 := by omega
    refine ⟨fun x => ⟨?_, ri (j := 13) (by decide) (by decide) (by decide) (by decide) (by decide) (by decide +kernel) p9⟩, ri (j := 15) (by decide) (by decide) (by decide) (by decide) (by decide) (by decide +kernel) p10, ri (j := 17) (by decide) (by decide) (by decide) (by decide) (by decide) (by decide +kernel) (zS_of h hq).2.1, ?_, ri (j := 22) (by decide) (by decide) (by decide) (by decide) (by decide) (by decide +kernel) p11, fun k hk => ?_, fun k hk => ?_⟩
    · obtain ⟨g1, g2⟩ := rq (j := 14) (m := 13) (ek := 49) (q := q) (by decide) (by decide) (by decide) (by decide) (by decide) (by decide +kernel) (by decide +kernel) (by omega)
      obtain ⟨w, w1, w2⟩ := cell_r hp g2 (t := 0) (m := 48) (by decide +kernel)
      have := lt g2
      refine ⟨_, g1, by omega, w, cr g2 (by decide) (by decide) (by decide) (by decide) w1, w2, fun l hl => ?_⟩
      obtain ⟨-, -, k0, k1, k2, k3⟩ := c_at (yr := yr) h hq (l := l) hl
      have w1 : H[gP H (sR σ 43) q]? = some (.inr (0, w)) := w1
      exact ⟨by rw [← rV_r w1]; exact k0, fun z1 z2 => by rw [← rV_r w1]; exact k1 z1 z2, fun z => by rw [← rV_r w1]; exact k2 z, fun z => by rw [← rV_r w1]; exact k3 z⟩
    · obtain ⟨g1, g2⟩ := rq (j := 16) (m := 12) (ek := 60) (q := q) (by decide) (by decide) (by decide) (by decide) (by decide) (by decide +kernel) (by decide +kernel) q12
      obtain ⟨w, w1, w2⟩ := cell_r hp g2 (t := 0) (m := 12) (by decide +kernel)
      have := lt g2
      refine ⟨_, w, g1, by omega, cr g2 (by decide) (by decide) (by decide) (by decide) w1, w2, fun k hk => ?_⟩
      obtain ⟨-, x, s1, s2⟩ := S_of (yr := yr) h hq hk
      exact ⟨x, by rw [← rV_r w1]; exact s1, s2⟩
    · have t3 := (fr_ty h q12).2.2.1
      have a1 := (gF_of h t3 (p := (-2147483648, 2147483647)) (by decide +kernel) (by decide +kernel)).1
      show (gF H (rR H (sR σ 55) q))[k]? = _
      rw [← rV_r a1]
      exact (W_of h hq hk).2
    · have t4 := (fr_ty h q12).2.2.2
      have a1 := (gF_of h t4 (p := (-2147483648, 2147483647)) (by decide +kernel) (by decide +kernel)).1
      show (gF H (rR H (sR σ 57) q))[k]? = _
      rw [← rV_r a1]
      exact (T_of h hq hk).2
/-- both answer alike -/
theorem f_same {ot : XO Int32} {dp : Nat} (h : HX ρ σ ty H n) (hL : H.length + 27 ≤ 1000000) {y vA vB : Int32} {HA HH : List (XC Int32)} (z1 : x_To x_tb x_tyl ot (dp + 8) 146 0 (x_en 0 [.inr (some (sR σ 0)), .inl y]) [] H 0 0 (some (.inl vA)) HA) (z2 : x_To x_tb x_tyl ot (dp + 8) 221 0 (x_en 0 [.inr (some (sR σ 1)), .inl y]) [] HA 0 0 (some (.inl vB)) HH) : vA = vB := by
  by_cases hb : y < nI 1900 ∨ nI 2099 < y
  · obtain ⟨e1, -⟩ := x_To_one z1 (t146n (dp := dp + 2) hb)
    obtain ⟨e2, -⟩ := x_To_one z2 (t221n (dp := dp) hb)
    cases e1
    cases e2
    rfl
  have hy1 : ¬ y < nI 1900 := fun z => hb (Or.inl z)
  have hy2 : ¬ nI 2099 < y := fun z => hb (Or.inr z)
  obtain ⟨rp, hrp⟩ := rdP_ex (gD H σ y)
  obtain ⟨rt, hrt⟩ := rdT_ex (gD H σ y)
  have hd := dOk_of (yr := y) h
  obtain ⟨H2, q1, q2⟩ := t146 (ot := ot) (dp := dp + 2) hd (by omega) (kSt_of (yr := y) h (by omega)) (kNe_of h) hrp hrt (kPh_of (yr := y) h rp rt) hy1 hy2
  have q1 : x_To x_tb x_tyl ot (dp + 8) 146 0 (x_en 0 [.inr (some (sR σ 0)), .inl y]) [] H 0 0 (some (.inl (hrm (gD H σ y) rp rt n))) H2 := q1
  obtain ⟨e1, rfl⟩ := x_To_one z1 q1
  have hA : ∀ x c, ty x = some c → 48 ≤ c → H2[x]? = H[x]? := fun x c hx hc => by
    have hl := vHp_lt h.1.1 hx
    have hz : H[x]? = some (H[x]'hl) := List.getElem?_eq_getElem hl
    rw [hz]
    exact q2.1 x _ ⟨hz, wlA_ty h hx ⟨by omega, by omega, by omega, by omega, by omega, by omega⟩⟩
  obtain ⟨gs, g1, g2, g3, g4, g5⟩ := mG_of h
  have hWL : ∀ x, x ∈ wlB H σ → x < H2.length := fun x hx => by
    rw [q2.2.1]
    rcases List.mem_append.mp hx with hx | hx
    · obtain ⟨j, hj, rfl⟩ := List.mem_map.mp hx
      exact vHp_lt h.1.1 (gA_ty h (j := j) (by
        have := List.mem_range.mp hj
        omega))
    · obtain ⟨q, hq, hx⟩ := List.mem_flatMap.mp hx
      have hq := List.mem_range.mp hq
      simp only [List.mem_cons, List.not_mem_nil, or_false] at hx
      rcases hx with rfl | rfl
      · exact vHp_lt h.1.1 (fr_ty h hq).1
      · exact vHp_lt h.1.1 (fr_ty h hq).2.1
  obtain ⟨H3, r1⟩ := t221 (ot := ot) (dp := dp) hd (mNe_of h) g2 hrp hrt g3 g4 g5 (H := H2) (by rw [q2.2.1]; exact hL) (mS0_of (yr := y) h (by omega) hA) ((hA _ _ (gA_ty h (j := 0) (by decide)) (by decide)).trans g1) hWL hy1 hy2
  have r1 : x_To x_tb x_tyl ot (dp + 8) 221 0 (x_en 0 [.inr (some (sR σ 1)), .inl y]) [] H2 0 0 (some (.inl (hrm (gD H σ y) rp rt n))) H3 := r1
  obtain ⟨e2, -⟩ := x_To_one z2 r1
  cases e1
  cases e2
  rfl
end XP33e
