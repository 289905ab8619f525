/-! p5: what stands at the head, read off the families. -/
noncomputable section XP5e
variable {H H2 : List (XC Int32)} {ty : Nat → Option Nat} {ρ : Nat → Int} {σ : Nat → Nat} {n : Nat}
-- kinds
def kf (c j : Nat) : Option vF := match x_KT.1[c]? with
  | some (.inl o) => o.2[j]?
  | _ => none
theorem cell_f (hp : vHp (fun c => x_KT.1[c]?) ty H) {a c c2 ci j u : Nat} {z : Bool} {fs : List (XV Int32)} (ha : ty a = some c) (hk : kf c j = some (.inr (z, c2))) (hH : H[a]? = some (.inl (ci, fs))) (hf : fs[j]? = some (.inr (some u))) : ty u = some c2 := by
  obtain ⟨kd, w, h1, h2, h3⟩ := hp a c ha
  rw [hH] at h2
  cases h2
  have h1 : x_KT.1[c]? = some kd := h1
  unfold kf at hk
  rw [h1] at hk
  rcases kd with o | o
  · exact h3.2.2 j _ _ hk hf
  · cases hk
theorem cell_fx (hp : vHp (fun c => x_KT.1[c]?) ty H) {a c c2 ci j : Nat} {fs : List (XV Int32)} (ha : ty a = some c) (hk : kf c j = some (.inr (false, c2))) (hH : H[a]? = some (.inl (ci, fs))) : ∃ u, fs[j]? = some (.inr (some u)) ∧ ty u = some c2 := by
  obtain ⟨kd, w, h1, h2, h3⟩ := hp a c ha
  rw [hH] at h2
  cases h2
  have h1 : x_KT.1[c]? = some kd := h1
  unfold kf at hk
  rw [h1] at hk
  rcases kd with o | o
  · have hl : fs.length = o.2.length := h3.2.1
    have hj : j < o.2.length := (List.getElem?_eq_some_iff.mp hk).1
    have hu : fs[j]? = some (fs[j]'(by omega)) := List.getElem?_eq_getElem (by omega)
    have hf := h3.2.2 j _ _ hk hu
    rcases hx : fs[j]'(by omega) with x | (_ | u)
    · rw [hx] at hf
      exact hf.elim
    · rw [hx] at hf
      cases hf
    · rw [hx] at hf hu
      exact ⟨u, hu, hf⟩
  · cases hk
def kr (c : Nat) : Option (Nat × Nat) := match x_KT.1[c]? with
  | some (.inr o) => some (o.1, o.2.1)
  | _ => none
theorem cell_r (hp : vHp (fun c => x_KT.1[c]?) ty H) {a c t m : Nat} (ha : ty a = some c) (hk : kr c = some (t, m)) : ∃ vs, H[a]? = some (.inr (t, vs)) ∧ vs.length = m := by
  obtain ⟨kd, w, h1, h2, h3⟩ := hp a c ha
  have h1 : x_KT.1[c]? = some kd := h1
  unfold kr at hk
  rw [h1] at hk
  rcases kd with o | o
  · cases hk
  · injection hk with hk
    injection hk with e1 e2
    rcases w with z | z
    · exact h3.elim
    · refine ⟨z.2, ?_, ?_⟩
      · rw [h2, ← e1, ← h3.1]
      · rw [← e2]
        exact h3.2.1
def kob (c : Nat) : Option (Nat × Nat) := match x_KT.1[c]? with
  | some (.inl o) => some (o.1, o.2.length)
  | _ => none
theorem cell_o (hp : vHp (fun c => x_KT.1[c]?) ty H) {a c t m : Nat} (ha : ty a = some c) (hk : kob c = some (t, m)) : ∃ vs, H[a]? = some (.inl (t, vs)) ∧ vs.length = m := by
  obtain ⟨kd, w, h1, h2, h3⟩ := hp a c ha
  have h1 : x_KT.1[c]? = some kd := h1
  unfold kob at hk
  rw [h1] at hk
  rcases kd with o | o
  · injection hk with hk
    injection hk with e1 e2
    rcases w with z | z
    · refine ⟨z.2, ?_, ?_⟩
      · rw [h2, ← e1, ← h3.1]
      · rw [← e2]
        exact h3.2.1
    · exact h3.elim
  · cases hk
def kel (c j : Nat) : Option vF := match x_KT.1[c]? with
  | some (.inr o) => vEl o.2.2 j
  | _ => none
theorem cell_e (hp : vHp (fun c => x_KT.1[c]?) ty H) {a c c2 t j u : Nat} {z : Bool} {vs : List (XV Int32)} (ha : ty a = some c) (hk : kel c j = some (.inr (z, c2))) (hH : H[a]? = some (.inr (t, vs))) (hf : vs[j]? = some (.inr (some u))) : ty u = some c2 := by
  obtain ⟨kd, w, h1, h2, h3⟩ := hp a c ha
  rw [hH] at h2
  cases h2
  have h1 : x_KT.1[c]? = some kd := h1
  unfold kel at hk
  rw [h1] at hk
  rcases kd with o | o
  · cases hk
  · exact h3.2.2 j _ _ hk hf
theorem cell_ex (hp : vHp (fun c => x_KT.1[c]?) ty H) {a c c2 t j : Nat} {vs : List (XV Int32)} (ha : ty a = some c) (hk : kel c j = some (.inr (false, c2))) (hH : H[a]? = some (.inr (t, vs))) (hj : j < vs.length) : ∃ u, vs[j]? = some (.inr (some u)) ∧ ty u = some c2 := by
  obtain ⟨kd, w, h1, h2, h3⟩ := hp a c ha
  rw [hH] at h2
  cases h2
  have h1 : x_KT.1[c]? = some kd := h1
  unfold kel at hk
  rw [h1] at hk
  rcases kd with o | o
  · cases hk
  · have hu : vs[j]? = some (vs[j]'hj) := List.getElem?_eq_getElem hj
    have hf := h3.2.2 j _ _ hk hu
    rcases hx : vs[j]'hj with x | (_ | u)
    · rw [hx] at hf
      exact hf.elim
    · rw [hx] at hf
      cases hf
    · rw [hx] at hf hu
      exact ⟨u, hu, hf⟩
theorem cell_ei (hp : vHp (fun c => x_KT.1[c]?) ty H) {a c t j : Nat} {p : Int × Int} {vs : List (XV Int32)} (ha : ty a = some c) (hk : kel c j = some (.inl p)) (hH : H[a]? = some (.inr (t, vs))) (hj : j < vs.length) : ∃ x : Int32, vs[j]? = some (.inl x) := by
  obtain ⟨kd, w, h1, h2, h3⟩ := hp a c ha
  rw [hH] at h2
  cases h2
  have h1 : x_KT.1[c]? = some kd := h1
  unfold kel at hk
  rw [h1] at hk
  rcases kd with o | o
  · cases hk
  · have hu : vs[j]? = some (vs[j]'hj) := List.getElem?_eq_getElem hj
    have hf := h3.2.2 j _ _ hk hu
    rcases hx : vs[j]'hj with x | u
    · rw [hx] at hu
      exact ⟨x, hu⟩
    · rw [hx] at hf
      rcases u with _ | u
      · exact hf.elim
      · exact hf.elim
-- places
def rV (H : List (XC Int32)) (a j : Nat) : Option (XV Int32) := match H[a]? with
  | some (.inl z) => z.2[j]?
  | some (.inr z) => z.2[j]?
  | none => none
def rR (H : List (XC Int32)) (a j : Nat) : Nat := match rV H a j with
  | some (.inr (some u)) => u
  | _ => 0
def rN (H : List (XC Int32)) (a j : Nat) : Nat := match rV H a j with
  | some (.inl x) => x.toInt.toNat
  | _ => 0
def rS (H : List (XC Int32)) (a j : Nat) : Nat := match rV H a j with
  | some (.inl x) => (x.toInt + 1).toNat
  | _ => 0
theorem rV_o {a j ci : Nat} {fs : List (XV Int32)} (h : H[a]? = some (.inl (ci, fs))) : rV H a j = fs[j]? := by
  unfold rV
  rw [h]
theorem rV_r {a j ci : Nat} {fs : List (XV Int32)} (h : H[a]? = some (.inr (ci, fs))) : rV H a j = fs[j]? := by
  unfold rV
  rw [h]
theorem rR_of {a j u : Nat} (h : rV H a j = some (.inr (some u))) : rR H a j = u := by
  unfold rR
  rw [h]
theorem rN_of {a j k : Nat} (h : rV H a j = some (.inl (nI k))) (hk : k < 2147483648) : rN H a j = k := by
  unfold rN
  rw [h]
  show (nI k).toInt.toNat = k
  rw [nI_toInt (by omega)]
  omega
theorem rS_of {a j k : Nat} (h : rV H a j = some (.inl (svI k))) (hk : k < 2147483648) : rS H a j = k := by
  unfold rS
  rw [h]
  show ((svI k).toInt + 1).toNat = k
  rcases k with _ | k
  · rfl
  · show ((nI k).toInt + 1).toNat = k + 1
    rw [nI_toInt (by omega)]
    omega
theorem oI {x : Int} {k : Nat} (h : x = (k : Int)) (hk : k < 2147483648) : Int32.ofInt x = nI k := by
  apply Int32.toInt_inj.mp
  rw [ofInt_toInt (by omega) (by omega), nI_toInt (by omega)]
  exact h
theorem oS {x : Int} (h1 : -1 ≤ x) (h2 : x ≤ 11) : Int32.ofInt x = svI (x + 1).toNat := by
  by_cases c : x = -1
  · subst c
    rfl
  · obtain ⟨k, hk⟩ : ∃ k : Nat, x = (k : Int) := ⟨x.toNat, by omega⟩
    rw [show (x + 1).toNat = k + 1 by omega]
    exact oI hk (by omega)
theorem pl_f {i j : Nat} {u : XV Int32} (h : vPlace ρ σ H i (.inl j) u) : rV H (sR σ i) j = some u := by
  obtain ⟨ci, fs, h1, h2⟩ := h
  rw [rV_o h1]
  exact h2
theorem pl_e {i j : Nat} {e : lT} {u : XV Int32} (h : vPlace ρ σ H i (.inr e) u) (e1 : lEv ρ e = (j : Int)) : rV H (sR σ i) j = some u := by
  obtain ⟨t, vs, h1, -, h2⟩ := h
  rw [e1, Int.toNat_natCast] at h2
  rw [rV_r h1]
  exact h2
theorem fO {i j k : Nat} (h : vHolds ρ σ H (i, .inl j, .inr (some k))) : rV H (sR σ i) j = some (.inr (some (sR σ k))) := pl_f (vHolds_fld h)
theorem fI {i j : Nat} {e : lT} (h : vHolds ρ σ H (i, .inl j, .inl e)) : rV H (sR σ i) j = some (.inl (Int32.ofInt (lEv ρ e))) := pl_f (vHolds_fld h)
theorem fE {i j k : Nat} {e : lT} (h : vHolds ρ σ H (i, .inr e, .inr (some k))) (e1 : lEv ρ e = (j : Int)) : rV H (sR σ i) j = some (.inr (some (sR σ k))) := by
  rcases h with h | ⟨k2, h1, -, -⟩
  · exact pl_e h e1
  · have h1 : (Sum.inr e : Nat ⊕ lT) = .inr (lK (-1)) := h1
    injection h1 with h1
    rw [h1, lK_ev] at e1
    omega
theorem fJ {i j : Nat} {e e2 : lT} (h : vHolds ρ σ H (i, .inr e, .inl e2)) (e1 : lEv ρ e = (j : Int)) : rV H (sR σ i) j = some (.inl (Int32.ofInt (lEv ρ e2))) := pl_e (vHolds_int h) e1
theorem fN {i k : Nat} (h : vHolds ρ σ H (i, .inr (lK (-1)), .inr (some k))) : sR σ i ≠ sR σ k := by
  rcases h with ⟨t, vs, -, h1, -⟩ | ⟨k2, -, h1, h2⟩
  · rw [lK_ev] at h1
    omega
  · have h1 : (Sum.inr (some k) : vA) = .inr (some k2) := h1
    injection h1 with h1
    injection h1 with h1
    subst h1
    exact h2
-- families
def evL (l : List Int) (i : Nat) : Int := l.getD i 0
def mK (f : vK) (l : List vK) : Bool := l.any (fun g => @decide (f = g) (dvK f g))
theorem mK_at {f : vK} {l : List vK} (h : mK f l = true) : f ∈ l := by
  obtain ⟨g, hg, e⟩ := List.any_eq_true.mp h
  have e : f = g := @of_decide_eq_true (f = g) (dvK f g) e
  rw [e]
  exact hg
def inA (l : List vK) (x : vAn) : Bool := l.all (fun f => mK f (aF x))
theorem inA_at {l : List vK} {x : vAn} (h : inA l x = true) {f : vK} (hf : f ∈ l) : f ∈ aF x := mK_at (List.all_eq_true.mp h f hf)
theorem sAx {τ : List Nat} {σ2 : Nat → Nat} {g i j : Nat} (e : ∀ i, i < g → σ2 i = sR (sO σ τ) i) (hi : i < g) (ht : τ[i]? = some j) (h6 : i < 1000000) : sR σ2 i = sR σ j := by
  have h := e i hi
  rw [sOx ht h6] at h
  rw [← h]
  exact if_pos h6
def HX (ρ : Nat → Int) (σ : Nat → Nat) (ty : Nat → Option Nat) (H : List (XC Int32)) (n : Nat) : Prop := vRel x_KT ρ σ ty H (aSt lwN) ∧ lwPw lwFS lwTA lwTB σ ty H ∧ ρ 3 = (n : Int)
theorem HX_12 (h : HX ρ σ ty H n) : n ≤ 12 := by
  have h1 := h.1.2.2.2.1 (3, ((0 : Int), (12 : Int))) (by decide +kernel)
  have h1 : (0 : Int) ≤ ρ 3 ∧ ρ 3 ≤ 12 := h1
  have h2 := h.2.2
  omega
theorem pin_of (h : HX ρ σ ty H n) {l : List Int} (h0 : evL l 0 = (n : Int)) : wPn [(0, 3)] (evL l) (sO σ lwTA) H := fun i p hp => by
  have hn := HX_12 h
  rcases i with _ | i
  · cases hp
    refine ⟨by omega, ?_⟩
    obtain ⟨ci, fs, h1, h2⟩ := vHolds_fld (h.1.2.2.1 (0, .inl 3, .inl (lSy 3)) (mK_at (by decide +kernel)))
    have h2 : fs[3]? = some (.inl (Int32.ofInt (lEv ρ (lSy 3)))) := h2
    rw [lSy_ev, h.2.2, ← h0] at h2
    exact ⟨ci, fs, by rw [sOx (j := 0) rfl (by decide)]; exact h1, h2⟩
  · cases hp
def scA : List vK := [(3, .inr (lSy 1), .inr (some 24)), (24, .inl 8, .inl (lSy 2)), (24, .inl 0, .inr (some 26)), (26, .inl 4, .inl (lSy 8))]
def scB : List vK := [(24, .inr (lSy 1), .inl (lSy 2)), (20, .inr (lSy 1), .inl (lSy 8)), (19, .inr (lSy 1), .inr (some 42))]
def l5Q : lT := lAdd (lSc (-1) (lSy 1)) (lAdd (lSy 0) (lK (-1)))
def l5Sa : lT := lAdd (lSc (-1) (lSy 2)) (lAdd (lSy 0) (lK (-1)))
def l5Sb : lT := lAdd (lSc (-1) (lSy 2)) (lAdd (lSy 1) (lK (-1)))
def l5Sc : lT := lAdd (lSy 2) (lAdd (lSc (-1) (lSy 1)) (lK (-1)))
theorem sc_ok : (wAl lwF0).all (fun x => inA scA x.1 && inA scB x.2 && decide ((aI x.1)[2]? = some (-1, 11)) && decide ((aI x.1)[8]? = some (1, 12)) && decide (l5Sa ∈ aC x.1) && (decide (l5Sb ∈ aC x.1) || decide (l5Sc ∈ aC x.1))) = true := by decide +kernel
theorem sc_at (h : HX ρ σ ty H n) {q : Nat} (hq : q < n) : ∃ P C D sv nl : Nat, rV H (sR σ 6) q = some (.inr (some P)) ∧ rV H P 8 = some (.inl (svI sv)) ∧ rV H P 0 = some (.inr (some C)) ∧ rV H C 4 = some (.inl (nI nl)) ∧ (1 ≤ nl ∧ nl ≤ 12) ∧ (sv ≤ n ∧ sv ≠ q + 1) ∧ rV H (sR σ 43) q = some (.inr (some D)) ∧ rV H (sR σ 44) q = some (.inl (nI nl)) ∧ rV H (sR σ 48) q = some (.inl (svI sv)) := by
  have hn := HX_12 h
  have hw := h.2.1 lwF0 (List.mem_of_getElem? (i := 0) rfl) (evL [(n : Int), (q : Int)]) (pin_of h rfl) (fun j p hj => by
    rcases j with _ | j
    · cases hj
      exact ⟨show (0 : Int) ≤ (q : Int) by omega, show (q : Int) ≤ 11 by omega⟩
    · cases hj) (fun c hc => by
    have hc : c ∈ [l5Q] := hc
    rw [List.mem_singleton.mp hc]
    unfold l5Q
    rw [lAdd_ev, lSc_ev, lSy_ev, lAdd_ev, lSy_ev, lK_ev]
    show (0 : Int) ≤ -1 * (q : Int) + ((n : Int) + -1)
    omega)
  obtain ⟨x, hx, ρ2, σA, σB, e1, e2, e3, n1, n2, n3, n4⟩ := hw
  have k := List.all_eq_true.mp sc_ok x hx
  simp only [Bool.and_eq_true, Bool.or_eq_true] at k
  obtain ⟨⟨⟨⟨⟨k1, k2⟩, k3⟩, k4⟩, k5⟩, k6⟩ := k
  have r0 : ρ2 0 = (n : Int) := e1 0 (by decide +kernel)
  have r1 : ρ2 1 = (q : Int) := e1 1 (by decide +kernel)
  have f1 := fE (n1 _ (inA_at k1 (f := (3, .inr (lSy 1), .inr (some 24))) (mK_at (by decide +kernel)))) (j := q) ((lSy_ev _ _).trans r1)
  have f2 := fI (n1 _ (inA_at k1 (f := (24, .inl 8, .inl (lSy 2))) (mK_at (by decide +kernel))))
  have f3 := fO (n1 _ (inA_at k1 (f := (24, .inl 0, .inr (some 26))) (mK_at (by decide +kernel))))
  have f4 := fI (n1 _ (inA_at k1 (f := (26, .inl 4, .inl (lSy 8))) (mK_at (by decide +kernel))))
  have f5 := fJ (n2 _ (inA_at k2 (f := (24, .inr (lSy 1), .inl (lSy 2))) (mK_at (by decide +kernel)))) (j := q) ((lSy_ev _ _).trans r1)
  have f6 := fJ (n2 _ (inA_at k2 (f := (20, .inr (lSy 1), .inl (lSy 8))) (mK_at (by decide +kernel)))) (j := q) ((lSy_ev _ _).trans r1)
  have f7 := fE (n2 _ (inA_at k2 (f := (19, .inr (lSy 1), .inr (some 42))) (mK_at (by decide +kernel)))) (j := q) ((lSy_ev _ _).trans r1)
  rw [sAx e2 (j := 6) (by decide +kernel) rfl (by decide)] at f1
  rw [sAx e3 (j := 48) (by decide +kernel) rfl (by decide)] at f5
  rw [sAx e3 (j := 44) (by decide +kernel) rfl (by decide)] at f6
  rw [sAx e3 (j := 43) (by decide +kernel) rfl (by decide)] at f7
  rw [lSy_ev] at f2 f4 f5 f6
  have b2 : (-1 : Int) ≤ ρ2 2 ∧ ρ2 2 ≤ 11 := by
    have := zipI_spec.mp n3 2 _ (of_decide_eq_true k3)
    simpa using this
  have b8 : (1 : Int) ≤ ρ2 8 ∧ ρ2 8 ≤ 12 := by
    have := zipI_spec.mp n3 8 _ (of_decide_eq_true k4)
    simpa using this
  have c5 := n4 _ (of_decide_eq_true k5)
  unfold l5Sa at c5
  rw [lAdd_ev, lSc_ev, lSy_ev, lAdd_ev, lSy_ev, lK_ev, r0] at c5
  have c6 : (ρ2 2 + 1).toNat ≠ q + 1 := by
    rcases k6 with z | z
    · have z := n4 _ (of_decide_eq_true z)
      unfold l5Sb at z
      rw [lAdd_ev, lSc_ev, lSy_ev, lAdd_ev, lSy_ev, lK_ev, r1] at z
      omega
    · have z := n4 _ (of_decide_eq_true z)
      unfold l5Sc at z
      rw [lAdd_ev, lSy_ev, lAdd_ev, lSc_ev, lSy_ev, lK_ev, r1] at z
      omega
  rw [oS b2.1 b2.2] at f2 f5
  rw [oI (k := (ρ2 8).toNat) (by omega) (by omega)] at f4 f6
  exact ⟨_, _, _, _, _, f1, f2, f3, f4, ⟨by omega, by omega⟩, ⟨by omega, c6⟩, f7, f6, f5⟩
def cdA (o : Int) : List vK := [(3, .inr (lSy 1), .inr (some 24)), (24, .inl 0, .inr (some 25)), (25, .inl 0, .inr (some 26)), (25, .inl 1, .inr (some 27)), (25, .inl 2, .inr (some 28)), (26, .inr (lSy 2), .inl (lSy 4)), (27, .inr (lSy 2), .inl (lSy 5)), (28, .inr (lSy 2), .inl (lSy 6))]
def cdB (o : Nat) : List vK := [(19, .inr (lSy 1), .inr (some 42)), (42, .inr (lSc 4 (lSy 2)), .inl (lK (opR o : Int)))]
def cdF : vK := (42, .inr (lAdd (lSc 4 (lSy 2)) (lK 1)), .inl (lSy 5))
def cdG : vK := (42, .inr (lAdd (lSc 4 (lSy 2)) (lK 2)), .inl (lSy 6))
def cdE : List vK := [(3, .inr (lSy 1), .inr (some 24)), (24, .inl 0, .inr (some 25)), (25, .inl 4, .inl (lSy 3))]
def l5End : lT := lAdd (lSc (-1) (lSy 3)) (lSy 2)
def fg5 (o : Nat) : Bool := decide (o = 4 ∨ o = 5 ∨ o = 6 ∨ o = 7 ∨ o = 11)
theorem cd_ok : (wAl lwF1).all (fun x => (List.range 12).any (fun o => inA (cdA o) x.1 && inA (cdB o) x.2 && decide ((aI x.1)[4]? = some ((o : Int), (o : Int))) && decide ((aI x.1)[5]? = some (0, 5)) && decide ((aI x.1)[6]? = some (0, 5)) && (decide (o = 9 ∨ o = 10) || mK cdF (aF x.2)) && (!fg5 o || mK cdG (aF x.2))) || (inA cdE x.1 && decide ((aI x.1)[3]? = some (1, 12)) && decide (l5End ∈ aC x.1))) = true := by decide +kernel
theorem cd_at (h : HX ρ σ ty H n) {q l : Nat} (hq : q < n) (hl : l < 12) : (∃ P C nl : Nat, rV H (sR σ 6) q = some (.inr (some P)) ∧ rV H P 0 = some (.inr (some C)) ∧ rV H C 4 = some (.inl (nI nl)) ∧ nl ≤ 12 ∧ nl ≤ l) ∨
    ∃ P C r0 r1 r2 D o f g : Nat, rV H (sR σ 6) q = some (.inr (some P)) ∧ rV H P 0 = some (.inr (some C)) ∧ rV H C 0 = some (.inr (some r0)) ∧ rV H C 1 = some (.inr (some r1)) ∧ rV H C 2 = some (.inr (some r2)) ∧ rV H r0 l = some (.inl (nI o)) ∧ rV H r1 l = some (.inl (nI f)) ∧ rV H r2 l = some (.inl (nI g)) ∧ (o ≤ 11 ∧ f < 6 ∧ g < 6) ∧ rV H (sR σ 43) q = some (.inr (some D)) ∧ rV H D (4 * l) = some (.inl (nI (opR o))) ∧ (o ≠ 9 → o ≠ 10 → rV H D (4 * l + 1) = some (.inl (nI f))) ∧ ((o = 4 ∨ o = 5 ∨ o = 6 ∨ o = 7 ∨ o = 11) → rV H D (4 * l + 2) = some (.inl (nI g))) := by
  have hn := HX_12 h
  have hw := h.2.1 lwF1 (List.mem_of_getElem? (i := 1) rfl) (evL [(n : Int), (q : Int), (l : Int)]) (pin_of h rfl) (fun j p hj => by
    rcases j with _ | _ | j
    · cases hj
      exact ⟨show (0 : Int) ≤ (q : Int) by omega, show (q : Int) ≤ 11 by omega⟩
    · cases hj
      exact ⟨show (0 : Int) ≤ (l : Int) by omega, show (l : Int) ≤ 11 by omega⟩
    · cases hj) (fun c hc => by
    have hc : c ∈ [l5Q] := hc
    rw [List.mem_singleton.mp hc]
    unfold l5Q
    rw [lAdd_ev, lSc_ev, lSy_ev, lAdd_ev, lSy_ev, lK_ev]
    show (0 : Int) ≤ -1 * (q : Int) + ((n : Int) + -1)
    omega)
  obtain ⟨x, hx, ρ2, σA, σB, e1, e2, e3, n1, n2, n3, n4⟩ := hw
  have r0 : ρ2 0 = (n : Int) := e1 0 (by decide +kernel)
  have r1 : ρ2 1 = (q : Int) := e1 1 (by decide +kernel)
  have r2 : ρ2 2 = (l : Int) := e1 2 (by decide +kernel)
  have k := List.all_eq_true.mp cd_ok x hx
  simp only [Bool.or_eq_true] at k
  rcases k with k | k
  rotate_left
  · simp only [Bool.and_eq_true] at k
    obtain ⟨⟨k1, k2⟩, k3⟩ := k
    have f1 := fE (n1 _ (inA_at k1 (f := (3, .inr (lSy 1), .inr (some 24))) (mK_at (by decide +kernel)))) (j := q) ((lSy_ev _ _).trans r1)
    have f3 := fO (n1 _ (inA_at k1 (f := (24, .inl 0, .inr (some 25))) (mK_at (by decide +kernel))))
    have f4 := fI (n1 _ (inA_at k1 (f := (25, .inl 4, .inl (lSy 3))) (mK_at (by decide +kernel))))
    rw [sAx e2 (j := 6) (by decide +kernel) rfl (by decide)] at f1
    have b3 : (1 : Int) ≤ ρ2 3 ∧ ρ2 3 ≤ 12 := by
      have := zipI_spec.mp n3 3 _ (of_decide_eq_true k2)
      simpa using this
    have c := n4 _ (of_decide_eq_true k3)
    unfold l5End at c
    rw [lAdd_ev, lSc_ev, lSy_ev, lSy_ev, r2] at c
    rw [lSy_ev, oI (k := (ρ2 3).toNat) (by omega) (by omega)] at f4
    exact Or.inl ⟨_, _, _, f1, f3, f4, by omega, by omega⟩
  · obtain ⟨o, ho, k⟩ := List.any_eq_true.mp k
    have ho := List.mem_range.mp ho
    simp only [Bool.and_eq_true, Bool.or_eq_true] at k
    obtain ⟨⟨⟨⟨⟨⟨k1, k2⟩, k3⟩, k4⟩, k5⟩, k6⟩, k7⟩ := k
    have f1 := fE (n1 _ (inA_at k1 (f := (3, .inr (lSy 1), .inr (some 24))) (List.mem_of_getElem? (i := 0) rfl))) (j := q) ((lSy_ev _ _).trans r1)
    have f2 := fO (n1 _ (inA_at k1 (f := (24, .inl 0, .inr (some 25))) (List.mem_of_getElem? (i := 1) rfl)))
    have f3 := fO (n1 _ (inA_at k1 (f := (25, .inl 0, .inr (some 26))) (List.mem_of_getElem? (i := 2) rfl)))
    have f4 := fO (n1 _ (inA_at k1 (f := (25, .inl 1, .inr (some 27))) (List.mem_of_getElem? (i := 3) rfl)))
    have f5 := fO (n1 _ (inA_at k1 (f := (25, .inl 2, .inr (some 28))) (List.mem_of_getElem? (i := 4) rfl)))
    have f6 := fJ (n1 _ (inA_at k1 (f := (26, .inr (lSy 2), .inl (lSy 4))) (List.mem_of_getElem? (i := 5) rfl))) (j := l) ((lSy_ev _ _).trans r2)
    have f7 := fJ (n1 _ (inA_at k1 (f := (27, .inr (lSy 2), .inl (lSy 5))) (List.mem_of_getElem? (i := 6) rfl))) (j := l) ((lSy_ev _ _).trans r2)
    have f8 := fJ (n1 _ (inA_at k1 (f := (28, .inr (lSy 2), .inl (lSy 6))) (List.mem_of_getElem? (i := 7) rfl))) (j := l) ((lSy_ev _ _).trans r2)
    have g1 := fE (n2 _ (inA_at k2 (f := (19, .inr (lSy 1), .inr (some 42))) (List.mem_of_getElem? (i := 0) rfl))) (j := q) ((lSy_ev _ _).trans r1)
    have g2 := fJ (n2 _ (inA_at k2 (f := (42, .inr (lSc 4 (lSy 2)), .inl (lK (opR o : Int)))) (List.mem_of_getElem? (i := 1) rfl))) (j := 4 * l) (by
      rw [lSc_ev, lSy_ev, r2]
      omega)
    rw [sAx e2 (j := 6) (by decide +kernel) rfl (by decide)] at f1
    rw [sAx e3 (j := 43) (by decide +kernel) rfl (by decide)] at g1
    rw [lSy_ev] at f6 f7 f8
    rw [lK_ev, oI (k := opR o) rfl (by
      have := (opR_t o (by omega)).1
      omega)] at g2
    have b4 : (o : Int) ≤ ρ2 4 ∧ ρ2 4 ≤ (o : Int) := by
      have := zipI_spec.mp n3 4 _ (of_decide_eq_true k3)
      simpa using this
    have b5 : (0 : Int) ≤ ρ2 5 ∧ ρ2 5 ≤ 5 := by
      have := zipI_spec.mp n3 5 _ (of_decide_eq_true k4)
      simpa using this
    have b6 : (0 : Int) ≤ ρ2 6 ∧ ρ2 6 ≤ 5 := by
      have := zipI_spec.mp n3 6 _ (of_decide_eq_true k5)
      simpa using this
    rw [oI (k := o) (by omega) (by omega)] at f6
    rw [oI (k := (ρ2 5).toNat) (by omega) (by omega)] at f7
    rw [oI (k := (ρ2 6).toNat) (by omega) (by omega)] at f8
    refine Or.inr ⟨_, _, _, _, _, _, _, _, _, f1, f2, f3, f4, f5, f6, f7, f8, ⟨by omega, by omega, by omega⟩, g1, g2, fun z1 z2 => ?_, fun z => ?_⟩
    · rcases k6 with k6 | k6
      · have := of_decide_eq_true k6
        omega
      · have g3 := fJ (n2 cdF (mK_at k6)) (j := 4 * l + 1) (by
          rw [lAdd_ev, lSc_ev, lSy_ev, lK_ev, r2]
          omega)
        rw [lSy_ev, oI (k := (ρ2 5).toNat) (by omega) (by omega)] at g3
        exact g3
    · rcases k7 with k7 | k7
      · rw [show fg5 o = true from decide_eq_true z] at k7
        cases k7
      · have g3 := fJ (n2 cdG (mK_at k7)) (j := 4 * l + 2) (by
          rw [lAdd_ev, lSc_ev, lSy_ev, lK_ev, r2]
          omega)
        rw [lSy_ev, oI (k := (ρ2 6).toNat) (by omega) (by omega)] at g3
        exact g3
def seA : List vK := [(3, .inr (lSy 1), .inr (some 24)), (24, .inl 1, .inr (some 25)), (25, .inl 1, .inr (some 26)), (25, .inl 2, .inr (some 27)), (26, .inr (lSy 2), .inl (lSy 3)), (27, .inr (lSy 2), .inl (lSy 4))]
def seB : List vK := [(21, .inr (lSy 1), .inr (some 42)), (22, .inr (lSy 1), .inr (some 43)), (42, .inr (lSy 2), .inl (lSy 3)), (43, .inr (lSy 2), .inl (lSy 4))]
theorem se_ok : (wAl lwF2).all (fun x => inA seA x.1 && inA seB x.2) = true := by decide +kernel
theorem se_at (h : HX ρ σ ty H n) {q f : Nat} (hq : q < n) (hf : f < 6) : ∃ (P se dr pr rd rp : Nat) (d v : Int32), rV H (sR σ 6) q = some (.inr (some P)) ∧ rV H P 1 = some (.inr (some se)) ∧ rV H se 1 = some (.inr (some dr)) ∧ rV H se 2 = some (.inr (some pr)) ∧ rV H dr f = some (.inl d) ∧ rV H pr f = some (.inl v) ∧ rV H (sR σ 45) q = some (.inr (some rd)) ∧ rV H (sR σ 46) q = some (.inr (some rp)) ∧ rV H rd f = some (.inl d) ∧ rV H rp f = some (.inl v) := by
  have hn := HX_12 h
  have hw := h.2.1 lwF2 (List.mem_of_getElem? (i := 2) rfl) (evL [(n : Int), (q : Int), (f : Int)]) (pin_of h rfl) (fun j p hj => by
    rcases j with _ | _ | j
    · cases hj
      exact ⟨show (0 : Int) ≤ (q : Int) by omega, show (q : Int) ≤ 11 by omega⟩
    · cases hj
      exact ⟨show (0 : Int) ≤ (f : Int) by omega, show (f : Int) ≤ 5 by omega⟩
    · cases hj) (fun c hc => by
    have hc : c ∈ [l5Q] := hc
    rw [List.mem_singleton.mp hc]
    unfold l5Q
    rw [lAdd_ev, lSc_ev, lSy_ev, lAdd_ev, lSy_ev, lK_ev]
    show (0 : Int) ≤ -1 * (q : Int) + ((n : Int) + -1)
    omega)
  obtain ⟨x, hx, ρ2, σA, σB, e1, e2, e3, n1, n2, n3, n4⟩ := hw
  have r1 : ρ2 1 = (q : Int) := e1 1 (by decide +kernel)
  have r2 : ρ2 2 = (f : Int) := e1 2 (by decide +kernel)
  have k := List.all_eq_true.mp se_ok x hx
  simp only [Bool.and_eq_true] at k
  obtain ⟨k1, k2⟩ := k
  have f1 := fE (n1 _ (inA_at k1 (f := (3, .inr (lSy 1), .inr (some 24))) (mK_at (by decide +kernel)))) (j := q) ((lSy_ev _ _).trans r1)
  have f2 := fO (n1 _ (inA_at k1 (f := (24, .inl 1, .inr (some 25))) (mK_at (by decide +kernel))))
  have f3 := fO (n1 _ (inA_at k1 (f := (25, .inl 1, .inr (some 26))) (mK_at (by decide +kernel))))
  have f4 := fO (n1 _ (inA_at k1 (f := (25, .inl 2, .inr (some 27))) (mK_at (by decide +kernel))))
  have f5 := fJ (n1 _ (inA_at k1 (f := (26, .inr (lSy 2), .inl (lSy 3))) (mK_at (by decide +kernel)))) (j := f) ((lSy_ev _ _).trans r2)
  have f6 := fJ (n1 _ (inA_at k1 (f := (27, .inr (lSy 2), .inl (lSy 4))) (mK_at (by decide +kernel)))) (j := f) ((lSy_ev _ _).trans r2)
  have g1 := fE (n2 _ (inA_at k2 (f := (21, .inr (lSy 1), .inr (some 42))) (mK_at (by decide +kernel)))) (j := q) ((lSy_ev _ _).trans r1)
  have g2 := fE (n2 _ (inA_at k2 (f := (22, .inr (lSy 1), .inr (some 43))) (mK_at (by decide +kernel)))) (j := q) ((lSy_ev _ _).trans r1)
  have g3 := fJ (n2 _ (inA_at k2 (f := (42, .inr (lSy 2), .inl (lSy 3))) (mK_at (by decide +kernel)))) (j := f) ((lSy_ev _ _).trans r2)
  have g4 := fJ (n2 _ (inA_at k2 (f := (43, .inr (lSy 2), .inl (lSy 4))) (mK_at (by decide +kernel)))) (j := f) ((lSy_ev _ _).trans r2)
  rw [sAx e2 (j := 6) (by decide +kernel) rfl (by decide)] at f1
  rw [sAx e3 (j := 45) (by decide +kernel) rfl (by decide)] at g1
  rw [sAx e3 (j := 46) (by decide +kernel) rfl (by decide)] at g2
  exact ⟨_, _, _, _, _, _, _, _, f1, f2, f3, f4, f5, f6, g1, g2, g3, g4⟩
def a3A : List vK := [(3, .inr (lSy 1), .inr (some 24)), (3, .inr (lSy 2), .inr (some 28)), (24, .inr (lK (-1)), .inr (some 28))]
theorem a3_ok : (wAl lwF16).all (fun x => inA a3A x.1) = true := by decide +kernel
theorem a3_at (h : HX ρ σ ty H n) {q k : Nat} (hq : q < k) (hk : k < n) : ∃ P P' : Nat, rV H (sR σ 6) q = some (.inr (some P)) ∧ rV H (sR σ 6) k = some (.inr (some P')) ∧ P ≠ P' := by
  have hn := HX_12 h
  have hw := h.2.1 lwF16 (List.mem_of_getElem? (i := 16) rfl) (evL [(n : Int), (q : Int), (k : Int)]) (pin_of h rfl) (fun j p hj => by
    rcases j with _ | _ | j
    · cases hj
      exact ⟨show (0 : Int) ≤ (q : Int) by omega, show (q : Int) ≤ 11 by omega⟩
    · cases hj
      exact ⟨show (0 : Int) ≤ (k : Int) by omega, show (k : Int) ≤ 11 by omega⟩
    · cases hj) (fun c hc => by
    have hc : c ∈ [l5Sc, l5Sa] := hc
    rcases List.mem_cons.mp hc with rfl | hc
    · unfold l5Sc
      rw [lAdd_ev, lSy_ev, lAdd_ev, lSc_ev, lSy_ev, lK_ev]
      show (0 : Int) ≤ (k : Int) + (-1 * (q : Int) + -1)
      omega
    · rw [List.mem_singleton.mp hc]
      unfold l5Sa
      rw [lAdd_ev, lSc_ev, lSy_ev, lAdd_ev, lSy_ev, lK_ev]
      show (0 : Int) ≤ -1 * (k : Int) + ((n : Int) + -1)
      omega)
  obtain ⟨x, hx, ρ2, σA, σB, e1, e2, e3, n1, n2, n3, n4⟩ := hw
  have r1 : ρ2 1 = (q : Int) := e1 1 (by decide +kernel)
  have r2 : ρ2 2 = (k : Int) := e1 2 (by decide +kernel)
  have k1 := List.all_eq_true.mp a3_ok x hx
  have f1 := fE (n1 _ (inA_at k1 (f := (3, .inr (lSy 1), .inr (some 24))) (mK_at (by decide +kernel)))) (j := q) ((lSy_ev _ _).trans r1)
  have f2 := fE (n1 _ (inA_at k1 (f := (3, .inr (lSy 2), .inr (some 28))) (mK_at (by decide +kernel)))) (j := k) ((lSy_ev _ _).trans r2)
  have f3 := fN (n1 _ (inA_at k1 (f := (24, .inr (lK (-1)), .inr (some 28))) (mK_at (by decide +kernel))))
  rw [sAx e2 (j := 6) (by decide +kernel) rfl (by decide)] at f1 f2
  exact ⟨_, _, f1, f2, f3⟩
def aUB : List vK := [(0, .inl 63, .inr (some 42)), (42, .inr (lSy 0), .inr (some 43)), (42, .inr (lSy 1), .inr (some 44)), (43, .inr (lK (-1)), .inr (some 44))]
theorem aU_ok : (wAl lwF29).all (fun x => inA aUB x.2) = true := by decide +kernel
theorem aU_at (h : HX ρ σ ty H n) {q k : Nat} (hq : q < k) (hk : k < 12) : ∃ S P P' : Nat, rV H (sR σ 1) 63 = some (.inr (some S)) ∧ rV H S q = some (.inr (some P)) ∧ rV H S k = some (.inr (some P')) ∧ P ≠ P' := by
  have hw := h.2.1 lwF29 (List.mem_of_getElem? (i := 29) rfl) (evL [(q : Int), (k : Int)]) (fun i p hp => by cases hp) (fun j p hj => by
    rcases j with _ | _ | j
    · cases hj
      exact ⟨show (0 : Int) ≤ (q : Int) by omega, show (q : Int) ≤ 11 by omega⟩
    · cases hj
      exact ⟨show (0 : Int) ≤ (k : Int) by omega, show (k : Int) ≤ 11 by omega⟩
    · cases hj) (fun c hc => by
    have hc : c ∈ [lAdd (lSy 1) (lAdd (lSc (-1) (lSy 0)) (lK (-1)))] := hc
    rw [List.mem_singleton.mp hc]
    rw [lAdd_ev, lSy_ev, lAdd_ev, lSc_ev, lSy_ev, lK_ev]
    show (0 : Int) ≤ (k : Int) + (-1 * (q : Int) + -1)
    omega)
  obtain ⟨x, hx, ρ2, σA, σB, e1, e2, e3, n1, n2, n3, n4⟩ := hw
  have r1 : ρ2 0 = (q : Int) := e1 0 (by decide +kernel)
  have r2 : ρ2 1 = (k : Int) := e1 1 (by decide +kernel)
  have k1 := List.all_eq_true.mp aU_ok x hx
  have f0 := fO (n2 _ (inA_at k1 (f := (0, .inl 63, .inr (some 42))) (mK_at (by decide +kernel))))
  have f1 := fE (n2 _ (inA_at k1 (f := (42, .inr (lSy 0), .inr (some 43))) (mK_at (by decide +kernel)))) (j := q) ((lSy_ev _ _).trans r1)
  have f2 := fE (n2 _ (inA_at k1 (f := (42, .inr (lSy 1), .inr (some 44))) (mK_at (by decide +kernel)))) (j := k) ((lSy_ev _ _).trans r2)
  have f3 := fN (n2 _ (inA_at k1 (f := (43, .inr (lK (-1)), .inr (some 44))) (mK_at (by decide +kernel))))
  rw [sAx e3 (j := 1) (by decide +kernel) rfl (by decide)] at f0
  exact ⟨_, _, _, f0, f1, f2, f3⟩
-- what the two sides hold
def gP (H : List (XC Int32)) (p q : Nat) : Nat := rR H p q
def gC (H : List (XC Int32)) (p q : Nat) : Nat := rR H (gP H p q) 0
def gNl (H : List (XC Int32)) (p q : Nat) : Nat := rN H (gC H p q) 4
def gSv (H : List (XC Int32)) (p q : Nat) : Nat := rS H (gP H p q) 8
def gRw (H : List (XC Int32)) (p j q : Nat) : Nat := rR H (gC H p q) j
def gOp (H : List (XC Int32)) (p q l : Nat) : Nat := rN H (gRw H p 0 q) l
def gLf (H : List (XC Int32)) (p q l : Nat) : Nat := rN H (gRw H p 1 q) l
def gRt (H : List (XC Int32)) (p q l : Nat) : Nat := rN H (gRw H p 2 q) l
def gU (H : List (XC Int32)) (b q : Nat) : Nat := rR H (rR H b 63) q
theorem p_at (h : HX ρ σ ty H n) {q : Nat} (hq : q < n) : rV H (sR σ 6) q = some (.inr (some (gP H (sR σ 6) q))) ∧ rV H (gP H (sR σ 6) q) 8 = some (.inl (svI (gSv H (sR σ 6) q))) ∧ rV H (gP H (sR σ 6) q) 0 = some (.inr (some (gC H (sR σ 6) q))) ∧ rV H (gC H (sR σ 6) q) 4 = some (.inl (nI (gNl H (sR σ 6) q))) ∧ (1 ≤ gNl H (sR σ 6) q ∧ gNl H (sR σ 6) q ≤ 12) ∧ (gSv H (sR σ 6) q ≤ n ∧ gSv H (sR σ 6) q ≠ q + 1) ∧ rV H (sR σ 43) q = some (.inr (some (gP H (sR σ 43) q))) ∧ rV H (sR σ 44) q = some (.inl (nI (gNl H (sR σ 6) q))) ∧ rV H (sR σ 48) q = some (.inl (svI (gSv H (sR σ 6) q))) := by
  have hn := HX_12 h
  obtain ⟨P, C, D, sv, nl, f1, f2, f3, f4, f5, f6, f7, f8, f9⟩ := sc_at h hq
  have e1 : gP H (sR σ 6) q = P := rR_of f1
  have e2 : gSv H (sR σ 6) q = sv := by
    unfold gSv
    rw [e1]
    exact rS_of f2 (by omega)
  have e3 : gC H (sR σ 6) q = C := by
    unfold gC
    rw [e1]
    exact rR_of f3
  have e4 : gNl H (sR σ 6) q = nl := by
    unfold gNl
    rw [e3]
    exact rN_of f4 (by omega)
  have e5 : gP H (sR σ 43) q = D := rR_of f7
  rw [e1, e2, e3, e4, e5]
  exact ⟨f1, f2, f3, f4, f5, f6, f7, f8, f9⟩
theorem c_at (h : HX ρ σ ty H n) {q l : Nat} (hq : q < n) (hl : l < gNl H (sR σ 6) q) : rV H (gRw H (sR σ 6) 0 q) l = some (.inl (nI (gOp H (sR σ 6) q l))) ∧ rV H (gRw H (sR σ 6) 1 q) l = some (.inl (nI (gLf H (sR σ 6) q l))) ∧ rV H (gRw H (sR σ 6) 2 q) l = some (.inl (nI (gRt H (sR σ 6) q l))) ∧ (gOp H (sR σ 6) q l ≤ 11 ∧ gLf H (sR σ 6) q l < 6 ∧ gRt H (sR σ 6) q l < 6) ∧ rV H (gP H (sR σ 43) q) (4 * l) = some (.inl (nI (opR (gOp H (sR σ 6) q l)))) ∧ (gOp H (sR σ 6) q l ≠ 9 → gOp H (sR σ 6) q l ≠ 10 → rV H (gP H (sR σ 43) q) (4 * l + 1) = some (.inl (nI (gLf H (sR σ 6) q l)))) ∧ ((gOp H (sR σ 6) q l = 4 ∨ gOp H (sR σ 6) q l = 5 ∨ gOp H (sR σ 6) q l = 6 ∨ gOp H (sR σ 6) q l = 7 ∨ gOp H (sR σ 6) q l = 11) → rV H (gP H (sR σ 43) q) (4 * l + 2) = some (.inl (nI (gRt H (sR σ 6) q l)))) := by
  obtain ⟨p1, p2, p3, p4, p5, -⟩ := p_at h hq
  rcases cd_at h hq (l := l) (by omega) with ⟨P, C, nl, f1, f2, f3, f4, f5⟩ | ⟨P, C, r0, r1, r2, D, o, f, g, f1, f2, f3, f4, f5, f6, f7, f8, f9, f10, f11, f12, f13⟩
  · have e1 : gP H (sR σ 6) q = P := rR_of f1
    have e3 : gC H (sR σ 6) q = C := by
      unfold gC
      rw [e1]
      exact rR_of f2
    have e4 : gNl H (sR σ 6) q = nl := by
      unfold gNl
      rw [e3]
      exact rN_of f3 (by omega)
    omega
  · have e1 : gP H (sR σ 6) q = P := rR_of f1
    have e3 : gC H (sR σ 6) q = C := by
      unfold gC
      rw [e1]
      exact rR_of f2
    have a0 : gRw H (sR σ 6) 0 q = r0 := by
      unfold gRw
      rw [e3]
      exact rR_of f3
    have a1 : gRw H (sR σ 6) 1 q = r1 := by
      unfold gRw
      rw [e3]
      exact rR_of f4
    have a2 : gRw H (sR σ 6) 2 q = r2 := by
      unfold gRw
      rw [e3]
      exact rR_of f5
    have o0 : gOp H (sR σ 6) q l = o := by
      unfold gOp
      rw [a0]
      exact rN_of f6 (by omega)
    have o1 : gLf H (sR σ 6) q l = f := by
      unfold gLf
      rw [a1]
      exact rN_of f7 (by omega)
    have o2 : gRt H (sR σ 6) q l = g := by
      unfold gRt
      rw [a2]
      exact rN_of f8 (by omega)
    have e5 : gP H (sR σ 43) q = D := rR_of f10
    rw [a0, a1, a2, o0, o1, o2, e5]
    exact ⟨f6, f7, f8, f9, f11, f12, f13⟩
theorem cd_of (h : HX ρ σ ty H n) : cdOk n (gOp H (sR σ 6)) (gLf H (sR σ 6)) (gRt H (sR σ 6)) (gNl H (sR σ 6)) := fun q hq => ⟨(p_at h hq).2.2.2.2.1.2, fun l hl => (c_at h hq hl).2.2.2.1⟩
theorem sv_of (h : HX ρ σ ty H n) : svOk n (gSv H (sR σ 6)) := fun q hq => (p_at h hq).2.2.2.2.2.1
theorem rw_of (hp : vHp (fun c => x_KT.1[c]?) ty H) (hlen : H.length ≤ 1000000) {r k len m : Nat} {f : Nat → Nat} (t : ty r = some k) (hk : kr k = some (0, len)) (hf : ∀ l, l < m → rV H r l = some (.inl (nI (f l)))) : isRw H r len f m := by
  have h0 := vHp_lt hp t
  obtain ⟨l, h1, h2⟩ := cell_r hp t hk
  exact ⟨by omega, l, h1, h2, fun x hx => by rw [← rV_r h1]; exact hf x hx⟩
theorem ty_of (h : HX ρ σ ty H n) {i c : Nat} (hi : (sG (aSt lwN))[i]? = some c) : ty (sR σ i) = some c := h.1.2.1 i c hi
theorem tP_of (h : HX ρ σ ty H n) {q : Nat} (hq : q < n) : ty (gP H (sR σ 6) q) = some 44 ∧ ty (gC H (sR σ 6) q) = some 27 := by
  have hn := HX_12 h
  have hp := h.1.1
  obtain ⟨p1, p2, p3, p4, p5, -⟩ := p_at h hq
  have t6 := ty_of h (i := 6) (c := 23) rfl
  obtain ⟨vs, v1, v2⟩ := cell_r hp t6 (t := 2) (m := 12) (by decide +kernel)
  have tP : ty (gP H (sR σ 6) q) = some 44 := cell_e hp t6 (j := q) (z := true) (c2 := 44) ((by decide +kernel : ∀ j, j < 12 → kel 23 j = some (.inr (true, 44))) q (by omega)) v1 (by rw [← rV_r v1]; exact p1)
  obtain ⟨po, o1, o2⟩ := cell_o hp tP (t := 10) (m := 20) (by decide +kernel)
  exact ⟨tP, cell_f hp tP (j := 0) (z := false) (c2 := 27) (by decide +kernel) o1 (by rw [← rV_o o1]; exact p3)⟩
theorem kA_of (h : HX ρ σ ty H n) (hlen : H.length ≤ 1000000) (S : Nat → Nat) : kA H (sR σ 0) n (gP H (sR σ 6)) (gC H (sR σ 6)) (gOp H (sR σ 6)) (gLf H (sR σ 6)) (gRt H (sR σ 6)) (gNl H (sR σ 6)) (gSv H (sR σ 6)) S 0 := by
  have hn := HX_12 h
  have hp := h.1.1
  have t0 := ty_of h (i := 0) (c := 47) rfl
  have t6 := ty_of h (i := 6) (c := 23) rfl
  refine ⟨⟨?_, hn, ?_⟩, fun q hq => ?_, fun q hq => ?_, fun q k hq hk e => ?_⟩
  · have := vHp_lt hp t0
    omega
  · obtain ⟨gs, g1, g2⟩ := cell_o hp t0 (t := 0) (m := 19) (by decide +kernel)
    obtain ⟨vs, v1, v2⟩ := cell_r hp t6 (t := 2) (m := 12) (by decide +kernel)
    have f3 := fI (h.1.2.2.1 (0, .inl 3, .inl (lSy 3)) (mK_at (by decide +kernel)))
    have f2 := fO (h.1.2.2.1 (0, .inl 2, .inr (some 6)) (mK_at (by decide +kernel)))
    rw [lSy_ev, oI h.2.2 (by omega), rV_o g1] at f3
    rw [rV_o g1] at f2
    exact ⟨gs, sR σ 6, vs, g1, f3, f2, v1, v2, fun q hq => by rw [← rV_r v1]; exact (p_at h hq).1⟩
  · obtain ⟨tP, tC⟩ := tP_of h hq
    obtain ⟨p1, p2, p3, p4, p5, -⟩ := p_at h hq
    obtain ⟨po, o1, o2⟩ := cell_o hp tP (t := 10) (m := 20) (by decide +kernel)
    have := vHp_lt hp tP
    exact ⟨by omega, po, o1, o2, by rw [← rV_o o1]; exact p3, by rw [← rV_o o1]; exact p2, fun z => absurd z (Nat.not_lt_zero _)⟩
  · obtain ⟨tP, tC⟩ := tP_of h hq
    obtain ⟨p1, p2, p3, p4, p5, -⟩ := p_at h hq
    obtain ⟨co, o1, o2⟩ := cell_o hp tC (t := 2) (m := 5) (by decide +kernel)
    obtain ⟨r0, w0, t0⟩ := cell_fx hp tC (j := 0) (c2 := 1) (by decide +kernel) o1
    obtain ⟨r1, w1, t1⟩ := cell_fx hp tC (j := 1) (c2 := 2) (by decide +kernel) o1
    obtain ⟨r2, w2, t2⟩ := cell_fx hp tC (j := 2) (c2 := 3) (by decide +kernel) o1
    have a0 : gRw H (sR σ 6) 0 q = r0 := rR_of (by rw [rV_o o1]; exact w0)
    have a1 : gRw H (sR σ 6) 1 q = r1 := rR_of (by rw [rV_o o1]; exact w1)
    have a2 : gRw H (sR σ 6) 2 q = r2 := rR_of (by rw [rV_o o1]; exact w2)
    have := vHp_lt hp tC
    exact ⟨by omega, co, r0, r1, r2, o1, w0, w1, w2, by rw [← rV_o o1]; exact p4, rw_of hp hlen t0 (by decide +kernel) (fun l hl => by rw [← a0]; exact (c_at h hq hl).1), rw_of hp hlen t1 (by decide +kernel) (fun l hl => by rw [← a1]; exact (c_at h hq hl).2.1), rw_of hp hlen t2 (by decide +kernel) (fun l hl => by rw [← a2]; exact (c_at h hq hl).2.2.1)⟩
  · have key : ∀ q k, q < k → k < n → gP H (sR σ 6) q ≠ gP H (sR σ 6) k := fun q k hq hk => by
      obtain ⟨P, P', f1, f2, f3⟩ := a3_at h hq hk
      rw [show gP H (sR σ 6) q = P from rR_of f1, show gP H (sR σ 6) k = P' from rR_of f2]
      exact f3
    rcases Nat.lt_trichotomy q k with c | c | c
    · exact absurd e (key q k c hk)
    · exact c
    · exact absurd e.symm (key k q c hq)
theorem kB_of (h : HX ρ σ ty H n) (hlen : H.length ≤ 1000000) (S : Nat → Nat) : kB H (sR σ 1) n (gP H (sR σ 43)) (gU H (sR σ 1)) (gOp H (sR σ 6)) (gLf H (sR σ 6)) (gRt H (sR σ 6)) (gNl H (sR σ 6)) (gSv H (sR σ 6)) S (fun _ _ => False) := by
  have hn := HX_12 h
  have hp := h.1.1
  have t1 := ty_of h (i := 1) (c := 117) rfl
  have t43 := ty_of h (i := 43) (c := 50) rfl
  have t44 := ty_of h (i := 44) (c := 48) rfl
  have t48 := ty_of h (i := 48) (c := 56) rfl
  obtain ⟨gs, g1, g2⟩ := cell_o hp t1 (t := 12) (m := 69) (by decide +kernel)
  obtain ⟨su, u1, tu⟩ := cell_fx hp t1 (j := 63) (c2 := 107) (by decide +kernel) g1
  obtain ⟨vu, u2, u3⟩ := cell_r hp tu (t := 6) (m := 12) (by decide +kernel)
  have esu : rR H (sR σ 1) 63 = su := rR_of (by rw [rV_o g1]; exact u1)
  have eU : ∀ q, q < 12 → vu[q]? = some (.inr (some (gU H (sR σ 1) q))) ∧ ty (gU H (sR σ 1) q) = some 106 := fun q hq => by
    obtain ⟨x, x1, x2⟩ := cell_ex hp tu (j := q) (c2 := 106) ((by decide +kernel : ∀ j, j < 12 → kel 107 j = some (.inr (false, 106))) q hq) u2 (by omega)
    have : gU H (sR σ 1) q = x := by
      unfold gU
      rw [esu]
      exact rR_of (by rw [rV_r u2]; exact x1)
    rw [this]
    exact ⟨x1, x2⟩
  refine ⟨⟨?_, hn, ?_⟩, fun q hq => ?_, fun q hq => ?_, fun q k hq hk e => ?_⟩
  · have := vHp_lt hp t1
    omega
  · obtain ⟨vc, c1, c2⟩ := cell_r hp t43 (t := 5) (m := 13) (by decide +kernel)
    obtain ⟨vi, i1, i2⟩ := cell_r hp t48 (t := 0) (m := 12) (by decide +kernel)
    have f0 := fI (h.1.2.2.1 (1, .inl 0, .inl (lSy 3)) (mK_at (by decide +kernel)))
    have f1 := fO (h.1.2.2.1 (1, .inl 1, .inr (some 44)) (mK_at (by decide +kernel)))
    have f2 := fO (h.1.2.2.1 (1, .inl 2, .inr (some 43)) (mK_at (by decide +kernel)))
    have f6 := fO (h.1.2.2.1 (1, .inl 6, .inr (some 48)) (mK_at (by decide +kernel)))
    rw [lSy_ev, oI h.2.2 (by omega), rV_o g1] at f0
    rw [rV_o g1] at f1 f2 f6
    have := vHp_lt hp t48
    exact ⟨gs, sR σ 44, sR σ 43, sR σ 48, su, vc, vi, vu, g1, f0, f1, f2, f6, u1, rw_of hp hlen t44 (by decide +kernel) (fun q hq => (p_at h hq).2.2.2.2.2.2.2.1), ⟨c1, c2, fun q hq => by rw [← rV_r c1]; exact (p_at h hq).2.2.2.2.2.2.1⟩, ⟨by omega, i1, i2, fun q hq => by rw [← rV_r i1]; exact (p_at h hq).2.2.2.2.2.2.2.2⟩, u2, u3, fun q hq => (eU q (by omega)).1⟩
  · have e7 := (p_at h hq).2.2.2.2.2.2.1
    obtain ⟨vc, c1, c2⟩ := cell_r hp t43 (t := 5) (m := 13) (by decide +kernel)
    have tD : ty (gP H (sR σ 43) q) = some 49 := cell_e hp t43 (j := q) (z := false) (c2 := 49) ((by decide +kernel : ∀ j, j < 12 → kel 50 j = some (.inr (false, 49))) q (by omega)) c1 (by rw [← rV_r c1]; exact e7)
    obtain ⟨w, w1, w2⟩ := cell_r hp tD (t := 0) (m := 48) (by decide +kernel)
    have := vHp_lt hp tD
    refine ⟨by omega, w, w1, w2, fun j hj => ?_, fun l hl => ?_⟩
    · obtain ⟨p, hpj⟩ : ∃ p : Int × Int, kel 49 j = some (.inl p) := by
        have hk := (by decide +kernel : ∀ j, j < 48 → (match kel 49 j with
          | some (.inl _) => true
          | _ => false) = true) j hj
        split at hk
        · rename_i p hpj
          exact ⟨p, hpj⟩
        · cases hk
      exact cell_ei hp tD hpj w1 (by omega)
    · obtain ⟨-, -, -, -, k0, k1, k2⟩ := c_at h hq hl
      rw [rV_r w1] at k0
      exact ⟨k0, fun z1 z2 => by rw [← rV_r w1]; exact k1 z1 z2, fun z => by rw [← rV_r w1]; exact k2 z⟩
  · obtain ⟨-, tU⟩ := eU q (by omega)
    obtain ⟨w, w1, w2⟩ := cell_r hp tU (t := 1) (m := 6) (by decide +kernel)
    have := vHp_lt hp tU
    exact ⟨by omega, w, w1, w2, fun f hf z => z.elim⟩
  · have key : ∀ q k, q < k → k < n → gU H (sR σ 1) q ≠ gU H (sR σ 1) k := fun q k hq hk => by
      obtain ⟨S', P, P', f0, f1, f2, f3⟩ := aU_at h hq (show k < 12 by omega)
      have : rR H (sR σ 1) 63 = S' := rR_of f0
      unfold gU
      rw [this, rR_of f1, rR_of f2]
      exact f3
    rcases Nat.lt_trichotomy q k with c | c | c
    · exact absurd e (key q k c hk)
    · exact c
    · exact absurd e.symm (key k q c hq)
theorem st_of (h : HX ρ σ ty H n) (hlen : H.length ≤ 1000000) : ∀ q f, q < n → f < 6 → ∃ d v, kS H (gP H (sR σ 6) q) f d v ∧ kT H (sR σ 1) q f d v := fun q f hq hf => by
  have hn := HX_12 h
  have hp := h.1.1
  obtain ⟨P, se, dr, pr, rd, rp, d, v, f1, f2, f3, f4, f5, f6, f7, f8, f9, f10⟩ := se_at h hq hf
  have eP : gP H (sR σ 6) q = P := rR_of f1
  have tP := (tP_of h hq).1
  rw [eP] at tP
  have t1 := ty_of h (i := 1) (c := 117) rfl
  have t45 := ty_of h (i := 45) (c := 52) rfl
  have t46 := ty_of h (i := 46) (c := 54) rfl
  obtain ⟨po, o1, o2⟩ := cell_o hp tP (t := 10) (m := 20) (by decide +kernel)
  have ts : ty se = some 29 := cell_f hp tP (j := 1) (z := false) (c2 := 29) (by decide +kernel) o1 (by rw [← rV_o o1]; exact f2)
  obtain ⟨sg, s1, s2⟩ := cell_o hp ts (t := 3) (m := 4) (by decide +kernel)
  have td : ty dr = some 5 := cell_f hp ts (j := 1) (z := false) (c2 := 5) (by decide +kernel) s1 (by rw [← rV_o s1]; exact f3)
  have tv : ty pr = some 6 := cell_f hp ts (j := 2) (z := false) (c2 := 6) (by decide +kernel) s1 (by rw [← rV_o s1]; exact f4)
  obtain ⟨ld, d1, d2⟩ := cell_r hp td (t := 0) (m := 6) (by decide +kernel)
  obtain ⟨lp, p1, p2⟩ := cell_r hp tv (t := 0) (m := 6) (by decide +kernel)
  obtain ⟨gs, g1, g2⟩ := cell_o hp t1 (t := 12) (m := 69) (by decide +kernel)
  obtain ⟨vd, x1, x2⟩ := cell_r hp t45 (t := 5) (m := 12) (by decide +kernel)
  obtain ⟨vp, y1, y2⟩ := cell_r hp t46 (t := 5) (m := 12) (by decide +kernel)
  have trd : ty rd = some 51 := cell_e hp t45 (j := q) (z := false) (c2 := 51) ((by decide +kernel : ∀ j, j < 12 → kel 52 j = some (.inr (false, 51))) q (by omega)) x1 (by rw [← rV_r x1]; exact f7)
  have trp : ty rp = some 53 := cell_e hp t46 (j := q) (z := false) (c2 := 53) ((by decide +kernel : ∀ j, j < 12 → kel 54 j = some (.inr (false, 53))) q (by omega)) y1 (by rw [← rV_r y1]; exact f8)
  obtain ⟨wd, wd1, wd2⟩ := cell_r hp trd (t := 0) (m := 6) (by decide +kernel)
  obtain ⟨wp, wp1, wp2⟩ := cell_r hp trp (t := 0) (m := 6) (by decide +kernel)
  have b3 := fO (h.1.2.2.1 (1, .inl 3, .inr (some 45)) (mK_at (by decide +kernel)))
  have b4 := fO (h.1.2.2.1 (1, .inl 4, .inr (some 46)) (mK_at (by decide +kernel)))
  rw [rV_o g1] at b3 b4
  have l1 := vHp_lt hp tP
  have l2 := vHp_lt hp ts
  have l3 := vHp_lt hp td
  have l4 := vHp_lt hp tv
  have l5 := vHp_lt hp trd
  have l6 := vHp_lt hp trp
  have l7 := vHp_lt hp t1
  rw [eP]
  rw [rV_o o1] at f2
  rw [rV_o s1] at f3 f4
  rw [rV_r d1] at f5
  rw [rV_r p1] at f6
  rw [rV_r x1] at f7
  rw [rV_r y1] at f8
  rw [rV_r wd1] at f9
  rw [rV_r wp1] at f10
  exact ⟨d, v, ⟨by omega, po, se, sg, dr, pr, ld, lp, o1, f2, by omega, s1, f3, f4, by omega, d1, d2, f5, by omega, p1, p2, f6⟩, ⟨by omega, gs, sR σ 45, sR σ 46, vd, vp, rd, rp, wd, wp, g1, b3, b4, x1, x2, f7, y1, y2, f8, by omega, wd1, wd2, f9, by omega, wp1, wp2, f10⟩⟩
end XP5e
