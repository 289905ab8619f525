/-! Families: what holds of each row of objects, of each element, at the head; a call of both that keeps them. -/
noncomputable section XUni
/-- bounds of the ints that are told; what is supposed (ints: the head's, then those told); the note (ints: the head's, those told, others; cells: the head's, others) -/
abbrev uN : Type := List (Int × Int) × List lT × vAn
abbrev uBd (u : uN) : List (Int × Int) := u.1
abbrev uPr (u : uN) : List lT := u.2.1
abbrev uNt (u : uN) : vAn := u.2.2
/-- what a note says of a heap, its kinds aside -/
def nHd (A : vAn) (ρ : Nat → Int) (σ : Nat → Nat) (H : List (XC Int32)) : Prop := (∀ f ∈ aF A, vHolds ρ σ H f) ∧ iHd ρ (zipI 0 (aI A)) ∧ ∀ c ∈ aC A, 0 ≤ lEv ρ c
def uHd (n0 m0 : Nat) (u : uN) (ρ : Nat → Int) (σ : Nat → Nat) (H : List (XC Int32)) : Prop :=
  ∀ ρ1 : Nat → Int, (∀ i, i < n0 → ρ1 i = ρ i) → (∀ j p, (uBd u)[j]? = some p → p.1 ≤ ρ1 (n0 + j) ∧ ρ1 (n0 + j) ≤ p.2) → (∀ c ∈ uPr u, 0 ≤ lEv ρ1 c) →
    ∃ ρ2 σ2, (∀ i, i < n0 + (uBd u).length → ρ2 i = ρ1 i) ∧ (∀ i, i < m0 → σ2 i = sR σ i) ∧ nHd (uNt u) ρ2 σ2 H
theorem uHd_ext {n0 m0 : Nat} {u : uN} {ρ ρ' : Nat → Int} {σ σ' : Nat → Nat} {H : List (XC Int32)} (h : uHd n0 m0 u ρ σ H) (e : ∀ i, i < n0 → ρ' i = ρ i) (g : ∀ i, i < m0 → sR σ' i = sR σ i) : uHd n0 m0 u ρ' σ' H := fun ρ1 h1 h2 h3 => by
  obtain ⟨ρ2, σ2, a1, a2, a3⟩ := h ρ1 (fun i hi => (h1 i hi).trans (e i hi)) h2 h3
  exact ⟨ρ2, σ2, a1, fun i hi => (a2 i hi).trans (g i hi).symm, a3⟩
/-- the families at the head: counts, and what holds of all that is counted -/
def lwPu (N0 : vAn) (US : List uN) (σ : Nat → Nat) (_ : Nat → Option Nat) (H : List (XC Int32)) : Prop := ∃ ρ, nHd N0 ρ σ H ∧ ∀ u ∈ US, uHd (aI N0).length (aG N0).length u ρ σ H
/-- the kind that a place says -/
def uKd (KT : vKT) (c : Nat) (key : Nat ⊕ lT) : Option Nat := match KT.1[c]?, key with
  | some (.inl o), .inl j => (match o.2[j]? with
    | some (.inr p) => some p.2
    | _ => none)
  | some (.inr o), .inr e => if kyAp (.inr e) = true then none else (match vRes o.2.2 e with
    | some (.inr p) => some p.2
    | _ => none)
  | _, _ => none
theorem uKd_spec {KT : vKT} {ρ : Nat → Int} {σ : Nat → Nat} {ty : Nat → Option Nat} {H : List (XC Int32)} (hp : vHp (fun c => KT.1[c]?) ty H) {i k c d : Nat} {key : Nat ⊕ lT} (ha : ty (sR σ i) = some c) (hk : uKd KT c key = some d) (hf : vHolds ρ σ H (i, key, .inr (some k))) : ty (sR σ k) = some d := by
  unfold uKd at hk
  split at hk
  · rename_i o j h1
    split at hk
    · rename_i p h2
      cases hk
      rcases hf with hf | ⟨k', n1, -, -⟩
      rotate_left
      · cases n1
      obtain ⟨ci, fs, y1, y2⟩ := hf
      obtain ⟨gs, g1, -, g3⟩ := vHp_obj hp ha (show (fun c => KT.1[c]?) c = some (.inl (o.1, o.2)) from h1)
      rw [g1] at y1
      cases y1
      obtain ⟨u, g4, g5⟩ := g3 j (.inr p) h2
      rw [y2] at g4
      cases g4
      exact g5
    · cases hk
  · rename_i o e h1
    split at hk
    · cases hk
    rename_i hn
    split at hk
    · rename_i p h2
      cases hk
      rcases hf with hf | ⟨k', n1, -, -⟩
      rotate_left
      · have n1 : (Sum.inr e : Nat ⊕ lT) = .inr (lK (-1)) := n1
        rw [n1] at hn
        exact absurd rfl hn
      obtain ⟨t, vs, y1, y0, y2⟩ := hf
      have y0 : 0 ≤ lEv ρ e := y0
      obtain ⟨gs, g1, g2, g3⟩ := vHp_arr hp ha (show (fun c => KT.1[c]?) c = some (.inr (o.1, o.2.1, o.2.2)) from h1)
      rw [g1] at y1
      cases y1
      have hlt : (lEv ρ e).toNat < o.2.1 := by
        rw [← g2]
        exact (List.getElem?_eq_some_iff.mp y2).1
      obtain ⟨u, g4, g5⟩ := g3 _ (.inr p) hlt (vRes_spec y0 h2)
      have y2 : vs[(lEv ρ e).toNat]? = some (Sum.inr (some (sR σ k))) := y2
      rw [y2] at g4
      cases g4
      exact g5
    · cases hk
  · cases hk
/-- each cell of a note but the first is told by a place of one before it -/
def uTy (KT : vKT) (m0 : Nat) (A : vAn) : Bool := (List.range ((aG A).length - m0)).all (fun j => (aF A).any (fun f => decide (f.2.2 = .inr (some (m0 + j))) && decide (f.1 < m0 + j) && (match (aG A)[f.1]? with
  | some c => (match uKd KT c f.2.1 with
    | some d => decide ((aG A)[m0 + j]? = some d)
    | none => false)
  | none => false)))
theorem uTy_spec {KT : vKT} {m0 : Nat} {A : vAn} (hk : uTy KT m0 A = true) {ρ : Nat → Int} {σ : Nat → Nat} {ty : Nat → Option Nat} {H : List (XC Int32)} (hp : vHp (fun c => KT.1[c]?) ty H) (hF : ∀ f ∈ aF A, vHolds ρ σ H f) (h0 : ∀ i c, i < m0 → (aG A)[i]? = some c → ty (sR σ i) = some c) : ∀ n i c, i < n → (aG A)[i]? = some c → ty (sR σ i) = some c := by
  intro n
  induction n with
  | zero => exact fun i c hi => absurd hi (Nat.not_lt_zero i)
  | succ n ih =>
    intro i c hi hc
    by_cases hm : i < m0
    · exact h0 i c hm hc
    have hl := (List.getElem?_eq_some_iff.mp hc).1
    have k := List.all_eq_true.mp hk (i - m0) (List.mem_range.mpr (by omega))
    obtain ⟨f, hf, k⟩ := List.any_eq_true.mp k
    simp only [Bool.and_eq_true] at k
    obtain ⟨⟨k1, k2⟩, k3⟩ := k
    have k1 := of_decide_eq_true k1
    have k2 := of_decide_eq_true k2
    split at k3
    rotate_left
    · cases k3
    rename_i c1 hc1
    split at k3
    rotate_left
    · cases k3
    rename_i d hd
    have k3 := of_decide_eq_true k3
    rw [show m0 + (i - m0) = i by omega] at k1 k2 k3
    rw [hc] at k3
    cases k3
    obtain ⟨x, key, v⟩ := f
    have k1 : v = .inr (some i) := k1
    subst k1
    exact uKd_spec hp (ih x c1 (by omega) hc1) hd (hF _ hf)
/-- what is asked of a family once for all -/
def uOk (KT : vKT) (n0 : Nat) (G0 : List Nat) (u : uN) : Bool := uTy KT G0.length (uNt u) && decide ((aG (uNt u)).take G0.length = G0) && decide (aM (uNt u) = []) && decide (G0.length < 1000000) && decide (n0 + (uBd u).length ≤ (aI (uNt u)).length)
/-- a family at sums that are told; bs: which ints the counts are -/
def uBs (bs : List Nat) : List lT := bs.map lSy
def uPm (bs : List Nat) (u : uN) (θ : List lT) (s : vSt) : Bool := decide (θ.length = (uBd u).length) && (List.range θ.length).all (fun j => match θ[j]?, (uBd u)[j]? with
  | some l, some p => lGe (sI s) (sC s) (lSub l (lK p.1)) && lGe (sI s) (sC s) (lSub (lK p.2) l)
  | _, _ => false) && (uPr u).all (fun c => lGe (sI s) (sC s) (lSb (uBs bs ++ θ) c))
def uIn (bs : List Nat) (m0 : Nat) (u : uN) (θ : List lT) (s : vSt) (kk : vSt → Bool) : Bool := (sRw s).isEmpty && vExt1 [] (uNt u) (bs.length + (uBd u).length) m0 (uBs bs ++ θ) (List.range m0) s (fun s2 _ => kk s2)
theorem uBs_at {ρ : Nat → Int} {bs : List Nat} {i : Nat} {θ : List lT} (hi : i < bs.length) : rO ρ (uBs bs ++ θ) i = ρ (bs.getD i 0) := by
  unfold rO uBs
  rw [List.getD_eq_getElem?_getD, List.getD_eq_getElem?_getD, List.getElem?_append_left (by rw [List.length_map]; exact hi), List.getElem?_map, List.getElem?_eq_getElem hi]
  exact lSy_ev ρ _
theorem uBs_to {ρ : Nat → Int} {bs : List Nat} {j : Nat} {θ : List lT} {l : lT} (hl : θ[j]? = some l) : rO ρ (uBs bs ++ θ) (bs.length + j) = lEv ρ l := by
  unfold rO uBs
  rw [List.getD_eq_getElem?_getD, List.getElem?_append_right (by rw [List.length_map]; omega), List.length_map, Nat.add_sub_cancel_left, hl]
  rfl
theorem uIn_spec {KT : vKT} {ρ : Nat → Int} {σ : Nat → Nat} {ty : Nat → Option Nat} {H : List (XC Int32)} {s : vSt} {bs : List Nat} {G0 : List Nat} {u : uN} (h : vRel KT ρ σ ty H s) (hG : ∀ (i c : Nat), G0[i]? = some c → (sG s)[i]? = some c) (hu : uHd bs.length G0.length u (fun i => ρ (bs.getD i 0)) σ H) (hok : uOk KT bs.length G0 u = true) {θ : List lT} (hp : uPm bs u θ s = true) {kk : vSt → Bool} (hk : uIn bs G0.length u θ s kk = true) :
    ∃ ρ2 σ2 s2, vExt s s2 ρ ρ2 σ σ2 ∧ vRel KT ρ2 σ2 ty H s2 ∧ kk s2 = true := by
  unfold uOk at hok
  simp only [Bool.and_eq_true] at hok
  obtain ⟨⟨⟨⟨o1, o2⟩, o3⟩, o4⟩, o5⟩ := hok
  have o2 := of_decide_eq_true o2
  have o3 := of_decide_eq_true o3
  have o4 := of_decide_eq_true o4
  unfold uPm at hp
  simp only [Bool.and_eq_true] at hp
  obtain ⟨⟨p1, p2⟩, p3⟩ := hp
  have p1 := of_decide_eq_true p1
  unfold uIn at hk
  obtain ⟨k1, k2⟩ := Bool.and_eq_true_iff.mp hk
  obtain ⟨ρ2, σ2, a1, a2, a3, a4, a5⟩ := hu (rO ρ (uBs bs ++ θ)) (fun i hi => uBs_at hi) (fun j p hj => by
    have hl := (List.getElem?_eq_some_iff.mp hj).1
    have ht : θ[j]? = some (θ[j]'(by omega)) := List.getElem?_eq_getElem (by omega)
    have q := List.all_eq_true.mp p2 j (List.mem_range.mpr (by omega))
    rw [ht, hj] at q
    obtain ⟨q1, q2⟩ := Bool.and_eq_true_iff.mp q
    have q1 := lGe_spec h.2.2.2.1 h.2.2.2.2.1 q1
    have q2 := lGe_spec h.2.2.2.1 h.2.2.2.2.1 q2
    rw [lSub_ev, lK_ev] at q1 q2
    rw [uBs_to ht]
    omega) (fun c hc => by
    rw [← lSb_ev]
    exact lGe_spec h.2.2.2.1 h.2.2.2.2.1 (List.all_eq_true.mp p3 c hc))
  have hs0 : ∀ i, i < G0.length → sR σ2 i = sR σ i := fun i hi => by
    have := a2 i hi
    unfold sR
    rw [if_pos (by omega), this]
    unfold sR
    rw [if_pos (by omega)]
  have hr : vRel KT ρ2 σ2 ty H (aSt (uNt u)) := by
    refine ⟨h.1, fun i c hc => uTy_spec o1 h.1 a3 (fun i c hi hc => ?_) (i + 1) i c (Nat.lt_succ_self i) hc, a3, a4, a5, fun m hm => ?_, h.2.2.2.2.2.2.1, fun a c d ha hd => ?_⟩
    · rw [hs0 i hi]
      refine h.2.1 i c (hG i c ?_)
      rw [← o2, List.getElem?_take, if_pos hi]
      exact hc
    · have hm : m ∈ aM (uNt u) := hm
      rw [o3] at hm
      cases hm
    · obtain ⟨i, hi, -⟩ := h.2.2.2.2.2.2.2 a c d ha hd
      rw [List.isEmpty_iff.mp k1] at hi
      cases hi
  obtain ⟨ρ3, σ3, s3, S3, b1, b2, -, b4⟩ := vExt1_spec k2 h (fun i hi => a1 i hi) (fun i hi => by
    rw [a2 i hi]
    unfold sO
    rw [List.getD_eq_getElem?_getD, List.getElem?_range hi]
    rfl) hr (vLe_rf ty) (vFrm_rf [] ty H)
  exact ⟨ρ3, σ3, s3, b1, b2, b4⟩
theorem vPlace_eq2 {ρ : Nat → Int} {σ : Nat → Nat} {H : List (XC Int32)} {i j : Nat} {key : Nat ⊕ lT} {u : XV Int32} (e : sR σ j = sR σ i) (h : vPlace ρ σ H i key u) : vPlace ρ σ H j key u := by
  rcases key with k | l
  · obtain ⟨ci, fs, y1, y2⟩ := h
    exact ⟨ci, fs, by rw [e]; exact y1, y2⟩
  · obtain ⟨t, vs, y1, y0, y2⟩ := h
    exact ⟨t, vs, by rw [e]; exact y1, y0, y2⟩
/-- cells that stand at the same place are one -/
def vRen (j k : Nat) : vA → vA
  | .inr (some x) => if x = j then .inr (some k) else .inr (some x)
  | v => v
def sRen (j k : Nat) (s : vSt) : vSt := (sN s, sG s, (sF s).map (fun f => (if f.1 = j then k else f.1, f.2.1, vRen j k f.2.2)), sI s, sC s, sM s, sRw s)
theorem sRen_spec {KT : vKT} {ρ : Nat → Int} {σ : Nat → Nat} {ty : Nat → Option Nat} {H : List (XC Int32)} {s : vSt} (h : vRel KT ρ σ ty H s) {j k : Nat} (e : sR σ j = sR σ k) : vRel KT ρ σ ty H (sRen j k s) := by
  refine ⟨h.1, h.2.1, fun f hf => ?_, h.2.2.2⟩
  obtain ⟨g, hg, rfl⟩ := List.mem_map.mp hf
  have hh := h.2.2.1 g hg
  obtain ⟨x, key, v⟩ := g
  have ex : sR σ (if x = j then k else x) = sR σ x := by
    split
    · rename_i c
      rw [c, e]
    · rfl
  have ev : cv ρ σ (vRen j k v) = cv ρ σ v := by
    rcases v with v | (_ | y)
    · rfl
    · rfl
    · show cv ρ σ (if y = j then .inr (some k) else .inr (some y)) = _
      split
      · rename_i c
        show Sum.inr (some (sR σ k)) = Sum.inr (some (sR σ y))
        rw [c, e]
      · rfl
  rcases hh with hh | ⟨y, n1, n2, n3⟩
  · refine Or.inl ?_
    show vPlace ρ σ H (if x = j then k else x) key (cv ρ σ (vRen j k v))
    rw [ev]
    exact vPlace_eq2 ex hh
  · have n2 : v = .inr (some y) := n2
    subst n2
    refine Or.inr ⟨if y = j then k else y, n1, ?_, ?_⟩
    · show (if y = j then (Sum.inr (some k) : vA) else .inr (some y)) = _
      split <;> rfl
    · show sR σ (if x = j then k else x) ≠ sR σ (if y = j then k else y)
      have ey : sR σ (if y = j then k else y) = sR σ y := by
        split
        · rename_i c
          rw [c, e]
        · rfl
      rw [ex, ey]
      exact n3
def uDup (F : List vK) (j : Nat) : Option Nat := F.findSome? (fun f => if (decide (f.2.2 = .inr (some j)) && !(kyAp f.2.1)) = true then F.findSome? (fun g => match g.2.2 with
  | .inr (some k) => if (decide (g.1 = f.1) && kyEq g.2.1 f.2.1 && Nat.ble (k + 1) j) = true then some k else none
  | _ => none) else none)
theorem uDup_spec {ρ : Nat → Int} {σ : Nat → Nat} {H : List (XC Int32)} {F : List vK} (hF : ∀ f ∈ F, vHolds ρ σ H f) {j k : Nat} (hk : uDup F j = some k) : sR σ j = sR σ k := by
  unfold uDup at hk
  obtain ⟨f, hf, hk⟩ := List.exists_of_findSome?_eq_some hk
  split at hk
  rotate_left
  · cases hk
  rename_i hc
  obtain ⟨c1, c2⟩ := Bool.and_eq_true_iff.mp hc
  have c1 := of_decide_eq_true c1
  obtain ⟨g, hg, hk⟩ := List.exists_of_findSome?_eq_some hk
  split at hk
  rotate_left
  · cases hk
  rename_i y hy
  split at hk
  rotate_left
  · cases hk
  rename_i hd
  cases hk
  simp only [Bool.and_eq_true] at hd
  obtain ⟨⟨d1, d2⟩, -⟩ := hd
  have d1 := of_decide_eq_true d1
  have d2 := kyEq_spec d2
  obtain ⟨x, key, v⟩ := f
  obtain ⟨x2, key2, v2⟩ := g
  have c1 : v = .inr (some j) := c1
  have hy : v2 = .inr (some k) := hy
  have d1 : x2 = x := d1
  have d2 : key2 = key := d2
  subst c1
  subst hy
  subst d1
  subst d2
  have na : ∀ z : Nat, vHolds ρ σ H (x2, key2, .inr (some z)) → vPlace ρ σ H x2 key2 (.inr (some (sR σ z))) := fun z hz => by
    rcases hz with hz | ⟨w, n1, -, -⟩
    · exact hz
    · have n1 : key2 = .inr (lK (-1)) := n1
      have c2 : (!(kyAp key2)) = true := c2
      rw [n1] at c2
      cases c2
  have e := vPlace_one (na _ (hF _ hf)) (na _ (hF _ hg))
  have e2 := Option.some.inj (Sum.inr.inj e)
  first
  | exact e2
  | exact e2.symm
def uUn : List Nat → vSt → vSt
  | [], s => s
  | j :: r, s => match uDup (sF s) j with
    | some k => uUn r (sRen j k s)
    | none => uUn r s
theorem uUn_spec {KT : vKT} {ρ : Nat → Int} {σ : Nat → Nat} {ty : Nat → Option Nat} {H : List (XC Int32)} : ∀ (l : List Nat) {s : vSt}, vRel KT ρ σ ty H s → vRel KT ρ σ ty H (uUn l s) ∧ sN (uUn l s) = sN s ∧ sG (uUn l s) = sG s
  | [], s, h => ⟨h, rfl, rfl⟩
  | j :: r, s, h => by
    unfold uUn
    split
    · rename_i k hk
      obtain ⟨g1, g2, g3⟩ := uUn_spec r (sRen_spec h (uDup_spec h.2.2.1 hk))
      exact ⟨g1, g2, g3⟩
    · exact uUn_spec r h
/-- what is done at the head before a call: a sum is asked (not below 0); an int that is told is another sum, if they are equal; a family is taken at sums, if what it supposes holds (none given: at the ints that are told, unless one was renamed) -/
abbrev uOp : Type := lT ⊕ ((Nat × lT) ⊕ (Nat × List lT))
def uTh (sk θ : List lT) : List lT := if θ.isEmpty = true then sk else θ
def uGo (bs : List Nat) (G0 : List Nat) (US : List uN) (kk : List lT → vSt → Bool) : List uOp → List lT → Bool → vSt → Bool
  | [], sk, _, s => kk sk s
  | .inl e :: r, sk, b, s => vAsk e s (fun s2 => uGo bs G0 US kk r sk b s2) (fun s2 => uGo bs G0 US kk r sk b s2)
  | .inr (.inl p) :: r, sk, b, s => match sk[p.1]? with
    | some l => if lQ (sI s) (sC s) l p.2 = true then uGo bs G0 US kk r (sk.set p.1 p.2) true s else uGo bs G0 US kk r sk b s
    | none => false
  | .inr (.inr q) :: r, sk, b, s => match US[q.1]? with
    | some u => if (q.2.isEmpty && b) = true then uGo bs G0 US kk r sk b s else if uPm bs u (uTh sk q.2) s = true then sk.all (lBd (sN s)) && bs.all (fun i => decide (i < sN s)) && uIn bs G0.length u (uTh sk q.2) s (fun s2 => decide ((sG s2).take G0.length = G0) && uGo bs G0 US kk r sk b (uUn ((List.range ((sG s2).length - (sG s).length)).map (fun i => (sG s).length + i)) s2)) else uGo bs G0 US kk r sk b s
    | none => false
/-- the same, one branch of the first sums that are asked: so that the kernel may check them one by one -/
def uGoS (bs : List Nat) (G0 : List Nat) (US : List uN) (kk : List lT → vSt → Bool) : List uOp → List Bool → List lT → Bool → vSt → Bool
  | [], _, sk, _, s => kk sk s
  | .inl e :: r, [], sk, b, s => vAsk e s (fun s2 => uGoS bs G0 US kk r [] sk b s2) (fun s2 => uGoS bs G0 US kk r [] sk b s2)
  | .inl e :: r, q :: p, sk, b, s => vAsk e s (fun s2 => bif q then uGoS bs G0 US kk r p sk b s2 else true) (fun s2 => bif q then true else uGoS bs G0 US kk r p sk b s2)
  | .inr (.inl x) :: r, p, sk, b, s => match sk[x.1]? with
    | some l => if lQ (sI s) (sC s) l x.2 = true then uGoS bs G0 US kk r p (sk.set x.1 x.2) true s else uGoS bs G0 US kk r p sk b s
    | none => false
  | .inr (.inr q) :: r, p, sk, b, s => match US[q.1]? with
    | some u => if (q.2.isEmpty && b) = true then uGoS bs G0 US kk r p sk b s else if uPm bs u (uTh sk q.2) s = true then sk.all (lBd (sN s)) && bs.all (fun i => decide (i < sN s)) && uIn bs G0.length u (uTh sk q.2) s (fun s2 => decide ((sG s2).take G0.length = G0) && uGoS bs G0 US kk r p sk b (uUn ((List.range ((sG s2).length - (sG s).length)).map (fun i => (sG s).length + i)) s2)) else uGoS bs G0 US kk r p sk b s
    | none => false
theorem uIn_eq (bs : List Nat) (m0 : Nat) (u : uN) (θ : List lT) (s : vSt) : ∃ (C : Bool) (st : vSt), ∀ kk : vSt → Bool, uIn bs m0 u θ s kk = (C && kk st) := by
  refine ⟨uIn bs m0 u θ s (fun _ => true), vExS [] (uNt u) (bs.length + (uBd u).length) m0 (uBs bs ++ θ) (List.range m0) s, fun kk => ?_⟩
  unfold uIn vExt1
  rw [Bool.and_true]
  exact (Bool.and_assoc _ _ _).symm
theorem uGoS_go {bs : List Nat} {G0 : List Nat} {US : List uN} {kk : List lT → vSt → Bool} : ∀ (ops : List uOp) (n : Nat) (sk : List lT) (b : Bool) (s : vSt), (∀ p : List Bool, p.length = n → uGoS bs G0 US kk ops p sk b s = true) → uGo bs G0 US kk ops sk b s = true := by
  intro ops
  induction ops with
  | nil =>
    intro n sk b s h
    exact h (List.replicate n true) List.length_replicate
  | cons x r ih =>
    intro n sk b s h
    rcases x with e | (x | x)
    · show vAsk e s (fun s2 => uGo bs G0 US kk r sk b s2) (fun s2 => uGo bs G0 US kk r sk b s2) = true
      have hT : ∀ p : List Bool, p.length = n - 1 → vAsk e s (fun s2 => uGoS bs G0 US kk r p sk b s2) (fun _ => true) = true ∨ (n = 0 ∧ vAsk e s (fun s2 => uGoS bs G0 US kk r p sk b s2) (fun s2 => uGoS bs G0 US kk r p sk b s2) = true) := fun p hp => by
        rcases n with _ | n
        · have e0 := List.length_eq_zero_iff.mp hp
          subst e0
          exact Or.inr ⟨rfl, h [] rfl⟩
        · exact Or.inl (h (true :: p) (by rw [List.length_cons, hp]; rfl))
      have hF : ∀ p : List Bool, p.length = n - 1 → vAsk e s (fun _ => true) (fun s2 => uGoS bs G0 US kk r p sk b s2) = true ∨ (n = 0 ∧ vAsk e s (fun s2 => uGoS bs G0 US kk r p sk b s2) (fun s2 => uGoS bs G0 US kk r p sk b s2) = true) := fun p hp => by
        rcases n with _ | n
        · have e0 := List.length_eq_zero_iff.mp hp
          subst e0
          exact Or.inr ⟨rfl, h [] rfl⟩
        · exact Or.inl (h (false :: p) (by rw [List.length_cons, hp]; rfl))
      unfold vAsk at hT hF ⊢
      by_cases c1 : lGe (sI s) (sC s) e = true
      · rw [if_pos c1]
        refine ih (n - 1) sk b s (fun p hp => ?_)
        rcases hT p hp with g | ⟨-, g⟩
        all_goals
          rw [if_pos c1] at g
          exact g
      by_cases c2 : lGe (sI s) (sC s) (lSub (lK (-1)) e) = true
      · rw [if_neg c1, if_pos c2]
        refine ih (n - 1) sk b s (fun p hp => ?_)
        rcases hF p hp with g | ⟨-, g⟩
        all_goals
          rw [if_neg c1, if_pos c2] at g
          exact g
      rw [if_neg c1, if_neg c2]
      refine Bool.and_eq_true_iff.mpr ⟨?_, ?_⟩
      · rcases hv : vCo e s with _ | s2
        · rfl
        · refine ih (n - 1) sk b s2 (fun p hp => ?_)
          rcases hT p hp with g | ⟨-, g⟩
          all_goals
            rw [if_neg c1, if_neg c2, hv] at g
            exact (Bool.and_eq_true_iff.mp g).1
      · rcases hv : vCo (lSub (lK (-1)) e) s with _ | s2
        · rfl
        · refine ih (n - 1) sk b s2 (fun p hp => ?_)
          rcases hF p hp with g | ⟨-, g⟩
          all_goals
            rw [if_neg c1, if_neg c2, hv] at g
            exact (Bool.and_eq_true_iff.mp g).2
    · have h0 : ∀ p : List Bool, p.length = n → (match sk[x.1]? with
        | some l => if lQ (sI s) (sC s) l x.2 = true then uGoS bs G0 US kk r p (sk.set x.1 x.2) true s else uGoS bs G0 US kk r p sk b s
        | none => false) = true := h
      show (match sk[x.1]? with
        | some l => if lQ (sI s) (sC s) l x.2 = true then uGo bs G0 US kk r (sk.set x.1 x.2) true s else uGo bs G0 US kk r sk b s
        | none => false) = true
      rcases hs : sk[x.1]? with _ | l
      · have h1 := h0 (List.replicate n true) List.length_replicate
        rw [hs] at h1
        cases h1
      · rw [hs] at h0
        dsimp only at h0 ⊢
        by_cases c : lQ (sI s) (sC s) l x.2 = true
        · rw [if_pos c]
          refine ih n _ true s (fun p hp => ?_)
          have g := h0 p hp
          rw [if_pos c] at g
          exact g
        · rw [if_neg c]
          refine ih n _ b s (fun p hp => ?_)
          have g := h0 p hp
          rw [if_neg c] at g
          exact g
    · have h0 : ∀ p : List Bool, p.length = n → (match US[x.1]? with
        | some u => if (x.2.isEmpty && b) = true then uGoS bs G0 US kk r p sk b s else if uPm bs u (uTh sk x.2) s = true then sk.all (lBd (sN s)) && bs.all (fun i => decide (i < sN s)) && uIn bs G0.length u (uTh sk x.2) s (fun s2 => decide ((sG s2).take G0.length = G0) && uGoS bs G0 US kk r p sk b (uUn ((List.range ((sG s2).length - (sG s).length)).map (fun i => (sG s).length + i)) s2)) else uGoS bs G0 US kk r p sk b s
        | none => false) = true := h
      show (match US[x.1]? with
        | some u => if (x.2.isEmpty && b) = true then uGo bs G0 US kk r sk b s else if uPm bs u (uTh sk x.2) s = true then sk.all (lBd (sN s)) && bs.all (fun i => decide (i < sN s)) && uIn bs G0.length u (uTh sk x.2) s (fun s2 => decide ((sG s2).take G0.length = G0) && uGo bs G0 US kk r sk b (uUn ((List.range ((sG s2).length - (sG s).length)).map (fun i => (sG s).length + i)) s2)) else uGo bs G0 US kk r sk b s
        | none => false) = true
      rcases hu : US[x.1]? with _ | u
      · have h1 := h0 (List.replicate n true) List.length_replicate
        rw [hu] at h1
        cases h1
      · rw [hu] at h0
        dsimp only at h0 ⊢
        by_cases c1 : (x.2.isEmpty && b) = true
        · rw [if_pos c1]
          refine ih n _ b s (fun p hp => ?_)
          have g := h0 p hp
          rw [if_pos c1] at g
          exact g
        rw [if_neg c1]
        by_cases c2 : uPm bs u (uTh sk x.2) s = true
        · rw [if_pos c2]
          obtain ⟨C, st, hC⟩ := uIn_eq bs G0.length u (uTh sk x.2) s
          have h1 : ∀ p : List Bool, p.length = n → (sk.all (lBd (sN s)) && bs.all (fun i => decide (i < sN s)) && (C && (decide ((sG st).take G0.length = G0) && uGoS bs G0 US kk r p sk b (uUn ((List.range ((sG st).length - (sG s).length)).map (fun i => (sG s).length + i)) st)))) = true := fun p hp => by
            have g := h0 p hp
            rw [if_neg c1, if_pos c2, hC] at g
            exact g
          rw [hC]
          have g := h1 (List.replicate n true) List.length_replicate
          obtain ⟨g1, g2⟩ := Bool.and_eq_true_iff.mp g
          obtain ⟨g3, g4⟩ := Bool.and_eq_true_iff.mp g2
          obtain ⟨g5, -⟩ := Bool.and_eq_true_iff.mp g4
          exact Bool.and_eq_true_iff.mpr ⟨g1, Bool.and_eq_true_iff.mpr ⟨g3, Bool.and_eq_true_iff.mpr ⟨g5, ih n _ b _ (fun p hp => (Bool.and_eq_true_iff.mp (Bool.and_eq_true_iff.mp (Bool.and_eq_true_iff.mp (h1 p hp)).2).2).2)⟩⟩⟩
        · rw [if_neg c2]
          refine ih n _ b s (fun p hp => ?_)
          have g := h0 p hp
          rw [if_neg c1, if_neg c2] at g
          exact g
def uPa : Nat → List (List Bool)
  | 0 => [[]]
  | n + 1 => (uPa n).map (fun p => true :: p) ++ (uPa n).map (fun p => false :: p)
theorem uPa_mem : ∀ (n : Nat) (p : List Bool), p.length = n → p ∈ uPa n
  | 0, [], _ => List.mem_singleton.mpr rfl
  | n + 1, q :: p, h => by
    have ih := uPa_mem n p (Nat.succ.inj h)
    rcases q with _ | _
    · exact List.mem_append_right _ (List.mem_map.mpr ⟨p, ih, rfl⟩)
    · exact List.mem_append_left _ (List.mem_map.mpr ⟨p, ih, rfl⟩)
theorem take_at {G G0 : List Nat} (h : G.take G0.length = G0) : ∀ (i c : Nat), G0[i]? = some c → G[i]? = some c := fun i c hc => by
  have hl := (List.getElem?_eq_some_iff.mp hc).1
  have e : (G.take G0.length)[i]? = some c := by rw [h]; exact hc
  rw [List.getElem?_take, if_pos hl] at e
  exact e
theorem uGo_spec {KT : vKT} {ty : Nat → Option Nat} {H : List (XC Int32)} {bs : List Nat} {G0 : List Nat} {US : List uN} (hok : ∀ u ∈ US, uOk KT bs.length G0 u = true) {kk : List lT → vSt → Bool} : ∀ (ops : List uOp) (sk : List lT) (b : Bool) {ρ : Nat → Int} {σ : Nat → Nat} {s : vSt}, vRel KT ρ σ ty H s → (∀ (i c : Nat), G0[i]? = some c → (sG s)[i]? = some c) → (∀ u ∈ US, uHd bs.length G0.length u (fun i => ρ (bs.getD i 0)) σ H) → uGo bs G0 US kk ops sk b s = true →
    ∃ ρ2 σ2 s2 sk2, vExt s s2 ρ ρ2 σ σ2 ∧ vRel KT ρ2 σ2 ty H s2 ∧ sk2.length = sk.length ∧ (∀ j : Nat, lEv ρ2 (sk2.getD j (lK 0)) = lEv ρ (sk.getD j (lK 0))) ∧ kk sk2 s2 = true := by
  intro ops
  induction ops with
  | nil =>
    intro sk b ρ σ s h hG hU hk
    exact ⟨ρ, σ, s, sk, vExt_rf s ρ σ, h, rfl, fun _ => rfl, hk⟩
  | cons x r ih =>
    intro sk b ρ σ s h hG hU hk
    rcases x with e | p | q
    · unfold uGo at hk
      obtain ⟨s2, g0, g1, g2⟩ := vAsk_spec h hk
      have hk2 : uGo bs G0 US kk r sk b s2 = true := by
        rcases g2 with ⟨-, g2⟩ | ⟨-, g2⟩
        · exact g2
        · exact g2
      obtain ⟨e1, e2, e3, e4⟩ := g1
      obtain ⟨ρ2, σ2, s3, sk2, a1, a2, a3, a4, a5⟩ := ih sk b g0 (by rw [e2]; exact hG) hU hk2
      exact ⟨ρ2, σ2, s3, sk2, vExt_tr (vExt_eq ρ σ e1 (by rw [e2])) a1, a2, a3, a4, a5⟩
    · unfold uGo at hk
      split at hk
      rotate_left
      · cases hk
      rename_i l hl
      split at hk
      · rename_i hq
        have hq2 := lQ_spec h.2.2.2.1 h.2.2.2.2.1 hq
        obtain ⟨ρ2, σ2, s3, sk2, a1, a2, a3, a4, a5⟩ := ih (sk.set p.1 p.2) true h hG hU hk
        refine ⟨ρ2, σ2, s3, sk2, a1, a2, a3.trans (List.length_set ..), fun j => (a4 j).trans ?_, a5⟩
        rw [List.getD_eq_getElem?_getD, List.getD_eq_getElem?_getD, List.getElem?_set]
        by_cases c : p.1 = j
        · subst c
          rw [if_pos rfl, if_pos (List.getElem?_eq_some_iff.mp hl).1, hl]
          exact hq2.symm
        · rw [if_neg c]
      · exact ih sk b h hG hU hk
    · unfold uGo at hk
      split at hk
      rotate_left
      · cases hk
      rename_i u hu
      split at hk
      · exact ih sk b h hG hU hk
      split at hk
      rotate_left
      · exact ih sk b h hG hU hk
      rename_i hp
      simp only [Bool.and_eq_true] at hk
      obtain ⟨⟨k1, kb⟩, k2⟩ := hk
      have hm := List.mem_of_getElem? hu
      obtain ⟨ρ2, σ2, s2, b1, b2, b3⟩ := uIn_spec h hG (hU u hm) (hok u hm) hp k2
      obtain ⟨b3, b4⟩ := Bool.and_eq_true_iff.mp b3
      have b3 := of_decide_eq_true b3
      have hlt : ∀ i, i < G0.length → i < (sG s).length := fun i hi => (List.getElem?_eq_some_iff.mp (hG i _ (List.getElem?_eq_getElem hi))).1
      obtain ⟨b5, b6, b7⟩ := uUn_spec ((List.range ((sG s2).length - (sG s).length)).map (fun i => (sG s).length + i)) b2
      obtain ⟨ρ3, σ3, s3, sk2, a1, a2, a3, a4, a5⟩ := ih sk b b5 (by rw [b7]; exact take_at b3) (fun v hv => uHd_ext (hU v hv) (fun i hi => b1.1 _ (by
        have hb : bs[i]? = some (bs[i]'hi) := List.getElem?_eq_getElem hi
        rw [List.getD_eq_getElem?_getD, hb]
        exact of_decide_eq_true (List.all_eq_true.mp kb _ (List.mem_of_getElem? hb)))) (fun i hi => by
        unfold sR
        rw [b1.2.1 i (hlt i hi)])) b4
      refine ⟨ρ3, σ3, s3, sk2, vExt_tr b1 (vExt_tr (vExt_eq ρ2 σ2 b6 (by rw [b7])) a1), a2, a3, fun j => (a4 j).trans ?_, a5⟩
      rw [List.getD_eq_getElem?_getD]
      rcases hj : sk[j]? with _ | l
      · show lEv ρ2 (lK 0) = lEv ρ (lK 0)
        rw [lK_ev, lK_ev]
      · exact lBd_spec b1.1 (List.all_eq_true.mp k1 l (List.mem_of_getElem? hj))
/-- a state as a note -/
def stN (s : vSt) (S : List vA) : vAn := (sG s, (List.range (sN s)).map (fun i => (iLk (sI s) i).getD (0, 0)), [], S, sF s, sC s, sM s, (lK 0, lK 0, lK 0, 0, 0, [], none), [])
def stK (s : vSt) : Bool := (sRw s).isEmpty && (List.range (sN s)).all (fun i => (iLk (sI s) i).isSome)
theorem stN_spec {KT : vKT} {ρ : Nat → Int} {σ : Nat → Nat} {ty : Nat → Option Nat} {H : List (XC Int32)} {s : vSt} (h : vRel KT ρ σ ty H s) (hk : stK s = true) (S : List vA) : vRel KT ρ σ ty H (aSt (stN s S)) := by
  obtain ⟨k1, k2⟩ := Bool.and_eq_true_iff.mp hk
  refine ⟨h.1, h.2.1, h.2.2.1, zipI_spec.mpr (fun i p hp => ?_), h.2.2.2.2.1, h.2.2.2.2.2.1, h.2.2.2.2.2.2.1, fun a c d ha hd => ?_⟩
  · have hp : ((List.range (sN s)).map (fun i => (iLk (sI s) i).getD (0, 0)))[i]? = some p := hp
    rw [List.getElem?_map] at hp
    obtain ⟨j, hj, e⟩ := Option.map_eq_some_iff.mp hp
    have hl := (List.getElem?_eq_some_iff.mp hj).1
    rw [List.length_range] at hl
    rw [List.getElem?_range hl] at hj
    cases hj
    have k := List.all_eq_true.mp k2 i (List.mem_range.mpr hl)
    rcases hx : iLk (sI s) i with _ | q
    · rw [hx] at k
      cases k
    · rw [hx] at e
      have e : q = p := e
      subst e
      rw [Nat.zero_add]
      exact iLk_spec h.2.2.2.1 hx
  · obtain ⟨i, hi, -⟩ := h.2.2.2.2.2.2.2 a c d ha hd
    rw [List.isEmpty_iff.mp k1] at hi
    cases hi
/-- both calls, the second from the ints of the first; what is asked of the two states at their ends -/
def uSb (EB : vAn) (s : vSt) : vSt := (sN s, aG EB, aF EB, sI s, sC s, sM s, [])
def uPr2 (KT : vKT) (tb : XT) (tyl : List FieldType) (ov : vOt) (CT : Nat → List vCt) (hs : Nat → Nat → Option (List vHn)) (kn : Nat → Nat → Option Nat) (WA WB : List (Nat × Nat)) (f dA kA dB kB : Nat) (EA EB : vAn) (fin : vSt → Option vA → vSt → Option vA → Bool) : Bool :=
  sBd (aSt EB) && decide ((aI EB).length = (aI EA).length) && (aL EB).all (fun q => vBd (aI EB).length (aG EB).length q.2) && vChk KT tb tyl ov CT hs kn WA f 0 dA kA 0 (aL EA) [] (aSt EA) (lK 0) (lK 0) (fun _ => none) (fun sa av => sBd sa && (sRw sa).isEmpty && (av.toList).all (vBd (sN sa) (sG sa).length) &&
    vChk KT tb tyl ov CT hs kn WB f 0 dB kB 0 (aL EB) [] (uSb EB sa) (lK 0) (lK 0) (fun _ => none) (fun sb bv => sBd sb && (sRw sb).isEmpty && fin sa av sb bv))
theorem uPr2_spec {KT : vKT} {tb : XT} {tyl : List FieldType} {ot : XO Int32} {ov : vOt} (hov : vOvLe ov (o4 ot)) {CT : Nat → List vCt} {hs : Nat → Nat → Option (List vHn)} {kn : Nat → Nat → Option Nat} {WA WB : List (Nat × Nat)} (hCT : ∀ j c, c ∈ CT j → vCtSem KT tb tyl ot j c) {f dA kA dB kB d : Nat} {EA EB : vAn} {fin : vSt → Option vA → vSt → Option vA → Bool} (hk : uPr2 KT tb tyl ov CT hs kn WA WB f dA kA dB kB EA EB fin = true) {qA qB : XM} (hqA : tMth tb kA = some qA) (hqB : tMth tb kB = some qB) (hdA : dA ≤ d) (hdB : dB ≤ d)
    {ρ : Nat → Int} {σA σB : Nat → Nat} {tyA tyB : Nat → Option Nat} {GA GB : List (XC Int32)} {LA LB : List (Nat × XV Int32)} (hA : vRel KT ρ σA tyA GA (aSt EA)) (hB : vRel KT ρ σB tyB GB (aSt EB)) (hBA : GA.length + mMc qA ≤ 1000000) (hBB : GB.length + mMc qB ≤ 1000000) (cA : vCov ρ σA (aL EA) LA) (cB : vCov ρ σB (aL EB) LB) :
    ∃ vA H1 vB H2, x_To tb tyl ot d kA 0 LA [] GA 0 0 vA H1 ∧ x_To tb tyl ot d kB 0 LB [] GB 0 0 vB H2 ∧ ∃ (ρ3 : Nat → Int) (σA3 σB3 : Nat → Nat) (tyA3 tyB3 : Nat → Option Nat) (sa : vSt) (av : Option (lT ⊕ Option Nat)) (sb : vSt) (bv : Option (lT ⊕ Option Nat)), (∀ i, i < (aI EA).length → ρ3 i = ρ i) ∧ (∀ i, i < (aG EA).length → σA3 i = σA i) ∧ (∀ i, i < (aG EB).length → σB3 i = σB i) ∧ vLe tyA tyA3 ∧ vLe tyB tyB3 ∧ vFrm WA tyA GA H1 ∧ vFrm WB tyB GB H2 ∧ vRel KT ρ3 σA3 tyA3 H1 (sJn sa sb) ∧ vRel KT ρ3 σB3 tyB3 H2 sb ∧ vA = av.map (cv ρ3 σA3) ∧ vB = bv.map (cv ρ3 σB3) ∧ H1.length ≤ GA.length + mMc qA ∧ H2.length ≤ GB.length + mMc qB ∧ (sRw sa).isEmpty = true ∧ (sRw sb).isEmpty = true ∧ fin sa av sb bv = true := by
  unfold uPr2 at hk
  simp only [Bool.and_eq_true] at hk
  obtain ⟨⟨⟨k1, k2⟩, k3⟩, k4⟩ := hk
  have k2 := of_decide_eq_true k2
  have hrA := vRel_noraw hA rfl
  have hrB := vRel_noraw hB rfl
  have z0 : ∀ ρ : Nat → Int, ((0 : Nat) : Int) ≤ lEv ρ (lK 0) := fun ρ => by
    rw [lK_ev]
    exact Int.le_refl _
  have hatA : vAt KT WA tyA GA GA.length (aL EA) (aSt EA) (lK 0) (lK 0) ρ σA tyA GA LA 0 0 := ⟨⟨Nat.le_refl _, by omega⟩, vLe_rf tyA, vFrm_rf WA tyA GA, hA, cA, z0 ρ, z0 ρ⟩
  obtain ⟨vA, H1, z1, vB, H2, z2, z3⟩ := vChk_spec (Post := fun vA H1 => ∃ vB H2, x_To tb tyl ot d kB 0 LB [] GB 0 0 vB H2 ∧ ∃ (ρ3 : Nat → Int) (σA3 σB3 : Nat → Nat) (tyA3 tyB3 : Nat → Option Nat) (sa : vSt) (av : Option (lT ⊕ Option Nat)) (sb : vSt) (bv : Option (lT ⊕ Option Nat)), (∀ i, i < (aI EA).length → ρ3 i = ρ i) ∧ (∀ i, i < (aG EA).length → σA3 i = σA i) ∧ (∀ i, i < (aG EB).length → σB3 i = σB i) ∧ vLe tyA tyA3 ∧ vLe tyB tyB3 ∧ vFrm WA tyA GA H1 ∧ vFrm WB tyB GB H2 ∧ vRel KT ρ3 σA3 tyA3 H1 (sJn sa sb) ∧ vRel KT ρ3 σB3 tyB3 H2 sb ∧ vA = av.map (cv ρ3 σA3) ∧ vB = bv.map (cv ρ3 σB3) ∧ H1.length ≤ GA.length + mMc qA ∧ H2.length ≤ GB.length + mMc qB ∧ (sRw sa).isEmpty = true ∧ (sRw sb).isEmpty = true ∧ fin sa av sb bv = true) hov hCT hrA f 0 hqA hdA hBA hatA k4 (fun ρ2 σ2 ty2 HA sa av w1 w2 w3 w4 w5 w6 => by
    simp only [Bool.and_eq_true] at w6
    obtain ⟨⟨⟨y1, y2⟩, y3⟩, y4⟩ := w6
    have hρ : ∀ i, i < sN (aSt EB) → ρ2 i = ρ i := fun i hi => w1.1 i (show i < (aI EA).length by
      have hi : i < (aI EB).length := hi
      omega)
    obtain ⟨b1, b2, b3, b4, b5, b6, b7, b8⟩ := vRel_ext hB k1 hρ (fun _ _ => rfl)
    have hB2 : vRel KT ρ2 σB tyB GB (uSb EB sa) := ⟨b1, b2, b3, w4.2.2.2.1, w4.2.2.2.2.1, w4.2.2.2.2.2.1, b7, b8⟩
    have hcB : vCov ρ2 σB (aL EB) LB := vBd_loc (n := (aI EB).length) (m := (aG EB).length) (fun i hi => hρ i hi) (fun _ _ => rfl) k3 cB
    have hatB : vAt KT WB tyB GB GB.length (aL EB) (uSb EB sa) (lK 0) (lK 0) ρ2 σB tyB GB LB 0 0 := ⟨⟨Nat.le_refl _, by omega⟩, vLe_rf tyB, vFrm_rf WB tyB GB, hB2, hcB, z0 ρ2, z0 ρ2⟩
    obtain ⟨vB, H2, u1, u2⟩ := vChk_spec (Post := fun vB H2 => ∃ (ρ3 : Nat → Int) (σB3 : Nat → Nat) (tyB3 : Nat → Option Nat) (sb : vSt) (bv : Option (lT ⊕ Option Nat)), (∀ i, i < sN sa → ρ3 i = ρ2 i) ∧ (∀ i, i < (aG EB).length → σB3 i = σB i) ∧ vLe tyB tyB3 ∧ vFrm WB tyB GB H2 ∧ vRel KT ρ3 σB3 tyB3 H2 sb ∧ vB = bv.map (cv ρ3 σB3) ∧ H2.length ≤ GB.length + mMc qB ∧ (sRw sb).isEmpty = true ∧ fin sa av sb bv = true) hov hCT hrB f 0 hqB hdB hBB hatB y4 (fun ρ3 σ3 ty3 HB sb bv v1 v2 v3 v4 v5 v6 => by
      simp only [Bool.and_eq_true] at v6
      obtain ⟨⟨x1, x2⟩, x3⟩ := v6
      exact ⟨ρ3, σ3, ty3, sb, bv, v1.1, v1.2.1, v2, v3, v4, rfl, v5, x2, x3⟩) (fun pc g hg => by cases hg)
    obtain ⟨ρ3, σB3, tyB3, sb, bv, v1, v2, v3, v4, v5, v6, v7, v8, v9⟩ := u2
    have hA3 : vRel KT ρ3 σ2 ty2 HA (sJn sa sb) := by
      obtain ⟨a1, a2, a3, a4, a5, a6, a7, a8⟩ := vRel_ext w4 y1 v1 (fun _ _ => rfl)
      exact ⟨a1, a2, a3, v5.2.2.2.1, v5.2.2.2.2.1, v5.2.2.2.2.2.1, a7, a8⟩
    have hn : sN (aSt EA) ≤ sN sa := w1.2.2.1
    refine ⟨vB, H2, u1, ρ3, σ2, σB3, ty2, tyB3, sa, av, sb, bv, fun i hi => ?_, w1.2.1, v2, w2, v3, w3, v4, hA3, v5, ?_, v6, w5, v7, y2, v8, v9⟩
    · have hn : (aI EA).length ≤ sN sa := hn
      rw [v1 i (by omega), w1.1 i hi]
    · rcases av with _ | a
      · rfl
      · have y3 : ([a].all (vBd (sN sa) (sG sa).length)) = true := y3
        have y3 := List.all_eq_true.mp y3 a (List.mem_singleton.mpr rfl)
        exact congrArg some (vBd_spec v1 (fun _ _ => rfl) y3).symm) (fun pc g hg => by cases hg)
  exact ⟨vA, H1, vB, H2, z1, z2, z3⟩
def jOkT (N : vAn) (n0 mA mB : Nat) (τA τB : List Nat) (ps : List (Bool × Nat)) (x : vAn × vAn × List lT) : Bool :=
  aBd x.1 && aBd x.2.1 && decide ((aG x.1).length + (aG x.2.1).length < 1000000) &&
  vMc N x.2.2 (jTa (aG x.1).length ps) [] [] (jSt x.1 x.2.1) &&
  decide (2 ≤ n0) && lEq (x.2.2.getD 0 (lK 0)) (lSy 0) && lEq (x.2.2.getD 1 (lK 0)) (lAdd (lSy 1) (lK 7)) &&
  (List.range ps.length).all (fun i => match ps[i]? with
    | some q => if q.1 = true then decide (τB[q.2]? = some i) && decide (q.2 < mB) && decide (q.2 < (aG x.2.1).length) else decide (τA[q.2]? = some i) && decide (q.2 < mA) && decide (q.2 < (aG x.1).length)
    | none => false)
theorem pJoinT {KT : vKT} {tb : XT} {tyl : List FieldType} {ot : XO Int32} {N EA EB : vAn} {sE : vSt} {pA pB : Nat → Bool} (cA : kCl KT.1 pA = true) (cB : kCl KT.1 pB = true) (qA : pA KT.2.1.1 = true → pA KT.2.1.2.2.2.1 = true) (qB : pB KT.2.1.1 = true → pB KT.2.1.2.2.2.1 = true) (hd : ∀ c, pA c = true → pB c = true → False) (hJ : KT.1.all (fun kd => match kd with | .inr o => decide (o.1 ≠ 77) | _ => true) = true)
    {τA τB : List Nat} {ps : List (Bool × Nat)} (mA1 : vMc (aNl EA) ((List.range (sN sE)).map lSy) τA [] [] sE = true) (mB1 : vMc (aNl EB) ((List.range (sN sE)).map lSy) τB [] [] sE = true) (gA : (aG EA).all pA = true) (gB : (aG EB).all pB = true) (bA : aBd EA = true) (bB : aBd EB = true) (hnN : (sG sE).length < 1000000) (hNp : ps.length = (aG N).length) (hNs : aS N = []) (htA : τA.all (fun i => decide (i < 1000000)) = true) (htB : τB.all (fun i => decide (i < 1000000)) = true)
    {n0 mA mB kA kB d mcA mcB : Nat} {WA WB : List (Nat × Nat)} {Φ : vAn × vAn × List lT → Prop} {Ψ : Int32 → Int32 → Prop} (hn0 : n0 ≤ (sN sE))
    {ρ : Nat → Int} {σ : Nat → Nat} {ty : Nat → Option Nat} {H : List (XC Int32)} (h : vRel KT ρ σ ty H sE) {LA LB : List (Nat × XV Int32)}
    {Q : pC → Option (XV Int32) → List (XC Int32) → Option (XV Int32) → List (XC Int32) → Prop} (hQ : ∀ b vA H1 vB H2, Q b vA H1 vB H2 → ∃ a c : Int32, vA = some (.inl a) ∧ vB = some (.inl c) ∧ Ψ a c ∧ vFrm WA b.2.2.2.1 b.2.2.2.2.2.1 H1 ∧ H1.length ≤ b.2.2.2.2.2.1.length + mcA ∧ H2.length ≤ b.2.2.2.2.2.2.length + mcB ∧ (a = c → ∃ z, Φ z ∧ jOkT (aNl N) n0 mA mB τA τB ps z = true ∧ pQ KT n0 mA mB WA WB mcA mcB [(z.1, z.2.1)] b vA H1 vB H2))
    (hP2 : ∀ b : pC, pSt KT n0 mA mB WA WB b b EA EB → b.1 = rO ρ ((List.range (sN sE)).map lSy) → b.2.1 = sO σ τA → b.2.2.1 = sO σ τB → b.2.2.2.1 = tyP pA ty → b.2.2.2.2.1 = tyP pB ty → (∀ a c, tyP pA ty a = some c → b.2.2.2.2.2.1[a]? = H[a]?) → (∀ a c, tyP pB ty a = some c → b.2.2.2.2.2.2[a]? = H[a]?) → b.2.2.2.2.2.1.length = H.length → b.2.2.2.2.2.2.length ≤ H.length + mcA →
      ∃ vA H1 vB H2, x_To tb tyl ot d kA 0 LA [] b.2.2.2.2.2.1 0 0 vA H1 ∧ x_To tb tyl ot d kB 0 LB [] b.2.2.2.2.2.2 0 0 vB H2 ∧ Q b vA H1 vB H2) :
    ∃ (a c : Int32) (HA HH : List (XC Int32)), x_To tb tyl ot d kA 0 LA [] H 0 0 (some (.inl a)) HA ∧ x_To tb tyl ot d kB 0 LB [] HA 0 0 (some (.inl c)) HH ∧ HH.length ≤ H.length + (mcA + mcB) ∧ (∀ x k, tyP pB ty x = some k → HA[x]? = H[x]?) ∧ Ψ a c ∧
      (a = c → ∃ (ρ2 : Nat → Int) (σ2 : Nat → Nat) (ty2 : Nat → Option Nat), ρ2 0 = ρ 0 ∧ ρ2 1 = ρ 1 + 7 ∧ (∀ i, i < ps.length → sR σ2 i = sR σ i) ∧ vRel KT ρ2 σ2 ty2 HH (aSt N) ∧ vFrm WA (tyP pA ty) H HH ∧ vFrm WB (tyP pB ty) H HH ∧ ∃ z, Φ z ∧ ∃ (ρJ : Nat → Int) (σJ : Nat → Nat), (∀ i, i < n0 → ρJ i = ρ i) ∧ vRel KT ρJ σJ ty2 HH (jSt z.1 z.2.1) ∧ (∀ i, i < ps.length → sR (sO σJ (jTa (aG z.1).length ps)) i = sR σ i)) := by
  obtain ⟨eA, -, -, -, -, -⟩ := vMc_spec h mA1
  obtain ⟨eB, -, -, -, -, -⟩ := vMc_spec h mB1
  have fA : (sF (aSt EA)).all (fun f => decide (f.1 < (sG (aSt EA)).length)) = true := by
    unfold aBd at bA
    simp only [Bool.and_eq_true] at bA
    refine List.all_eq_true.mpr fun f hf => ?_
    have h0 := List.all_eq_true.mp bA.1.1.1.1 f hf
    simp only [Bool.and_eq_true] at h0
    exact h0.1.1
  have fB : (sF (aSt EB)).all (fun f => decide (f.1 < (sG (aSt EB)).length)) = true := by
    unfold aBd at bB
    simp only [Bool.and_eq_true] at bB
    refine List.all_eq_true.mpr fun f hf => ?_
    have h0 := List.all_eq_true.mp bB.1.1.1.1 f hf
    simp only [Bool.and_eq_true] at h0
    exact h0.1.1
  have rA := vRel_kp (s := aSt EA) cA qA eA gA fA
  have rB := vRel_kp (s := aSt EB) cB qB eB gB fB
  have hlt : ∀ a c, ty a = some c → a < H.length := fun a c ha => vHp_lt h.1 ha
  have hAB : ∀ a c, tyP pB ty a = some c → tyP pA ty a = none ∧ a < H.length := fun a c hc => by
    obtain ⟨z1, z2⟩ := tyP_iff.mp hc
    refine ⟨?_, hlt a c z1⟩
    rcases hx : tyP pA ty a with _ | e
    · rfl
    · obtain ⟨z3, z4⟩ := tyP_iff.mp hx
      rw [z1] at z3
      cases z3
      exact (hd c z4 z2).elim
  -- the first states, by how many cells the first call makes
  let b : Nat → pC := fun n => (rO ρ ((List.range (sN sE)).map lSy), sO σ τA, sO σ τB, tyP pA ty, tyP pB ty, zKp (tyP pA ty) H, zKp (tyP pB ty) H ++ List.replicate n zJ)
  have hb : ∀ n, pSt KT n0 mA mB WA WB (b n) (b n) EA EB := fun n => ⟨rA, vRel_pad rB fB _, fun _ _ => rfl, fun _ _ => rfl, fun _ _ => rfl, vLe_rf _, vLe_rf _, vFrm_rf _ _ _, vFrm_rf _ _ _⟩
  have hb1 : ∀ a c, tyP pA ty a = some c → (zKp (tyP pA ty) H)[a]? = H[a]? := fun a c ha => zKp_ty H ha
  have hb2 : ∀ n a c, tyP pB ty a = some c → (zKp (tyP pB ty) H ++ List.replicate n zJ)[a]? = H[a]? := fun n a c ha => by
    rw [List.getElem?_append_left (by rw [zKp_len]; exact (hAB a c ha).2), zKp_ty H ha]
  have hgo : ∀ n, n ≤ mcA → ∃ vA H1 vB H2, x_To tb tyl ot d kA 0 LA [] (zKp (tyP pA ty) H) 0 0 vA H1 ∧ x_To tb tyl ot d kB 0 LB [] (zKp (tyP pB ty) H ++ List.replicate n zJ) 0 0 vB H2 ∧ Q (b n) vA H1 vB H2 := fun n hn => hP2 (b n) (hb n) rfl rfl rfl rfl rfl hb1 (hb2 n) (zKp_len _ _) (by
    show (zKp (tyP pB ty) H ++ List.replicate n zJ).length ≤ H.length + mcA
    rw [List.length_append, zKp_len, List.length_replicate]
    omega)
  obtain ⟨v0, J1, u0, K1, p1, -, p3⟩ := hgo 0 (Nat.zero_le _)
  obtain ⟨-, -, -, -, -, -, l1, -, -⟩ := hQ _ _ _ _ _ p3
  have l1 : J1.length ≤ H.length + mcA := by
    have l1 : J1.length ≤ (zKp (tyP pA ty) H).length + mcA := l1
    rw [zKp_len] at l1
    exact l1
  obtain ⟨vA, H1, vB, H2, q1, q2, q3⟩ := hgo (J1.length - H.length) (by omega)
  obtain ⟨e1, e2⟩ := x_To_one p1 q1
  subst e1
  subst e2
  obtain ⟨ra, rc, hva, hvb, hpsi, yF, y12, y13, hz⟩ := hQ _ _ _ _ _ q3
  subst hva
  subst hvb
  have y13 : H2.length ≤ (zKp (tyP pB ty) H ++ List.replicate (H1.length - H.length) zJ).length + mcB := y13
  have dT : ∀ (ty : Nat → Option Nat) (n a : Nat), a < n ∧ ty a = none → zD ty n a = true := fun ty n a h => by
    unfold zD
    rw [decide_eq_true h.1, h.2]
    rfl
  have dF : ∀ (ty : Nat → Option Nat) (n a : Nat), ¬ (a < n ∧ ty a = none) → zD ty n a = false := fun ty n a h => by
    unfold zD
    by_cases c : a < n
    · rw [decide_eq_true c]
      rcases ht : ty a with _ | d
      · exact absurd ⟨c, ht⟩ h
      · rfl
    · rw [decide_eq_false c]
      rfl
  obtain ⟨a1, a2⟩ := x_To_fr p1 (zKp_tr (tyP pA ty) H) (zKp_mx (tyP pA ty) H)
  have hle : H.length ≤ H1.length := Classical.byContradiction fun hc => by
    rcases ht : tyP pA ty H1.length with _ | c
    · exact absurd (zTr_lt a2 (dT (tyP pA ty) H.length H1.length ⟨by omega, ht⟩)) (by omega)
    · obtain ⟨kd, zc, -, k2, -⟩ := rA.1 H1.length c ht
      obtain ⟨z2, k3, -⟩ := yF H1.length c zc ht k2
      exact absurd (List.getElem?_eq_some_iff.mp k3).1 (by omega)
  have hA1 : ∀ a, a < H.length ∧ tyP pA ty a = none → (zMx (zD (tyP pA ty) H.length) H H1)[a]? = H[a]? := fun a h => zMx_old a2 (dT _ _ _ h) h.1
  have hA2 : ∀ a, ¬ (a < H.length ∧ tyP pA ty a = none) → (zMx (zD (tyP pA ty) H.length) H H1)[a]? = H1[a]? := fun a h => zMx_get H (dF _ _ _ h)
  have hlA : (zMx (zD (tyP pA ty) H.length) H H1).length = H1.length := zMx_len _ _ _
  have hG : ∀ a, tyP pB ty a = none → a < H1.length → (zKp (tyP pB ty) H ++ List.replicate (H1.length - H.length) zJ)[a]? = some zJ := fun a h1 h2 => by
    by_cases c : a < H.length
    · rw [List.getElem?_append_left (by rw [zKp_len]; exact c)]
      exact zKp_tr (tyP pB ty) H a (dT (tyP pB ty) H.length a ⟨c, h1⟩)
    · rw [List.getElem?_append_right (by rw [zKp_len]; omega), zKp_len, List.getElem?_replicate, if_pos (by omega)]
  obtain ⟨b1, b2⟩ := x_To_fr (D := zD (tyP pB ty) H1.length) (HX := zMx (zD (tyP pA ty) H.length) H H1) q2 (fun a ha => by
      unfold zD at ha
      have h := Bool.and_eq_true_iff.mp ha
      exact hG a (by simpa using h.2) (of_decide_eq_true h.1)) (List.ext_getElem? fun a => by
      by_cases c : a < H1.length
      · rcases ht : tyP pB ty a with _ | d
        · rw [zMx_at, hG a ht c, dT (tyP pB ty) H1.length a ⟨c, ht⟩, List.getElem?_eq_getElem (by rw [hlA]; exact c)]
          rfl
        · obtain ⟨g1, g2⟩ := hAB a d ht
          rw [zMx_get _ (dF (tyP pB ty) H1.length a (fun h => by rw [ht] at h; cases h.2)), hA1 a ⟨g2, g1⟩, List.getElem?_append_left (by rw [zKp_len]; exact g2), zKp_ty H ht]
      · rw [List.getElem?_eq_none (by rw [zMx_len, List.length_append, zKp_len, List.length_replicate]; omega), List.getElem?_eq_none (by rw [hlA]; omega)])
  have hB1 : ∀ a, a < H1.length ∧ tyP pB ty a = none → (zMx (zD (tyP pB ty) H1.length) (zMx (zD (tyP pA ty) H.length) H H1) H2)[a]? = (zMx (zD (tyP pA ty) H.length) H H1)[a]? := fun a h => zMx_old b2 (dT _ _ _ h) (by rw [hlA]; exact h.1)
  have hB2 : ∀ a, ¬ (a < H1.length ∧ tyP pB ty a = none) → (zMx (zD (tyP pB ty) H1.length) (zMx (zD (tyP pA ty) H.length) H H1) H2)[a]? = H2[a]? := fun a h => zMx_get _ (dF _ _ _ h)
  have noJ : ∀ (ty' : Nat → Option Nat) (G : List (XC Int32)), vHp (fun c => KT.1[c]?) ty' G → ∀ a c, ty' a = some c → G[a]? = some zJ → False := fun ty' G hp a c ha hz => by
    obtain ⟨kd, z, k1, k2, k3⟩ := hp a c ha
    rw [hz] at k2
    cases k2
    have k4 := List.all_eq_true.mp hJ kd (List.mem_of_getElem? k1)
    rcases kd with o | o
    · exact k3
    · have k5 : (77 : Nat) = o.1 := k3.1
      exact (of_decide_eq_true k4) k5.symm
  refine ⟨ra, rc, _, _, a1, b1, ?_, fun x k hx => hA1 x ⟨(hAB x k hx).2, (hAB x k hx).1⟩, hpsi, fun hac => ?_⟩
  · rw [zMx_len]
    rw [List.length_append, zKp_len, List.length_replicate] at y13
    omega
  obtain ⟨z, hΦ, hj, x, hx, ρ2, σA2, σB2, tyA2, tyB2, ⟨y1, y2, y3, y4, y5, y6, y7, y8, y9⟩, -, -, -, -⟩ := hz hac
  rcases List.mem_singleton.mp hx with rfl
  have y1 : vRel KT ρ2 σA2 tyA2 H1 (aSt z.1) := y1
  have y2 : vRel KT ρ2 σB2 tyB2 H2 (aSt z.2.1) := y2
  have y6 : vLe (tyP pA ty) tyA2 := y6
  have y7 : vLe (tyP pB ty) tyB2 := y7
  have nA : ∀ a c, tyA2 a = some c → ¬ (a < H.length ∧ tyP pA ty a = none) := fun a c ha hz => noJ _ _ y1.1 a c ha (a2 a (dT _ _ _ hz))
  have nB : ∀ a c, tyB2 a = some c → ¬ (a < H1.length ∧ tyP pB ty a = none) := fun a c ha hz => noJ _ _ y2.1 a c ha (b2 a (dT _ _ _ hz))
  have oA : ∀ a c, tyA2 a = some c → tyP pB ty a = none := fun a c ha => by
    rcases ht : tyP pB ty a with _ | e
    · rfl
    · obtain ⟨g1, g2⟩ := hAB a e ht
      exact (nA a c ha ⟨g2, g1⟩).elim
  have oB : ∀ a c, tyB2 a = some c → tyA2 a = none := fun a c ha => by
    rcases ht : tyA2 a with _ | e
    · rfl
    · exact (nB a c ha ⟨vHp_lt y1.1 ht, oA a e ht⟩).elim
  have HHA : ∀ a c, tyA2 a = some c → (zMx (zD (tyP pB ty) H1.length) (zMx (zD (tyP pA ty) H.length) H H1) H2)[a]? = H1[a]? := fun a c ha => by
    rw [hB1 a ⟨vHp_lt y1.1 ha, oA a c ha⟩]
    exact hA2 a (nA a c ha)
  have HHB : ∀ a c, tyB2 a = some c → (zMx (zD (tyP pB ty) H1.length) (zMx (zD (tyP pA ty) H.length) H H1) H2)[a]? = H2[a]? := fun a c ha => hB2 a (nB a c ha)
  unfold jOkT at hj
  simp only [Bool.and_eq_true] at hj
  obtain ⟨⟨⟨⟨⟨⟨⟨j1, j2⟩, j3⟩, j4⟩, j5⟩, j6⟩, j7⟩, j8⟩ := hj
  have j3 := of_decide_eq_true j3
  have j5 := of_decide_eq_true j5
  have hjn := vRel_jn (ty := fun a => match tyA2 a with | some c => some c | none => tyB2 a) (H := zMx (zD (tyP pB ty) H1.length) (zMx (zD (tyP pA ty) H.length) H H1) H2) y1 y2 j1 j2 j3 (fun a c ha => ⟨by
      try dsimp only
      rw [ha], HHA a c ha⟩) (fun a c ha => ⟨by
      try dsimp only
      rw [oB a c ha]
      exact ha, HHB a c ha⟩) (fun a c ha => by
      try dsimp only at ha
      rcases ht : tyA2 a with _ | e
      · rw [ht] at ha
        exact Or.inr ha
      · rw [ht] at ha
        exact Or.inl ha)
  obtain ⟨w1, -, -, -, -, -⟩ := vMc_spec hjn j4
  have w1 : vRel KT (rO ρ2 z.2.2) (sO (sJo (aG z.1).length σA2 σB2) (jTa (aG z.1).length ps)) (fun a => match tyA2 a with | some c => some c | none => tyB2 a) (zMx (zD (tyP pB ty) H1.length) (zMx (zD (tyP pA ty) H.length) H H1) H2) (aSt N) := w1
  have hρ : ∀ i, i < n0 → ρ2 i = ρ i := fun i hi => by
    have y3 : ρ2 i = rO ρ ((List.range (sN sE)).map lSy) i := y3 i hi
    rw [y3]
    unfold rO
    rw [List.getD_eq_getElem?_getD, List.getElem?_map, List.getElem?_range (by omega)]
    exact lSy_ev ρ i
  have hs : ∀ i, i < ps.length → sR (sO (sJo (aG z.1).length σA2 σB2) (jTa (aG z.1).length ps)) i = sR σ i := fun i hi => by
    have hN : (aG N).length < 1000000 := by
      have k := j4
      unfold vMc at k
      simp only [Bool.and_eq_true] at k
      exact of_decide_eq_true k.2
    have hp : ps[i]? = some (ps[i]'hi) := List.getElem?_eq_getElem hi
    have j8 := List.all_eq_true.mp j8 i (List.mem_range.mpr hi)
    rw [hp] at j8
    generalize ps[i]'hi = q at hp j8
    obtain ⟨q1, q2⟩ := q
    dsimp only at j8
    have ht : (jTa (aG z.1).length ps).getD i 0 = if q1 = true then (aG z.1).length + q2 else q2 := by
      unfold jTa
      rw [List.getD_eq_getElem?_getD, List.getElem?_map, hp]
      rfl
    have hl : sR (sO (sJo (aG z.1).length σA2 σB2) (jTa (aG z.1).length ps)) i = sR (sJo (aG z.1).length σA2 σB2) (if q1 = true then (aG z.1).length + q2 else q2) := by
      rw [← ht]
      exact if_pos (by omega)
    have tm : ∀ (τ : List Nat), τ.all (fun i => decide (i < 1000000)) = true → τ[q2]? = some i → sO σ τ q2 = sR σ i := fun τ _ hτ => by
      unfold sO
      rw [List.getD_eq_getElem?_getD, hτ]
      rfl
    rw [hl]
    rcases q1 with _ | _
    · rw [if_neg (by decide)] at j8 ⊢
      simp only [Bool.and_eq_true, decide_eq_true_eq] at j8
      obtain ⟨⟨u1, u2⟩, u3⟩ := j8
      have y4 : σA2 q2 = sO σ τA q2 := y4 q2 u2
      show (if q2 < 1000000 then sJo (aG z.1).length σA2 σB2 q2 else q2) = _
      rw [if_pos (by omega)]
      show (if q2 < (aG z.1).length then sR σA2 q2 else _) = _
      rw [if_pos u3]
      show (if q2 < 1000000 then σA2 q2 else q2) = _
      rw [if_pos (by omega), y4]
      exact tm τA htA u1
    · rw [if_pos rfl] at j8 ⊢
      simp only [Bool.and_eq_true, decide_eq_true_eq] at j8
      obtain ⟨⟨u1, u2⟩, u3⟩ := j8
      have y5 : σB2 q2 = sO σ τB q2 := y5 q2 u2
      show (if (aG z.1).length + q2 < 1000000 then sJo (aG z.1).length σA2 σB2 ((aG z.1).length + q2) else _) = _
      rw [if_pos (by omega)]
      show (if (aG z.1).length + q2 < (aG z.1).length then _ else sR σB2 ((aG z.1).length + q2 - (aG z.1).length)) = _
      rw [if_neg (by omega), Nat.add_sub_cancel_left]
      show (if q2 < 1000000 then σB2 q2 else q2) = _
      rw [if_pos (by omega), y5]
      exact tm τB htB u1
  refine ⟨rO ρ2 z.2.2, sO (sJo (aG z.1).length σA2 σB2) (jTa (aG z.1).length ps), _, ?_, ?_, hs, w1, ?_, ?_, z, hΦ, ρ2, sJo (aG z.1).length σA2 σB2, hρ, hjn, hs⟩
  · show lEv ρ2 (z.2.2.getD 0 (lK 0)) = ρ 0
    rw [lEq_spec j6, lSy_ev, hρ 0 (by omega)]
  · show lEv ρ2 (z.2.2.getD 1 (lK 0)) = ρ 1 + 7
    rw [lEq_spec j7, lAdd_ev, lSy_ev, lK_ev, hρ 1 (by omega)]
  · intro x k u hk hu
    have y8 : vFrm WA (tyP pA ty) (zKp (tyP pA ty) H) H1 := y8
    obtain ⟨u2, g1, g2⟩ := y8 x k u hk (by rw [zKp_ty H hk]; exact hu)
    exact ⟨u2, by rw [HHA x k (y6 x k hk)]; exact g1, g2⟩
  · intro x k u hk hu
    have y9 : vFrm WB (tyP pB ty) (zKp (tyP pB ty) H ++ List.replicate (H1.length - H.length) zJ) H2 := y9
    obtain ⟨u2, g1, g2⟩ := y9 x k u hk (by rw [hb2 _ x k hk]; exact hu)
    exact ⟨u2, by rw [HHB x k (y7 x k hk)]; exact g1, g2⟩
/-- the cells of some kinds, numbered anew -/
def nIx : List Nat → Nat → Nat → Option Nat
  | [], _, _ => none
  | x :: r, k, j => bif Nat.beq x k then some j else nIx r k (j + 1)
def nPick (p : Nat → Bool) (L : List (Nat × vA)) (s : vSt) (τ : List Nat) : vAn := (τ.map (fun i => (sG s).getD i 0), (List.range (sN s)).map (fun i => (iLk (sI s) i).getD (0, 0)), L, [], (sF s).filterMap (fun f => match nIx τ f.1 0 with
  | none => none
  | some a => (match f.2.2 with
    | .inr (some k) => (match nIx τ k 0 with
      | some c => some (a, f.2.1, .inr (some c))
      | none => none)
    | v => some (a, f.2.1, v))), sC s, sM s, (lK 0, lK 0, lK 0, 0, 0, [], none), [])
def nTau (p : Nat → Bool) (s : vSt) : List Nat := (List.range (sG s).length).filter (fun i => p ((sG s).getD i 0))
/-- the head's note again, its counts, and what is asked besides, of the notes at both ends -/
def uFin (N N0 : vAn) (rN : List vRc) (ps : List (Bool × Nat)) (τA τB : List Nat) (nE : Nat) (post : vSt → List lT → List Nat → Bool) (X Y : vAn) : Bool := match rcs [] [] (jSt X Y) rN [lSy 0, lAdd (lSy 1) (lK 7)] (jTa (aG X).length ps) with
  | some p => jOkT (aNl N) nE τA.length τB.length τA τB ps (X, Y, p.1) && (match rcs [] [] (jSt X Y) (aRc N0) [] (jTa (aG X).length ps) with
    | some q => vMc (aNl N0) q.1 (jTa (aG X).length ps) [] [] (jSt X Y) && post (jSt X Y) q.1 (jTa (aG X).length ps)
    | none => false)
  | none => false
/-- surely not alike -/
def uNe (s : vSt) (e g : lT) : Bool := lFit (sI s) e && lFit (sI s) g && (lGe (sI s) (sC s) (lSub (lSub e g) (lK 1)) || lGe (sI s) (sC s) (lSub (lSub g e) (lK 1)))
theorem uNe_spec {KT : vKT} {ρ : Nat → Int} {σ : Nat → Nat} {ty : Nat → Option Nat} {H : List (XC Int32)} {s : vSt} (h : vRel KT ρ σ ty H s) {e g : lT} (hk : uNe s e g = true) : Int32.ofInt (lEv ρ e) ≠ Int32.ofInt (lEv ρ g) := fun hE => by
  unfold uNe at hk
  simp only [Bool.and_eq_true] at hk
  obtain ⟨⟨k1, k2⟩, k3⟩ := hk
  have k1 := lFit_spec h.2.2.2.1 k1
  have k2 := lFit_spec h.2.2.2.1 k2
  rw [hE, k2] at k1
  rcases Bool.or_eq_true_iff.mp k3 with k3 | k3
  all_goals
    have k3 := lGe_spec h.2.2.2.1 h.2.2.2.2.1 k3
    rw [lSub_ev, lSub_ev, lK_ev] at k3
    omega
/-- cmp: the answers are to be alike; else they are known to be alike from elsewhere -/
def uEnd (cmp : Bool) (N N0 : vAn) (rN : List vRc) (ps : List (Bool × Nat)) (τA τB : List Nat) (nE : Nat) (post : vSt → List lT → List Nat → Bool) (sa : vSt) (av : Option vA) (sb : vSt) (bv : Option vA) : Bool := match av, bv with
  | some (.inl e), some (.inl g) => (!cmp && uNe sb e g) || ((!cmp || lQ (sI sb) (sC sb) e g) && stK (sJn sa sb) && stK sb && uFin N N0 rN ps τA τB nE post (stN (sJn sa sb) [.inl e]) (stN sb [.inl g]))
  | _, _ => false
/-- the calls from a state at the head -/
def uL2 (KT : vKT) (tb : XT) (tyl : List FieldType) (ov : vOt) (CT : Nat → List vCt) (hs : Nat → Nat → Option (List vHn)) (kn : Nat → Nat → Option Nat) (WA WB : List (Nat × Nat)) (f dA kA dB kB : Nat) (cmp : Bool) (N N0 : vAn) (rN : List vRc) (ps : List (Bool × Nat)) (pA pB : Nat → Bool) (post : vSt → List lT → List Nat → Bool) (s : vSt) (τA τB : List Nat) (EA EB : vAn) : Bool :=
  vMc (aNl EA) ((List.range (sN s)).map lSy) τA [] [] s && vMc (aNl EB) ((List.range (sN s)).map lSy) τB [] [] s && (aG EA).all pA && (aG EB).all pB && aBd EA && aBd EB && decide ((sG s).length < 1000000) && τA.all (fun i => decide (i < 1000000)) && τB.all (fun i => decide (i < 1000000)) && decide (τA[0]? = some 0) && decide (τB[0]? = some 1) && decide ((aI EA).length = sN s) &&
  uPr2 KT tb tyl ov CT hs kn WA WB f dA kA dB kB EA EB (uEnd cmp N N0 rN ps τA τB (sN s) post)
def uLf (KT : vKT) (tb : XT) (tyl : List FieldType) (ov : vOt) (CT : Nat → List vCt) (hs : Nat → Nat → Option (List vHn)) (kn : Nat → Nat → Option Nat) (WA WB : List (Nat × Nat)) (f dA kA dB kB : Nat) (cmp : Bool) (N N0 : vAn) (rN : List vRc) (ps : List (Bool × Nat)) (pA pB : Nat → Bool) (n : Nat) (post : List lT → vSt → List lT → List Nat → Bool) (sk : List lT) (s : vSt) : Bool :=
  sk.all (lBd (sN s)) && uL2 KT tb tyl ov CT hs kn WA WB f dA kA dB kB cmp N N0 rN ps pA pB (post sk) s (nTau pA s) (nTau pB s) (nPick pA (x_en 0 (.inr (some 0) :: argVs (aI N).length n)) s (nTau pA s)) (nPick pB (x_en 0 (.inr (some 0) :: argVs (aI N).length n)) s (nTau pB s))
theorem uL2_spec {KT : vKT} {tb : XT} {tyl : List FieldType} {ot : XO Int32} {ov : vOt} (hov : vOvLe ov (o4 ot)) {CT : Nat → List vCt} {hs : Nat → Nat → Option (List vHn)} {kn : Nat → Nat → Option Nat} (hCT : ∀ j c, c ∈ CT j → vCtSem KT tb tyl ot j c) {WA WB : List (Nat × Nat)} {f dA kA dB kB d n t : Nat} {cmp : Bool} {N N0 : vAn} {rN : List vRc} {ps : List (Bool × Nat)} {pA pB : Nat → Bool} {post : vSt → List lT → List Nat → Bool} {s : vSt} {τA τB : List Nat} {EA EB : vAn}
    (hk : uL2 KT tb tyl ov CT hs kn WA WB f dA kA dB kB cmp N N0 rN ps pA pB post s τA τB EA EB = true) (hLA : aL EA = x_en 0 (.inr (some 0) :: argVs (aI N).length n)) (hLB : aL EB = x_en 0 (.inr (some 0) :: argVs (aI N).length n))
    (cA : kCl KT.1 pA = true) (cB : kCl KT.1 pB = true) (qA : pA KT.2.1.1 = true → pA KT.2.1.2.2.2.1 = true) (qB : pB KT.2.1.1 = true → pB KT.2.1.2.2.2.1 = true) (hd : ∀ c, pA c = true → pB c = true → False) (hJ : KT.1.all (fun kd => match kd with | .inr o => decide (o.1 ≠ 77) | _ => true) = true)
    (hNp : ps.length = (aG N).length) (hNs : aS N = []) {xA xB : XM} (hxA : tMth tb kA = some xA) (hxB : tMth tb kB = some xB) (hdA : dA ≤ d) (hdB : dB ≤ d)
    {ρ : Nat → Int} {σ : Nat → Nat} {ty : Nat → Option Nat} {H : List (XC Int32)} (h : vRel KT ρ σ ty H s) (hn : (aI N).length + n ≤ sN s) (hv : ∀ i, i < n → ρ ((aI N).length + i) = (oSc ot (t + (1 + i))).toInt) (hlen : H.length + (mMc xA + mMc xB) ≤ 1000000) :
    ∃ (a c : Int32) (HA HH : List (XC Int32)), x_To tb tyl ot d kA 0 (x_en 0 (.inr (some (sR σ 0)) :: bVs ot t n 1)) [] H 0 0 (some (.inl a)) HA ∧ x_To tb tyl ot d kB 0 (x_en 0 (.inr (some (sR σ 1)) :: bVs ot t n 1)) [] HA 0 0 (some (.inl c)) HH ∧ HH.length ≤ H.length + (mMc xA + mMc xB) ∧ (∀ a c, tyP pB ty a = some c → HA[a]? = H[a]?) ∧ (cmp = true → a = c) ∧
      (a = c → ∃ (ρ2 : Nat → Int) (σ2 : Nat → Nat) (ty2 : Nat → Option Nat), ρ2 0 = ρ 0 ∧ ρ2 1 = ρ 1 + 7 ∧ (∀ i, i < ps.length → sR σ2 i = sR σ i) ∧ vRel KT ρ2 σ2 ty2 HH (aSt N) ∧ vFrm WA (tyP pA ty) H HH ∧ vFrm WB (tyP pB ty) H HH ∧ 
      ∃ (J : vSt) (θ : List lT) (τ : List Nat) (ρJ : Nat → Int) (σJ : Nat → Nat), (∀ i, i < sN s → ρJ i = ρ i) ∧ vRel KT ρJ σJ ty2 HH J ∧ (∀ i, i < ps.length → sO σJ τ i = sR σ i) ∧ vMc (aNl N0) θ τ [] [] J = true ∧ post J θ τ = true) := by
  unfold uL2 at hk
  simp only [Bool.and_eq_true] at hk
  obtain ⟨⟨⟨⟨⟨⟨⟨⟨⟨⟨⟨⟨k1, k2⟩, k3⟩, k4⟩, k5⟩, k6⟩, k7⟩, k8⟩, k9⟩, k10⟩, k11⟩, k12⟩, k13⟩ := hk
  have k7 := of_decide_eq_true k7
  have k10 := of_decide_eq_true k10
  have k11 := of_decide_eq_true k11
  have k12 := of_decide_eq_true k12
  obtain ⟨-, -, -, -, lA, -⟩ := vMc_spec h k1
  obtain ⟨-, -, -, -, lB, -⟩ := vMc_spec h k2
  have lA : τA.length = (aG EA).length := lA
  have lB : τB.length = (aG EB).length := lB
  have e0 : ∀ (τ : List Nat) (j : Nat), τ[0]? = some j → sR (sO σ τ) 0 = sR σ j := fun τ j hτ => sOx hτ (by omega)
  have step : ∀ b : pC, pSt KT (sN s) τA.length τB.length WA WB b b EA EB → b.1 = rO ρ ((List.range (sN s)).map lSy) → b.2.1 = sO σ τA → b.2.2.1 = sO σ τB → b.2.2.2.2.2.1.length = H.length → b.2.2.2.2.2.2.length ≤ H.length + mMc xA → ∃ vA H1 vB H2, x_To tb tyl ot d kA 0 (x_en 0 (.inr (some (sR σ 0)) :: bVs ot t n 1)) [] b.2.2.2.2.2.1 0 0 vA H1 ∧ x_To tb tyl ot d kB 0 (x_en 0 (.inr (some (sR σ 1)) :: bVs ot t n 1)) [] b.2.2.2.2.2.2 0 0 vB H2 ∧ (∃ a c : Int32, vA = some (.inl a) ∧ vB = some (.inl c) ∧ (cmp = true → a = c) ∧ vFrm WA b.2.2.2.1 b.2.2.2.2.2.1 H1 ∧ H1.length ≤ b.2.2.2.2.2.1.length + mMc xA ∧ H2.length ≤ b.2.2.2.2.2.2.length + mMc xB ∧ (a = c → ∃ z : vAn × vAn × List lT, (∃ q, rcs [] [] (jSt z.1 z.2.1) (aRc N0) [] (jTa (aG z.1).length ps) = some q ∧ vMc (aNl N0) q.1 (jTa (aG z.1).length ps) [] [] (jSt z.1 z.2.1) = true ∧ post (jSt z.1 z.2.1) q.1 (jTa (aG z.1).length ps) = true) ∧ jOkT (aNl N) (sN s) τA.length τB.length τA τB ps z = true ∧ pQ KT (sN s) τA.length τB.length WA WB (mMc xA) (mMc xB) [(z.1, z.2.1)] b vA H1 vB H2)) := by
    intro b hb e1 e2 e3 e8 e9
    have bv : ∀ i, i < n → b.1 ((aI N).length + i) = (oSc ot (t + (1 + i))).toInt := fun i hi => by
      rw [e1]
      unfold rO
      rw [List.getD_eq_getElem?_getD, List.getElem?_map, List.getElem?_range (by omega)]
      show lEv ρ (lSy ((aI N).length + i)) = _
      rw [lSy_ev]
      exact hv i hi
    have u0 : sR b.2.1 0 = sR σ 0 := by rw [e2]; exact e0 τA 0 k10
    have u1 : sR b.2.2.1 0 = sR σ 1 := by rw [e3]; exact e0 τB 1 k11
    have lA2 : (.inr (some 0) :: argVs (aI N).length n : List vA).map (cv b.1 b.2.1) = .inr (some (sR σ 0)) :: bVs ot t n 1 := by
      rw [List.map_cons, argVs_cv n _ 1 bv, ← u0]
      rfl
    have lB2 : (.inr (some 0) :: argVs (aI N).length n : List vA).map (cv b.1 b.2.2.1) = .inr (some (sR σ 1)) :: bVs ot t n 1 := by
      rw [List.map_cons, argVs_cv n _ 1 bv, ← u1]
      rfl
    obtain ⟨vA, H1, vB, H2, z1, z2, ρ4, σA4, σB4, tyA4, tyB4, sa, av, sb, bw, g1, g2, g3, g4, g5, g6, g7, g8, g9, g10, g11, g12, g13, -, -, g16⟩ := uPr2_spec hov hCT k13 hxA hxB hdA hdB hb.1 hb.2.1 (by rw [e8]; omega) (by omega) (LA := x_en 0 (.inr (some (sR σ 0)) :: bVs ot t n 1)) (LB := x_en 0 (.inr (some (sR σ 1)) :: bVs ot t n 1)) (by
      rw [hLA, ← lA2]
      exact vCov_en _ 0) (by
      rw [hLB, ← lB2]
      exact vCov_en _ 0)
    unfold uEnd at g16
    split at g16
    rotate_left
    · cases g16
    rename_i eA eB
    have v1 : vA = some (.inl (Int32.ofInt (lEv ρ4 eA))) := g10
    have v2 : vB = some (.inl (Int32.ofInt (lEv ρ4 eB))) := g11
    refine ⟨vA, H1, vB, H2, z1, z2, _, _, v1, v2, fun hc => ?_, g6, g12, g13, fun hac => ?_⟩
    · rcases Bool.or_eq_true_iff.mp g16 with g17 | g17
      · obtain ⟨g18, -⟩ := Bool.and_eq_true_iff.mp g17
        rw [hc] at g18
        exact absurd g18 Bool.false_ne_true
      · simp only [Bool.and_eq_true] at g17
        have g18 : (!cmp || lQ (sI sb) (sC sb) eA eB) = true := g17.1.1.1
        have g19 : lQ (sI sb) (sC sb) eA eB = true := by
          rcases Bool.or_eq_true_iff.mp g18 with g | g
          · rw [hc] at g
            exact absurd g Bool.false_ne_true
          · exact g
        rw [lQ_spec g9.2.2.2.1 g9.2.2.2.2.1 g19]
    · rcases Bool.or_eq_true_iff.mp g16 with g16 | g16
      · exact absurd hac (uNe_spec g9 (Bool.and_eq_true_iff.mp g16).2)
      simp only [Bool.and_eq_true] at g16
      obtain ⟨⟨⟨-, x1⟩, x2⟩, x3⟩ := g16
      unfold uFin at x3
      split at x3
      rotate_left
      · cases x3
      rename_i p hp
      obtain ⟨x4, x5⟩ := Bool.and_eq_true_iff.mp x3
      split at x5
      rotate_left
      · cases x5
      rename_i q hq
      obtain ⟨x6, x7⟩ := Bool.and_eq_true_iff.mp x5
      refine ⟨(stN (sJn sa sb) [.inl eA], stN sb [.inl eB], p.1), ⟨q, hq, x6, x7⟩, x4, (stN (sJn sa sb) [.inl eA], stN sb [.inl eB]), List.mem_singleton.mpr rfl, ρ4, σA4, σB4, tyA4, tyB4, ⟨stN_spec g8 x1 [.inl eA], stN_spec g9 x2 [.inl eB], fun i hi => g1 i (by omega), fun i hi => g2 i (by omega), fun i hi => g3 i (by omega), g4, g5, g6, g7⟩, ?_, ?_, g12, g13⟩
      · rw [v1]
        rfl
      · rw [v2]
        rfl
  have main : ∃ (a c : Int32) (HA HH : List (XC Int32)), x_To tb tyl ot d kA 0 (x_en 0 (.inr (some (sR σ 0)) :: bVs ot t n 1)) [] H 0 0 (some (.inl a)) HA ∧ x_To tb tyl ot d kB 0 (x_en 0 (.inr (some (sR σ 1)) :: bVs ot t n 1)) [] HA 0 0 (some (.inl c)) HH ∧ HH.length ≤ H.length + (mMc xA + mMc xB) ∧ (∀ x k, tyP pB ty x = some k → HA[x]? = H[x]?) ∧ (cmp = true → a = c) ∧
      (a = c → ∃ (ρ2 : Nat → Int) (σ2 : Nat → Nat) (ty2 : Nat → Option Nat), ρ2 0 = ρ 0 ∧ ρ2 1 = ρ 1 + 7 ∧ (∀ i, i < ps.length → sR σ2 i = sR σ i) ∧ vRel KT ρ2 σ2 ty2 HH (aSt N) ∧ vFrm WA (tyP pA ty) H HH ∧ vFrm WB (tyP pB ty) H HH ∧ ∃ z : vAn × vAn × List lT, (∃ q, rcs [] [] (jSt z.1 z.2.1) (aRc N0) [] (jTa (aG z.1).length ps) = some q ∧ vMc (aNl N0) q.1 (jTa (aG z.1).length ps) [] [] (jSt z.1 z.2.1) = true ∧ post (jSt z.1 z.2.1) q.1 (jTa (aG z.1).length ps) = true) ∧ ∃ (ρJ : Nat → Int) (σJ : Nat → Nat), (∀ i, i < sN s → ρJ i = ρ i) ∧ vRel KT ρJ σJ ty2 HH (jSt z.1 z.2.1) ∧ (∀ i, i < ps.length → sR (sO σJ (jTa (aG z.1).length ps)) i = sR σ i)) := by
    refine pJoinT (tb := tb) (tyl := tyl) (ot := ot) (N := N) (EA := EA) (EB := EB) (sE := s) (pA := pA) (pB := pB) cA cB qA qB hd hJ (τA := τA) (τB := τB) (ps := ps) k1 k2 k3 k4 k5 k6 k7 hNp hNs k8 k9 (n0 := sN s) (mA := τA.length) (mB := τB.length) (kA := kA) (kB := kB) (d := d) (mcA := mMc xA) (mcB := mMc xB) (WA := WA) (WB := WB) (Ψ := fun a c => cmp = true → a = c)
      (Φ := fun z => (∃ q, rcs [] [] (jSt z.1 z.2.1) (aRc N0) [] (jTa (aG z.1).length ps) = some q ∧ vMc (aNl N0) q.1 (jTa (aG z.1).length ps) [] [] (jSt z.1 z.2.1) = true ∧ post (jSt z.1 z.2.1) q.1 (jTa (aG z.1).length ps) = true)) (Nat.le_refl _) h (LA := x_en 0 (.inr (some (sR σ 0)) :: bVs ot t n 1)) (LB := x_en 0 (.inr (some (sR σ 1)) :: bVs ot t n 1))
      (Q := fun b vA H1 vB H2 => (∃ a c : Int32, vA = some (.inl a) ∧ vB = some (.inl c) ∧ (cmp = true → a = c) ∧ vFrm WA b.2.2.2.1 b.2.2.2.2.2.1 H1 ∧ H1.length ≤ b.2.2.2.2.2.1.length + mMc xA ∧ H2.length ≤ b.2.2.2.2.2.2.length + mMc xB ∧ (a = c → ∃ z : vAn × vAn × List lT, (∃ q, rcs [] [] (jSt z.1 z.2.1) (aRc N0) [] (jTa (aG z.1).length ps) = some q ∧ vMc (aNl N0) q.1 (jTa (aG z.1).length ps) [] [] (jSt z.1 z.2.1) = true ∧ post (jSt z.1 z.2.1) q.1 (jTa (aG z.1).length ps) = true) ∧ jOkT (aNl N) (sN s) τA.length τB.length τA τB ps z = true ∧ pQ KT (sN s) τA.length τB.length WA WB (mMc xA) (mMc xB) [(z.1, z.2.1)] b vA H1 vB H2))) (fun b vA H1 vB H2 h => by
        obtain ⟨a, c, h1, h2, h3, h4, h5, h6, h7⟩ := h
        exact ⟨a, c, h1, h2, h3, h4, h5, h6, h7⟩) (fun b hb e1 e2 e3 e4 e5 e6 e7 e8 e9 => by
      obtain ⟨vA, H1, vB, H2, z1, z2, z3⟩ := step b hb e1 e2 e3 e8 e9
      exact ⟨vA, H1, vB, H2, z1, z2, z3⟩)
  obtain ⟨a, c, HA, HH, q1, q2, q3, q4, q6, q5⟩ := main
  refine ⟨a, c, HA, HH, q1, q2, q3, q4, q6, fun hac => ?_⟩
  obtain ⟨ρ3, σ2, ty2, r1, r2, r3, r4, r5, r6, z, ⟨q, hq, hm, hp⟩, ρJ, σJ, j1, j2, j3⟩ := q5 hac
  refine ⟨ρ3, σ2, ty2, r1, r2, r3, r4, r5, r6, jSt z.1 z.2.1, q.1, jTa (aG z.1).length ps, ρJ, σJ, j1, j2, fun i hi => ?_, hm, hp⟩
  have hN : (jTa (aG z.1).length ps).length < 1000000 := by
    have l5 : (jTa (aG z.1).length ps).length = (aG N0).length := (vMc_spec j2 hm).2.2.2.2.1
    have k := hm
    unfold vMc at k
    simp only [Bool.and_eq_true] at k
    have k8 : (aG N0).length < 1000000 := of_decide_eq_true k.2
    omega
  have e : (jTa (aG z.1).length ps).length = ps.length := List.length_map ..
  have h3 := j3 i hi
  unfold sR at h3
  rw [if_pos (by omega)] at h3
  exact h3
/-- more ints, of some bounds -/
def aAdd (A : vAn) (bd : List (Int × Int)) : vAn := (aG A, aI A ++ bd, [], [], aF A, aC A, aM A, (lK 0, lK 0, lK 0, 0, 0, [], none), [])
theorem vRel_add {KT : vKT} {ρ ρ2 : Nat → Int} {σ : Nat → Nat} {ty : Nat → Option Nat} {H : List (XC Int32)} {A : vAn} (h : vRel KT ρ σ ty H (aSt A)) (hb : sBd (aSt A) = true) {bd : List (Int × Int)} (h1 : ∀ i, i < (aI A).length → ρ2 i = ρ i) (h2 : ∀ j p, bd[j]? = some p → p.1 ≤ ρ2 ((aI A).length + j) ∧ ρ2 ((aI A).length + j) ≤ p.2) : vRel KT ρ2 σ ty H (aSt (aAdd A bd)) := by
  have g := vRel_ext h hb (fun i hi => h1 i hi) (fun _ _ => rfl)
  refine ⟨g.1, g.2.1, g.2.2.1, zipI_spec.mpr (fun j p hp => ?_), g.2.2.2.2.1, g.2.2.2.2.2⟩
  rw [Nat.zero_add]
  have hp : (aI A ++ bd)[j]? = some p := hp
  by_cases hj : j < (aI A).length
  · rw [List.getElem?_append_left hj] at hp
    have q := zipI_spec.mp g.2.2.2.1 j p hp
    rw [Nat.zero_add] at q
    exact q
  · rw [List.getElem?_append_right (by omega)] at hp
    have e := h2 (j - (aI A).length) p hp
    rw [show (aI A).length + (j - (aI A).length) = j by omega] at e
    exact e
/-- each int of the counts stands at a place -/
def nPin (N0 : vAn) : Bool := decide ((aG N0).length < 1000000) && (List.range (aI N0).length).all (fun i => (match (aI N0)[i]? with
  | some p => decide (-2147483648 ≤ p.1) && decide (p.2 ≤ 2147483647)
  | none => false) && (aF N0).any (fun f => decide (f.2.2 = .inl (lSy i)) && decide (f.1 < (aG N0).length) && kyBd 0 f.2.1))
theorem nPin_spec {N0 : vAn} (hk : nPin N0 = true) {ρ ρ' : Nat → Int} {σ σ' : Nat → Nat} {H : List (XC Int32)} (h : nHd N0 ρ σ H) (h' : nHd N0 ρ' σ' H) (hs : ∀ i, i < (aG N0).length → sR σ' i = sR σ i) : ∀ i, i < (aI N0).length → ρ' i = ρ i := by
  intro i hi
  obtain ⟨k0, k⟩ := Bool.and_eq_true_iff.mp hk
  have k0 := of_decide_eq_true k0
  obtain ⟨k1, k2⟩ := Bool.and_eq_true_iff.mp (List.all_eq_true.mp k i (List.mem_range.mpr hi))
  obtain ⟨f, hf, k3⟩ := List.any_eq_true.mp k2
  simp only [Bool.and_eq_true] at k3
  obtain ⟨⟨k4, k5⟩, k6⟩ := k3
  have k4 := of_decide_eq_true k4
  have k5 := of_decide_eq_true k5
  have hp : (aI N0)[i]? = some ((aI N0)[i]'hi) := List.getElem?_eq_getElem hi
  rw [hp] at k1
  obtain ⟨b1, b2⟩ := Bool.and_eq_true_iff.mp k1
  have b1 := of_decide_eq_true b1
  have b2 := of_decide_eq_true b2
  obtain ⟨x, key, v⟩ := f
  have k4 : v = .inl (lSy i) := k4
  subst k4
  have r1 := vHolds_int (h.1 _ hf)
  have r2 := vHolds_int (h'.1 _ hf)
  have c1 := zipI_spec.mp h.2.1 i _ hp
  have c2 := zipI_spec.mp h'.2.1 i _ hp
  rw [Nat.zero_add] at c1 c2
  have hx : ∀ j, j < (aG N0).length → σ' j = σ j := fun j hj => by
    have := hs j hj
    unfold sR at this
    rw [if_pos (by omega), if_pos (by omega)] at this
    exact this
  have r1 : vPlace ρ σ H x key (.inl (Int32.ofInt (ρ i))) := by
    have e : cv ρ σ (.inl (lSy i)) = .inl (Int32.ofInt (ρ i)) := congrArg (fun z => Sum.inl (Int32.ofInt z)) (lSy_ev ρ i)
    rw [← e]
    exact r1
  have r2 : vPlace ρ' σ' H x key (.inl (Int32.ofInt (ρ' i))) := by
    have e : cv ρ' σ' (.inl (lSy i)) = .inl (Int32.ofInt (ρ' i)) := congrArg (fun z => Sum.inl (Int32.ofInt z)) (lSy_ev ρ' i)
    rw [← e]
    exact r2
  have r3 : vPlace ρ' σ' H x key (.inl (Int32.ofInt (ρ i))) := vPlace_ext (n := 0) (m := (aG N0).length) (fun i hi => absurd hi (Nat.not_lt_zero i)) hx (by
    show ((decide (x < (aG N0).length) || decide (1000000 ≤ x)) && kyBd 0 key && true) = true
    have k5 : x < (aG N0).length := k5
    have k6 : kyBd 0 key = true := k6
    rw [decide_eq_true k5, k6]
    rfl) r1
  have e := vPlace_one r2 r3
  have e : (Sum.inl (Int32.ofInt (ρ' i)) : XV Int32) = .inl (Int32.ofInt (ρ i)) := e
  have e : Int32.ofInt (ρ' i) = Int32.ofInt (ρ i) := by
    injection e
  have e2 := congrArg Int32.toInt e
  rw [ofInt_toInt (by omega) (by omega), ofInt_toInt (by omega) (by omega)] at e2
  exact e2
def uCo : List lT → vSt → Option vSt
  | [], s => some s
  | e :: r, s => match vCo e s with
    | some s2 => uCo r s2
    | none => none
theorem uCo_spec {KT : vKT} {ρ : Nat → Int} {σ : Nat → Nat} {ty : Nat → Option Nat} {H : List (XC Int32)} : ∀ {l : List lT} {s : vSt}, vRel KT ρ σ ty H s → (∀ e ∈ l, 0 ≤ lEv ρ e) → ∃ s2, uCo l s = some s2 ∧ vRel KT ρ σ ty H s2
  | [], s, h, _ => ⟨s, rfl, h⟩
  | e :: r, s, h, he => by
    obtain ⟨s2, g1, g2, -, -, -⟩ := vCo_spec h (he e List.mem_cons_self)
    obtain ⟨s3, g3, g4⟩ := uCo_spec g2 (fun x hx => he x (List.mem_cons_of_mem _ hx))
    refine ⟨s3, ?_, g4⟩
    unfold uCo
    rw [g1]
    exact g3
/-- the family again, at the ints that are told -/
def uPost (u : uN) (sk : List lT) (J : vSt) (θ : List lT) (τ : List Nat) : Bool := decide (sk.length = (uBd u).length) && (uPr u).all (lBd (θ.length + sk.length)) && ((uPr u).any (fun c => lGe (sI J) (sC J) (lSub (lK (-1)) (lSb (θ ++ sk) c))) || (match uCo ((uPr u).map (lSb (θ ++ sk))) J with
  | none => true
  | some J2 => (match rcs [] [] J2 (aRc (uNt u)) (θ ++ sk) τ with
    | some p => vMc (aNl (uNt u)) p.1 p.2 [] [] J2
    | none => false)))
theorem uPost_spec {KT : vKT} {u : uN} {sk : List lT} {J : vSt} {θ : List lT} {τ : List Nat} (hk : uPost u sk J θ τ = true) {ρ : Nat → Int} {σ : Nat → Nat} {ty : Nat → Option Nat} {H : List (XC Int32)} (h : vRel KT ρ σ ty H J) {ρ1 : Nat → Int} (e : ∀ i, i < θ.length + (uBd u).length → rO ρ (θ ++ sk) i = ρ1 i) (hp : ∀ c ∈ uPr u, 0 ≤ lEv ρ1 c) {m0 : Nat} (hm : m0 ≤ τ.length) :
    ∃ ρ2 σ2, (∀ i, i < θ.length + (uBd u).length → ρ2 i = ρ1 i) ∧ (∀ i, i < m0 → σ2 i = sO σ τ i) ∧ nHd (uNt u) ρ2 σ2 H := by
  unfold uPost at hk
  simp only [Bool.and_eq_true] at hk
  obtain ⟨⟨k1, k2⟩, k3⟩ := hk
  have k1 := of_decide_eq_true k1
  have hpr : ∀ c ∈ uPr u, 0 ≤ lEv ρ (lSb (θ ++ sk) c) := fun c hc => by
    rw [lSb_ev, lBd_spec (n := θ.length + sk.length) (ρ := ρ1) (fun i hi => e i (by omega)) (List.all_eq_true.mp k2 c hc)]
    exact hp c hc
  have k3 : (match uCo ((uPr u).map (lSb (θ ++ sk))) J with
      | none => true
      | some J2 => (match rcs [] [] J2 (aRc (uNt u)) (θ ++ sk) τ with
        | some p => vMc (aNl (uNt u)) p.1 p.2 [] [] J2
        | none => false)) = true := by
    rcases Bool.or_eq_true_iff.mp k3 with k3 | k3
    · obtain ⟨c, hc, k3⟩ := List.any_eq_true.mp k3
      have h1 := lGe_spec h.2.2.2.1 h.2.2.2.2.1 k3
      have h2 := hpr c hc
      rw [lSub_ev, lK_ev] at h1
      omega
    · exact k3
  obtain ⟨J2, g1, g2⟩ := uCo_spec (l := (uPr u).map (lSb (θ ++ sk))) h (fun x hx => by
    obtain ⟨c, hc, rfl⟩ := List.mem_map.mp hx
    exact hpr c hc)
  rw [g1] at k3
  dsimp only at k3
  split at k3
  rotate_left
  · cases k3
  rename_i p hq
  obtain ⟨v1, -, -, v4, v5, -⟩ := vMc_spec g2 k3
  obtain ⟨⟨t, ht⟩, ⟨w, hw⟩⟩ := rcs_pre hq
  refine ⟨rO ρ p.1, sO σ p.2, fun i hi => ?_, fun i hi => ?_, v1.2.2.1, v1.2.2.2.1, v1.2.2.2.2.1⟩
  · rw [← e i hi]
    unfold rO
    rw [ht, List.getD_eq_getElem?_getD, List.getD_eq_getElem?_getD, List.getElem?_append_left (by rw [List.length_append]; omega)]
  · unfold sO
    rw [hw, List.getD_eq_getElem?_getD, List.getD_eq_getElem?_getD, List.getElem?_append_left (by omega)]
/-- the counts are ints of the head's note -/
def nPin2 (N N0 : vAn) (bs : List Nat) : Bool := decide (bs.length = (aI N0).length) && decide ((aG N0).length < 1000000) && (List.range (aI N0).length).all (fun i => match (aI N0)[i]?, (aI N)[bs.getD i 0]? with
  | some p, some r => decide (-2147483648 ≤ p.1) && decide (p.2 ≤ 2147483647) && decide (-2147483648 ≤ r.1) && decide (r.2 ≤ 2147483647) && (aF N0).any (fun f => decide (f.2.2 = .inl (lSy i)) && decide (f.1 < (aG N0).length) && kyBd 0 f.2.1 && (aF N).any (fun g => decide (g = (f.1, f.2.1, .inl (lSy (bs.getD i 0))))))
  | _, _ => false)
theorem nPin2_spec {KT : vKT} {N N0 : vAn} {bs : List Nat} (hk : nPin2 N N0 bs = true) {ρ ρP : Nat → Int} {σ : Nat → Nat} {ty : Nat → Option Nat} {H : List (XC Int32)} (h : vRel KT ρ σ ty H (aSt N)) (g : nHd N0 ρP σ H) : bs.length = (aI N0).length ∧ ∀ i, i < (aI N0).length → bs.getD i 0 < (aI N).length ∧ ρ (bs.getD i 0) = ρP i := by
  unfold nPin2 at hk
  simp only [Bool.and_eq_true] at hk
  obtain ⟨⟨k0, k1⟩, k2⟩ := hk
  refine ⟨of_decide_eq_true k0, fun i hi => ?_⟩
  have k3 := List.all_eq_true.mp k2 i (List.mem_range.mpr hi)
  split at k3
  rotate_left
  · cases k3
  rename_i p r hp hr
  simp only [Bool.and_eq_true] at k3
  obtain ⟨⟨⟨⟨b1, b2⟩, b3⟩, b4⟩, b5⟩ := k3
  have b1 := of_decide_eq_true b1
  have b2 := of_decide_eq_true b2
  have b3 := of_decide_eq_true b3
  have b4 := of_decide_eq_true b4
  obtain ⟨f, hf, b6⟩ := List.any_eq_true.mp b5
  simp only [Bool.and_eq_true] at b6
  obtain ⟨⟨⟨c1, c2⟩, c3⟩, c4⟩ := b6
  have c1 := of_decide_eq_true c1
  obtain ⟨w, hw, c4⟩ := List.any_eq_true.mp c4
  have c4 := of_decide_eq_true c4
  subst c4
  obtain ⟨x, key, v⟩ := f
  have c1 : v = .inl (lSy i) := c1
  subst c1
  have r1 := vHolds_int (g.1 _ hf)
  have r2 := vHolds_int (h.2.2.1 _ hw)
  have q1 := zipI_spec.mp g.2.1 i p hp
  have q2 := zipI_spec.mp h.2.2.2.1 _ r hr
  rw [Nat.zero_add] at q1 q2
  have key2 : vPlace ρ σ H x key (cv ρP σ (.inl (lSy i))) := vPlace_ext (n := 0) (m := (aG N0).length) (fun i hi => absurd hi (Nat.not_lt_zero i)) (fun _ _ => rfl) (by
    show ((decide (x < (aG N0).length) || decide (1000000 ≤ x)) && kyBd 0 key && true) = true
    have c3 : kyBd 0 key = true := c3
    rw [c2, c3]
    rfl) r1
  have e := vPlace_one r2 key2
  have e : (Sum.inl (Int32.ofInt (lEv ρ (lSy (bs.getD i 0)))) : XV Int32) = .inl (Int32.ofInt (lEv ρP (lSy i))) := e
  rw [lSy_ev, lSy_ev] at e
  have e : Int32.ofInt (ρ (bs.getD i 0)) = Int32.ofInt (ρP i) := by
    injection e
  have e2 := congrArg Int32.toInt e
  rw [ofInt_toInt (by omega) (by omega), ofInt_toInt (by omega) (by omega)] at e2
  exact ⟨(List.getElem?_eq_some_iff.mp hr).1, e2⟩
/-- both calls at the head, once for the answers, once for each family -/
def uBk (KT : vKT) (tb : XT) (tyl : List FieldType) (ov : vOt) (CT : Nat → List vCt) (hs : Nat → Nat → Option (List vHn)) (kn : Nat → Nat → Option Nat) (WA WB : List (Nat × Nat)) (f dA kA dB kB : Nat) (cmp : Bool) (N N0 : vAn) (US : List uN) (rN : List vRc) (ps : List (Bool × Nat)) (pA pB : Nat → Bool) (n : Nat) (bs : List Nat) (ops : List uOp) (bd : List (Int × Int)) (post : List lT → vSt → List lT → List Nat → Bool) : Bool :=
  uGo bs (aG N0) US (uLf KT tb tyl ov CT hs kn WA WB f dA kA dB kB cmp N N0 rN ps pA pB n post) ops ((List.range bd.length).map (fun j => lSy ((aI (aArg n N)).length + j))) false (aSt (aAdd (aArg n N) bd))
def uBkS (p : List Bool) (KT : vKT) (tb : XT) (tyl : List FieldType) (ov : vOt) (CT : Nat → List vCt) (hs : Nat → Nat → Option (List vHn)) (kn : Nat → Nat → Option Nat) (WA WB : List (Nat × Nat)) (f dA kA dB kB : Nat) (cmp : Bool) (N N0 : vAn) (US : List uN) (rN : List vRc) (ps : List (Bool × Nat)) (pA pB : Nat → Bool) (n : Nat) (bs : List Nat) (ops : List uOp) (bd : List (Int × Int)) (post : List lT → vSt → List lT → List Nat → Bool) : Bool :=
  uGoS bs (aG N0) US (uLf KT tb tyl ov CT hs kn WA WB f dA kA dB kB cmp N N0 rN ps pA pB n post) ops p ((List.range bd.length).map (fun j => lSy ((aI (aArg n N)).length + j))) false (aSt (aAdd (aArg n N) bd))
theorem uBk_S (m : Nat) {KT : vKT} {tb : XT} {tyl : List FieldType} {ov : vOt} {CT : Nat → List vCt} {hs : Nat → Nat → Option (List vHn)} {kn : Nat → Nat → Option Nat} {WA WB : List (Nat × Nat)} {f dA kA dB kB : Nat} {cmp : Bool} {N N0 : vAn} {US : List uN} {rN : List vRc} {ps : List (Bool × Nat)} {pA pB : Nat → Bool} {n : Nat} {bs : List Nat} {ops : List uOp} {bd : List (Int × Int)} {post : List lT → vSt → List lT → List Nat → Bool} (h : ∀ p ∈ uPa m, uBkS p KT tb tyl ov CT hs kn WA WB f dA kA dB kB cmp N N0 US rN ps pA pB n bs ops bd post = true) : uBk KT tb tyl ov CT hs kn WA WB f dA kA dB kB cmp N N0 US rN ps pA pB n bs ops bd post = true :=
  uGoS_go ops m _ false _ (fun p hp => h p (uPa_mem m p hp))
def uSt (KT : vKT) (N N0 : vAn) (US : List uN) (ps : List (Bool × Nat)) (n : Nat) (bs : List Nat) : Bool := decide (aG N0 = aG N) && decide (aM N0 = []) && US.all (uOk KT (aI N0).length (aG N0)) && decide (ps.length = (aG N).length) && decide (aS N = []) && sBd (aSt N) && sBd (aSt (aArg n N)) && nPin2 N N0 bs && decide (2 ≤ (aI N).length) && nPin N0 && sBd (aSt N0) && vMc (aNl N0) (uBs bs) (List.range (aG N0).length) [] [] (aSt N)
/-- a round of both calls, with some ints told -/
theorem uGoB {KT : vKT} {tb : XT} {tyl : List FieldType} {ot : XO Int32} {ov : vOt} (hov : vOvLe ov (o4 ot)) {CT : Nat → List vCt} {hs : Nat → Nat → Option (List vHn)} {kn : Nat → Nat → Option Nat} (hCT : ∀ j c, c ∈ CT j → vCtSem KT tb tyl ot j c) {N N0 : vAn} {US : List uN} {pA pB : Nat → Bool} {n : Nat} {rN : List vRc} {ps : List (Bool × Nat)} {bs : List Nat}
    (cA : kCl KT.1 pA = true) (cB : kCl KT.1 pB = true) (qA : pA KT.2.1.1 = true → pA KT.2.1.2.2.2.1 = true) (qB : pB KT.2.1.1 = true → pB KT.2.1.2.2.2.1 = true) (hd : ∀ c, pA c = true → pB c = true → False) (hJ : KT.1.all (fun kd => match kd with | .inr o => decide (o.1 ≠ 77) | _ => true) = true)
    (hst : uSt KT N N0 US ps n bs = true) {kA kB d f dA dB : Nat} {WA WB : List (Nat × Nat)} {xA xB : XM} (hxA : tMth tb kA = some xA) (hxB : tMth tb kB = some xB) (hdA : dA ≤ d) (hdB : dB ≤ d) {t : Nat} {cmp : Bool} {opx : List uOp} {bd : List (Int × Int)} {post : List lT → vSt → List lT → List Nat → Bool} (hk : uBk KT tb tyl ov CT hs kn WA WB f dA kA dB kB cmp N N0 US rN ps pA pB n bs opx bd post = true) (l2 : 2 ≤ ps.length)
    {ρ : Nat → Int} {σ : Nat → Nat} {ty : Nat → Option Nat} {H : List (XC Int32)} (h : vRel KT ρ σ ty H (aSt N)) (hP : lwPu N0 US σ ty H) (h7 : ρ 1 + 7 ≤ ρ 0) (hlen : H.length + (mMc xA + mMc xB) ≤ 1000000) {v : Nat → Int} (hv : ∀ j p, bd[j]? = some p → p.1 ≤ v j ∧ v j ≤ p.2) :
    ∃ (a c : Int32) (HA HH : List (XC Int32)), x_To tb tyl ot d kA 0 (x_en 0 (.inr (some (sR σ 0)) :: bVs ot t n 1)) [] H 0 0 (some (.inl a)) HA ∧ x_To tb tyl ot d kB 0 (x_en 0 (.inr (some (sR σ 1)) :: bVs ot t n 1)) [] HA 0 0 (some (.inl c)) HH ∧ HH.length ≤ H.length + (mMc xA + mMc xB) ∧ (∀ a c, tyP pB ty a = some c → HA[a]? = H[a]?) ∧ (cmp = true → a = c) ∧
      (a = c → ∃ (ρ2 : Nat → Int) (σ2 : Nat → Nat) (ty2 : Nat → Option Nat), ρ2 0 = ρ 0 ∧ ρ2 1 = ρ 1 + 7 ∧ (∀ i, i < ps.length → sR σ2 i = sR σ i) ∧ vRel KT ρ2 σ2 ty2 HH (aSt N) ∧ vFrm WA (tyP pA ty) H HH ∧ vFrm WB (tyP pB ty) H HH ∧ 
        ∃ (sk : List lT) (J : vSt) (θ : List lT) (τ : List Nat) (ρJ : Nat → Int) (σJ : Nat → Nat), sk.length = bd.length ∧ (∀ j, j < bd.length → lEv ρJ (sk.getD j (lK 0)) = v j) ∧ vRel KT ρJ σJ ty2 HH J ∧ (∀ i, i < ps.length → sO σJ τ i = sR σ i) ∧ vMc (aNl N0) θ τ [] [] J = true ∧ post sk J θ τ = true) := by
  unfold uSt at hst
  simp only [Bool.and_eq_true] at hst
  obtain ⟨⟨⟨⟨⟨⟨⟨⟨⟨⟨⟨s1, s2⟩, s3⟩, s4⟩, s5⟩, s6⟩, s7⟩, s8⟩, s9⟩, s10⟩, s11⟩, s12⟩ := hst
  have s1 := of_decide_eq_true s1
  have s2 := of_decide_eq_true s2
  have s3 := List.all_eq_true.mp s3
  have s4 := of_decide_eq_true s4
  have s5 := of_decide_eq_true s5
  have s9 := of_decide_eq_true s9
  obtain ⟨ρP, gP, gU⟩ := hP
  let ρ1 : Nat → Int := fun j => if j < (aI N).length then ρ j else (oSc ot (t + (1 + (j - (aI N).length)))).toInt
  have eρ : ∀ j, j < (aI N).length → ρ1 j = ρ j := fun j hj => if_pos hj
  have eV : ∀ j, j < n → ρ1 ((aI N).length + j) = (oSc ot (t + (1 + j))).toInt := fun j _ => by
    show (if (aI N).length + j < (aI N).length then _ else (oSc ot (t + (1 + ((aI N).length + j - (aI N).length)))).toInt) = _
    rw [if_neg (by omega), Nat.add_sub_cancel_left]
  have hA1 := vRel_arg h s6 (by omega) s9 (n := n) (vals := fun j => oSc ot (t + (1 + j))) eρ eV
  have hpin := nPin2_spec s8 h gP
  have lenA : (aI (aArg n N)).length = (aI N).length + n := by
    show (aI N ++ List.replicate n _).length = _
    rw [List.length_append, List.length_replicate]
  have hG0 : (aG N0).length < 1000000 := by
    have k := s10
    unfold nPin at k
    exact of_decide_eq_true (Bool.and_eq_true_iff.mp k).1
  have hps : ∀ i, i < (aG N0).length → i < ps.length := fun i hi => by rw [s4, ← s1]; exact hi
  let ρ2 : Nat → Int := fun i => if i < (aI (aArg n N)).length then ρ1 i else v (i - (aI (aArg n N)).length)
  have e2 : ∀ i, i < (aI (aArg n N)).length → ρ2 i = ρ1 i := fun i hi => if_pos hi
  have e3 : ∀ j, ρ2 ((aI (aArg n N)).length + j) = v j := fun j => by
    show (if _ then _ else v ((aI (aArg n N)).length + j - (aI (aArg n N)).length)) = v j
    rw [if_neg (by omega), Nat.add_sub_cancel_left]
  have hX : vRel KT ρ2 σ ty H (aSt (aAdd (aArg n N) bd)) := vRel_add hA1 s7 e2 (fun j p hp => by
    rw [e3]
    exact hv j p hp)
  unfold uBk at hk
  obtain ⟨ρ3, σ3, s3', sk, x1, x2, x3, x4, x5⟩ := uGo_spec (KT := KT) (US := US) (bs := bs) (by rw [hpin.1]; exact s3) opx _ false hX (fun i c hc => by
    have hc : (aG N0)[i]? = some c := hc
    show (aG N)[i]? = some c
    rw [← s1]
    exact hc) (fun u hu => by
    have hb := hpin.1
    rw [hb]
    exact uHd_ext (gU u hu) (fun i hi => by
      obtain ⟨p1, p2⟩ := hpin.2 i hi
      rw [e2 _ (by omega)]
      show (if bs.getD i 0 < (aI N).length then ρ (bs.getD i 0) else _) = ρP i
      rw [if_pos p1, p2]) (fun _ _ => rfl)) hk
  have hsn : (aI (aArg n N) ++ bd).length ≤ sN s3' := x1.2.2.1
  rw [List.length_append] at hsn
  have r3 : ∀ i, i < (aI (aArg n N)).length → ρ3 i = ρ1 i := fun i hi => (x1.1 i (by
    show i < (aI (aArg n N) ++ bd).length
    rw [List.length_append]
    omega)).trans (e2 i hi)
  have rN0 : ∀ i, i < (aI N).length + n → ρ3 i = ρ1 i := fun i hi => r3 i (by omega)
  have rg : ∀ i, i < ps.length → sR σ3 i = sR σ i := fun i hi => by
    have := x1.2.1 i (by
      show i < (aG N).length
      rw [← s4]
      exact hi)
    unfold sR
    rw [this]
  unfold uLf at x5
  obtain ⟨x5, x6⟩ := Bool.and_eq_true_iff.mp x5
  obtain ⟨a, c, HA, HH, y1, y2, y7, y8, yc, ye⟩ := uL2_spec (ot := ot) (t := t) (d := d) hov hCT x6 rfl rfl cA cB qA qB hd hJ s4 s5 hxA hxB hdA hdB x2 (by omega) (fun i hi => by
    rw [rN0 _ (by omega)]
    exact eV i hi) hlen
  rw [rg 0 (by omega)] at y1
  rw [rg 1 (by omega)] at y2
  refine ⟨a, c, HA, HH, y1, y2, y7, y8, yc, fun hac => ?_⟩
  obtain ⟨ρ4, σ4, ty4, y3, y4, y5, y6, yf, yg, J, θ, τ, ρJ, σJ, y9, y10, y11, y12, y13⟩ := ye hac
  refine ⟨ρ4, σ4, ty4, ?_, ?_, fun i hi => (y5 i hi).trans (rg i hi), y6, yf, yg, sk, J, θ, τ, ρJ, σJ, ?_, fun j hj => ?_, y10, fun i hi => (y11 i hi).trans (rg i hi), y12, y13⟩
  · rw [y3, rN0 0 (by omega), eρ 0 (by omega)]
  · rw [y4, rN0 1 (by omega), eρ 1 (by omega)]
  · rw [x3, List.length_map, List.length_range]
  · have hl : j < sk.length := by
      rw [x3, List.length_map, List.length_range]
      exact hj
    have hs : sk[j]? = some (sk[j]'hl) := List.getElem?_eq_getElem hl
    have e4 := x4 j
    rw [List.getD_eq_getElem?_getD, hs] at e4 ⊢
    have e4 : lEv ρ3 (sk[j]'hl) = lEv ρ2 (((List.range bd.length).map (fun j => lSy ((aI (aArg n N)).length + j))).getD j (lK 0)) := e4
    show lEv ρJ (sk[j]'hl) = v j
    rw [lBd_spec (n := sN s3') y9 (List.all_eq_true.mp x5 _ (List.mem_of_getElem? hs)), e4, List.getD_eq_getElem?_getD, List.getElem?_map, List.getElem?_range hj]
    show lEv ρ2 (lSy ((aI (aArg n N)).length + j)) = v j
    rw [lSy_ev, e3]
/-- the families after both calls -/
theorem uFams {KT : vKT} {tb : XT} {tyl : List FieldType} {ot : XO Int32} {ov : vOt} (hov : vOvLe ov (o4 ot)) {CT : Nat → List vCt} {hs : Nat → Nat → Option (List vHn)} {kn : Nat → Nat → Option Nat} (hCT : ∀ j c, c ∈ CT j → vCtSem KT tb tyl ot j c) {N N0 : vAn} {US : List uN} {pA pB : Nat → Bool} {n : Nat} {rN : List vRc} {ps : List (Bool × Nat)} {bs : List Nat}
    (cA : kCl KT.1 pA = true) (cB : kCl KT.1 pB = true) (qA : pA KT.2.1.1 = true → pA KT.2.1.2.2.2.1 = true) (qB : pB KT.2.1.1 = true → pB KT.2.1.2.2.2.1 = true) (hd : ∀ c, pA c = true → pB c = true → False) (hJ : KT.1.all (fun kd => match kd with | .inr o => decide (o.1 ≠ 77) | _ => true) = true)
    (hst : uSt KT N N0 US ps n bs = true) {kA kB d f dA dB : Nat} {WA WB : List (Nat × Nat)} {xA xB : XM} (hxA : tMth tb kA = some xA) (hxB : tMth tb kB = some xB) (hdA : dA ≤ d) (hdB : dB ≤ d) {t : Nat} (l2 : 2 ≤ ps.length) (hfam : ∀ u ∈ US, ∃ opu, uBk KT tb tyl ov CT hs kn WA WB f dA kA dB kB false N N0 US rN ps pA pB n bs opu (uBd u) (uPost u) = true)
    {ρ : Nat → Int} {σ : Nat → Nat} {ty : Nat → Option Nat} {H : List (XC Int32)} (h : vRel KT ρ σ ty H (aSt N)) (hP : lwPu N0 US σ ty H) (h7 : ρ 1 + 7 ≤ ρ 0) (hlen : H.length + (mMc xA + mMc xB) ≤ 1000000) {a : Int32} {HA HH : List (XC Int32)} (z : x_To tb tyl ot d kA 0 (x_en 0 (.inr (some (sR σ 0)) :: bVs ot t n 1)) [] H 0 0 (some (.inl a)) HA ∧ x_To tb tyl ot d kB 0 (x_en 0 (.inr (some (sR σ 1)) :: bVs ot t n 1)) [] HA 0 0 (some (.inl a)) HH)
    {ρ2 : Nat → Int} {σ2 : Nat → Nat} {ty2 : Nat → Option Nat} (z5 : ∀ i, i < ps.length → sR σ2 i = sR σ i) (z6 : vRel KT ρ2 σ2 ty2 HH (aSt N)) : lwPu N0 US σ2 ty2 HH := by
  obtain ⟨z1, z2⟩ := z
  have hst0 := hst
  unfold uSt at hst
  simp only [Bool.and_eq_true] at hst
  obtain ⟨⟨⟨⟨⟨⟨⟨⟨⟨⟨⟨s1, s2⟩, s3⟩, s4⟩, s5⟩, s6⟩, s7⟩, s8⟩, s9⟩, s10⟩, s11⟩, s12⟩ := hst
  have s1 := of_decide_eq_true s1
  have s2 := of_decide_eq_true s2
  have s3 := List.all_eq_true.mp s3
  have s4 := of_decide_eq_true s4
  have s5 := of_decide_eq_true s5
  have s9 := of_decide_eq_true s9
  have hps : ∀ i, i < (aG N0).length → i < ps.length := fun i hi => by rw [s4, ← s1]; exact hi
  have hG0 : (aG N0).length < 1000000 := by
    have k := s10
    unfold nPin at k
    exact of_decide_eq_true (Bool.and_eq_true_iff.mp k).1
  have nh : ∀ {J : vSt} {θ : List lT} {τ : List Nat} {ρJ : Nat → Int} {σJ : Nat → Nat} {tyJ : Nat → Option Nat} {HJ : List (XC Int32)}, vRel KT ρJ σJ tyJ HJ J → vMc (aNl N0) θ τ [] [] J = true → nHd N0 (rO ρJ θ) (sO σJ τ) HJ ∧ θ.length = (aI N0).length ∧ τ.length = (aG N0).length := fun hJ hm => by
    obtain ⟨v1, -, -, v4, v5, -⟩ := vMc_spec hJ hm
    exact ⟨⟨v1.2.2.1, v1.2.2.2.1, v1.2.2.2.2.1⟩, v4, v5⟩
  obtain ⟨w1, -, -⟩ := nh z6 s12
  have hsO : ∀ {σJ : Nat → Nat} {τ : List Nat}, (∀ i, i < ps.length → sO σJ τ i = sR σ i) → ∀ i, i < (aG N0).length → sR (sO σJ τ) i = sR σ2 i := fun hτ i hi => by
    rw [z5 i (hps i hi)]
    show (if i < 1000000 then sO _ _ i else i) = _
    rw [if_pos (by omega)]
    exact hτ i (hps i hi)
  have w2 : nHd N0 (rO ρ2 (uBs bs)) σ2 HH := ⟨fun g hg => by
    have hg2 := w1.1 g hg
    refine fBd_spec (n := (aI N0).length) (m := (aG N0).length) (fun _ _ => rfl) (fun i hi => ?_) ?_ hg2
    · unfold sO
      rw [List.getD_eq_getElem?_getD, List.getElem?_range hi]
      show σ2 i = (if i < 1000000 then σ2 i else i)
      rw [if_pos (by omega)]
    · exact (sBd_spec s11).2.1 g hg, w1.2⟩
  refine ⟨rO ρ2 (uBs bs), w2, fun u hu ρ9 e1 e2 e3 => ?_⟩
  obtain ⟨opu, hku⟩ := hfam u hu
  obtain ⟨a', c', HA', HH', v1, v2, -, -, -, v7⟩ := uGoB hov hCT cA cB qA qB hd hJ hst0 hxA hxB hdA hdB hku l2 h hP (by omega) hlen e2
  obtain ⟨ea, rfl⟩ := x_To_one z1 v1
  obtain ⟨eb, rfl⟩ := x_To_one z2 v2
  have ea : a' = a := by
    injection ea with ea
    injection ea
  have eb : c' = a := by
    injection eb with eb
    injection eb
  obtain ⟨ρ2', σ2', ty2', -, -, -, -, -, -, sk', J', θ', τ', ρJ', σJ', v9, v10, v11, v12, v13, v14⟩ := v7 (ea.trans eb.symm)
  obtain ⟨w3, w4, w5⟩ := nh v11 v13
  have pin := nPin_spec s10 w2 w3 (hsO v12)
  obtain ⟨ρa, σa, t1, t2, t3⟩ := uPost_spec v14 v11 (ρ1 := ρ9) (fun i hi => by
    by_cases c : i < (aI N0).length
    · rw [e1 i c, ← pin i c]
      unfold rO
      rw [List.getD_eq_getElem?_getD, List.getD_eq_getElem?_getD, List.getElem?_append_left (by omega)]
    · have hj : i - (aI N0).length < (uBd u).length := by omega
      have e := v10 (i - (aI N0).length) hj
      rw [show (aI N0).length + (i - (aI N0).length) = i by omega] at e
      rw [← e]
      unfold rO
      rw [List.getD_eq_getElem?_getD, List.getD_eq_getElem?_getD, List.getElem?_append_right (by omega), w4]) e3 (m0 := (aG N0).length) (by omega)
  refine ⟨ρa, σa, fun i hi => t1 i (by rw [w4]; exact hi), fun i hi => ?_, t3⟩
  rw [t2 i hi, v12 i (hps i hi), z5 i (hps i hi)]
theorem bPU {KT : vKT} {tb : XT} {tyl : List FieldType} {ot : XO Int32} {ov : vOt} (hov : vOvLe ov (o4 ot)) {CT : Nat → List vCt} {hs : Nat → Nat → Option (List vHn)} {kn : Nat → Nat → Option Nat} (hCT : ∀ j c, c ∈ CT j → vCtSem KT tb tyl ot j c) {N N0 : vAn} {US : List uN} {pA pB : Nat → Bool} {n : Nat} {rN : List vRc} {ps : List (Bool × Nat)} {bs : List Nat}
    (cA : kCl KT.1 pA = true) (cB : kCl KT.1 pB = true) (qA : pA KT.2.1.1 = true → pA KT.2.1.2.2.2.1 = true) (qB : pB KT.2.1.1 = true → pB KT.2.1.2.2.2.1 = true) (hd : ∀ c, pA c = true → pB c = true → False) (hJ : KT.1.all (fun kd => match kd with | .inr o => decide (o.1 ≠ 77) | _ => true) = true)
    (hst : uSt KT N N0 US ps n bs = true) {kA kB d f dA dB : Nat} {WA WB : List (Nat × Nat)} {xA xB : XM} (hxA : tMth tb kA = some xA) (hxB : tMth tb kB = some xB) (hdA : dA ≤ d) (hdB : dB ≤ d) {ops : List uOp} (hmain : uBk KT tb tyl ov CT hs kn WA WB f dA kA dB kB true N N0 US rN ps pA pB n bs ops [] (fun _ _ _ _ => true) = true) (hfam : ∀ u ∈ US, ∃ opu, uBk KT tb tyl ov CT hs kn WA WB f dA kA dB kB false N N0 US rN ps pA pB n bs opu (uBd u) (uPost u) = true)
    {rA rB : Nat} (hrA : gRc KT N 0 = some rA) (hrB : gRc KT N 1 = some rB) (hpB : ∀ c, (aG N)[1]? = some c → pB c = true) :
    bPP KT tb tyl ot N (lwPu N0 US) d kA kB n (mMc xA + mMc xB) rA rB True := by
  have s4 : ps.length = (aG N).length := by
    have hs2 := hst
    unfold uSt at hs2
    simp only [Bool.and_eq_true] at hs2
    exact of_decide_eq_true hs2.1.1.1.1.1.1.1.1.2
  have gN : ∀ i r, gRc KT N i = some r → ∃ c o, (aG N)[i]? = some c ∧ KT.1[c]? = some (.inl o) ∧ o.1 = r := fun i r hr => gRc_spec hr
  obtain ⟨c0, o0, n1, n2, n3⟩ := gN 0 rA hrA
  obtain ⟨c1, o1, m1, m2, m3⟩ := gN 1 rB hrB
  have l2 : 2 ≤ ps.length := by
    rw [s4]
    have := (List.getElem?_eq_some_iff.mp m1).1
    omega
  intro ρ σ ty H t h0 h1 ht hlen h hP
  obtain ⟨a, c, HA, HH, z1, z2, z7, z8, z9, z10⟩ := uGoB (ot := ot) (t := t) hov hCT cA cB qA qB hd hJ hst hxA hxB hdA hdB hmain l2 h hP (by omega) hlen (v := fun _ => 0) (fun j p hp => by cases hp)
  have hac := z9 rfl
  subst hac
  obtain ⟨ρ2, σ2, ty2, z3, z4, z5, z6, -⟩ := z10 rfl
  refine ⟨a, a, HA, HH, ρ2, σ2, ty2, ?_, z1, ?_, z2, fun _ => rfl, z3, z4, z5 0 (by omega), z5 1 (by omega), z6, uFams hov hCT cA cB qA qB hd hJ hst hxA hxB hdA hdB l2 hfam h hP (by omega) hlen ⟨z1, z2⟩ z5 z6, z7⟩
  · rw [xRc h (by omega) (show (sG (aSt N))[0]? = some c0 from n1) n2 rfl, n3]
  · rw [xRc h (by omega) (show (sG (aSt N))[1]? = some c1 from m1) m2 (z8 _ c1 (tyP_iff.mpr ⟨h.2.1 1 c1 m1, hpB c1 m1⟩)), m3]
/-- the same beside a fact that what is written leaves alone -/
theorem bPU1 {KT : vKT} {tb : XT} {tyl : List FieldType} {ot : XO Int32} {ov : vOt} (hov : vOvLe ov (o4 ot)) {CT : Nat → List vCt} {hs : Nat → Nat → Option (List vHn)} {kn : Nat → Nat → Option Nat} (hCT : ∀ j c, c ∈ CT j → vCtSem KT tb tyl ot j c) {N N0 : vAn} {US : List uN} {pA pB : Nat → Bool} {n : Nat} {rN : List vRc} {ps : List (Bool × Nat)} {bs : List Nat}
    (cA : kCl KT.1 pA = true) (cB : kCl KT.1 pB = true) (qA : pA KT.2.1.1 = true → pA KT.2.1.2.2.2.1 = true) (qB : pB KT.2.1.1 = true → pB KT.2.1.2.2.2.1 = true) (hd : ∀ c, pA c = true → pB c = true → False) (hJ : KT.1.all (fun kd => match kd with | .inr o => decide (o.1 ≠ 77) | _ => true) = true)
    (hst : uSt KT N N0 US ps n bs = true) {kA kB d f dA dB : Nat} {WA WB : List (Nat × Nat)} {xA xB : XM} (hxA : tMth tb kA = some xA) (hxB : tMth tb kB = some xB) (hdA : dA ≤ d) (hdB : dB ≤ d) {ops : List uOp} (hmain : uBk KT tb tyl ov CT hs kn WA WB f dA kA dB kB true N N0 US rN ps pA pB n bs ops [] (fun _ _ _ _ => true) = true) (hfam : ∀ u ∈ US, ∃ opu, uBk KT tb tyl ov CT hs kn WA WB f dA kA dB kB false N N0 US rN ps pA pB n bs opu (uBd u) (uPost u) = true)
    {P : (Nat → Nat) → (Nat → Option Nat) → List (XC Int32) → Prop} (hkeep : ∀ (ρ : Nat → Int) (σ : Nat → Nat) (ty : Nat → Option Nat) (H : List (XC Int32)) (ρ2 : Nat → Int) (σ2 : Nat → Nat) (ty2 : Nat → Option Nat) (HH : List (XC Int32)), vRel KT ρ σ ty H (aSt N) → P σ ty H → (∀ i, i < ps.length → sR σ2 i = sR σ i) → vRel KT ρ2 σ2 ty2 HH (aSt N) → vFrm WA (tyP pA ty) H HH → vFrm WB (tyP pB ty) H HH → P σ2 ty2 HH)
    {rA rB : Nat} (hrA : gRc KT N 0 = some rA) (hrB : gRc KT N 1 = some rB) (hpB : ∀ c, (aG N)[1]? = some c → pB c = true) :
    bPP KT tb tyl ot N (fun σ ty H => P σ ty H ∧ lwPu N0 US σ ty H) d kA kB n (mMc xA + mMc xB) rA rB True := by
  have s4 : ps.length = (aG N).length := by
    have hs2 := hst
    unfold uSt at hs2
    simp only [Bool.and_eq_true] at hs2
    exact of_decide_eq_true hs2.1.1.1.1.1.1.1.1.2
  have gN : ∀ i r, gRc KT N i = some r → ∃ c o, (aG N)[i]? = some c ∧ KT.1[c]? = some (.inl o) ∧ o.1 = r := fun i r hr => gRc_spec hr
  obtain ⟨c0, o0, n1, n2, n3⟩ := gN 0 rA hrA
  obtain ⟨c1, o1, m1, m2, m3⟩ := gN 1 rB hrB
  have l2 : 2 ≤ ps.length := by
    rw [s4]
    have := (List.getElem?_eq_some_iff.mp m1).1
    omega
  intro ρ σ ty H t h0 h1 ht hlen h hP0
  obtain ⟨hP1, hP⟩ := hP0
  obtain ⟨a, c, HA, HH, z1, z2, z7, z8, z9, z10⟩ := uGoB (ot := ot) (t := t) hov hCT cA cB qA qB hd hJ hst hxA hxB hdA hdB hmain l2 h hP (by omega) hlen (v := fun _ => 0) (fun j p hp => by cases hp)
  have hac := z9 rfl
  subst hac
  obtain ⟨ρ2, σ2, ty2, z3, z4, z5, z6, zf, zg, -⟩ := z10 rfl
  refine ⟨a, a, HA, HH, ρ2, σ2, ty2, ?_, z1, ?_, z2, fun _ => rfl, z3, z4, z5 0 (by omega), z5 1 (by omega), z6, ⟨hkeep _ _ _ _ _ _ _ _ h hP1 z5 z6 zf zg, uFams hov hCT cA cB qA qB hd hJ hst hxA hxB hdA hdB l2 hfam h hP (by omega) hlen ⟨z1, z2⟩ z5 z6⟩, z7⟩
  · rw [xRc h (by omega) (show (sG (aSt N))[0]? = some c0 from n1) n2 rfl, n3]
  · rw [xRc h (by omega) (show (sG (aSt N))[1]? = some c1 from m1) m2 (z8 _ c1 (tyP_iff.mpr ⟨h.2.1 1 c1 m1, hpB c1 m1⟩)), m3]
/-- both calls as they are known from elsewhere: all cells of the head stay, and what is written -/
def bPQ (KT : vKT) (tb : XT) (tyl : List FieldType) (ot : XO Int32) (N : vAn) (P : (Nat → Nat) → (Nat → Option Nat) → List (XC Int32) → Prop) (m : Nat) (W : List (Nat × Nat)) (dp kA kB n mc rA rB : Nat) : Prop :=
  ∀ (ρ : Nat → Int) (σ : Nat → Nat) (ty : Nat → Option Nat) (H : List (XC Int32)) (t : Nat), ρ 0 = (oSn ot : Int) → ρ 1 = (t : Int) → t + 7 ≤ oSn ot → H.length + mc ≤ 1000000 → vRel KT ρ σ ty H (aSt N) → P σ ty H →
    ∃ (a : Int32) (HA HH : List (XC Int32)) (ρ2 : Nat → Int) (σ2 : Nat → Nat) (ty2 : Nat → Option Nat), x_rc ot H (sR σ 0) = some rA ∧ x_To tb tyl ot dp kA 0 (x_en 0 (.inr (some (sR σ 0)) :: bVs ot t n 1)) [] H 0 0 (some (.inl a)) HA ∧ x_rc ot HA (sR σ 1) = some rB ∧ x_To tb tyl ot dp kB 0 (x_en 0 (.inr (some (sR σ 1)) :: bVs ot t n 1)) [] HA 0 0 (some (.inl a)) HH ∧
      ρ2 0 = ρ 0 ∧ ρ2 1 = ρ 1 + 7 ∧ (∀ i, i < m → sR σ2 i = sR σ i) ∧ vRel KT ρ2 σ2 ty2 HH (aSt N) ∧ P σ2 ty2 HH ∧ vFrm W ty H HH ∧ HH.length ≤ H.length + mc
/-- the families beside such calls, gone through once more -/
theorem bPU2 {KT : vKT} {tb : XT} {tyl : List FieldType} {ot : XO Int32} {ov : vOt} (hov : vOvLe ov (o4 ot)) {CT : Nat → List vCt} {hs : Nat → Nat → Option (List vHn)} {kn : Nat → Nat → Option Nat} (hCT : ∀ j c, c ∈ CT j → vCtSem KT tb tyl ot j c) {N N0 : vAn} {US : List uN} {pA pB : Nat → Bool} {n : Nat} {rN : List vRc} {ps : List (Bool × Nat)} {bs : List Nat}
    (cA : kCl KT.1 pA = true) (cB : kCl KT.1 pB = true) (qA : pA KT.2.1.1 = true → pA KT.2.1.2.2.2.1 = true) (qB : pB KT.2.1.1 = true → pB KT.2.1.2.2.2.1 = true) (hd : ∀ c, pA c = true → pB c = true → False) (hJ : KT.1.all (fun kd => match kd with | .inr o => decide (o.1 ≠ 77) | _ => true) = true)
    (hst : uSt KT N N0 US ps n bs = true) {kA kB d f dA dB : Nat} {WA WB : List (Nat × Nat)} {xA xB : XM} (hxA : tMth tb kA = some xA) (hxB : tMth tb kB = some xB) (hdA : dA ≤ d) (hdB : dB ≤ d) {P : (Nat → Nat) → (Nat → Option Nat) → List (XC Int32) → Prop} {m : Nat} {W : List (Nat × Nat)} {rA rB : Nat} (h1 : bPQ KT tb tyl ot N P m W d kA kB n (mMc xA + mMc xB) rA rB) (hm : ps.length = m) (l2 : 2 ≤ m) (hfam : ∀ u ∈ US, ∃ opu, uBk KT tb tyl ov CT hs kn WA WB f dA kA dB kB false N N0 US rN ps pA pB n bs opu (uBd u) (uPost u) = true) :
    bPP KT tb tyl ot N (fun σ ty H => P σ ty H ∧ lwPu N0 US σ ty H) d kA kB n (mMc xA + mMc xB) rA rB True := by
  intro ρ σ ty H t h0 h1' ht hlen h hP0
  obtain ⟨hP1, hP⟩ := hP0
  obtain ⟨a, HA, HH, ρ2, σ2, ty2, z0, z1, z2, z3, z4, z5, z6, z7, z8, -, z9⟩ := h1 ρ σ ty H t h0 h1' ht hlen h hP1
  exact ⟨a, a, HA, HH, ρ2, σ2, ty2, z0, z1, z2, z3, fun _ => rfl, z4, z5, z6 0 (by omega), z6 1 (by omega), z7, ⟨z8, uFams hov hCT cA cB qA qB hd hJ hst hxA hxB hdA hdB (by omega) hfam h hP (by omega) hlen ⟨z1, z3⟩ (by rw [hm]; exact z6) z7⟩, z9⟩
/-- two frames, one of each side -/
theorem vFrm_two {pA pB : Nat → Bool} {WA WB : List (Nat × Nat)} {ty : Nat → Option Nat} {H HH : List (XC Int32)} (hc : ∀ c, pA c = true ∨ pB c = true) (fA : vFrm WA (tyP pA ty) H HH) (fB : vFrm WB (tyP pB ty) H HH) : vFrm (WA ++ WB) ty H HH := by
  intro a c z ha hz
  have wl : ∀ k, wIn WA c k = true → wIn (WA ++ WB) c k = true := fun k h => by
    unfold wIn at h ⊢
    rw [List.any_append, h]
    rfl
  have wr : ∀ k, wIn WB c k = true → wIn (WA ++ WB) c k = true := fun k h => by
    unfold wIn at h ⊢
    rw [List.any_append, h, Bool.or_true]
  rcases hc c with h | h
  · obtain ⟨z2, g1, g2⟩ := fA a c z (tyP_iff.mpr ⟨ha, h⟩) hz
    exact ⟨z2, g1, vSameC_tr wl (vSameC_rf _ c z) g2⟩
  · obtain ⟨z2, g1, g2⟩ := fB a c z (tyP_iff.mpr ⟨ha, h⟩) hz
    exact ⟨z2, g1, vSameC_tr wr (vSameC_rf _ c z) g2⟩
/-- what isn't written stays -/
def uFk (W : List (Nat × Nat)) (A : vAn) : Bool := (aF A).all (fun f => decide ((fCal W (aG A) [f]).length = 1))
theorem uFk_spec {ρ : Nat → Int} {σ : Nat → Nat} {ty : Nat → Option Nat} {W : List (Nat × Nat)} {A : vAn} (hk : uFk W A = true) {H H2 : List (XC Int32)} (hs : vSym ty σ (aG A)) (hf : vFrm W ty H H2) (hF : ∀ f ∈ aF A, vHolds ρ σ H f) : ∀ f ∈ aF A, vHolds ρ σ H2 f := fun f hf2 => by
  have k5 := of_decide_eq_true (List.all_eq_true.mp hk f hf2)
  have hm : f ∈ fCal W (aG A) [f] := by
    rcases hl : fCal W (aG A) [f] with _ | ⟨x, r⟩
    · rw [hl] at k5
      cases k5
    · have hx : x ∈ fCal W (aG A) [f] := by rw [hl]; exact List.mem_cons_self
      have hx2 : x ∈ [f] := (List.mem_filter.mp hx).1
      rw [List.mem_singleton.mp hx2]
      exact List.mem_cons_self
  exact fCal_spec (ρ := ρ) (σ := σ) (H2 := H2) hs hf (F := [f]) (fun z hz => by
    rcases List.mem_singleton.mp hz with rfl
    exact hF _ hf2) f hm
theorem lwPu_kp {KT : vKT} {N N0 : vAn} {US : List uN} {W : List (Nat × Nat)} {m0 : Nat} (hk : (decide (aG N0 = aG N) && decide ((aG N0).length ≤ m0) && decide (m0 ≤ 1000000) && sBd (aSt N0) && US.all (uOk KT (aI N0).length (aG N0)) && uFk W N0 && US.all (fun u => uFk W (uNt u))) = true) : ∀ (ρ : Nat → Int) (σ : Nat → Nat) (ty : Nat → Option Nat) (H : List (XC Int32)) (ρ2 : Nat → Int) (σ2 : Nat → Nat) (ty2 : Nat → Option Nat) (H2 : List (XC Int32)), vRel KT ρ σ ty H (aSt N) → lwPu N0 US σ ty H → (∀ i, i < m0 → σ2 i = σ i) → vFrm W ty H H2 → vRel KT ρ2 σ2 ty2 H2 (aSt N) → lwPu N0 US σ2 ty2 H2 := by
  intro ρ σ ty H ρ2 σ2 ty2 H2 h hP hs hf h2
  simp only [Bool.and_eq_true] at hk
  obtain ⟨⟨⟨⟨⟨⟨k1, k2⟩, k3⟩, k4⟩, k5⟩, k6⟩, k7⟩ := hk
  have k1 := of_decide_eq_true k1
  have k2 := of_decide_eq_true k2
  have k3 := of_decide_eq_true k3
  obtain ⟨ρP, gP, gU⟩ := hP
  have hN : ∀ i c, (aG N0)[i]? = some c → ty (sR σ i) = some c := fun i c hc => h.2.1 i c (by
    rw [k1] at hc
    exact hc)
  refine ⟨ρP, ⟨fun f hf2 => ?_, gP.2⟩, fun u hu ρ1 e1 e2 e3 => ?_⟩
  · exact fBd_spec (n := sN (aSt N0)) (m := (aG N0).length) (fun _ _ => rfl) (fun i hi => hs i (by omega)) ((sBd_spec k4).2.1 f hf2) (uFk_spec k6 hN hf gP.1 f hf2)
  · obtain ⟨ρa, σa, t1, t2, t3⟩ := gU u hu ρ1 e1 e2 e3
    have hok := List.all_eq_true.mp k5 u hu
    unfold uOk at hok
    simp only [Bool.and_eq_true] at hok
    obtain ⟨⟨⟨⟨o1, o2⟩, o3⟩, o4⟩, o5⟩ := hok
    have o2 := of_decide_eq_true o2
    have hsa : ∀ i, i < (aG N0).length → sR σa i = sR σ i := fun i hi => by
      have := t2 i hi
      show (if i < 1000000 then σa i else i) = _
      rw [if_pos (by omega), this]
    refine ⟨ρa, σa, t1, fun i hi => (t2 i hi).trans ?_, uFk_spec (List.all_eq_true.mp k7 u hu) (fun i c hc => uTy_spec o1 h.1 t3.1 (fun i c hi hc => ?_) (i + 1) i c (Nat.lt_succ_self i) hc) hf t3.1, t3.2⟩
    · unfold sR
      rw [if_pos (by omega), if_pos (by omega)]
      exact (hs i (by omega)).symm
    · rw [hsa i hi]
      refine hN i c ?_
      rw [← o2, List.getElem?_take, if_pos hi]
      exact hc
theorem lwPu_keep {KT : vKT} {N N0 : vAn} {US : List uN} {W : List (Nat × Nat)} {m0 : Nat} (hk : (decide (aG N0 = aG N) && decide ((aG N0).length ≤ m0) && decide (m0 ≤ 1000000) && sBd (aSt N0) && US.all (uOk KT (aI N0).length (aG N0)) && uFk W N0 && US.all (fun u => uFk W (uNt u))) = true) : ∀ (ρ : Nat → Int) (σ : Nat → Nat) (ty : Nat → Option Nat) (H : List (XC Int32)) (ρ2 : Nat → Int) (σ2 : Nat → Nat) (ty2 : Nat → Option Nat) (H2 : List (XC Int32)), vRel KT ρ σ ty H (aSt N) → lwPu N0 US σ ty H → (∀ i, i < m0 → σ2 i = σ i) → vLe ty ty2 → vFrm W ty H H2 → vRel KT ρ2 σ2 ty2 H2 (aSt N) → lwPu N0 US σ2 ty2 H2 :=
  fun ρ σ ty H ρ2 σ2 ty2 H2 h hP hs _ hf h2 => lwPu_kp hk ρ σ ty H ρ2 σ2 ty2 H2 h hP hs hf h2
/-- the families beside calls that leave them alone -/
theorem bPU3 {KT : vKT} {tb : XT} {tyl : List FieldType} {ot : XO Int32} {N N0 : vAn} {US : List uN} {W : List (Nat × Nat)} {m0 : Nat} (hk : (decide (aG N0 = aG N) && decide ((aG N0).length ≤ m0) && decide (m0 ≤ 1000000) && sBd (aSt N0) && US.all (uOk KT (aI N0).length (aG N0)) && uFk W N0 && US.all (fun u => uFk W (uNt u))) = true) {P : (Nat → Nat) → (Nat → Option Nat) → List (XC Int32) → Prop} {d kA kB n mc rA rB : Nat} (h1 : bPQ KT tb tyl ot N P m0 W d kA kB n mc rA rB) (l2 : 2 ≤ m0) :
    bPP KT tb tyl ot N (fun σ ty H => P σ ty H ∧ lwPu N0 US σ ty H) d kA kB n mc rA rB True := by
  intro ρ σ ty H t h0 h1' ht hlen h hP0
  obtain ⟨hP1, hP⟩ := hP0
  obtain ⟨a, HA, HH, ρ2, σ2, ty2, z0, z1, z2, z3, z4, z5, z6, z7, z8, zf, z9⟩ := h1 ρ σ ty H t h0 h1' ht hlen h hP1
  have l3 : m0 ≤ 1000000 := by
    simp only [Bool.and_eq_true] at hk
    exact of_decide_eq_true hk.1.1.1.1.2
  refine ⟨a, a, HA, HH, ρ2, σ2, ty2, z0, z1, z2, z3, fun _ => rfl, z4, z5, z6 0 (by omega), z6 1 (by omega), z7, ⟨z8, lwPu_kp (KT := KT) hk ρ σ ty H ρ2 σ2 ty2 HH h hP (fun i hi => ?_) zf z7⟩, z9⟩
  have e := z6 i hi
  unfold sR at e
  rw [if_pos (by omega), if_pos (by omega)] at e
  exact e
/-- at the start nothing is counted: a family says nothing -/
def uCoI : List lT → lI → Option lI
  | [], I => some I
  | e :: r, I => match iRef I e with
    | some I2 => uCoI r I2
    | none => none
theorem uCoI_spec {ρ : Nat → Int} : ∀ {l : List lT} {I : lI}, iHd ρ I → (∀ e ∈ l, 0 ≤ lEv ρ e) → ∃ I2, uCoI l I = some I2
  | [], I, _, _ => ⟨I, rfl⟩
  | e :: r, I, h, he => by
    obtain ⟨I2, g1, g2⟩ := iRef_spec h (he e List.mem_cons_self)
    obtain ⟨I3, g3⟩ := uCoI_spec g2 (fun x hx => he x (List.mem_cons_of_mem _ hx))
    refine ⟨I3, ?_⟩
    unfold uCoI
    rw [g1]
    exact g3
def uVac (iv : List Int) (u : uN) : Bool := (uCoI (uPr u) (zipI 0 (iv.map (fun x => (x, x)) ++ uBd u))).isNone
theorem uVac_spec {iv : List Int} {u : uN} (hk : uVac iv u = true) {ρ : Nat → Int} {σ : Nat → Nat} {H : List (XC Int32)} (hρ : ∀ i, i < iv.length → ρ i = iv.getD i 0) {m0 : Nat} : uHd iv.length m0 u ρ σ H := fun ρ1 e1 e2 e3 => by
  obtain ⟨I2, g⟩ := uCoI_spec (ρ := ρ1) (l := uPr u) (I := zipI 0 (iv.map (fun x => (x, x)) ++ uBd u)) (zipI_spec.mpr (fun i p hp => by
    rw [Nat.zero_add]
    by_cases c : i < iv.length
    · rw [List.getElem?_append_left (by rw [List.length_map]; exact c), List.getElem?_map] at hp
      have hl : iv[i]? = some (iv[i]'c) := List.getElem?_eq_getElem c
      rw [hl] at hp
      cases hp
      have e : ρ1 i = iv[i]'c := by
        rw [e1 i c, hρ i c, List.getD_eq_getElem?_getD, hl]
        rfl
      rw [e]
      exact ⟨Int.le_refl _, Int.le_refl _⟩
    · rw [List.getElem?_append_right (by rw [List.length_map]; omega), List.length_map] at hp
      have q := e2 (i - iv.length) p hp
      rw [show iv.length + (i - iv.length) = i by omega] at q
      exact q)) e3
  unfold uVac at hk
  rw [g] at hk
  cases hk
/-- a note's fact in a heap that is known -/
def uKv (iv : List Int) (sg : List Nat) (v : vA) (u : XV Int32) : Bool := match v, u with
  | .inl l, .inl x => decide (x = Int32.ofInt (lEv (fun i => iv.getD i 0) l))
  | .inr (some s), .inr (some a) => decide (s < 1000000) && decide (a = sg.getD s 0)
  | _, _ => false
theorem uKv_spec {iv : List Int} {sg : List Nat} {v : vA} {u : XV Int32} (h : uKv iv sg v u = true) : u = cv (fun i => iv.getD i 0) (fun i => sg.getD i 0) v := by
  unfold uKv at h
  split at h
  · exact congrArg Sum.inl (of_decide_eq_true h)
  · rename_i s a
    have h2 := Bool.and_eq_true_iff.mp h
    have e := of_decide_eq_true h2.2
    subst e
    show Sum.inr (some (sg.getD s 0)) = Sum.inr (some (sR (fun i => sg.getD i 0) s))
    rw [show sR (fun i => sg.getD i 0) s = sg.getD s 0 from if_pos (of_decide_eq_true h2.1)]
  · cases h
def uKf (H : List (XC Int32)) (iv : List Int) (sg : List Nat) (f : vK) : Bool := decide (f.1 < 1000000) && (match f.2.1, H[sg.getD f.1 0]? with
  | .inl j, some (.inl o) => (match (o.2[j]? : Option (XV Int32)) with
    | some u => uKv iv sg f.2.2 u
    | none => false)
  | .inr e, some (.inr o) => decide (0 ≤ lEv (fun i => iv.getD i 0) e) && (match (o.2[(lEv (fun i => iv.getD i 0) e).toNat]? : Option (XV Int32)) with
    | some u => uKv iv sg f.2.2 u
    | none => false)
  | _, _ => false)
theorem uKf_spec {H : List (XC Int32)} {iv : List Int} {sg : List Nat} {f : vK} (h : uKf H iv sg f = true) : vHolds (fun i => iv.getD i 0) (fun i => sg.getD i 0) H f := by
  obtain ⟨i, key, v⟩ := f
  have h2 := Bool.and_eq_true_iff.mp h
  have hi : i < 1000000 := of_decide_eq_true h2.1
  have hs : sR (fun i => sg.getD i 0) i = sg.getD i 0 := if_pos hi
  have h3 := h2.2
  dsimp only at h3
  refine Or.inl ?_
  split at h3
  · rename_i j o ho
    split at h3
    rotate_left
    · cases h3
    rename_i u hu
    exact ⟨o.1, o.2, by rw [hs]; exact ho, by rw [hu, uKv_spec h3]⟩
  · rename_i e o ho
    have h4 := Bool.and_eq_true_iff.mp h3
    have h6 := h4.2
    split at h6
    rotate_left
    · cases h6
    rename_i u hu
    exact ⟨o.1, o.2, by rw [hs]; exact ho, of_decide_eq_true h4.1, by rw [hu, uKv_spec h6]⟩
  · cases h3
/-- or two cells are two -/
def uKg (H : List (XC Int32)) (iv : List Int) (sg : List Nat) (f : vK) : Bool := uKf H iv sg f || (kyAp f.2.1 && decide (f.1 < 1000000) && (match f.2.2 with
  | .inr (some k) => decide (k < 1000000) && decide (sg.getD f.1 0 ≠ sg.getD k 0)
  | _ => false))
theorem uKg_spec {H : List (XC Int32)} {iv : List Int} {sg : List Nat} {f : vK} (h : uKg H iv sg f = true) : vHolds (fun i => iv.getD i 0) (fun i => sg.getD i 0) H f := by
  rcases Bool.or_eq_true_iff.mp h with h | h
  · exact uKf_spec h
  simp only [Bool.and_eq_true] at h
  obtain ⟨⟨h1, h2⟩, h3⟩ := h
  have h9 := of_decide_eq_true h2
  obtain ⟨i, key, v⟩ := f
  have h9 : i < 1000000 := h9
  dsimp only at h1 h3
  split at h3
  rotate_left
  · cases h3
  rename_i k
  simp only [Bool.and_eq_true] at h3
  have h4 := of_decide_eq_true h3.1
  have h5 := of_decide_eq_true h3.2
  refine Or.inr ⟨k, ?_, rfl, ?_⟩
  · rcases key with j | ⟨e1, e2⟩
    · cases h1
    · have h6 := Bool.and_eq_true_iff.mp (show (decide (e1 = -1) && e2.isEmpty) = true from h1)
      have h7 := of_decide_eq_true h6.1
      have h8 := List.isEmpty_iff.mp h6.2
      subst h7
      subst h8
      rfl
  · show sR (fun i => sg.getD i 0) i ≠ sR (fun i => sg.getD i 0) k
    rw [show sR (fun i => sg.getD i 0) i = sg.getD i 0 from if_pos h9, show sR (fun i => sg.getD i 0) k = sg.getD k 0 from if_pos h4]
    exact h5
def uCmb : List (Int × Int) → List (List Int)
  | [] => [[]]
  | p :: r => (List.range (p.2 - p.1 + 1).toNat).flatMap (fun (k : Nat) => (uCmb r).map (fun l => (p.1 + (k : Int)) :: l))
theorem uCmb_mem : ∀ {bd : List (Int × Int)} (v : Nat → Int), (∀ j p, bd[j]? = some p → p.1 ≤ v j ∧ v j ≤ p.2) → (List.range bd.length).map v ∈ uCmb bd
  | [], v, _ => List.mem_singleton.mpr rfl
  | p :: r, v, h => by
    have h0 := h 0 p rfl
    have ih := uCmb_mem (bd := r) (fun j => v (j + 1)) (fun j q hq => h (j + 1) q hq)
    refine List.mem_flatMap.mpr ⟨(v 0 - p.1).toNat, List.mem_range.mpr (by omega), List.mem_map.mpr ⟨_, ih, ?_⟩⟩
    have e : p.1 + ((v 0 - p.1).toNat : Int) = v 0 := by omega
    rw [e, List.length_cons, List.range_succ_eq_map, List.map_cons, List.map_map]
    rfl
/-- at the start: nothing is supposed, or the facts are there -/
def uIni (H : List (XC Int32)) (iv : List Int) (sg : List Nat) (u : uN) : Bool := uVac iv u || (decide ((aI (uNt u)).length = iv.length + (uBd u).length) && decide (aC (uNt u) = []) && sBd (aSt (uNt u)) && decide ((aG (uNt u)).length ≤ 1000000) && (uCmb (uBd u)).all (fun v => (aF (uNt u)).all (uKg H (iv ++ v) sg) && (List.range (aI (uNt u)).length).all (fun i => match (aI (uNt u))[i]? with
  | some p => decide (p.1 ≤ (iv ++ v).getD i 0) && decide ((iv ++ v).getD i 0 ≤ p.2)
  | none => false)))
theorem uIni_spec {H : List (XC Int32)} {iv : List Int} {sg : List Nat} {u : uN} (hk : uIni H iv sg u = true) {m0 : Nat} (hm : m0 ≤ 1000000) : uHd iv.length m0 u (fun i => iv.getD i 0) (fun i => sg.getD i 0) H := by
  rcases Bool.or_eq_true_iff.mp hk with hk | hk
  · exact uVac_spec hk (fun _ _ => rfl)
  simp only [Bool.and_eq_true] at hk
  obtain ⟨⟨⟨⟨k1, k2⟩, k3⟩, k4⟩, k5⟩ := hk
  have k1 := of_decide_eq_true k1
  have k2 := of_decide_eq_true k2
  intro ρ1 e1 e2 e3
  have hc := uCmb_mem (fun j => ρ1 (iv.length + j)) e2
  obtain ⟨k6, k7⟩ := Bool.and_eq_true_iff.mp (List.all_eq_true.mp k5 _ hc)
  have ev : ∀ i, i < (aI (uNt u)).length → ρ1 i = (iv ++ (List.range (uBd u).length).map (fun j => ρ1 (iv.length + j))).getD i 0 := fun i hi => by
    rw [List.getD_eq_getElem?_getD]
    by_cases c : i < iv.length
    · rw [List.getElem?_append_left c, e1 i c]
      show iv.getD i 0 = _
      rw [List.getD_eq_getElem?_getD]
    · rw [List.getElem?_append_right (by omega), List.getElem?_map, List.getElem?_range (by omega)]
      show ρ1 i = ρ1 (iv.length + (i - iv.length))
      rw [show iv.length + (i - iv.length) = i by omega]
  refine ⟨ρ1, fun i => sg.getD i 0, fun _ _ => rfl, fun i hi => ?_, fun f hf => ?_, zipI_spec.mpr (fun i p hp => ?_), fun c hc => ?_⟩
  · show sg.getD i 0 = (if i < 1000000 then sg.getD i 0 else i)
    rw [if_pos (by omega)]
  · exact fBd_spec (n := (aI (uNt u)).length) (m := (aG (uNt u)).length) ev (fun _ _ => rfl) ((sBd_spec k3).2.1 f hf) (uKg_spec (List.all_eq_true.mp k6 f hf))
  · have hl := (List.getElem?_eq_some_iff.mp hp).1
    have k8 := List.all_eq_true.mp k7 i (List.mem_range.mpr hl)
    rw [hp] at k8
    obtain ⟨k9, k10⟩ := Bool.and_eq_true_iff.mp k8
    rw [Nat.zero_add, ev i hl]
    exact ⟨of_decide_eq_true k9, of_decide_eq_true k10⟩
  · rw [k2] at hc
    cases hc
/-- the families at the start -/
def uIn0 (H : List (XC Int32)) (iv : List Int) (sg : List Nat) (N0 : vAn) (US : List uN) : Bool := decide ((aI N0).length = iv.length) && decide ((aG N0).length ≤ 1000000) && decide (aC N0 = []) && (aF N0).all (uKg H iv sg) && (List.range (aI N0).length).all (fun i => match (aI N0)[i]? with
  | some p => decide (p.1 ≤ iv.getD i 0) && decide (iv.getD i 0 ≤ p.2)
  | none => false) && US.all (uIni H iv sg)
theorem uIn0_spec {H : List (XC Int32)} {iv : List Int} {sg : List Nat} {N0 : vAn} {US : List uN} (hk : uIn0 H iv sg N0 US = true) (ty : Nat → Option Nat) : lwPu N0 US (fun i => sg.getD i 0) ty H := by
  unfold uIn0 at hk
  simp only [Bool.and_eq_true] at hk
  obtain ⟨⟨⟨⟨⟨k1, k2⟩, k3⟩, k4⟩, k5⟩, k6⟩ := hk
  have k1 := of_decide_eq_true k1
  have k2 := of_decide_eq_true k2
  have k3 := of_decide_eq_true k3
  refine ⟨fun i => iv.getD i 0, ⟨fun f hf => uKg_spec (List.all_eq_true.mp k4 f hf), zipI_spec.mpr (fun i p hp => ?_), fun c hc => ?_⟩, fun u hu => ?_⟩
  · have hl := (List.getElem?_eq_some_iff.mp hp).1
    have k8 := List.all_eq_true.mp k5 i (List.mem_range.mpr hl)
    rw [hp] at k8
    obtain ⟨k9, k10⟩ := Bool.and_eq_true_iff.mp k8
    rw [Nat.zero_add]
    exact ⟨of_decide_eq_true k9, of_decide_eq_true k10⟩
  · rw [k3] at hc
    cases hc
  · rw [k1]
    exact uIni_spec (List.all_eq_true.mp k6 u hu) k2
end XUni
