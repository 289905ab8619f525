/-! Notes on a state (at a loop, an entry, an end), and that a state is as a note says. -/
noncomputable section XMatch
/-- where a note's unknown is to be found: whether a cell; a local (from 1000 on: the stack), a place of a cell, or what came of an operation -/
abbrev vRc : Type := Bool × (Nat ⊕ ((Nat × (Nat ⊕ lT)) ⊕ (Nat × lT × lT)))
/-- a note: kinds of its cells, bounds of its unknowns, locals, stack, what is known, what isn't below 0, what came of operations, (rank, cells made, slots made, phase; for ranks by the zeros of rows: weight, the rows; what is written from here on), where its unknowns are -/
abbrev vAn : Type := List Nat × List (Int × Int) × List (Nat × vA) × List vA × List vK × List lT × List vMm × (lT × lT × lT × Nat × Nat × List Nat × Option (List (Nat × Nat))) × List vRc
abbrev aG (A : vAn) : List Nat := A.1
abbrev aI (A : vAn) : List (Int × Int) := A.2.1
abbrev aL (A : vAn) : List (Nat × vA) := A.2.2.1
abbrev aS (A : vAn) : List vA := A.2.2.2.1
abbrev aF (A : vAn) : List vK := A.2.2.2.2.1
abbrev aC (A : vAn) : List lT := A.2.2.2.2.2.1
abbrev aM (A : vAn) : List vMm := A.2.2.2.2.2.2.1
abbrev aRk (A : vAn) : lT := A.2.2.2.2.2.2.2.1.1
abbrev aCn (A : vAn) : lT := A.2.2.2.2.2.2.2.1.2.1
abbrev aSn (A : vAn) : lT := A.2.2.2.2.2.2.2.1.2.2.1
abbrev aPh (A : vAn) : Nat := A.2.2.2.2.2.2.2.1.2.2.2.1
abbrev aCf (A : vAn) : Nat := A.2.2.2.2.2.2.2.1.2.2.2.2.1
abbrev aZs (A : vAn) : List Nat := A.2.2.2.2.2.2.2.1.2.2.2.2.2.1
abbrev aWn (A : vAn) : Option (List (Nat × Nat)) := A.2.2.2.2.2.2.2.1.2.2.2.2.2.2
abbrev aRc (A : vAn) : List vRc := A.2.2.2.2.2.2.2.2
def zipI : Nat → List (Int × Int) → lI
  | _, [] => []
  | n, p :: r => (n, p) :: zipI (n + 1) r
theorem zipI_spec {ρ : Nat → Int} : ∀ {l : List (Int × Int)} {n : Nat}, iHd ρ (zipI n l) ↔ ∀ i p, l[i]? = some p → p.1 ≤ ρ (n + i) ∧ ρ (n + i) ≤ p.2
  | [], n => ⟨fun _ i p h => (by cases h), fun _ q hq => (by cases hq)⟩
  | p :: r, n => by
    have ih := zipI_spec (ρ := ρ) (l := r) (n := n + 1)
    constructor
    · intro h i p2 hp
      rcases i with _ | i
      · cases hp
        exact h (n, p) List.mem_cons_self
      · have := ih.mp (fun q hq => h q (List.mem_cons_of_mem _ hq)) i p2 hp
        rw [show n + (i + 1) = n + 1 + i by omega]
        exact this
    · intro h q hq
      rcases List.mem_cons.mp hq with rfl | hq
      · exact h 0 p rfl
      · refine ih.mpr (fun i p2 hp => ?_) q hq
        have := h (i + 1) p2 hp
        rw [show n + 1 + i = n + (i + 1) by omega]
        exact this
/-- the state that a note tells -/
def aSt (A : vAn) : vSt := ((aI A).length, aG A, aF A, zipI 0 (aI A), aC A, aM A, [])
/-- sums for unknowns, symbols for symbols -/
def rO (ρ : Nat → Int) (θ : List lT) (i : Nat) : Int := lEv ρ (θ.getD i (lK 0))
def sO (σ : Nat → Nat) (τ : List Nat) (i : Nat) : Nat := sR σ (τ.getD i 0)
def lSbs (θ : List lT) : List (Nat × Int) → lT
  | [] => lK 0
  | p :: r => lAdd (lSc p.2 (θ.getD p.1 (lK 0))) (lSbs θ r)
def lSb (θ : List lT) (l : lT) : lT := lAdd (lK l.1) (lSbs θ l.2)
theorem lSbs_ev (ρ : Nat → Int) (θ : List lT) : ∀ l, lEv ρ (lSbs θ l) = lS (rO ρ θ) l
  | [] => lK_ev ρ 0
  | p :: r => by
    show lEv ρ (lAdd _ (lSbs θ r)) = p.2 * rO ρ θ p.1 + lS (rO ρ θ) r
    rw [lAdd_ev, lSc_ev, lSbs_ev ρ θ r]
    rfl
theorem lSb_ev (ρ : Nat → Int) (θ : List lT) (l : lT) : lEv ρ (lSb θ l) = lEv (rO ρ θ) l := by
  show lEv ρ (lAdd _ _) = l.1 + lS (rO ρ θ) l.2
  rw [lAdd_ev, lK_ev, lSbs_ev]
def tSb (τ : List Nat) (i : Nat) : Nat := if i < 1000000 then τ.getD i 0 else i
theorem tSb_spec (σ : Nat → Nat) (τ : List Nat) (i : Nat) : sR σ (tSb τ i) = sR (sO σ τ) i := by
  unfold tSb
  by_cases h : i < 1000000
  · rw [if_pos h]
    show sR σ (τ.getD i 0) = (if i < 1000000 then sO σ τ i else i)
    rw [if_pos h]
    rfl
  · rw [if_neg h]
    show (if i < 1000000 then _ else i) = (if i < 1000000 then _ else i)
    rw [if_neg h, if_neg h]
def vSb (θ : List lT) (τ : List Nat) : vA → vA
  | .inl l => .inl (lSb θ l)
  | .inr none => .inr none
  | .inr (some i) => .inr (some (tSb τ i))
theorem vSb_cv (ρ : Nat → Int) (σ : Nat → Nat) (θ : List lT) (τ : List Nat) (v : vA) : cv ρ σ (vSb θ τ v) = cv (rO ρ θ) (sO σ τ) v := by
  rcases v with l | (_ | i)
  · exact congrArg (fun z => Sum.inl (Int32.ofInt z)) (lSb_ev ρ θ l)
  · rfl
  · exact congrArg (fun z => Sum.inr (some z)) (tSb_spec σ τ i)
def kySb (θ : List lT) : Nat ⊕ lT → Nat ⊕ lT
  | .inl j => .inl j
  | .inr e => .inr (lSb θ e)
theorem vPlace_sb {ρ : Nat → Int} {σ : Nat → Nat} {θ : List lT} {τ : List Nat} {H : List (XC Int32)} {i : Nat} {key : Nat ⊕ lT} {u : XV Int32} : vPlace ρ σ H (tSb τ i) (kySb θ key) u ↔ vPlace (rO ρ θ) (sO σ τ) H i key u := by
  rcases key with j | e
  · unfold vPlace kySb
    dsimp only
    rw [tSb_spec]
  · unfold vPlace kySb
    dsimp only
    rw [tSb_spec, lSb_ev]
/-- equal sums -/
def lQ (I : lI) (C : List lT) (a b : lT) : Bool := lEq a b || (lGe I C (lSub a b) && lGe I C (lSub b a))
theorem lQ_spec {ρ : Nat → Int} {I : lI} (hI : iHd ρ I) {C : List lT} (hC : ∀ c ∈ C, 0 ≤ lEv ρ c) {a b : lT} (h : lQ I C a b = true) : lEv ρ a = lEv ρ b := by
  rcases Bool.or_eq_true_iff.mp h with h | h
  · rw [lEq_spec h]
  · have h2 := Bool.and_eq_true_iff.mp h
    have h3 := lGe_spec hI hC h2.1
    have h4 := lGe_spec hI hC h2.2
    rw [lSub_ev] at h3 h4
    omega
def vQ (s : vSt) : vA → vA → Bool
  | .inl a, .inl b => lQ (sI s) (sC s) a b
  | .inr none, .inr none => true
  | .inr (some i), .inr (some j) => decide (i = j)
  | _, _ => false
theorem vQ_spec {KT : vKT} {ρ : Nat → Int} {σ : Nat → Nat} {ty : Nat → Option Nat} {H : List (XC Int32)} {s : vSt} (h : vRel KT ρ σ ty H s) {a b : vA} (hk : vQ s a b = true) : cv ρ σ a = cv ρ σ b := by
  unfold vQ at hk
  split at hk
  · rename_i a b
    show (Sum.inl (Int32.ofInt (lEv ρ a)) : XV Int32) = Sum.inl (Int32.ofInt (lEv ρ b))
    rw [lQ_spec h.2.2.2.1 h.2.2.2.2.1 hk]
  · rfl
  · rw [of_decide_eq_true hk]
  · cases hk
def vQs (s : vSt) (θ : List lT) (τ : List Nat) : List vA → List vA → Bool
  | [], [] => true
  | a :: r, b :: t => vQ s a (vSb θ τ b) && vQs s θ τ r t
  | _, _ => false
theorem vQs_spec {KT : vKT} {ρ : Nat → Int} {σ : Nat → Nat} {ty : Nat → Option Nat} {H : List (XC Int32)} {s : vSt} (h : vRel KT ρ σ ty H s) {θ : List lT} {τ : List Nat} : ∀ {S T : List vA}, vQs s θ τ S T = true → S.map (cv ρ σ) = T.map (cv (rO ρ θ) (sO σ τ))
  | [], [], _ => rfl
  | [], _ :: _, hk => by cases hk
  | _ :: _, [], hk => by cases hk
  | a :: r, b :: t, hk => by
    have hk2 := Bool.and_eq_true_iff.mp hk
    rw [List.map_cons, List.map_cons, vQs_spec h hk2.2, vQ_spec h hk2.1, vSb_cv]
/-- what an unknown of the note is here -/
def rcV (L : List (Nat × vA)) (S : List vA) (s : vSt) (θ : List lT) (τ : List Nat) : Nat ⊕ ((Nat × (Nat ⊕ lT)) ⊕ (Nat × lT × lT)) → Option vA
  | .inl j => if j < 1000 then x_lk L j else S[j - 1000]?
  | .inr (.inl p) => fGet (tSb τ p.1) (kySb θ p.2) (sF s)
  | .inr (.inr m) => match mGet m.1 (lSb θ m.2.1) (lSb θ m.2.2) (sM s) with
    | none => none
    | some r => some (.inl r)
def rcs (L : List (Nat × vA)) (S : List vA) (s : vSt) : List vRc → List lT → List Nat → Option (List lT × List Nat)
  | [], θ, τ => some (θ, τ)
  | r :: rs, θ, τ => match rcV L S s θ τ r.2 with
    | some (.inl l) => if r.1 = false then rcs L S s rs (θ ++ [l]) τ else none
    | some (.inr (some i)) => if r.1 = true then rcs L S s rs θ (τ ++ [i]) else none
    | _ => none
theorem rcs_pre {L : List (Nat × vA)} {S : List vA} {s : vSt} : ∀ {rs : List vRc} {θ : List lT} {τ : List Nat} {p : List lT × List Nat}, rcs L S s rs θ τ = some p → (∃ t, p.1 = θ ++ t) ∧ ∃ t, p.2 = τ ++ t
  | [], θ, τ, p, h => by
    cases h
    exact ⟨⟨[], (List.append_nil _).symm⟩, ⟨[], (List.append_nil _).symm⟩⟩
  | r :: rs, θ, τ, p, h => by
    unfold rcs at h
    split at h
    · split at h
      · obtain ⟨⟨t, ht⟩, g⟩ := rcs_pre h
        exact ⟨⟨_ :: t, by rw [ht, List.append_assoc]; rfl⟩, g⟩
      · cases h
    · split at h
      · obtain ⟨g, ⟨t, ht⟩⟩ := rcs_pre h
        exact ⟨g, ⟨_ :: t, by rw [ht, List.append_assoc]; rfl⟩⟩
      · cases h
    · cases h
def inIs (s : vSt) : List lT → List (Int × Int) → Bool
  | [], [] => true
  | l :: r, p :: t => lGe (sI s) (sC s) (lSub l (lK p.1)) && lGe (sI s) (sC s) (lSub (lK p.2) l) && inIs s r t
  | _, _ => false
def inGs (s : vSt) : List Nat → List Nat → Bool
  | [], [] => true
  | i :: r, c :: t => decide ((sG s)[i]? = some c) && inGs s r t
  | _, _ => false
theorem inIs_spec {ρ : Nat → Int} {s : vSt} (hI : iHd ρ (sI s)) (hC : ∀ c ∈ sC s, 0 ≤ lEv ρ c) : ∀ {θ : List lT} {l : List (Int × Int)}, inIs s θ l = true → θ.length = l.length ∧ ∀ i p, l[i]? = some p → p.1 ≤ rO ρ θ i ∧ rO ρ θ i ≤ p.2
  | [], [], _ => ⟨rfl, fun i p h => by cases h⟩
  | [], _ :: _, h => by cases h
  | _ :: _, [], h => by cases h
  | l :: r, p :: t, h => by
    unfold inIs at h
    simp only [Bool.and_eq_true] at h
    obtain ⟨⟨h1, h2⟩, h3⟩ := h
    obtain ⟨e, g⟩ := inIs_spec hI hC h3
    have h1 := lGe_spec hI hC h1
    have h2 := lGe_spec hI hC h2
    rw [lSub_ev, lK_ev] at h1 h2
    refine ⟨congrArg (· + 1) e, fun i p2 hp => ?_⟩
    rcases i with _ | i
    · cases hp
      show p.1 ≤ lEv ρ l ∧ lEv ρ l ≤ p.2
      omega
    · exact g i p2 hp
theorem inGs_spec {s : vSt} : ∀ {τ l : List Nat}, inGs s τ l = true → τ.length = l.length ∧ ∀ i c, l[i]? = some c → (sG s)[τ.getD i 0]? = some c
  | [], [], _ => ⟨rfl, fun i p h => by cases h⟩
  | [], _ :: _, h => by cases h
  | _ :: _, [], h => by cases h
  | j :: r, c :: t, h => by
    have h2 := Bool.and_eq_true_iff.mp h
    obtain ⟨e, g⟩ := inGs_spec h2.2
    refine ⟨congrArg (· + 1) e, fun i p2 hp => ?_⟩
    rcases i with _ | i
    · cases hp
      exact of_decide_eq_true h2.1
    · exact g i p2 hp
/-- is the state as the note says, with these sums and symbols for its unknowns -/
def vMc (A : vAn) (θ : List lT) (τ : List Nat) (L : List (Nat × vA)) (S : List vA) (s : vSt) : Bool :=
  (sRw s).isEmpty && inIs s θ (aI A) && inGs s τ (aG A) && (aL A).all (fun q => match x_lk L q.1 with
    | some v => vQ s v (vSb θ τ q.2)
    | none => false) && vQs s θ τ S (aS A) && (aF A).all (fun f => match fGet (tSb τ f.1) (kySb θ f.2.1) (sF s) with
    | some v => vQ s v (vSb θ τ f.2.2)
    | none => match f.2.1, f.2.2 with
      | .inr e, .inr (some k) => lEq e (lK (-1)) && decide (f.1 < (aG A).length) && decide (k < (aG A).length) && (vApart (sG s) (tSb τ f.1) (tSb τ k) || fAp (sF s) (tSb τ f.1) (tSb τ k))
      | _, _ => false) && (aC A).all (fun c => lGe (sI s) (sC s) (lSb θ c)) && (aM A).all (fun m => match mGet m.1 (lSb θ m.2.1) (lSb θ m.2.2.1) (sM s) with
    | some r => lQ (sI s) (sC s) r (lSb θ m.2.2.2)
    | none => decide (m.1 = 3) && lEq (lSb θ m.2.1) (lK 0) && lEq (lSb θ m.2.2.2) (lK 0)) && decide ((aG A).length < 1000000)
theorem vMc_spec {KT : vKT} {ρ : Nat → Int} {σ : Nat → Nat} {ty : Nat → Option Nat} {H : List (XC Int32)} {s : vSt} (h : vRel KT ρ σ ty H s) {A : vAn} {θ : List lT} {τ : List Nat} {L : List (Nat × vA)} {S : List vA} (hk : vMc A θ τ L S s = true) :
    vRel KT (rO ρ θ) (sO σ τ) ty H (aSt A) ∧ (∀ Lc, vCov ρ σ L Lc → vCov (rO ρ θ) (sO σ τ) (aL A) Lc) ∧ S.map (cv ρ σ) = (aS A).map (cv (rO ρ θ) (sO σ τ)) ∧ θ.length = (aI A).length ∧ τ.length = (aG A).length ∧ (∀ a c, ty a = some c → kRaw KT c = none) := by
  unfold vMc at hk
  simp only [Bool.and_eq_true] at hk
  obtain ⟨⟨⟨⟨⟨⟨⟨⟨k0, k1⟩, k2⟩, k3⟩, k4⟩, k5⟩, k6⟩, k7⟩, k8⟩ := hk
  have k8 := of_decide_eq_true k8
  obtain ⟨i1, i2⟩ := inIs_spec h.2.2.2.1 h.2.2.2.2.1 k1
  obtain ⟨j1, j2⟩ := inGs_spec k2
  have hraw : ∀ a c, ty a = some c → kRaw KT c = none := fun a c ha => by
    rcases hR : kRaw KT c with _ | d
    · rfl
    · obtain ⟨i, hi, -⟩ := h.2.2.2.2.2.2.2 a c d ha hR
      rw [List.isEmpty_iff.mp k0] at hi
      cases hi
  refine ⟨⟨h.1, fun i c hc => ?_, fun f hf => ?_, zipI_spec.mpr (fun i p hp => ?_), fun c hc => ?_, fun m hm => ?_, h.2.2.2.2.2.2.1, fun a c d ha hd => ?_⟩, fun Lc hc j v hj => ?_, vQs_spec h k4, i1, j1, hraw⟩
  · have h1 := h.2.1 _ c (j2 i c hc)
    have hlt := (List.getElem?_eq_some_iff.mp hc).1
    have hlt : i < (aG A).length := hlt
    show ty (if i < 1000000 then sO σ τ i else i) = some c
    rw [if_pos (by omega)]
    exact h1
  · have h1 := List.all_eq_true.mp k5 f hf
    split at h1
    · rename_i v hv
      have h2 := fGet_spec h.2.2.1 hv
      rw [vQ_spec h h1, vSb_cv] at h2
      exact Or.inl (vPlace_sb.mp h2)
    · split at h1
      rotate_left
      · cases h1
      rename_i e k hk1 hk2
      simp only [Bool.and_eq_true] at h1
      obtain ⟨⟨⟨w1, w2⟩, w3⟩, w4⟩ := h1
      have hne : sR σ (tSb τ f.1) ≠ sR σ (tSb τ k) := by
        rcases Bool.or_eq_true_iff.mp w4 with w4 | w4
        · exact vApart_spec h.2.1 w4
        · exact fAp_spec h.2.2.1 w4
      rw [tSb_spec, tSb_spec] at hne
      exact Or.inr ⟨k, by rw [hk1, lEq_spec w1], hk2, hne⟩
  · rw [Nat.zero_add]
    exact i2 i p hp
  · have h1 := lGe_spec h.2.2.2.1 h.2.2.2.2.1 (List.all_eq_true.mp k6 c hc)
    rw [lSb_ev] at h1
    exact h1
  · have h1 := List.all_eq_true.mp k7 m hm
    split at h1
    · rename_i r hr
      have h2 := mGet_spec h.2.2.2.2.2.1 hr
      rw [lQ_spec h.2.2.2.1 h.2.2.2.2.1 h1, lSb_ev, lSb_ev, lSb_ev] at h2
      exact h2
    · have h2 := Bool.and_eq_true_iff.mp h1
      have h3 := Bool.and_eq_true_iff.mp h2.1
      have e1 : m.1 = 3 := of_decide_eq_true h3.1
      have e2 := congrArg (lEv ρ) (lEq_spec h3.2)
      have e3 := congrArg (lEv ρ) (lEq_spec h2.2)
      rw [lSb_ev, lK_ev] at e2 e3
      unfold mHd
      rw [e1, e2, e3]
      exact Int32.zero_and
  · rw [hraw a c ha] at hd
    cases hd
  · have hm : (j, v) ∈ aL A := by
      simp only [x_lk_eq] at hj
      obtain ⟨q, hq, e⟩ := Option.map_eq_some_iff.mp hj
      have h1 := List.mem_of_find?_eq_some hq
      have h2 := List.find?_some hq
      simp only [beq_iff_eq] at h2
      obtain ⟨q1, q2⟩ := q
      have h2 : q1 = j := h2
      have e : q2 = v := e
      rw [h2, e] at h1
      exact h1
    have h1 := List.all_eq_true.mp k3 (j, v) hm
    dsimp only at h1
    split at h1
    · rename_i u hu
      rw [hc j u hu, vQ_spec h h1, vSb_cv]
    · cases h1
/-- the same, its unknowns looked up; the first n0 and m0 are those of the state -/
def vMt (A : vAn) (n0 m0 : Nat) (L : List (Nat × vA)) (S : List vA) (s : vSt) : Option (List lT × List Nat) := match rcs L S s (aRc A) ((List.range n0).map lSy) (List.range m0) with
  | none => none
  | some p => if vMc A p.1 p.2 L S s then some p else none
theorem vMt_spec {KT : vKT} {ρ : Nat → Int} {σ : Nat → Nat} {ty : Nat → Option Nat} {H : List (XC Int32)} {s : vSt} (h : vRel KT ρ σ ty H s) {A : vAn} {n0 m0 : Nat} {L : List (Nat × vA)} {S : List vA} {p : List lT × List Nat} (hk : vMt A n0 m0 L S s = some p) (hm : m0 < 1000000) :
    vRel KT (rO ρ p.1) (sO σ p.2) ty H (aSt A) ∧ (∀ Lc, vCov ρ σ L Lc → vCov (rO ρ p.1) (sO σ p.2) (aL A) Lc) ∧ S.map (cv ρ σ) = (aS A).map (cv (rO ρ p.1) (sO σ p.2)) ∧ p.1.length = (aI A).length ∧ p.2.length = (aG A).length ∧ (∀ a c, ty a = some c → kRaw KT c = none) ∧ (∀ i, i < n0 → rO ρ p.1 i = ρ i) ∧ (∀ i, i < m0 → sO σ p.2 i = σ i) := by
  unfold vMt at hk
  split at hk
  · cases hk
  rename_i p2 hp
  split at hk
  · rename_i hc
    cases hk
    obtain ⟨g1, g2, g3, g4, g5, g6⟩ := vMc_spec h hc
    obtain ⟨⟨t, ht⟩, ⟨u, hu⟩⟩ := rcs_pre hp
    refine ⟨g1, g2, g3, g4, g5, g6, fun i hi => ?_, fun i hi => ?_⟩
    · unfold rO
      rw [ht, List.getD_eq_getElem?_getD, List.getElem?_append_left (by rw [List.length_map, List.length_range]; exact hi), List.getElem?_map, List.getElem?_range hi]
      exact lSy_ev ρ i
    · unfold sO
      rw [hu, List.getD_eq_getElem?_getD, List.getElem?_append_left (by rw [List.length_range]; exact hi), List.getElem?_range hi]
      show (if i < 1000000 then σ i else i) = σ i
      rw [if_pos (by omega)]
  · cases hk
end XMatch
