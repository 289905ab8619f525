/-! A note matched in a faster way: what stands unchanged is found where it stood. -/
section XFast
section
/-- the numbers from 0 on -/
def lIx : List Nat := 0 :: 1 :: 2 :: 3 :: 4 :: 5 :: 6 :: 7 :: 8 :: 9 :: 10 :: 11 :: 12 :: 13 :: 14 :: 15 :: 16 :: 17 :: 18 :: 19 :: 20 :: 21 :: 22 :: 23 :: 24 :: 25 :: 26 :: 27 :: 28 :: 29 :: 30 :: 31 :: 32 :: 33 :: 34 :: 35 :: 36 :: 37 :: 38 :: 39 :: 40 :: 41 :: 42 :: 43 :: 44 :: 45 :: 46 :: 47 :: 48 :: 49 :: 50 :: 51 :: 52 :: 53 :: 54 :: 55 :: 56 :: 57 :: 58 :: 59 :: 60 :: 61 :: 62 :: 63 :: 64 :: 65 :: 66 :: 67 :: 68 :: 69 :: 70 :: 71 :: 72 :: 73 :: 74 :: 75 :: 76 :: 77 :: 78 :: 79 :: 80 :: 81 :: 82 :: 83 :: 84 :: 85 :: 86 :: 87 :: 88 :: 89 :: 90 :: 91 :: 92 :: 93 :: 94 :: 95 :: 96 :: 97 :: 98 :: 99 :: 100 :: 101 :: 102 :: 103 :: 104 :: 105 :: 106 :: 107 :: 108 :: 109 :: 110 :: 111 :: 112 :: 113 :: 114 :: 115 :: 116 :: 117 :: 118 :: 119 :: 120 :: 121 :: 122 :: 123 :: 124 :: 125 :: 126 :: 127 :: 128 :: 129 :: []
theorem lIx_eq : lIx = List.range 130 := by decide +kernel
theorem lIx_at {j v : Nat} (h : lIx[j]? = some v) : v = j := by
  rw [lIx_eq] at h
  obtain ⟨h1, h2⟩ := List.getElem?_eq_some_iff.mp h
  rw [List.getElem_range] at h2
  exact h2.symm
def ixOk (k : Nat) (ix : List Nat) : Prop := ∀ j v, ix[j]? = some v → v = k + j
theorem ixOk_0 : ixOk 0 lIx := fun j v h => by
  rw [lIx_at h, Nat.zero_add]
theorem ixOk_t {k a : Nat} {ix : List Nat} (h : ixOk k (a :: ix)) : a = k ∧ ixOk (k + 1) ix := ⟨h 0 a rfl, fun j v hj => by
  have := h (j + 1) v (by rw [List.getElem?_cons_succ]; exact hj)
  omega⟩
/-- bounds of a sum that is one unknown, or a number -/
noncomputable def bIn (I : lI) (l : lT) (p : Int × Int) : Bool := List.rec (motive := fun _ => Bool) (Bool.rec (motive := fun _ => Bool) false (iNn (p.2 - l.1)) (iNn (l.1 - p.1))) (fun q r _ => List.rec (motive := fun _ => Bool) (Bool.rec (motive := fun _ => Bool) false (Bool.rec (motive := fun _ => Bool) false (Option.rec (motive := fun _ => Bool) false (fun b => Bool.rec (motive := fun _ => Bool) false (iNn (p.2 - b.2)) (iNn (b.1 - p.1))) (iLk I q.1)) (iE q.2 1)) (iE l.1 0)) (fun _ _ _ => false) r) l.2
theorem qbR {a b : Bool} (h : Bool.rec (motive := fun _ => Bool) false b a = true) : a = true ∧ b = true := by
  cases a
  · cases h
  · exact ⟨rfl, h⟩
theorem qbR2 {a b : Bool} (h : Bool.rec (motive := fun _ => Bool) b true a = true) : a = true ∨ b = true := by
  cases a
  · exact Or.inr h
  · exact Or.inl rfl
theorem bIn_spec {ρ : Nat → Int} {I : lI} (hI : iHd ρ I) {l : lT} {p : Int × Int} (h : bIn I l p = true) : p.1 ≤ lEv ρ l ∧ lEv ρ l ≤ p.2 := by
  obtain ⟨c, v⟩ := l
  rcases v with _ | ⟨q, r⟩
  · obtain ⟨h1, h2⟩ := qbR (show Bool.rec (motive := fun _ => Bool) false (iNn (p.2 - c)) (iNn (c - p.1)) = true from h)
    have h1 := iNn_iff.mp h1
    have h2 := iNn_iff.mp h2
    have e : lEv ρ (c, []) = c := Int.add_zero c
    rw [e]
    omega
  · rcases r with _ | ⟨q2, r⟩
    · obtain ⟨h1, h⟩ := qbR (show Bool.rec (motive := fun _ => Bool) false (Bool.rec (motive := fun _ => Bool) false (Option.rec (motive := fun _ => Bool) false (fun b => Bool.rec (motive := fun _ => Bool) false (iNn (p.2 - b.2)) (iNn (b.1 - p.1))) (iLk I q.1)) (iE q.2 1)) (iE c 0) = true from h)
      obtain ⟨h2, h⟩ := qbR h
      rcases hb : iLk I q.1 with _ | b
      · rw [hb] at h
        cases h
      · rw [hb] at h
        obtain ⟨h3, h4⟩ := qbR (show Bool.rec (motive := fun _ => Bool) false (iNn (p.2 - b.2)) (iNn (b.1 - p.1)) = true from h)
        have h3 := iNn_iff.mp h3
        have h4 := iNn_iff.mp h4
        have h5 := iLk_spec hI hb
        have e : lEv ρ (c, [q]) = ρ q.1 := by
          show c + (q.2 * ρ q.1 + 0) = ρ q.1
          rw [iE_spec h1, iE_spec h2]
          omega
        rw [e]
        omega
    · cases h
noncomputable def bOk (I : lI) (C : List lT) (l : lT) (p : Int × Int) : Bool := Bool.rec (motive := fun _ => Bool) (lGe I C (lSub l (lK p.1)) && lGe I C (lSub (lK p.2) l)) true (bIn I l p)
theorem bOk_spec {ρ : Nat → Int} {I : lI} (hI : iHd ρ I) {C : List lT} (hC : ∀ c ∈ C, 0 ≤ lEv ρ c) {l : lT} {p : Int × Int} (h : bOk I C l p = true) : p.1 ≤ lEv ρ l ∧ lEv ρ l ≤ p.2 := by
  rcases qbR2 (show Bool.rec (motive := fun _ => Bool) (lGe I C (lSub l (lK p.1)) && lGe I C (lSub (lK p.2) l)) true (bIn I l p) = true from h) with h | h
  · exact bIn_spec hI h
  · obtain ⟨h1, h2⟩ := Bool.and_eq_true_iff.mp h
    have h1 := lGe_spec hI hC h1
    have h2 := lGe_spec hI hC h2
    rw [lSub_ev, lK_ev] at h1 h2
    omega
noncomputable def inIsQ (I : lI) (C : List lT) (θ : List lT) : List (Int × Int) → Bool := List.rec (motive := fun _ => List (Int × Int) → Bool) (fun t => t.isEmpty) (fun l _ h t => List.rec (motive := fun _ => Bool) false (fun p t2 _ => Bool.rec (motive := fun _ => Bool) false (h t2) (bOk I C l p)) t) θ
theorem inIsQ_spec {ρ : Nat → Int} {I : lI} (hI : iHd ρ I) {C : List lT} (hC : ∀ c ∈ C, 0 ≤ lEv ρ c) : ∀ {θ : List lT} {l : List (Int × Int)}, inIsQ I C θ l = true → θ.length = l.length ∧ ∀ i p, l[i]? = some p → p.1 ≤ rO ρ θ i ∧ rO ρ θ i ≤ p.2
  | [], [], _ => ⟨rfl, fun i p h => by cases h⟩
  | [], _ :: _, h => by cases h
  | _ :: _, [], h => by cases h
  | a :: r, q :: t, h => by
    obtain ⟨h1, h2⟩ := qbR (show Bool.rec (motive := fun _ => Bool) false (inIsQ I C r t) (bOk I C a q) = true from h)
    obtain ⟨e1, e2⟩ := inIsQ_spec hI hC h2
    refine ⟨congrArg (· + 1) e1, fun i p hp => ?_⟩
    rcases i with _ | i
    · cases hp
      exact bOk_spec hI hC h1
    · exact e2 i p hp
/-- kinds of the cells: as long as they stand in order, side by side -/
noncomputable def inGsQ (G τ : List Nat) : List Nat → List Nat → List Nat → Bool := List.rec (motive := fun _ => List Nat → List Nat → List Nat → Bool) (fun t _ _ => t.isEmpty) (fun i _ h t ix cur => List.rec (motive := fun _ => Bool) false (fun c t2 _ => List.rec (motive := fun _ => Bool) (Bool.rec (motive := fun _ => Bool) false (h t2 [] []) (decide (G[i]? = some c))) (fun j ix2 _ => Bool.rec (motive := fun _ => Bool) (Bool.rec (motive := fun _ => Bool) false (h t2 (j :: ix2) cur) (Option.rec (motive := fun _ => Bool) false (fun a => Nat.beq a c) (gAt G i))) (List.rec (motive := fun _ => Bool) false (fun x xs _ => Bool.rec (motive := fun _ => Bool) false (h t2 ix2 xs) (Nat.beq x c)) cur) (Nat.beq i j)) ix) t) τ
theorem inGsQ_spec (G : List Nat) : ∀ (τ l ix : List Nat) (n : Nat), ixOk n ix → inGsQ G τ l ix (G.drop n) = true ∨ inGsQ G τ l [] [] = true → τ.length = l.length ∧ ∀ i c, l[i]? = some c → G[τ.getD i 0]? = some c
  | [], [], _, _, _, _ => ⟨rfl, fun i p h => by cases h⟩
  | [], _ :: _, _, _, _, h => by
    rcases h with h | h <;> cases h
  | _ :: _, [], _, _, _, h => by
    rcases h with h | h <;> cases h
  | a :: r, q :: t, ix, n, hx, h => by
    have key : G[a]? = some q ∧ (∃ ix2 n2, ixOk n2 ix2 ∧ (inGsQ G r t ix2 (G.drop n2) = true ∨ inGsQ G r t [] [] = true)) := by
      have slow : inGsQ G (a :: r) (q :: t) [] [] = true → G[a]? = some q ∧ (∃ ix2 n2, ixOk n2 ix2 ∧ (inGsQ G r t ix2 (G.drop n2) = true ∨ inGsQ G r t [] [] = true)) := fun h => by
        obtain ⟨h1, h2⟩ := qbR (show Bool.rec (motive := fun _ => Bool) false (inGsQ G r t [] []) (decide (G[a]? = some q)) = true from h)
        exact ⟨of_decide_eq_true h1, [], 0, (fun j v hj => by cases hj), Or.inr h2⟩
      rcases h with h | h
      rotate_left
      · exact slow h
      rcases ix with _ | ⟨j, ix2⟩
      · obtain ⟨h1, h2⟩ := qbR (show Bool.rec (motive := fun _ => Bool) false (inGsQ G r t [] []) (decide (G[a]? = some q)) = true from h)
        exact ⟨of_decide_eq_true h1, [], 0, (fun j v hj => by cases hj), Or.inr h2⟩
      · obtain ⟨x1, x2⟩ := ixOk_t hx
        have h : Bool.rec (motive := fun _ => Bool) (Bool.rec (motive := fun _ => Bool) false (inGsQ G r t (j :: ix2) (G.drop n)) (Option.rec (motive := fun _ => Bool) false (fun a => Nat.beq a q) (gAt G a))) (List.rec (motive := fun _ => Bool) false (fun x xs _ => Bool.rec (motive := fun _ => Bool) false (inGsQ G r t ix2 xs) (Nat.beq x q)) (G.drop n)) (Nat.beq a j) = true := h
        rcases e : Nat.beq a j with _ | _
        · rw [e] at h
          obtain ⟨h1, h2⟩ := qbR (show Bool.rec (motive := fun _ => Bool) false (inGsQ G r t (j :: ix2) (G.drop n)) (Option.rec (motive := fun _ => Bool) false (fun a => Nat.beq a q) (gAt G a)) = true from h)
          rcases hg : gAt G a with _ | y
          · rw [hg] at h1
            cases h1
          · rw [hg] at h1
            have h1 : y = q := Nat.eq_of_beq_eq_true h1
            rw [gAt_eq, h1] at hg
            exact ⟨hg, j :: ix2, n, hx, Or.inl h2⟩
        · rw [e] at h
          have e := Nat.eq_of_beq_eq_true e
          rcases hd : G.drop n with _ | ⟨x, xs⟩
          · rw [hd] at h
            cases h
          · rw [hd] at h
            obtain ⟨h1, h2⟩ := qbR (show Bool.rec (motive := fun _ => Bool) false (inGsQ G r t ix2 xs) (Nat.beq x q) = true from h)
            have h1 := Nat.eq_of_beq_eq_true h1
            have g1 : (G.drop n)[0]? = some x := by
              rw [hd]
              rfl
            rw [List.getElem?_drop, Nat.add_zero] at g1
            have g2 : G.drop (n + 1) = xs := by
              have := congrArg List.tail hd
              rw [List.tail_drop] at this
              exact this
            refine ⟨by rw [e, x1, g1, h1], ix2, n + 1, x2, Or.inl ?_⟩
            rw [g2]
            exact h2
    obtain ⟨k1, ix2, n2, k2, k3⟩ := key
    obtain ⟨e1, e2⟩ := inGsQ_spec G r t ix2 n2 k2 k3
    refine ⟨congrArg (· + 1) e1, fun i c hc => ?_⟩
    rcases i with _ | i
    · cases hc
      exact k1
    · exact e2 i c hc
/-- how far the cells are themselves -/
noncomputable def idP (τ : List Nat) : List Nat → Nat := List.rec (motive := fun _ => List Nat → Nat) (fun ix => List.rec (motive := fun _ => Nat) 0 (fun j _ _ => j) ix) (fun i _ h ix => List.rec (motive := fun _ => Nat) 0 (fun j ix2 _ => Bool.rec (motive := fun _ => Nat) j (h ix2) (Nat.beq i j)) ix) τ
theorem idP_spec : ∀ (τ ix : List Nat) (n : Nat), ixOk n ix → ∀ i, n + i < idP τ ix → τ[i]? = some (n + i)
  | [], [], n, _, i, h => absurd h (Nat.not_lt_zero _)
  | [], j :: ix, n, hx, i, h => by
    obtain ⟨x1, -⟩ := ixOk_t hx
    have h : n + i < j := h
    omega
  | a :: r, [], n, _, i, h => absurd h (Nat.not_lt_zero _)
  | a :: r, j :: ix, n, hx, i, h => by
    obtain ⟨x1, x2⟩ := ixOk_t hx
    have h : n + i < Bool.rec (motive := fun _ => Nat) j (idP r ix) (Nat.beq a j) := h
    rcases e : Nat.beq a j with _ | _
    · rw [e] at h
      have h : n + i < j := h
      omega
    · rw [e] at h
      have h : n + i < idP r ix := h
      have e := Nat.eq_of_beq_eq_true e
      rcases i with _ | i
      · rw [List.getElem?_cons_zero, e, x1, Nat.add_zero]
      · rw [List.getElem?_cons_succ, idP_spec r ix (n + 1) x2 i (by omega)]
        congr 1
        omega
/-- how far the ints are themselves -/
noncomputable def idN (θ : List lT) : List Nat → Nat := List.rec (motive := fun _ => List Nat → Nat) (fun ix => List.rec (motive := fun _ => Nat) 0 (fun j _ _ => j) ix) (fun l _ h ix => List.rec (motive := fun _ => Nat) 0 (fun j ix2 _ => Bool.rec (motive := fun _ => Nat) j (h ix2) (lEq l (lSy j))) ix) θ
theorem idN_spec : ∀ (θ : List lT) (ix : List Nat) (n : Nat), ixOk n ix → ∀ i, n + i < idN θ ix → θ[i]? = some (lSy (n + i))
  | [], [], n, _, i, h => absurd h (Nat.not_lt_zero _)
  | [], j :: ix, n, hx, i, h => by
    obtain ⟨x1, -⟩ := ixOk_t hx
    have h : n + i < j := h
    omega
  | a :: r, [], n, _, i, h => absurd h (Nat.not_lt_zero _)
  | a :: r, j :: ix, n, hx, i, h => by
    obtain ⟨x1, x2⟩ := ixOk_t hx
    have h : n + i < Bool.rec (motive := fun _ => Nat) j (idN r ix) (lEq a (lSy j)) := h
    rcases e : lEq a (lSy j) with _ | _
    · rw [e] at h
      have h : n + i < j := h
      omega
    · rw [e] at h
      have h : n + i < idN r ix := h
      have e := lEq_spec e
      rcases i with _ | i
      · rw [List.getElem?_cons_zero, e, x1, Nat.add_zero]
      · rw [List.getElem?_cons_succ, idN_spec r ix (n + 1) x2 i (by omega)]
        congr 2
        omega
theorem idP_sR {σ : Nat → Nat} {τ : List Nat} {m : Nat} (h : ∀ i, i < m → τ[i]? = some i) {i : Nat} (hi : i < m) : sR (sO σ τ) i = sR σ i := by
  have e : sO σ τ i = sR σ i := by
    unfold sO
    rw [List.getD_eq_getElem?_getD, h i hi]
    rfl
  unfold sR at e ⊢
  by_cases c : i < 1000000
  · rw [if_pos c, e]
  · rw [if_neg c, if_neg c]
theorem idN_rO {ρ : Nat → Int} {θ : List lT} {n : Nat} (h : ∀ i, i < n → θ[i]? = some (lSy i)) {i : Nat} (hi : i < n) : rO ρ θ i = ρ i := by
  unfold rO
  rw [List.getD_eq_getElem?_getD, h i hi]
  exact lSy_ev ρ i
/-- two values, as they are written -/
noncomputable def vEy (a b : vA) : Bool := Sum.rec (motive := fun _ => Bool) (fun e => Sum.rec (motive := fun _ => Bool) (fun d => lEq e d) (fun _ => false) b) (fun o => Sum.rec (motive := fun _ => Bool) (fun _ => false) (fun p => Option.rec (motive := fun _ => Bool) (Option.rec (motive := fun _ => Bool) true (fun _ => false) p) (fun i => Option.rec (motive := fun _ => Bool) false (fun j => Nat.beq i j) p) o) b) a
theorem vEy_spec {a b : vA} (h : vEy a b = true) : a = b := by
  rcases a with a | (_ | a) <;> rcases b with b | (_ | b)
  · exact congrArg Sum.inl (lEq_spec h)
  · cases h
  · cases h
  · cases h
  · rfl
  · cases h
  · cases h
  · cases h
  · have h : a = b := Nat.eq_of_beq_eq_true h
    rw [h]
/-- it speaks of cells and ints that are themselves -/
noncomputable def fBs (m n : Nat) (f : vK) : Bool := Bool.rec (motive := fun _ => Bool) false (Bool.rec (motive := fun _ => Bool) false (Sum.rec (motive := fun _ => Bool) (fun e => lBdR n e.2) (fun o => Option.rec (motive := fun _ => Bool) true (fun i => Nat.ble (Nat.succ i) m) o) f.2.2) (Sum.rec (motive := fun _ => Bool) (fun _ => true) (fun e => lBdR n e.2) f.2.1)) (Nat.ble (Nat.succ f.1) m)
noncomputable def fEy (f g : vK) : Bool := Bool.rec (motive := fun _ => Bool) false (Bool.rec (motive := fun _ => Bool) false (vEy f.2.2 g.2.2) (kyEq f.2.1 g.2.1)) (Nat.beq f.1 g.1)
theorem fEy_spec {f g : vK} (h : fEy f g = true) : f = g := by
  obtain ⟨h1, h⟩ := qbR (show Bool.rec (motive := fun _ => Bool) false (Bool.rec (motive := fun _ => Bool) false (vEy f.2.2 g.2.2) (kyEq f.2.1 g.2.1)) (Nat.beq f.1 g.1) = true from h)
  obtain ⟨h2, h3⟩ := qbR h
  obtain ⟨a, b, c⟩ := f
  obtain ⟨a2, b2, c2⟩ := g
  have h1 : a = a2 := Nat.eq_of_beq_eq_true h1
  have h2 : b = b2 := kyEq_spec h2
  have h3 : c = c2 := vEy_spec h3
  rw [h1, h2, h3]
theorem fBs_holds {ρ : Nat → Int} {σ : Nat → Nat} {H : List (XC Int32)} {θ : List lT} {τ : List Nat} {m n : Nat} (hm : ∀ i, i < m → τ[i]? = some i) (hn : ∀ i, i < n → θ[i]? = some (lSy i)) {f : vK} (hb : fBs m n f = true) (h : vHolds ρ σ H f) : vHolds (rO ρ θ) (sO σ τ) H f := by
  obtain ⟨h1, hb⟩ := qbR (show Bool.rec (motive := fun _ => Bool) false (Bool.rec (motive := fun _ => Bool) false (Sum.rec (motive := fun _ => Bool) (fun e => lBdR n e.2) (fun o => Option.rec (motive := fun _ => Bool) true (fun i => Nat.ble (Nat.succ i) m) o) f.2.2) (Sum.rec (motive := fun _ => Bool) (fun _ => true) (fun e => lBdR n e.2) f.2.1)) (Nat.ble (Nat.succ f.1) m) = true from hb)
  obtain ⟨h2, h3⟩ := qbR hb
  have h1 : f.1 < m := Nat.le_of_ble_eq_true h1
  obtain ⟨a, b, c⟩ := f
  have ea : sR (sO σ τ) a = sR σ a := idP_sR hm h1
  have er : ∀ e : lT, lBdR n e.2 = true → lEv (rO ρ θ) e = lEv ρ e := fun e he => by
    rw [lBdR_eq] at he
    exact lBd_spec (n := n) (fun i hi => idN_rO hn hi) he
  have ec : cv (rO ρ θ) (sO σ τ) c = cv ρ σ c := by
    rcases c with e | (_ | k)
    · exact congrArg (fun z => Sum.inl (Int32.ofInt z)) (er e h3)
    · rfl
    · exact congrArg (fun z => Sum.inr (some z)) (idP_sR hm (Nat.le_of_ble_eq_true h3))
  rcases h with h | ⟨k, k1, k2, k3⟩
  · refine Or.inl ?_
    show vPlace (rO ρ θ) (sO σ τ) H a b (cv (rO ρ θ) (sO σ τ) c)
    rw [ec]
    have h : vPlace ρ σ H a b (cv ρ σ c) := h
    rcases b with j | e
    · unfold vPlace at h ⊢
      dsimp only at h ⊢
      rw [ea]
      exact h
    · unfold vPlace at h ⊢
      dsimp only at h ⊢
      rw [ea, er e h2]
      exact h
  · refine Or.inr ⟨k, k1, k2, ?_⟩
    have k2 : c = .inr (some k) := k2
    subst k2
    show sR (sO σ τ) a ≠ sR (sO σ τ) k
    rw [ea, idP_sR hm (Nat.le_of_ble_eq_true h3)]
    exact k3
/-- the same, its cells and ints looked up -/
noncomputable def fEs (θ : List lT) (τ : List Nat) (f g : vK) : Bool := Bool.rec (motive := fun _ => Bool) false (Bool.rec (motive := fun _ => Bool) (Bool.rec (motive := fun _ => Bool) false (Bool.rec (motive := fun _ => Bool) false (vEy (vSb θ τ f.2.2) g.2.2) (kyEq (kySb θ f.2.1) g.2.1)) (!(kyAp g.2.1))) (Bool.rec (motive := fun _ => Bool) false (Sum.rec (motive := fun _ => Bool) (fun _ => false) (fun o => Option.rec (motive := fun _ => Bool) false (fun i => vEy (.inr (some (tSb τ i))) g.2.2) o) f.2.2) (kyAp g.2.1)) (kyAp f.2.1)) (Nat.beq (tSb τ f.1) g.1)
theorem kyAp_eq {k : Nat ⊕ lT} (h : kyAp k = true) : k = .inr (lK (-1)) := by
  rcases k with j | e
  · cases h
  · obtain ⟨h1, h2⟩ := Bool.and_eq_true_iff.mp (show (decide (e.1 = -1) && e.2.isEmpty) = true from h)
    have h1 := of_decide_eq_true h1
    have h2 := List.isEmpty_iff.mp h2
    obtain ⟨a, b⟩ := e
    have h1 : a = -1 := h1
    have h2 : b = [] := h2
    rw [h1, h2]
    rfl
theorem fEs_holds {ρ : Nat → Int} {σ : Nat → Nat} {H : List (XC Int32)} {θ : List lT} {τ : List Nat} {f g : vK} (hb : fEs θ τ f g = true) (h : vHolds ρ σ H g) : vHolds (rO ρ θ) (sO σ τ) H f := by
  obtain ⟨h1, hb⟩ := qbR (show Bool.rec (motive := fun _ => Bool) false (Bool.rec (motive := fun _ => Bool) (Bool.rec (motive := fun _ => Bool) false (Bool.rec (motive := fun _ => Bool) false (vEy (vSb θ τ f.2.2) g.2.2) (kyEq (kySb θ f.2.1) g.2.1)) (!(kyAp g.2.1))) (Bool.rec (motive := fun _ => Bool) false (Sum.rec (motive := fun _ => Bool) (fun _ => false) (fun o => Option.rec (motive := fun _ => Bool) false (fun i => vEy (.inr (some (tSb τ i))) g.2.2) o) f.2.2) (kyAp g.2.1)) (kyAp f.2.1)) (Nat.beq (tSb τ f.1) g.1) = true from hb)
  have h1 := Nat.eq_of_beq_eq_true h1
  rcases ha : kyAp f.2.1 with _ | _
  · rw [ha] at hb
    obtain ⟨h2, hb⟩ := qbR (show Bool.rec (motive := fun _ => Bool) false (Bool.rec (motive := fun _ => Bool) false (vEy (vSb θ τ f.2.2) g.2.2) (kyEq (kySb θ f.2.1) g.2.1)) (!(kyAp g.2.1)) = true from hb)
    obtain ⟨h3, h4⟩ := qbR hb
    have h3 := kyEq_spec h3
    have h4 := vEy_spec h4
    rcases h with h | ⟨k, k1, k2, k3⟩
    · refine Or.inl (vPlace_sb.mp ?_)
      rw [← vSb_cv, h4, h3, h1]
      exact h
    · exfalso
      rw [k1] at h2
      cases h2
  · rw [ha] at hb
    obtain ⟨h2, hb⟩ := qbR (show Bool.rec (motive := fun _ => Bool) false (Sum.rec (motive := fun _ => Bool) (fun _ => false) (fun o => Option.rec (motive := fun _ => Bool) false (fun i => vEy (.inr (some (tSb τ i))) g.2.2) o) f.2.2) (kyAp g.2.1) = true from hb)
    have h2 := kyAp_eq h2
    rcases hv : f.2.2 with e | (_ | i)
    · rw [hv] at hb
      cases hb
    · rw [hv] at hb
      cases hb
    · rw [hv] at hb
      have hb : .inr (some (tSb τ i)) = g.2.2 := vEy_spec hb
      rcases h with h | ⟨k, k1, k2, k3⟩
      · exfalso
        rw [h2] at h
        unfold vPlace at h
        obtain ⟨t, vs, -, h, -⟩ := h
        rw [lK_ev] at h
        omega
      · rw [← hb] at k2
        cases k2
        refine Or.inr ⟨i, kyAp_eq ha, hv, ?_⟩
        rw [← tSb_spec, ← tSb_spec, h1]
        exact k3
/-- the first of some that is it; what stands behind it -/
noncomputable def fSk (t : vK → Bool) (F : List vK) : List Nat → Option (List vK) := List.rec (motive := fun _ => List Nat → Option (List vK)) (fun _ => none) (fun g r h fu => List.rec (motive := fun _ => Option (List vK)) none (fun _ fu2 _ => Bool.rec (motive := fun _ => Option (List vK)) (h fu2) (some r) (t g)) fu) F
theorem fSk_spec {t : vK → Bool} : ∀ {F : List vK} {fu : List Nat} {r : List vK}, fSk t F fu = some r → (∃ g ∈ F, t g = true) ∧ ∀ x ∈ r, x ∈ F
  | [], _, _, h => by cases h
  | g :: F, [], _, h => by cases h
  | g :: F, u :: fu, r, h => by
    have h : Bool.rec (motive := fun _ => Option (List vK)) (fSk t F fu) (some F) (t g) = some r := h
    rcases e : t g with _ | _
    · rw [e] at h
      obtain ⟨⟨x, hx, e2⟩, h2⟩ := fSk_spec (show fSk t F fu = some r from h)
      exact ⟨⟨x, List.mem_cons_of_mem _ hx, e2⟩, fun y hy => List.mem_cons_of_mem _ (h2 y hy)⟩
    · rw [e] at h
      have h : some F = some r := h
      cases h
      exact ⟨⟨g, List.mem_cons_self, e⟩, fun y hy => List.mem_cons_of_mem _ hy⟩
/-- as vMc asks of a fact -/
noncomputable def fSlo (s : vSt) (lg : Nat) (θ : List lT) (τ : List Nat) (f : vK) : Bool := (match fGet (tSb τ f.1) (kySb θ f.2.1) (sF s) with
    | some v => vQ s v (vSb θ τ f.2.2)
    | none => match f.2.1, f.2.2 with
      | .inr e, .inr (some k) => lEq e (lK (-1)) && decide (f.1 < lg) && decide (k < lg) && (vApart (sG s) (tSb τ f.1) (tSb τ k) || fAp (sF s) (tSb τ f.1) (tSb τ k))
      | _, _ => false)
theorem fSlo_holds {KT : vKT} {ρ : Nat → Int} {σ : Nat → Nat} {ty : Nat → Option Nat} {H : List (XC Int32)} {s : vSt} (h : vRel KT ρ σ ty H s) {lg : Nat} {θ : List lT} {τ : List Nat} {f : vK} (h1 : fSlo s lg θ τ f = true) : vHolds (rO ρ θ) (sO σ τ) H f := by
  unfold fSlo at h1
  split at h1
  · rename_i v hv
    have h2 := fGet_spec h.2.2.1 hv
    rw [vQ_spec h h1, vSb_cv] at h2
    exact Or.inl (vPlace_sb.mp h2)
  · split at h1
    rotate_left
    · cases h1
    rename_i e k hk1 hk2
    simp only [Bool.and_eq_true] at h1
    obtain ⟨⟨⟨w1, w2⟩, w3⟩, w4⟩ := h1
    have hne : sR σ (tSb τ f.1) ≠ sR σ (tSb τ k) := by
      rcases Bool.or_eq_true_iff.mp w4 with w4 | w4
      · exact vApart_spec h.2.1 w4
      · exact fAp_spec h.2.2.1 w4
    rw [tSb_spec, tSb_spec] at hne
    exact Or.inr ⟨k, by rw [hk1, lEq_spec w1], hk2, hne⟩
def lFu : List Nat := [0, 0, 0, 0, 0, 0, 0, 0]
noncomputable def fTs (m n : Nat) (θ : List lT) (τ : List Nat) (f : vK) : vK → Bool := Bool.rec (motive := fun _ => vK → Bool) (fEs θ τ f) (fEy f) (fBs m n f)
noncomputable def fAlQ (s : vSt) (lg m n : Nat) (θ : List lT) (τ : List Nat) (T : List vK) : List vK → Bool := List.rec (motive := fun _ => List vK → Bool) (fun _ => true) (fun f _ h cur => Option.rec (motive := fun _ => Bool) (Bool.rec (motive := fun _ => Bool) false (h cur) (fSlo s lg θ τ f)) (fun r => h r) (fSk (fTs m n θ τ f) cur lFu)) T
theorem fAlQ_spec {KT : vKT} {ρ : Nat → Int} {σ : Nat → Nat} {ty : Nat → Option Nat} {H : List (XC Int32)} {s : vSt} (h : vRel KT ρ σ ty H s) {lg m n : Nat} {θ : List lT} {τ : List Nat} (hm : ∀ i, i < m → τ[i]? = some i) (hn : ∀ i, i < n → θ[i]? = some (lSy i)) : ∀ {T cur : List vK}, (∀ x ∈ cur, x ∈ sF s) → fAlQ s lg m n θ τ T cur = true → ∀ f ∈ T, vHolds (rO ρ θ) (sO σ τ) H f
  | [], _, _, _, f, hf => absurd hf List.not_mem_nil
  | a :: T, cur, hc, hk, f, hf => by
    have hk : Option.rec (motive := fun _ => Bool) (Bool.rec (motive := fun _ => Bool) false (fAlQ s lg m n θ τ T cur) (fSlo s lg θ τ a)) (fun r => fAlQ s lg m n θ τ T r) (fSk (fTs m n θ τ a) cur lFu) = true := hk
    rcases e : fSk (fTs m n θ τ a) cur lFu with _ | r
    · rw [e] at hk
      obtain ⟨k1, k2⟩ := qbR (show Bool.rec (motive := fun _ => Bool) false (fAlQ s lg m n θ τ T cur) (fSlo s lg θ τ a) = true from hk)
      rcases List.mem_cons.mp hf with rfl | hf
      · exact fSlo_holds h k1
      · exact fAlQ_spec h hm hn hc k2 f hf
    · rw [e] at hk
      obtain ⟨⟨g, hg, e2⟩, h2⟩ := fSk_spec e
      rcases List.mem_cons.mp hf with rfl | hf
      · have hh := h.2.2.1 g (hc g hg)
        have e2 : Bool.rec (motive := fun _ => vK → Bool) (fEs θ τ f) (fEy f) (fBs m n f) g = true := e2
        rcases eb : fBs m n f with _ | _
        · rw [eb] at e2
          exact fEs_holds e2 hh
        · rw [eb] at e2
          rw [fEy_spec e2] at eb ⊢
          exact fBs_holds hm hn eb hh
      · exact fAlQ_spec h hm hn (fun x hx => hc x (h2 x hx)) (show fAlQ s lg m n θ τ T r = true from hk) f hf
/-- vMc, faster -/
noncomputable def vMcQ (A : vAn) (θ : List lT) (τ : List Nat) (L : List (Nat × vA)) (S : List vA) (s : vSt) : Bool :=
  (sRw s).isEmpty && (aL A).all (fun q => match x_lk L q.1 with
    | some v => vQ s v (vSb θ τ q.2)
    | none => false) && vQs s θ τ S (aS A) && inIsQ (sI s) (sC s) θ (aI A) && inGsQ (sG s) τ (aG A) lIx (sG s) && fAlQ s (aG A).length (idP τ lIx) (idN θ lIx) θ τ (aF A) (sF s) && (aC A).all (fun c => lGe (sI s) (sC s) (lSb θ c)) && (aM A).all (fun m => match mGet m.1 (lSb θ m.2.1) (lSb θ m.2.2.1) (sM s) with
    | some r => lQ (sI s) (sC s) r (lSb θ m.2.2.2)
    | none => decide (m.1 = 3) && lEq (lSb θ m.2.1) (lK 0) && lEq (lSb θ m.2.2.2) (lK 0)) && decide ((aG A).length < 1000000)
theorem vMcQ_spec {KT : vKT} {ρ : Nat → Int} {σ : Nat → Nat} {ty : Nat → Option Nat} {H : List (XC Int32)} {s : vSt} (h : vRel KT ρ σ ty H s) {A : vAn} {θ : List lT} {τ : List Nat} {L : List (Nat × vA)} {S : List vA} (hk : vMcQ A θ τ L S s = true) :
    vRel KT (rO ρ θ) (sO σ τ) ty H (aSt A) ∧ (∀ Lc, vCov ρ σ L Lc → vCov (rO ρ θ) (sO σ τ) (aL A) Lc) ∧ S.map (cv ρ σ) = (aS A).map (cv (rO ρ θ) (sO σ τ)) ∧ θ.length = (aI A).length ∧ τ.length = (aG A).length ∧ (∀ a c, ty a = some c → kRaw KT c = none) := by
  unfold vMcQ at hk
  simp only [Bool.and_eq_true] at hk
  obtain ⟨⟨⟨⟨⟨⟨⟨⟨k0, k3⟩, k4⟩, k1⟩, k2⟩, k5⟩, k6⟩, k7⟩, k8⟩ := hk
  have k8 := of_decide_eq_true k8
  obtain ⟨i1, i2⟩ := inIsQ_spec h.2.2.2.1 h.2.2.2.2.1 k1
  obtain ⟨j1, j2⟩ := inGsQ_spec (sG s) τ (aG A) lIx 0 ixOk_0 (Or.inl k2)
  have hraw : ∀ a c, ty a = some c → kRaw KT c = none := fun a c ha => by
    rcases hR : kRaw KT c with _ | d
    · rfl
    · obtain ⟨i, hi, -⟩ := h.2.2.2.2.2.2.2 a c d ha hR
      rw [List.isEmpty_iff.mp k0] at hi
      cases hi
  refine ⟨⟨h.1, fun i c hc => ?_, fun f hf => ?_, zipI_spec.mpr (fun i p hp => ?_), fun c hc => ?_, fun m hm => ?_, h.2.2.2.2.2.2.1, fun a c d ha hd => ?_⟩, fun Lc hc j v hj => ?_, vQs_spec h k4, i1, j1, hraw⟩
  · have h1 := h.2.1 _ c (j2 i c hc)
    have hlt := (List.getElem?_eq_some_iff.mp hc).1
    have hlt : i < (aG A).length := hlt
    show ty (if i < 1000000 then sO σ τ i else i) = some c
    rw [if_pos (by omega)]
    exact h1
  · exact fAlQ_spec h (fun i hi => by
      have := idP_spec τ lIx 0 ixOk_0 i (by omega)
      rw [this, Nat.zero_add]) (fun i hi => by
      have := idN_spec θ lIx 0 ixOk_0 i (by omega)
      rw [this, Nat.zero_add]) (fun x hx => hx) k5 f hf
  · rw [Nat.zero_add]
    exact i2 i p hp
  · have h1 := lGe_spec h.2.2.2.1 h.2.2.2.2.1 (List.all_eq_true.mp k6 c hc)
    rw [lSb_ev] at h1
    exact h1
  · have h1 := List.all_eq_true.mp k7 m hm
    split at h1
    · rename_i r hr
      have h2 := mGet_spec h.2.2.2.2.2.1 hr
      rw [lQ_spec h.2.2.2.1 h.2.2.2.2.1 h1, lSb_ev, lSb_ev, lSb_ev] at h2
      exact h2
    · have h2 := Bool.and_eq_true_iff.mp h1
      have h3 := Bool.and_eq_true_iff.mp h2.1
      have e1 : m.1 = 3 := of_decide_eq_true h3.1
      have e2 := congrArg (lEv ρ) (lEq_spec h3.2)
      have e3 := congrArg (lEv ρ) (lEq_spec h2.2)
      rw [lSb_ev, lK_ev] at e2 e3
      unfold mHd
      rw [e1, e2, e3]
      exact Int32.zero_and
  · rw [hraw a c ha] at hd
    cases hd
  · have hm : (j, v) ∈ aL A := by
      simp only [x_lk_eq] at hj
      obtain ⟨q, hq, e⟩ := Option.map_eq_some_iff.mp hj
      have h1 := List.mem_of_find?_eq_some hq
      have h2 := List.find?_some hq
      simp only [beq_iff_eq] at h2
      obtain ⟨q1, q2⟩ := q
      have h2 : q1 = j := h2
      have e : q2 = v := e
      rw [h2, e] at h1
      exact h1
    have h1 := List.all_eq_true.mp k3 (j, v) hm
    dsimp only at h1
    split at h1
    · rename_i u hu
      rw [hc j u hu, vQ_spec h h1, vSb_cv]
    · cases h1
end
end XFast
