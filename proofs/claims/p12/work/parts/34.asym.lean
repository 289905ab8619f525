/-! Ints as terms over unknowns: known where they can be known; a question whose answer isn't known goes both ways. -/
section XSym
/-- .arg i: an unknown; .elem (.add (.index o) a) b: operation o of a and b; .length (.add (.index o) a): of a -/
def tEv (ρ : Nat → Int32) : Jvm.Term → Int32
  | .int v => v
  | .arg i => ρ i
  | .elem (.add (.index o) a) b => x_bin o (tEv ρ a) (tEv ρ b)
  | .length (.add (.index o) a) => x_un o (tEv ρ a)
  | _ => 0
def tBin (o : Nat) (a b : Jvm.Term) : Jvm.Term := match a, b with
  | .int x, .int y => .int (x_bin o x y)
  | a, b => if o = 3 ∧ b = .int (-1) then a else .elem (.add (.index o) a) b
def tUn (o : Nat) (a : Jvm.Term) : Jvm.Term := match a with
  | .int x => .int (x_un o x)
  | a => .length (.add (.index o) a)
def tKst : Jvm.Term → Option Int32
  | .int v => some v
  | _ => none
/-- what holds on a way: (less, not equal), a, b, whether it is so -/
abbrev TK : Type := Bool × Jvm.Term × Jvm.Term × Bool
def tRel (ρ : Nat → Int32) (k : TK) : Bool := if k.1 then decide (tEv ρ k.2.1 < tEv ρ k.2.2.1) else decide (tEv ρ k.2.1 = tEv ρ k.2.2.1)
def tHd (ρ : Nat → Int32) (k : TK) : Prop := tRel ρ k = k.2.2.2
/-- what one entry says of e from below, from above -/
def tLo (e : Jvm.Term) (k : TK) : Int := match k with
  | (true, a, .int v, false) => if a = e then v.toInt else -2147483648
  | (true, .int v, b, true) => if b = e then v.toInt + 1 else -2147483648
  | (false, a, .int v, true) => if a = e then v.toInt else -2147483648
  | _ => -2147483648
def tHi (e : Jvm.Term) (k : TK) : Int := match k with
  | (true, a, .int v, true) => if a = e then v.toInt - 1 else 2147483647
  | (true, .int v, b, false) => if b = e then v.toInt else 2147483647
  | (false, a, .int v, true) => if a = e then v.toInt else 2147483647
  | _ => 2147483647
def tLb (e : Jvm.Term) : List TK → Int
  | [] => -2147483648
  | k :: w => let m := tLb e w; let x := tLo e k; if m ≤ x then x else m
def tUb (e : Jvm.Term) : List TK → Int
  | [] => 2147483647
  | k :: w => let m := tUb e w; let x := tHi e k; if x ≤ m then x else m
/-- is e known not to be l -/
def tNe (e : Jvm.Term) (l : Int) : List TK → Bool
  | [] => false
  | k :: w => (match k with
    | (false, a, .int v, false) => decide (a = e) && decide (v.toInt = l)
    | (false, .int v, b, false) => decide (b = e) && decide (v.toInt = l)
    | _ => false) || tNe e l w
def tUp (e : Jvm.Term) (w : List TK) : Nat → Int → Int
  | 0, l => l
  | n + 1, l => if tNe e l w then tUp e w n (l + 1) else l
def tDn (e : Jvm.Term) (w : List TK) : Nat → Int → Int
  | 0, l => l
  | n + 1, l => if tNe e l w then tDn e w n (l - 1) else l
def tL (e : Jvm.Term) (w : List TK) : Int := match e with
  | .int v => v.toInt
  | e => tUp e w 8 (tLb e w)
def tU (e : Jvm.Term) (w : List TK) : Int := match e with
  | .int v => v.toInt
  | e => tDn e w 8 (tUb e w)
theorem tRng (x : Int32) : -2147483648 ≤ x.toInt ∧ x.toInt ≤ 2147483647 := by
  have h1 := Int32.le_toInt x
  have h2 := Int32.toInt_lt x
  constructor <;> omega
theorem tLo_spec {ρ : Nat → Int32} {e : Jvm.Term} {k : TK} (h : tHd ρ k) : tLo e k ≤ (tEv ρ e).toInt := by
  have hr := (tRng (tEv ρ e)).1
  unfold tLo
  split
  · split
    · rename_i a v he
      subst he
      have h1 : decide (tEv ρ a < v) = false := h
      have h2 := of_decide_eq_false h1
      have h3 := Int32.not_lt.mp h2
      exact Int32.le_iff_toInt_le.mp h3
    · exact hr
  · split
    · rename_i v b he
      subst he
      have h1 : decide (v < tEv ρ b) = true := h
      have h2 := Int32.lt_iff_toInt_lt.mp (of_decide_eq_true h1)
      omega
    · exact hr
  · split
    · rename_i a v he
      subst he
      have h1 : decide (tEv ρ a = v) = true := h
      have h2 := of_decide_eq_true h1
      rw [h2]
      exact Int.le_refl _
    · exact hr
  · exact hr
theorem tHi_spec {ρ : Nat → Int32} {e : Jvm.Term} {k : TK} (h : tHd ρ k) : (tEv ρ e).toInt ≤ tHi e k := by
  have hr := (tRng (tEv ρ e)).2
  unfold tHi
  split
  · split
    · rename_i a v he
      subst he
      have h1 : decide (tEv ρ a < v) = true := h
      have h2 := Int32.lt_iff_toInt_lt.mp (of_decide_eq_true h1)
      omega
    · exact hr
  · split
    · rename_i v b he
      subst he
      have h1 : decide (v < tEv ρ b) = false := h
      have h2 := Int32.not_lt.mp (of_decide_eq_false h1)
      exact Int32.le_iff_toInt_le.mp h2
    · exact hr
  · split
    · rename_i a v he
      subst he
      have h1 : decide (tEv ρ a = v) = true := h
      have h2 := of_decide_eq_true h1
      rw [h2]
      exact Int.le_refl _
    · exact hr
  · exact hr
theorem tLb_spec {ρ : Nat → Int32} {e : Jvm.Term} : ∀ {w : List TK}, XPa (tHd ρ) w → tLb e w ≤ (tEv ρ e).toInt
  | [], _ => (tRng _).1
  | k :: w, h => by
    have h1 := tLb_spec (e := e) (w := w) (fun z hz => h z (List.mem_cons_of_mem _ hz))
    have h2 := tLo_spec (e := e) (h k List.mem_cons_self)
    show (if tLb e w ≤ tLo e k then tLo e k else tLb e w) ≤ _
    split <;> assumption
theorem tUb_spec {ρ : Nat → Int32} {e : Jvm.Term} : ∀ {w : List TK}, XPa (tHd ρ) w → (tEv ρ e).toInt ≤ tUb e w
  | [], _ => (tRng _).2
  | k :: w, h => by
    have h1 := tUb_spec (e := e) (w := w) (fun z hz => h z (List.mem_cons_of_mem _ hz))
    have h2 := tHi_spec (e := e) (h k List.mem_cons_self)
    show _ ≤ (if tHi e k ≤ tUb e w then tHi e k else tUb e w)
    split <;> assumption
theorem tNe_spec {ρ : Nat → Int32} {e : Jvm.Term} {l : Int} : ∀ {w : List TK}, XPa (tHd ρ) w → tNe e l w = true → (tEv ρ e).toInt ≠ l
  | [], _, h => by cases h
  | k :: w, hw, h => by
    simp only [tNe, Bool.or_eq_true] at h
    rcases h with h | h
    · have hk := hw k List.mem_cons_self
      split at h
      · rename_i a v
        simp only [Bool.and_eq_true, decide_eq_true_eq] at h
        obtain ⟨rfl, h2⟩ := h
        have h1 : decide (tEv ρ a = v) = false := hk
        intro h3
        exact of_decide_eq_false h1 (Int32.toInt_inj.mp (h3.trans h2.symm))
      · rename_i v b _
        simp only [Bool.and_eq_true, decide_eq_true_eq] at h
        obtain ⟨rfl, h2⟩ := h
        have h1 : decide (v = tEv ρ b) = false := hk
        intro h3
        exact of_decide_eq_false h1 (Int32.toInt_inj.mp (h2.trans h3.symm))
      · cases h
    · exact tNe_spec (fun z hz => hw z (List.mem_cons_of_mem _ hz)) h
theorem tUp_spec {ρ : Nat → Int32} {e : Jvm.Term} {w : List TK} (hw : XPa (tHd ρ) w) : ∀ (n : Nat) (l : Int), l ≤ (tEv ρ e).toInt → tUp e w n l ≤ (tEv ρ e).toInt
  | 0, _, h => h
  | n + 1, l, h => by
    simp only [tUp]
    split
    · rename_i hn
      have h1 := tNe_spec hw hn
      exact tUp_spec hw n (l + 1) (by omega)
    · exact h
theorem tDn_spec {ρ : Nat → Int32} {e : Jvm.Term} {w : List TK} (hw : XPa (tHd ρ) w) : ∀ (n : Nat) (l : Int), (tEv ρ e).toInt ≤ l → (tEv ρ e).toInt ≤ tDn e w n l
  | 0, _, h => h
  | n + 1, l, h => by
    simp only [tDn]
    split
    · rename_i hn
      have h1 := tNe_spec hw hn
      exact tDn_spec hw n (l - 1) (by omega)
    · exact h
theorem tL_spec {ρ : Nat → Int32} {e : Jvm.Term} {w : List TK} (h : XPa (tHd ρ) w) : tL e w ≤ (tEv ρ e).toInt := by
  unfold tL
  split
  · exact Int.le_refl _
  · exact tUp_spec h 8 _ (tLb_spec h)
theorem tU_spec {ρ : Nat → Int32} {e : Jvm.Term} {w : List TK} (h : XPa (tHd ρ) w) : (tEv ρ e).toInt ≤ tU e w := by
  unfold tU
  split
  · exact Int.le_refl _
  · exact tDn_spec h 8 _ (tUb_spec h)
/-- the value where what holds tells it -/
def tKv (w : List TK) : Jvm.Term → Option Int32
  | .int v => some v
  | .arg i => if tL (.arg i) w = tU (.arg i) w then some (Int32.ofInt (tL (.arg i) w)) else none
  | .elem (.add (.index o) a) b => match tKv w a, tKv w b with
    | some x, some y => some (x_bin o x y)
    | _, _ => none
  | .length (.add (.index o) a) => match tKv w a with
    | some x => some (x_un o x)
    | none => none
  | _ => none
theorem tKv_spec {ρ : Nat → Int32} {w : List TK} (h : XPa (tHd ρ) w) : ∀ (e : Jvm.Term) (v : Int32), tKv w e = some v → tEv ρ e = v
  | .int v, u, hv => by
    simp only [tKv, Option.some.injEq] at hv
    exact hv
  | .arg i, u, hv => by
    simp only [tKv] at hv
    split at hv
    · rename_i he
      have h1 := tL_spec (e := .arg i) h
      have h2 := tU_spec (e := .arg i) h
      have h3 : (tEv ρ (.arg i)).toInt = tL (.arg i) w := by omega
      simp only [Option.some.injEq] at hv
      rw [← hv, ← h3]
      exact (Int32.ofInt_toInt _).symm
    · cases hv
  | .elem (.add (.index o) a) b, u, hv => by
    simp only [tKv] at hv
    split at hv
    · rename_i x y hx hy
      simp only [Option.some.injEq] at hv
      rw [← hv, ← tKv_spec h a x hx, ← tKv_spec h b y hy]
      rfl
    · cases hv
  | .length (.add (.index o) a), u, hv => by
    simp only [tKv] at hv
    split at hv
    · rename_i x hx
      simp only [Option.some.injEq] at hv
      rw [← hv, ← tKv_spec h a x hx]
      rfl
    · cases hv
/-- an unknown of a term that has only few values left -/
def tFew (w : List TK) : Jvm.Term → Option (Nat × Int × Nat)
  | .arg i => let l := tL (.arg i) w; let u := tU (.arg i) w; if l < u ∧ u ≤ l + 8 then some (i, l, (u - l).toNat + 1) else none
  | .elem (.add (.index _) a) b => match tFew w a with
    | some q => some q
    | none => tFew w b
  | .length (.add (.index _) a) => tFew w a
  | _ => none
def tPlain : Jvm.Term → Bool
  | .int _ => true
  | .arg _ => true
  | _ => false
theorem tFew_spec {ρ : Nat → Int32} {w : List TK} (h : XPa (tHd ρ) w) : ∀ (e : Jvm.Term) (i : Nat) (l : Int) (n : Nat), tFew w e = some (i, l, n) → l ≤ (ρ i).toInt ∧ (ρ i).toInt < l + n
  | .arg j, i, l, n, hv => by
    simp only [tFew] at hv
    split at hv
    · rename_i he
      simp only [Option.some.injEq, Prod.mk.injEq] at hv
      obtain ⟨rfl, rfl, rfl⟩ := hv
      have h1 := tL_spec (e := .arg j) h
      have h2 := tU_spec (e := .arg j) h
      have h3 : tEv ρ (.arg j) = ρ j := rfl
      rw [h3] at h1 h2
      omega
    · cases hv
  | .elem (.add (.index o) a) b, i, l, n, hv => by
    simp only [tFew] at hv
    split at hv
    · rename_i q hq
      simp only [Option.some.injEq] at hv
      subst hv
      exact tFew_spec h a i l n hq
    · exact tFew_spec h b i l n hv
  | .length (.add (.index o) a), i, l, n, hv => by
    simp only [tFew] at hv
    exact tFew_spec h a i l n hv
def tFork (kk : List TK → XR TK) (i : Nat) (l : Int) (w : List TK) : Nat → XR TK
  | 0 => []
  | n + 1 => kk ((false, .arg i, .int (Int32.ofInt (l + n)), true) :: w) ++ tFork kk i l w n
def tFind (b : Bool) (x y : Jvm.Term) : List TK → Option Bool
  | [] => none
  | k :: w => if k.1 = b ∧ k.2.1 = x ∧ k.2.2.1 = y then some k.2.2.2 else tFind b x y w
theorem tFind_spec {ρ : Nat → Int32} {b t : Bool} {x y : Jvm.Term} : ∀ {w : List TK}, XPa (tHd ρ) w → tFind b x y w = some t → tRel ρ (b, x, y, true) = t
  | [], _, h => by cases h
  | k :: w, hw, h => by
    simp only [tFind] at h
    split at h
    · rename_i he
      obtain ⟨e1, e2, e3⟩ := he
      have h1 : tRel ρ k = k.2.2.2 := hw k List.mem_cons_self
      simp only [Option.some.injEq] at h
      rw [← h, ← h1]
      unfold tRel
      rw [e1, e2, e3]
    · exact tFind_spec (fun z hz => hw z (List.mem_cons_of_mem _ hz)) h
/-- the question: less (or equal), a, b -/
def tAsk : Nat → Bool → Jvm.Term → Jvm.Term → List TK → (List TK → XR TK) → (List TK → XR TK) → XR TK
  | 0, _, _, _, w, _, _ => [w]
  | f + 1, b, x, y, w, kt, kf => match tKv w x, tKv w y with
    | some u, some v => if (if b then decide (u < v) else decide (u = v)) then kt w else kf w
    | _, _ =>
      if x = y then (if b then kf w else kt w) else if b then
        if tU x w < tL y w then kt w else if tU y w ≤ tL x w then kf w else match tFind b x y w with
          | some true => kt w
          | some false => kf w
          | none => match (if tPlain x && tPlain y then none else match tFew w x with | some q => some q | none => tFew w y) with
            | some (i, l, n) => tFork (fun w2 => tAsk f b x y w2 kt kf) i l w n
            | none => kt ((b, x, y, true) :: w) ++ kf ((b, x, y, false) :: w)
      else
        if tU x w < tL y w then kf w else if tU y w < tL x w then kf w else match tFind b x y w with
          | some true => kt w
          | some false => kf w
          | none => match (if tPlain x && tPlain y then none else match tFew w x with | some q => some q | none => tFew w y) with
            | some (i, l, n) => tFork (fun w2 => tAsk f b x y w2 kt kf) i l w n
            | none => kt ((b, x, y, true) :: w) ++ kf ((b, x, y, false) :: w)
theorem tOkApp {ρ : Nat → Int32} {r1 r2 : XR TK} (h : XOk (tHd ρ) (r1 ++ r2)) : XOk (tHd ρ) r1 ∧ XOk (tHd ρ) r2 := ⟨fun b hb => h b (List.mem_append_left _ hb), fun b hb => h b (List.mem_append_right _ hb)⟩
theorem tFork_spec {ρ : Nat → Int32} {kk : List TK → XR TK} {i : Nat} {l : Int} {w : List TK} (hw : XPa (tHd ρ) w) : ∀ n : Nat, XOk (tHd ρ) (tFork kk i l w n) → l ≤ (ρ i).toInt → (ρ i).toInt < l + n → ∃ w2, XPa (tHd ρ) w2 ∧ XOk (tHd ρ) (kk w2)
  | 0, _, h1, h2 => by omega
  | n + 1, h, h1, h2 => by
    obtain ⟨g1, g2⟩ := tOkApp h
    by_cases he : (ρ i).toInt = l + n
    · refine ⟨_, ?_, g1⟩
      intro k hk
      rcases List.mem_cons.mp hk with rfl | hk
      · show decide (ρ i = Int32.ofInt (l + n)) = true
        rw [← he, Int32.ofInt_toInt]
        simp
      · exact hw k hk
    · exact tFork_spec hw n g2 h1 (by omega)
theorem tCons {ρ : Nat → Int32} {w : List TK} {k : TK} (hw : XPa (tHd ρ) w) (h : tHd ρ k) : XPa (tHd ρ) (k :: w) := fun z hz => by
  rcases List.mem_cons.mp hz with rfl | hz
  · exact h
  · exact hw z hz
theorem tAsk_spec {ρ : Nat → Int32} {b : Bool} {x y : Jvm.Term} {kt kf : List TK → XR TK} : ∀ (f : Nat) (w : List TK), XOk (tHd ρ) (tAsk f b x y w kt kf) → XPa (tHd ρ) w → ∃ w2, XPa (tHd ρ) w2 ∧ ((tRel ρ (b, x, y, true) = true ∧ XOk (tHd ρ) (kt w2)) ∨ (tRel ρ (b, x, y, true) = false ∧ XOk (tHd ρ) (kf w2)))
  | 0, w, h, hw => (x_bad h hw).elim
  | f + 1, w, h, hw => by
    have both : XOk (tHd ρ) (kt ((b, x, y, true) :: w) ++ kf ((b, x, y, false) :: w)) → ∃ w2, XPa (tHd ρ) w2 ∧ ((tRel ρ (b, x, y, true) = true ∧ XOk (tHd ρ) (kt w2)) ∨ (tRel ρ (b, x, y, true) = false ∧ XOk (tHd ρ) (kf w2))) := fun h => by
      obtain ⟨g1, g2⟩ := tOkApp h
      by_cases hr : tRel ρ (b, x, y, true) = true
      · exact ⟨_, tCons hw hr, Or.inl ⟨hr, g1⟩⟩
      · have hr2 : tRel ρ (b, x, y, true) = false := by simpa using hr
        exact ⟨_, tCons hw (show tRel ρ (b, x, y, false) = false from hr2), Or.inr ⟨hr2, g2⟩⟩
    have found : ∀ t, tFind b x y w = some t → XOk (tHd ρ) (if t then kt w else kf w) → ∃ w2, XPa (tHd ρ) w2 ∧ ((tRel ρ (b, x, y, true) = true ∧ XOk (tHd ρ) (kt w2)) ∨ (tRel ρ (b, x, y, true) = false ∧ XOk (tHd ρ) (kf w2))) := fun t ht h => by
      have h1 := tFind_spec hw ht
      cases t
      · exact ⟨w, hw, Or.inr ⟨h1, h⟩⟩
      · exact ⟨w, hw, Or.inl ⟨h1, h⟩⟩
    have few : ∀ i l n, (if tPlain x && tPlain y then none else match tFew w x with | some q => some q | none => tFew w y) = some (i, l, n) → XOk (tHd ρ) (tFork (fun w2 => tAsk f b x y w2 kt kf) i l w n) → ∃ w2, XPa (tHd ρ) w2 ∧ ((tRel ρ (b, x, y, true) = true ∧ XOk (tHd ρ) (kt w2)) ∨ (tRel ρ (b, x, y, true) = false ∧ XOk (tHd ρ) (kf w2))) := fun i l n hq h => by
      have hr : l ≤ (ρ i).toInt ∧ (ρ i).toInt < l + n := by
        split at hq
        · cases hq
        · split at hq
          · rename_i q hq1
            simp only [Option.some.injEq] at hq
            subst hq
            exact tFew_spec hw x i l n hq1
          · exact tFew_spec hw y i l n hq
      obtain ⟨w2, g1, g2⟩ := tFork_spec hw n h hr.1 hr.2
      exact tAsk_spec f w2 g2 g1
    have hx1 := tL_spec (e := x) hw
    have hx2 := tU_spec (e := x) hw
    have hy1 := tL_spec (e := y) hw
    have hy2 := tU_spec (e := y) hw
    rw [tAsk.eq_def] at h
    dsimp only at h
    split at h
    · rename_i u v hu hv
      have e1 := tKv_spec hw x u hu
      have e2 := tKv_spec hw y v hv
      have e3 : tRel ρ (b, x, y, true) = (if b then decide (u < v) else decide (u = v)) := by
        unfold tRel
        rw [e1, e2]
      rw [e3]
      by_cases hc : (if b then decide (u < v) else decide (u = v)) = true
      · rw [if_pos hc] at h
        exact ⟨w, hw, Or.inl ⟨hc, h⟩⟩
      · rw [if_neg hc] at h
        exact ⟨w, hw, Or.inr ⟨Bool.eq_false_iff.mpr hc, h⟩⟩
    · by_cases hxy : x = y
      · rw [if_pos hxy] at h
        subst hxy
        cases b
        · exact ⟨w, hw, Or.inl ⟨by simp [tRel], h⟩⟩
        · refine ⟨w, hw, Or.inr ⟨?_, h⟩⟩
          exact decide_eq_false (fun z => by have z2 : (tEv ρ x).toInt < (tEv ρ x).toInt := Int32.lt_iff_toInt_lt.mp z; omega)
      rw [if_neg hxy] at h
      split at h
      · rename_i hb
        split at h
        · refine ⟨w, hw, Or.inl ⟨?_, h⟩⟩
          unfold tRel
          rw [if_pos hb]
          exact decide_eq_true (Int32.lt_iff_toInt_lt.mpr (show (tEv ρ x).toInt < (tEv ρ y).toInt by omega))
        · split at h
          · refine ⟨w, hw, Or.inr ⟨?_, h⟩⟩
            unfold tRel
            rw [if_pos hb]
            exact decide_eq_false (fun z => by have z2 : (tEv ρ x).toInt < (tEv ρ y).toInt := Int32.lt_iff_toInt_lt.mp z; omega)
          · split at h
            · rename_i ht
              exact found true ht h
            · rename_i ht
              exact found false ht h
            · split at h
              · rename_i i l n hq
                exact few i l n hq h
              · exact both h
      · rename_i hb
        split at h
        · refine ⟨w, hw, Or.inr ⟨?_, h⟩⟩
          unfold tRel
          rw [if_neg hb]
          exact decide_eq_false (fun z => by have z2 : (tEv ρ x).toInt = (tEv ρ y).toInt := congrArg Int32.toInt z; omega)
        · split at h
          · refine ⟨w, hw, Or.inr ⟨?_, h⟩⟩
            unfold tRel
            rw [if_neg hb]
            exact decide_eq_false (fun z => by have z2 : (tEv ρ x).toInt = (tEv ρ y).toInt := congrArg Int32.toInt z; omega)
          · split at h
            · rename_i ht
              exact found true ht h
            · rename_i ht
              exact found false ht h
            · split at h
              · rename_i i l n hq
                exact few i l n hq h
              · exact both h
def tBr (o : Nat) (a b : Jvm.Term) (w : List TK) (kt kf : List TK → XR TK) : XR TK := match o with
  | 0 => tAsk 4 false a b w kt kf
  | 1 => tAsk 4 false a b w kf kt
  | 2 => tAsk 4 true a b w kt kf
  | 3 => tAsk 4 true a b w kf kt
  | 4 => tAsk 4 true b a w kt kf
  | _ => tAsk 4 true b a w kf kt
def tD (ρ : Nat → Int32) : XD Jvm.Term TK := (tEv ρ, fun v => .int v, tBin, tUn, tKst, tHd ρ, tBr)
theorem tBin_spec (ρ : Nat → Int32) (o : Nat) (a b : Jvm.Term) : tEv ρ (tBin o a b) = x_bin o (tEv ρ a) (tEv ρ b) := by
  unfold tBin
  split
  · rfl
  · split
    · rename_i h
      obtain ⟨rfl, rfl⟩ := h
      show tEv ρ a = tEv ρ a &&& (-1)
      apply Int32.toBitVec_inj.mp
      simp
    · rfl
theorem tUn_spec (ρ : Nat → Int32) (o : Nat) (a : Jvm.Term) : tEv ρ (tUn o a) = x_un o (tEv ρ a) := by
  unfold tUn
  split <;> rfl
theorem tBr_spec (ρ : Nat → Int32) (o : Nat) (a b : Jvm.Term) (w : List TK) (kt kf : List TK → XR TK) (h : XOk (tHd ρ) (tBr o a b w kt kf)) (hw : XPa (tHd ρ) w) : ∃ w', XPa (tHd ρ) w' ∧ ((x_cmp o (tEv ρ a) (tEv ρ b) = true ∧ XOk (tHd ρ) (kt w')) ∨ (x_cmp o (tEv ρ a) (tEv ρ b) = false ∧ XOk (tHd ρ) (kf w'))) := by
  have neg : ∀ (p : Prop) (i : Decidable p) (q : Prop) (j : Decidable q), (q ↔ ¬ p) → @decide p i = !(@decide q j) := fun p i q j hq => by
    by_cases hp : p
    · simp [hp, hq]
    · simp [hp, hq]
  unfold tBr at h
  split at h
  · exact tAsk_spec 4 w h hw
  · obtain ⟨w2, g1, g2⟩ := tAsk_spec 4 w h hw
    have e : tRel ρ (false, a, b, true) = !(x_cmp 1 (tEv ρ a) (tEv ρ b)) := neg _ _ _ _ Iff.rfl
    rw [e] at g2
    refine ⟨w2, g1, ?_⟩
    rcases g2 with ⟨z1, z2⟩ | ⟨z1, z2⟩
    · exact Or.inr ⟨by simpa using z1, z2⟩
    · exact Or.inl ⟨by simpa using z1, z2⟩
  · exact tAsk_spec 4 w h hw
  · obtain ⟨w2, g1, g2⟩ := tAsk_spec 4 w h hw
    have e : tRel ρ (true, a, b, true) = !(x_cmp 3 (tEv ρ a) (tEv ρ b)) := neg _ _ _ _ Int32.not_lt.symm
    rw [e] at g2
    refine ⟨w2, g1, ?_⟩
    rcases g2 with ⟨z1, z2⟩ | ⟨z1, z2⟩
    · exact Or.inr ⟨by simpa using z1, z2⟩
    · exact Or.inl ⟨by simpa using z1, z2⟩
  · exact tAsk_spec 4 w h hw
  · rename_i o' h0 h1 h2 h3 h4
    obtain ⟨w2, g1, g2⟩ := tAsk_spec 4 w h hw
    have e0 : x_cmp o (tEv ρ a) (tEv ρ b) = decide (tEv ρ a ≤ tEv ρ b) := by
      unfold x_cmp
      split <;> first | rfl | (exfalso; simp_all; done)
    have e : tRel ρ (true, b, a, true) = !(decide (tEv ρ a ≤ tEv ρ b)) := neg _ _ _ _ Int32.not_lt.symm
    rw [e] at g2
    rw [e0]
    refine ⟨w2, g1, ?_⟩
    rcases g2 with ⟨z1, z2⟩ | ⟨z1, z2⟩
    · exact Or.inr ⟨by simpa using z1, z2⟩
    · exact Or.inl ⟨by simpa using z1, z2⟩
theorem tD_ok (ρ : Nat → Int32) : x_DmOk (tD ρ) := by
  refine ⟨fun _ => rfl, tBin_spec ρ, tUn_spec ρ, fun a n h => ?_, tBr_spec ρ⟩
  cases a <;> simp [tD, dKst, tKst] at h
  subst h
  rfl
end XSym
