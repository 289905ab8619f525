/-! Bounds of terms, by what holds on a way; questions that they answer. -/
section XRng
/-- what one entry says of e, where g bounds the others -/
def vOne (g : Jvm.Term → Int × Int) (e : Jvm.Term) (k : TK) : Int × Int :=
  if k.1 = true then
    (if k.2.2.2 = true then (if k.2.1 = e then (-2147483648, (g k.2.2.1).2 - 1) else if k.2.2.1 = e then ((g k.2.1).1 + 1, 2147483647) else vTop)
     else (if k.2.1 = e then ((g k.2.2.1).1, 2147483647) else if k.2.2.1 = e then (-2147483648, (g k.2.1).2) else vTop))
  else if k.2.2.2 = true then (if k.2.1 = e then g k.2.2.1 else if k.2.2.1 = e then g k.2.1 else vTop) else vTop
theorem vOne_spec {ρ : Nat → Int32} {g : Jvm.Term → Int × Int} (hg : ∀ e, vIn (g e) (tEv ρ e)) {e : Jvm.Term} {k : TK} (hk : tHd ρ k) : vIn (vOne g e k) (tEv ρ e) := by
  obtain ⟨b, x, y, t⟩ := k
  have hx := hg x
  have hy := hg y
  have r1 := (tRng (tEv ρ e)).1
  have r2 := (tRng (tEv ρ e)).2
  cases b
  · cases t
    · exact vTop_spec _
    · have h : tEv ρ x = tEv ρ y := of_decide_eq_true hk
      show vIn (if x = e then g y else if y = e then g x else vTop) _
      split
      · rename_i he
        subst he
        rw [h]
        exact hy
      split
      · rename_i he
        subst he
        rw [← h]
        exact hx
      · exact vTop_spec _
  · cases t
    · have h : decide (tEv ρ x < tEv ρ y) = false := hk
      have h2 := Int32.le_iff_toInt_le.mp (Int32.not_lt.mp (of_decide_eq_false h))
      show vIn (if x = e then ((g y).1, 2147483647) else if y = e then (-2147483648, (g x).2) else vTop) _
      split
      · rename_i he
        subst he
        exact ⟨Int.le_trans hy.1 h2, r2⟩
      split
      · rename_i he
        subst he
        exact ⟨r1, Int.le_trans h2 hx.2⟩
      · exact vTop_spec _
    · have h2 : (tEv ρ x).toInt < (tEv ρ y).toInt := Int32.lt_iff_toInt_lt.mp (of_decide_eq_true hk)
      show vIn (if x = e then (-2147483648, (g y).2 - 1) else if y = e then ((g x).1 + 1, 2147483647) else vTop) _
      have h3 := hy.2
      have h4 := hx.1
      split
      · rename_i he
        subst he
        refine ⟨r1, ?_⟩
        show (tEv ρ x).toInt ≤ (g y).2 - 1
        omega
      split
      · rename_i he
        subst he
        refine ⟨?_, r2⟩
        show (g x).1 + 1 ≤ (tEv ρ y).toInt
        omega
      · exact vTop_spec _
def vRels (g : Jvm.Term → Int × Int) (e : Jvm.Term) : List TK → Int × Int
  | [] => vTop
  | k :: w => vMeet (vOne g e k) (vRels g e w)
theorem vRels_spec {ρ : Nat → Int32} {g : Jvm.Term → Int × Int} (hg : ∀ e, vIn (g e) (tEv ρ e)) {e : Jvm.Term} : ∀ {w : List TK}, XPa (tHd ρ) w → vIn (vRels g e w) (tEv ρ e)
  | [], _ => vTop_spec _
  | k :: w, h => vMeet_spec (vOne_spec hg (h k List.mem_cons_self)) (vRels_spec hg (fun z hz => h z (List.mem_cons_of_mem _ hz)))
def vStr (g : Jvm.Term → Int × Int) : Jvm.Term → Int × Int
  | .elem (.add (.index o) a) b => vOp o (g a) (g b)
  | _ => vTop
theorem vStr_spec {ρ : Nat → Int32} {g : Jvm.Term → Int × Int} (hg : ∀ e, vIn (g e) (tEv ρ e)) (e : Jvm.Term) : vIn (vStr g e) (tEv ρ e) := by
  unfold vStr
  split
  · rename_i o a b
    exact vOp_spec (hg a) (hg b)
  · exact vTop_spec _
/-- bounds of a term: what is said of it, its parts, the others that it is held against; so deep -/
def vRng (w : List TK) : Nat → Jvm.Term → Int × Int
  | 0, e => (tL e w, tU e w)
  | n + 1, e => vMeet (tL e w, tU e w) (vMeet (vStr (vRng w n) e) (vRels (vRng w n) e w))
theorem vRng_spec {ρ : Nat → Int32} {w : List TK} (h : XPa (tHd ρ) w) : ∀ (n : Nat) (e : Jvm.Term), vIn (vRng w n e) (tEv ρ e)
  | 0, _ => ⟨tL_spec h, tU_spec h⟩
  | n + 1, e => vMeet_spec (p := (tL e w, tU e w)) ⟨tL_spec h, tU_spec h⟩ (vMeet_spec (vStr_spec (vRng_spec h n) e) (vRels_spec (vRng_spec h n) h))
/-- is the question answered: less (or equal), x, y -/
def vDec (w : List TK) (n : Nat) (b : Bool) (x y : Jvm.Term) : Option Bool :=
  if x = y then some (!b)
  else if (vRng w n x).2 < (vRng w n y).1 then some b
  else if b = true then (if (vRng w n y).2 ≤ (vRng w n x).1 then some false else tFind b x y w)
  else if (vRng w n y).2 < (vRng w n x).1 then some false
  else if (vRng w n x).1 = (vRng w n y).2 ∧ (vRng w n x).2 = (vRng w n y).1 then some true else tFind b x y w
theorem vDec_spec {ρ : Nat → Int32} {w : List TK} (h : XPa (tHd ρ) w) {n : Nat} {b t : Bool} {x y : Jvm.Term} (hd : vDec w n b x y = some t) : tRel ρ (b, x, y, true) = t := by
  obtain ⟨x1, x2⟩ := vRng_spec h n x
  obtain ⟨y1, y2⟩ := vRng_spec h n y
  unfold vDec at hd
  split at hd
  · rename_i he
    subst he
    cases b
    · cases hd
      exact decide_eq_true rfl
    · cases hd
      exact decide_eq_false (fun z => by have : (tEv ρ x).toInt < (tEv ρ x).toInt := Int32.lt_iff_toInt_lt.mp z; omega)
  split at hd
  · cases hd
    cases b
    · exact decide_eq_false (fun z => by have : (tEv ρ x).toInt = (tEv ρ y).toInt := congrArg Int32.toInt z; omega)
    · exact decide_eq_true (Int32.lt_iff_toInt_lt.mpr (show (tEv ρ x).toInt < (tEv ρ y).toInt by omega))
  split at hd
  · rename_i hb
    subst hb
    split at hd
    · cases hd
      exact decide_eq_false (fun z => by have : (tEv ρ x).toInt < (tEv ρ y).toInt := Int32.lt_iff_toInt_lt.mp z; omega)
    · exact tFind_spec h hd
  · rename_i hb
    have hb : b = false := by simpa using hb
    subst hb
    split at hd
    · cases hd
      exact decide_eq_false (fun z => by have : (tEv ρ x).toInt = (tEv ρ y).toInt := congrArg Int32.toInt z; omega)
    split at hd
    · rename_i he
      cases hd
      exact decide_eq_true (Int32.toInt_inj.mp (show (tEv ρ x).toInt = (tEv ρ y).toInt by omega))
    · exact tFind_spec h hd
/-- a rank falls: from the term x to y, where y is x and a step (up: toward the bound above; so ranks are the bound less the term) -/
def vUp (w : List TK) (n : Nat) (x y : Jvm.Term) : Bool := match y with
  | .elem (.add (.index 0) a) (.int c) => decide (a = x) && decide (0 < c.toInt) && decide ((vRng w n x).2 + c.toInt ≤ 2147483647)
  | _ => false
theorem vUp_spec {ρ : Nat → Int32} {w : List TK} (h : XPa (tHd ρ) w) {n : Nat} {x y : Jvm.Term} (hu : vUp w n x y = true) : (tEv ρ x).toInt < (tEv ρ y).toInt := by
  obtain ⟨x1, x2⟩ := vRng_spec h n x
  unfold vUp at hu
  split at hu
  · rename_i a c
    simp only [Bool.and_eq_true, decide_eq_true_eq] at hu
    obtain ⟨⟨rfl, h2⟩, h3⟩ := hu
    have h4 := (tRng (tEv ρ a)).1
    have e : (tEv ρ (.elem (.add (.index 0) a) (.int c))).toInt = ((tEv ρ a).toInt + c.toInt).bmod (2 ^ 32) := Int32.toInt_add _ _
    rw [e, vBm (by omega) (by omega)]
    omega
  · cases hu
def vDn (w : List TK) (n : Nat) (x y : Jvm.Term) : Bool := match y with
  | .elem (.add (.index 0) a) (.int c) => decide (a = x) && decide (c.toInt < 0) && decide (-2147483648 ≤ (vRng w n x).1 + c.toInt)
  | _ => false
theorem vDn_spec {ρ : Nat → Int32} {w : List TK} (h : XPa (tHd ρ) w) {n : Nat} {x y : Jvm.Term} (hu : vDn w n x y = true) : (tEv ρ y).toInt < (tEv ρ x).toInt := by
  obtain ⟨x1, x2⟩ := vRng_spec h n x
  unfold vDn at hu
  split at hu
  · rename_i a c
    simp only [Bool.and_eq_true, decide_eq_true_eq] at hu
    obtain ⟨⟨rfl, h2⟩, h3⟩ := hu
    have h4 := (tRng (tEv ρ a)).2
    have e : (tEv ρ (.elem (.add (.index 0) a) (.int c))).toInt = ((tEv ρ a).toInt + c.toInt).bmod (2 ^ 32) := Int32.toInt_add _ _
    rw [e, vBm (by omega) (by omega)]
    omega
  · cases hu
end XRng
