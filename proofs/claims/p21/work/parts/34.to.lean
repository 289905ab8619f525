/-! The evaluator at ints that are known: what it comes to, a row an instruction. -/
noncomputable section XTo
def dC : XD Int32 Unit := (fun x => x, fun x => x, x_bin, x_un, fun x => some x, fun _ => True, fun o a b w kt kf => if x_cmp o a b = true then kt w else kf w)
theorem dC_ok : x_DmOk dC := ⟨fun _ => rfl, fun _ _ _ => rfl, fun _ _ => rfl, fun _ _ h => Option.some.inj h, fun o a b w kt kf h hw => ⟨w, hw, by
  have h : XOk (dHd dC) (if x_cmp o a b = true then kt w else kf w) := h
  by_cases c : x_cmp o a b = true
  · rw [if_pos c] at h
    exact Or.inl ⟨c, h⟩
  · rw [if_neg c] at h
    exact Or.inr ⟨Bool.eq_false_iff.mpr c, h⟩⟩⟩
/-- a cell that nothing can be done with -/
def zJ : XC Int32 := .inr (77, [])
/-- where D says so, there is such a cell -/
def zTr (D : Nat → Bool) (H : List (XC Int32)) : Prop := ∀ a, D a = true → H[a]? = some zJ
/-- what stands there instead -/
def zMx (D : Nat → Bool) (H0 H : List (XC Int32)) : List (XC Int32) := H.mapIdx (fun a z => if D a = true then (H0[a]?).getD z else z)
theorem zMx_len (D : Nat → Bool) (H0 H : List (XC Int32)) : (zMx D H0 H).length = H.length := List.length_mapIdx
theorem zMx_at (D : Nat → Bool) (H0 H : List (XC Int32)) (a : Nat) : (zMx D H0 H)[a]? = (H[a]?).map (fun z => if D a = true then (H0[a]?).getD z else z) := List.getElem?_mapIdx
theorem zMx_get {D : Nat → Bool} {H : List (XC Int32)} (H0 : List (XC Int32)) {a : Nat} (h : D a = false) : (zMx D H0 H)[a]? = H[a]? := by
  rw [zMx_at, h]
  rcases H[a]? with _ | z <;> rfl
theorem zMx_set {D : Nat → Bool} {H : List (XC Int32)} (H0 : List (XC Int32)) {a : Nat} (z : XC Int32) (h : D a = false) : zMx D H0 (H.set a z) = (zMx D H0 H).set a z := by
  refine List.ext_getElem? fun b => ?_
  rw [zMx_at]
  by_cases e : a = b
  · subst e
    rw [List.getElem?_set, List.getElem?_set, zMx_len]
    by_cases c : a < H.length
    · rw [if_pos rfl, if_pos c, if_pos rfl, h]
      rfl
    · rw [if_pos rfl, if_neg c, if_pos rfl]
      rfl
  · rw [List.getElem?_set_ne e, List.getElem?_set_ne e, zMx_at]
theorem zTr_lt {D : Nat → Bool} {H : List (XC Int32)} (h : zTr D H) {a : Nat} (ha : D a = true) : a < H.length := (List.getElem?_eq_some_iff.mp (h a ha)).1
theorem zMx_app {D : Nat → Bool} {H : List (XC Int32)} (H0 l : List (XC Int32)) (h : zTr D H) : zMx D H0 (H ++ l) = zMx D H0 H ++ l := by
  refine List.ext_getElem? fun b => ?_
  rw [zMx_at]
  by_cases c : b < H.length
  · rw [List.getElem?_append_left c, List.getElem?_append_left (by rw [zMx_len]; exact c), zMx_at]
  · rw [List.getElem?_append_right (by omega), List.getElem?_append_right (by rw [zMx_len]; omega), zMx_len]
    have hd : D b = false := by
      rcases hb : D b with _ | _
      · rfl
      · exact absurd (zTr_lt h hb) c
    rw [hd]
    rcases l[b - H.length]? with _ | z <;> rfl
theorem zTr_set {D : Nat → Bool} {H : List (XC Int32)} (h : zTr D H) {a : Nat} (z : XC Int32) (ha : D a = false) : zTr D (H.set a z) := fun b hb => by
  rw [List.getElem?_set_ne (fun e => by rw [e, hb] at ha; cases ha)]
  exact h b hb
theorem zTr_app {D : Nat → Bool} {H : List (XC Int32)} (h : zTr D H) (l : List (XC Int32)) : zTr D (H ++ l) := fun b hb => by
  rw [List.getElem?_append_left (zTr_lt h hb)]
  exact h b hb
theorem zTr_no {D : Nat → Bool} {H : List (XC Int32)} (h : zTr D H) {a : Nat} {z : XC Int32} (hz : H[a]? = some z) (hn : z ≠ zJ) : D a = false := by
  rcases hb : D a with _ | _
  · rfl
  · rw [h a hb] at hz
    exact absurd (Option.some.inj hz).symm hn
theorem zGo {D : Nat → Bool} {H : List (XC Int32)} (H0 : List (XC Int32)) (h : zTr D H) {a : Nat} {o : Nat × List (XV Int32)} (hz : H[a]? = some (.inl o)) : (zMx D H0 H)[a]? = some (.inl o) := by
  rw [zMx_get H0 (zTr_no h hz (fun e => by cases e))]
  exact hz
theorem zGa {D : Nat → Bool} {H : List (XC Int32)} (H0 : List (XC Int32)) (h : zTr D H) {a t : Nat} {vs : List (XV Int32)} (hz : H[a]? = some (.inr (t, vs))) (hn : t ≠ 77 ∨ vs ≠ []) : (zMx D H0 H)[a]? = some (.inr (t, vs)) := by
  rw [zMx_get H0 (zTr_no h hz (fun e => by cases e; rcases hn with hn | hn <;> exact hn rfl))]
  exact hz
theorem zDo {D : Nat → Bool} {H : List (XC Int32)} (h : zTr D H) {a : Nat} {o : Nat × List (XV Int32)} (hz : H[a]? = some (.inl o)) : D a = false := zTr_no h hz (fun e => by cases e)
theorem zDa {D : Nat → Bool} {H : List (XC Int32)} (h : zTr D H) {a t : Nat} {vs : List (XV Int32)} (hz : H[a]? = some (.inr (t, vs))) (hn : t ≠ 77 ∨ vs ≠ []) : D a = false := zTr_no h hz (fun e => by cases e; rcases hn with hn | hn <;> exact hn rfl)
theorem zNe {vs : List (XV Int32)} {i : Nat} {u : XV Int32} (h : vs[i]? = some u) : vs ≠ [] := fun e => by
  rw [e] at h
  cases h
theorem zNl {vs : List (XV Int32)} {p : Bool} {i : Nat} (h : (p || decide (vs.length ≤ i)) = false) : vs ≠ [] := fun e => by
  rw [e, List.length_nil, decide_eq_true (Nat.zero_le _), Bool.or_true] at h
  cases h
theorem zRc {D : Nat → Bool} {H : List (XC Int32)} (H0 : List (XC Int32)) (h : zTr D H) {ot : XO Int32} {a c : Nat} (hz : x_rc ot H a = some c) : x_rc ot (zMx D H0 H) a = some c := by
  unfold x_rc at hz ⊢
  by_cases hb : 1000000 < a
  · rw [if_pos hb] at hz ⊢
    exact hz
  · rw [if_neg hb] at hz ⊢
    rcases hH : H[a]? with _ | (⟨c2, fs⟩ | ⟨t, vs⟩)
    · rw [hH] at hz
      cases hz
    · rw [zGo H0 h hH]
      rw [hH] at hz
      exact hz
    · rw [hH] at hz
      cases hz
theorem zMx_no (H0 H : List (XC Int32)) : zMx (fun _ => false) H0 H = H := List.ext_getElem? fun a => zMx_get H0 rfl
/-- from this place on the evaluator comes to that answer and that heap, with all fuel from some on, whatever stands where it can't go -/
def x_To (tb : XT) (tyl : List FieldType) (ot : XO Int32) (dp k pc : Nat) (L : List (Nat × XV Int32)) (S : List (XV Int32)) (H : List (XC Int32)) (cn sn : Nat) (v : Option (XV Int32)) (H2 : List (XC Int32)) : Prop :=
  ∃ f1 : Nat, ∀ f, f1 ≤ f → ∀ D H0, zTr D H → zTr D H2 ∧ ∀ (w : List Unit) (post : List Unit → Option (XV Int32) → List (XC Int32) → XR Unit), x_run dC tb tyl ot f dp k pc L S (zMx D H0 H) cn sn w post = post w v (zMx D H0 H2)
variable {tb : XT} {tyl : List FieldType} {ot : XO Int32} {dp k pc n cn sn : Nat} {q : XM} {L : List (Nat × XV Int32)} {S : List (XV Int32)} {H H2 : List (XC Int32)} {v : Option (XV Int32)}
/-- there is one such answer and heap -/
theorem x_To_one {v2 : Option (XV Int32)} {H3 : List (XC Int32)} (h : x_To tb tyl ot dp k pc L S H cn sn v H2) (g : x_To tb tyl ot dp k pc L S H cn sn v2 H3) : v2 = v ∧ H3 = H2 := by
  obtain ⟨f1, h⟩ := h
  obtain ⟨f2, g⟩ := g
  have h1 := (h (f1 + f2) (by omega) (fun _ => false) [] (fun a ha => by cases ha)).2 []
  have g1 := (g (f1 + f2) (by omega) (fun _ => false) [] (fun a ha => by cases ha)).2 []
  refine Classical.byContradiction fun hc => ?_
  have h2 := h1 (fun _ a b => @ite _ (a = v ∧ b = H2) (Classical.propDecidable _) [] [[()]])
  rw [g1, zMx_no, zMx_no, if_neg hc, if_pos ⟨rfl, rfl⟩] at h2
  cases h2
theorem x_toG {pc2 cn2 sn2 : Nat} {L2 : List (Nat × XV Int32)} {S2 : List (XV Int32)} {H1 : List (XC Int32)} (e : ∀ D H0, zTr D H → zTr D H1 ∧ ∀ f w post, x_run dC tb tyl ot (f + 1) dp k pc L S (zMx D H0 H) cn sn w post = x_run dC tb tyl ot f dp k pc2 L2 S2 (zMx D H0 H1) cn2 sn2 w post)
    (h : x_To tb tyl ot dp k pc2 L2 S2 H1 cn2 sn2 v H2) : x_To tb tyl ot dp k pc L S H cn sn v H2 := by
  obtain ⟨f1, h⟩ := h
  refine ⟨f1 + 1, fun f hf D H0 ht => ?_⟩
  obtain ⟨g, rfl⟩ : ∃ g, f = g + 1 := ⟨f - 1, by omega⟩
  obtain ⟨e1, e2⟩ := e D H0 ht
  obtain ⟨h1, h2⟩ := h g (by omega) D H0 e1
  exact ⟨h1, fun w post => (e2 g w post).trans (h2 w post)⟩
theorem x_to1 {pc2 cn2 sn2 : Nat} {L2 : List (Nat × XV Int32)} {S2 : List (XV Int32)} (e : ∀ {M : List (XC Int32)}, ∀ f w post, x_run dC tb tyl ot (f + 1) dp k pc L S M cn sn w post = x_run dC tb tyl ot f dp k pc2 L2 S2 M cn2 sn2 w post)
    (h : x_To tb tyl ot dp k pc2 L2 S2 H cn2 sn2 v H2) : x_To tb tyl ot dp k pc L S H cn sn v H2 := x_toG (fun _ _ ht => ⟨ht, fun f w post => e f w post⟩) h
theorem dC_br (x : Nat) (a b : Int32) (w : List Unit) (kt kf : List Unit → XR Unit) : dBr dC x a b w kt kf = if x_cmp x a b = true then kt w else kf w := rfl
theorem dC_kst (a : Int32) : dKst dC a = some a := rfl
theorem x_ix_dC {e : Int32} {m : Nat} {w : List Unit} {kk : Nat → List Unit → XR Unit} (h : (decide (e < 0) || decide (m ≤ e.toNatClampNeg)) = false) : x_ix dC e m w kk = kk e.toNatClampNeg w := by
  simp only [x_ix, dC_kst, h, Bool.false_eq_true, if_false]
def x_swk (ps : List (Int × Int)) : Bool := ps.all (fun q => decide ((Int32.ofInt q.1).toInt = q.1))
def x_swo (a : Int32) (df : Int) : List (Int × Int) → Int
  | [] => df
  | q :: r => if a = Int32.ofInt q.1 then q.2 else x_swo a df r
theorem x_sw_dC {a : Int32} {df : Int} {kk : Int → List Unit → XR Unit} {w : List Unit} : ∀ {ps : List (Int × Int)}, x_swk ps = true → x_sw dC a df kk ps w = kk (x_swo a df ps) w
  | [], _ => rfl
  | q :: r, h => by
    have h1 : decide ((Int32.ofInt q.1).toInt = q.1) = true ∧ x_swk r = true := by
      simpa only [x_swk, List.all_cons, Bool.and_eq_true] using h
    have h2 := of_decide_eq_true h1.1
    have ih := x_sw_dC (kk := kk) (w := w) (a := a) (df := df) h1.2
    show (if (Int32.ofInt q.1).toInt = q.1 then (if x_cmp 0 a (Int32.ofInt q.1) = true then kk q.2 w else x_sw dC a df kk r w) else [w]) = kk (if a = Int32.ofInt q.1 then q.2 else x_swo a df r) w
    rw [if_pos h2]
    by_cases c : a = Int32.ofInt q.1
    · rw [if_pos c, if_pos (show x_cmp 0 a (Int32.ofInt q.1) = true from decide_eq_true c)]
    · rw [if_neg c, if_neg (show ¬ x_cmp 0 a (Int32.ofInt q.1) = true from fun h => c (of_decide_eq_true h)), ih]
theorem x_n21 : ((some 2 : Option Nat) = some 1) = False := eq_false (by decide)
theorem x_n31 : ((some 3 : Option Nat) = some 1) = False := eq_false (by decide)
theorem x_n32 : ((some 3 : Option Nat) = some 2) = False := eq_false (by decide)
theorem xT_iconst {x : Int} (hq : tMth tb k = some q) (hi : mC q pc = some (.iconst x, n))  (h : x_To tb tyl ot dp k (pc + 1) L (.inl (dKc dC (Int32.ofInt x)) :: S) H cn sn v H2) : x_To tb tyl ot dp k pc L S H cn sn v H2 := x_to1 (fun f w post => by
  simp only [x_run, hq, hi]) h
theorem xT_bipush {x : _} (hq : tMth tb k = some q) (hi : mC q pc = some (.bipush x, n))  (h : x_To tb tyl ot dp k (pc + 2) L (.inl (dKc dC (Int8.ofInt x).toInt32) :: S) H cn sn v H2) : x_To tb tyl ot dp k pc L S H cn sn v H2 := x_to1 (fun f w post => by
  simp only [x_run, hq, hi]) h
theorem xT_sipush {x : _} (hq : tMth tb k = some q) (hi : mC q pc = some (.sipush x, n))  (h : x_To tb tyl ot dp k (pc + 3) L (.inl (dKc dC (Int16.ofInt x).toInt32) :: S) H cn sn v H2) : x_To tb tyl ot dp k pc L S H cn sn v H2 := x_to1 (fun f w post => by
  simp only [x_run, hq, hi]) h
theorem xT_ldc {ix : _} {x : Int32} (hq : tMth tb k = some q) (hi : mC q pc = some (.ldc ix, n)) (h1 : tLi tb (mO q) ix = some x) (h : x_To tb tyl ot dp k (pc + 2) L (.inl (dKc dC x) :: S) H cn sn v H2) : x_To tb tyl ot dp k pc L S H cn sn v H2 := x_to1 (fun f w post => by
  simp only [x_run, hq, hi, h1]) h
theorem xT_ldcT {ix : _} {a : Nat} (hq : tMth tb k = some q) (hi : mC q pc = some (.ldc ix, n)) (h1 : tLi tb (mO q) ix = none) (h2 : oSl ot (mO q) ix = some a) (h : x_To tb tyl ot dp k (pc + 2) L (.inr (some a) :: S) H cn sn v H2) : x_To tb tyl ot dp k pc L S H cn sn v H2 := x_to1 (fun f w post => by
  simp only [x_run, hq, hi, h1, h2]) h
theorem xT_ldc_w {ix : _} {x : Int32} (hq : tMth tb k = some q) (hi : mC q pc = some (.ldc_w ix, n)) (h1 : tLi tb (mO q) ix = some x) (h : x_To tb tyl ot dp k (pc + 3) L (.inl (dKc dC x) :: S) H cn sn v H2) : x_To tb tyl ot dp k pc L S H cn sn v H2 := x_to1 (fun f w post => by
  simp only [x_run, hq, hi, h1]) h
theorem xT_ldc_wT {ix : _} {a : Nat} (hq : tMth tb k = some q) (hi : mC q pc = some (.ldc_w ix, n)) (h1 : tLi tb (mO q) ix = none) (h2 : oSl ot (mO q) ix = some a) (h : x_To tb tyl ot dp k (pc + 3) L (.inr (some a) :: S) H cn sn v H2) : x_To tb tyl ot dp k pc L S H cn sn v H2 := x_to1 (fun f w post => by
  simp only [x_run, hq, hi, h1, h2]) h
theorem xT_l3 {a b e u : Int32} {j j0 ix j2 ob y ci fj c2 : Nat} {fs vs : List (XV Int32)} (hq : tMth tb k = some q) (hi : mC q pc = some (.i2l, n)) (h0 : x_lq q pc = some (j, j0, ix, j2)) (h1 : x_lk L j = some (.inl b)) (h2 : x_lk L j0 = some (.inr (some ob))) (h3 : x_lk L j2 = some (.inl e)) (h4 : tFld tb (mO q) ix = some (ci, fj)) (h5 : H[ob]? = some (.inl (c2, fs))) (h6 : c2 = ci) (h7 : fs[fj]? = some (.inr (some y))) (h8 : H[y]? = some (.inr (0, vs))) (h9 : (decide (e < 0) || decide (vs.length ≤ e.toNatClampNeg)) = false) (h10 : vs[e.toNatClampNeg]? = some (.inl u)) (h : x_To tb tyl ot dp k (pc + 13) L (.inl (x_l3 a b u) :: S) H cn sn v H2) : x_To tb tyl ot dp k pc L (.inl a :: S) H cn sn v H2 := x_toG (fun D H0 ht => ⟨ht, fun f w post => by
  simp only [x_run, hq, hi, h0, h1, h2, h3, h4, zGo H0 ht h5, h6, h7, zGa H0 ht h8 (Or.inl (by decide)), h9, h10, decide_true, dC_kst, Bool.false_eq_true, if_false, show ∀ z : Int32, dKc dC z = z from fun _ => rfl]⟩) h
theorem xT_aconst_null  (hq : tMth tb k = some q) (hi : mC q pc = some (.aconst_null, n))  (h : x_To tb tyl ot dp k (pc + 1) L (.inr none :: S) H cn sn v H2) : x_To tb tyl ot dp k pc L S H cn sn v H2 := x_to1 (fun f w post => by
  simp only [x_run, hq, hi]) h
theorem xT_iload_n {j : _} {a : Int32} (hq : tMth tb k = some q) (hi : mC q pc = some (.iload_n j, n)) (h1 : x_lk L j = some (.inl a)) (h : x_To tb tyl ot dp k (pc + 1) L (.inl a :: S) H cn sn v H2) : x_To tb tyl ot dp k pc L S H cn sn v H2 := x_to1 (fun f w post => by
  simp only [x_run, hq, hi, h1]) h
theorem xT_iload {j : _} {a : Int32} (hq : tMth tb k = some q) (hi : mC q pc = some (.iload j, n)) (h1 : x_lk L j = some (.inl a)) (h : x_To tb tyl ot dp k (pc + 2) L (.inl a :: S) H cn sn v H2) : x_To tb tyl ot dp k pc L S H cn sn v H2 := x_to1 (fun f w post => by
  simp only [x_run, hq, hi, h1]) h
theorem xT_aload_n {j : _} {a : Option Nat} (hq : tMth tb k = some q) (hi : mC q pc = some (.aload_n j, n)) (h1 : x_lk L j = some (.inr a)) (h : x_To tb tyl ot dp k (pc + 1) L (.inr a :: S) H cn sn v H2) : x_To tb tyl ot dp k pc L S H cn sn v H2 := x_to1 (fun f w post => by
  simp only [x_run, hq, hi, h1]) h
theorem xT_aload {j : _} {a : Option Nat} (hq : tMth tb k = some q) (hi : mC q pc = some (.aload j, n)) (h1 : x_lk L j = some (.inr a)) (h : x_To tb tyl ot dp k (pc + 2) L (.inr a :: S) H cn sn v H2) : x_To tb tyl ot dp k pc L S H cn sn v H2 := x_to1 (fun f w post => by
  simp only [x_run, hq, hi, h1]) h
theorem xT_istore_n {j : _} {a : Int32} (hq : tMth tb k = some q) (hi : mC q pc = some (.istore_n j, n)) (h1 : (j : Nat) < mL q) (h : x_To tb tyl ot dp k (pc + 1) (x_st L j (.inl a)) S H cn sn v H2) : x_To tb tyl ot dp k pc L (.inl a :: S) H cn sn v H2 := x_to1 (fun f w post => by
  simp only [x_run, hq, hi, if_pos h1]) h
theorem xT_istore {j : _} {a : Int32} (hq : tMth tb k = some q) (hi : mC q pc = some (.istore j, n)) (h1 : (j : Nat) < mL q) (h : x_To tb tyl ot dp k (pc + 2) (x_st L j (.inl a)) S H cn sn v H2) : x_To tb tyl ot dp k pc L (.inl a :: S) H cn sn v H2 := x_to1 (fun f w post => by
  simp only [x_run, hq, hi, if_pos h1]) h
theorem xT_astore_n {j : _} {a : Option Nat} (hq : tMth tb k = some q) (hi : mC q pc = some (.astore_n j, n)) (h1 : (j : Nat) < mL q) (h : x_To tb tyl ot dp k (pc + 1) (x_st L j (.inr a)) S H cn sn v H2) : x_To tb tyl ot dp k pc L (.inr a :: S) H cn sn v H2 := x_to1 (fun f w post => by
  simp only [x_run, hq, hi, if_pos h1]) h
theorem xT_astore {j : _} {a : Option Nat} (hq : tMth tb k = some q) (hi : mC q pc = some (.astore j, n)) (h1 : (j : Nat) < mL q) (h : x_To tb tyl ot dp k (pc + 2) (x_st L j (.inr a)) S H cn sn v H2) : x_To tb tyl ot dp k pc L (.inr a :: S) H cn sn v H2 := x_to1 (fun f w post => by
  simp only [x_run, hq, hi, if_pos h1]) h
theorem xT_iinc {j : _} {x : _} {a : Int32} (hq : tMth tb k = some q) (hi : mC q pc = some (.iinc j x, n)) (h1 : x_lk L j = some (.inl a)) (h2 : j < mL q) (h : x_To tb tyl ot dp k (pc + 3) (x_st L j (.inl (dBin dC 0 a (dKc dC (Int32.ofInt x))))) S H cn sn v H2) : x_To tb tyl ot dp k pc L S H cn sn v H2 := x_to1 (fun f w post => by
  simp only [x_run, hq, hi, h1, if_pos h2]) h
theorem xT_dup {a : XV Int32} (hq : tMth tb k = some q) (hi : mC q pc = some (.dup, n))  (h : x_To tb tyl ot dp k (pc + 1) L (a :: a :: S) H cn sn v H2) : x_To tb tyl ot dp k pc L (a :: S) H cn sn v H2 := x_to1 (fun f w post => by
  simp only [x_run, hq, hi]) h
theorem xT_dup_x1 {a b : XV Int32} (hq : tMth tb k = some q) (hi : mC q pc = some (.dup_x1, n))  (h : x_To tb tyl ot dp k (pc + 1) L (a :: b :: a :: S) H cn sn v H2) : x_To tb tyl ot dp k pc L (a :: b :: S) H cn sn v H2 := x_to1 (fun f w post => by
  simp only [x_run, hq, hi]) h
theorem xT_dup2 {a b : XV Int32} (hq : tMth tb k = some q) (hi : mC q pc = some (.dup2, n))  (h : x_To tb tyl ot dp k (pc + 1) L (a :: b :: a :: b :: S) H cn sn v H2) : x_To tb tyl ot dp k pc L (a :: b :: S) H cn sn v H2 := x_to1 (fun f w post => by
  simp only [x_run, hq, hi]) h
theorem xT_pop {a : XV Int32} (hq : tMth tb k = some q) (hi : mC q pc = some (.pop, n))  (h : x_To tb tyl ot dp k (pc + 1) L S H cn sn v H2) : x_To tb tyl ot dp k pc L (a :: S) H cn sn v H2 := x_to1 (fun f w post => by
  simp only [x_run, hq, hi]) h
theorem xT_iadd {a b : Int32} (hq : tMth tb k = some q) (hi : mC q pc = some (.iadd, n))  (h : x_To tb tyl ot dp k (pc + 1) L (.inl (dBin dC 0 a b) :: S) H cn sn v H2) : x_To tb tyl ot dp k pc L (.inl b :: .inl a :: S) H cn sn v H2 := x_to1 (fun f w post => by
  simp only [x_run, hq, hi]) h
theorem xT_isub {a b : Int32} (hq : tMth tb k = some q) (hi : mC q pc = some (.isub, n))  (h : x_To tb tyl ot dp k (pc + 1) L (.inl (dBin dC 1 a b) :: S) H cn sn v H2) : x_To tb tyl ot dp k pc L (.inl b :: .inl a :: S) H cn sn v H2 := x_to1 (fun f w post => by
  simp only [x_run, hq, hi]) h
theorem xT_imul {a b : Int32} (hq : tMth tb k = some q) (hi : mC q pc = some (.imul, n))  (h : x_To tb tyl ot dp k (pc + 1) L (.inl (dBin dC 2 a b) :: S) H cn sn v H2) : x_To tb tyl ot dp k pc L (.inl b :: .inl a :: S) H cn sn v H2 := x_to1 (fun f w post => by
  simp only [x_run, hq, hi]) h
theorem xT_iand {a b : Int32} (hq : tMth tb k = some q) (hi : mC q pc = some (.iand, n))  (h : x_To tb tyl ot dp k (pc + 1) L (.inl (dBin dC 3 a b) :: S) H cn sn v H2) : x_To tb tyl ot dp k pc L (.inl b :: .inl a :: S) H cn sn v H2 := x_to1 (fun f w post => by
  simp only [x_run, hq, hi]) h
theorem xT_ior {a b : Int32} (hq : tMth tb k = some q) (hi : mC q pc = some (.ior, n))  (h : x_To tb tyl ot dp k (pc + 1) L (.inl (dBin dC 4 a b) :: S) H cn sn v H2) : x_To tb tyl ot dp k pc L (.inl b :: .inl a :: S) H cn sn v H2 := x_to1 (fun f w post => by
  simp only [x_run, hq, hi]) h
theorem xT_ixor {a b : Int32} (hq : tMth tb k = some q) (hi : mC q pc = some (.ixor, n))  (h : x_To tb tyl ot dp k (pc + 1) L (.inl (dBin dC 5 a b) :: S) H cn sn v H2) : x_To tb tyl ot dp k pc L (.inl b :: .inl a :: S) H cn sn v H2 := x_to1 (fun f w post => by
  simp only [x_run, hq, hi]) h
theorem xT_ishl {a b : Int32} (hq : tMth tb k = some q) (hi : mC q pc = some (.ishl, n))  (h : x_To tb tyl ot dp k (pc + 1) L (.inl (dBin dC 6 a b) :: S) H cn sn v H2) : x_To tb tyl ot dp k pc L (.inl b :: .inl a :: S) H cn sn v H2 := x_to1 (fun f w post => by
  simp only [x_run, hq, hi]) h
theorem xT_ishr {a b : Int32} (hq : tMth tb k = some q) (hi : mC q pc = some (.ishr, n))  (h : x_To tb tyl ot dp k (pc + 1) L (.inl (dBin dC 7 a b) :: S) H cn sn v H2) : x_To tb tyl ot dp k pc L (.inl b :: .inl a :: S) H cn sn v H2 := x_to1 (fun f w post => by
  simp only [x_run, hq, hi]) h
theorem xT_iushr {a b : Int32} (hq : tMth tb k = some q) (hi : mC q pc = some (.iushr, n))  (h : x_To tb tyl ot dp k (pc + 1) L (.inl (dBin dC 10 a b) :: S) H cn sn v H2) : x_To tb tyl ot dp k pc L (.inl b :: .inl a :: S) H cn sn v H2 := x_to1 (fun f w post => by
  simp only [x_run, hq, hi]) h
theorem xT_idiv {a b : Int32} (hq : tMth tb k = some q) (hi : mC q pc = some (.idiv, n)) (h1 : x_cmp 0 b (dKc dC 0) = false) (h : x_To tb tyl ot dp k (pc + 1) L (.inl (dBin dC 8 a b) :: S) H cn sn v H2) : x_To tb tyl ot dp k pc L (.inl b :: .inl a :: S) H cn sn v H2 := x_to1 (fun f w post => by
  simp only [x_run, hq, hi, dC_br, h1, Bool.false_eq_true, if_false, if_true]) h
theorem xT_irem {a b : Int32} (hq : tMth tb k = some q) (hi : mC q pc = some (.irem, n)) (h1 : x_cmp 0 b (dKc dC 0) = false) (h : x_To tb tyl ot dp k (pc + 1) L (.inl (dBin dC 9 a b) :: S) H cn sn v H2) : x_To tb tyl ot dp k pc L (.inl b :: .inl a :: S) H cn sn v H2 := x_to1 (fun f w post => by
  simp only [x_run, hq, hi, dC_br, h1, Bool.false_eq_true, if_false, if_true]) h
theorem xT_i2b {a : Int32} (hq : tMth tb k = some q) (hi : mC q pc = some (.i2b, n))  (h : x_To tb tyl ot dp k (pc + 1) L (.inl (dUn dC 0 a) :: S) H cn sn v H2) : x_To tb tyl ot dp k pc L (.inl a :: S) H cn sn v H2 := x_to1 (fun f w post => by
  simp only [x_run, hq, hi]) h
theorem xT_i2s {a : Int32} (hq : tMth tb k = some q) (hi : mC q pc = some (.i2s, n))  (h : x_To tb tyl ot dp k (pc + 1) L (.inl (dUn dC 1 a) :: S) H cn sn v H2) : x_To tb tyl ot dp k pc L (.inl a :: S) H cn sn v H2 := x_to1 (fun f w post => by
  simp only [x_run, hq, hi]) h
theorem xT_i2c {a : Int32} (hq : tMth tb k = some q) (hi : mC q pc = some (.i2c, n))  (h : x_To tb tyl ot dp k (pc + 1) L (.inl (dUn dC 2 a) :: S) H cn sn v H2) : x_To tb tyl ot dp k pc L (.inl a :: S) H cn sn v H2 := x_to1 (fun f w post => by
  simp only [x_run, hq, hi]) h
theorem xT_ineg {a : Int32} (hq : tMth tb k = some q) (hi : mC q pc = some (.ineg, n))  (h : x_To tb tyl ot dp k (pc + 1) L (.inl (dUn dC 3 a) :: S) H cn sn v H2) : x_To tb tyl ot dp k pc L (.inl a :: S) H cn sn v H2 := x_to1 (fun f w post => by
  simp only [x_run, hq, hi]) h
theorem xT_goto {x : _} {t : Nat} (hq : tMth tb k = some q) (hi : mC q pc = some (.goto x, n)) (h1 : x_jp pc x = some t) (h : x_To tb tyl ot dp k t L S H cn sn v H2) : x_To tb tyl ot dp k pc L S H cn sn v H2 := x_to1 (fun f w post => by
  simp only [x_run, hq, hi, h1]) h
theorem xT_ifCondY {c : _} {x : _} {t : Nat} {a : Int32} (hq : tMth tb k = some q) (hi : mC q pc = some (.ifCond c x, n)) (h0 : x_jp pc x = some t) (h1 : x_cmp (x_cn c) a (dKc dC 0) = true) (h : x_To tb tyl ot dp k t L S H cn sn v H2) : x_To tb tyl ot dp k pc L (.inl a :: S) H cn sn v H2 := x_to1 (fun f w post => by
  simp only [x_run, hq, hi, h0, dC_br, h1, Bool.false_eq_true, if_false, if_true]) h
theorem xT_if_icmpY {c : _} {x : _} {t : Nat} {a b : Int32} (hq : tMth tb k = some q) (hi : mC q pc = some (.if_icmp c x, n)) (h0 : x_jp pc x = some t) (h1 : x_cmp (x_cn c) a b = true) (h : x_To tb tyl ot dp k t L S H cn sn v H2) : x_To tb tyl ot dp k pc L (.inl b :: .inl a :: S) H cn sn v H2 := x_to1 (fun f w post => by
  simp only [x_run, hq, hi, h0, dC_br, h1, Bool.false_eq_true, if_false, if_true]) h
theorem xT_ifCondN {c : _} {x : _} {t : Nat} {a : Int32} (hq : tMth tb k = some q) (hi : mC q pc = some (.ifCond c x, n)) (h0 : x_jp pc x = some t) (h1 : x_cmp (x_cn c) a (dKc dC 0) = false) (h : x_To tb tyl ot dp k (pc + 3) L S H cn sn v H2) : x_To tb tyl ot dp k pc L (.inl a :: S) H cn sn v H2 := x_to1 (fun f w post => by
  simp only [x_run, hq, hi, h0, dC_br, h1, Bool.false_eq_true, if_false, if_true]) h
theorem xT_if_icmpN {c : _} {x : _} {t : Nat} {a b : Int32} (hq : tMth tb k = some q) (hi : mC q pc = some (.if_icmp c x, n)) (h0 : x_jp pc x = some t) (h1 : x_cmp (x_cn c) a b = false) (h : x_To tb tyl ot dp k (pc + 3) L S H cn sn v H2) : x_To tb tyl ot dp k pc L (.inl b :: .inl a :: S) H cn sn v H2 := x_to1 (fun f w post => by
  simp only [x_run, hq, hi, h0, dC_br, h1, Bool.false_eq_true, if_false, if_true]) h
theorem xT_ifnull0 {x : _} {t : Nat} (hq : tMth tb k = some q) (hi : mC q pc = some (.ifnull x, n)) (h0 : x_jp pc x = some t) (h : x_To tb tyl ot dp k t L S H cn sn v H2) : x_To tb tyl ot dp k pc L (.inr none :: S) H cn sn v H2 := x_to1 (fun f w post => by
  simp only [x_run, hq, hi, h0]) h
theorem xT_ifnull1 {x : _} {t a : Nat} (hq : tMth tb k = some q) (hi : mC q pc = some (.ifnull x, n)) (h0 : x_jp pc x = some t) (h : x_To tb tyl ot dp k (pc + 3) L S H cn sn v H2) : x_To tb tyl ot dp k pc L (.inr (some a) :: S) H cn sn v H2 := x_to1 (fun f w post => by
  simp only [x_run, hq, hi, h0]) h
theorem xT_ifnonnull0 {x : _} {t : Nat} (hq : tMth tb k = some q) (hi : mC q pc = some (.ifnonnull x, n)) (h0 : x_jp pc x = some t) (h : x_To tb tyl ot dp k (pc + 3) L S H cn sn v H2) : x_To tb tyl ot dp k pc L (.inr none :: S) H cn sn v H2 := x_to1 (fun f w post => by
  simp only [x_run, hq, hi, h0]) h
theorem xT_ifnonnull1 {x : _} {t a : Nat} (hq : tMth tb k = some q) (hi : mC q pc = some (.ifnonnull x, n)) (h0 : x_jp pc x = some t) (h : x_To tb tyl ot dp k t L S H cn sn v H2) : x_To tb tyl ot dp k pc L (.inr (some a) :: S) H cn sn v H2 := x_to1 (fun f w post => by
  simp only [x_run, hq, hi, h0]) h
theorem xT_tableswitch {df lo up : Int} {os : _} {t : Nat} {a : Int32} (hq : tMth tb k = some q) (hi : mC q pc = some (.tableswitch df lo up os, n)) (h0 : up + 1 = lo + os.size) (h1 : x_swk (x_tp lo os.toList) = true) (h2 : x_jp pc (x_swo a df (x_tp lo os.toList)) = some t) (h : x_To tb tyl ot dp k t L S H cn sn v H2) : x_To tb tyl ot dp k pc L (.inl a :: S) H cn sn v H2 := x_to1 (fun f w post => by
  simp only [x_run, hq, hi, if_pos h0, x_sw_dC h1, h2]) h
theorem xT_lookupswitch {df : Int} {ps : _} {t : Nat} {a : Int32} (hq : tMth tb k = some q) (hi : mC q pc = some (.lookupswitch df ps, n)) (h0 : (ps.toList.zip (ps.toList.drop 1)).all (fun (a, next) => a.1 < next.1) = true) (h1 : x_swk ps.toList = true) (h2 : x_jp pc (x_swo a df ps.toList) = some t) (h : x_To tb tyl ot dp k t L S H cn sn v H2) : x_To tb tyl ot dp k pc L (.inl a :: S) H cn sn v H2 := x_to1 (fun f w post => by
  simp only [x_run, hq, hi, if_pos h0, x_sw_dC h1, h2]) h
theorem xT_getfield {ix a ci j c2 : Nat} {fs : List (XV Int32)} {u : XV Int32} (hq : tMth tb k = some q) (hi : mC q pc = some (.getfield ix, n)) (h0 : ¬ 1000000 < a) (h1 : tFld tb (mO q) ix = some (ci, j)) (h2 : H[a]? = some (.inl (c2, fs))) (h3 : c2 = ci) (h4 : fs[j]? = some u) (h : x_To tb tyl ot dp k (pc + 3) L (u :: S) H cn sn v H2) : x_To tb tyl ot dp k pc L (.inr (some a) :: S) H cn sn v H2 := x_toG (fun D H0 ht => ⟨ht, fun f w post => by
  simp only [x_run, hq, hi, if_neg h0, h1, zGo H0 ht h2, h3, h4, decide_true]⟩) h
theorem xT_getfieldO {ix a : Nat} {u : _} (hq : tMth tb k = some q) (hi : mC q pc = some (.getfield ix, n)) (h0 : 1000000 < a) (h1 : oFl ot a (mO q) ix = some u) (h : x_To tb tyl ot dp k (pc + 3) L (x_ov dC u :: S) H cn sn v H2) : x_To tb tyl ot dp k pc L (.inr (some a) :: S) H cn sn v H2 := x_to1 (fun f w post => by
  simp only [x_run, hq, hi, if_pos h0, h1]) h
theorem xT_getstatic {ix : Nat} {u : _} (hq : tMth tb k = some q) (hi : mC q pc = some (.getstatic ix, n)) (h1 : oGs ot (mO q) ix = some u) (h : x_To tb tyl ot dp k (pc + 3) L (x_ov dC u :: S) H cn sn v H2) : x_To tb tyl ot dp k pc L S H cn sn v H2 := x_to1 (fun f w post => by
  simp only [x_run, hq, hi, h1]) h
theorem xT_arraylengthS  (hq : tMth tb k = some q) (hi : mC q pc = some (.arraylength, n))  (h : x_To tb tyl ot dp k (pc + 1) L (.inl (dKc dC (Int32.ofNat (oSn ot))) :: S) H cn sn v H2) : x_To tb tyl ot dp k pc L (.inr (some 1000000) :: S) H cn sn v H2 := x_to1 (fun f w post => by
  simp only [x_run, hq, hi, if_true]) h
theorem xT_arraylengthB {a : Nat} {bs : List Int32} (hq : tMth tb k = some q) (hi : mC q pc = some (.arraylength, n)) (h0 : ¬ a = 1000000) (h1 : oBy ot a = some bs) (h2 : 1000000 < a) (h : x_To tb tyl ot dp k (pc + 1) L (.inl (dKc dC (Int32.ofNat bs.length)) :: S) H cn sn v H2) : x_To tb tyl ot dp k pc L (.inr (some a) :: S) H cn sn v H2 := x_to1 (fun f w post => by
  simp only [x_run, hq, hi, if_neg h0, h1, if_pos h2]) h
theorem xT_putfield {ix a ci j c2 : Nat} {fs : List (XV Int32)} {u : XV Int32} {ty : FieldType × Bool} (hq : tMth tb k = some q) (hi : mC q pc = some (.putfield ix, n)) (h1 : tFld tb (mO q) ix = some (ci, j)) (h2 : H[a]? = some (.inl (c2, fs))) (h3 : (tFt tb ci)[j]? = some ty) (h4 : (decide (c2 = ci) && x_fit dC ty.1 u && decide (j < fs.length) && (!ty.2 || (mI q && decide (mRc q = ci)))) = true) (h : x_To tb tyl ot dp k (pc + 3) L S (H.set a (.inl (c2, fs.set j u))) cn sn v H2) : x_To tb tyl ot dp k pc L (u :: .inr (some a) :: S) H cn sn v H2 := x_toG (fun D H0 ht => ⟨zTr_set ht _ (zDo ht h2), fun f w post => by
  rw [zMx_set H0 _ (zDo ht h2)]
  simp only [x_run, hq, hi, h1, zGo H0 ht h2, h3, h4, if_true]⟩) h
theorem xT_ialoadS {e : Int32} (hq : tMth tb k = some q) (hi : mC q pc = some (.iaload, n)) (h2 : (decide (e < 0) || decide (oSn ot ≤ e.toNatClampNeg)) = false) (h : x_To tb tyl ot dp k (pc + 1) L (.inl (oSc ot e.toNatClampNeg) :: S) H cn sn v H2) : x_To tb tyl ot dp k pc L (.inl e :: .inr (some 1000000) :: S) H cn sn v H2 := x_to1 (fun f w post => by
  simp only [x_run, hq, hi, if_true, x_ix_dC h2]) h
theorem xT_iaload {e : Int32} {a : Nat} {vs : List (XV Int32)} {u : XV Int32} (hq : tMth tb k = some q) (hi : mC q pc = some (.iaload, n)) (h0 : ¬ a = 1000000) (h1 : H[a]? = some (.inr (0, vs))) (h2 : (decide (e < 0) || decide (vs.length ≤ e.toNatClampNeg)) = false) (h3 : vs[e.toNatClampNeg]? = some u) (h : x_To tb tyl ot dp k (pc + 1) L (u :: S) H cn sn v H2) : x_To tb tyl ot dp k pc L (.inl e :: .inr (some a) :: S) H cn sn v H2 := x_toG (fun D H0 ht => ⟨ht, fun f w post => by
  simp only [x_run, hq, hi, if_neg h0, zGa H0 ht h1 (Or.inl (by decide)), x_ix_dC h2, h3]⟩) h
theorem xT_baloadO {e : Int32} {a : Nat} {bs : List Int32} (hq : tMth tb k = some q) (hi : mC q pc = some (.baload, n)) (h0 : 1000000 < a) (h1 : oBy ot a = some bs) (h2 : (decide (e < 0) || decide (bs.length ≤ e.toNatClampNeg)) = false) (h : x_To tb tyl ot dp k (pc + 1) L (.inl (dKc dC (bs.getD e.toNatClampNeg 0)) :: S) H cn sn v H2) : x_To tb tyl ot dp k pc L (.inl e :: .inr (some a) :: S) H cn sn v H2 := x_to1 (fun f w post => by
  simp only [x_run, hq, hi, if_pos h0, h1, x_ix_dC h2]) h
theorem xT_baload {e : Int32} {a : Nat} {vs : List (XV Int32)} {u : XV Int32} (hq : tMth tb k = some q) (hi : mC q pc = some (.baload, n)) (h0 : ¬ 1000000 < a) (h1 : H[a]? = some (.inr (1, vs))) (h2 : (decide (e < 0) || decide (vs.length ≤ e.toNatClampNeg)) = false) (h3 : vs[e.toNatClampNeg]? = some u) (h : x_To tb tyl ot dp k (pc + 1) L (u :: S) H cn sn v H2) : x_To tb tyl ot dp k pc L (.inl e :: .inr (some a) :: S) H cn sn v H2 := x_toG (fun D H0 ht => ⟨ht, fun f w post => by
  simp only [x_run, hq, hi, if_neg h0, zGa H0 ht h1 (Or.inl (by decide)), x_ix_dC h2, h3]⟩) h
theorem xT_aaload {e : Int32} {a t : Nat} {vs : List (XV Int32)} {u : XV Int32} (hq : tMth tb k = some q) (hi : mC q pc = some (.aaload, n)) (h0 : (tyl[t]?.map x_isRef) = some true) (h1 : H[a]? = some (.inr (t, vs))) (h2 : (decide (e < 0) || decide (vs.length ≤ e.toNatClampNeg)) = false) (h3 : vs[e.toNatClampNeg]? = some u) (h : x_To tb tyl ot dp k (pc + 1) L (u :: S) H cn sn v H2) : x_To tb tyl ot dp k pc L (.inl e :: .inr (some a) :: S) H cn sn v H2 := x_toG (fun D H0 ht => ⟨ht, fun f w post => by
  simp only [x_run, hq, hi, zGa H0 ht h1 (Or.inr (zNe h3)), if_pos h0, x_ix_dC h2, h3]⟩) h
theorem xT_iastore {x e : Int32} {a : Nat} {vs : List (XV Int32)} (hq : tMth tb k = some q) (hi : mC q pc = some (.iastore, n)) (h1 : H[a]? = some (.inr (0, vs))) (h2 : (decide (e < 0) || decide (vs.length ≤ e.toNatClampNeg)) = false) (h : x_To tb tyl ot dp k (pc + 1) L S (H.set a (.inr (0, vs.set e.toNatClampNeg (.inl x)))) cn sn v H2) : x_To tb tyl ot dp k pc L (.inl x :: .inl e :: .inr (some a) :: S) H cn sn v H2 := x_toG (fun D H0 ht => ⟨zTr_set ht _ (zDa ht h1 (Or.inl (by decide))), fun f w post => by
  rw [zMx_set H0 _ (zDa ht h1 (Or.inl (by decide)))]
  simp only [x_run, hq, hi, zGa H0 ht h1 (Or.inl (by decide)), x_ix_dC h2]⟩) h
theorem xT_bastore {x e : Int32} {a : Nat} {vs : List (XV Int32)} (hq : tMth tb k = some q) (hi : mC q pc = some (.bastore, n)) (h0 : x_fit dC .boolean (.inl x) = true) (h1 : H[a]? = some (.inr (1, vs))) (h2 : (decide (e < 0) || decide (vs.length ≤ e.toNatClampNeg)) = false) (h : x_To tb tyl ot dp k (pc + 1) L S (H.set a (.inr (1, vs.set e.toNatClampNeg (.inl x)))) cn sn v H2) : x_To tb tyl ot dp k pc L (.inl x :: .inl e :: .inr (some a) :: S) H cn sn v H2 := x_toG (fun D H0 ht => ⟨zTr_set ht _ (zDa ht h1 (Or.inl (by decide))), fun f w post => by
  rw [zMx_set H0 _ (zDa ht h1 (Or.inl (by decide)))]
  simp only [x_run, hq, hi, zGa H0 ht h1 (Or.inl (by decide)), if_pos h0, x_ix_dC h2]⟩) h
theorem xT_aastore {e : Int32} {a u t ci : Nat} {gs vs : List (XV Int32)} {C : String} (hq : tMth tb k = some q) (hi : mC q pc = some (.aastore, n)) (h1 : H[a]? = some (.inr (t, vs))) (h2 : H[u]? = some (.inl (ci, gs))) (h3 : tyl[t]? = some (.object C)) (h4 : decide (C = tNm tb ci) = true) (h5 : (decide (e < 0) || decide (vs.length ≤ e.toNatClampNeg)) = false) (h : x_To tb tyl ot dp k (pc + 1) L S (H.set a (.inr (t, vs.set e.toNatClampNeg (.inr (some u))))) cn sn v H2) : x_To tb tyl ot dp k pc L (.inr (some u) :: .inl e :: .inr (some a) :: S) H cn sn v H2 := x_toG (fun D H0 ht => ⟨zTr_set ht _ (zDa ht h1 (Or.inr (zNl h5))), fun f w post => by
  rw [zMx_set H0 _ (zDa ht h1 (Or.inr (zNl h5)))]
  simp only [x_run, hq, hi, zGa H0 ht h1 (Or.inr (zNl h5)), zGo H0 ht h2, h3, h4, if_true, x_ix_dC h5]⟩) h
theorem xT_new {ix ci : Nat} (hq : tMth tb k = some q) (hi : mC q pc = some (.new ix, n)) (h1 : tNw tb (mO q) ix = some ci) (h2 : (decide (cn + 1 ≤ mMc q) && decide (sn + (tFt tb ci).length ≤ mMs q) && decide (H.length + 1 ≤ 1000000)) = true) (h : x_To tb tyl ot dp k (pc + 3) L (.inr (some H.length) :: S) (H ++ [.inl (ci, (tFt tb ci).map (fun t => x_def dC t.1))]) (cn + 1) (sn + (tFt tb ci).length) v H2) : x_To tb tyl ot dp k pc L S H cn sn v H2 := x_toG (fun D H0 ht => ⟨zTr_app ht _, fun f w post => by
  rw [zMx_app H0 _ ht]
  simp only [x_run, zMx_len, hq, hi, h1, h2, if_true]⟩) h
theorem xT_newarrayI {e : Int32} (hq : tMth tb k = some q) (hi : mC q pc = some (.newarray .int, n)) (h2 : (decide (¬ e < 0) && decide (e.toNatClampNeg ≤ 100000) && decide (cn + 1 ≤ mMc q) && decide (sn + e.toNatClampNeg ≤ mMs q) && decide (H.length + 1 ≤ 1000000)) = true) (h : x_To tb tyl ot dp k (pc + 2) L (.inr (some H.length) :: S) (H ++ [.inr (0, List.replicate e.toNatClampNeg (.inl (dKc dC 0)))]) (cn + 1) (sn + e.toNatClampNeg) v H2) : x_To tb tyl ot dp k pc L (.inl e :: S) H cn sn v H2 := x_toG (fun D H0 ht => ⟨zTr_app ht _, fun f w post => by
  rw [zMx_app H0 _ ht]
  simp only [x_run, zMx_len, hq, hi, dC_kst, h2, if_true]⟩) h
theorem xT_newarrayZ {e : Int32} (hq : tMth tb k = some q) (hi : mC q pc = some (.newarray .boolean, n)) (h2 : (decide (¬ e < 0) && decide (e.toNatClampNeg ≤ 100000) && decide (cn + 1 ≤ mMc q) && decide (sn + e.toNatClampNeg ≤ mMs q) && decide (H.length + 1 ≤ 1000000)) = true) (h : x_To tb tyl ot dp k (pc + 2) L (.inr (some H.length) :: S) (H ++ [.inr (1, List.replicate e.toNatClampNeg (.inl (dKc dC 0)))]) (cn + 1) (sn + e.toNatClampNeg) v H2) : x_To tb tyl ot dp k pc L (.inl e :: S) H cn sn v H2 := x_toG (fun D H0 ht => ⟨zTr_app ht _, fun f w post => by
  rw [zMx_app H0 _ ht]
  simp only [x_run, zMx_len, hq, hi, dC_kst, h2, if_true]⟩) h
theorem xT_multianewarray {ix : _} {dm : _} {t2 t1 : Nat} {e1 e2 : Int32} (hq : tMth tb k = some q) (hi : mC q pc = some (.multianewarray ix dm, n)) (h1 : tMn tb (mO q) ix = some (t2, t1)) (h2 : (decide (dm = 2) && decide (¬ e1 < 0) && decide (¬ e2 < 0) && decide (e1.toNatClampNeg ≤ 100000) && decide (e2.toNatClampNeg ≤ 100000) && decide (t1 < 2) && decide (cn + (1 + e1.toNatClampNeg) ≤ mMc q) && decide (sn + (e1.toNatClampNeg + e1.toNatClampNeg * e2.toNatClampNeg) ≤ mMs q) && decide (H.length + 1 + e1.toNatClampNeg ≤ 1000000)) = true) (h : x_To tb tyl ot dp k (pc + 4) L (.inr (some H.length) :: S) (H ++ .inr (t2, x_refs (H.length + 1) e1.toNatClampNeg) :: x_rows t1 (List.replicate e2.toNatClampNeg (.inl (dKc dC 0))) e1.toNatClampNeg) (cn + 1 + e1.toNatClampNeg) (sn + e1.toNatClampNeg + e1.toNatClampNeg * e2.toNatClampNeg) v H2) : x_To tb tyl ot dp k pc L (.inl e2 :: .inl e1 :: S) H cn sn v H2 := x_toG (fun D H0 ht => ⟨zTr_app ht _, fun f w post => by
  rw [zMx_app H0 _ ht]
  simp only [x_run, zMx_len, hq, hi, h1, dC_kst, h2, if_true]⟩) h
theorem xT_objectInit {ix : _} {a : Nat} (hq : tMth tb k = some q) (hi : mC q pc = some (.invokespecial ix, n)) (h1 : tBi tb (mO q) ix = some 0) (h2 : decide (S.length ≤ 8) = true) (h : x_To tb tyl ot dp k (pc + 3) L S H cn sn v H2) : x_To tb tyl ot dp k pc L (.inr (some a) :: S) H cn sn v H2 := x_to1 (fun f w post => by
  simp only [x_run, hq, hi, h1, h2, if_true]) h
theorem xT_arraycopy {ix : _} {n1 d1 s1 : Int32} {bd bs : Nat} {us vs : List (XV Int32)} (hq : tMth tb k = some q) (hi : mC q pc = some (.invokestatic ix, n)) (h0 : tCal tb (mO q) ix = none) (h1 : tBi tb (mO q) ix = some 1) (h2 : H[bs]? = some (.inr (0, us))) (h3 : H[bd]? = some (.inr (0, vs))) (h4 : (decide (¬ n1 < 0) && decide (¬ d1 < 0) && decide (¬ s1 < 0) && decide (s1.toNatClampNeg + n1.toNatClampNeg ≤ us.length) && decide (d1.toNatClampNeg + n1.toNatClampNeg ≤ vs.length) && decide (S.length ≤ 8) && us.all (fun u => u.isLeft)) = true) (h : x_To tb tyl ot dp k (pc + 3) L S (H.set bd (.inr (0, vs.take d1.toNatClampNeg ++ (us.drop s1.toNatClampNeg).take n1.toNatClampNeg ++ vs.drop (d1.toNatClampNeg + n1.toNatClampNeg)))) cn sn v H2) : x_To tb tyl ot dp k pc L (.inl n1 :: .inl d1 :: .inr (some bd) :: .inl s1 :: .inr (some bs) :: S) H cn sn v H2 := x_toG (fun D H0 ht => ⟨zTr_set ht _ (zDa ht h3 (Or.inl (by decide))), fun f w post => by
  rw [zMx_set H0 _ (zDa ht h3 (Or.inl (by decide)))]
  simp only [x_run, hq, hi, h0, h1, zGa H0 ht h2 (Or.inl (by decide)), zGa H0 ht h3 (Or.inl (by decide)), dC_kst, h4, if_true]⟩) h
theorem xT_maxY {ix : _} {a b : Int32} (hq : tMth tb k = some q) (hi : mC q pc = some (.invokestatic ix, n)) (h0 : tCal tb (mO q) ix = none) (h1 : tBi tb (mO q) ix = some 2) (h2 : (decide (S.length ≤ 8) && decide (cn ≤ mMc q) && decide (sn ≤ mMs q)) = true) (h3 : x_cmp 2 a b = true) (h : x_To tb tyl ot dp k (pc + 3) L (.inl b :: S) H cn sn v H2) : x_To tb tyl ot dp k pc L (.inl b :: .inl a :: S) H cn sn v H2 := x_to1 (fun f w post => by
  simp only [x_run, hq, hi, h0, h1, h2, if_true, dC_br, h3, Bool.false_eq_true, if_false, x_n21, x_n31, x_n32]) h
theorem xT_maxN {ix : _} {a b : Int32} (hq : tMth tb k = some q) (hi : mC q pc = some (.invokestatic ix, n)) (h0 : tCal tb (mO q) ix = none) (h1 : tBi tb (mO q) ix = some 2) (h2 : (decide (S.length ≤ 8) && decide (cn ≤ mMc q) && decide (sn ≤ mMs q)) = true) (h3 : x_cmp 2 a b = false) (h : x_To tb tyl ot dp k (pc + 3) L (.inl a :: S) H cn sn v H2) : x_To tb tyl ot dp k pc L (.inl b :: .inl a :: S) H cn sn v H2 := x_to1 (fun f w post => by
  simp only [x_run, hq, hi, h0, h1, h2, if_true, dC_br, h3, Bool.false_eq_true, if_false, x_n21, x_n31, x_n32]) h
theorem xT_minY {ix : _} {a b : Int32} (hq : tMth tb k = some q) (hi : mC q pc = some (.invokestatic ix, n)) (h0 : tCal tb (mO q) ix = none) (h1 : tBi tb (mO q) ix = some 3) (h2 : (decide (S.length ≤ 8) && decide (cn ≤ mMc q) && decide (sn ≤ mMs q)) = true) (h3 : x_cmp 2 b a = true) (h : x_To tb tyl ot dp k (pc + 3) L (.inl b :: S) H cn sn v H2) : x_To tb tyl ot dp k pc L (.inl b :: .inl a :: S) H cn sn v H2 := x_to1 (fun f w post => by
  simp only [x_run, hq, hi, h0, h1, h2, if_true, dC_br, h3, Bool.false_eq_true, if_false, x_n21, x_n31, x_n32]) h
theorem xT_minN {ix : _} {a b : Int32} (hq : tMth tb k = some q) (hi : mC q pc = some (.invokestatic ix, n)) (h0 : tCal tb (mO q) ix = none) (h1 : tBi tb (mO q) ix = some 3) (h2 : (decide (S.length ≤ 8) && decide (cn ≤ mMc q) && decide (sn ≤ mMs q)) = true) (h3 : x_cmp 2 b a = false) (h : x_To tb tyl ot dp k (pc + 3) L (.inl a :: S) H cn sn v H2) : x_To tb tyl ot dp k pc L (.inl b :: .inl a :: S) H cn sn v H2 := x_to1 (fun f w post => by
  simp only [x_run, hq, hi, h0, h1, h2, if_true, dC_br, h3, Bool.false_eq_true, if_false, x_n21, x_n31, x_n32]) h
theorem xT_invokestatic {ix j so : Nat} {q2 : XM} {r : List (XV Int32)} {u : Option (XV Int32)} {H1 : List (XC Int32)} (hq : tMth tb k = some q) (hi : mC q pc = some (.invokestatic ix, n)) (hc : tCal tb (mO q) ix = some (j, so)) (hm : tMth tb j = some q2) (h1 : (decide (mNp q2 ≤ S.length) && decide (2 ≤ so) && decide ((S.drop (mNp q2)).length ≤ 8) && decide (mNp q2 ≤ mL q2) && decide (cn + mMc q2 ≤ mMc q) && decide (sn + mMs q2 ≤ mMs q)) = true) (g1 : x_To tb tyl ot dp j 0 (x_en 0 (S.take (mNp q2)).reverse) [] H 0 0 u H1) (g2 : x_To tb tyl ot (dp + 1) k (pc + 3) L (x_push u (S.drop (mNp q2))) H1 (cn + mMc q2) (sn + mMs q2) v H2) : x_To tb tyl ot (dp + 1) k pc L S H cn sn v H2 := by
  obtain ⟨f1, g1⟩ := g1
  obtain ⟨f2, g2⟩ := g2
  refine ⟨f1 + f2 + 1, fun f hf D H0 ht => ?_⟩
  obtain ⟨g, rfl⟩ : ∃ g, f = g + 1 := ⟨f - 1, by omega⟩
  obtain ⟨a1, a2⟩ := g1 g (by omega) D H0 ht
  obtain ⟨b1, b2⟩ := g2 g (by omega) D H0 a1
  refine ⟨b1, fun w post => ?_⟩
  simp only [x_run, hq, hi, hc, hm, h1, if_true]
  rw [a2]
  exact b2 w post
theorem xT_invokevirtual {ix j so : Nat} {a : Nat} {q2 : XM} {r : List (XV Int32)} {u : Option (XV Int32)} {H1 : List (XC Int32)} (hq : tMth tb k = some q) (hi : mC q pc = some (.invokevirtual ix, n)) (hc : tCal tb (mO q) ix = some (j, so)) (hm : tMth tb j = some q2) (hd : S.drop (mNp q2) = .inr (some a) :: r) (h1 : (decide (mNp q2 + 1 ≤ S.length) && decide (so = 0) && decide (x_rc ot H a = some (mRc q2)) && decide (r.length ≤ 8) && decide (mNp q2 + 1 ≤ mL q2) && decide (cn + mMc q2 ≤ mMc q) && decide (sn + mMs q2 ≤ mMs q)) = true) (g1 : x_To tb tyl ot dp j 0 (x_en 0 (.inr (some a) :: (S.take (mNp q2)).reverse)) [] H 0 0 u H1) (g2 : x_To tb tyl ot (dp + 1) k (pc + 3) L (x_push u r) H1 (cn + mMc q2) (sn + mMs q2) v H2) : x_To tb tyl ot (dp + 1) k pc L S H cn sn v H2 := by
  obtain ⟨f1, g1⟩ := g1
  obtain ⟨f2, g2⟩ := g2
  refine ⟨f1 + f2 + 1, fun f hf D H0 ht => ?_⟩
  obtain ⟨g, rfl⟩ : ∃ g, f = g + 1 := ⟨f - 1, by omega⟩
  obtain ⟨a1, a2⟩ := g1 g (by omega) D H0 ht
  obtain ⟨b1, b2⟩ := g2 g (by omega) D H0 a1
  have h3 : (decide (mNp q2 + 1 ≤ S.length) && decide (so = 0) && decide (x_rc ot (zMx D H0 H) a = some (mRc q2)) && decide (r.length ≤ 8) && decide (mNp q2 + 1 ≤ mL q2) && decide (cn + mMc q2 ≤ mMc q) && decide (sn + mMs q2 ≤ mMs q)) = true := by
    simp only [Bool.and_eq_true, decide_eq_true_eq] at h1 ⊢
    exact ⟨⟨⟨⟨⟨⟨h1.1.1.1.1.1.1, h1.1.1.1.1.1.2⟩, zRc H0 ht h1.1.1.1.1.2⟩, h1.1.1.1.2⟩, h1.1.1.2⟩, h1.1.2⟩, h1.2⟩
  refine ⟨b1, fun w post => ?_⟩
  simp only [x_run, hq, hi, hc, hm, hd, h3, if_true]
  rw [a2]
  exact b2 w post
theorem xT_invokespecial {ix j so : Nat} {a : Nat} {q2 : XM} {r : List (XV Int32)} {u : Option (XV Int32)} {H1 : List (XC Int32)} (hq : tMth tb k = some q) (hi : mC q pc = some (.invokespecial ix, n)) (hb : tBi tb (mO q) ix = none) (hc : tCal tb (mO q) ix = some (j, so)) (hm : tMth tb j = some q2) (hd : S.drop (mNp q2) = .inr (some a) :: r) (h1 : (decide (mNp q2 + 1 ≤ S.length) && decide (so = 1) && decide (r.length ≤ 8) && decide (mNp q2 + 1 ≤ mL q2) && decide (cn + mMc q2 ≤ mMc q) && decide (sn + mMs q2 ≤ mMs q)) = true) (g1 : x_To tb tyl ot dp j 0 (x_en 0 (.inr (some a) :: (S.take (mNp q2)).reverse)) [] H 0 0 u H1) (g2 : x_To tb tyl ot (dp + 1) k (pc + 3) L (x_push u r) H1 (cn + mMc q2) (sn + mMs q2) v H2) : x_To tb tyl ot (dp + 1) k pc L S H cn sn v H2 := by
  obtain ⟨f1, g1⟩ := g1
  obtain ⟨f2, g2⟩ := g2
  refine ⟨f1 + f2 + 1, fun f hf D H0 ht => ?_⟩
  obtain ⟨g, rfl⟩ : ∃ g, f = g + 1 := ⟨f - 1, by omega⟩
  obtain ⟨a1, a2⟩ := g1 g (by omega) D H0 ht
  obtain ⟨b1, b2⟩ := g2 g (by omega) D H0 a1
  refine ⟨b1, fun w post => ?_⟩
  simp only [x_run, hq, hi, hb, hc, hm, hd, h1, if_true]
  rw [a2]
  exact b2 w post
theorem xT_ireturn {e : Int32} (hq : tMth tb k = some q) (hi : mC q pc = some (.ireturn, n)) (h1 : (x_retOk dC (mR q) (.inl e) && decide (cn ≤ mMc q) && decide (sn ≤ mMs q)) = true) : x_To tb tyl ot dp k pc L [.inl e] H cn sn (some (.inl e)) H := by
  refine ⟨1, fun f hf D H0 ht => ⟨ht, fun w post => ?_⟩⟩
  obtain ⟨g, rfl⟩ : ∃ g, f = g + 1 := ⟨f - 1, by omega⟩
  simp only [x_run, hq, hi, h1, if_true]
theorem xT_areturn {e : Option Nat} (hq : tMth tb k = some q) (hi : mC q pc = some (.areturn, n)) (h1 : (x_retOk dC (mR q) (.inr e) && decide (cn ≤ mMc q) && decide (sn ≤ mMs q)) = true) : x_To tb tyl ot dp k pc L [.inr e] H cn sn (some (.inr e)) H := by
  refine ⟨1, fun f hf D H0 ht => ⟨ht, fun w post => ?_⟩⟩
  obtain ⟨g, rfl⟩ : ∃ g, f = g + 1 := ⟨f - 1, by omega⟩
  simp only [x_run, hq, hi, h1, if_true]
theorem xT_return_ (hq : tMth tb k = some q) (hi : mC q pc = some (.return_, n)) (h1 : (decide (mR q = none) && decide (cn ≤ mMc q) && decide (sn ≤ mMs q)) = true) : x_To tb tyl ot dp k pc L [] H cn sn none H := by
  refine ⟨1, fun f hf D H0 ht => ⟨ht, fun w post => ?_⟩⟩
  obtain ⟨g, rfl⟩ : ∃ g, f = g + 1 := ⟨f - 1, by omega⟩
  simp only [x_run, hq, hi, h1, if_true]
end XTo
