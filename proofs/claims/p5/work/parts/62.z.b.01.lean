/-! p5 by hand, 0. -/
noncomputable section XH5_0
variable {ot : XO Int32} {dp : Nat} {H : List (XC Int32)} {a n m : Nat} {P C nl sv S : Nat → Nat} {op lf rt : Nat → Nat → Nat}
/-- a row of ints -/
def isRw (H : List (XC Int32)) (r len : Nat) (f : Nat → Nat) (n : Nat) : Prop := r < 1000000 ∧ ∃ l, H[r]? = some (.inr (0, l)) ∧ l.length = len ∧ ∀ k, k < n → l[k]? = some (.inl (nI (f k)))
/-- code of a program of the class -/
def kC (H : List (XC Int32)) (c : Nat) (op lf rt : Nat → Nat) (nl : Nat) : Prop := ¬ 1000000 < c ∧ ∃ co ro rl rr, H[c]? = some (.inl (2, co)) ∧ co[0]? = some (.inr (some ro)) ∧ co[1]? = some (.inr (some rl)) ∧ co[2]? = some (.inr (some rr)) ∧ co[4]? = some (.inl (nI nl)) ∧ isRw H ro 12 op nl ∧ isRw H rl 12 lf nl ∧ isRw H rr 12 rt nl
/-- a program of the class: of its years known where u holds -/
def kP (H : List (XC Int32)) (p c : Nat) (s : Int32) (u : Prop) (x : Nat) : Prop := ¬ 1000000 < p ∧ ∃ po, H[p]? = some (.inl (10, po)) ∧ po.length = 20 ∧ po[0]? = some (.inr (some c)) ∧ po[8]? = some (.inl s) ∧ (u → po[19]? = some (.inl (nI x)))
/-- the class: its programs, the first m of them with years S -/
def kA (H : List (XC Int32)) (a n : Nat) (P C : Nat → Nat) (op lf rt : Nat → Nat → Nat) (nl sv S : Nat → Nat) (m : Nat) : Prop := (¬ 1000000 < a ∧ n ≤ 12 ∧ ∃ gs pa vs, H[a]? = some (.inl (0, gs)) ∧ gs[3]? = some (.inl (nI n)) ∧ gs[2]? = some (.inr (some pa)) ∧ H[pa]? = some (.inr (2, vs)) ∧ vs.length = 12 ∧ ∀ q, q < n → vs[q]? = some (.inr (some (P q)))) ∧ (∀ q, q < n → kP H (P q) (C q) (svI (sv q)) (q < m) (S q)) ∧ (∀ q, q < n → kC H (C q) (op q) (lf q) (rt q) (nl q)) ∧ ∀ q k, q < n → k < n → P q = P k → q = k
/-- where inputs come from -/
def svOk (n : Nat) (sv : Nat → Nat) : Prop := ∀ q, q < n → sv q ≤ n ∧ sv q ≠ q + 1
theorem isRw_obj {len r1 c a ci : Nat} {f : Nat → Nat} {os : List (XV Int32)} {w : XC Int32} (h : isRw H r1 len f c) (hp : H[a]? = some (.inl (ci, os))) : isRw (H.set a w) r1 len f c := by
  obtain ⟨h1, l, h2, h3, h4⟩ := h
  exact ⟨h1, l, gtag hp h2 (fun e => by cases e), h3, h4⟩
theorem kC_obj {c nl' p : Nat} {o l' r' : Nat → Nat} {po : List (XV Int32)} {w : XC Int32} (h : kC H c o l' r' nl') (hp : H[p]? = some (.inl (10, po))) : kC (H.set p w) c o l' r' nl' := by
  obtain ⟨h1, co, ro, rl, rr, h2, h3, h4, h5, h6, h7, h8, h9⟩ := h
  exact ⟨h1, co, ro, rl, rr, gtag hp h2 (fun e => by cases e), h3, h4, h5, h6, isRw_obj h7 hp, isRw_obj h8 hp, isRw_obj h9 hp⟩
theorem kA_set {a n m m2 q x : Nat} {P C nl sv S : Nat → Nat} {op lf rt : Nat → Nat → Nat} (h : kA H a n P C op lf rt nl sv S m) (hq : q < n) {po : List (XV Int32)} (hp : H[P q]? = some (.inl (10, po))) (hm : ∀ k, k < m2 → k = q ∨ k < m) : kA (H.set (P q) (.inl (10, po.set 19 (.inl (nI x))))) a n P C op lf rt nl sv (upF S q x) m2 := by
  obtain ⟨⟨h1, h2, gs, pa, vs, g1, g2, g3, g4, g5, g6⟩, hP, hC, inj⟩ := h
  refine ⟨⟨h1, h2, gs, pa, vs, gtag hp g1 (fun e => by cases e), g2, g3, gtag hp g4 (fun e => by cases e), g5, g6⟩, fun k hk => ?_, fun k hk => kC_obj (hC k hk) hp, inj⟩
  obtain ⟨p1, po', p2, p3, p4, p5, p6⟩ := hP k hk
  by_cases e : k = q
  · subst e
    rw [hp] at p2
    cases p2
    refine ⟨p1, _, gself hp, by rw [List.length_set]; exact p3, by rw [List.getElem?_set_ne (by decide)]; exact p4, by rw [List.getElem?_set_ne (by decide)]; exact p5, fun _ => ?_⟩
    rw [upF_eq]
    exact List.getElem?_set_self (by omega)
  · refine ⟨p1, po', gne p2 (fun z => e (inj k q hk hq z.symm)), p3, p4, p5, fun z => ?_⟩
    rw [upF_ne e]
    exact p6 ((hm k z).resolve_left e)
theorem kA_cg {a n m : Nat} {P C nl sv S S2 : Nat → Nat} {op lf rt : Nat → Nat → Nat} (h : kA H a n P C op lf rt nl sv S m) (e : ∀ q, q < n → q < m → S2 q = S q) : kA H a n P C op lf rt nl sv S2 m := ⟨h.1, fun q hq => by
  obtain ⟨p1, po, p2, p3, p4, p5, p6⟩ := h.2.1 q hq
  exact ⟨p1, po, p2, p3, p4, p5, fun z => by rw [e q hq z]; exact p6 z⟩, h.2.2⟩
/-- all but the class's programs stands as it was -/
def kp (q : XC Int32 → Bool) (H H2 : List (XC Int32)) : Prop := ∀ (x : Nat) (z : XC Int32), H[x]? = some z → q z = true → H2[x]? = some z
def tgP : XC Int32 → Bool
  | .inl z => !(z.1 == 10)
  | .inr _ => true
theorem kp_rf {q : XC Int32 → Bool} : kp q H H := fun _ _ h _ => h
theorem kp_set {q : XC Int32 → Bool} {G : List (XC Int32)} {i : Nat} {x w : XC Int32} (h : kp q H G) (hi : G[i]? = some x) (hx : q x = false) : kp q H (G.set i w) := fun j z hj hz => gtag hi (h j z hj hz) (fun e => by
  subst e
  rw [hx] at hz
  cases hz)
theorem kp_tr {q : XC Int32 → Bool} {G G2 : List (XC Int32)} (h1 : kp q H G) (h2 : kp q G G2) : kp q H G2 := fun x z hz hq => h2 x z (h1 x z hz hq) hq
end XH5_0
