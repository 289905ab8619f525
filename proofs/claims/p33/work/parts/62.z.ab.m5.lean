/-! Years in fields: the arithmetic. -/
noncomputable section XM5
def bitP (a s : Nat) : Nat := (a >>> s) &&& 1
theorem bitP_b {a s : Nat} : bitP a s = 0 ∨ bitP a s = 1 := by
  have h : bitP a s ≤ 1 := Nat.and_le_right
  omega
def pc6 (a : Nat) : Nat := bitP a 0 + bitP a 1 + bitP a 2 + bitP a 3 + bitP a 4 + bitP a 5
theorem pc6_le (a : Nat) : pc6 a ≤ 6 := by
  have h0 := bitP_b (a := a) (s := 0)
  have h1 := bitP_b (a := a) (s := 1)
  have h2 := bitP_b (a := a) (s := 2)
  have h3 := bitP_b (a := a) (s := 3)
  have h4 := bitP_b (a := a) (s := 4)
  have h5 := bitP_b (a := a) (s := 5)
  unfold pc6
  omega
set_option maxRecDepth 1000000 in
theorem b_or : ∀ a, a < 64 → ∀ f, f < 6 → x_bin 4 (nI a) (x_bin 6 (nI 1) (nI f)) = nI (a ||| 2 ^ f) ∧ a ||| 2 ^ f < 64 ∧ a ≤ a ||| 2 ^ f ∧ (bitP a f = 0 → a < a ||| 2 ^ f ∧ pc6 (a ||| 2 ^ f) = pc6 a + 1) ∧ (bitP a f = 1 → a ||| 2 ^ f = a) := by decide +kernel
set_option maxRecDepth 1000000 in
theorem b_orb : ∀ a, a < 64 → ∀ f, f < 6 → ∀ x, x < 6 → bitP (a ||| 2 ^ f) x = if x = f then 1 else bitP a x := by decide +kernel
set_option maxRecDepth 1000000 in
theorem b_or0 : ∀ a, a < 64 → x_bin 4 (nI a) (nI 0) = nI a := by decide +kernel
set_option maxRecDepth 1000000 in
theorem bit00 : ∀ x, x < 6 → bitP 0 x = 0 := by decide +kernel
def upF (f : Nat → Nat) (i v : Nat) : Nat → Nat := fun j => if j = i then v else f j
theorem upF_eq {f : Nat → Nat} {i v : Nat} : upF f i v i = v := if_pos rfl
theorem upF_ne {f : Nat → Nat} {i v j : Nat} (h : j ≠ i) : upF f i v j = f j := if_neg h
/-- does a line give a year: rd says whether the input's years are read -/
def gvN (op rt : Nat → Nat) (rd all l : Nat) : Nat := if op l = 0 then 1 else if op l = 1 then rd else if op l = 4 ∨ op l = 5 ∨ op l = 6 then bitP all (rt l) else 0
theorem gv_b {op rt : Nat → Nat} {rd all l : Nat} (h : rd = 0 ∨ rd = 1) : gvN op rt rd all l = 0 ∨ gvN op rt rd all l = 1 := by
  unfold gvN
  split
  · exact Or.inr rfl
  · split
    · exact h
    · split
      · exact bitP_b
      · exact Or.inl rfl
/-- the fields that are sure behind d lines from the l-th on -/
def saN (op lf rt : Nat → Nat) (rd : Nat) : Nat → Nat → Nat → Nat
  | 0, _, all => all
  | d + 1, l, all => saN op lf rt rd d (l + 1) (if gvN op rt rd all l = 1 then all ||| 2 ^ lf l else all)
theorem sa_p {op lf rt : Nat → Nat} {rd m : Nat} (hf : ∀ l, l < m → lf l < 6) : ∀ d l all, l + d ≤ m → all < 64 → saN op lf rt rd d l all < 64 ∧ all ≤ saN op lf rt rd d l all ∧ pc6 all ≤ pc6 (saN op lf rt rd d l all) ∧ (saN op lf rt rd d l all ≠ all → pc6 all < pc6 (saN op lf rt rd d l all))
  | 0, _, all, _, h => ⟨h, Nat.le_refl _, Nat.le_refl _, fun z => absurd rfl z⟩
  | d + 1, l, all, hl, h => by
    have e : saN op lf rt rd (d + 1) l all = saN op lf rt rd d (l + 1) (if gvN op rt rd all l = 1 then all ||| 2 ^ lf l else all) := rfl
    rw [e]
    by_cases c : gvN op rt rd all l = 1
    · rw [if_pos c]
      obtain ⟨-, q1, q2, q3, q4⟩ := b_or all h (lf l) (hf l (by omega))
      obtain ⟨r1, r2, r3, r4⟩ := sa_p hf d (l + 1) (all ||| 2 ^ lf l) (by omega) q1
      rcases bitP_b (a := all) (s := lf l) with z | z
      · obtain ⟨s1, s2⟩ := q3 z
        exact ⟨r1, by omega, by omega, fun _ => by omega⟩
      · rw [q4 z] at r1 r2 r3 r4 ⊢
        exact ⟨r1, r2, r3, r4⟩
    · rw [if_neg c]
      exact sa_p hf d (l + 1) all (by omega) h
/-- is some field of s written out -/
def wrN (op lf : Nat → Nat) (s : Nat) : Nat → Nat → Nat
  | 0, _ => 0
  | d + 1, l => if op l = 2 ∧ bitP s (lf l) = 1 then 1 else wrN op lf s d (l + 1)
theorem wr_b {op lf : Nat → Nat} {s : Nat} : ∀ d l, wrN op lf s d l = 0 ∨ wrN op lf s d l = 1
  | 0, _ => Or.inl rfl
  | d + 1, l => by
    show (if op l = 2 ∧ bitP s (lf l) = 1 then 1 else wrN op lf s d (l + 1)) = 0 ∨ (if op l = 2 ∧ bitP s (lf l) = 1 then 1 else wrN op lf s d (l + 1)) = 1
    split
    · exact Or.inr rfl
    · exact wr_b d (l + 1)
/-- the fields that are asked beside sure ones -/
def aN1 (lf rt : Nat → Nat) (s l asked : Nat) : Nat := if bitP s (lf l) = 1 then asked ||| 2 ^ rt l else asked
def aN2 (lf rt : Nat → Nat) (s l asked : Nat) : Nat := if bitP s (rt l) = 1 then asked ||| 2 ^ lf l else asked
def asN (op lf rt : Nat → Nat) (s : Nat) : Nat → Nat → Nat → Nat
  | 0, _, asked => asked
  | d + 1, l, asked => asN op lf rt s d (l + 1) (if op l = 7 ∨ op l = 11 then aN2 lf rt s l (aN1 lf rt s l asked) else asked)
def qN (op lf rt : Nat → Nat) (s f : Nat) : Nat → Nat → Nat
  | 0, _ => 0
  | d + 1, l => if (op l = 7 ∨ op l = 11) ∧ ((lf l = f ∧ bitP s (rt l) = 1) ∨ (rt l = f ∧ bitP s (lf l) = 1)) then 1 else qN op lf rt s f d (l + 1)
theorem q_b {op lf rt : Nat → Nat} {s f : Nat} : ∀ d l, qN op lf rt s f d l = 0 ∨ qN op lf rt s f d l = 1
  | 0, _ => Or.inl rfl
  | d + 1, l => by
    show (if (op l = 7 ∨ op l = 11) ∧ ((lf l = f ∧ bitP s (rt l) = 1) ∨ (rt l = f ∧ bitP s (lf l) = 1)) then 1 else qN op lf rt s f d (l + 1)) = 0 ∨ (if (op l = 7 ∨ op l = 11) ∧ ((lf l = f ∧ bitP s (rt l) = 1) ∨ (rt l = f ∧ bitP s (lf l) = 1)) then 1 else qN op lf rt s f d (l + 1)) = 1
    split
    · exact Or.inr rfl
    · exact q_b d (l + 1)
theorem aN_p {lf rt : Nat → Nat} {s l asked : Nat} (h1 : lf l < 6) (h2 : rt l < 6) (h : asked < 64) : aN1 lf rt s l asked < 64 ∧ aN2 lf rt s l (aN1 lf rt s l asked) < 64 ∧ ∀ f, f < 6 → (bitP (aN2 lf rt s l (aN1 lf rt s l asked)) f = 1 ↔ bitP asked f = 1 ∨ (lf l = f ∧ bitP s (rt l) = 1) ∨ (rt l = f ∧ bitP s (lf l) = 1)) := by
  have a1 : aN1 lf rt s l asked < 64 := by
    unfold aN1
    split
    · exact (b_or asked h (rt l) h2).2.1
    · exact h
  have a2 : aN2 lf rt s l (aN1 lf rt s l asked) < 64 := by
    unfold aN2
    split
    · exact (b_or _ a1 (lf l) h1).2.1
    · exact a1
  refine ⟨a1, a2, fun f hf => ?_⟩
  have e1 : bitP (aN1 lf rt s l asked) f = 1 ↔ bitP asked f = 1 ∨ (rt l = f ∧ bitP s (lf l) = 1) := by
    unfold aN1
    by_cases c : bitP s (lf l) = 1
    · rw [if_pos c, b_orb asked h (rt l) h2 f hf]
      by_cases e : f = rt l
      · rw [if_pos e]
        exact ⟨fun _ => Or.inr ⟨e.symm, c⟩, fun _ => rfl⟩
      · rw [if_neg e]
        exact ⟨fun z => Or.inl z, fun z => z.resolve_right (fun y => e y.1.symm)⟩
    · rw [if_neg c]
      exact ⟨fun z => Or.inl z, fun z => z.resolve_right (fun y => c y.2)⟩
  have e2 : bitP (aN2 lf rt s l (aN1 lf rt s l asked)) f = 1 ↔ bitP (aN1 lf rt s l asked) f = 1 ∨ (lf l = f ∧ bitP s (rt l) = 1) := by
    unfold aN2
    by_cases c : bitP s (rt l) = 1
    · rw [if_pos c, b_orb _ a1 (lf l) h1 f hf]
      by_cases e : f = lf l
      · rw [if_pos e]
        exact ⟨fun _ => Or.inr ⟨e.symm, c⟩, fun _ => rfl⟩
      · rw [if_neg e]
        exact ⟨fun z => Or.inl z, fun z => z.resolve_right (fun y => e y.1.symm)⟩
    · rw [if_neg c]
      exact ⟨fun z => Or.inl z, fun z => z.resolve_right (fun y => c y.2)⟩
  rw [e2, e1]
  constructor
  · rintro ((z | z) | z)
    · exact Or.inl z
    · exact Or.inr (Or.inr z)
    · exact Or.inr (Or.inl z)
  · rintro (z | z | z)
    · exact Or.inl (Or.inl z)
    · exact Or.inr z
    · exact Or.inl (Or.inr z)
theorem as_q {op lf rt : Nat → Nat} {s f m : Nat} (hf : f < 6) (hm : ∀ l, l < m → lf l < 6 ∧ rt l < 6) : ∀ d l asked, l + d ≤ m → asked < 64 → asN op lf rt s d l asked < 64 ∧ (bitP (asN op lf rt s d l asked) f = 1 ↔ bitP asked f = 1 ∨ qN op lf rt s f d l = 1)
  | 0, _, asked, _, h => ⟨h, ⟨fun z => Or.inl z, fun z => z.resolve_right (fun y => absurd (show 0 = 1 from y) (by decide))⟩⟩
  | d + 1, l, asked, hl, h => by
    have e : asN op lf rt s (d + 1) l asked = asN op lf rt s d (l + 1) (if op l = 7 ∨ op l = 11 then aN2 lf rt s l (aN1 lf rt s l asked) else asked) := rfl
    have eq : qN op lf rt s f (d + 1) l = if (op l = 7 ∨ op l = 11) ∧ ((lf l = f ∧ bitP s (rt l) = 1) ∨ (rt l = f ∧ bitP s (lf l) = 1)) then 1 else qN op lf rt s f d (l + 1) := rfl
    obtain ⟨m1, m2⟩ := hm l (by omega)
    rw [e, eq]
    by_cases c : op l = 7 ∨ op l = 11
    · rw [if_pos c]
      obtain ⟨p1, p2, p3⟩ := aN_p (s := s) m1 m2 h
      obtain ⟨i1, i2⟩ := as_q hf hm d (l + 1) _ (by omega) p2
      refine ⟨i1, ?_⟩
      rw [i2, p3 f hf]
      by_cases k : (lf l = f ∧ bitP s (rt l) = 1) ∨ (rt l = f ∧ bitP s (lf l) = 1)
      · rw [if_pos ⟨c, k⟩]
        exact ⟨fun _ => Or.inr rfl, fun _ => Or.inl (Or.inr k)⟩
      · rw [if_neg (fun z => k z.2)]
        exact ⟨fun z => z.elim (fun z => z.elim Or.inl (fun y => absurd y k)) Or.inr, fun z => z.elim (fun z => Or.inl (Or.inl z)) Or.inr⟩
    · rw [if_neg c, if_neg (fun z => c z.1)]
      exact as_q hf hm d (l + 1) asked (by omega) h
/-- what one round makes of all -/
def rdN (op lf : Nat → Nat → Nat) (nl S : Nat → Nat) : Nat → Nat
  | 0 => 0
  | s + 1 => wrN (op s) (lf s) (S s) (nl s) 0
theorem rd_b {op lf : Nat → Nat → Nat} {nl S : Nat → Nat} : ∀ v, rdN op lf nl S v = 0 ∨ rdN op lf nl S v = 1
  | 0 => Or.inl rfl
  | s + 1 => wr_b _ _
def nwN (op lf rt : Nat → Nat → Nat) (nl sv S : Nat → Nat) (q : Nat) : Nat := saN (op q) (lf q) (rt q) (rdN op lf nl S (sv q)) (nl q) 0 (S q)
def psN (op lf rt : Nat → Nat → Nat) (nl sv S : Nat → Nat) : Nat → Nat → Nat
  | 0 => S
  | q + 1 => upF (psN op lf rt nl sv S q) q (nwN op lf rt nl sv (psN op lf rt nl sv S q) q)
def chN (op lf rt : Nat → Nat → Nat) (nl sv S : Nat → Nat) : Nat → Nat
  | 0 => 0
  | q + 1 => if nwN op lf rt nl sv (psN op lf rt nl sv S q) q = psN op lf rt nl sv S q q then chN op lf rt nl sv S q else 1
theorem ch_b {op lf rt : Nat → Nat → Nat} {nl sv S : Nat → Nat} : ∀ q, chN op lf rt nl sv S q = 0 ∨ chN op lf rt nl sv S q = 1
  | 0 => Or.inl rfl
  | q + 1 => by
    show (if nwN op lf rt nl sv (psN op lf rt nl sv S q) q = psN op lf rt nl sv S q q then chN op lf rt nl sv S q else 1) = 0 ∨ (if nwN op lf rt nl sv (psN op lf rt nl sv S q) q = psN op lf rt nl sv S q q then chN op lf rt nl sv S q else 1) = 1
    split
    · exact ch_b q
    · exact Or.inr rfl
def cnN (S : Nat → Nat) : Nat → Nat
  | 0 => 0
  | q + 1 => cnN S q + pc6 (S q)
theorem cn_le {S : Nat → Nat} : ∀ n, cnN S n ≤ 6 * n
  | 0 => Nat.le_refl 0
  | n + 1 => by
    have h1 := cn_le (S := S) n
    have h2 := pc6_le (S n)
    show cnN S n + pc6 (S n) ≤ 6 * (n + 1)
    omega
theorem cn_ge {S : Nat → Nat} {k x : Nat} : ∀ n, n ≤ k → cnN (upF S k x) n = cnN S n
  | 0, _ => rfl
  | n + 1, h => by
    show cnN (upF S k x) n + pc6 (upF S k x n) = cnN S n + pc6 (S n)
    rw [cn_ge n (by omega), upF_ne (by omega)]
theorem cn_up {S : Nat → Nat} {k x : Nat} : ∀ n, k < n → cnN (upF S k x) n + pc6 (S k) = cnN S n + pc6 x
  | 0, h => absurd h (Nat.not_lt_zero k)
  | n + 1, h => by
    show cnN (upF S k x) n + pc6 (upF S k x n) + pc6 (S k) = cnN S n + pc6 (S n) + pc6 x
    by_cases e : k = n
    · subst e
      rw [cn_ge k (Nat.le_refl k), upF_eq]
      omega
    · have := cn_up (S := S) (x := x) (k := k) n (by omega)
      rw [upF_ne (fun z => e z.symm)]
      omega
/-- the code of n programs -/
def cdOk (n : Nat) (op lf rt : Nat → Nat → Nat) (nl : Nat → Nat) : Prop := ∀ q, q < n → nl q ≤ 12 ∧ ∀ l, l < nl q → op q l ≤ 11 ∧ lf q l < 6 ∧ rt q l < 6
theorem nw_p {n : Nat} {op lf rt : Nat → Nat → Nat} {nl sv S : Nat → Nat} (hc : cdOk n op lf rt nl) {q : Nat} (hq : q < n) (h : S q < 64) : nwN op lf rt nl sv S q < 64 ∧ S q ≤ nwN op lf rt nl sv S q ∧ pc6 (S q) ≤ pc6 (nwN op lf rt nl sv S q) ∧ (nwN op lf rt nl sv S q ≠ S q → pc6 (S q) < pc6 (nwN op lf rt nl sv S q)) := sa_p (fun l hl => ((hc q hq).2 l hl).2.1) (nl q) 0 (S q) (by omega) h
theorem ps_64 {n : Nat} {op lf rt : Nat → Nat → Nat} {nl sv S : Nat → Nat} (hc : cdOk n op lf rt nl) (h : ∀ q, q < n → S q < 64) : ∀ k, k ≤ n → ∀ q, q < n → psN op lf rt nl sv S k q < 64
  | 0, _ => h
  | k + 1, hk => fun q hq => by
    have ih := ps_64 (sv := sv) hc h k (by omega)
    show upF (psN op lf rt nl sv S k) k (nwN op lf rt nl sv (psN op lf rt nl sv S k) k) q < 64
    by_cases e : q = k
    · subst e
      rw [upF_eq]
      exact (nw_p hc hq (ih q hq)).1
    · rw [upF_ne e]
      exact ih q hq
theorem ps_cn {n : Nat} {op lf rt : Nat → Nat → Nat} {nl sv S : Nat → Nat} (hc : cdOk n op lf rt nl) (h : ∀ q, q < n → S q < 64) : ∀ k, k ≤ n → cnN S n + chN op lf rt nl sv S k ≤ cnN (psN op lf rt nl sv S k) n
  | 0, _ => Nat.le_refl _
  | k + 1, hk => by
    have ih := ps_cn (sv := sv) hc h k (by omega)
    have i6 := ps_64 (sv := sv) hc h k (by omega) k (by omega)
    have u := cn_up (S := psN op lf rt nl sv S k) (x := nwN op lf rt nl sv (psN op lf rt nl sv S k) k) n (show k < n by omega)
    obtain ⟨-, -, p1, p2⟩ := nw_p (sv := sv) hc (show k < n by omega) i6
    have c2 := ch_b (op := op) (lf := lf) (rt := rt) (nl := nl) (sv := sv) (S := S) k
    show cnN S n + (if nwN op lf rt nl sv (psN op lf rt nl sv S k) k = psN op lf rt nl sv S k k then chN op lf rt nl sv S k else 1) ≤ cnN (upF (psN op lf rt nl sv S k) k (nwN op lf rt nl sv (psN op lf rt nl sv S k) k)) n
    split
    · omega
    · rename_i c
      have := p2 c
      omega
/-- rounds until nothing grows, or k of them -/
def fxN (n : Nat) (op lf rt : Nat → Nat → Nat) (nl sv : Nat → Nat) : Nat → (Nat → Nat) → Nat → Nat
  | 0, S => S
  | k + 1, S => if chN op lf rt nl sv S n = 1 then fxN n op lf rt nl sv k (psN op lf rt nl sv S n) else psN op lf rt nl sv S n
def svI : Nat → Int32
  | 0 => -1
  | s + 1 => nI s
/-- the reference's number of a word -/
def opR : Nat → Nat
  | 8 => 9
  | 9 => 10
  | 10 => 11
  | 11 => 8
  | x => x
theorem opR_t : ∀ x, x < 12 → opR x < 12 ∧ (x ≠ 8 → x ≠ 9 → x ≠ 10 → x ≠ 11 → opR x = x) := by decide
theorem opR_2 : ∀ x, x < 12 → opR x = 2 → x = 2 := by decide
end XM5
