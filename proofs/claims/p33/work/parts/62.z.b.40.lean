/-! Nights: what programs and twins come to, one after the other; the harm. -/
noncomputable section XN33
/-- a land: words, fields, fields, numbers, lines of each program; its source (0: none); shelf, files, twins (how many, which); weights; the year -/
abbrev Ld : Type := (Nat → Nat → Nat) × (Nat → Nat → Nat) × (Nat → Nat → Nat) × (Nat → Nat → Nat) × (Nat → Nat) × (Nat → Nat) × (Nat → Nat) × (Nat → Nat → Int32) × (Nat → Nat) × (Nat → Nat → Int32) × (Nat → Nat) × (Nat → Nat → Int32) × (Nat → Int32) × Int32
abbrev dOp (d : Ld) : Nat → Nat → Nat := d.1
abbrev dLf (d : Ld) : Nat → Nat → Nat := d.2.1
abbrev dRt (d : Ld) : Nat → Nat → Nat := d.2.2.1
abbrev dNm (d : Ld) : Nat → Nat → Nat := d.2.2.2.1
abbrev dNl (d : Ld) : Nat → Nat := d.2.2.2.2.1
abbrev dSv (d : Ld) : Nat → Nat := d.2.2.2.2.2.1
abbrev dHn (d : Ld) : Nat → Nat := d.2.2.2.2.2.2.1
abbrev dHv (d : Ld) : Nat → Nat → Int32 := d.2.2.2.2.2.2.2.1
abbrev dWn (d : Ld) : Nat → Nat := d.2.2.2.2.2.2.2.2.1
abbrev dWv (d : Ld) : Nat → Nat → Int32 := d.2.2.2.2.2.2.2.2.2.1
abbrev dTn (d : Ld) : Nat → Nat := d.2.2.2.2.2.2.2.2.2.2.1
abbrev dTv (d : Ld) : Nat → Nat → Int32 := d.2.2.2.2.2.2.2.2.2.2.2.1
abbrev dWt (d : Ld) : Nat → Int32 := d.2.2.2.2.2.2.2.2.2.2.2.2.1
abbrev dYr (d : Ld) : Int32 := d.2.2.2.2.2.2.2.2.2.2.2.2.2
/-- how many programs, and how they are -/
def dOk (n : Nat) (d : Ld) : Prop := n ≤ 12 ∧ ∀ q, q < n → 0 < dNl d q ∧ dNl d q ≤ 12 ∧ dHn d q ≤ 12 ∧ dWn d q ≤ 12 ∧ dTn d q ≤ 12 ∧ dSv d q ≤ n ∧ dSv d q ≠ q + 1 ∧ ∀ l, l < dNl d q → dOp d q l ≤ 11 ∧ dLf d q l < 6 ∧ dRt d q l < 6 ∧ dNm d q l < 10000
/-- its input: the shelf, what a program before it wrote this night, what one behind it wrote last -/
def inX (d : Ld) (on : Nat → Nat) (ov : Nat → Nat → Int32) (r : Nat → rS) (i : Nat) : Nat × (Nat → Int32) := if dSv d i = 0 then (dHn d i, dHv d i) else if dSv d i ≤ i then (rOs (r (dSv d i - 1)), rOv (r (dSv d i - 1))) else (on (dSv d i - 1), ov (dSv d i - 1))
def pgP (d : Ld) (i : Nat) (x : Nat × (Nat → Int32)) : rP := (dOp d i, dLf d i, dRt d i, dNm d i, dNl d i, x.1, x.2, fmI, (fun v => lpB 0 (if v < nI 100 then x_bin 0 (nI 1900) v else v)), dYr d)
def pgT (d : Ld) (i : Nat) (x : Nat × (Nat → Int32)) : rP := (dOp d i, dLf d i, dRt d i, dNm d i, dNl d i, x.1, x.2, (fun v => v), lpB 2, dYr d)
theorem inX_cg {d : Ld} {on : Nat → Nat} {ov : Nat → Nat → Int32} {r1 r2 : Nat → rS} {i : Nat} (h : ∀ q, q < i → r1 q = r2 q) : inX d on ov r1 i = inX d on ov r2 i := by
  unfold inX
  by_cases c : dSv d i = 0
  · rw [if_pos c, if_pos c]
  · rw [if_neg c, if_neg c]
    by_cases e : dSv d i ≤ i
    · rw [if_pos e, if_pos e, h (dSv d i - 1) (by omega)]
    · rw [if_neg e, if_neg e]
def rdG (F : Nat → (Nat → rS) → rS) : Nat → Nat → rS
  | 0, _ => rs0
  | i + 1, q => if q = i then F i (rdG F i) else rdG F i q
theorem rdG_at {F : Nat → (Nat → rS) → rS} : ∀ i q, q < i → rdG F i q = rdG F (q + 1) q
  | 0, q, h => absurd h (Nat.not_lt_zero _)
  | i + 1, q, h => by
    by_cases c : q = i
    · rw [c]
    · rw [← rdG_at i q (by omega)]
      exact if_neg c
theorem rdG_ex {F : Nat → (Nat → rS) → rS} (hF : ∀ i r1 r2, (∀ q, q < i → r1 q = r2 q) → F i r1 = F i r2) : ∃ r : Nat → rS, ∀ i, r i = F i r :=
  ⟨fun i => rdG F (i + 1) i, fun i => by
    show (if i = i then F i (rdG F i) else rdG F i i) = _
    rw [if_pos rfl]
    exact hF i _ _ (fun q hq => rdG_at i q hq)⟩
/-- what programs come to, each as it is; what twins come to -/
def rdP (d : Ld) (r : Nat → rS) : Prop := ∀ i, r i = runR (pgP d i (inX d (dWn d) (dWv d) r i))
def rdT (d : Ld) (r : Nat → rS) : Prop := ∀ i, r i = runR (pgT d i (inX d (dTn d) (dTv d) r i))
theorem rdP_ex (d : Ld) : ∃ r, rdP d r := rdG_ex (F := fun i r => runR (pgP d i (inX d (dWn d) (dWv d) r i))) (fun i r1 r2 h => by
  show runR (pgP d i (inX d (dWn d) (dWv d) r1 i)) = runR (pgP d i (inX d (dWn d) (dWv d) r2 i))
  rw [inX_cg h])
theorem rdT_ex (d : Ld) : ∃ r, rdT d r := rdG_ex (F := fun i r => runR (pgT d i (inX d (dTn d) (dTv d) r i))) (fun i r1 r2 h => by
  show runR (pgT d i (inX d (dTn d) (dTv d) r1 i)) = runR (pgT d i (inX d (dTn d) (dTv d) r2 i))
  rw [inX_cg h])
theorem os12 {p : rP} (h : 0 < pNl p) : rOs (runR p) ≤ 12 := (run_ok 150 rs0 (rs0_ok h)).2.2.1
theorem inX_12 {n : Nat} {d : Ld} (hd : dOk n d) {on : Nat → Nat} {ov : Nat → Nat → Int32} {r : Nat → rS} {i : Nat} (hi : i < n) (h1 : ∀ q, q < n → on q ≤ 12) (h2 : ∀ q, q < n → rOs (r q) ≤ 12) : (inX d on ov r i).1 ≤ 12 := by
  obtain ⟨-, hd⟩ := hd
  obtain ⟨-, -, a3, -, -, a6, -⟩ := hd i hi
  unfold inX
  by_cases c : dSv d i = 0
  · rw [if_pos c]
    exact a3
  · rw [if_neg c]
    by_cases e : dSv d i ≤ i
    · rw [if_pos e]
      exact h2 _ (by omega)
    · rw [if_neg e]
      exact h1 _ (by omega)
theorem rdP_12 {n : Nat} {d : Ld} (hd : dOk n d) {r : Nat → rS} (h : rdP d r) {q : Nat} (hq : q < n) : rOs (r q) ≤ 12 := by
  rw [h q]
  exact os12 (hd.2 q hq).1
theorem rdT_12 {n : Nat} {d : Ld} (hd : dOk n d) {r : Nat → rS} (h : rdT d r) {q : Nat} (hq : q < n) : rOs (r q) ≤ 12 := by
  rw [h q]
  exact os12 (hd.2 q hq).1
theorem pgP_ok {n : Nat} {d : Ld} (hd : dOk n d) {r : Nat → rS} (h : rdP d r) {i : Nat} (hi : i < n) : pOk (pgP d i (inX d (dWn d) (dWv d) r i)) :=
  ⟨(hd.2 i hi).1, (hd.2 i hi).2.1, inX_12 hd hi (fun q hq => (hd.2 q hq).2.2.2.1) (fun q hq => rdP_12 hd h hq), (hd.2 i hi).2.2.2.2.2.2.2⟩
theorem pgT_ok {n : Nat} {d : Ld} (hd : dOk n d) {r : Nat → rS} (h : rdT d r) {i : Nat} (hi : i < n) : pOk (pgT d i (inX d (dTn d) (dTv d) r i)) :=
  ⟨(hd.2 i hi).1, (hd.2 i hi).2.1, inX_12 hd hi (fun q hq => (hd.2 q hq).2.2.2.2.1) (fun q hq => rdT_12 hd h hq), (hd.2 i hi).2.2.2.2.2.2.2⟩
/-- is a program wrong; what that comes to -/
def wrg (rp rt : Nat → rS) (i : Nat) : Bool := !(decide (rEn (rp i) = rEn (rt i)) && lkB (rOs (rp i)) (rOv (rp i)) (rOs (rt i)) (rOv (rt i)))
def hrm (d : Ld) (rp rt : Nat → rS) : Nat → Int32
  | 0 => 0
  | i + 1 => if wrg rp rt i = true then x_bin 0 (hrm d rp rt i) (dWt d i) else hrm d rp rt i
theorem hrm_y {d : Ld} {rp rt : Nat → rS} {i : Nat} (h : wrg rp rt i = true) : hrm d rp rt (i + 1) = x_bin 0 (hrm d rp rt i) (dWt d i) := if_pos h
theorem hrm_n {d : Ld} {rp rt : Nat → rS} {i : Nat} (h : ¬ wrg rp rt i = true) : hrm d rp rt (i + 1) = hrm d rp rt i := if_neg h
theorem wrg_e {rp rt : Nat → rS} {i : Nat} (h : ¬ rEn (rp i) = rEn (rt i)) : wrg rp rt i = true := by
  unfold wrg
  rw [decide_eq_false h]
  rfl
theorem wrg_l {rp rt : Nat → rS} {i : Nat} (h : rEn (rp i) = rEn (rt i)) (h2 : ¬ lkB (rOs (rp i)) (rOv (rp i)) (rOs (rt i)) (rOv (rt i)) = true) : wrg rp rt i = true := by
  unfold wrg
  rw [decide_eq_true h, Bool.eq_false_iff.mpr h2]
  rfl
theorem wrg_n {rp rt : Nat → rS} {i : Nat} (h : rEn (rp i) = rEn (rt i)) (h2 : lkB (rOs (rp i)) (rOv (rp i)) (rOs (rt i)) (rOv (rt i)) = true) : ¬ wrg rp rt i = true := by
  unfold wrg
  rw [decide_eq_true h, h2]
  decide
end XN33
