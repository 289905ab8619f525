/-! p33 by hand, 19. -/
noncomputable section XH33_19
variable {ot : XO Int32} {dp : Nat} {H H0 : List (XC Int32)}
/-- the reference's fields, as far as runs read them -/
def rG (gs : List (XV Int32)) (ln cd ip sh shs fi fz tw tz fo pc tk dn en wo ws la : Nat) : Prop := gs[1]? = some (.inr (some ln)) ∧ gs[2]? = some (.inr (some cd)) ∧ gs[6]? = some (.inr (some ip)) ∧ gs[11]? = some (.inr (some sh)) ∧ gs[12]? = some (.inr (some shs)) ∧ gs[13]? = some (.inr (some fi)) ∧ gs[14]? = some (.inr (some fz)) ∧ gs[15]? = some (.inr (some tw)) ∧ gs[16]? = some (.inr (some tz)) ∧ gs[50]? = some (.inr (some fo)) ∧ gs[51]? = some (.inr (some pc)) ∧ gs[52]? = some (.inr (some tk)) ∧ gs[53]? = some (.inr (some dn)) ∧ gs[54]? = some (.inr (some en)) ∧ gs[55]? = some (.inr (some wo)) ∧ gs[56]? = some (.inr (some ws)) ∧ gs[57]? = some (.inr (some la)) ∧ 58 < gs.length
/-- a row of rows, one of them told -/
def rQ (H0 : List (XC Int32)) (As : List Nat) (r ty len i x : Nat) : Prop := ∃ l, c3R H0 As r (.inr (ty, l)) ∧ l.length = len ∧ l[i]? = some (.inr (some x))
/-- a row of ints, one of them told -/
def rI (H0 : List (XC Int32)) (As : List Nat) (r len i : Nat) (x : Int32) : Prop := ¬ r = 1000000 ∧ ∃ l, c3R H0 As r (.inr (0, l)) ∧ l.length = len ∧ l[i]? = some (.inl x)
/-- its code of a program -/
def rC (H0 : List (XC Int32)) (As : List Nat) (ln cd q : Nat) (p : rP) : Prop := (∃ D, rQ H0 As cd 5 13 q D ∧ ¬ D = 1000000 ∧ ∃ w, c3R H0 As D (.inr (0, w)) ∧ w.length = 48 ∧ ∀ l, l < pNl p → w[4 * l]? = some (.inl (nI (opR (pOp p l)))) ∧ (pOp p l ≠ 9 → pOp p l ≠ 10 → w[4 * l + 1]? = some (.inl (nI (pLf p l)))) ∧ ((pOp p l = 4 ∨ pOp p l = 5 ∨ pOp p l = 6 ∨ pOp p l = 7 ∨ pOp p l = 11) → w[4 * l + 2]? = some (.inl (nI (pRt p l)))) ∧ ((pOp p l = 3 ∨ pOp p l = 7 ∨ pOp p l = 8 ∨ pOp p l = 9 ∨ pOp p l = 11) → w[4 * l + 3]? = some (.inl (nI (pNm p l))))) ∧ rI H0 As ln 13 q (nI (pNl p))
/-- how it cuts numbers: t 1: not at all -/
def rT (H0 : List (XC Int32)) (As : List Nat) (gs : List (XV Int32)) (q t : Nat) (p : rP) : Prop := (t = 1 ∧ pCut p = (fun v => v) ∧ pLp p = lpB 2) ∨ (t = 0 ∧ pCut p = fmI ∧ (pLp p = fun v => lpB 0 (if v < nI 100 then x_bin 0 (nI 1900) v else v)) ∧ ∃ dg pv ru dr pr, gs[3]? = some (.inr (some dg)) ∧ gs[4]? = some (.inr (some pv)) ∧ gs[5]? = some (.inr (some ru)) ∧ rQ H0 As dg 5 12 q dr ∧ rQ H0 As pv 5 12 q pr ∧ c3W H0 As dr 6 (fun _ => nI 2) 6 ∧ c3W H0 As pr 6 (fun _ => -1) 6 ∧ rI H0 As ru 12 q (nI 0))
/-- its input -/
def rN (H0 : List (XC Int32)) (As : List Nat) (ip sh shs rw sz q : Nat) (p : rP) : Prop := (rI H0 As ip 12 q (-1) ∧ rI H0 As shs 12 q (nI (pNi p)) ∧ ∃ r w, rQ H0 As sh 5 12 q r ∧ ¬ r = 1000000 ∧ c3R H0 As r (.inr (0, w)) ∧ w.length = 12 ∧ ∀ k, k < pNi p → ∃ x : Int32, w[k]? = some (.inl x) ∧ pIv p k = if x = -1 then 0 else x) ∨ ∃ s, s < 12 ∧ rI H0 As ip 12 q (nI s) ∧ rI H0 As sz 12 s (nI (pNi p)) ∧ ∃ r, rQ H0 As rw 5 12 s r ∧ c3W H0 As r 12 (pIv p) (pNi p)
end XH33_19
