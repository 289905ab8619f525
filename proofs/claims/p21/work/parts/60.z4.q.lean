/-! Graphs: the same said otherwise. -/
noncomputable section XGq
theorem wEqv {KT : vKT} {tb : XT} {tyl : List FieldType} {ot : XO Int32} {FS : List wN} {gA gB n0 mA mB : Nat} {WA WB : List (Nat × Nat)} {kA kB dpA dpB : Nat} {e e2 : wE} {outs o2 : List (Bool × wE)} (h : wGoes KT tb tyl ot FS gA gB n0 mA mB WA WB kA kB dpA dpB e outs) (he : e = e2) (ho : outs = o2) : wGoes KT tb tyl ot FS gA gB n0 mA mB WA WB kA kB dpA dpB e2 o2 := by
  subst he
  subst ho
  exact h
def dP {α β : Type} (a : DecidableEq α) (b : DecidableEq β) : DecidableEq (α × β) := @instDecidableEqProd _ _ a b
def dL {α : Type} (a : DecidableEq α) : DecidableEq (List α) := @instDecidableEqList _ a
def dN : DecidableEq Nat := inferInstance
def dO {α : Type} (a : DecidableEq α) : DecidableEq (Option α) := have : DecidableEq α := a; inferInstance
def dS {α β : Type} (a : DecidableEq α) (b : DecidableEq β) : DecidableEq (α ⊕ β) := have : DecidableEq α := a; have : DecidableEq β := b; inferInstance
def dlT : DecidableEq lT := inferInstance
def dvA : DecidableEq vA := inferInstance
def dvK : DecidableEq vK := dP inferInstance (dP inferInstance dvA)
def dRk : DecidableEq (lT × lT × lT × Nat × Nat × List Nat × Option (List (Nat × Nat))) := dP dlT (dP dlT (dP dlT (dP dN (dP dN (dP (dL dN) (dO (dL (dP dN dN))))))))
def dRc : DecidableEq vRc := dP inferInstance (dS dN (dS (dP dN (dS dN dlT)) (dP dN (dP dlT dlT))))
def vAnDec : DecidableEq vAn := dP inferInstance (dP inferInstance (dP (dL (dP inferInstance dvA)) (dP (dL dvA) (dP (dL dvK) (dP (dL dlT) (dP (dL (dP inferInstance (dP dlT (dP dlT dlT)))) (dP dRk (dL dRc))))))))
def wEdec : DecidableEq wE := dP inferInstance (dP inferInstance (dP vAnDec (dP vAnDec inferInstance)))
def wOdec : DecidableEq (List (Bool × wE)) := dL (dP inferInstance wEdec)
def wEb (a b : wE) : Bool := @decide (a = b) (wEdec a b)
def wOb (a b : List (Bool × wE)) : Bool := @decide (a = b) (wOdec a b)
theorem wEqvB {KT : vKT} {tb : XT} {tyl : List FieldType} {ot : XO Int32} {FS : List wN} {gA gB n0 mA mB : Nat} {WA WB : List (Nat × Nat)} {kA kB dpA dpB : Nat} {e e2 : wE} {outs o2 : List (Bool × wE)} (h : wGoes KT tb tyl ot FS gA gB n0 mA mB WA WB kA kB dpA dpB e outs) (he : wEb e e2 = true) (ho : wOb outs o2 = true) : wGoes KT tb tyl ot FS gA gB n0 mA mB WA WB kA kB dpA dpB e2 o2 := wEqv h (@of_decide_eq_true _ (wEdec e e2) he) (@of_decide_eq_true _ (wOdec outs o2) ho)
theorem wDp {KT : vKT} {tb : XT} {tyl : List FieldType} {ot : XO Int32} {FS : List wN} {gA gB n0 mA mB : Nat} {WA WB : List (Nat × Nat)} {kA kB dpA dpB dA dB : Nat} {e : wE} {outs : List (Bool × wE)} (h : wGoes KT tb tyl ot FS gA gB n0 mA mB WA WB kA kB dpA dpB e outs) (a : dpA ≤ dA) (b : dpB ≤ dB) : wGoes KT tb tyl ot FS gA gB n0 mA mB WA WB kA kB dA dB e outs :=
  fun qA qB eA eB BA BB h1 h2 h3 h4 => h qA qB eA eB BA BB h1 h2 (Nat.le_trans a h3) (Nat.le_trans b h4)
end XGq
