/-! The law's loop, checked: where it asks the script, a way is cut and goes on. -/
noncomputable section XLaw
/-- the head of the loop comes to what is asked -/
def vHdOk (KT : vKT) (tb : XT) (tyl : List FieldType) (ot : XO Int32) (W : List (Nat × Nat)) (ty0 : Nat → Option Nat) (H0 : List (XC Int32)) (B dp hd : Nat) (s : vSt) (ρ : Nat → Int) (σ : Nat → Nat) (g0 : List (Nat × vA) → List vA → vSt → lT → lT → Bool) (Post : Option (XV Int32) → List (XC Int32) → Prop) : Prop :=
  ∀ ρ2 σ2 ty2 H2 s2 L S cn sn Lc cn2 sn2, vExt s s2 ρ ρ2 σ σ2 → vAt KT W ty0 H0 B L s2 cn sn ρ2 σ2 ty2 H2 Lc cn2 sn2 → g0 L S s2 cn sn = true → ∃ v H3, x_To tb tyl ot dp 0 hd Lc (S.map (cv ρ2 σ2)) H2 cn2 sn2 v H3 ∧ Post v H3
def lwR (s : vSt) (av : Option vA) : Bool := match av with
  | some (.inl e) => lQ (sI s) (sC s) e (lK 1)
  | _ => false
/-- the note at the head: unknown 0: the script's length; 1: how far it is read -/
def lwOk (N : vAn) : Bool := (match aI N with
  | p0 :: p1 :: _ => decide (p1.1 = 0) && decide (p1.2 ≤ 1000000) && decide (0 ≤ p0.1)
  | _ => false) && decide ((aG N).length < 1000000) && decide (aS N = []) && (match x_lk (aL N) 3 with
  | some (.inl t) => lEq t (lSy 1)
  | _ => false) && (aC N).any (fun c => lEq c (lSub (lSy 0) (lSy 1)))
end XLaw
