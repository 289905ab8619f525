/-! The evaluator's way doesn't depend on what the unknowns are. -/
section XIndep
variable {E K : Type} (e1 e2 : E → Int32) (h1 h2 : K → Prop) (a : Int32 → E) (b : Nat → E → E → E) (c : Nat → E → E) (k : E → Option Int32) (r : Nat → E → E → List K → (List K → XR K) → (List K → XR K) → XR K)
theorem x_i_ixs : x_ixs (e1, a, b, c, k, h1, r) = x_ixs (e2, a, b, c, k, h2, r) := by
  funext x kk n
  induction n with
  | zero => rfl
  | succ n ih =>
    funext w
    show dBr (e1, a, b, c, k, h1, r) 0 x _ w (fun w2 => kk n w2) (fun w2 => x_ixs (e1, a, b, c, k, h1, r) x kk n w2) = dBr (e2, a, b, c, k, h2, r) 0 x _ w (fun w2 => kk n w2) (fun w2 => x_ixs (e2, a, b, c, k, h2, r) x kk n w2)
    rw [ih]
theorem x_i_ix : x_ix (e1, a, b, c, k, h1, r) = x_ix (e2, a, b, c, k, h2, r) := by
  funext x n w kk
  unfold x_ix
  rw [x_i_ixs e1 e2 h1 h2]
theorem x_i_sw : x_sw (e1, a, b, c, k, h1, r) = x_sw (e2, a, b, c, k, h2, r) := by
  funext x dflt kk ps
  induction ps with
  | nil => rfl
  | cons q ps ih =>
    funext w
    show (if (Int32.ofInt q.1).toInt = q.1 then dBr (e1, a, b, c, k, h1, r) 0 x _ w (fun w2 => kk q.2 w2) (fun w2 => x_sw (e1, a, b, c, k, h1, r) x dflt kk ps w2) else [w]) = (if (Int32.ofInt q.1).toInt = q.1 then dBr (e2, a, b, c, k, h2, r) 0 x _ w (fun w2 => kk q.2 w2) (fun w2 => x_sw (e2, a, b, c, k, h2, r) x dflt kk ps w2) else [w])
    rw [ih]
theorem x_i_def : x_def (e1, a, b, c, k, h1, r) = x_def (e2, a, b, c, k, h2, r) := by
  funext t
  cases t <;> rfl
theorem x_i_fit : x_fit (e1, a, b, c, k, h1, r) = x_fit (e2, a, b, c, k, h2, r) := by
  funext t v
  cases t <;> cases v <;> rfl
theorem x_i_ret : x_retOk (e1, a, b, c, k, h1, r) = x_retOk (e2, a, b, c, k, h2, r) := by
  funext t v
  rcases t with _ | t
  · cases v <;> rfl
  · cases t <;> cases v <;> rfl
theorem x_i_ov : x_ov (e1, a, b, c, k, h1, r) = x_ov (e2, a, b, c, k, h2, r) := by
  funext v
  cases v <;> rfl
set_option maxHeartbeats 4000000 in
set_option maxRecDepth 20000 in
theorem x_indep (tb : XT) (tyl : List FieldType) (ot : XO E) : ∀ f : Nat, x_run (e1, a, b, c, k, h1, r) tb tyl ot f = x_run (e2, a, b, c, k, h2, r) tb tyl ot f := by
  intro f
  induction f with
  | zero => rfl
  | succ f ih =>
    funext dp m pc L S h cn sn w post
    rw [x_run.eq_def, x_run.eq_def (e2, a, b, c, k, h2, r)]
    dsimp only
    rw [ih, x_i_ix e1 e2 h1 h2, x_i_sw e1 e2 h1 h2, x_i_def e1 e2 h1 h2, x_i_fit e1 e2 h1 h2, x_i_ret e1 e2 h1 h2, x_i_ov e1 e2 h1 h2]
end XIndep
