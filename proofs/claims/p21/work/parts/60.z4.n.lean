/-! Graphs that call graphs: what is known beside a call, ranks behind it. -/
noncomputable section XGr
def vAe : vA → vA → Bool
  | .inl a, .inl b => lEq a b
  | .inr a, .inr b => decide (a = b)
  | _, _ => false
theorem vAe_spec : ∀ {a b : vA}, vAe a b = true → a = b
  | .inl _, .inl _, h => congrArg Sum.inl (lEq_spec h)
  | .inr _, .inr _, h => congrArg Sum.inr (of_decide_eq_true h)
  | .inl _, .inr _, h => by cases h
  | .inr _, .inl _, h => by cases h
def fKs : List vK → List vK → Bool
  | [], [] => true
  | f :: r, g :: q => Nat.beq f.1 g.1 && kyEq f.2.1 g.2.1 && vAe f.2.2 g.2.2 && fKs r q
  | _, _ => false
theorem fKs_spec : ∀ {F G : List vK}, fKs F G = true → F = G
  | [], [], _ => rfl
  | [], _ :: _, h => by cases h
  | _ :: _, [], h => by cases h
  | (a, b, c) :: r, (x, y, z) :: q, h => by
    unfold fKs at h
    simp only [Bool.and_eq_true] at h
    obtain ⟨⟨⟨h1, h2⟩, h3⟩, h4⟩ := h
    have h1 : a = x := Nat.eq_of_beq_eq_true h1
    have h2 : b = y := kyEq_spec h2
    have h3 : c = z := vAe_spec h3
    rw [h1, h2, h3, fKs_spec h4]
/-- a note with more that is known, another rank, other recipes -/
def nXf (XF : List vK) (XC : List lT) (rk : lT) (rc : List vRc) (A : vAn) : vAn := (aG A, aI A, aL A, aS A, aF A ++ XF, aC A ++ XC, aM A, (rk, aCn A, aSn A, 0, 0, [], none), rc)
def wRl (XA XB : List vK) (XC : List lT) (rk : lT) (rA rB : List vRc) (e : wE) : wE := (wQA e, wQB e, nXf XA XC rk rA (wNA e), nXf XB [] (lK 0) rB (wNB e), wUs e)
theorem nXf_to {KT : vKT} {ρ : Nat → Int} {σ : Nat → Nat} {ty : Nat → Option Nat} {H : List (XC Int32)} {XF : List vK} {XC : List lT} {rk : lT} {rc : List vRc} {A : vAn} (h : vRel KT ρ σ ty H (aSt (nXf XF XC rk rc A))) : vRel KT ρ σ ty H (aSt A) ∧ (∀ f ∈ XF, vHolds ρ σ H f) ∧ ∀ c ∈ XC, 0 ≤ lEv ρ c :=
  ⟨⟨h.1, h.2.1, fun f hf => h.2.2.1 f (List.mem_append.mpr (Or.inl hf)), h.2.2.2.1, fun c hc => h.2.2.2.2.1 c (List.mem_append.mpr (Or.inl hc)), h.2.2.2.2.2.1, h.2.2.2.2.2.2.1, h.2.2.2.2.2.2.2⟩, fun f hf => h.2.2.1 f (List.mem_append.mpr (Or.inr hf)), fun c hc => h.2.2.2.2.1 c (List.mem_append.mpr (Or.inr hc))⟩
theorem nXf_of {KT : vKT} {ρ : Nat → Int} {σ : Nat → Nat} {ty : Nat → Option Nat} {H : List (XC Int32)} {XF : List vK} {XC : List lT} {rk : lT} {rc : List vRc} {A : vAn} (h : vRel KT ρ σ ty H (aSt A)) (h1 : ∀ f ∈ XF, vHolds ρ σ H f) (h2 : ∀ c ∈ XC, 0 ≤ lEv ρ c) : vRel KT ρ σ ty H (aSt (nXf XF XC rk rc A)) :=
  ⟨h.1, h.2.1, fun f hf => (List.mem_append.mp hf).elim (h.2.2.1 f) (h1 f), h.2.2.2.1, fun c hc => (List.mem_append.mp hc).elim (h.2.2.2.2.1 c) (h2 c), h.2.2.2.2.2.1, h.2.2.2.2.2.2.1, h.2.2.2.2.2.2.2⟩
def wRlk (n0 mA mB : Nat) (WA WB : List (Nat × Nat)) (XA XB : List vK) (XC : List lT) (rk : lT) (e : wE) : Bool := XC.all (lBd n0) && XA.all (fBd n0 mA) && XB.all (fBd n0 mB) && fKs (fCal WA (aG (wNA e)) XA) XA && fKs (fCal WB (aG (wNB e)) XB) XB && lBd n0 rk && lGe (sI (aSt (nXf XA XC rk [] (wNA e)))) (sC (aSt (nXf XA XC rk [] (wNA e)))) rk
/-- the same graph, where more is known of what it leaves as it was -/
theorem wReL {KT : vKT} {tb : XT} {tyl : List FieldType} {ot : XO Int32} {FS : List wN} {gA gB n0 mA mB : Nat} {WA WB : List (Nat × Nat)} {kA kB dpA dpB : Nat} {e : wE} {outs : List (Bool × wE)} (h : wGoes KT tb tyl ot FS gA gB n0 mA mB WA WB kA kB dpA dpB e outs) {XA XB : List vK} {XC : List lT} {rk : lT} {rA rB : List vRc} (hk : wRlk n0 mA mB WA WB XA XB XC rk e = true) :
    wGoes KT tb tyl ot FS gA gB n0 mA mB WA WB kA kB dpA dpB (wRl XA XB XC (lAdd rk (lK 1)) rA rB e) (outs.map (fun o => (true, wRl XA XB XC rk [] [] o.2))) := by
  unfold wRlk at hk
  simp only [Bool.and_eq_true] at hk
  obtain ⟨⟨⟨⟨⟨⟨k1, k2⟩, k3⟩, k4⟩, k5⟩, k6⟩, k7⟩ := hk
  have k4 := fKs_spec k4
  have k5 := fKs_spec k5
  intro qA qB dA dB BA BB hqA hqB hdA hdB hBA hBB c LA LB a1 a2 b1 b2 hat R hout
  obtain ⟨h1, h2, h3, h4, h5⟩ := hat
  obtain ⟨h1, xA, xC⟩ := nXf_to h1
  obtain ⟨h2, xB, -⟩ := nXf_to h2
  have hr : 0 ≤ lEv (cR c) rk := by
    have g := nXf_of (rk := rk) (rc := []) h1 xA xC
    exact lGe_spec g.2.2.2.1 g.2.2.2.2.1 k7
  refine h qA qB dA dB BA BB hqA hqB hdA hdB hBA hBB c LA LB a1 a2 b1 b2 ⟨h1, h2, h3, h4, h5⟩ R (fun o ho d LA2 LB2 c1 c2 d1 d2 w1 w2 w3 => ?_)
  obtain ⟨u1, u2, u3, u4, u5⟩ := w1
  obtain ⟨f1, f2, f3, f4, f5, f6, f7⟩ := w2
  have er : lEv (cR d) rk = lEv (cR c) rk := lBd_spec f1 k6
  refine hout (true, wRl XA XB XC rk [] [] o.2) (List.mem_map.mpr ⟨o, ho, rfl⟩) d LA2 LB2 c1 c2 d1 d2 ⟨nXf_of u1 (fun f hf => ?_) (fun x hx => ?_), nXf_of u2 (fun f hf => ?_) (fun x hx => by cases hx), u3, u4, u5⟩ ⟨f1, f2, f3, f4, f5, f6, f7⟩ (fun _ => ⟨?_, ?_⟩)
  · refine fBd_spec f1 f2 (List.all_eq_true.mp k2 f hf) ?_
    exact fCal_spec h1.2.1 f6 xA f (by rw [show fCal WA (sG (aSt (wNA e))) XA = XA from k4]; exact hf)
  · rw [lBd_spec f1 (List.all_eq_true.mp k1 x hx)]
    exact xC x hx
  · refine fBd_spec f1 f3 (List.all_eq_true.mp k3 f hf) ?_
    exact fCal_spec h2.2.1 f7 xB f (by rw [show fCal WB (sG (aSt (wNB e))) XB = XB from k5]; exact hf)
  · show 0 ≤ lEv (cR d) rk
    omega
  · show lEv (cR d) rk < lEv (cR c) (lAdd rk (lK 1))
    rw [lAdd_ev, lK_ev]
    omega
/-- other families that aren't spoken of -/
theorem wFSr {KT : vKT} {tb : XT} {tyl : List FieldType} {ot : XO Int32} {FS FS2 : List wN} {gA gB n0 mA mB : Nat} {WA WB : List (Nat × Nat)} {kA kB dpA dpB : Nat} {e : wE} {outs : List (Bool × wE)} (h : wGoes KT tb tyl ot FS gA gB n0 mA mB WA WB kA kB dpA dpB e outs) {nh : Nat} (hp : ∀ i, i < nh → FS2[i]? = FS[i]?) (hl : FS2.length ≤ nh) (he : (wUs e).all (fun i => decide (i < nh)) = true) : wGoes KT tb tyl ot FS2 gA gB n0 mA mB WA WB kA kB dpA dpB e outs := by
  intro qA qB dA dB BA BB hqA hqB hdA hdB hBA hBB c LA LB a1 a2 b1 b2 hat R hout
  obtain ⟨h1, h2, h3, h4, h5⟩ := hat
  refine h qA qB dA dB BA BB hqA hqB hdA hdB hBA hBB c LA LB a1 a2 b1 b2 ⟨h1, h2, h3, h4, fun i hi u hu => ?_⟩ R (fun o ho d LA2 LB2 c1 c2 d1 d2 w1 w2 w3 => ?_)
  · refine h5 i hi u ?_
    rw [hp i (of_decide_eq_true (List.all_eq_true.mp he i hi))]
    exact hu
  · obtain ⟨u1, u2, u3, u4, u5⟩ := w1
    refine hout o ho d LA2 LB2 c1 c2 d1 d2 ⟨u1, u2, u3, u4, fun i hi u hu => u5 i hi u ?_⟩ w2 w3
    rw [← hp i (by have := (List.getElem?_eq_some_iff.mp hu).1; omega)]
    exact hu
end XGr
