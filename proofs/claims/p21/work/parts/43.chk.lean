/-! The checker, and that it is right. -/
noncomputable section XChk
theorem x_n41 : ((some 4 : Option Nat) = some 1) = False := eq_false (by decide)
theorem x_n42 : ((some 4 : Option Nat) = some 2) = False := eq_false (by decide)
theorem x_n43 : ((some 4 : Option Nat) = some 3) = False := eq_false (by decide)
theorem xT_absY {tb : XT} {tyl : List FieldType} {ot : XO Int32} {dp k pc n cn sn ix : Nat} {q : XM} {L : List (Nat × XV Int32)} {S : List (XV Int32)} {H H2 : List (XC Int32)} {v : Option (XV Int32)} {a : Int32} (hq : tMth tb k = some q) (hi : mC q pc = some (.invokestatic ix, n)) (h0 : tCal tb (mO q) ix = none) (h1 : tBi tb (mO q) ix = some 4) (h2 : (decide (S.length ≤ 8) && decide (cn ≤ mMc q) && decide (sn ≤ mMs q)) = true) (h3 : x_cmp 3 a 0 = true) (h : x_To tb tyl ot dp k (pc + 3) L (.inl a :: S) H cn sn v H2) : x_To tb tyl ot dp k pc L (.inl a :: S) H cn sn v H2 := x_to1 (fun f w post => by
  simp only [x_run, hq, hi, h0, h1, h2, if_true, dC_br, show x_cmp 3 a (dKc dC 0) = true from h3, Bool.false_eq_true, if_false, x_n41, x_n42, x_n43]) h
theorem xT_absN {tb : XT} {tyl : List FieldType} {ot : XO Int32} {dp k pc n cn sn ix : Nat} {q : XM} {L : List (Nat × XV Int32)} {S : List (XV Int32)} {H H2 : List (XC Int32)} {v : Option (XV Int32)} {a : Int32} (hq : tMth tb k = some q) (hi : mC q pc = some (.invokestatic ix, n)) (h0 : tCal tb (mO q) ix = none) (h1 : tBi tb (mO q) ix = some 4) (h2 : (decide (S.length ≤ 8) && decide (cn ≤ mMc q) && decide (sn ≤ mMs q)) = true) (h3 : x_cmp 3 a 0 = false) (h : x_To tb tyl ot dp k (pc + 3) L (.inl (x_bin 1 0 a) :: S) H cn sn v H2) : x_To tb tyl ot dp k pc L (.inl a :: S) H cn sn v H2 := x_to1 (fun f w post => by
  simp only [x_run, hq, hi, h0, h1, h2, if_true, dC_br, show x_cmp 3 a (dKc dC 0) = false from h3, Bool.false_eq_true, if_false, x_n41, x_n42, x_n43]
  rfl) h
theorem cv_lK (ρ : Nat → Int) (σ : Nat → Nat) (x : Int32) : cv ρ σ (.inl (lK x.toInt)) = .inl x := by
  show (Sum.inl (Int32.ofInt (lEv ρ (lK x.toInt))) : XV Int32) = _
  rw [lK_ev, Int32.ofInt_toInt]
/-- an unknown that is known by its bounds -/
def lNm (I : lI) (l : lT) : lT := match l.2 with
  | [p] => match iLk I p.1 with
    | some q => if iE q.1 q.2 = true then lK (l.1 + p.2 * q.1) else l
    | none => l
  | _ => l
theorem lNm_ev {ρ : Nat → Int} {I : lI} (hI : iHd ρ I) (l : lT) : lEv ρ (lNm I l) = lEv ρ l := by
  unfold lNm
  split
  · rename_i p hp
    split
    · rename_i q hq
      split
      · rename_i he
        have he := iE_spec he
        have h := iLk_spec hI hq
        have e : ρ p.1 = q.1 := by omega
        rw [lK_ev]
        show _ = l.1 + lS ρ l.2
        rw [hp]
        show _ = l.1 + (p.2 * ρ p.1 + 0)
        rw [e]
        omega
      · rfl
    · rfl
  · rfl
/-- locals, stack, cells and slots name older unknowns alone -/
def vFr (L : List (Nat × vA)) (r : List vA) (cn sn : lT) (s : vSt) : Bool := L.all (fun q => vBd (sN s) (sG s).length q.2) && r.all (vBd (sN s) (sG s).length) && lBd (sN s) cn && lBd (sN s) sn
def vFrP (L : List (Nat × vA)) (r : List vA) (cn sn : lT) (ρ : Nat → Int) (σ : Nat → Nat) (ρ2 : Nat → Int) (σ2 : Nat → Nat) : Prop := (∀ Lc, vCov ρ σ L Lc → vCov ρ2 σ2 L Lc) ∧ r.map (cv ρ2 σ2) = r.map (cv ρ σ) ∧ lEv ρ2 cn = lEv ρ cn ∧ lEv ρ2 sn = lEv ρ sn
theorem vFrP_rf (L : List (Nat × vA)) (r : List vA) (cn sn : lT) (ρ : Nat → Int) (σ : Nat → Nat) : vFrP L r cn sn ρ σ ρ σ := ⟨fun _ h => h, rfl, rfl, rfl⟩
theorem vFr_spec {s s2 : vSt} {ρ ρ2 : Nat → Int} {σ σ2 : Nat → Nat} (g : vExt s s2 ρ ρ2 σ σ2) {L : List (Nat × vA)} {r : List vA} {cn sn : lT} (hk : vFr L r cn sn s = true) : vFrP L r cn sn ρ σ ρ2 σ2 := by
  unfold vFr at hk
  simp only [Bool.and_eq_true] at hk
  obtain ⟨⟨⟨k1, k2⟩, k3⟩, k4⟩ := hk
  exact ⟨fun Lc h => vBd_loc g.1 g.2.1 k1 h, vBd_list g.1 g.2.1 k2, lBd_spec g.1 k3, lBd_spec g.1 k4⟩
/-- a rest of what is less -/
def vLs (o : Nat) (a b : lT) (s : vSt) : Bool := Nat.beq o 9 && b.2.isEmpty && lFit (sI s) a && lFit (sI s) b && lGe (sI s) (sC s) a && lGe (sI s) (sC s) (lSub (lSub b (lK 1)) a)
def vBinF (L : List (Nat × vA)) (r : List vA) (cn sn : lT) (o : Nat) (a b : lT) (s : vSt) (kk : vSt → lT → Bool) : Bool := if vLs o a b s = true then kk s a else match vLin o a b with
  | some t => if lFit (sI s) t then kk s t else vFr L r cn sn s && vNew o a b s kk
  | none => vFr L r cn sn s && vNew o a b s kk
theorem vBinF_spec {KT : vKT} {ρ : Nat → Int} {σ : Nat → Nat} {ty : Nat → Option Nat} {H : List (XC Int32)} {s : vSt} (h : vRel KT ρ σ ty H s) {L : List (Nat × vA)} {r : List vA} {cn sn : lT} {o : Nat} {a b : lT} {kk : vSt → lT → Bool} (hk : vBinF L r cn sn o a b s kk = true) :
    ∃ ρ2 s2 t, vExt s s2 ρ ρ2 σ σ ∧ vRel KT ρ2 σ ty H s2 ∧ x_bin o (Int32.ofInt (lEv ρ a)) (Int32.ofInt (lEv ρ b)) = Int32.ofInt (lEv ρ2 t) ∧ vFrP L r cn sn ρ σ ρ2 σ ∧ kk s2 t = true := by
  have nw : (vFr L r cn sn s && vNew o a b s kk) = true → ∃ ρ2 s2 t, vExt s s2 ρ ρ2 σ σ ∧ vRel KT ρ2 σ ty H s2 ∧ x_bin o (Int32.ofInt (lEv ρ a)) (Int32.ofInt (lEv ρ b)) = Int32.ofInt (lEv ρ2 t) ∧ vFrP L r cn sn ρ σ ρ2 σ ∧ kk s2 t = true := fun hk => by
    have hk2 := Bool.and_eq_true_iff.mp hk
    obtain ⟨ρ2, s2, t, g1, g2, g3, g4⟩ := vNew_spec h hk2.2
    exact ⟨ρ2, s2, t, g1, g2, g3, vFr_spec g1 hk2.1, g4⟩
  unfold vBinF at hk
  split at hk
  · rename_i hl
    unfold vLs at hl
    simp only [Bool.and_eq_true] at hl
    obtain ⟨⟨⟨⟨⟨l1, l2⟩, l3⟩, l4⟩, l5⟩, l6⟩ := hl
    have l1 := Nat.eq_of_beq_eq_true l1
    subst l1
    have a1 := lFit_spec h.2.2.2.1 l3
    have a2 := lFit_spec h.2.2.2.1 l4
    have a3 := lGe_spec h.2.2.2.1 h.2.2.2.2.1 l5
    have a4 := lGe_spec h.2.2.2.1 h.2.2.2.2.1 l6
    rw [lSub_ev, lSub_ev, lK_ev] at a4
    exact ⟨ρ, s, a, vExt_rf s ρ σ, h, x_mod_lt (by rw [a1]; exact a3) (by rw [a1, a2]; omega), vFrP_rf L r cn sn ρ σ, hk⟩
  split at hk
  · rename_i t ht
    split at hk
    · exact ⟨ρ, s, t, vExt_rf s ρ σ, h, vLin_spec ρ ht, vFrP_rf L r cn sn ρ σ, hk⟩
    · exact nw hk
  · exact nw hk
def vRdF (L : List (Nat × vA)) (r : List vA) (cn sn : lT) (f : vF) (i : Nat) (key : Nat ⊕ lT) (nn : Bool) (s : vSt) (kk : vSt → vA → Bool) : Bool := match fGet i key (sF s) with
  | some v => kk s v
  | none => vFr L r cn sn s && vRd f i key nn s kk
theorem vRdF_spec {KT : vKT} {ρ : Nat → Int} {σ : Nat → Nat} {ty : Nat → Option Nat} {H : List (XC Int32)} {s : vSt} (h : vRel KT ρ σ ty H s) {L : List (Nat × vA)} {r : List vA} {cn sn : lT} {f : vF} {i : Nat} {key : Nat ⊕ lT} {nn : Bool} {u : XV Int32} (hp : vPlace ρ σ H i key u) (hu : vFit ty f u) (hnn : nn = true → u ≠ .inr none) {kk : vSt → vA → Bool} (hk : vRdF L r cn sn f i key nn s kk = true) :
    ∃ ρ2 σ2 s2 v, vExt s s2 ρ ρ2 σ σ2 ∧ vRel KT ρ2 σ2 ty H s2 ∧ cv ρ2 σ2 v = u ∧ vFrP L r cn sn ρ σ ρ2 σ2 ∧ kk s2 v = true := by
  unfold vRdF at hk
  split at hk
  · rename_i v hv
    exact ⟨ρ, σ, s, v, vExt_rf s ρ σ, h, vPlace_one (fGet_spec h.2.2.1 hv) hp, vFrP_rf L r cn sn ρ σ, hk⟩
  · have hk2 := Bool.and_eq_true_iff.mp hk
    obtain ⟨ρ2, σ2, s2, v, g1, g2, g3, g4⟩ := vRd_spec h hp hu hnn hk2.2
    exact ⟨ρ2, σ2, s2, v, g1, g2, g3, vFr_spec g1 hk2.1, g4⟩
/-- as many at most -/
def cOk (s : vSt) (cn : lT) (mx : Nat) : Bool := lGe (sI s) (sC s) (lSub (lK (mx : Int)) cn)
theorem cOk_spec {KT : vKT} {ρ : Nat → Int} {σ : Nat → Nat} {ty : Nat → Option Nat} {H : List (XC Int32)} {s : vSt} (h : vRel KT ρ σ ty H s) {cn : lT} {mx n : Nat} (hn : (n : Int) ≤ lEv ρ cn) (hk : cOk s cn mx = true) : n ≤ mx := by
  have h1 := lGe_spec h.2.2.2.1 h.2.2.2.2.1 hk
  rw [lSub_ev, lK_ev] at h1
  omega
def vB01 (e : lT) (s : vSt) : Bool := lFit (sI s) e && lGe (sI s) (sC s) e && lGe (sI s) (sC s) (lSub (lK 1) e)
theorem vB01_spec {KT : vKT} {ρ : Nat → Int} {σ : Nat → Nat} {ty : Nat → Option Nat} {H : List (XC Int32)} {s : vSt} (h : vRel KT ρ σ ty H s) {e : lT} (hk : vB01 e s = true) : Int32.ofInt (lEv ρ e) = 0 ∨ Int32.ofInt (lEv ρ e) = 1 := by
  unfold vB01 at hk
  simp only [Bool.and_eq_true] at hk
  obtain ⟨⟨k1, k2⟩, k3⟩ := hk
  have k2 := lGe_spec h.2.2.2.1 h.2.2.2.2.1 k2
  have k3 := lGe_spec h.2.2.2.1 h.2.2.2.2.1 k3
  rw [lSub_ev, lK_ev] at k3
  by_cases c : lEv ρ e = 0
  · exact Or.inl (by rw [c]; rfl)
  · exact Or.inr (by rw [show lEv ρ e = 1 by omega]; rfl)
theorem vB01_fit {KT : vKT} {ρ : Nat → Int} {σ : Nat → Nat} {ty : Nat → Option Nat} {H : List (XC Int32)} {s : vSt} (h : vRel KT ρ σ ty H s) {e : lT} (hk : vB01 e s = true) : x_fit dC .boolean (.inl (Int32.ofInt (lEv ρ e))) = true := by
  show (decide (Int32.ofInt (lEv ρ e) = 0) || decide (Int32.ofInt (lEv ρ e) = 1)) = true
  rcases vB01_spec h hk with e1 | e1
  · rw [e1]
    rfl
  · rw [e1]
    rfl
def vTyp (t : FieldType) (v : vA) (s : vSt) : Bool := match t, v with
  | .int, .inl _ => true
  | .boolean, .inl e => vB01 e s
  | .object _, .inr _ => true
  | .array _, .inr _ => true
  | _, _ => false
theorem vTyp_spec {KT : vKT} {ρ : Nat → Int} {σ : Nat → Nat} {ty : Nat → Option Nat} {H : List (XC Int32)} {s : vSt} (h : vRel KT ρ σ ty H s) {t : FieldType} {v : vA} (hk : vTyp t v s = true) : x_fit dC t (cv ρ σ v) = true := by
  unfold vTyp at hk
  split at hk
  · rfl
  · exact vB01_fit h hk
  · rename_i c o
    rcases o with _ | i <;> rfl
  · rename_i c o
    rcases o with _ | i <;> rfl
  · cases hk
def vRt (m : Option FieldType) (e : lT) (s : vSt) : Bool := match m with
  | some .int => true
  | some .boolean => vB01 e s
  | some .byte => lFit (sI s) e && lGe (sI s) (sC s) (lSub e (lK (-128))) && lGe (sI s) (sC s) (lSub (lK 127) e)
  | some .char => lFit (sI s) e && lGe (sI s) (sC s) e && lGe (sI s) (sC s) (lSub (lK 65535) e)
  | _ => false
theorem vRt_spec {KT : vKT} {ρ : Nat → Int} {σ : Nat → Nat} {ty : Nat → Option Nat} {H : List (XC Int32)} {s : vSt} (h : vRel KT ρ σ ty H s) {m : Option FieldType} {e : lT} (hk : vRt m e s = true) : x_retOk dC m (.inl (Int32.ofInt (lEv ρ e))) = true := by
  unfold vRt at hk
  split at hk
  · rfl
  · show (decide (Int32.ofInt (lEv ρ e) = 0) || decide (Int32.ofInt (lEv ρ e) = 1)) = true
    rcases vB01_spec h hk with e1 | e1
    · rw [e1]
      rfl
    · rw [e1]
      rfl
  · simp only [Bool.and_eq_true] at hk
    obtain ⟨⟨k1, k2⟩, k3⟩ := hk
    have k1 := lFit_spec h.2.2.2.1 k1
    have k2 := lGe_spec h.2.2.2.1 h.2.2.2.2.1 k2
    have k3 := lGe_spec h.2.2.2.1 h.2.2.2.2.1 k3
    rw [lSub_ev, lK_ev] at k2 k3
    refine decide_eq_true (Int32.toInt_inj.mp ?_)
    rw [Int8.toInt_toInt32, Int32.toInt_toInt8, k1]
    exact Int.bmod_eq_of_le (by simp; omega) (by simp; omega)
  · simp only [Bool.and_eq_true] at hk
    obtain ⟨⟨k1, k2⟩, k3⟩ := hk
    have k2 := lGe_spec h.2.2.2.1 h.2.2.2.2.1 k2
    have k3 := lGe_spec h.2.2.2.1 h.2.2.2.2.1 k3
    rw [lSub_ev, lK_ev] at k3
    generalize lEv ρ e = n at k2 k3
    obtain ⟨k, rfl⟩ : ∃ k : Nat, n = (k : Int) := ⟨n.toNat, by omega⟩
    refine decide_eq_true ?_
    have h3 : ∀ x : UInt32, x.toNat < 65536 → (x % 65536) = x := fun x hx => UInt32.toNat_inj.mp (by
      rw [UInt32.toNat_mod]
      exact Nat.mod_eq_of_lt hx)
    rw [h3]
    · rfl
    · have e2 : (Int32.ofInt (k : Int)).toInt = (k : Int) := ofInt_toInt (by omega) (by omega)
      have e3 := x_nn (x := Int32.ofInt (k : Int)) (by omega)
      show (Int32.ofInt (k : Int)).toBitVec.toNat < 65536
      omega
  · cases hk
def vSw (a : lT) (df : Int) (kk : Int → vSt → Bool) : List (Int × Int) → vSt → Bool
  | [], s => kk df s
  | q :: r, s => vBr 0 a (lK (Int32.ofInt q.1).toInt) s (fun s2 => kk q.2 s2) (fun s2 => vSw a df kk r s2)
theorem vSw_spec {KT : vKT} {ρ : Nat → Int} {σ : Nat → Nat} {ty : Nat → Option Nat} {H : List (XC Int32)} {a : lT} {df : Int} {kk : Int → vSt → Bool} : ∀ (ps : List (Int × Int)) {s : vSt}, vRel KT ρ σ ty H s → vSw a df kk ps s = true → ∃ s2, vRel KT ρ σ ty H s2 ∧ vSame0 s s2 ∧ kk (x_swo (Int32.ofInt (lEv ρ a)) df ps) s2 = true
  | [], s, h, hk => ⟨s, h, vSame0_rf s, hk⟩
  | q :: r, s, h, hk => by
    obtain ⟨s2, g0, g1, g2⟩ := vBr_spec h hk
    rw [lK_ev, Int32.ofInt_toInt] at g2
    rcases g2 with ⟨e, g2⟩ | ⟨e, g2⟩
    · refine ⟨s2, g0, g1, ?_⟩
      have e2 : Int32.ofInt (lEv ρ a) = Int32.ofInt q.1 := of_decide_eq_true e
      show kk (if Int32.ofInt (lEv ρ a) = Int32.ofInt q.1 then q.2 else x_swo (Int32.ofInt (lEv ρ a)) df r) s2 = true
      rw [if_pos e2]
      exact g2
    · have e2 : ¬ Int32.ofInt (lEv ρ a) = Int32.ofInt q.1 := of_decide_eq_false e
      obtain ⟨s3, k0, k1, k2⟩ := vSw_spec r g0 g2
      refine ⟨s3, k0, vSame0_tr g1 k1, ?_⟩
      show kk (if Int32.ofInt (lEv ρ a) = Int32.ofInt q.1 then q.2 else x_swo (Int32.ofInt (lEv ρ a)) df r) s3 = true
      rw [if_neg e2]
      exact k2
/-- what is asked of what lies outside -/
abbrev vOt : Type := (Nat → Nat → Option Nat) × (Nat → Nat → Nat → Option (Int32 ⊕ Option Nat)) × (Nat → Nat → Option (Int32 ⊕ Option Nat)) × (Nat → Option (List Int32)) × (Nat → Option Nat)
def o4 (ot : XO Int32) : vOt := (oSl ot, oFl ot, oGs ot, oBy ot, oCl ot)
def vCls (KT : vKT) (ov : vOt) (a ci : Nat) (s : vSt) : Bool := if 1000000 < a then decide (ov.2.2.2.2 a = some ci) else match (sG s)[a]? with
  | some c => match KT.1[c]? with
    | some (.inl o) => decide (o.1 = ci)
    | _ => false
  | none => false
/-- less is asked -/
def vOvLe (v w : vOt) : Prop := (∀ a b c, v.1 a b = some c → w.1 a b = some c) ∧ (∀ a b c d, v.2.1 a b c = some d → w.2.1 a b c = some d) ∧ (∀ a b d, v.2.2.1 a b = some d → w.2.2.1 a b = some d) ∧ (∀ a d, v.2.2.2.1 a = some d → w.2.2.2.1 a = some d) ∧ ∀ a d, v.2.2.2.2 a = some d → w.2.2.2.2 a = some d
theorem vOvLe_rf (v : vOt) : vOvLe v v := ⟨fun _ _ _ h => h, fun _ _ _ _ h => h, fun _ _ _ h => h, fun _ _ h => h, fun _ _ h => h⟩
theorem vCls_spec {KT : vKT} {ρ : Nat → Int} {σ : Nat → Nat} {ty : Nat → Option Nat} {H : List (XC Int32)} {s : vSt} {ot : XO Int32} {ov : vOt} (hov : vOvLe ov (o4 ot)) (h : vRel KT ρ σ ty H s) (hl : H.length ≤ 1000000) {a ci : Nat} (hk : vCls KT ov a ci s = true) : x_rc ot H (sR σ a) = some ci := by
  unfold vCls at hk
  split at hk
  · rename_i hb
    have e0 : sR σ a = a := if_neg (by omega)
    unfold x_rc
    rw [e0, if_pos hb]
    exact hov.2.2.2.2 _ _ (of_decide_eq_true hk)
  split at hk
  · rename_i c hc
    split at hk
    · rename_i o ho
      have ha := h.2.1 a c hc
      obtain ⟨fs, f1, -, -⟩ := vHp_obj h.1 ha ho
      have hlt := vHp_lt h.1 ha
      unfold x_rc
      rw [if_neg (by omega), f1]
      exact congrArg some (of_decide_eq_true hk)
    · cases hk
  · cases hk
/-- what lies outside, as a value -/
def vOv : Int32 ⊕ Option Nat → Option vA
  | .inl x => some (.inl (lK x.toInt))
  | .inr none => some (.inr none)
  | .inr (some b) => if 1000000 ≤ b then some (.inr (some b)) else none
theorem vOv_spec (ρ : Nat → Int) (σ : Nat → Nat) {u : Int32 ⊕ Option Nat} {v : vA} (h : vOv u = some v) : cv ρ σ v = x_ov dC u := by
  rcases u with x | (_ | b)
  · cases h
    exact cv_lK ρ σ x
  · cases h
    rfl
  · unfold vOv at h
    dsimp only at h
    split at h
    · rename_i hb
      cases h
      exact congrArg (fun z => Sum.inr (some z)) (if_neg (by omega))
    · cases h
/-- what a new object's fields hold -/
def vDefs : List (FieldType × Bool) → List vF → Bool
  | [], [] => true
  | t :: r, f :: g => (match f with
    | .inl p => decide (p.1 ≤ 0) && decide (0 ≤ p.2) && !(x_isRef t.1)
    | .inr q => q.1 && x_isRef t.1) && vDefs r g
  | _, _ => false
theorem vDefs_at {ty : Nat → Option Nat} : ∀ {ts : List (FieldType × Bool)} {fl : List vF}, vDefs ts fl = true → ts.length = fl.length ∧ ∀ (j : Nat) (f : vF) (u : XV Int32), fl[j]? = some f → (ts.map (fun t => x_def dC t.1))[j]? = some u → vFit ty f u
  | [], [], _ => ⟨rfl, fun j f u h => by cases h⟩
  | [], _ :: _, h => by cases h
  | _ :: _, [], h => by cases h
  | t :: r, f :: g, h => by
    have h2 := Bool.and_eq_true_iff.mp h
    obtain ⟨e, ih⟩ := vDefs_at (ty := ty) h2.2
    refine ⟨congrArg (· + 1) e, fun j f2 u hf hu => ?_⟩
    rcases j with _ | j
    · cases hf
      cases hu
      have h3 := h2.1
      obtain ⟨t, b⟩ := t
      rcases f with p | q
      · have h4 := Bool.and_eq_true_iff.mp h3
        have h5 := Bool.and_eq_true_iff.mp h4.1
        have p1 := of_decide_eq_true h5.1
        have p2 := of_decide_eq_true h5.2
        have h6 : x_isRef t = false := by simpa using h4.2
        cases t <;> first | exact ⟨p1, p2⟩ | (cases h6; done)
      · have h4 := Bool.and_eq_true_iff.mp h3
        cases t <;> first | exact h4.1 | (cases h4.2; done)
    · exact ih j f2 u hf hu
/-- the fields of a new object -/
def vDf (n : Nat) (ts : List (FieldType × Bool)) : List vK := ts.mapIdx (fun j t => (n, .inl j, if x_isRef t.1 = true then .inr none else .inl (lK 0)))
def vMkD (KT : vKT) (c : Nat) (ts : List (FieldType × Bool)) (s : vSt) : vSt := (sN s, sG s ++ [c], vDf (sG s).length ts ++ (vApN KT c s ++ sF s), sI s, sC s, sM s, if (kRaw KT c).isSome then (sG s).length :: sRw s else sRw s)
theorem vMkD_rel {KT : vKT} {ρ : Nat → Int} {σ : Nat → Nat} {ty : Nat → Option Nat} {H : List (XC Int32)} {s : vSt} (h : vRel KT ρ σ ty H s) (hb : sBd s = true) {c ci : Nat} {kd : vKd} {ts : List (FieldType × Bool)} (hK : KT.1[c]? = some kd) (hz : vCell (vAdd ty H.length c) kd (.inl (ci, ts.map (fun t => x_def dC t.1)))) (hc : c ≠ KT.2.1.1) (hg2 : c ≠ KT.2.1.2.2.2.2) :
    ∃ σ2, vExt s (vMkD KT c ts s) ρ ρ σ σ2 ∧ vRel KT ρ σ2 (vAdd ty H.length c) (H ++ [.inl (ci, ts.map (fun t => x_def dC t.1))]) (vMkD KT c ts s) ∧ sR σ2 (sG s).length = H.length ∧ vLe ty (vAdd ty H.length c) := by
  obtain ⟨σ2, g1, g2, g3, g4⟩ := vMkA_rel h hb hK hz hc hg2
  refine ⟨σ2, g1, ⟨g2.1, g2.2.1, fun f hf => ?_, g2.2.2.2⟩, g3, g4⟩
  rcases List.mem_append.mp hf with hf | hf
  · obtain ⟨j, hj, rfl⟩ := List.mem_mapIdx.mp hf
    refine Or.inl ⟨ci, ts.map (fun t => x_def dC t.1), ?_, ?_⟩
    · show (H ++ [_])[sR σ2 (sG s).length]? = _
      rw [g3, List.getElem?_append_right (Nat.le_refl _), Nat.sub_self]
      rfl
    · rw [List.getElem?_map, List.getElem?_eq_getElem hj]
      show some (x_def dC (ts[j]).1) = some (cv ρ σ2 (if x_isRef (ts[j]).1 = true then .inr none else .inl (lK 0)))
      rcases (ts[j]).1 with _ | _ | _ | _ | _ | _ | _ | _ | _ | _ <;> first | rfl | exact congrArg some (cv_lK ρ σ2 0).symm
  · exact g2.2.2.1 f hf
theorem vDefs_cell {ty : Nat → Option Nat} {c2 : Nat} {ts : List (FieldType × Bool)} {fl : List vF} (h : vDefs ts fl = true) : vCell ty (.inl (c2, fl)) (.inl (c2, ts.map (fun t => x_def dC t.1))) := by
  obtain ⟨e, g⟩ := vDefs_at (ty := ty) h
  exact ⟨rfl, by rw [List.length_map]; exact e, g⟩
def vZero : vF → Bool
  | .inl p => decide (p.1 ≤ 0) && decide (0 ≤ p.2)
  | .inr _ => false
theorem vZero_fit {ty : Nat → Option Nat} {fl : List vF} (h : fl.all vZero = true) {j : Nat} {f : vF} (hf : vEl fl j = some f) : vFit ty f (.inl 0) := by
  have h1 := List.all_eq_true.mp h f (List.mem_of_getElem? hf)
  rcases f with p | q
  · have h2 := Bool.and_eq_true_iff.mp h1
    exact ⟨of_decide_eq_true h2.1, of_decide_eq_true h2.2⟩
  · cases h1
theorem vZero_cell {ty : Nat → Option Nat} {t m : Nat} {fl : List vF} (h : fl.all vZero = true) : vCell ty (.inr (t, m, fl)) (.inr (t, List.replicate m (.inl 0))) := by
  refine ⟨rfl, List.length_replicate, fun j f u hf hu => ?_⟩
  have hu : (List.replicate m (Sum.inl 0 : XV Int32))[j]? = some u := hu
  have e : u = .inl 0 := by
    rw [List.getElem?_replicate] at hu
    split at hu
    · cases hu
      rfl
    · cases hu
  rw [e]
  exact vZero_fit h hf
/-- the rest of a sum, for all unknowns -/
def lDv (n : Nat) (l : lT) : Bool := l.2.all (fun p => decide (p.2 % (n : Int) = 0))
theorem lDv_spec {ρ : Nat → Int} {n : Nat} {l : lT} (h : lDv n l = true) : lEv ρ l % (n : Int) = l.1 % (n : Int) := by
  have hz : ∀ r : List (Nat × Int), r.all (fun p => decide (p.2 % (n : Int) = 0)) = true → lS ρ r % (n : Int) = 0 := by
    intro r
    induction r with
    | nil => intro _; exact Int.zero_emod _
    | cons p r ih =>
      intro hp
      rw [List.all_cons] at hp
      have hp2 := Bool.and_eq_true_iff.mp hp
      have h1 : p.2 % (n : Int) = 0 := of_decide_eq_true hp2.1
      show (p.2 * ρ p.1 + lS ρ r) % (n : Int) = 0
      rw [Int.add_emod, Int.mul_emod, h1, ih hp2.2, Int.zero_mul, Int.zero_emod, Int.zero_add, Int.zero_emod]
  show (l.1 + lS ρ l.2) % _ = _
  rw [Int.add_emod, hz l.2 h, Int.add_zero, Int.emod_emod]
/-- what an element of the source is at most, by what is known or by its kind -/
def vGcR (bs : Nat) (fl : List vF) (s : vSt) (i : Nat) : Int × Int := match fGet bs (.inr (lK (i : Int))) (sF s) with
  | some (.inl x) => vR (sI s) x
  | _ => match vEl fl i with
    | some (.inl p) => p
    | _ => vTop
/-- may a line be copied so: four elements from the first on, to a group -/
def vGcQ (bs : Nat) (p o : Nat × Nat × List vF) (n d e : lT) (s : vSt) : Bool :=
  (decide (p.1 = 0) && decide (o.1 = 0) && decide (p.2.1 = 4) && lEq n (lK 4) && lEq e (lK 0) && decide (o.2.2.length = 4) && lDv 4 d && decide (d.1 % 4 = 0) && vIdx (lAdd d (lK 3)) o.2.1 s && lGe (sI s) (sC s) d && p.2.2.all Sum.isLeft && decide (p.2.2 ≠ [])) &&
  (List.range 4).all (fun i => match o.2.2[i]? with
    | some (.inl q) => decide (q.1 ≤ (vGcR bs p.2.2 s i).1) && decide ((vGcR bs p.2.2 s i).2 ≤ q.2)
    | _ => false) &&
  (decide (9 < (vGcR bs p.2.2 s 0).1) || decide ((vGcR bs p.2.2 s 1).2 ≤ 5)) && (decide (8 < (vGcR bs p.2.2 s 0).1) || decide ((vGcR bs p.2.2 s 0).2 < 4) || decide ((vGcR bs p.2.2 s 2).2 ≤ 5))
theorem vGcR_spec {KT : vKT} {ρ : Nat → Int} {σ : Nat → Nat} {ty : Nat → Option Nat} {H : List (XC Int32)} {s : vSt} (h : vRel KT ρ σ ty H s) {bs t m : Nat} {fl : List vF} {us : List (XV Int32)} (hB : H[sR σ bs]? = some (.inr (t, us))) (hel : ∀ (j : Nat) (g : vF), j < m → vEl fl j = some g → ∃ u, us[j]? = some u ∧ vFit ty g u) {i : Nat} (hi : i < m) {x : Int32} (hx : us[i]? = some (.inl x)) : vIn (vGcR bs fl s i) x := by
  unfold vGcR
  split
  · rename_i e he
    obtain ⟨t2, ws, y1, y0, y2⟩ := fGet_spec h.2.2.1 he
    have y1 : H[sR σ bs]? = some (.inr (t2, ws)) := y1
    rw [hB] at y1
    cases y1
    rw [lK_ev] at y2
    rw [show ((i : Int)).toNat = i by omega, hx] at y2
    cases y2
    exact vR_spec h.2.2.2.1 e
  · split
    · rename_i p hp
      obtain ⟨u, u1, u2⟩ := hel i _ hi hp
      rw [hx] at u1
      cases u1
      exact u2
    · exact vTop_spec x
theorem vGcQ_spec {KT : vKT} {ρ : Nat → Int} {σ : Nat → Nat} {ty : Nat → Option Nat} {H : List (XC Int32)} {s : vSt} (h : vRel KT ρ σ ty H s) {bs bd cs cd : Nat} {p o : Nat × Nat × List vF} {n d e : lT} (hcs : (sG s)[bs]? = some cs) (hcd : (sG s)[bd]? = some cd) (hp : KT.1[cs]? = some (.inr p)) (ho : KT.1[cd]? = some (.inr o)) (hg : cd = KT.2.1.2.2.2.2) (hne : cd ≠ KT.2.1.2.2.2.1) (hk : vGcQ bs p o n d e s = true) :
    ∃ us vs, H[sR σ bs]? = some (.inr (0, us)) ∧ H[sR σ bd]? = some (.inr (0, vs)) ∧ (∀ b : Bool, b = true → (decide (¬ Int32.ofInt (lEv ρ n) < 0) && decide (¬ Int32.ofInt (lEv ρ d) < 0) && decide (¬ Int32.ofInt (lEv ρ e) < 0) && decide ((Int32.ofInt (lEv ρ e)).toNatClampNeg + (Int32.ofInt (lEv ρ n)).toNatClampNeg ≤ us.length) && decide ((Int32.ofInt (lEv ρ d)).toNatClampNeg + (Int32.ofInt (lEv ρ n)).toNatClampNeg ≤ vs.length) && b && us.all (fun u => u.isLeft)) = true) ∧
      vRel KT ρ σ ty (H.set (sR σ bd) (.inr (0, vs.take (Int32.ofInt (lEv ρ d)).toNatClampNeg ++ (us.drop (Int32.ofInt (lEv ρ e)).toNatClampNeg).take (Int32.ofInt (lEv ρ n)).toNatClampNeg ++ vs.drop ((Int32.ofInt (lEv ρ d)).toNatClampNeg + (Int32.ofInt (lEv ρ n)).toNatClampNeg)))) (vCpy bd s) := by
  obtain ⟨t1, m1, f1⟩ := p
  obtain ⟨t2, m2, f2⟩ := o
  unfold vGcQ at hk
  simp only [Bool.and_eq_true] at hk
  obtain ⟨⟨⟨⟨⟨⟨⟨⟨⟨⟨⟨⟨⟨⟨k1, k2⟩, k3⟩, k4⟩, k5⟩, k6⟩, k7⟩, k8⟩, k9⟩, k10⟩, k11⟩, k12⟩, k13⟩, k14⟩, k15⟩ := hk
  have j1 : t1 = 0 := of_decide_eq_true k1
  have j2 : t2 = 0 := of_decide_eq_true k2
  have j3 : m1 = 4 := of_decide_eq_true k3
  subst j1
  subst j2
  subst j3
  have k6 : f2.length = 4 := of_decide_eq_true k6
  have k8 : d.1 % 4 = 0 := of_decide_eq_true k8
  have k12 : f1 ≠ [] := of_decide_eq_true k12
  have en : lEv ρ n = 4 := by rw [lEq_spec k4, lK_ev]
  have ee : lEv ρ e = 0 := by rw [lEq_spec k5, lK_ev]
  have hd4 : lEv ρ d % 4 = d.1 % 4 := lDv_spec (ρ := ρ) k7
  obtain ⟨x1, x2, x3, x4⟩ := vIdx_spec h k9
  rw [lAdd_ev, lK_ev] at x2 x3
  have k10 := lGe_spec h.2.2.2.1 h.2.2.2.2.1 k10
  have ha := h.2.1 bd cd hcd
  have hb := h.2.1 bs cs hcs
  obtain ⟨vs, v1, v2, v3⟩ := vHp_arr h.1 ha ho
  obtain ⟨us, u1, u2, u3⟩ := vHp_arr h.1 hb hp
  have x2 : (lEv ρ d + 3).toNat < m2 := x2
  have hbig : m2 ≤ 1000000 := by
    have := k9
    unfold vIdx at this
    simp only [Bool.and_eq_true] at this
    exact of_decide_eq_true this.1.1
  have dn : (Int32.ofInt (lEv ρ d)).toInt = lEv ρ d := ofInt_toInt (by omega) (by omega)
  have dN : (Int32.ofInt (lEv ρ d)).toNatClampNeg = (lEv ρ d).toNat := by
    show (Int32.ofInt (lEv ρ d)).toInt.toNat = _
    rw [dn]
  have nN : (Int32.ofInt (lEv ρ n)).toNatClampNeg = 4 := by rw [en]; rfl
  have eN : (Int32.ofInt (lEv ρ e)).toNatClampNeg = 0 := by rw [ee]; rfl
  obtain ⟨D, hD⟩ : ∃ D : Nat, lEv ρ d = (D : Int) := ⟨(lEv ρ d).toNat, by omega⟩
  have hD4 : D % 4 = 0 := by omega
  have hDm : D + 4 ≤ m2 := by omega
  have hisl : ∀ (j : Nat) (u : XV Int32), us[j]? = some u → u.isLeft = true := fun j u hj => by
    have hjl : j < 4 := by rw [← u2]; exact (List.getElem?_eq_some_iff.mp hj).1
    have hlt : j % f1.length < f1.length := Nat.mod_lt _ (by
      rcases f1 with _ | ⟨g, r⟩
      · exact (k12 rfl).elim
      · exact Nat.succ_pos _)
    have hel : vEl f1 j = some (f1[j % f1.length]'hlt) := List.getElem?_eq_getElem hlt
    obtain ⟨w, w1, w2⟩ := u3 j _ hjl hel
    rw [hj] at w1
    cases w1
    have w3 := List.all_eq_true.mp k11 _ (List.getElem_mem hlt)
    generalize f1[j % f1.length]'hlt = g at w2 w3
    rcases g with g | g
    · rcases u with u | (_ | u)
      · rfl
      · exact w2.elim
      · exact w2.elim
    · cases w3
  have hrng : ∀ (j : Nat) (x : Int32), j < 4 → us[j]? = some (.inl x) → vIn (vGcR bs f1 s j) x := fun j x hj hx => vGcR_spec h u1 u3 hj hx
  have hget : ∀ l : Nat, (vs.take D ++ us.take 4 ++ vs.drop (D + 4))[l]? = if l < D then vs[l]? else if l < D + 4 then us[l - D]? else vs[l]? := fun l => by
    have v2 : vs.length = m2 := v2
    have u2 : us.length = 4 := u2
    split
    · rename_i c1
      rw [List.append_assoc, List.getElem?_append_left (by rw [List.length_take]; omega), List.getElem?_take_of_lt c1]
    split
    · rename_i c1 c2
      rw [List.append_assoc, List.getElem?_append_right (by rw [List.length_take]; omega), List.getElem?_append_left (by rw [List.length_take, List.length_take]; omega), List.length_take, Nat.min_eq_left (by omega), List.getElem?_take_of_lt (by omega)]
    · rename_i c1 c2
      rw [List.append_assoc, List.getElem?_append_right (by rw [List.length_take]; omega), List.getElem?_append_right (by rw [List.length_take, List.length_take]; omega), List.getElem?_drop]
      simp only [List.length_take]
      congr 1
      omega
  refine ⟨us, vs, u1, v1, fun b hb => ?_, ?_⟩
  · have hall : us.all (fun u => u.isLeft) = true := List.all_eq_true.mpr fun u hu => by
      obtain ⟨j, hj⟩ := List.getElem?_of_mem hu
      exact hisl j u hj
    have c1 : ¬ Int32.ofInt (lEv ρ n) < 0 := by rw [en]; decide
    have c3 : ¬ Int32.ofInt (lEv ρ e) < 0 := by rw [ee]; decide
    have c2 : ¬ Int32.ofInt (lEv ρ d) < 0 := fun z => by
      have z2 : (Int32.ofInt (lEv ρ d)).toInt < (0 : Int) := Int32.lt_iff_toInt_lt.mp z
      omega
    have u2 : us.length = 4 := u2
    have v2 : vs.length = m2 := v2
    rw [decide_eq_true c1, decide_eq_true c2, decide_eq_true c3, hb, hall, dN, nN, eN, decide_eq_true (show 0 + 4 ≤ us.length by omega), decide_eq_true (show (lEv ρ d).toNat + 4 ≤ vs.length by omega)]
    rfl
  · rw [dN, nN, eN, hD, show ((D : Int)).toNat = D by omega, List.drop_zero]
    have u2 : us.length = 4 := u2
    have v2 : vs.length = m2 := v2
    refine ⟨vHp_set h.1 ha ho ⟨rfl, ?_, fun j g u hg0 hu => ?_⟩, h.2.1, fArr_spec (kp := fun _ => false) h.2.1 v1 (fun _ hk _ => by cases hk) h.2.2.1, h.2.2.2.1, h.2.2.2.2.1, h.2.2.2.2.2.1, ⟨vNN_arr h.2.2.2.2.2.2.1.1 ha v1 (fun hc => (hne hc).elim), vGp_arr h.2.2.2.2.2.2.1.2 ha (vHp_lt h.1 ha) (fun _ => ?_)⟩, h.2.2.2.2.2.2.2⟩
    · show (vs.take D ++ us.take 4 ++ vs.drop (D + 4)).length = m2
      simp only [List.length_append, List.length_take, List.length_drop]
      omega
    · have hu : (vs.take D ++ us.take 4 ++ vs.drop (D + 4))[j]? = some u := hu
      have hg0 : vEl f2 j = some g := hg0
      rw [hget] at hu
      have old : vs[j]? = some u → vFit ty g u := fun hv => by
        have hj := (List.getElem?_eq_some_iff.mp hv).1
        obtain ⟨w, w1, w2⟩ := v3 j g (by omega) hg0
        rw [hv] at w1
        cases w1
        exact w2
      split at hu
      · exact old hu
      split at hu
      · rename_i c1 c2
        have hm : j % 4 = j - D := by omega
        have hl := hisl _ _ hu
        rcases u with x | u
        · have hr := hrng (j - D) x (by omega) hu
          have k20 := List.all_eq_true.mp k13 (j - D) (List.mem_range.mpr (by omega))
          unfold vEl at hg0
          rw [k6, hm] at hg0
          rw [hg0] at k20
          rcases g with q | q
          · have k21 := Bool.and_eq_true_iff.mp k20
            have k22 := of_decide_eq_true k21.1
            have k23 := of_decide_eq_true k21.2
            exact ⟨Int.le_trans k22 hr.1, Int.le_trans hr.2 k23⟩
          · cases k20
        · cases hl
      · exact old hu
    · intro b x hb4 hx
      have hold := h.2.2.2.2.2.2.1.2 (sR σ bd) 0 vs (hg ▸ ha) v1
      by_cases c : b = D
      · subst c
        rw [hget, if_neg (Nat.lt_irrefl b), if_pos (by omega), Nat.sub_self] at hx
        have r0 := hrng 0 x (by omega) hx
        refine ⟨fun h9 f hf => ?_, fun h4 h8 g hg1 => ?_⟩
        · rw [hget, if_neg (by omega), if_pos (by omega), show b + 1 - b = 1 by omega] at hf
          have r1 := hrng 1 f (by omega) hf
          rcases Bool.or_eq_true_iff.mp k14 with z | z
          · have := of_decide_eq_true z
            have := r0.1
            omega
          · exact Int.le_trans r1.2 (of_decide_eq_true z)
        · rw [hget, if_neg (by omega), if_pos (by omega), show b + 2 - b = 2 by omega] at hg1
          have r1 := hrng 2 g (by omega) hg1
          rcases Bool.or_eq_true_iff.mp k15 with z | z
          · rcases Bool.or_eq_true_iff.mp z with z | z
            · have := of_decide_eq_true z
              have := r0.1
              omega
            · have := of_decide_eq_true z
              have := r0.2
              omega
          · exact Int.le_trans r1.2 (of_decide_eq_true z)
      · have far : ∀ i, i < 4 → (vs.take D ++ us.take 4 ++ vs.drop (D + 4))[b + i]? = vs[b + i]? := fun i hi => by
          rw [hget]
          split
          · rfl
          split
          · omega
          · rfl
        have hx0 : vs[b]? = some (.inl x) := (far 0 (by omega)).symm.trans hx
        obtain ⟨q1, q2⟩ := hold b x hb4 hx0
        exact ⟨fun h9 f hf => q1 h9 f (by rw [← far 1 (by omega)]; exact hf), fun h4 h8 g hg1 => q2 h4 h8 g (by rw [← far 2 (by omega)]; exact hg1)⟩
/-- may elements be copied so -/
def vCpQ (KT : vKT) (W : List (Nat × Nat)) (bd bs : Nat) (n d e : lT) (s : vSt) : Bool := match (sG s)[bs]?, (sG s)[bd]? with
  | some cs, some cd => match KT.1[cs]?, KT.1[cd]? with
    | some (.inr p), some (.inr o) => if cd = KT.2.1.2.2.2.2 then decide (cd ≠ KT.2.1.2.2.2.1) && wIn W cd 0 && vGcQ bs p o n d e s else (decide (p.1 = 0) && decide (o.1 = 0) && decide (p.2.2 = o.2.2) && p.2.2.all Sum.isLeft && decide (p.2.2 ≠ []) && decide (cd ≠ KT.2.1.2.2.2.1) && decide (cd ≠ KT.2.1.2.2.2.2) && wIn W cd 0) && (vIdx n (p.2.1 + 1) s && vIdx d (o.2.1 + 1) s && vIdx e (p.2.1 + 1) s && lGe (sI s) (sC s) (lSub (lSub (lK (p.2.1 : Int)) e) n) && lGe (sI s) (sC s) (lSub (lSub (lK (o.2.1 : Int)) d) n)) && (decide (p.2.2.length = 1) || (lDv p.2.2.length e && lDv p.2.2.length d && decide (e.1 % (p.2.2.length : Int) = d.1 % (p.2.2.length : Int))))
    | _, _ => false
  | _, _ => false
theorem vCpQ_spec {KT : vKT} {W : List (Nat × Nat)} {ρ : Nat → Int} {σ : Nat → Nat} {ty : Nat → Option Nat} {H : List (XC Int32)} {s : vSt} (h : vRel KT ρ σ ty H s) {bd bs : Nat} {n d e : lT} (hk : vCpQ KT W bd bs n d e s = true) :
    ∃ us vs c, H[sR σ bs]? = some (.inr (0, us)) ∧ H[sR σ bd]? = some (.inr (0, vs)) ∧ (∀ b : Bool, b = true → (decide (¬ Int32.ofInt (lEv ρ n) < 0) && decide (¬ Int32.ofInt (lEv ρ d) < 0) && decide (¬ Int32.ofInt (lEv ρ e) < 0) && decide ((Int32.ofInt (lEv ρ e)).toNatClampNeg + (Int32.ofInt (lEv ρ n)).toNatClampNeg ≤ us.length) && decide ((Int32.ofInt (lEv ρ d)).toNatClampNeg + (Int32.ofInt (lEv ρ n)).toNatClampNeg ≤ vs.length) && b && us.all (fun u => u.isLeft)) = true) ∧
      vRel KT ρ σ ty (H.set (sR σ bd) (.inr (0, vs.take (Int32.ofInt (lEv ρ d)).toNatClampNeg ++ (us.drop (Int32.ofInt (lEv ρ e)).toNatClampNeg).take (Int32.ofInt (lEv ρ n)).toNatClampNeg ++ vs.drop ((Int32.ofInt (lEv ρ d)).toNatClampNeg + (Int32.ofInt (lEv ρ n)).toNatClampNeg)))) (vCpy bd s) ∧ ty (sR σ bd) = some c ∧ wIn W c 0 = true := by
  unfold vCpQ at hk
  split at hk
  rotate_left
  · cases hk
  rename_i cs cd hcs hcd
  split at hk
  rotate_left
  · cases hk
  rename_i p o hp ho
  split at hk
  · rename_i hg
    simp only [Bool.and_eq_true] at hk
    obtain ⟨⟨g1, g2⟩, g3⟩ := hk
    obtain ⟨us, vs, y1, y2, y3, y4⟩ := vGcQ_spec h hcs hcd hp ho hg (of_decide_eq_true g1) g3
    exact ⟨us, vs, cd, y1, y2, y3, y4, h.2.1 bd cd hcd, g2⟩
  obtain ⟨t1, m1, f1⟩ := p
  obtain ⟨t2, m2, f2⟩ := o
  simp only [Bool.and_eq_true] at hk
  obtain ⟨⟨⟨⟨⟨⟨⟨⟨⟨k1, k2⟩, k3⟩, k4⟩, k5⟩, k6⟩, k6g⟩, k7⟩, ⟨⟨⟨k8, k9⟩, k10⟩, k11⟩, k12⟩, k13⟩ := hk
  have k6g := of_decide_eq_true k6g
  have j1 : t1 = 0 := of_decide_eq_true k1
  have j2 : t2 = 0 := of_decide_eq_true k2
  have j3 : f1 = f2 := of_decide_eq_true k3
  subst j1
  subst j2
  subst j3
  have k5 : f1 ≠ [] := of_decide_eq_true k5
  have k6 := of_decide_eq_true k6
  obtain ⟨x1, x2, x3, x4⟩ := vIdx_spec h k8
  obtain ⟨y1, y2, y3, y4⟩ := vIdx_spec h k9
  obtain ⟨z1, z2, z3, z4⟩ := vIdx_spec h k10
  have k11 := lGe_spec h.2.2.2.1 h.2.2.2.2.1 k11
  have k12 := lGe_spec h.2.2.2.1 h.2.2.2.2.1 k12
  rw [lSub_ev, lSub_ev, lK_ev] at k11 k12
  have ha := h.2.1 bd cd hcd
  have hb := h.2.1 bs cs hcs
  obtain ⟨vs, v1, v2, v3⟩ := vHp_arr h.1 ha ho
  obtain ⟨us, u1, u2, u3⟩ := vHp_arr h.1 hb hp
  have k11 : 0 ≤ (m1 : Int) - lEv ρ e - lEv ρ n := k11
  have k12 : 0 ≤ (m2 : Int) - lEv ρ d - lEv ρ n := k12
  have hall : us.all (fun u => u.isLeft) = true := List.all_eq_true.mpr fun u hu => by
    obtain ⟨j, hj⟩ := List.getElem?_of_mem hu
    have hjl : j < m1 := by rw [← u2]; exact (List.getElem?_eq_some_iff.mp hj).1
    have hlt : j % f1.length < f1.length := Nat.mod_lt _ (by
      rcases f1 with _ | ⟨g, r⟩
      · exact (k5 rfl).elim
      · exact Nat.succ_pos _)
    have hel : vEl f1 j = some (f1[j % f1.length]'hlt) := List.getElem?_eq_getElem hlt
    obtain ⟨w, w1, w2⟩ := u3 j _ hjl hel
    rw [hj] at w1
    cases w1
    have w3 := List.all_eq_true.mp k4 _ (List.getElem_mem hlt)
    generalize f1[j % f1.length]'hlt = g at w2 w3
    rcases g with g | g
    · rcases u with u | (_ | u)
      · rfl
      · exact w2.elim
      · exact w2.elim
    · cases w3
  have neg : ∀ {a : lT} {N : Nat}, (decide (Int32.ofInt (lEv ρ a) < 0) || decide (N ≤ (Int32.ofInt (lEv ρ a)).toNatClampNeg)) = false → decide (¬ Int32.ofInt (lEv ρ a) < 0) = true := fun q => by
    rw [Bool.or_eq_false_iff] at q
    have q1 := of_decide_eq_false q.1
    exact decide_eq_true q1
  refine ⟨us, vs, cd, u1, v1, fun b hb => ?_, ?_, ha, k7⟩
  · rw [neg x1, neg y1, neg z1, hb, hall, x4, y4, z4, decide_eq_true (show (lEv ρ e).toNat + (lEv ρ n).toNat ≤ us.length by omega), decide_eq_true (show (lEv ρ d).toNat + (lEv ρ n).toNat ≤ vs.length by omega)]
    rfl
  · rw [x4, y4, z4]
    refine vCpy_rel h ha ho v1 hb hp u1 (by omega) (by omega) ?_ k6 k6g
    rcases Bool.or_eq_true_iff.mp k13 with k13 | k13
    · have k13 : f1.length = 1 := of_decide_eq_true k13
      rw [k13, Nat.mod_one, Nat.mod_one]
    · have k14 := Bool.and_eq_true_iff.mp k13
      have k15 := Bool.and_eq_true_iff.mp k14.1
      have r1 := lDv_spec (ρ := ρ) k15.1
      have r2 := lDv_spec (ρ := ρ) k15.2
      have r3 : e.1 % (f1.length : Int) = d.1 % (f1.length : Int) := of_decide_eq_true k14.2
      have r4 : lEv ρ e % (f1.length : Int) = lEv ρ d % (f1.length : Int) := by
        rw [show lEv ρ e % (f1.length : Int) = e.1 % (f1.length : Int) from r1, r3]
        exact r2.symm
      have r5 := congrArg Int.toNat r4
      rw [Int.toNat_emod z3 (Int.natCast_nonneg _), Int.toNat_emod y3 (Int.natCast_nonneg _)] at r5
      exact r5
/-- what is known of elements, over a copy -/
def cpN (bd bs : Nat) (n d e : lT) (s : vSt) : List vK := (sF s).filterMap (fun f => match f.2.1 with
  | .inr k => if (Nat.beq f.1 bs && !(kyAp f.2.1) && (lGe (sI s) (sC s) (lSub k e) && lGe (sI s) (sC s) (lSub (lAdd e n) (lAdd k (lK 1))))) = true then some (bd, .inr (lAdd (lSub k e) d), f.2.2) else none
  | .inl _ => none)
def cpK (n d : lT) (s : vSt) (k : lT) : Bool := lGe (sI s) (sC s) (lSub k (lAdd d n)) || lGe (sI s) (sC s) (lSub (lSub d (lK 1)) k)
def vCpz (bd bs : Nat) (n d e : lT) (s : vSt) : vSt := if (lFit (sI s) n && lFit (sI s) d && lFit (sI s) e && lGe (sI s) (sC s) n && lGe (sI s) (sC s) d && lGe (sI s) (sC s) e) = true then (sN s, sG s, cpN bd bs n d e s ++ fArr (cpK n d s) (sG s) bd (sF s), sI s, sC s, sM s, sRw s) else vCpy bd s
theorem vCpz_n (bd bs : Nat) (n d e : lT) (s : vSt) : sN (vCpz bd bs n d e s) = sN s ∧ sG (vCpz bd bs n d e s) = sG s ∧ sRw (vCpz bd bs n d e s) = sRw s := by
  unfold vCpz
  split
  · exact ⟨rfl, rfl, rfl⟩
  · exact ⟨rfl, rfl, rfl⟩
theorem cpAt {α : Type} {vs us : List α} {D E N K : Nat} (h1 : E + N ≤ us.length) (h2 : D + N ≤ vs.length) (h3 : E ≤ K) (h4 : K < E + N) : (vs.take D ++ (us.drop E).take N ++ vs.drop (D + N))[K - E + D]? = us[K]? := by
  have l1 : (vs.take D).length = D := by rw [List.length_take]; omega
  have l2 : ((us.drop E).take N).length = N := by rw [List.length_take, List.length_drop]; omega
  rw [List.getElem?_append_left (by rw [List.length_append, l1, l2]; omega), List.getElem?_append_right (by omega), l1, Nat.add_sub_cancel, List.getElem?_take, if_pos (by omega), List.getElem?_drop]
  congr 1
  omega
theorem cpOut {α : Type} {vs us : List α} {D E N K : Nat} (h1 : E + N ≤ us.length) (h2 : D + N ≤ vs.length) (h3 : K < D ∨ D + N ≤ K) : (vs.take D ++ (us.drop E).take N ++ vs.drop (D + N))[K]? = vs[K]? := by
  have l1 : (vs.take D).length = D := by rw [List.length_take]; omega
  have l2 : ((us.drop E).take N).length = N := by rw [List.length_take, List.length_drop]; omega
  rcases h3 with h3 | h3
  · rw [List.getElem?_append_left (by rw [List.length_append, l1, l2]; omega), List.getElem?_append_left (by omega), List.getElem?_take, if_pos h3]
  · rw [List.getElem?_append_right (by rw [List.length_append, l1, l2]; omega), List.length_append, l1, l2, List.getElem?_drop]
    congr 1
    omega
theorem vCpz_rel {KT : vKT} {ρ : Nat → Int} {σ : Nat → Nat} {ty : Nat → Option Nat} {H : List (XC Int32)} {s : vSt} (h : vRel KT ρ σ ty H s) {bd bs : Nat} {n d e : lT} {us vs : List (XV Int32)} (hs : H[sR σ bs]? = some (.inr (0, us))) (hd : H[sR σ bd]? = some (.inr (0, vs))) (h1 : (Int32.ofInt (lEv ρ e)).toNatClampNeg + (Int32.ofInt (lEv ρ n)).toNatClampNeg ≤ us.length) (h2 : (Int32.ofInt (lEv ρ d)).toNatClampNeg + (Int32.ofInt (lEv ρ n)).toNatClampNeg ≤ vs.length)
    (h3 : vRel KT ρ σ ty (H.set (sR σ bd) (.inr (0, vs.take (Int32.ofInt (lEv ρ d)).toNatClampNeg ++ (us.drop (Int32.ofInt (lEv ρ e)).toNatClampNeg).take (Int32.ofInt (lEv ρ n)).toNatClampNeg ++ vs.drop ((Int32.ofInt (lEv ρ d)).toNatClampNeg + (Int32.ofInt (lEv ρ n)).toNatClampNeg)))) (vCpy bd s)) :
    vRel KT ρ σ ty (H.set (sR σ bd) (.inr (0, vs.take (Int32.ofInt (lEv ρ d)).toNatClampNeg ++ (us.drop (Int32.ofInt (lEv ρ e)).toNatClampNeg).take (Int32.ofInt (lEv ρ n)).toNatClampNeg ++ vs.drop ((Int32.ofInt (lEv ρ d)).toNatClampNeg + (Int32.ofInt (lEv ρ n)).toNatClampNeg)))) (vCpz bd bs n d e s) := by
  unfold vCpz
  split
  rotate_left
  · exact h3
  rename_i hc
  simp only [Bool.and_eq_true] at hc
  obtain ⟨⟨⟨⟨⟨c1, c2⟩, c3⟩, c4⟩, c5⟩, c6⟩ := hc
  have nn : ∀ {l : lT}, lFit (sI s) l = true → (Int32.ofInt (lEv ρ l)).toNatClampNeg = (lEv ρ l).toNat := fun {l} hl => by
    have e1 := lFit_spec h.2.2.2.1 hl
    show (Int32.ofInt (lEv ρ l)).toInt.toNat = _
    rw [e1]
  rw [nn c1, nn c2, nn c3] at *
  have p1 := lGe_spec h.2.2.2.1 h.2.2.2.2.1 c4
  have p2 := lGe_spec h.2.2.2.1 h.2.2.2.2.1 c5
  have p3 := lGe_spec h.2.2.2.1 h.2.2.2.2.1 c6
  refine ⟨h3.1, h3.2.1, fun f hf => ?_, h3.2.2.2.1, h3.2.2.2.2.1, h3.2.2.2.2.2.1, h3.2.2.2.2.2.2.1, h3.2.2.2.2.2.2.2⟩
  rcases List.mem_append.mp hf with hf | hf
  · obtain ⟨g, hg, hf⟩ := List.mem_filterMap.mp hf
    obtain ⟨x, key, v⟩ := g
    rcases key with j | k
    · cases hf
    dsimp only at hf
    split at hf
    rotate_left
    · cases hf
    rename_i hq
    cases hf
    simp only [Bool.and_eq_true] at hq
    obtain ⟨⟨q1, q2⟩, q3, q4⟩ := hq
    have q1 := Nat.eq_of_beq_eq_true q1
    have q1 : x = bs := q1
    subst q1
    have q3 := lGe_spec h.2.2.2.1 h.2.2.2.2.1 q3
    have q4 := lGe_spec h.2.2.2.1 h.2.2.2.2.1 q4
    rw [lSub_ev] at q3
    rw [lSub_ev, lAdd_ev, lAdd_ev, lK_ev] at q4
    have hp : vPlace ρ σ H x (.inr k) (cv ρ σ v) := by
      rcases h.2.2.1 _ hg with hp | ⟨k2, k1, -, -⟩
      · exact hp
      · have k1 : (Sum.inr k : Nat ⊕ lT) = .inr (lK (-1)) := k1
        rw [k1] at q2
        exact absurd q2 (by decide)
    obtain ⟨t, ws, w1, w0, w2⟩ := hp
    rw [hs] at w1
    cases w1
    refine Or.inl ⟨0, _, List.getElem?_set_self (List.getElem?_eq_some_iff.mp hd).1, ?_, ?_⟩
    · rw [lAdd_ev, lSub_ev]
      omega
    · rw [lAdd_ev, lSub_ev, ← w2, ← cpAt (K := (lEv ρ k).toNat) h1 h2 (by omega) (by omega)]
      congr 1
      omega
  · exact fArr_spec (kp := cpK n d s) h.2.1 hd (fun k hk h0 => by
      refine cpOut h1 h2 ?_
      rcases Bool.or_eq_true_iff.mp hk with hk | hk
      · have := lGe_spec h.2.2.2.1 h.2.2.2.2.1 hk
        rw [lSub_ev, lAdd_ev] at this
        exact Or.inr (by omega)
      · have := lGe_spec h.2.2.2.1 h.2.2.2.2.1 hk
        rw [lSub_ev, lSub_ev, lK_ev] at this
        exact Or.inl (by omega)) h.2.2.1 f hf
theorem xr_get : ∀ (n a j : Nat), (x_refs a n : List (XV Int32))[j]? = if j < n then some (.inr (some (a + j))) else none
  | 0, a, j => by
    rw [if_neg (Nat.not_lt_zero j)]
    rfl
  | n + 1, a, j => by
    rcases j with _ | j
    · rw [if_pos (Nat.succ_pos n)]
      rfl
    · show (x_refs (a + 1) n : List (XV Int32))[j]? = _
      rw [xr_get n (a + 1) j]
      by_cases c : j < n
      · rw [if_pos c, if_pos (by omega), show a + 1 + j = a + (j + 1) by omega]
      · rw [if_neg c, if_neg (by omega)]
theorem xr_len : ∀ (n a : Nat), (x_refs a n : List (XV Int32)).length = n
  | 0, _ => rfl
  | n + 1, a => congrArg (· + 1) (xr_len n (a + 1))
theorem xrow_get (t : Nat) (r : List (XV Int32)) : ∀ (n j : Nat), (x_rows t r n)[j]? = if j < n then some (.inr (t, r)) else none
  | 0, j => by
    rw [if_neg (Nat.not_lt_zero j)]
    rfl
  | n + 1, j => by
    rcases j with _ | j
    · rw [if_pos (Nat.succ_pos n)]
      rfl
    · show (x_rows t r n)[j]? = _
      rw [xrow_get t r n j]
      by_cases c : j < n
      · rw [if_pos c, if_pos (by omega)]
      · rw [if_neg c, if_neg (by omega)]
theorem xrow_len (t : Nat) (r : List (XV Int32)) : ∀ n, (x_rows t r n).length = n
  | 0 => rfl
  | n + 1 => congrArg (· + 1) (xrow_len t r n)
/-- the kinds with a new array of rows at n -/
def vAdd2 (ty : Nat → Option Nat) (n m c2 c1 : Nat) : Nat → Option Nat := fun b => if b = n then some c2 else if n < b ∧ b ≤ n + m then some c1 else ty b
theorem vMul_rel {KT : vKT} {ρ : Nat → Int} {σ : Nat → Nat} {ty : Nat → Option Nat} {H : List (XC Int32)} {s : vSt} (h : vRel KT ρ σ ty H s) (hb : sBd s = true) {c2 c1 t2 t1 n1 n2 : Nat} {fl : List vF} (hK2 : KT.1[c2]? = some (.inr (t2, n1, [.inr (false, c1)]))) (hK1 : KT.1[c1]? = some (.inr (t1, n2, fl))) (hz : fl.all vZero = true) (r2 : kRaw KT c2 = none) (r1 : kRaw KT c1 = none) (a1 : c2 ≠ KT.2.1.1) (a2 : c1 ≠ KT.2.1.1) (a3 : c2 ≠ KT.2.1.2.2.2.2) (a4 : c1 ≠ KT.2.1.2.2.2.2) :
    ∃ σ2, vExt s (vMke KT c2 s) ρ ρ σ σ2 ∧ vRel KT ρ σ2 (vAdd2 ty H.length n1 c2 c1) (H ++ .inr (t2, x_refs (H.length + 1) n1) :: x_rows t1 (List.replicate n2 (.inl 0)) n1) (vMke KT c2 s) ∧ sR σ2 (sG s).length = H.length ∧ vLe ty (vAdd2 ty H.length n1 c2 c1) := by
  have hself : vAdd2 ty H.length n1 c2 c1 H.length = some c2 := if_pos rfl
  have hrow : ∀ i, i < n1 → vAdd2 ty H.length n1 c2 c1 (H.length + 1 + i) = some c1 := fun i hi => by
    unfold vAdd2
    rw [if_neg (by omega), if_pos (by omega)]
  have hold : ∀ b, b < H.length → vAdd2 ty H.length n1 c2 c1 b = ty b := fun b hb2 => by
    unfold vAdd2
    rw [if_neg (by omega), if_neg (by omega)]
  have hle : vLe ty (vAdd2 ty H.length n1 c2 c1) := fun a c ha => by
    rw [hold a (vHp_lt h.1 ha)]
    exact ha
  have back : ∀ b d, vAdd2 ty H.length n1 c2 c1 b = some d → (b = H.length ∧ d = c2) ∨ (∃ i, i < n1 ∧ b = H.length + 1 + i ∧ d = c1) ∨ ty b = some d := fun b d hd => by
    unfold vAdd2 at hd
    split at hd
    · rename_i e
      cases hd
      exact Or.inl ⟨e, rfl⟩
    split at hd
    · rename_i e1 e2
      cases hd
      exact Or.inr (Or.inl ⟨b - (H.length + 1), by omega, by omega, rfl⟩)
    · exact Or.inr (Or.inr hd)
  have happ : ∀ (a : Nat) (y : XC Int32), H[a]? = some y → (H ++ .inr (t2, x_refs (H.length + 1) n1) :: x_rows t1 (List.replicate n2 (.inl 0)) n1)[a]? = some y := fun a y hy => by
    rw [List.getElem?_append_left (List.getElem?_eq_some_iff.mp hy).1]
    exact hy
  have hnew : (H ++ .inr (t2, x_refs (H.length + 1) n1) :: x_rows t1 (List.replicate n2 (.inl 0)) n1)[H.length]? = some (.inr (t2, x_refs (H.length + 1) n1)) := by
    rw [List.getElem?_append_right (Nat.le_refl _), Nat.sub_self]
    rfl
  have hnrow : ∀ i, i < n1 → (H ++ .inr (t2, x_refs (H.length + 1) n1) :: x_rows t1 (List.replicate n2 (.inl 0)) n1)[H.length + 1 + i]? = some (.inr (t1, List.replicate n2 (.inl 0))) := fun i hi => by
    rw [List.getElem?_append_right (by omega), show H.length + 1 + i - H.length = i + 1 by omega]
    show (x_rows t1 (List.replicate n2 (.inl 0)) n1)[i]? = _
    rw [xrow_get, if_pos hi]
  have he : ∀ i, i < (sG s).length → (fun i => if i = (sG s).length then H.length else σ i) i = σ i := fun i hi => if_neg (Nat.ne_of_lt hi)
  have hlt := (sBd_spec hb).1
  obtain ⟨g1, g2, g3, g4, g5, g6, g7, g8⟩ := vRel_ext h hb (fun _ _ => rfl) he
  have hv : sR (fun i => if i = (sG s).length then H.length else σ i) (sG s).length = H.length := by
    unfold sR
    rw [if_pos hlt]
    exact if_pos rfl
  have hmk : vMke KT c2 s = (sN s, sG s ++ [c2], sF s, sI s, sC s, sM s, sRw s) := by
    unfold vMke
    rw [r2]
    rfl
  refine ⟨fun i => if i = (sG s).length then H.length else σ i, ⟨fun _ _ => rfl, he, Nat.le_refl _, ?_⟩, ?_, hv, hle⟩
  · show (sG s).length ≤ (sG s ++ [c2]).length
    rw [List.length_append]
    exact Nat.le_add_right _ _
  rw [hmk]
  refine ⟨fun b d hd => ?_, fun i d hd => ?_, fun f hf => ?_, g4, g5, g6, ⟨fun a ha => ?_, fun a t vs ha hH => ?_⟩, fun a d e ha hd => ?_⟩
  · rcases back b d hd with ⟨rfl, rfl⟩ | ⟨i, hi, rfl, rfl⟩ | hd
    · refine ⟨_, _, hK2, hnew, rfl, xr_len n1 _, fun j f u hf hu => ?_⟩
      have hf : vEl [(.inr (false, c1) : vF)] j = some f := hf
      unfold vEl at hf
      rw [show [(.inr (false, c1) : vF)].length = 1 from rfl, Nat.mod_one] at hf
      cases hf
      have hu : (x_refs (H.length + 1) n1 : List (XV Int32))[j]? = some u := hu
      rw [xr_get] at hu
      split at hu
      · rename_i hj
        cases hu
        exact hrow j hj
      · cases hu
    · exact ⟨_, _, hK1, hnrow i hi, vZero_cell hz⟩
    · obtain ⟨kd, z, y1, y2, y3⟩ := h.1 b d hd
      exact ⟨kd, z, y1, happ b z y2, vCell_le hle y3⟩
  · have hd : (sG s ++ [c2])[i]? = some d := hd
    by_cases e : i = (sG s).length
    · subst e
      rw [List.getElem?_append_right (Nat.le_refl _), Nat.sub_self] at hd
      have hd : some c2 = some d := hd
      rw [hv, hself]
      exact hd
    · have hl : i < (sG s).length := by
        have := (List.getElem?_eq_some_iff.mp hd).1
        rw [List.length_append] at this
        have : i < (sG s).length + 1 := this
        omega
      rw [List.getElem?_append_left hl] at hd
      exact hle _ _ (g2 i d hd)
  · have h1 := g3 f hf
    rcases h1 with h1 | h1
    rotate_left
    · exact Or.inr h1
    refine Or.inl ?_
    obtain ⟨x, key, v⟩ := f
    rcases key with j | e
    · obtain ⟨ci, fs, y1, y2⟩ := h1
      exact ⟨ci, fs, happ _ _ y1, y2⟩
    · obtain ⟨t, vs, y1, y0, y2⟩ := h1
      exact ⟨t, vs, happ _ _ y1, y0, y2⟩
  · rcases back a _ ha with ⟨-, e⟩ | ⟨-, -, -, e⟩ | ha
    · exact (a1 e.symm).elim
    · exact (a2 e.symm).elim
    · obtain ⟨c, gs, n, b, t, vs, z1, z2, z3, z4, z5, z6⟩ := g7.1 a ha
      exact ⟨c, gs, n, b, t, vs, happ _ _ z1, z2, z3, hle _ _ z4, happ _ _ z5, z6⟩
  · rcases back a _ ha with ⟨-, e⟩ | ⟨-, -, -, e⟩ | ha
    · exact (a3 e.symm).elim
    · exact (a4 e.symm).elim
    · rw [List.getElem?_append_left (vHp_lt h.1 ha)] at hH
      exact g7.2 a t vs ha hH
  · rcases back a d ha with ⟨-, e1⟩ | ⟨-, -, -, e1⟩ | ha
    · rw [e1, r2] at hd
      cases hd
    · rw [e1, r1] at hd
      cases hd
    · exact g8 a d e ha hd
/-- the rows of a new array of rows -/
def vMuO (c1 : Nat) (s : vSt) : List Nat := (List.range (sG s).length).filter (fun i => match (sG s)[i]? with
  | some d => Nat.beq d c1
  | none => false)
def vMuN (c1 n1 : Nat) (s : vSt) : List vK := (List.range n1).flatMap (fun (v : Nat) => (((sG s).length, .inr (lK ((v : Nat) : Int)), .inr (some ((sG s).length + 1 + v))) : vK) :: (vMuO c1 s).map (fun (i : Nat) => (((sG s).length + 1 + v, .inr (lK (-1)), .inr (some i)) : vK)))
def vMuM (c c1 n1 : Nat) (s : vSt) : vSt := (sN s, sG s ++ c :: List.replicate n1 c1, vMuN c1 n1 s ++ sF s, sI s, sC s, sM s, sRw s)
theorem vMuM_rel {KT : vKT} {ρ : Nat → Int} {σ : Nat → Nat} {ty : Nat → Option Nat} {H : List (XC Int32)} {s : vSt} (h : vRel KT ρ σ ty H s) (hb : sBd s = true) {c2 c1 t2 t1 n1 n2 : Nat} {fl : List vF} (hK2 : KT.1[c2]? = some (.inr (t2, n1, [.inr (false, c1)]))) (hK1 : KT.1[c1]? = some (.inr (t1, n2, fl))) (hz : fl.all vZero = true) (r2 : kRaw KT c2 = none) (r1 : kRaw KT c1 = none) (a1 : c2 ≠ KT.2.1.1) (a2 : c1 ≠ KT.2.1.1) (a3 : c2 ≠ KT.2.1.2.2.2.2) (a4 : c1 ≠ KT.2.1.2.2.2.2) (hlim : (sG s).length + 1 + n1 < 1000000) :
    ∃ σ2, vExt s (vMuM c2 c1 n1 s) ρ ρ σ σ2 ∧ vRel KT ρ σ2 (vAdd2 ty H.length n1 c2 c1) (H ++ .inr (t2, x_refs (H.length + 1) n1) :: x_rows t1 (List.replicate n2 (.inl 0)) n1) (vMuM c2 c1 n1 s) ∧ sR σ2 (sG s).length = H.length ∧ vLe ty (vAdd2 ty H.length n1 c2 c1) := by
  obtain ⟨σ1, x1, ⟨g1, g2, g3, g4, g5, g6, g7, g8⟩, x3, x4⟩ := vMul_rel h hb hK2 hK1 hz r2 r1 a1 a2 a3 a4
  have hrw : sRw (vMke KT c2 s) = sRw s := by
    unfold vMke
    rw [r2]
    rfl
  let σ2 : Nat → Nat := fun i => if i ≤ (sG s).length then σ1 i else H.length + (i - (sG s).length)
  have s1 : ∀ i, i ≤ (sG s).length → σ2 i = σ1 i := fun i hi => if_pos hi
  have sr1 : ∀ i, i ≤ (sG s).length → sR σ2 i = sR σ1 i := fun i hi => by
    unfold sR
    rw [if_pos (by omega), if_pos (by omega)]
    exact s1 i hi
  have sr2 : ∀ v, v < n1 → sR σ2 ((sG s).length + 1 + v) = H.length + 1 + v := fun v hv => by
    unfold sR
    rw [if_pos (by omega)]
    show (if (sG s).length + 1 + v ≤ (sG s).length then _ else _) = _
    rw [if_neg (by omega)]
    omega
  have hrow : ∀ v, v < n1 → vAdd2 ty H.length n1 c2 c1 (H.length + 1 + v) = some c1 := fun i hi => by
    unfold vAdd2
    rw [if_neg (by omega), if_pos (by omega)]
  have hg1 : (sG (vMke KT c2 s)) = sG s ++ [c2] := rfl
  have hold : ∀ i, i < (sG s).length → sR σ2 i < H.length := fun i hi => by
    rw [sr1 i (Nat.le_of_lt hi)]
    have e : sR σ1 i = sR σ i := by
      unfold sR
      rw [if_pos (by omega), if_pos (by omega)]
      exact x1.2.1 i hi
    rw [e]
    exact vHp_lt h.1 (h.2.1 i _ (List.getElem?_eq_getElem hi))
  have hnew : (H ++ .inr (t2, x_refs (H.length + 1) n1) :: x_rows t1 (List.replicate n2 (.inl 0)) n1)[H.length]? = some (.inr (t2, x_refs (H.length + 1) n1)) := by
    rw [List.getElem?_append_right (Nat.le_refl _), Nat.sub_self]
    rfl
  refine ⟨σ2, ⟨fun _ _ => rfl, fun i hi => (s1 i (Nat.le_of_lt hi)).trans (x1.2.1 i hi), Nat.le_refl _, ?_⟩, ⟨g1, fun i d hd => ?_, fun f hf => ?_, g4, g5, g6, g7, fun a d e ha hd => ?_⟩, ?_, x4⟩
  · show (sG s).length ≤ (sG s ++ c2 :: List.replicate n1 c1).length
    rw [List.length_append]
    exact Nat.le_add_right _ _
  · have hd : (sG s ++ c2 :: List.replicate n1 c1)[i]? = some d := hd
    by_cases hi : i ≤ (sG s).length
    · rw [sr1 i hi]
      refine g2 i d ?_
      show (sG s ++ [c2])[i]? = some d
      by_cases hi2 : i < (sG s).length
      · rw [List.getElem?_append_left hi2] at hd ⊢
        exact hd
      · have e : i = (sG s).length := by omega
        subst e
        rw [List.getElem?_append_right (Nat.le_refl _), Nat.sub_self] at hd ⊢
        exact hd
    · have hl := (List.getElem?_eq_some_iff.mp hd).1
      rw [List.length_append, List.length_cons, List.length_replicate] at hl
      obtain ⟨v, rfl⟩ : ∃ v, i = (sG s).length + 1 + v := ⟨i - ((sG s).length + 1), by omega⟩
      rw [List.getElem?_append_right (by omega), show (sG s).length + 1 + v - (sG s).length = v + 1 by omega, List.getElem?_cons_succ, List.getElem?_replicate, if_pos (by omega)] at hd
      cases hd
      rw [sr2 v (by omega)]
      exact hrow v (by omega)
  · rcases List.mem_append.mp hf with hf | hf
    · obtain ⟨v, hv, hf⟩ := List.mem_flatMap.mp hf
      have hv := List.mem_range.mp hv
      rcases List.mem_cons.mp hf with rfl | hf
      · refine Or.inl ⟨t2, x_refs (H.length + 1) n1, ?_, ?_, ?_⟩
        · rw [sr1 _ (Nat.le_refl _), x3]
          exact hnew
        · rw [lK_ev]
          omega
        · rw [lK_ev, show ((v : Int)).toNat = v from rfl, xr_get, if_pos hv]
          show some (Sum.inr (some (H.length + 1 + v)) : XV Int32) = some (Sum.inr (some (sR σ2 ((sG s).length + 1 + v))))
          rw [sr2 v hv]
      · obtain ⟨i, hi, rfl⟩ := List.mem_map.mp hf
        have hi := List.mem_range.mp (List.mem_filter.mp hi).1
        refine Or.inr ⟨i, rfl, rfl, fun e => ?_⟩
        have e : sR σ2 ((sG s).length + 1 + v) = sR σ2 i := e
        have := hold i hi
        rw [sr2 v hv] at e
        omega
    · refine fBd_spec (n := sN s) (m := (sG s).length) (fun _ _ => rfl) (fun i hi => s1 i (Nat.le_of_lt hi)) ((sBd_spec hb).2.1 f hf) (g3 f hf)
  · obtain ⟨i, hi, e2⟩ := g8 a d e ha hd
    rw [hrw] at hi
    refine ⟨i, hi, ?_⟩
    rw [sr1 i (Nat.le_of_lt ((sBd_spec hb).2.2.2.2.2 i hi))]
    exact e2
  · rw [sr1 _ (Nat.le_refl _)]
    exact x3
theorem vMonB {W : List (Nat × Nat)} {c t i : Nat} {vs : List (XV Int32)} {ρ : Nat → Int} {σ : Nat → Nat} {x : lT} (h : (wIn W c 0 || (wIn W c 1 && lEq x (lK 1))) = true) : vSameC W c (.inr (t, vs)) (.inr (t, vs.set i (cv ρ σ (.inl x)))) := by
  refine ⟨rfl, fun z => ?_⟩
  rw [z, Bool.false_or] at h
  have h2 := Bool.and_eq_true_iff.mp h
  rw [h2.1, show cv ρ σ (.inl x) = .inl 1 from congrArg Sum.inl (by rw [lEq_spec h2.2, lK_ev]; rfl)]
  exact vMonV_set vs i
/-- a sum of two ints against an int, as longs -/
def vL3 (a b v : lT) (s : vSt) (kk : Int → vSt → Bool) : Bool := lFit (sI s) a && lFit (sI s) b && lFit (sI s) v && vAsk (lSub (lSub (lAdd a b) v) (lK 1)) s (fun s2 => kk 1 s2) (fun s2 => vAsk (lSub (lAdd a b) v) s2 (fun s3 => kk 0 s3) (fun s3 => kk (-1) s3))
theorem vL3_spec {KT : vKT} {ρ : Nat → Int} {σ : Nat → Nat} {ty : Nat → Option Nat} {H : List (XC Int32)} {a b v : lT} {s : vSt} (h : vRel KT ρ σ ty H s) {KC : Int → vSt → Bool} (hk : vL3 a b v s KC = true) : ∃ s2, vRel KT ρ σ ty H s2 ∧ vSame0 s s2 ∧ ∃ x : Int, KC x s2 = true ∧ cv ρ σ (.inl (lK x)) = .inl (x_l3 (Int32.ofInt (lEv ρ a)) (Int32.ofInt (lEv ρ b)) (Int32.ofInt (lEv ρ v))) := by
  unfold vL3 at hk
  simp only [Bool.and_eq_true] at hk
  obtain ⟨⟨⟨k1, k2⟩, k3⟩, k4⟩ := hk
  have e1 := lFit_spec h.2.2.2.1 k1
  have e2 := lFit_spec h.2.2.2.1 k2
  have e3 := lFit_spec h.2.2.2.1 k3
  unfold x_l3
  rw [e1, e2, e3]
  have cK : ∀ x : Int, cv ρ σ (.inl (lK x)) = .inl (Int32.ofInt x) := fun x => congrArg (fun z => Sum.inl (Int32.ofInt z)) (lK_ev ρ x)
  obtain ⟨s2, g1, g2, g3⟩ := vAsk_spec h k4
  rcases g3 with ⟨c, g3⟩ | ⟨c, g3⟩
  · rw [lSub_ev, lSub_ev, lAdd_ev, lK_ev] at c
    refine ⟨s2, g1, g2, 1, g3, ?_⟩
    rw [cK, if_pos (by omega)]
    rfl
  · rw [lSub_ev, lSub_ev, lAdd_ev, lK_ev] at c
    obtain ⟨s3, j1, j2, j3⟩ := vAsk_spec g1 g3
    rcases j3 with ⟨d, j3⟩ | ⟨d, j3⟩
    · rw [lSub_ev, lAdd_ev] at d
      refine ⟨s3, j1, vSame0_tr g2 j2, 0, j3, ?_⟩
      rw [cK, if_neg (by omega), if_pos (by omega)]
      rfl
    · rw [lSub_ev, lAdd_ev] at d
      refine ⟨s3, j1, vSame0_tr g2 j2, -1, j3, ?_⟩
      rw [cK, if_neg (by omega), if_neg (by omega)]
      rfl
/-- a way that the checker goes, and the evaluator's -/
def vAt (KT : vKT) (W : List (Nat × Nat)) (ty0 : Nat → Option Nat) (H0 : List (XC Int32)) (B : Nat) (L : List (Nat × vA)) (s : vSt) (cn sn : lT) (ρ : Nat → Int) (σ : Nat → Nat) (ty : Nat → Option Nat) (H : List (XC Int32)) (Lc : List (Nat × XV Int32)) (cn2 sn2 : Nat) : Prop :=
  (H.length ≤ B + cn2 ∧ H.length ≤ 1000000) ∧ vLe ty0 ty ∧ vFrm W ty0 H0 H ∧ vRel KT ρ σ ty H s ∧ vCov ρ σ L Lc ∧ (cn2 : Int) ≤ lEv ρ cn ∧ (sn2 : Int) ≤ lEv ρ sn
theorem vAt_ext {KT : vKT} {W : List (Nat × Nat)} {ty0 : Nat → Option Nat} {H0 : List (XC Int32)} {B : Nat} {L : List (Nat × vA)} {s s2 : vSt} {cn sn : lT} {ρ ρ2 : Nat → Int} {σ σ2 : Nat → Nat} {ty : Nat → Option Nat} {H : List (XC Int32)} {Lc : List (Nat × XV Int32)} {cn2 sn2 : Nat} {r : List vA} (h : vAt KT W ty0 H0 B L s cn sn ρ σ ty H Lc cn2 sn2) (g : vRel KT ρ2 σ2 ty H s2) (f : vFrP L r cn sn ρ σ ρ2 σ2) : vAt KT W ty0 H0 B L s2 cn sn ρ2 σ2 ty H Lc cn2 sn2 :=
  ⟨h.1, h.2.1, h.2.2.1, g, f.1 _ h.2.2.2.2.1, by rw [f.2.2.1]; exact h.2.2.2.2.2.1, by rw [f.2.2.2]; exact h.2.2.2.2.2.2⟩
theorem vAt_same {KT : vKT} {W : List (Nat × Nat)} {ty0 : Nat → Option Nat} {H0 : List (XC Int32)} {B : Nat} {L : List (Nat × vA)} {s s2 : vSt} {cn sn : lT} {ρ : Nat → Int} {σ : Nat → Nat} {ty : Nat → Option Nat} {H : List (XC Int32)} {Lc : List (Nat × XV Int32)} {cn2 sn2 : Nat} (h : vAt KT W ty0 H0 B L s cn sn ρ σ ty H Lc cn2 sn2) (g : vRel KT ρ σ ty H s2) : vAt KT W ty0 H0 B L s2 cn sn ρ σ ty H Lc cn2 sn2 :=
  ⟨h.1, h.2.1, h.2.2.1, g, h.2.2.2.2⟩
theorem vAt_st {KT : vKT} {W : List (Nat × Nat)} {ty0 : Nat → Option Nat} {H0 : List (XC Int32)} {B : Nat} {L : List (Nat × vA)} {s : vSt} {cn sn : lT} {ρ : Nat → Int} {σ : Nat → Nat} {ty : Nat → Option Nat} {H : List (XC Int32)} {Lc : List (Nat × XV Int32)} {cn2 sn2 : Nat} (h : vAt KT W ty0 H0 B L s cn sn ρ σ ty H Lc cn2 sn2) (j : Nat) (v : vA) : vAt KT W ty0 H0 B (x_st L j v) s cn sn ρ σ ty H (x_st Lc j (cv ρ σ v)) cn2 sn2 :=
  ⟨h.1, h.2.1, h.2.2.1, h.2.2.2.1, vCov_st h.2.2.2.2.1 j v, h.2.2.2.2.2⟩
theorem vAt_set {KT : vKT} {W : List (Nat × Nat)} {ty0 : Nat → Option Nat} {H0 : List (XC Int32)} {B : Nat} {L : List (Nat × vA)} {s s2 : vSt} {cn sn : lT} {ρ : Nat → Int} {σ : Nat → Nat} {ty : Nat → Option Nat} {H : List (XC Int32)} {Lc : List (Nat × XV Int32)} {cn2 sn2 a c : Nat} {z z2 : XC Int32} (h : vAt KT W ty0 H0 B L s cn sn ρ σ ty H Lc cn2 sn2) (g : vRel KT ρ σ ty (H.set a z2) s2) (ha : ty a = some c) (hz : H[a]? = some z) (hs : vSameC W c z z2) : vAt KT W ty0 H0 B L s2 cn sn ρ σ ty (H.set a z2) Lc cn2 sn2 :=
  ⟨by rw [List.length_set]; exact h.1, h.2.1, vFrm_set h.2.2.1 h.2.1 ha hz hs, g, h.2.2.2.2⟩
/-- what a place's group says of it, where it is one of the lines' rows -/
def vGr1 (KT : vKT) (s : vSt) (f : vK) : Option lT := match f.2.1, f.2.2 with
  | .inr e, .inl l => if (sG s)[f.1]? = some KT.2.1.2.2.2.2 ∧ lDv 4 e = true ∧ lFit (sI s) l = true then
      (if e.1 % 4 = 1 then (match fGet f.1 (.inr (lSub e (lK 1))) (sF s) with
        | some (.inl o) => if (vR (sI s) o).2 ≤ 9 then some (lSub (lK 5) l) else none
        | _ => none)
      else if e.1 % 4 = 2 then (match fGet f.1 (.inr (lSub e (lK 2))) (sF s) with
        | some (.inl o) => if 4 ≤ (vR (sI s) o).1 ∧ (vR (sI s) o).2 ≤ 8 then some (lSub (lK 5) l) else none
        | _ => none) else none) else none
  | _, _ => none
theorem vGr1_spec {KT : vKT} {ρ : Nat → Int} {σ : Nat → Nat} {ty : Nat → Option Nat} {H : List (XC Int32)} {s : vSt} (h : vRel KT ρ σ ty H s) {f : vK} (hf : f ∈ sF s) {c : lT} (hk : vGr1 KT s f = some c) : 0 ≤ lEv ρ c := by
  obtain ⟨i, key, v⟩ := f
  unfold vGr1 at hk
  dsimp only at hk
  split at hk
  rotate_left
  · cases hk
  rename_i e l
  split at hk
  rotate_left
  · cases hk
  rename_i hc
  obtain ⟨c1, c2, c3⟩ := hc
  have hl := lFit_spec h.2.2.2.1 c3
  obtain ⟨t, vs, y1, y0, y2⟩ := vHolds_int (h.2.2.1 _ hf)
  have y1 : H[sR σ i]? = some (.inr (t, vs)) := y1
  have y0 : 0 ≤ lEv ρ e := y0
  have y2 : vs[(lEv ρ e).toNat]? = some (.inl (Int32.ofInt (lEv ρ l))) := y2
  have hg := h.2.2.2.2.2.2.1.2 (sR σ i) t vs (h.2.1 i _ c1) y1
  have hd := lDv_spec (ρ := ρ) c2
  have hd : lEv ρ e % 4 = e.1 % 4 := hd
  have fin : (Int32.ofInt (lEv ρ l)).toInt ≤ 5 → 0 ≤ lEv ρ (lSub (lK 5) l) := fun z => by
    rw [lSub_ev, lK_ev]
    omega
  split at hk
  · rename_i e1
    split at hk
    · rename_i o ho
      split at hk
      · rename_i hr
        cases hk
        obtain ⟨t2, ws, z1, z0, z2⟩ := fGet_spec h.2.2.1 ho
        have z1 : H[sR σ i]? = some (.inr (t2, ws)) := z1
        rw [y1] at z1
        cases z1
        rw [lSub_ev, lK_ev] at z0 z2
        have ho2 := (vR_spec h.2.2.2.1 o).2
        have hq := (hg (lEv ρ e - 1).toNat (Int32.ofInt (lEv ρ o)) (by omega) z2).1 (by omega) (Int32.ofInt (lEv ρ l)) (by
          rw [show (lEv ρ e - 1).toNat + 1 = (lEv ρ e).toNat by omega]
          exact y2)
        exact fin hq
      · cases hk
    · cases hk
  split at hk
  · rename_i e1
    split at hk
    · rename_i o ho
      split at hk
      · rename_i hr
        cases hk
        obtain ⟨t2, ws, z1, z0, z2⟩ := fGet_spec h.2.2.1 ho
        have z1 : H[sR σ i]? = some (.inr (t2, ws)) := z1
        rw [y1] at z1
        cases z1
        rw [lSub_ev, lK_ev] at z0 z2
        have ho2 := vR_spec h.2.2.2.1 o
        have o1 := ho2.1
        have o2 := ho2.2
        have hq := (hg (lEv ρ e - 2).toNat (Int32.ofInt (lEv ρ o)) (by omega) z2).2 (by omega) (by omega) (Int32.ofInt (lEv ρ l)) (by
          rw [show (lEv ρ e - 2).toNat + 2 = (lEv ρ e).toNat by omega]
          exact y2)
        exact fin hq
      · cases hk
    · cases hk
  · cases hk
def vGrA (KT : vKT) (kk : vSt → Bool) : List vK → vSt → Bool
  | [], s => kk s
  | f :: r, s => match vGr1 KT s f with
    | none => vGrA KT kk r s
    | some c => vIf (vCo c s) (fun s2 => vGrA KT kk r s2)
theorem vGrA_spec {KT : vKT} {ρ : Nat → Int} {σ : Nat → Nat} {ty : Nat → Option Nat} {H : List (XC Int32)} {kk : vSt → Bool} : ∀ (l : List vK) {s : vSt}, vRel KT ρ σ ty H s → (∀ f ∈ l, f ∈ sF s) → vGrA KT kk l s = true → ∃ s2, vRel KT ρ σ ty H s2 ∧ vSame0 s s2 ∧ kk s2 = true
  | [], s, h, _, hk => ⟨s, h, vSame0_rf s, hk⟩
  | f :: r, s, h, hl, hk => by
    unfold vGrA at hk
    split at hk
    · exact vGrA_spec r h (fun g hg => hl g (List.mem_cons_of_mem _ hg)) hk
    · rename_i c hc
      obtain ⟨s2, g1, g2, g3⟩ := vIf_spec h (vGr1_spec h (hl f List.mem_cons_self) hc) hk
      obtain ⟨s3, k1, k2, k3⟩ := vGrA_spec r g1 (fun g hg => by rw [g2.2.2.1]; exact hl g (List.mem_cons_of_mem _ hg)) g3
      exact ⟨s3, k1, vSame0_tr g2 k2, k3⟩
theorem x_andz {x m : Int32} (hm : 0 ≤ m.toInt) (h : x &&& (m ^^^ -1) = 0) : 0 ≤ x.toInt ∧ x.toInt ≤ m.toInt := by
  have e : x = x &&& m := by
    apply Int32.toBitVec_inj.mp
    have h2 := congrArg Int32.toBitVec h
    have h3 : x.toBitVec &&& (m.toBitVec ^^^ BitVec.allOnes 32) = 0#32 := h2
    apply BitVec.eq_of_getLsbD_eq
    intro i hi
    have h4 : (x.toBitVec &&& (m.toBitVec ^^^ BitVec.allOnes 32)).getLsbD i = (0#32).getLsbD i := congrArg (fun b => b.getLsbD i) h3
    rw [BitVec.getLsbD_and, BitVec.getLsbD_xor, BitVec.getLsbD_allOnes, BitVec.getLsbD_zero, decide_eq_true hi] at h4
    show x.toBitVec.getLsbD i = (x.toBitVec &&& m.toBitVec).getLsbD i
    rw [BitVec.getLsbD_and]
    revert h4
    cases x.toBitVec.getLsbD i <;> cases m.toBitVec.getLsbD i <;> decide
  have := vAnd (x := x) (y := m) hm
  rw [← e] at this
  exact this
/-- nothing of a beside m: a is one of 0 to m -/
def vZr1 (s : vSt) (m : vMm) : Option (lT × lT) := if m.1 = 3 ∧ lGe (sI s) (sC s) m.2.2.2 = true ∧ lGe (sI s) (sC s) (lSc (-1) m.2.2.2) = true ∧ lFit (sI s) m.2.1 = true then
    (match (sM s).find? (fun n => decide (n.1 = 5) && lEq n.2.2.1 (lK (-1)) && lEq n.2.2.2 m.2.2.1 && lFit (sI s) n.2.1 && lGe (sI s) (sC s) n.2.1) with
    | some n => some (m.2.1, lSub n.2.1 m.2.1)
    | none => none) else none
theorem vZr1_spec {KT : vKT} {ρ : Nat → Int} {σ : Nat → Nat} {ty : Nat → Option Nat} {H : List (XC Int32)} {s : vSt} (h : vRel KT ρ σ ty H s) {m : vMm} (hm : m ∈ sM s) {c : lT × lT} (hk : vZr1 s m = some c) : 0 ≤ lEv ρ c.1 ∧ 0 ≤ lEv ρ c.2 := by
  unfold vZr1 at hk
  split at hk
  rotate_left
  · cases hk
  rename_i hc
  obtain ⟨c1, c2, c3, c4⟩ := hc
  split at hk
  rotate_left
  · cases hk
  rename_i n hn
  cases hk
  have n1 := List.mem_of_find?_eq_some hn
  have n2 := List.find?_some hn
  simp only [Bool.and_eq_true] at n2
  obtain ⟨⟨⟨⟨d1, d2⟩, d3⟩, d4⟩, d5⟩ := n2
  have d1 : n.1 = 5 := of_decide_eq_true d1
  have h1 := h.2.2.2.2.2.1 m hm
  have h2 := h.2.2.2.2.2.1 n n1
  unfold mHd at h1 h2
  have r1 := lGe_spec h.2.2.2.1 h.2.2.2.2.1 c2
  have r2 := lGe_spec h.2.2.2.1 h.2.2.2.2.1 c3
  rw [lSc_ev] at r2
  rw [c1, show lEv ρ m.2.2.2 = 0 by omega] at h1
  rw [d1, lEq_spec d2, lEq_spec d3, lK_ev] at h2
  have f1 := lFit_spec h.2.2.2.1 c4
  have f2 := lFit_spec h.2.2.2.1 d4
  have g2 := lGe_spec h.2.2.2.1 h.2.2.2.2.1 d5
  have h3 : Int32.ofInt (lEv ρ m.2.1) &&& (Int32.ofInt (lEv ρ n.2.1) ^^^ -1) = 0 := by
    have e : Int32.ofInt (lEv ρ n.2.1) ^^^ -1 = Int32.ofInt (lEv ρ m.2.2.1) := h2
    rw [e]
    exact h1
  have := x_andz (by omega) h3
  rw [f1, f2] at this
  show 0 ≤ lEv ρ m.2.1 ∧ 0 ≤ lEv ρ (lSub n.2.1 m.2.1)
  rw [lSub_ev]
  omega
def vZrA (kk : vSt → Bool) : List vMm → vSt → Bool
  | [], s => kk s
  | m :: r, s => match vZr1 s m with
    | none => vZrA kk r s
    | some c => vIf (vCo c.1 s) (fun s2 => vIf (vCo c.2 s2) (fun s3 => kk s3))
theorem vZrA_spec {KT : vKT} {ρ : Nat → Int} {σ : Nat → Nat} {ty : Nat → Option Nat} {H : List (XC Int32)} {kk : vSt → Bool} {s : vSt} (h : vRel KT ρ σ ty H s) : ∀ (l : List vMm), (∀ m ∈ l, m ∈ sM s) → vZrA kk l s = true → ∃ s2, vRel KT ρ σ ty H s2 ∧ vSame0 s s2 ∧ kk s2 = true
  | [], _, hk => ⟨s, h, vSame0_rf s, hk⟩
  | m :: r, hl, hk => by
    unfold vZrA at hk
    split at hk
    · exact vZrA_spec h r (fun g hg => hl g (List.mem_cons_of_mem _ hg)) hk
    · rename_i c hc
      obtain ⟨z1, z2⟩ := vZr1_spec h (hl m List.mem_cons_self) hc
      obtain ⟨s2, g1, g2, g3⟩ := vIf_spec h z1 hk
      obtain ⟨s3, k1, k2, k3⟩ := vIf_spec g1 z2 g3
      exact ⟨s3, k1, vSame0_tr g2 k2, k3⟩
/-- a step of a path: a field; an element at a local, at a number, at what an element (of a local's field, at a local) holds -/
abbrev vPs : Type := Nat ⊕ (Nat ⊕ (Int ⊕ (Nat × Nat × Nat)))
def vPk (L : List (Nat × vA)) (s : vSt) : vPs → Option (Nat ⊕ lT)
  | .inl j => some (.inl j)
  | .inr (.inl l) => match x_lk L l with
    | some (.inl e) => some (.inr e)
    | _ => none
  | .inr (.inr (.inl c)) => some (.inr (lK c))
  | .inr (.inr (.inr p)) => match x_lk L p.1, x_lk L p.2.2 with
    | some (.inr (some i)), some (.inl e) => match fGet i (.inl p.2.1) (sF s) with
      | some (.inr (some a)) => match fGet a (.inr e) (sF s) with
        | some (.inl x) => some (.inr x)
        | _ => none
      | _ => none
    | _, _ => none
/-- what a place of a kind may hold: a field, or an element that is surely there -/
def vPf (KT : vKT) (s : vSt) (i : Nat) (key : Nat ⊕ lT) : Option vF := match (sG s)[i]? with
  | none => none
  | some c => match KT.1[c]?, key with
    | some (.inl o), .inl j => o.2[j]?
    | some (.inr o), .inr e => if vIdx e o.2.1 s then vRes o.2.2 e else none
    | _, _ => none
theorem vPf_spec {KT : vKT} {ρ : Nat → Int} {σ : Nat → Nat} {ty : Nat → Option Nat} {H : List (XC Int32)} {s : vSt} (h : vRel KT ρ σ ty H s) {i : Nat} {key : Nat ⊕ lT} {f : vF} (hk : vPf KT s i key = some f) : ∃ u, vPlace ρ σ H i key u ∧ vFit ty f u := by
  unfold vPf at hk
  split at hk
  · cases hk
  rename_i c hG
  have ha := h.2.1 i c hG
  split at hk
  · rename_i o j ho
    obtain ⟨fs, f1, f2, f3⟩ := vHp_obj h.1 ha ho
    obtain ⟨u, u1, u2⟩ := f3 j f hk
    exact ⟨u, ⟨_, fs, f1, u1⟩, u2⟩
  · rename_i o e ho
    split at hk
    · rename_i hi
      obtain ⟨vs, f1, f2, f3⟩ := vHp_arr h.1 ha ho
      obtain ⟨x1, x2, x3, x4⟩ := vIdx_spec h hi
      obtain ⟨u, u1, u2⟩ := f3 _ f x2 (vRes_spec x3 hk)
      exact ⟨u, ⟨_, vs, f1, x3, u1⟩, u2⟩
    · cases hk
  · cases hk
/-- reads along a path; fb: where a place isn't surely there -/
def vPth (KT : vKT) (L : List (Nat × vA)) (S : List vA) (cn sn : lT) (fb : vSt → Bool) (kk : vSt → vA → Bool) : List vPs → Nat → vSt → Bool
  | [], _, _ => false
  | st :: r, i, s => match vPk L s st with
    | none => false
    | some key => match vPf KT s i key with
      | none => fb s
      | some f => vRdF L S cn sn f i key false s (fun s2 v => match r with
        | [] => kk s2 v
        | _ => match v with
          | .inr (some i2) => vPth KT L S cn sn fb kk r i2 s2
          | _ => false)
theorem vFrP_tr {L : List (Nat × vA)} {r : List vA} {cn sn : lT} {ρ ρ2 ρ3 : Nat → Int} {σ σ2 σ3 : Nat → Nat} (h : vFrP L r cn sn ρ σ ρ2 σ2) (g : vFrP L r cn sn ρ2 σ2 ρ3 σ3) : vFrP L r cn sn ρ σ ρ3 σ3 := ⟨fun Lc z => g.1 Lc (h.1 Lc z), g.2.1.trans h.2.1, g.2.2.1.trans h.2.2.1, g.2.2.2.trans h.2.2.2⟩
theorem vPth_spec {KT : vKT} {ty : Nat → Option Nat} {H : List (XC Int32)} {L : List (Nat × vA)} {S : List vA} {cn sn : lT} {fb : vSt → Bool} {kk : vSt → vA → Bool} : ∀ (p : List vPs) {i : Nat} {s : vSt} {ρ : Nat → Int} {σ : Nat → Nat}, vRel KT ρ σ ty H s → vPth KT L S cn sn fb kk p i s = true →
    ∃ ρ2 σ2 s2, vExt s s2 ρ ρ2 σ σ2 ∧ vRel KT ρ2 σ2 ty H s2 ∧ vFrP L S cn sn ρ σ ρ2 σ2 ∧ (fb s2 = true ∨ ∃ v, kk s2 v = true)
  | [], _, _, _, _, _, hk => by cases hk
  | st :: r, i, s, ρ, σ, h, hk => by
    unfold vPth at hk
    split at hk
    · cases hk
    rename_i key hkey
    split at hk
    · exact ⟨ρ, σ, s, vExt_rf s ρ σ, h, vFrP_rf L S cn sn ρ σ, Or.inl hk⟩
    rename_i f hf
    obtain ⟨u, u1, u2⟩ := vPf_spec h hf
    obtain ⟨ρ2, σ2, s2, v, g1, g2, g3, g4, g5⟩ := vRdF_spec h u1 u2 (fun z => by cases z) hk
    split at g5
    · exact ⟨ρ2, σ2, s2, g1, g2, g4, Or.inr ⟨v, g5⟩⟩
    · split at g5
      · obtain ⟨ρ3, σ3, s3, k1, k2, k3, k4⟩ := vPth_spec r g2 g5
        exact ⟨ρ3, σ3, s3, vExt_tr g1 k1, k2, vFrP_tr g4 k3, k4⟩
      · cases g5
/-- a hint: 0: a local value by value; 1: a cell of the stack is ready; 2: groups; 3: nothing beside; 4: a place is read; 5: and asked whether it is below 0; 6: read, where it is there; 7: two ints of the stack, which is more; 8: the stack's int, is it below 0 -/
abbrev vHn : Type := Nat × Nat × List vPs
def vHnt (KT : vKT) (L : List (Nat × vA)) (S : List vA) (cn sn : lT) (h : vHn) (s : vSt) (kk : vSt → Bool) : Bool :=
  if h.1 = 0 then (match x_lk L h.2.1 with
    | some (.inl l) => match lRn (sI s) l with
      | some t => vSpl l kk ((t.2 - t.1).toNat + 1) t.1 s
      | none => false
    | _ => false)
  else if h.1 = 1 then (match S[h.2.1]? with
    | some (.inr (some i)) => vPro KT i s kk
    | _ => false)
  else if h.1 = 2 then vGrA KT kk (sF s) s
  else if h.1 = 3 then vZrA kk (sM s) s
  else if h.1 = 7 then (match S with
    | .inl b :: .inl a :: _ => vAsk (lSub a b) s kk kk
    | _ => false)
  else if h.1 = 8 then (match S with
    | .inl a :: _ => vAsk a s kk kk
    | _ => false)
  else match x_lk L h.2.1 with
    | some (.inr (some i)) => if h.1 = 4 then vPth KT L S cn sn (fun _ => false) (fun s2 _ => kk s2) h.2.2 i s
      else if h.1 = 5 then vPth KT L S cn sn (fun _ => false) (fun s2 v => match v with
        | .inl l => vAsk l s2 kk kk
        | _ => false) h.2.2 i s
      else vPth KT L S cn sn kk (fun s2 _ => kk s2) h.2.2 i s
    | _ => false
theorem vHnt_spec {KT : vKT} {ρ : Nat → Int} {σ : Nat → Nat} {ty ty0 : Nat → Option Nat} {H : List (XC Int32)} {s : vSt} (h : vRel KT ρ σ ty H s) (h0 : vLe ty0 ty) (hr : ∀ a c, ty0 a = some c → kRaw KT c = none) {L : List (Nat × vA)} {S : List vA} {cn sn : lT} {hn : vHn} {kk : vSt → Bool} (hk : vHnt KT L S cn sn hn s kk = true) :
    ∃ ρ2 σ2 ty2 s2, vExt s s2 ρ ρ2 σ σ2 ∧ vRel KT ρ2 σ2 ty2 H s2 ∧ vLe ty0 ty2 ∧ vFrP L S cn sn ρ σ ρ2 σ2 ∧ kk s2 = true := by
  have same : ∀ s2, vRel KT ρ σ ty H s2 → vSame0 s s2 → kk s2 = true → ∃ ρ2 σ2 ty2 s2, vExt s s2 ρ ρ2 σ σ2 ∧ vRel KT ρ2 σ2 ty2 H s2 ∧ vLe ty0 ty2 ∧ vFrP L S cn sn ρ σ ρ2 σ2 ∧ kk s2 = true := fun s2 g1 g2 g3 => ⟨ρ, σ, ty, s2, vSame0_ext g2 ρ σ, g1, h0, vFrP_rf L S cn sn ρ σ, g3⟩
  unfold vHnt at hk
  split at hk
  · split at hk
    · split at hk
      · obtain ⟨s2, g0, g1, g2⟩ := vSpl_spec _ _ h hk
        exact same s2 g0 g1 g2
      · cases hk
    · cases hk
  split at hk
  · split at hk
    · obtain ⟨ty2, s2, x1, g0, g1, g2⟩ := vPro_spec h h0 hr hk
      exact ⟨ρ, σ, ty2, s2, x1, g0, g1, vFrP_rf L S cn sn ρ σ, g2⟩
    · cases hk
  split at hk
  · obtain ⟨s2, g0, g1, g2⟩ := vGrA_spec _ h (fun _ z => z) hk
    exact same s2 g0 g1 g2
  split at hk
  · obtain ⟨s2, g0, g1, g2⟩ := vZrA_spec h _ (fun _ z => z) hk
    exact same s2 g0 g1 g2
  split at hk
  · split at hk
    · obtain ⟨s2, g0, g1, g2⟩ := vAsk_spec h hk
      exact same s2 g0 g1 (by
        rcases g2 with ⟨-, g2⟩ | ⟨-, g2⟩
        · exact g2
        · exact g2)
    · cases hk
  split at hk
  · split at hk
    · obtain ⟨s2, g0, g1, g2⟩ := vAsk_spec h hk
      exact same s2 g0 g1 (by
        rcases g2 with ⟨-, g2⟩ | ⟨-, g2⟩
        · exact g2
        · exact g2)
    · cases hk
  split at hk
  · split at hk
    · obtain ⟨ρ2, σ2, s2, g1, g2, g3, g4⟩ := vPth_spec _ h hk
      rcases g4 with g4 | ⟨v, g4⟩
      · cases g4
      · exact ⟨ρ2, σ2, ty, s2, g1, g2, h0, g3, g4⟩
    split at hk
    · obtain ⟨ρ2, σ2, s2, g1, g2, g3, g4⟩ := vPth_spec _ h hk
      rcases g4 with g4 | ⟨v, g4⟩
      · cases g4
      · rcases v with l | v
        · obtain ⟨s3, k1, k2, k3⟩ := vAsk_spec g2 g4
          have k4 : kk s3 = true := by
            rcases k3 with ⟨-, k3⟩ | ⟨-, k3⟩
            · exact k3
            · exact k3
          exact ⟨ρ2, σ2, ty, s3, vExt_tr g1 (vSame0_ext k2 ρ2 σ2), k1, h0, g3, k4⟩
        · cases g4
    · obtain ⟨ρ2, σ2, s2, g1, g2, g3, g4⟩ := vPth_spec _ h hk
      have k4 : kk s2 = true := by
        rcases g4 with g4 | ⟨v, g4⟩
        · exact g4
        · exact g4
      exact ⟨ρ2, σ2, ty, s2, g1, g2, h0, g3, k4⟩
  · cases hk
def vHnA (KT : vKT) (L : List (Nat × vA)) (S : List vA) (cn sn : lT) (kk : vSt → Bool) : List vHn → vSt → Bool
  | [], s => kk s
  | h :: r, s => vHnt KT L S cn sn h s (fun s2 => vHnA KT L S cn sn kk r s2)
theorem vHnA_spec {KT : vKT} {ty0 : Nat → Option Nat} {H : List (XC Int32)} (hr : ∀ a c, ty0 a = some c → kRaw KT c = none) {L : List (Nat × vA)} {S : List vA} {cn sn : lT} {kk : vSt → Bool} : ∀ (l : List vHn) {ρ : Nat → Int} {σ : Nat → Nat} {ty : Nat → Option Nat} {s : vSt}, vRel KT ρ σ ty H s → vLe ty0 ty → vHnA KT L S cn sn kk l s = true →
    ∃ ρ2 σ2 ty2 s2, vExt s s2 ρ ρ2 σ σ2 ∧ vRel KT ρ2 σ2 ty2 H s2 ∧ vLe ty0 ty2 ∧ vFrP L S cn sn ρ σ ρ2 σ2 ∧ kk s2 = true
  | [], ρ, σ, ty, s, h, h0, hk => ⟨ρ, σ, ty, s, vExt_rf s ρ σ, h, h0, vFrP_rf L S cn sn ρ σ, hk⟩
  | n :: r, ρ, σ, ty, s, h, h0, hk => by
    obtain ⟨ρ2, σ2, ty2, s2, g1, g2, g3, g4, g5⟩ := vHnt_spec h h0 hr hk
    obtain ⟨ρ3, σ3, ty3, s3, k1, k2, k3, k4, k5⟩ := vHnA_spec hr r g2 g3 g5
    exact ⟨ρ3, σ3, ty3, s3, vExt_tr g1 k1, k2, k3, vFrP_tr g4 k4, k5⟩
abbrev vCu : Type := Nat → Option (List (Nat × vA) → List vA → vSt → lT → lT → Bool)
/-- THE CHECKER: fuel, what is skipped here (1: the note, 2: the hint too), depth, method, place, locals, stack, state, cells and slots made, notes, what is asked of returns -/
def vChkO (KT : vKT) (tb : XT) (tyl : List FieldType) (ov : vOt) (CT : Nat → List vCt) (hs : Nat → Nat → Option (List vHn)) (kn : Nat → Nat → Option Nat) (W : List (Nat × Nat)) : Nat → Nat → Nat → Nat → Nat → List (Nat × vA) → List vA → vSt → lT → lT → vCu → (vSt → Option vA → Bool) → Bool
  | 0, _, _, _, _, _, _, _, _, _, _, _ => false
  | f + 1, go, dp, k, pc, L, S, s, cn, sn, cu, ret =>
    match (if go = 0 then cu pc else none) with
    | some g => g L S s cn sn
    | none => match (if go ≤ 1 then hs k pc else none) with
    | some x => vHnA KT L S cn sn (fun s2 => vChkO KT tb tyl ov CT hs kn W f 2 dp k pc L S s2 cn sn cu ret) x s
    | none => match tMth tb k with
    | none => false
    | some q => match mC q pc with
    | none => false
    | some (i, _) => match i with
      | .iconst x => vChkO KT tb tyl ov CT hs kn W f 0 dp k (pc + 1) L (.inl (lK (Int32.ofInt x).toInt) :: S) s cn sn cu ret
      | .bipush x => vChkO KT tb tyl ov CT hs kn W f 0 dp k (pc + 2) L (.inl (lK (Int8.ofInt x).toInt32.toInt) :: S) s cn sn cu ret
      | .sipush x => vChkO KT tb tyl ov CT hs kn W f 0 dp k (pc + 3) L (.inl (lK (Int16.ofInt x).toInt32.toInt) :: S) s cn sn cu ret
      | .aconst_null => vChkO KT tb tyl ov CT hs kn W f 0 dp k (pc + 1) L (.inr none :: S) s cn sn cu ret
      | .iload_n j => match x_lk L j with
        | some (.inl a) => vChkO KT tb tyl ov CT hs kn W f 0 dp k (pc + 1) L (.inl (lNm (sI s) a) :: S) s cn sn cu ret
        | _ => false
      | .iload j => match x_lk L j with
        | some (.inl a) => vChkO KT tb tyl ov CT hs kn W f 0 dp k (pc + 2) L (.inl (lNm (sI s) a) :: S) s cn sn cu ret
        | _ => false
      | .aload_n j => match x_lk L j with
        | some (.inr a) => vChkO KT tb tyl ov CT hs kn W f 0 dp k (pc + 1) L (.inr a :: S) s cn sn cu ret
        | _ => false
      | .aload j => match x_lk L j with
        | some (.inr a) => vChkO KT tb tyl ov CT hs kn W f 0 dp k (pc + 2) L (.inr a :: S) s cn sn cu ret
        | _ => false
      | .iadd => match S with
        | .inl b :: .inl a :: r => vBinF L r cn sn 0 a b s (fun s2 t => vChkO KT tb tyl ov CT hs kn W f 0 dp k (pc + 1) L (.inl t :: r) s2 cn sn cu ret)
        | _ => false
      | .isub => match S with
        | .inl b :: .inl a :: r => vBinF L r cn sn 1 a b s (fun s2 t => vChkO KT tb tyl ov CT hs kn W f 0 dp k (pc + 1) L (.inl t :: r) s2 cn sn cu ret)
        | _ => false
      | .imul => match S with
        | .inl b :: .inl a :: r => vBinF L r cn sn 2 a b s (fun s2 t => vChkO KT tb tyl ov CT hs kn W f 0 dp k (pc + 1) L (.inl t :: r) s2 cn sn cu ret)
        | _ => false
      | .iand => match S with
        | .inl b :: .inl a :: r => vBinF L r cn sn 3 a b s (fun s2 t => vChkO KT tb tyl ov CT hs kn W f 0 dp k (pc + 1) L (.inl t :: r) s2 cn sn cu ret)
        | _ => false
      | .ior => match S with
        | .inl b :: .inl a :: r => vBinF L r cn sn 4 a b s (fun s2 t => vChkO KT tb tyl ov CT hs kn W f 0 dp k (pc + 1) L (.inl t :: r) s2 cn sn cu ret)
        | _ => false
      | .ixor => match S with
        | .inl b :: .inl a :: r => vBinF L r cn sn 5 a b s (fun s2 t => vChkO KT tb tyl ov CT hs kn W f 0 dp k (pc + 1) L (.inl t :: r) s2 cn sn cu ret)
        | _ => false
      | .ishl => match S with
        | .inl b :: .inl a :: r => vBinF L r cn sn 6 a b s (fun s2 t => vChkO KT tb tyl ov CT hs kn W f 0 dp k (pc + 1) L (.inl t :: r) s2 cn sn cu ret)
        | _ => false
      | .ishr => match S with
        | .inl b :: .inl a :: r => vBinF L r cn sn 7 a b s (fun s2 t => vChkO KT tb tyl ov CT hs kn W f 0 dp k (pc + 1) L (.inl t :: r) s2 cn sn cu ret)
        | _ => false
      | .iushr => match S with
        | .inl b :: .inl a :: r => vBinF L r cn sn 10 a b s (fun s2 t => vChkO KT tb tyl ov CT hs kn W f 0 dp k (pc + 1) L (.inl t :: r) s2 cn sn cu ret)
        | _ => false
      | .idiv => match S with
        | .inl b :: .inl a :: r => vBr 0 b (lK 0) s (fun _ => false) (fun s1 => vBinF L r cn sn 8 a b s1 (fun s2 t => vChkO KT tb tyl ov CT hs kn W f 0 dp k (pc + 1) L (.inl t :: r) s2 cn sn cu ret))
        | _ => false
      | .irem => match S with
        | .inl b :: .inl a :: r => vBr 0 b (lK 0) s (fun _ => false) (fun s1 => vBinF L r cn sn 9 a b s1 (fun s2 t => vChkO KT tb tyl ov CT hs kn W f 0 dp k (pc + 1) L (.inl t :: r) s2 cn sn cu ret))
        | _ => false
      | .i2b => match S with
        | .inl a :: r => vFr L r cn sn s && vUn 0 a s (fun s2 t => vChkO KT tb tyl ov CT hs kn W f 0 dp k (pc + 1) L (.inl t :: r) s2 cn sn cu ret)
        | _ => false
      | .i2s => match S with
        | .inl a :: r => vFr L r cn sn s && vUn 1 a s (fun s2 t => vChkO KT tb tyl ov CT hs kn W f 0 dp k (pc + 1) L (.inl t :: r) s2 cn sn cu ret)
        | _ => false
      | .i2c => match S with
        | .inl a :: r => vFr L r cn sn s && vUn 2 a s (fun s2 t => vChkO KT tb tyl ov CT hs kn W f 0 dp k (pc + 1) L (.inl t :: r) s2 cn sn cu ret)
        | _ => false
      | .ineg => match S with
        | .inl a :: r => vFr L r cn sn s && vUn 3 a s (fun s2 t => vChkO KT tb tyl ov CT hs kn W f 0 dp k (pc + 1) L (.inl t :: r) s2 cn sn cu ret)
        | _ => false
      | .goto x => match x_jp pc x with
        | some t => vChkO KT tb tyl ov CT hs kn W f 0 dp k t L S s cn sn cu ret
        | none => false
      | .if_icmp c x => match x_jp pc x with
        | some t => match S with
          | .inl b :: .inl a :: r => vBr (x_cn c) a b s (fun s2 => vChkO KT tb tyl ov CT hs kn W f 0 dp k t L r s2 cn sn cu ret) (fun s2 => vChkO KT tb tyl ov CT hs kn W f 0 dp k (pc + 3) L r s2 cn sn cu ret)
          | _ => false
        | none => false
      | .ifCond c x => match x_jp pc x with
        | some t => match S with
          | .inl a :: r => vBr (x_cn c) a (lK 0) s (fun s2 => vChkO KT tb tyl ov CT hs kn W f 0 dp k t L r s2 cn sn cu ret) (fun s2 => vChkO KT tb tyl ov CT hs kn W f 0 dp k (pc + 3) L r s2 cn sn cu ret)
          | _ => false
        | none => false
      | .istore_n j => match S with
        | .inl a :: r => decide ((j : Nat) < mL q) && vChkO KT tb tyl ov CT hs kn W f 0 dp k (pc + 1) (x_st L j (.inl a)) r s cn sn cu ret
        | _ => false
      | .istore j => match S with
        | .inl a :: r => decide ((j : Nat) < mL q) && vChkO KT tb tyl ov CT hs kn W f 0 dp k (pc + 2) (x_st L j (.inl a)) r s cn sn cu ret
        | _ => false
      | .astore_n j => match S with
        | .inr a :: r => decide ((j : Nat) < mL q) && vChkO KT tb tyl ov CT hs kn W f 0 dp k (pc + 1) (x_st L j (.inr a)) r s cn sn cu ret
        | _ => false
      | .astore j => match S with
        | .inr a :: r => decide ((j : Nat) < mL q) && vChkO KT tb tyl ov CT hs kn W f 0 dp k (pc + 2) (x_st L j (.inr a)) r s cn sn cu ret
        | _ => false
      | .iinc j x => match x_lk L j with
        | some (.inl a) => decide (j < mL q) && vBinF L S cn sn 0 a (lK (Int32.ofInt x).toInt) s (fun s2 t => vChkO KT tb tyl ov CT hs kn W f 0 dp k (pc + 3) (x_st L j (.inl t)) S s2 cn sn cu ret)
        | _ => false
      | .dup => match S with
        | a :: r => vChkO KT tb tyl ov CT hs kn W f 0 dp k (pc + 1) L (a :: a :: r) s cn sn cu ret
        | _ => false
      | .dup_x1 => match S with
        | a :: b :: r => vChkO KT tb tyl ov CT hs kn W f 0 dp k (pc + 1) L (a :: b :: a :: r) s cn sn cu ret
        | _ => false
      | .dup2 => match S with
        | a :: b :: r => vChkO KT tb tyl ov CT hs kn W f 0 dp k (pc + 1) L (a :: b :: a :: b :: r) s cn sn cu ret
        | _ => false
      | .pop => match S with
        | _ :: r => vChkO KT tb tyl ov CT hs kn W f 0 dp k (pc + 1) L (r) s cn sn cu ret
        | _ => false
      | .ifnull x => match x_jp pc x with
        | some t => match S with
          | .inr none :: r => vChkO KT tb tyl ov CT hs kn W f 0 dp k t L r s cn sn cu ret
          | .inr (some _) :: r => vChkO KT tb tyl ov CT hs kn W f 0 dp k (pc + 3) L r s cn sn cu ret
          | _ => false
        | none => false
      | .ifnonnull x => match x_jp pc x with
        | some t => match S with
          | .inr none :: r => vChkO KT tb tyl ov CT hs kn W f 0 dp k (pc + 3) L r s cn sn cu ret
          | .inr (some _) :: r => vChkO KT tb tyl ov CT hs kn W f 0 dp k t L r s cn sn cu ret
          | _ => false
        | none => false
      | .ireturn => match S with
        | [.inl e] => vRt (mR q) e s && (cOk s cn (mMc q) && cOk s sn (mMs q)) && ret s (some (.inl e))
        | _ => false
      | .return_ => match S with
        | [] => decide (mR q = none) && (cOk s cn (mMc q) && cOk s sn (mMs q)) && ret s none
        | _ => false
      | .areturn => match S with
        | [.inr o] => (match mR q with | some (.object _) => true | some (.array _) => true | _ => false) && (cOk s cn (mMc q) && cOk s sn (mMs q)) && ret s (some (.inr o))
        | _ => false
      | .getfield ix => match S with
        | .inr (some a) :: r => if 1000000 < a then (match ov.2.1 a (mO q) ix with
            | some u => match vOv u with
              | some v => vChkO KT tb tyl ov CT hs kn W f 0 dp k (pc + 3) L (v :: r) s cn sn cu ret
              | none => false
            | none => false) else match tFld tb (mO q) ix with
          | some y => match (sG s)[a]? with
            | some c => match KT.1[c]? with
              | some (.inl o) => match o.2[y.2]? with
                | some fz => decide (o.1 = y.1) && vRdF L r cn sn fz a (.inl y.2) false s (fun s2 v => vChkO KT tb tyl ov CT hs kn W f 0 dp k (pc + 3) L (v :: r) s2 cn sn cu ret)
                | none => false
              | _ => false
            | none => false
          | none => false
        | _ => false
      | .iaload => match S with
        | .inl e :: .inr (some a) :: r => match (sG s)[a]? with
          | some c => match KT.1[c]? with
            | some (.inr o) => decide (o.1 = 0) && vIdx e o.2.1 s && (match vRes o.2.2 e with
              | some fz => vRdF L r cn sn fz a (.inr e) false s (fun s2 v => vChkO KT tb tyl ov CT hs kn W f 0 dp k (pc + 1) L (v :: r) s2 cn sn cu ret)
              | none => false)
            | _ => false
          | none => false
        | _ => false
      | .baload => match S with
        | .inl e :: .inr (some a) :: r => if 1000000 < a then (match ov.2.2.2.1 a with
            | some bs => decide (e.2 = []) && vIdx e bs.length s && vChkO KT tb tyl ov CT hs kn W f 0 dp k (pc + 1) L (.inl (lK (bs.getD e.1.toNat 0).toInt) :: r) s cn sn cu ret
            | none => false) else match (sG s)[a]? with
          | some c => match KT.1[c]? with
            | some (.inr o) => decide (o.1 = 1) && vIdx e o.2.1 s && (match vRes o.2.2 e with
              | some fz => vRdF L r cn sn fz a (.inr e) false s (fun s2 v => vChkO KT tb tyl ov CT hs kn W f 0 dp k (pc + 1) L (v :: r) s2 cn sn cu ret)
              | none => false)
            | _ => false
          | none => false
        | _ => false
      | .aaload => match S with
        | .inl e :: .inr (some a) :: r => match (sG s)[a]? with
          | some c => match KT.1[c]? with
            | some (.inr o) => decide ((tyl[o.1]?.map x_isRef) = some true) && vIdx e o.2.1 s && (match vRes o.2.2 e with
              | some fz => vRdF L r cn sn fz a (.inr e) (decide (c = KT.2.1.2.2.2.1) && vNnQ KT a e s) s (fun s2 v => vChkO KT tb tyl ov CT hs kn W f 0 dp k (pc + 1) L (v :: r) s2 cn sn cu ret)
              | none => false)
            | _ => false
          | none => false
        | _ => false
      | .iastore => match S with
        | .inl x :: .inl e :: .inr (some a) :: r => match (sG s)[a]? with
          | some c => match KT.1[c]? with
            | some (.inr o) => (decide (o.1 = 0) && decide (c ≠ KT.2.1.2.2.2.1) && decide (c ≠ KT.2.1.2.2.2.2) && wIn W c 0 && vIdx e o.2.1 s) && (match vRes o.2.2 e with
              | some fz => vFits fz (.inl x) s && true
              | none => false) && vChkO KT tb tyl ov CT hs kn W f 0 dp k (pc + 1) L r (vSto a e (.inl x) s) cn sn cu ret
            | _ => false
          | none => false
        | _ => false
      | .bastore => match S with
        | .inl x :: .inl e :: .inr (some a) :: r => match (sG s)[a]? with
          | some c => match KT.1[c]? with
            | some (.inr o) => (decide (o.1 = 1) && decide (c ≠ KT.2.1.2.2.2.1) && decide (c ≠ KT.2.1.2.2.2.2) && (wIn W c 0 || (wIn W c 1 && lEq x (lK 1))) && vIdx e o.2.1 s) && (match vRes o.2.2 e with
              | some fz => vFits fz (.inl x) s && vB01 x s
              | none => false) && vChkO KT tb tyl ov CT hs kn W f 0 dp k (pc + 1) L r (vSto a e (.inl x) s) cn sn cu ret
            | _ => false
          | none => false
        | _ => false
      | .aastore => match S with
        | .inr (some x) :: .inl e :: .inr (some a) :: r => match (sG s)[a]? with
          | some c => match KT.1[c]? with
            | some (.inr o) => (decide (c ≠ KT.2.1.2.2.2.2) && wIn W c 0 && vIdx e o.2.1 s) && (match vRes o.2.2 e with
              | some fz => vFits fz (.inr (some x)) s
              | none => false) && (match (sG s)[x]? with
                | some d => match KT.1[d]? with
                  | some (.inl p) => match tyl[o.1]? with
                    | some (.object nm) => decide (nm = tNm tb p.1) && vChkO KT tb tyl ov CT hs kn W f 0 dp k (pc + 1) L r (vSto a e (.inr (some x)) s) cn sn cu ret
                    | _ => false
                  | _ => false
                | none => false)
            | _ => false
          | none => false
        | _ => false
      | .putfield ix => match S with
        | v :: .inr (some a) :: r => match tFld tb (mO q) ix with
          | some y => match (sG s)[a]? with
            | some c => match KT.1[c]? with
              | some (.inl o) => match o.2[y.2]? with
                | some fz => match (tFt tb y.1)[y.2]? with
                  | some ty => decide (o.1 = y.1) && (vFits fz v s && (vTyp ty.1 v s && (!ty.2 || (mI q && decide (mRc q = y.1))))) && (wIn W c (y.2 + 1) && vPutQ KT c a y.2 v s) && vChkO KT tb tyl ov CT hs kn W f 0 dp k (pc + 3) L r (vPut a y.2 v s) cn sn cu ret
                  | none => false
                | none => false
              | _ => false
            | none => false
          | none => false
        | _ => false
      | .ldc ix => match tLi tb (mO q) ix with
        | some x => vChkO KT tb tyl ov CT hs kn W f 0 dp k (pc + 2) L (.inl (lK x.toInt) :: S) s cn sn cu ret
        | none => match ov.1 (mO q) ix with
          | some a => decide (1000000 ≤ a) && vChkO KT tb tyl ov CT hs kn W f 0 dp k (pc + 2) L (.inr (some a) :: S) s cn sn cu ret
          | none => false
      | .ldc_w ix => match tLi tb (mO q) ix with
        | some x => vChkO KT tb tyl ov CT hs kn W f 0 dp k (pc + 3) L (.inl (lK x.toInt) :: S) s cn sn cu ret
        | none => match ov.1 (mO q) ix with
          | some a => decide (1000000 ≤ a) && vChkO KT tb tyl ov CT hs kn W f 0 dp k (pc + 3) L (.inr (some a) :: S) s cn sn cu ret
          | none => false
      | .i2l => match S, x_lq q pc with
        | .inl a :: r, some (j, j0, ix, j2) => match x_lk L j, x_lk L j0, x_lk L j2, tFld tb (mO q) ix with
          | some (.inl b), some (.inr (some o)), some (.inl e), some y => (match (sG s)[o]? with
            | some c => match KT.1[c]? with
              | some (.inl ob) => match ob.2[y.2]? with
                | some fz => decide (ob.1 = y.1) && vRdF L (.inl a :: .inl b :: .inl (lNm (sI s) e) :: r) cn sn fz o (.inl y.2) false s (fun s2 v2 => match v2 with
                  | .inr (some ar) => match (sG s2)[ar]? with
                    | some c2 => match KT.1[c2]? with
                      | some (.inr oa) => decide (oa.1 = 0) && vIdx (lNm (sI s) e) oa.2.1 s2 && (match vRes oa.2.2 (lNm (sI s) e) with
                        | some fz2 => vRdF L (.inl a :: .inl b :: r) cn sn fz2 ar (.inr (lNm (sI s) e)) false s2 (fun s3 v3 => match v3 with
                          | .inl lv => vL3 a b lv s3 (fun x s4 => vChkO KT tb tyl ov CT hs kn W f 0 dp k (pc + 13) L (.inl (lK x) :: r) s4 cn sn cu ret)
                          | _ => false)
                        | none => false)
                      | _ => false
                    | none => false
                  | _ => false)
                | none => false
              | _ => false
            | none => false)
          | _, _, _, _ => false
        | _, _ => false
      | .getstatic ix => match ov.2.2.1 (mO q) ix with
        | some u => match vOv u with
          | some v => vChkO KT tb tyl ov CT hs kn W f 0 dp k (pc + 3) L (v :: S) s cn sn cu ret
          | none => false
        | none => false
      | .arraylength => match S with
        | .inr (some a) :: r => if 1000000 < a then (match ov.2.2.2.1 a with
            | some bs => vChkO KT tb tyl ov CT hs kn W f 0 dp k (pc + 1) L (.inl (lK (Int32.ofNat bs.length).toInt) :: r) s cn sn cu ret
            | none => false) else false
        | _ => false
      | .tableswitch df lo up os => match S with
        | .inl a :: r => decide (up + 1 = lo + os.size) && x_swk (x_tp lo os.toList) && vSw a df (fun o s2 => match x_jp pc o with
          | some t => vChkO KT tb tyl ov CT hs kn W f 0 dp k t L r s2 cn sn cu ret
          | none => false) (x_tp lo os.toList) s
        | _ => false
      | .lookupswitch df ps => match S with
        | .inl a :: r => (ps.toList.zip (ps.toList.drop 1)).all (fun (a, next) => a.1 < next.1) && x_swk ps.toList && vSw a df (fun o s2 => match x_jp pc o with
          | some t => vChkO KT tb tyl ov CT hs kn W f 0 dp k t L r s2 cn sn cu ret
          | none => false) ps.toList s
        | _ => false
      | .new ix => match tNw tb (mO q) ix with
        | some ci => match kn k pc with
          | some c => match KT.1[c]? with
            | some (.inl o) => decide (o.1 = ci) && vDefs (tFt tb ci) o.2 && (decide (c ≠ KT.2.1.1) && decide (c ≠ KT.2.1.2.2.2.2)) && (cOk s (lAdd cn (lK 1)) (mMc q) && cOk s (lAdd sn (lK ((tFt tb ci).length : Int))) (mMs q)) && (vFr L S cn sn s && sBd s) && vChkO KT tb tyl ov CT hs kn W f 0 dp k (pc + 3) L (.inr (some (sG s).length) :: S) (vMkD KT c (tFt tb ci) s) (lAdd cn (lK 1)) (lAdd sn (lK ((tFt tb ci).length : Int))) cu ret
            | _ => false
          | none => false
        | none => false
      | .newarray at_ => match S with
        | .inl e :: r => match kn k pc with
          | some c => match KT.1[c]? with
            | some (.inr o) => (match at_ with | .int => decide (o.1 = 0) | .boolean => decide (o.1 = 1) | _ => false) && decide (e.2 = []) && decide (e.1 = (o.2.1 : Int)) && decide (o.2.1 ≤ 100000) && o.2.2.all vZero && (decide (c ≠ KT.2.1.1) && decide (c ≠ KT.2.1.2.2.2.2)) && (cOk s (lAdd cn (lK 1)) (mMc q) && cOk s (lAdd sn (lK (o.2.1 : Int))) (mMs q)) && (vFr L r cn sn s && sBd s) && vChkO KT tb tyl ov CT hs kn W f 0 dp k (pc + 2) L (.inr (some (sG s).length) :: r) (vMkA KT c s) (lAdd cn (lK 1)) (lAdd sn (lK (o.2.1 : Int))) cu ret
            | _ => false
          | none => false
        | _ => false
      | .multianewarray ix dm => match S with
        | .inl e2 :: .inl e1 :: r => match tMn tb (mO q) ix with
          | some y => match kn k pc with
            | some c => match KT.1[c]? with
              | some (.inr o) => match o.2.2 with
                | [.inr w] => match KT.1[w.2]? with
                  | some (.inr p) => (decide (dm = 2) && decide (y.1 = o.1) && decide (y.2 = p.1) && decide (p.1 < 2) && lEq e1 (lK (o.2.1 : Int)) && lEq e2 (lK (p.2.1 : Int)) && decide (o.2.1 ≤ 1000) && decide (p.2.1 ≤ 1000) && decide (w.1 = false) && p.2.2.all vZero && (kRaw KT c).isNone && (kRaw KT w.2).isNone && decide (c ≠ KT.2.1.1) && decide (w.2 ≠ KT.2.1.1) && decide (c ≠ KT.2.1.2.2.2.2) && decide (w.2 ≠ KT.2.1.2.2.2.2)) && (cOk s (lAdd cn (lK ((1 + o.2.1 : Nat) : Int))) (mMc q) && cOk s (lAdd sn (lK ((o.2.1 + o.2.1 * p.2.1 : Nat) : Int))) (mMs q)) && (vFr L r cn sn s && (sBd s && decide ((sG s).length + 1 + o.2.1 < 1000000))) && vChkO KT tb tyl ov CT hs kn W f 0 dp k (pc + 4) L (.inr (some (sG s).length) :: r) (vMuM c w.2 o.2.1 s) (lAdd cn (lK ((1 + o.2.1 : Nat) : Int))) (lAdd sn (lK ((o.2.1 + o.2.1 * p.2.1 : Nat) : Int))) cu ret
                  | _ => false
                | _ => false
              | _ => false
            | none => false
          | none => false
        | _ => false
      | .invokevirtual ix => match tCal tb (mO q) ix with
        | some y => match dp with
          | dp2 + 1 => match tMth tb y.1 with
            | some q2 => match S.drop (mNp q2) with
              | .inr (some a) :: r => (decide (mNp q2 + 1 ≤ S.length) && decide (y.2 = 0) && vCls KT ov a (mRc q2) s && decide (r.length ≤ 8) && decide (mNp q2 + 1 ≤ mL q2) && (cOk s (lAdd cn (lK (mMc q2 : Int))) (mMc q) && cOk s (lAdd sn (lK (mMs q2 : Int))) (mMs q))) && (if (CT y.1).isEmpty then vFr L r cn sn s && vChkO KT tb tyl ov CT hs kn W f 0 dp2 y.1 0 (x_en 0 (.inr (some a) :: (S.take (mNp q2)).reverse)) [] s (lK 0) (lK 0) (fun _ => none) (fun s2 v => vChkO KT tb tyl ov CT hs kn W f 0 (dp2 + 1) k (pc + 3) L (x_push v r) s2 (lAdd cn (lK (mMc q2 : Int))) (lAdd sn (lK (mMs q2 : Int))) cu ret)
                else vFr L r cn sn s && vCal W dp2 (.inr (some a) :: (S.take (mNp q2)).reverse) s (fun s2 vs => match vs with
                  | [] => vChkO KT tb tyl ov CT hs kn W f 0 (dp2 + 1) k (pc + 3) L r s2 (lAdd cn (lK (mMc q2 : Int))) (lAdd sn (lK (mMs q2 : Int))) cu ret
                  | [v] => vChkO KT tb tyl ov CT hs kn W f 0 (dp2 + 1) k (pc + 3) L (v :: r) s2 (lAdd cn (lK (mMc q2 : Int))) (lAdd sn (lK (mMs q2 : Int))) cu ret
                  | _ => false) (CT y.1))
              | _ => false
            | none => false
          | 0 => false
        | none => false
      | .invokespecial ix => if tBi tb (mO q) ix = some 0 then (match S with
        | .inr (some _) :: r => decide (r.length ≤ 8) && vChkO KT tb tyl ov CT hs kn W f 0 dp k (pc + 3) L r s cn sn cu ret
        | _ => false) else if tBi tb (mO q) ix = none then (match tCal tb (mO q) ix with
        | some y => match dp with
          | dp2 + 1 => match tMth tb y.1 with
            | some q2 => match S.drop (mNp q2) with
              | .inr (some a) :: r => (decide (mNp q2 + 1 ≤ S.length) && decide (y.2 = 1) && true && decide (r.length ≤ 8) && decide (mNp q2 + 1 ≤ mL q2) && (cOk s (lAdd cn (lK (mMc q2 : Int))) (mMc q) && cOk s (lAdd sn (lK (mMs q2 : Int))) (mMs q))) && (if (CT y.1).isEmpty then vFr L r cn sn s && vChkO KT tb tyl ov CT hs kn W f 0 dp2 y.1 0 (x_en 0 (.inr (some a) :: (S.take (mNp q2)).reverse)) [] s (lK 0) (lK 0) (fun _ => none) (fun s2 v => vChkO KT tb tyl ov CT hs kn W f 0 (dp2 + 1) k (pc + 3) L (x_push v r) s2 (lAdd cn (lK (mMc q2 : Int))) (lAdd sn (lK (mMs q2 : Int))) cu ret)
                else vFr L r cn sn s && vCal W dp2 (.inr (some a) :: (S.take (mNp q2)).reverse) s (fun s2 vs => match vs with
                  | [] => vChkO KT tb tyl ov CT hs kn W f 0 (dp2 + 1) k (pc + 3) L r s2 (lAdd cn (lK (mMc q2 : Int))) (lAdd sn (lK (mMs q2 : Int))) cu ret
                  | [v] => vChkO KT tb tyl ov CT hs kn W f 0 (dp2 + 1) k (pc + 3) L (v :: r) s2 (lAdd cn (lK (mMc q2 : Int))) (lAdd sn (lK (mMs q2 : Int))) cu ret
                  | _ => false) (CT y.1))
              | _ => false
            | none => false
          | 0 => false
        | none => false) else false
      | .invokestatic ix => match tCal tb (mO q) ix with
        | some y => match dp with
          | dp2 + 1 => match tMth tb y.1 with
            | some q2 => (decide (mNp q2 ≤ S.length) && decide (2 ≤ y.2) && decide ((S.drop (mNp q2)).length ≤ 8) && decide (mNp q2 ≤ mL q2) && (cOk s (lAdd cn (lK (mMc q2 : Int))) (mMc q) && cOk s (lAdd sn (lK (mMs q2 : Int))) (mMs q))) && (if (CT y.1).isEmpty then vFr L (S.drop (mNp q2)) cn sn s && vChkO KT tb tyl ov CT hs kn W f 0 dp2 y.1 0 (x_en 0 (S.take (mNp q2)).reverse) [] s (lK 0) (lK 0) (fun _ => none) (fun s2 v => vChkO KT tb tyl ov CT hs kn W f 0 (dp2 + 1) k (pc + 3) L (x_push v (S.drop (mNp q2))) s2 (lAdd cn (lK (mMc q2 : Int))) (lAdd sn (lK (mMs q2 : Int))) cu ret)
                else vFr L (S.drop (mNp q2)) cn sn s && vCal W dp2 (S.take (mNp q2)).reverse s (fun s2 vs => match vs with
                  | [] => vChkO KT tb tyl ov CT hs kn W f 0 (dp2 + 1) k (pc + 3) L (S.drop (mNp q2)) s2 (lAdd cn (lK (mMc q2 : Int))) (lAdd sn (lK (mMs q2 : Int))) cu ret
                  | [v] => vChkO KT tb tyl ov CT hs kn W f 0 (dp2 + 1) k (pc + 3) L (v :: (S.drop (mNp q2))) s2 (lAdd cn (lK (mMc q2 : Int))) (lAdd sn (lK (mMs q2 : Int))) cu ret
                  | _ => false) (CT y.1))
            | none => false
          | 0 => false
        | none => (if tBi tb (mO q) ix = some 1 then (match S with
          | .inl n :: .inl d :: .inr (some bd) :: .inl e :: .inr (some bs) :: r => decide (r.length ≤ 8) && vCpQ KT W bd bs n d e s && vChkO KT tb tyl ov CT hs kn W f 0 dp k (pc + 3) L r (vCpz bd bs n d e s) cn sn cu ret
          | _ => false)
        else if tBi tb (mO q) ix = some 2 then (match S with
          | .inl b :: .inl a :: r => decide (r.length ≤ 8) && (cOk s cn (mMc q) && cOk s sn (mMs q)) && vBr 2 a b s (fun s2 => vChkO KT tb tyl ov CT hs kn W f 0 dp k (pc + 3) L (.inl b :: r) s2 cn sn cu ret) (fun s2 => vChkO KT tb tyl ov CT hs kn W f 0 dp k (pc + 3) L (.inl a :: r) s2 cn sn cu ret)
          | _ => false)
        else if tBi tb (mO q) ix = some 3 then (match S with
          | .inl b :: .inl a :: r => decide (r.length ≤ 8) && (cOk s cn (mMc q) && cOk s sn (mMs q)) && vBr 2 b a s (fun s2 => vChkO KT tb tyl ov CT hs kn W f 0 dp k (pc + 3) L (.inl b :: r) s2 cn sn cu ret) (fun s2 => vChkO KT tb tyl ov CT hs kn W f 0 dp k (pc + 3) L (.inl a :: r) s2 cn sn cu ret)
          | _ => false)
        else if tBi tb (mO q) ix = some 4 then (match S with
          | .inl a :: r => decide (r.length ≤ 8) && (cOk s cn (mMc q) && cOk s sn (mMs q)) && vBr 3 a (lK 0) s (fun s2 => vChkO KT tb tyl ov CT hs kn W f 0 dp k (pc + 3) L (.inl a :: r) s2 cn sn cu ret) (fun s2 => vChkO KT tb tyl ov CT hs kn W f 0 dp k (pc + 3) L (.inl (lSub (lK 0) a) :: r) s2 cn sn cu ret)
          | _ => false)
        else false)
      | _ => false
/-- returns come to what is asked -/
def vRetOk (KT : vKT) (W : List (Nat × Nat)) (ty0 : Nat → Option Nat) (H0 : List (XC Int32)) (N : Nat) (s : vSt) (ρ : Nat → Int) (σ : Nat → Nat) (ret : vSt → Option vA → Bool) (Post : Option (XV Int32) → List (XC Int32) → Prop) : Prop :=
  ∀ ρ2 σ2 ty2 H2 s2 av, vExt s s2 ρ ρ2 σ σ2 → vLe ty0 ty2 → vFrm W ty0 H0 H2 → vRel KT ρ2 σ2 ty2 H2 s2 → H2.length ≤ N → ret s2 av = true → Post (av.map (cv ρ2 σ2)) H2
/-- notes come to what is asked -/
def vCutOk (KT : vKT) (tb : XT) (tyl : List FieldType) (ot : XO Int32) (W : List (Nat × Nat)) (ty0 : Nat → Option Nat) (H0 : List (XC Int32)) (B dp k : Nat) (s : vSt) (ρ : Nat → Int) (σ : Nat → Nat) (cu : vCu) (Post : Option (XV Int32) → List (XC Int32) → Prop) : Prop :=
  ∀ pc g, cu pc = some g → ∀ ρ2 σ2 ty2 H2 s2 L S cn sn Lc cn2 sn2, vExt s s2 ρ ρ2 σ σ2 → vAt KT W ty0 H0 B L s2 cn sn ρ2 σ2 ty2 H2 Lc cn2 sn2 → g L S s2 cn sn = true → ∃ v H3, x_To tb tyl ot dp k pc Lc (S.map (cv ρ2 σ2)) H2 cn2 sn2 v H3 ∧ Post v H3
theorem vRetOk_ext {KT : vKT} {W : List (Nat × Nat)} {ty0 : Nat → Option Nat} {H0 : List (XC Int32)} {N : Nat} {s s2 : vSt} {ρ ρ2 : Nat → Int} {σ σ2 : Nat → Nat} {ret : vSt → Option vA → Bool} {Post : Option (XV Int32) → List (XC Int32) → Prop} (g : vExt s s2 ρ ρ2 σ σ2) (h : vRetOk KT W ty0 H0 N s ρ σ ret Post) : vRetOk KT W ty0 H0 N s2 ρ2 σ2 ret Post :=
  fun ρ3 σ3 ty3 H3 s3 av e1 e2 e3 e4 e5 e6 => h ρ3 σ3 ty3 H3 s3 av (vExt_tr g e1) e2 e3 e4 e5 e6
theorem vCutOk_ext {KT : vKT} {tb : XT} {tyl : List FieldType} {ot : XO Int32} {W : List (Nat × Nat)} {ty0 : Nat → Option Nat} {H0 : List (XC Int32)} {B dp k : Nat} {s s2 : vSt} {ρ ρ2 : Nat → Int} {σ σ2 : Nat → Nat} {cu : vCu} {Post : Option (XV Int32) → List (XC Int32) → Prop} (g : vExt s s2 ρ ρ2 σ σ2) (h : vCutOk KT tb tyl ot W ty0 H0 B dp k s ρ σ cu Post) : vCutOk KT tb tyl ot W ty0 H0 B dp k s2 ρ2 σ2 cu Post :=
  fun pc c hc ρ3 σ3 ty3 H3 s3 L S cn sn Lc cn2 sn2 e1 e2 e3 => h pc c hc ρ3 σ3 ty3 H3 s3 L S cn sn Lc cn2 sn2 (vExt_tr g e1) e2 e3
theorem vChkO_spec {KT : vKT} {tb : XT} {tyl : List FieldType} {ot : XO Int32} {ov : vOt} (hov : vOvLe ov (o4 ot)) {CT : Nat → List vCt} {hs : Nat → Nat → Option (List vHn)} {kn : Nat → Nat → Option Nat} {W : List (Nat × Nat)} (hCT : ∀ j c, c ∈ CT j → vCtSem KT tb tyl ot j c) {ty0 : Nat → Option Nat} {H0 : List (XC Int32)} (hr0 : ∀ a c, ty0 a = some c → kRaw KT c = none) : ∀ (f go : Nat) {dp k pc dp2' B : Nat} {q : XM} {L : List (Nat × vA)} {S : List vA} {s : vSt} {cn sn : lT} {cu : vCu} {ret : vSt → Option vA → Bool} {ρ : Nat → Int} {σ : Nat → Nat} {ty : Nat → Option Nat} {H : List (XC Int32)} {Lc : List (Nat × XV Int32)} {cn2 sn2 : Nat} {Post : Option (XV Int32) → List (XC Int32) → Prop}
    (_ : tMth tb k = some q) (_ : dp ≤ dp2') (_ : B + mMc q ≤ 1000000) (_ : vAt KT W ty0 H0 B L s cn sn ρ σ ty H Lc cn2 sn2) (_ : vChkO KT tb tyl ov CT hs kn W f go dp k pc L S s cn sn cu ret = true) (_ : vRetOk KT W ty0 H0 (B + mMc q) s ρ σ ret Post) (_ : vCutOk KT tb tyl ot W ty0 H0 B dp2' k s ρ σ cu Post),
    ∃ v H2, x_To tb tyl ot dp2' k pc Lc (S.map (cv ρ σ)) H cn2 sn2 v H2 ∧ Post v H2 := by
  intro f
  induction f with
  | zero =>
    intro go dp k pc dp2' B q L S s cn sn cu ret ρ σ ty H Lc cn2 sn2 Post hq hdp hB hat hk
    cases hk
  | succ f ih0 =>
  intro go dp k pc dp2' B q L S s cn sn cu ret ρ σ ty H Lc cn2 sn2 Post hq hdp hB hat hk hret hcut
  have ih := fun {pc : Nat} {L : List (Nat × vA)} {S : List vA} {s : vSt} {cn sn : lT} {ρ : Nat → Int} {σ : Nat → Nat} {ty : Nat → Option Nat} {H : List (XC Int32)} {Lc : List (Nat × XV Int32)} {cn2 sn2 : Nat} => @ih0 0 dp k pc dp2' B q L S s cn sn cu ret ρ σ ty H Lc cn2 sn2 Post hq hdp hB
  rw [vChkO.eq_def] at hk
  dsimp only at hk
  rcases hg : (if go = 0 then cu pc else none) with _ | g
  rotate_left
  · rw [hg] at hk
    have hcu : cu pc = some g := by
      by_cases h0 : go = 0
      · rw [if_pos h0] at hg
        exact hg
      · rw [if_neg h0] at hg
        cases hg
    exact hcut pc g hcu ρ σ ty H s L S cn sn Lc cn2 sn2 (vExt_rf s ρ σ) hat hk
  rw [hg] at hk
  dsimp only at hk
  rcases hh : (if go ≤ 1 then hs k pc else none) with _ | x
  rotate_left
  · rw [hh] at hk
    dsimp only at hk
    obtain ⟨ρ2, σ2, ty2, s2, g1, g2, g3, g4, g5⟩ := vHnA_spec hr0 x hat.2.2.2.1 hat.2.1 hk
    obtain ⟨v, H2, h1, h2⟩ := ih0 2 hq hdp hB ⟨hat.1, g3, hat.2.2.1, g2, g4.1 _ hat.2.2.2.2.1, by rw [g4.2.2.1]; exact hat.2.2.2.2.2.1, by rw [g4.2.2.2]; exact hat.2.2.2.2.2.2⟩ g5 (vRetOk_ext g1 hret) (vCutOk_ext g1 hcut)
    rw [g4.2.1] at h1
    exact ⟨v, H2, h1, h2⟩
  rw [hh] at hk
  dsimp only at hk
  rw [hq] at hk
  dsimp only at hk
  rcases hc : mC q pc with _ | ⟨i, n⟩
  · rw [hc] at hk
    cases hk
  rw [hc] at hk
  dsimp only at hk
  cases i
  case iconst x =>
    try dsimp only at hk
    obtain ⟨v, H2, h1, h2⟩ := ih hat hk hret hcut
    refine ⟨v, H2, xT_iconst hq hc ?_, h2⟩
    rw [List.map_cons, show cv ρ σ (.inl (lK (Int32.ofInt x).toInt)) = .inl (Int32.ofInt x) from cv_lK ρ σ _] at h1
    exact h1
  case bipush x =>
    try dsimp only at hk
    obtain ⟨v, H2, h1, h2⟩ := ih hat hk hret hcut
    refine ⟨v, H2, xT_bipush hq hc ?_, h2⟩
    rw [List.map_cons, show cv ρ σ (.inl (lK ((Int8.ofInt x).toInt32).toInt)) = .inl ((Int8.ofInt x).toInt32) from cv_lK ρ σ _] at h1
    exact h1
  case sipush x =>
    try dsimp only at hk
    obtain ⟨v, H2, h1, h2⟩ := ih hat hk hret hcut
    refine ⟨v, H2, xT_sipush hq hc ?_, h2⟩
    rw [List.map_cons, show cv ρ σ (.inl (lK ((Int16.ofInt x).toInt32).toInt)) = .inl ((Int16.ofInt x).toInt32) from cv_lK ρ σ _] at h1
    exact h1
  case aconst_null =>
    try dsimp only at hk
    obtain ⟨v, H2, h1, h2⟩ := ih hat hk hret hcut
    refine ⟨v, H2, xT_aconst_null hq hc ?_, h2⟩
    exact h1
  case iload_n j =>
    try dsimp only at hk
    rcases ha : x_lk L ↑j with _ | (a | a)
    · rw [ha] at hk
      cases hk
    · rw [ha] at hk
      obtain ⟨v, H2, h1, h2⟩ := ih hat hk hret hcut
      rw [List.map_cons, show cv ρ σ (.inl (lNm (sI s) a)) = cv ρ σ (.inl a) from congrArg (fun z => Sum.inl (Int32.ofInt z)) (lNm_ev hat.2.2.2.1.2.2.2.1 a)] at h1
      exact ⟨v, H2, xT_iload_n hq hc (hat.2.2.2.2.1 _ _ ha) h1, h2⟩
    · rw [ha] at hk
      cases hk
  case iload j =>
    try dsimp only at hk
    rcases ha : x_lk L ↑j with _ | (a | a)
    · rw [ha] at hk
      cases hk
    · rw [ha] at hk
      obtain ⟨v, H2, h1, h2⟩ := ih hat hk hret hcut
      rw [List.map_cons, show cv ρ σ (.inl (lNm (sI s) a)) = cv ρ σ (.inl a) from congrArg (fun z => Sum.inl (Int32.ofInt z)) (lNm_ev hat.2.2.2.1.2.2.2.1 a)] at h1
      exact ⟨v, H2, xT_iload hq hc (hat.2.2.2.2.1 _ _ ha) h1, h2⟩
    · rw [ha] at hk
      cases hk
  case aload_n j =>
    try dsimp only at hk
    rcases ha : x_lk L ↑j with _ | (a | a)
    · rw [ha] at hk
      cases hk
    · rw [ha] at hk
      cases hk
    · rw [ha] at hk
      obtain ⟨v, H2, h1, h2⟩ := ih hat hk hret hcut
      rcases a with _ | a
      · exact ⟨v, H2, xT_aload_n hq hc (a := none) (hat.2.2.2.2.1 _ _ ha) h1, h2⟩
      · exact ⟨v, H2, xT_aload_n hq hc (a := some (sR σ a)) (hat.2.2.2.2.1 _ _ ha) h1, h2⟩
  case aload j =>
    try dsimp only at hk
    rcases ha : x_lk L ↑j with _ | (a | a)
    · rw [ha] at hk
      cases hk
    · rw [ha] at hk
      cases hk
    · rw [ha] at hk
      obtain ⟨v, H2, h1, h2⟩ := ih hat hk hret hcut
      rcases a with _ | a
      · exact ⟨v, H2, xT_aload hq hc (a := none) (hat.2.2.2.2.1 _ _ ha) h1, h2⟩
      · exact ⟨v, H2, xT_aload hq hc (a := some (sR σ a)) (hat.2.2.2.2.1 _ _ ha) h1, h2⟩
  case iadd =>
    try dsimp only at hk
    rcases S with _ | ⟨b | b, _ | ⟨a | a, r⟩⟩ <;> first | (cases hk; done) | skip
    obtain ⟨ρ2, s2, t, g1, g2, g3, g4, g5⟩ := vBinF_spec hat.2.2.2.1 hk
    obtain ⟨v, H2, h1, h2⟩ := ih (vAt_ext hat g2 g4) g5 (vRetOk_ext g1 hret) (vCutOk_ext g1 hcut)
    refine ⟨v, H2, xT_iadd hq hc (a := Int32.ofInt (lEv ρ a)) (b := Int32.ofInt (lEv ρ b)) ?_, h2⟩
    rw [List.map_cons, g4.2.1, show cv ρ2 σ (.inl t) = .inl (x_bin 0 (Int32.ofInt (lEv ρ a)) (Int32.ofInt (lEv ρ b))) from congrArg Sum.inl g3.symm] at h1
    exact h1
  case isub =>
    try dsimp only at hk
    rcases S with _ | ⟨b | b, _ | ⟨a | a, r⟩⟩ <;> first | (cases hk; done) | skip
    obtain ⟨ρ2, s2, t, g1, g2, g3, g4, g5⟩ := vBinF_spec hat.2.2.2.1 hk
    obtain ⟨v, H2, h1, h2⟩ := ih (vAt_ext hat g2 g4) g5 (vRetOk_ext g1 hret) (vCutOk_ext g1 hcut)
    refine ⟨v, H2, xT_isub hq hc (a := Int32.ofInt (lEv ρ a)) (b := Int32.ofInt (lEv ρ b)) ?_, h2⟩
    rw [List.map_cons, g4.2.1, show cv ρ2 σ (.inl t) = .inl (x_bin 1 (Int32.ofInt (lEv ρ a)) (Int32.ofInt (lEv ρ b))) from congrArg Sum.inl g3.symm] at h1
    exact h1
  case imul =>
    try dsimp only at hk
    rcases S with _ | ⟨b | b, _ | ⟨a | a, r⟩⟩ <;> first | (cases hk; done) | skip
    obtain ⟨ρ2, s2, t, g1, g2, g3, g4, g5⟩ := vBinF_spec hat.2.2.2.1 hk
    obtain ⟨v, H2, h1, h2⟩ := ih (vAt_ext hat g2 g4) g5 (vRetOk_ext g1 hret) (vCutOk_ext g1 hcut)
    refine ⟨v, H2, xT_imul hq hc (a := Int32.ofInt (lEv ρ a)) (b := Int32.ofInt (lEv ρ b)) ?_, h2⟩
    rw [List.map_cons, g4.2.1, show cv ρ2 σ (.inl t) = .inl (x_bin 2 (Int32.ofInt (lEv ρ a)) (Int32.ofInt (lEv ρ b))) from congrArg Sum.inl g3.symm] at h1
    exact h1
  case iand =>
    try dsimp only at hk
    rcases S with _ | ⟨b | b, _ | ⟨a | a, r⟩⟩ <;> first | (cases hk; done) | skip
    obtain ⟨ρ2, s2, t, g1, g2, g3, g4, g5⟩ := vBinF_spec hat.2.2.2.1 hk
    obtain ⟨v, H2, h1, h2⟩ := ih (vAt_ext hat g2 g4) g5 (vRetOk_ext g1 hret) (vCutOk_ext g1 hcut)
    refine ⟨v, H2, xT_iand hq hc (a := Int32.ofInt (lEv ρ a)) (b := Int32.ofInt (lEv ρ b)) ?_, h2⟩
    rw [List.map_cons, g4.2.1, show cv ρ2 σ (.inl t) = .inl (x_bin 3 (Int32.ofInt (lEv ρ a)) (Int32.ofInt (lEv ρ b))) from congrArg Sum.inl g3.symm] at h1
    exact h1
  case ior =>
    try dsimp only at hk
    rcases S with _ | ⟨b | b, _ | ⟨a | a, r⟩⟩ <;> first | (cases hk; done) | skip
    obtain ⟨ρ2, s2, t, g1, g2, g3, g4, g5⟩ := vBinF_spec hat.2.2.2.1 hk
    obtain ⟨v, H2, h1, h2⟩ := ih (vAt_ext hat g2 g4) g5 (vRetOk_ext g1 hret) (vCutOk_ext g1 hcut)
    refine ⟨v, H2, xT_ior hq hc (a := Int32.ofInt (lEv ρ a)) (b := Int32.ofInt (lEv ρ b)) ?_, h2⟩
    rw [List.map_cons, g4.2.1, show cv ρ2 σ (.inl t) = .inl (x_bin 4 (Int32.ofInt (lEv ρ a)) (Int32.ofInt (lEv ρ b))) from congrArg Sum.inl g3.symm] at h1
    exact h1
  case ixor =>
    try dsimp only at hk
    rcases S with _ | ⟨b | b, _ | ⟨a | a, r⟩⟩ <;> first | (cases hk; done) | skip
    obtain ⟨ρ2, s2, t, g1, g2, g3, g4, g5⟩ := vBinF_spec hat.2.2.2.1 hk
    obtain ⟨v, H2, h1, h2⟩ := ih (vAt_ext hat g2 g4) g5 (vRetOk_ext g1 hret) (vCutOk_ext g1 hcut)
    refine ⟨v, H2, xT_ixor hq hc (a := Int32.ofInt (lEv ρ a)) (b := Int32.ofInt (lEv ρ b)) ?_, h2⟩
    rw [List.map_cons, g4.2.1, show cv ρ2 σ (.inl t) = .inl (x_bin 5 (Int32.ofInt (lEv ρ a)) (Int32.ofInt (lEv ρ b))) from congrArg Sum.inl g3.symm] at h1
    exact h1
  case ishl =>
    try dsimp only at hk
    rcases S with _ | ⟨b | b, _ | ⟨a | a, r⟩⟩ <;> first | (cases hk; done) | skip
    obtain ⟨ρ2, s2, t, g1, g2, g3, g4, g5⟩ := vBinF_spec hat.2.2.2.1 hk
    obtain ⟨v, H2, h1, h2⟩ := ih (vAt_ext hat g2 g4) g5 (vRetOk_ext g1 hret) (vCutOk_ext g1 hcut)
    refine ⟨v, H2, xT_ishl hq hc (a := Int32.ofInt (lEv ρ a)) (b := Int32.ofInt (lEv ρ b)) ?_, h2⟩
    rw [List.map_cons, g4.2.1, show cv ρ2 σ (.inl t) = .inl (x_bin 6 (Int32.ofInt (lEv ρ a)) (Int32.ofInt (lEv ρ b))) from congrArg Sum.inl g3.symm] at h1
    exact h1
  case ishr =>
    try dsimp only at hk
    rcases S with _ | ⟨b | b, _ | ⟨a | a, r⟩⟩ <;> first | (cases hk; done) | skip
    obtain ⟨ρ2, s2, t, g1, g2, g3, g4, g5⟩ := vBinF_spec hat.2.2.2.1 hk
    obtain ⟨v, H2, h1, h2⟩ := ih (vAt_ext hat g2 g4) g5 (vRetOk_ext g1 hret) (vCutOk_ext g1 hcut)
    refine ⟨v, H2, xT_ishr hq hc (a := Int32.ofInt (lEv ρ a)) (b := Int32.ofInt (lEv ρ b)) ?_, h2⟩
    rw [List.map_cons, g4.2.1, show cv ρ2 σ (.inl t) = .inl (x_bin 7 (Int32.ofInt (lEv ρ a)) (Int32.ofInt (lEv ρ b))) from congrArg Sum.inl g3.symm] at h1
    exact h1
  case iushr =>
    try dsimp only at hk
    rcases S with _ | ⟨b | b, _ | ⟨a | a, r⟩⟩ <;> first | (cases hk; done) | skip
    obtain ⟨ρ2, s2, t, g1, g2, g3, g4, g5⟩ := vBinF_spec hat.2.2.2.1 hk
    obtain ⟨v, H2, h1, h2⟩ := ih (vAt_ext hat g2 g4) g5 (vRetOk_ext g1 hret) (vCutOk_ext g1 hcut)
    refine ⟨v, H2, xT_iushr hq hc (a := Int32.ofInt (lEv ρ a)) (b := Int32.ofInt (lEv ρ b)) ?_, h2⟩
    rw [List.map_cons, g4.2.1, show cv ρ2 σ (.inl t) = .inl (x_bin 10 (Int32.ofInt (lEv ρ a)) (Int32.ofInt (lEv ρ b))) from congrArg Sum.inl g3.symm] at h1
    exact h1
  case idiv =>
    try dsimp only at hk
    rcases S with _ | ⟨b | b, _ | ⟨a | a, r⟩⟩ <;> first | (cases hk; done) | skip
    obtain ⟨s1, f0, f1, f2⟩ := vBr_spec hat.2.2.2.1 hk
    rcases f2 with ⟨e, f2⟩ | ⟨e, f2⟩
    · cases f2
    have hat1 := vAt_same hat f0
    have x1 := vSame0_ext f1 ρ σ
    obtain ⟨ρ2, s2, t, g1, g2, g3, g4, g5⟩ := vBinF_spec f0 f2
    obtain ⟨v, H2, h1, h2⟩ := ih (vAt_ext hat1 g2 g4) g5 (vRetOk_ext g1 (vRetOk_ext x1 hret)) (vCutOk_ext g1 (vCutOk_ext x1 hcut))
    rw [lK_ev] at e
    refine ⟨v, H2, xT_idiv hq hc (a := Int32.ofInt (lEv ρ a)) (b := Int32.ofInt (lEv ρ b)) e ?_, h2⟩
    rw [List.map_cons, g4.2.1, show cv ρ2 σ (.inl t) = .inl (x_bin 8 (Int32.ofInt (lEv ρ a)) (Int32.ofInt (lEv ρ b))) from congrArg Sum.inl g3.symm] at h1
    exact h1
  case irem =>
    try dsimp only at hk
    rcases S with _ | ⟨b | b, _ | ⟨a | a, r⟩⟩ <;> first | (cases hk; done) | skip
    obtain ⟨s1, f0, f1, f2⟩ := vBr_spec hat.2.2.2.1 hk
    rcases f2 with ⟨e, f2⟩ | ⟨e, f2⟩
    · cases f2
    have hat1 := vAt_same hat f0
    have x1 := vSame0_ext f1 ρ σ
    obtain ⟨ρ2, s2, t, g1, g2, g3, g4, g5⟩ := vBinF_spec f0 f2
    obtain ⟨v, H2, h1, h2⟩ := ih (vAt_ext hat1 g2 g4) g5 (vRetOk_ext g1 (vRetOk_ext x1 hret)) (vCutOk_ext g1 (vCutOk_ext x1 hcut))
    rw [lK_ev] at e
    refine ⟨v, H2, xT_irem hq hc (a := Int32.ofInt (lEv ρ a)) (b := Int32.ofInt (lEv ρ b)) e ?_, h2⟩
    rw [List.map_cons, g4.2.1, show cv ρ2 σ (.inl t) = .inl (x_bin 9 (Int32.ofInt (lEv ρ a)) (Int32.ofInt (lEv ρ b))) from congrArg Sum.inl g3.symm] at h1
    exact h1
  case i2b =>
    try dsimp only at hk
    rcases S with _ | ⟨a | a, r⟩ <;> first | (cases hk; done) | skip
    have hk2 := Bool.and_eq_true_iff.mp hk
    obtain ⟨ρ2, s2, t, g1, g2, g3, g5⟩ := vUn_spec hat.2.2.2.1 hk2.2
    have g4 := vFr_spec g1 hk2.1
    obtain ⟨v, H2, h1, h2⟩ := ih (vAt_ext hat g2 g4) g5 (vRetOk_ext g1 hret) (vCutOk_ext g1 hcut)
    refine ⟨v, H2, xT_i2b hq hc (a := Int32.ofInt (lEv ρ a)) ?_, h2⟩
    rw [List.map_cons, g4.2.1, show cv ρ2 σ (.inl t) = .inl (x_un 0 (Int32.ofInt (lEv ρ a))) from congrArg Sum.inl g3.symm] at h1
    exact h1
  case i2s =>
    try dsimp only at hk
    rcases S with _ | ⟨a | a, r⟩ <;> first | (cases hk; done) | skip
    have hk2 := Bool.and_eq_true_iff.mp hk
    obtain ⟨ρ2, s2, t, g1, g2, g3, g5⟩ := vUn_spec hat.2.2.2.1 hk2.2
    have g4 := vFr_spec g1 hk2.1
    obtain ⟨v, H2, h1, h2⟩ := ih (vAt_ext hat g2 g4) g5 (vRetOk_ext g1 hret) (vCutOk_ext g1 hcut)
    refine ⟨v, H2, xT_i2s hq hc (a := Int32.ofInt (lEv ρ a)) ?_, h2⟩
    rw [List.map_cons, g4.2.1, show cv ρ2 σ (.inl t) = .inl (x_un 1 (Int32.ofInt (lEv ρ a))) from congrArg Sum.inl g3.symm] at h1
    exact h1
  case i2c =>
    try dsimp only at hk
    rcases S with _ | ⟨a | a, r⟩ <;> first | (cases hk; done) | skip
    have hk2 := Bool.and_eq_true_iff.mp hk
    obtain ⟨ρ2, s2, t, g1, g2, g3, g5⟩ := vUn_spec hat.2.2.2.1 hk2.2
    have g4 := vFr_spec g1 hk2.1
    obtain ⟨v, H2, h1, h2⟩ := ih (vAt_ext hat g2 g4) g5 (vRetOk_ext g1 hret) (vCutOk_ext g1 hcut)
    refine ⟨v, H2, xT_i2c hq hc (a := Int32.ofInt (lEv ρ a)) ?_, h2⟩
    rw [List.map_cons, g4.2.1, show cv ρ2 σ (.inl t) = .inl (x_un 2 (Int32.ofInt (lEv ρ a))) from congrArg Sum.inl g3.symm] at h1
    exact h1
  case ineg =>
    try dsimp only at hk
    rcases S with _ | ⟨a | a, r⟩ <;> first | (cases hk; done) | skip
    have hk2 := Bool.and_eq_true_iff.mp hk
    obtain ⟨ρ2, s2, t, g1, g2, g3, g5⟩ := vUn_spec hat.2.2.2.1 hk2.2
    have g4 := vFr_spec g1 hk2.1
    obtain ⟨v, H2, h1, h2⟩ := ih (vAt_ext hat g2 g4) g5 (vRetOk_ext g1 hret) (vCutOk_ext g1 hcut)
    refine ⟨v, H2, xT_ineg hq hc (a := Int32.ofInt (lEv ρ a)) ?_, h2⟩
    rw [List.map_cons, g4.2.1, show cv ρ2 σ (.inl t) = .inl (x_un 3 (Int32.ofInt (lEv ρ a))) from congrArg Sum.inl g3.symm] at h1
    exact h1
  case goto x =>
    try dsimp only at hk
    rcases ht : x_jp pc x with _ | t
    · rw [ht] at hk
      cases hk
    · rw [ht] at hk
      obtain ⟨v, H2, h1, h2⟩ := ih hat hk hret hcut
      exact ⟨v, H2, xT_goto hq hc ht h1, h2⟩
  case if_icmp c x =>
    try dsimp only at hk
    rcases ht : x_jp pc x with _ | t
    · rw [ht] at hk
      cases hk
    rw [ht] at hk
    rcases S with _ | ⟨b | b, _ | ⟨a | a, r⟩⟩ <;> first | (cases hk; done) | skip
    obtain ⟨s2, g0, g1, g2⟩ := vBr_spec hat.2.2.2.1 hk
    have x1 := vSame0_ext g1 ρ σ
    rcases g2 with ⟨e, g2⟩ | ⟨e, g2⟩
    · obtain ⟨v, H2, h1, h2⟩ := ih (vAt_same hat g0) g2 (vRetOk_ext x1 hret) (vCutOk_ext x1 hcut)
      exact ⟨v, H2, xT_if_icmpY hq hc (a := Int32.ofInt (lEv ρ a)) (b := Int32.ofInt (lEv ρ b)) ht e h1, h2⟩
    · obtain ⟨v, H2, h1, h2⟩ := ih (vAt_same hat g0) g2 (vRetOk_ext x1 hret) (vCutOk_ext x1 hcut)
      exact ⟨v, H2, xT_if_icmpN hq hc (a := Int32.ofInt (lEv ρ a)) (b := Int32.ofInt (lEv ρ b)) ht e h1, h2⟩
  case ifCond c x =>
    try dsimp only at hk
    rcases ht : x_jp pc x with _ | t
    · rw [ht] at hk
      cases hk
    rw [ht] at hk
    rcases S with _ | ⟨a | a, r⟩ <;> first | (cases hk; done) | skip
    obtain ⟨s2, g0, g1, g2⟩ := vBr_spec hat.2.2.2.1 hk
    rw [lK_ev] at g2
    have x1 := vSame0_ext g1 ρ σ
    rcases g2 with ⟨e, g2⟩ | ⟨e, g2⟩
    · obtain ⟨v, H2, h1, h2⟩ := ih (vAt_same hat g0) g2 (vRetOk_ext x1 hret) (vCutOk_ext x1 hcut)
      exact ⟨v, H2, xT_ifCondY hq hc (a := Int32.ofInt (lEv ρ a)) ht e h1, h2⟩
    · obtain ⟨v, H2, h1, h2⟩ := ih (vAt_same hat g0) g2 (vRetOk_ext x1 hret) (vCutOk_ext x1 hcut)
      exact ⟨v, H2, xT_ifCondN hq hc (a := Int32.ofInt (lEv ρ a)) ht e h1, h2⟩
  case istore_n j =>
    try dsimp only at hk
    rcases S with _ | ⟨a | a, r⟩ <;> first | (cases hk; done) | skip
    have hk2 := Bool.and_eq_true_iff.mp hk
    obtain ⟨v, H2, h1, h2⟩ := ih (vAt_st hat j (.inl a)) hk2.2 hret hcut
    exact ⟨v, H2, xT_istore_n hq hc (a := Int32.ofInt (lEv ρ a)) (of_decide_eq_true hk2.1) h1, h2⟩
  case istore j =>
    try dsimp only at hk
    rcases S with _ | ⟨a | a, r⟩ <;> first | (cases hk; done) | skip
    have hk2 := Bool.and_eq_true_iff.mp hk
    obtain ⟨v, H2, h1, h2⟩ := ih (vAt_st hat j (.inl a)) hk2.2 hret hcut
    exact ⟨v, H2, xT_istore hq hc (a := Int32.ofInt (lEv ρ a)) (of_decide_eq_true hk2.1) h1, h2⟩
  case astore_n j =>
    try dsimp only at hk
    rcases S with _ | ⟨a | a, r⟩ <;> first | (cases hk; done) | skip
    have hk2 := Bool.and_eq_true_iff.mp hk
    obtain ⟨v, H2, h1, h2⟩ := ih (vAt_st hat j (.inr a)) hk2.2 hret hcut
    rcases a with _ | a
    · exact ⟨v, H2, xT_astore_n hq hc (a := none) (of_decide_eq_true hk2.1) h1, h2⟩
    · exact ⟨v, H2, xT_astore_n hq hc (a := some (sR σ a)) (of_decide_eq_true hk2.1) h1, h2⟩
  case astore j =>
    try dsimp only at hk
    rcases S with _ | ⟨a | a, r⟩ <;> first | (cases hk; done) | skip
    have hk2 := Bool.and_eq_true_iff.mp hk
    obtain ⟨v, H2, h1, h2⟩ := ih (vAt_st hat j (.inr a)) hk2.2 hret hcut
    rcases a with _ | a
    · exact ⟨v, H2, xT_astore hq hc (a := none) (of_decide_eq_true hk2.1) h1, h2⟩
    · exact ⟨v, H2, xT_astore hq hc (a := some (sR σ a)) (of_decide_eq_true hk2.1) h1, h2⟩
  case iinc j x =>
    try dsimp only at hk
    rcases ha : x_lk L j with _ | (a | a)
    · rw [ha] at hk
      cases hk
    · rw [ha] at hk
      have hk2 := Bool.and_eq_true_iff.mp hk
      obtain ⟨ρ2, s2, t, g1, g2, g3, g4, g5⟩ := vBinF_spec hat.2.2.2.1 hk2.2
      obtain ⟨v, H2, h1, h2⟩ := ih (vAt_st (vAt_ext hat g2 g4) j (.inl t)) g5 (vRetOk_ext g1 hret) (vCutOk_ext g1 hcut)
      refine ⟨v, H2, xT_iinc hq hc (a := Int32.ofInt (lEv ρ a)) (hat.2.2.2.2.1 _ _ ha) (of_decide_eq_true hk2.1) ?_, h2⟩
      rw [lK_ev, Int32.ofInt_toInt] at g3
      rw [g4.2.1, show cv ρ2 σ (.inl t) = .inl (x_bin 0 (Int32.ofInt (lEv ρ a)) (Int32.ofInt x)) from congrArg Sum.inl g3.symm] at h1
      exact h1
    · rw [ha] at hk
      cases hk
  case dup =>
    try dsimp only at hk
    rcases S with _ | ⟨a, r⟩ <;> first | (cases hk; done) | skip
    obtain ⟨v, H2, h1, h2⟩ := ih hat hk hret hcut
    exact ⟨v, H2, xT_dup hq hc h1, h2⟩
  case dup_x1 =>
    try dsimp only at hk
    rcases S with _ | ⟨a, _ | ⟨b, r⟩⟩ <;> first | (cases hk; done) | skip
    obtain ⟨v, H2, h1, h2⟩ := ih hat hk hret hcut
    exact ⟨v, H2, xT_dup_x1 hq hc h1, h2⟩
  case dup2 =>
    try dsimp only at hk
    rcases S with _ | ⟨a, _ | ⟨b, r⟩⟩ <;> first | (cases hk; done) | skip
    obtain ⟨v, H2, h1, h2⟩ := ih hat hk hret hcut
    exact ⟨v, H2, xT_dup2 hq hc h1, h2⟩
  case pop =>
    try dsimp only at hk
    rcases S with _ | ⟨a, r⟩ <;> first | (cases hk; done) | skip
    obtain ⟨v, H2, h1, h2⟩ := ih hat hk hret hcut
    exact ⟨v, H2, xT_pop hq hc h1, h2⟩
  case ifnull x =>
    try dsimp only at hk
    rcases ht : x_jp pc x with _ | t
    · rw [ht] at hk
      cases hk
    rw [ht] at hk
    rcases S with _ | ⟨a | (_ | a), r⟩
    · cases hk
    · cases hk
    · obtain ⟨v, H2, h1, h2⟩ := ih hat hk hret hcut
      exact ⟨v, H2, xT_ifnull0 hq hc ht h1, h2⟩
    · obtain ⟨v, H2, h1, h2⟩ := ih hat hk hret hcut
      exact ⟨v, H2, xT_ifnull1 hq hc (a := sR σ a) ht h1, h2⟩
  case ifnonnull x =>
    try dsimp only at hk
    rcases ht : x_jp pc x with _ | t
    · rw [ht] at hk
      cases hk
    rw [ht] at hk
    rcases S with _ | ⟨a | (_ | a), r⟩
    · cases hk
    · cases hk
    · obtain ⟨v, H2, h1, h2⟩ := ih hat hk hret hcut
      exact ⟨v, H2, xT_ifnonnull0 hq hc ht h1, h2⟩
    · obtain ⟨v, H2, h1, h2⟩ := ih hat hk hret hcut
      exact ⟨v, H2, xT_ifnonnull1 hq hc (a := sR σ a) ht h1, h2⟩
  case ireturn =>
    try dsimp only at hk
    rcases S with _ | ⟨e | e, _ | ⟨z, r⟩⟩ <;> first | (cases hk; done) | skip
    have k0 := Bool.and_eq_true_iff.mp hk
    have k1 := Bool.and_eq_true_iff.mp k0.1
    have k2 := Bool.and_eq_true_iff.mp k1.2
    have c1 := cOk_spec hat.2.2.2.1 hat.2.2.2.2.2.1 k2.1
    have c2 := cOk_spec hat.2.2.2.1 hat.2.2.2.2.2.2 k2.2
    refine ⟨some (.inl (Int32.ofInt (lEv ρ e))), H, xT_ireturn hq hc ?_, hret ρ σ ty H s (some (.inl e)) (vExt_rf s ρ σ) hat.2.1 hat.2.2.1 hat.2.2.2.1 (Nat.le_trans hat.1.1 (by omega)) k0.2⟩
    rw [vRt_spec hat.2.2.2.1 k1.1, decide_eq_true c1, decide_eq_true c2]
    rfl
  case return_ =>
    try dsimp only at hk
    rcases S with _ | ⟨e, r⟩ <;> first | (cases hk; done) | skip
    have k0 := Bool.and_eq_true_iff.mp hk
    have k1 := Bool.and_eq_true_iff.mp k0.1
    have k2 := Bool.and_eq_true_iff.mp k1.2
    have c1 := cOk_spec hat.2.2.2.1 hat.2.2.2.2.2.1 k2.1
    have c2 := cOk_spec hat.2.2.2.1 hat.2.2.2.2.2.2 k2.2
    refine ⟨none, H, xT_return_ hq hc ?_, hret ρ σ ty H s none (vExt_rf s ρ σ) hat.2.1 hat.2.2.1 hat.2.2.2.1 (Nat.le_trans hat.1.1 (by omega)) k0.2⟩
    rw [k1.1, decide_eq_true c1, decide_eq_true c2]
    rfl
  case areturn =>
    try dsimp only at hk
    rcases S with _ | ⟨e | o, _ | ⟨z, r⟩⟩ <;> first | (cases hk; done) | skip
    have k0 := Bool.and_eq_true_iff.mp hk
    have k1 := Bool.and_eq_true_iff.mp k0.1
    have k2 := Bool.and_eq_true_iff.mp k1.2
    have c1 := cOk_spec hat.2.2.2.1 hat.2.2.2.2.2.1 k2.1
    have c2 := cOk_spec hat.2.2.2.1 hat.2.2.2.2.2.2 k2.2
    have hp := hret ρ σ ty H s (some (.inr o)) (vExt_rf s ρ σ) hat.2.1 hat.2.2.1 hat.2.2.2.1 (Nat.le_trans hat.1.1 (by omega)) k0.2
    have hm : ∀ u : Option Nat, x_retOk dC (mR q) (.inr u) = true := fun u => by
      have k3 := k1.1
      generalize mR q = m at k3 ⊢
      rcases m with _ | t
      · cases k3
      · cases t <;> first | rfl | (cases k3; done)
    rcases o with _ | a
    · exact ⟨some (.inr none), H, xT_areturn hq hc (by rw [hm, decide_eq_true c1, decide_eq_true c2]; rfl), hp⟩
    · exact ⟨some (.inr (some (sR σ a))), H, xT_areturn hq hc (by rw [hm, decide_eq_true c1, decide_eq_true c2]; rfl), hp⟩
  case getfield ix =>
    try dsimp only at hk
    rcases S with _ | ⟨b | (_ | a), r⟩ <;> first | (cases hk; done) | skip
    try dsimp only at hk
    by_cases ho : 1000000 < a
    · rw [if_pos ho] at hk
      rcases hu : ov.2.1 a (mO q) ix with _ | u
      · rw [hu] at hk
        cases hk
      rw [hu] at hk
      try dsimp only at hk
      rcases hv : vOv u with _ | v0
      · rw [hv] at hk
        cases hk
      rw [hv] at hk
      obtain ⟨v, H2, h1, h2⟩ := ih hat hk hret hcut
      have e : sR σ a = a := if_neg (by omega)
      refine ⟨v, H2, xT_getfieldO hq hc (a := sR σ a) (u := u) (by rw [e]; exact ho) (by rw [e]; exact hov.2.1 _ _ _ _ hu) ?_, h2⟩
      rw [← vOv_spec ρ σ hv]
      exact h1
    rw [if_neg ho] at hk
    rcases hf : tFld tb (mO q) ix with _ | ⟨ci, j⟩
    · rw [hf] at hk
      cases hk
    rw [hf] at hk
    try dsimp only at hk
    rcases hG : (sG s)[a]? with _ | c
    · rw [hG] at hk
      cases hk
    rw [hG] at hk
    try dsimp only at hk
    rcases hK : KT.1[c]? with _ | (⟨c2, fl⟩ | o)
    · rw [hK] at hk
      cases hk
    rotate_left
    · rw [hK] at hk
      cases hk
    rw [hK] at hk
    try dsimp only at hk
    rcases hz : fl[j]? with _ | fz
    · rw [hz] at hk
      cases hk
    rw [hz] at hk
    have hk2 := Bool.and_eq_true_iff.mp hk
    have hci : c2 = ci := of_decide_eq_true hk2.1
    have ha := hat.2.2.2.1.2.1 a c hG
    obtain ⟨fs, f1, f2, f3⟩ := vHp_obj hat.2.2.2.1.1 ha hK
    obtain ⟨u, u1, u2⟩ := f3 j fz hz
    obtain ⟨ρ2, σ2, s2, v0, g0, g1, g2, g4, g3⟩ := vRdF_spec hat.2.2.2.1 (i := a) (key := .inl j) (u := u) ⟨c2, fs, f1, u1⟩ u2 (fun z => by cases z) hk2.2
    obtain ⟨v, H2, h1, h2⟩ := ih (vAt_ext hat g1 g4) g3 (vRetOk_ext g0 hret) (vCutOk_ext g0 hcut)
    have hlt := vHp_lt hat.2.2.2.1.1 ha
    have hl2 := hat.1.2
    rw [List.map_cons, g2, g4.2.1] at h1
    exact ⟨v, H2, xT_getfield hq hc (a := sR σ a) (by omega) hf f1 hci u1 h1, h2⟩
  case iaload =>
    try dsimp only at hk
    rcases S with _ | ⟨e | e, _ | ⟨b | (_ | a), r⟩⟩ <;> first | (cases hk; done) | skip
    try dsimp only at hk
    rcases hG : (sG s)[a]? with _ | c
    · rw [hG] at hk
      cases hk
    rw [hG] at hk
    try dsimp only at hk
    rcases hK : KT.1[c]? with _ | (o | ⟨t, m, fl⟩)
    · rw [hK] at hk
      cases hk
    · rw [hK] at hk
      cases hk
    rw [hK] at hk
    have hk2 := Bool.and_eq_true_iff.mp hk
    have hk4 := Bool.and_eq_true_iff.mp hk2.1
    have ht : t = 0 := of_decide_eq_true hk4.1
    subst ht
    rcases hz : vRes fl e with _ | fz
    · have hk3 := hk2.2
      rw [hz] at hk3
      cases hk3
    have hk3 := hk2.2
    rw [hz] at hk3
    have ha := hat.2.2.2.1.2.1 a c hG
    obtain ⟨vs, f1, f2, f3⟩ := vHp_arr hat.2.2.2.1.1 ha hK
    obtain ⟨x1, x2, x3, x4⟩ := vIdx_spec hat.2.2.2.1 hk4.2
    obtain ⟨u, u1, u2⟩ := f3 _ fz x2 (vRes_spec x3 hz)
    obtain ⟨ρ2, σ2, s2, v0, g0, g1, g2, g4, g3⟩ := vRdF_spec hat.2.2.2.1 (i := a) (key := .inr e) (u := u) ⟨_, vs, f1, x3, u1⟩ u2 (fun z => by cases z) hk3
    obtain ⟨v, H2, h1, h2⟩ := ih (vAt_ext hat g1 g4) g3 (vRetOk_ext g0 hret) (vCutOk_ext g0 hcut)
    have hlt := vHp_lt hat.2.2.2.1.1 ha
    have hl2 := hat.1.2
    rw [List.map_cons, g2, g4.2.1] at h1
    exact ⟨v, H2, xT_iaload hq hc (a := sR σ a) (e := Int32.ofInt (lEv ρ e)) (by omega) f1 (by rw [f2]; exact x1) (by rw [x4]; exact u1) h1, h2⟩
  case baload =>
    try dsimp only at hk
    rcases S with _ | ⟨e | e, _ | ⟨b | (_ | a), r⟩⟩ <;> first | (cases hk; done) | skip
    try dsimp only at hk
    by_cases ho : 1000000 < a
    · rw [if_pos ho] at hk
      rcases hu : ov.2.2.2.1 a with _ | bs
      · rw [hu] at hk
        cases hk
      rw [hu] at hk
      have hk2 := Bool.and_eq_true_iff.mp hk
      have hk3 := Bool.and_eq_true_iff.mp hk2.1
      obtain ⟨x1, x2, x3, x4⟩ := vIdx_spec hat.2.2.2.1 hk3.2
      obtain ⟨v, H2, h1, h2⟩ := ih hat hk2.2 hret hcut
      have e0 : sR σ a = a := if_neg (by omega)
      refine ⟨v, H2, xT_baloadO hq hc (a := sR σ a) (e := Int32.ofInt (lEv ρ e)) (by rw [e0]; exact ho) (by rw [e0]; exact hov.2.2.2.1 _ _ hu) x1 ?_, h2⟩
      obtain ⟨e1, e2⟩ := e
      have he : e2 = [] := of_decide_eq_true hk3.1
      subst he
      have e3 : lEv ρ (e1, []) = e1 := Int.add_zero e1
      rw [x4, e3]
      rw [List.map_cons, cv_lK] at h1
      exact h1
    rw [if_neg ho] at hk
    rcases hG : (sG s)[a]? with _ | c
    · rw [hG] at hk
      cases hk
    rw [hG] at hk
    try dsimp only at hk
    rcases hK : KT.1[c]? with _ | (o | ⟨t, m, fl⟩)
    · rw [hK] at hk
      cases hk
    · rw [hK] at hk
      cases hk
    rw [hK] at hk
    have hk2 := Bool.and_eq_true_iff.mp hk
    have hk4 := Bool.and_eq_true_iff.mp hk2.1
    have ht : t = 1 := of_decide_eq_true hk4.1
    subst ht
    rcases hz : vRes fl e with _ | fz
    · have hk3 := hk2.2
      rw [hz] at hk3
      cases hk3
    have hk3 := hk2.2
    rw [hz] at hk3
    have ha := hat.2.2.2.1.2.1 a c hG
    obtain ⟨vs, f1, f2, f3⟩ := vHp_arr hat.2.2.2.1.1 ha hK
    obtain ⟨x1, x2, x3, x4⟩ := vIdx_spec hat.2.2.2.1 hk4.2
    obtain ⟨u, u1, u2⟩ := f3 _ fz x2 (vRes_spec x3 hz)
    obtain ⟨ρ2, σ2, s2, v0, g0, g1, g2, g4, g3⟩ := vRdF_spec hat.2.2.2.1 (i := a) (key := .inr e) (u := u) ⟨_, vs, f1, x3, u1⟩ u2 (fun z => by cases z) hk3
    obtain ⟨v, H2, h1, h2⟩ := ih (vAt_ext hat g1 g4) g3 (vRetOk_ext g0 hret) (vCutOk_ext g0 hcut)
    have hlt := vHp_lt hat.2.2.2.1.1 ha
    have hl2 := hat.1.2
    rw [List.map_cons, g2, g4.2.1] at h1
    exact ⟨v, H2, xT_baload hq hc (a := sR σ a) (e := Int32.ofInt (lEv ρ e)) (by omega) f1 (by rw [f2]; exact x1) (by rw [x4]; exact u1) h1, h2⟩
  case aaload =>
    try dsimp only at hk
    rcases S with _ | ⟨e | e, _ | ⟨b | (_ | a), r⟩⟩ <;> first | (cases hk; done) | skip
    try dsimp only at hk
    rcases hG : (sG s)[a]? with _ | c
    · rw [hG] at hk
      cases hk
    rw [hG] at hk
    try dsimp only at hk
    rcases hK : KT.1[c]? with _ | (o | ⟨t, m, fl⟩)
    · rw [hK] at hk
      cases hk
    · rw [hK] at hk
      cases hk
    rw [hK] at hk
    have hk2 := Bool.and_eq_true_iff.mp hk
    have hk4 := Bool.and_eq_true_iff.mp hk2.1
    try skip
    rcases hz : vRes fl e with _ | fz
    · have hk3 := hk2.2
      rw [hz] at hk3
      cases hk3
    have hk3 := hk2.2
    rw [hz] at hk3
    have ha := hat.2.2.2.1.2.1 a c hG
    obtain ⟨vs, f1, f2, f3⟩ := vHp_arr hat.2.2.2.1.1 ha hK
    obtain ⟨x1, x2, x3, x4⟩ := vIdx_spec hat.2.2.2.1 hk4.2
    obtain ⟨u, u1, u2⟩ := f3 _ fz x2 (vRes_spec x3 hz)
    obtain ⟨ρ2, σ2, s2, v0, g0, g1, g2, g4, g3⟩ := vRdF_spec hat.2.2.2.1 (i := a) (key := .inr e) (u := u) ⟨_, vs, f1, x3, u1⟩ u2 (fun z => by
      have z2 := Bool.and_eq_true_iff.mp z
      obtain ⟨t2, ws, p, w1, w2⟩ := vNnQ_spec hat.2.2.2.1 z2.2 x3
      rw [f1] at w1
      cases w1
      rw [u1] at w2
      cases w2
      intro w3
      cases w3) hk3
    obtain ⟨v, H2, h1, h2⟩ := ih (vAt_ext hat g1 g4) g3 (vRetOk_ext g0 hret) (vCutOk_ext g0 hcut)
    have hlt := vHp_lt hat.2.2.2.1.1 ha
    have hl2 := hat.1.2
    rw [List.map_cons, g2, g4.2.1] at h1
    exact ⟨v, H2, xT_aaload hq hc (a := sR σ a) (e := Int32.ofInt (lEv ρ e)) (of_decide_eq_true hk4.1) f1 (by rw [f2]; exact x1) (by rw [x4]; exact u1) h1, h2⟩
  case iastore =>
    try dsimp only at hk
    rcases S with _ | ⟨x | x, _ | ⟨e | e, _ | ⟨b | (_ | a), r⟩⟩⟩ <;> first | (cases hk; done) | skip
    try dsimp only at hk
    rcases hG : (sG s)[a]? with _ | c
    · rw [hG] at hk
      cases hk
    rw [hG] at hk
    try dsimp only at hk
    rcases hK : KT.1[c]? with _ | (o | ⟨t, m, fl⟩)
    · rw [hK] at hk
      cases hk
    · rw [hK] at hk
      cases hk
    rw [hK] at hk
    have hk2 := Bool.and_eq_true_iff.mp hk
    have hk3 := Bool.and_eq_true_iff.mp hk2.1
    have hk4 := hk3.1
    simp only [Bool.and_eq_true] at hk4
    obtain ⟨⟨⟨⟨q1, q2⟩, q2g⟩, q3⟩, q4⟩ := hk4
    have q2g := of_decide_eq_true q2g
    have hk5 := hk3.2
    rcases hz : vRes fl e with _ | fz
    · rw [hz] at hk5
      cases hk5
    rw [hz] at hk5
    have hk6 := Bool.and_eq_true_iff.mp hk5
    have ht : t = 0 := of_decide_eq_true q1
    subst ht
    have q2 := of_decide_eq_true q2
    have ha := hat.2.2.2.1.2.1 a c hG
    obtain ⟨vs, f1, f2, f3⟩ := vHp_arr hat.2.2.2.1.1 ha hK
    obtain ⟨x1, x2, x3, x4⟩ := vIdx_spec hat.2.2.2.1 q4
    have hr := vSto_rel hat.2.2.2.1 ha hK f1 (e := e) (v := .inl x) x3 (by rw [f2]; exact x2) (vRes_spec x3 hz) (vFits_spec hat.2.2.2.1 hk6.1) (fun z => (q2 z).elim) q2g
    have g0 : vExt s (vSto a e (.inl x) s) ρ ρ σ σ := vExt_eq ρ σ rfl rfl
    obtain ⟨v, H2, h1, h2⟩ := ih (vAt_set hat hr ha f1 ⟨rfl, fun z => by rw [q3] at z; cases z⟩) hk2.2 (vRetOk_ext g0 hret) (vCutOk_ext g0 hcut)
    refine ⟨v, H2, xT_iastore hq hc (a := sR σ a) (e := Int32.ofInt (lEv ρ e)) (x := Int32.ofInt (lEv ρ x)) f1 (by rw [f2]; exact x1) ?_, h2⟩
    rw [x4]
    exact h1
  case bastore =>
    try dsimp only at hk
    rcases S with _ | ⟨x | x, _ | ⟨e | e, _ | ⟨b | (_ | a), r⟩⟩⟩ <;> first | (cases hk; done) | skip
    try dsimp only at hk
    rcases hG : (sG s)[a]? with _ | c
    · rw [hG] at hk
      cases hk
    rw [hG] at hk
    try dsimp only at hk
    rcases hK : KT.1[c]? with _ | (o | ⟨t, m, fl⟩)
    · rw [hK] at hk
      cases hk
    · rw [hK] at hk
      cases hk
    rw [hK] at hk
    have hk2 := Bool.and_eq_true_iff.mp hk
    have hk3 := Bool.and_eq_true_iff.mp hk2.1
    have hk4 := hk3.1
    simp only [Bool.and_eq_true] at hk4
    obtain ⟨⟨⟨⟨q1, q2⟩, q2g⟩, q3⟩, q4⟩ := hk4
    have q2g := of_decide_eq_true q2g
    have hk5 := hk3.2
    rcases hz : vRes fl e with _ | fz
    · rw [hz] at hk5
      cases hk5
    rw [hz] at hk5
    have hk6 := Bool.and_eq_true_iff.mp hk5
    have ht : t = 1 := of_decide_eq_true q1
    subst ht
    have q2 := of_decide_eq_true q2
    have ha := hat.2.2.2.1.2.1 a c hG
    obtain ⟨vs, f1, f2, f3⟩ := vHp_arr hat.2.2.2.1.1 ha hK
    obtain ⟨x1, x2, x3, x4⟩ := vIdx_spec hat.2.2.2.1 q4
    have hr := vSto_rel hat.2.2.2.1 ha hK f1 (e := e) (v := .inl x) x3 (by rw [f2]; exact x2) (vRes_spec x3 hz) (vFits_spec hat.2.2.2.1 hk6.1) (fun z => (q2 z).elim) q2g
    have g0 : vExt s (vSto a e (.inl x) s) ρ ρ σ σ := vExt_eq ρ σ rfl rfl
    obtain ⟨v, H2, h1, h2⟩ := ih (vAt_set hat hr ha f1 (vMonB q3)) hk2.2 (vRetOk_ext g0 hret) (vCutOk_ext g0 hcut)
    refine ⟨v, H2, xT_bastore hq hc (a := sR σ a) (e := Int32.ofInt (lEv ρ e)) (x := Int32.ofInt (lEv ρ x)) (vB01_fit hat.2.2.2.1 hk6.2) f1 (by rw [f2]; exact x1) ?_, h2⟩
    rw [x4]
    exact h1
  case aastore =>
    try dsimp only at hk
    rcases S with _ | ⟨x | (_ | x), _ | ⟨e | e, _ | ⟨b | (_ | a), r⟩⟩⟩ <;> first | (cases hk; done) | skip
    try dsimp only at hk
    rcases hG : (sG s)[a]? with _ | c
    · rw [hG] at hk
      cases hk
    rw [hG] at hk
    try dsimp only at hk
    rcases hK : KT.1[c]? with _ | (o | ⟨t, m, fl⟩)
    · rw [hK] at hk
      cases hk
    · rw [hK] at hk
      cases hk
    rw [hK] at hk
    have hk2 := Bool.and_eq_true_iff.mp hk
    have hk3 := Bool.and_eq_true_iff.mp hk2.1
    obtain ⟨q5, q4⟩ := Bool.and_eq_true_iff.mp hk3.1
    obtain ⟨q2g, q3⟩ := Bool.and_eq_true_iff.mp q5
    have q2g := of_decide_eq_true q2g
    have hk5 := hk3.2
    rcases hz : vRes fl e with _ | fz
    · rw [hz] at hk5
      cases hk5
    rw [hz] at hk5
    have hk7 := hk2.2
    rcases hX : (sG s)[x]? with _ | d
    · rw [hX] at hk7
      cases hk7
    rw [hX] at hk7
    try dsimp only at hk7
    rcases hP : KT.1[d]? with _ | (⟨ci, gl⟩ | p)
    · rw [hP] at hk7
      cases hk7
    rotate_left
    · rw [hP] at hk7
      cases hk7
    rw [hP] at hk7
    try dsimp only at hk7
    split at hk7
    rotate_left
    · cases hk7
    rename_i nm hnm
    have hk8 := Bool.and_eq_true_iff.mp hk7
    have ha := hat.2.2.2.1.2.1 a c hG
    have hx := hat.2.2.2.1.2.1 x d hX
    obtain ⟨vs, f1, f2, f3⟩ := vHp_arr hat.2.2.2.1.1 ha hK
    obtain ⟨gs, y1, y2, y3⟩ := vHp_obj hat.2.2.2.1.1 hx hP
    obtain ⟨x1, x2, x3, x4⟩ := vIdx_spec hat.2.2.2.1 q4
    have hr := vSto_rel hat.2.2.2.1 ha hK f1 (e := e) (v := .inr (some x)) x3 (by rw [f2]; exact x2) (vRes_spec x3 hz) (vFits_spec hat.2.2.2.1 hk5) (fun _ => ⟨sR σ x, rfl⟩) q2g
    have g0 : vExt s (vSto a e (.inr (some x)) s) ρ ρ σ σ := vExt_eq ρ σ rfl rfl
    obtain ⟨v, H2, h1, h2⟩ := ih (vAt_set hat hr ha f1 ⟨rfl, fun z => by rw [q3] at z; cases z⟩) hk8.2 (vRetOk_ext g0 hret) (vCutOk_ext g0 hcut)
    refine ⟨v, H2, xT_aastore hq hc (a := sR σ a) (u := sR σ x) (e := Int32.ofInt (lEv ρ e)) f1 y1 hnm hk8.1 (by rw [f2]; exact x1) ?_, h2⟩
    rw [x4]
    exact h1
  case putfield ix =>
    try dsimp only at hk
    rcases S with _ | ⟨x, _ | ⟨b | (_ | a), r⟩⟩ <;> first | (cases hk; done) | skip
    try dsimp only at hk
    rcases hf : tFld tb (mO q) ix with _ | ⟨ci, j⟩
    · rw [hf] at hk
      cases hk
    rw [hf] at hk
    try dsimp only at hk
    rcases hG : (sG s)[a]? with _ | c
    · rw [hG] at hk
      cases hk
    rw [hG] at hk
    try dsimp only at hk
    rcases hK : KT.1[c]? with _ | (⟨c2, fl⟩ | o)
    · rw [hK] at hk
      cases hk
    rotate_left
    · rw [hK] at hk
      cases hk
    rw [hK] at hk
    try dsimp only at hk
    rcases hz : fl[j]? with _ | fz
    · rw [hz] at hk
      cases hk
    rw [hz] at hk
    try dsimp only at hk
    rcases hT : (tFt tb ci)[j]? with _ | tt
    · rw [hT] at hk
      cases hk
    rw [hT] at hk
    have hk2 := Bool.and_eq_true_iff.mp hk
    have hk3 := Bool.and_eq_true_iff.mp hk2.1
    have hk6 := Bool.and_eq_true_iff.mp hk3.2
    have hk7 := Bool.and_eq_true_iff.mp hk3.1
    have hk4 := Bool.and_eq_true_iff.mp hk7.2
    have hk5 := Bool.and_eq_true_iff.mp hk4.2
    have hci : c2 = ci := of_decide_eq_true hk7.1
    subst hci
    have ha := hat.2.2.2.1.2.1 a c hG
    obtain ⟨fs, f1, f2, f3⟩ := vHp_obj hat.2.2.2.1.1 ha hK
    have hj := (List.getElem?_eq_some_iff.mp hz).1
    have hr := vPut_rel hat.2.2.2.1 ha hK f1 hz (by rw [f2]; exact hj) (vFits_spec hat.2.2.2.1 hk4.1) hk6.2
    have g0 : vExt s (vPut a j x s) ρ ρ σ σ := vExt_eq ρ σ rfl rfl
    obtain ⟨v, H2, h1, h2⟩ := ih (vAt_set hat hr ha f1 ⟨rfl, List.length_set .., fun i hi => by
      show (fs.set j (cv ρ σ x))[i]? = fs[i]?
      rw [List.getElem?_set_ne]
      intro e
      rw [← e, hk6.1] at hi
      cases hi⟩) hk2.2 (vRetOk_ext g0 hret) (vCutOk_ext g0 hcut)
    refine ⟨v, H2, xT_putfield hq hc (a := sR σ a) hf f1 hT ?_ h1, h2⟩
    rw [vTyp_spec hat.2.2.2.1 hk5.1, hk5.2, decide_eq_true (show c2 = c2 from rfl), decide_eq_true (show j < fs.length by rw [f2]; exact hj)]
    rfl
  case ldc ix =>
    try dsimp only at hk
    rcases hx : tLi tb (mO q) ix with _ | x
    · rw [hx] at hk
      try dsimp only at hk
      rcases hs : ov.1 (mO q) ix with _ | a
      · rw [hs] at hk
        cases hk
      rw [hs] at hk
      have hk2 := Bool.and_eq_true_iff.mp hk
      obtain ⟨v, H2, h1, h2⟩ := ih hat hk2.2 hret hcut
      have := of_decide_eq_true hk2.1
      have e0 : sR σ a = a := if_neg (by omega)
      refine ⟨v, H2, xT_ldcT hq hc (a := a) hx (hov.1 _ _ _ hs) ?_, h2⟩
      rw [List.map_cons, show cv ρ σ (.inr (some a)) = .inr (some a) from congrArg (fun z => Sum.inr (some z)) e0] at h1
      exact h1
    rw [hx] at hk
    obtain ⟨v, H2, h1, h2⟩ := ih hat hk hret hcut
    refine ⟨v, H2, xT_ldc hq hc hx ?_, h2⟩
    rw [List.map_cons, cv_lK] at h1
    exact h1
  case ldc_w ix =>
    try dsimp only at hk
    rcases hx : tLi tb (mO q) ix with _ | x
    · rw [hx] at hk
      try dsimp only at hk
      rcases hs : ov.1 (mO q) ix with _ | a
      · rw [hs] at hk
        cases hk
      rw [hs] at hk
      have hk2 := Bool.and_eq_true_iff.mp hk
      obtain ⟨v, H2, h1, h2⟩ := ih hat hk2.2 hret hcut
      have := of_decide_eq_true hk2.1
      have e0 : sR σ a = a := if_neg (by omega)
      refine ⟨v, H2, xT_ldc_wT hq hc (a := a) hx (hov.1 _ _ _ hs) ?_, h2⟩
      rw [List.map_cons, show cv ρ σ (.inr (some a)) = .inr (some a) from congrArg (fun z => Sum.inr (some z)) e0] at h1
      exact h1
    rw [hx] at hk
    obtain ⟨v, H2, h1, h2⟩ := ih hat hk hret hcut
    refine ⟨v, H2, xT_ldc_w hq hc hx ?_, h2⟩
    rw [List.map_cons, cv_lK] at h1
    exact h1
  case i2l =>
    try dsimp only at hk
    rcases S with _ | ⟨a | a, r⟩ <;> first | (cases hk; done) | skip
    rcases hql : x_lq q pc with _ | ⟨j, j0, ix, j2⟩
    · rw [hql] at hk
      cases hk
    rw [hql] at hk
    try dsimp only at hk
    rcases hj : x_lk L j with _ | (b | b)
    · rw [hj] at hk
      cases hk
    rotate_left
    · rw [hj] at hk
      cases hk
    rw [hj] at hk
    rcases hj0 : x_lk L j0 with _ | (o | (_ | o))
    · rw [hj0] at hk
      cases hk
    · rw [hj0] at hk
      cases hk
    · rw [hj0] at hk
      cases hk
    rw [hj0] at hk
    rcases hj2 : x_lk L j2 with _ | (e | e)
    · rw [hj2] at hk
      cases hk
    rotate_left
    · rw [hj2] at hk
      cases hk
    rw [hj2] at hk
    try dsimp only at hk
    have hjE : x_lk Lc j2 = some (cv ρ σ (.inl (lNm (sI s) e))) := by
      rw [show cv ρ σ (.inl (lNm (sI s) e)) = cv ρ σ (.inl e) from congrArg (fun z => Sum.inl (Int32.ofInt z)) (lNm_ev hat.2.2.2.1.2.2.2.1 e)]
      exact hat.2.2.2.2.1 _ _ hj2
    rcases hf : tFld tb (mO q) ix with _ | ⟨ci, fj⟩
    · rw [hf] at hk
      cases hk
    rw [hf] at hk
    try dsimp only at hk
    generalize lNm (sI s) e = e at hk hjE
    rcases hG : (sG s)[o]? with _ | c
    · rw [hG] at hk
      cases hk
    rw [hG] at hk
    try dsimp only at hk
    rcases hK : KT.1[c]? with _ | (⟨c2, fl⟩ | ob)
    · rw [hK] at hk
      cases hk
    rotate_left
    · rw [hK] at hk
      cases hk
    rw [hK] at hk
    try dsimp only at hk
    rcases hz : fl[fj]? with _ | fz
    · rw [hz] at hk
      cases hk
    rw [hz] at hk
    have hk2 := Bool.and_eq_true_iff.mp hk
    have hci : c2 = ci := of_decide_eq_true hk2.1
    have ha := hat.2.2.2.1.2.1 o c hG
    obtain ⟨fs, f1, f2, f3⟩ := vHp_obj hat.2.2.2.1.1 ha hK
    obtain ⟨u, u1, u2⟩ := f3 fj fz hz
    obtain ⟨ρ2, σ2, s2, v0, g0, g1, g2, g4, g3⟩ := vRdF_spec hat.2.2.2.1 (i := o) (key := .inl fj) (u := u) ⟨c2, fs, f1, u1⟩ u2 (fun z => by cases z) hk2.2
    have hat2 := vAt_ext hat g1 g4
    rcases v0 with v0 | (_ | ar)
    · cases g3
    · cases g3
    try dsimp only at g3
    rcases hG2 : (sG s2)[ar]? with _ | c3
    · rw [hG2] at g3
      cases g3
    rw [hG2] at g3
    try dsimp only at g3
    rcases hK2 : KT.1[c3]? with _ | (oo | ⟨t, m, fl2⟩)
    · rw [hK2] at g3
      cases g3
    · rw [hK2] at g3
      cases g3
    rw [hK2] at g3
    have q2 := Bool.and_eq_true_iff.mp g3
    have q4 := Bool.and_eq_true_iff.mp q2.1
    have ht : t = 0 := of_decide_eq_true q4.1
    subst ht
    rcases hz2 : vRes fl2 e with _ | fz2
    · have q3 := q2.2
      rw [hz2] at q3
      cases q3
    have q3 := q2.2
    rw [hz2] at q3
    try dsimp only at q3
    have ha2 := hat2.2.2.2.1.2.1 ar c3 hG2
    obtain ⟨vs, y1, y2, y3⟩ := vHp_arr hat2.2.2.2.1.1 ha2 hK2
    obtain ⟨x1, x2, x3, x4⟩ := vIdx_spec hat2.2.2.2.1 q4.2
    obtain ⟨u', w1, w2⟩ := y3 _ fz2 x2 (vRes_spec x3 hz2)
    obtain ⟨ρ3, σ3, s3, v3, k0, k1, k2, k4, k3⟩ := vRdF_spec hat2.2.2.2.1 (i := ar) (key := .inr e) (u := u') ⟨_, vs, y1, x3, w1⟩ w2 (fun z => by cases z) q3
    have hat3 := vAt_ext hat2 k1 k4
    rcases v3 with lv | v3
    rotate_left
    · cases k3
    obtain ⟨s4, z1, z2, xi, z3, z4⟩ := vL3_spec k1 k3
    have xx := vSame0_ext z2 ρ3 σ3
    obtain ⟨v, H2, h1, h2⟩ := ih (vAt_same hat3 z1) z3 (vRetOk_ext xx (vRetOk_ext k0 (vRetOk_ext g0 hret))) (vCutOk_ext xx (vCutOk_ext k0 (vCutOk_ext g0 hcut)))
    have m1 := g4.2.1
    have m2 := k4.2.1
    simp only [List.map_cons, List.cons.injEq] at m1 m2
    have eA : cv ρ3 σ3 (.inl a) = cv ρ σ (.inl a) := m2.1.trans m1.1
    have eB : cv ρ3 σ3 (.inl b) = cv ρ σ (.inl b) := m2.2.1.trans m1.2.1
    have eE : cv ρ2 σ2 (.inl e) = cv ρ σ (.inl e) := m1.2.2.1
    have eR : r.map (cv ρ3 σ3) = r.map (cv ρ σ) := m2.2.2.trans m1.2.2.2
    have fA : Int32.ofInt (lEv ρ3 a) = Int32.ofInt (lEv ρ a) := Sum.inl.inj eA
    have fB : Int32.ofInt (lEv ρ3 b) = Int32.ofInt (lEv ρ b) := Sum.inl.inj eB
    have fE : Int32.ofInt (lEv ρ2 e) = Int32.ofInt (lEv ρ e) := Sum.inl.inj eE
    have hlt := vHp_lt hat.2.2.2.1.1 ha
    have hl2 := hat.1.2
    have uA : fs[fj]? = some (.inr (some (sR σ2 ar))) := by rw [u1, ← g2]; rfl
    rw [List.map_cons, eR] at h1
    refine ⟨v, H2, xT_l3 hq hc (a := Int32.ofInt (lEv ρ a)) (b := Int32.ofInt (lEv ρ b)) (e := Int32.ofInt (lEv ρ e)) (u := Int32.ofInt (lEv ρ3 lv)) (ob := sR σ o) (y := sR σ2 ar) hql (hat.2.2.2.2.1 _ _ hj) (hat.2.2.2.2.1 _ _ hj0) hjE hf f1 hci uA y1 (by rw [y2, ← fE]; exact x1) (by rw [← fE, x4, w1, ← k2]; rfl) ?_, h2⟩
    rw [z4, fA, fB] at h1
    exact h1
  case getstatic ix =>
    try dsimp only at hk
    rcases hx : ov.2.2.1 (mO q) ix with _ | u
    · rw [hx] at hk
      cases hk
    rw [hx] at hk
    try dsimp only at hk
    rcases hv : vOv u with _ | v0
    · rw [hv] at hk
      cases hk
    rw [hv] at hk
    obtain ⟨v, H2, h1, h2⟩ := ih hat hk hret hcut
    refine ⟨v, H2, xT_getstatic hq hc (hov.2.2.1 _ _ _ hx) ?_, h2⟩
    rw [← vOv_spec ρ σ hv]
    exact h1
  case arraylength =>
    try dsimp only at hk
    rcases S with _ | ⟨b | (_ | a), r⟩ <;> first | (cases hk; done) | skip
    try dsimp only at hk
    by_cases ho : 1000000 < a
    · rw [if_pos ho] at hk
      rcases hu : ov.2.2.2.1 a with _ | bs
      · rw [hu] at hk
        cases hk
      rw [hu] at hk
      obtain ⟨v, H2, h1, h2⟩ := ih hat hk hret hcut
      have e : sR σ a = a := if_neg (by omega)
      refine ⟨v, H2, xT_arraylengthB hq hc (a := sR σ a) (by rw [e]; omega) (by rw [e]; exact hov.2.2.2.1 _ _ hu) (by rw [e]; exact ho) ?_, h2⟩
      rw [List.map_cons, cv_lK] at h1
      exact h1
    · rw [if_neg ho] at hk
      cases hk
  case tableswitch df lo up os =>
    try dsimp only at hk
    rcases S with _ | ⟨a | a, r⟩ <;> first | (cases hk; done) | skip
    have hk2 := Bool.and_eq_true_iff.mp hk
    have hk3 := Bool.and_eq_true_iff.mp hk2.1
    obtain ⟨s2, g0, g1, g2⟩ := vSw_spec _ hat.2.2.2.1 hk2.2
    rcases ht : x_jp pc (x_swo (Int32.ofInt (lEv ρ a)) df (x_tp lo os.toList)) with _ | t
    · rw [ht] at g2
      cases g2
    rw [ht] at g2
    have x1 := vSame0_ext g1 ρ σ
    obtain ⟨v, H2, h1, h2⟩ := ih (vAt_same hat g0) g2 (vRetOk_ext x1 hret) (vCutOk_ext x1 hcut)
    exact ⟨v, H2, xT_tableswitch hq hc (a := Int32.ofInt (lEv ρ a)) (of_decide_eq_true hk3.1) hk3.2 ht h1, h2⟩
  case lookupswitch df ps =>
    try dsimp only at hk
    rcases S with _ | ⟨a | a, r⟩ <;> first | (cases hk; done) | skip
    have hk2 := Bool.and_eq_true_iff.mp hk
    have hk3 := Bool.and_eq_true_iff.mp hk2.1
    obtain ⟨s2, g0, g1, g2⟩ := vSw_spec _ hat.2.2.2.1 hk2.2
    rcases ht : x_jp pc (x_swo (Int32.ofInt (lEv ρ a)) df ps.toList) with _ | t
    · rw [ht] at g2
      cases g2
    rw [ht] at g2
    have x1 := vSame0_ext g1 ρ σ
    obtain ⟨v, H2, h1, h2⟩ := ih (vAt_same hat g0) g2 (vRetOk_ext x1 hret) (vCutOk_ext x1 hcut)
    exact ⟨v, H2, xT_lookupswitch hq hc (a := Int32.ofInt (lEv ρ a)) (hk3.1) hk3.2 ht h1, h2⟩
  case new ix =>
    try dsimp only at hk
    rcases hx : tNw tb (mO q) ix with _ | ci
    · rw [hx] at hk
      cases hk
    rw [hx] at hk
    try dsimp only at hk
    rcases hn : kn k pc with _ | c
    · rw [hn] at hk
      cases hk
    rw [hn] at hk
    try dsimp only at hk
    rcases hK : KT.1[c]? with _ | (⟨c2, fl⟩ | o)
    · rw [hK] at hk
      cases hk
    rotate_left
    · rw [hK] at hk
      cases hk
    rw [hK] at hk
    simp only [Bool.and_eq_true] at hk
    obtain ⟨⟨⟨⟨⟨k1, k2⟩, k3, k3g⟩, k4, k5⟩, k6, k7⟩, k8⟩ := hk
    have k3g := of_decide_eq_true k3g
    have k1 : c2 = ci := of_decide_eq_true k1
    subst k1
    have k3 := of_decide_eq_true k3
    obtain ⟨σ2, g0, g1, g2, g3⟩ := vMkD_rel hat.2.2.2.1 k7 hK (vDefs_cell (c2 := c2) (ty := vAdd ty H.length c) k2) k3 k3g
    have cc1 := cOk_spec (n := cn2 + 1) hat.2.2.2.1 (by rw [lAdd_ev, lK_ev]; have := hat.2.2.2.2.2.1; omega) k4
    have cc2 := cOk_spec (n := sn2 + (tFt tb c2).length) hat.2.2.2.1 (by rw [lAdd_ev, lK_ev]; have := hat.2.2.2.2.2.2; omega) k5
    have hl := hat.1.1
    have hl2 := hat.1.2
    have g4 := vFr_spec g0 k6
    have hat2 : vAt KT W ty0 H0 B L (vMkD KT c (tFt tb c2) s) (lAdd cn (lK 1)) (lAdd sn (lK (((tFt tb c2).length : Int) : Int))) ρ σ2 (vAdd ty H.length c) (H ++ [.inl (c2, (tFt tb c2).map (fun t => x_def dC t.1))]) Lc (cn2 + 1) (sn2 + (tFt tb c2).length) := by
      refine ⟨?_, vLe_tr hat.2.1 g3, vFrm_app hat.2.2.1 _, g1, g4.1 _ hat.2.2.2.2.1, ?_, ?_⟩
      · rw [List.length_append]
        show H.length + 1 ≤ B + (cn2 + 1) ∧ H.length + 1 ≤ 1000000
        omega
      · rw [lAdd_ev, lK_ev, g4.2.2.1]
        have := hat.2.2.2.2.2.1
        omega
      · rw [lAdd_ev, lK_ev, g4.2.2.2]
        have := hat.2.2.2.2.2.2
        omega
    obtain ⟨v, H2, h1, h2⟩ := ih hat2 k8 (vRetOk_ext g0 hret) (vCutOk_ext g0 hcut)
    rw [List.map_cons, g4.2.1, show cv ρ σ2 (.inr (some (sG s).length)) = .inr (some H.length) from congrArg (fun z => Sum.inr (some z)) g2] at h1
    refine ⟨v, H2, xT_new hq hc hx ?_ h1, h2⟩
    rw [decide_eq_true cc1, decide_eq_true cc2, decide_eq_true (show H.length + 1 ≤ 1000000 by omega)]
    rfl
  case newarray at_ =>
    try dsimp only at hk
    rcases S with _ | ⟨e | e, r⟩ <;> first | (cases hk; done) | skip
    try dsimp only at hk
    rcases hn : kn k pc with _ | c
    · rw [hn] at hk
      cases hk
    rw [hn] at hk
    try dsimp only at hk
    rcases hK : KT.1[c]? with _ | (o | ⟨t, m, fl⟩)
    · rw [hK] at hk
      cases hk
    · rw [hK] at hk
      cases hk
    rw [hK] at hk
    simp only [Bool.and_eq_true] at hk
    obtain ⟨⟨⟨⟨⟨⟨⟨⟨k0, k1⟩, k2⟩, k3⟩, k4⟩, k5, k5g⟩, k6, k7⟩, k8, k9⟩, k10⟩ := hk
    have k5g := of_decide_eq_true k5g
    have k1 := of_decide_eq_true k1
    have k2 := of_decide_eq_true k2
    have k3 : m ≤ 100000 := of_decide_eq_true k3
    have k5 := of_decide_eq_true k5
    obtain ⟨σ2, g0, g1, g2, g3⟩ := vMkA_rel hat.2.2.2.1 k9 hK (vZero_cell (t := t) (m := m) (ty := vAdd ty H.length c) k4) k5 k5g
    have cc1 := cOk_spec (n := cn2 + 1) hat.2.2.2.1 (by rw [lAdd_ev, lK_ev]; have := hat.2.2.2.2.2.1; omega) k6
    have cc2 := cOk_spec (n := sn2 + m) hat.2.2.2.1 (by rw [lAdd_ev, lK_ev]; have := hat.2.2.2.2.2.2; omega) k7
    have hl := hat.1.1
    have hl2 := hat.1.2
    have g4 := vFr_spec g0 k8
    have hat2 : vAt KT W ty0 H0 B L (vMkA KT c s) (lAdd cn (lK 1)) (lAdd sn (lK ((m : Int) : Int))) ρ σ2 (vAdd ty H.length c) (H ++ [.inr (t, List.replicate m (.inl 0))]) Lc (cn2 + 1) (sn2 + m) := by
      refine ⟨?_, vLe_tr hat.2.1 g3, vFrm_app hat.2.2.1 _, g1, g4.1 _ hat.2.2.2.2.1, ?_, ?_⟩
      · rw [List.length_append]
        show H.length + 1 ≤ B + (cn2 + 1) ∧ H.length + 1 ≤ 1000000
        omega
      · rw [lAdd_ev, lK_ev, g4.2.2.1]
        have := hat.2.2.2.2.2.1
        omega
      · rw [lAdd_ev, lK_ev, g4.2.2.2]
        have := hat.2.2.2.2.2.2
        omega
    obtain ⟨v, H2, h1, h2⟩ := ih hat2 k10 (vRetOk_ext g0 hret) (vCutOk_ext g0 hcut)
    rw [List.map_cons, g4.2.1, show cv ρ σ2 (.inr (some (sG s).length)) = .inr (some H.length) from congrArg (fun z => Sum.inr (some z)) g2] at h1
    obtain ⟨e1, e2⟩ := e
    have k1 : e2 = [] := k1
    have k2 : e1 = (m : Int) := k2
    subst k1
    subst k2
    have e3 : lEv ρ ((m : Int), []) = (m : Int) := Int.add_zero _
    have e4 : (Int32.ofInt (m : Int)).toInt = (m : Int) := ofInt_toInt (by omega) (by omega)
    have e5 : (Int32.ofInt (m : Int)).toNatClampNeg = m := by
      show (Int32.ofInt (m : Int)).toInt.toNat = m
      omega
    have e6 : ¬ Int32.ofInt (m : Int) < 0 := fun z => by
      have z2 : (Int32.ofInt (m : Int)).toInt < (0 : Int) := Int32.lt_iff_toInt_lt.mp z
      omega
    have e7 : (decide (¬ Int32.ofInt (m : Int) < 0) && decide ((Int32.ofInt (m : Int)).toNatClampNeg ≤ 100000) && decide (cn2 + 1 ≤ mMc q) && decide (sn2 + (Int32.ofInt (m : Int)).toNatClampNeg ≤ mMs q) && decide (H.length + 1 ≤ 1000000)) = true := by
      rw [e5, decide_eq_true e6, decide_eq_true k3, decide_eq_true cc1, decide_eq_true cc2, decide_eq_true (show H.length + 1 ≤ 1000000 by omega)]
      rfl
    rcases at_ with _ | _ | _ | _ | _ | _ | _ | _ <;> first | (cases k0; done) | skip
    all_goals
      have k0 := of_decide_eq_true k0
      have k0 : t = _ := k0
      subst k0
      first
      | exact ⟨v, H2, xT_newarrayI hq hc (e := Int32.ofInt (lEv ρ ((m : Int), []))) (by rw [e3]; exact e7) (by rw [e3, e5]; exact h1), h2⟩
      | exact ⟨v, H2, xT_newarrayZ hq hc (e := Int32.ofInt (lEv ρ ((m : Int), []))) (by rw [e3]; exact e7) (by rw [e3, e5]; exact h1), h2⟩
  case multianewarray ix dm =>
    try dsimp only at hk
    rcases S with _ | ⟨e2 | e2, _ | ⟨e1 | e1, r⟩⟩ <;> first | (cases hk; done) | skip
    try dsimp only at hk
    rcases hM : tMn tb (mO q) ix with _ | ⟨y2, y1⟩
    · rw [hM] at hk
      cases hk
    rw [hM] at hk
    try dsimp only at hk
    rcases hn : kn k pc with _ | c
    · rw [hn] at hk
      cases hk
    rw [hn] at hk
    try dsimp only at hk
    rcases hK : KT.1[c]? with _ | (o | ⟨t2, n1, fw⟩)
    · rw [hK] at hk
      cases hk
    · rw [hK] at hk
      cases hk
    rw [hK] at hk
    try dsimp only at hk
    rcases fw with _ | ⟨w | ⟨wn, c1⟩, _ | ⟨w2, fw⟩⟩ <;> first | (cases hk; done) | skip
    try dsimp only at hk
    rcases hP : KT.1[c1]? with _ | (o | ⟨t1, n2, fl⟩)
    · rw [hP] at hk
      cases hk
    · rw [hP] at hk
      cases hk
    rw [hP] at hk
    simp only [Bool.and_eq_true] at hk
    obtain ⟨⟨⟨⟨⟨⟨⟨⟨⟨⟨⟨⟨⟨⟨⟨⟨⟨⟨b1, b2⟩, b3⟩, b4⟩, b5⟩, b6⟩, b7⟩, b8⟩, b9⟩, b10⟩, b11⟩, b12⟩, b13⟩, b14⟩, b15⟩, b16⟩, k6, k7⟩, k8, k9, k9b⟩, k10⟩ := hk
    have b1 : dm = 2 := of_decide_eq_true b1
    have b2 : y2 = t2 := of_decide_eq_true b2
    have b3 : y1 = t1 := of_decide_eq_true b3
    have b4 : t1 < 2 := of_decide_eq_true b4
    have b7 : n1 ≤ 1000 := of_decide_eq_true b7
    have b8 : n2 ≤ 1000 := of_decide_eq_true b8
    have b9 : wn = false := of_decide_eq_true b9
    have b11 : kRaw KT c = none := by simpa using b11
    have b12 : kRaw KT c1 = none := by simpa using b12
    subst b2
    subst b3
    subst b9
    obtain ⟨σ2, g0, g1, g2, g3⟩ := vMuM_rel hat.2.2.2.1 k9 hK hP b10 b11 b12 (of_decide_eq_true b13) (of_decide_eq_true b14) (of_decide_eq_true b15) (of_decide_eq_true b16) (of_decide_eq_true k9b)
    have cc1 := cOk_spec (n := cn2 + (1 + n1)) hat.2.2.2.1 (by rw [lAdd_ev, lK_ev]; have := hat.2.2.2.2.2.1; show ((cn2 + (1 + n1) : Nat) : Int) ≤ lEv ρ cn + ((1 + n1 : Nat) : Int); omega) k6
    have cc2 := cOk_spec (n := sn2 + (n1 + n1 * n2)) hat.2.2.2.1 (by rw [lAdd_ev, lK_ev]; have := hat.2.2.2.2.2.2; show ((sn2 + (n1 + n1 * n2) : Nat) : Int) ≤ lEv ρ sn + ((n1 + n1 * n2 : Nat) : Int); generalize n1 * n2 = z; omega) k7
    have hl := hat.1.1
    have hl2 := hat.1.2
    have g4 := vFr_spec g0 k8
    have hlen : (H ++ .inr (y2, x_refs (H.length + 1) n1) :: x_rows y1 (List.replicate n2 (.inl 0)) n1 : List (XC Int32)).length = H.length + 1 + n1 := by
      rw [List.length_append, List.length_cons, xrow_len]
      omega
    have hat2 : vAt KT W ty0 H0 B L (vMuM c c1 n1 s) (lAdd cn (lK ((1 + n1 : Nat) : Int))) (lAdd sn (lK ((n1 + n1 * n2 : Nat) : Int))) ρ σ2 (vAdd2 ty H.length n1 c c1) (H ++ .inr (y2, x_refs (H.length + 1) n1) :: x_rows y1 (List.replicate n2 (.inl 0)) n1) Lc (cn2 + 1 + n1) (sn2 + n1 + n1 * n2) := by
      refine ⟨?_, vLe_tr hat.2.1 g3, vFrm_app hat.2.2.1 _, g1, g4.1 _ hat.2.2.2.2.1, ?_, ?_⟩
      · rw [hlen]
        omega
      · rw [lAdd_ev, lK_ev, g4.2.2.1]
        have := hat.2.2.2.2.2.1
        omega
      · rw [lAdd_ev, lK_ev, g4.2.2.2]
        have := hat.2.2.2.2.2.2
        generalize n1 * n2 = z
        omega
    obtain ⟨v, H2, h1, h2⟩ := ih hat2 k10 (vRetOk_ext g0 hret) (vCutOk_ext g0 hcut)
    rw [List.map_cons, g4.2.1, show cv ρ σ2 (.inr (some (sG s).length)) = .inr (some H.length) from congrArg (fun z => Sum.inr (some z)) g2] at h1
    have q1 : lEv ρ e1 = (n1 : Int) := by
      have z := congrArg (lEv ρ) (lEq_spec b5)
      rw [lK_ev] at z
      exact z
    have q2 : lEv ρ e2 = (n2 : Int) := by
      have z := congrArg (lEv ρ) (lEq_spec b6)
      rw [lK_ev] at z
      exact z
    have f1 : (Int32.ofInt (lEv ρ e1)).toNatClampNeg = n1 := by
      show (Int32.ofInt (lEv ρ e1)).toInt.toNat = n1
      rw [q1, ofInt_toInt (by omega) (by omega)]
      omega
    have f2 : (Int32.ofInt (lEv ρ e2)).toNatClampNeg = n2 := by
      show (Int32.ofInt (lEv ρ e2)).toInt.toNat = n2
      rw [q2, ofInt_toInt (by omega) (by omega)]
      omega
    have p1 : ¬ Int32.ofInt (lEv ρ e1) < 0 := fun z => by
      have z2 : (Int32.ofInt (lEv ρ e1)).toInt < (0 : Int) := Int32.lt_iff_toInt_lt.mp z
      rw [q1, ofInt_toInt (by omega) (by omega)] at z2
      omega
    have p2 : ¬ Int32.ofInt (lEv ρ e2) < 0 := fun z => by
      have z2 : (Int32.ofInt (lEv ρ e2)).toInt < (0 : Int) := Int32.lt_iff_toInt_lt.mp z
      rw [q2, ofInt_toInt (by omega) (by omega)] at z2
      omega
    refine ⟨v, H2, xT_multianewarray hq hc (e1 := Int32.ofInt (lEv ρ e1)) (e2 := Int32.ofInt (lEv ρ e2)) hM ?_ ?_, h2⟩
    · rw [f1, f2, decide_eq_true b1, decide_eq_true p1, decide_eq_true p2, decide_eq_true (show n1 ≤ 100000 by omega), decide_eq_true (show n2 ≤ 100000 by omega), decide_eq_true b4, decide_eq_true cc1, decide_eq_true cc2, decide_eq_true (show H.length + 1 + n1 ≤ 1000000 by omega)]
      rfl
    · rw [f1, f2]
      exact h1
  case invokevirtual ix =>
    try dsimp only at hk
    rcases hy : tCal tb (mO q) ix with _ | y
    · rw [hy] at hk
      cases hk
    rw [hy] at hk
    try dsimp only at hk
    rcases dp with _ | dp2
    · cases hk
    try dsimp only at hk
    rcases hm : tMth tb y.1 with _ | q2
    · rw [hm] at hk
      cases hk
    rw [hm] at hk
    try dsimp only at hk
    rcases hd : S.drop (mNp q2) with _ | ⟨z | (_ | a), r⟩
    · rw [hd] at hk
      cases hk
    · rw [hd] at hk
      cases hk
    · rw [hd] at hk
      cases hk
    rw [hd] at hk
    obtain ⟨hk3, hkB⟩ := Bool.and_eq_true_iff.mp hk
    simp only [Bool.and_eq_true] at hk3
    obtain ⟨⟨⟨⟨⟨k1, k2⟩, k3⟩, k4⟩, k5⟩, kc1, kc2⟩ := hk3
    obtain ⟨dq, rfl⟩ : ∃ dq, dp2' = dq + 1 := ⟨dp2' - 1, by omega⟩
    have hdq : dp2 ≤ dq := by omega
    have c1 := cOk_spec (n := cn2 + mMc q2) hat.2.2.2.1 (by rw [lAdd_ev, lK_ev]; have := hat.2.2.2.2.2.1; omega) kc1
    have c2 := cOk_spec (n := sn2 + mMs q2) hat.2.2.2.1 (by rw [lAdd_ev, lK_ev]; have := hat.2.2.2.2.2.2; omega) kc2
    have hargs : ((.inr (some a) :: (S.take (mNp q2)).reverse) : List vA).map (cv ρ σ) = (.inr (some (sR σ a)) :: ((S.map (cv ρ σ)).take (mNp q2)).reverse) := by
      rw [List.map_cons, List.map_reverse, List.map_take]
      rfl
    have hgo : ∀ {ρ3 : Nat → Int} {σ3 : Nat → Nat} {ty3 : Nat → Option Nat} {H1 : List (XC Int32)} {s3 : vSt} {R3 : List vA} {u : Option (XV Int32)}, vExt s s3 ρ ρ3 σ σ3 → vLe ty0 ty3 → vFrm W ty0 H0 H1 → vRel KT ρ3 σ3 ty3 H1 s3 → H1.length ≤ H.length + mMc q2 → vFrP L r cn sn ρ σ ρ3 σ3 → R3.map (cv ρ3 σ3) = x_push u (r.map (cv ρ σ)) → vChkO KT tb tyl ov CT hs kn W f 0 (dp2 + 1) k (pc + 3) L R3 s3 (lAdd cn (lK (mMc q2 : Int))) (lAdd sn (lK (mMs q2 : Int))) cu ret = true → ∃ v H2, x_To tb tyl ot (dq + 1) k (pc + 3) Lc (x_push u (r.map (cv ρ σ))) H1 (cn2 + mMc q2) (sn2 + mMs q2) v H2 ∧ Post v H2 := by
      intro ρ3 σ3 ty3 H1 s3 R3 u e1 e2 e3 e4 e5 e6 e7 e8
      have hat3 : vAt KT W ty0 H0 B L s3 (lAdd cn (lK (mMc q2 : Int))) (lAdd sn (lK (mMs q2 : Int))) ρ3 σ3 ty3 H1 Lc (cn2 + mMc q2) (sn2 + mMs q2) := by
        refine ⟨by have := hat.1.1; omega, e2, e3, e4, e6.1 _ hat.2.2.2.2.1, ?_, ?_⟩
        · rw [lAdd_ev, lK_ev, e6.2.2.1]
          have := hat.2.2.2.2.2.1
          omega
        · rw [lAdd_ev, lK_ev, e6.2.2.2]
          have := hat.2.2.2.2.2.2
          omega
      obtain ⟨v, H2, h1, h2⟩ := ih hat3 e8 (vRetOk_ext e1 hret) (vCutOk_ext e1 hcut)
      rw [e7] at h1
      exact ⟨v, H2, h1, h2⟩
    have hcall : ∃ u H1 v H2, x_To tb tyl ot dq y.1 0 (x_en 0 (.inr (some (sR σ a)) :: ((S.map (cv ρ σ)).take (mNp q2)).reverse)) [] H 0 0 u H1 ∧ x_To tb tyl ot (dq + 1) k (pc + 3) Lc (x_push u (r.map (cv ρ σ))) H1 (cn2 + mMc q2) (sn2 + mMs q2) v H2 ∧ Post v H2 := by
      by_cases hC : (CT y.1).isEmpty = true
      · rw [if_pos hC] at hkB
        have hkB2 := Bool.and_eq_true_iff.mp hkB
        have hat2 : vAt KT W ty0 H0 H.length (x_en 0 (.inr (some a) :: (S.take (mNp q2)).reverse)) s (lK 0) (lK 0) ρ σ ty H (x_en 0 (((.inr (some a) :: (S.take (mNp q2)).reverse) : List vA).map (cv ρ σ))) 0 0 := ⟨⟨Nat.le_refl _, hat.1.2⟩, hat.2.1, hat.2.2.1, hat.2.2.2.1, vCov_en _ 0, Int.le_refl _, Int.le_refl _⟩
        obtain ⟨u, H1, h1, v, H2, h2, h3⟩ := ih0 0 hm hdq (show H.length + mMc q2 ≤ 1000000 by have := hat.1.1; omega) hat2 hkB2.2 (Post := fun u H1 => ∃ v H2, x_To tb tyl ot (dq + 1) k (pc + 3) Lc (x_push u (r.map (cv ρ σ))) H1 (cn2 + mMc q2) (sn2 + mMs q2) v H2 ∧ Post v H2) (fun ρ3 σ3 ty3 H1 s3 av e1 e2 e3 e4 e5 e6 => hgo e1 e2 e3 e4 e5 (vFr_spec e1 hkB2.1) (by
            rcases av with _ | av
            · exact (vFr_spec e1 hkB2.1).2.1
            · show cv ρ3 σ3 av :: List.map (cv ρ3 σ3) r = cv ρ3 σ3 av :: _
              rw [(vFr_spec e1 hkB2.1).2.1]) e6) (fun pc3 c3 hc3 => by cases hc3)
        rw [hargs] at h1
        exact ⟨u, H1, v, H2, h1, h2, h3⟩
      · rw [if_neg hC] at hkB
        have hkB2 := Bool.and_eq_true_iff.mp hkB
        obtain ⟨u, H1, ρ3, σ3, ty3, s3, S3, h1, e1, e4, e7, e2, e3, e5, e6⟩ := vCal_spec hm hdq hat.2.2.2.1 (show H.length + mMc q2 ≤ 1000000 by have := hat.1.1; omega) hat.2.1 hat.2.2.1 (fun c hc => hCT y.1 c hc) hkB2.2
        rw [hargs] at h1
        have e8 := vFr_spec e1 hkB2.1
        rcases S3 with _ | ⟨av, _ | ⟨bv, S3⟩⟩
        · rcases u with _ | u
          · obtain ⟨v, H2, h2, h3⟩ := hgo (u := none) e1 e2 e3 e4 e5 e8 e8.2.1 e6
            exact ⟨none, H1, v, H2, h1, h2, h3⟩
          · cases e7
        · rcases u with _ | u
          · cases e7
          · obtain ⟨v, H2, h2, h3⟩ := hgo (u := some u) (R3 := av :: r) e1 e2 e3 e4 e5 e8 (by
              have e9 : cv ρ3 σ3 av = u := (List.cons.inj e7).1
              rw [List.map_cons, e9, e8.2.1]
              rfl) e6
            exact ⟨some u, H1, v, H2, h1, h2, h3⟩
        · cases e6
    obtain ⟨u, H1, v, H2, h1, h2, h3⟩ := hcall
    refine ⟨v, H2, xT_invokevirtual hq hc (a := sR σ a) (u := u) (H1 := H1) (r := r.map (cv ρ σ)) (j := y.1) (so := y.2) hy hm (by rw [← List.map_drop, hd]; rfl) ?_ h1 h2, h3⟩
    rw [List.length_map, List.length_map, k1, k2, k4, k5, decide_eq_true c1, decide_eq_true c2, decide_eq_true (vCls_spec hov hat.2.2.2.1 hat.1.2 k3)]
    rfl
  case invokespecial ix =>
    try dsimp only at hk
    by_cases hb : tBi tb (mO q) ix = some 0
    · rw [if_pos hb] at hk
      rcases S with _ | ⟨a | (_ | a), r⟩ <;> first | (cases hk; done) | skip
      have hk2 := Bool.and_eq_true_iff.mp hk
      obtain ⟨v, H2, h1, h2⟩ := ih hat hk2.2 hret hcut
      exact ⟨v, H2, xT_objectInit hq hc (a := sR σ a) hb (by rw [List.length_map]; exact hk2.1) h1, h2⟩
    · rw [if_neg hb] at hk
      by_cases hn : tBi tb (mO q) ix = none
      rotate_left
      · rw [if_neg hn] at hk
        cases hk
      rw [if_pos hn] at hk
      try dsimp only at hk
      rcases hy : tCal tb (mO q) ix with _ | y
      · rw [hy] at hk
        cases hk
      rw [hy] at hk
      try dsimp only at hk
      rcases dp with _ | dp2
      · cases hk
      try dsimp only at hk
      rcases hm : tMth tb y.1 with _ | q2
      · rw [hm] at hk
        cases hk
      rw [hm] at hk
      try dsimp only at hk
      rcases hd : S.drop (mNp q2) with _ | ⟨z | (_ | a), r⟩
      · rw [hd] at hk
        cases hk
      · rw [hd] at hk
        cases hk
      · rw [hd] at hk
        cases hk
      rw [hd] at hk
      obtain ⟨hk3, hkB⟩ := Bool.and_eq_true_iff.mp hk
      simp only [Bool.and_eq_true] at hk3
      obtain ⟨⟨⟨⟨⟨k1, k2⟩, k3⟩, k4⟩, k5⟩, kc1, kc2⟩ := hk3
      obtain ⟨dq, rfl⟩ : ∃ dq, dp2' = dq + 1 := ⟨dp2' - 1, by omega⟩
      have hdq : dp2 ≤ dq := by omega
      have c1 := cOk_spec (n := cn2 + mMc q2) hat.2.2.2.1 (by rw [lAdd_ev, lK_ev]; have := hat.2.2.2.2.2.1; omega) kc1
      have c2 := cOk_spec (n := sn2 + mMs q2) hat.2.2.2.1 (by rw [lAdd_ev, lK_ev]; have := hat.2.2.2.2.2.2; omega) kc2
      have hargs : ((.inr (some a) :: (S.take (mNp q2)).reverse) : List vA).map (cv ρ σ) = (.inr (some (sR σ a)) :: ((S.map (cv ρ σ)).take (mNp q2)).reverse) := by
        rw [List.map_cons, List.map_reverse, List.map_take]
        rfl
      have hgo : ∀ {ρ3 : Nat → Int} {σ3 : Nat → Nat} {ty3 : Nat → Option Nat} {H1 : List (XC Int32)} {s3 : vSt} {R3 : List vA} {u : Option (XV Int32)}, vExt s s3 ρ ρ3 σ σ3 → vLe ty0 ty3 → vFrm W ty0 H0 H1 → vRel KT ρ3 σ3 ty3 H1 s3 → H1.length ≤ H.length + mMc q2 → vFrP L r cn sn ρ σ ρ3 σ3 → R3.map (cv ρ3 σ3) = x_push u (r.map (cv ρ σ)) → vChkO KT tb tyl ov CT hs kn W f 0 (dp2 + 1) k (pc + 3) L R3 s3 (lAdd cn (lK (mMc q2 : Int))) (lAdd sn (lK (mMs q2 : Int))) cu ret = true → ∃ v H2, x_To tb tyl ot (dq + 1) k (pc + 3) Lc (x_push u (r.map (cv ρ σ))) H1 (cn2 + mMc q2) (sn2 + mMs q2) v H2 ∧ Post v H2 := by
        intro ρ3 σ3 ty3 H1 s3 R3 u e1 e2 e3 e4 e5 e6 e7 e8
        have hat3 : vAt KT W ty0 H0 B L s3 (lAdd cn (lK (mMc q2 : Int))) (lAdd sn (lK (mMs q2 : Int))) ρ3 σ3 ty3 H1 Lc (cn2 + mMc q2) (sn2 + mMs q2) := by
          refine ⟨by have := hat.1.1; omega, e2, e3, e4, e6.1 _ hat.2.2.2.2.1, ?_, ?_⟩
          · rw [lAdd_ev, lK_ev, e6.2.2.1]
            have := hat.2.2.2.2.2.1
            omega
          · rw [lAdd_ev, lK_ev, e6.2.2.2]
            have := hat.2.2.2.2.2.2
            omega
        obtain ⟨v, H2, h1, h2⟩ := ih hat3 e8 (vRetOk_ext e1 hret) (vCutOk_ext e1 hcut)
        rw [e7] at h1
        exact ⟨v, H2, h1, h2⟩
      have hcall : ∃ u H1 v H2, x_To tb tyl ot dq y.1 0 (x_en 0 (.inr (some (sR σ a)) :: ((S.map (cv ρ σ)).take (mNp q2)).reverse)) [] H 0 0 u H1 ∧ x_To tb tyl ot (dq + 1) k (pc + 3) Lc (x_push u (r.map (cv ρ σ))) H1 (cn2 + mMc q2) (sn2 + mMs q2) v H2 ∧ Post v H2 := by
        by_cases hC : (CT y.1).isEmpty = true
        · rw [if_pos hC] at hkB
          have hkB2 := Bool.and_eq_true_iff.mp hkB
          have hat2 : vAt KT W ty0 H0 H.length (x_en 0 (.inr (some a) :: (S.take (mNp q2)).reverse)) s (lK 0) (lK 0) ρ σ ty H (x_en 0 (((.inr (some a) :: (S.take (mNp q2)).reverse) : List vA).map (cv ρ σ))) 0 0 := ⟨⟨Nat.le_refl _, hat.1.2⟩, hat.2.1, hat.2.2.1, hat.2.2.2.1, vCov_en _ 0, Int.le_refl _, Int.le_refl _⟩
          obtain ⟨u, H1, h1, v, H2, h2, h3⟩ := ih0 0 hm hdq (show H.length + mMc q2 ≤ 1000000 by have := hat.1.1; omega) hat2 hkB2.2 (Post := fun u H1 => ∃ v H2, x_To tb tyl ot (dq + 1) k (pc + 3) Lc (x_push u (r.map (cv ρ σ))) H1 (cn2 + mMc q2) (sn2 + mMs q2) v H2 ∧ Post v H2) (fun ρ3 σ3 ty3 H1 s3 av e1 e2 e3 e4 e5 e6 => hgo e1 e2 e3 e4 e5 (vFr_spec e1 hkB2.1) (by
              rcases av with _ | av
              · exact (vFr_spec e1 hkB2.1).2.1
              · show cv ρ3 σ3 av :: List.map (cv ρ3 σ3) r = cv ρ3 σ3 av :: _
                rw [(vFr_spec e1 hkB2.1).2.1]) e6) (fun pc3 c3 hc3 => by cases hc3)
          rw [hargs] at h1
          exact ⟨u, H1, v, H2, h1, h2, h3⟩
        · rw [if_neg hC] at hkB
          have hkB2 := Bool.and_eq_true_iff.mp hkB
          obtain ⟨u, H1, ρ3, σ3, ty3, s3, S3, h1, e1, e4, e7, e2, e3, e5, e6⟩ := vCal_spec hm hdq hat.2.2.2.1 (show H.length + mMc q2 ≤ 1000000 by have := hat.1.1; omega) hat.2.1 hat.2.2.1 (fun c hc => hCT y.1 c hc) hkB2.2
          rw [hargs] at h1
          have e8 := vFr_spec e1 hkB2.1
          rcases S3 with _ | ⟨av, _ | ⟨bv, S3⟩⟩
          · rcases u with _ | u
            · obtain ⟨v, H2, h2, h3⟩ := hgo (u := none) e1 e2 e3 e4 e5 e8 e8.2.1 e6
              exact ⟨none, H1, v, H2, h1, h2, h3⟩
            · cases e7
          · rcases u with _ | u
            · cases e7
            · obtain ⟨v, H2, h2, h3⟩ := hgo (u := some u) (R3 := av :: r) e1 e2 e3 e4 e5 e8 (by
                have e9 : cv ρ3 σ3 av = u := (List.cons.inj e7).1
                rw [List.map_cons, e9, e8.2.1]
                rfl) e6
              exact ⟨some u, H1, v, H2, h1, h2, h3⟩
          · cases e6
      obtain ⟨u, H1, v, H2, h1, h2, h3⟩ := hcall
      refine ⟨v, H2, xT_invokespecial hq hc (a := sR σ a) (u := u) (H1 := H1) (r := r.map (cv ρ σ)) (j := y.1) (so := y.2) hn hy hm (by rw [← List.map_drop, hd]; rfl) ?_ h1 h2, h3⟩
      rw [List.length_map, List.length_map, k1, k2, k4, k5, decide_eq_true c1, decide_eq_true c2]
      rfl
  case invokestatic ix =>
    try dsimp only at hk
    rcases hy : tCal tb (mO q) ix with _ | y
    · rw [hy] at hk
      try dsimp only at hk
      by_cases hb : tBi tb (mO q) ix = some 1
      · rw [if_pos hb] at hk
        rcases S with _ | ⟨n | n, _ | ⟨d | d, _ | ⟨bd | (_ | bd), _ | ⟨e | e, _ | ⟨bs | (_ | bs), r⟩⟩⟩⟩⟩ <;> first | (cases hk; done) | skip
        have hk2 := Bool.and_eq_true_iff.mp hk
        have hk3 := Bool.and_eq_true_iff.mp hk2.1
        obtain ⟨us, vs, c, y1, y2, y4, y5, y6, y7⟩ := vCpQ_spec hat.2.2.2.1 hk3.2
        have y5 := vCpz_rel (bs := bs) (n := n) (d := d) (e := e) hat.2.2.2.1 y1 y2 (of_decide_eq_true (by have := y4 true rfl; simp only [Bool.and_eq_true] at this; exact this.1.1.1.2)) (of_decide_eq_true (by have := y4 true rfl; simp only [Bool.and_eq_true] at this; exact this.1.1.2)) y5
        have g0 : vExt s (vCpz bd bs n d e s) ρ ρ σ σ := vExt_eq ρ σ (vCpz_n bd bs n d e s).1 (congrArg List.length (vCpz_n bd bs n d e s).2.1)
        obtain ⟨v, H2, h1, h2⟩ := ih (vAt_set hat y5 y6 y2 ⟨rfl, fun z => by rw [y7] at z; cases z⟩) hk2.2 (vRetOk_ext g0 hret) (vCutOk_ext g0 hcut)
        refine ⟨v, H2, xT_arraycopy hq hc (n1 := Int32.ofInt (lEv ρ n)) (d1 := Int32.ofInt (lEv ρ d)) (s1 := Int32.ofInt (lEv ρ e)) (bd := sR σ bd) (bs := sR σ bs) hy hb y1 y2 ?_ h1, h2⟩
        rw [List.length_map]
        exact y4 _ hk3.1
      rw [if_neg hb] at hk
      clear hb
      by_cases hb : tBi tb (mO q) ix = some 2
      · rw [if_pos hb] at hk
        rcases S with _ | ⟨b | b, _ | ⟨a | a, r⟩⟩ <;> first | (cases hk; done) | skip
        have hk2 := Bool.and_eq_true_iff.mp hk
        have hk3 := Bool.and_eq_true_iff.mp hk2.1
        have hk4 := Bool.and_eq_true_iff.mp hk3.2
        have c1 := cOk_spec hat.2.2.2.1 hat.2.2.2.2.2.1 hk4.1
        have c2 := cOk_spec hat.2.2.2.1 hat.2.2.2.2.2.2 hk4.2
        obtain ⟨s2, g0, g1, g2⟩ := vBr_spec hat.2.2.2.1 hk2.2
        have x1 := vSame0_ext g1 ρ σ
        have hcnd : (decide ((r.map (cv ρ σ)).length ≤ 8) && decide (cn2 ≤ mMc q) && decide (sn2 ≤ mMs q)) = true := by
          rw [List.length_map, hk3.1, decide_eq_true c1, decide_eq_true c2]
          rfl
        rcases g2 with ⟨e, g2⟩ | ⟨e, g2⟩
        · obtain ⟨v, H2, h1, h2⟩ := ih (vAt_same hat g0) g2 (vRetOk_ext x1 hret) (vCutOk_ext x1 hcut)
          exact ⟨v, H2, xT_maxY hq hc (a := Int32.ofInt (lEv ρ a)) (b := Int32.ofInt (lEv ρ b)) hy hb hcnd e h1, h2⟩
        · obtain ⟨v, H2, h1, h2⟩ := ih (vAt_same hat g0) g2 (vRetOk_ext x1 hret) (vCutOk_ext x1 hcut)
          exact ⟨v, H2, xT_maxN hq hc (a := Int32.ofInt (lEv ρ a)) (b := Int32.ofInt (lEv ρ b)) hy hb hcnd e h1, h2⟩
      rw [if_neg hb] at hk
      clear hb
      by_cases hb : tBi tb (mO q) ix = some 3
      · rw [if_pos hb] at hk
        rcases S with _ | ⟨b | b, _ | ⟨a | a, r⟩⟩ <;> first | (cases hk; done) | skip
        have hk2 := Bool.and_eq_true_iff.mp hk
        have hk3 := Bool.and_eq_true_iff.mp hk2.1
        have hk4 := Bool.and_eq_true_iff.mp hk3.2
        have c1 := cOk_spec hat.2.2.2.1 hat.2.2.2.2.2.1 hk4.1
        have c2 := cOk_spec hat.2.2.2.1 hat.2.2.2.2.2.2 hk4.2
        obtain ⟨s2, g0, g1, g2⟩ := vBr_spec hat.2.2.2.1 hk2.2
        have x1 := vSame0_ext g1 ρ σ
        have hcnd : (decide ((r.map (cv ρ σ)).length ≤ 8) && decide (cn2 ≤ mMc q) && decide (sn2 ≤ mMs q)) = true := by
          rw [List.length_map, hk3.1, decide_eq_true c1, decide_eq_true c2]
          rfl
        rcases g2 with ⟨e, g2⟩ | ⟨e, g2⟩
        · obtain ⟨v, H2, h1, h2⟩ := ih (vAt_same hat g0) g2 (vRetOk_ext x1 hret) (vCutOk_ext x1 hcut)
          exact ⟨v, H2, xT_minY hq hc (a := Int32.ofInt (lEv ρ a)) (b := Int32.ofInt (lEv ρ b)) hy hb hcnd e h1, h2⟩
        · obtain ⟨v, H2, h1, h2⟩ := ih (vAt_same hat g0) g2 (vRetOk_ext x1 hret) (vCutOk_ext x1 hcut)
          exact ⟨v, H2, xT_minN hq hc (a := Int32.ofInt (lEv ρ a)) (b := Int32.ofInt (lEv ρ b)) hy hb hcnd e h1, h2⟩
      rw [if_neg hb] at hk
      clear hb
      by_cases hb : tBi tb (mO q) ix = some 4
      · rw [if_pos hb] at hk
        rcases S with _ | ⟨a | a, r⟩ <;> first | (cases hk; done) | skip
        have hk2 := Bool.and_eq_true_iff.mp hk
        have hk3 := Bool.and_eq_true_iff.mp hk2.1
        have hk4 := Bool.and_eq_true_iff.mp hk3.2
        have c1 := cOk_spec hat.2.2.2.1 hat.2.2.2.2.2.1 hk4.1
        have c2 := cOk_spec hat.2.2.2.1 hat.2.2.2.2.2.2 hk4.2
        obtain ⟨s2, g0, g1, g2⟩ := vBr_spec hat.2.2.2.1 hk2.2
        rw [lK_ev] at g2
        have x1 := vSame0_ext g1 ρ σ
        have hcnd : (decide ((r.map (cv ρ σ)).length ≤ 8) && decide (cn2 ≤ mMc q) && decide (sn2 ≤ mMs q)) = true := by
          rw [List.length_map, hk3.1, decide_eq_true c1, decide_eq_true c2]
          rfl
        rcases g2 with ⟨e, g2⟩ | ⟨e, g2⟩
        · obtain ⟨v, H2, h1, h2⟩ := ih (vAt_same hat g0) g2 (vRetOk_ext x1 hret) (vCutOk_ext x1 hcut)
          exact ⟨v, H2, xT_absY hq hc (a := Int32.ofInt (lEv ρ a)) hy hb hcnd e h1, h2⟩
        · obtain ⟨v, H2, h1, h2⟩ := ih (vAt_same hat g0) g2 (vRetOk_ext x1 hret) (vCutOk_ext x1 hcut)
          refine ⟨v, H2, xT_absN hq hc (a := Int32.ofInt (lEv ρ a)) hy hb hcnd e ?_, h2⟩
          rw [List.map_cons, show cv ρ σ (.inl (lSub (lK 0) a)) = .inl (x_bin 1 0 (Int32.ofInt (lEv ρ a))) from congrArg Sum.inl (by rw [lSub_ev, lK_ev, Int32.ofInt_sub]; rfl)] at h1
          exact h1
      rw [if_neg hb] at hk
      cases hk
    rw [hy] at hk
    try dsimp only at hk
    rcases dp with _ | dp2
    · cases hk
    try dsimp only at hk
    rcases hm : tMth tb y.1 with _ | q2
    · rw [hm] at hk
      cases hk
    rw [hm] at hk
    obtain ⟨hk3, hkB⟩ := Bool.and_eq_true_iff.mp hk
    simp only [Bool.and_eq_true] at hk3
    obtain ⟨⟨⟨⟨k1, k2⟩, k4⟩, k5⟩, kc1, kc2⟩ := hk3
    obtain ⟨dq, rfl⟩ : ∃ dq, dp2' = dq + 1 := ⟨dp2' - 1, by omega⟩
    have hdq : dp2 ≤ dq := by omega
    have c1 := cOk_spec (n := cn2 + mMc q2) hat.2.2.2.1 (by rw [lAdd_ev, lK_ev]; have := hat.2.2.2.2.2.1; omega) kc1
    have c2 := cOk_spec (n := sn2 + mMs q2) hat.2.2.2.1 (by rw [lAdd_ev, lK_ev]; have := hat.2.2.2.2.2.2; omega) kc2
    have hargs : ((S.take (mNp q2)).reverse : List vA).map (cv ρ σ) = ((S.map (cv ρ σ)).take (mNp q2)).reverse := by
      rw [List.map_reverse, List.map_take]
    have hgo : ∀ {ρ3 : Nat → Int} {σ3 : Nat → Nat} {ty3 : Nat → Option Nat} {H1 : List (XC Int32)} {s3 : vSt} {R3 : List vA} {u : Option (XV Int32)}, vExt s s3 ρ ρ3 σ σ3 → vLe ty0 ty3 → vFrm W ty0 H0 H1 → vRel KT ρ3 σ3 ty3 H1 s3 → H1.length ≤ H.length + mMc q2 → vFrP L (S.drop (mNp q2)) cn sn ρ σ ρ3 σ3 → R3.map (cv ρ3 σ3) = x_push u ((S.drop (mNp q2)).map (cv ρ σ)) → vChkO KT tb tyl ov CT hs kn W f 0 (dp2 + 1) k (pc + 3) L R3 s3 (lAdd cn (lK (mMc q2 : Int))) (lAdd sn (lK (mMs q2 : Int))) cu ret = true → ∃ v H2, x_To tb tyl ot (dq + 1) k (pc + 3) Lc (x_push u ((S.drop (mNp q2)).map (cv ρ σ))) H1 (cn2 + mMc q2) (sn2 + mMs q2) v H2 ∧ Post v H2 := by
      intro ρ3 σ3 ty3 H1 s3 R3 u e1 e2 e3 e4 e5 e6 e7 e8
      have hat3 : vAt KT W ty0 H0 B L s3 (lAdd cn (lK (mMc q2 : Int))) (lAdd sn (lK (mMs q2 : Int))) ρ3 σ3 ty3 H1 Lc (cn2 + mMc q2) (sn2 + mMs q2) := by
        refine ⟨by have := hat.1.1; omega, e2, e3, e4, e6.1 _ hat.2.2.2.2.1, ?_, ?_⟩
        · rw [lAdd_ev, lK_ev, e6.2.2.1]
          have := hat.2.2.2.2.2.1
          omega
        · rw [lAdd_ev, lK_ev, e6.2.2.2]
          have := hat.2.2.2.2.2.2
          omega
      obtain ⟨v, H2, h1, h2⟩ := ih hat3 e8 (vRetOk_ext e1 hret) (vCutOk_ext e1 hcut)
      rw [e7] at h1
      exact ⟨v, H2, h1, h2⟩
    have hcall : ∃ u H1 v H2, x_To tb tyl ot dq y.1 0 (x_en 0 ((S.map (cv ρ σ)).take (mNp q2)).reverse) [] H 0 0 u H1 ∧ x_To tb tyl ot (dq + 1) k (pc + 3) Lc (x_push u ((S.drop (mNp q2)).map (cv ρ σ))) H1 (cn2 + mMc q2) (sn2 + mMs q2) v H2 ∧ Post v H2 := by
      by_cases hC : (CT y.1).isEmpty = true
      · rw [if_pos hC] at hkB
        have hkB2 := Bool.and_eq_true_iff.mp hkB
        have hat2 : vAt KT W ty0 H0 H.length (x_en 0 (S.take (mNp q2)).reverse) s (lK 0) (lK 0) ρ σ ty H (x_en 0 (((S.take (mNp q2)).reverse : List vA).map (cv ρ σ))) 0 0 := ⟨⟨Nat.le_refl _, hat.1.2⟩, hat.2.1, hat.2.2.1, hat.2.2.2.1, vCov_en _ 0, Int.le_refl _, Int.le_refl _⟩
        obtain ⟨u, H1, h1, v, H2, h2, h3⟩ := ih0 0 hm hdq (show H.length + mMc q2 ≤ 1000000 by have := hat.1.1; omega) hat2 hkB2.2 (Post := fun u H1 => ∃ v H2, x_To tb tyl ot (dq + 1) k (pc + 3) Lc (x_push u ((S.drop (mNp q2)).map (cv ρ σ))) H1 (cn2 + mMc q2) (sn2 + mMs q2) v H2 ∧ Post v H2) (fun ρ3 σ3 ty3 H1 s3 av e1 e2 e3 e4 e5 e6 => hgo e1 e2 e3 e4 e5 (vFr_spec e1 hkB2.1) (by
            rcases av with _ | av
            · exact (vFr_spec e1 hkB2.1).2.1
            · show cv ρ3 σ3 av :: List.map (cv ρ3 σ3) (S.drop (mNp q2)) = cv ρ3 σ3 av :: _
              rw [(vFr_spec e1 hkB2.1).2.1]) e6) (fun pc3 c3 hc3 => by cases hc3)
        rw [hargs] at h1
        exact ⟨u, H1, v, H2, h1, h2, h3⟩
      · rw [if_neg hC] at hkB
        have hkB2 := Bool.and_eq_true_iff.mp hkB
        obtain ⟨u, H1, ρ3, σ3, ty3, s3, S3, h1, e1, e4, e7, e2, e3, e5, e6⟩ := vCal_spec hm hdq hat.2.2.2.1 (show H.length + mMc q2 ≤ 1000000 by have := hat.1.1; omega) hat.2.1 hat.2.2.1 (fun c hc => hCT y.1 c hc) hkB2.2
        rw [hargs] at h1
        have e8 := vFr_spec e1 hkB2.1
        rcases S3 with _ | ⟨av, _ | ⟨bv, S3⟩⟩
        · rcases u with _ | u
          · obtain ⟨v, H2, h2, h3⟩ := hgo (u := none) e1 e2 e3 e4 e5 e8 e8.2.1 e6
            exact ⟨none, H1, v, H2, h1, h2, h3⟩
          · cases e7
        · rcases u with _ | u
          · cases e7
          · obtain ⟨v, H2, h2, h3⟩ := hgo (u := some u) (R3 := av :: (S.drop (mNp q2))) e1 e2 e3 e4 e5 e8 (by
              have e9 : cv ρ3 σ3 av = u := (List.cons.inj e7).1
              rw [List.map_cons, e9, e8.2.1]
              rfl) e6
            exact ⟨some u, H1, v, H2, h1, h2, h3⟩
        · cases e6
    obtain ⟨u, H1, v, H2, h1, h2, h3⟩ := hcall
    refine ⟨v, H2, xT_invokestatic hq hc (u := u) (H1 := H1) (r := []) (j := y.1) (so := y.2) hy hm ?_ h1 ?_, h3⟩
    · rw [← List.map_drop, List.length_map, List.length_map, k1, k2, k4, k5, decide_eq_true c1, decide_eq_true c2]
      rfl
    · rw [← List.map_drop]
      exact h2
  all_goals (cases hk; done)
end XChk
