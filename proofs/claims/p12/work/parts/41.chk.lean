/-! The checker (under way: not all instructions yet), and that it is right. -/
section XChk
def vFr (L : List (Nat × vA)) (r : List vA) (s : vSt) : Bool := L.all (fun q => vBd s.1 s.2.1.length q.2) && r.all (vBd s.1 s.2.1.length)
theorem vFr_spec {s s2 : vSt} {ρ ρ2 : Nat → Int32} {σ σ2 : Nat → Nat} (g : vExt s s2 ρ ρ2 σ σ2) {L : List (Nat × vA)} {r : List vA} (hk : vFr L r s = true) : cvL ρ2 σ2 L = cvL ρ σ L ∧ r.map (cv ρ2 σ2) = r.map (cv ρ σ) := by
  have hk2 := Bool.and_eq_true_iff.mp hk
  exact ⟨vBd_loc g.1 g.2.1 hk2.1, vBd_list g.1 g.2.1 hk2.2⟩
def vB01 (e : Jvm.Term) (s : vSt) : Bool := decide (0 ≤ (vRng s.2.2.2 3 e).1) && decide ((vRng s.2.2.2 3 e).2 ≤ 1)
theorem vB01_spec {KT : Nat → Option vKd} {ρ : Nat → Int32} {σ : Nat → Nat} {ty : Nat → Option Nat} {H : List (XC Int32)} {s : vSt} (h : vRel KT ρ σ ty H s) {e : Jvm.Term} (hk : vB01 e s = true) : tEv ρ e = 0 ∨ tEv ρ e = 1 := by
  obtain ⟨r1, r2⟩ := vRng_spec h.2.2.2 3 e
  have hk2 := Bool.and_eq_true_iff.mp hk
  have k1 := of_decide_eq_true hk2.1
  have k2 := of_decide_eq_true hk2.2
  by_cases c : (tEv ρ e).toInt = 0
  · exact Or.inl (Int32.toInt_inj.mp c)
  · exact Or.inr (Int32.toInt_inj.mp (show (tEv ρ e).toInt = 1 by omega))
theorem vB01_fit {KT : Nat → Option vKd} {ρ : Nat → Int32} {σ : Nat → Nat} {ty : Nat → Option Nat} {H : List (XC Int32)} {s : vSt} (h : vRel KT ρ σ ty H s) {e : Jvm.Term} (hk : vB01 e s = true) : x_fit dC .boolean (.inl (tEv ρ e)) = true := by
  show (decide (tEv ρ e = 0) || decide (tEv ρ e = 1)) = true
  rcases vB01_spec h hk with e1 | e1
  · rw [e1]
    rfl
  · rw [e1]
    rfl
def vTyp (t : FieldType) (v : vA) (s : vSt) : Bool := match t, v with
  | .int, .inl _ => true
  | .boolean, .inl e => vB01 e s
  | .object _, .inr _ => true
  | .array _, .inr _ => true
  | _, _ => false
theorem vTyp_spec {KT : Nat → Option vKd} {ρ : Nat → Int32} {σ : Nat → Nat} {ty : Nat → Option Nat} {H : List (XC Int32)} {s : vSt} (h : vRel KT ρ σ ty H s) {t : FieldType} {v : vA} (hk : vTyp t v s = true) : x_fit dC t (cv ρ σ v) = true := by
  unfold vTyp at hk
  split at hk
  · rfl
  · exact vB01_fit h hk
  · rename_i c o
    rcases o with _ | i <;> rfl
  · rename_i c o
    rcases o with _ | i <;> rfl
  · cases hk
def vFits (f : vF) (v : vA) (s : vSt) : Bool := match f, v with
  | .inl p, .inl e => decide (p.1 ≤ (vRng s.2.2.2 3 e).1) && decide ((vRng s.2.2.2 3 e).2 ≤ p.2)
  | .inr q, .inr none => q.1
  | .inr q, .inr (some i) => decide (s.2.1[i]? = some q.2)
  | _, _ => false
theorem vFits_spec {KT : Nat → Option vKd} {ρ : Nat → Int32} {σ : Nat → Nat} {ty : Nat → Option Nat} {H : List (XC Int32)} {s : vSt} (h : vRel KT ρ σ ty H s) {f : vF} {v : vA} (hk : vFits f v s = true) : vFit ty f (cv ρ σ v) := by
  unfold vFits at hk
  split at hk
  · rename_i p e
    obtain ⟨r1, r2⟩ := vRng_spec h.2.2.2 3 e
    have hk2 := Bool.and_eq_true_iff.mp hk
    exact ⟨Int.le_trans (of_decide_eq_true hk2.1) r1, Int.le_trans r2 (of_decide_eq_true hk2.2)⟩
  · exact hk
  · rename_i q i
    exact h.2.1 i q.2 (of_decide_eq_true hk)
  · cases hk
def vSto (a : Nat) (s : vSt) : vSt := (s.1, s.2.1, fSto s.2.1 a s.2.2.1, s.2.2.2)
def vPut (a j : Nat) (s : vSt) : vSt := (s.1, s.2.1, fPut s.2.1 a j s.2.2.1, s.2.2.2)
theorem vSto_rel {KT : Nat → Option vKd} {ρ : Nat → Int32} {σ : Nat → Nat} {ty : Nat → Option Nat} {H : List (XC Int32)} {s : vSt} (h : vRel KT ρ σ ty H s) {a c t m : Nat} {f : vF} {vs : List (XV Int32)} {e : Jvm.Term} {v : vA} (ha : ty (σ a) = some c) (hK : KT c = some (.inr (t, m, f))) (hH : H[σ a]? = some (.inr (t, vs))) (hi : (tEv ρ e).toNatClampNeg < vs.length) (hu : vFit ty f (cv ρ σ v)) :
    vRel KT ρ σ ty (H.set (σ a) (.inr (t, vs.set (tEv ρ e).toNatClampNeg (cv ρ σ v)))) (vKn (a, .inr e, v) (vSto a s)) := by
  refine vKn_spec (s := vSto a s) ⟨vHp_sto h.1 ha hK hH hu, h.2.1, fSto_spec h.2.1 hH h.2.2.1, h.2.2.2⟩ ?_
  exact ⟨t, vs.set (tEv ρ e).toNatClampNeg (cv ρ σ v), List.getElem?_set_self (vHp_lt h.1 ha), List.getElem?_set_self hi⟩
theorem vPut_rel {KT : Nat → Option vKd} {ρ : Nat → Int32} {σ : Nat → Nat} {ty : Nat → Option Nat} {H : List (XC Int32)} {s : vSt} (h : vRel KT ρ σ ty H s) {a c ci j : Nat} {fl : List vF} {f : vF} {fs : List (XV Int32)} {v : vA} (ha : ty (σ a) = some c) (hK : KT c = some (.inl (ci, fl))) (hH : H[σ a]? = some (.inl (ci, fs))) (hf : fl[j]? = some f) (hi : j < fs.length) (hu : vFit ty f (cv ρ σ v)) :
    vRel KT ρ σ ty (H.set (σ a) (.inl (ci, fs.set j (cv ρ σ v)))) (vKn (a, .inl j, v) (vPut a j s)) := by
  refine vKn_spec (s := vPut a j s) ⟨vHp_put h.1 ha hK hH hf hu, h.2.1, fPut_spec h.2.1 hH h.2.2.1, h.2.2.2⟩ ?_
  exact ⟨ci, fs.set j (cv ρ σ v), List.getElem?_set_self (vHp_lt h.1 ha), List.getElem?_set_self hi⟩
def vSw (a : Jvm.Term) (df : Int) (kk : Int → vSt → Bool) : List (Int × Int) → vSt → Bool
  | [], s => kk df s
  | q :: r, s => vBr 0 a (.int (Int32.ofInt q.1)) s (fun s2 => kk q.2 s2) (fun s2 => vSw a df kk r s2)
theorem vSw_spec {KT : Nat → Option vKd} {ρ : Nat → Int32} {σ : Nat → Nat} {ty : Nat → Option Nat} {H : List (XC Int32)} {a : Jvm.Term} {df : Int} {kk : Int → vSt → Bool} : ∀ (ps : List (Int × Int)) {s : vSt}, vRel KT ρ σ ty H s → vSw a df kk ps s = true → ∃ s2, vRel KT ρ σ ty H s2 ∧ vExt s s2 ρ ρ σ σ ∧ kk (x_swo (tEv ρ a) df ps) s2 = true
  | [], s, h, hk => ⟨s, h, vExt_rf s ρ σ, hk⟩
  | q :: r, s, h, hk => by
    obtain ⟨s2, g0, g1, g2⟩ := vBr_spec h hk
    rcases g2 with ⟨e, g2⟩ | ⟨e, g2⟩
    · refine ⟨s2, g0, g1, ?_⟩
      have e2 : tEv ρ a = Int32.ofInt q.1 := of_decide_eq_true e
      show kk (if tEv ρ a = Int32.ofInt q.1 then q.2 else x_swo (tEv ρ a) df r) s2 = true
      rw [if_pos e2]
      exact g2
    · have e2 : ¬ tEv ρ a = Int32.ofInt q.1 := of_decide_eq_false e
      obtain ⟨s3, k0, k1, k2⟩ := vSw_spec r g0 g2
      refine ⟨s3, k0, vExt_tr g1 k1, ?_⟩
      show kk (if tEv ρ a = Int32.ofInt q.1 then q.2 else x_swo (tEv ρ a) df r) s3 = true
      rw [if_neg e2]
      exact k2
def vCls (KT : Nat → Option vKd) (a ci : Nat) (s : vSt) : Bool := match s.2.1[a]? with
  | some c => match KT c with
    | some (.inl o) => decide (o.1 = ci)
    | _ => false
  | none => false
theorem vCls_spec {KT : Nat → Option vKd} {ρ : Nat → Int32} {σ : Nat → Nat} {ty : Nat → Option Nat} {H : List (XC Int32)} {s : vSt} {ot : XO Int32} (h : vRel KT ρ σ ty H s) (hl : H.length ≤ 1000000) {a ci : Nat} (hk : vCls KT a ci s = true) : x_rc ot H (σ a) = some ci := by
  unfold vCls at hk
  split at hk
  · rename_i c hc
    split at hk
    · rename_i o ho
      have ha := h.2.1 a c hc
      obtain ⟨fs, f1, -, -⟩ := vHp_obj h.1 ha ho
      have hlt := vHp_lt h.1 ha
      unfold x_rc
      rw [if_neg (by omega), f1]
      exact congrArg some (of_decide_eq_true hk)
    · cases hk
  · cases hk
/-- an answer that the method may give -/
def vRt (m : Option FieldType) (e : Jvm.Term) (s : vSt) : Bool := match m with
  | some .int => true
  | some .boolean => vB01 e s
  | _ => false
theorem vRt_spec {KT : Nat → Option vKd} {ρ : Nat → Int32} {σ : Nat → Nat} {ty : Nat → Option Nat} {H : List (XC Int32)} {s : vSt} (h : vRel KT ρ σ ty H s) {m : Option FieldType} {e : Jvm.Term} (hk : vRt m e s = true) : x_retOk dC m (.inl (tEv ρ e)) = true := by
  unfold vRt at hk
  split at hk
  · rfl
  · show (decide (tEv ρ e = 0) || decide (tEv ρ e = 1)) = true
    rcases vB01_spec h hk with e1 | e1
    · rw [e1]
      rfl
    · rw [e1]
      rfl
  · cases hk
abbrev vCu : Type := Nat → Option (List (Nat × vA) → List vA → vSt → Nat → Nat → Bool)
def vChk (KT : Nat → Option vKd) (tb : XT) (tyl : List FieldType) : Nat → Bool → Nat → Nat → Nat → List (Nat × vA) → List vA → vSt → Nat → Nat → vCu → (vSt → Option vA → Bool) → Bool
  | 0, _, _, _, _, _, _, _, _, _, _, _ => false
  | f + 1, go, dp, k, pc, L, S, s, cn, sn, cu, ret =>
    match (if go = true then none else cu pc) with
    | some g => g L S s cn sn
    | none => match tMth tb k with
    | none => false
    | some q => match mC q pc with
    | none => false
    | some (i, _) => match i with
      | .iconst x => vChk KT tb tyl f false dp k (pc + 1) L (.inl (.int (Int32.ofInt x)) :: S) s cn sn cu ret
      | .bipush x => vChk KT tb tyl f false dp k (pc + 2) L (.inl (.int (Int8.ofInt x).toInt32) :: S) s cn sn cu ret
      | .sipush x => vChk KT tb tyl f false dp k (pc + 3) L (.inl (.int (Int16.ofInt x).toInt32) :: S) s cn sn cu ret
      | .aconst_null => vChk KT tb tyl f false dp k (pc + 1) L (.inr none :: S) s cn sn cu ret
      | .iload_n j => match x_lk L j with
        | some (.inl a) => vChk KT tb tyl f false dp k (pc + 1) L (.inl a :: S) s cn sn cu ret
        | _ => false
      | .iload j => match x_lk L j with
        | some (.inl a) => vChk KT tb tyl f false dp k (pc + 2) L (.inl a :: S) s cn sn cu ret
        | _ => false
      | .aload_n j => match x_lk L j with
        | some (.inr a) => vChk KT tb tyl f false dp k (pc + 1) L (.inr a :: S) s cn sn cu ret
        | _ => false
      | .aload j => match x_lk L j with
        | some (.inr a) => vChk KT tb tyl f false dp k (pc + 2) L (.inr a :: S) s cn sn cu ret
        | _ => false
      | .iadd => match S with
        | .inl b :: .inl a :: r => vChk KT tb tyl f false dp k (pc + 1) L (.inl (tBin 0 a b) :: r) s cn sn cu ret
        | _ => false
      | .isub => match S with
        | .inl b :: .inl a :: r => vChk KT tb tyl f false dp k (pc + 1) L (.inl (tBin 1 a b) :: r) s cn sn cu ret
        | _ => false
      | .imul => match S with
        | .inl b :: .inl a :: r => vChk KT tb tyl f false dp k (pc + 1) L (.inl (tBin 2 a b) :: r) s cn sn cu ret
        | _ => false
      | .iand => match S with
        | .inl b :: .inl a :: r => vChk KT tb tyl f false dp k (pc + 1) L (.inl (tBin 3 a b) :: r) s cn sn cu ret
        | _ => false
      | .ior => match S with
        | .inl b :: .inl a :: r => vChk KT tb tyl f false dp k (pc + 1) L (.inl (tBin 4 a b) :: r) s cn sn cu ret
        | _ => false
      | .ixor => match S with
        | .inl b :: .inl a :: r => vChk KT tb tyl f false dp k (pc + 1) L (.inl (tBin 5 a b) :: r) s cn sn cu ret
        | _ => false
      | .ishl => match S with
        | .inl b :: .inl a :: r => vChk KT tb tyl f false dp k (pc + 1) L (.inl (tBin 6 a b) :: r) s cn sn cu ret
        | _ => false
      | .ishr => match S with
        | .inl b :: .inl a :: r => vChk KT tb tyl f false dp k (pc + 1) L (.inl (tBin 7 a b) :: r) s cn sn cu ret
        | _ => false
      | .iushr => match S with
        | .inl b :: .inl a :: r => vChk KT tb tyl f false dp k (pc + 1) L (.inl (tBin 10 a b) :: r) s cn sn cu ret
        | _ => false
      | .goto x => match x_jp pc x with
        | some t => vChk KT tb tyl f false dp k t L S s cn sn cu ret
        | none => false
      | .if_icmp c x => match S, x_jp pc x with
        | .inl b :: .inl a :: r, some t => vBr (x_cn c) a b s (fun s2 => vChk KT tb tyl f false dp k t L r s2 cn sn cu ret) (fun s2 => vChk KT tb tyl f false dp k (pc + 3) L r s2 cn sn cu ret)
        | _, _ => false
      | .istore_n j => match S with
        | .inl a :: r => decide ((j : Nat) < mL q) && vChk KT tb tyl f false dp k (pc + 1) (x_st L j (.inl a)) r s cn sn cu ret
        | _ => false
      | .istore j => match S with
        | .inl a :: r => decide ((j : Nat) < mL q) && vChk KT tb tyl f false dp k (pc + 2) (x_st L j (.inl a)) r s cn sn cu ret
        | _ => false
      | .astore_n j => match S with
        | .inr a :: r => decide ((j : Nat) < mL q) && vChk KT tb tyl f false dp k (pc + 1) (x_st L j (.inr a)) r s cn sn cu ret
        | _ => false
      | .astore j => match S with
        | .inr a :: r => decide ((j : Nat) < mL q) && vChk KT tb tyl f false dp k (pc + 2) (x_st L j (.inr a)) r s cn sn cu ret
        | _ => false
      | .iinc j x => match x_lk L j with
        | some (.inl a) => decide (j < mL q) && vChk KT tb tyl f false dp k (pc + 3) (x_st L j (.inl (tBin 0 a (.int (Int32.ofInt x))))) S s cn sn cu ret
        | _ => false
      | .dup => match S with
        | a :: r => vChk KT tb tyl f false dp k (pc + 1) L (a :: a :: r) s cn sn cu ret
        | _ => false
      | .dup_x1 => match S with
        | a :: b :: r => vChk KT tb tyl f false dp k (pc + 1) L (a :: b :: a :: r) s cn sn cu ret
        | _ => false
      | .dup2 => match S with
        | a :: b :: r => vChk KT tb tyl f false dp k (pc + 1) L (a :: b :: a :: b :: r) s cn sn cu ret
        | _ => false
      | .pop => match S with
        | _ :: r => vChk KT tb tyl f false dp k (pc + 1) L (r) s cn sn cu ret
        | _ => false
      | .ifCond c x => match x_jp pc x with
        | some t => match S with
          | .inl a :: r => vBr (x_cn c) a (.int 0) s (fun s2 => vChk KT tb tyl f false dp k t L r s2 cn sn cu ret) (fun s2 => vChk KT tb tyl f false dp k (pc + 3) L r s2 cn sn cu ret)
          | _ => false
        | none => false
      | .ifnull x => match x_jp pc x with
        | some t => match S with
          | .inr none :: r => vChk KT tb tyl f false dp k t L r s cn sn cu ret
          | .inr (some _) :: r => vChk KT tb tyl f false dp k (pc + 3) L r s cn sn cu ret
          | _ => false
        | none => false
      | .ifnonnull x => match x_jp pc x with
        | some t => match S with
          | .inr none :: r => vChk KT tb tyl f false dp k (pc + 3) L r s cn sn cu ret
          | .inr (some _) :: r => vChk KT tb tyl f false dp k t L r s cn sn cu ret
          | _ => false
        | none => false
      | .ireturn => match S with
        | [.inl e] => vRt (mR q) e s && (decide (cn ≤ mMc q) && decide (sn ≤ mMs q)) && ret s (some (.inl e))
        | _ => false
      | .return_ => match S with
        | [] => decide (mR q = none) && (decide (cn ≤ mMc q) && decide (sn ≤ mMs q)) && ret s none
        | _ => false
      | .getfield ix => match S with
        | .inr (some a) :: r => match tFld tb (mO q) ix with
          | some y => match s.2.1[a]? with
            | some c => match KT c with
              | some (.inl o) => match o.2[y.2]? with
                | some fz => decide (o.1 = y.1) && vFr L r s && vRd fz a (.inl y.2) s (fun s2 v => vChk KT tb tyl f false dp k (pc + 3) L (v :: r) s2 cn sn cu ret)
                | none => false
              | _ => false
            | none => false
          | none => false
        | _ => false
      | .iaload => match S with
        | .inl e :: .inr (some a) :: r => match s.2.1[a]? with
          | some c => match KT c with
            | some (.inr o) => decide (o.1 = 0) && (vIdx e o.2.1 s && vFr L r s) && vRd o.2.2 a (.inr e) s (fun s2 v => vChk KT tb tyl f false dp k (pc + 1) L (v :: r) s2 cn sn cu ret)
            | _ => false
          | none => false
        | _ => false
      | .baload => match S with
        | .inl e :: .inr (some a) :: r => match s.2.1[a]? with
          | some c => match KT c with
            | some (.inr o) => decide (o.1 = 1) && (vIdx e o.2.1 s && vFr L r s) && vRd o.2.2 a (.inr e) s (fun s2 v => vChk KT tb tyl f false dp k (pc + 1) L (v :: r) s2 cn sn cu ret)
            | _ => false
          | none => false
        | _ => false
      | .aaload => match S with
        | .inl e :: .inr (some a) :: r => match s.2.1[a]? with
          | some c => match KT c with
            | some (.inr o) => decide ((tyl[o.1]?.map x_isRef) = some true) && (vIdx e o.2.1 s && vFr L r s) && vRd o.2.2 a (.inr e) s (fun s2 v => vChk KT tb tyl f false dp k (pc + 1) L (v :: r) s2 cn sn cu ret)
            | _ => false
          | none => false
        | _ => false
      | .iastore => match S with
        | .inl x :: .inl e :: .inr (some a) :: r => match s.2.1[a]? with
          | some c => match KT c with
            | some (.inr o) => decide (o.1 = 0) && (vIdx e o.2.1 s && (vFits o.2.2 (.inl x) s && true)) && vChk KT tb tyl f false dp k (pc + 1) L r (vKn (a, .inr e, .inl x) (vSto a s)) cn sn cu ret
            | _ => false
          | none => false
        | _ => false
      | .bastore => match S with
        | .inl x :: .inl e :: .inr (some a) :: r => match s.2.1[a]? with
          | some c => match KT c with
            | some (.inr o) => decide (o.1 = 1) && (vIdx e o.2.1 s && (vFits o.2.2 (.inl x) s && vB01 x s)) && vChk KT tb tyl f false dp k (pc + 1) L r (vKn (a, .inr e, .inl x) (vSto a s)) cn sn cu ret
            | _ => false
          | none => false
        | _ => false
      | .putfield ix => match S with
        | v :: .inr (some a) :: r => match tFld tb (mO q) ix with
          | some y => match s.2.1[a]? with
            | some c => match KT c with
              | some (.inl o) => match o.2[y.2]? with
                | some fz => match (tFt tb y.1)[y.2]? with
                  | some ty => decide (o.1 = y.1) && (vFits fz v s && (vTyp ty.1 v s && (!ty.2 || (mI q && decide (mRc q = y.1))))) && vChk KT tb tyl f false dp k (pc + 3) L r (vKn (a, .inl y.2, v) (vPut a y.2 s)) cn sn cu ret
                  | none => false
                | none => false
              | _ => false
            | none => false
          | none => false
        | _ => false
      | .idiv => match S with
        | .inl b :: .inl a :: r => vBr 0 b (.int 0) s (fun _ => false) (fun s2 => vChk KT tb tyl f false dp k (pc + 1) L (.inl (tBin 8 a b) :: r) s2 cn sn cu ret)
        | _ => false
      | .irem => match S with
        | .inl b :: .inl a :: r => vBr 0 b (.int 0) s (fun _ => false) (fun s2 => vChk KT tb tyl f false dp k (pc + 1) L (.inl (tBin 9 a b) :: r) s2 cn sn cu ret)
        | _ => false
      | .i2b => match S with
        | .inl a :: r => vChk KT tb tyl f false dp k (pc + 1) L (.inl (tUn 0 a) :: r) s cn sn cu ret
        | _ => false
      | .i2s => match S with
        | .inl a :: r => vChk KT tb tyl f false dp k (pc + 1) L (.inl (tUn 1 a) :: r) s cn sn cu ret
        | _ => false
      | .i2c => match S with
        | .inl a :: r => vChk KT tb tyl f false dp k (pc + 1) L (.inl (tUn 2 a) :: r) s cn sn cu ret
        | _ => false
      | .ineg => match S with
        | .inl a :: r => vChk KT tb tyl f false dp k (pc + 1) L (.inl (tUn 3 a) :: r) s cn sn cu ret
        | _ => false
      | .ldc ix => match tLi tb (mO q) ix with
        | some x => vChk KT tb tyl f false dp k (pc + 2) L (.inl (.int x) :: S) s cn sn cu ret
        | none => false
      | .ldc_w ix => match tLi tb (mO q) ix with
        | some x => vChk KT tb tyl f false dp k (pc + 3) L (.inl (.int x) :: S) s cn sn cu ret
        | none => false
      | .areturn => match S with
        | [.inr o] => (match mR q with | some (.object _) => true | some (.array _) => true | _ => false) && (decide (cn ≤ mMc q) && decide (sn ≤ mMs q)) && ret s (some (.inr o))
        | _ => false
      | .tableswitch df lo up os => match S with
        | .inl a :: r => decide (up + 1 = lo + os.size) && x_swk (x_tp lo os.toList) && vSw a df (fun o s2 => match x_jp pc o with
          | some t => vChk KT tb tyl f false dp k t L r s2 cn sn cu ret
          | none => false) (x_tp lo os.toList) s
        | _ => false
      | .lookupswitch df ps => match S with
        | .inl a :: r => (ps.toList.zip (ps.toList.drop 1)).all (fun (a, next) => a.1 < next.1) && x_swk ps.toList && vSw a df (fun o s2 => match x_jp pc o with
          | some t => vChk KT tb tyl f false dp k t L r s2 cn sn cu ret
          | none => false) ps.toList s
        | _ => false
      | .invokespecial ix => if tBi tb (mO q) ix = some 0 then (match S with
        | .inr (some _) :: r => decide (r.length ≤ 8) && vChk KT tb tyl f false dp k (pc + 3) L r s cn sn cu ret
        | _ => false) else if tBi tb (mO q) ix = none then (match tCal tb (mO q) ix with
        | some y => match dp with
          | dp2 + 1 => match tMth tb y.1 with
            | some q2 => match S.drop (mNp q2) with
              | .inr (some a) :: r => (decide (mNp q2 + 1 ≤ S.length) && decide (y.2 = 1) && decide (r.length ≤ 8) && decide (mNp q2 + 1 ≤ mL q2) && decide (cn + mMc q2 ≤ mMc q) && decide (sn + mMs q2 ≤ mMs q)) && vFr L r s && vChk KT tb tyl f true dp2 y.1 0 (x_en 0 (.inr (some a) :: (S.take (mNp q2)).reverse)) [] s 0 0 (fun _ => none) (fun s2 v => vChk KT tb tyl f false (dp2 + 1) k (pc + 3) L (x_push v r) s2 (cn + mMc q2) (sn + mMs q2) cu ret)
              | _ => false
            | none => false
          | 0 => false
        | none => false) else false
      | .invokestatic ix => match tCal tb (mO q) ix with
        | some y => match dp with
          | dp2 + 1 => match tMth tb y.1 with
            | some q2 => (decide (mNp q2 ≤ S.length) && decide (2 ≤ y.2) && decide ((S.drop (mNp q2)).length ≤ 8) && decide (mNp q2 ≤ mL q2) && decide (cn + mMc q2 ≤ mMc q) && decide (sn + mMs q2 ≤ mMs q)) && vFr L (S.drop (mNp q2)) s && vChk KT tb tyl f true dp2 y.1 0 (x_en 0 (S.take (mNp q2)).reverse) [] s 0 0 (fun _ => none) (fun s2 v => vChk KT tb tyl f false (dp2 + 1) k (pc + 3) L (x_push v (S.drop (mNp q2))) s2 (cn + mMc q2) (sn + mMs q2) cu ret)
            | none => false
          | 0 => false
        | none => false
      | .invokevirtual ix => match tCal tb (mO q) ix with
        | some y => match dp with
          | dp2 + 1 => match tMth tb y.1 with
            | some q2 => match S.drop (mNp q2) with
              | .inr (some a) :: r => (decide (mNp q2 + 1 ≤ S.length) && decide (y.2 = 0) && vCls KT a (mRc q2) s && decide (r.length ≤ 8) && decide (mNp q2 + 1 ≤ mL q2) && decide (cn + mMc q2 ≤ mMc q) && decide (sn + mMs q2 ≤ mMs q)) && vFr L r s && vChk KT tb tyl f true dp2 y.1 0 (x_en 0 (.inr (some a) :: (S.take (mNp q2)).reverse)) [] s 0 0 (fun _ => none) (fun s2 v => vChk KT tb tyl f false (dp2 + 1) k (pc + 3) L (x_push v r) s2 (cn + mMc q2) (sn + mMs q2) cu ret)
              | _ => false
            | none => false
          | 0 => false
        | none => false
      | _ => false
/-- returns come to what is asked -/
def vRetOk (KT : Nat → Option vKd) (ty : Nat → Option Nat) (n : Nat) (s : vSt) (ρ : Nat → Int32) (σ : Nat → Nat) (ret : vSt → Option vA → Bool) (Post : Option (XV Int32) → List (XC Int32) → Prop) : Prop :=
  ∀ ρ2 σ2 ty2 H2 s2 av, vExt s s2 ρ ρ2 σ σ2 → vLe ty ty2 → vRel KT ρ2 σ2 ty2 H2 s2 → n ≤ H2.length → H2.length ≤ 1000000 → ret s2 av = true → Post (av.map (cv ρ2 σ2)) H2
/-- cuts come to what is asked -/
def vCutOk (KT : Nat → Option vKd) (tb : XT) (tyl : List FieldType) (ot : XO Int32) (dp k : Nat) (ty : Nat → Option Nat) (n : Nat) (s : vSt) (ρ : Nat → Int32) (σ : Nat → Nat) (cu : vCu) (Post : Option (XV Int32) → List (XC Int32) → Prop) : Prop :=
  ∀ pc g, cu pc = some g → ∀ ρ2 σ2 ty2 H2 s2 L S cn sn, vExt s s2 ρ ρ2 σ σ2 → vLe ty ty2 → vRel KT ρ2 σ2 ty2 H2 s2 → n ≤ H2.length → H2.length ≤ 1000000 → g L S s2 cn sn = true → ∃ v H3, x_To tb tyl ot dp k pc (cvL ρ2 σ2 L) (S.map (cv ρ2 σ2)) H2 cn sn v H3 ∧ Post v H3
theorem vRetOk_ext {KT : Nat → Option vKd} {ty : Nat → Option Nat} {n : Nat} {s s2 : vSt} {ρ ρ2 : Nat → Int32} {σ σ2 : Nat → Nat} {ret : vSt → Option vA → Bool} {Post : Option (XV Int32) → List (XC Int32) → Prop} (g : vExt s s2 ρ ρ2 σ σ2) (h : vRetOk KT ty n s ρ σ ret Post) : vRetOk KT ty n s2 ρ2 σ2 ret Post :=
  fun ρ3 σ3 ty3 H3 s3 av e1 e2 e3 e4 e5 e6 => h ρ3 σ3 ty3 H3 s3 av (vExt_tr g e1) e2 e3 e4 e5 e6
theorem vCutOk_ext {KT : Nat → Option vKd} {tb : XT} {tyl : List FieldType} {ot : XO Int32} {dp k : Nat} {ty : Nat → Option Nat} {n : Nat} {s s2 : vSt} {ρ ρ2 : Nat → Int32} {σ σ2 : Nat → Nat} {cu : vCu} {Post : Option (XV Int32) → List (XC Int32) → Prop} (g : vExt s s2 ρ ρ2 σ σ2) (h : vCutOk KT tb tyl ot dp k ty n s ρ σ cu Post) : vCutOk KT tb tyl ot dp k ty n s2 ρ2 σ2 cu Post :=
  fun pc c hc ρ3 σ3 ty3 H3 s3 L S cn sn e1 e2 e3 e4 e5 e6 => h pc c hc ρ3 σ3 ty3 H3 s3 L S cn sn (vExt_tr g e1) e2 e3 e4 e5 e6
theorem vChk_spec {KT : Nat → Option vKd} {tb : XT} {tyl : List FieldType} {ot : XO Int32} : ∀ (f : Nat) (go : Bool) {dp k pc : Nat} {L : List (Nat × vA)} {S : List vA} {s : vSt} {cn sn : Nat} {cu : vCu} {ret : vSt → Option vA → Bool} {ρ : Nat → Int32} {σ : Nat → Nat} {ty : Nat → Option Nat} {H : List (XC Int32)} {Post : Option (XV Int32) → List (XC Int32) → Prop}
    (_ : H.length ≤ 1000000) (_ : vRel KT ρ σ ty H s) (_ : vChk KT tb tyl f go dp k pc L S s cn sn cu ret = true) (_ : vRetOk KT ty H.length s ρ σ ret Post) (_ : vCutOk KT tb tyl ot dp k ty H.length s ρ σ cu Post),
    ∃ v H2, x_To tb tyl ot dp k pc (cvL ρ σ L) (S.map (cv ρ σ)) H cn sn v H2 ∧ Post v H2 := by
  intro f
  induction f with
  | zero =>
    intro go dp k pc L S s cn sn cu ret ρ σ ty H Post hl h hk
    cases hk
  | succ f ih0 =>
  intro go dp k pc L S s cn sn cu ret ρ σ ty H Post hl h hk hret hcut
  have ih := fun {dp k pc : Nat} {L : List (Nat × vA)} {S : List vA} {s : vSt} {cn sn : Nat} {cu : vCu} {ret : vSt → Option vA → Bool} {ρ : Nat → Int32} {σ : Nat → Nat} {ty : Nat → Option Nat} {H : List (XC Int32)} {Post : Option (XV Int32) → List (XC Int32) → Prop} => @ih0 false dp k pc L S s cn sn cu ret ρ σ ty H Post
  rw [vChk.eq_def] at hk
  dsimp only at hk
  rcases hg : (if go = true then none else cu pc) with _ | g
  rotate_left
  · rw [hg] at hk
    have hcu : cu pc = some g := by
      cases go
      · exact hg
      · cases hg
    exact hcut pc g hcu ρ σ ty H s L S cn sn (vExt_rf s ρ σ) (fun _ _ z => z) h (Nat.le_refl _) hl hk
  rw [hg] at hk
  dsimp only at hk
  rcases hq : tMth tb k with _ | q
  · rw [hq] at hk
    cases hk
  rw [hq] at hk
  dsimp only at hk
  rcases hc : mC q pc with _ | ⟨i, n⟩
  · rw [hc] at hk
    cases hk
  rw [hc] at hk
  dsimp only at hk
  cases i
  case iconst x =>
    try dsimp only at hk
    obtain ⟨v, H2, h1, h2⟩ := ih hl h hk hret hcut
    exact ⟨v, H2, xT_iconst hq hc h1, h2⟩
  case bipush x =>
    try dsimp only at hk
    obtain ⟨v, H2, h1, h2⟩ := ih hl h hk hret hcut
    exact ⟨v, H2, xT_bipush hq hc h1, h2⟩
  case sipush x =>
    try dsimp only at hk
    obtain ⟨v, H2, h1, h2⟩ := ih hl h hk hret hcut
    exact ⟨v, H2, xT_sipush hq hc h1, h2⟩
  case aconst_null =>
    try dsimp only at hk
    obtain ⟨v, H2, h1, h2⟩ := ih hl h hk hret hcut
    exact ⟨v, H2, xT_aconst_null hq hc h1, h2⟩
  case iload_n j =>
    try dsimp only at hk
    rcases ha : x_lk L ↑j with _ | (a | a)
    · rw [ha] at hk
      cases hk
    · rw [ha] at hk
      obtain ⟨v, H2, h1, h2⟩ := ih hl h hk hret hcut
      exact ⟨v, H2, xT_iload_n hq hc (by rw [cv_lk, ha]; rfl) h1, h2⟩
    · rw [ha] at hk
      cases hk
  case iload j =>
    try dsimp only at hk
    rcases ha : x_lk L ↑j with _ | (a | a)
    · rw [ha] at hk
      cases hk
    · rw [ha] at hk
      obtain ⟨v, H2, h1, h2⟩ := ih hl h hk hret hcut
      exact ⟨v, H2, xT_iload hq hc (by rw [cv_lk, ha]; rfl) h1, h2⟩
    · rw [ha] at hk
      cases hk
  case aload_n j =>
    try dsimp only at hk
    rcases ha : x_lk L ↑j with _ | (a | a)
    · rw [ha] at hk
      cases hk
    · rw [ha] at hk
      cases hk
    · rw [ha] at hk
      obtain ⟨v, H2, h1, h2⟩ := ih hl h hk hret hcut
      rcases a with _ | a
      · exact ⟨v, H2, xT_aload_n hq hc (a := none) (by rw [cv_lk, ha]; rfl) h1, h2⟩
      · exact ⟨v, H2, xT_aload_n hq hc (a := some (σ a)) (by rw [cv_lk, ha]; rfl) h1, h2⟩
  case aload j =>
    try dsimp only at hk
    rcases ha : x_lk L ↑j with _ | (a | a)
    · rw [ha] at hk
      cases hk
    · rw [ha] at hk
      cases hk
    · rw [ha] at hk
      obtain ⟨v, H2, h1, h2⟩ := ih hl h hk hret hcut
      rcases a with _ | a
      · exact ⟨v, H2, xT_aload hq hc (a := none) (by rw [cv_lk, ha]; rfl) h1, h2⟩
      · exact ⟨v, H2, xT_aload hq hc (a := some (σ a)) (by rw [cv_lk, ha]; rfl) h1, h2⟩
  case iadd =>
    try dsimp only at hk
    rcases S with _ | ⟨b | b, _ | ⟨a | a, r⟩⟩ <;> first | (cases hk; done) | skip
    obtain ⟨v, H2, h1, h2⟩ := ih hl h hk hret hcut
    refine ⟨v, H2, xT_iadd hq hc (a := tEv ρ a) (b := tEv ρ b) ?_, h2⟩
    rw [List.map_cons, show cv ρ σ (.inl (tBin 0 a b)) = .inl (x_bin 0 (tEv ρ a) (tEv ρ b)) from congrArg Sum.inl (tBin_spec ρ 0 a b)] at h1
    exact h1
  case isub =>
    try dsimp only at hk
    rcases S with _ | ⟨b | b, _ | ⟨a | a, r⟩⟩ <;> first | (cases hk; done) | skip
    obtain ⟨v, H2, h1, h2⟩ := ih hl h hk hret hcut
    refine ⟨v, H2, xT_isub hq hc (a := tEv ρ a) (b := tEv ρ b) ?_, h2⟩
    rw [List.map_cons, show cv ρ σ (.inl (tBin 1 a b)) = .inl (x_bin 1 (tEv ρ a) (tEv ρ b)) from congrArg Sum.inl (tBin_spec ρ 1 a b)] at h1
    exact h1
  case imul =>
    try dsimp only at hk
    rcases S with _ | ⟨b | b, _ | ⟨a | a, r⟩⟩ <;> first | (cases hk; done) | skip
    obtain ⟨v, H2, h1, h2⟩ := ih hl h hk hret hcut
    refine ⟨v, H2, xT_imul hq hc (a := tEv ρ a) (b := tEv ρ b) ?_, h2⟩
    rw [List.map_cons, show cv ρ σ (.inl (tBin 2 a b)) = .inl (x_bin 2 (tEv ρ a) (tEv ρ b)) from congrArg Sum.inl (tBin_spec ρ 2 a b)] at h1
    exact h1
  case iand =>
    try dsimp only at hk
    rcases S with _ | ⟨b | b, _ | ⟨a | a, r⟩⟩ <;> first | (cases hk; done) | skip
    obtain ⟨v, H2, h1, h2⟩ := ih hl h hk hret hcut
    refine ⟨v, H2, xT_iand hq hc (a := tEv ρ a) (b := tEv ρ b) ?_, h2⟩
    rw [List.map_cons, show cv ρ σ (.inl (tBin 3 a b)) = .inl (x_bin 3 (tEv ρ a) (tEv ρ b)) from congrArg Sum.inl (tBin_spec ρ 3 a b)] at h1
    exact h1
  case ior =>
    try dsimp only at hk
    rcases S with _ | ⟨b | b, _ | ⟨a | a, r⟩⟩ <;> first | (cases hk; done) | skip
    obtain ⟨v, H2, h1, h2⟩ := ih hl h hk hret hcut
    refine ⟨v, H2, xT_ior hq hc (a := tEv ρ a) (b := tEv ρ b) ?_, h2⟩
    rw [List.map_cons, show cv ρ σ (.inl (tBin 4 a b)) = .inl (x_bin 4 (tEv ρ a) (tEv ρ b)) from congrArg Sum.inl (tBin_spec ρ 4 a b)] at h1
    exact h1
  case ixor =>
    try dsimp only at hk
    rcases S with _ | ⟨b | b, _ | ⟨a | a, r⟩⟩ <;> first | (cases hk; done) | skip
    obtain ⟨v, H2, h1, h2⟩ := ih hl h hk hret hcut
    refine ⟨v, H2, xT_ixor hq hc (a := tEv ρ a) (b := tEv ρ b) ?_, h2⟩
    rw [List.map_cons, show cv ρ σ (.inl (tBin 5 a b)) = .inl (x_bin 5 (tEv ρ a) (tEv ρ b)) from congrArg Sum.inl (tBin_spec ρ 5 a b)] at h1
    exact h1
  case ishl =>
    try dsimp only at hk
    rcases S with _ | ⟨b | b, _ | ⟨a | a, r⟩⟩ <;> first | (cases hk; done) | skip
    obtain ⟨v, H2, h1, h2⟩ := ih hl h hk hret hcut
    refine ⟨v, H2, xT_ishl hq hc (a := tEv ρ a) (b := tEv ρ b) ?_, h2⟩
    rw [List.map_cons, show cv ρ σ (.inl (tBin 6 a b)) = .inl (x_bin 6 (tEv ρ a) (tEv ρ b)) from congrArg Sum.inl (tBin_spec ρ 6 a b)] at h1
    exact h1
  case ishr =>
    try dsimp only at hk
    rcases S with _ | ⟨b | b, _ | ⟨a | a, r⟩⟩ <;> first | (cases hk; done) | skip
    obtain ⟨v, H2, h1, h2⟩ := ih hl h hk hret hcut
    refine ⟨v, H2, xT_ishr hq hc (a := tEv ρ a) (b := tEv ρ b) ?_, h2⟩
    rw [List.map_cons, show cv ρ σ (.inl (tBin 7 a b)) = .inl (x_bin 7 (tEv ρ a) (tEv ρ b)) from congrArg Sum.inl (tBin_spec ρ 7 a b)] at h1
    exact h1
  case iushr =>
    try dsimp only at hk
    rcases S with _ | ⟨b | b, _ | ⟨a | a, r⟩⟩ <;> first | (cases hk; done) | skip
    obtain ⟨v, H2, h1, h2⟩ := ih hl h hk hret hcut
    refine ⟨v, H2, xT_iushr hq hc (a := tEv ρ a) (b := tEv ρ b) ?_, h2⟩
    rw [List.map_cons, show cv ρ σ (.inl (tBin 10 a b)) = .inl (x_bin 10 (tEv ρ a) (tEv ρ b)) from congrArg Sum.inl (tBin_spec ρ 10 a b)] at h1
    exact h1
  case goto x =>
    try dsimp only at hk
    rcases ht : x_jp pc x with _ | t
    · rw [ht] at hk
      cases hk
    · rw [ht] at hk
      obtain ⟨v, H2, h1, h2⟩ := ih hl h hk hret hcut
      exact ⟨v, H2, xT_goto hq hc ht h1, h2⟩
  case if_icmp c x =>
    try dsimp only at hk
    rcases ht : x_jp pc x with _ | t
    · rw [ht] at hk
      rcases S with _ | ⟨b | b, _ | ⟨a | a, r⟩⟩ <;> (cases hk; done)
    rw [ht] at hk
    rcases S with _ | ⟨b | b, _ | ⟨a | a, r⟩⟩ <;> first | (cases hk; done) | skip
    obtain ⟨s2, g0, g1, g2⟩ := vBr_spec h hk
    have hret2 : vRetOk KT ty H.length s2 ρ σ ret Post := vRetOk_ext g1 hret
    have hcut2 : vCutOk KT tb tyl ot dp k ty H.length s2 ρ σ cu Post := vCutOk_ext g1 hcut
    rcases g2 with ⟨e, g2⟩ | ⟨e, g2⟩
    · obtain ⟨v, H2, h1, h2⟩ := ih hl g0 g2 hret2 hcut2
      exact ⟨v, H2, xT_if_icmpY hq hc (a := tEv ρ a) (b := tEv ρ b) ht e h1, h2⟩
    · obtain ⟨v, H2, h1, h2⟩ := ih hl g0 g2 hret2 hcut2
      exact ⟨v, H2, xT_if_icmpN hq hc (a := tEv ρ a) (b := tEv ρ b) ht e h1, h2⟩
  case istore_n j =>
    try dsimp only at hk
    rcases S with _ | ⟨a | a, r⟩ <;> first | (cases hk; done) | skip
    have hk2 := Bool.and_eq_true_iff.mp hk
    obtain ⟨v, H2, h1, h2⟩ := ih hl h hk2.2 hret hcut
    refine ⟨v, H2, xT_istore_n hq hc (a := tEv ρ a) (of_decide_eq_true hk2.1) ?_, h2⟩
    rw [← cv_st] at h1
    exact h1
  case istore j =>
    try dsimp only at hk
    rcases S with _ | ⟨a | a, r⟩ <;> first | (cases hk; done) | skip
    have hk2 := Bool.and_eq_true_iff.mp hk
    obtain ⟨v, H2, h1, h2⟩ := ih hl h hk2.2 hret hcut
    refine ⟨v, H2, xT_istore hq hc (a := tEv ρ a) (of_decide_eq_true hk2.1) ?_, h2⟩
    rw [← cv_st] at h1
    exact h1
  case astore_n j =>
    try dsimp only at hk
    rcases S with _ | ⟨a | a, r⟩ <;> first | (cases hk; done) | skip
    have hk2 := Bool.and_eq_true_iff.mp hk
    obtain ⟨v, H2, h1, h2⟩ := ih hl h hk2.2 hret hcut
    rw [← cv_st] at h1
    rcases a with _ | a
    · exact ⟨v, H2, xT_astore_n hq hc (a := none) (of_decide_eq_true hk2.1) h1, h2⟩
    · exact ⟨v, H2, xT_astore_n hq hc (a := some (σ a)) (of_decide_eq_true hk2.1) h1, h2⟩
  case astore j =>
    try dsimp only at hk
    rcases S with _ | ⟨a | a, r⟩ <;> first | (cases hk; done) | skip
    have hk2 := Bool.and_eq_true_iff.mp hk
    obtain ⟨v, H2, h1, h2⟩ := ih hl h hk2.2 hret hcut
    rw [← cv_st] at h1
    rcases a with _ | a
    · exact ⟨v, H2, xT_astore hq hc (a := none) (of_decide_eq_true hk2.1) h1, h2⟩
    · exact ⟨v, H2, xT_astore hq hc (a := some (σ a)) (of_decide_eq_true hk2.1) h1, h2⟩
  case iinc j x =>
    try dsimp only at hk
    rcases ha : x_lk L j with _ | (a | a)
    · rw [ha] at hk
      cases hk
    · rw [ha] at hk
      have hk2 := Bool.and_eq_true_iff.mp hk
      obtain ⟨v, H2, h1, h2⟩ := ih hl h hk2.2 hret hcut
      refine ⟨v, H2, xT_iinc hq hc (a := tEv ρ a) (by rw [cv_lk, ha]; rfl) (of_decide_eq_true hk2.1) ?_, h2⟩
      rw [← cv_st, show cv ρ σ (.inl (tBin 0 a (.int (Int32.ofInt x)))) = .inl (x_bin 0 (tEv ρ a) (Int32.ofInt x)) from congrArg Sum.inl (tBin_spec ρ 0 a _)] at h1
      exact h1
    · rw [ha] at hk
      cases hk
  case dup =>
    try dsimp only at hk
    rcases S with _ | ⟨a, r⟩ <;> first | (cases hk; done) | skip
    obtain ⟨v, H2, h1, h2⟩ := ih hl h hk hret hcut
    exact ⟨v, H2, xT_dup hq hc h1, h2⟩
  case dup_x1 =>
    try dsimp only at hk
    rcases S with _ | ⟨a, _ | ⟨b, r⟩⟩ <;> first | (cases hk; done) | skip
    obtain ⟨v, H2, h1, h2⟩ := ih hl h hk hret hcut
    exact ⟨v, H2, xT_dup_x1 hq hc h1, h2⟩
  case dup2 =>
    try dsimp only at hk
    rcases S with _ | ⟨a, _ | ⟨b, r⟩⟩ <;> first | (cases hk; done) | skip
    obtain ⟨v, H2, h1, h2⟩ := ih hl h hk hret hcut
    exact ⟨v, H2, xT_dup2 hq hc h1, h2⟩
  case pop =>
    try dsimp only at hk
    rcases S with _ | ⟨a, r⟩ <;> first | (cases hk; done) | skip
    obtain ⟨v, H2, h1, h2⟩ := ih hl h hk hret hcut
    exact ⟨v, H2, xT_pop hq hc h1, h2⟩
  case ifCond c x =>
    try dsimp only at hk
    rcases ht : x_jp pc x with _ | t
    · rw [ht] at hk
      cases hk
    rw [ht] at hk
    rcases S with _ | ⟨a | a, r⟩ <;> first | (cases hk; done) | skip
    obtain ⟨s2, g0, g1, g2⟩ := vBr_spec h hk
    have hret2 : vRetOk KT ty H.length s2 ρ σ ret Post := vRetOk_ext g1 hret
    have hcut2 : vCutOk KT tb tyl ot dp k ty H.length s2 ρ σ cu Post := vCutOk_ext g1 hcut
    rcases g2 with ⟨e, g2⟩ | ⟨e, g2⟩
    · obtain ⟨v, H2, h1, h2⟩ := ih hl g0 g2 hret2 hcut2
      exact ⟨v, H2, xT_ifCondY hq hc (a := tEv ρ a) ht e h1, h2⟩
    · obtain ⟨v, H2, h1, h2⟩ := ih hl g0 g2 hret2 hcut2
      exact ⟨v, H2, xT_ifCondN hq hc (a := tEv ρ a) ht e h1, h2⟩
  case ifnull x =>
    try dsimp only at hk
    rcases ht : x_jp pc x with _ | t
    · rw [ht] at hk
      cases hk
    rw [ht] at hk
    rcases S with _ | ⟨a | (_ | a), r⟩
    · cases hk
    · cases hk
    · obtain ⟨v, H2, h1, h2⟩ := ih hl h hk hret hcut
      exact ⟨v, H2, xT_ifnull0 hq hc ht h1, h2⟩
    · obtain ⟨v, H2, h1, h2⟩ := ih hl h hk hret hcut
      exact ⟨v, H2, xT_ifnull1 hq hc (a := σ a) ht h1, h2⟩
  case ifnonnull x =>
    try dsimp only at hk
    rcases ht : x_jp pc x with _ | t
    · rw [ht] at hk
      cases hk
    rw [ht] at hk
    rcases S with _ | ⟨a | (_ | a), r⟩
    · cases hk
    · cases hk
    · obtain ⟨v, H2, h1, h2⟩ := ih hl h hk hret hcut
      exact ⟨v, H2, xT_ifnonnull0 hq hc ht h1, h2⟩
    · obtain ⟨v, H2, h1, h2⟩ := ih hl h hk hret hcut
      exact ⟨v, H2, xT_ifnonnull1 hq hc (a := σ a) ht h1, h2⟩
  case ireturn =>
    try dsimp only at hk
    rcases S with _ | ⟨e | e, _ | ⟨z, r⟩⟩ <;> first | (cases hk; done) | skip
    have k0 := Bool.and_eq_true_iff.mp hk
    have k1 := Bool.and_eq_true_iff.mp k0.1
    have k2 := Bool.and_eq_true_iff.mp k1.2
    refine ⟨some (.inl (tEv ρ e)), H, xT_ireturn hq hc ?_, hret ρ σ ty H s (some (.inl e)) (vExt_rf s ρ σ) (fun _ _ z => z) h (Nat.le_refl _) hl k0.2⟩
    rw [vRt_spec h k1.1, k2.1, k2.2]
    rfl
  case return_ =>
    try dsimp only at hk
    rcases S with _ | ⟨e, r⟩ <;> first | (cases hk; done) | skip
    have k0 := Bool.and_eq_true_iff.mp hk
    have k1 := Bool.and_eq_true_iff.mp k0.1
    have k2 := Bool.and_eq_true_iff.mp k1.2
    refine ⟨none, H, xT_return_ hq hc ?_, hret ρ σ ty H s none (vExt_rf s ρ σ) (fun _ _ z => z) h (Nat.le_refl _) hl k0.2⟩
    rw [k1.1, k2.1, k2.2]
    rfl
  case getfield ix =>
    try dsimp only at hk
    rcases S with _ | ⟨b | (_ | a), r⟩ <;> first | (cases hk; done) | skip
    try dsimp only at hk
    rcases hf : tFld tb (mO q) ix with _ | ⟨ci, j⟩
    · rw [hf] at hk
      cases hk
    rw [hf] at hk
    try dsimp only at hk
    rcases hG : s.2.1[a]? with _ | c
    · rw [hG] at hk
      cases hk
    rw [hG] at hk
    try dsimp only at hk
    rcases hK : KT c with _ | (⟨c2, fl⟩ | o)
    · rw [hK] at hk
      cases hk
    rotate_left
    · rw [hK] at hk
      cases hk
    rw [hK] at hk
    try dsimp only at hk
    rcases hz : fl[j]? with _ | fz
    · rw [hz] at hk
      cases hk
    rw [hz] at hk
    have hk2 := Bool.and_eq_true_iff.mp hk
    have hk3 := Bool.and_eq_true_iff.mp hk2.1
    have hci : c2 = ci := of_decide_eq_true hk3.1
    have ha := h.2.1 a c hG
    obtain ⟨fs, f1, f2, f3⟩ := vHp_obj h.1 ha hK
    obtain ⟨u, u1, u2⟩ := f3 j fz hz
    obtain ⟨ρ2, σ2, s2, v0, g0, g1, g2, g3⟩ := vRd_spec h (i := a) (key := .inl j) (u := u) ⟨c2, fs, f1, u1⟩ u2 hk2.2
    obtain ⟨v, H2, h1, h2⟩ := ih hl g1 g3 (vRetOk_ext g0 hret) (vCutOk_ext g0 hcut)
    have hlt := vHp_lt h.1 ha
    obtain ⟨e1, e2⟩ := vFr_spec g0 hk3.2
    rw [e1, List.map_cons, g2, e2] at h1
    exact ⟨v, H2, xT_getfield hq hc (a := σ a) (by omega) hf f1 hci u1 h1, h2⟩
  case iaload =>
    try dsimp only at hk
    rcases S with _ | ⟨e | e, _ | ⟨b | (_ | a), r⟩⟩ <;> first | (cases hk; done) | skip
    try dsimp only at hk
    rcases hG : s.2.1[a]? with _ | c
    · rw [hG] at hk
      cases hk
    rw [hG] at hk
    try dsimp only at hk
    rcases hK : KT c with _ | (o | ⟨t, m, fz⟩)
    · rw [hK] at hk
      cases hk
    · rw [hK] at hk
      cases hk
    rw [hK] at hk
    have hk2 := Bool.and_eq_true_iff.mp hk
    have hk4 := Bool.and_eq_true_iff.mp hk2.1
    have hk5 := Bool.and_eq_true_iff.mp hk4.2
    have ht : t = 0 := of_decide_eq_true hk4.1
    subst ht
    have ha := h.2.1 a c hG
    obtain ⟨vs, f1, f2, f3⟩ := vHp_arr h.1 ha hK
    obtain ⟨x1, x2⟩ := vIdx_spec h hk5.1
    obtain ⟨u, u1, u2⟩ := f3 _ x2
    obtain ⟨ρ2, σ2, s2, v0, g0, g1, g2, g3⟩ := vRd_spec h (i := a) (key := .inr e) (u := u) ⟨_, vs, f1, u1⟩ u2 hk2.2
    obtain ⟨v, H2, h1, h2⟩ := ih hl g1 g3 (vRetOk_ext g0 hret) (vCutOk_ext g0 hcut)
    have hlt := vHp_lt h.1 ha
    obtain ⟨e1, e2⟩ := vFr_spec g0 hk5.2
    rw [e1, List.map_cons, g2, e2] at h1
    exact ⟨v, H2, xT_iaload hq hc (a := σ a) (e := tEv ρ e) (by omega) f1 (by rw [f2]; exact x1) u1 h1, h2⟩
  case baload =>
    try dsimp only at hk
    rcases S with _ | ⟨e | e, _ | ⟨b | (_ | a), r⟩⟩ <;> first | (cases hk; done) | skip
    try dsimp only at hk
    rcases hG : s.2.1[a]? with _ | c
    · rw [hG] at hk
      cases hk
    rw [hG] at hk
    try dsimp only at hk
    rcases hK : KT c with _ | (o | ⟨t, m, fz⟩)
    · rw [hK] at hk
      cases hk
    · rw [hK] at hk
      cases hk
    rw [hK] at hk
    have hk2 := Bool.and_eq_true_iff.mp hk
    have hk4 := Bool.and_eq_true_iff.mp hk2.1
    have hk5 := Bool.and_eq_true_iff.mp hk4.2
    have ht : t = 1 := of_decide_eq_true hk4.1
    subst ht
    have ha := h.2.1 a c hG
    obtain ⟨vs, f1, f2, f3⟩ := vHp_arr h.1 ha hK
    obtain ⟨x1, x2⟩ := vIdx_spec h hk5.1
    obtain ⟨u, u1, u2⟩ := f3 _ x2
    obtain ⟨ρ2, σ2, s2, v0, g0, g1, g2, g3⟩ := vRd_spec h (i := a) (key := .inr e) (u := u) ⟨_, vs, f1, u1⟩ u2 hk2.2
    obtain ⟨v, H2, h1, h2⟩ := ih hl g1 g3 (vRetOk_ext g0 hret) (vCutOk_ext g0 hcut)
    have hlt := vHp_lt h.1 ha
    obtain ⟨e1, e2⟩ := vFr_spec g0 hk5.2
    rw [e1, List.map_cons, g2, e2] at h1
    exact ⟨v, H2, xT_baload hq hc (a := σ a) (e := tEv ρ e) (by omega) f1 (by rw [f2]; exact x1) u1 h1, h2⟩
  case aaload =>
    try dsimp only at hk
    rcases S with _ | ⟨e | e, _ | ⟨b | (_ | a), r⟩⟩ <;> first | (cases hk; done) | skip
    try dsimp only at hk
    rcases hG : s.2.1[a]? with _ | c
    · rw [hG] at hk
      cases hk
    rw [hG] at hk
    try dsimp only at hk
    rcases hK : KT c with _ | (o | ⟨t, m, fz⟩)
    · rw [hK] at hk
      cases hk
    · rw [hK] at hk
      cases hk
    rw [hK] at hk
    have hk2 := Bool.and_eq_true_iff.mp hk
    have hk4 := Bool.and_eq_true_iff.mp hk2.1
    have hk5 := Bool.and_eq_true_iff.mp hk4.2
    try skip
    have ha := h.2.1 a c hG
    obtain ⟨vs, f1, f2, f3⟩ := vHp_arr h.1 ha hK
    obtain ⟨x1, x2⟩ := vIdx_spec h hk5.1
    obtain ⟨u, u1, u2⟩ := f3 _ x2
    obtain ⟨ρ2, σ2, s2, v0, g0, g1, g2, g3⟩ := vRd_spec h (i := a) (key := .inr e) (u := u) ⟨_, vs, f1, u1⟩ u2 hk2.2
    obtain ⟨v, H2, h1, h2⟩ := ih hl g1 g3 (vRetOk_ext g0 hret) (vCutOk_ext g0 hcut)
    have hlt := vHp_lt h.1 ha
    obtain ⟨e1, e2⟩ := vFr_spec g0 hk5.2
    rw [e1, List.map_cons, g2, e2] at h1
    exact ⟨v, H2, xT_aaload hq hc (a := σ a) (e := tEv ρ e) (of_decide_eq_true hk4.1) f1 (by rw [f2]; exact x1) u1 h1, h2⟩
  case iastore =>
    try dsimp only at hk
    rcases S with _ | ⟨x | x, _ | ⟨e | e, _ | ⟨b | (_ | a), r⟩⟩⟩ <;> first | (cases hk; done) | skip
    try dsimp only at hk
    rcases hG : s.2.1[a]? with _ | c
    · rw [hG] at hk
      cases hk
    rw [hG] at hk
    try dsimp only at hk
    rcases hK : KT c with _ | (o | ⟨t, m, fz⟩)
    · rw [hK] at hk
      cases hk
    · rw [hK] at hk
      cases hk
    rw [hK] at hk
    have hk2 := Bool.and_eq_true_iff.mp hk
    have hk4 := Bool.and_eq_true_iff.mp hk2.1
    have hk5 := Bool.and_eq_true_iff.mp hk4.2
    have hk6 := Bool.and_eq_true_iff.mp hk5.2
    have ht : t = 0 := of_decide_eq_true hk4.1
    subst ht
    have ha := h.2.1 a c hG
    obtain ⟨vs, f1, f2, f3⟩ := vHp_arr h.1 ha hK
    obtain ⟨x1, x2⟩ := vIdx_spec h hk5.1
    have hr := vSto_rel h ha hK f1 (e := e) (v := .inl x) (by rw [f2]; exact x2) (vFits_spec h hk6.1)
    have hlen : (H.set (σ a) (.inr (0, vs.set (tEv ρ e).toNatClampNeg (cv ρ σ (.inl x))))).length = H.length := List.length_set
    have g0 : vExt s (vKn (a, .inr e, .inl x) (vSto a s)) ρ ρ σ σ := ⟨fun _ _ => rfl, fun _ _ => rfl, Nat.le_refl _, Nat.le_refl _⟩
    obtain ⟨v, H2, h1, h2⟩ := ih (by rw [hlen]; exact hl) hr hk2.2 (by rw [hlen]; exact vRetOk_ext g0 hret) (by rw [hlen]; exact vCutOk_ext g0 hcut)
    exact ⟨v, H2, xT_iastore hq hc (a := σ a) (e := tEv ρ e) (x := tEv ρ x) f1 (by rw [f2]; exact x1) h1, h2⟩
  case bastore =>
    try dsimp only at hk
    rcases S with _ | ⟨x | x, _ | ⟨e | e, _ | ⟨b | (_ | a), r⟩⟩⟩ <;> first | (cases hk; done) | skip
    try dsimp only at hk
    rcases hG : s.2.1[a]? with _ | c
    · rw [hG] at hk
      cases hk
    rw [hG] at hk
    try dsimp only at hk
    rcases hK : KT c with _ | (o | ⟨t, m, fz⟩)
    · rw [hK] at hk
      cases hk
    · rw [hK] at hk
      cases hk
    rw [hK] at hk
    have hk2 := Bool.and_eq_true_iff.mp hk
    have hk4 := Bool.and_eq_true_iff.mp hk2.1
    have hk5 := Bool.and_eq_true_iff.mp hk4.2
    have hk6 := Bool.and_eq_true_iff.mp hk5.2
    have ht : t = 1 := of_decide_eq_true hk4.1
    subst ht
    have ha := h.2.1 a c hG
    obtain ⟨vs, f1, f2, f3⟩ := vHp_arr h.1 ha hK
    obtain ⟨x1, x2⟩ := vIdx_spec h hk5.1
    have hr := vSto_rel h ha hK f1 (e := e) (v := .inl x) (by rw [f2]; exact x2) (vFits_spec h hk6.1)
    have hlen : (H.set (σ a) (.inr (1, vs.set (tEv ρ e).toNatClampNeg (cv ρ σ (.inl x))))).length = H.length := List.length_set
    have g0 : vExt s (vKn (a, .inr e, .inl x) (vSto a s)) ρ ρ σ σ := ⟨fun _ _ => rfl, fun _ _ => rfl, Nat.le_refl _, Nat.le_refl _⟩
    obtain ⟨v, H2, h1, h2⟩ := ih (by rw [hlen]; exact hl) hr hk2.2 (by rw [hlen]; exact vRetOk_ext g0 hret) (by rw [hlen]; exact vCutOk_ext g0 hcut)
    exact ⟨v, H2, xT_bastore hq hc (a := σ a) (e := tEv ρ e) (x := tEv ρ x) (vB01_fit h hk6.2) f1 (by rw [f2]; exact x1) h1, h2⟩
  case putfield ix =>
    try dsimp only at hk
    rcases S with _ | ⟨x, _ | ⟨b | (_ | a), r⟩⟩ <;> first | (cases hk; done) | skip
    try dsimp only at hk
    rcases hf : tFld tb (mO q) ix with _ | ⟨ci, j⟩
    · rw [hf] at hk
      cases hk
    rw [hf] at hk
    try dsimp only at hk
    rcases hG : s.2.1[a]? with _ | c
    · rw [hG] at hk
      cases hk
    rw [hG] at hk
    try dsimp only at hk
    rcases hK : KT c with _ | (⟨c2, fl⟩ | o)
    · rw [hK] at hk
      cases hk
    rotate_left
    · rw [hK] at hk
      cases hk
    rw [hK] at hk
    try dsimp only at hk
    rcases hz : fl[j]? with _ | fz
    · rw [hz] at hk
      cases hk
    rw [hz] at hk
    try dsimp only at hk
    rcases hT : (tFt tb ci)[j]? with _ | tt
    · rw [hT] at hk
      cases hk
    rw [hT] at hk
    have hk2 := Bool.and_eq_true_iff.mp hk
    have hk3 := Bool.and_eq_true_iff.mp hk2.1
    have hk4 := Bool.and_eq_true_iff.mp hk3.2
    have hk5 := Bool.and_eq_true_iff.mp hk4.2
    have hci : c2 = ci := of_decide_eq_true hk3.1
    subst hci
    have ha := h.2.1 a c hG
    obtain ⟨fs, f1, f2, f3⟩ := vHp_obj h.1 ha hK
    have hj := (List.getElem?_eq_some_iff.mp hz).1
    have hr := vPut_rel h ha hK f1 hz (by rw [f2]; exact hj) (vFits_spec h hk4.1)
    have hlen : (H.set (σ a) (.inl (c2, fs.set j (cv ρ σ x)))).length = H.length := List.length_set
    have g0 : vExt s (vKn (a, .inl j, x) (vPut a j s)) ρ ρ σ σ := ⟨fun _ _ => rfl, fun _ _ => rfl, Nat.le_refl _, Nat.le_refl _⟩
    obtain ⟨v, H2, h1, h2⟩ := ih (by rw [hlen]; exact hl) hr hk2.2 (by rw [hlen]; exact vRetOk_ext g0 hret) (by rw [hlen]; exact vCutOk_ext g0 hcut)
    refine ⟨v, H2, xT_putfield hq hc (a := σ a) hf f1 hT ?_ h1, h2⟩
    rw [vTyp_spec h hk5.1, hk5.2, decide_eq_true (show c2 = c2 from rfl), decide_eq_true (show j < fs.length by rw [f2]; exact hj)]
    rfl
  case idiv =>
    try dsimp only at hk
    rcases S with _ | ⟨b | b, _ | ⟨a | a, r⟩⟩ <;> first | (cases hk; done) | skip
    obtain ⟨s2, g0, g1, g2⟩ := vBr_spec h hk
    rcases g2 with ⟨e, g2⟩ | ⟨e, g2⟩
    · cases g2
    · obtain ⟨v, H2, h1, h2⟩ := ih hl g0 g2 (vRetOk_ext g1 hret) (vCutOk_ext g1 hcut)
      refine ⟨v, H2, xT_idiv hq hc (a := tEv ρ a) (b := tEv ρ b) e ?_, h2⟩
      rw [List.map_cons, show cv ρ σ (.inl (tBin 8 a b)) = .inl (x_bin 8 (tEv ρ a) (tEv ρ b)) from congrArg Sum.inl (tBin_spec ρ 8 a b)] at h1
      exact h1
  case irem =>
    try dsimp only at hk
    rcases S with _ | ⟨b | b, _ | ⟨a | a, r⟩⟩ <;> first | (cases hk; done) | skip
    obtain ⟨s2, g0, g1, g2⟩ := vBr_spec h hk
    rcases g2 with ⟨e, g2⟩ | ⟨e, g2⟩
    · cases g2
    · obtain ⟨v, H2, h1, h2⟩ := ih hl g0 g2 (vRetOk_ext g1 hret) (vCutOk_ext g1 hcut)
      refine ⟨v, H2, xT_irem hq hc (a := tEv ρ a) (b := tEv ρ b) e ?_, h2⟩
      rw [List.map_cons, show cv ρ σ (.inl (tBin 9 a b)) = .inl (x_bin 9 (tEv ρ a) (tEv ρ b)) from congrArg Sum.inl (tBin_spec ρ 9 a b)] at h1
      exact h1
  case i2b =>
    try dsimp only at hk
    rcases S with _ | ⟨a | a, r⟩ <;> first | (cases hk; done) | skip
    obtain ⟨v, H2, h1, h2⟩ := ih hl h hk hret hcut
    refine ⟨v, H2, xT_i2b hq hc (a := tEv ρ a) ?_, h2⟩
    rw [List.map_cons, show cv ρ σ (.inl (tUn 0 a)) = .inl (x_un 0 (tEv ρ a)) from congrArg Sum.inl (tUn_spec ρ 0 a)] at h1
    exact h1
  case i2s =>
    try dsimp only at hk
    rcases S with _ | ⟨a | a, r⟩ <;> first | (cases hk; done) | skip
    obtain ⟨v, H2, h1, h2⟩ := ih hl h hk hret hcut
    refine ⟨v, H2, xT_i2s hq hc (a := tEv ρ a) ?_, h2⟩
    rw [List.map_cons, show cv ρ σ (.inl (tUn 1 a)) = .inl (x_un 1 (tEv ρ a)) from congrArg Sum.inl (tUn_spec ρ 1 a)] at h1
    exact h1
  case i2c =>
    try dsimp only at hk
    rcases S with _ | ⟨a | a, r⟩ <;> first | (cases hk; done) | skip
    obtain ⟨v, H2, h1, h2⟩ := ih hl h hk hret hcut
    refine ⟨v, H2, xT_i2c hq hc (a := tEv ρ a) ?_, h2⟩
    rw [List.map_cons, show cv ρ σ (.inl (tUn 2 a)) = .inl (x_un 2 (tEv ρ a)) from congrArg Sum.inl (tUn_spec ρ 2 a)] at h1
    exact h1
  case ineg =>
    try dsimp only at hk
    rcases S with _ | ⟨a | a, r⟩ <;> first | (cases hk; done) | skip
    obtain ⟨v, H2, h1, h2⟩ := ih hl h hk hret hcut
    refine ⟨v, H2, xT_ineg hq hc (a := tEv ρ a) ?_, h2⟩
    rw [List.map_cons, show cv ρ σ (.inl (tUn 3 a)) = .inl (x_un 3 (tEv ρ a)) from congrArg Sum.inl (tUn_spec ρ 3 a)] at h1
    exact h1
  case ldc ix =>
    try dsimp only at hk
    rcases hx : tLi tb (mO q) ix with _ | x
    · rw [hx] at hk
      cases hk
    rw [hx] at hk
    obtain ⟨v, H2, h1, h2⟩ := ih hl h hk hret hcut
    exact ⟨v, H2, xT_ldc hq hc hx h1, h2⟩
  case ldc_w ix =>
    try dsimp only at hk
    rcases hx : tLi tb (mO q) ix with _ | x
    · rw [hx] at hk
      cases hk
    rw [hx] at hk
    obtain ⟨v, H2, h1, h2⟩ := ih hl h hk hret hcut
    exact ⟨v, H2, xT_ldc_w hq hc hx h1, h2⟩
  case areturn =>
    try dsimp only at hk
    rcases S with _ | ⟨e | o, _ | ⟨z, r⟩⟩ <;> first | (cases hk; done) | skip
    have k0 := Bool.and_eq_true_iff.mp hk
    have k1 := Bool.and_eq_true_iff.mp k0.1
    have k2 := Bool.and_eq_true_iff.mp k1.2
    have hp := hret ρ σ ty H s (some (.inr o)) (vExt_rf s ρ σ) (fun _ _ z => z) h (Nat.le_refl _) hl k0.2
    have hm : ∀ u : Option Nat, x_retOk dC (mR q) (.inr u) = true := fun u => by
      have k3 := k1.1
      generalize mR q = m at k3 ⊢
      rcases m with _ | t
      · cases k3
      · cases t <;> first | rfl | (cases k3; done)
    rcases o with _ | a
    · exact ⟨some (.inr none), H, xT_areturn hq hc (by rw [hm, k2.1, k2.2]; rfl), hp⟩
    · exact ⟨some (.inr (some (σ a))), H, xT_areturn hq hc (by rw [hm, k2.1, k2.2]; rfl), hp⟩
  case tableswitch df lo up os =>
    try dsimp only at hk
    rcases S with _ | ⟨a | a, r⟩ <;> first | (cases hk; done) | skip
    have hk2 := Bool.and_eq_true_iff.mp hk
    have hk3 := Bool.and_eq_true_iff.mp hk2.1
    obtain ⟨s2, g0, g1, g2⟩ := vSw_spec _ h hk2.2
    rcases ht : x_jp pc (x_swo (tEv ρ a) df (x_tp lo os.toList)) with _ | t
    · rw [ht] at g2
      cases g2
    rw [ht] at g2
    obtain ⟨v, H2, h1, h2⟩ := ih hl g0 g2 (vRetOk_ext g1 hret) (vCutOk_ext g1 hcut)
    exact ⟨v, H2, xT_tableswitch hq hc (a := tEv ρ a) (of_decide_eq_true hk3.1) hk3.2 ht h1, h2⟩
  case lookupswitch df ps =>
    try dsimp only at hk
    rcases S with _ | ⟨a | a, r⟩ <;> first | (cases hk; done) | skip
    have hk2 := Bool.and_eq_true_iff.mp hk
    have hk3 := Bool.and_eq_true_iff.mp hk2.1
    obtain ⟨s2, g0, g1, g2⟩ := vSw_spec _ h hk2.2
    rcases ht : x_jp pc (x_swo (tEv ρ a) df ps.toList) with _ | t
    · rw [ht] at g2
      cases g2
    rw [ht] at g2
    obtain ⟨v, H2, h1, h2⟩ := ih hl g0 g2 (vRetOk_ext g1 hret) (vCutOk_ext g1 hcut)
    exact ⟨v, H2, xT_lookupswitch hq hc (a := tEv ρ a) (hk3.1) hk3.2 ht h1, h2⟩
  case invokespecial ix =>
    try dsimp only at hk
    by_cases hb : tBi tb (mO q) ix = some 0
    · rw [if_pos hb] at hk
      rcases S with _ | ⟨a | (_ | a), r⟩ <;> first | (cases hk; done) | skip
      have hk2 := Bool.and_eq_true_iff.mp hk
      obtain ⟨v, H2, h1, h2⟩ := ih hl h hk2.2 hret hcut
      exact ⟨v, H2, xT_objectInit hq hc (a := σ a) hb (by rw [List.length_map]; exact hk2.1) h1, h2⟩
    · rw [if_neg hb] at hk
      by_cases hn : tBi tb (mO q) ix = none
      rotate_left
      · rw [if_neg hn] at hk
        cases hk
      rw [if_pos hn] at hk
      try dsimp only at hk
      rcases hy : tCal tb (mO q) ix with _ | ⟨j, so⟩
      · rw [hy] at hk
        cases hk
      rw [hy] at hk
      try dsimp only at hk
      rcases dp with _ | dp2
      · cases hk
      try dsimp only at hk
      rcases hm : tMth tb j with _ | q2
      · rw [hm] at hk
        cases hk
      rw [hm] at hk
      try dsimp only at hk
      rcases hd : S.drop (mNp q2) with _ | ⟨z | (_ | a), r⟩
      · rw [hd] at hk
        cases hk
      · rw [hd] at hk
        cases hk
      · rw [hd] at hk
        cases hk
      rw [hd] at hk
      have hk2 := Bool.and_eq_true_iff.mp hk
      have hk3 := Bool.and_eq_true_iff.mp hk2.1
      have hp : vRetOk KT ty H.length s ρ σ (fun s2 v => vChk KT tb tyl f false (dp2 + 1) k (pc + 3) L (x_push v r) s2 (cn + mMc q2) (sn + mMs q2) cu ret) (fun u H1 => ∃ v H2, x_To tb tyl ot (dp2 + 1) k (pc + 3) (cvL ρ σ L) (x_push u (r.map (cv ρ σ))) H1 (cn + mMc q2) (sn + mMs q2) v H2 ∧ Post v H2) := by
        intro ρ2 σ2 ty2 H1 s2 av e1 e2 e3 e4 e5 e6
        obtain ⟨v, H2, h1, h2⟩ := ih e5 e3 e6 (fun ρ3 σ3 ty3 H3 s3 bv g1 g2 g3 g4 g5 g6 => hret ρ3 σ3 ty3 H3 s3 bv (vExt_tr e1 g1) (fun a c z => g2 a c (e2 a c z)) g3 (Nat.le_trans e4 g4) g5 g6)
          (fun pc3 c3 hc3 ρ3 σ3 ty3 H3 s3 L3 S3 cn3 sn3 g1 g2 g3 g4 g5 g6 => hcut pc3 c3 hc3 ρ3 σ3 ty3 H3 s3 L3 S3 cn3 sn3 (vExt_tr e1 g1) (fun a c z => g2 a c (e2 a c z)) g3 (Nat.le_trans e4 g4) g5 g6)
        obtain ⟨r1, r2⟩ := vFr_spec e1 hk3.2
        rw [r1] at h1
        refine ⟨v, H2, ?_, h2⟩
        rcases av with _ | av
        · show x_To tb tyl ot (dp2 + 1) k (pc + 3) (cvL ρ σ L) (r.map (cv ρ σ)) H1 (cn + mMc q2) (sn + mMs q2) v H2
          rw [← r2]
          exact h1
        · show x_To tb tyl ot (dp2 + 1) k (pc + 3) (cvL ρ σ L) (cv ρ2 σ2 av :: r.map (cv ρ σ)) H1 (cn + mMc q2) (sn + mMs q2) v H2
          rw [← r2]
          exact h1
      obtain ⟨u, H1, h1, v, H2, h2, h3⟩ := ih0 true hl h hk2.2 hp (fun pc3 c3 hc3 => by cases hc3)
      simp only [Bool.and_eq_true] at hk3
      obtain ⟨⟨⟨⟨⟨⟨k1, k2⟩, k4⟩, k5⟩, k6⟩, k7⟩, k8⟩ := hk3
      refine ⟨v, H2, xT_invokespecial hq hc (a := σ a) (u := u) (H1 := H1) (r := r.map (cv ρ σ)) hn hy hm (by rw [← List.map_drop, hd]; rfl) ?_ ?_ h2, h3⟩
      · rw [List.length_map, List.length_map, k1, k2, k4, k5, k6, k7]
        rfl
      · have e : cvL ρ σ (x_en 0 (.inr (some a) :: (S.take (mNp q2)).reverse)) = x_en 0 (.inr (some (σ a)) :: ((S.map (cv ρ σ)).take (mNp q2)).reverse) := by
          rw [← cv_en, List.map_cons, List.map_reverse, List.map_take]
          rfl
        rw [← e]
        exact h1
  case invokestatic ix =>
    try dsimp only at hk
    rcases hy : tCal tb (mO q) ix with _ | ⟨j, so⟩
    · rw [hy] at hk
      cases hk
    rw [hy] at hk
    try dsimp only at hk
    rcases dp with _ | dp2
    · cases hk
    try dsimp only at hk
    rcases hm : tMth tb j with _ | q2
    · rw [hm] at hk
      cases hk
    rw [hm] at hk
    have hk2 := Bool.and_eq_true_iff.mp hk
    have hk3 := Bool.and_eq_true_iff.mp hk2.1
    have hp : vRetOk KT ty H.length s ρ σ (fun s2 v => vChk KT tb tyl f false (dp2 + 1) k (pc + 3) L (x_push v (S.drop (mNp q2))) s2 (cn + mMc q2) (sn + mMs q2) cu ret) (fun u H1 => ∃ v H2, x_To tb tyl ot (dp2 + 1) k (pc + 3) (cvL ρ σ L) (x_push u ((S.drop (mNp q2)).map (cv ρ σ))) H1 (cn + mMc q2) (sn + mMs q2) v H2 ∧ Post v H2) := by
      intro ρ2 σ2 ty2 H1 s2 av e1 e2 e3 e4 e5 e6
      obtain ⟨v, H2, h1, h2⟩ := ih e5 e3 e6 (fun ρ3 σ3 ty3 H3 s3 bv g1 g2 g3 g4 g5 g6 => hret ρ3 σ3 ty3 H3 s3 bv (vExt_tr e1 g1) (fun a c z => g2 a c (e2 a c z)) g3 (Nat.le_trans e4 g4) g5 g6)
        (fun pc3 c3 hc3 ρ3 σ3 ty3 H3 s3 L3 S3 cn3 sn3 g1 g2 g3 g4 g5 g6 => hcut pc3 c3 hc3 ρ3 σ3 ty3 H3 s3 L3 S3 cn3 sn3 (vExt_tr e1 g1) (fun a c z => g2 a c (e2 a c z)) g3 (Nat.le_trans e4 g4) g5 g6)
      obtain ⟨r1, r2⟩ := vFr_spec e1 hk3.2
      rw [r1] at h1
      refine ⟨v, H2, ?_, h2⟩
      rcases av with _ | av
      · show x_To tb tyl ot (dp2 + 1) k (pc + 3) (cvL ρ σ L) ((S.drop (mNp q2)).map (cv ρ σ)) H1 (cn + mMc q2) (sn + mMs q2) v H2
        rw [← r2]
        exact h1
      · show x_To tb tyl ot (dp2 + 1) k (pc + 3) (cvL ρ σ L) (cv ρ2 σ2 av :: (S.drop (mNp q2)).map (cv ρ σ)) H1 (cn + mMc q2) (sn + mMs q2) v H2
        rw [← r2]
        exact h1
    obtain ⟨u, H1, h1, v, H2, h2, h3⟩ := ih0 true hl h hk2.2 hp (fun pc3 c3 hc3 => by cases hc3)
    refine ⟨v, H2, xT_invokestatic hq hc (u := u) (H1 := H1) (r := []) hy hm ?_ ?_ ?_, h3⟩
    · rw [← List.map_drop, List.length_map, List.length_map]
      exact hk3.1
    · rw [← List.map_take, ← List.map_reverse, cv_en]
      exact h1
    · rw [← List.map_drop]
      exact h2
  case invokevirtual ix =>
    try dsimp only at hk
    rcases hy : tCal tb (mO q) ix with _ | ⟨j, so⟩
    · rw [hy] at hk
      cases hk
    rw [hy] at hk
    try dsimp only at hk
    rcases dp with _ | dp2
    · cases hk
    try dsimp only at hk
    rcases hm : tMth tb j with _ | q2
    · rw [hm] at hk
      cases hk
    rw [hm] at hk
    try dsimp only at hk
    rcases hd : S.drop (mNp q2) with _ | ⟨z | (_ | a), r⟩
    · rw [hd] at hk
      cases hk
    · rw [hd] at hk
      cases hk
    · rw [hd] at hk
      cases hk
    rw [hd] at hk
    have hk2 := Bool.and_eq_true_iff.mp hk
    have hk3 := Bool.and_eq_true_iff.mp hk2.1
    have hp : vRetOk KT ty H.length s ρ σ (fun s2 v => vChk KT tb tyl f false (dp2 + 1) k (pc + 3) L (x_push v r) s2 (cn + mMc q2) (sn + mMs q2) cu ret) (fun u H1 => ∃ v H2, x_To tb tyl ot (dp2 + 1) k (pc + 3) (cvL ρ σ L) (x_push u (r.map (cv ρ σ))) H1 (cn + mMc q2) (sn + mMs q2) v H2 ∧ Post v H2) := by
      intro ρ2 σ2 ty2 H1 s2 av e1 e2 e3 e4 e5 e6
      obtain ⟨v, H2, h1, h2⟩ := ih e5 e3 e6 (fun ρ3 σ3 ty3 H3 s3 bv g1 g2 g3 g4 g5 g6 => hret ρ3 σ3 ty3 H3 s3 bv (vExt_tr e1 g1) (fun a c z => g2 a c (e2 a c z)) g3 (Nat.le_trans e4 g4) g5 g6)
        (fun pc3 c3 hc3 ρ3 σ3 ty3 H3 s3 L3 S3 cn3 sn3 g1 g2 g3 g4 g5 g6 => hcut pc3 c3 hc3 ρ3 σ3 ty3 H3 s3 L3 S3 cn3 sn3 (vExt_tr e1 g1) (fun a c z => g2 a c (e2 a c z)) g3 (Nat.le_trans e4 g4) g5 g6)
      obtain ⟨r1, r2⟩ := vFr_spec e1 hk3.2
      rw [r1] at h1
      refine ⟨v, H2, ?_, h2⟩
      rcases av with _ | av
      · show x_To tb tyl ot (dp2 + 1) k (pc + 3) (cvL ρ σ L) (r.map (cv ρ σ)) H1 (cn + mMc q2) (sn + mMs q2) v H2
        rw [← r2]
        exact h1
      · show x_To tb tyl ot (dp2 + 1) k (pc + 3) (cvL ρ σ L) (cv ρ2 σ2 av :: r.map (cv ρ σ)) H1 (cn + mMc q2) (sn + mMs q2) v H2
        rw [← r2]
        exact h1
    obtain ⟨u, H1, h1, v, H2, h2, h3⟩ := ih0 true hl h hk2.2 hp (fun pc3 c3 hc3 => by cases hc3)
    simp only [Bool.and_eq_true] at hk3
    obtain ⟨⟨⟨⟨⟨⟨⟨k1, k2⟩, k3⟩, k4⟩, k5⟩, k6⟩, k7⟩, k8⟩ := hk3
    refine ⟨v, H2, xT_invokevirtual hq hc (a := σ a) (u := u) (H1 := H1) (r := r.map (cv ρ σ)) hy hm (by rw [← List.map_drop, hd]; rfl) ?_ ?_ h2, h3⟩
    · rw [List.length_map, List.length_map, k1, k2, k4, k5, k6, k7, decide_eq_true (vCls_spec (ot := ot) h hl k3)]
      rfl
    · have e : cvL ρ σ (x_en 0 (.inr (some a) :: (S.take (mNp q2)).reverse)) = x_en 0 (.inr (some (σ a)) :: ((S.map (cv ρ σ)).take (mNp q2)).reverse) := by
        rw [← cv_en, List.map_cons, List.map_reverse, List.map_take]
        rfl
      rw [← e]
      exact h1
  all_goals (cases hk; done)
end XChk
