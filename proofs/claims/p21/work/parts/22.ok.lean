/-! What the evaluator's heap is in the machine's, and what the tables must say. -/
noncomputable section XOkDefs
variable {E K : Type}
def x_am (base : Nat) (sa : Nat → Nat) (k : Nat) : Nat := if k < 1000000 then base + k else sa k
def x_rv (d : XD E K) (am : Nat → Nat) : XV E → Value
  | .inl e => .int (dEv d e)
  | .inr none => .null
  | .inr (some k) => .ref (am k)
theorem x_rvc (d : XD E K) (am : Nat → Nat) (v : XV E) : (x_rv d am v).category = 1 := by
  rcases v with e | (_ | k) <;> rfl
def x_at (D : va_G) (tc : Nat → ClassId) (cl : List vw_C) (rv : XV E → Value) (a : Nat) (z : XC E) (H : Heap) : Prop := match z with
  | .inl o => ∃ r : vw_C, cl[o.1]? = some r ∧ o.2.length = r.2.2 ∧ t_OB a (D.1 o.1) r.2.2 (D.2 o.1) H (vp_V (o.2.map rv))
  | .inr o => H[a]? = some (arrV (tc o.1) o.2.length (fun j => rv (o.2.getD j (.inr none))))
theorem x_at_kept {D : va_G} {tc : Nat → ClassId} {cl : List vw_C} {rv : XV E → Value} {a : Nat} {z : XC E} {H H1 : Heap} (h : x_at D tc cl rv a z H) (hq : H1[a]? = H[a]?) : x_at D tc cl rv a z H1 := by
  rcases z with o | o
  · obtain ⟨r, h1, h2, h3⟩ := h
    exact ⟨r, h1, h2, h3.kept hq⟩
  · show H1[a]? = _
    rw [hq]
    exact h
def x_Inv (D : va_G) (tc : Nat → ClassId) (cl : List vw_C) (rv : XV E → Value) (base : Nat) (h : List (XC E)) (H : Heap) : Prop :=
  H.size = base + h.length ∧ h.length ≤ 1000000 ∧ ∀ (k : Nat) (z : XC E), h[k]? = some z → x_at D tc cl rv (base + k) z H
def x_TbOk (TS TN : List Jvm.Cond) (cl : List vw_C) (tyl : List FieldType) (tb : XT) : Prop :=
  (∀ k q, tMth tb k = some q → plainFor (mY q) = true ∧ (k ≠ 0 → Jvm.Cond.code (mY q) (mB q) (mL q) (mR q) ∈ TS) ∧ (k ≠ 0 → Jvm.Cond.initialized (mY q).cls ∈ TS) ∧ ((mY q).cls ≠ "java/lang/invoke/MethodHandle" ∧ (mY q).cls ≠ "java/lang/invoke/VarHandle") ∧ mL q ≤ 40 ∧ tNm tb (mO q) = (mY q).cls ∧
    (parseMethodDescriptor (mY q).desc).map (fun d => d.parameters.length) = some (mNp q) ∧ (mI q = true → (mY q).name = "<init>") ∧ (mI q = true → ∀ r, cl[mRc q]? = some r → r.1 = (mY q).cls) ∧ (∀ pc i n, mC q pc = some (i, n) → decode (mB q) pc = .ok (i, n) ∧ x_lenOk i n = true)) ∧
  (∀ o ix ci j, tFld tb o ix = some (ci, j) → ∃ r, cl[ci]? = some r ∧ j < r.2.2 ∧ Jvm.Cond.fieldLink (tNm tb o) ix (r.2.1 j).1 (r.2.1 j).2.1 (r.2.1 j).2.2.1 ∈ TS) ∧
  (∀ ci r, cl[ci]? = some r → (∀ w ∈ u_ws r.1 r.2.1 r.2.2, w ∈ TS) ∧ (tFt tb ci).length = r.2.2 ∧ (∀ j t, (tFt tb ci)[j]? = some t → parseFieldDescriptor (r.2.1 j).2.2.1 = some t.1 ∧ (r.2.1 j).2.2.2 = t.2) ∧ (∀ a, a < r.2.2 → ∀ b, b < r.2.2 → a ≠ b → (r.2.1 a).2.1 ≠ (r.2.1 b).2.1) ∧
    Jvm.Cond.instantiable r.1 r.2.2 ∈ TS ∧ Jvm.Cond.initialized r.1 ∈ TS ∧ (∀ j, j < r.2.2 → (r.2.1 j).1 = r.1) ∧ tNm tb ci = r.1) ∧
  (∀ o ix ci, tNw tb o ix = some ci → ∃ r, cl[ci]? = some r ∧ Jvm.Cond.classLink (tNm tb o) ix r.1 ∈ TS) ∧
  (∀ o ix j so q, tCal tb o ix = some (j, so) → tMth tb j = some q → j ≠ 0 ∧
    (so = 0 → Jvm.Cond.methodLink (tNm tb o) ix (mY q) ∈ TS ∧ Jvm.Cond.instanceMethod (mY q) ∈ TS ∧ Jvm.Cond.selects (mY q).cls (mY q) (mY q) ∈ TS ∧ ∀ r, cl[mRc q]? = some r → r.1 = (mY q).cls) ∧
    (so = 1 → Jvm.Cond.methodLink (tNm tb o) ix (mY q) ∈ TS ∧ Jvm.Cond.instanceMethod (mY q) ∈ TS ∧ (mY q).name = "<init>" ∧ mR q = none) ∧
    (so = 2 → Jvm.Cond.methodLink (tNm tb o) ix (mY q) ∈ TS ∧ Jvm.Cond.static (mY q) ∈ TS) ∧
    (so = 3 → (∃ host, Jvm.Cond.methodLinkNest (tNm tb o) ix (mY q) host ∈ TN) ∧ Jvm.Cond.static (mY q) ∈ TS) ∧ so ≤ 3) ∧
  (Jvm.Cond.arrayClass .int ∈ TS ∧ Jvm.Cond.arrayClass .boolean ∈ TS ∧ tyl[0]? = some .int ∧ tyl[1]? = some .boolean) ∧
  (∀ o ix t, tAn tb o ix = some t → ∃ C, tyl[t]? = some (.object C) ∧ Jvm.Cond.classLink (tNm tb o) ix C ∈ TS ∧ Jvm.Cond.arrayOver (.object C) ∈ TN) ∧
  (∀ o ix t2 t1, tMn tb o ix = some (t2, t1) → ∃ ty, tyl[t1]? = some ty ∧ (ty = .int ∨ ty = .boolean) ∧ tyl[t2]? = some (.array ty) ∧ Jvm.Cond.classLink (tNm tb o) ix ("[" ++ (FieldType.array ty).toString) ∈ TS ∧ Jvm.Cond.arrayOver (.array ty) ∈ TN ∧ Jvm.Cond.arrayClass ty ∈ TS) ∧
  ((∀ o ix, tBi tb o ix = some 0 → Jvm.Cond.methodLink (tNm tb o) ix Lib.objectInit ∈ TS) ∧ (∀ o ix, tBi tb o ix = some 1 → Jvm.Cond.methodLink (tNm tb o) ix arraycopyName ∈ TS) ∧ Jvm.Cond.instanceMethod Lib.objectInit ∈ TS ∧ Jvm.Cond.code Lib.objectInit ⟨#[0xb1]⟩ 1 none ∈ TS ∧
    Jvm.Cond.native arraycopyName ∈ TS ∧ Jvm.Cond.static arraycopyName ∈ TS ∧ Jvm.Cond.initialized "java/lang/System" ∈ TS ∧
    (∀ o ix, tBi tb o ix = some 2 → Jvm.Cond.methodLink (tNm tb o) ix Lib.Math.max.name ∈ TS ∧ Jvm.Cond.static Lib.Math.max.name ∈ TS ∧ Jvm.Cond.initialized "java/lang/Math" ∈ TS ∧ Jvm.Cond.code Lib.Math.max.name Lib.Math.max.code 2 (some .int) ∈ TS) ∧
    (∀ o ix, tBi tb o ix = some 3 → Jvm.Cond.methodLink (tNm tb o) ix Lib.Math.min.name ∈ TS ∧ Jvm.Cond.static Lib.Math.min.name ∈ TS ∧ Jvm.Cond.initialized "java/lang/Math" ∈ TS ∧ Jvm.Cond.code Lib.Math.min.name Lib.Math.min.code 2 (some .int) ∈ TS) ∧
    (∀ o ix, tBi tb o ix = some 4 → Jvm.Cond.methodLink (tNm tb o) ix Lib.Math.abs.name ∈ TS ∧ Jvm.Cond.static Lib.Math.abs.name ∈ TS ∧ Jvm.Cond.initialized "java/lang/Math" ∈ TS ∧ Jvm.Cond.code Lib.Math.abs.name Lib.Math.abs.code 1 (some .int) ∈ TS)) ∧
  (∀ o ix v, tLi tb o ix = some v → Jvm.Cond.constant (tNm tb o) ix v ∈ TS) ∧
  (∀ w ∈ TS, ((w.onTables && w.keeps) = true ∨ ∃ ty, w = .arrayClass ty)) ∧
  (∀ w ∈ TN, ∀ u U : State, u.WarmedH U.vm → w.before #[] u = true → w.before #[] U = true) ∧ (∀ w ∈ TN, ∀ (a a' : Array Value) (U : State), w.before a U = true → w.before a' U = true) ∧
  (∀ ci, ∀ t ∈ tFt tb ci, t.1 = .int ∨ t.1 = .boolean ∨ x_isRef t.1 = true)
/-- what holds at a method's entry beside its own words -/
def x_Env (TN : List Jvm.Cond) (D : va_G) (cl : List vw_C) (tys : List (ClassId × FieldType)) (XE : State → Heap → Prop) (U : State) (H : Heap) : Prop :=
  va_K D cl tys U ∧ (∀ w ∈ TN, w.before #[] U = true) ∧ XE U H
def x_XeOk (XE : State → Heap → Prop) (base : Nat) : Prop := ∀ (u U : State) (H H1 : Heap), u.WarmedH U.vm → (∀ q : Nat, q < base → H1[q]? = H[q]?) → base ≤ H.size → XE u H → XE U H1
def x_rov (sa : Nat → Nat) : Int32 ⊕ Option Nat → Value
  | .inl v => .int v
  | .inr none => .null
  | .inr (some a) => .ref (sa a)
/-- what lies outside is there -/
def x_OutOk (TS : List Jvm.Cond) (tb : XT) (ot : XO E) (d : XD E K) (XE : State → Heap → Prop) (base : Nat) (sa : Nat → Nat) : Prop :=
  (∀ o ix a, oSl ot o ix = some a → 1000000 < a ∧ ∀ U H, XE U H → ∃ tx, vk_R (tNm tb o) ix tx (sa a) U) ∧
  (∀ a o ix v, oFl ot a o ix = some v → (∀ b, v = .inr (some b) → 1000000 ≤ b) ∧ ∃ C n dd, Jvm.Cond.fieldLink (tNm tb o) ix C n dd ∈ TS ∧ ∀ U H, XE U H → va_OF C n dd (x_rov sa v) (sa a) (fun q => base ≤ q) U H) ∧
  (∀ o ix v, oGs ot o ix = some v → (∀ b, v = .inr (some b) → 1000000 ≤ b) ∧ ∃ C n dd, Jvm.Cond.fieldLink (tNm tb o) ix C n dd ∈ TS ∧ ∀ U H, XE U H → va_Z C n dd (x_rov sa v) (fun q => base ≤ q) U H) ∧
  (∀ a bs, oBy ot a = some bs → ∀ U H, XE U H → va_T .byte (sa a) bs.length (fun j => .int (bs.getD j 0)) (fun q => base ≤ q) U H) ∧
  (∀ U H, XE U H → va_X (sa 1000000) (oSn ot) (fun j => dEv d (oSc ot j)) U H ∧ sa 1000000 < base) ∧
  (∀ a rc q k, oCl ot a = some rc → tMth tb k = some q → mRc q = rc → ∀ U H, XE U H → va_O (mY q).cls (sa a) (fun q => base ≤ q) U H)
theorem x_ov_spec {d : XD E K} (hd : ∀ n, dEv d (dKc d n) = n) {base : Nat} {sa : Nat → Nat} {v : Int32 ⊕ Option Nat} (h : ∀ b, v = .inr (some b) → 1000000 ≤ b) : x_rv d (x_am base sa) (x_ov d v) = x_rov sa v := by
  rcases v with v | (_ | b)
  · exact congrArg Value.int (hd v)
  · rfl
  · have h1 := h b rfl
    show Value.ref (x_am base sa b) = Value.ref (sa b)
    unfold x_am
    rw [if_neg (by omega)]
/-- the frame of a method -/
def x_Cx (TS TN : List Jvm.Cond) (D : va_G) (cl : List vw_C) (tys : List (ClassId × FieldType)) (XE : State → Heap → Prop) (tb : XT) (q : XM) (p : Program) (R : Room) (s : State) (m : MethodId) (args : Array Value) (meth : Method) (c : Code) (base dp : Nat) : Prop :=
  p.tables.exec = Jvm.exec ∧ c.code = mB q ∧ c.maxLocals = mL q ∧ s.vm.findClass (tNm tb (mO q)) = some m.cls ∧ (∀ w ∈ TS, w.before args s = true) ∧ meth.sig.returnType = mR q ∧ meth.locks = false ∧ (mI q = true → meth.name = "<init>") ∧ x_Env TN D cl tys XE s s.heap ∧ base ≤ s.heap.size ∧
  dp + 1 ≤ R.frames ∧ 64 * (dp + 1) ≤ R.locals ∧ mMc q ≤ R.cells ∧ mMs q ≤ R.slots
/-- a method's answer -/
def x_Q (d : XD E K) (D : va_G) (tc : Nat → ClassId) (cl : List vw_C) (am : Nat → Nat) (base : Nat) (post : List K → Option (XV E) → List (XC E) → XR K) : Array Value → State → Outcome → State → Prop := fun _ st o t =>
  (∃ (w : List K) (v : Option (XV E)) (h : List (XC E)), XPa (dHd d) w ∧ XOk (dHd d) (post w v h) ∧ o = .returned (v.map (x_rv d am)) ∧ x_Inv D tc cl (x_rv d am) base h t.heap) ∧ va_F (fun q => base ≤ q) st t
theorem x_bad {hd : K → Prop} {w : List K} (h : XOk hd [w]) (hw : XPa hd w) : False := by
  obtain ⟨k, hk, hn⟩ := h w (List.mem_singleton.mpr rfl)
  exact hn (hw k hk)
theorem x_if {hd : K → Prop} {w : List K} {b : Prop} {i : Decidable b} {r : XR K} (h : XOk hd (@ite _ b i r [w])) (hw : XPa hd w) : b ∧ XOk hd r := by
  by_cases hb : b
  · rw [if_pos hb] at h
    exact ⟨hb, h⟩
  · rw [if_neg hb] at h
    exact (x_bad h hw).elim
theorem x_jp_spec {pc t : Nat} {off : Int} (h : x_jp pc off = some t) : (pc : Int) + off = (t : Int) := by
  unfold x_jp at h
  by_cases hz : 0 ≤ (pc : Int) + off
  · rw [if_pos hz] at h
    cases h
    omega
  · rw [if_neg hz] at h
    cases h
theorem x_len1 {i : Instr} {n m : Nat} (h : x_lenOk i n = true) (hm : x_lenOk i n = (n == m)) : n = m := by
  rw [hm] at h
  simpa using h
theorem x_lk_spec {d : XD E K} {am : Nat → Nat} {ls : Array Slot} {nL : Nat} {L : List (Nat × XV E)} {i : Nat} {v : XV E} (hl : lv_has ls nL (L.map (fun q => (q.1, x_rv d am q.2)))) (h : x_lk L i = some v) : ls[i]? = some (.val (x_rv d am v)) := by
  simp only [x_lk_eq] at h
  obtain ⟨q, hq, rfl⟩ := Option.map_eq_some_iff.mp h
  have h1 := List.mem_of_find?_eq_some hq
  have h2 := List.find?_some hq
  simp only [beq_iff_eq] at h2
  subst h2
  exact hl.2.2 (q.1, x_rv d am q.2) (List.mem_map.mpr ⟨q, h1, rfl⟩)
theorem x_st_spec (d : XD E K) (am : Nat → Nat) (L : List (Nat × XV E)) (i : Nat) (v : XV E) : (i, x_rv d am v) :: (L.map (fun q => (q.1, x_rv d am q.2))).filter (fun q => !(q.1 == i) && !(q.1 + 1 == i && q.2.category == 2)) = (x_st L i v).map (fun q => (q.1, x_rv d am q.2)) := by
  rw [x_st_eq]
  rw [List.map_cons, List.filter_map]
  refine congrArg _ (congrArg _ (List.filter_congr fun q _ => ?_))
  have hc : ((x_rv d am q.2).category == 2) = false := by rw [x_rvc]; rfl
  simp [hc]
theorem x_en_spec (d : XD E K) (am : Nat → Nat) : ∀ (vs : List (XV E)) (i : Nat), lv_args i (vs.map (x_rv d am)) = (x_en i vs).map (fun q => (q.1, x_rv d am q.2))
  | [], _ => rfl
  | v :: vs, i => by
    show (i, x_rv d am v) :: lv_args (if (x_rv d am v).category = 2 then i + 2 else i + 1) (vs.map (x_rv d am)) = (i, x_rv d am v) :: _
    rw [x_rvc, if_neg (by decide), x_en_spec d am vs (i + 1)]
theorem x_sl (d : XD E K) (am : Nat → Nat) : ∀ vs : List (XV E), (lg_sl (vs.map (x_rv d am))).length = vs.length
  | [] => rfl
  | v :: vs => by
    have ih := x_sl d am vs
    unfold lg_sl at ih ⊢
    rw [List.map_cons, List.flatMap_cons, x_rvc, if_neg (by decide), List.length_append, ih]
    simp [Nat.add_comm]
theorem x_cats (d : XD E K) (am : Nat → Nat) : ∀ S : List (XV E), ((S.map (x_rv d am)).map fun v => v.category).sum = S.length
  | [] => rfl
  | v :: S => by
    rw [List.map_cons, List.map_cons, List.sum_cons, x_rvc, x_cats d am S, List.length_cons, Nat.add_comm]
/-- an index that is known, or told apart -/
theorem x_clamp (j : Nat) (h : j < 2000) : (nI j).toNatClampNeg = j ∧ ¬ nI j < 0 := ⟨nI_clamp (by omega), nI_pos (by omega)⟩
theorem x_ixs_spec {d : XD E K} (hd : x_DmOk d) {a : E} {kk : Nat → List K → XR K} : ∀ (n : Nat) (w : List K), n ≤ 2000 → XOk (dHd d) (x_ixs d a kk n w) → XPa (dHd d) w → ∃ w2, XPa (dHd d) w2 ∧ (dEv d a).toNatClampNeg < n ∧ ¬ dEv d a < 0 ∧ XOk (dHd d) (kk (dEv d a).toNatClampNeg w2)
  | 0, w, _, h, hw => (x_bad h hw).elim
  | n + 1, w, hn, h, hw => by
    obtain ⟨w2, h2, h3⟩ := hd.2.2.2.2 0 a (dKc d (nI n)) w _ _ h hw
    rw [hd.1] at h3
    rcases h3 with ⟨e, h3⟩ | ⟨-, h3⟩
    · have e2 : dEv d a = nI n := of_decide_eq_true e
      obtain ⟨c1, c2⟩ := x_clamp n (by omega)
      rw [e2, c1]
      exact ⟨w2, h2, Nat.lt_succ_self n, c2, h3⟩
    · obtain ⟨w3, g1, g2, g3, g4⟩ := x_ixs_spec hd n w2 (by omega) h3 h2
      exact ⟨w3, g1, by omega, g3, g4⟩
theorem x_ix_spec {d : XD E K} (hd : x_DmOk d) {a : E} {kk : Nat → List K → XR K} {n : Nat} {w : List K} (h : XOk (dHd d) (x_ix d a n w kk)) (hw : XPa (dHd d) w) : ∃ w2, XPa (dHd d) w2 ∧ (dEv d a).toNatClampNeg < n ∧ ¬ dEv d a < 0 ∧ XOk (dHd d) (kk (dEv d a).toNatClampNeg w2) := by
  unfold x_ix at h
  split at h
  · rename_i v hv
    have e := hd.2.2.2.1 a v hv
    rw [e]
    by_cases hb : (decide (v < 0) || decide (n ≤ v.toNatClampNeg)) = true
    · rw [if_pos hb] at h
      exact (x_bad h hw).elim
    · rw [if_neg hb] at h
      simp only [Bool.or_eq_true, decide_eq_true_eq, not_or] at hb
      exact ⟨w, hw, by omega, hb.1, h⟩
  · obtain ⟨hb, h⟩ := x_if h hw
    exact x_ixs_spec hd n w (by omega) h hw
/-- a switch's pairs: where it goes -/
theorem x_sw_spec {d : XD E K} (hd : x_DmOk d) {a : E} {dflt : Int} {kk : Int → List K → XR K} : ∀ (ps : List (Int × Int)) (w : List K), XOk (dHd d) (x_sw d a dflt kk ps w) → XPa (dHd d) w → ∃ w2, XPa (dHd d) w2 ∧ XOk (dHd d) (kk (Op.lookupswitch.offset ps dflt (dEv d a).toInt) w2)
  | [], w, h, hw => ⟨w, hw, h⟩
  | (k, o) :: r, w, h, hw => by
    obtain ⟨hk, h⟩ := x_if h hw
    obtain ⟨w2, h2, h3⟩ := hd.2.2.2.2 0 a (dKc d (Int32.ofInt k)) w _ _ h hw
    rw [hd.1] at h3
    rcases h3 with ⟨e, h3⟩ | ⟨e, h3⟩
    · have e2 : dEv d a = Int32.ofInt k := of_decide_eq_true e
      have e3 : Op.lookupswitch.offset ((k, o) :: r) dflt (dEv d a).toInt = o := by
        rw [e2, hk]
        simp [Op.lookupswitch.offset]
      rw [e3]
      exact ⟨w2, h2, h3⟩
    · have e2 : ¬ dEv d a = Int32.ofInt k := of_decide_eq_false e
      rw [lv_osw e2 hk]
      exact x_sw_spec hd r w2 h3 h2
theorem x_tp_out (dflt : Int) : ∀ (os : List Int) (lo x : Int), (x < lo ∨ lo + os.length ≤ x) → Op.lookupswitch.offset (x_tp lo os) dflt x = dflt
  | [], _, _, _ => rfl
  | o :: r, lo, x, h => by
    have ih := x_tp_out dflt r (lo + 1) x (by simp only [List.length_cons] at h; omega)
    have hne : ¬ x = lo := by simp only [List.length_cons] at h; omega
    have hne2 : ¬ lo = x := fun q => hne q.symm
    simp only [x_tp, Op.lookupswitch.offset] at ih ⊢
    first | (rw [if_neg hne]; exact ih) | (rw [if_neg hne2]; exact ih) | simp_all
theorem x_tp_in (dflt : Int) : ∀ (os : List Int) (lo x : Int), lo ≤ x → x < lo + os.length → os[(x - lo).toNat]? = some (Op.lookupswitch.offset (x_tp lo os) dflt x)
  | [], lo, x, h1, h2 => by simp only [List.length_nil] at h2; omega
  | o :: r, lo, x, h1, h2 => by
    by_cases he : x = lo
    · subst he
      simp [x_tp, Op.lookupswitch.offset]
    · have ih := x_tp_in dflt r (lo + 1) x (by omega) (by simp only [List.length_cons] at h2; omega)
      have e1 : (x - lo).toNat = (x - (lo + 1)).toNat + 1 := by omega
      have he2 : ¬ lo = x := fun q => he q.symm
      rw [e1, List.getElem?_cons_succ, ih]
      simp only [x_tp, Op.lookupswitch.offset]
      first | rw [if_neg he] | rw [if_neg he2] | simp_all
end XOkDefs
