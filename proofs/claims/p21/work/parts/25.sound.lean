/-! THE EVALUATOR IS RIGHT: where it finds no way left, the machine goes as it says. -/
noncomputable section XSound
variable {E K : Type}
theorem x_amh {D : va_G} {tc : Nat → ClassId} {cl : List vw_C} {rv : XV E → Value} {base a : Nat} {sa : Nat → Nat} {h : List (XC E)} {z : XC E} {H : Heap} (hI : x_Inv D tc cl rv base h H) (ha : h[a]? = some z) : x_am base sa a = base + a := by
  have h1 := (List.getElem?_eq_some_iff.mp ha).1
  have h2 := hI.2.1
  unfold x_am
  rw [if_pos (by omega)]
theorem x_amo {base a : Nat} {sa : Nat → Nat} (h : 1000000 ≤ a) : x_am base sa a = sa a := if_neg (by omega)
theorem x_aml {base a : Nat} {sa : Nat → Nat} (h : a < 1000000) : x_am base sa a = base + a := if_pos h
noncomputable section XCallK
variable {p : Program} {l : Launch} {e : Env} {R : Room} {s : State} {m : MethodId} {args : Array Value} {below : List Frame} {meth : Method} {c : Code} {H : Heap} {locs : List Loc} {cells slots : Nat} {Q : State → Prop}
theorem x_callk {d : XD E K} {D : va_G} {tc : Nat → ClassId} {cl : List vw_C} {am : Nat → Nat} {base pc mc ms : Nat} {ls : Array Slot} {st0 rest : List Value} {post : List K → Option (XV E) → List (XC E) → XR K} {a : Array Value}
    (hr : va_Run p l e R s m args below meth c H locs cells slots mc ms (F0 m pc ls st0) rest (x_Q d D tc cl am base post a) (fun q => base ≤ q)) (hS : va_S (fun q => base ≤ q) s.heap H locs)
    (kk : ∀ (w : List K) (v : Option (XV E)) (h : List (XC E)) (H1 : Heap) (locs1 : List Loc), XPa (dHd d) w → XOk (dHd d) (post w v h) → x_Inv D tc cl (x_rv d am) base h H1 → va_S (fun q => base ≤ q) s.heap H1 locs1 → W p l e R s m args below meth c H1 locs1 (cells + mc) (slots + ms) Q (F0 m (pc + 3) ls ((v.map (x_rv d am)).toList ++ rest))) :
    W p l e R s m args below meth c H locs cells slots Q (F0 m pc ls st0) := by
  intro T hT X
  obtain ⟨v, st₀, t, T', L, h0, X', hL, e1, e2, ⟨⟨w, v2, h, hw, hp, hv, hI⟩, hz, hk⟩, st⟩ := hr T hT X
  cases hv
  rw [h0] at hz hk
  rw [← e1] at hI hz hk
  obtain ⟨t2, a1, b1⟩ := kk w v2 h T'.heap (locs ++ L) hw hp hI ⟨Nat.le_trans hS.1 hz, fun q h1 h2 => by rw [hk q (Nat.lt_of_lt_of_le h1 hS.1) h2]; exact hS.2.1 q h1 h2, fun q hq => by
      rcases List.mem_append.mp hq with g | g
      · exact hS.2.2 q g
      · exact hL q g⟩ T' rfl X'
  exact ⟨t2, st t2 a1, b1⟩
end XCallK
theorem x_fit_spec {d : XD E K} (hd : x_DmOk d) {am : Nat → Nat} {ty : FieldType} {v : XV E} (h : x_fit d ty v = true) : narrow ty (x_rv d am v) = x_rv d am v ∧ fits ty (x_rv d am v) = true := by
  cases ty <;> rcases v with a | (_ | k) <;> try (simp [x_fit] at h; done)
  all_goals try exact ⟨rfl, rfl⟩
  simp only [x_fit] at h
  split at h
  · rename_i n hn
    have e := hd.2.2.2.1 a n hn
    show narrow .boolean (.int (dEv d a)) = .int (dEv d a) ∧ fits .boolean (.int (dEv d a)) = true
    rw [e]
    simp only [Bool.or_eq_true, decide_eq_true_eq] at h
    rcases h with rfl | rfl <;> exact ⟨rfl, rfl⟩
  · cases h
theorem x_ret_spec {d : XD E K} (hd : x_DmOk d) {rt : Option FieldType} {a : E} (h : x_retOk d rt (.inl a) = true) : ∃ ty, rt = some ty ∧ narrow ty (.int (dEv d a)) = .int (dEv d a) := by
  rcases rt with _ | ty
  · simp [x_retOk] at h
  refine ⟨ty, rfl, ?_⟩
  cases ty <;> try (simp [x_retOk] at h; done)
  case int => rfl
  case boolean =>
    simp only [x_retOk] at h
    split at h
    · rename_i n hn
      rw [hd.2.2.2.1 a n hn]
      simp only [Bool.or_eq_true, decide_eq_true_eq] at h
      rcases h with rfl | rfl <;> rfl
    · cases h
  case byte =>
    simp only [x_retOk] at h
    split at h
    · rename_i n hn
      rw [hd.2.2.2.1 a n hn]
      have h2 := of_decide_eq_true h
      show Value.int n.toInt8.toInt32 = _
      rw [h2]
    · cases h
  case char =>
    simp only [x_retOk] at h
    split at h
    · rename_i n hn
      rw [hd.2.2.2.1 a n hn]
      have h2 := of_decide_eq_true h
      rw [← h2]
      exact pk_nc n
    · cases h
theorem x_retr_spec {d : XD E K} {rt : Option FieldType} {a : Option Nat} (h : x_retOk d rt (.inr a) = true) : ∃ ty, rt = some ty ∧ ((∃ n, ty = .object n) ∨ ∃ t, ty = .array t) := by
  rcases rt with _ | ty
  · simp [x_retOk] at h
  cases ty <;> first | exact ⟨_, rfl, Or.inl ⟨_, rfl⟩⟩ | exact ⟨_, rfl, Or.inr ⟨_, rfl⟩⟩ | (simp [x_retOk] at h; done)
theorem x_push_map (d : XD E K) (am : Nat → Nat) (v : Option (XV E)) (S : List (XV E)) : (v.map (x_rv d am)).toList ++ S.map (x_rv d am) = (x_push v S).map (x_rv d am) := by
  rcases v with _ | v <;> rfl
/-- what is claimed of the evaluator at a fuel -/
def x_P (l : Launch) (d : XD E K) (tb : XT) (tyl : List FieldType) (TS TN : List Jvm.Cond) (cl : List vw_C) (D : va_G) (tc : Nat → ClassId) (tys : List (ClassId × FieldType)) (XE : State → Heap → Prop) (base : Nat) (sa : Nat → Nat) (ot : XO E) (f : Nat) : Prop :=
  ∀ (dp k pc : Nat) (q : XM) (L : List (Nat × XV E)) (S : List (XV E)) (h : List (XC E)) (cn sn : Nat) (w : List K) (post : List K → Option (XV E) → List (XC E) → XR K) (p : Program) (e : Env) (R : Room) (s : State) (m : MethodId) (args : Array Value) (below : List Frame) (meth : Method) (c : Code) (H : Heap) (locs : List Loc) (ls : Array Slot),
    tMth tb k = some q → x_Cx TS TN D cl tys XE tb q p R s m args meth c base dp → XOk (dHd d) (x_run d tb tyl ot f dp k pc L S h cn sn w post) → XPa (dHd d) w → x_Inv D tc cl (x_rv d (x_am base sa)) base h H → lv_has ls (mL q) (L.map (fun z => (z.1, x_rv d (x_am base sa) z.2))) → va_S (fun q => base ≤ q) s.heap H locs →
    W p l e R s m args below meth c H locs cn sn (MQ below (x_Q d D tc cl (x_am base sa) base post) args s (mMc q) (mMs q) (fun q => base ≤ q)) (F0 m pc ls (S.map (x_rv d (x_am base sa))))
theorem x_env_moved {TN : List Jvm.Cond} {TS : List Jvm.Cond} {D : va_G} {cl : List vw_C} {tys : List (ClassId × FieldType)} {XE : State → Heap → Prop} {tyl : List FieldType} {tb : XT} {base : Nat} (hT : x_TbOk TS TN cl tyl tb) (hX : x_XeOk XE base) {u U : State} {H H1 : Heap} (hW : u.WarmedH U.vm) (hk : ∀ q : Nat, q < base → H1[q]? = H[q]?) (hb : base ≤ H.size) (h : x_Env TN D cl tys XE u H) : x_Env TN D cl tys XE U H1 :=
  ⟨va_K.moved hW.alike h.1, fun w hw => hT.2.2.2.2.2.2.2.2.2.2.2.1 w hw u U hW (h.2.1 w hw), hX u U H H1 hW hk hb h.2.2⟩
/-- a method's contract, out of the evaluator -/
theorem x_met {l : Launch} {d : XD E K} {tb : XT} {tyl : List FieldType} {TS TN : List Jvm.Cond} {cl : List vw_C} {D : va_G} {tc : Nat → ClassId} {tys : List (ClassId × FieldType)} {XE : State → Heap → Prop} {base : Nat} {sa : Nat → Nat} {ot : XO E} {f : Nat} (hT : x_TbOk TS TN cl tyl tb) (ih : x_P l d tb tyl TS TN cl D tc tys XE base sa ot f)
    {dp j : Nat} {q : XM} {As : List (XV E)} {h : List (XC E)} {w : List K} {post : List K → Option (XV E) → List (XC E) → XR K} (hq : tMth tb j = some q) (hlen : As.length ≤ mL q) (hOk : XOk (dHd d) (x_run d tb tyl ot f dp j 0 (x_en 0 As) [] h 0 0 w post)) (hw : XPa (dHd d) w) :
    Met l (mY q) (Jvm.Cond.code (mY q) (mB q) (mL q) (mR q) :: TS) ({ frames := dp + 1, cells := mMc q, slots := mMs q, locals := 64 * (dp + 1) }) (va_Pc (As.map (x_rv d (x_am base sa))) (fun U => x_Inv D tc cl (x_rv d (x_am base sa)) base h U.heap ∧ x_Env TN D cl tys XE U U.heap)) (x_Q d D tc cl (x_am base sa) base post) (mMc q) (mMs q) (fun q => base ≤ q) := by
  obtain ⟨g1, g2, g3, g4, g5, g6, g7, g8, g9, g10⟩ := hT.1 j q hq
  refine x_ofWF (cc := mB q) (maxL := mL q) (ret := mR q) g1 rfl ?_
  intro p e s m args below meth c s₁ B hml hv
  obtain ⟨rfl, hI, hE⟩ := hv
  have hts := atoms_spec (ws := Jvm.Cond.code (mY q) (mB q) (mL q) (mR q) :: TS) B.pre
  have hown : s.vm.findClass (tNm tb (mO q)) = some m.cls := by rw [g6]; exact findClass_of_methodNamed B.named
  have hl := lv_entry (As.map (x_rv d (x_am base sa))) (n := mL q) (by rw [x_sl]; exact hlen)
  rw [lg_entry_eq]
  rw [x_en_spec] at hl
  exact ih dp j 0 q (x_en 0 As) [] h 0 0 w post p e _ s m _ below meth c s.heap [] _ hq
    ⟨B.exec, B.bytes, hml, hown, fun z hz => hts z (List.mem_cons_of_mem _ hz), B.returns, B.notSynchronized, fun hi => (name_of_methodNamed B.named B.method).1.trans (g8 hi), hE, by rw [hI.1]; exact Nat.le_add_right _ _, Nat.le_refl _, Nat.le_refl _, Nat.le_refl _, Nat.le_refl _⟩ hOk hw hI hl va_S.rf
theorem x_blind {TN TS : List Jvm.Cond} {D : va_G} {tc : Nat → ClassId} {cl : List vw_C} {tys : List (ClassId × FieldType)} {XE : State → Heap → Prop} {tyl : List FieldType} {tb : XT} {base : Nat} (hT : x_TbOk TS TN cl tyl tb) (hX : x_XeOk XE base) (As : List Value) (rv : XV E → Value) (h : List (XC E)) : FrameBlind (va_Pc As (fun U => x_Inv D tc cl rv base h U.heap ∧ x_Env TN D cl tys XE U U.heap)) := by
  intro a U g mk hP
  obtain ⟨h1, h2, h3⟩ := hP
  exact ⟨h1, h2, x_env_moved hT hX (u := U) (U := U.calling g mk a) (State.WarmedH.refl U) (fun _ _ => rfl) (show base ≤ U.heap.size by rw [h2.1]; exact Nat.le_add_right _ _) h3⟩
theorem x_words {TS : List Jvm.Cond} {s : State} {args : Array Value} (hts : ∀ w ∈ TS, w.before args s = true) (hg : ∀ w ∈ TS, ((w.onTables && w.keeps) = true ∨ ∃ ty, w = .arrayClass ty)) : ∀ w ∈ TS, ∀ (a' : Array Value) (U : State), s.WarmedH U.vm → w.before a' U = true := fun w hw a' U hW => word_at hW (hg w hw) (hts w hw)

theorem x_lk_at (d : XD E K) (am : Nat → Nat) {L : List (Nat × XV E)} {j : Nat} {a : E} (h : x_lk L j = some (.inl a)) : ∃ k : Nat, (L.map (fun z => (z.1, x_rv d am z.2)))[k]? = some (j, .int (dEv d a)) := by
  simp only [x_lk_eq] at h
  obtain ⟨z, hz, hv⟩ := Option.map_eq_some_iff.mp h
  have h1 := List.mem_of_find?_eq_some hz
  have h2 := List.find?_some hz
  simp only [beq_iff_eq] at h2
  obtain ⟨k, hk⟩ := List.mem_iff_getElem?.mp h1
  refine ⟨k, ?_⟩
  rw [List.getElem?_map, hk]
  show some (z.1, x_rv d am z.2) = _
  rw [h2, hv]
  rfl
theorem x_bool {d : XD E K} (hd : x_DmOk d) {v : E} (h : x_fit d .boolean (.inl v) = true) : dEv d v = 0 ∨ dEv d v = 1 := by
  simp only [x_fit] at h
  split at h
  · rename_i n hn
    rw [hd.2.2.2.1 v n hn]
    simpa using h
  · cases h
theorem x_def_spec {d : XD E K} (hd : x_DmOk d) {am : Nat → Nat} (t : FieldType) (ht : t = .int ∨ t = .boolean ∨ x_isRef t = true) : x_rv d am (x_def d t) = defaultValue t := by
  rcases ht with rfl | rfl | ht
  · exact congrArg Value.int (hd.1 0)
  · exact congrArg Value.int (hd.1 0)
  · cases t <;> first | rfl | (simp [x_isRef] at ht; done)
theorem x_tn {TN : List Jvm.Cond} {TS : List Jvm.Cond} {D : va_G} {cl : List vw_C} {tys : List (ClassId × FieldType)} {XE : State → Heap → Prop} {tyl : List FieldType} {tb : XT} (hT : x_TbOk TS TN cl tyl tb) {s : State} {H : Heap} (hE : x_Env TN D cl tys XE s H) {w : Jvm.Cond} (hw : w ∈ TN) {args : Array Value} : w.before args s = true := hT.2.2.2.2.2.2.2.2.2.2.2.2.1 w hw _ _ _ (hE.2.1 w hw)
theorem x_ftok {TN : List Jvm.Cond} {TS : List Jvm.Cond} {cl : List vw_C} {tyl : List FieldType} {tb : XT} (hT : x_TbOk TS TN cl tyl tb) {o ix ci : Nat} (hf : tNw tb o ix = some ci) (t : FieldType × Bool) (h : t ∈ tFt tb ci) : t.1 = .int ∨ t.1 = .boolean ∨ x_isRef t.1 = true := hT.2.2.2.2.2.2.2.2.2.2.2.2.2 ci t h

theorem x_ldcwS {p : Program} {l : Launch} {e : Env} {R : Room} {s : State} {m : MethodId} {args : Array Value} {below : List Frame} {meth : Method} {c : Code} {H : Heap} {locs : List Loc} {cells slots : Nat} {Q : State → Prop} {cc : ByteArray} {pc : Nat} {ls : Array Slot} {rest : List Value} (hexec : p.tables.exec = Jvm.exec) (hb : c.code = cc) {own tx : String} {index q : Nat} (hown : s.vm.findClass own = some m.cls) (hZ : vk_R own index tx q s) (hdg : decode cc pc = .ok (.ldc_w index, 3))
    (k : W p l e R s m args below meth c H locs cells slots Q (F0 m (pc + 3) ls (.ref q :: rest))) : W p l e R s m args below meth c H locs cells slots Q (F0 m pc ls rest) := by
  intro T hT X
  obtain ⟨t, a1, b1⟩ := k T hT X
  exact ⟨t, Jvm.Stand.ldcStringW X hexec hown (text := tx) (a := q) hZ.1 hZ.2 (g := F0 m pc ls rest) rfl (by rw [hb]; exact hdg) t a1, b1⟩
theorem x_lq_spec {q : XM} {pc j j0 ix j2 : Nat} (h : x_lq q pc = some (j, j0, ix, j2)) : (∃ n, mC q (pc + 1) = some (.iload j, n)) ∧ (∃ n, mC q (pc + 3) = some (.i2l, n)) ∧ (∃ n, mC q (pc + 4) = some (.ladd, n)) ∧ (∃ t n, mC q (pc + 5) = some (.aload_n t, n) ∧ (t : Nat) = j0) ∧ (∃ n, mC q (pc + 6) = some (.getfield ix, n)) ∧ (∃ t n, mC q (pc + 9) = some (.iload_n t, n) ∧ (t : Nat) = j2) ∧ (∃ n, mC q (pc + 10) = some (.iaload, n)) ∧ (∃ n, mC q (pc + 11) = some (.i2l, n)) ∧ (∃ n, mC q (pc + 12) = some (.lcmp, n)) := by
  unfold x_lq at h
  split at h
  · rename_i e1 e2 e3 e4 e5
    split at h
    · rename_i e6 e7 e8 e9
      simp only [Option.some.injEq, Prod.mk.injEq] at h
      obtain ⟨rfl, rfl, rfl, rfl⟩ := h
      exact ⟨⟨_, e1⟩, ⟨_, e2⟩, ⟨_, e3⟩, ⟨_, _, e4, rfl⟩, ⟨_, e5⟩, ⟨_, _, e6, rfl⟩, ⟨_, e7⟩, ⟨_, e8⟩, ⟨_, e9⟩⟩
    · cases h
  · cases h
theorem x_l3_spec (a b v : Int32) : lg_cmp (a.toInt64 + b.toInt64) v.toInt64 = x_l3 a b v := by
  have a1 := Int32.le_toInt a
  have a2 := Int32.toInt_lt a
  have b1 := Int32.le_toInt b
  have b2 := Int32.toInt_lt b
  have e : (a.toInt64 + b.toInt64).toInt = a.toInt + b.toInt := by
    rw [Int64.toInt_add, Int32.toInt_toInt64, Int32.toInt_toInt64]
    exact Int.bmod_eq_of_le (by simp; omega) (by simp; omega)
  unfold lg_cmp x_l3
  simp only [gt_iff_lt, Int64.lt_iff_toInt_lt, ← Int64.toInt_inj, e, Int32.toInt_toInt64]
set_option maxHeartbeats 8000000 in
set_option maxRecDepth 100000 in
theorem x_sound {l : Launch} {d : XD E K} {tb : XT} {tyl : List FieldType} {TS TN : List Jvm.Cond} {cl : List vw_C} {D : va_G} {tc : Nat → ClassId} {tys : List (ClassId × FieldType)} {XE : State → Heap → Prop} {base : Nat} {sa : Nat → Nat} {ot : XO E} (hd : x_DmOk d) (hT : x_TbOk TS TN cl tyl tb) (hX : x_XeOk XE base) (hY : x_Tys tc tys tyl) (hZ : x_OutOk TS tb ot d XE base sa) : ∀ f : Nat, x_P l d tb tyl TS TN cl D tc tys XE base sa ot f := by
  intro f
  induction f with
  | zero =>
    intro dp k pc q L S h cn sn w post p e R s m args below meth c H locs ls hq hC hOk hw
    exact (x_bad hOk hw).elim
  | succ f ih =>
  intro dp k pc q L S h cn sn w post p e R s m args below meth c H locs ls hq hC hOk hw hI hl hS
  obtain ⟨hx, hb, hml, hown, hts, hr, hlk, hnm, hE0, hbz, hR1, hR2, hR3, hR4⟩ := id hC
  have hE : x_Env TN D cl tys XE s s.heap := hE0
  rw [x_run.eq_def] at hOk
  dsimp only at hOk
  rw [hq] at hOk
  dsimp only at hOk
  rcases hc : mC q pc with _ | ⟨i, n⟩
  · rw [hc] at hOk
    exact (x_bad hOk hw).elim
  rw [hc] at hOk
  dsimp only at hOk
  obtain ⟨hdg, hlen⟩ := (hT.1 k q hq).2.2.2.2.2.2.2.2.2 pc i n hc
  clear hc
  cases i
  case iconst v =>
    obtain rfl := x_len1 hlen rfl
    try dsimp only at hOk
    exact lv_iconst hx hb hdg rfl (by rw [← hd.1 (Int32.ofInt v)]; exact ih dp k _ q _ _ h cn sn w post p e R s m args below meth c H locs ls hq hC hOk hw hI hl hS)
  case bipush v =>
    obtain rfl := x_len1 hlen rfl
    try dsimp only at hOk
    exact lv_bipush hx hb hdg rfl (by rw [← hd.1 (Int8.ofInt v).toInt32]; exact ih dp k _ q _ _ h cn sn w post p e R s m args below meth c H locs ls hq hC hOk hw hI hl hS)
  case sipush v =>
    obtain rfl := x_len1 hlen rfl
    try dsimp only at hOk
    exact lv_sipush hx hb hdg rfl (by rw [← hd.1 (Int16.ofInt v).toInt32]; exact ih dp k _ q _ _ h cn sn w post p e R s m args below meth c H locs ls hq hC hOk hw hI hl hS)
  case ldc ix =>
    obtain rfl := x_len1 hlen rfl
    try dsimp only at hOk
    rcases hv : tLi tb (mO q) ix with _ | v
    · rw [hv] at hOk
      try dsimp only at hOk
      rcases hsl : oSl ot (mO q) ix with _ | a
      · rw [hsl] at hOk
        exact (x_bad hOk hw).elim
      rw [hsl] at hOk
      try dsimp only at hOk
      obtain ⟨z1, z2⟩ := hZ.1 _ _ _ hsl
      obtain ⟨tx, z3⟩ := z2 s s.heap hE.2.2
      have g := ih dp k _ q _ _ h cn sn w post p e R s m args below meth c H locs ls hq hC hOk hw hI hl hS
      rw [List.map_cons] at g
      simp only [x_rv] at g
      rw [x_amo (by omega)] at g
      exact va_ldcS hx hb hown z3 hdg g
    rw [hv] at hOk
    try dsimp only at hOk
    exact lv_ldc hx hb hown (hts _ (hT.2.2.2.2.2.2.2.2.2.1 _ _ _ hv)) hdg (by rw [← hd.1 v]; exact ih dp k _ q _ _ h cn sn w post p e R s m args below meth c H locs ls hq hC hOk hw hI hl hS)
  case ldc_w ix =>
    obtain rfl := x_len1 hlen rfl
    try dsimp only at hOk
    rcases hv : tLi tb (mO q) ix with _ | v
    · rw [hv] at hOk
      try dsimp only at hOk
      rcases hsl : oSl ot (mO q) ix with _ | a
      · rw [hsl] at hOk
        exact (x_bad hOk hw).elim
      rw [hsl] at hOk
      try dsimp only at hOk
      obtain ⟨z1, z2⟩ := hZ.1 _ _ _ hsl
      obtain ⟨tx, z3⟩ := z2 s s.heap hE.2.2
      have g := ih dp k _ q _ _ h cn sn w post p e R s m args below meth c H locs ls hq hC hOk hw hI hl hS
      rw [List.map_cons] at g
      simp only [x_rv] at g
      rw [x_amo (by omega)] at g
      exact x_ldcwS hx hb hown z3 hdg g
    rw [hv] at hOk
    try dsimp only at hOk
    exact lv_ldcw hx hb hown (hts _ (hT.2.2.2.2.2.2.2.2.2.1 _ _ _ hv)) hdg (by rw [← hd.1 v]; exact ih dp k _ q _ _ h cn sn w post p e R s m args below meth c H locs ls hq hC hOk hw hI hl hS)
  case i2l =>
    obtain rfl := x_len1 hlen rfl
    try dsimp only at hOk
    rcases S with _ | ⟨a | a0, S⟩
    · exact (x_bad hOk hw).elim
    rotate_left
    · exact (x_bad hOk hw).elim
    rcases hql : x_lq q pc with _ | ⟨j, j0, ix, j2⟩
    · rw [hql] at hOk
      exact (x_bad hOk hw).elim
    rw [hql] at hOk
    try dsimp only at hOk
    rcases hj : x_lk L j with _ | (b | b)
    · rw [hj] at hOk
      exact (x_bad hOk hw).elim
    rotate_left
    · rw [hj] at hOk
      exact (x_bad hOk hw).elim
    rw [hj] at hOk
    rcases hj0 : x_lk L j0 with _ | (o | (_ | o))
    · rw [hj0] at hOk
      exact (x_bad hOk hw).elim
    · rw [hj0] at hOk
      exact (x_bad hOk hw).elim
    · rw [hj0] at hOk
      exact (x_bad hOk hw).elim
    rw [hj0] at hOk
    rcases hj2 : x_lk L j2 with _ | (e0 | e0)
    · rw [hj2] at hOk
      exact (x_bad hOk hw).elim
    rotate_left
    · rw [hj2] at hOk
      exact (x_bad hOk hw).elim
    rw [hj2] at hOk
    rcases hf : tFld tb (mO q) ix with _ | ⟨ci, fj⟩
    · rw [hf] at hOk
      exact (x_bad hOk hw).elim
    rw [hf] at hOk
    try dsimp only at hOk
    rcases ha : h[o]? with _ | (⟨c2, fs⟩ | z)
    · rw [ha] at hOk
      exact (x_bad hOk hw).elim
    rotate_left
    · rw [ha] at hOk
      exact (x_bad hOk hw).elim
    rw [ha] at hOk
    try dsimp only at hOk
    rcases hcc : decide (c2 = ci) with _ | _
    · rw [hcc] at hOk
      exact (x_bad hOk hw).elim
    rw [hcc] at hOk
    rcases hv : fs[fj]? with _ | (y | (_ | y))
    · rw [hv] at hOk
      exact (x_bad hOk hw).elim
    · rw [hv] at hOk
      exact (x_bad hOk hw).elim
    · rw [hv] at hOk
      exact (x_bad hOk hw).elim
    rw [hv] at hOk
    try dsimp only at hOk
    have hcc2 := of_decide_eq_true hcc
    subst hcc2
    rcases hy : h[y]? with _ | (z | ⟨t, vs⟩)
    · rw [hy] at hOk
      exact (x_bad hOk hw).elim
    · rw [hy] at hOk
      exact (x_bad hOk hw).elim
    rw [hy] at hOk
    rcases t with _ | t
    rotate_left
    · exact (x_bad hOk hw).elim
    try dsimp only at hOk
    rcases he : dKst d e0 with _ | e1
    · rw [he] at hOk
      exact (x_bad hOk hw).elim
    rw [he] at hOk
    try dsimp only at hOk
    have hOk : XOk (dHd d) (if (decide (e1 < 0) || decide (vs.length ≤ e1.toNatClampNeg)) = true then [w] else match vs[e1.toNatClampNeg]? with
        | some (.inl v) => (match dKst d a, dKst d b, dKst d v with
          | some a1, some b1, some v1 => x_run d tb tyl ot f dp k (pc + 13) L (.inl (dKc d (x_l3 a1 b1 v1)) :: S) h cn sn w post
          | _, _, _ => [w])
        | _ => [w]) := hOk
    rcases hbd : (decide (e1 < 0) || decide (vs.length ≤ e1.toNatClampNeg)) with _ | _
    rotate_left
    · rw [hbd, if_pos rfl] at hOk
      exact (x_bad hOk hw).elim
    rw [hbd, if_neg (by decide)] at hOk
    rcases hx1 : vs[e1.toNatClampNeg]? with _ | (v | v)
    · rw [hx1] at hOk
      exact (x_bad hOk hw).elim
    rotate_left
    · rw [hx1] at hOk
      exact (x_bad hOk hw).elim
    rw [hx1] at hOk
    try dsimp only at hOk
    rcases hk1 : dKst d a with _ | a1
    · rw [hk1] at hOk
      exact (x_bad hOk hw).elim
    rw [hk1] at hOk
    rcases hk2 : dKst d b with _ | b1
    · rw [hk2] at hOk
      exact (x_bad hOk hw).elim
    rw [hk2] at hOk
    rcases hk3 : dKst d v with _ | v1
    · rw [hk3] at hOk
      exact (x_bad hOk hw).elim
    rw [hk3] at hOk
    try dsimp only at hOk
    obtain ⟨⟨n1, q1⟩, ⟨n2, q2⟩, ⟨n3, q3⟩, ⟨t0, n4, q4, rfl⟩, ⟨n5, q5⟩, ⟨t2, n6, q6, rfl⟩, ⟨n7, q7⟩, ⟨n8, q8⟩, ⟨n9, q9⟩⟩ := x_lq_spec hql
    have dg := (hT.1 k q hq).2.2.2.2.2.2.2.2.2
    obtain ⟨d1, l1⟩ := dg _ _ _ q1
    obtain rfl := x_len1 l1 rfl
    obtain ⟨d2, l2⟩ := dg _ _ _ q2
    obtain rfl := x_len1 l2 rfl
    obtain ⟨d3, l3⟩ := dg _ _ _ q3
    obtain rfl := x_len1 l3 rfl
    obtain ⟨d4, l4⟩ := dg _ _ _ q4
    obtain rfl := x_len1 l4 rfl
    obtain ⟨d5, l5⟩ := dg _ _ _ q5
    obtain rfl := x_len1 l5 rfl
    obtain ⟨d6, l6⟩ := dg _ _ _ q6
    obtain rfl := x_len1 l6 rfl
    obtain ⟨d7, l7⟩ := dg _ _ _ q7
    obtain rfl := x_len1 l7 rfl
    obtain ⟨d8, l8⟩ := dg _ _ _ q8
    obtain rfl := x_len1 l8 rfl
    obtain ⟨d9, l9⟩ := dg _ _ _ q9
    obtain rfl := x_len1 l9 rfl
    have hbd2 := Bool.or_eq_false_iff.mp hbd
    have eE := hd.2.2.2.1 e0 e1 he
    have g := ih dp k (pc + 13) q L _ h cn sn w post p e R s m args below meth c H locs ls hq hC hOk hw hI hl hS
    rw [List.map_cons] at g
    simp only [x_rv] at g
    rw [hd.1, ← x_l3_spec, ← hd.2.2.2.1 a a1 hk1, ← hd.2.2.2.1 b b1 hk2, ← hd.2.2.2.1 v v1 hk3] at g
    rw [List.map_cons]
    simp only [x_rv]
    refine lv_i2l hx hb hdg rfl ?_
    refine lv_iload hx hb d1 (x_lk_spec hl hj) ?_
    refine lv_i2l hx hb d2 rfl ?_
    refine lv_ladd hx hb d3 ?_
    refine lv_aload_n hx hb d4 rfl (x_lk_spec hl hj0) ?_
    rw [x_amh hI ha]
    refine x_getf hx hb hts hT hown hE.1 hI ha hf hv d5 ?_
    refine lv_iload_n hx hb d6 rfl (x_lk_spec hl hj2) ?_
    have ea : x_rv d (x_am base sa) (.inr (some y)) = .ref (base + y) := congrArg Value.ref (x_amh hI hy)
    rw [ea]
    refine x_iald hx hb hE.1 hY hT.2.2.2.2.2.1.2.2.1 hI hy (by rw [eE]; exact of_decide_eq_false hbd2.1) (by rw [eE]; exact Nat.lt_of_not_le (of_decide_eq_false hbd2.2)) (by rw [eE]; exact hx1) d7 ?_
    simp only [x_rv]
    refine lv_i2l hx hb d8 rfl ?_
    exact W.lcmp hx hb d9 g
  case aconst_null =>
    obtain rfl := x_len1 hlen rfl
    try dsimp only at hOk
    exact lv_null hx hb hdg (ih dp k _ q _ _ h cn sn w post p e R s m args below meth c H locs ls hq hC hOk hw hI hl hS)
  case iload_n j =>
    obtain rfl := x_len1 hlen rfl
    try dsimp only at hOk
    rcases ha : x_lk L ↑j with _ | v
    · rw [ha] at hOk
      exact (x_bad hOk hw).elim
    rw [ha] at hOk
    rcases v with a | a
    rotate_left
    · exact (x_bad hOk hw).elim
    try dsimp only at hOk
    exact lv_iload_n hx hb hdg rfl (x_lk_spec hl ha) (ih dp k _ q _ _ h cn sn w post p e R s m args below meth c H locs ls hq hC hOk hw hI hl hS)
  case iload j =>
    obtain rfl := x_len1 hlen rfl
    try dsimp only at hOk
    rcases ha : x_lk L j with _ | v
    · rw [ha] at hOk
      exact (x_bad hOk hw).elim
    rw [ha] at hOk
    rcases v with a | a
    rotate_left
    · exact (x_bad hOk hw).elim
    try dsimp only at hOk
    exact lv_iload hx hb hdg (x_lk_spec hl ha) (ih dp k _ q _ _ h cn sn w post p e R s m args below meth c H locs ls hq hC hOk hw hI hl hS)
  case aload_n j =>
    obtain rfl := x_len1 hlen rfl
    try dsimp only at hOk
    rcases ha : x_lk L ↑j with _ | v
    · rw [ha] at hOk
      exact (x_bad hOk hw).elim
    rw [ha] at hOk
    rcases v with a | (_ | a)
    · exact (x_bad hOk hw).elim
    · dsimp only at hOk
      exact lv_aload_nN hx hb hdg rfl (x_lk_spec hl ha) (ih dp k _ q _ _ h cn sn w post p e R s m args below meth c H locs ls hq hC hOk hw hI hl hS)
    · dsimp only at hOk
      exact lv_aload_n hx hb hdg rfl (x_lk_spec hl ha) (ih dp k _ q _ _ h cn sn w post p e R s m args below meth c H locs ls hq hC hOk hw hI hl hS)
  case aload j =>
    obtain rfl := x_len1 hlen rfl
    try dsimp only at hOk
    rcases ha : x_lk L j with _ | v
    · rw [ha] at hOk
      exact (x_bad hOk hw).elim
    rw [ha] at hOk
    rcases v with a | (_ | a)
    · exact (x_bad hOk hw).elim
    · dsimp only at hOk
      exact lv_aloadN hx hb hdg (x_lk_spec hl ha) (ih dp k _ q _ _ h cn sn w post p e R s m args below meth c H locs ls hq hC hOk hw hI hl hS)
    · dsimp only at hOk
      exact lv_aload hx hb hdg (x_lk_spec hl ha) (ih dp k _ q _ _ h cn sn w post p e R s m args below meth c H locs ls hq hC hOk hw hI hl hS)
  case istore_n j =>
    obtain rfl := x_len1 hlen rfl
    try dsimp only at hOk
    rcases S with _ | ⟨a | a0, S⟩
    · exact (x_bad hOk hw).elim
    rotate_left
    · exact (x_bad hOk hw).elim
    try dsimp only at hOk
    obtain ⟨hj, hO⟩ := x_if hOk hw
    exact lv_istore_n hx hb hdg rfl hl hj (x_st_spec d (x_am base sa) L _ (.inl a)) (fun ls' hl' => ih dp k _ q _ _ h cn sn w post p e R s m args below meth c H locs ls' hq hC hO hw hI hl' hS)
  case istore j =>
    obtain rfl := x_len1 hlen rfl
    try dsimp only at hOk
    rcases S with _ | ⟨a | a0, S⟩
    · exact (x_bad hOk hw).elim
    rotate_left
    · exact (x_bad hOk hw).elim
    try dsimp only at hOk
    obtain ⟨hj, hO⟩ := x_if hOk hw
    exact lv_istore hx hb hdg hl hj (x_st_spec d (x_am base sa) L _ (.inl a)) (fun ls' hl' => ih dp k _ q _ _ h cn sn w post p e R s m args below meth c H locs ls' hq hC hO hw hI hl' hS)
  case astore_n j =>
    obtain rfl := x_len1 hlen rfl
    try dsimp only at hOk
    rcases S with _ | ⟨a0 | a, S⟩
    · exact (x_bad hOk hw).elim
    · exact (x_bad hOk hw).elim
    try dsimp only at hOk
    obtain ⟨hj, hO⟩ := x_if hOk hw
    rcases a with _ | a
    · exact lv_astore_nN hx hb hdg rfl hl hj (x_st_spec d (x_am base sa) L _ (.inr none)) (fun ls' hl' => ih dp k _ q _ _ h cn sn w post p e R s m args below meth c H locs ls' hq hC hO hw hI hl' hS)
    · exact lv_astore_n hx hb hdg rfl hl hj (x_st_spec d (x_am base sa) L _ (.inr (some a))) (fun ls' hl' => ih dp k _ q _ _ h cn sn w post p e R s m args below meth c H locs ls' hq hC hO hw hI hl' hS)
  case astore j =>
    obtain rfl := x_len1 hlen rfl
    try dsimp only at hOk
    rcases S with _ | ⟨a0 | a, S⟩
    · exact (x_bad hOk hw).elim
    · exact (x_bad hOk hw).elim
    try dsimp only at hOk
    obtain ⟨hj, hO⟩ := x_if hOk hw
    rcases a with _ | a
    · exact lv_astoreN hx hb hdg hl hj (x_st_spec d (x_am base sa) L _ (.inr none)) (fun ls' hl' => ih dp k _ q _ _ h cn sn w post p e R s m args below meth c H locs ls' hq hC hO hw hI hl' hS)
    · exact lv_astore hx hb hdg hl hj (x_st_spec d (x_am base sa) L _ (.inr (some a))) (fun ls' hl' => ih dp k _ q _ _ h cn sn w post p e R s m args below meth c H locs ls' hq hC hO hw hI hl' hS)
  case iinc j v =>
    obtain rfl := x_len1 hlen rfl
    try dsimp only at hOk
    rcases ha : x_lk L j with _ | v2
    · rw [ha] at hOk
      exact (x_bad hOk hw).elim
    rw [ha] at hOk
    rcases v2 with a | a
    rotate_left
    · exact (x_bad hOk hw).elim
    try dsimp only at hOk
    obtain ⟨hj, hO⟩ := x_if hOk hw
    obtain ⟨kk, hk⟩ := x_lk_at d (x_am base sa) ha
    exact lv_iinc (v := dEv d (dBin d 0 a (dKc d (Int32.ofInt v)))) hx hb hdg hl hk (by rw [hd.2.1, hd.1]; rfl) hj (x_st_spec d (x_am base sa) L j (.inl (dBin d 0 a (dKc d (Int32.ofInt v))))) (fun ls' hl' => ih dp k _ q _ _ h cn sn w post p e R s m args below meth c H locs ls' hq hC hO hw hI hl' hS)
  case dup =>
    obtain rfl := x_len1 hlen rfl
    try dsimp only at hOk
    rcases S with _ | ⟨a, S⟩
    · exact (x_bad hOk hw).elim
    try dsimp only at hOk
    exact lv_dup hx hb hdg (x_rvc _ _ _) (ih dp k _ q _ _ h cn sn w post p e R s m args below meth c H locs ls hq hC hOk hw hI hl hS)
  case dup_x1 =>
    obtain rfl := x_len1 hlen rfl
    try dsimp only at hOk
    rcases S with _ | ⟨a, S⟩
    · exact (x_bad hOk hw).elim
    try dsimp only at hOk
    rcases S with _ | ⟨b, S⟩
    · exact (x_bad hOk hw).elim
    try dsimp only at hOk
    exact lv_dup_x1 hx hb hdg (x_rvc _ _ _) (x_rvc _ _ _) (ih dp k _ q _ _ h cn sn w post p e R s m args below meth c H locs ls hq hC hOk hw hI hl hS)
  case dup2 =>
    obtain rfl := x_len1 hlen rfl
    try dsimp only at hOk
    rcases S with _ | ⟨a, S⟩
    · exact (x_bad hOk hw).elim
    try dsimp only at hOk
    rcases S with _ | ⟨b, S⟩
    · exact (x_bad hOk hw).elim
    try dsimp only at hOk
    exact lv_dup2_11 hx hb hdg (x_rvc _ _ _) (x_rvc _ _ _) (ih dp k _ q _ _ h cn sn w post p e R s m args below meth c H locs ls hq hC hOk hw hI hl hS)
  case pop =>
    obtain rfl := x_len1 hlen rfl
    try dsimp only at hOk
    rcases S with _ | ⟨a, S⟩
    · exact (x_bad hOk hw).elim
    try dsimp only at hOk
    exact lv_pop hx hb hdg (x_rvc _ _ _) (ih dp k _ q _ _ h cn sn w post p e R s m args below meth c H locs ls hq hC hOk hw hI hl hS)
  case iadd =>
    obtain rfl := x_len1 hlen rfl
    try dsimp only at hOk
    rcases S with _ | ⟨b | a0, S⟩
    · exact (x_bad hOk hw).elim
    rotate_left
    · exact (x_bad hOk hw).elim
    try dsimp only at hOk
    rcases S with _ | ⟨a | a0, S⟩
    · exact (x_bad hOk hw).elim
    rotate_left
    · exact (x_bad hOk hw).elim
    try dsimp only at hOk
    have eb : dEv d (dBin d 0 a b) = x_bin 0 (dEv d a) (dEv d b) := hd.2.1 0 a b
    refine lv_iadd hx hb hdg (x := dEv d a) (y := dEv d b) ?_
    have g := ih dp k _ q _ _ h cn sn w post p e R s m args below meth c H locs ls hq hC hOk hw hI hl hS
    rw [List.map_cons] at g
    simp only [x_rv] at g
    rw [eb] at g
    exact g
  case isub =>
    obtain rfl := x_len1 hlen rfl
    try dsimp only at hOk
    rcases S with _ | ⟨b | a0, S⟩
    · exact (x_bad hOk hw).elim
    rotate_left
    · exact (x_bad hOk hw).elim
    try dsimp only at hOk
    rcases S with _ | ⟨a | a0, S⟩
    · exact (x_bad hOk hw).elim
    rotate_left
    · exact (x_bad hOk hw).elim
    try dsimp only at hOk
    have eb : dEv d (dBin d 1 a b) = x_bin 1 (dEv d a) (dEv d b) := hd.2.1 1 a b
    refine lv_isub hx hb hdg (x := dEv d a) (y := dEv d b) ?_
    have g := ih dp k _ q _ _ h cn sn w post p e R s m args below meth c H locs ls hq hC hOk hw hI hl hS
    rw [List.map_cons] at g
    simp only [x_rv] at g
    rw [eb] at g
    exact g
  case imul =>
    obtain rfl := x_len1 hlen rfl
    try dsimp only at hOk
    rcases S with _ | ⟨b | a0, S⟩
    · exact (x_bad hOk hw).elim
    rotate_left
    · exact (x_bad hOk hw).elim
    try dsimp only at hOk
    rcases S with _ | ⟨a | a0, S⟩
    · exact (x_bad hOk hw).elim
    rotate_left
    · exact (x_bad hOk hw).elim
    try dsimp only at hOk
    have eb : dEv d (dBin d 2 a b) = x_bin 2 (dEv d a) (dEv d b) := hd.2.1 2 a b
    refine lv_imul hx hb hdg (x := dEv d a) (y := dEv d b) ?_
    have g := ih dp k _ q _ _ h cn sn w post p e R s m args below meth c H locs ls hq hC hOk hw hI hl hS
    rw [List.map_cons] at g
    simp only [x_rv] at g
    rw [eb] at g
    exact g
  case iand =>
    obtain rfl := x_len1 hlen rfl
    try dsimp only at hOk
    rcases S with _ | ⟨b | a0, S⟩
    · exact (x_bad hOk hw).elim
    rotate_left
    · exact (x_bad hOk hw).elim
    try dsimp only at hOk
    rcases S with _ | ⟨a | a0, S⟩
    · exact (x_bad hOk hw).elim
    rotate_left
    · exact (x_bad hOk hw).elim
    try dsimp only at hOk
    have eb : dEv d (dBin d 3 a b) = x_bin 3 (dEv d a) (dEv d b) := hd.2.1 3 a b
    refine lv_iand hx hb hdg (x := dEv d a) (y := dEv d b) ?_
    have g := ih dp k _ q _ _ h cn sn w post p e R s m args below meth c H locs ls hq hC hOk hw hI hl hS
    rw [List.map_cons] at g
    simp only [x_rv] at g
    rw [eb] at g
    exact g
  case ior =>
    obtain rfl := x_len1 hlen rfl
    try dsimp only at hOk
    rcases S with _ | ⟨b | a0, S⟩
    · exact (x_bad hOk hw).elim
    rotate_left
    · exact (x_bad hOk hw).elim
    try dsimp only at hOk
    rcases S with _ | ⟨a | a0, S⟩
    · exact (x_bad hOk hw).elim
    rotate_left
    · exact (x_bad hOk hw).elim
    try dsimp only at hOk
    have eb : dEv d (dBin d 4 a b) = x_bin 4 (dEv d a) (dEv d b) := hd.2.1 4 a b
    refine lv_ior hx hb hdg (x := dEv d a) (y := dEv d b) ?_
    have g := ih dp k _ q _ _ h cn sn w post p e R s m args below meth c H locs ls hq hC hOk hw hI hl hS
    rw [List.map_cons] at g
    simp only [x_rv] at g
    rw [eb] at g
    exact g
  case ixor =>
    obtain rfl := x_len1 hlen rfl
    try dsimp only at hOk
    rcases S with _ | ⟨b | a0, S⟩
    · exact (x_bad hOk hw).elim
    rotate_left
    · exact (x_bad hOk hw).elim
    try dsimp only at hOk
    rcases S with _ | ⟨a | a0, S⟩
    · exact (x_bad hOk hw).elim
    rotate_left
    · exact (x_bad hOk hw).elim
    try dsimp only at hOk
    have eb : dEv d (dBin d 5 a b) = x_bin 5 (dEv d a) (dEv d b) := hd.2.1 5 a b
    refine lv_ixor hx hb hdg (x := dEv d a) (y := dEv d b) ?_
    have g := ih dp k _ q _ _ h cn sn w post p e R s m args below meth c H locs ls hq hC hOk hw hI hl hS
    rw [List.map_cons] at g
    simp only [x_rv] at g
    rw [eb] at g
    exact g
  case ishl =>
    obtain rfl := x_len1 hlen rfl
    try dsimp only at hOk
    rcases S with _ | ⟨b | a0, S⟩
    · exact (x_bad hOk hw).elim
    rotate_left
    · exact (x_bad hOk hw).elim
    try dsimp only at hOk
    rcases S with _ | ⟨a | a0, S⟩
    · exact (x_bad hOk hw).elim
    rotate_left
    · exact (x_bad hOk hw).elim
    try dsimp only at hOk
    have eb : dEv d (dBin d 6 a b) = x_bin 6 (dEv d a) (dEv d b) := hd.2.1 6 a b
    refine lv_ishl hx hb hdg (x := dEv d a) (y := dEv d b) ?_
    have g := ih dp k _ q _ _ h cn sn w post p e R s m args below meth c H locs ls hq hC hOk hw hI hl hS
    rw [List.map_cons] at g
    simp only [x_rv] at g
    rw [eb] at g
    exact g
  case ishr =>
    obtain rfl := x_len1 hlen rfl
    try dsimp only at hOk
    rcases S with _ | ⟨b | a0, S⟩
    · exact (x_bad hOk hw).elim
    rotate_left
    · exact (x_bad hOk hw).elim
    try dsimp only at hOk
    rcases S with _ | ⟨a | a0, S⟩
    · exact (x_bad hOk hw).elim
    rotate_left
    · exact (x_bad hOk hw).elim
    try dsimp only at hOk
    have eb : dEv d (dBin d 7 a b) = x_bin 7 (dEv d a) (dEv d b) := hd.2.1 7 a b
    refine lv_ishr hx hb hdg (x := dEv d a) (y := dEv d b) ?_
    have g := ih dp k _ q _ _ h cn sn w post p e R s m args below meth c H locs ls hq hC hOk hw hI hl hS
    rw [List.map_cons] at g
    simp only [x_rv] at g
    rw [eb] at g
    exact g
  case idiv =>
    obtain rfl := x_len1 hlen rfl
    try dsimp only at hOk
    rcases S with _ | ⟨b | a0, S⟩
    · exact (x_bad hOk hw).elim
    rotate_left
    · exact (x_bad hOk hw).elim
    try dsimp only at hOk
    rcases S with _ | ⟨a | a0, S⟩
    · exact (x_bad hOk hw).elim
    rotate_left
    · exact (x_bad hOk hw).elim
    try dsimp only at hOk
    have eb : dEv d (dBin d 8 a b) = x_bin 8 (dEv d a) (dEv d b) := hd.2.1 8 a b
    obtain ⟨w2, hw2, h3⟩ := hd.2.2.2.2 0 b (dKc d 0) w _ _ hOk hw
    rw [hd.1] at h3
    rcases h3 with ⟨_, h3⟩ | ⟨hne, h3⟩
    · exact (x_bad h3 hw2).elim
    refine lv_idiv hx hb hdg (x := dEv d a) (y := dEv d b) (of_decide_eq_false hne) ?_
    have g := ih dp k _ q _ _ h cn sn w2 post p e R s m args below meth c H locs ls hq hC h3 hw2 hI hl hS
    rw [List.map_cons] at g
    simp only [x_rv] at g
    rw [eb] at g
    exact g
  case irem =>
    obtain rfl := x_len1 hlen rfl
    try dsimp only at hOk
    rcases S with _ | ⟨b | a0, S⟩
    · exact (x_bad hOk hw).elim
    rotate_left
    · exact (x_bad hOk hw).elim
    try dsimp only at hOk
    rcases S with _ | ⟨a | a0, S⟩
    · exact (x_bad hOk hw).elim
    rotate_left
    · exact (x_bad hOk hw).elim
    try dsimp only at hOk
    have eb : dEv d (dBin d 9 a b) = x_bin 9 (dEv d a) (dEv d b) := hd.2.1 9 a b
    obtain ⟨w2, hw2, h3⟩ := hd.2.2.2.2 0 b (dKc d 0) w _ _ hOk hw
    rw [hd.1] at h3
    rcases h3 with ⟨_, h3⟩ | ⟨hne, h3⟩
    · exact (x_bad h3 hw2).elim
    refine lv_irem hx hb hdg (x := dEv d a) (y := dEv d b) (of_decide_eq_false hne) ?_
    have g := ih dp k _ q _ _ h cn sn w2 post p e R s m args below meth c H locs ls hq hC h3 hw2 hI hl hS
    rw [List.map_cons] at g
    simp only [x_rv] at g
    rw [eb] at g
    exact g
  case i2b =>
    obtain rfl := x_len1 hlen rfl
    try dsimp only at hOk
    rcases S with _ | ⟨a | a0, S⟩
    · exact (x_bad hOk hw).elim
    rotate_left
    · exact (x_bad hOk hw).elim
    try dsimp only at hOk
    exact lv_i2b hx hb (v := dEv d (dUn d 0 a)) hdg (by rw [hd.2.2.1]; rfl) (ih dp k _ q _ _ h cn sn w post p e R s m args below meth c H locs ls hq hC hOk hw hI hl hS)
  case i2s =>
    obtain rfl := x_len1 hlen rfl
    try dsimp only at hOk
    rcases S with _ | ⟨a | a0, S⟩
    · exact (x_bad hOk hw).elim
    rotate_left
    · exact (x_bad hOk hw).elim
    try dsimp only at hOk
    exact lv_i2s hx hb (v := dEv d (dUn d 1 a)) hdg (by rw [hd.2.2.1]; rfl) (ih dp k _ q _ _ h cn sn w post p e R s m args below meth c H locs ls hq hC hOk hw hI hl hS)
  case goto o =>
    obtain rfl := x_len1 hlen rfl
    try dsimp only at hOk
    rcases ht : x_jp pc o with _ | t
    · rw [ht] at hOk
      exact (x_bad hOk hw).elim
    rw [ht] at hOk
    try dsimp only at hOk
    exact lv_goto hx hb hdg (x_jp_spec ht) (ih dp k _ q _ _ h cn sn w post p e R s m args below meth c H locs ls hq hC hOk hw hI hl hS)
  case ifCond cc2 o =>
    obtain rfl := x_len1 hlen rfl
    try dsimp only at hOk
    rcases S with _ | ⟨a | a0, S⟩
    · exact (x_bad hOk hw).elim
    rotate_left
    · exact (x_bad hOk hw).elim
    try dsimp only at hOk
    rcases ht : x_jp pc o with _ | t
    · rw [ht] at hOk
      exact (x_bad hOk hw).elim
    rw [ht] at hOk
    try dsimp only at hOk
    obtain ⟨w2, hw2, h3⟩ := hd.2.2.2.2 _ a (dKc d 0) w _ _ hOk hw
    rw [hd.1] at h3
    cases cc2 <;> rcases h3 with ⟨hc, h3⟩ | ⟨hc, h3⟩
    · exact lv_if_eq hx hb hdg (x_jp_spec ht) (fun _ => ih dp k _ q _ _ h cn sn w2 post p e R s m args below meth c H locs ls hq hC h3 hw2 hI hl hS) (fun z => absurd (of_decide_eq_true hc) z)
    · exact lv_if_eq hx hb hdg (x_jp_spec ht) (fun z => absurd z (of_decide_eq_false hc)) (fun _ => ih dp k _ q _ _ h cn sn w2 post p e R s m args below meth c H locs ls hq hC h3 hw2 hI hl hS)
    · exact lv_if_ne hx hb hdg (x_jp_spec ht) (fun _ => ih dp k _ q _ _ h cn sn w2 post p e R s m args below meth c H locs ls hq hC h3 hw2 hI hl hS) (fun z => absurd z (of_decide_eq_true hc))
    · exact lv_if_ne hx hb hdg (x_jp_spec ht) (fun z => absurd (Decidable.not_not.mp (of_decide_eq_false hc)) z) (fun _ => ih dp k _ q _ _ h cn sn w2 post p e R s m args below meth c H locs ls hq hC h3 hw2 hI hl hS)
    · exact lv_if_lt hx hb hdg (x_jp_spec ht) (fun _ => ih dp k _ q _ _ h cn sn w2 post p e R s m args below meth c H locs ls hq hC h3 hw2 hI hl hS) (fun z => absurd (of_decide_eq_true hc) z)
    · exact lv_if_lt hx hb hdg (x_jp_spec ht) (fun z => absurd z (of_decide_eq_false hc)) (fun _ => ih dp k _ q _ _ h cn sn w2 post p e R s m args below meth c H locs ls hq hC h3 hw2 hI hl hS)
    · exact lv_if_ge hx hb hdg (x_jp_spec ht) (fun _ => ih dp k _ q _ _ h cn sn w2 post p e R s m args below meth c H locs ls hq hC h3 hw2 hI hl hS) (fun z => absurd (of_decide_eq_true hc) z)
    · exact lv_if_ge hx hb hdg (x_jp_spec ht) (fun z => absurd z (of_decide_eq_false hc)) (fun _ => ih dp k _ q _ _ h cn sn w2 post p e R s m args below meth c H locs ls hq hC h3 hw2 hI hl hS)
    · exact lv_if_gt hx hb hdg (x_jp_spec ht) (fun _ => ih dp k _ q _ _ h cn sn w2 post p e R s m args below meth c H locs ls hq hC h3 hw2 hI hl hS) (fun z => absurd (of_decide_eq_true hc) z)
    · exact lv_if_gt hx hb hdg (x_jp_spec ht) (fun z => absurd z (of_decide_eq_false hc)) (fun _ => ih dp k _ q _ _ h cn sn w2 post p e R s m args below meth c H locs ls hq hC h3 hw2 hI hl hS)
    · exact lv_if_le hx hb hdg (x_jp_spec ht) (fun _ => ih dp k _ q _ _ h cn sn w2 post p e R s m args below meth c H locs ls hq hC h3 hw2 hI hl hS) (fun z => absurd (of_decide_eq_true hc) z)
    · exact lv_if_le hx hb hdg (x_jp_spec ht) (fun z => absurd z (of_decide_eq_false hc)) (fun _ => ih dp k _ q _ _ h cn sn w2 post p e R s m args below meth c H locs ls hq hC h3 hw2 hI hl hS)
  case if_icmp cc2 o =>
    obtain rfl := x_len1 hlen rfl
    try dsimp only at hOk
    rcases S with _ | ⟨b | a0, S⟩
    · exact (x_bad hOk hw).elim
    rotate_left
    · exact (x_bad hOk hw).elim
    try dsimp only at hOk
    rcases S with _ | ⟨a | a0, S⟩
    · exact (x_bad hOk hw).elim
    rotate_left
    · exact (x_bad hOk hw).elim
    try dsimp only at hOk
    rcases ht : x_jp pc o with _ | t
    · rw [ht] at hOk
      exact (x_bad hOk hw).elim
    rw [ht] at hOk
    try dsimp only at hOk
    obtain ⟨w2, hw2, h3⟩ := hd.2.2.2.2 _ a b w _ _ hOk hw
    cases cc2 <;> rcases h3 with ⟨hc, h3⟩ | ⟨hc, h3⟩
    · exact lv_icmp_eq hx hb hdg (x_jp_spec ht) (fun _ => ih dp k _ q _ _ h cn sn w2 post p e R s m args below meth c H locs ls hq hC h3 hw2 hI hl hS) (fun z => absurd (of_decide_eq_true hc) z)
    · exact lv_icmp_eq hx hb hdg (x_jp_spec ht) (fun z => absurd z (of_decide_eq_false hc)) (fun _ => ih dp k _ q _ _ h cn sn w2 post p e R s m args below meth c H locs ls hq hC h3 hw2 hI hl hS)
    · exact lv_icmp_ne hx hb hdg (x_jp_spec ht) (fun _ => ih dp k _ q _ _ h cn sn w2 post p e R s m args below meth c H locs ls hq hC h3 hw2 hI hl hS) (fun z => absurd z (of_decide_eq_true hc))
    · exact lv_icmp_ne hx hb hdg (x_jp_spec ht) (fun z => absurd (Decidable.not_not.mp (of_decide_eq_false hc)) z) (fun _ => ih dp k _ q _ _ h cn sn w2 post p e R s m args below meth c H locs ls hq hC h3 hw2 hI hl hS)
    · exact lv_icmp_lt hx hb hdg (x_jp_spec ht) (fun _ => ih dp k _ q _ _ h cn sn w2 post p e R s m args below meth c H locs ls hq hC h3 hw2 hI hl hS) (fun z => absurd (of_decide_eq_true hc) z)
    · exact lv_icmp_lt hx hb hdg (x_jp_spec ht) (fun z => absurd z (of_decide_eq_false hc)) (fun _ => ih dp k _ q _ _ h cn sn w2 post p e R s m args below meth c H locs ls hq hC h3 hw2 hI hl hS)
    · exact lv_icmp_ge hx hb hdg (x_jp_spec ht) (fun _ => ih dp k _ q _ _ h cn sn w2 post p e R s m args below meth c H locs ls hq hC h3 hw2 hI hl hS) (fun z => absurd (of_decide_eq_true hc) z)
    · exact lv_icmp_ge hx hb hdg (x_jp_spec ht) (fun z => absurd z (of_decide_eq_false hc)) (fun _ => ih dp k _ q _ _ h cn sn w2 post p e R s m args below meth c H locs ls hq hC h3 hw2 hI hl hS)
    · exact lv_icmp_gt hx hb hdg (x_jp_spec ht) (fun _ => ih dp k _ q _ _ h cn sn w2 post p e R s m args below meth c H locs ls hq hC h3 hw2 hI hl hS) (fun z => absurd (of_decide_eq_true hc) z)
    · exact lv_icmp_gt hx hb hdg (x_jp_spec ht) (fun z => absurd z (of_decide_eq_false hc)) (fun _ => ih dp k _ q _ _ h cn sn w2 post p e R s m args below meth c H locs ls hq hC h3 hw2 hI hl hS)
    · exact lv_icmp_le hx hb hdg (x_jp_spec ht) (fun _ => ih dp k _ q _ _ h cn sn w2 post p e R s m args below meth c H locs ls hq hC h3 hw2 hI hl hS) (fun z => absurd (of_decide_eq_true hc) z)
    · exact lv_icmp_le hx hb hdg (x_jp_spec ht) (fun z => absurd z (of_decide_eq_false hc)) (fun _ => ih dp k _ q _ _ h cn sn w2 post p e R s m args below meth c H locs ls hq hC h3 hw2 hI hl hS)
  case ifnull o =>
    obtain rfl := x_len1 hlen rfl
    try dsimp only at hOk
    rcases S with _ | ⟨a0 | a, S⟩
    · exact (x_bad hOk hw).elim
    · exact (x_bad hOk hw).elim
    try dsimp only at hOk
    rcases ht : x_jp pc o with _ | t
    · rw [ht] at hOk
      rcases a with _ | a
      · exact (x_bad hOk hw).elim
      · exact lv_ifnull hx hb hdg (ih dp k _ q _ _ h cn sn w post p e R s m args below meth c H locs ls hq hC hOk hw hI hl hS)
    rw [ht] at hOk
    rcases a with _ | a
    · exact lv_ifnullN hx hb hdg (x_jp_spec ht) (ih dp k _ q _ _ h cn sn w post p e R s m args below meth c H locs ls hq hC hOk hw hI hl hS)
    · exact lv_ifnull hx hb hdg (ih dp k _ q _ _ h cn sn w post p e R s m args below meth c H locs ls hq hC hOk hw hI hl hS)
  case ifnonnull o =>
    obtain rfl := x_len1 hlen rfl
    try dsimp only at hOk
    rcases S with _ | ⟨a0 | a, S⟩
    · exact (x_bad hOk hw).elim
    · exact (x_bad hOk hw).elim
    try dsimp only at hOk
    rcases ht : x_jp pc o with _ | t
    · rw [ht] at hOk
      rcases a with _ | a
      · exact lv_ifnonnullN hx hb hdg (ih dp k _ q _ _ h cn sn w post p e R s m args below meth c H locs ls hq hC hOk hw hI hl hS)
      · exact (x_bad hOk hw).elim
    rw [ht] at hOk
    rcases a with _ | a
    · exact lv_ifnonnullN hx hb hdg (ih dp k _ q _ _ h cn sn w post p e R s m args below meth c H locs ls hq hC hOk hw hI hl hS)
    · exact lv_ifnonnull hx hb hdg (x_jp_spec ht) (ih dp k _ q _ _ h cn sn w post p e R s m args below meth c H locs ls hq hC hOk hw hI hl hS)
  case lookupswitch df ps =>
    try dsimp only at hOk
    rcases S with _ | ⟨a | a0, S⟩
    · exact (x_bad hOk hw).elim
    rotate_left
    · exact (x_bad hOk hw).elim
    try dsimp only at hOk
    obtain ⟨hsr, hO⟩ := x_if hOk hw
    obtain ⟨w2, hw2, h3⟩ := x_sw_spec hd _ w hO hw
    try dsimp only at h3
    rcases ht : x_jp pc (Op.lookupswitch.offset ps.toList df (dEv d a).toInt) with _ | t
    · rw [ht] at h3
      exact (x_bad h3 hw2).elim
    rw [ht] at h3
    try dsimp only at h3
    exact lv_lookup hx hb hdg hsr rfl (x_jp_spec ht) (ih dp k _ q _ _ h cn sn w2 post p e R s m args below meth c H locs ls hq hC h3 hw2 hI hl hS)
  case tableswitch df lo hi os =>
    try dsimp only at hOk
    rcases S with _ | ⟨a | a0, S⟩
    · exact (x_bad hOk hw).elim
    rotate_left
    · exact (x_bad hOk hw).elim
    try dsimp only at hOk
    obtain ⟨hsr, hO⟩ := x_if hOk hw
    obtain ⟨w2, hw2, h3⟩ := x_sw_spec hd _ w hO hw
    try dsimp only at h3
    rcases ht : x_jp pc (Op.lookupswitch.offset (x_tp lo os.toList) df (dEv d a).toInt) with _ | t
    · rw [ht] at h3
      exact (x_bad h3 hw2).elim
    rw [ht] at h3
    try dsimp only at h3
    have hsz : os.toList.length = os.size := by simp
    by_cases hin : (dEv d a).toInt < lo ∨ hi < (dEv d a).toInt
    · rw [x_tp_out df os.toList lo (dEv d a).toInt (by omega)] at ht
      exact lv_tableOut hx hb hdg hin (x_jp_spec ht) (ih dp k _ q _ _ h cn sn w2 post p e R s m args below meth c H locs ls hq hC h3 hw2 hI hl hS)
    · have hg := x_tp_in df os.toList lo (dEv d a).toInt (by omega) (by omega)
      exact lv_tableIn hx hb hdg (by omega) (by omega) (by rw [← Array.getElem?_toList]; exact hg) (x_jp_spec ht) (ih dp k _ q _ _ h cn sn w2 post p e R s m args below meth c H locs ls hq hC h3 hw2 hI hl hS)
  case getfield ix =>
    obtain rfl := x_len1 hlen rfl
    try dsimp only at hOk
    rcases S with _ | ⟨a0 | (_ | a), S⟩
    · exact (x_bad hOk hw).elim
    · exact (x_bad hOk hw).elim
    · exact (x_bad hOk hw).elim
    try dsimp only at hOk
    by_cases hba : 1000000 < a
    · rw [if_pos hba] at hOk
      rcases hf : oFl ot a (mO q) ix with _ | v
      · rw [hf] at hOk
        exact (x_bad hOk hw).elim
      rw [hf] at hOk
      try dsimp only at hOk
      obtain ⟨z1, C, n, dd, z2, z3⟩ := hZ.2.1 _ _ _ _ hf
      have g := ih dp k _ q _ _ h cn sn w post p e R s m args below meth c H locs ls hq hC hOk hw hI hl hS
      rw [List.map_cons, x_ov_spec hd.1 z1] at g
      rw [List.map_cons]
      simp only [x_rv]
      rw [x_amo (by omega)]
      exact vk_getf hx hb (z3 s s.heap hE.2.2) hS hown (hts _ z2) (fun _ z => z) hdg g
    rw [if_neg hba] at hOk
    rcases hf : tFld tb (mO q) ix with _ | ⟨ci, j⟩
    · rw [hf] at hOk
      exact (x_bad hOk hw).elim
    rw [hf] at hOk
    try dsimp only at hOk
    rcases ha : h[a]? with _ | z
    · rw [ha] at hOk
      exact (x_bad hOk hw).elim
    rw [ha] at hOk
    rcases z with ⟨c2, fs⟩ | ⟨z1, z2⟩
    rotate_left
    · exact (x_bad hOk hw).elim
    try dsimp only at hOk
    rcases hcc : decide (c2 = ci) with _ | _
    · rw [hcc] at hOk
      exact (x_bad hOk hw).elim
    rw [hcc] at hOk
    rcases hv : fs[j]? with _ | v
    · rw [hv] at hOk
      exact (x_bad hOk hw).elim
    rw [hv] at hOk
    try dsimp only at hOk
    have hcc2 := of_decide_eq_true hcc
    subst hcc2
    rw [List.map_cons]
    simp only [x_rv]
    rw [x_amh hI ha]
    exact x_getf hx hb hts hT hown hE.1 hI ha hf hv hdg (ih dp k _ q _ _ h cn sn w post p e R s m args below meth c H locs ls hq hC hOk hw hI hl hS)
  case getstatic ix =>
    obtain rfl := x_len1 hlen rfl
    try dsimp only at hOk
    rcases hf : oGs ot (mO q) ix with _ | v
    · rw [hf] at hOk
      exact (x_bad hOk hw).elim
    rw [hf] at hOk
    try dsimp only at hOk
    obtain ⟨z1, C, n, dd, z2, z3⟩ := hZ.2.2.1 _ _ _ hf
    have g := ih dp k _ q _ _ h cn sn w post p e R s m args below meth c H locs ls hq hC hOk hw hI hl hS
    rw [List.map_cons, x_ov_spec hd.1 z1] at g
    exact va_gets hx hb (z3 s s.heap hE.2.2) hS hown (hts _ z2) (fun _ z => z) hdg g
  case arraylength =>
    obtain rfl := x_len1 hlen rfl
    try dsimp only at hOk
    rcases S with _ | ⟨a0 | (_ | a), S⟩
    · exact (x_bad hOk hw).elim
    · exact (x_bad hOk hw).elim
    · exact (x_bad hOk hw).elim
    try dsimp only at hOk
    by_cases hba : a = 1000000
    · subst hba
      rw [if_pos rfl] at hOk
      obtain ⟨z1, z2⟩ := hZ.2.2.2.2.1 s s.heap hE.2.2
      have g := ih dp k _ q _ _ h cn sn w post p e R s m args below meth c H locs ls hq hC hOk hw hI hl hS
      rw [List.map_cons] at g
      simp only [x_rv] at g
      rw [hd.1] at g
      rw [List.map_cons]
      simp only [x_rv]
      rw [x_amo (by omega)]
      exact va_slen hx hb z1 (Nat.lt_of_lt_of_le z2 hbz) (Nat.not_le.mpr z2) hS hdg g
    rw [if_neg hba] at hOk
    rcases hf : oBy ot a with _ | bs
    · rw [hf] at hOk
      exact (x_bad hOk hw).elim
    rw [hf] at hOk
    try dsimp only at hOk
    obtain ⟨hb6, hO⟩ := x_if hOk hw
    have g := ih dp k _ q _ _ h cn sn w post p e R s m args below meth c H locs ls hq hC hO hw hI hl hS
    rw [List.map_cons] at g
    simp only [x_rv] at g
    rw [hd.1] at g
    rw [List.map_cons]
    simp only [x_rv]
    rw [x_amo (by omega)]
    exact va_tlen hx hb (hZ.2.2.2.1 _ _ hf s s.heap hE.2.2) hS rfl hdg g
  case i2c =>
    obtain rfl := x_len1 hlen rfl
    try dsimp only at hOk
    rcases S with _ | ⟨a | a0, S⟩
    · exact (x_bad hOk hw).elim
    rotate_left
    · exact (x_bad hOk hw).elim
    try dsimp only at hOk
    exact lv_i2c hx hb (v := dEv d (dUn d 2 a)) hdg (by rw [hd.2.2.1]; rfl) (ih dp k _ q _ _ h cn sn w post p e R s m args below meth c H locs ls hq hC hOk hw hI hl hS)
  case ineg =>
    obtain rfl := x_len1 hlen rfl
    try dsimp only at hOk
    rcases S with _ | ⟨a | a0, S⟩
    · exact (x_bad hOk hw).elim
    rotate_left
    · exact (x_bad hOk hw).elim
    try dsimp only at hOk
    have eb : dEv d (dUn d 3 a) = x_un 3 (dEv d a) := hd.2.2.1 3 a
    refine lv_ineg hx hb hdg (x := dEv d a) ?_
    have g := ih dp k _ q _ _ h cn sn w post p e R s m args below meth c H locs ls hq hC hOk hw hI hl hS
    rw [List.map_cons] at g
    simp only [x_rv] at g
    rw [eb] at g
    exact g
  case iushr =>
    obtain rfl := x_len1 hlen rfl
    try dsimp only at hOk
    rcases S with _ | ⟨b | a0, S⟩
    · exact (x_bad hOk hw).elim
    rotate_left
    · exact (x_bad hOk hw).elim
    try dsimp only at hOk
    rcases S with _ | ⟨a | a0, S⟩
    · exact (x_bad hOk hw).elim
    rotate_left
    · exact (x_bad hOk hw).elim
    try dsimp only at hOk
    exact lv_iushr hx hb (v := dEv d (dBin d 10 a b)) hdg (by rw [hd.2.1]; rfl) (ih dp k _ q _ _ h cn sn w post p e R s m args below meth c H locs ls hq hC hOk hw hI hl hS)
  case putfield ix =>
    obtain rfl := x_len1 hlen rfl
    try dsimp only at hOk
    rcases S with _ | ⟨v, S⟩
    · exact (x_bad hOk hw).elim
    try dsimp only at hOk
    rcases S with _ | ⟨a0 | (_ | a), S⟩
    · exact (x_bad hOk hw).elim
    · exact (x_bad hOk hw).elim
    · exact (x_bad hOk hw).elim
    try dsimp only at hOk
    rcases hf : tFld tb (mO q) ix with _ | ⟨ci, j⟩
    · rw [hf] at hOk
      exact (x_bad hOk hw).elim
    rw [hf] at hOk
    try dsimp only at hOk
    rcases ha : h[a]? with _ | z
    · rw [ha] at hOk
      exact (x_bad hOk hw).elim
    rw [ha] at hOk
    rcases z with ⟨c2, fs⟩ | ⟨z1, z2⟩
    rotate_left
    · exact (x_bad hOk hw).elim
    try dsimp only at hOk
    rcases hty : (tFt tb ci)[j]? with _ | ty
    · rw [hty] at hOk
      exact (x_bad hOk hw).elim
    rw [hty] at hOk
    try dsimp only at hOk
    obtain ⟨hcs, hO⟩ := x_if hOk hw
    simp only [Bool.and_eq_true, Bool.or_eq_true, decide_eq_true_eq, Bool.not_eq_true'] at hcs
    obtain ⟨⟨⟨e1, e2⟩, e3⟩, e4⟩ := hcs
    clear hOk
    subst e1
    obtain ⟨f1, f2⟩ := x_fit_spec hd (am := x_am base sa) e2
    rw [List.map_cons, List.map_cons]
    have ea : x_rv d (x_am base sa) (.inr (some a)) = .ref (base + a) := congrArg Value.ref (x_amh hI ha)
    rw [ea]
    have hqq := hT.1 k q hq
    refine x_putf hx hb hts hT hown hE.1 hI hS ha hf hty e3 f1 f2 (e4.imp id (fun z => ⟨hnm z.1, fun r' hr' => ?_⟩)) hdg (fun H1 locs1 hI1 hS1 => ih dp k _ q _ _ _ cn sn w post p e R s m args below meth c H1 locs1 ls hq hC hO hw hI1 hl hS1)
    rw [hqq.2.2.2.2.2.1]
    rw [← z.2] at hr'
    exact hqq.2.2.2.2.2.2.2.2.1 z.1 r' hr'
  case iaload =>
    obtain rfl := x_len1 hlen rfl
    try dsimp only at hOk
    rcases S with _ | ⟨b | a0, S⟩
    · exact (x_bad hOk hw).elim
    rotate_left
    · exact (x_bad hOk hw).elim
    try dsimp only at hOk
    rcases S with _ | ⟨a0 | (_ | a), S⟩
    · exact (x_bad hOk hw).elim
    · exact (x_bad hOk hw).elim
    · exact (x_bad hOk hw).elim
    try dsimp only at hOk
    by_cases hba : a = 1000000
    · subst hba
      rw [if_pos rfl] at hOk
      obtain ⟨w2, hw2, hi, h0, h3⟩ := x_ix_spec hd hOk hw
      obtain ⟨z1, z2⟩ := hZ.2.2.2.2.1 s s.heap hE.2.2
      have g := ih dp k _ q _ _ h cn sn w2 post p e R s m args below meth c H locs ls hq hC h3 hw2 hI hl hS
      rw [List.map_cons] at g
      simp only [x_rv] at g
      rw [List.map_cons, List.map_cons]
      simp only [x_rv]
      rw [x_amo (by omega)]
      exact va_sld hx hb z1 (Nat.lt_of_lt_of_le z2 hbz) (Nat.not_le.mpr z2) hS (fun z => z.elim h0 (fun z => by omega)) hdg g
    rw [if_neg hba] at hOk
    rcases ha : h[a]? with _ | z
    · rw [ha] at hOk
      exact (x_bad hOk hw).elim
    rw [ha] at hOk
    rcases z with ⟨z1, z2⟩ | ⟨t, vs⟩
    · exact (x_bad hOk hw).elim
    rcases t with _ | t
    rotate_left
    · exact (x_bad hOk hw).elim
    try dsimp only at hOk
    obtain ⟨w2, hw2, hi, h0, h3⟩ := x_ix_spec hd hOk hw
    rcases hv : vs[(dEv d b).toNatClampNeg]? with _ | v
    · rw [hv] at h3
      exact (x_bad h3 hw2).elim
    rw [hv] at h3
    try dsimp only at h3
    rw [List.map_cons, List.map_cons]
    have ea : x_rv d (x_am base sa) (.inr (some a)) = .ref (base + a) := congrArg Value.ref (x_amh hI ha)
    rw [ea]
    exact x_iald hx hb hE.1 hY hT.2.2.2.2.2.1.2.2.1 hI ha h0 hi hv hdg (ih dp k _ q _ _ h cn sn w2 post p e R s m args below meth c H locs ls hq hC h3 hw2 hI hl hS)
  case baload =>
    obtain rfl := x_len1 hlen rfl
    try dsimp only at hOk
    rcases S with _ | ⟨b | a0, S⟩
    · exact (x_bad hOk hw).elim
    rotate_left
    · exact (x_bad hOk hw).elim
    try dsimp only at hOk
    rcases S with _ | ⟨a0 | (_ | a), S⟩
    · exact (x_bad hOk hw).elim
    · exact (x_bad hOk hw).elim
    · exact (x_bad hOk hw).elim
    try dsimp only at hOk
    by_cases hba : 1000000 < a
    · rw [if_pos hba] at hOk
      rcases hf : oBy ot a with _ | bs
      · rw [hf] at hOk
        exact (x_bad hOk hw).elim
      rw [hf] at hOk
      try dsimp only at hOk
      obtain ⟨w2, hw2, hi, h0, h3⟩ := x_ix_spec hd hOk hw
      have g := ih dp k _ q _ _ h cn sn w2 post p e R s m args below meth c H locs ls hq hC h3 hw2 hI hl hS
      rw [List.map_cons] at g
      simp only [x_rv] at g
      rw [hd.1] at g
      rw [List.map_cons, List.map_cons]
      simp only [x_rv]
      rw [x_amo (by omega)]
      exact va_tb hx hb (hZ.2.2.2.1 _ _ hf s s.heap hE.2.2) hS (fun z => z.elim h0 (fun z => by omega)) rfl hdg g
    rw [if_neg hba] at hOk
    rcases ha : h[a]? with _ | z
    · rw [ha] at hOk
      exact (x_bad hOk hw).elim
    rw [ha] at hOk
    rcases z with ⟨z1, z2⟩ | ⟨t, vs⟩
    · exact (x_bad hOk hw).elim
    rcases t with _ | _ | t
    · exact (x_bad hOk hw).elim
    rotate_left
    · exact (x_bad hOk hw).elim
    try dsimp only at hOk
    obtain ⟨w2, hw2, hi, h0, h3⟩ := x_ix_spec hd hOk hw
    rcases hv : vs[(dEv d b).toNatClampNeg]? with _ | v
    · rw [hv] at h3
      exact (x_bad h3 hw2).elim
    rw [hv] at h3
    try dsimp only at h3
    rw [List.map_cons, List.map_cons]
    have ea : x_rv d (x_am base sa) (.inr (some a)) = .ref (base + a) := congrArg Value.ref (x_amh hI ha)
    rw [ea]
    exact x_zald hx hb hE.1 hY hT.2.2.2.2.2.1.2.2.2 hI ha h0 hi hv hdg (ih dp k _ q _ _ h cn sn w2 post p e R s m args below meth c H locs ls hq hC h3 hw2 hI hl hS)
  case aaload =>
    obtain rfl := x_len1 hlen rfl
    try dsimp only at hOk
    rcases S with _ | ⟨b | a0, S⟩
    · exact (x_bad hOk hw).elim
    rotate_left
    · exact (x_bad hOk hw).elim
    try dsimp only at hOk
    rcases S with _ | ⟨a0 | (_ | a), S⟩
    · exact (x_bad hOk hw).elim
    · exact (x_bad hOk hw).elim
    · exact (x_bad hOk hw).elim
    try dsimp only at hOk
    rcases ha : h[a]? with _ | z
    · rw [ha] at hOk
      exact (x_bad hOk hw).elim
    rw [ha] at hOk
    rcases z with ⟨z1, z2⟩ | ⟨t, vs⟩
    · exact (x_bad hOk hw).elim
    try dsimp only at hOk
    obtain ⟨hty, hO⟩ := x_if hOk hw
    obtain ⟨ty, ht, hr2⟩ := Option.map_eq_some_iff.mp hty
    obtain ⟨w2, hw2, hi, h0, h3⟩ := x_ix_spec hd hO hw
    rcases hv : vs[(dEv d b).toNatClampNeg]? with _ | v
    · rw [hv] at h3
      exact (x_bad h3 hw2).elim
    rw [hv] at h3
    try dsimp only at h3
    rw [List.map_cons, List.map_cons]
    have ea : x_rv d (x_am base sa) (.inr (some a)) = .ref (base + a) := congrArg Value.ref (x_amh hI ha)
    rw [ea]
    exact x_aald hx hb hE.1 hY ht hr2 hI ha h0 hi hv hdg (ih dp k _ q _ _ h cn sn w2 post p e R s m args below meth c H locs ls hq hC h3 hw2 hI hl hS)
  case iastore =>
    obtain rfl := x_len1 hlen rfl
    try dsimp only at hOk
    rcases S with _ | ⟨v | a0, S⟩
    · exact (x_bad hOk hw).elim
    rotate_left
    · exact (x_bad hOk hw).elim
    try dsimp only at hOk
    rcases S with _ | ⟨b | a0, S⟩
    · exact (x_bad hOk hw).elim
    rotate_left
    · exact (x_bad hOk hw).elim
    try dsimp only at hOk
    rcases S with _ | ⟨a0 | (_ | a), S⟩
    · exact (x_bad hOk hw).elim
    · exact (x_bad hOk hw).elim
    · exact (x_bad hOk hw).elim
    try dsimp only at hOk
    rcases ha : h[a]? with _ | z
    · rw [ha] at hOk
      exact (x_bad hOk hw).elim
    rw [ha] at hOk
    rcases z with ⟨z1, z2⟩ | ⟨t, vs⟩
    · exact (x_bad hOk hw).elim
    rcases t with _ | t
    rotate_left
    · exact (x_bad hOk hw).elim
    try dsimp only at hOk
    obtain ⟨w2, hw2, hi, h0, h3⟩ := x_ix_spec hd hOk hw
    rw [List.map_cons, List.map_cons, List.map_cons]
    have ea : x_rv d (x_am base sa) (.inr (some a)) = .ref (base + a) := congrArg Value.ref (x_amh hI ha)
    rw [ea]
    exact x_iast (v := .inl v) hx hb hE.1 hY hT.2.2.2.2.2.1.2.2.1 hI hS ha h0 hi rfl hdg (fun H1 locs1 hI1 hS1 => ih dp k _ q _ _ _ cn sn w2 post p e R s m args below meth c H1 locs1 ls hq hC h3 hw2 hI1 hl hS1)
  case bastore =>
    obtain rfl := x_len1 hlen rfl
    try dsimp only at hOk
    rcases S with _ | ⟨v | a0, S⟩
    · exact (x_bad hOk hw).elim
    rotate_left
    · exact (x_bad hOk hw).elim
    try dsimp only at hOk
    rcases S with _ | ⟨b | a0, S⟩
    · exact (x_bad hOk hw).elim
    rotate_left
    · exact (x_bad hOk hw).elim
    try dsimp only at hOk
    rcases S with _ | ⟨a0 | (_ | a), S⟩
    · exact (x_bad hOk hw).elim
    · exact (x_bad hOk hw).elim
    · exact (x_bad hOk hw).elim
    try dsimp only at hOk
    rcases ha : h[a]? with _ | z
    · rw [ha] at hOk
      exact (x_bad hOk hw).elim
    rw [ha] at hOk
    rcases z with ⟨z1, z2⟩ | ⟨t, vs⟩
    · exact (x_bad hOk hw).elim
    rcases t with _ | _ | t
    · exact (x_bad hOk hw).elim
    rotate_left
    · exact (x_bad hOk hw).elim
    try dsimp only at hOk
    obtain ⟨hfit, hO⟩ := x_if hOk hw
    have hx01 : dEv d v = 0 ∨ dEv d v = 1 := x_bool hd hfit
    obtain ⟨w2, hw2, hi, h0, h3⟩ := x_ix_spec hd hO hw
    rw [List.map_cons, List.map_cons, List.map_cons]
    have ea : x_rv d (x_am base sa) (.inr (some a)) = .ref (base + a) := congrArg Value.ref (x_amh hI ha)
    rw [ea]
    exact x_zast (v := .inl v) hx hb hE.1 hY hT.2.2.2.2.2.1.2.2.2 hI hS ha h0 hi rfl hx01 hdg (fun H1 locs1 hI1 hS1 => ih dp k _ q _ _ _ cn sn w2 post p e R s m args below meth c H1 locs1 ls hq hC h3 hw2 hI1 hl hS1)
  case aastore =>
    obtain rfl := x_len1 hlen rfl
    try dsimp only at hOk
    rcases S with _ | ⟨a0 | (_ | v), S⟩
    · exact (x_bad hOk hw).elim
    · exact (x_bad hOk hw).elim
    · exact (x_bad hOk hw).elim
    try dsimp only at hOk
    rcases S with _ | ⟨b | a0, S⟩
    · exact (x_bad hOk hw).elim
    rotate_left
    · exact (x_bad hOk hw).elim
    try dsimp only at hOk
    rcases S with _ | ⟨a0 | (_ | a), S⟩
    · exact (x_bad hOk hw).elim
    · exact (x_bad hOk hw).elim
    · exact (x_bad hOk hw).elim
    try dsimp only at hOk
    rcases ha : h[a]? with _ | z
    · rw [ha] at hOk
      exact (x_bad hOk hw).elim
    rw [ha] at hOk
    rcases z with ⟨z1, z2⟩ | ⟨t, vs⟩
    · exact (x_bad hOk hw).elim
    rcases hv : h[v]? with _ | z
    · rw [hv] at hOk
      exact (x_bad hOk hw).elim
    rw [hv] at hOk
    rcases z with ⟨ci, fs⟩ | ⟨z1, z2⟩
    rotate_left
    · exact (x_bad hOk hw).elim
    try dsimp only at hOk
    rcases ht : tyl[t]? with _ | ty
    · rw [ht] at hOk
      exact (x_bad hOk hw).elim
    rw [ht] at hOk
    cases ty
    case object C =>
      try dsimp only at hOk
      obtain ⟨hC2, hO⟩ := x_if hOk hw
      obtain ⟨w2, hw2, hi, h0, h3⟩ := x_ix_spec hd hO hw
      rw [List.map_cons, List.map_cons, List.map_cons]
      have ea : x_rv d (x_am base sa) (.inr (some a)) = .ref (base + a) := congrArg Value.ref (x_amh hI ha)
      rw [ea]
      have ev : x_rv d (x_am base sa) (.inr (some v)) = .ref (base + v) := congrArg Value.ref (x_amh hI hv)
      rw [ev]
      obtain ⟨r2, hr2, -⟩ := hI.2.2 v _ hv
      exact x_aast (v := .inr (some v)) hx hb hE.1 hY ht hI hS ha hv hr2 (by rw [of_decide_eq_true hC2]; exact (hT.2.2.1 ci r2 hr2).2.2.2.2.2.2.2.symm) h0 hi ev hdg (fun H1 locs1 hI1 hS1 => ih dp k _ q _ _ _ cn sn w2 post p e R s m args below meth c H1 locs1 ls hq hC h3 hw2 hI1 hl hS1)
    all_goals exact (x_bad hOk hw).elim
  case new ix =>
    obtain rfl := x_len1 hlen rfl
    try dsimp only at hOk
    rcases hf : tNw tb (mO q) ix with _ | ci
    · rw [hf] at hOk
      exact (x_bad hOk hw).elim
    rw [hf] at hOk
    try dsimp only at hOk
    obtain ⟨hcs, hO⟩ := x_if hOk hw
    simp only [Bool.and_eq_true, decide_eq_true_eq] at hcs
    obtain ⟨⟨e1, e2⟩, e3⟩ := hcs
    refine x_new (fs := (tFt tb ci).map (fun t => x_def d t.1)) hx hb hts hT hown hE.1 hI hS hf e3 (Nat.le_trans e1 hR3) (Nat.le_trans e2 hR4) ?_ hdg (fun H1 hI1 hS1 => ?_)
    · rw [List.map_map]
      refine List.map_congr_left fun t ht => ?_
      show x_rv d (x_am base sa) (x_def d t.1) = defaultValue t.1
      exact x_def_spec hd t.1 (x_ftok hT hf t ht)
    · have g := ih dp k _ q _ _ _ (cn + 1) (sn + (tFt tb ci).length) w post p e R s m args below meth c H1 locs ls hq hC hO hw hI1 hl hS1
      rw [List.map_cons] at g
      simp only [x_rv] at g
      rw [x_aml (by omega)] at g
      exact g
  case newarray ty =>
    obtain rfl := x_len1 hlen rfl
    try dsimp only at hOk
    rcases S with _ | ⟨b | a0, S⟩
    · exact (x_bad hOk hw).elim
    rotate_left
    · exact (x_bad hOk hw).elim
    try dsimp only at hOk
    cases ty
    case int =>
      try dsimp only at hOk
      rcases hv : dKst d b with _ | v
      · rw [hv] at hOk
        exact (x_bad hOk hw).elim
      rw [hv] at hOk
      try dsimp only at hOk
      obtain ⟨hcs, hO⟩ := x_if hOk hw
      simp only [Bool.and_eq_true, decide_eq_true_eq] at hcs
      obtain ⟨⟨⟨⟨e0, e1⟩, e2⟩, e3⟩, e4⟩ := hcs
      have eb := hd.2.2.2.1 b v hv
      have ez : x_rv d (x_am base sa) (.inl (dKc d 0)) = .int 0 := congrArg Value.int (hd.1 0)
      rw [List.map_cons]
      simp only [x_rv]
      rw [eb]
      refine x_newa (atype := .int) (t := 0) (v := .inl (dKc d 0)) hx hb hE.1 hY hT.2.2.2.2.2.1.2.2.1 (hts _ hT.2.2.2.2.2.1.1) (Or.inl rfl) hI hS e4 e0 rfl e1 (Nat.le_trans e2 hR3) (Nat.le_trans e3 hR4) ez hdg (fun H1 hI1 hS1 => ?_)
      have g := ih dp k _ q _ _ _ (cn + 1) (sn + v.toNatClampNeg) w post p e R s m args below meth c H1 locs ls hq hC hO hw hI1 hl hS1
      rw [List.map_cons] at g
      simp only [x_rv] at g
      rw [x_aml (by omega)] at g
      exact g
    case boolean =>
      try dsimp only at hOk
      rcases hv : dKst d b with _ | v
      · rw [hv] at hOk
        exact (x_bad hOk hw).elim
      rw [hv] at hOk
      try dsimp only at hOk
      obtain ⟨hcs, hO⟩ := x_if hOk hw
      simp only [Bool.and_eq_true, decide_eq_true_eq] at hcs
      obtain ⟨⟨⟨⟨e0, e1⟩, e2⟩, e3⟩, e4⟩ := hcs
      have eb := hd.2.2.2.1 b v hv
      have ez : x_rv d (x_am base sa) (.inl (dKc d 0)) = .int 0 := congrArg Value.int (hd.1 0)
      rw [List.map_cons]
      simp only [x_rv]
      rw [eb]
      refine x_newa (atype := .boolean) (t := 1) (v := .inl (dKc d 0)) hx hb hE.1 hY hT.2.2.2.2.2.1.2.2.2 (hts _ hT.2.2.2.2.2.1.2.1) (Or.inr rfl) hI hS e4 e0 rfl e1 (Nat.le_trans e2 hR3) (Nat.le_trans e3 hR4) ez hdg (fun H1 hI1 hS1 => ?_)
      have g := ih dp k _ q _ _ _ (cn + 1) (sn + v.toNatClampNeg) w post p e R s m args below meth c H1 locs ls hq hC hO hw hI1 hl hS1
      rw [List.map_cons] at g
      simp only [x_rv] at g
      rw [x_aml (by omega)] at g
      exact g
    all_goals exact (x_bad hOk hw).elim
  case anewarray ix =>
    obtain rfl := x_len1 hlen rfl
    try dsimp only at hOk
    rcases S with _ | ⟨b | a0, S⟩
    · exact (x_bad hOk hw).elim
    rotate_left
    · exact (x_bad hOk hw).elim
    try dsimp only at hOk
    rcases hty : tAn tb (mO q) ix with _ | t
    · rw [hty] at hOk
      exact (x_bad hOk hw).elim
    rw [hty] at hOk
    try dsimp only at hOk
    rcases hv : dKst d b with _ | v
    · rw [hv] at hOk
      exact (x_bad hOk hw).elim
    rw [hv] at hOk
    try dsimp only at hOk
    obtain ⟨hcs, hO⟩ := x_if hOk hw
    simp only [Bool.and_eq_true, decide_eq_true_eq] at hcs
    obtain ⟨⟨⟨⟨e0, e1⟩, e2⟩, e3⟩, e4⟩ := hcs
    have eb := hd.2.2.2.1 b v hv
    obtain ⟨C, k1, k2, k3⟩ := hT.2.2.2.2.2.2.1 _ _ _ hty
    rw [List.map_cons]
    simp only [x_rv]
    rw [eb]
    refine x_anew (v := .inr none) hx hb hE.1 hY k1 hown (hts _ k2) (x_tn hT hE k3) hI hS e4 e0 rfl e1 (Nat.le_trans e2 hR3) (Nat.le_trans e3 hR4) rfl hdg (fun H1 hI1 hS1 => ?_)
    have g := ih dp k _ q _ _ _ (cn + 1) (sn + v.toNatClampNeg) w post p e R s m args below meth c H1 locs ls hq hC hO hw hI1 hl hS1
    rw [List.map_cons] at g
    simp only [x_rv] at g
    rw [x_aml (by omega)] at g
    exact g
  case multianewarray ix dm =>
    obtain rfl := x_len1 hlen rfl
    try dsimp only at hOk
    rcases S with _ | ⟨b2 | a0, S⟩
    · exact (x_bad hOk hw).elim
    rotate_left
    · exact (x_bad hOk hw).elim
    try dsimp only at hOk
    rcases S with _ | ⟨b1 | a0, S⟩
    · exact (x_bad hOk hw).elim
    rotate_left
    · exact (x_bad hOk hw).elim
    try dsimp only at hOk
    rcases hty : tMn tb (mO q) ix with _ | ⟨t2, t1⟩
    · rw [hty] at hOk
      exact (x_bad hOk hw).elim
    rw [hty] at hOk
    try dsimp only at hOk
    rcases hv1 : dKst d b1 with _ | v1
    · rw [hv1] at hOk
      exact (x_bad hOk hw).elim
    rw [hv1] at hOk
    try dsimp only at hOk
    rcases hv2 : dKst d b2 with _ | v2
    · rw [hv2] at hOk
      exact (x_bad hOk hw).elim
    rw [hv2] at hOk
    try dsimp only at hOk
    obtain ⟨hcs, hO⟩ := x_if hOk hw
    simp only [Bool.and_eq_true, decide_eq_true_eq] at hcs
    obtain ⟨⟨⟨⟨⟨⟨⟨⟨e0, e1⟩, e2⟩, e3⟩, e4⟩, e5⟩, e6⟩, e7⟩, e8⟩ := hcs
    clear hOk
    subst e0
    have eb1 := hd.2.2.2.1 b1 v1 hv1
    have eb2 := hd.2.2.2.1 b2 v2 hv2
    obtain ⟨ty, k1, k2, k3, k4, k5, k6⟩ := hT.2.2.2.2.2.2.2.1 _ _ _ _ hty
    rw [List.map_cons, List.map_cons]
    simp only [x_rv]
    rw [eb1, eb2]
    refine x_multi (v := .inl (dKc d 0)) hx hb hE.1 hY k1 k3 k2 hown (hts _ k4) (x_tn hT hE k5) (hts _ k6) hI hS e8 e1 e2 rfl rfl e3 e4 (Nat.le_trans e6 hR3) (Nat.le_trans e7 hR4) (congrArg Value.int (hd.1 0)) (fun j hj => congrArg Value.ref (x_aml (by omega))) hdg (fun H1 hI1 hS1 => ?_)
    have g := ih dp k _ q _ _ _ (cn + 1 + v1.toNatClampNeg) (sn + v1.toNatClampNeg + v1.toNatClampNeg * v2.toNatClampNeg) w post p e R s m args below meth c H1 locs ls hq hC hO hw hI1 hl hS1
    rw [List.map_cons] at g
    simp only [x_rv] at g
    rw [x_aml (by omega)] at g
    exact g
  case ireturn =>
    obtain rfl := x_len1 hlen rfl
    try dsimp only at hOk
    rcases S with _ | ⟨b | a0, S⟩
    · exact (x_bad hOk hw).elim
    rotate_left
    · exact (x_bad hOk hw).elim
    try dsimp only at hOk
    rcases S with _ | ⟨b2, S⟩
    rotate_left
    · exact (x_bad hOk hw).elim
    try dsimp only at hOk
    obtain ⟨hcs, hO⟩ := x_if hOk hw
    simp only [Bool.and_eq_true, decide_eq_true_eq] at hcs
    obtain ⟨⟨e0, e1⟩, e2⟩ := hcs
    obtain ⟨ty, k1, k2⟩ := x_ret_spec hd e0
    exact W.widen e1 e2 (W.zret hx hb (hr.trans k1) k2 (fun t ht _ => ⟨⟨w, some (.inl b), h, hw, hO, rfl, by rw [ht]; exact hI⟩, hS.F ht⟩) hS.2.2 hdg hlk)
  case areturn =>
    obtain rfl := x_len1 hlen rfl
    try dsimp only at hOk
    rcases S with _ | ⟨a0 | b, S⟩
    · exact (x_bad hOk hw).elim
    · exact (x_bad hOk hw).elim
    try dsimp only at hOk
    rcases S with _ | ⟨b2, S⟩
    rotate_left
    · exact (x_bad hOk hw).elim
    try dsimp only at hOk
    obtain ⟨hcs, hO⟩ := x_if hOk hw
    simp only [Bool.and_eq_true, decide_eq_true_eq] at hcs
    obtain ⟨⟨e0, e1⟩, e2⟩ := hcs
    obtain ⟨ty, k1, k2⟩ := x_retr_spec e0
    have hvv : x_rv d (x_am base sa) (.inr b) = .null ∨ ∃ a, x_rv d (x_am base sa) (.inr b) = .ref a := by
      rcases b with _ | b
      · exact Or.inl rfl
      · exact Or.inr ⟨_, rfl⟩
    exact W.widen e1 e2 (W.aret hx hb (hr.trans k1) k2 hvv (fun t ht _ => ⟨⟨w, some (.inr b), h, hw, hO, rfl, by rw [ht]; exact hI⟩, hS.F ht⟩) hS.2.2 hdg hlk)
  case return_ =>
    obtain rfl := x_len1 hlen rfl
    try dsimp only at hOk
    rcases S with _ | ⟨b2, S⟩
    rotate_left
    · exact (x_bad hOk hw).elim
    try dsimp only at hOk
    obtain ⟨hcs, hO⟩ := x_if hOk hw
    simp only [Bool.and_eq_true, decide_eq_true_eq] at hcs
    obtain ⟨⟨e0, e1⟩, e2⟩ := hcs
    exact W.widen e1 e2 (W.vret hx hb (hr.trans e0) (fun t ht _ => ⟨⟨w, none, h, hw, hO, rfl, by rw [ht]; exact hI⟩, hS.F ht⟩) hS.2.2 hdg hlk)
  case invokespecial ix =>
    obtain rfl := x_len1 hlen rfl
    try dsimp only at hOk
    have htn := hT.1 k q hq
    rcases hz : tBi tb (mO q) ix with _ | _ | z
    rotate_left
    · rw [hz] at hOk
      rcases S with _ | ⟨a0 | (_ | a), S⟩
      · exact (x_bad hOk hw).elim
      · exact (x_bad hOk hw).elim
      · exact (x_bad hOk hw).elim
      try dsimp only at hOk
      obtain ⟨hS8, hO⟩ := x_if hOk hw
      have hS8 := of_decide_eq_true hS8
      have hbi := hT.2.2.2.2.2.2.2.2.1
      exact W.objInit hx hb hown (hts _ (hbi.1 _ _ hz)) (hts _ hbi.2.2.1) (hts _ hbi.2.2.2.1) rfl (hl.1.trans hml.symm) rfl hdg (by omega) (by rw [x_cats]; show 2 * 0 + _ + _ ≤ R.locals; omega) (ih dp k _ q _ _ h cn sn w post p e R s m args below meth c H locs ls hq hC hO hw hI hl hS)
    all_goals (
      rw [hz] at hOk
      try dsimp only at hOk
      rcases dp with _ | dp2
      · exact (x_bad hOk hw).elim
      rcases hcal : tCal tb (mO q) ix with _ | ⟨j, so⟩
      · rw [hcal] at hOk
        exact (x_bad hOk hw).elim
      rw [hcal] at hOk
      try dsimp only at hOk
      rcases hq2 : tMth tb j with _ | q2
      · rw [hq2] at hOk
        exact (x_bad hOk hw).elim
      rw [hq2] at hOk
      try dsimp only at hOk
      rcases hdr : S.drop (mNp q2) with _ | ⟨a0 | (_ | a), r⟩
      · rw [hdr] at hOk
        exact (x_bad hOk hw).elim
      · rw [hdr] at hOk
        exact (x_bad hOk hw).elim
      · rw [hdr] at hOk
        exact (x_bad hOk hw).elim
      rw [hdr] at hOk
      try dsimp only at hOk
      obtain ⟨hcs, hO⟩ := x_if hOk hw
      simp only [Bool.and_eq_true, decide_eq_true_eq] at hcs
      obtain ⟨⟨⟨⟨⟨e0, e1⟩, e2⟩, e3⟩, e4⟩, e5⟩ := hcs
      obtain ⟨k1, k2, k3, k4⟩ := (hT.2.2.2.2.1 _ _ _ _ _ hcal hq2).2.2.1 e1
      have hj0 := (hT.2.2.2.2.1 _ _ _ _ _ hcal hq2).1
      obtain ⟨g1, g2, g3, g4, g5, g6, g7, g8, g9, g10⟩ := hT.1 j q2 hq2
      have g2 := g2 hj0
      have g3 := g3 hj0
      have hlen2 : ((S.take (mNp q2)).reverse).length = mNp q2 := by rw [List.length_reverse, List.length_take]; omega
      have hM := x_met (As := .inr (some a) :: (S.take (mNp q2)).reverse) hT ih hq2 (by rw [List.length_cons, hlen2]; exact e3) hO hw
      have hgood := hT.2.2.2.2.2.2.2.2.2.2.1
      have hwds : ∀ z ∈ Jvm.Cond.code (mY q2) (mB q2) (mL q2) (mR q2) :: TS, ∀ (a' : Array Value) (U : State), s.WarmedH U.vm → z.before a' U = true := fun z hz => x_words hts hgood z (by rcases List.mem_cons.mp hz with rfl | hz; exact g2; exact hz)
      have hmS : S.map (x_rv d (x_am base sa)) = (((S.take (mNp q2)).reverse).map (x_rv d (x_am base sa))).reverse ++ Value.ref (x_am base sa a) :: r.map (x_rv d (x_am base sa)) := by
        have h1 : S = S.take (mNp q2) ++ (.inr (some a) :: r) := by rw [← hdr, List.take_append_drop]
        have h2 := congrArg (List.map (x_rv d (x_am base sa))) h1
        rw [List.map_append, List.map_cons] at h2
        rw [h2, List.map_reverse, List.reverse_reverse]
        rfl
      rw [k4] at hM hwds
      refine x_callk (va_runI (nL := mL q) (own := tNm tb (mO q)) (Ts := TS) (As := ((S.take (mNp q2)).reverse).map (x_rv d (x_am base sa))) (rest := r.map (x_rv d (x_am base sa))) (n := mNp q2) (ws := Jvm.Cond.code (mY q2) (mB q2) (mL q2) none :: TS) (bytes := mB q2) (maxL := mL q2) ⟨hx, hb, hml, hown, hts⟩ hM ⟨⟨rfl, rfl, hR1, by show 8 + (mL q2 + 11) + 64 * (dp2 + 1) ≤ R.locals; omega, hwds, List.mem_cons_self, hts _ (by rw [← k4]; exact g2), hts _ g3, g4, fun sig hs => by rw [hs] at g7; exact (Option.some.inj g7).symm, hts _ k1⟩, k3, hts _ k2⟩
        ⟨x_blind hT hX _ _ h, fun U hU hW => ⟨rfl, by rw [hU]; exact hI, by rw [hU]; exact x_env_moved hT hX hW (fun q0 hq0 => hS.2.1 q0 (Nat.lt_of_lt_of_le hq0 hbz) (Nat.not_le.mpr hq0)) hbz hE0⟩⟩ rfl (by rw [List.length_map]; exact hlen2) hl.1 hmS (lv_room (by rw [x_cats]; exact e2)) hdg ⟨Nat.le_trans e4 hR3, Nat.le_trans e5 hR4⟩) hS (fun w2 v h2 H1 locs1 hw2 hO2 hI2 hS2 => ?_)
      rw [x_push_map]
      exact ih (dp2 + 1) k _ q _ _ h2 _ _ w2 post p e R s m args below meth c H1 locs1 ls hq hC hO2 hw2 hI2 hl hS2)
  case invokevirtual ix =>
    obtain rfl := x_len1 hlen rfl
    try dsimp only at hOk
    rcases dp with _ | dp2
    · exact (x_bad hOk hw).elim
    rcases hcal : tCal tb (mO q) ix with _ | ⟨j, so⟩
    · rw [hcal] at hOk
      exact (x_bad hOk hw).elim
    rw [hcal] at hOk
    try dsimp only at hOk
    rcases hq2 : tMth tb j with _ | q2
    · rw [hq2] at hOk
      exact (x_bad hOk hw).elim
    rw [hq2] at hOk
    try dsimp only at hOk
    rcases hdr : S.drop (mNp q2) with _ | ⟨a0 | (_ | a), r⟩
    · rw [hdr] at hOk
      exact (x_bad hOk hw).elim
    · rw [hdr] at hOk
      exact (x_bad hOk hw).elim
    · rw [hdr] at hOk
      exact (x_bad hOk hw).elim
    rw [hdr] at hOk
    try dsimp only at hOk
    obtain ⟨hcs, hO⟩ := x_if hOk hw
    simp only [Bool.and_eq_true, decide_eq_true_eq] at hcs
    obtain ⟨⟨⟨⟨⟨⟨e0, e1⟩, e6⟩, e2⟩, e3⟩, e4⟩, e5⟩ := hcs
    obtain ⟨k1, k2, k3, k4⟩ := (hT.2.2.2.2.1 _ _ _ _ _ hcal hq2).2.1 e1
    have hj0 := (hT.2.2.2.2.1 _ _ _ _ _ hcal hq2).1
    obtain ⟨g1, g2, g3, g4, g5, g6, g7, g8, g9, g10⟩ := hT.1 j q2 hq2
    have g2 := g2 hj0
    have g3 := g3 hj0
    have hlen2 : ((S.take (mNp q2)).reverse).length = mNp q2 := by rw [List.length_reverse, List.length_take]; omega
    have hM := x_met (As := .inr (some a) :: (S.take (mNp q2)).reverse) hT ih hq2 (by rw [List.length_cons, hlen2]; exact e3) hO hw
    have hgood := hT.2.2.2.2.2.2.2.2.2.2.1
    have hwds : ∀ z ∈ Jvm.Cond.code (mY q2) (mB q2) (mL q2) (mR q2) :: TS, ∀ (a' : Array Value) (U : State), s.WarmedH U.vm → z.before a' U = true := fun z hz => x_words hts hgood z (by rcases List.mem_cons.mp hz with rfl | hz; exact g2; exact hz)
    have hmS : S.map (x_rv d (x_am base sa)) = (((S.take (mNp q2)).reverse).map (x_rv d (x_am base sa))).reverse ++ Value.ref (x_am base sa a) :: r.map (x_rv d (x_am base sa)) := by
      have h1 : S = S.take (mNp q2) ++ (.inr (some a) :: r) := by rw [← hdr, List.take_append_drop]
      have h2 := congrArg (List.map (x_rv d (x_am base sa))) h1
      rw [List.map_append, List.map_cons] at h2
      rw [h2, List.map_reverse, List.reverse_reverse]
      rfl
    have hrecv : ∃ cellB : Cell, H[x_am base sa a]? = some cellB ∧ cellB.vm.isStatics = false ∧ s.vm.findClass (mY q2).cls = some cellB.cls := by
      unfold x_rc at e6
      by_cases hba : 1000000 < a
      · rw [if_pos hba] at e6
        obtain ⟨cell, f1, f2, f3, -⟩ := (hZ.2.2.2.2.2 a _ q2 j e6 hq2 rfl s s.heap hE0.2.2).kept hS.2.1
        rw [x_amo (by omega)]
        exact ⟨cell, f1, f2, f3⟩
      · rw [if_neg hba] at e6
        rcases ha : h[a]? with _ | (⟨ci, fs⟩ | z)
        · rw [ha] at e6
          cases e6
        rotate_left
        · rw [ha] at e6
          cases e6
        rw [ha] at e6
        have e7 : ci = mRc q2 := Option.some.inj e6
        obtain ⟨r2, f1, f2, cell, f3, f4, f5, -⟩ := hI.2.2 a _ ha
        rw [x_amh hI ha]
        exact ⟨cell, f3, by rw [f5]; rfl, by rw [f4, ← k4 r2 (by rw [← e7]; exact f1)]; exact (hE.1.1 ci r2 f1).2.1⟩
    refine x_callk (va_runV (nL := mL q) (own := tNm tb (mO q)) (C := (mY q2).cls) (Ts := TS) (As := ((S.take (mNp q2)).reverse).map (x_rv d (x_am base sa))) (rest := r.map (x_rv d (x_am base sa))) (n := mNp q2) (ws := Jvm.Cond.code (mY q2) (mB q2) (mL q2) (mR q2) :: TS) (bytes := mB q2) (maxL := mL q2) (ret := mR q2) ⟨hx, hb, hml, hown, hts⟩ hM ⟨⟨rfl, rfl, hR1, by show 8 + (mL q2 + 11) + 64 * (dp2 + 1) ≤ R.locals; omega, hwds, List.mem_cons_self, hts _ g2, hts _ g3, g4, fun sig hs => by rw [hs] at g7; exact (Option.some.inj g7).symm, hts _ k1⟩, hts _ k2, hts _ k3⟩
      ⟨x_blind hT hX _ _ h, hrecv, fun U hU hW => ⟨rfl, by rw [hU]; exact hI, by rw [hU]; exact x_env_moved hT hX hW (fun q0 hq0 => hS.2.1 q0 (Nat.lt_of_lt_of_le hq0 hbz) (Nat.not_le.mpr hq0)) hbz hE0⟩⟩ rfl (by rw [List.length_map]; exact hlen2) hl.1 hmS (lv_room (by rw [x_cats]; exact e2)) hdg ⟨Nat.le_trans e4 hR3, Nat.le_trans e5 hR4⟩) hS (fun w2 v h2 H1 locs1 hw2 hO2 hI2 hS2 => ?_)
    rw [x_push_map]
    exact ih (dp2 + 1) k _ q _ _ h2 _ _ w2 post p e R s m args below meth c H1 locs1 ls hq hC hO2 hw2 hI2 hl hS2
  case invokestatic ix =>
    obtain rfl := x_len1 hlen rfl
    try dsimp only at hOk
    rcases hcal : tCal tb (mO q) ix with _ | ⟨j, so⟩
    · rw [hcal] at hOk
      try dsimp only at hOk
      have hbi := hT.2.2.2.2.2.2.2.2.1
      by_cases hz : tBi tb (mO q) ix = some 1
      rotate_left
      · rw [if_neg hz] at hOk
        by_cases hz2 : tBi tb (mO q) ix = some 2
        · rw [if_pos hz2] at hOk
          rcases S with _ | ⟨b | a0, S⟩
          · exact (x_bad hOk hw).elim
          rotate_left
          · exact (x_bad hOk hw).elim
          rcases S with _ | ⟨a | a0, S⟩
          · exact (x_bad hOk hw).elim
          rotate_left
          · exact (x_bad hOk hw).elim
          try dsimp only at hOk
          obtain ⟨hcs, hO⟩ := x_if hOk hw
          simp only [Bool.and_eq_true, decide_eq_true_eq] at hcs
          obtain ⟨⟨e0, e1⟩, e2⟩ := hcs
          obtain ⟨k1, k2, k3, k4⟩ := hbi.2.2.2.2.2.2.2.1 _ _ hz2
          obtain ⟨w2, hw2, h3⟩ := hd.2.2.2.2 2 a b w _ _ hO hw
          refine va_mmax hx hb (hml.trans hl.1.symm) hown (hts _ k1) (hts _ k2) (hts _ k3) (hts _ k4) (by omega) (by rw [x_cats]; omega) (Nat.le_trans e1 hR3) (Nat.le_trans e2 hR4) (x := dEv d a) (y := dEv d b) hdg ?_
          rcases h3 with ⟨hc, h3⟩ | ⟨hc, h3⟩
          · rw [if_pos (of_decide_eq_true hc)]
            exact ih dp k _ q _ _ h cn sn w2 post p e R s m args below meth c H locs ls hq hC h3 hw2 hI hl hS
          · rw [if_neg (of_decide_eq_false hc)]
            exact ih dp k _ q _ _ h cn sn w2 post p e R s m args below meth c H locs ls hq hC h3 hw2 hI hl hS
        rw [if_neg hz2] at hOk
        by_cases hz3 : tBi tb (mO q) ix = some 3
        · rw [if_pos hz3] at hOk
          rcases S with _ | ⟨b | a0, S⟩
          · exact (x_bad hOk hw).elim
          rotate_left
          · exact (x_bad hOk hw).elim
          rcases S with _ | ⟨a | a0, S⟩
          · exact (x_bad hOk hw).elim
          rotate_left
          · exact (x_bad hOk hw).elim
          try dsimp only at hOk
          obtain ⟨hcs, hO⟩ := x_if hOk hw
          simp only [Bool.and_eq_true, decide_eq_true_eq] at hcs
          obtain ⟨⟨e0, e1⟩, e2⟩ := hcs
          obtain ⟨k1, k2, k3, k4⟩ := hbi.2.2.2.2.2.2.2.2.1 _ _ hz3
          obtain ⟨w2, hw2, h3⟩ := hd.2.2.2.2 2 b a w _ _ hO hw
          refine va_mmin hx hb (hml.trans hl.1.symm) hown (hts _ k1) (hts _ k2) (hts _ k3) (hts _ k4) (by omega) (by rw [x_cats]; omega) (Nat.le_trans e1 hR3) (Nat.le_trans e2 hR4) (x := dEv d a) (y := dEv d b) hdg ?_
          rcases h3 with ⟨hc, h3⟩ | ⟨hc, h3⟩
          · rw [if_pos (of_decide_eq_true hc)]
            exact ih dp k _ q _ _ h cn sn w2 post p e R s m args below meth c H locs ls hq hC h3 hw2 hI hl hS
          · rw [if_neg (of_decide_eq_false hc)]
            exact ih dp k _ q _ _ h cn sn w2 post p e R s m args below meth c H locs ls hq hC h3 hw2 hI hl hS
        rw [if_neg hz3] at hOk
        by_cases hz4 : tBi tb (mO q) ix = some 4
        · rw [if_pos hz4] at hOk
          rcases S with _ | ⟨a | a0, S⟩
          · exact (x_bad hOk hw).elim
          rotate_left
          · exact (x_bad hOk hw).elim
          try dsimp only at hOk
          obtain ⟨hcs, hO⟩ := x_if hOk hw
          simp only [Bool.and_eq_true, decide_eq_true_eq] at hcs
          obtain ⟨⟨e0, e1⟩, e2⟩ := hcs
          obtain ⟨k1, k2, k3, k4⟩ := hbi.2.2.2.2.2.2.2.2.2 _ _ hz4
          obtain ⟨w2, hw2, h3⟩ := hd.2.2.2.2 3 a (dKc d 0) w _ _ hO hw
          rw [hd.1] at h3
          refine va_mabs hx hb (hml.trans hl.1.symm) hown (hts _ k1) (hts _ k2) (hts _ k3) (hts _ k4) (by omega) (by rw [x_cats]; omega) (Nat.le_trans e1 hR3) (Nat.le_trans e2 hR4) (x := dEv d a) hdg ?_
          rcases h3 with ⟨hc, h3⟩ | ⟨hc, h3⟩
          · rw [if_pos (of_decide_eq_true hc)]
            exact ih dp k _ q _ _ h cn sn w2 post p e R s m args below meth c H locs ls hq hC h3 hw2 hI hl hS
          · rw [if_neg (of_decide_eq_false hc)]
            have eb : dEv d (dBin d 1 (dKc d 0) a) = x_bin 1 (dEv d (dKc d 0)) (dEv d a) := hd.2.1 1 (dKc d 0) a
            rw [hd.1] at eb
            have g := ih dp k _ q _ _ h cn sn w2 post p e R s m args below meth c H locs ls hq hC h3 hw2 hI hl hS
            rw [List.map_cons] at g
            simp only [x_rv] at g
            rw [eb] at g
            exact g
        rw [if_neg hz4] at hOk
        exact (x_bad hOk hw).elim
      rw [if_pos hz] at hOk
      rcases S with _ | ⟨n0 | a0, S⟩
      · exact (x_bad hOk hw).elim
      rotate_left
      · exact (x_bad hOk hw).elim
      rcases S with _ | ⟨pd | a0, S⟩
      · exact (x_bad hOk hw).elim
      rotate_left
      · exact (x_bad hOk hw).elim
      rcases S with _ | ⟨a0 | (_ | bd), S⟩
      · exact (x_bad hOk hw).elim
      · exact (x_bad hOk hw).elim
      · exact (x_bad hOk hw).elim
      rcases S with _ | ⟨ps | a0, S⟩
      · exact (x_bad hOk hw).elim
      rotate_left
      · exact (x_bad hOk hw).elim
      rcases S with _ | ⟨a0 | (_ | bs), S⟩
      · exact (x_bad hOk hw).elim
      · exact (x_bad hOk hw).elim
      · exact (x_bad hOk hw).elim
      try dsimp only at hOk
      rcases ha0 : h[bs]? with _ | (z | ⟨t0, us⟩)
      · rw [ha0] at hOk
        exact (x_bad hOk hw).elim
      · rw [ha0] at hOk
        exact (x_bad hOk hw).elim
      rw [ha0] at hOk
      rcases ha1 : h[bd]? with _ | (z | ⟨t1, vs⟩)
      · rw [ha1] at hOk
        rcases t0 with _ | t0 <;> exact (x_bad hOk hw).elim
      · rw [ha1] at hOk
        rcases t0 with _ | t0 <;> exact (x_bad hOk hw).elim
      rw [ha1] at hOk
      rcases hv1 : dKst d n0 with _ | n1
      · rw [hv1] at hOk
        rcases t0 with _ | t0 <;> rcases t1 with _ | t1 <;> exact (x_bad hOk hw).elim
      rw [hv1] at hOk
      rcases hv2 : dKst d pd with _ | d1
      · rw [hv2] at hOk
        rcases t0 with _ | t0 <;> rcases t1 with _ | t1 <;> exact (x_bad hOk hw).elim
      rw [hv2] at hOk
      rcases hv3 : dKst d ps with _ | s1
      · rw [hv3] at hOk
        rcases t0 with _ | t0 <;> rcases t1 with _ | t1 <;> exact (x_bad hOk hw).elim
      rw [hv3] at hOk
      rcases t0 with _ | t0
      rotate_left
      · exact (x_bad hOk hw).elim
      rcases t1 with _ | t1
      rotate_left
      · exact (x_bad hOk hw).elim
      try dsimp only at hOk
      obtain ⟨hcs, hO⟩ := x_if hOk hw
      simp only [Bool.and_eq_true, decide_eq_true_eq] at hcs
      obtain ⟨⟨⟨⟨⟨⟨e0, e1⟩, e2⟩, e3⟩, e4⟩, e5⟩, e6⟩ := hcs
      have en := hd.2.2.2.1 n0 n1 hv1
      have ed := hd.2.2.2.1 pd d1 hv2
      have es := hd.2.2.2.1 ps s1 hv3
      have hbi := hT.2.2.2.2.2.2.2.2.1
      have hmS : (Sum.inl n0 :: Sum.inl pd :: Sum.inr (some bd) :: Sum.inl ps :: Sum.inr (some bs) :: S : List (XV E)).map (x_rv d (x_am base sa)) = .int n1 :: .int d1 :: .ref (base + bd) :: .int s1 :: .ref (base + bs) :: S.map (x_rv d (x_am base sa)) := by
        simp only [List.map_cons, x_rv]
        rw [en, ed, es, x_amh hI ha0, x_amh hI ha1]
      rw [hmS]
      exact x_copy hx hb (hml.trans hl.1.symm) hown (hts _ (hbi.2.1 _ _ hz)) (hts _ hbi.2.2.2.2.1) (hts _ hbi.2.2.2.2.2.1) (hts _ hbi.2.2.2.2.2.2.1) hE.1 hY hT.2.2.2.2.2.1.2.2.1 hI hS ha0 ha1 (fun u hu => by
          have h1 := List.all_eq_true.mp e6 u hu
          rcases u with u | u
          · exact ⟨_, rfl⟩
          · cases h1) e2 e1 e0 e3 e4 (by omega) (by rw [x_cats]; show _ + (7 + 11) ≤ R.locals; omega) hdg (fun H1 locs1 hI1 hS1 => ih dp k _ q _ _ _ cn sn w post p e R s m args below meth c H1 locs1 ls hq hC hO hw hI1 hl hS1)
    rw [hcal] at hOk
    try dsimp only at hOk
    rcases dp with _ | dp2
    · exact (x_bad hOk hw).elim
    try dsimp only at hOk
    rcases hq2 : tMth tb j with _ | q2
    · rw [hq2] at hOk
      exact (x_bad hOk hw).elim
    rw [hq2] at hOk
    try dsimp only at hOk
    obtain ⟨hcs, hO⟩ := x_if hOk hw
    simp only [Bool.and_eq_true, decide_eq_true_eq] at hcs
    obtain ⟨⟨⟨⟨⟨e0, e1⟩, e2⟩, e3⟩, e4⟩, e5⟩ := hcs
    obtain ⟨hj0, -, -, kS2, kS3, kS4⟩ := hT.2.2.2.2.1 _ _ _ _ _ hcal hq2
    obtain ⟨g1, g2, g3, g4, g5, g6, g7, g8, g9, g10⟩ := hT.1 j q2 hq2
    have g2 := g2 hj0
    have g3 := g3 hj0
    have hlen2 : ((S.take (mNp q2)).reverse).length = mNp q2 := by rw [List.length_reverse, List.length_take]; omega
    have hM := x_met (As := (S.take (mNp q2)).reverse) hT ih hq2 (by rw [hlen2]; exact e3) hO hw
    have hgood := hT.2.2.2.2.2.2.2.2.2.2.1
    have hwds : ∀ z ∈ Jvm.Cond.code (mY q2) (mB q2) (mL q2) (mR q2) :: TS, ∀ (a' : Array Value) (U : State), s.WarmedH U.vm → z.before a' U = true := fun z hz => x_words hts hgood z (by rcases List.mem_cons.mp hz with rfl | hz; exact g2; exact hz)
    have hmS : S.map (x_rv d (x_am base sa)) = (((S.take (mNp q2)).reverse).map (x_rv d (x_am base sa))).reverse ++ (S.drop (mNp q2)).map (x_rv d (x_am base sa)) := by
      have h2 := congrArg (List.map (x_rv d (x_am base sa))) (List.take_append_drop (mNp q2) S)
      rw [List.map_append] at h2
      rw [← h2, List.map_reverse, List.reverse_reverse]
    have hpre : PreS s H (va_Pc (((S.take (mNp q2)).reverse).map (x_rv d (x_am base sa))) (fun U => x_Inv D tc cl (x_rv d (x_am base sa)) base h U.heap ∧ x_Env TN D cl tys XE U U.heap)) (((S.take (mNp q2)).reverse).map (x_rv d (x_am base sa))) :=
      ⟨x_blind hT hX _ _ h, fun U hU hW => ⟨rfl, by rw [hU]; exact hI, by rw [hU]; exact x_env_moved hT hX hW (fun q0 hq0 => hS.2.1 q0 (Nat.lt_of_lt_of_le hq0 hbz) (Nat.not_le.mpr hq0)) hbz hE0⟩⟩
    have fin : ∀ (w2 : List K) (v : Option (XV E)) (h2 : List (XC E)) (H1 : Heap) (locs1 : List Loc), XPa (dHd d) w2 → XOk (dHd d) (x_run d tb tyl ot f (dp2 + 1) k (pc + 3) L (x_push v (S.drop (mNp q2))) h2 (cn + mMc q2) (sn + mMs q2) w2 post) → x_Inv D tc cl (x_rv d (x_am base sa)) base h2 H1 → va_S (fun q => base ≤ q) s.heap H1 locs1 → W p l e R s m args below meth c H1 locs1 (cn + mMc q2) (sn + mMs q2) (MQ below (x_Q d D tc cl (x_am base sa) base post) args s (mMc q) (mMs q) (fun q => base ≤ q)) (F0 m (pc + 3) ls ((v.map (x_rv d (x_am base sa))).toList ++ (S.drop (mNp q2)).map (x_rv d (x_am base sa)))) := fun w2 v h2 H1 locs1 hw2 hO2 hI2 hS2 => by
      rw [x_push_map]
      exact ih (dp2 + 1) k _ q _ _ h2 _ _ w2 post p e R s m args below meth c H1 locs1 ls hq hC hO2 hw2 hI2 hl hS2
    rcases (show so = 2 ∨ so = 3 by omega) with hso | hso
    · obtain ⟨k1, k2⟩ := kS2 hso
      exact x_callk (va_runS (nL := mL q) (own := tNm tb (mO q)) (Ts := TS) (As := ((S.take (mNp q2)).reverse).map (x_rv d (x_am base sa))) (rest := (S.drop (mNp q2)).map (x_rv d (x_am base sa))) (n := mNp q2) (ws := Jvm.Cond.code (mY q2) (mB q2) (mL q2) (mR q2) :: TS) (bytes := mB q2) (maxL := mL q2) (ret := mR q2) ⟨hx, hb, hml, hown, hts⟩ hM ⟨⟨rfl, rfl, hR1, by show 8 + (mL q2 + 11) + 64 * (dp2 + 1) ≤ R.locals; omega, hwds, List.mem_cons_self, hts _ g2, hts _ g3, g4, fun sig hs => by rw [hs] at g7; exact (Option.some.inj g7).symm, hts _ k1⟩, hts _ k2⟩
        hpre rfl (by rw [List.length_map]; exact hlen2) hl.1 hmS (lv_room (by rw [x_cats]; exact e2)) hdg ⟨Nat.le_trans e4 hR3, Nat.le_trans e5 hR4⟩) hS fin
    · obtain ⟨⟨host, k1⟩, k2⟩ := kS3 hso
      exact x_callk (va_runSN (nL := mL q) (own := tNm tb (mO q)) (host := host) (Ts := TS) (As := ((S.take (mNp q2)).reverse).map (x_rv d (x_am base sa))) (rest := (S.drop (mNp q2)).map (x_rv d (x_am base sa))) (n := mNp q2) (ws := Jvm.Cond.code (mY q2) (mB q2) (mL q2) (mR q2) :: TS) (bytes := mB q2) (maxL := mL q2) (ret := mR q2) ⟨hx, hb, hml, hown, hts⟩ hM ⟨⟨⟨rfl, rfl, hR1, by show 8 + (mL q2 + 11) + 64 * (dp2 + 1) ≤ R.locals; omega, hwds, List.mem_cons_self⟩, hts _ g2, hts _ g3, g4, fun sig hs => by rw [hs] at g7; exact (Option.some.inj g7).symm, x_tn hT hE0 k1⟩, hts _ k2, trivial⟩
        hpre rfl (by rw [List.length_map]; exact hlen2) hl.1 hmS (lv_room (by rw [x_cats]; exact e2)) hdg ⟨Nat.le_trans e4 hR3, Nat.le_trans e5 hR4⟩) hS fin

  all_goals exact (x_bad hOk hw).elim
end XSound
