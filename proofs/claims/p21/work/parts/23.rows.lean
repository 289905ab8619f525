/-! The rows that touch the heap, over the evaluator's heap. -/
noncomputable section XRows
variable {E K : Type}
variable {p : Program} {l : Launch} {e : Env} {R : Room} {s : State} {m : MethodId} {args : Array Value} {below : List Frame} {meth : Method} {c : Code} {H : Heap} {locs : List Loc} {cells slots : Nat} {Q : State → Prop}
variable {cc : ByteArray} {pc : Nat} {ls : Array Slot} {rest : List Value} {D : va_G} {tc : Nat → ClassId} {cl : List vw_C} {tys : List (ClassId × FieldType)} {tyl : List FieldType} {TS TN : List Jvm.Cond} {tb : XT}
variable {rv : XV E → Value} {base : Nat} {h : List (XC E)}
def x_Tys (tc : Nat → ClassId) (tys : List (ClassId × FieldType)) (tyl : List FieldType) : Prop := ∀ t ty, tyl[t]? = some ty → tys[t]? = some (tc t, ty)
theorem x_Inv_set {H1 : Heap} {k : Nat} {z0 z : XC E} (hI : x_Inv D tc cl rv base h H) (hz : h[k]? = some z0) (hs : H1.size = H.size) (oq : ∀ q : Nat, q ≠ base + k → H1[q]? = H[q]?) (hn : x_at D tc cl rv (base + k) z H1) : x_Inv D tc cl rv base (h.set k z) H1 := by
  obtain ⟨i1, i2, i3⟩ := hI
  refine ⟨by rw [hs, i1, List.length_set], by rw [List.length_set]; exact i2, fun j y hj => ?_⟩
  by_cases hjk : j = k
  · subst hjk
    rw [List.getElem?_set_self (List.getElem?_eq_some_iff.mp hz).1] at hj
    cases hj
    exact hn
  · rw [List.getElem?_set_ne (fun q => hjk q.symm)] at hj
    exact x_at_kept (i3 j y hj) (oq _ (by omega))
theorem x_Inv_app {H1 : Heap} {z : XC E} (hI : x_Inv D tc cl rv base h H) (hs : H1.size = H.size + 1) (oq : ∀ q : Nat, q < H.size → H1[q]? = H[q]?) (hl : h.length + 1 ≤ 1000000) (hn : x_at D tc cl rv (base + h.length) z H1) : x_Inv D tc cl rv base (h ++ [z]) H1 := by
  obtain ⟨i1, i2, i3⟩ := hI
  refine ⟨by rw [hs, i1, List.length_append, List.length_singleton]; omega, by rw [List.length_append, List.length_singleton]; exact hl, fun j y hj => ?_⟩
  by_cases hjl : j < h.length
  · rw [List.getElem?_append_left hjl] at hj
    exact x_at_kept (i3 j y hj) (oq _ (by omega))
  · rw [List.getElem?_append_right (by omega)] at hj
    have h0 : j - h.length < 1 := (List.getElem?_eq_some_iff.mp hj).1
    have h1 : j = h.length := by omega
    subst h1
    rw [Nat.sub_self] at hj
    cases hj
    exact hn
theorem x_S_app {A : Nat → Prop} {H0 H1 : Heap} (hS : va_S A H0 H locs) (hs : H.size ≤ H1.size) (oq : ∀ q : Nat, q < H.size → H1[q]? = H[q]?) : va_S A H0 H1 locs :=
  ⟨Nat.le_trans hS.1 hs, fun q h1 h2 => (oq q (Nat.lt_of_lt_of_le h1 hS.1)).trans (hS.2.1 q h1 h2), hS.2.2⟩
theorem x_getf {o ix a ci j : Nat} {fs : List (XV E)} {v : XV E} (hexec : p.tables.exec = Jvm.exec) (hb : c.code = cc) (hts : ∀ w ∈ TS, w.before args s = true) (hT : x_TbOk TS TN cl tyl tb) (hown : s.vm.findClass (tNm tb o) = some m.cls) (hK : va_K D cl tys s) (hI : x_Inv D tc cl rv base h H)
    (ha : h[a]? = some (.inl (ci, fs))) (hf : tFld tb o ix = some (ci, j)) (hv : fs[j]? = some v) (hdg : decode cc pc = .ok (.getfield ix, 3))
    (kk : W p l e R s m args below meth c H locs cells slots Q (F0 m (pc + 3) ls (rv v :: rest))) : W p l e R s m args below meth c H locs cells slots Q (F0 m pc ls (.ref (base + a) :: rest)) := by
  obtain ⟨r, h1, hlen, cell, q1, q2, q3, q4⟩ := hI.2.2 a _ ha
  obtain ⟨r2, g1, hk, hlink⟩ := hT.2.1 o ix ci j hf
  obtain rfl : r2 = r := Option.some.inj (g1.symm.trans h1)
  obtain ⟨C, T, N⟩ := r2
  obtain ⟨t1, t2, t3, t4, t5, t6, t7, t8⟩ := hT.2.2.1 ci _ h1
  obtain ⟨hS, hfc, kC, hkC, hkind⟩ := hK.1 ci _ h1
  obtain ⟨cf, kf, fi, f, hi, hsl⟩ := hS j hk
  refine W.getf hexec hb hown (hts _ hlink) hi (u_facts hfc hkC (u_lays hts t1 hk) hi).1 q1 (by rw [q3]; exact fun h => by cases h) (v := rv v) ?_ rfl rfl hdg kk
  rw [hsl, q4 j hk]
  simp [vp_V, hv]
theorem x_putf {o ix a ci j : Nat} {fs : List (XV E)} {v : XV E} {ty : FieldType × Bool} (hexec : p.tables.exec = Jvm.exec) (hb : c.code = cc) (hts : ∀ w ∈ TS, w.before args s = true) (hT : x_TbOk TS TN cl tyl tb) (hown : s.vm.findClass (tNm tb o) = some m.cls) (hK : va_K D cl tys s) (hI : x_Inv D tc cl rv base h H)
    (hS0 : va_S (fun q => base ≤ q) s.heap H locs) (ha : h[a]? = some (.inl (ci, fs))) (hf : tFld tb o ix = some (ci, j)) (hty : (tFt tb ci)[j]? = some ty) (hl : j < fs.length) (hn : narrow ty.1 (rv v) = rv v) (hfit : fits ty.1 (rv v) = true)
    (hfin : ty.2 = false ∨ (meth.name = "<init>" ∧ ∀ r, cl[ci]? = some r → r.1 = tNm tb o)) (hdg : decode cc pc = .ok (.putfield ix, 3))
    (kk : ∀ (H1 : Heap) (locs1 : List Loc), x_Inv D tc cl rv base (h.set a (.inl (ci, fs.set j v))) H1 → va_S (fun q => base ≤ q) s.heap H1 locs1 → W p l e R s m args below meth c H1 locs1 cells slots Q (F0 m (pc + 3) ls rest)) : W p l e R s m args below meth c H locs cells slots Q (F0 m pc ls (rv v :: .ref (base + a) :: rest)) := by
  obtain ⟨r, h1, hlen, cell, q1, q2, q3, q4⟩ := hI.2.2 a _ ha
  obtain ⟨r2, g1, hk, hlink⟩ := hT.2.1 o ix ci j hf
  obtain rfl : r2 = r := Option.some.inj (g1.symm.trans h1)
  obtain ⟨C, T, N⟩ := r2
  obtain ⟨t1, t2, t3, t4, t5, t6, t7, t8⟩ := hT.2.2.1 ci _ h1
  have hap : ∀ x y, x < N → y < N → x ≠ y → (D.2 ci) x ≠ (D.2 ci) y := by
    refine va_apart (own := C) (T := T) hts t1 (fun k => ((tFt tb ci).getD k (.int, false)).1) (fun k hk => ?_) t4 hK h1
    have hk2 : k < (tFt tb ci).length := by rw [t2]; exact hk
    have e1 : (tFt tb ci)[k]? = some ((tFt tb ci)[k]) := List.getElem?_eq_getElem hk2
    have e2 := (t3 k _ e1).1
    rw [e2, List.getD_eq_getElem?_getD, e1]
    rfl
  obtain ⟨hS, hfc, kC, hkC, hkind⟩ := hK.1 ci _ h1
  obtain ⟨cf, kf, fi, f, hi, hsl⟩ := hS j hk
  have hlay := hts _ (t1 _ (u_in_lay hk))
  obtain ⟨d1, d2⟩ := t3 j ty hty
  have fin : ∀ (H1 : Heap) (locs1 : List Loc), H1[base + a]? = some (cell.setSlot f.slot (rv v)) → H1.size = H.size → (∀ q : Nat, q ≠ base + a → H1[q]? = H[q]?) → locs1 = locs ++ [⟨base + a, f.slot⟩] → W p l e R s m args below meth c H1 locs1 cells slots Q (F0 m (pc + 3) ls rest) := by
    intro H1 locs1 e1 e2 e3 e4
    subst e4
    rw [hsl] at e1 ⊢
    refine kk H1 _ (x_Inv_set hI ha e2 e3 ⟨_, h1, by rw [List.length_set]; exact hlen, ?_⟩) (hS0.put e2 e3 (Nat.le_add_right _ _))
    refine t_OB.to (V := updV (vp_V (fs.map rv)) j (rv v)) ⟨_, e1, q2, q3, t_set q4 hap hk (rv v)⟩ (fun i _ => ?_)
    rw [vp_updV_set (by rw [List.length_map]; exact hl), List.map_set]
  by_cases hfz : ty.2 = false
  · unfold u_lay at hlay
    rw [if_neg (by show ¬ (T j).2.2.2 = true; rw [d2, hfz]; decide)] at hlay
    have h6 := u_store hfc hkC hkind hlay hi d1 hn hfit
    exact W.putK hexec hb (f := f) ⟨hown, hts _ hlink, ⟨_, _, _, hi⟩, (u_facts hfc hkC (u_lays hts t1 hk) hi).1⟩ (by rw [q2]; exact h6) q1 q3 (by rw [hsl]; exact k2_hasslot (q4 j hk)) rfl rfl hdg fun H' e1 e2 e3 => fin H' _ e1 e2 e3 rfl
  · obtain ⟨hin2, hdecl⟩ := hfin.resolve_left hfz
    have hCo : C = tNm tb o := hdecl _ h1
    have hto : (T j).1 = tNm tb o := (t7 j hk).trans hCo
    unfold u_lay at hlay
    rw [if_pos (by show (T j).2.2.2 = true; rw [d2]; simpa using hfz)] at hlay
    have hcf : m.cls = cf := by
      obtain ⟨_, _, c', _, _, _, -, -, hf', -, -, -, hown2, -⟩ := Cond.laysFinal_spec hlay
      have e1 : c' = cf := by have := hi.symm.trans hf'; simp at this; exact this.1.symm
      rw [hto] at hown2
      rw [← e1]; exact Option.some.inj (hown.symm.trans hown2)
    have h6 := u_fits hfc hkC hkind (Or.inr hlay) hi d1 hn hfit
    exact W.putFinK hexec hb hown (hts _ hlink) hi (u_facts hfc hkC (u_lays hts t1 hk) hi).1 hcf hin2 (by rw [q2]; exact h6) q1 q3 (by rw [hsl]; exact k2_hasslot (q4 j hk)) rfl rfl hdg fun H' e1 e2 e3 => fin H' _ e1 e2 e3 rfl
theorem x_arr {D : va_G} {a t : Nat} {vs : List (XV E)} {ty : FieldType} (hK : va_K D cl tys s) (hY : x_Tys tc tys tyl) (hI : x_Inv D tc cl rv base h H) (ha : h[a]? = some (.inr (t, vs))) (ht : tyl[t]? = some ty) :
    ∃ cell : Cell, H[base + a]? = some cell ∧ s.isArrayOf cell ty ∧ cell.vm = .none ∧ cell.slots.size = vs.length ∧ cell = arrV (tc t) vs.length (fun j => rv (vs.getD j (.inr none))) ∧ ∀ (j : Nat) (v : XV E), vs[j]? = some v → cell.slots[j]? = some (rv v) := by
  have hc := hI.2.2 a _ ha
  refine ⟨_, hc, (hK.2 t _ (hY t ty ht)).1 _ _, rfl, arrV_size _ _ _, rfl, fun j v hv => ?_⟩
  rw [arrV_read _ _ (List.getElem?_eq_some_iff.mp hv).1, List.getD_eq_getElem?_getD, hv]
  rfl
theorem x_stored {t j : Nat} {vs : List (XV E)} {v : XV E} (hj : j < vs.length) : (arrV (tc t) vs.length (fun j => rv (vs.getD j (.inr none)))).setSlot j (rv v) = arrV (tc t) (vs.set j v).length (fun i => rv ((vs.set j v).getD i (.inr none))) := by
  rw [arrV_store, List.length_set]
  refine congrArg (arrV (tc t) vs.length) (funext fun i => ?_)
  by_cases hij : i = j
  · subst hij
    simp [updV, List.getD_eq_getElem?_getD, List.getElem?_set_self hj]
  · simp [updV, hij, List.getD_eq_getElem?_getD, List.getElem?_set_ne (fun q => hij q.symm)]
theorem x_iald {a : Nat} {vs : List (XV E)} {i : Int32} {v : XV E} (hexec : p.tables.exec = Jvm.exec) (hb : c.code = cc) (hK : va_K D cl tys s) (hY : x_Tys tc tys tyl) (ht : tyl[0]? = some .int) (hI : x_Inv D tc cl rv base h H) (ha : h[a]? = some (.inr (0, vs))) (h0 : ¬ i < 0) (hi : i.toNatClampNeg < vs.length) (hv : vs[i.toNatClampNeg]? = some v)
    (hdg : decode cc pc = .ok (.iaload, 1)) (kk : W p l e R s m args below meth c H locs cells slots Q (F0 m (pc + 1) ls (rv v :: rest))) : W p l e R s m args below meth c H locs cells slots Q (F0 m pc ls (.int i :: .ref (base + a) :: rest)) := by
  obtain ⟨cell, c1, c2, c3, c4, -, c5⟩ := x_arr hK hY hI ha ht
  exact W.iald hexec hb c1 c2 (by rw [c3]; exact fun q => by cases q) (by rw [c4]; exact fun q => q.elim h0 (fun q => by omega)) (c5 _ _ hv) rfl rfl hdg kk
theorem x_zald {a : Nat} {vs : List (XV E)} {i : Int32} {v : XV E} (hexec : p.tables.exec = Jvm.exec) (hb : c.code = cc) (hK : va_K D cl tys s) (hY : x_Tys tc tys tyl) (ht : tyl[1]? = some .boolean) (hI : x_Inv D tc cl rv base h H) (ha : h[a]? = some (.inr (1, vs))) (h0 : ¬ i < 0) (hi : i.toNatClampNeg < vs.length) (hv : vs[i.toNatClampNeg]? = some v)
    (hdg : decode cc pc = .ok (.baload, 1)) (kk : W p l e R s m args below meth c H locs cells slots Q (F0 m (pc + 1) ls (rv v :: rest))) : W p l e R s m args below meth c H locs cells slots Q (F0 m pc ls (.int i :: .ref (base + a) :: rest)) := by
  obtain ⟨cell, c1, c2, c3, c4, -, c5⟩ := x_arr hK hY hI ha ht
  exact W.zald hexec hb c1 c2 (by rw [c3]; exact fun q => by cases q) (by rw [c4]; exact fun q => q.elim h0 (fun q => by omega)) (c5 _ _ hv) rfl rfl hdg kk
theorem x_aald {a t : Nat} {vs : List (XV E)} {i : Int32} {v : XV E} {ty : FieldType} (hexec : p.tables.exec = Jvm.exec) (hb : c.code = cc) (hK : va_K D cl tys s) (hY : x_Tys tc tys tyl) (ht : tyl[t]? = some ty) (hr : x_isRef ty = true) (hI : x_Inv D tc cl rv base h H) (ha : h[a]? = some (.inr (t, vs))) (h0 : ¬ i < 0) (hi : i.toNatClampNeg < vs.length) (hv : vs[i.toNatClampNeg]? = some v)
    (hdg : decode cc pc = .ok (.aaload, 1)) (kk : W p l e R s m args below meth c H locs cells slots Q (F0 m (pc + 1) ls (rv v :: rest))) : W p l e R s m args below meth c H locs cells slots Q (F0 m pc ls (.int i :: .ref (base + a) :: rest)) := by
  obtain ⟨cell, c1, c2, c3, c4, -, c5⟩ := x_arr hK hY hI ha ht
  exact W.aald hexec hb c1 c2 (by cases ty <;> first | rfl | (simp [x_isRef] at hr)) (by rw [c3]; exact fun q => by cases q) (by rw [c4]; exact fun q => q.elim h0 (fun q => by omega)) (c5 _ _ hv) rfl rfl hdg kk
theorem x_alen {a t : Nat} {vs : List (XV E)} {ty : FieldType} (hexec : p.tables.exec = Jvm.exec) (hb : c.code = cc) (hK : va_K D cl tys s) (hY : x_Tys tc tys tyl) (ht : tyl[t]? = some ty) (hI : x_Inv D tc cl rv base h H) (ha : h[a]? = some (.inr (t, vs)))
    (hdg : decode cc pc = .ok (.arraylength, 1)) (kk : W p l e R s m args below meth c H locs cells slots Q (F0 m (pc + 1) ls (.int vs.length.toInt32 :: rest))) : W p l e R s m args below meth c H locs cells slots Q (F0 m pc ls (.ref (base + a) :: rest)) := by
  obtain ⟨cell, c1, c2, c3, c4, -, c5⟩ := x_arr hK hY hI ha ht
  exact W.alen hexec hb c1 c2 (by rw [c4]) rfl rfl hdg kk
theorem x_iast {a : Nat} {vs : List (XV E)} {i x : Int32} {v : XV E} (hexec : p.tables.exec = Jvm.exec) (hb : c.code = cc) (hK : va_K D cl tys s) (hY : x_Tys tc tys tyl) (ht : tyl[0]? = some .int) (hI : x_Inv D tc cl rv base h H) (hS : va_S (fun q => base ≤ q) s.heap H locs) (ha : h[a]? = some (.inr (0, vs))) (h0 : ¬ i < 0) (hi : i.toNatClampNeg < vs.length) (hv : rv v = .int x)
    (hdg : decode cc pc = .ok (.iastore, 1)) (kk : ∀ (H1 : Heap) (locs1 : List Loc), x_Inv D tc cl rv base (h.set a (.inr (0, vs.set i.toNatClampNeg v))) H1 → va_S (fun q => base ≤ q) s.heap H1 locs1 → W p l e R s m args below meth c H1 locs1 cells slots Q (F0 m (pc + 1) ls rest)) : W p l e R s m args below meth c H locs cells slots Q (F0 m pc ls (.int x :: .int i :: .ref (base + a) :: rest)) := by
  obtain ⟨cell, c1, c2, c3, c4, c6, c5⟩ := x_arr hK hY hI ha ht
  refine W.iast hexec hb c1 c2 (by rw [c3]; exact fun q => by cases q) (by rw [c4]; exact fun q => q.elim h0 (fun q => by omega)) rfl rfl hdg fun H1 e1 z oq => ?_
  refine kk H1 _ (x_Inv_set hI ha z oq ?_) (hS.put z oq (Nat.le_add_right _ _))
  show H1[base + a]? = _
  rw [e1, c6, ← hv, x_stored hi]
theorem x_zast {a : Nat} {vs : List (XV E)} {i x : Int32} {v : XV E} (hexec : p.tables.exec = Jvm.exec) (hb : c.code = cc) (hK : va_K D cl tys s) (hY : x_Tys tc tys tyl) (ht : tyl[1]? = some .boolean) (hI : x_Inv D tc cl rv base h H) (hS : va_S (fun q => base ≤ q) s.heap H locs) (ha : h[a]? = some (.inr (1, vs))) (h0 : ¬ i < 0) (hi : i.toNatClampNeg < vs.length) (hv : rv v = .int x) (hx : x = 0 ∨ x = 1)
    (hdg : decode cc pc = .ok (.bastore, 1)) (kk : ∀ (H1 : Heap) (locs1 : List Loc), x_Inv D tc cl rv base (h.set a (.inr (1, vs.set i.toNatClampNeg v))) H1 → va_S (fun q => base ≤ q) s.heap H1 locs1 → W p l e R s m args below meth c H1 locs1 cells slots Q (F0 m (pc + 1) ls rest)) : W p l e R s m args below meth c H locs cells slots Q (F0 m pc ls (.int x :: .int i :: .ref (base + a) :: rest)) := by
  obtain ⟨cell, c1, c2, c3, c4, c6, c5⟩ := x_arr hK hY hI ha ht
  refine W.zast hexec hb c1 c2 (by rw [c3]; exact fun q => by cases q) (by rw [c4]; exact fun q => q.elim h0 (fun q => by omega)) rfl rfl hdg fun H1 e1 z oq => ?_
  refine kk H1 _ (x_Inv_set hI ha z oq ?_) (hS.put z oq (Nat.le_add_right _ _))
  have hn : narrow .boolean (.int x) = .int x := by rcases hx with rfl | rfl <;> rfl
  show H1[base + a]? = _
  rw [e1, c6, hn, ← hv, x_stored hi]
theorem x_aast {a k t ci : Nat} {vs fs : List (XV E)} {i : Int32} {C : String} {r : vw_C} {v : XV E} (hexec : p.tables.exec = Jvm.exec) (hb : c.code = cc) (hK : va_K D cl tys s) (hY : x_Tys tc tys tyl) (ht : tyl[t]? = some (.object C)) (hI : x_Inv D tc cl rv base h H) (hS : va_S (fun q => base ≤ q) s.heap H locs) (ha : h[a]? = some (.inr (t, vs))) (hk : h[k]? = some (.inl (ci, fs))) (hc : cl[ci]? = some r) (hr : r.1 = C) (h0 : ¬ i < 0) (hi : i.toNatClampNeg < vs.length) (hv : rv v = .ref (base + k))
    (hdg : decode cc pc = .ok (.aastore, 1)) (kk : ∀ (H1 : Heap) (locs1 : List Loc), x_Inv D tc cl rv base (h.set a (.inr (t, vs.set i.toNatClampNeg v))) H1 → va_S (fun q => base ≤ q) s.heap H1 locs1 → W p l e R s m args below meth c H1 locs1 cells slots Q (F0 m (pc + 1) ls rest)) : W p l e R s m args below meth c H locs cells slots Q (F0 m pc ls (.ref (base + k) :: .int i :: .ref (base + a) :: rest)) := by
  obtain ⟨cell, c1, c2, c3, c4, c6, c5⟩ := x_arr hK hY hI ha ht
  obtain ⟨r', hr', -, cellV, g1, g2, g3, -⟩ := hI.2.2 k _ hk
  obtain rfl : r' = r := Option.some.inj (hr'.symm.trans hc)
  have hcls := (hK.1 ci r' hc).2
  obtain ⟨kA, comp, k1, k2, k3, -⟩ := (hK.2 t _ (hY t _ ht)).2
  have hcomp : comp = D.1 ci := Option.some.inj (k3.symm.trans (by rw [← hr]; exact hcls.1))
  subst hcomp
  obtain ⟨kC, hkC, -⟩ := hcls.2
  refine W.aast hexec hb c1 (fun q h => by rw [c3] at h; cases h) (fun h => by rw [c3] at h; cases h) (by rw [c6]; exact k1) k2 rfl hkC ⟨h0, by rw [c4]; exact hi⟩ g1 (fun q h => by rw [g3] at h; cases h) (by rw [g2]; exact hkC) (by rw [g2]; exact va_assign hcls) rfl rfl hdg fun H1 e1 z oq => ?_
  refine kk H1 _ (x_Inv_set hI ha z oq ?_) (hS.put z oq (Nat.le_add_right _ _))
  show H1[base + a]? = _
  rw [e1, c6, ← hv, x_stored hi]
theorem x_new {o ix ci : Nat} {fs : List (XV E)} (hexec : p.tables.exec = Jvm.exec) (hb : c.code = cc) (hts : ∀ w ∈ TS, w.before args s = true) (hT : x_TbOk TS TN cl tyl tb) (hown : s.vm.findClass (tNm tb o) = some m.cls) (hK : va_K D cl tys s) (hI : x_Inv D tc cl rv base h H) (hS : va_S (fun q => base ≤ q) s.heap H locs)
    (hf : tNw tb o ix = some ci) (hl : h.length + 1 ≤ 1000000) (hcells : cells + 1 ≤ R.cells) (hslots : slots + (tFt tb ci).length ≤ R.slots) (hfs : fs.map rv = (tFt tb ci).map (fun t => defaultValue t.1)) (hdg : decode cc pc = .ok (.new ix, 3))
    (kk : ∀ (H1 : Heap), x_Inv D tc cl rv base (h ++ [.inl (ci, fs)]) H1 → va_S (fun q => base ≤ q) s.heap H1 locs → W p l e R s m args below meth c H1 locs (cells + 1) (slots + (tFt tb ci).length) Q (F0 m (pc + 3) ls (.ref (base + h.length) :: rest))) : W p l e R s m args below meth c H locs cells slots Q (F0 m pc ls rest) := by
  obtain ⟨r, hc, hlink⟩ := hT.2.2.2.1 o ix ci hf
  obtain ⟨C, T, N⟩ := r
  obtain ⟨t1, t2, t3, t4, t5, t6, t7, t8⟩ := hT.2.2.1 ci _ hc
  have hKn := hK.1 ci _ hc
  have t2' : (tFt tb ci).length = N := t2
  have hlen : fs.length = N := by
    have := congrArg List.length hfs
    rw [List.length_map, List.length_map] at this
    omega
  rw [t2'] at hslots kk
  refine W.newcK hexec hb hown (hts _ hlink) (hts _ t5) (hts _ t6) rfl hdg hcells hslots hKn.2.1 (h := base + h.length) hI.1 fun H1 kC hkC e1 z1 o1 => ?_
  rw [← hI.1] at o1 z1
  refine kk H1 (x_Inv_app hI z1 o1 hl ⟨_, hc, hlen, ?_⟩) (x_S_app hS (by omega) o1)
  refine (u_born (fun k => ((tFt tb ci).getD k (.int, false)).1) hts t1 hKn hkC e1 (fun k hk => ?_)).to (fun k hk => ?_)
  · have hk2 : k < (tFt tb ci).length := by rw [t2]; exact hk
    have e2 : (tFt tb ci)[k]? = some ((tFt tb ci)[k]) := List.getElem?_eq_getElem hk2
    have e3 := (t3 k _ e2).1
    rw [e3, List.getD_eq_getElem?_getD, e2]
    rfl
  · have hk2 : k < (tFt tb ci).length := by rw [t2]; exact hk
    have e2 : (tFt tb ci)[k]? = some ((tFt tb ci)[k]) := List.getElem?_eq_getElem hk2
    simp only [vp_V, hfs, List.getD_eq_getElem?_getD, List.getElem?_map, e2, Option.map_some, Option.getD_some]
theorem x_newa {atype : ArrayType} {t N : Nat} {n : Int32} {v : XV E} (hexec : p.tables.exec = Jvm.exec) (hb : c.code = cc) (hK : va_K D cl tys s) (hY : x_Tys tc tys tyl) (ht : tyl[t]? = some (newarray.typeOf atype)) (harr : (Jvm.Cond.arrayClass (newarray.typeOf atype)).before args s = true) (hat : atype = .int ∨ atype = .boolean) (hI : x_Inv D tc cl rv base h H) (hS : va_S (fun q => base ≤ q) s.heap H locs)
    (hl : h.length + 1 ≤ 1000000) (hn : ¬ n < 0) (hN : n.toNatClampNeg = N) (hN2 : N ≤ 100000) (hcells : cells + 1 ≤ R.cells) (hslots : slots + N ≤ R.slots) (hv : rv v = .int 0) (hdg : decode cc pc = .ok (.newarray atype, 2))
    (kk : ∀ (H1 : Heap), x_Inv D tc cl rv base (h ++ [.inr (t, List.replicate N v)]) H1 → va_S (fun q => base ≤ q) s.heap H1 locs → W p l e R s m args below meth c H1 locs (cells + 1) (slots + N) Q (F0 m (pc + 2) ls (.ref (base + h.length) :: rest))) : W p l e R s m args below meth c H locs cells slots Q (F0 m pc ls (.int n :: rest)) := by
  refine va_newaK hexec hb harr rfl hdg rfl hn hN (by rcases hat with rfl | rfl <;> simp [newarray.typeOf, componentBytes] <;> omega) hcells hslots (h := base + h.length) hI.1 fun H1 cA e1 z1 o1 hAr hNm => ?_
  have hcA : cA = tc t := by
    have h1 := (hK.2 t _ (hY t _ ht)).2
    have h2 : s.vm.findClass ("[" ++ (newarray.typeOf atype).toString) = some (tc t) := by rcases hat with rfl | rfl <;> exact h1
    exact Option.some.inj (hNm.symm.trans h2)
  have hdv : defaultValue (newarray.typeOf atype) = .int 0 := by rcases hat with rfl | rfl <;> rfl
  rw [← hI.1] at o1 z1
  refine kk H1 (x_Inv_app hI z1 o1 hl ?_) (x_S_app hS (by omega) o1)
  show H1[base + h.length]? = _
  rw [e1, hcA, hdv, List.length_replicate]
  have ho : ∀ (N : Nat) (f g : Nat → Value), (∀ j, j < N → f j = g j) → arrV (tc t) N f = arrV (tc t) N g := fun N f g q => by
    unfold arrV
    congr 1
    exact congrArg Array.ofFn (funext fun (j : Fin N) => q j.val j.isLt)
  rw [ho N (fun _ => .int 0) (fun j => rv ((List.replicate N v).getD j (.inr none))) (fun j hj => by simp [List.getD_eq_getElem?_getD, List.getElem?_replicate, hj, hv])]
theorem x_anew {o ix t N : Nat} {n : Int32} {v : XV E} {C : String} (hexec : p.tables.exec = Jvm.exec) (hb : c.code = cc) (hK : va_K D cl tys s) (hY : x_Tys tc tys tyl) (ht : tyl[t]? = some (.object C)) (hown : s.vm.findClass (tNm tb o) = some m.cls) (hlink : (Jvm.Cond.classLink (tNm tb o) ix C).before args s = true) (hover : (Jvm.Cond.arrayOver (.object C)).before args s = true) (hI : x_Inv D tc cl rv base h H) (hS : va_S (fun q => base ≤ q) s.heap H locs)
    (hl : h.length + 1 ≤ 1000000) (hn : ¬ n < 0) (hN : n.toNatClampNeg = N) (hN2 : N ≤ 100000) (hcells : cells + 1 ≤ R.cells) (hslots : slots + N ≤ R.slots) (hv : rv v = .null) (hdg : decode cc pc = .ok (.anewarray ix, 3))
    (kk : ∀ (H1 : Heap), x_Inv D tc cl rv base (h ++ [.inr (t, List.replicate N v)]) H1 → va_S (fun q => base ≤ q) s.heap H1 locs → W p l e R s m args below meth c H1 locs (cells + 1) (slots + N) Q (F0 m (pc + 3) ls (.ref (base + h.length) :: rest))) : W p l e R s m args below meth c H locs cells slots Q (F0 m pc ls (.int n :: rest)) := by
  subst hN
  refine W.anew hexec hb hown hlink hover rfl hdg rfl hn (by omega) hcells hslots fun cA kA comp f1 f2 f3 f4 => ?_
  rw [hI.1]
  have hcA : cA = tc t := by
    obtain ⟨_, _, -, -, -, h1⟩ := (hK.2 t _ (hY t _ ht)).2
    exact Option.some.inj (f1.symm.trans h1)
  generalize hH1 : H.push ({ cls := cA, slots := Array.replicate n.toNatClampNeg .null, vm := .none } : Cell) = H1
  have z1 : H1.size = H.size + 1 := by rw [← hH1, Array.size_push]
  have e1 : H1[H.size]? = some (arrV cA n.toNatClampNeg (fun _ => .null)) := by rw [← hH1, Array.getElem?_push_size, ← arrV_new]
  have o1 : ∀ q : Nat, q < H.size → H1[q]? = H[q]? := fun q hq => by rw [← hH1, Array.getElem?_push, if_neg (Nat.ne_of_lt hq)]
  refine kk H1 (x_Inv_app hI z1 o1 hl ?_) (x_S_app hS (by omega) o1)
  show H1[base + h.length]? = _
  rw [← hI.1, e1, hcA, List.length_replicate]
  have ho : ∀ (N : Nat) (f g : Nat → Value), (∀ j, j < N → f j = g j) → arrV (tc t) N f = arrV (tc t) N g := fun N f g q => by
    unfold arrV
    congr 1
    exact congrArg Array.ofFn (funext fun (j : Fin N) => q j.val j.isLt)
  rw [ho n.toNatClampNeg (fun _ => .null) (fun j => rv ((List.replicate n.toNatClampNeg v).getD j (.inr none))) (fun j hj => by simp [List.getD_eq_getElem?_getD, List.getElem?_replicate, hj, hv])]
end XRows
