/-! new T[n][m], and copying, over the evaluator's heap. -/
noncomputable section XMulti
variable {E K : Type}
variable {p : Program} {l : Launch} {e : Env} {R : Room} {s : State} {m : MethodId} {args : Array Value} {below : List Frame} {meth : Method} {c : Code} {H : Heap} {locs : List Loc} {cells slots : Nat} {Q : State → Prop}
variable {cc : ByteArray} {pc : Nat} {ls : Array Slot} {rest : List Value} {D : va_G} {tc : Nat → ClassId} {cl : List vw_C} {tys : List (ClassId × FieldType)} {tyl : List FieldType} {TS TN : List Jvm.Cond} {tb : XT}
variable {rv : XV E → Value} {base : Nat} {h : List (XC E)}
theorem x_rows_get (t : Nat) (r : List (XV E)) : ∀ (n i : Nat) (z : XC E), (x_rows t r n)[i]? = some z → i < n ∧ z = .inr (t, r)
  | 0, i, z, q => by simp [x_rows] at q
  | n + 1, 0, z, q => by
    simp only [x_rows, List.getElem?_cons_zero, Option.some.injEq] at q
    exact ⟨Nat.succ_pos n, q.symm⟩
  | n + 1, i + 1, z, q => by
    simp only [x_rows, List.getElem?_cons_succ] at q
    obtain ⟨a, b⟩ := x_rows_get t r n i z q
    exact ⟨Nat.succ_lt_succ a, b⟩
theorem x_rows_len (t : Nat) (r : List (XV E)) : ∀ n : Nat, (x_rows t r n).length = n
  | 0 => rfl
  | n + 1 => by
    show (x_rows t r n).length + 1 = n + 1
    rw [x_rows_len t r n]
theorem x_refs_len : ∀ n a : Nat, (x_refs (E := E) a n).length = n
  | 0, _ => rfl
  | n + 1, a => by
    show (x_refs (a + 1) n).length + 1 = n + 1
    rw [x_refs_len n (a + 1)]
theorem x_refs_get : ∀ n a i : Nat, i < n → (x_refs (E := E) a n)[i]? = some (.inr (some (a + i)))
  | 0, _, _, q => absurd q (Nat.not_lt_zero _)
  | n + 1, a, 0, _ => rfl
  | n + 1, a, i + 1, q => by
    show (x_refs (a + 1) n)[i]? = _
    rw [x_refs_get n (a + 1) i (Nat.lt_of_succ_lt_succ q), show a + 1 + i = a + (i + 1) by omega]
theorem x_outer (cI : ClassId) (N h0 : Nat) : ∀ i : Nat, Jvm.Free.Multi.outerC cI N h0 i = arrV cI N (fun j => if j < i then .ref (h0 + 1 + j) else .null)
  | 0 => by
    unfold Jvm.Free.Multi.outerC
    rw [arrV_new]
    exact congrArg (arrV cI N) (funext fun j => (if_neg (Nat.not_lt_zero j)).symm)
  | i + 1 => by
    unfold Jvm.Free.Multi.outerC
    rw [x_outer cI N h0 i, arrV_store]
    refine congrArg (arrV cI N) (funext fun j => ?_)
    by_cases e : j = i
    · subst e
      simp [updV]
    · by_cases q : j < i
      · simp [updV, e, q, Nat.lt_succ_of_lt q]
      · simp [updV, e, q, show ¬ j < i + 1 by omega]
theorem x_multi {o ix t2 t1 N M : Nat} {ty : FieldType} {n k : Int32} {v : XV E} (hexec : p.tables.exec = Jvm.exec) (hb : c.code = cc) (hK : va_K D cl tys s) (hY : x_Tys tc tys tyl) (ht1 : tyl[t1]? = some ty) (ht2 : tyl[t2]? = some (.array ty)) (hty : ty = .int ∨ ty = .boolean) (hown : s.vm.findClass (tNm tb o) = some m.cls)
    (hlink : (Jvm.Cond.classLink (tNm tb o) ix ("[" ++ (FieldType.array ty).toString)).before args s = true) (hover : (Jvm.Cond.arrayOver (.array ty)).before args s = true) (harr : (Jvm.Cond.arrayClass ty).before args s = true) (hI : x_Inv D tc cl rv base h H) (hS : va_S (fun q => base ≤ q) s.heap H locs)
    (hl : h.length + 1 + N ≤ 1000000) (hn : ¬ n < 0) (hk : ¬ k < 0) (hN : n.toNatClampNeg = N) (hM : k.toNatClampNeg = M) (hN2 : N ≤ 100000) (hM2 : M ≤ 100000) (hcells : cells + (1 + N) ≤ R.cells) (hslots : slots + (N + N * M) ≤ R.slots) (hv : rv v = .int 0) (hrf : ∀ j : Nat, j < N → rv (.inr (some (h.length + 1 + j))) = .ref (base + (h.length + 1 + j))) (hdg : decode cc pc = .ok (.multianewarray ix 2, 4))
    (kk : ∀ (H1 : Heap), x_Inv D tc cl rv base (h ++ .inr (t2, x_refs (h.length + 1) N) :: x_rows t1 (List.replicate M v) N) H1 → va_S (fun q => base ≤ q) s.heap H1 locs → W p l e R s m args below meth c H1 locs (cells + 1 + N) (slots + N + N * M) Q (F0 m (pc + 4) ls (.ref (base + h.length) :: rest))) : W p l e R s m args below meth c H locs cells slots Q (F0 m pc ls (.int k :: .int n :: rest)) := by
  subst hN
  subst hM
  intro T hT Xs
  obtain ⟨vm₁, cA, comp, -, fA, fC, -, -, X', step⟩ := Jvm.Stand.multianewarray2F Xs hexec hown hlink hover harr (g := F0 m pc ls (.int k :: .int n :: rest)) rfl (by rw [hb]; exact hdg) rfl hn hk (by omega) (by rcases hty with rfl | rfl <;> simp [componentBytes] <;> omega) (by omega) (by rcases hty with rfl | rfl <;> rfl) (by rcases hty with rfl | rfl <;> rfl) hcells hslots
  have eA : cA = tc t2 := Option.some.inj (fA.symm.trans (hK.2 t2 _ (hY t2 _ ht2)).2)
  have eC : comp = tc t1 := by
    have h1 := (hK.2 t1 _ (hY t1 _ ht1)).2
    have h2 : s.vm.findClass ((FieldType.array ty).toString) = some (tc t1) := by rcases hty with rfl | rfl <;> exact h1
    exact Option.some.inj (fC.symm.trans h2)
  subst eA eC
  have hdv : defaultValue ty = .int 0 := by rcases hty with rfl | rfl <;> rfl
  rw [hdv] at X' step
  generalize hF : Jvm.Free.Multi.fill (T.setVm vm₁) (tc t2) (tc t1) n.toNatClampNeg k.toNatClampNeg (.int 0) n.toNatClampNeg = F at X' step
  have hTh : (T.setVm vm₁).heap = H := hT
  obtain ⟨f1, f2, -, -⟩ := Jvm.Free.Multi.fill_facts (T.setVm vm₁) (tc t2) (tc t1) n.toNatClampNeg k.toNatClampNeg (.int 0) n.toNatClampNeg
  rw [hF, hTh] at f1 f2
  have hold : ∀ x : Nat, x < H.size → F.heap[x]? = H[x]? := fun x hx => by
    have := Jvm.Free.Multi.fill_old (T.setVm vm₁) (tc t2) (tc t1) n.toNatClampNeg k.toNatClampNeg (.int 0) (a := x) (by rw [hTh]; exact hx) n.toNatClampNeg
    rw [hF, hTh] at this
    exact this
  have hrow : ∀ j : Nat, j < n.toNatClampNeg → F.heap[H.size + 1 + j]? = some (arrV (tc t1) k.toNatClampNeg (fun _ => .int 0)) := fun j hj => by
    have := Jvm.Free.Multi.fill_inner (T.setVm vm₁) (tc t2) (tc t1) n.toNatClampNeg k.toNatClampNeg (.int 0) n.toNatClampNeg j hj
    rw [hF, hTh] at this
    rw [this, Jvm.Free.Multi.innerC, arrV_new]
  have ho : ∀ (cI : ClassId) (N : Nat) (f g : Nat → Value), (∀ j, j < N → f j = g j) → arrV cI N f = arrV cI N g := fun cI N f g q => by
    unfold arrV
    congr 1
    exact congrArg Array.ofFn (funext fun (j : Fin N) => q j.val j.isLt)
  have hout : Jvm.Free.Multi.outerC (tc t2) n.toNatClampNeg H.size n.toNatClampNeg = arrV (tc t2) n.toNatClampNeg (fun j => .ref (H.size + 1 + j)) := by
    rw [x_outer]
    exact ho _ _ _ _ fun j hj => if_pos hj
  rw [hout] at f2
  obtain ⟨i1, i2, i3⟩ := hI
  have hI1 : x_Inv D tc cl rv base (h ++ .inr (t2, x_refs (h.length + 1) n.toNatClampNeg) :: x_rows t1 (List.replicate k.toNatClampNeg v) n.toNatClampNeg) F.heap := by
    refine ⟨?_, ?_, fun j z hj => ?_⟩
    · rw [f1, i1, List.length_append, List.length_cons, x_rows_len]
      omega
    · rw [List.length_append, List.length_cons, x_rows_len]
      omega
    · by_cases hjl : j < h.length
      · rw [List.getElem?_append_left hjl] at hj
        exact x_at_kept (i3 j z hj) (hold _ (by omega))
      · rw [List.getElem?_append_right (by omega)] at hj
        by_cases hj0 : j = h.length
        · subst hj0
          rw [Nat.sub_self, List.getElem?_cons_zero] at hj
          cases hj
          show F.heap[base + h.length]? = _
          rw [← i1, f2, x_refs_len]
          refine congrArg some (ho _ _ _ _ fun j hj => ?_)
          rw [List.getD_eq_getElem?_getD, x_refs_get _ _ _ hj, Option.getD_some, hrf j hj, i1]
          rw [show base + h.length + 1 + j = base + (h.length + 1 + j) by omega]
        · obtain ⟨j2, hj2⟩ : ∃ j2, j - h.length = j2 + 1 := ⟨j - h.length - 1, by omega⟩
          rw [hj2, List.getElem?_cons_succ] at hj
          obtain ⟨g1, rfl⟩ := x_rows_get _ _ _ _ _ hj
          show F.heap[base + j]? = _
          rw [show base + j = H.size + 1 + j2 by omega, hrow j2 g1, List.length_replicate]
          exact congrArg some (ho _ _ _ _ fun j hj => by simp [List.getD_eq_getElem?_getD, List.getElem?_replicate, hj, hv])
  have hS1 : va_S (fun q => base ≤ q) s.heap F.heap locs := x_S_app hS (by omega) hold
  have hz : T.heap.size = base + h.length := by rw [hT]; exact i1
  rw [hz] at step
  obtain ⟨t, a1, b1⟩ := kk F.heap hI1 hS1 F rfl X'
  exact ⟨t, step t a1, b1⟩
theorem x_cpy (us vs : List (XV E)) (z : XV E) {sp dp n : Nat} (h4 : sp + n ≤ us.length) (h5 : dp + n ≤ vs.length) (j : Nat) : va_cpy (fun j => us.getD j z) (fun j => vs.getD j z) sp dp n j = (vs.take dp ++ (us.drop sp).take n ++ vs.drop (dp + n)).getD j z := by
  have l1 : (vs.take dp).length = dp := by rw [List.length_take]; omega
  have l2 : ((us.drop sp).take n).length = n := by rw [List.length_take, List.length_drop]; omega
  unfold va_cpy
  simp only [List.getD_eq_getElem?_getD]
  by_cases a : j < dp
  · rw [if_neg (by omega), List.append_assoc, List.getElem?_append_left (by omega), List.getElem?_take, if_pos a]
  · by_cases b : j < dp + n
    · rw [if_pos ⟨by omega, b⟩, List.append_assoc, List.getElem?_append_right (by omega), List.getElem?_append_left (by omega), l1, List.getElem?_take, if_pos (by omega), List.getElem?_drop]
    · rw [if_neg (by omega), List.getElem?_append_right (by rw [List.length_append]; omega), List.length_append, l1, l2, List.getElem?_drop, show dp + n + (j - (dp + n)) = j by omega]
theorem x_copy {o ix a0 a1 : Nat} {us vs : List (XV E)} {sp dp n : Int32} (hexec : p.tables.exec = Jvm.exec) (hb : c.code = cc) (hml : c.maxLocals = ls.size) (hown : s.vm.findClass (tNm tb o) = some m.cls) (hlink : (Jvm.Cond.methodLink (tNm tb o) ix arraycopyName).before args s = true) (hnat : (Jvm.Cond.native arraycopyName).before args s = true) (hstat : (Jvm.Cond.static arraycopyName).before args s = true) (hini : (Jvm.Cond.initialized "java/lang/System").before args s = true)
    (hK : va_K D cl tys s) (hY : x_Tys tc tys tyl) (ht : tyl[0]? = some .int) (hI : x_Inv D tc cl rv base h H) (hS : va_S (fun q => base ≤ q) s.heap H locs) (ha0 : h[a0]? = some (.inr (0, us))) (ha1 : h[a1]? = some (.inr (0, vs))) (hint : ∀ u ∈ us, ∃ x, rv u = .int x)
    (h1 : ¬ sp < 0) (h2 : ¬ dp < 0) (h3 : ¬ n < 0) (h4 : sp.toNatClampNeg + n.toNatClampNeg ≤ us.length) (h5 : dp.toNatClampNeg + n.toNatClampNeg ≤ vs.length) (hframes : 1 ≤ R.frames) (hlocals : (rest.map fun v => v.category).sum + (nativeFrameWords "java/lang/System" "arraycopy" 5 + 11) ≤ R.locals) (hdg : decode cc pc = .ok (.invokestatic ix, 3))
    (kk : ∀ (H1 : Heap) (locs1 : List Loc), x_Inv D tc cl rv base (h.set a1 (.inr (0, vs.take dp.toNatClampNeg ++ (us.drop sp.toNatClampNeg).take n.toNatClampNeg ++ vs.drop (dp.toNatClampNeg + n.toNatClampNeg)))) H1 → va_S (fun q => base ≤ q) s.heap H1 locs1 → W p l e R s m args below meth c H1 locs1 cells slots Q (F0 m (pc + 3) ls rest)) : W p l e R s m args below meth c H locs cells slots Q (F0 m pc ls (.int n :: .int dp :: .ref (base + a1) :: .int sp :: .ref (base + a0) :: rest)) := by
  have nn : ∀ z : Int32, ¬ z < 0 → z.toInt = (z.toNatClampNeg : Int) := by
    intro z hz
    have hz0 : (0 : Int) ≤ z.toInt := by
      have := Int32.not_lt.mp hz
      simpa using Int32.le_iff_toInt_le.mp this
    show z.toInt = ((z.toInt.toNat : Nat) : Int)
    omega
  intro T hT X
  have hc0 : H[base + a0]? = some (arrV (tc 0) us.length (fun j => rv (us.getD j (.inr none)))) := hI.2.2 a0 _ ha0
  have hc1 : H[base + a1]? = some (arrV (tc 0) vs.length (fun j => rv (vs.getD j (.inr none)))) := hI.2.2 a1 _ ha1
  obtain ⟨-, k0, hk0, cm0, hkk0⟩ := (hK.2 0 _ (hY 0 _ ht)).1 us.length (fun j => rv (us.getD j (.inr none)))
  obtain ⟨-, k1, hk1, cm1, hkk1⟩ := (hK.2 0 _ (hY 0 _ ht)).1 vs.length (fun j => rv (vs.getD j (.inr none)))
  obtain ⟨vm', X', step⟩ := X.arraycopy hexec hown hlink hnat hstat hini (src := base + a0) (dst := base + a1) (cs := arrV (tc 0) us.length (fun j => rv (us.getD j (.inr none)))) (cd := arrV (tc 0) vs.length (fun j => rv (vs.getD j (.inr none)))) (srcPos := sp) (destPos := dp) (n := n) (by rw [hT]; exact hc0) (by rw [hT]; exact hc1)
    (fun _ h => by cases h) (fun _ h => by cases h) (fun h => by cases h) (fun h => by cases h) hk0 hk1 hkk0 hkk1 (by simp [refKind]) h1 h2 h3
    (by rw [nn sp h1, nn n h3, arrV_size]; omega)
    (by rw [nn dp h2, nn n h3, arrV_size]; omega)
    (fun vm₁ _ i hi => by
      have hlt : sp.toNatClampNeg + i < us.length := by omega
      have e : (arrV (tc 0) us.length (fun j => rv (us.getD j (.inr none)))).slots.getD (sp.toNatClampNeg + i) .null = rv (us[sp.toNatClampNeg + i]) := by
        rw [Array.getD_eq_getD_getElem?, arrV_read _ _ hlt, List.getD_eq_getElem?_getD, List.getElem?_eq_getElem hlt]
        rfl
      obtain ⟨x, hx⟩ := hint _ (List.getElem_mem hlt)
      rw [e, hx]
      exact ⟨rfl, trivial⟩)
    (g := F0 m pc ls (.int n :: .int dp :: .ref (base + a1) :: .int sp :: .ref (base + a0) :: rest)) rfl (by rw [hml]) (rest := rest) rfl (by rw [hb]; exact hdg) hframes (by show 2 * 0 + _ + _ ≤ _; omega)
  have hlen : (vs.take dp.toNatClampNeg ++ (us.drop sp.toNatClampNeg).take n.toNatClampNeg ++ vs.drop (dp.toNatClampNeg + n.toNatClampNeg)).length = vs.length := by
    simp only [List.length_append, List.length_take, List.length_drop]
    omega
  have e1 : copied (arrV (tc 0) us.length (fun j => rv (us.getD j (.inr none)))) (arrV (tc 0) vs.length (fun j => rv (vs.getD j (.inr none)))) sp dp n = arrV (tc 0) (vs.take dp.toNatClampNeg ++ (us.drop sp.toNatClampNeg).take n.toNatClampNeg ++ vs.drop (dp.toNatClampNeg + n.toNatClampNeg)).length (fun j => rv ((vs.take dp.toNatClampNeg ++ (us.drop sp.toNatClampNeg).take n.toNatClampNeg ++ vs.drop (dp.toNatClampNeg + n.toNatClampNeg)).getD j (.inr none))) := by
    rw [hlen]
    refine (va_copied rv (tc 0) (tc 0) (fun j => us.getD j (.inr none)) (fun j => vs.getD j (.inr none)) h4).trans ?_
    exact congrArg (arrV (tc 0) vs.length) (funext fun j => congrArg rv (x_cpy us vs (.inr none) h4 h5 j))
  generalize hnew : (vs.take dp.toNatClampNeg ++ (us.drop sp.toNatClampNeg).take n.toNatClampNeg ++ vs.drop (dp.toNatClampNeg + n.toNatClampNeg)) = zs at e1 kk
  rw [e1] at X' step
  have hl : base + a1 < H.size := (Array.getElem?_eq_some_iff.mp hc1).1
  generalize hcell : arrV (tc 0) zs.length (fun j => rv (zs.getD j (.inr none))) = nc at X' step
  have hheap : ((T.setVm vm').setCell (base + a1) nc).heap = H.setIfInBounds (base + a1) nc := by rw [← hT]; rfl
  have oq : ∀ q : Nat, q ≠ base + a1 → (H.setIfInBounds (base + a1) nc)[q]? = H[q]? := fun q hq => by simp [Array.getElem?_setIfInBounds, Ne.symm hq]
  have hnc : (H.setIfInBounds (base + a1) nc)[base + a1]? = some nc := by simp [Array.getElem?_setIfInBounds, hl]
  obtain ⟨t, b1, b2⟩ := kk _ _ (x_Inv_set hI ha1 (by simp) oq (z := .inr (0, zs)) (by show _ = some (arrV (tc 0) zs.length _); rw [hnc, hcell])) ⟨by simp; exact hS.1, fun q g1 g2 => by
      rw [oq q (fun e => g2 (by rw [e]; exact Nat.le_add_right _ _))]
      exact hS.2.1 q g1 g2, fun q hq => by
      rcases List.mem_append.mp hq with h | h
      · exact hS.2.2 q h
      · obtain ⟨z, -, hz⟩ := List.mem_map.mp h
        rw [← hz]
        exact Nat.le_add_right _ _⟩ _ hheap X'
  exact ⟨t, step t b1, b2⟩
end XMulti
