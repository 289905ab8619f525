/-! The law's entry: what the evaluator asks is there; the law's end out of the evaluator. -/
section XEnv
theorem x_wW {p : Program} {l : Launch} {e : Env} {R : Room} {s : State} {m : MethodId} {args : Array Value} {below : List Frame} {meth : Method} {c : Code} {H : Heap} {locs : List Loc} {cells slots : Nat} {Q Q2 : State → Prop} {g : JFrame} (h : W p l e R s m args below meth c H locs cells slots Q g) (hq : ∀ t, Q t → Q2 t) : W p l e R s m args below meth c H locs cells slots Q2 g := fun T hT X => by
  obtain ⟨t, a, b⟩ := h T hT X
  exact ⟨t, a, hq t b⟩
theorem x_types {s : State} {args : Array Value} (hts : ∀ w ∈ lw_tbl, w.before args s = true) (t : Nat) : ∃ cA : ClassId, ∀ ty, x_tyl[t]? = some ty → ArrOfT s cA ty ∧ va_RA s cA ty := by
  have hin : ∀ w ∈ ([.arrayClass .int, .arrayClass .boolean, .arrayOver (.object "TwoDigits$Program"), .arrayOver (.object "TwoDigits$Chip"), .arrayOver (.object "TwoDigits$Sheet"), .arrayOver (.array .int), .arrayOver (.array .boolean)] : List Jvm.Cond), w ∈ lw_tbl := by decide +kernel
  have prim : ∀ ty : FieldType, (ty = .int ∨ ty = .boolean) → (Jvm.Cond.arrayClass ty).before args s = true → ∃ cA : ClassId, ArrOfT s cA ty ∧ va_RA s cA ty := by
    intro ty hty h
    obtain ⟨cA, k, cc, h1, h2, h3⟩ := Cond.arrayClass_spec h
    refine ⟨cA, fun n z => ⟨fun x h => (by cases h), k, h2, cc, h3⟩, ?_⟩
    rcases hty with rfl | rfl <;> exact h1
  have obj : ∀ C : String, (Jvm.Cond.arrayOver (.object C)).before args s = true → ∃ cA : ClassId, ArrOfT s cA (.object C) ∧ va_RA s cA (.object C) := by
    intro C h
    obtain ⟨comp, cA, k, h1, -, h3, h4, h5⟩ := Cond.arrayOver_spec h
    exact ⟨cA, fun n z => ⟨fun x h => (by cases h), k, h3, comp, h4⟩, k, comp, h3, h4, h1, h5⟩
  have arr : ∀ t : FieldType, (Jvm.Cond.arrayOver (.array t)).before args s = true → ∃ cA : ClassId, ArrOfT s cA (.array t) ∧ va_RA s cA (.array t) := by
    intro t h
    obtain ⟨comp, cA, k, h1, -, h3, h4, h5⟩ := Jvm.Stand.arrayOver_specB h
    exact ⟨cA, fun n z => ⟨fun x h => (by cases h), k, h3, comp, h4⟩, h5⟩
  have w := fun c h => hts c (hin c h)
  rcases t with _ | _ | _ | _ | _ | _ | _ | t
  · obtain ⟨cA, h⟩ := prim .int (Or.inl rfl) (w _ (by simp))
    exact ⟨cA, fun ty q => by cases q; exact h⟩
  · obtain ⟨cA, h⟩ := prim .boolean (Or.inr rfl) (w _ (by simp))
    exact ⟨cA, fun ty q => by cases q; exact h⟩
  · obtain ⟨cA, h⟩ := obj "TwoDigits$Program" (w _ (by simp))
    exact ⟨cA, fun ty q => by cases q; exact h⟩
  · obtain ⟨cA, h⟩ := obj "TwoDigits$Chip" (w _ (by simp))
    exact ⟨cA, fun ty q => by cases q; exact h⟩
  · obtain ⟨cA, h⟩ := obj "TwoDigits$Sheet" (w _ (by simp))
    exact ⟨cA, fun ty q => by cases q; exact h⟩
  · obtain ⟨cA, h⟩ := arr .int (w _ (by simp))
    exact ⟨cA, fun ty q => by cases q; exact h⟩
  · obtain ⟨cA, h⟩ := arr .boolean (w _ (by simp))
    exact ⟨cA, fun ty q => by cases q; exact h⟩
  · exact ⟨0, fun ty q => by simp [x_tyl] at q⟩
/-- what the law must answer -/
def x_post : List TK → Option (XV Jvm.Term) → List (XC Jvm.Term) → XR TK := fun w v _ => match v with
  | some (.inl (.int v)) => if v = 1 then [] else [w]
  | _ => [w]
theorem x_post_spec {ρ : Nat → Int32} {w : List TK} {v : Option (XV Jvm.Term)} {h : List (XC Jvm.Term)} (hw : XPa (tHd ρ) w) (hO : XOk (tHd ρ) (x_post w v h)) : v = some (.inl (.int 1)) := by
  unfold x_post at hO
  split at hO
  · split at hO
    · rename_i hv
      rw [hv]
    · exact (x_bad hO hw).elim
  · exact (x_bad hO hw).elim
theorem x_law {p : Program} {e : Env} {s : State} {m : MethodId} {below : List Frame} {meth : Method} {c : Code} (l : Launch) {b L : Nat} {xs : Nat → Int32} (C0 : lw_At p s m meth c b L xs) (ot : XO Jvm.Term) (XE : State → Heap → Prop) (sa : Nat → Nat) (hsa : sa 1000000 = b) (hX : x_XeOk XE s.heap.size) (hZ : x_OutOk x_TS x_tb ot (tD xs) XE s.heap.size sa) (hE : XE s s.heap)
    (f : Nat) (w : List TK) (hw : XPa (tHd xs) w) (hrun : XOk (tHd xs) (x_run (tD xs) x_tb x_tyl ot f 1300 0 0 (x_en 0 [.inr (some 1000000)]) [] [] 0 0 w x_post)) :
    W p l e room_1 s m #[Value.ref b] below meth c s.heap [] 0 0 (lw_Z below #[Value.ref b] s) (entryFrame m ([Value.ref b] : List Value).toArray 4) := by
  obtain ⟨hx, hb, hr, hml, hown, hts, hXX, hbl, hlocks, hgv⟩ := id C0
  have hts2 : ∀ w ∈ x_TS, w.before #[Value.ref b] s = true := fun z hz => hts z (List.mem_filter.mp hz).1
  have hcls : ∀ ci : Nat, ∃ q : ClassId × (Nat → Nat), ∀ r, x_cl[ci]? = some r → u_Kn s r.1 r.2.1 r.2.2 q.1 q.2 := by
    intro ci
    rcases hc : x_cl[ci]? with _ | r
    · exact ⟨(0, fun _ => 0), fun r h => by cases h⟩
    · have hr := x_tbOk.2.2.1 ci r hc
      obtain ⟨cc, iS, hk⟩ := u_known (C := r.1) (T := r.2.1) (N := r.2.2) (n := r.2.2) hts2 hr.1 (hts2 _ hr.2.2.2.2.1)
      exact ⟨(cc, iS), fun r2 h => by cases h; exact hk⟩
  obtain ⟨g, hg⟩ := Classical.axiomOfChoice hcls
  obtain ⟨tc, htc⟩ := Classical.axiomOfChoice (x_types hts)
  have hY : x_Tys tc (x_tyl.mapIdx (fun t ty => (tc t, ty))) x_tyl := fun t ty h => by
    rw [List.getElem?_mapIdx, h]
    rfl
  have hK : va_K (fun k => (g k).1, fun k => (g k).2) x_cl (x_tyl.mapIdx (fun t ty => (tc t, ty))) s := by
    refine ⟨fun ci q h => hg ci q h, fun t q h => ?_⟩
    rw [List.getElem?_mapIdx] at h
    obtain ⟨ty, hty, rfl⟩ := Option.map_eq_some_iff.mp h
    exact htc t ty hty
  have hTN : ∀ z ∈ x_TN, z.before #[] s = true := by
    have hin : ∀ z ∈ x_TN, z ∈ lw_tbl := by decide +kernel
    exact fun z hz => x_TN_args z hz _ _ _ (hts z (hin z hz))
  have hl := lv_entry ([.ref b]) (n := 4) (Nat.le_of_ble_eq_true rfl)
  rw [lg_entry_eq]
  have key := x_sound (l := l) (D := (fun k => (g k).1, fun k => (g k).2)) (tD_ok xs) x_tbOk hX hY hZ f 1300 0 0 xm0 (x_en 0 [.inr (some 1000000)]) [] [] 0 0 w x_post p e room_1 s m #[Value.ref b] below meth c s.heap [] _ rfl
    ⟨hx, hb, hml, hown, hts2, hr, hlocks, fun h => (by cases h), ⟨hK, hTN, hE⟩, Nat.le_refl _, by decide, by decide, Nat.le_of_ble_eq_true rfl, Nat.le_of_ble_eq_true rfl⟩ hrun hw
    ⟨rfl, Nat.zero_le _, fun k z h => by simp at h⟩ (show lv_has _ 4 [(0, x_rv (tD xs) (x_am s.heap.size sa) (.inr (some 1000000)))] by
      have e1 : x_rv (tD xs) (x_am s.heap.size sa) (.inr (some 1000000)) = .ref b := by
        show Value.ref (x_am s.heap.size sa 1000000) = .ref b
        rw [x_amo (by omega), hsa]
      rw [e1]
      exact hl) va_S.rf
  refine x_wW key (fun t ht => ?_)
  obtain ⟨o, h1, h2, ⟨⟨w2, v, h, hw2, hO, ho, -⟩, -⟩, LL, hF, hL⟩ := ht
  have hv := x_post_spec hw2 hO
  subst hv
  exact ⟨o, h1, h2, ho, hF.1, hF.2.1, State.sameButNew.drop_fresh (L := []) (J := LL) hF.2.2 hL⟩
theorem x_zero {xs : Nat → Int32} {tb : XT} {ot : XO Jvm.Term} {f : Nat} {w : List TK} (h : x_run (tD (fun _ => 0)) tb x_tyl ot f 1300 0 0 (x_en 0 [.inr (some 1000000)]) [] [] 0 0 w x_post = []) : XOk (tHd xs) (x_run (tD xs) tb x_tyl ot f 1300 0 0 (x_en 0 [.inr (some 1000000)]) [] [] 0 0 w x_post) := by
  have e := x_indep (tEv xs) (tEv (fun _ => 0)) (tHd xs) (tHd (fun _ => 0)) (fun v => .int v) tBin tUn tKst tBr tb x_tyl ot f
  have e2 : x_run (tD xs) tb x_tyl ot f = x_run (tD (fun _ => 0)) tb x_tyl ot f := e
  rw [e2, h]
  exact fun b hb => absurd hb List.not_mem_nil
/-- only the script outside -/
def x_ot0 (n : Nat) : XO Jvm.Term := (fun _ _ => none, fun _ _ _ => none, fun _ _ => none, fun _ => none, (n, fun j => .arg j), fun _ => none)
theorem x_law0 {p : Program} {e : Env} {s : State} {m : MethodId} {below : List Frame} {meth : Method} {c : Code} (l : Launch) {b L : Nat} {xs : Nat → Int32} (C0 : lw_At p s m meth c b L xs) (f : Nat) (w : List TK) (hw : XPa (tHd xs) w) (hrun : x_run (tD (fun _ => 0)) x_tb x_tyl (x_ot0 L) f 1300 0 0 (x_en 0 [.inr (some 1000000)]) [] [] 0 0 w x_post = []) :
    W p l e room_1 s m #[Value.ref b] below meth c s.heap [] 0 0 (lw_Z below #[Value.ref b] s) (entryFrame m ([Value.ref b] : List Value).toArray 4) := by
  obtain ⟨hx, hb, hr, hml, hown, hts, hXX, hbl, hlocks, hgv⟩ := id C0
  exact x_law l C0 (x_ot0 L) (fun U H => va_X b L xs U H) (fun _ => b) rfl (fun u U H H1 hW hq _ h => (h.moved hW.alike).kept (hq b hbl))
    ⟨fun o ix a h => (by cases h), fun a o ix v h => (by cases h), fun o ix v h => (by cases h), fun a bs h => (by cases h), fun U H h => ⟨h, hbl⟩, fun a rc q k h => (by cases h)⟩ hXX f w hw (x_zero hrun)
end XEnv
