/-! The law's entry: what the evaluator asks is there; the law's end out of the evaluator. -/
noncomputable section XEnvC
theorem x_wW {p : Program} {l : Launch} {e : Env} {R : Room} {s : State} {m : MethodId} {args : Array Value} {below : List Frame} {meth : Method} {c : Code} {H : Heap} {locs : List Loc} {cells slots : Nat} {Q Q2 : State → Prop} {g : JFrame} (h : W p l e R s m args below meth c H locs cells slots Q g) (hq : ∀ t, Q t → Q2 t) : W p l e R s m args below meth c H locs cells slots Q2 g := fun T hT X => by
  obtain ⟨t, a, b⟩ := h T hT X
  exact ⟨t, a, hq t b⟩
theorem x_types {s : State} {args : Array Value} (hts : ∀ w ∈ lw_tbl, w.before args s = true) (t : Nat) : ∃ cA : ClassId, ∀ ty, x_tyl[t]? = some ty → ArrOfT s cA ty ∧ va_RA s cA ty := by
  have hin : ∀ w ∈ ([.arrayClass .int, .arrayClass .boolean, .arrayOver (.object "TwoDigits$Program"), .arrayOver (.object "TwoDigits$Chip"), .arrayOver (.object "TwoDigits$Sheet"), .arrayOver (.array .int), .arrayOver (.array .boolean)] : List Jvm.Cond), w ∈ lw_tbl := by decide +kernel
  have prim : ∀ ty : FieldType, (ty = .int ∨ ty = .boolean) → (Jvm.Cond.arrayClass ty).before args s = true → ∃ cA : ClassId, ArrOfT s cA ty ∧ va_RA s cA ty := by
    intro ty hty h
    obtain ⟨cA, k, cc, h1, h2, h3⟩ := Cond.arrayClass_spec h
    refine ⟨cA, fun n z => ⟨fun x h => (by cases h), k, h2, cc, h3⟩, ?_⟩
    rcases hty with rfl | rfl <;> exact h1
  have obj : ∀ C : String, (Jvm.Cond.arrayOver (.object C)).before args s = true → ∃ cA : ClassId, ArrOfT s cA (.object C) ∧ va_RA s cA (.object C) := by
    intro C h
    obtain ⟨comp, cA, k, h1, -, h3, h4, h5⟩ := Cond.arrayOver_spec h
    exact ⟨cA, fun n z => ⟨fun x h => (by cases h), k, h3, comp, h4⟩, k, comp, h3, h4, h1, h5⟩
  have arr : ∀ t : FieldType, (Jvm.Cond.arrayOver (.array t)).before args s = true → ∃ cA : ClassId, ArrOfT s cA (.array t) ∧ va_RA s cA (.array t) := by
    intro t h
    obtain ⟨comp, cA, k, h1, -, h3, h4, h5⟩ := Jvm.Stand.arrayOver_specB h
    exact ⟨cA, fun n z => ⟨fun x h => (by cases h), k, h3, comp, h4⟩, h5⟩
  have w := fun c h => hts c (hin c h)
  rcases t with _ | _ | _ | _ | _ | _ | _ | t
  · obtain ⟨cA, h⟩ := prim .int (Or.inl rfl) (w _ (by simp))
    exact ⟨cA, fun ty q => by cases q; exact h⟩
  · obtain ⟨cA, h⟩ := prim .boolean (Or.inr rfl) (w _ (by simp))
    exact ⟨cA, fun ty q => by cases q; exact h⟩
  · obtain ⟨cA, h⟩ := obj "TwoDigits$Program" (w _ (by simp))
    exact ⟨cA, fun ty q => by cases q; exact h⟩
  · obtain ⟨cA, h⟩ := obj "TwoDigits$Chip" (w _ (by simp))
    exact ⟨cA, fun ty q => by cases q; exact h⟩
  · obtain ⟨cA, h⟩ := obj "TwoDigits$Sheet" (w _ (by simp))
    exact ⟨cA, fun ty q => by cases q; exact h⟩
  · obtain ⟨cA, h⟩ := arr .int (w _ (by simp))
    exact ⟨cA, fun ty q => by cases q; exact h⟩
  · obtain ⟨cA, h⟩ := arr .boolean (w _ (by simp))
    exact ⟨cA, fun ty q => by cases q; exact h⟩
  · exact ⟨0, fun ty q => by simp [x_tyl] at q⟩
/-- what the law must answer -/
def x_pC : List Unit → Option (XV Int32) → List (XC Int32) → XR Unit := fun w v _ => match v with
  | some (.inl v) => if v = 1 then [] else [w]
  | _ => [w]
theorem x_pC_spec {w : List Unit} {v : Option (XV Int32)} {h : List (XC Int32)} (hO : XOk (dHd dC) (x_pC w v h)) : v = some (.inl 1) := by
  have hw : XPa (dHd dC) w := fun _ _ => trivial
  unfold x_pC at hO
  split at hO
  · split at hO
    · rename_i hv
      rw [hv]
    · exact (x_bad hO hw).elim
  · exact (x_bad hO hw).elim
theorem x_lawC {p : Program} {e : Env} {s : State} {m : MethodId} {below : List Frame} {meth : Method} {c : Code} (l : Launch) {b L : Nat} {xs : Nat → Int32} (C0 : lw_At p s m meth c b L xs) (ot : XO Int32) (XE : State → Heap → Prop) (sa : Nat → Nat) (hsa : sa 1000000 = b) (hX : x_XeOk XE s.heap.size) (hZ : x_OutOk x_TS x_tb ot dC XE s.heap.size sa) (hE : XE s s.heap)
    (hTo : ∃ H2, x_To x_tb x_tyl ot 1300 0 0 (x_en 0 [.inr (some 1000000)]) [] [] 0 0 (some (.inl 1)) H2) :
    W p l e room_1 s m #[Value.ref b] below meth c s.heap [] 0 0 (lw_Z below #[Value.ref b] s) (entryFrame m ([Value.ref b] : List Value).toArray 4) := by
  obtain ⟨hx, hb, hr, hml, hown, hts, hXX, hbl, hlocks, hgv⟩ := id C0
  obtain ⟨HE, f, hgo⟩ := hTo
  have hrun : XOk (dHd dC) (x_run dC x_tb x_tyl ot f 1300 0 0 (x_en 0 [.inr (some 1000000)]) [] [] 0 0 [] x_pC) := by
    have h1 := (hgo f (Nat.le_refl f) (fun _ => false) [] (fun a ha => by cases ha)).2 [] x_pC
    rw [zMx_no, zMx_no] at h1
    rw [h1]
    exact (show XOk (dHd dC) (x_pC [] (some (.inl 1)) HE) from fun b hb => absurd hb List.not_mem_nil)
  have hw : XPa (dHd dC) ([] : List Unit) := fun _ _ => trivial
  have hts2 : ∀ w ∈ x_TS, w.before #[Value.ref b] s = true := fun z hz => hts z (List.mem_filter.mp hz).1
  have hcls : ∀ ci : Nat, ∃ q : ClassId × (Nat → Nat), ∀ r, x_cl[ci]? = some r → u_Kn s r.1 r.2.1 r.2.2 q.1 q.2 := by
    intro ci
    rcases hc : x_cl[ci]? with _ | r
    · exact ⟨(0, fun _ => 0), fun r h => by cases h⟩
    · have hr := x_tbOk.2.2.1 ci r hc
      obtain ⟨cc, iS, hk⟩ := u_known (C := r.1) (T := r.2.1) (N := r.2.2) (n := r.2.2) hts2 hr.1 (hts2 _ hr.2.2.2.2.1)
      exact ⟨(cc, iS), fun r2 h => by cases h; exact hk⟩
  obtain ⟨g, hg⟩ := Classical.axiomOfChoice hcls
  obtain ⟨tc, htc⟩ := Classical.axiomOfChoice (x_types hts)
  have hY : x_Tys tc (x_tyl.mapIdx (fun t ty => (tc t, ty))) x_tyl := fun t ty h => by
    rw [List.getElem?_mapIdx, h]
    rfl
  have hK : va_K (fun k => (g k).1, fun k => (g k).2) x_cl (x_tyl.mapIdx (fun t ty => (tc t, ty))) s := by
    refine ⟨fun ci q h => hg ci q h, fun t q h => ?_⟩
    rw [List.getElem?_mapIdx] at h
    obtain ⟨ty, hty, rfl⟩ := Option.map_eq_some_iff.mp h
    exact htc t ty hty
  have hTN : ∀ z ∈ x_TN, z.before #[] s = true := by
    have hin : ∀ z ∈ x_TN, z ∈ lw_tbl := by decide +kernel
    exact fun z hz => x_TN_args z hz _ _ _ (hts z (hin z hz))
  have hl := lv_entry ([.ref b]) (n := 4) (Nat.le_of_ble_eq_true rfl)
  rw [lg_entry_eq]
  have key := x_sound (l := l) (D := (fun k => (g k).1, fun k => (g k).2)) dC_ok x_tbOk hX hY hZ f 1300 0 0 xm0 (x_en 0 [.inr (some 1000000)]) [] [] 0 0 [] x_pC p e room_1 s m #[Value.ref b] below meth c s.heap [] _ rfl
    ⟨hx, hb, hml, hown, hts2, hr, hlocks, fun h => (by cases h), ⟨hK, hTN, hE⟩, Nat.le_refl _, by decide, by decide, Nat.le_of_ble_eq_true rfl, Nat.le_of_ble_eq_true rfl⟩ hrun hw
    ⟨rfl, Nat.zero_le _, fun k z h => by simp at h⟩ (show lv_has _ 4 [(0, x_rv dC (x_am s.heap.size sa) (.inr (some 1000000)))] by
      have e1 : x_rv dC (x_am s.heap.size sa) (.inr (some 1000000)) = .ref b := by
        show Value.ref (x_am s.heap.size sa 1000000) = .ref b
        rw [x_amo (by omega), hsa]
      rw [e1]
      exact hl) va_S.rf
  refine x_wW key (fun t ht => ?_)
  obtain ⟨o, h1, h2, ⟨⟨w2, v, h, hw2, hO, ho, -⟩, -⟩, LL, hF, hL⟩ := ht
  have hv := x_pC_spec hO
  subst hv
  exact ⟨o, h1, h2, ho, hF.1, hF.2.1, State.sameButNew.drop_fresh (L := []) (J := LL) hF.2.2 hL⟩
theorem x_lawS {p : Program} {e : Env} {s : State} {m : MethodId} {below : List Frame} {meth : Method} {c : Code} (l : Launch) {b L : Nat} {xs : Nat → Int32} (C0 : lw_At p s m meth c b L xs) (hrun : ∀ sf, sf = none ∨ sf = some 1200000 → ∃ H2, x_To x_tb x_tyl (x_otS xs L sf) 1300 0 0 (x_en 0 [.inr (some 1000000)]) [] [] 0 0 (some (.inl 1)) H2) :
    W p l e room_1 s m #[Value.ref b] below meth c s.heap [] 0 0 (lw_Z below #[Value.ref b] s) (entryFrame m ([Value.ref b] : List Value).toArray 4) := by
  obtain ⟨hx, hb, hr, hml, hown, hts, hXX, hbl, hlocks, hgv⟩ := id C0
  have hA : ∀ a : Nat, a < s.heap.size → ¬ (fun q => s.heap.size ≤ q) a := fun a h => Nat.not_le.mpr h
  have hst : ∀ i : Nat, ∃ q : Nat × Nat, ∀ e, x_strs[i]? = some e → x_StrF (fun q => s.heap.size ≤ q) e q s s.heap := by
    intro i
    rcases hi : x_strs[i]? with _ | e
    · exact ⟨(0, 0), fun e h => by cases h⟩
    · obtain ⟨q, hq⟩ := x_str1 hA hgv hts (List.all_eq_true.mp x_k_st e (List.mem_of_getElem? hi))
      exact ⟨q, fun e2 h => by cases h; exact hq⟩
  obtain ⟨g, hg⟩ := Classical.axiomOfChoice hst
  have hsl := x_k_sl
  simp only [Bool.and_eq_true, decide_eq_true_eq] at hsl
  obtain ⟨⟨⟨⟨⟨s1, s2⟩, s3⟩, s4⟩, s5⟩, s6⟩ := hsl
  have hw2 := fun {j i : Nat} {z : Jvm.Cond} (h : (x_seg.getD j [])[i]? = some z) => hts z (x_seg_spec _ _ (List.mem_of_getElem? h))
  have hs := flat_of_before _ hgv
  have hcs : va_Z "java/lang/String" "COMPACT_STRINGS" "Z" (.int 1) (fun q => s.heap.size ≤ q) s s.heap := by
    obtain ⟨y, y1, y2⟩ := Cond.eq_one (show (Jvm.Cond.eq (.static "java/lang/String" "COMPACT_STRINGS" "Z") (.int 1)).holds #[Value.ref b] s none s [] = true from hs _ s5)
    cases y2
    exact va_Zof (hw2 s1) (hw2 s3) y1 hA
  have hzq := va_Zqof (hw2 s2) (hw2 s4) (hs _ s6) hA
  have hfl := x_k_sf
  simp only [Bool.and_eq_true] at hfl
  obtain ⟨⟨⟨f1, f2⟩, f3⟩, f4⟩ := hfl
  have fin : ∀ (sf : Option Nat) (t : Nat), (sf = none ∨ sf = some 1200000) → va_Z "jdk/internal/util/Preconditions" "SIOOBE_FORMATTER" "Ljava/util/function/BiFunction;" (x_rov (x_sa b g t) (.inr sf)) (fun q => s.heap.size ≤ q) s s.heap → W p l e room_1 s m #[Value.ref b] below meth c s.heap [] 0 0 (lw_Z below #[Value.ref b] s) (entryFrame m ([Value.ref b] : List Value).toArray 4) := by
    intro sf t hsf hz
    refine x_lawC l C0 (x_otS xs L sf) (fun U H => va_X b L xs U H ∧ (∀ i e, x_strs[i]? = some e → x_StrF (fun q => s.heap.size ≤ q) e (g i) U H) ∧ va_Z "java/lang/String" "COMPACT_STRINGS" "Z" (.int 1) (fun q => s.heap.size ≤ q) U H ∧ va_Z "jdk/internal/util/Preconditions" "SIOOBE_FORMATTER" "Ljava/util/function/BiFunction;" (x_rov (x_sa b g t) (.inr sf)) (fun q => s.heap.size ≤ q) U H) (x_sa b g t) rfl ?_ ?_ ⟨hXX, fun i e h => hg i e h, hcs, hz⟩ ?_
    · intro u U H H1 hW hq hbH h
      have hk : ∀ a : Nat, a < H.size → ¬ (s.heap.size ≤ a) → H1[a]? = H[a]? := fun a _ h2 => hq a (Nat.lt_of_not_le h2)
      exact ⟨(h.1.moved hW.alike).kept (hq b hbl), fun i e he => x_StrF_moved hW hk (h.2.1 i e he), (va_Z.moved hW.alike h.2.2.1).kept hk, (va_Z.moved hW.alike h.2.2.2).kept hk⟩
    · have gV : ∀ i : Nat, i < 23 → x_sa b g t (1100000 + i) = (g i).2 := fun i hi => by
        unfold x_sa
        rw [if_neg (by omega), if_neg (by omega), if_pos (by omega), show 1100000 + i - 1100000 = i by omega]
      have gK : ∀ a : Nat, 1000001 ≤ a → a < 1000001 + 23 → x_sa b g t a = (g (a - 1000001)).1 := fun a h1 h2 => by
        unfold x_sa
        rw [if_neg (by omega), if_pos (by omega)]
      have len : ∀ i : Nat, i < 23 → ∃ e, x_strs[i]? = some e := fun i hi => ⟨_, List.getElem?_eq_getElem (show i < x_strs.length from hi)⟩
      refine ⟨fun o ix a h => ?_, fun a o ix v h => ?_, fun o ix v h => ?_, fun a bs h => ?_, fun U H h => ⟨h.1, hbl⟩, fun a rc q k h hk hrc => ?_⟩
      · obtain ⟨i, e, h1, rfl, h3, h4⟩ := x_fS_spec h
        have hi : i < 23 := (List.getElem?_eq_some_iff.mp h1).1
        refine ⟨by omega, fun U H hE => ⟨e.2.2.1, ?_⟩⟩
        have h5 := (hE.2.1 i e h1).1
        rw [gK _ (by omega) (by omega), show 1000001 + (0 + i) - 1000001 = i by omega, ← h3, ← h4]
        exact h5
      · by_cases hc : o = 15 ∧ 1000001 ≤ a ∧ a < 1000001 + 23
        · obtain ⟨rfl, c1, c2⟩ := hc
          obtain ⟨e, he⟩ := len (a - 1000001) (by omega)
          have h : (if ix = 9 then some (.inr (some (1100000 + (a - 1000001)))) else if ix = 15 then some (.inl 0) else none) = some v := by
            have h' : (if 15 = 15 ∧ 1000001 ≤ a ∧ a < 1000001 + 23 then (if ix = 9 then some (.inr (some (1100000 + (a - 1000001)))) else if ix = 15 then some (.inl 0) else none) else none) = some v := h
            rw [if_pos ⟨rfl, c1, c2⟩] at h'
            exact h'
          by_cases h9 : ix = 9
          · rw [if_pos h9] at h
            cases h
            subst h9
            refine ⟨fun z hz => (by
              have h8 := Option.some.inj (Sum.inr.inj hz)
              omega), _, _, _, x_w_spec f1, fun U H hE => ?_⟩
            have h5 := (hE.2.1 _ e he).2.2.2.1
            show va_OF _ _ _ (Value.ref (x_sa b g t (1100000 + (a - 1000001)))) _ _ _ _
            rw [gK a c1 c2, gV _ (by omega)]
            exact h5
          · rw [if_neg h9] at h
            by_cases h15 : ix = 15
            · rw [if_pos h15] at h
              cases h
              subst h15
              refine ⟨fun z hz => (by cases hz), _, _, _, x_w_spec f2, fun U H hE => ?_⟩
              have h5 := (hE.2.1 _ e he).2.2.1
              rw [gK a c1 c2]
              exact h5
            · rw [if_neg h15] at h
              cases h
        · have h' : (if o = 15 ∧ 1000001 ≤ a ∧ a < 1000001 + 23 then (if ix = 9 then some (.inr (some (1100000 + (a - 1000001)))) else if ix = 15 then some (.inl 0) else none) else none) = some v := h
          rw [if_neg hc] at h'
          cases h'
      · have h' : (if o = 15 ∧ ix = 38 then some (.inl 1) else if o = 15 ∧ ix = 1053 then some (.inr sf) else none) = some v := h
        by_cases h1 : o = 15 ∧ ix = 38
        · rw [if_pos h1] at h'
          cases h'
          obtain ⟨rfl, rfl⟩ := h1
          exact ⟨fun z hz => (by cases hz), _, _, _, x_w_spec f3, fun U H hE => hE.2.2.1⟩
        · rw [if_neg h1] at h'
          by_cases h2 : o = 15 ∧ ix = 1053
          · rw [if_pos h2] at h'
            cases h'
            obtain ⟨rfl, rfl⟩ := h2
            refine ⟨fun z hz => ?_, _, _, _, x_w_spec f4, fun U H hE => hE.2.2.2⟩
            have h8 : sf = some z := Sum.inr.inj hz
            rcases hsf with h | h
            · rw [h] at h8
              cases h8
            · rw [h] at h8
              have h9 := Option.some.inj h8
              omega
          · rw [if_neg h2] at h'
            cases h'
      · have h' : (if 1100000 ≤ a then (x_strs[a - 1100000]?).map (fun e => e.2.2.2.1) else none) = some bs := h
        by_cases hc : 1100000 ≤ a
        · rw [if_pos hc] at h'
          obtain ⟨e, he, rfl⟩ := Option.map_eq_some_iff.mp h'
          have hi : a - 1100000 < 23 := (List.getElem?_eq_some_iff.mp he).1
          intro U H hE
          have h5 := (hE.2.1 _ e he).2.2.2.2
          rw [show a = 1100000 + (a - 1100000) by omega, gV _ hi]
          exact h5
        · rw [if_neg hc] at h'
          cases h'
      · have h' : (if 1000001 ≤ a ∧ a < 1000001 + 23 then some 115 else none) = some rc := h
        by_cases hc : 1000001 ≤ a ∧ a < 1000001 + 23
        · rw [if_pos hc] at h'
          cases h'
          intro U H hE
          obtain ⟨e, he⟩ := len (a - 1000001) (by omega)
          rw [gK a hc.1 hc.2, x_rcS q (List.mem_of_getElem? hk) hrc]
          exact (hE.2.1 _ e he).2.1
        · rw [if_neg hc] at h'
          cases h'
    · exact hrun sf hsf
  rcases hzq with hz | ⟨t, hz⟩
  · exact fin none 0 (Or.inl rfl) hz
  · exact fin (some 1200000) t (Or.inr rfl) (by
      have e1 : x_rov (x_sa b g t) (.inr (some 1200000)) = .ref t := by
        show Value.ref (x_sa b g t 1200000) = .ref t
        unfold x_sa
        rw [if_neg (by omega), if_neg (by omega), if_neg (by omega)]
      rw [e1]
      exact hz)
end XEnvC
