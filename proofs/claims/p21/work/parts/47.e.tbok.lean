/-! The tables are right. -/
noncomputable section XTbOk
theorem x_good_TS : ∀ w ∈ x_TS, ((w.onTables && w.keeps) = true ∨ ∃ ty, w = .arrayClass ty) := fun w hw => good_of_word (List.mem_filter.mp hw).2
theorem x_TN_moves : ∀ w ∈ x_TN, ∀ u U : State, u.WarmedH U.vm → w.before #[] u = true → w.before #[] U = true := by
  have hn : ∀ (a : String) (i : Nat) (x : MethodName) (b : String) (u U : State), u.WarmedH U.vm → (Jvm.Cond.methodLinkNest a i x b).before #[] u = true → (Jvm.Cond.methodLinkNest a i x b).before #[] U = true := fun a i x b u U hW h => va_Nw.warmM hW h
  have ho : ∀ (C : String) (u U : State), u.WarmedH U.vm → (Jvm.Cond.arrayOver (.object C)).before #[] u = true → (Jvm.Cond.arrayOver (.object C)).before #[] U = true := fun C u U hW h => va_AO.moved hW.alike h
  have ha : ∀ (t : FieldType) (u U : State), u.WarmedH U.vm → (Jvm.Cond.arrayOver (.array t)).before #[] u = true → (Jvm.Cond.arrayOver (.array t)).before #[] U = true := fun t u U hW h => Jvm.Stand.arrayOver_alikeB hW.alike h
  intro w hw u U hW h
  simp only [x_TN, List.mem_cons, List.not_mem_nil, or_false] at hw
  rcases hw with rfl | rfl | rfl | rfl | rfl | rfl | rfl | rfl | rfl | rfl | rfl | rfl | rfl
  · exact hn _ _ _ _ u U hW h
  · exact hn _ _ _ _ u U hW h
  · exact hn _ _ _ _ u U hW h
  · exact hn _ _ _ _ u U hW h
  · exact hn _ _ _ _ u U hW h
  · exact hn _ _ _ _ u U hW h
  · exact hn _ _ _ _ u U hW h
  · exact hn _ _ _ _ u U hW h
  · exact ho _ u U hW h
  · exact ho _ u U hW h
  · exact ho _ u U hW h
  · exact ha _ u U hW h
  · exact ha _ u U hW h
theorem x_TN_args : ∀ w ∈ x_TN, ∀ (a a' : Array Value) (U : State), w.before a U = true → w.before a' U = true := by
  have hn : ∀ (q : String) (i : Nat) (x : MethodName) (b : String) (a a' : Array Value) (U : State), (Jvm.Cond.methodLinkNest q i x b).before a U = true → (Jvm.Cond.methodLinkNest q i x b).before a' U = true := fun q i x b a a' U h => va_tabs rfl rfl h
  have ho : ∀ (t : FieldType) (a a' : Array Value) (U : State), (Jvm.Cond.arrayOver t).before a U = true → (Jvm.Cond.arrayOver t).before a' U = true := fun t a a' U h => h
  intro w hw a a' U h
  simp only [x_TN, List.mem_cons, List.not_mem_nil, or_false] at hw
  rcases hw with rfl | rfl | rfl | rfl | rfl | rfl | rfl | rfl | rfl | rfl | rfl | rfl | rfl
  · exact hn _ _ _ _ a a' U h
  · exact hn _ _ _ _ a a' U h
  · exact hn _ _ _ _ a a' U h
  · exact hn _ _ _ _ a a' U h
  · exact hn _ _ _ _ a a' U h
  · exact hn _ _ _ _ a a' U h
  · exact hn _ _ _ _ a a' U h
  · exact hn _ _ _ _ a a' U h
  · exact ho _ a a' U h
  · exact ho _ a a' U h
  · exact ho _ a a' U h
  · exact ho _ a a' U h
  · exact ho _ a a' U h
theorem x_clen {ci : Nat} {r : vw_C} (h : x_cl[ci]? = some r) : ci < 13 := (List.getElem?_eq_some_iff.mp h).1
theorem x_k_at {ci : Nat} {r : vw_C} (h : x_cl[ci]? = some r) : ∃ (b : Nat × Nat × List Nat) (ft : List (FieldType × Bool)), x_fts[ci]? = some ft ∧ x_fts.getD ci [] = ft ∧ x_w b.1 (.instantiable r.1 r.2.2) = true ∧ x_w b.2.1 (.initialized r.1) = true ∧ x_nm ci = r.1 ∧ ft.length = r.2.2 ∧
    (∀ j, j < r.2.2 → x_w (b.2.2.getD j 0) (u_lay r.1 r.2.1 j) = true ∧ (r.2.1 j).1 = r.1 ∧ parseFieldDescriptor (r.2.1 j).2.2.1 = some (ft.getD j (.int, false)).1 ∧ (r.2.1 j).2.2.2 = (ft.getD j (.int, false)).2) ∧
    (∀ j, j < r.2.2 → ∀ i, i < j → (r.2.1 i).2.1 ≠ (r.2.1 j).2.1) ∧ ∀ t ∈ ft, t.1 = .int ∨ t.1 = .boolean ∨ x_isRef t.1 = true := by
  have h1 := List.all_eq_true.mp x_k_cl ci (List.mem_range.mpr (x_clen h))
  generalize x_cpos.getD ci (0, 0, []) = b at h1
  unfold x_kchk at h1
  rw [h] at h1
  rcases hf : x_fts[ci]? with _ | ft
  · rw [hf] at h1
    cases h1
  rw [hf] at h1
  dsimp only at h1
  simp only [Bool.and_eq_true, decide_eq_true_eq, List.all_eq_true, List.mem_range, Bool.or_eq_true] at h1
  obtain ⟨⟨⟨⟨⟨⟨a1, a2⟩, a3⟩, a4⟩, a5⟩, a6⟩, a7⟩ := h1
  refine ⟨b, ft, rfl, by rw [List.getD_eq_getElem?_getD, hf]; rfl, a1, a2, a3, a4, fun j hj => ?_, fun j hj i hi => a6 j hj i hi, fun t ht => ?_⟩
  · obtain ⟨⟨⟨c1, c2⟩, c3⟩, c4⟩ := a5 j hj
    exact ⟨c1, c2, c3, c4⟩
  · rcases a7 t ht with (c | c) | c
    · exact Or.inl c
    · exact Or.inr (Or.inl c)
    · exact Or.inr (Or.inr c)
theorem x_tbOk : x_TbOk x_TS x_TN x_cl x_tyl x_tb := by
  have hws := x_k_ws
  simp only [Bool.and_eq_true] at hws
  obtain ⟨⟨⟨⟨⟨⟨⟨⟨⟨⟨⟨⟨⟨w1, w2⟩, w3⟩, w4⟩, w5⟩, w6⟩, w7⟩, w8⟩, w9⟩, w10⟩, w11⟩, w12⟩, w13⟩, w14⟩ := hws
  have hbi : ∀ o ix c, tBi x_tb o ix = some c → ∃ p, x_bchk o ix (c, p) = true := fun o ix c hf => by
    obtain ⟨b, hb, he⟩ := Option.map_eq_some_iff.mp hf
    subst he
    exact ⟨b.2, x_get_chk x_k_bi hb⟩
  refine ⟨fun k q hq => ?_, fun o ix ci j hf => ?_, fun ci r hr => ?_, fun o ix ci hf => ?_, fun o ix j so q hc hq => ?_, ⟨x_w_spec w1, x_w_spec w2, rfl, rfl⟩, fun o ix t hf => ?_, fun o ix t2 t1 hf => ?_, ⟨fun o ix hf => ?_, fun o ix hf => ?_, x_w_spec w3, x_w_spec w4, x_w_spec w5, x_w_spec w6, x_w_spec w7, fun o ix hf => ?_, fun o ix hf => ?_, fun o ix hf => ?_⟩, fun o ix v hf => ?_, x_good_TS, x_TN_moves, x_TN_args, fun ci t ht => ?_⟩
  · have hq : x_mths[k]? = some q := hq
    have hb := x_k_m1 q (List.mem_of_getElem? hq)
    unfold x_m1 at hb
    simp only [Bool.and_eq_true, decide_eq_true_eq] at hb
    obtain ⟨⟨⟨⟨⟨⟨⟨a1, a2⟩, a3⟩, a4⟩, a5⟩, a6⟩, a7⟩, a8⟩ := hb
    have hk : k ≠ 0 → ∃ b, x_m2 q b = true := fun h0 => by
      obtain ⟨k2, rfl⟩ : ∃ k2, k = k2 + 1 := ⟨k - 1, by omega⟩
      exact x_k_m2 q (List.mem_of_getElem? (i := k2) hq)
    refine ⟨a1, fun h0 => ?_, fun h0 => ?_, ⟨a2, a3⟩, a4, a5, a6, fun hi => ?_, fun hi r hr => ?_, x_mgood q (List.mem_of_getElem? hq)⟩
    · obtain ⟨b2, h2⟩ := hk h0
      unfold x_m2 at h2
      simp only [Bool.and_eq_true] at h2
      exact x_w_spec h2.1
    · obtain ⟨b2, h2⟩ := hk h0
      unfold x_m2 at h2
      simp only [Bool.and_eq_true] at h2
      exact x_w_spec h2.2
    · rw [hi] at a7
      simpa using a7
    · rw [hi, hr] at a8
      simpa using a8
  · obtain ⟨b, hb, he⟩ := Option.map_eq_some_iff.mp hf
    have h1 := x_get_chk x_k_fl hb
    unfold x_fchk at h1
    obtain ⟨rfl, rfl⟩ := Prod.mk.inj he
    split at h1
    · rename_i r hr
      simp only [Bool.and_eq_true, decide_eq_true_eq] at h1
      exact ⟨r, hr, h1.1, x_w_spec h1.2⟩
    · cases h1
  · obtain ⟨b, ft, f1, f2, a1, a2, a3, a4, a5, a6, a7⟩ := x_k_at hr
    have e : tFt x_tb ci = ft := f2
    refine ⟨fun w hw => ?_, by rw [e]; exact a4, fun j t ht => ?_, fun a ha b2 hb hab => ?_, x_w_spec a1, x_w_spec a2, fun j hj => (a5 j hj).2.1, a3⟩
    · obtain ⟨j, hj, rfl⟩ := List.mem_map.mp hw
      exact x_w_spec (a5 j (List.mem_range.mp hj)).1
    · rw [e] at ht
      have hj : j < r.2.2 := by rw [← a4]; exact (List.getElem?_eq_some_iff.mp ht).1
      have h2 := (a5 j hj).2.2
      rw [List.getD_eq_getElem?_getD, ht] at h2
      exact h2
    · rcases Nat.lt_or_gt_of_ne hab with h | h
      · exact a6 b2 hb a h
      · exact fun z => a6 a ha b2 h z.symm
  · obtain ⟨b, hb, he⟩ := Option.map_eq_some_iff.mp hf
    have h1 := x_get_chk x_k_nw hb
    unfold x_nchk at h1
    subst he
    split at h1
    · rename_i r hr
      exact ⟨r, hr, x_w_spec h1⟩
    · cases h1
  · obtain ⟨b, hb, he⟩ := Option.map_eq_some_iff.mp hc
    have h1 := x_get_chk x_k_ca hb
    have hq : x_mths[j]? = some q := hq
    obtain ⟨rfl, rfl⟩ := Prod.mk.inj he
    unfold x_cchk at h1
    rw [hq] at h1
    dsimp only at h1
    simp only [Bool.and_eq_true, decide_eq_true_eq] at h1
    obtain ⟨h0, h1⟩ := h1
    refine ⟨h0, fun hs => ?_, fun hs => ?_, fun hs => ?_, fun hs => ?_, ?_⟩
    · rw [hs] at h1
      simp only [Bool.and_eq_true] at h1
      refine ⟨x_w_spec h1.1.1.1, x_w_spec h1.1.1.2, x_w_spec h1.1.2, fun r hr => ?_⟩
      have h2 := h1.2
      rw [hr] at h2
      simpa using h2
    · rw [hs] at h1
      simp only [Bool.and_eq_true, decide_eq_true_eq] at h1
      exact ⟨x_w_spec h1.1.1.1, x_w_spec h1.1.1.2, h1.1.2, h1.2⟩
    · rw [hs] at h1
      simp only [Bool.and_eq_true] at h1
      exact ⟨x_w_spec h1.1, x_w_spec h1.2⟩
    · rw [hs] at h1
      simp only [Bool.and_eq_true, decide_eq_true_eq] at h1
      exact ⟨⟨_, List.mem_of_getElem? h1.1⟩, x_w_spec h1.2⟩
    · rcases Nat.lt_or_ge 3 b.2.1 with hlt | hge
      · obtain ⟨z, hz⟩ : ∃ z, b.2.1 = z + 4 := ⟨b.2.1 - 4, by omega⟩
        rw [hz] at h1
        cases h1
      · exact hge
  · obtain ⟨b, hb, he⟩ := Option.map_eq_some_iff.mp hf
    have h1 := x_get_chk x_k_an hb
    unfold x_achk at h1
    subst he
    split at h1
    · rename_i C hC
      simp only [Bool.and_eq_true, decide_eq_true_eq] at h1
      exact ⟨C, hC, x_w_spec h1.1, h1.2⟩
    · cases h1
  · obtain ⟨b, hb, he⟩ := Option.map_eq_some_iff.mp hf
    have h1 := x_get_chk x_k_mn hb
    unfold x_mchk at h1
    obtain ⟨rfl, rfl⟩ := Prod.mk.inj he
    split at h1
    · rename_i ty hty
      simp only [Bool.and_eq_true, Bool.or_eq_true, decide_eq_true_eq] at h1
      refine ⟨ty, hty, h1.1.1.1, h1.1.1.2, x_w_spec h1.1.2, h1.2, ?_⟩
      rcases h1.1.1.1 with rfl | rfl
      · exact x_w_spec w1
      · exact x_w_spec w2
    · cases h1
  · obtain ⟨p, h1⟩ := hbi o ix 0 hf
    exact x_w_spec h1
  · obtain ⟨p, h1⟩ := hbi o ix 1 hf
    exact x_w_spec h1
  · obtain ⟨p, h1⟩ := hbi o ix 2 hf
    exact ⟨x_w_spec h1, x_w_spec w9, x_w_spec w8, x_w_spec w12⟩
  · obtain ⟨p, h1⟩ := hbi o ix 3 hf
    exact ⟨x_w_spec h1, x_w_spec w10, x_w_spec w8, x_w_spec w13⟩
  · obtain ⟨p, h1⟩ := hbi o ix 4 hf
    exact ⟨x_w_spec h1, x_w_spec w11, x_w_spec w8, x_w_spec w14⟩
  · obtain ⟨b, hb, he⟩ := Option.map_eq_some_iff.mp hf
    have h1 := x_get_chk x_k_li hb
    unfold x_lchk at h1
    subst he
    exact x_w_spec h1
  · have ht : t ∈ x_fts.getD ci [] := ht
    rcases hf : x_fts[ci]? with _ | ft
    · rw [List.getD_eq_getElem?_getD, hf] at ht
      simp at ht
    · have hci : ci < 13 := (List.getElem?_eq_some_iff.mp hf).1
      have hr : ∃ r, x_cl[ci]? = some r := ⟨x_cl[ci], List.getElem?_eq_getElem hci⟩
      obtain ⟨r, hr⟩ := hr
      obtain ⟨b, ft2, f1, f2, -, -, -, -, -, -, a7⟩ := x_k_at hr
      rw [f2] at ht
      exact a7 t ht
end XTbOk
