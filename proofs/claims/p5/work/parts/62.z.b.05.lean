/-! p5 by hand, 4. -/
noncomputable section XH5_4
variable {ot : XO Int32} {dp : Nat} {H : List (XC Int32)} {a n m : Nat} {P C nl sv S : Nat → Nat} {op lf rt : Nat → Nat → Nat}
theorem t42_n {x : Int32} (hx : x < 0 ∨ nI n ≤ x) (hA : kA H a n P C op lf rt nl sv S m) : x_To x_tb x_tyl ot dp 42 0 (x_en 0 [.inr (some (a)), .inl (x)]) [] H 0 0 (some (.inr none)) H := by
  obtain ⟨⟨haA, hn12, gs, pa, vs, ha, g3, g2, hpa, hvl, hvs⟩, hP, hC, inj⟩ := id hA
  by_cases h0 : x < 0
  · skip
    refine xT_iload_n g_q42 g42_0 (rfl) ?_
    refine xT_ifCondY g_q42 g42_1 (t := 21) (by decide) (decide_eq_true h0) ?_
    refine xT_aconst_null g_q42 g42_21 ?_
    exact xT_areturn g_q42 g42_22 (rfl)
  · have h1 := hx.resolve_left h0
    refine xT_iload_n g_q42 g42_0 (rfl) ?_
    refine xT_ifCondN g_q42 g42_1 (t := 21) (by decide) (decide_eq_false h0) ?_
    refine xT_iload_n g_q42 g42_4 (rfl) ?_
    refine xT_aload_n g_q42 g42_5 (rfl) ?_
    refine xT_getfield g_q42 g42_6 haA rfl ha rfl g3 ?_
    refine xT_if_icmpY g_q42 g42_9 (t := 21) (by decide) (decide_eq_true h1) ?_
    refine xT_aconst_null g_q42 g42_21 ?_
    exact xT_areturn g_q42 g42_22 (rfl)
theorem t42_s {q : Nat} (hq : q < n) (hA : kA H a n P C op lf rt nl sv S m) : x_To x_tb x_tyl ot dp 42 0 (x_en 0 [.inr (some (a)), .inl (nI (q))]) [] H 0 0 (some (.inr (some (P q)))) H := by
  obtain ⟨⟨haA, hn12, gs, pa, vs, ha, g3, g2, hpa, hvl, hvs⟩, hP, hC, inj⟩ := id hA
  refine xT_iload_n g_q42 g42_0 (rfl) ?_
  refine xT_ifCondN g_q42 g42_1 (t := 21) (by decide) (c2N (b := 0) (Nat.zero_le _) (by omega) (by omega)) ?_
  refine xT_iload_n g_q42 g42_4 (rfl) ?_
  refine xT_aload_n g_q42 g42_5 (rfl) ?_
  refine xT_getfield g_q42 g42_6 haA rfl ha rfl g3 ?_
  refine xT_if_icmpN g_q42 g42_9 (t := 21) (by decide) (c3N (a := q) (b := n) (by omega) (by omega) (by omega)) ?_
  refine xT_aload_n g_q42 g42_12 (rfl) ?_
  refine xT_getfield g_q42 g42_13 haA rfl ha rfl g2 ?_
  refine xT_iload_n g_q42 g42_16 (rfl) ?_
  refine xT_aaload g_q42 g42_17 (by decide +kernel) hpa (ixN (n := 12) (by omega) hvl) (ixG (by omega) (hvs _ (by omega))) ?_
  refine xT_goto g_q42 g42_18 (t := 22) (by decide) ?_
  exact xT_areturn g_q42 g42_22 (rfl)
theorem t42_v {v : Nat} (hv : v ≤ n) (hA : kA H a n P C op lf rt nl sv S m) : x_To x_tb x_tyl ot dp 42 0 (x_en 0 [.inr (some (a)), .inl (svI v)]) [] H 0 0 (some (.inr (match v with
    | 0 => none
    | s + 1 => some (P s)))) H := by
  rcases v with _ | s
  · exact t42_n (Or.inl (by decide)) hA
  · exact t42_s (by omega) hA
end XH5_4
