/-! p5 by hand, 6. -/
noncomputable section XH5_6
variable {ot : XO Int32} {dp : Nat} {H : List (XC Int32)} {a n m : Nat} {P C nl sv S : Nat → Nat} {op lf rt : Nat → Nat → Nat}
theorem t50 {c : Nat} {op lf rt : Nat → Nat} {nl : Nat} (hC : kC H c op lf rt nl) (h12 : nl ≤ 12) (ho : ∀ l, l < nl → op l ≤ 11 ∧ lf l < 6 ∧ rt l < 6) {l all rd : Nat} (hl : l < nl) (hall : all < 64) (hrd : rd = 0 ∨ rd = 1) : x_To x_tb x_tyl ot (dp + 1) 50 0 (x_en 0 [.inr (some (c)), .inl (nI (l)), .inl (nI (all)), .inl (nI (rd))]) [] H 0 0 (some (.inl (nI (gvN op rt rd all l)))) H := by
  obtain ⟨hcA, co, ro, rl, rr, hc, c0, c1, c2, c4, ⟨d0, v0, a0, b0, e0⟩, ⟨d1, v1, a1, b1, e1⟩, ⟨d2, v2, a2, b2, e2⟩⟩ := id hC
  obtain ⟨o1, o2, o3⟩ := ho l hl
  rcases (show op l = 0 ∨ op l = 1 ∨ op l = 2 ∨ op l = 3 ∨ op l = 4 ∨ op l = 5 ∨ op l = 6 ∨ op l = 7 ∨ op l = 8 ∨ op l = 9 ∨ op l = 10 ∨ op l = 11 by omega) with hz | hz | hz | hz | hz | hz | hz | hz | hz | hz | hz | hz
  · have hz : op l = 0 := hz
    rw [show gvN op rt rd all l = 1 from if_pos hz]
    refine xT_aload_n g_q50 g50_0 (rfl) ?_
    refine xT_getfield g_q50 g50_1 hcA rfl hc rfl c0 ?_
    refine xT_iload_n g_q50 g50_4 (rfl) ?_
    refine xT_iaload g_q50 g50_5 (by omega) a0 (ixN (n := 12) (by omega) b0) (ixG (by omega) (e0 _ (by omega))) ?_
    refine xT_tableswitch g_q50 g50_6 (t := 48) (by decide) (by decide) (by rw [hz]; decide) ?_
    refine xT_icV (y := nI (1)) g_q50 g50_48 (by decide) ?_
    exact xT_ireturn g_q50 g50_49 (by decide +kernel)
  · have hz : op l = 1 := hz
    rw [show gvN op rt rd all l = rd from (if_neg (by omega)).trans (if_pos hz)]
    rcases hrd with rfl | rfl
    · skip
      refine xT_aload_n g_q50 g50_0 (rfl) ?_
      refine xT_getfield g_q50 g50_1 hcA rfl hc rfl c0 ?_
      refine xT_iload_n g_q50 g50_4 (rfl) ?_
      refine xT_iaload g_q50 g50_5 (by omega) a0 (ixN (n := 12) (by omega) b0) (ixG (by omega) (e0 _ (by omega))) ?_
      refine xT_tableswitch g_q50 g50_6 (t := 50) (by decide) (by decide) (by rw [hz]; decide) ?_
      refine xT_iload_n g_q50 g50_50 (rfl) ?_
      exact xT_ireturn g_q50 g50_51 (by decide +kernel)
    · skip
      refine xT_aload_n g_q50 g50_0 (rfl) ?_
      refine xT_getfield g_q50 g50_1 hcA rfl hc rfl c0 ?_
      refine xT_iload_n g_q50 g50_4 (rfl) ?_
      refine xT_iaload g_q50 g50_5 (by omega) a0 (ixN (n := 12) (by omega) b0) (ixG (by omega) (e0 _ (by omega))) ?_
      refine xT_tableswitch g_q50 g50_6 (t := 50) (by decide) (by decide) (by rw [hz]; decide) ?_
      refine xT_iload_n g_q50 g50_50 (rfl) ?_
      exact xT_ireturn g_q50 g50_51 (by decide +kernel)
  · have hz : op l = 2 := hz
    rw [show gvN op rt rd all l = 0 from (if_neg (by omega)).trans ((if_neg (by omega)).trans (if_neg (by omega)))]
    refine xT_aload_n g_q50 g50_0 (rfl) ?_
    refine xT_getfield g_q50 g50_1 hcA rfl hc rfl c0 ?_
    refine xT_iload_n g_q50 g50_4 (rfl) ?_
    refine xT_iaload g_q50 g50_5 (by omega) a0 (ixN (n := 12) (by omega) b0) (ixG (by omega) (e0 _ (by omega))) ?_
    refine xT_tableswitch g_q50 g50_6 (t := 63) (by decide) (by decide) (by rw [hz]; decide) ?_
    refine xT_icV (y := nI (0)) g_q50 g50_63 (by decide) ?_
    exact xT_ireturn g_q50 g50_64 (by decide +kernel)
  · have hz : op l = 3 := hz
    rw [show gvN op rt rd all l = 0 from (if_neg (by omega)).trans ((if_neg (by omega)).trans (if_neg (by omega)))]
    refine xT_aload_n g_q50 g50_0 (rfl) ?_
    refine xT_getfield g_q50 g50_1 hcA rfl hc rfl c0 ?_
    refine xT_iload_n g_q50 g50_4 (rfl) ?_
    refine xT_iaload g_q50 g50_5 (by omega) a0 (ixN (n := 12) (by omega) b0) (ixG (by omega) (e0 _ (by omega))) ?_
    refine xT_tableswitch g_q50 g50_6 (t := 63) (by decide) (by decide) (by rw [hz]; decide) ?_
    refine xT_icV (y := nI (0)) g_q50 g50_63 (by decide) ?_
    exact xT_ireturn g_q50 g50_64 (by decide +kernel)
  · have hz : op l = 4 := hz
    rw [show gvN op rt rd all l = bitP all (rt l) from (if_neg (by omega)).trans ((if_neg (by omega)).trans (if_pos (by omega)))]
    by_cases hb : bitP all (rt l) = 1
    · rw [hb]
      refine xT_aload_n g_q50 g50_0 (rfl) ?_
      refine xT_getfield g_q50 g50_1 hcA rfl hc rfl c0 ?_
      refine xT_iload_n g_q50 g50_4 (rfl) ?_
      refine xT_iaload g_q50 g50_5 (by omega) a0 (ixN (n := 12) (by omega) b0) (ixG (by omega) (e0 _ (by omega))) ?_
      refine xT_tableswitch g_q50 g50_6 (t := 52) (by decide) (by decide) (by rw [hz]; decide) ?_
      refine xT_iload_n g_q50 g50_52 (rfl) ?_
      refine xT_aload_n g_q50 g50_53 (rfl) ?_
      refine xT_getfield g_q50 g50_54 hcA rfl hc rfl c2 ?_
      refine xT_iload_n g_q50 g50_57 (rfl) ?_
      refine xT_iaload g_q50 g50_58 (by omega) a2 (ixN (n := 12) (by omega) b2) (ixG (by omega) (e2 _ (by omega))) ?_
      refine xT_invokestatic (r := []) (u := some (.inl (nI (1)))) g_q50 g50_59 (j := 48) (so := 3) (by decide +kernel) g_q48 (rfl) (t48pY hall (by omega) hb) ?_
      exact xT_ireturn g_q50 g50_62 (by decide +kernel)
    · rw [bitP_b.resolve_right hb]
      refine xT_aload_n g_q50 g50_0 (rfl) ?_
      refine xT_getfield g_q50 g50_1 hcA rfl hc rfl c0 ?_
      refine xT_iload_n g_q50 g50_4 (rfl) ?_
      refine xT_iaload g_q50 g50_5 (by omega) a0 (ixN (n := 12) (by omega) b0) (ixG (by omega) (e0 _ (by omega))) ?_
      refine xT_tableswitch g_q50 g50_6 (t := 52) (by decide) (by decide) (by rw [hz]; decide) ?_
      refine xT_iload_n g_q50 g50_52 (rfl) ?_
      refine xT_aload_n g_q50 g50_53 (rfl) ?_
      refine xT_getfield g_q50 g50_54 hcA rfl hc rfl c2 ?_
      refine xT_iload_n g_q50 g50_57 (rfl) ?_
      refine xT_iaload g_q50 g50_58 (by omega) a2 (ixN (n := 12) (by omega) b2) (ixG (by omega) (e2 _ (by omega))) ?_
      refine xT_invokestatic (r := []) (u := some (.inl (nI (0)))) g_q50 g50_59 (j := 48) (so := 3) (by decide +kernel) g_q48 (rfl) (t48pN hall (by omega) hb) ?_
      exact xT_ireturn g_q50 g50_62 (by decide +kernel)
  · have hz : op l = 5 := hz
    rw [show gvN op rt rd all l = bitP all (rt l) from (if_neg (by omega)).trans ((if_neg (by omega)).trans (if_pos (by omega)))]
    by_cases hb : bitP all (rt l) = 1
    · rw [hb]
      refine xT_aload_n g_q50 g50_0 (rfl) ?_
      refine xT_getfield g_q50 g50_1 hcA rfl hc rfl c0 ?_
      refine xT_iload_n g_q50 g50_4 (rfl) ?_
      refine xT_iaload g_q50 g50_5 (by omega) a0 (ixN (n := 12) (by omega) b0) (ixG (by omega) (e0 _ (by omega))) ?_
      refine xT_tableswitch g_q50 g50_6 (t := 52) (by decide) (by decide) (by rw [hz]; decide) ?_
      refine xT_iload_n g_q50 g50_52 (rfl) ?_
      refine xT_aload_n g_q50 g50_53 (rfl) ?_
      refine xT_getfield g_q50 g50_54 hcA rfl hc rfl c2 ?_
      refine xT_iload_n g_q50 g50_57 (rfl) ?_
      refine xT_iaload g_q50 g50_58 (by omega) a2 (ixN (n := 12) (by omega) b2) (ixG (by omega) (e2 _ (by omega))) ?_
      refine xT_invokestatic (r := []) (u := some (.inl (nI (1)))) g_q50 g50_59 (j := 48) (so := 3) (by decide +kernel) g_q48 (rfl) (t48pY hall (by omega) hb) ?_
      exact xT_ireturn g_q50 g50_62 (by decide +kernel)
    · rw [bitP_b.resolve_right hb]
      refine xT_aload_n g_q50 g50_0 (rfl) ?_
      refine xT_getfield g_q50 g50_1 hcA rfl hc rfl c0 ?_
      refine xT_iload_n g_q50 g50_4 (rfl) ?_
      refine xT_iaload g_q50 g50_5 (by omega) a0 (ixN (n := 12) (by omega) b0) (ixG (by omega) (e0 _ (by omega))) ?_
      refine xT_tableswitch g_q50 g50_6 (t := 52) (by decide) (by decide) (by rw [hz]; decide) ?_
      refine xT_iload_n g_q50 g50_52 (rfl) ?_
      refine xT_aload_n g_q50 g50_53 (rfl) ?_
      refine xT_getfield g_q50 g50_54 hcA rfl hc rfl c2 ?_
      refine xT_iload_n g_q50 g50_57 (rfl) ?_
      refine xT_iaload g_q50 g50_58 (by omega) a2 (ixN (n := 12) (by omega) b2) (ixG (by omega) (e2 _ (by omega))) ?_
      refine xT_invokestatic (r := []) (u := some (.inl (nI (0)))) g_q50 g50_59 (j := 48) (so := 3) (by decide +kernel) g_q48 (rfl) (t48pN hall (by omega) hb) ?_
      exact xT_ireturn g_q50 g50_62 (by decide +kernel)
  · have hz : op l = 6 := hz
    rw [show gvN op rt rd all l = bitP all (rt l) from (if_neg (by omega)).trans ((if_neg (by omega)).trans (if_pos (by omega)))]
    by_cases hb : bitP all (rt l) = 1
    · rw [hb]
      refine xT_aload_n g_q50 g50_0 (rfl) ?_
      refine xT_getfield g_q50 g50_1 hcA rfl hc rfl c0 ?_
      refine xT_iload_n g_q50 g50_4 (rfl) ?_
      refine xT_iaload g_q50 g50_5 (by omega) a0 (ixN (n := 12) (by omega) b0) (ixG (by omega) (e0 _ (by omega))) ?_
      refine xT_tableswitch g_q50 g50_6 (t := 52) (by decide) (by decide) (by rw [hz]; decide) ?_
      refine xT_iload_n g_q50 g50_52 (rfl) ?_
      refine xT_aload_n g_q50 g50_53 (rfl) ?_
      refine xT_getfield g_q50 g50_54 hcA rfl hc rfl c2 ?_
      refine xT_iload_n g_q50 g50_57 (rfl) ?_
      refine xT_iaload g_q50 g50_58 (by omega) a2 (ixN (n := 12) (by omega) b2) (ixG (by omega) (e2 _ (by omega))) ?_
      refine xT_invokestatic (r := []) (u := some (.inl (nI (1)))) g_q50 g50_59 (j := 48) (so := 3) (by decide +kernel) g_q48 (rfl) (t48pY hall (by omega) hb) ?_
      exact xT_ireturn g_q50 g50_62 (by decide +kernel)
    · rw [bitP_b.resolve_right hb]
      refine xT_aload_n g_q50 g50_0 (rfl) ?_
      refine xT_getfield g_q50 g50_1 hcA rfl hc rfl c0 ?_
      refine xT_iload_n g_q50 g50_4 (rfl) ?_
      refine xT_iaload g_q50 g50_5 (by omega) a0 (ixN (n := 12) (by omega) b0) (ixG (by omega) (e0 _ (by omega))) ?_
      refine xT_tableswitch g_q50 g50_6 (t := 52) (by decide) (by decide) (by rw [hz]; decide) ?_
      refine xT_iload_n g_q50 g50_52 (rfl) ?_
      refine xT_aload_n g_q50 g50_53 (rfl) ?_
      refine xT_getfield g_q50 g50_54 hcA rfl hc rfl c2 ?_
      refine xT_iload_n g_q50 g50_57 (rfl) ?_
      refine xT_iaload g_q50 g50_58 (by omega) a2 (ixN (n := 12) (by omega) b2) (ixG (by omega) (e2 _ (by omega))) ?_
      refine xT_invokestatic (r := []) (u := some (.inl (nI (0)))) g_q50 g50_59 (j := 48) (so := 3) (by decide +kernel) g_q48 (rfl) (t48pN hall (by omega) hb) ?_
      exact xT_ireturn g_q50 g50_62 (by decide +kernel)
  · have hz : op l = 7 := hz
    rw [show gvN op rt rd all l = 0 from (if_neg (by omega)).trans ((if_neg (by omega)).trans (if_neg (by omega)))]
    refine xT_aload_n g_q50 g50_0 (rfl) ?_
    refine xT_getfield g_q50 g50_1 hcA rfl hc rfl c0 ?_
    refine xT_iload_n g_q50 g50_4 (rfl) ?_
    refine xT_iaload g_q50 g50_5 (by omega) a0 (ixN (n := 12) (by omega) b0) (ixG (by omega) (e0 _ (by omega))) ?_
    refine xT_tableswitch g_q50 g50_6 (t := 63) (by decide) (by decide) (by rw [hz]; decide) ?_
    refine xT_icV (y := nI (0)) g_q50 g50_63 (by decide) ?_
    exact xT_ireturn g_q50 g50_64 (by decide +kernel)
  · have hz : op l = 8 := hz
    rw [show gvN op rt rd all l = 0 from (if_neg (by omega)).trans ((if_neg (by omega)).trans (if_neg (by omega)))]
    refine xT_aload_n g_q50 g50_0 (rfl) ?_
    refine xT_getfield g_q50 g50_1 hcA rfl hc rfl c0 ?_
    refine xT_iload_n g_q50 g50_4 (rfl) ?_
    refine xT_iaload g_q50 g50_5 (by omega) a0 (ixN (n := 12) (by omega) b0) (ixG (by omega) (e0 _ (by omega))) ?_
    refine xT_tableswitch g_q50 g50_6 (t := 63) (by decide) (by decide) (by rw [hz]; decide) ?_
    refine xT_icV (y := nI (0)) g_q50 g50_63 (by decide) ?_
    exact xT_ireturn g_q50 g50_64 (by decide +kernel)
  · have hz : op l = 9 := hz
    rw [show gvN op rt rd all l = 0 from (if_neg (by omega)).trans ((if_neg (by omega)).trans (if_neg (by omega)))]
    refine xT_aload_n g_q50 g50_0 (rfl) ?_
    refine xT_getfield g_q50 g50_1 hcA rfl hc rfl c0 ?_
    refine xT_iload_n g_q50 g50_4 (rfl) ?_
    refine xT_iaload g_q50 g50_5 (by omega) a0 (ixN (n := 12) (by omega) b0) (ixG (by omega) (e0 _ (by omega))) ?_
    refine xT_tableswitch g_q50 g50_6 (t := 63) (by decide) (by decide) (by rw [hz]; decide) ?_
    refine xT_icV (y := nI (0)) g_q50 g50_63 (by decide) ?_
    exact xT_ireturn g_q50 g50_64 (by decide +kernel)
  · have hz : op l = 10 := hz
    rw [show gvN op rt rd all l = 0 from (if_neg (by omega)).trans ((if_neg (by omega)).trans (if_neg (by omega)))]
    refine xT_aload_n g_q50 g50_0 (rfl) ?_
    refine xT_getfield g_q50 g50_1 hcA rfl hc rfl c0 ?_
    refine xT_iload_n g_q50 g50_4 (rfl) ?_
    refine xT_iaload g_q50 g50_5 (by omega) a0 (ixN (n := 12) (by omega) b0) (ixG (by omega) (e0 _ (by omega))) ?_
    refine xT_tableswitch g_q50 g50_6 (t := 63) (by decide) (by decide) (by rw [hz]; decide) ?_
    refine xT_icV (y := nI (0)) g_q50 g50_63 (by decide) ?_
    exact xT_ireturn g_q50 g50_64 (by decide +kernel)
  · have hz : op l = 11 := hz
    rw [show gvN op rt rd all l = 0 from (if_neg (by omega)).trans ((if_neg (by omega)).trans (if_neg (by omega)))]
    refine xT_aload_n g_q50 g50_0 (rfl) ?_
    refine xT_getfield g_q50 g50_1 hcA rfl hc rfl c0 ?_
    refine xT_iload_n g_q50 g50_4 (rfl) ?_
    refine xT_iaload g_q50 g50_5 (by omega) a0 (ixN (n := 12) (by omega) b0) (ixG (by omega) (e0 _ (by omega))) ?_
    refine xT_tableswitch g_q50 g50_6 (t := 63) (by decide) (by decide) (by rw [hz]; decide) ?_
    refine xT_icV (y := nI (0)) g_q50 g50_63 (by decide) ?_
    exact xT_ireturn g_q50 g50_64 (by decide +kernel)
end XH5_6
