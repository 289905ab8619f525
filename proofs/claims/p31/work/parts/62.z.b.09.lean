/-! p31 by hand, 8. -/
noncomputable section XH31_8
variable {ot : XO Int32} {dp : Nat} {H : List (XC Int32)} {a b tr tc fr r n m : Nat} {vs wl : List (XV Int32)}
theorem t137_e (hT : kT H a tr tc fr n m vs) {B : Nat → Int32} (hB : ∀ t, t < n → vs[t * 2 + 1]? = some (.inl (B t))) {w : Nat} (hw : w = 0 ∨ w = 1) {L : List (Nat × XV Int32)} (l0 : x_lk L 0 = some (.inr (some a))) (l1 : x_lk L 1 = some (.inl (nI w))) : x_To x_tb x_tyl ot (dp + 4) 137 84 L [] H 0 0 (some (.inl (if w = 0 then nI (mnD (pS B n) fC (2 ^ n - 1) (2 ^ n - 1)) else bcI (fA B n 0 0)))) H := by
  obtain ⟨haA, htA, hfA, hcA, hn8, hm8, gs, ts, us, ha, g14, g15, ht0, s1, s2, s3, hf0, u3, hv, hvl⟩ := id hT
  rcases hw with rfl | rfl
  · rw [if_pos rfl]
    refine xT_aload_n g_q137 g137_84 (l0) ?_
    refine xT_icV (y := -1) g_q137 g137_85 (by decide) ?_
    refine xT_invokevirtual (r := []) (u := some (.inl ((fA B n 0 0)))) g_q137 g137_86 (j := 138) (so := 0) (by decide +kernel) g_q138 rfl (by rw [x_rcM haA ha]; rfl) (t138A (dp := dp + 1) hT hB) ?_
    refine xT_istore_n g_q137 g137_89 (by decide) ?_
    refine xT_iload_n g_q137 g137_90 (lkN (by decide) (l1)) ?_
    refine xT_ifCondN g_q137 g137_91 (t := 102) (by decide) (c1N (b := 0) rfl) ?_
    refine xT_aload_n g_q137 g137_94 (lkN (by decide) (l0)) ?_
    refine xT_iload_n g_q137 g137_95 (lkY) ?_
    refine xT_invokevirtual (r := []) (u := some (.inl (nI (mnD (pS B n) fC (2 ^ n - 1) (2 ^ n - 1))))) g_q137 g137_96 (j := 139) (so := 0) (by decide +kernel) g_q139 rfl (by rw [x_rcM haA ha]; rfl) (t139 (dp := dp) hT hB) ?_
    refine xT_goto g_q137 g137_99 (t := 106) (by decide) ?_
    exact xT_ireturn g_q137 g137_106 (rfl)
  · rw [if_neg (by decide)]
    refine xT_aload_n g_q137 g137_84 (l0) ?_
    refine xT_icV (y := -1) g_q137 g137_85 (by decide) ?_
    refine xT_invokevirtual (r := []) (u := some (.inl ((fA B n 0 0)))) g_q137 g137_86 (j := 138) (so := 0) (by decide +kernel) g_q138 rfl (by rw [x_rcM haA ha]; rfl) (t138A (dp := dp + 1) hT hB) ?_
    refine xT_istore_n g_q137 g137_89 (by decide) ?_
    refine xT_iload_n g_q137 g137_90 (lkN (by decide) (l1)) ?_
    refine xT_ifCondY g_q137 g137_91 (t := 102) (by decide) (c1Y (a := 1) (b := 0) (by omega) (by omega) (by omega)) ?_
    refine xT_iload_n g_q137 g137_102 (lkY) ?_
    refine xT_invokestatic (r := []) (u := some (.inl (bcI (fA B n 0 0)))) g_q137 g137_103 (j := 126) (so := 2) (by decide +kernel) g_q126 (rfl) (t126) ?_
    exact xT_ireturn g_q137 g137_106 (rfl)
end XH31_8
