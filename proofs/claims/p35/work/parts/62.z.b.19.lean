/-! p35 by hand, 18. -/
noncomputable section XH3518
variable {ot : XO Int32} {dp : Nat} {H : List (XC Int32)} {p n m : Nat} {r : Nat → Nat} {pl mi la we ord hf : Nat → Nat}
theorem t148_c (inj : ∀ i j, i < 6 → j < 6 → r i = r j → i = j) (hB : stB pl mi la we) (hn : n < 8) (ho : ∀ k, k < n + 1 → ord k < n + 1) : ∀ (d s : Nat) (hf : Nat → Nat) (L : List (Nat × XV Int32)) (H : List (XC Int32)), isPo H p (n + 1) r pl mi la we ord hf s → s + d = 2 ^ (n + 1) → 1 ≤ s → hfOk (fun s => mtD ord pl mi la s (n + 1) 0 0 0) hf s → (∀ k, hf k ≤ 9) → x_lk L 0 = some (.inr (some p)) → x_lk L 5 = some (.inl (nI n)) → x_lk L 7 = some (.inl (nI s)) → ∃ H2 hf2, x_To x_tb x_tyl ot (dp + 3) 148 125 L [] H 0 0 (some (.inl (nI n))) H2 ∧ isPo H2 p (n + 1) r pl mi la we ord hf2 (2 ^ (n + 1)) ∧ hfOk (fun s => mtD ord pl mi la s (n + 1) 0 0 0) hf2 (2 ^ (n + 1)) ∧ (∀ k, hf2 k ≤ 9) ∧ kp tgS H H2 := by
  obtain ⟨-, z2, -, -⟩ := b_shl2 n hn
  intro d
  induction d with
  | zero =>
    intro s hf L H hP hd h1s hk h9 l0 l5 l7
    obtain rfl : s = 2 ^ (n + 1) := by omega
    refine ⟨H, hf, ?_, hP, hk, h9, kp_rf⟩
    refine xT_iload g_q148 g148_125 (l7) ?_
    refine xT_icV (y := nI (2)) g_q148 g148_127 (by decide) ?_
    refine xT_iload g_q148 g148_128 (l5) ?_
    refine xT_ishlV (y := nI (2 ^ (n + 1))) g_q148 g148_130 ((b_shl2 n hn).1) ?_
    refine xT_if_icmpY g_q148 g148_131 (t := 153) (by decide) (c3Y (a := 2 ^ (n + 1)) (b := 2 ^ (n + 1)) (Nat.le_refl _) (by omega) (by omega)) ?_
    refine xT_iload g_q148 g148_153 (l5) ?_
    exact xT_ireturn g_q148 g148_155 (rfl)
  | succ d ih =>
    intro s hf L H hP hd h1s hk h9 l0 l5 l7
    obtain ⟨⟨hpA, hp, h8⟩, ⟨d0, v0, a0, b0, e0⟩, ⟨d1, v1, a1, b1, e1⟩, ⟨d2, v2, a2, b2, e2⟩, ⟨d3, v3, a3, b3, e3⟩, ⟨d4, v4, a4, b4, e4⟩, ⟨d5, v5, a5, b5, e5⟩⟩ := id hP
    obtain ⟨H2, hf2, x, f1, f2, f3, f4⟩ := ih (s + 1) (upF hf s (if mtD ord pl mi la s (n + 1) 0 0 0 = 1 then 1 else fewL hf s s)) (x_st (L) 7 (.inl (nI (s + 1)))) _ (isPo_5 (X := (if mtD ord pl mi la s (n + 1) 0 0 0 = 1 then 1 else fewL hf s s)) hP inj (by omega) a5) (by omega) (by omega) (hfOk_up hk h1s) (fun k => by
      by_cases e : k = s
      · subst e
        rw [upF_eq]
        split
        · omega
        · exact few_9 _
      · rw [upF_ne e]
        exact h9 k) (lkN (by decide) (l0)) (lkN (by decide) (l5)) (lkY)
    refine ⟨H2, hf2, ?_, f1, f2, f3, kp_tr (kp_set kp_rf a5 (tgS_r b5 (by decide))) f4⟩
    refine xT_iload g_q148 g148_125 (l7) ?_
    refine xT_icV (y := nI (2)) g_q148 g148_127 (by decide) ?_
    refine xT_iload g_q148 g148_128 (l5) ?_
    refine xT_ishlV (y := nI (2 ^ (n + 1))) g_q148 g148_130 ((b_shl2 n hn).1) ?_
    refine xT_if_icmpN g_q148 g148_131 (t := 153) (by decide) (c3N (a := s) (b := 2 ^ (n + 1)) (by omega) (by omega) (by omega)) ?_
    refine xT_aload_n g_q148 g148_134 (l0) ?_
    refine xT_getfield g_q148 g148_135 hpA rfl hp rfl rfl ?_
    refine xT_iload g_q148 g148_138 (l7) ?_
    refine xT_aload_n g_q148 g148_140 (l0) ?_
    refine xT_iload g_q148 g148_141 (l7) ?_
    refine xT_invokevirtual (r := [.inl (nI (s)), .inr (some ((r 5)))]) (u := some (.inl (nI ((if mtD ord pl mi la s (n + 1) 0 0 0 = 1 then 1 else fewL hf s s))))) g_q148 g148_143 (j := 149) (so := 0) (by decide +kernel) g_q149 rfl (by rw [x_rcM hpA hp]; rfl) (t149 hP hB ho (by omega) (Nat.le_refl s) h1s h9) ?_
    refine xT_iaN g_q148 g148_146 a5 b5 (by omega) ?_
    refine xT_iincV (y := nI (s + 1)) g_q148 g148_147 (l7) (by decide) (bIncN _) ?_
    refine xT_goto g_q148 g148_150 (t := 125) (by decide) ?_
    exact x
end XH3518
