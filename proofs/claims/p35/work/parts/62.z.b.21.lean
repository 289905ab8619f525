/-! p35 by hand, 20. -/
noncomputable section XH3520
variable {ot : XO Int32} {dp : Nat} {H : List (XC Int32)} {p n m : Nat} {r : Nat → Nat} {pl mi la we ord hf : Nat → Nat}
theorem t148_d (inj : ∀ i j, i < 6 → j < 6 → r i = r j → i = j) {k : Nat} {V : List (XV Int32)} {L : List (Nat × XV Int32)} (hB : stB pl mi la we) (hn : n < 8) (hpA : ¬ 1000000 < p) (hp : H[p]? = some (.inl (7, [.inr (some (r 0)), .inr (some (r 1)), .inr (some (r 2)), .inr (some (r 3)), .inr (some (r 4)), .inr (some (r 5)), .inl (nI n)]))) (R0 : isRw H (r 0) 8 pl (n + 1)) (R1 : isRw H (r 1) 8 mi (n + 1)) (R2 : isRw H (r 2) 8 la (n + 1)) (R3 : isRw H (r 3) 8 we (n + 1)) (A4 : r 4 < 1000000) (h4 : H[r 4]? = some (.inr (0, V))) (R5 : isRw H (r 5) 256 hf (2 ^ n)) (hk : k ≤ n) (hVl : V.length = 8) (lo : ∀ j, j < k → V[j]? = some (.inl (nI (ord j)))) (hi : ∀ j, k < j → j ≤ n → V[j]? = some (.inl (nI (ord (j - 1))))) (hO : ∀ j, j < n + 1 → insO ord k n j < n + 1) (hh : hfOk (fun s => mtD (insO ord k n) pl mi la s (n + 1) 0 0 0) hf (2 ^ n)) (h9 : ∀ k, hf k ≤ 9) (l0 : x_lk L 0 = some (.inr (some p))) (l5 : x_lk L 5 = some (.inl (nI n))) (l6 : x_lk L 6 = some (.inl (nI k))) : ∃ H2 hf2, x_To x_tb x_tyl ot (dp + 3) 148 100 L [] H 0 0 (some (.inl (nI n))) H2 ∧ isPo H2 p (n + 1) r pl mi la we (insO ord k n) hf2 (2 ^ (n + 1)) ∧ hfOk (fun s => mtD (insO ord k n) pl mi la s (n + 1) 0 0 0) hf2 (2 ^ (n + 1)) ∧ (∀ k, hf2 k ≤ 9) ∧ kp tgS H H2 := by
  obtain ⟨-, z2, z3, z4⟩ := b_shl2 n hn
  have ne : ∀ i, i < 6 → i ≠ 4 → r i ≠ r 4 := fun i hi h4 e => h4 (inj i 4 hi (by omega) e)
  have hp5 : (H.set (r 4) (.inr (0, V.set k (.inl (nI n)))))[p]? = some (.inl (7, [.inr (some (r 0)), .inr (some (r 1)), .inr (some (r 2)), .inr (some (r 3)), .inr (some (r 4)), .inr (some (r 5)), .inl (nI n)])) := gtag h4 hp (fun e => by cases e)
  have R4 : isRw (H.set (r 4) (.inr (0, V.set k (.inl (nI n))))) (r 4) 8 (insO ord k n) (n + 1) := ⟨A4, _, gself h4, by rw [List.length_set]; exact hVl, fun j hj => by
    rcases Nat.lt_trichotomy j k with c | c | c
    · rw [List.getElem?_set_ne (by omega), show insO ord k n j = ord j from if_pos c]
      exact lo j c
    · subst c
      rw [show insO ord j n j = n from (if_neg (Nat.lt_irrefl j)).trans (if_pos rfl)]
      exact List.getElem?_set_self (by omega)
    · rw [List.getElem?_set_ne (by omega), show insO ord k n j = ord (j - 1) from (if_neg (by omega)).trans (if_neg (by omega))]
      exact hi j c (by omega)⟩
  have hP : isPo ((H.set (r 4) (.inr (0, V.set k (.inl (nI n))))).set p (.inl (7, [.inr (some (r 0)), .inr (some (r 1)), .inr (some (r 2)), .inr (some (r 3)), .inr (some (r 4)), .inr (some (r 5)), .inl (nI (n + 1))]))) p (n + 1) r pl mi la we (insO ord k n) hf (2 ^ n) := ⟨⟨hpA, gself hp5, by omega⟩, isRw_obj (isRw_ne R0 (ne 0 (by omega) (by omega))) hp5, isRw_obj (isRw_ne R1 (ne 1 (by omega) (by omega))) hp5, isRw_obj (isRw_ne R2 (ne 2 (by omega) (by omega))) hp5, isRw_obj (isRw_ne R3 (ne 3 (by omega) (by omega))) hp5, isRw_obj R4 hp5, isRw_obj (isRw_ne R5 (ne 5 (by omega) (by omega))) hp5⟩
  obtain ⟨H2, hf2, x, f1, f2, f3, f4⟩ := t148_c (ot := ot) (dp := dp) inj hB hn hO (2 ^ n) (2 ^ n) hf (x_st (L) 7 (.inl (nI (2 ^ n)))) _ hP (by rw [Nat.pow_succ]; omega) (by omega) hh h9 (lkN (by decide) (l0)) (lkN (by decide) (l5)) (lkY)
  refine ⟨H2, hf2, ?_, f1, f2, f3, kp_tr (kp_set (kp_set kp_rf h4 (tgS_r hVl (by decide))) hp5 rfl) f4⟩
  refine xT_aload_n g_q148 g148_100 (l0) ?_
  refine xT_getfield g_q148 g148_101 hpA rfl hp rfl rfl ?_
  refine xT_iload g_q148 g148_104 (l6) ?_
  refine xT_iload g_q148 g148_106 (l5) ?_
  refine xT_iaN g_q148 g148_108 h4 hVl (by omega) ?_
  refine xT_aload_n g_q148 g148_109 (l0) ?_
  refine xT_dup g_q148 g148_110 ?_
  refine xT_getfield g_q148 g148_111 hpA rfl hp5 rfl rfl ?_
  refine xT_icV (y := nI (1)) g_q148 g148_114 (by decide) ?_
  refine xT_iaddV (y := nI (n + 1)) g_q148 g148_115 (bAddN _ _) ?_
  refine xT_putfield g_q148 g148_116 (ci := 7) (j := 6) (ty := (.int, false)) rfl hp5 rfl rfl ?_
  refine xT_icV (y := nI (1)) g_q148 g148_119 (by decide) ?_
  refine xT_iload g_q148 g148_120 (l5) ?_
  refine xT_ishlV (y := nI (2 ^ n)) g_q148 g148_122 ((b_shl n (by omega)).1) ?_
  refine xT_istore g_q148 g148_123 (by decide) ?_
  exact x
end XH3520
