/-! p35 by hand, 21. -/
noncomputable section XH3521
variable {ot : XO Int32} {dp : Nat} {H : List (XC Int32)} {p n m : Nat} {r : Nat → Nat} {pl mi la we ord hf : Nat → Nat}
theorem t148 (hP : isPo H p n r pl mi la we ord hf (2 ^ n)) (inj : ∀ i j, i < 6 → j < 6 → r i = r j → i = j) (hB : stB pl mi la we) (hO : ordOk n ord mi) (hh : hfOk (fun s => mtD ord pl mi la s n 0 0 0) hf (2 ^ n)) (h9 : ∀ k, hf k ≤ 9) (hn : n < 8) {P_ Mn T_ W_ : Nat} (hP9 : P_ ≤ 99) (hM : Mn ≤ 899) (hT : T_ ≤ 99) (hW : W_ ≤ 99) : ∃ H2 ord2 hf2, x_To x_tb x_tyl ot (dp + 3) 148 0 (x_en 0 [.inr (some (p)), .inl (nI (P_)), .inl (nI (Mn)), .inl (nI (T_)), .inl (nI (W_))]) [] H 0 0 (some (.inl (nI n))) H2 ∧ isPo H2 p (n + 1) r (upF pl n P_) (upF mi n Mn) (upF la n T_) (upF we n W_) ord2 hf2 (2 ^ (n + 1)) ∧ ordOk (n + 1) ord2 (upF mi n Mn) ∧ hfOk (fun s => mtD ord2 (upF pl n P_) (upF mi n Mn) (upF la n T_) s (n + 1) 0 0 0) hf2 (2 ^ (n + 1)) ∧ (∀ k, hf2 k ≤ 9) ∧ kp tgS H H2 := by
  obtain ⟨⟨hpA, hp, -⟩, R0, R1, R2, R3, R4, R5⟩ := id hP
  obtain ⟨-, v0, a0, b0, -⟩ := id R0
  obtain ⟨-, v1, a1, b1, -⟩ := id R1
  obtain ⟨-, v2, a2, b2, -⟩ := id R2
  obtain ⟨-, v3, a3, b3, -⟩ := id R3
  obtain ⟨A4, v4, a4, b4, e4⟩ := id R4
  have ne : ∀ i j, i < 6 → j < 6 → i ≠ j → r i ≠ r j := fun i j hi hj h e => h (inj i j hi hj e)
  have hq0 : (H)[p]? = some (.inl (7, [.inr (some (r 0)), .inr (some (r 1)), .inr (some (r 2)), .inr (some (r 3)), .inr (some (r 4)), .inr (some (r 5)), .inl (nI n)])) := hp
  have q0 : (H)[r 0]? = some (.inr (0, v0)) := a0
  have hq1 : (((H).set (r 0) (.inr (0, v0.set n (.inl (nI P_))))))[p]? = some (.inl (7, [.inr (some (r 0)), .inr (some (r 1)), .inr (some (r 2)), .inr (some (r 3)), .inr (some (r 4)), .inr (some (r 5)), .inl (nI n)])) := gtag q0 hq0 (fun e => by cases e)
  have q1 : (((H).set (r 0) (.inr (0, v0.set n (.inl (nI P_))))))[r 1]? = some (.inr (0, v1)) := gne (a1) (ne 0 1 (by omega) (by omega) (by omega))
  have hq2 : (((((H).set (r 0) (.inr (0, v0.set n (.inl (nI P_)))))).set (r 1) (.inr (0, v1.set n (.inl (nI Mn))))))[p]? = some (.inl (7, [.inr (some (r 0)), .inr (some (r 1)), .inr (some (r 2)), .inr (some (r 3)), .inr (some (r 4)), .inr (some (r 5)), .inl (nI n)])) := gtag q1 hq1 (fun e => by cases e)
  have q2 : (((((H).set (r 0) (.inr (0, v0.set n (.inl (nI P_)))))).set (r 1) (.inr (0, v1.set n (.inl (nI Mn))))))[r 2]? = some (.inr (0, v2)) := gne (gne (a2) (ne 0 2 (by omega) (by omega) (by omega))) (ne 1 2 (by omega) (by omega) (by omega))
  have hq3 : (((((((H).set (r 0) (.inr (0, v0.set n (.inl (nI P_)))))).set (r 1) (.inr (0, v1.set n (.inl (nI Mn)))))).set (r 2) (.inr (0, v2.set n (.inl (nI T_))))))[p]? = some (.inl (7, [.inr (some (r 0)), .inr (some (r 1)), .inr (some (r 2)), .inr (some (r 3)), .inr (some (r 4)), .inr (some (r 5)), .inl (nI n)])) := gtag q2 hq2 (fun e => by cases e)
  have q3 : (((((((H).set (r 0) (.inr (0, v0.set n (.inl (nI P_)))))).set (r 1) (.inr (0, v1.set n (.inl (nI Mn)))))).set (r 2) (.inr (0, v2.set n (.inl (nI T_))))))[r 3]? = some (.inr (0, v3)) := gne (gne (gne (a3) (ne 0 3 (by omega) (by omega) (by omega))) (ne 1 3 (by omega) (by omega) (by omega))) (ne 2 3 (by omega) (by omega) (by omega))
  have hq4 : (((((((((H).set (r 0) (.inr (0, v0.set n (.inl (nI P_)))))).set (r 1) (.inr (0, v1.set n (.inl (nI Mn)))))).set (r 2) (.inr (0, v2.set n (.inl (nI T_)))))).set (r 3) (.inr (0, v3.set n (.inl (nI W_))))))[p]? = some (.inl (7, [.inr (some (r 0)), .inr (some (r 1)), .inr (some (r 2)), .inr (some (r 3)), .inr (some (r 4)), .inr (some (r 5)), .inl (nI n)])) := gtag q3 hq3 (fun e => by cases e)
  have q4 : (((((((((H).set (r 0) (.inr (0, v0.set n (.inl (nI P_)))))).set (r 1) (.inr (0, v1.set n (.inl (nI Mn)))))).set (r 2) (.inr (0, v2.set n (.inl (nI T_)))))).set (r 3) (.inr (0, v3.set n (.inl (nI W_))))))[r 4]? = some (.inr (0, v4)) := gne (gne (gne (gne a4 (ne 0 4 (by omega) (by omega) (by omega))) (ne 1 4 (by omega) (by omega) (by omega))) (ne 2 4 (by omega) (by omega) (by omega))) (ne 3 4 (by omega) (by omega) (by omega))
  have S0 : isRw (((((((((H).set (r 0) (.inr (0, v0.set n (.inl (nI P_)))))).set (r 1) (.inr (0, v1.set n (.inl (nI Mn)))))).set (r 2) (.inr (0, v2.set n (.inl (nI T_)))))).set (r 3) (.inr (0, v3.set n (.inl (nI W_)))))) (r 0) 8 (upF pl n P_) (n + 1) := (isRw_ne (isRw_ne (isRw_ne (isRw_up (c := n) (v := P_) (R0) q0 (by omega)) (ne 0 1 (by omega) (by omega) (by omega))) (ne 0 2 (by omega) (by omega) (by omega))) (ne 0 3 (by omega) (by omega) (by omega)))
  have S1 : isRw (((((((((H).set (r 0) (.inr (0, v0.set n (.inl (nI P_)))))).set (r 1) (.inr (0, v1.set n (.inl (nI Mn)))))).set (r 2) (.inr (0, v2.set n (.inl (nI T_)))))).set (r 3) (.inr (0, v3.set n (.inl (nI W_)))))) (r 1) 8 (upF mi n Mn) (n + 1) := (isRw_ne (isRw_ne (isRw_up (c := n) (v := Mn) (isRw_ne (R1) (ne 1 0 (by omega) (by omega) (by omega))) q1 (by omega)) (ne 1 2 (by omega) (by omega) (by omega))) (ne 1 3 (by omega) (by omega) (by omega)))
  have S2 : isRw (((((((((H).set (r 0) (.inr (0, v0.set n (.inl (nI P_)))))).set (r 1) (.inr (0, v1.set n (.inl (nI Mn)))))).set (r 2) (.inr (0, v2.set n (.inl (nI T_)))))).set (r 3) (.inr (0, v3.set n (.inl (nI W_)))))) (r 2) 8 (upF la n T_) (n + 1) := (isRw_ne (isRw_up (c := n) (v := T_) (isRw_ne (isRw_ne (R2) (ne 2 0 (by omega) (by omega) (by omega))) (ne 2 1 (by omega) (by omega) (by omega))) q2 (by omega)) (ne 2 3 (by omega) (by omega) (by omega)))
  have S3 : isRw (((((((((H).set (r 0) (.inr (0, v0.set n (.inl (nI P_)))))).set (r 1) (.inr (0, v1.set n (.inl (nI Mn)))))).set (r 2) (.inr (0, v2.set n (.inl (nI T_)))))).set (r 3) (.inr (0, v3.set n (.inl (nI W_)))))) (r 3) 8 (upF we n W_) (n + 1) := (isRw_up (c := n) (v := W_) (isRw_ne (isRw_ne (isRw_ne (R3) (ne 3 0 (by omega) (by omega) (by omega))) (ne 3 1 (by omega) (by omega) (by omega))) (ne 3 2 (by omega) (by omega) (by omega))) q3 (by omega))
  have S5 : isRw (((((((((H).set (r 0) (.inr (0, v0.set n (.inl (nI P_)))))).set (r 1) (.inr (0, v1.set n (.inl (nI Mn)))))).set (r 2) (.inr (0, v2.set n (.inl (nI T_)))))).set (r 3) (.inr (0, v3.set n (.inl (nI W_)))))) (r 5) 256 hf (2 ^ n) := (isRw_ne (isRw_ne (isRw_ne (isRw_ne (R5) (ne 5 0 (by omega) (by omega) (by omega))) (ne 5 1 (by omega) (by omega) (by omega))) (ne 5 2 (by omega) (by omega) (by omega))) (ne 5 3 (by omega) (by omega) (by omega)))
  have uB : stB (upF pl n P_) (upF mi n Mn) (upF la n T_) (upF we n W_) := fun k => by
    have := hB k
    unfold upF
    split
    · exact ⟨hP9, hM, hT, hW⟩
    · exact this
  have K4 : kp tgS H (((((((((H).set (r 0) (.inr (0, v0.set n (.inl (nI P_)))))).set (r 1) (.inr (0, v1.set n (.inl (nI Mn)))))).set (r 2) (.inr (0, v2.set n (.inl (nI T_)))))).set (r 3) (.inr (0, v3.set n (.inl (nI W_)))))) := kp_set (kp_set (kp_set (kp_set kp_rf q0 (tgS_r b0 (by decide))) q1 (tgS_r b1 (by decide))) q2 (tgS_r b2 (by decide))) q3 (tgS_r b3 (by decide))
  obtain ⟨v, H2, x, rfl, ord2, hf2, f⟩ := t148_l (ot := ot) (dp := dp + 3) (Mn := Mn) (ord := ord) (mi := mi) (Fin := fun v H2 => v = some (.inl (nI n)) ∧ ∃ ord2 hf2, isPo H2 p (n + 1) r (upF pl n P_) (upF mi n Mn) (upF la n T_) (upF we n W_) ord2 hf2 (2 ^ (n + 1)) ∧ ordOk (n + 1) ord2 (upF mi n Mn) ∧ hfOk (fun s => mtD ord2 (upF pl n P_) (upF mi n Mn) (upF la n T_) s (n + 1) 0 0 0) hf2 (2 ^ (n + 1)) ∧ (∀ k, hf2 k ≤ 9) ∧ kp tgS H H2) hpA hq4 (by
      obtain ⟨y1, l, y2, y3, y4⟩ := S1
      exact ⟨y1, l, y2, y3, fun k hk => by
        have := y4 k (by omega)
        rw [upF_ne (by omega)] at this
        exact this⟩) (ne 1 4 (by omega) (by omega) (by omega)) A4 q4 hn (fun k => (hB k).2.1) hO.1 hM (fun k V L hk hVl lo hi hm he l0 l5 l6 => by
      have z4 : ((((((((((H).set (r 0) (.inr (0, v0.set n (.inl (nI P_)))))).set (r 1) (.inr (0, v1.set n (.inl (nI Mn)))))).set (r 2) (.inr (0, v2.set n (.inl (nI T_)))))).set (r 3) (.inr (0, v3.set n (.inl (nI W_)))))).set (r 4) (.inr (0, V)))[r 4]? = some (.inr (0, V)) := gself q4
      have oo := ord_ins (mi2 := upF mi n Mn) hO hk (fun k hk => upF_ne (by omega)) (fun j h1 h2 => by
        rw [upF_eq]
        exact hm j h1 h2) (by
        rw [upF_eq]
        exact he)
      obtain ⟨H2, hf2, x, f1, f2, f3, f4⟩ := t148_d (ot := ot) (dp := dp) inj (H := (((((((((H).set (r 0) (.inr (0, v0.set n (.inl (nI P_)))))).set (r 1) (.inr (0, v1.set n (.inl (nI Mn)))))).set (r 2) (.inr (0, v2.set n (.inl (nI T_)))))).set (r 3) (.inr (0, v3.set n (.inl (nI W_)))))).set (r 4) (.inr (0, V))) uB hn hpA (gtag q4 hq4 (fun e => by cases e)) (isRw_ne S0 (ne 0 4 (by omega) (by omega) (by omega))) (isRw_ne S1 (ne 1 4 (by omega) (by omega) (by omega))) (isRw_ne S2 (ne 2 4 (by omega) (by omega) (by omega))) (isRw_ne S3 (ne 3 4 (by omega) (by omega) (by omega))) A4 z4 (isRw_ne S5 (ne 5 4 (by omega) (by omega) (by omega))) hk hVl lo hi oo.1 (hfOk_cg hh (fun s hs => mtD_ins hn hk hO.1 (fun k hk => ⟨upF_ne (by omega), upF_ne (by omega), upF_ne (by omega)⟩) hs)) h9 l0 l5 l6
      exact ⟨_, H2, x, rfl, _, hf2, f1, oo, f2, f3, kp_tr (kp_set K4 q4 (tgS_r b4 (by decide))) f4⟩) n v4 (x_st (x_st ((x_en 0 [.inr (some (p)), .inl (nI (P_)), .inl (nI (Mn)), .inl (nI (T_)), .inl (nI (W_))])) 5 (.inl (nI (n)))) 6 (.inl (nI (n)))) (Nat.le_refl n) b4 e4 (fun j h1 h2 => by omega) (fun j h1 h2 => by omega) (lkN (by decide) (lkN (by decide) (rfl))) (lkN (by decide) (lkN (by decide) (rfl))) (lkN (by decide) (lkY)) (lkY)
  rw [set_same q4] at x
  refine ⟨H2, ord2, hf2, ?_, f⟩
  refine xT_aload_n g_q148 g148_0 (rfl) ?_
  refine xT_getfield g_q148 g148_1 hpA rfl hp rfl rfl ?_
  refine xT_biV (y := nI (8)) g_q148 g148_4 (by decide) ?_
  refine xT_if_icmpY g_q148 g148_6 (t := 12) (by decide) (c2Y (a := n) (b := 8) (by omega) (by omega) (by omega)) ?_
  refine xT_aload_n g_q148 g148_12 (rfl) ?_
  refine xT_getfield g_q148 g148_13 hpA rfl hp rfl rfl ?_
  refine xT_istore g_q148 g148_16 (by decide) ?_
  refine xT_aload_n g_q148 g148_18 (lkN (by decide) (rfl)) ?_
  refine xT_getfield g_q148 g148_19 hpA rfl hq0 rfl rfl ?_
  refine xT_iload g_q148 g148_22 (lkY) ?_
  refine xT_iload_n g_q148 g148_24 (lkN (by decide) (rfl)) ?_
  refine xT_iaN g_q148 g148_25 q0 b0 (by omega) ?_
  refine xT_aload_n g_q148 g148_26 (lkN (by decide) (rfl)) ?_
  refine xT_getfield g_q148 g148_27 hpA rfl hq1 rfl rfl ?_
  refine xT_iload g_q148 g148_30 (lkY) ?_
  refine xT_iload_n g_q148 g148_32 (lkN (by decide) (rfl)) ?_
  refine xT_iaN g_q148 g148_33 q1 b1 (by omega) ?_
  refine xT_aload_n g_q148 g148_34 (lkN (by decide) (rfl)) ?_
  refine xT_getfield g_q148 g148_35 hpA rfl hq2 rfl rfl ?_
  refine xT_iload g_q148 g148_38 (lkY) ?_
  refine xT_iload_n g_q148 g148_40 (lkN (by decide) (rfl)) ?_
  refine xT_iaN g_q148 g148_41 q2 b2 (by omega) ?_
  refine xT_aload_n g_q148 g148_42 (lkN (by decide) (rfl)) ?_
  refine xT_getfield g_q148 g148_43 hpA rfl hq3 rfl rfl ?_
  refine xT_iload g_q148 g148_46 (lkY) ?_
  refine xT_iload g_q148 g148_48 (lkN (by decide) (rfl)) ?_
  refine xT_iaN g_q148 g148_50 q3 b3 (by omega) ?_
  refine xT_iload g_q148 g148_51 (lkY) ?_
  refine xT_istore g_q148 g148_53 (by decide) ?_
  exact x
theorem t148_full {P_ Mn T_ W_ : Int32} (hP : isPo H p n r pl mi la we ord hf m) (hn : ¬ n < 8) : x_To x_tb x_tyl ot (dp + 3) 148 0 (x_en 0 [.inr (some p), .inl P_, .inl Mn, .inl T_, .inl W_]) [] H 0 0 (some (.inl (-4))) H := by
  obtain ⟨⟨hpA, hp, h8⟩, -⟩ := id hP
  refine xT_aload_n g_q148 g148_0 (rfl) ?_
  refine xT_getfield g_q148 g148_1 hpA rfl hp rfl rfl ?_
  refine xT_biV (y := nI (8)) g_q148 g148_4 (by decide) ?_
  refine xT_if_icmpN g_q148 g148_6 (t := 12) (by decide) (c2N (a := n) (b := 8) (by omega) (by omega) (by omega)) ?_
  refine xT_biV (y := -4) g_q148 g148_9 (by decide) ?_
  exact xT_ireturn g_q148 g148_11 (rfl)
end XH3521
