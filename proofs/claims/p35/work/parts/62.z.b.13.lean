/-! p35 by hand, 12. -/
noncomputable section XH3512
variable {ot : XO Int32} {dp : Nat} {H : List (XC Int32)} {p n m : Nat} {r : Nat → Nat} {pl mi la we ord hf : Nat → Nat}
theorem t260_1 {b hn : Nat} {R : Nat → Nat} {Fin : Option (XV Int32) → List (XC Int32) → Prop} (hB : stB pl mi la we) (hO : ordOk n ord mi) (hh : hn < 4) (kk : ∀ (L : List (Nat × XV Int32)) (H : List (XC Int32)), isSt H b n pl mi la we → isCn H b R (fun h i => h ≤ 1 ∧ i < 2 ^ n) (canN (fun s => mtD ord pl mi la s n 0 0 0)) → x_lk L 0 = some (.inr (some b)) → x_lk L 1 = some (.inl (nI hn)) → ∃ v H2, x_To x_tb x_tyl ot (dp + 1) 260 48 L [] H 0 0 v H2 ∧ Fin v H2) : ∀ (d j : Nat) (L : List (Nat × XV Int32)) (H : List (XC Int32)), j + d = 2 ^ n → isSt H b n pl mi la we → isCn H b R (fun h i => h ≤ 1 ∧ i < j) (canN (fun s => mtD ord pl mi la s n 0 0 0)) → x_lk L 0 = some (.inr (some b)) → x_lk L 1 = some (.inl (nI hn)) → x_lk L 2 = some (.inl (nI j)) → ∃ v H2, x_To x_tb x_tyl ot (dp + 1) 260 2 L [] H 0 0 v H2 ∧ Fin v H2 := by
  intro d
  induction d with
  | zero =>
    intro j L H hj hS hC l0 l1 l2
    obtain ⟨fs, cr, cn, ⟨hbA, hb, h68, hcn, hcl⟩, hcr, hinj⟩ := id hC
    obtain ⟨fs9, -, -, -, ⟨-, hb9, h36, h8, -⟩, -⟩ := id hS
    obtain rfl : fs9 = fs := by
      rw [hb] at hb9
      cases hb9
      rfl
    obtain ⟨s1, s2, s3⟩ := b_shl n (by omega)
    obtain rfl : j = 2 ^ n := by omega
    obtain ⟨v, H2, x, f⟩ := kk L H hS hC l0 l1
    refine ⟨v, H2, ?_, f⟩
    refine xT_iload_n g_q260 g260_2 (l2) ?_
    refine xT_icV (y := nI (1)) g_q260 g260_3 (by decide) ?_
    refine xT_aload_n g_q260 g260_4 (l0) ?_
    refine xT_getfield g_q260 g260_5 hbA rfl hb rfl h36 ?_
    refine xT_ishlV (y := nI (2 ^ n)) g_q260 g260_8 ((b_shl n (by omega)).1) ?_
    refine xT_if_icmpY g_q260 g260_9 (t := 48) (by decide) (c3Y (Nat.le_refl _) (by omega) (by omega)) ?_
    exact x
  | succ d ih =>
    intro j L H hj hS hC l0 l1 l2
    obtain ⟨fs, cr, cn, ⟨hbA, hb, h68, hcn, hcl⟩, hcr, hinj⟩ := id hC
    obtain ⟨fs9, -, -, -, ⟨-, hb9, h36, h8, -⟩, -⟩ := id hS
    obtain rfl : fs9 = fs := by
      rw [hb] at hb9
      cases hb9
      rfl
    obtain ⟨s1, s2, s3⟩ := b_shl n (by omega)
    obtain ⟨-, -, V0, f1, f2, f3⟩ := hcr 0 (by decide)
    obtain ⟨-, -, V1, g0, g2, g3⟩ := hcr 1 (by decide)
    by_cases hj0 : j = 0
    · skip
      have hb1 : (H.set (R 0) (.inr (1, V0.set j (.inl (nI 1)))))[b]? = some (.inl (12, fs9)) := gtag f1 hb (fun e => by cases e)
      have hcn1 : (H.set (R 0) (.inr (1, V0.set j (.inl (nI 1)))))[cn]? = some (.inr (6, cr)) := gtag f1 hcn (fun e => by cases e)
      have hS1 := isSt_set (W := V0.set j (.inl (nI 1))) hS f1
      have g1 : (H.set (R 0) (.inr (1, V0.set j (.inl (nI 1)))))[R 1]? = some (.inr (1, V1)) := gne g0 (fun z => by
        have := hinj 0 1 (by decide) (by decide) z
        omega)
      have hC1 : isCn (H.set (R 0) (.inr (1, V0.set j (.inl (nI 1))))) b R (fun h i => (h ≤ 1 ∧ i < j) ∨ (h = 0 ∧ i = j)) (canN (fun s => mtD ord pl mi la s n 0 0 0)) := isCn_put hC (by decide) (by omega) f1 (fun h' i' z => by
        rcases z with z | z
        · exact Or.inr ⟨z, fun q => by omega⟩
        · refine Or.inl ⟨z.1, z.2, ?_⟩
          show 1 = if j = 0 then 1 else 0
          rw [if_pos hj0])
      have hC2 : isCn ((H.set (R 0) (.inr (1, V0.set j (.inl (nI 1))))).set (R 1) (.inr (1, V1.set j (.inl (nI (mtD ord pl mi la j n 0 0 0)))))) b R (fun h i => h ≤ 1 ∧ i < j + 1) (canN (fun s => mtD ord pl mi la s n 0 0 0)) := isCn_put hC1 (by decide) (by omega) g1 (fun h' i' z => by
        by_cases e : h' = 1 ∧ i' = j
        · exact Or.inl ⟨e.1, e.2, rfl⟩
        · exact Or.inr ⟨by omega, e⟩)
      have hb2 : ((H.set (R 0) (.inr (1, V0.set j (.inl (nI 1))))).set (R 1) (.inr (1, V1.set j (.inl (nI (mtD ord pl mi la j n 0 0 0))))))[b]? = some (.inl (12, fs9)) := gtag g1 hb1 (fun e => by cases e)
      obtain ⟨v, H2, x, f⟩ := ih (j + 1) (x_st (L) 2 (.inl (nI (j + 1)))) _ (by omega) (isSt_set hS1 g1) hC2 (lkN (by decide) (l0)) (lkN (by decide) (l1)) (lkY)
      refine ⟨v, H2, ?_, f⟩
      refine xT_iload_n g_q260 g260_2 (l2) ?_
      refine xT_icV (y := nI (1)) g_q260 g260_3 (by decide) ?_
      refine xT_aload_n g_q260 g260_4 (l0) ?_
      refine xT_getfield g_q260 g260_5 hbA rfl hb rfl h36 ?_
      refine xT_ishlV (y := nI (2 ^ n)) g_q260 g260_8 ((b_shl n (by omega)).1) ?_
      refine xT_if_icmpN g_q260 g260_9 (t := 48) (by decide) (c3N (a := j) (b := 2 ^ n) (by omega) (by omega) (by omega)) ?_
      refine xT_aload_n g_q260 g260_12 (l0) ?_
      refine xT_getfield g_q260 g260_13 hbA rfl hb rfl h68 ?_
      refine xT_icV (y := nI (0)) g_q260 g260_16 (by decide) ?_
      refine xT_aaload g_q260 g260_17 (by decide +kernel) hcn (ixN (n := 4) (by omega) hcl) (ixG (by omega) (hcr _ (by omega)).1) ?_
      refine xT_iload_n g_q260 g260_18 (l2) ?_
      refine xT_iload_n g_q260 g260_19 (l2) ?_
      refine xT_ifCondN g_q260 g260_20 (t := 27) (by decide) (c1N (b := 0) hj0) ?_
      refine xT_icV (y := nI (1)) g_q260 g260_23 (by decide) ?_
      refine xT_goto g_q260 g260_24 (t := 28) (by decide) ?_
      refine xT_b256 g_q260 g260_28 (Or.inr rfl) f1 f2 (by omega) ?_
      refine xT_aload_n g_q260 g260_29 (l0) ?_
      refine xT_getfield g_q260 g260_30 hbA rfl hb1 rfl h68 ?_
      refine xT_icV (y := nI (1)) g_q260 g260_33 (by decide) ?_
      refine xT_aaload g_q260 g260_34 (by decide +kernel) hcn1 (ixN (n := 4) (by omega) hcl) (ixG (by omega) (hcr _ (by omega)).1) ?_
      refine xT_iload_n g_q260 g260_35 (l2) ?_
      refine xT_aload_n g_q260 g260_36 (l0) ?_
      refine xT_iload_n g_q260 g260_37 (l2) ?_
      refine xT_invokevirtual (r := [.inl (nI (j)), .inr (some ((R (1))))]) (u := some (.inl (nI (mtD ord pl mi la j n 0 0 0)))) g_q260 g260_38 (j := 261) (so := 0) (by decide +kernel) g_q261 rfl (by rw [x_rcM hbA hb1]; rfl) (t261 hS1 hB hO (by omega)) ?_
      refine xT_b256 g_q260 g260_41 (mtD_b _ _ _ _) g1 g2 (by omega) ?_
      refine xT_iincV (y := nI (j + 1)) g_q260 g260_42 (l2) (by decide) (bIncN _) ?_
      refine xT_goto g_q260 g260_45 (t := 2) (by decide) ?_
      exact x
    · skip
      have hb1 : (H.set (R 0) (.inr (1, V0.set j (.inl (nI 0)))))[b]? = some (.inl (12, fs9)) := gtag f1 hb (fun e => by cases e)
      have hcn1 : (H.set (R 0) (.inr (1, V0.set j (.inl (nI 0)))))[cn]? = some (.inr (6, cr)) := gtag f1 hcn (fun e => by cases e)
      have hS1 := isSt_set (W := V0.set j (.inl (nI 0))) hS f1
      have g1 : (H.set (R 0) (.inr (1, V0.set j (.inl (nI 0)))))[R 1]? = some (.inr (1, V1)) := gne g0 (fun z => by
        have := hinj 0 1 (by decide) (by decide) z
        omega)
      have hC1 : isCn (H.set (R 0) (.inr (1, V0.set j (.inl (nI 0))))) b R (fun h i => (h ≤ 1 ∧ i < j) ∨ (h = 0 ∧ i = j)) (canN (fun s => mtD ord pl mi la s n 0 0 0)) := isCn_put hC (by decide) (by omega) f1 (fun h' i' z => by
        rcases z with z | z
        · exact Or.inr ⟨z, fun q => by omega⟩
        · refine Or.inl ⟨z.1, z.2, ?_⟩
          show 0 = if j = 0 then 1 else 0
          rw [if_neg hj0])
      have hC2 : isCn ((H.set (R 0) (.inr (1, V0.set j (.inl (nI 0))))).set (R 1) (.inr (1, V1.set j (.inl (nI (mtD ord pl mi la j n 0 0 0)))))) b R (fun h i => h ≤ 1 ∧ i < j + 1) (canN (fun s => mtD ord pl mi la s n 0 0 0)) := isCn_put hC1 (by decide) (by omega) g1 (fun h' i' z => by
        by_cases e : h' = 1 ∧ i' = j
        · exact Or.inl ⟨e.1, e.2, rfl⟩
        · exact Or.inr ⟨by omega, e⟩)
      have hb2 : ((H.set (R 0) (.inr (1, V0.set j (.inl (nI 0))))).set (R 1) (.inr (1, V1.set j (.inl (nI (mtD ord pl mi la j n 0 0 0))))))[b]? = some (.inl (12, fs9)) := gtag g1 hb1 (fun e => by cases e)
      obtain ⟨v, H2, x, f⟩ := ih (j + 1) (x_st (L) 2 (.inl (nI (j + 1)))) _ (by omega) (isSt_set hS1 g1) hC2 (lkN (by decide) (l0)) (lkN (by decide) (l1)) (lkY)
      refine ⟨v, H2, ?_, f⟩
      refine xT_iload_n g_q260 g260_2 (l2) ?_
      refine xT_icV (y := nI (1)) g_q260 g260_3 (by decide) ?_
      refine xT_aload_n g_q260 g260_4 (l0) ?_
      refine xT_getfield g_q260 g260_5 hbA rfl hb rfl h36 ?_
      refine xT_ishlV (y := nI (2 ^ n)) g_q260 g260_8 ((b_shl n (by omega)).1) ?_
      refine xT_if_icmpN g_q260 g260_9 (t := 48) (by decide) (c3N (a := j) (b := 2 ^ n) (by omega) (by omega) (by omega)) ?_
      refine xT_aload_n g_q260 g260_12 (l0) ?_
      refine xT_getfield g_q260 g260_13 hbA rfl hb rfl h68 ?_
      refine xT_icV (y := nI (0)) g_q260 g260_16 (by decide) ?_
      refine xT_aaload g_q260 g260_17 (by decide +kernel) hcn (ixN (n := 4) (by omega) hcl) (ixG (by omega) (hcr _ (by omega)).1) ?_
      refine xT_iload_n g_q260 g260_18 (l2) ?_
      refine xT_iload_n g_q260 g260_19 (l2) ?_
      refine xT_ifCondY g_q260 g260_20 (t := 27) (by decide) (c1Y (a := j) (b := 0) hj0 (by omega) (by omega)) ?_
      refine xT_icV (y := nI (0)) g_q260 g260_27 (by decide) ?_
      refine xT_b256 g_q260 g260_28 (Or.inl rfl) f1 f2 (by omega) ?_
      refine xT_aload_n g_q260 g260_29 (l0) ?_
      refine xT_getfield g_q260 g260_30 hbA rfl hb1 rfl h68 ?_
      refine xT_icV (y := nI (1)) g_q260 g260_33 (by decide) ?_
      refine xT_aaload g_q260 g260_34 (by decide +kernel) hcn1 (ixN (n := 4) (by omega) hcl) (ixG (by omega) (hcr _ (by omega)).1) ?_
      refine xT_iload_n g_q260 g260_35 (l2) ?_
      refine xT_aload_n g_q260 g260_36 (l0) ?_
      refine xT_iload_n g_q260 g260_37 (l2) ?_
      refine xT_invokevirtual (r := [.inl (nI (j)), .inr (some ((R (1))))]) (u := some (.inl (nI (mtD ord pl mi la j n 0 0 0)))) g_q260 g260_38 (j := 261) (so := 0) (by decide +kernel) g_q261 rfl (by rw [x_rcM hbA hb1]; rfl) (t261 hS1 hB hO (by omega)) ?_
      refine xT_b256 g_q260 g260_41 (mtD_b _ _ _ _) g1 g2 (by omega) ?_
      refine xT_iincV (y := nI (j + 1)) g_q260 g260_42 (l2) (by decide) (bIncN _) ?_
      refine xT_goto g_q260 g260_45 (t := 2) (by decide) ?_
      exact x

end XH3512
