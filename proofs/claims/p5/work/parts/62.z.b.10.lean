/-! p5 by hand, 9. -/
noncomputable section XH5_9
variable {ot : XO Int32} {dp : Nat} {H : List (XC Int32)} {a n m : Nat} {P C nl sv S : Nat → Nat} {op lf rt : Nat → Nat → Nat}
theorem t46_c {Fin : Option (XV Int32) → List (XC Int32) → Prop} {H0 : List (XC Int32)} (kk : ∀ (L : List (Nat × XV Int32)) (H : List (XC Int32)), kA H a n P C op lf rt nl sv (fun _ => 0) n → kp tgP H0 H → x_lk L 0 = some (.inr (some (a))) → ∃ v H2, x_To x_tb x_tyl ot (dp + 3) 46 26 L [] H 0 0 v H2 ∧ Fin v H2) : ∀ (d i : Nat) (L : List (Nat × XV Int32)) (H : List (XC Int32)), i + d = n → kA H a n P C op lf rt nl sv (fun _ => 0) i → kp tgP H0 H → x_lk L 0 = some (.inr (some (a))) → x_lk L 1 = some (.inl (nI (i))) → ∃ v H2, x_To x_tb x_tyl ot (dp + 3) 46 2 L [] H 0 0 v H2 ∧ Fin v H2 := by
  intro d
  induction d with
  | zero =>
    intro i L H hi hA hk l0 l1
    obtain ⟨⟨haA, hn12, gs, pa, vs, ha, g3, g2, hpa, hvl, hvs⟩, hP, hC, inj⟩ := id hA
    obtain rfl : n = i := by omega
    obtain ⟨v, H2, x, f⟩ := kk L H hA hk l0
    refine ⟨v, H2, ?_, f⟩
    refine xT_iload_n g_q46 g46_2 (l1) ?_
    refine xT_aload_n g_q46 g46_3 (l0) ?_
    refine xT_getfield g_q46 g46_4 haA rfl ha rfl g3 ?_
    refine xT_if_icmpY g_q46 g46_7 (t := 26) (by decide) (c3Y (a := n) (b := n) (Nat.le_refl _) (by omega) (by omega)) ?_
    exact x
  | succ d ih =>
    intro i L H hi hA hk l0 l1
    obtain ⟨⟨haA, hn12, gs, pa, vs, ha, g3, g2, hpa, hvl, hvs⟩, hP, hC, inj⟩ := id hA
    obtain ⟨p1, po, hpo, hpl, -⟩ := hP i (by omega)
    have hput : (decide (10 = 10) && x_fit dC .int (.inl (nI 0) : XV Int32) && decide (19 < po.length) && (!false || (mI xm46 && decide (mRc xm46 = 10)))) = true := by
      rw [hpl]
      rfl
    obtain ⟨v, H2, x, f⟩ := ih (i + 1) (x_st (L) 1 (.inl (nI (i + 1)))) (H.set (P i) (.inl (10, po.set 19 (.inl (nI 0))))) (by omega) (kA_cg (kA_set hA (by omega) hpo (fun k hk => by omega)) (fun q _ _ => by
      by_cases e : q = i
      · rw [e, upF_eq]
      · rw [upF_ne e])) (kp_set hk hpo rfl) (lkN (by decide) (l0)) (lkY)
    refine ⟨v, H2, ?_, f⟩
    refine xT_iload_n g_q46 g46_2 (l1) ?_
    refine xT_aload_n g_q46 g46_3 (l0) ?_
    refine xT_getfield g_q46 g46_4 haA rfl ha rfl g3 ?_
    refine xT_if_icmpN g_q46 g46_7 (t := 26) (by decide) (c3N (a := i) (b := n) (by omega) (by omega) (by omega)) ?_
    refine xT_aload_n g_q46 g46_10 (l0) ?_
    refine xT_getfield g_q46 g46_11 haA rfl ha rfl g2 ?_
    refine xT_iload_n g_q46 g46_14 (l1) ?_
    refine xT_aaload g_q46 g46_15 (by decide +kernel) hpa (ixN (n := 12) (by omega) hvl) (ixG (by omega) (hvs _ (by omega))) ?_
    refine xT_icV (y := nI (0)) g_q46 g46_16 (by decide) ?_
    refine xT_putfield g_q46 g46_17 (ci := 10) (j := 19) (ty := (.int, false)) rfl hpo rfl hput ?_
    refine xT_iincV (y := nI (i + 1)) g_q46 g46_20 (l1) (by decide) (bIncN _) ?_
    refine xT_goto g_q46 g46_23 (t := 2) (by decide) ?_
    exact x
end XH5_9
