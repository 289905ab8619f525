/-! p5 by hand, 26. -/
noncomputable section XH5_26
variable {ot : XO Int32} {dp : Nat} {H : List (XC Int32)} {a n m : Nat} {P C nl sv S : Nat → Nat} {op lf rt : Nat → Nat → Nat}
theorem t43_p {x y w : Int32} (hx : x < 0 ∨ nI n ≤ x) (hA : kA H a n P C op lf rt nl sv S m) : x_To x_tb x_tyl ot (dp + 5) 43 0 (x_en 0 [.inr (some (a)), .inl (x), .inl (y), .inl (w)]) [] H 0 0 (some (.inl (-5))) H := by
  obtain ⟨⟨haA, hn12, gs, pa, vs, ha, g3, g2, hpa, hvl, hvs⟩, hP, hC, inj⟩ := id hA
  refine xT_aload_n g_q43 g43_0 (rfl) ?_
  refine xT_iload_n g_q43 g43_1 (rfl) ?_
  refine xT_invokevirtual (r := []) (u := some (.inr none)) g_q43 g43_2 (j := 42) (so := 0) (by decide +kernel) g_q42 rfl (by rw [x_rcM haA ha]; rfl) (t42_n hx hA) ?_
  refine xT_astore g_q43 g43_5 (by decide) ?_
  refine xT_aload g_q43 g43_7 (lkY) ?_
  refine xT_ifnull0 g_q43 g43_9 (t := 19) (by decide) ?_
  refine xT_biV (y := -5) g_q43 g43_19 (by decide) ?_
  exact xT_ireturn g_q43 g43_21 (rfl)
theorem t43_f {q : Nat} {y w : Int32} (hq : q < n) (hy : y < nI 0 ∨ nI 5 < y) (hA : kA H a n P C op lf rt nl sv S m) : x_To x_tb x_tyl ot (dp + 5) 43 0 (x_en 0 [.inr (some (a)), .inl (nI (q)), .inl (y), .inl (w)]) [] H 0 0 (some (.inl (-5))) H := by
  obtain ⟨⟨haA, hn12, gs, pa, vs, ha, g3, g2, hpa, hvl, hvs⟩, hP, hC, inj⟩ := id hA
  refine xT_aload_n g_q43 g43_0 (rfl) ?_
  refine xT_iload_n g_q43 g43_1 (rfl) ?_
  refine xT_invokevirtual (r := []) (u := some (.inr (some ((P (q)))))) g_q43 g43_2 (j := 42) (so := 0) (by decide +kernel) g_q42 rfl (by rw [x_rcM haA ha]; rfl) (t42_s hq hA) ?_
  refine xT_astore g_q43 g43_5 (by decide) ?_
  refine xT_aload g_q43 g43_7 (lkY) ?_
  refine xT_ifnull1 g_q43 g43_9 (t := 19) (by decide) ?_
  refine xT_iload_n g_q43 g43_12 (lkN (by decide) (rfl)) ?_
  refine xT_invokestatic (r := []) (u := some (.inl (nI (0)))) g_q43 g43_13 (j := 44) (so := 2) (by decide +kernel) g_q44 (rfl) (t44N hy) ?_
  refine xT_ifCondN g_q43 g43_16 (t := 22) (by decide) (c1N (b := 0) rfl) ?_
  refine xT_biV (y := -5) g_q43 g43_19 (by decide) ?_
  exact xT_ireturn g_q43 g43_21 (rfl)
theorem t43_w {q f : Nat} {w : Int32} (hq : q < n) (hf : f ≤ 5) (hw : ¬ w = 0 ∧ ¬ w = 1 ∧ ¬ w = 2) (hA : kA H a n P C op lf rt nl sv S m) : x_To x_tb x_tyl ot (dp + 5) 43 0 (x_en 0 [.inr (some (a)), .inl (nI (q)), .inl (nI (f)), .inl (w)]) [] H 0 0 (some (.inl (-5))) H := by
  obtain ⟨⟨haA, hn12, gs, pa, vs, ha, g3, g2, hpa, hvl, hvs⟩, hP, hC, inj⟩ := id hA
  have hs : x_jp 23 (x_swo w 55 (x_tp 0 [25, 36, 47])) = some 78 := by
    obtain ⟨w0, w1, w2⟩ := hw
    simp [x_swo, x_tp, w0, w1, w2, x_jp]
  refine xT_aload_n g_q43 g43_0 (rfl) ?_
  refine xT_iload_n g_q43 g43_1 (rfl) ?_
  refine xT_invokevirtual (r := []) (u := some (.inr (some ((P (q)))))) g_q43 g43_2 (j := 42) (so := 0) (by decide +kernel) g_q42 rfl (by rw [x_rcM haA ha]; rfl) (t42_s hq hA) ?_
  refine xT_astore g_q43 g43_5 (by decide) ?_
  refine xT_aload g_q43 g43_7 (lkY) ?_
  refine xT_ifnull1 g_q43 g43_9 (t := 19) (by decide) ?_
  refine xT_iload_n g_q43 g43_12 (lkN (by decide) (rfl)) ?_
  refine xT_invokestatic (r := []) (u := some (.inl (nI (1)))) g_q43 g43_13 (j := 44) (so := 2) (by decide +kernel) g_q44 (rfl) (t44Y (by omega)) ?_
  refine xT_ifCondY g_q43 g43_16 (t := 22) (by decide) (c1Y (a := 1) (b := 0) (by omega) (by omega) (by omega)) ?_
  refine xT_iload_n g_q43 g43_22 (lkN (by decide) (rfl)) ?_
  refine xT_tableswitch g_q43 g43_23 (t := 78) (by decide) (by decide) hs ?_
  refine xT_biV (y := -5) g_q43 g43_78 (by decide) ?_
  exact xT_ireturn g_q43 g43_80 (rfl)
theorem t43_0 {q f : Nat} {d v : Int32} (hq : q < n) (hf : f ≤ 5) (hA : kA H a n P C op lf rt nl sv S m) (hS : kS H (P q) f d v) : x_To x_tb x_tyl ot (dp + 5) 43 0 (x_en 0 [.inr (some (a)), .inl (nI (q)), .inl (nI (f)), .inl (nI (0))]) [] H 0 0 (some (.inl d)) H := by
  obtain ⟨⟨haA, hn12, gs, pa, vs, ha, g3, g2, hpa, hvl, hvs⟩, hP, hC, inj⟩ := id hA
  obtain ⟨k1, po, se, sg, dr, pr, ld, lp, k2, k3, k4, k5, k6, k7, k8, k9, k10, k11, k12, k13, k14, k15⟩ := hS
  refine xT_aload_n g_q43 g43_0 (rfl) ?_
  refine xT_iload_n g_q43 g43_1 (rfl) ?_
  refine xT_invokevirtual (r := []) (u := some (.inr (some ((P (q)))))) g_q43 g43_2 (j := 42) (so := 0) (by decide +kernel) g_q42 rfl (by rw [x_rcM haA ha]; rfl) (t42_s hq hA) ?_
  refine xT_astore g_q43 g43_5 (by decide) ?_
  refine xT_aload g_q43 g43_7 (lkY) ?_
  refine xT_ifnull1 g_q43 g43_9 (t := 19) (by decide) ?_
  refine xT_iload_n g_q43 g43_12 (lkN (by decide) (rfl)) ?_
  refine xT_invokestatic (r := []) (u := some (.inl (nI (1)))) g_q43 g43_13 (j := 44) (so := 2) (by decide +kernel) g_q44 (rfl) (t44Y (by omega)) ?_
  refine xT_ifCondY g_q43 g43_16 (t := 22) (by decide) (c1Y (a := 1) (b := 0) (by omega) (by omega) (by omega)) ?_
  refine xT_iload_n g_q43 g43_22 (lkN (by decide) (rfl)) ?_
  refine xT_tableswitch g_q43 g43_23 (t := 48) (by decide) (by decide) (by decide) ?_
  refine xT_aload g_q43 g43_48 (lkY) ?_
  refine xT_getfield g_q43 g43_50 k1 rfl k2 rfl k3 ?_
  refine xT_getfield g_q43 g43_53 k4 rfl k5 rfl k6 ?_
  refine xT_iload_n g_q43 g43_56 (lkN (by decide) (rfl)) ?_
  refine xT_iaload g_q43 g43_57 (by omega) k9 (ixN (n := 6) (by omega) k10) (ixG (by omega) k11) ?_
  exact xT_ireturn g_q43 g43_58 (rfl)
theorem t43_1 {q f : Nat} {d v : Int32} (hq : q < n) (hf : f ≤ 5) (hA : kA H a n P C op lf rt nl sv S m) (hS : kS H (P q) f d v) : x_To x_tb x_tyl ot (dp + 5) 43 0 (x_en 0 [.inr (some (a)), .inl (nI (q)), .inl (nI (f)), .inl (nI (1))]) [] H 0 0 (some (.inl v)) H := by
  obtain ⟨⟨haA, hn12, gs, pa, vs, ha, g3, g2, hpa, hvl, hvs⟩, hP, hC, inj⟩ := id hA
  obtain ⟨k1, po, se, sg, dr, pr, ld, lp, k2, k3, k4, k5, k6, k7, k8, k9, k10, k11, k12, k13, k14, k15⟩ := hS
  refine xT_aload_n g_q43 g43_0 (rfl) ?_
  refine xT_iload_n g_q43 g43_1 (rfl) ?_
  refine xT_invokevirtual (r := []) (u := some (.inr (some ((P (q)))))) g_q43 g43_2 (j := 42) (so := 0) (by decide +kernel) g_q42 rfl (by rw [x_rcM haA ha]; rfl) (t42_s hq hA) ?_
  refine xT_astore g_q43 g43_5 (by decide) ?_
  refine xT_aload g_q43 g43_7 (lkY) ?_
  refine xT_ifnull1 g_q43 g43_9 (t := 19) (by decide) ?_
  refine xT_iload_n g_q43 g43_12 (lkN (by decide) (rfl)) ?_
  refine xT_invokestatic (r := []) (u := some (.inl (nI (1)))) g_q43 g43_13 (j := 44) (so := 2) (by decide +kernel) g_q44 (rfl) (t44Y (by omega)) ?_
  refine xT_ifCondY g_q43 g43_16 (t := 22) (by decide) (c1Y (a := 1) (b := 0) (by omega) (by omega) (by omega)) ?_
  refine xT_iload_n g_q43 g43_22 (lkN (by decide) (rfl)) ?_
  refine xT_tableswitch g_q43 g43_23 (t := 59) (by decide) (by decide) (by decide) ?_
  refine xT_aload g_q43 g43_59 (lkY) ?_
  refine xT_getfield g_q43 g43_61 k1 rfl k2 rfl k3 ?_
  refine xT_getfield g_q43 g43_64 k4 rfl k5 rfl k7 ?_
  refine xT_iload_n g_q43 g43_67 (lkN (by decide) (rfl)) ?_
  refine xT_iaload g_q43 g43_68 (by omega) k13 (ixN (n := 6) (by omega) k14) (ixG (by omega) k15) ?_
  exact xT_ireturn g_q43 g43_69 (rfl)
theorem t43_2 (ho : cdOk n op lf rt nl) (hsv : svOk n sv) {q f : Nat} (hq : q < n) (hf : f ≤ 5) (hA : kA H a n P C op lf rt nl sv S m) : ∃ H2, x_To x_tb x_tyl ot (dp + 5) 43 0 (x_en 0 [.inr (some (a)), .inl (nI (q)), .inl (nI (f)), .inl (nI (2))]) [] H 0 0 (some (.inl (nI (yrN (op q) (lf q) (rt q) (nl q) ((fxN n op lf rt nl sv 73 (fun _ => 0)) q) f)))) H2 ∧ kp tgP H H2 := by
  obtain ⟨⟨haA, hn12, gs, pa, vs, ha, g3, g2, hpa, hvl, hvs⟩, hP, hC, inj⟩ := id hA
  obtain ⟨H2, y1, hk⟩ := t45 (ot := ot) (dp := dp) ho hsv hA hq (show f < 6 by omega)
  refine ⟨H2, ?_, hk⟩
  refine xT_aload_n g_q43 g43_0 (rfl) ?_
  refine xT_iload_n g_q43 g43_1 (rfl) ?_
  refine xT_invokevirtual (r := []) (u := some (.inr (some ((P (q)))))) g_q43 g43_2 (j := 42) (so := 0) (by decide +kernel) g_q42 rfl (by rw [x_rcM haA ha]; rfl) (t42_s hq hA) ?_
  refine xT_astore g_q43 g43_5 (by decide) ?_
  refine xT_aload g_q43 g43_7 (lkY) ?_
  refine xT_ifnull1 g_q43 g43_9 (t := 19) (by decide) ?_
  refine xT_iload_n g_q43 g43_12 (lkN (by decide) (rfl)) ?_
  refine xT_invokestatic (r := []) (u := some (.inl (nI (1)))) g_q43 g43_13 (j := 44) (so := 2) (by decide +kernel) g_q44 (rfl) (t44Y (by omega)) ?_
  refine xT_ifCondY g_q43 g43_16 (t := 22) (by decide) (c1Y (a := 1) (b := 0) (by omega) (by omega) (by omega)) ?_
  refine xT_iload_n g_q43 g43_22 (lkN (by decide) (rfl)) ?_
  refine xT_tableswitch g_q43 g43_23 (t := 70) (by decide) (by decide) (by decide) ?_
  refine xT_aload_n g_q43 g43_70 (lkN (by decide) (rfl)) ?_
  refine xT_aload g_q43 g43_71 (lkY) ?_
  refine xT_iload_n g_q43 g43_73 (lkN (by decide) (rfl)) ?_
  refine xT_invokevirtual (r := []) (u := some (.inl (nI (yrN (op q) (lf q) (rt q) (nl q) ((fxN n op lf rt nl sv 73 (fun _ => 0)) q) f)))) g_q43 g43_74 (j := 45) (so := 0) (by decide +kernel) g_q45 rfl (by rw [x_rcM haA ha]; rfl) (y1) ?_
  exact xT_ireturn g_q43 g43_77 (rfl)
end XH5_26
