/-! p35 by hand, 25. -/
noncomputable section XH3525
variable {ot : XO Int32} {dp : Nat} {H : List (XC Int32)} {p n m : Nat} {r : Nat → Nat} {pl mi la we ord hf : Nat → Nat}
theorem w4 : ∀ {w : List (XV Int32)} {a b c d : XV Int32}, w.length = 4 → (((w.set 0 a).set 1 b).set 2 c).set 3 d = [a, b, c, d]
  | [_, _, _, _], _, _, _, _, _ => rfl
  | [], _, _, _, _, h => by simp at h
  | [_], _, _, _, _, h => by simp at h
  | [_, _], _, _, _, _, h => by simp at h
  | [_, _, _], _, _, _, _, h => by simp at h
  | _ :: _ :: _ :: _ :: _ :: _, _, _, _, _, h => by simp at h
/-- cells that the reference's stops leave alone -/
def tgR : XC Int32 → Bool
  | .inl z => z.1 == 0 || z.1 == 7
  | .inr z => z.1 == 0 && (z.2.length == 8 || z.2.length == 256)
theorem tgR_w {l : List (XV Int32)} (h : l.length = 4) : tgR (.inr (0, l)) = false := by
  show (l.length == 8 || l.length == 256) = false
  rw [h]
  rfl
theorem t258 {b : Nat} (hS : isSt H b n pl mi la we) (hfl : ∀ fs, H[b]? = some (.inl (12, fs)) → fs.length = 69) (hn : n < 8) {P_ Mn T_ W_ : Nat} (hP9 : P_ ≤ 99) (hM : Mn ≤ 899) (hT1 : 1 ≤ T_) (hT : T_ ≤ 99) (hW : W_ ≤ 99) : ∃ H2, x_To x_tb x_tyl ot (dp + 1) 258 0 (x_en 0 [.inr (some (b)), .inl (nI (P_)), .inl (nI (Mn)), .inl (nI (T_)), .inl (nI (W_))]) [] H 0 0 (some (.inl (nI n))) H2 ∧ isSt H2 b (n + 1) (upF pl n P_) (upF mi n Mn) (upF la n T_) (upF we n W_) ∧ kp tgR H H2 := by
  obtain ⟨fs, sr, st, rr, ⟨hbA, hb0, h36, h8, h37, hst0, hsl⟩, hrr, hinj⟩ := id hS
  obtain ⟨hrn, hrA, w, wa0, wl0, -⟩ := hrr n (by omega)
  have hlen := hfl fs hb0
  have hb1 : (((H).set (rr n) (.inr (0, ((w).set 0 (.inl (nI P_)))))))[b]? = some (.inl (12, fs)) := gtag wa0 hb0 (fun e => by cases e)
  have hst1 : (((H).set (rr n) (.inr (0, ((w).set 0 (.inl (nI P_)))))))[st]? = some (.inr (5, sr)) := gtag wa0 hst0 (fun e => by cases e)
  have wa1 : (((H).set (rr n) (.inr (0, ((w).set 0 (.inl (nI P_)))))))[rr n]? = some (.inr (0, ((w).set 0 (.inl (nI P_))))) := gself wa0
  have wl1 : (((w).set 0 (.inl (nI P_)))).length = 4 := by rw [List.length_set]; exact wl0
  have hb2 : (((((H).set (rr n) (.inr (0, ((w).set 0 (.inl (nI P_))))))).set (rr n) (.inr (0, ((((w).set 0 (.inl (nI P_)))).set 1 (.inl (nI Mn)))))))[b]? = some (.inl (12, fs)) := gtag wa1 hb1 (fun e => by cases e)
  have hst2 : (((((H).set (rr n) (.inr (0, ((w).set 0 (.inl (nI P_))))))).set (rr n) (.inr (0, ((((w).set 0 (.inl (nI P_)))).set 1 (.inl (nI Mn)))))))[st]? = some (.inr (5, sr)) := gtag wa1 hst1 (fun e => by cases e)
  have wa2 : (((((H).set (rr n) (.inr (0, ((w).set 0 (.inl (nI P_))))))).set (rr n) (.inr (0, ((((w).set 0 (.inl (nI P_)))).set 1 (.inl (nI Mn)))))))[rr n]? = some (.inr (0, ((((w).set 0 (.inl (nI P_)))).set 1 (.inl (nI Mn))))) := gself wa1
  have wl2 : (((((w).set 0 (.inl (nI P_)))).set 1 (.inl (nI Mn)))).length = 4 := by rw [List.length_set]; exact wl1
  have hb3 : (((((((H).set (rr n) (.inr (0, ((w).set 0 (.inl (nI P_))))))).set (rr n) (.inr (0, ((((w).set 0 (.inl (nI P_)))).set 1 (.inl (nI Mn))))))).set (rr n) (.inr (0, ((((((w).set 0 (.inl (nI P_)))).set 1 (.inl (nI Mn)))).set 2 (.inl (nI T_)))))))[b]? = some (.inl (12, fs)) := gtag wa2 hb2 (fun e => by cases e)
  have hst3 : (((((((H).set (rr n) (.inr (0, ((w).set 0 (.inl (nI P_))))))).set (rr n) (.inr (0, ((((w).set 0 (.inl (nI P_)))).set 1 (.inl (nI Mn))))))).set (rr n) (.inr (0, ((((((w).set 0 (.inl (nI P_)))).set 1 (.inl (nI Mn)))).set 2 (.inl (nI T_)))))))[st]? = some (.inr (5, sr)) := gtag wa2 hst2 (fun e => by cases e)
  have wa3 : (((((((H).set (rr n) (.inr (0, ((w).set 0 (.inl (nI P_))))))).set (rr n) (.inr (0, ((((w).set 0 (.inl (nI P_)))).set 1 (.inl (nI Mn))))))).set (rr n) (.inr (0, ((((((w).set 0 (.inl (nI P_)))).set 1 (.inl (nI Mn)))).set 2 (.inl (nI T_)))))))[rr n]? = some (.inr (0, ((((((w).set 0 (.inl (nI P_)))).set 1 (.inl (nI Mn)))).set 2 (.inl (nI T_))))) := gself wa2
  have wl3 : (((((((w).set 0 (.inl (nI P_)))).set 1 (.inl (nI Mn)))).set 2 (.inl (nI T_)))).length = 4 := by rw [List.length_set]; exact wl2
  have hb4 : (((((((((H).set (rr n) (.inr (0, ((w).set 0 (.inl (nI P_))))))).set (rr n) (.inr (0, ((((w).set 0 (.inl (nI P_)))).set 1 (.inl (nI Mn))))))).set (rr n) (.inr (0, ((((((w).set 0 (.inl (nI P_)))).set 1 (.inl (nI Mn)))).set 2 (.inl (nI T_))))))).set (rr n) (.inr (0, ((((((((w).set 0 (.inl (nI P_)))).set 1 (.inl (nI Mn)))).set 2 (.inl (nI T_)))).set 3 (.inl (nI W_)))))))[b]? = some (.inl (12, fs)) := gtag wa3 hb3 (fun e => by cases e)
  have hst4 : (((((((((H).set (rr n) (.inr (0, ((w).set 0 (.inl (nI P_))))))).set (rr n) (.inr (0, ((((w).set 0 (.inl (nI P_)))).set 1 (.inl (nI Mn))))))).set (rr n) (.inr (0, ((((((w).set 0 (.inl (nI P_)))).set 1 (.inl (nI Mn)))).set 2 (.inl (nI T_))))))).set (rr n) (.inr (0, ((((((((w).set 0 (.inl (nI P_)))).set 1 (.inl (nI Mn)))).set 2 (.inl (nI T_)))).set 3 (.inl (nI W_)))))))[st]? = some (.inr (5, sr)) := gtag wa3 hst3 (fun e => by cases e)
  have wa4 : (((((((((H).set (rr n) (.inr (0, ((w).set 0 (.inl (nI P_))))))).set (rr n) (.inr (0, ((((w).set 0 (.inl (nI P_)))).set 1 (.inl (nI Mn))))))).set (rr n) (.inr (0, ((((((w).set 0 (.inl (nI P_)))).set 1 (.inl (nI Mn)))).set 2 (.inl (nI T_))))))).set (rr n) (.inr (0, ((((((((w).set 0 (.inl (nI P_)))).set 1 (.inl (nI Mn)))).set 2 (.inl (nI T_)))).set 3 (.inl (nI W_)))))))[rr n]? = some (.inr (0, ((((((((w).set 0 (.inl (nI P_)))).set 1 (.inl (nI Mn)))).set 2 (.inl (nI T_)))).set 3 (.inl (nI W_))))) := gself wa3
  have wl4 : (((((((((w).set 0 (.inl (nI P_)))).set 1 (.inl (nI Mn)))).set 2 (.inl (nI T_)))).set 3 (.inl (nI W_)))).length = 4 := by rw [List.length_set]; exact wl3
  have hput : (decide (12 = 12) && x_fit dC .int (.inl (nI (n + 1)) : XV Int32) && decide (36 < fs.length) && (!false || (mI xm258 && decide (mRc xm258 = 12)))) = true := by
    rw [hlen]
    rfl
  refine ⟨_, ?_, ⟨fs.set 36 (.inl (nI (n + 1))), sr, st, rr, ⟨hbA, gself hb4, List.getElem?_set_self (by omega), by omega, by rw [List.getElem?_set_ne (by decide)]; exact h37, gtag hb4 hst4 (fun e => by cases e), hsl⟩, fun x hx => ?_, hinj⟩, kp_set (kp_set (kp_set (kp_set (kp_set kp_rf wa0 (tgR_w wl0)) wa1 (tgR_w wl1)) wa2 (tgR_w wl2)) wa3 (tgR_w wl3)) hb4 rfl⟩
  rotate_left
  · obtain ⟨q1, q2, u, u1, u2, u3⟩ := hrr x hx
    refine ⟨q1, q2, ?_⟩
    by_cases e : x = n
    · subst e
      refine ⟨_, gtag hb4 wa4 (fun e => by cases e), wl4, fun _ => ?_⟩
      rw [w4 wl0, upF_eq, upF_eq, upF_eq, upF_eq]
    · have ne : rr n ≠ rr x := fun z => e (hinj n x (by omega) hx z).symm
      refine ⟨u, gtag hb4 (gne (gne (gne (gne u1 ne) ne) ne) ne) (fun e => by cases e), u2, fun hx2 => ?_⟩
      rw [upF_ne e, upF_ne e, upF_ne e, upF_ne e]
      exact u3 (by omega)
  refine xT_iload_n g_q258 g258_0 (rfl) ?_
  refine xT_icV (y := nI (0)) g_q258 g258_1 (by decide) ?_
  refine xT_biV (y := nI (99)) g_q258 g258_2 (by decide) ?_
  refine xT_invokestatic (r := []) (u := some (.inl (nI (1)))) g_q258 g258_4 (j := 181) (so := 2) (by decide +kernel) g_q181 (rfl) (t181Y (fun z => by have := (nI_ltI (by omega) (by omega)).mp z; omega) (fun z => by have := (nI_ltI (by omega) (by omega)).mp z; omega)) ?_
  refine xT_ifCondN g_q258 g258_7 (t := 42) (by decide) (c0N (a := 1) (b := 0) (by omega) (by omega) (by omega)) ?_
  refine xT_iload_n g_q258 g258_10 (rfl) ?_
  refine xT_icV (y := nI (0)) g_q258 g258_11 (by decide) ?_
  refine xT_siV (y := nI (899)) g_q258 g258_12 (by decide) ?_
  refine xT_invokestatic (r := []) (u := some (.inl (nI (1)))) g_q258 g258_15 (j := 181) (so := 2) (by decide +kernel) g_q181 (rfl) (t181Y (fun z => by have := (nI_ltI (by omega) (by omega)).mp z; omega) (fun z => by have := (nI_ltI (by omega) (by omega)).mp z; omega)) ?_
  refine xT_ifCondN g_q258 g258_18 (t := 42) (by decide) (c0N (a := 1) (b := 0) (by omega) (by omega) (by omega)) ?_
  refine xT_iload_n g_q258 g258_21 (rfl) ?_
  refine xT_icV (y := nI (1)) g_q258 g258_22 (by decide) ?_
  refine xT_biV (y := nI (99)) g_q258 g258_23 (by decide) ?_
  refine xT_invokestatic (r := []) (u := some (.inl (nI (1)))) g_q258 g258_25 (j := 181) (so := 2) (by decide +kernel) g_q181 (rfl) (t181Y (fun z => by have := (nI_ltI (by omega) (by omega)).mp z; omega) (fun z => by have := (nI_ltI (by omega) (by omega)).mp z; omega)) ?_
  refine xT_ifCondN g_q258 g258_28 (t := 42) (by decide) (c0N (a := 1) (b := 0) (by omega) (by omega) (by omega)) ?_
  refine xT_iload g_q258 g258_31 (rfl) ?_
  refine xT_icV (y := nI (0)) g_q258 g258_33 (by decide) ?_
  refine xT_biV (y := nI (99)) g_q258 g258_34 (by decide) ?_
  refine xT_invokestatic (r := []) (u := some (.inl (nI (1)))) g_q258 g258_36 (j := 181) (so := 2) (by decide +kernel) g_q181 (rfl) (t181Y (fun z => by have := (nI_ltI (by omega) (by omega)).mp z; omega) (fun z => by have := (nI_ltI (by omega) (by omega)).mp z; omega)) ?_
  refine xT_ifCondY g_q258 g258_39 (t := 45) (by decide) (c1Y (a := 1) (b := 0) (by omega) (by omega) (by omega)) ?_
  refine xT_aload_n g_q258 g258_45 (rfl) ?_
  refine xT_getfield g_q258 g258_46 hbA rfl hb0 rfl h36 ?_
  refine xT_biV (y := nI (8)) g_q258 g258_49 (by decide) ?_
  refine xT_if_icmpY g_q258 g258_51 (t := 57) (by decide) (c1Y (a := n) (b := 8) (by omega) (by omega) (by omega)) ?_
  refine xT_aload_n g_q258 g258_57 (rfl) ?_
  refine xT_getfield g_q258 g258_58 hbA rfl hb0 rfl h37 ?_
  refine xT_aload_n g_q258 g258_61 (rfl) ?_
  refine xT_getfield g_q258 g258_62 hbA rfl hb0 rfl h36 ?_
  refine xT_aaload g_q258 g258_65 (by decide +kernel) hst0 (ixN (n := 8) (by omega) hsl) (ixG (by omega) hrn) ?_
  refine xT_icV (y := nI (0)) g_q258 g258_66 (by decide) ?_
  refine xT_iload_n g_q258 g258_67 (rfl) ?_
  refine xT_iaN g_q258 g258_68 wa0 wl0 (by omega) ?_
  refine xT_aload_n g_q258 g258_69 (rfl) ?_
  refine xT_getfield g_q258 g258_70 hbA rfl hb1 rfl h37 ?_
  refine xT_aload_n g_q258 g258_73 (rfl) ?_
  refine xT_getfield g_q258 g258_74 hbA rfl hb1 rfl h36 ?_
  refine xT_aaload g_q258 g258_77 (by decide +kernel) hst1 (ixN (n := 8) (by omega) hsl) (ixG (by omega) hrn) ?_
  refine xT_icV (y := nI (1)) g_q258 g258_78 (by decide) ?_
  refine xT_iload_n g_q258 g258_79 (rfl) ?_
  refine xT_iaN g_q258 g258_80 wa1 wl1 (by omega) ?_
  refine xT_aload_n g_q258 g258_81 (rfl) ?_
  refine xT_getfield g_q258 g258_82 hbA rfl hb2 rfl h37 ?_
  refine xT_aload_n g_q258 g258_85 (rfl) ?_
  refine xT_getfield g_q258 g258_86 hbA rfl hb2 rfl h36 ?_
  refine xT_aaload g_q258 g258_89 (by decide +kernel) hst2 (ixN (n := 8) (by omega) hsl) (ixG (by omega) hrn) ?_
  refine xT_icV (y := nI (2)) g_q258 g258_90 (by decide) ?_
  refine xT_iload_n g_q258 g258_91 (rfl) ?_
  refine xT_iaN g_q258 g258_92 wa2 wl2 (by omega) ?_
  refine xT_aload_n g_q258 g258_93 (rfl) ?_
  refine xT_getfield g_q258 g258_94 hbA rfl hb3 rfl h37 ?_
  refine xT_aload_n g_q258 g258_97 (rfl) ?_
  refine xT_getfield g_q258 g258_98 hbA rfl hb3 rfl h36 ?_
  refine xT_aaload g_q258 g258_101 (by decide +kernel) hst3 (ixN (n := 8) (by omega) hsl) (ixG (by omega) hrn) ?_
  refine xT_icV (y := nI (3)) g_q258 g258_102 (by decide) ?_
  refine xT_iload g_q258 g258_103 (rfl) ?_
  refine xT_iaN g_q258 g258_105 wa3 wl3 (by omega) ?_
  refine xT_aload_n g_q258 g258_106 (rfl) ?_
  refine xT_dup g_q258 g258_107 ?_
  refine xT_getfield g_q258 g258_108 hbA rfl hb4 rfl h36 ?_
  refine xT_dup_x1 g_q258 g258_111 ?_
  refine xT_icV (y := nI (1)) g_q258 g258_112 (by decide) ?_
  refine xT_iaddV (y := nI (n + 1)) g_q258 g258_113 (bAddN _ _) ?_
  refine xT_putfield g_q258 g258_114 (ci := 12) (j := 36) (ty := (.int, false)) rfl hb4 rfl hput ?_
  exact xT_ireturn g_q258 g258_117 (rfl)
theorem t258_full {b : Nat} (hS : isSt H b n pl mi la we) (hn : ¬ n < 8) {P_ Mn T_ W_ : Nat} (hP9 : P_ ≤ 99) (hM : Mn ≤ 899) (hT1 : 1 ≤ T_) (hT : T_ ≤ 99) (hW : W_ ≤ 99) : x_To x_tb x_tyl ot (dp + 1) 258 0 (x_en 0 [.inr (some (b)), .inl (nI (P_)), .inl (nI (Mn)), .inl (nI (T_)), .inl (nI (W_))]) [] H 0 0 (some (.inl (-4))) H := by
  obtain ⟨fs, sr, st, rr, ⟨hbA, hb, h36, h8, h37, hst, hsl⟩, -, -⟩ := id hS
  obtain rfl : n = 8 := by omega
  refine xT_iload_n g_q258 g258_0 (rfl) ?_
  refine xT_icV (y := nI (0)) g_q258 g258_1 (by decide) ?_
  refine xT_biV (y := nI (99)) g_q258 g258_2 (by decide) ?_
  refine xT_invokestatic (r := []) (u := some (.inl (nI (1)))) g_q258 g258_4 (j := 181) (so := 2) (by decide +kernel) g_q181 (rfl) (t181Y (fun z => by have := (nI_ltI (by omega) (by omega)).mp z; omega) (fun z => by have := (nI_ltI (by omega) (by omega)).mp z; omega)) ?_
  refine xT_ifCondN g_q258 g258_7 (t := 42) (by decide) (c0N (a := 1) (b := 0) (by omega) (by omega) (by omega)) ?_
  refine xT_iload_n g_q258 g258_10 (rfl) ?_
  refine xT_icV (y := nI (0)) g_q258 g258_11 (by decide) ?_
  refine xT_siV (y := nI (899)) g_q258 g258_12 (by decide) ?_
  refine xT_invokestatic (r := []) (u := some (.inl (nI (1)))) g_q258 g258_15 (j := 181) (so := 2) (by decide +kernel) g_q181 (rfl) (t181Y (fun z => by have := (nI_ltI (by omega) (by omega)).mp z; omega) (fun z => by have := (nI_ltI (by omega) (by omega)).mp z; omega)) ?_
  refine xT_ifCondN g_q258 g258_18 (t := 42) (by decide) (c0N (a := 1) (b := 0) (by omega) (by omega) (by omega)) ?_
  refine xT_iload_n g_q258 g258_21 (rfl) ?_
  refine xT_icV (y := nI (1)) g_q258 g258_22 (by decide) ?_
  refine xT_biV (y := nI (99)) g_q258 g258_23 (by decide) ?_
  refine xT_invokestatic (r := []) (u := some (.inl (nI (1)))) g_q258 g258_25 (j := 181) (so := 2) (by decide +kernel) g_q181 (rfl) (t181Y (fun z => by have := (nI_ltI (by omega) (by omega)).mp z; omega) (fun z => by have := (nI_ltI (by omega) (by omega)).mp z; omega)) ?_
  refine xT_ifCondN g_q258 g258_28 (t := 42) (by decide) (c0N (a := 1) (b := 0) (by omega) (by omega) (by omega)) ?_
  refine xT_iload g_q258 g258_31 (rfl) ?_
  refine xT_icV (y := nI (0)) g_q258 g258_33 (by decide) ?_
  refine xT_biV (y := nI (99)) g_q258 g258_34 (by decide) ?_
  refine xT_invokestatic (r := []) (u := some (.inl (nI (1)))) g_q258 g258_36 (j := 181) (so := 2) (by decide +kernel) g_q181 (rfl) (t181Y (fun z => by have := (nI_ltI (by omega) (by omega)).mp z; omega) (fun z => by have := (nI_ltI (by omega) (by omega)).mp z; omega)) ?_
  refine xT_ifCondY g_q258 g258_39 (t := 45) (by decide) (c1Y (a := 1) (b := 0) (by omega) (by omega) (by omega)) ?_
  refine xT_aload_n g_q258 g258_45 (rfl) ?_
  refine xT_getfield g_q258 g258_46 hbA rfl hb rfl h36 ?_
  refine xT_biV (y := nI (8)) g_q258 g258_49 (by decide) ?_
  refine xT_if_icmpN g_q258 g258_51 (t := 57) (by decide) (c1N (a := 8) (b := 8) rfl) ?_
  refine xT_biV (y := -4) g_q258 g258_54 (by decide) ?_
  exact xT_ireturn g_q258 g258_56 (rfl)
end XH3525
