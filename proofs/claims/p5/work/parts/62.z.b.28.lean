/-! p5 by hand, 27. -/
noncomputable section XH5_27
variable {ot : XO Int32} {dp : Nat} {H : List (XC Int32)} {a n m : Nat} {P C nl sv S : Nat → Nat} {op lf rt : Nat → Nat → Nat}
theorem t225_p {b : Nat} {D U : Nat → Nat} {x y w : Int32} (hx : x < 0 ∨ nI n ≤ x) (hB : kB H b n D U op lf rt nl sv S (fun _ _ => False)) : x_To x_tb x_tyl ot (dp + 4) 225 0 (x_en 0 [.inr (some (b)), .inl (x), .inl (y), .inl (w)]) [] H 0 0 (some (.inl (-5))) H := by
  obtain ⟨⟨hbA, hn12, gs, ln, cd, ip, su, vc, vi, vs, hb, g0, g1, g2, g6, g63, ⟨ln0, vl, ln1, ln2, ln3⟩, ⟨cd1, cd2, cd3⟩, ⟨ip0, ip1, ip2, ip3⟩, su1, su2, su3⟩, hD, hU, inj⟩ := id hB
  refine xT_aload_n g_q225 g225_0 (rfl) ?_
  refine xT_iload_n g_q225 g225_1 (rfl) ?_
  refine xT_invokevirtual (r := []) (u := some (.inl (nI (0)))) g_q225 g225_2 (j := 201) (so := 0) (by decide +kernel) g_q201 rfl (by rw [x_rcM hbA hb]; rfl) (t201N hbA hb g0 (b_in12 hn12 hx)) ?_
  refine xT_ifCondY g_q225 g225_5 (t := 17) (by decide) (c0Y (b := 0) rfl) ?_
  refine xT_biV (y := -5) g_q225 g225_17 (by decide) ?_
  exact xT_ireturn g_q225 g225_19 (rfl)
theorem t225_f {b : Nat} {D U : Nat → Nat} {q : Nat} {y w : Int32} (hq : q < n) (hy : y < nI 0 ∨ nI 5 < y) (hB : kB H b n D U op lf rt nl sv S (fun _ _ => False)) : x_To x_tb x_tyl ot (dp + 4) 225 0 (x_en 0 [.inr (some (b)), .inl (nI (q)), .inl (y), .inl (w)]) [] H 0 0 (some (.inl (-5))) H := by
  obtain ⟨⟨hbA, hn12, gs, ln, cd, ip, su, vc, vi, vs, hb, g0, g1, g2, g6, g63, ⟨ln0, vl, ln1, ln2, ln3⟩, ⟨cd1, cd2, cd3⟩, ⟨ip0, ip1, ip2, ip3⟩, su1, su2, su3⟩, hD, hU, inj⟩ := id hB
  refine xT_aload_n g_q225 g225_0 (rfl) ?_
  refine xT_iload_n g_q225 g225_1 (rfl) ?_
  refine xT_invokevirtual (r := []) (u := some (.inl (nI (1)))) g_q225 g225_2 (j := 201) (so := 0) (by decide +kernel) g_q201 rfl (by rw [x_rcM hbA hb]; rfl) (t201Y hbA hb g0 hn12 hq) ?_
  refine xT_ifCondN g_q225 g225_5 (t := 17) (by decide) (c0N (a := 1) (b := 0) (by omega) (by omega) (by omega)) ?_
  refine xT_iload_n g_q225 g225_8 (rfl) ?_
  refine xT_icV (y := nI (0)) g_q225 g225_9 (by decide) ?_
  refine xT_icV (y := nI (5)) g_q225 g225_10 (by decide) ?_
  refine xT_invokestatic (r := []) (u := some (.inl (nI (0)))) g_q225 g225_11 (j := 181) (so := 2) (by decide +kernel) g_q181 (rfl) (t181N hy) ?_
  refine xT_ifCondN g_q225 g225_14 (t := 20) (by decide) (c1N (b := 0) rfl) ?_
  refine xT_biV (y := -5) g_q225 g225_17 (by decide) ?_
  exact xT_ireturn g_q225 g225_19 (rfl)
theorem t225_w {b : Nat} {D U : Nat → Nat} {q f : Nat} {w : Int32} (hq : q < n) (hf : f ≤ 5) (hw : ¬ w = 0 ∧ ¬ w = 1 ∧ ¬ w = 2) (hB : kB H b n D U op lf rt nl sv S (fun _ _ => False)) : x_To x_tb x_tyl ot (dp + 4) 225 0 (x_en 0 [.inr (some (b)), .inl (nI (q)), .inl (nI (f)), .inl (w)]) [] H 0 0 (some (.inl (-5))) H := by
  obtain ⟨⟨hbA, hn12, gs, ln, cd, ip, su, vc, vi, vs, hb, g0, g1, g2, g6, g63, ⟨ln0, vl, ln1, ln2, ln3⟩, ⟨cd1, cd2, cd3⟩, ⟨ip0, ip1, ip2, ip3⟩, su1, su2, su3⟩, hD, hU, inj⟩ := id hB
  have hs : x_jp 21 (x_swo w 52 (x_tp 0 [27, 36, 45])) = some 73 := by
    obtain ⟨w0, w1, w2⟩ := hw
    simp [x_swo, x_tp, w0, w1, w2, x_jp]
  refine xT_aload_n g_q225 g225_0 (rfl) ?_
  refine xT_iload_n g_q225 g225_1 (rfl) ?_
  refine xT_invokevirtual (r := []) (u := some (.inl (nI (1)))) g_q225 g225_2 (j := 201) (so := 0) (by decide +kernel) g_q201 rfl (by rw [x_rcM hbA hb]; rfl) (t201Y hbA hb g0 hn12 hq) ?_
  refine xT_ifCondN g_q225 g225_5 (t := 17) (by decide) (c0N (a := 1) (b := 0) (by omega) (by omega) (by omega)) ?_
  refine xT_iload_n g_q225 g225_8 (rfl) ?_
  refine xT_icV (y := nI (0)) g_q225 g225_9 (by decide) ?_
  refine xT_icV (y := nI (5)) g_q225 g225_10 (by decide) ?_
  refine xT_invokestatic (r := []) (u := some (.inl (nI (1)))) g_q225 g225_11 (j := 181) (so := 2) (by decide +kernel) g_q181 (rfl) (t181Y (fun z => by have := (nI_ltI (by omega) (by omega)).mp z; omega) (fun z => by have := (nI_ltI (by omega) (by omega)).mp z; omega)) ?_
  refine xT_ifCondY g_q225 g225_14 (t := 20) (by decide) (c1Y (a := 1) (b := 0) (by omega) (by omega) (by omega)) ?_
  refine xT_iload_n g_q225 g225_20 (rfl) ?_
  refine xT_tableswitch g_q225 g225_21 (t := 73) (by decide) (by decide) hs ?_
  refine xT_biV (y := -5) g_q225 g225_73 (by decide) ?_
  exact xT_ireturn g_q225 g225_75 (rfl)
theorem t225_0 {b : Nat} {D U : Nat → Nat} {q f : Nat} {d v : Int32} (hq : q < n) (hf : f ≤ 5) (hB : kB H b n D U op lf rt nl sv S (fun _ _ => False)) (hT : kT H b q f d v) : x_To x_tb x_tyl ot (dp + 4) 225 0 (x_en 0 [.inr (some (b)), .inl (nI (q)), .inl (nI (f)), .inl (nI (0))]) [] H 0 0 (some (.inl d)) H := by
  obtain ⟨⟨hbA, hn12, gs, ln, cd, ip, su, vc, vi, vs, hb, g0, g1, g2, g6, g63, ⟨ln0, vl, ln1, ln2, ln3⟩, ⟨cd1, cd2, cd3⟩, ⟨ip0, ip1, ip2, ip3⟩, su1, su2, su3⟩, hD, hU, inj⟩ := id hB
  obtain ⟨-, gs9, dg, pv, vd, vp, rd, rp, wd, wp, j1, j2, j3, j4, j5, j6, j7, j8, j9, j10, j11, j12, j13, j14, j15, j16, j17⟩ := hT
  refine xT_aload_n g_q225 g225_0 (rfl) ?_
  refine xT_iload_n g_q225 g225_1 (rfl) ?_
  refine xT_invokevirtual (r := []) (u := some (.inl (nI (1)))) g_q225 g225_2 (j := 201) (so := 0) (by decide +kernel) g_q201 rfl (by rw [x_rcM hbA hb]; rfl) (t201Y hbA hb g0 hn12 hq) ?_
  refine xT_ifCondN g_q225 g225_5 (t := 17) (by decide) (c0N (a := 1) (b := 0) (by omega) (by omega) (by omega)) ?_
  refine xT_iload_n g_q225 g225_8 (rfl) ?_
  refine xT_icV (y := nI (0)) g_q225 g225_9 (by decide) ?_
  refine xT_icV (y := nI (5)) g_q225 g225_10 (by decide) ?_
  refine xT_invokestatic (r := []) (u := some (.inl (nI (1)))) g_q225 g225_11 (j := 181) (so := 2) (by decide +kernel) g_q181 (rfl) (t181Y (fun z => by have := (nI_ltI (by omega) (by omega)).mp z; omega) (fun z => by have := (nI_ltI (by omega) (by omega)).mp z; omega)) ?_
  refine xT_ifCondY g_q225 g225_14 (t := 20) (by decide) (c1Y (a := 1) (b := 0) (by omega) (by omega) (by omega)) ?_
  refine xT_iload_n g_q225 g225_20 (rfl) ?_
  refine xT_tableswitch g_q225 g225_21 (t := 48) (by decide) (by decide) (by decide) ?_
  refine xT_aload_n g_q225 g225_48 (rfl) ?_
  refine xT_getfield g_q225 g225_49 hbA rfl j1 rfl j2 ?_
  refine xT_iload_n g_q225 g225_52 (rfl) ?_
  refine xT_aaload g_q225 g225_53 (by decide +kernel) j4 (ixN (n := 12) (by omega) j5) (ixG (by omega) j6) ?_
  refine xT_iload_n g_q225 g225_54 (rfl) ?_
  refine xT_iaload g_q225 g225_55 (by omega) j11 (ixN (n := 6) (by omega) j12) (ixG (by omega) j13) ?_
  exact xT_ireturn g_q225 g225_56 (rfl)
theorem t225_1 {b : Nat} {D U : Nat → Nat} {q f : Nat} {d v : Int32} (hq : q < n) (hf : f ≤ 5) (hB : kB H b n D U op lf rt nl sv S (fun _ _ => False)) (hT : kT H b q f d v) : x_To x_tb x_tyl ot (dp + 4) 225 0 (x_en 0 [.inr (some (b)), .inl (nI (q)), .inl (nI (f)), .inl (nI (1))]) [] H 0 0 (some (.inl v)) H := by
  obtain ⟨⟨hbA, hn12, gs, ln, cd, ip, su, vc, vi, vs, hb, g0, g1, g2, g6, g63, ⟨ln0, vl, ln1, ln2, ln3⟩, ⟨cd1, cd2, cd3⟩, ⟨ip0, ip1, ip2, ip3⟩, su1, su2, su3⟩, hD, hU, inj⟩ := id hB
  obtain ⟨-, gs9, dg, pv, vd, vp, rd, rp, wd, wp, j1, j2, j3, j4, j5, j6, j7, j8, j9, j10, j11, j12, j13, j14, j15, j16, j17⟩ := hT
  refine xT_aload_n g_q225 g225_0 (rfl) ?_
  refine xT_iload_n g_q225 g225_1 (rfl) ?_
  refine xT_invokevirtual (r := []) (u := some (.inl (nI (1)))) g_q225 g225_2 (j := 201) (so := 0) (by decide +kernel) g_q201 rfl (by rw [x_rcM hbA hb]; rfl) (t201Y hbA hb g0 hn12 hq) ?_
  refine xT_ifCondN g_q225 g225_5 (t := 17) (by decide) (c0N (a := 1) (b := 0) (by omega) (by omega) (by omega)) ?_
  refine xT_iload_n g_q225 g225_8 (rfl) ?_
  refine xT_icV (y := nI (0)) g_q225 g225_9 (by decide) ?_
  refine xT_icV (y := nI (5)) g_q225 g225_10 (by decide) ?_
  refine xT_invokestatic (r := []) (u := some (.inl (nI (1)))) g_q225 g225_11 (j := 181) (so := 2) (by decide +kernel) g_q181 (rfl) (t181Y (fun z => by have := (nI_ltI (by omega) (by omega)).mp z; omega) (fun z => by have := (nI_ltI (by omega) (by omega)).mp z; omega)) ?_
  refine xT_ifCondY g_q225 g225_14 (t := 20) (by decide) (c1Y (a := 1) (b := 0) (by omega) (by omega) (by omega)) ?_
  refine xT_iload_n g_q225 g225_20 (rfl) ?_
  refine xT_tableswitch g_q225 g225_21 (t := 57) (by decide) (by decide) (by decide) ?_
  refine xT_aload_n g_q225 g225_57 (rfl) ?_
  refine xT_getfield g_q225 g225_58 hbA rfl j1 rfl j3 ?_
  refine xT_iload_n g_q225 g225_61 (rfl) ?_
  refine xT_aaload g_q225 g225_62 (by decide +kernel) j7 (ixN (n := 12) (by omega) j8) (ixG (by omega) j9) ?_
  refine xT_iload_n g_q225 g225_63 (rfl) ?_
  refine xT_iaload g_q225 g225_64 (by omega) j15 (ixN (n := 6) (by omega) j16) (ixG (by omega) j17) ?_
  exact xT_ireturn g_q225 g225_65 (rfl)
theorem t225_2 {b : Nat} {D U : Nat → Nat} (ho : cdOk n op lf rt nl) (hsv : svOk n sv) {q f : Nat} (hq : q < n) (hf : f ≤ 5) (hB : kB H b n D U op lf rt nl sv S (fun _ _ => False)) : ∃ H2, x_To x_tb x_tyl ot (dp + 4) 225 0 (x_en 0 [.inr (some (b)), .inl (nI (q)), .inl (nI (f)), .inl (nI (2))]) [] H 0 0 (some (.inl (nI (yrN (op q) (lf q) (rt q) (nl q) ((fxN n op lf rt nl sv 73 (fun _ => 0)) q) f)))) H2 := by
  obtain ⟨⟨hbA, hn12, gs, ln, cd, ip, su, vc, vi, vs, hb, g0, g1, g2, g6, g63, ⟨ln0, vl, ln1, ln2, ln3⟩, ⟨cd1, cd2, cd3⟩, ⟨ip0, ip1, ip2, ip3⟩, su1, su2, su3⟩, hD, hU, inj⟩ := id hB
  obtain ⟨H2, y2⟩ := t226 (ot := ot) (dp := dp) ho hsv hB hq (show f < 6 by omega)
  refine ⟨H2, ?_⟩
  refine xT_aload_n g_q225 g225_0 (rfl) ?_
  refine xT_iload_n g_q225 g225_1 (rfl) ?_
  refine xT_invokevirtual (r := []) (u := some (.inl (nI (1)))) g_q225 g225_2 (j := 201) (so := 0) (by decide +kernel) g_q201 rfl (by rw [x_rcM hbA hb]; rfl) (t201Y hbA hb g0 hn12 hq) ?_
  refine xT_ifCondN g_q225 g225_5 (t := 17) (by decide) (c0N (a := 1) (b := 0) (by omega) (by omega) (by omega)) ?_
  refine xT_iload_n g_q225 g225_8 (rfl) ?_
  refine xT_icV (y := nI (0)) g_q225 g225_9 (by decide) ?_
  refine xT_icV (y := nI (5)) g_q225 g225_10 (by decide) ?_
  refine xT_invokestatic (r := []) (u := some (.inl (nI (1)))) g_q225 g225_11 (j := 181) (so := 2) (by decide +kernel) g_q181 (rfl) (t181Y (fun z => by have := (nI_ltI (by omega) (by omega)).mp z; omega) (fun z => by have := (nI_ltI (by omega) (by omega)).mp z; omega)) ?_
  refine xT_ifCondY g_q225 g225_14 (t := 20) (by decide) (c1Y (a := 1) (b := 0) (by omega) (by omega) (by omega)) ?_
  refine xT_iload_n g_q225 g225_20 (rfl) ?_
  refine xT_tableswitch g_q225 g225_21 (t := 66) (by decide) (by decide) (by decide) ?_
  refine xT_aload_n g_q225 g225_66 (rfl) ?_
  refine xT_iload_n g_q225 g225_67 (rfl) ?_
  refine xT_iload_n g_q225 g225_68 (rfl) ?_
  refine xT_invokevirtual (r := []) (u := some (.inl (nI (yrN (op q) (lf q) (rt q) (nl q) ((fxN n op lf rt nl sv 73 (fun _ => 0)) q) f)))) g_q225 g225_69 (j := 226) (so := 0) (by decide +kernel) g_q226 rfl (by rw [x_rcM hbA hb]; rfl) (y2) ?_
  exact xT_ireturn g_q225 g225_72 (rfl)
end XH5_27
