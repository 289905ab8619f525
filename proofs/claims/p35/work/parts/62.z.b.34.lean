/-! p35 by hand, 33. -/
noncomputable section XH3533
variable {ot : XO Int32} {dp : Nat} {H : List (XC Int32)} {p n m : Nat} {r : Nat → Nat} {pl mi la we ord hf : Nat → Nat}
theorem t259 {b : Nat} {R : Nat → Nat} (hS0 : isSt H b n pl mi la we) (hC0 : isCn H b R (fun _ _ => False) (canN (fun s => mtD ord pl mi la s n 0 0 0))) (hB : stB pl mi la we) (hO : ordOk n ord mi) (hh : hfOk (fun s => mtD ord pl mi la s n 0 0 0) hf (2 ^ n)) {g w : Nat} (hg1 : 1 ≤ g) (hg : g ≤ 3) (hw4 : w ≤ 4) (hw : w < g + 2) : ∃ H2, x_To x_tb x_tyl ot (dp + 2) 259 0 (x_en 0 [.inr (some (b)), .inl (nI (g)), .inl (nI (w))]) [] H 0 0 (some (.inl (nI (poN hf we n g w)))) H2 := by
  obtain ⟨fs, sr, st, rr, ⟨hbA, hb, -⟩, -⟩ := id hS0
  obtain ⟨G, x, hS, hC⟩ := t260 (dp := dp) (ot := ot) hS0 hC0 hB hO (hn := g) (by omega)
  obtain ⟨-, -, -, -, ⟨-, -, -, h8, -⟩, -⟩ := id hS
  obtain ⟨s1, s2, s3⟩ := b_shl n (by omega)
  have hme := bsN_lt (ok := fun j => decide (hf j ≤ g)) (wt := fun j => wtD we j n) (2 ^ n) (by omega)
  have hmk : hf (bsN (fun j => decide (hf j ≤ g)) (fun j => wtD we j n) (2 ^ n)) ≤ g := of_decide_eq_true (bsN_ok (ok := fun j => decide (hf j ≤ g)) (wt := fun j => wtD we j n) (decide_eq_true (by rw [hh.1]; omega)) (2 ^ n))
  have w0 : wtD we (bsN (fun j => decide (hf j ≤ g)) (fun j => wtD we j n) 0) n = 0 := wtD_0 n
  refine ⟨G, ?_⟩
  refine xT_iload_n g_q259 g259_0 (rfl) ?_
  refine xT_icV (y := nI (0)) g_q259 g259_1 (by decide) ?_
  refine xT_icV (y := nI (4)) g_q259 g259_2 (by decide) ?_
  refine xT_invokestatic (r := []) (u := some (.inl (nI (1)))) g_q259 g259_3 (j := 181) (so := 2) (by decide +kernel) g_q181 (rfl) (t181Y (fun z => by have := (nI_ltI (by omega) (by omega)).mp z; omega) (fun z => by have := (nI_ltI (by omega) (by omega)).mp z; omega)) ?_
  refine xT_ifCondY g_q259 g259_6 (t := 11) (by decide) (c1Y (a := 1) (b := 0) (by omega) (by omega) (by omega)) ?_
  refine xT_iload_n g_q259 g259_11 (rfl) ?_
  refine xT_icV (y := nI (1)) g_q259 g259_12 (by decide) ?_
  refine xT_icV (y := nI (3)) g_q259 g259_13 (by decide) ?_
  refine xT_invokestatic (r := []) (u := some (.inl (nI (1)))) g_q259 g259_14 (j := 181) (so := 2) (by decide +kernel) g_q181 (rfl) (t181Y (fun z => by have := (nI_ltI (by omega) (by omega)).mp z; omega) (fun z => by have := (nI_ltI (by omega) (by omega)).mp z; omega)) ?_
  refine xT_ifCondY g_q259 g259_17 (t := 23) (by decide) (c1Y (a := 1) (b := 0) (by omega) (by omega) (by omega)) ?_
  refine xT_iload_n g_q259 g259_23 (rfl) ?_
  refine xT_icV (y := nI (1)) g_q259 g259_24 (by decide) ?_
  refine xT_iload_n g_q259 g259_25 (rfl) ?_
  refine xT_iaddV (y := nI (1 + g)) g_q259 g259_26 (bAddN _ _) ?_
  refine xT_if_icmpY g_q259 g259_27 (t := 32) (by decide) (c5Y (a := w) (b := 1 + g) (by omega) (by omega) (by omega)) ?_
  refine xT_aload_n g_q259 g259_32 (rfl) ?_
  refine xT_iload_n g_q259 g259_33 (rfl) ?_
  refine xT_invokevirtual (r := []) (u := none) g_q259 g259_34 (j := 260) (so := 0) (by decide +kernel) g_q260 rfl (by rw [x_rcM hbA hb]; rfl) (x) ?_
  refine xT_icV (y := nI (0)) g_q259 g259_37 (by decide) ?_
  refine xT_istore_n g_q259 g259_38 (by decide) ?_
  refine xT_icV (y := nI (0)) g_q259 g259_39 (by decide) ?_
  refine xT_istore g_q259 g259_40 (by decide) ?_
  refine xT_icV (y := nI (0)) g_q259 g259_42 (by decide) ?_
  refine xT_istore g_q259 g259_43 (by decide) ?_
  refine t259_b (w := nI w) hS hC hB hh hg (fun L m0 m1 m2 m3 m4 => ?_) (2 ^ n) 0 _ (by omega) (lkN (by decide) (lkN (by decide) (lkN (by decide) (rfl)))) (lkN (by decide) (lkN (by decide) (lkN (by decide) (rfl)))) (lkN (by decide) (lkN (by decide) (lkN (by decide) (rfl)))) (lkN (by decide) (lkN (by decide) (lkY))) (by rw [w0]; exact lkN (by decide) (lkY)) (lkY)
  · rcases w with _ | _ | z
    · have m2 : x_lk L 2 = some (.inl (nI 0)) := m2
      refine xT_iload_n g_q259 g259_138 (m2) ?_
      refine xT_icV (y := nI (2)) g_q259 g259_139 (by decide) ?_
      refine xT_if_icmpN g_q259 g259_140 (t := 154) (by decide) (c3N (a := 0) (b := 2) (by omega) (by omega) (by omega)) ?_
      refine xT_iload_n g_q259 g259_143 (m2) ?_
      refine xT_ifCondN g_q259 g259_144 (t := 152) (by decide) (c1N (a := 0) (b := 0) rfl) ?_
      refine xT_iload g_q259 g259_147 (m4) ?_
      refine xT_goto g_q259 g259_149 (t := 153) (by decide) ?_
      exact xT_ireturn g_q259 g259_153 (rfl)
    · have m2 : x_lk L 2 = some (.inl (nI 1)) := m2
      refine xT_iload_n g_q259 g259_138 (m2) ?_
      refine xT_icV (y := nI (2)) g_q259 g259_139 (by decide) ?_
      refine xT_if_icmpN g_q259 g259_140 (t := 154) (by decide) (c3N (a := 1) (b := 2) (by omega) (by omega) (by omega)) ?_
      refine xT_iload_n g_q259 g259_143 (m2) ?_
      refine xT_ifCondY g_q259 g259_144 (t := 152) (by decide) (c1Y (a := 1) (b := 0) (by omega) (by omega) (by omega)) ?_
      refine xT_iload_n g_q259 g259_152 (m3) ?_
      exact xT_ireturn g_q259 g259_153 (rfl)
    · have m2 : x_lk L 2 = some (.inl (nI (z + 2))) := m2
      refine xT_iload_n g_q259 g259_138 (m2) ?_
      refine xT_icV (y := nI (2)) g_q259 g259_139 (by decide) ?_
      refine xT_if_icmpY g_q259 g259_140 (t := 154) (by decide) (c3Y (a := z + 2) (b := 2) (by omega) (by omega) (by omega)) ?_
      refine xT_iload_n g_q259 g259_154 (m3) ?_
      refine xT_istore g_q259 g259_155 (by decide) ?_
      refine xT_icV (y := nI (0)) g_q259 g259_157 (by decide) ?_
      refine xT_istore g_q259 g259_158 (by decide) ?_
      exact t259_o hS hC hh hg (z := z) (by omega) hme hmk z 0 _ _ (by omega) rfl (lkN (by decide) (lkN (by decide) (m0))) (lkN (by decide) (lkN (by decide) (m1))) (lkN (by decide) (lkN (by decide) (m2))) (lkN (by decide) (lkY)) (lkY)
end XH3533
