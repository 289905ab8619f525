/-! p5 by hand, 13. -/
noncomputable section XH5_13
variable {ot : XO Int32} {dp : Nat} {H : List (XC Int32)} {a n m : Nat} {P C nl sv S : Nat → Nat} {op lf rt : Nat → Nat → Nat}
/-- 1 if a field is sure to hold a year, 2 if it may -/
def yrN (op lf rt : Nat → Nat) (nl s f : Nat) : Nat := if bitP s f = 1 then 1 else if qN op lf rt s f nl 0 = 1 then 2 else 0
theorem t45 (ho : cdOk n op lf rt nl) (hsv : svOk n sv) (hA : kA H a n P C op lf rt nl sv S m) {q f : Nat} (hq : q < n) (hf : f < 6) : ∃ H2, x_To x_tb x_tyl ot (dp + 4) 45 0 (x_en 0 [.inr (some (a)), .inr (some ((P q))), .inl (nI (f))]) [] H 0 0 (some (.inl (nI (yrN (op q) (lf q) (rt q) (nl q) ((fxN n op lf rt nl sv 73 (fun _ => 0)) q) f)))) H2 ∧ kp tgP H H2 := by
  obtain ⟨H2, x, hA2, hk⟩ := t46 (ot := ot) (dp := dp) ho hsv hA
  obtain ⟨⟨haA, -, gs, -, -, ha, -⟩, -⟩ := id hA
  obtain ⟨-, hP, hC, -⟩ := id hA2
  obtain ⟨p1, po, hpo, hpl, p4, p5, p6⟩ := hP q hq
  obtain ⟨c1, co, ro, rl, rr, c2, -⟩ := id (hC q hq)
  have h6 := fx_64 (sv := sv) ho 73 (fun _ => 0) (fun q _ => by omega) q hq
  obtain ⟨as1, as2⟩ := as_q (op := op q) (lf := lf q) (rt := rt q) (s := (fxN n op lf rt nl sv 73 (fun _ => 0)) q) (f := f) (m := nl q) hf (fun l hl => ((ho q hq).2 l hl).2) (nl q) 0 0 (by omega) (by omega)
  refine ⟨H2, ?_, hk⟩
  by_cases hb : bitP ((fxN n op lf rt nl sv 73 (fun _ => 0)) q) f = 1
  · rw [show yrN (op q) (lf q) (rt q) (nl q) ((fxN n op lf rt nl sv 73 (fun _ => 0)) q) f = 1 from if_pos hb]
    refine xT_aload_n g_q45 g45_0 (rfl) ?_
    refine xT_invokevirtual (r := []) (u := none) g_q45 g45_1 (j := 46) (so := 0) (by decide +kernel) g_q46 rfl (by rw [x_rcM haA ha]; rfl) (x) ?_
    refine xT_aload_n g_q45 g45_4 (rfl) ?_
    refine xT_getfield g_q45 g45_5 p1 rfl hpo rfl (p6 hq) ?_
    refine xT_iload_n g_q45 g45_8 (rfl) ?_
    refine xT_invokestatic (r := []) (u := some (.inl (nI (1)))) g_q45 g45_9 (j := 48) (so := 2) (by decide +kernel) g_q48 (rfl) (t48pY h6 hf hb) ?_
    refine xT_ifCondN g_q45 g45_12 (t := 17) (by decide) (c0N (a := 1) (b := 0) (by omega) (by omega) (by omega)) ?_
    refine xT_icV (y := nI (1)) g_q45 g45_15 (by decide) ?_
    exact xT_ireturn g_q45 g45_16 (rfl)
  by_cases hb2 : bitP (asN (op q) (lf q) (rt q) ((fxN n op lf rt nl sv 73 (fun _ => 0)) q) (nl q) 0 0) f = 1
  · have hq1 := (as2.mp hb2).resolve_left (fun z => by rw [bit00 f hf] at z; omega)
    rw [show yrN (op q) (lf q) (rt q) (nl q) ((fxN n op lf rt nl sv 73 (fun _ => 0)) q) f = 2 from (if_neg hb).trans (if_pos hq1)]
    refine xT_aload_n g_q45 g45_0 (rfl) ?_
    refine xT_invokevirtual (r := []) (u := none) g_q45 g45_1 (j := 46) (so := 0) (by decide +kernel) g_q46 rfl (by rw [x_rcM haA ha]; rfl) (x) ?_
    refine xT_aload_n g_q45 g45_4 (rfl) ?_
    refine xT_getfield g_q45 g45_5 p1 rfl hpo rfl (p6 hq) ?_
    refine xT_iload_n g_q45 g45_8 (rfl) ?_
    refine xT_invokestatic (r := []) (u := some (.inl (nI (0)))) g_q45 g45_9 (j := 48) (so := 2) (by decide +kernel) g_q48 (rfl) (t48pN h6 hf hb) ?_
    refine xT_ifCondY g_q45 g45_12 (t := 17) (by decide) (c0Y (b := 0) rfl) ?_
    refine xT_aload_n g_q45 g45_17 (rfl) ?_
    refine xT_getfield g_q45 g45_18 p1 rfl hpo rfl p4 ?_
    refine xT_aload_n g_q45 g45_21 (rfl) ?_
    refine xT_getfield g_q45 g45_22 p1 rfl hpo rfl (p6 hq) ?_
    refine xT_invokevirtual (r := []) (u := some (.inl (nI (asN (op q) (lf q) (rt q) ((fxN n op lf rt nl sv 73 (fun _ => 0)) q) (nl q) 0 0)))) g_q45 g45_25 (j := 51) (so := 0) (by decide +kernel) g_q51 rfl (by rw [x_rcM c1 c2]; rfl) (t51 (dp := dp + 2) (hC q hq) (ho q hq).1 (ho q hq).2 h6) ?_
    refine xT_iload_n g_q45 g45_28 (rfl) ?_
    refine xT_invokestatic (r := []) (u := some (.inl (nI (1)))) g_q45 g45_29 (j := 48) (so := 2) (by decide +kernel) g_q48 (rfl) (t48pY as1 hf hb2) ?_
    refine xT_ifCondN g_q45 g45_32 (t := 39) (by decide) (c0N (a := 1) (b := 0) (by omega) (by omega) (by omega)) ?_
    refine xT_icV (y := nI (2)) g_q45 g45_35 (by decide) ?_
    refine xT_goto g_q45 g45_36 (t := 40) (by decide) ?_
    exact xT_ireturn g_q45 g45_40 (rfl)
  · rw [show yrN (op q) (lf q) (rt q) (nl q) ((fxN n op lf rt nl sv 73 (fun _ => 0)) q) f = 0 from (if_neg hb).trans (if_neg (fun z => hb2 (as2.mpr (Or.inr z))))]
    refine xT_aload_n g_q45 g45_0 (rfl) ?_
    refine xT_invokevirtual (r := []) (u := none) g_q45 g45_1 (j := 46) (so := 0) (by decide +kernel) g_q46 rfl (by rw [x_rcM haA ha]; rfl) (x) ?_
    refine xT_aload_n g_q45 g45_4 (rfl) ?_
    refine xT_getfield g_q45 g45_5 p1 rfl hpo rfl (p6 hq) ?_
    refine xT_iload_n g_q45 g45_8 (rfl) ?_
    refine xT_invokestatic (r := []) (u := some (.inl (nI (0)))) g_q45 g45_9 (j := 48) (so := 2) (by decide +kernel) g_q48 (rfl) (t48pN h6 hf hb) ?_
    refine xT_ifCondY g_q45 g45_12 (t := 17) (by decide) (c0Y (b := 0) rfl) ?_
    refine xT_aload_n g_q45 g45_17 (rfl) ?_
    refine xT_getfield g_q45 g45_18 p1 rfl hpo rfl p4 ?_
    refine xT_aload_n g_q45 g45_21 (rfl) ?_
    refine xT_getfield g_q45 g45_22 p1 rfl hpo rfl (p6 hq) ?_
    refine xT_invokevirtual (r := []) (u := some (.inl (nI (asN (op q) (lf q) (rt q) ((fxN n op lf rt nl sv 73 (fun _ => 0)) q) (nl q) 0 0)))) g_q45 g45_25 (j := 51) (so := 0) (by decide +kernel) g_q51 rfl (by rw [x_rcM c1 c2]; rfl) (t51 (dp := dp + 2) (hC q hq) (ho q hq).1 (ho q hq).2 h6) ?_
    refine xT_iload_n g_q45 g45_28 (rfl) ?_
    refine xT_invokestatic (r := []) (u := some (.inl (nI (0)))) g_q45 g45_29 (j := 48) (so := 2) (by decide +kernel) g_q48 (rfl) (t48pN as1 hf hb2) ?_
    refine xT_ifCondY g_q45 g45_32 (t := 39) (by decide) (c0Y (b := 0) rfl) ?_
    refine xT_icV (y := nI (0)) g_q45 g45_39 (by decide) ?_
    exact xT_ireturn g_q45 g45_40 (rfl)
end XH5_13
