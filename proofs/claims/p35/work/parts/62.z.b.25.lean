/-! p35 by hand, 24. -/
noncomputable section XH3524
variable {ot : XO Int32} {dp : Nat} {H : List (XC Int32)} {p n m : Nat} {r : Nat → Nat} {pl mi la we ord hf : Nat → Nat}
/-- a stop that isn't one -/
def badS (P_ Mn T_ W_ : Int32) : Prop := (P_ < nI 0 ∨ nI 99 < P_) ∨ (Mn < nI 0 ∨ nI 899 < Mn) ∨ (T_ < nI 1 ∨ nI 99 < T_) ∨ (W_ < nI 0 ∨ nI 99 < W_)
theorem res3 {a b c d : Prop} (h : a ∨ b ∨ c ∨ d) (h0 : ¬ a) (h1 : ¬ b) (h2 : ¬ c) : d := ((h.resolve_left h0).resolve_left h1).resolve_left h2
theorem t147 {a : Nat} {fs : List (XV Int32)} (haA : ¬ 1000000 < a) (ha : H[a]? = some (.inl (0, fs))) (h16 : fs[16]? = some (.inr (some p))) (hP : isPo H p n r pl mi la we ord hf m) {P_ Mn T_ W_ : Nat} (hP9 : P_ ≤ 99) (hM : Mn ≤ 899) (hT1 : 1 ≤ T_) (hT : T_ ≤ 99) (hW : W_ ≤ 99) {v : Int32} {H2 : List (XC Int32)} (x : x_To x_tb x_tyl ot (dp + 3) 148 0 (x_en 0 [.inr (some (p)), .inl (nI (P_)), .inl (nI (Mn)), .inl (nI (T_)), .inl (nI (W_))]) [] H 0 0 (some (.inl v)) H2) : x_To x_tb x_tyl ot (dp + 4) 147 0 (x_en 0 [.inr (some (a)), .inl (nI (P_)), .inl (nI (Mn)), .inl (nI (T_)), .inl (nI (W_))]) [] H 0 0 (some (.inl v)) H2 := by
  obtain ⟨⟨hpA, hp, h8⟩, -⟩ := id hP
  refine xT_iload_n g_q147 g147_0 (rfl) ?_
  refine xT_icV (y := nI (0)) g_q147 g147_1 (by decide) ?_
  refine xT_biV (y := nI (99)) g_q147 g147_2 (by decide) ?_
  refine xT_invokestatic (r := []) (u := some (.inl (nI (1)))) g_q147 g147_4 (j := 35) (so := 2) (by decide +kernel) g_q35 (rfl) (t35Y (fun z => by have := (nI_ltI (by omega) (by omega)).mp z; omega) (fun z => by have := (nI_ltI (by omega) (by omega)).mp z; omega)) ?_
  refine xT_ifCondN g_q147 g147_7 (t := 42) (by decide) (c0N (a := 1) (b := 0) (by omega) (by omega) (by omega)) ?_
  refine xT_iload_n g_q147 g147_10 (rfl) ?_
  refine xT_icV (y := nI (0)) g_q147 g147_11 (by decide) ?_
  refine xT_siV (y := nI (899)) g_q147 g147_12 (by decide) ?_
  refine xT_invokestatic (r := []) (u := some (.inl (nI (1)))) g_q147 g147_15 (j := 35) (so := 2) (by decide +kernel) g_q35 (rfl) (t35Y (fun z => by have := (nI_ltI (by omega) (by omega)).mp z; omega) (fun z => by have := (nI_ltI (by omega) (by omega)).mp z; omega)) ?_
  refine xT_ifCondN g_q147 g147_18 (t := 42) (by decide) (c0N (a := 1) (b := 0) (by omega) (by omega) (by omega)) ?_
  refine xT_iload_n g_q147 g147_21 (rfl) ?_
  refine xT_icV (y := nI (1)) g_q147 g147_22 (by decide) ?_
  refine xT_biV (y := nI (99)) g_q147 g147_23 (by decide) ?_
  refine xT_invokestatic (r := []) (u := some (.inl (nI (1)))) g_q147 g147_25 (j := 35) (so := 2) (by decide +kernel) g_q35 (rfl) (t35Y (fun z => by have := (nI_ltI (by omega) (by omega)).mp z; omega) (fun z => by have := (nI_ltI (by omega) (by omega)).mp z; omega)) ?_
  refine xT_ifCondN g_q147 g147_28 (t := 42) (by decide) (c0N (a := 1) (b := 0) (by omega) (by omega) (by omega)) ?_
  refine xT_iload g_q147 g147_31 (rfl) ?_
  refine xT_icV (y := nI (0)) g_q147 g147_33 (by decide) ?_
  refine xT_biV (y := nI (99)) g_q147 g147_34 (by decide) ?_
  refine xT_invokestatic (r := []) (u := some (.inl (nI (1)))) g_q147 g147_36 (j := 35) (so := 2) (by decide +kernel) g_q35 (rfl) (t35Y (fun z => by have := (nI_ltI (by omega) (by omega)).mp z; omega) (fun z => by have := (nI_ltI (by omega) (by omega)).mp z; omega)) ?_
  refine xT_ifCondY g_q147 g147_39 (t := 45) (by decide) (c1Y (a := 1) (b := 0) (by omega) (by omega) (by omega)) ?_
  refine xT_aload_n g_q147 g147_45 (rfl) ?_
  refine xT_getfield g_q147 g147_46 haA rfl ha rfl h16 ?_
  refine xT_iload_n g_q147 g147_49 (rfl) ?_
  refine xT_iload_n g_q147 g147_50 (rfl) ?_
  refine xT_iload_n g_q147 g147_51 (rfl) ?_
  refine xT_iload g_q147 g147_52 (rfl) ?_
  refine xT_invokevirtual (r := []) (u := some (.inl (v))) g_q147 g147_54 (j := 148) (so := 0) (by decide +kernel) g_q148 rfl (by rw [x_rcM hpA hp]; rfl) (x) ?_
  exact xT_ireturn g_q147 g147_57 (rfl)
theorem t147_bad {a : Nat} {P_ Mn T_ W_ : Int32} (hb : badS P_ Mn T_ W_) : x_To x_tb x_tyl ot (dp + 4) 147 0 (x_en 0 [.inr (some (a)), .inl (P_), .inl (Mn), .inl (T_), .inl (W_)]) [] H 0 0 (some (.inl (-2))) H := by
  by_cases h0 : P_ < nI 0 ∨ nI 99 < P_
  · skip
    refine xT_iload_n g_q147 g147_0 (rfl) ?_
    refine xT_icV (y := nI (0)) g_q147 g147_1 (by decide) ?_
    refine xT_biV (y := nI (99)) g_q147 g147_2 (by decide) ?_
    refine xT_invokestatic (r := []) (u := some (.inl (nI (0)))) g_q147 g147_4 (j := 35) (so := 2) (by decide +kernel) g_q35 (rfl) (t35N h0) ?_
    refine xT_ifCondY g_q147 g147_7 (t := 42) (by decide) (c0Y (b := 0) rfl) ?_
    refine xT_biV (y := -2) g_q147 g147_42 (by decide) ?_
    exact xT_ireturn g_q147 g147_44 (rfl)
  have h01 : ¬ P_ < nI 0 := fun z => h0 (Or.inl z)
  have h02 : ¬ nI 99 < P_ := fun z => h0 (Or.inr z)
  by_cases h1 : Mn < nI 0 ∨ nI 899 < Mn
  · skip
    refine xT_iload_n g_q147 g147_0 (rfl) ?_
    refine xT_icV (y := nI (0)) g_q147 g147_1 (by decide) ?_
    refine xT_biV (y := nI (99)) g_q147 g147_2 (by decide) ?_
    refine xT_invokestatic (r := []) (u := some (.inl (nI (1)))) g_q147 g147_4 (j := 35) (so := 2) (by decide +kernel) g_q35 (rfl) (t35Y (h01) (h02)) ?_
    refine xT_ifCondN g_q147 g147_7 (t := 42) (by decide) (c0N (a := 1) (b := 0) (by omega) (by omega) (by omega)) ?_
    refine xT_iload_n g_q147 g147_10 (rfl) ?_
    refine xT_icV (y := nI (0)) g_q147 g147_11 (by decide) ?_
    refine xT_siV (y := nI (899)) g_q147 g147_12 (by decide) ?_
    refine xT_invokestatic (r := []) (u := some (.inl (nI (0)))) g_q147 g147_15 (j := 35) (so := 2) (by decide +kernel) g_q35 (rfl) (t35N h1) ?_
    refine xT_ifCondY g_q147 g147_18 (t := 42) (by decide) (c0Y (b := 0) rfl) ?_
    refine xT_biV (y := -2) g_q147 g147_42 (by decide) ?_
    exact xT_ireturn g_q147 g147_44 (rfl)
  have h11 : ¬ Mn < nI 0 := fun z => h1 (Or.inl z)
  have h12 : ¬ nI 899 < Mn := fun z => h1 (Or.inr z)
  by_cases h2 : T_ < nI 1 ∨ nI 99 < T_
  · skip
    refine xT_iload_n g_q147 g147_0 (rfl) ?_
    refine xT_icV (y := nI (0)) g_q147 g147_1 (by decide) ?_
    refine xT_biV (y := nI (99)) g_q147 g147_2 (by decide) ?_
    refine xT_invokestatic (r := []) (u := some (.inl (nI (1)))) g_q147 g147_4 (j := 35) (so := 2) (by decide +kernel) g_q35 (rfl) (t35Y (h01) (h02)) ?_
    refine xT_ifCondN g_q147 g147_7 (t := 42) (by decide) (c0N (a := 1) (b := 0) (by omega) (by omega) (by omega)) ?_
    refine xT_iload_n g_q147 g147_10 (rfl) ?_
    refine xT_icV (y := nI (0)) g_q147 g147_11 (by decide) ?_
    refine xT_siV (y := nI (899)) g_q147 g147_12 (by decide) ?_
    refine xT_invokestatic (r := []) (u := some (.inl (nI (1)))) g_q147 g147_15 (j := 35) (so := 2) (by decide +kernel) g_q35 (rfl) (t35Y (h11) (h12)) ?_
    refine xT_ifCondN g_q147 g147_18 (t := 42) (by decide) (c0N (a := 1) (b := 0) (by omega) (by omega) (by omega)) ?_
    refine xT_iload_n g_q147 g147_21 (rfl) ?_
    refine xT_icV (y := nI (1)) g_q147 g147_22 (by decide) ?_
    refine xT_biV (y := nI (99)) g_q147 g147_23 (by decide) ?_
    refine xT_invokestatic (r := []) (u := some (.inl (nI (0)))) g_q147 g147_25 (j := 35) (so := 2) (by decide +kernel) g_q35 (rfl) (t35N h2) ?_
    refine xT_ifCondY g_q147 g147_28 (t := 42) (by decide) (c0Y (b := 0) rfl) ?_
    refine xT_biV (y := -2) g_q147 g147_42 (by decide) ?_
    exact xT_ireturn g_q147 g147_44 (rfl)
  have h21 : ¬ T_ < nI 1 := fun z => h2 (Or.inl z)
  have h22 : ¬ nI 99 < T_ := fun z => h2 (Or.inr z)
  have h3 := ((hb.resolve_left h0).resolve_left h1).resolve_left h2
  refine xT_iload_n g_q147 g147_0 (rfl) ?_
  refine xT_icV (y := nI (0)) g_q147 g147_1 (by decide) ?_
  refine xT_biV (y := nI (99)) g_q147 g147_2 (by decide) ?_
  refine xT_invokestatic (r := []) (u := some (.inl (nI (1)))) g_q147 g147_4 (j := 35) (so := 2) (by decide +kernel) g_q35 (rfl) (t35Y (h01) (h02)) ?_
  refine xT_ifCondN g_q147 g147_7 (t := 42) (by decide) (c0N (a := 1) (b := 0) (by omega) (by omega) (by omega)) ?_
  refine xT_iload_n g_q147 g147_10 (rfl) ?_
  refine xT_icV (y := nI (0)) g_q147 g147_11 (by decide) ?_
  refine xT_siV (y := nI (899)) g_q147 g147_12 (by decide) ?_
  refine xT_invokestatic (r := []) (u := some (.inl (nI (1)))) g_q147 g147_15 (j := 35) (so := 2) (by decide +kernel) g_q35 (rfl) (t35Y (h11) (h12)) ?_
  refine xT_ifCondN g_q147 g147_18 (t := 42) (by decide) (c0N (a := 1) (b := 0) (by omega) (by omega) (by omega)) ?_
  refine xT_iload_n g_q147 g147_21 (rfl) ?_
  refine xT_icV (y := nI (1)) g_q147 g147_22 (by decide) ?_
  refine xT_biV (y := nI (99)) g_q147 g147_23 (by decide) ?_
  refine xT_invokestatic (r := []) (u := some (.inl (nI (1)))) g_q147 g147_25 (j := 35) (so := 2) (by decide +kernel) g_q35 (rfl) (t35Y (h21) (h22)) ?_
  refine xT_ifCondN g_q147 g147_28 (t := 42) (by decide) (c0N (a := 1) (b := 0) (by omega) (by omega) (by omega)) ?_
  refine xT_iload g_q147 g147_31 (rfl) ?_
  refine xT_icV (y := nI (0)) g_q147 g147_33 (by decide) ?_
  refine xT_biV (y := nI (99)) g_q147 g147_34 (by decide) ?_
  refine xT_invokestatic (r := []) (u := some (.inl (nI (0)))) g_q147 g147_36 (j := 35) (so := 2) (by decide +kernel) g_q35 (rfl) (t35N h3) ?_
  refine xT_ifCondN g_q147 g147_39 (t := 45) (by decide) (c1N (b := 0) rfl) ?_
  refine xT_biV (y := -2) g_q147 g147_42 (by decide) ?_
  exact xT_ireturn g_q147 g147_44 (rfl)
theorem t258_bad {b : Nat} {P_ Mn T_ W_ : Int32} (hb : badS P_ Mn T_ W_) : x_To x_tb x_tyl ot (dp + 1) 258 0 (x_en 0 [.inr (some (b)), .inl (P_), .inl (Mn), .inl (T_), .inl (W_)]) [] H 0 0 (some (.inl (-2))) H := by
  by_cases h0 : P_ < nI 0 ∨ nI 99 < P_
  · skip
    refine xT_iload_n g_q258 g258_0 (rfl) ?_
    refine xT_icV (y := nI (0)) g_q258 g258_1 (by decide) ?_
    refine xT_biV (y := nI (99)) g_q258 g258_2 (by decide) ?_
    refine xT_invokestatic (r := []) (u := some (.inl (nI (0)))) g_q258 g258_4 (j := 181) (so := 2) (by decide +kernel) g_q181 (rfl) (t181N h0) ?_
    refine xT_ifCondY g_q258 g258_7 (t := 42) (by decide) (c0Y (b := 0) rfl) ?_
    refine xT_biV (y := -2) g_q258 g258_42 (by decide) ?_
    exact xT_ireturn g_q258 g258_44 (rfl)
  have h01 : ¬ P_ < nI 0 := fun z => h0 (Or.inl z)
  have h02 : ¬ nI 99 < P_ := fun z => h0 (Or.inr z)
  by_cases h1 : Mn < nI 0 ∨ nI 899 < Mn
  · skip
    refine xT_iload_n g_q258 g258_0 (rfl) ?_
    refine xT_icV (y := nI (0)) g_q258 g258_1 (by decide) ?_
    refine xT_biV (y := nI (99)) g_q258 g258_2 (by decide) ?_
    refine xT_invokestatic (r := []) (u := some (.inl (nI (1)))) g_q258 g258_4 (j := 181) (so := 2) (by decide +kernel) g_q181 (rfl) (t181Y (h01) (h02)) ?_
    refine xT_ifCondN g_q258 g258_7 (t := 42) (by decide) (c0N (a := 1) (b := 0) (by omega) (by omega) (by omega)) ?_
    refine xT_iload_n g_q258 g258_10 (rfl) ?_
    refine xT_icV (y := nI (0)) g_q258 g258_11 (by decide) ?_
    refine xT_siV (y := nI (899)) g_q258 g258_12 (by decide) ?_
    refine xT_invokestatic (r := []) (u := some (.inl (nI (0)))) g_q258 g258_15 (j := 181) (so := 2) (by decide +kernel) g_q181 (rfl) (t181N h1) ?_
    refine xT_ifCondY g_q258 g258_18 (t := 42) (by decide) (c0Y (b := 0) rfl) ?_
    refine xT_biV (y := -2) g_q258 g258_42 (by decide) ?_
    exact xT_ireturn g_q258 g258_44 (rfl)
  have h11 : ¬ Mn < nI 0 := fun z => h1 (Or.inl z)
  have h12 : ¬ nI 899 < Mn := fun z => h1 (Or.inr z)
  by_cases h2 : T_ < nI 1 ∨ nI 99 < T_
  · skip
    refine xT_iload_n g_q258 g258_0 (rfl) ?_
    refine xT_icV (y := nI (0)) g_q258 g258_1 (by decide) ?_
    refine xT_biV (y := nI (99)) g_q258 g258_2 (by decide) ?_
    refine xT_invokestatic (r := []) (u := some (.inl (nI (1)))) g_q258 g258_4 (j := 181) (so := 2) (by decide +kernel) g_q181 (rfl) (t181Y (h01) (h02)) ?_
    refine xT_ifCondN g_q258 g258_7 (t := 42) (by decide) (c0N (a := 1) (b := 0) (by omega) (by omega) (by omega)) ?_
    refine xT_iload_n g_q258 g258_10 (rfl) ?_
    refine xT_icV (y := nI (0)) g_q258 g258_11 (by decide) ?_
    refine xT_siV (y := nI (899)) g_q258 g258_12 (by decide) ?_
    refine xT_invokestatic (r := []) (u := some (.inl (nI (1)))) g_q258 g258_15 (j := 181) (so := 2) (by decide +kernel) g_q181 (rfl) (t181Y (h11) (h12)) ?_
    refine xT_ifCondN g_q258 g258_18 (t := 42) (by decide) (c0N (a := 1) (b := 0) (by omega) (by omega) (by omega)) ?_
    refine xT_iload_n g_q258 g258_21 (rfl) ?_
    refine xT_icV (y := nI (1)) g_q258 g258_22 (by decide) ?_
    refine xT_biV (y := nI (99)) g_q258 g258_23 (by decide) ?_
    refine xT_invokestatic (r := []) (u := some (.inl (nI (0)))) g_q258 g258_25 (j := 181) (so := 2) (by decide +kernel) g_q181 (rfl) (t181N h2) ?_
    refine xT_ifCondY g_q258 g258_28 (t := 42) (by decide) (c0Y (b := 0) rfl) ?_
    refine xT_biV (y := -2) g_q258 g258_42 (by decide) ?_
    exact xT_ireturn g_q258 g258_44 (rfl)
  have h21 : ¬ T_ < nI 1 := fun z => h2 (Or.inl z)
  have h22 : ¬ nI 99 < T_ := fun z => h2 (Or.inr z)
  have h3 := ((hb.resolve_left h0).resolve_left h1).resolve_left h2
  refine xT_iload_n g_q258 g258_0 (rfl) ?_
  refine xT_icV (y := nI (0)) g_q258 g258_1 (by decide) ?_
  refine xT_biV (y := nI (99)) g_q258 g258_2 (by decide) ?_
  refine xT_invokestatic (r := []) (u := some (.inl (nI (1)))) g_q258 g258_4 (j := 181) (so := 2) (by decide +kernel) g_q181 (rfl) (t181Y (h01) (h02)) ?_
  refine xT_ifCondN g_q258 g258_7 (t := 42) (by decide) (c0N (a := 1) (b := 0) (by omega) (by omega) (by omega)) ?_
  refine xT_iload_n g_q258 g258_10 (rfl) ?_
  refine xT_icV (y := nI (0)) g_q258 g258_11 (by decide) ?_
  refine xT_siV (y := nI (899)) g_q258 g258_12 (by decide) ?_
  refine xT_invokestatic (r := []) (u := some (.inl (nI (1)))) g_q258 g258_15 (j := 181) (so := 2) (by decide +kernel) g_q181 (rfl) (t181Y (h11) (h12)) ?_
  refine xT_ifCondN g_q258 g258_18 (t := 42) (by decide) (c0N (a := 1) (b := 0) (by omega) (by omega) (by omega)) ?_
  refine xT_iload_n g_q258 g258_21 (rfl) ?_
  refine xT_icV (y := nI (1)) g_q258 g258_22 (by decide) ?_
  refine xT_biV (y := nI (99)) g_q258 g258_23 (by decide) ?_
  refine xT_invokestatic (r := []) (u := some (.inl (nI (1)))) g_q258 g258_25 (j := 181) (so := 2) (by decide +kernel) g_q181 (rfl) (t181Y (h21) (h22)) ?_
  refine xT_ifCondN g_q258 g258_28 (t := 42) (by decide) (c0N (a := 1) (b := 0) (by omega) (by omega) (by omega)) ?_
  refine xT_iload g_q258 g258_31 (rfl) ?_
  refine xT_icV (y := nI (0)) g_q258 g258_33 (by decide) ?_
  refine xT_biV (y := nI (99)) g_q258 g258_34 (by decide) ?_
  refine xT_invokestatic (r := []) (u := some (.inl (nI (0)))) g_q258 g258_36 (j := 181) (so := 2) (by decide +kernel) g_q181 (rfl) (t181N h3) ?_
  refine xT_ifCondN g_q258 g258_39 (t := 45) (by decide) (c1N (b := 0) rfl) ?_
  refine xT_biV (y := -2) g_q258 g258_42 (by decide) ?_
  exact xT_ireturn g_q258 g258_44 (rfl)
end XH3524
