/-! Runs: graphs, blocks, 6. -/
noncomputable section XRuG6
theorem fb0N10 {xs : Nat → Int32} {n : Nat} {sf : Option Nat} : wGoes x_KT x_tb x_tyl (x_otS xs n sf) lwFR lwGA.length lwGB.length 29 35 45 fb0WA fb0WB 116 203 63 63 fb0_c1RO fb0o10 :=
  wDp (wWk (wEqvB (wCallB (recv := 0) (pc := 212) (ix := 311) (nx := 3) (args := [.inl (lSy 6), .inl (lSy 5), .inl (lK 1)]) (rest := []) (LE := [(0, .inr (some 0)), (1, .inl (lSy 6)), (2, .inl (lSy 5)), (3, .inl (lK 0)), (5, .inl (lK 1))]) (cE := (lK 0)) (sE := (lK 0)) (wLiftA (dpA := 60) (pc := 20) (pcP := 22) (nx := 1) (LE := [(0, .inr (some 4)), (1, .inl (lAdd (lSy 33) (lK (-1))))]) (SE := []) (cE := (lK 0)) (sE := (lK 0)) (wReL (XA := fb0X10.2.1) (XB := fb0X10.2.2.1) (XC := fb0X10.2.2.2.1) (rk := fb0X10.2.2.2.2) (rA := fb0QA10) (rB := fb0QB10) (sb0_g0_G _ List.mem_cons_self) fb0L10) gq116 gq113 (by decide +kernel) (by decide +kernel) (by decide +kernel) (by decide +kernel)) gq203 gq205 (by decide +kernel) (by decide +kernel) (by decide +kernel) (by decide +kernel) (by decide +kernel)) (by decide +kernel) (by decide +kernel)) (by decide) (by decide) (by decide) (by decide +kernel) (by decide +kernel)) (by decide) (by decide)
theorem fb0N11 {xs : Nat → Int32} {n : Nat} {sf : Option Nat} : wGoes x_KT x_tb x_tyl (x_otS xs n sf) lwFR lwGA.length lwGB.length 29 35 45 fb0WA fb0WB 116 203 63 63 fb0_c1OR fb0o11 :=
  wDp (wWk (wEqvB (wCallB (recv := 0) (pc := 212) (ix := 311) (nx := 3) (args := [.inl (lSy 6), .inl (lSy 5), .inl (lK 1)]) (rest := []) (LE := [(0, .inr (some 0)), (1, .inl (lSy 6)), (2, .inl (lSy 5)), (3, .inl (lK 0)), (5, .inl (lK 1))]) (cE := (lK 0)) (sE := (lK 0)) (wLiftA (dpA := 60) (pc := 2) (pcP := 22) (nx := 1) (LE := [(0, .inr (some 4)), (1, .inl (lSy 36))]) (SE := []) (cE := (lK 0)) (sE := (lK 0)) (wReL (XA := fb0X11.2.1) (XB := fb0X11.2.2.1) (XC := fb0X11.2.2.2.1) (rk := fb0X11.2.2.2.2) (rA := fb0QA11) (rB := fb0QB11) (sb0_g0_G _ List.mem_cons_self) fb0L11) gq116 gq113 (by decide +kernel) (by decide +kernel) (by decide +kernel) (by decide +kernel)) gq203 gq205 (by decide +kernel) (by decide +kernel) (by decide +kernel) (by decide +kernel) (by decide +kernel)) (by decide +kernel) (by decide +kernel)) (by decide) (by decide) (by decide) (by decide +kernel) (by decide +kernel)) (by decide) (by decide)
theorem fb0N12 {xs : Nat → Int32} {n : Nat} {sf : Option Nat} : wGoes x_KT x_tb x_tyl (x_otS xs n sf) lwFR lwGA.length lwGB.length 29 35 45 fb0WA fb0WB 116 203 63 63 fb0_c0T_R fb0o12 :=
  wDp (wWk (wEd_spec (x_ov0_le sf) u_ctS lwFRok fb0E12) (Nat.le_refl _) (Nat.le_refl _) (Nat.le_refl _) (by decide +kernel) (by decide +kernel)) (by decide) (by decide)
theorem fb0N13 {xs : Nat → Int32} {n : Nat} {sf : Option Nat} : wGoes x_KT x_tb x_tyl (x_otS xs n sf) lwFR lwGA.length lwGB.length 29 35 45 fb0WA fb0WB 116 203 63 63 fb0_c0T_O fb0o13 :=
  wDp (wWk (wEd_spec (x_ov0_le sf) u_ctS lwFRok fb0E13) (Nat.le_refl _) (Nat.le_refl _) (Nat.le_refl _) (by decide +kernel) (by decide +kernel)) (by decide) (by decide)
theorem fb0N14 {xs : Nat → Int32} {n : Nat} {sf : Option Nat} : wGoes x_KT x_tb x_tyl (x_otS xs n sf) lwFR lwGA.length lwGB.length 29 35 45 fb0WA fb0WB 116 203 63 63 fb0_c0RR_R fb0o14 :=
  wDp (wWk (wEd_spec (x_ov0_le sf) u_ctS lwFRok fb0E14) (Nat.le_refl _) (Nat.le_refl _) (Nat.le_refl _) (by decide +kernel) (by decide +kernel)) (by decide) (by decide)
theorem fb0N15 {xs : Nat → Int32} {n : Nat} {sf : Option Nat} : wGoes x_KT x_tb x_tyl (x_otS xs n sf) lwFR lwGA.length lwGB.length 29 35 45 fb0WA fb0WB 116 203 63 63 fb0_c0RR_O fb0o15 :=
  wDp (wWk (wEd_spec (x_ov0_le sf) u_ctS lwFRok fb0E15) (Nat.le_refl _) (Nat.le_refl _) (Nat.le_refl _) (by decide +kernel) (by decide +kernel)) (by decide) (by decide)
theorem fb0N16 {xs : Nat → Int32} {n : Nat} {sf : Option Nat} : wGoes x_KT x_tb x_tyl (x_otS xs n sf) lwFR lwGA.length lwGB.length 29 35 45 fb0WA fb0WB 116 203 63 63 fb0_c0RO_R fb0o16 :=
  wDp (wWk (wEd_spec (x_ov0_le sf) u_ctS lwFRok fb0E16) (Nat.le_refl _) (Nat.le_refl _) (Nat.le_refl _) (by decide +kernel) (by decide +kernel)) (by decide) (by decide)
theorem fb0N17 {xs : Nat → Int32} {n : Nat} {sf : Option Nat} : wGoes x_KT x_tb x_tyl (x_otS xs n sf) lwFR lwGA.length lwGB.length 29 35 45 fb0WA fb0WB 116 203 63 63 fb0_c0RO_O fb0o17 :=
  wDp (wWk (wEd_spec (x_ov0_le sf) u_ctS lwFRok fb0E17) (Nat.le_refl _) (Nat.le_refl _) (Nat.le_refl _) (by decide +kernel) (by decide +kernel)) (by decide) (by decide)
theorem fb0N18 {xs : Nat → Int32} {n : Nat} {sf : Option Nat} : wGoes x_KT x_tb x_tyl (x_otS xs n sf) lwFR lwGA.length lwGB.length 29 35 45 fb0WA fb0WB 116 203 63 63 fb0_OR fb0o18 :=
  wDp (wWk (wEd_spec (x_ov0_le sf) u_ctS lwFRok fb0E18) (Nat.le_refl _) (Nat.le_refl _) (Nat.le_refl _) (by decide +kernel) (by decide +kernel)) (by decide) (by decide)
theorem fb0N19 {xs : Nat → Int32} {n : Nat} {sf : Option Nat} : wGoes x_KT x_tb x_tyl (x_otS xs n sf) lwFR lwGA.length lwGB.length 29 35 45 fb0WA fb0WB 116 203 63 63 fb0_c1TR_R fb0o19 :=
  wDp (wWk (wEd_spec (x_ov0_le sf) u_ctS lwFRok fb0E19) (Nat.le_refl _) (Nat.le_refl _) (Nat.le_refl _) (by decide +kernel) (by decide +kernel)) (by decide) (by decide)
theorem fb0N20 {xs : Nat → Int32} {n : Nat} {sf : Option Nat} : wGoes x_KT x_tb x_tyl (x_otS xs n sf) lwFR lwGA.length lwGB.length 29 35 45 fb0WA fb0WB 116 203 63 63 fb0_c1TR_O fb0o20 :=
  wDp (wWk (wEd_spec (x_ov0_le sf) u_ctS lwFRok fb0E20) (Nat.le_refl _) (Nat.le_refl _) (Nat.le_refl _) (by decide +kernel) (by decide +kernel)) (by decide) (by decide)
theorem fb0N21 {xs : Nat → Int32} {n : Nat} {sf : Option Nat} : wGoes x_KT x_tb x_tyl (x_otS xs n sf) lwFR lwGA.length lwGB.length 29 35 45 fb0WA fb0WB 116 203 63 63 fb0_c1TO_R fb0o21 :=
  wDp (wWk (wEd_spec (x_ov0_le sf) u_ctS lwFRok fb0E21) (Nat.le_refl _) (Nat.le_refl _) (Nat.le_refl _) (by decide +kernel) (by decide +kernel)) (by decide) (by decide)
theorem fb0N22 {xs : Nat → Int32} {n : Nat} {sf : Option Nat} : wGoes x_KT x_tb x_tyl (x_otS xs n sf) lwFR lwGA.length lwGB.length 29 35 45 fb0WA fb0WB 116 203 63 63 fb0_c1TO_O fb0o22 :=
  wDp (wWk (wEd_spec (x_ov0_le sf) u_ctS lwFRok fb0E22) (Nat.le_refl _) (Nat.le_refl _) (Nat.le_refl _) (by decide +kernel) (by decide +kernel)) (by decide) (by decide)
theorem fb0N23 {xs : Nat → Int32} {n : Nat} {sf : Option Nat} : wGoes x_KT x_tb x_tyl (x_otS xs n sf) lwFR lwGA.length lwGB.length 29 35 45 fb0WA fb0WB 116 203 63 63 fb0_c1RR_R fb0o23 :=
  wDp (wWk (wEd_spec (x_ov0_le sf) u_ctS lwFRok fb0E23) (Nat.le_refl _) (Nat.le_refl _) (Nat.le_refl _) (by decide +kernel) (by decide +kernel)) (by decide) (by decide)
theorem fb0N24 {xs : Nat → Int32} {n : Nat} {sf : Option Nat} : wGoes x_KT x_tb x_tyl (x_otS xs n sf) lwFR lwGA.length lwGB.length 29 35 45 fb0WA fb0WB 116 203 63 63 fb0_c1RR_O fb0o24 :=
  wDp (wWk (wEd_spec (x_ov0_le sf) u_ctS lwFRok fb0E24) (Nat.le_refl _) (Nat.le_refl _) (Nat.le_refl _) (by decide +kernel) (by decide +kernel)) (by decide) (by decide)
theorem fb0N25 {xs : Nat → Int32} {n : Nat} {sf : Option Nat} : wGoes x_KT x_tb x_tyl (x_otS xs n sf) lwFR lwGA.length lwGB.length 29 35 45 fb0WA fb0WB 116 203 63 63 fb0_c1RO_R fb0o25 :=
  wDp (wWk (wEd_spec (x_ov0_le sf) u_ctS lwFRok fb0E25) (Nat.le_refl _) (Nat.le_refl _) (Nat.le_refl _) (by decide +kernel) (by decide +kernel)) (by decide) (by decide)
theorem fb0N26 {xs : Nat → Int32} {n : Nat} {sf : Option Nat} : wGoes x_KT x_tb x_tyl (x_otS xs n sf) lwFR lwGA.length lwGB.length 29 35 45 fb0WA fb0WB 116 203 63 63 fb0_c1RO_O fb0o26 :=
  wDp (wWk (wEd_spec (x_ov0_le sf) u_ctS lwFRok fb0E26) (Nat.le_refl _) (Nat.le_refl _) (Nat.le_refl _) (by decide +kernel) (by decide +kernel)) (by decide) (by decide)
theorem fb0N27 {xs : Nat → Int32} {n : Nat} {sf : Option Nat} : wGoes x_KT x_tb x_tyl (x_otS xs n sf) lwFR lwGA.length lwGB.length 29 35 45 fb0WA fb0WB 116 203 63 63 fb0_c1OR_R fb0o27 :=
  wDp (wWk (wEd_spec (x_ov0_le sf) u_ctS lwFRok fb0E27) (Nat.le_refl _) (Nat.le_refl _) (Nat.le_refl _) (by decide +kernel) (by decide +kernel)) (by decide) (by decide)
theorem fb0N28 {xs : Nat → Int32} {n : Nat} {sf : Option Nat} : wGoes x_KT x_tb x_tyl (x_otS xs n sf) lwFR lwGA.length lwGB.length 29 35 45 fb0WA fb0WB 116 203 63 63 fb0_c1OR_O fb0o28 :=
  wDp (wWk (wEd_spec (x_ov0_le sf) u_ctS lwFRok fb0E28) (Nat.le_refl _) (Nat.le_refl _) (Nat.le_refl _) (by decide +kernel) (by decide +kernel)) (by decide) (by decide)
theorem fb0N29 {xs : Nat → Int32} {n : Nat} {sf : Option Nat} : wGoes x_KT x_tb x_tyl (x_otS xs n sf) lwFR lwGA.length lwGB.length 29 35 45 fb0WA fb0WB 116 203 63 63 fb0_OO fb0o29 :=
  wDp (wWk (wEd_spec (x_ov0_le sf) u_ctS lwFRok fb0E29) (Nat.le_refl _) (Nat.le_refl _) (Nat.le_refl _) (by decide +kernel) (by decide +kernel)) (by decide) (by decide)
def fb0_g0_nd : List wE := [fb0_in, fb0_T, fb0_c0T, fb0_c0T_R, fb0_c0T_O, fb0_c1TR, fb0_c1TO, fb0_c1TR_R, fb0_c1TR_O, fb0_c1TO_R, fb0_c1TO_O, fb0_RR, fb0_RO, fb0_OR, fb0_OO, fb0_c0RR, fb0_c0RO, fb0_c1OR, fb0_c0RR_R, fb0_c0RR_O, fb0_c0RO_R, fb0_c0RO_O, fb0_c1OR_R, fb0_c1OR_O, fb0_c1RR, fb0_c1RO, fb0_c1RR_R, fb0_c1RR_O, fb0_c1RO_R, fb0_c1RO_O]
theorem fb0_g0_G {xs : Nat → Int32} {n : Nat} {sf : Option Nat} : ∀ nd ∈ fb0_g0_nd, wGoes x_KT x_tb x_tyl (x_otS xs n sf) lwFR lwGA.length lwGB.length 29 35 45 fb0WA fb0WB 116 203 63 63 nd (fb0_g0_ex.map (fun x => (false, x))) := wGraph (fun nd hnd => by
  have hnd : nd ∈ ([fb0_in, fb0_T, fb0_c0T, fb0_c0T_R, fb0_c0T_O, fb0_c1TR, fb0_c1TO, fb0_c1TR_R, fb0_c1TR_O, fb0_c1TO_R, fb0_c1TO_O, fb0_RR, fb0_RO, fb0_OR, fb0_OO, fb0_c0RR, fb0_c0RO, fb0_c1OR, fb0_c0RR_R, fb0_c0RR_O, fb0_c0RO_R, fb0_c0RO_O, fb0_c1OR_R, fb0_c1OR_O, fb0_c1RR, fb0_c1RO, fb0_c1RR_R, fb0_c1RR_O, fb0_c1RO_R, fb0_c1RO_O] : List wE) := hnd
  simp only [List.mem_cons, List.not_mem_nil, or_false] at hnd
  rcases hnd with rfl | rfl | rfl | rfl | rfl | rfl | rfl | rfl | rfl | rfl | rfl | rfl | rfl | rfl | rfl | rfl | rfl | rfl | rfl | rfl | rfl | rfl | rfl | rfl | rfl | rfl | rfl | rfl | rfl | rfl
  · refine ⟨fb0o0, fb0N0, fun o ho => ?_⟩
    have ho : o ∈ ([(true, fb0_T)] : List (Bool × wE)) := ho
    simp only [List.mem_cons, List.not_mem_nil, or_false] at ho
    rcases ho with rfl
    · exact Or.inr ⟨rfl, List.mem_cons_of_mem _ (List.mem_cons_self)⟩
  · refine ⟨fb0o2, fb0N2, fun o ho => ?_⟩
    have ho : o ∈ ([(true, fb0_c0T)] : List (Bool × wE)) := ho
    simp only [List.mem_cons, List.not_mem_nil, or_false] at ho
    rcases ho with rfl
    · exact Or.inr ⟨rfl, List.mem_cons_of_mem _ (List.mem_cons_of_mem _ (List.mem_cons_self))⟩
  · refine ⟨fb0o1, fb0N1, fun o ho => ?_⟩
    have ho : o ∈ ([(true, fb0_c0T_R), (true, fb0_c0T_O)] : List (Bool × wE)) := ho
    simp only [List.mem_cons, List.not_mem_nil, or_false] at ho
    rcases ho with rfl | rfl
    · exact Or.inr ⟨rfl, List.mem_cons_of_mem _ (List.mem_cons_of_mem _ (List.mem_cons_of_mem _ (List.mem_cons_self)))⟩
    · exact Or.inr ⟨rfl, List.mem_cons_of_mem _ (List.mem_cons_of_mem _ (List.mem_cons_of_mem _ (List.mem_cons_of_mem _ (List.mem_cons_self))))⟩
  · refine ⟨fb0o12, fb0N12, fun o ho => ?_⟩
    have ho : o ∈ ([(true, fb0_c1TR)] : List (Bool × wE)) := ho
    simp only [List.mem_cons, List.not_mem_nil, or_false] at ho
    rcases ho with rfl
    · exact Or.inr ⟨rfl, List.mem_cons_of_mem _ (List.mem_cons_of_mem _ (List.mem_cons_of_mem _ (List.mem_cons_of_mem _ (List.mem_cons_of_mem _ (List.mem_cons_self)))))⟩
  · refine ⟨fb0o13, fb0N13, fun o ho => ?_⟩
    have ho : o ∈ ([(true, fb0_c1TO)] : List (Bool × wE)) := ho
    simp only [List.mem_cons, List.not_mem_nil, or_false] at ho
    rcases ho with rfl
    · exact Or.inr ⟨rfl, List.mem_cons_of_mem _ (List.mem_cons_of_mem _ (List.mem_cons_of_mem _ (List.mem_cons_of_mem _ (List.mem_cons_of_mem _ (List.mem_cons_of_mem _ (List.mem_cons_self))))))⟩
  · refine ⟨fb0o7, fb0N7, fun o ho => ?_⟩
    have ho : o ∈ ([(true, fb0_c1TR_R), (true, fb0_c1TR_O)] : List (Bool × wE)) := ho
    simp only [List.mem_cons, List.not_mem_nil, or_false] at ho
    rcases ho with rfl | rfl
    · exact Or.inr ⟨rfl, List.mem_cons_of_mem _ (List.mem_cons_of_mem _ (List.mem_cons_of_mem _ (List.mem_cons_of_mem _ (List.mem_cons_of_mem _ (List.mem_cons_of_mem _ (List.mem_cons_of_mem _ (List.mem_cons_self)))))))⟩
    · exact Or.inr ⟨rfl, List.mem_cons_of_mem _ (List.mem_cons_of_mem _ (List.mem_cons_of_mem _ (List.mem_cons_of_mem _ (List.mem_cons_of_mem _ (List.mem_cons_of_mem _ (List.mem_cons_of_mem _ (List.mem_cons_of_mem _ (List.mem_cons_self))))))))⟩
  · refine ⟨fb0o8, fb0N8, fun o ho => ?_⟩
    have ho : o ∈ ([(true, fb0_c1TO_R), (true, fb0_c1TO_O)] : List (Bool × wE)) := ho
    simp only [List.mem_cons, List.not_mem_nil, or_false] at ho
    rcases ho with rfl | rfl
    · exact Or.inr ⟨rfl, List.mem_cons_of_mem _ (List.mem_cons_of_mem _ (List.mem_cons_of_mem _ (List.mem_cons_of_mem _ (List.mem_cons_of_mem _ (List.mem_cons_of_mem _ (List.mem_cons_of_mem _ (List.mem_cons_of_mem _ (List.mem_cons_of_mem _ (List.mem_cons_self)))))))))⟩
    · exact Or.inr ⟨rfl, List.mem_cons_of_mem _ (List.mem_cons_of_mem _ (List.mem_cons_of_mem _ (List.mem_cons_of_mem _ (List.mem_cons_of_mem _ (List.mem_cons_of_mem _ (List.mem_cons_of_mem _ (List.mem_cons_of_mem _ (List.mem_cons_of_mem _ (List.mem_cons_of_mem _ (List.mem_cons_self))))))))))⟩
  · refine ⟨fb0o19, fb0N19, fun o ho => ?_⟩
    have ho : o ∈ ([(true, fb0_T), (true, fb0_RR), (true, fb0_RO), (true, fb0_OR), (true, fb0_OO)] : List (Bool × wE)) := ho
    simp only [List.mem_cons, List.not_mem_nil, or_false] at ho
    rcases ho with rfl | rfl | rfl | rfl | rfl
    · exact Or.inr ⟨rfl, List.mem_cons_of_mem _ (List.mem_cons_self)⟩
    · exact Or.inr ⟨rfl, List.mem_cons_of_mem _ (List.mem_cons_of_mem _ (List.mem_cons_of_mem _ (List.mem_cons_of_mem _ (List.mem_cons_of_mem _ (List.mem_cons_of_mem _ (List.mem_cons_of_mem _ (List.mem_cons_of_mem _ (List.mem_cons_of_mem _ (List.mem_cons_of_mem _ (List.mem_cons_of_mem _ (List.mem_cons_self)))))))))))⟩
    · exact Or.inr ⟨rfl, List.mem_cons_of_mem _ (List.mem_cons_of_mem _ (List.mem_cons_of_mem _ (List.mem_cons_of_mem _ (List.mem_cons_of_mem _ (List.mem_cons_of_mem _ (List.mem_cons_of_mem _ (List.mem_cons_of_mem _ (List.mem_cons_of_mem _ (List.mem_cons_of_mem _ (List.mem_cons_of_mem _ (List.mem_cons_of_mem _ (List.mem_cons_self))))))))))))⟩
    · exact Or.inr ⟨rfl, List.mem_cons_of_mem _ (List.mem_cons_of_mem _ (List.mem_cons_of_mem _ (List.mem_cons_of_mem _ (List.mem_cons_of_mem _ (List.mem_cons_of_mem _ (List.mem_cons_of_mem _ (List.mem_cons_of_mem _ (List.mem_cons_of_mem _ (List.mem_cons_of_mem _ (List.mem_cons_of_mem _ (List.mem_cons_of_mem _ (List.mem_cons_of_mem _ (List.mem_cons_self)))))))))))))⟩
    · exact Or.inr ⟨rfl, List.mem_cons_of_mem _ (List.mem_cons_of_mem _ (List.mem_cons_of_mem _ (List.mem_cons_of_mem _ (List.mem_cons_of_mem _ (List.mem_cons_of_mem _ (List.mem_cons_of_mem _ (List.mem_cons_of_mem _ (List.mem_cons_of_mem _ (List.mem_cons_of_mem _ (List.mem_cons_of_mem _ (List.mem_cons_of_mem _ (List.mem_cons_of_mem _ (List.mem_cons_of_mem _ (List.mem_cons_self))))))))))))))⟩
  · refine ⟨fb0o20, fb0N20, fun o ho => ?_⟩
    have ho : o ∈ ([(true, fb0_T), (true, fb0_RR), (true, fb0_RO), (true, fb0_OR), (true, fb0_OO)] : List (Bool × wE)) := ho
    simp only [List.mem_cons, List.not_mem_nil, or_false] at ho
    rcases ho with rfl | rfl | rfl | rfl | rfl
    · exact Or.inr ⟨rfl, List.mem_cons_of_mem _ (List.mem_cons_self)⟩
    · exact Or.inr ⟨rfl, List.mem_cons_of_mem _ (List.mem_cons_of_mem _ (List.mem_cons_of_mem _ (List.mem_cons_of_mem _ (List.mem_cons_of_mem _ (List.mem_cons_of_mem _ (List.mem_cons_of_mem _ (List.mem_cons_of_mem _ (List.mem_cons_of_mem _ (List.mem_cons_of_mem _ (List.mem_cons_of_mem _ (List.mem_cons_self)))))))))))⟩
    · exact Or.inr ⟨rfl, List.mem_cons_of_mem _ (List.mem_cons_of_mem _ (List.mem_cons_of_mem _ (List.mem_cons_of_mem _ (List.mem_cons_of_mem _ (List.mem_cons_of_mem _ (List.mem_cons_of_mem _ (List.mem_cons_of_mem _ (List.mem_cons_of_mem _ (List.mem_cons_of_mem _ (List.mem_cons_of_mem _ (List.mem_cons_of_mem _ (List.mem_cons_self))))))))))))⟩
    · exact Or.inr ⟨rfl, List.mem_cons_of_mem _ (List.mem_cons_of_mem _ (List.mem_cons_of_mem _ (List.mem_cons_of_mem _ (List.mem_cons_of_mem _ (List.mem_cons_of_mem _ (List.mem_cons_of_mem _ (List.mem_cons_of_mem _ (List.mem_cons_of_mem _ (List.mem_cons_of_mem _ (List.mem_cons_of_mem _ (List.mem_cons_of_mem _ (List.mem_cons_of_mem _ (List.mem_cons_self)))))))))))))⟩
    · exact Or.inr ⟨rfl, List.mem_cons_of_mem _ (List.mem_cons_of_mem _ (List.mem_cons_of_mem _ (List.mem_cons_of_mem _ (List.mem_cons_of_mem _ (List.mem_cons_of_mem _ (List.mem_cons_of_mem _ (List.mem_cons_of_mem _ (List.mem_cons_of_mem _ (List.mem_cons_of_mem _ (List.mem_cons_of_mem _ (List.mem_cons_of_mem _ (List.mem_cons_of_mem _ (List.mem_cons_of_mem _ (List.mem_cons_self))))))))))))))⟩
  · refine ⟨fb0o21, fb0N21, fun o ho => ?_⟩
    have ho : o ∈ ([(true, fb0_T), (true, fb0_RR), (true, fb0_RO), (true, fb0_OR), (true, fb0_OO)] : List (Bool × wE)) := ho
    simp only [List.mem_cons, List.not_mem_nil, or_false] at ho
    rcases ho with rfl | rfl | rfl | rfl | rfl
    · exact Or.inr ⟨rfl, List.mem_cons_of_mem _ (List.mem_cons_self)⟩
    · exact Or.inr ⟨rfl, List.mem_cons_of_mem _ (List.mem_cons_of_mem _ (List.mem_cons_of_mem _ (List.mem_cons_of_mem _ (List.mem_cons_of_mem _ (List.mem_cons_of_mem _ (List.mem_cons_of_mem _ (List.mem_cons_of_mem _ (List.mem_cons_of_mem _ (List.mem_cons_of_mem _ (List.mem_cons_of_mem _ (List.mem_cons_self)))))))))))⟩
    · exact Or.inr ⟨rfl, List.mem_cons_of_mem _ (List.mem_cons_of_mem _ (List.mem_cons_of_mem _ (List.mem_cons_of_mem _ (List.mem_cons_of_mem _ (List.mem_cons_of_mem _ (List.mem_cons_of_mem _ (List.mem_cons_of_mem _ (List.mem_cons_of_mem _ (List.mem_cons_of_mem _ (List.mem_cons_of_mem _ (List.mem_cons_of_mem _ (List.mem_cons_self))))))))))))⟩
    · exact Or.inr ⟨rfl, List.mem_cons_of_mem _ (List.mem_cons_of_mem _ (List.mem_cons_of_mem _ (List.mem_cons_of_mem _ (List.mem_cons_of_mem _ (List.mem_cons_of_mem _ (List.mem_cons_of_mem _ (List.mem_cons_of_mem _ (List.mem_cons_of_mem _ (List.mem_cons_of_mem _ (List.mem_cons_of_mem _ (List.mem_cons_of_mem _ (List.mem_cons_of_mem _ (List.mem_cons_self)))))))))))))⟩
    · exact Or.inr ⟨rfl, List.mem_cons_of_mem _ (List.mem_cons_of_mem _ (List.mem_cons_of_mem _ (List.mem_cons_of_mem _ (List.mem_cons_of_mem _ (List.mem_cons_of_mem _ (List.mem_cons_of_mem _ (List.mem_cons_of_mem _ (List.mem_cons_of_mem _ (List.mem_cons_of_mem _ (List.mem_cons_of_mem _ (List.mem_cons_of_mem _ (List.mem_cons_of_mem _ (List.mem_cons_of_mem _ (List.mem_cons_self))))))))))))))⟩
  · refine ⟨fb0o22, fb0N22, fun o ho => ?_⟩
    have ho : o ∈ ([(true, fb0_T), (true, fb0_RR), (true, fb0_RO), (true, fb0_OR), (true, fb0_OO)] : List (Bool × wE)) := ho
    simp only [List.mem_cons, List.not_mem_nil, or_false] at ho
    rcases ho with rfl | rfl | rfl | rfl | rfl
    · exact Or.inr ⟨rfl, List.mem_cons_of_mem _ (List.mem_cons_self)⟩
    · exact Or.inr ⟨rfl, List.mem_cons_of_mem _ (List.mem_cons_of_mem _ (List.mem_cons_of_mem _ (List.mem_cons_of_mem _ (List.mem_cons_of_mem _ (List.mem_cons_of_mem _ (List.mem_cons_of_mem _ (List.mem_cons_of_mem _ (List.mem_cons_of_mem _ (List.mem_cons_of_mem _ (List.mem_cons_of_mem _ (List.mem_cons_self)))))))))))⟩
    · exact Or.inr ⟨rfl, List.mem_cons_of_mem _ (List.mem_cons_of_mem _ (List.mem_cons_of_mem _ (List.mem_cons_of_mem _ (List.mem_cons_of_mem _ (List.mem_cons_of_mem _ (List.mem_cons_of_mem _ (List.mem_cons_of_mem _ (List.mem_cons_of_mem _ (List.mem_cons_of_mem _ (List.mem_cons_of_mem _ (List.mem_cons_of_mem _ (List.mem_cons_self))))))))))))⟩
    · exact Or.inr ⟨rfl, List.mem_cons_of_mem _ (List.mem_cons_of_mem _ (List.mem_cons_of_mem _ (List.mem_cons_of_mem _ (List.mem_cons_of_mem _ (List.mem_cons_of_mem _ (List.mem_cons_of_mem _ (List.mem_cons_of_mem _ (List.mem_cons_of_mem _ (List.mem_cons_of_mem _ (List.mem_cons_of_mem _ (List.mem_cons_of_mem _ (List.mem_cons_of_mem _ (List.mem_cons_self)))))))))))))⟩
    · exact Or.inr ⟨rfl, List.mem_cons_of_mem _ (List.mem_cons_of_mem _ (List.mem_cons_of_mem _ (List.mem_cons_of_mem _ (List.mem_cons_of_mem _ (List.mem_cons_of_mem _ (List.mem_cons_of_mem _ (List.mem_cons_of_mem _ (List.mem_cons_of_mem _ (List.mem_cons_of_mem _ (List.mem_cons_of_mem _ (List.mem_cons_of_mem _ (List.mem_cons_of_mem _ (List.mem_cons_of_mem _ (List.mem_cons_self))))))))))))))⟩
  · refine ⟨fb0o4, fb0N4, fun o ho => ?_⟩
    have ho : o ∈ ([(true, fb0_c0RR)] : List (Bool × wE)) := ho
    simp only [List.mem_cons, List.not_mem_nil, or_false] at ho
    rcases ho with rfl
    · exact Or.inr ⟨rfl, List.mem_cons_of_mem _ (List.mem_cons_of_mem _ (List.mem_cons_of_mem _ (List.mem_cons_of_mem _ (List.mem_cons_of_mem _ (List.mem_cons_of_mem _ (List.mem_cons_of_mem _ (List.mem_cons_of_mem _ (List.mem_cons_of_mem _ (List.mem_cons_of_mem _ (List.mem_cons_of_mem _ (List.mem_cons_of_mem _ (List.mem_cons_of_mem _ (List.mem_cons_of_mem _ (List.mem_cons_of_mem _ (List.mem_cons_self)))))))))))))))⟩
  · refine ⟨fb0o6, fb0N6, fun o ho => ?_⟩
    have ho : o ∈ ([(true, fb0_c0RO)] : List (Bool × wE)) := ho
    simp only [List.mem_cons, List.not_mem_nil, or_false] at ho
    rcases ho with rfl
    · exact Or.inr ⟨rfl, List.mem_cons_of_mem _ (List.mem_cons_of_mem _ (List.mem_cons_of_mem _ (List.mem_cons_of_mem _ (List.mem_cons_of_mem _ (List.mem_cons_of_mem _ (List.mem_cons_of_mem _ (List.mem_cons_of_mem _ (List.mem_cons_of_mem _ (List.mem_cons_of_mem _ (List.mem_cons_of_mem _ (List.mem_cons_of_mem _ (List.mem_cons_of_mem _ (List.mem_cons_of_mem _ (List.mem_cons_of_mem _ (List.mem_cons_of_mem _ (List.mem_cons_self))))))))))))))))⟩
  · refine ⟨fb0o18, fb0N18, fun o ho => ?_⟩
    have ho : o ∈ ([(true, fb0_c1OR)] : List (Bool × wE)) := ho
    simp only [List.mem_cons, List.not_mem_nil, or_false] at ho
    rcases ho with rfl
    · exact Or.inr ⟨rfl, List.mem_cons_of_mem _ (List.mem_cons_of_mem _ (List.mem_cons_of_mem _ (List.mem_cons_of_mem _ (List.mem_cons_of_mem _ (List.mem_cons_of_mem _ (List.mem_cons_of_mem _ (List.mem_cons_of_mem _ (List.mem_cons_of_mem _ (List.mem_cons_of_mem _ (List.mem_cons_of_mem _ (List.mem_cons_of_mem _ (List.mem_cons_of_mem _ (List.mem_cons_of_mem _ (List.mem_cons_of_mem _ (List.mem_cons_of_mem _ (List.mem_cons_of_mem _ (List.mem_cons_self)))))))))))))))))⟩
  · refine ⟨fb0o29, fb0N29, fun o ho => ?_⟩
    have ho : o ∈ ([(false, fb0_X)] : List (Bool × wE)) := ho
    simp only [List.mem_cons, List.not_mem_nil, or_false] at ho
    rcases ho with rfl
    · exact Or.inl (List.mem_cons_self)
  · refine ⟨fb0o3, fb0N3, fun o ho => ?_⟩
    have ho : o ∈ ([(true, fb0_c0RR_R), (true, fb0_c0RR_O)] : List (Bool × wE)) := ho
    simp only [List.mem_cons, List.not_mem_nil, or_false] at ho
    rcases ho with rfl | rfl
    · exact Or.inr ⟨rfl, List.mem_cons_of_mem _ (List.mem_cons_of_mem _ (List.mem_cons_of_mem _ (List.mem_cons_of_mem _ (List.mem_cons_of_mem _ (List.mem_cons_of_mem _ (List.mem_cons_of_mem _ (List.mem_cons_of_mem _ (List.mem_cons_of_mem _ (List.mem_cons_of_mem _ (List.mem_cons_of_mem _ (List.mem_cons_of_mem _ (List.mem_cons_of_mem _ (List.mem_cons_of_mem _ (List.mem_cons_of_mem _ (List.mem_cons_of_mem _ (List.mem_cons_of_mem _ (List.mem_cons_of_mem _ (List.mem_cons_self))))))))))))))))))⟩
    · exact Or.inr ⟨rfl, List.mem_cons_of_mem _ (List.mem_cons_of_mem _ (List.mem_cons_of_mem _ (List.mem_cons_of_mem _ (List.mem_cons_of_mem _ (List.mem_cons_of_mem _ (List.mem_cons_of_mem _ (List.mem_cons_of_mem _ (List.mem_cons_of_mem _ (List.mem_cons_of_mem _ (List.mem_cons_of_mem _ (List.mem_cons_of_mem _ (List.mem_cons_of_mem _ (List.mem_cons_of_mem _ (List.mem_cons_of_mem _ (List.mem_cons_of_mem _ (List.mem_cons_of_mem _ (List.mem_cons_of_mem _ (List.mem_cons_of_mem _ (List.mem_cons_self)))))))))))))))))))⟩
  · refine ⟨fb0o5, fb0N5, fun o ho => ?_⟩
    have ho : o ∈ ([(true, fb0_c0RO_R), (true, fb0_c0RO_O)] : List (Bool × wE)) := ho
    simp only [List.mem_cons, List.not_mem_nil, or_false] at ho
    rcases ho with rfl | rfl
    · exact Or.inr ⟨rfl, List.mem_cons_of_mem _ (List.mem_cons_of_mem _ (List.mem_cons_of_mem _ (List.mem_cons_of_mem _ (List.mem_cons_of_mem _ (List.mem_cons_of_mem _ (List.mem_cons_of_mem _ (List.mem_cons_of_mem _ (List.mem_cons_of_mem _ (List.mem_cons_of_mem _ (List.mem_cons_of_mem _ (List.mem_cons_of_mem _ (List.mem_cons_of_mem _ (List.mem_cons_of_mem _ (List.mem_cons_of_mem _ (List.mem_cons_of_mem _ (List.mem_cons_of_mem _ (List.mem_cons_of_mem _ (List.mem_cons_of_mem _ (List.mem_cons_of_mem _ (List.mem_cons_self))))))))))))))))))))⟩
    · exact Or.inr ⟨rfl, List.mem_cons_of_mem _ (List.mem_cons_of_mem _ (List.mem_cons_of_mem _ (List.mem_cons_of_mem _ (List.mem_cons_of_mem _ (List.mem_cons_of_mem _ (List.mem_cons_of_mem _ (List.mem_cons_of_mem _ (List.mem_cons_of_mem _ (List.mem_cons_of_mem _ (List.mem_cons_of_mem _ (List.mem_cons_of_mem _ (List.mem_cons_of_mem _ (List.mem_cons_of_mem _ (List.mem_cons_of_mem _ (List.mem_cons_of_mem _ (List.mem_cons_of_mem _ (List.mem_cons_of_mem _ (List.mem_cons_of_mem _ (List.mem_cons_of_mem _ (List.mem_cons_of_mem _ (List.mem_cons_self)))))))))))))))))))))⟩
  · refine ⟨fb0o11, fb0N11, fun o ho => ?_⟩
    have ho : o ∈ ([(true, fb0_c1OR_R), (true, fb0_c1OR_O)] : List (Bool × wE)) := ho
    simp only [List.mem_cons, List.not_mem_nil, or_false] at ho
    rcases ho with rfl | rfl
    · exact Or.inr ⟨rfl, List.mem_cons_of_mem _ (List.mem_cons_of_mem _ (List.mem_cons_of_mem _ (List.mem_cons_of_mem _ (List.mem_cons_of_mem _ (List.mem_cons_of_mem _ (List.mem_cons_of_mem _ (List.mem_cons_of_mem _ (List.mem_cons_of_mem _ (List.mem_cons_of_mem _ (List.mem_cons_of_mem _ (List.mem_cons_of_mem _ (List.mem_cons_of_mem _ (List.mem_cons_of_mem _ (List.mem_cons_of_mem _ (List.mem_cons_of_mem _ (List.mem_cons_of_mem _ (List.mem_cons_of_mem _ (List.mem_cons_of_mem _ (List.mem_cons_of_mem _ (List.mem_cons_of_mem _ (List.mem_cons_of_mem _ (List.mem_cons_self))))))))))))))))))))))⟩
    · exact Or.inr ⟨rfl, List.mem_cons_of_mem _ (List.mem_cons_of_mem _ (List.mem_cons_of_mem _ (List.mem_cons_of_mem _ (List.mem_cons_of_mem _ (List.mem_cons_of_mem _ (List.mem_cons_of_mem _ (List.mem_cons_of_mem _ (List.mem_cons_of_mem _ (List.mem_cons_of_mem _ (List.mem_cons_of_mem _ (List.mem_cons_of_mem _ (List.mem_cons_of_mem _ (List.mem_cons_of_mem _ (List.mem_cons_of_mem _ (List.mem_cons_of_mem _ (List.mem_cons_of_mem _ (List.mem_cons_of_mem _ (List.mem_cons_of_mem _ (List.mem_cons_of_mem _ (List.mem_cons_of_mem _ (List.mem_cons_of_mem _ (List.mem_cons_of_mem _ (List.mem_cons_self)))))))))))))))))))))))⟩
  · refine ⟨fb0o14, fb0N14, fun o ho => ?_⟩
    have ho : o ∈ ([(true, fb0_c1RR)] : List (Bool × wE)) := ho
    simp only [List.mem_cons, List.not_mem_nil, or_false] at ho
    rcases ho with rfl
    · exact Or.inr ⟨rfl, List.mem_cons_of_mem _ (List.mem_cons_of_mem _ (List.mem_cons_of_mem _ (List.mem_cons_of_mem _ (List.mem_cons_of_mem _ (List.mem_cons_of_mem _ (List.mem_cons_of_mem _ (List.mem_cons_of_mem _ (List.mem_cons_of_mem _ (List.mem_cons_of_mem _ (List.mem_cons_of_mem _ (List.mem_cons_of_mem _ (List.mem_cons_of_mem _ (List.mem_cons_of_mem _ (List.mem_cons_of_mem _ (List.mem_cons_of_mem _ (List.mem_cons_of_mem _ (List.mem_cons_of_mem _ (List.mem_cons_of_mem _ (List.mem_cons_of_mem _ (List.mem_cons_of_mem _ (List.mem_cons_of_mem _ (List.mem_cons_of_mem _ (List.mem_cons_of_mem _ (List.mem_cons_self))))))))))))))))))))))))⟩
  · refine ⟨fb0o15, fb0N15, fun o ho => ?_⟩
    have ho : o ∈ ([(true, fb0_c1RO)] : List (Bool × wE)) := ho
    simp only [List.mem_cons, List.not_mem_nil, or_false] at ho
    rcases ho with rfl
    · exact Or.inr ⟨rfl, List.mem_cons_of_mem _ (List.mem_cons_of_mem _ (List.mem_cons_of_mem _ (List.mem_cons_of_mem _ (List.mem_cons_of_mem _ (List.mem_cons_of_mem _ (List.mem_cons_of_mem _ (List.mem_cons_of_mem _ (List.mem_cons_of_mem _ (List.mem_cons_of_mem _ (List.mem_cons_of_mem _ (List.mem_cons_of_mem _ (List.mem_cons_of_mem _ (List.mem_cons_of_mem _ (List.mem_cons_of_mem _ (List.mem_cons_of_mem _ (List.mem_cons_of_mem _ (List.mem_cons_of_mem _ (List.mem_cons_of_mem _ (List.mem_cons_of_mem _ (List.mem_cons_of_mem _ (List.mem_cons_of_mem _ (List.mem_cons_of_mem _ (List.mem_cons_of_mem _ (List.mem_cons_of_mem _ (List.mem_cons_self)))))))))))))))))))))))))⟩
  · refine ⟨fb0o16, fb0N16, fun o ho => ?_⟩
    have ho : o ∈ ([(true, fb0_RO), (true, fb0_OO)] : List (Bool × wE)) := ho
    simp only [List.mem_cons, List.not_mem_nil, or_false] at ho
    rcases ho with rfl | rfl
    · exact Or.inr ⟨rfl, List.mem_cons_of_mem _ (List.mem_cons_of_mem _ (List.mem_cons_of_mem _ (List.mem_cons_of_mem _ (List.mem_cons_of_mem _ (List.mem_cons_of_mem _ (List.mem_cons_of_mem _ (List.mem_cons_of_mem _ (List.mem_cons_of_mem _ (List.mem_cons_of_mem _ (List.mem_cons_of_mem _ (List.mem_cons_of_mem _ (List.mem_cons_self))))))))))))⟩
    · exact Or.inr ⟨rfl, List.mem_cons_of_mem _ (List.mem_cons_of_mem _ (List.mem_cons_of_mem _ (List.mem_cons_of_mem _ (List.mem_cons_of_mem _ (List.mem_cons_of_mem _ (List.mem_cons_of_mem _ (List.mem_cons_of_mem _ (List.mem_cons_of_mem _ (List.mem_cons_of_mem _ (List.mem_cons_of_mem _ (List.mem_cons_of_mem _ (List.mem_cons_of_mem _ (List.mem_cons_of_mem _ (List.mem_cons_self))))))))))))))⟩
  · refine ⟨fb0o17, fb0N17, fun o ho => ?_⟩
    have ho : o ∈ ([(true, fb0_RO), (true, fb0_OO)] : List (Bool × wE)) := ho
    simp only [List.mem_cons, List.not_mem_nil, or_false] at ho
    rcases ho with rfl | rfl
    · exact Or.inr ⟨rfl, List.mem_cons_of_mem _ (List.mem_cons_of_mem _ (List.mem_cons_of_mem _ (List.mem_cons_of_mem _ (List.mem_cons_of_mem _ (List.mem_cons_of_mem _ (List.mem_cons_of_mem _ (List.mem_cons_of_mem _ (List.mem_cons_of_mem _ (List.mem_cons_of_mem _ (List.mem_cons_of_mem _ (List.mem_cons_of_mem _ (List.mem_cons_self))))))))))))⟩
    · exact Or.inr ⟨rfl, List.mem_cons_of_mem _ (List.mem_cons_of_mem _ (List.mem_cons_of_mem _ (List.mem_cons_of_mem _ (List.mem_cons_of_mem _ (List.mem_cons_of_mem _ (List.mem_cons_of_mem _ (List.mem_cons_of_mem _ (List.mem_cons_of_mem _ (List.mem_cons_of_mem _ (List.mem_cons_of_mem _ (List.mem_cons_of_mem _ (List.mem_cons_of_mem _ (List.mem_cons_of_mem _ (List.mem_cons_self))))))))))))))⟩
  · refine ⟨fb0o27, fb0N27, fun o ho => ?_⟩
    have ho : o ∈ ([(true, fb0_OR), (true, fb0_OO)] : List (Bool × wE)) := ho
    simp only [List.mem_cons, List.not_mem_nil, or_false] at ho
    rcases ho with rfl | rfl
    · exact Or.inr ⟨rfl, List.mem_cons_of_mem _ (List.mem_cons_of_mem _ (List.mem_cons_of_mem _ (List.mem_cons_of_mem _ (List.mem_cons_of_mem _ (List.mem_cons_of_mem _ (List.mem_cons_of_mem _ (List.mem_cons_of_mem _ (List.mem_cons_of_mem _ (List.mem_cons_of_mem _ (List.mem_cons_of_mem _ (List.mem_cons_of_mem _ (List.mem_cons_of_mem _ (List.mem_cons_self)))))))))))))⟩
    · exact Or.inr ⟨rfl, List.mem_cons_of_mem _ (List.mem_cons_of_mem _ (List.mem_cons_of_mem _ (List.mem_cons_of_mem _ (List.mem_cons_of_mem _ (List.mem_cons_of_mem _ (List.mem_cons_of_mem _ (List.mem_cons_of_mem _ (List.mem_cons_of_mem _ (List.mem_cons_of_mem _ (List.mem_cons_of_mem _ (List.mem_cons_of_mem _ (List.mem_cons_of_mem _ (List.mem_cons_of_mem _ (List.mem_cons_self))))))))))))))⟩
  · refine ⟨fb0o28, fb0N28, fun o ho => ?_⟩
    have ho : o ∈ ([(true, fb0_OR), (true, fb0_OO)] : List (Bool × wE)) := ho
    simp only [List.mem_cons, List.not_mem_nil, or_false] at ho
    rcases ho with rfl | rfl
    · exact Or.inr ⟨rfl, List.mem_cons_of_mem _ (List.mem_cons_of_mem _ (List.mem_cons_of_mem _ (List.mem_cons_of_mem _ (List.mem_cons_of_mem _ (List.mem_cons_of_mem _ (List.mem_cons_of_mem _ (List.mem_cons_of_mem _ (List.mem_cons_of_mem _ (List.mem_cons_of_mem _ (List.mem_cons_of_mem _ (List.mem_cons_of_mem _ (List.mem_cons_of_mem _ (List.mem_cons_self)))))))))))))⟩
    · exact Or.inr ⟨rfl, List.mem_cons_of_mem _ (List.mem_cons_of_mem _ (List.mem_cons_of_mem _ (List.mem_cons_of_mem _ (List.mem_cons_of_mem _ (List.mem_cons_of_mem _ (List.mem_cons_of_mem _ (List.mem_cons_of_mem _ (List.mem_cons_of_mem _ (List.mem_cons_of_mem _ (List.mem_cons_of_mem _ (List.mem_cons_of_mem _ (List.mem_cons_of_mem _ (List.mem_cons_of_mem _ (List.mem_cons_self))))))))))))))⟩
  · refine ⟨fb0o9, fb0N9, fun o ho => ?_⟩
    have ho : o ∈ ([(true, fb0_c1RR_R), (true, fb0_c1RR_O)] : List (Bool × wE)) := ho
    simp only [List.mem_cons, List.not_mem_nil, or_false] at ho
    rcases ho with rfl | rfl
    · exact Or.inr ⟨rfl, List.mem_cons_of_mem _ (List.mem_cons_of_mem _ (List.mem_cons_of_mem _ (List.mem_cons_of_mem _ (List.mem_cons_of_mem _ (List.mem_cons_of_mem _ (List.mem_cons_of_mem _ (List.mem_cons_of_mem _ (List.mem_cons_of_mem _ (List.mem_cons_of_mem _ (List.mem_cons_of_mem _ (List.mem_cons_of_mem _ (List.mem_cons_of_mem _ (List.mem_cons_of_mem _ (List.mem_cons_of_mem _ (List.mem_cons_of_mem _ (List.mem_cons_of_mem _ (List.mem_cons_of_mem _ (List.mem_cons_of_mem _ (List.mem_cons_of_mem _ (List.mem_cons_of_mem _ (List.mem_cons_of_mem _ (List.mem_cons_of_mem _ (List.mem_cons_of_mem _ (List.mem_cons_of_mem _ (List.mem_cons_of_mem _ (List.mem_cons_self))))))))))))))))))))))))))⟩
    · exact Or.inr ⟨rfl, List.mem_cons_of_mem _ (List.mem_cons_of_mem _ (List.mem_cons_of_mem _ (List.mem_cons_of_mem _ (List.mem_cons_of_mem _ (List.mem_cons_of_mem _ (List.mem_cons_of_mem _ (List.mem_cons_of_mem _ (List.mem_cons_of_mem _ (List.mem_cons_of_mem _ (List.mem_cons_of_mem _ (List.mem_cons_of_mem _ (List.mem_cons_of_mem _ (List.mem_cons_of_mem _ (List.mem_cons_of_mem _ (List.mem_cons_of_mem _ (List.mem_cons_of_mem _ (List.mem_cons_of_mem _ (List.mem_cons_of_mem _ (List.mem_cons_of_mem _ (List.mem_cons_of_mem _ (List.mem_cons_of_mem _ (List.mem_cons_of_mem _ (List.mem_cons_of_mem _ (List.mem_cons_of_mem _ (List.mem_cons_of_mem _ (List.mem_cons_of_mem _ (List.mem_cons_self)))))))))))))))))))))))))))⟩
  · refine ⟨fb0o10, fb0N10, fun o ho => ?_⟩
    have ho : o ∈ ([(true, fb0_c1RO_R), (true, fb0_c1RO_O)] : List (Bool × wE)) := ho
    simp only [List.mem_cons, List.not_mem_nil, or_false] at ho
    rcases ho with rfl | rfl
    · exact Or.inr ⟨rfl, List.mem_cons_of_mem _ (List.mem_cons_of_mem _ (List.mem_cons_of_mem _ (List.mem_cons_of_mem _ (List.mem_cons_of_mem _ (List.mem_cons_of_mem _ (List.mem_cons_of_mem _ (List.mem_cons_of_mem _ (List.mem_cons_of_mem _ (List.mem_cons_of_mem _ (List.mem_cons_of_mem _ (List.mem_cons_of_mem _ (List.mem_cons_of_mem _ (List.mem_cons_of_mem _ (List.mem_cons_of_mem _ (List.mem_cons_of_mem _ (List.mem_cons_of_mem _ (List.mem_cons_of_mem _ (List.mem_cons_of_mem _ (List.mem_cons_of_mem _ (List.mem_cons_of_mem _ (List.mem_cons_of_mem _ (List.mem_cons_of_mem _ (List.mem_cons_of_mem _ (List.mem_cons_of_mem _ (List.mem_cons_of_mem _ (List.mem_cons_of_mem _ (List.mem_cons_of_mem _ (List.mem_cons_self))))))))))))))))))))))))))))⟩
    · exact Or.inr ⟨rfl, List.mem_cons_of_mem _ (List.mem_cons_of_mem _ (List.mem_cons_of_mem _ (List.mem_cons_of_mem _ (List.mem_cons_of_mem _ (List.mem_cons_of_mem _ (List.mem_cons_of_mem _ (List.mem_cons_of_mem _ (List.mem_cons_of_mem _ (List.mem_cons_of_mem _ (List.mem_cons_of_mem _ (List.mem_cons_of_mem _ (List.mem_cons_of_mem _ (List.mem_cons_of_mem _ (List.mem_cons_of_mem _ (List.mem_cons_of_mem _ (List.mem_cons_of_mem _ (List.mem_cons_of_mem _ (List.mem_cons_of_mem _ (List.mem_cons_of_mem _ (List.mem_cons_of_mem _ (List.mem_cons_of_mem _ (List.mem_cons_of_mem _ (List.mem_cons_of_mem _ (List.mem_cons_of_mem _ (List.mem_cons_of_mem _ (List.mem_cons_of_mem _ (List.mem_cons_of_mem _ (List.mem_cons_of_mem _ (List.mem_cons_self)))))))))))))))))))))))))))))⟩
  · refine ⟨fb0o23, fb0N23, fun o ho => ?_⟩
    have ho : o ∈ ([(true, fb0_T), (true, fb0_RR), (true, fb0_RO), (true, fb0_OR), (true, fb0_OO)] : List (Bool × wE)) := ho
    simp only [List.mem_cons, List.not_mem_nil, or_false] at ho
    rcases ho with rfl | rfl | rfl | rfl | rfl
    · exact Or.inr ⟨rfl, List.mem_cons_of_mem _ (List.mem_cons_self)⟩
    · exact Or.inr ⟨rfl, List.mem_cons_of_mem _ (List.mem_cons_of_mem _ (List.mem_cons_of_mem _ (List.mem_cons_of_mem _ (List.mem_cons_of_mem _ (List.mem_cons_of_mem _ (List.mem_cons_of_mem _ (List.mem_cons_of_mem _ (List.mem_cons_of_mem _ (List.mem_cons_of_mem _ (List.mem_cons_of_mem _ (List.mem_cons_self)))))))))))⟩
    · exact Or.inr ⟨rfl, List.mem_cons_of_mem _ (List.mem_cons_of_mem _ (List.mem_cons_of_mem _ (List.mem_cons_of_mem _ (List.mem_cons_of_mem _ (List.mem_cons_of_mem _ (List.mem_cons_of_mem _ (List.mem_cons_of_mem _ (List.mem_cons_of_mem _ (List.mem_cons_of_mem _ (List.mem_cons_of_mem _ (List.mem_cons_of_mem _ (List.mem_cons_self))))))))))))⟩
    · exact Or.inr ⟨rfl, List.mem_cons_of_mem _ (List.mem_cons_of_mem _ (List.mem_cons_of_mem _ (List.mem_cons_of_mem _ (List.mem_cons_of_mem _ (List.mem_cons_of_mem _ (List.mem_cons_of_mem _ (List.mem_cons_of_mem _ (List.mem_cons_of_mem _ (List.mem_cons_of_mem _ (List.mem_cons_of_mem _ (List.mem_cons_of_mem _ (List.mem_cons_of_mem _ (List.mem_cons_self)))))))))))))⟩
    · exact Or.inr ⟨rfl, List.mem_cons_of_mem _ (List.mem_cons_of_mem _ (List.mem_cons_of_mem _ (List.mem_cons_of_mem _ (List.mem_cons_of_mem _ (List.mem_cons_of_mem _ (List.mem_cons_of_mem _ (List.mem_cons_of_mem _ (List.mem_cons_of_mem _ (List.mem_cons_of_mem _ (List.mem_cons_of_mem _ (List.mem_cons_of_mem _ (List.mem_cons_of_mem _ (List.mem_cons_of_mem _ (List.mem_cons_self))))))))))))))⟩
  · refine ⟨fb0o24, fb0N24, fun o ho => ?_⟩
    have ho : o ∈ ([(true, fb0_T), (true, fb0_RR), (true, fb0_RO), (true, fb0_OR), (true, fb0_OO)] : List (Bool × wE)) := ho
    simp only [List.mem_cons, List.not_mem_nil, or_false] at ho
    rcases ho with rfl | rfl | rfl | rfl | rfl
    · exact Or.inr ⟨rfl, List.mem_cons_of_mem _ (List.mem_cons_self)⟩
    · exact Or.inr ⟨rfl, List.mem_cons_of_mem _ (List.mem_cons_of_mem _ (List.mem_cons_of_mem _ (List.mem_cons_of_mem _ (List.mem_cons_of_mem _ (List.mem_cons_of_mem _ (List.mem_cons_of_mem _ (List.mem_cons_of_mem _ (List.mem_cons_of_mem _ (List.mem_cons_of_mem _ (List.mem_cons_of_mem _ (List.mem_cons_self)))))))))))⟩
    · exact Or.inr ⟨rfl, List.mem_cons_of_mem _ (List.mem_cons_of_mem _ (List.mem_cons_of_mem _ (List.mem_cons_of_mem _ (List.mem_cons_of_mem _ (List.mem_cons_of_mem _ (List.mem_cons_of_mem _ (List.mem_cons_of_mem _ (List.mem_cons_of_mem _ (List.mem_cons_of_mem _ (List.mem_cons_of_mem _ (List.mem_cons_of_mem _ (List.mem_cons_self))))))))))))⟩
    · exact Or.inr ⟨rfl, List.mem_cons_of_mem _ (List.mem_cons_of_mem _ (List.mem_cons_of_mem _ (List.mem_cons_of_mem _ (List.mem_cons_of_mem _ (List.mem_cons_of_mem _ (List.mem_cons_of_mem _ (List.mem_cons_of_mem _ (List.mem_cons_of_mem _ (List.mem_cons_of_mem _ (List.mem_cons_of_mem _ (List.mem_cons_of_mem _ (List.mem_cons_of_mem _ (List.mem_cons_self)))))))))))))⟩
    · exact Or.inr ⟨rfl, List.mem_cons_of_mem _ (List.mem_cons_of_mem _ (List.mem_cons_of_mem _ (List.mem_cons_of_mem _ (List.mem_cons_of_mem _ (List.mem_cons_of_mem _ (List.mem_cons_of_mem _ (List.mem_cons_of_mem _ (List.mem_cons_of_mem _ (List.mem_cons_of_mem _ (List.mem_cons_of_mem _ (List.mem_cons_of_mem _ (List.mem_cons_of_mem _ (List.mem_cons_of_mem _ (List.mem_cons_self))))))))))))))⟩
  · refine ⟨fb0o25, fb0N25, fun o ho => ?_⟩
    have ho : o ∈ ([(true, fb0_T), (true, fb0_RR), (true, fb0_RO), (true, fb0_OR), (true, fb0_OO)] : List (Bool × wE)) := ho
    simp only [List.mem_cons, List.not_mem_nil, or_false] at ho
    rcases ho with rfl | rfl | rfl | rfl | rfl
    · exact Or.inr ⟨rfl, List.mem_cons_of_mem _ (List.mem_cons_self)⟩
    · exact Or.inr ⟨rfl, List.mem_cons_of_mem _ (List.mem_cons_of_mem _ (List.mem_cons_of_mem _ (List.mem_cons_of_mem _ (List.mem_cons_of_mem _ (List.mem_cons_of_mem _ (List.mem_cons_of_mem _ (List.mem_cons_of_mem _ (List.mem_cons_of_mem _ (List.mem_cons_of_mem _ (List.mem_cons_of_mem _ (List.mem_cons_self)))))))))))⟩
    · exact Or.inr ⟨rfl, List.mem_cons_of_mem _ (List.mem_cons_of_mem _ (List.mem_cons_of_mem _ (List.mem_cons_of_mem _ (List.mem_cons_of_mem _ (List.mem_cons_of_mem _ (List.mem_cons_of_mem _ (List.mem_cons_of_mem _ (List.mem_cons_of_mem _ (List.mem_cons_of_mem _ (List.mem_cons_of_mem _ (List.mem_cons_of_mem _ (List.mem_cons_self))))))))))))⟩
    · exact Or.inr ⟨rfl, List.mem_cons_of_mem _ (List.mem_cons_of_mem _ (List.mem_cons_of_mem _ (List.mem_cons_of_mem _ (List.mem_cons_of_mem _ (List.mem_cons_of_mem _ (List.mem_cons_of_mem _ (List.mem_cons_of_mem _ (List.mem_cons_of_mem _ (List.mem_cons_of_mem _ (List.mem_cons_of_mem _ (List.mem_cons_of_mem _ (List.mem_cons_of_mem _ (List.mem_cons_self)))))))))))))⟩
    · exact Or.inr ⟨rfl, List.mem_cons_of_mem _ (List.mem_cons_of_mem _ (List.mem_cons_of_mem _ (List.mem_cons_of_mem _ (List.mem_cons_of_mem _ (List.mem_cons_of_mem _ (List.mem_cons_of_mem _ (List.mem_cons_of_mem _ (List.mem_cons_of_mem _ (List.mem_cons_of_mem _ (List.mem_cons_of_mem _ (List.mem_cons_of_mem _ (List.mem_cons_of_mem _ (List.mem_cons_of_mem _ (List.mem_cons_self))))))))))))))⟩
  · refine ⟨fb0o26, fb0N26, fun o ho => ?_⟩
    have ho : o ∈ ([(true, fb0_T), (true, fb0_RR), (true, fb0_RO), (true, fb0_OR), (true, fb0_OO)] : List (Bool × wE)) := ho
    simp only [List.mem_cons, List.not_mem_nil, or_false] at ho
    rcases ho with rfl | rfl | rfl | rfl | rfl
    · exact Or.inr ⟨rfl, List.mem_cons_of_mem _ (List.mem_cons_self)⟩
    · exact Or.inr ⟨rfl, List.mem_cons_of_mem _ (List.mem_cons_of_mem _ (List.mem_cons_of_mem _ (List.mem_cons_of_mem _ (List.mem_cons_of_mem _ (List.mem_cons_of_mem _ (List.mem_cons_of_mem _ (List.mem_cons_of_mem _ (List.mem_cons_of_mem _ (List.mem_cons_of_mem _ (List.mem_cons_of_mem _ (List.mem_cons_self)))))))))))⟩
    · exact Or.inr ⟨rfl, List.mem_cons_of_mem _ (List.mem_cons_of_mem _ (List.mem_cons_of_mem _ (List.mem_cons_of_mem _ (List.mem_cons_of_mem _ (List.mem_cons_of_mem _ (List.mem_cons_of_mem _ (List.mem_cons_of_mem _ (List.mem_cons_of_mem _ (List.mem_cons_of_mem _ (List.mem_cons_of_mem _ (List.mem_cons_of_mem _ (List.mem_cons_self))))))))))))⟩
    · exact Or.inr ⟨rfl, List.mem_cons_of_mem _ (List.mem_cons_of_mem _ (List.mem_cons_of_mem _ (List.mem_cons_of_mem _ (List.mem_cons_of_mem _ (List.mem_cons_of_mem _ (List.mem_cons_of_mem _ (List.mem_cons_of_mem _ (List.mem_cons_of_mem _ (List.mem_cons_of_mem _ (List.mem_cons_of_mem _ (List.mem_cons_of_mem _ (List.mem_cons_of_mem _ (List.mem_cons_self)))))))))))))⟩
    · exact Or.inr ⟨rfl, List.mem_cons_of_mem _ (List.mem_cons_of_mem _ (List.mem_cons_of_mem _ (List.mem_cons_of_mem _ (List.mem_cons_of_mem _ (List.mem_cons_of_mem _ (List.mem_cons_of_mem _ (List.mem_cons_of_mem _ (List.mem_cons_of_mem _ (List.mem_cons_of_mem _ (List.mem_cons_of_mem _ (List.mem_cons_of_mem _ (List.mem_cons_of_mem _ (List.mem_cons_of_mem _ (List.mem_cons_self))))))))))))))⟩)
theorem aiN0 {xs : Nat → Int32} {n : Nat} {sf : Option Nat} : wGoes x_KT x_tb x_tyl (x_otS xs n sf) lwFR lwGA.length lwGB.length 29 35 45 aiWA aiWB 116 244 63 64 ai_c aio0 :=
  wDp (wWk (wEqvB (wCallB (recv := 0) (pc := 3) (ix := 315) (nx := 3) (args := [.inl (lSy 6), .inl (lSy 5)]) (rest := []) (LE := [(0, .inr (some 0)), (1, .inl (lSy 6)), (2, .inl (lSy 5))]) (cE := (lK 0)) (sE := (lK 0)) (wReL (XA := aiX0.2.1) (XB := aiX0.2.2.1) (XC := aiX0.2.2.2.1) (rk := aiX0.2.2.2.2) (rA := aiQA0) (rB := aiQB0) (fb0_g0_G _ List.mem_cons_self) aiL0) gq244 gq203 (by decide +kernel) (by decide +kernel) (by decide +kernel) (by decide +kernel) (by decide +kernel)) (by decide +kernel) (by decide +kernel)) (by decide) (by decide) (by decide) (by decide +kernel) (by decide +kernel)) (by decide) (by decide)
theorem aiN1 {xs : Nat → Int32} {n : Nat} {sf : Option Nat} : wGoes x_KT x_tb x_tyl (x_otS xs n sf) lwFR lwGA.length lwGB.length 29 35 45 aiWA aiWB 116 244 63 64 ai_in aio1 :=
  wDp (wWk (wEd_spec (x_ov0_le sf) u_ctS lwFRok aiE1) (Nat.le_refl _) (Nat.le_refl _) (Nat.le_refl _) (by decide +kernel) (by decide +kernel)) (by decide) (by decide)
theorem aiN2 {xs : Nat → Int32} {n : Nat} {sf : Option Nat} : wGoes x_KT x_tb x_tyl (x_otS xs n sf) lwFR lwGA.length lwGB.length 29 35 45 aiWA aiWB 116 244 63 64 ai_c_X aio2 :=
  wDp (wWk (wFamE2 (V := [44]) (x_ov0_le sf) u_ctS lwFRok aiE2 (by decide) (by decide) (fun i hi u hu => by
      have hi : i ∈ ([44] : List Nat) := hi
      simp only [List.mem_cons, List.not_mem_nil, or_false] at hi
      rcases hi with rfl
      · cases hu
        exact wRkE_spec (x_ov0_le sf) u_ctS lwFRok aiE2R44)) (Nat.le_refl _) (Nat.le_refl _) (Nat.le_refl _) (by decide +kernel) (by decide +kernel)) (by decide) (by decide)
theorem ctp1N0 {xs : Nat → Int32} {n : Nat} {sf : Option Nat} : wGoes x_KT x_tb x_tyl (x_otS xs n sf) lwFR lwGA.length lwGB.length 42 35 45 ctp1WA ctp1WB 70 206 60 60 ctp1_in ctp1o0 :=
  wDp (wWk (wEd_spec (x_ov0_le sf) u_ctS lwFRok ctp1E0) (Nat.le_refl _) (Nat.le_refl _) (Nat.le_refl _) (by decide +kernel) (by decide +kernel)) (by decide) (by decide)
def ctp1_g0_nd : List wE := [ctp1_in]
theorem ctp1_g0_G {xs : Nat → Int32} {n : Nat} {sf : Option Nat} : ∀ nd ∈ ctp1_g0_nd, wGoes x_KT x_tb x_tyl (x_otS xs n sf) lwFR lwGA.length lwGB.length 42 35 45 ctp1WA ctp1WB 70 206 60 60 nd (ctp1_g0_ex.map (fun x => (false, x))) := wGraph (fun nd hnd => by
  have hnd : nd ∈ ([ctp1_in] : List wE) := hnd
  simp only [List.mem_cons, List.not_mem_nil, or_false] at hnd
  rcases hnd with rfl
  · refine ⟨ctp1o0, ctp1N0, fun o ho => ?_⟩
    have ho : o ∈ ([(false, ctp1_x)] : List (Bool × wE)) := ho
    simp only [List.mem_cons, List.not_mem_nil, or_false] at ho
    rcases ho with rfl
    · exact Or.inl (List.mem_cons_self))
theorem rip1N0 {xs : Nat → Int32} {n : Nat} {sf : Option Nat} : wGoes x_KT x_tb x_tyl (x_otS xs n sf) lwFR lwGA.length lwGB.length 41 35 45 rip1WA rip1WB 72 205 61 61 rip1_c rip1o0 :=
  wDp (wWk (wEqvB (wCallB (recv := 0) (pc := 189) (ix := 291) (nx := 3) (args := [.inl (lSy 6), .inl (lSy 40), .inl (lSy 41), .inl (lK 0)]) (rest := [.inl (lSy 40), .inr (some 8)]) (LE := [(0, .inr (some 0)), (1, .inl (lSy 6)), (2, .inl (lSy 5)), (3, .inl (lK 0)), (4, .inr (some 42)), (5, .inl (lSc 4 (lSy 31))), (7, .inl (lAdd (lSy 31) (lK 1)))]) (cE := (lK 0)) (sE := (lK 0)) (wCallA (recv := 13) (pc := 41) (ix := 87) (nx := 3) (args := [.inl (lSy 40), .inl (lSy 41)]) (rest := [.inl (lSy 40), .inr (some 9)]) (LE := [(0, .inr (some 8))]) (cE := (lK 0)) (sE := (lK 0)) (wReL (XA := rip1X0.2.1) (XB := rip1X0.2.2.1) (XC := rip1X0.2.2.2.1) (rk := rip1X0.2.2.2.2) (rA := rip1QA0) (rB := rip1QB0) (ctp1_g0_G _ List.mem_cons_self) rip1L0) gq72 gq70 (by decide +kernel) (by decide +kernel) (by decide +kernel) (by decide +kernel) (by decide +kernel)) gq205 gq206 (by decide +kernel) (by decide +kernel) (by decide +kernel) (by decide +kernel) (by decide +kernel)) (by decide +kernel) (by decide +kernel)) (by decide) (by decide) (by decide) (by decide +kernel) (by decide +kernel)) (by decide) (by decide)
theorem rip1N1 {xs : Nat → Int32} {n : Nat} {sf : Option Nat} : wGoes x_KT x_tb x_tyl (x_otS xs n sf) lwFR lwGA.length lwGB.length 41 35 45 rip1WA rip1WB 72 205 61 61 rip1_in rip1o1 :=
  wDp (wWk (wEd_spec (x_ov0_le sf) u_ctS lwFRok rip1E1) (Nat.le_refl _) (Nat.le_refl _) (Nat.le_refl _) (by decide +kernel) (by decide +kernel)) (by decide) (by decide)
theorem rip1N2 {xs : Nat → Int32} {n : Nat} {sf : Option Nat} : wGoes x_KT x_tb x_tyl (x_otS xs n sf) lwFR lwGA.length lwGB.length 41 35 45 rip1WA rip1WB 72 205 61 61 rip1_c_x rip1o2 :=
  wDp (wWk (wFamE2 (V := [41, 47]) (x_ov0_le sf) u_ctS lwFRok rip1E2 (by decide) (by decide) (fun i hi u hu => by
      have hi : i ∈ ([41, 47] : List Nat) := hi
      simp only [List.mem_cons, List.not_mem_nil, or_false] at hi
      rcases hi with rfl | rfl
      · exact gRk_spec (x_ov0_le sf) u_ctS lwFRok rip1E2 (by decide) (by decide) rip1E2G0 (by decide +kernel) _ (List.mem_cons_self) u hu
      · cases hu
        exact wRkE_spec (x_ov0_le sf) u_ctS lwFRok rip1E2R47)) (Nat.le_refl _) (Nat.le_refl _) (Nat.le_refl _) (by decide +kernel) (by decide +kernel)) (by decide) (by decide)
theorem mnp1N0 {xs : Nat → Int32} {n : Nat} {sf : Option Nat} : wGoes x_KT x_tb x_tyl (x_otS xs n sf) lwFR lwGA.length lwGB.length 44 35 45 mnp1WA mnp1WB 76 209 60 60 mnp1_in mnp1o0 :=
  wDp (wWk (wEd_spec (x_ov0_le sf) u_ctS lwFRok mnp1E0) (Nat.le_refl _) (Nat.le_refl _) (Nat.le_refl _) (by decide +kernel) (by decide +kernel)) (by decide) (by decide)
def mnp1_g0_nd : List wE := [mnp1_in]
theorem mnp1_g0_G {xs : Nat → Int32} {n : Nat} {sf : Option Nat} : ∀ nd ∈ mnp1_g0_nd, wGoes x_KT x_tb x_tyl (x_otS xs n sf) lwFR lwGA.length lwGB.length 44 35 45 mnp1WA mnp1WB 76 209 60 60 nd (mnp1_g0_ex.map (fun x => (false, x))) := wGraph (fun nd hnd => by
  have hnd : nd ∈ ([mnp1_in] : List wE) := hnd
  simp only [List.mem_cons, List.not_mem_nil, or_false] at hnd
  rcases hnd with rfl
  · refine ⟨mnp1o0, mnp1N0, fun o ho => ?_⟩
    have ho : o ∈ ([(false, mnp1_x)] : List (Bool × wE)) := ho
    simp only [List.mem_cons, List.not_mem_nil, or_false] at ho
    rcases ho with rfl
    · exact Or.inl (List.mem_cons_self))
theorem lep1N0 {xs : Nat → Int32} {n : Nat} {sf : Option Nat} : wGoes x_KT x_tb x_tyl (x_otS xs n sf) lwFR lwGA.length lwGB.length 44 35 45 lep1WA lep1WB 69 210 61 61 lep1_c lep1o0 :=
  wDp (wWk (wEqvB (wCallB (recv := 0) (pc := 4) (ix := 288) (nx := 3) (args := [.inl (lSy 6), .inl (lSy 40), .inl (lK 0)]) (rest := []) (LE := [(0, .inr (some 0)), (1, .inl (lSy 6)), (2, .inl (lSy 40)), (3, .inl (lK 0))]) (cE := (lK 0)) (sE := (lK 0)) (wCallA (recv := 8) (pc := 336) (ix := 98) (nx := 3) (args := [.inl (lSy 40)]) (rest := [.inr (some 13)]) (LE := [(0, .inr (some 8)), (2, .inl (lSy 41)), (3, .inl (lSy 42)), (4, .inl (lAdd (lSy 31) (lK 1)))]) (cE := (lK 0)) (sE := (lK 0)) (wReL (XA := lep1X0.2.1) (XB := lep1X0.2.2.1) (XC := lep1X0.2.2.2.1) (rk := lep1X0.2.2.2.2) (rA := lep1QA0) (rB := lep1QB0) (mnp1_g0_G _ List.mem_cons_self) lep1L0) gq69 gq76 (by decide +kernel) (by decide +kernel) (by decide +kernel) (by decide +kernel) (by decide +kernel)) gq210 gq209 (by decide +kernel) (by decide +kernel) (by decide +kernel) (by decide +kernel) (by decide +kernel)) (by decide +kernel) (by decide +kernel)) (by decide) (by decide) (by decide) (by decide +kernel) (by decide +kernel)) (by decide) (by decide)
theorem lep1N1 {xs : Nat → Int32} {n : Nat} {sf : Option Nat} : wGoes x_KT x_tb x_tyl (x_otS xs n sf) lwFR lwGA.length lwGB.length 44 35 45 lep1WA lep1WB 69 210 61 61 lep1_in lep1o1 :=
  wDp (wWk (wEd_spec (x_ov0_le sf) u_ctS lwFRok lep1E1) (Nat.le_refl _) (Nat.le_refl _) (Nat.le_refl _) (by decide +kernel) (by decide +kernel)) (by decide) (by decide)
theorem lep1N2 {xs : Nat → Int32} {n : Nat} {sf : Option Nat} : wGoes x_KT x_tb x_tyl (x_otS xs n sf) lwFR lwGA.length lwGB.length 44 35 45 lep1WA lep1WB 69 210 61 61 lep1_c_x lep1o2 :=
  wDp (wWk (wEd_spec (x_ov0_le sf) u_ctS lwFRok lep1E2) (Nat.le_refl _) (Nat.le_refl _) (Nat.le_refl _) (by decide +kernel) (by decide +kernel)) (by decide) (by decide)
theorem sp1N0 {xs : Nat → Int32} {n : Nat} {sf : Option Nat} : wGoes x_KT x_tb x_tyl (x_otS xs n sf) lwFR lwGA.length lwGB.length 40 35 45 sp1WA sp1WB 69 205 62 62 sp1_in sp1o0 :=
  wDp (wWk (wEd_spec (x_ov0_le sf) u_ctS lwFRok sp1E0) (Nat.le_refl _) (Nat.le_refl _) (Nat.le_refl _) (by decide +kernel) (by decide +kernel)) (by decide) (by decide)
theorem sp1N1 {xs : Nat → Int32} {n : Nat} {sf : Option Nat} : wGoes x_KT x_tb x_tyl (x_otS xs n sf) lwFR lwGA.length lwGB.length 40 35 45 sp1WA sp1WB 69 205 62 62 sp1_M sp1o1 :=
  wDp (wWk (wEd_spec (x_ov0_le sf) u_ctS lwFRok sp1E1) (Nat.le_refl _) (Nat.le_refl _) (Nat.le_refl _) (by decide +kernel) (by decide +kernel)) (by decide) (by decide)
theorem sp1N2 {xs : Nat → Int32} {n : Nat} {sf : Option Nat} : wGoes x_KT x_tb x_tyl (x_otS xs n sf) lwFR lwGA.length lwGB.length 40 35 45 sp1WA sp1WB 69 205 62 62 sp1_op2 sp1o2 :=
  wDp (wWk (wEd_spec (x_ov0_le sf) u_ctS lwFRok sp1E2) (Nat.le_refl _) (Nat.le_refl _) (Nat.le_refl _) (by decide +kernel) (by decide +kernel)) (by decide) (by decide)
theorem sp1N3 {xs : Nat → Int32} {n : Nat} {sf : Option Nat} : wGoes x_KT x_tb x_tyl (x_otS xs n sf) lwFR lwGA.length lwGB.length 40 35 45 sp1WA sp1WB 69 205 62 62 sp1_L sp1o3 :=
  wDp (wWk (wFamE2 (V := [5, 6, 7, 9, 10, 8, 43, 44, 31]) (x_ov0_le sf) u_ctS lwFRok sp1E3 (by decide) (by decide) (fun i hi u hu => by
      have hi : i ∈ ([5, 6, 7, 9, 10, 8, 43, 44, 31] : List Nat) := hi
      simp only [List.mem_cons, List.not_mem_nil, or_false] at hi
      rcases hi with rfl | rfl | rfl | rfl | rfl | rfl | rfl | rfl | rfl
      · exact gRk_spec (x_ov0_le sf) u_ctS lwFRok sp1E3 (by decide) (by decide) sp1E3G0 (by decide +kernel) _ (List.mem_cons_self) u hu
      · exact gRk_spec (x_ov0_le sf) u_ctS lwFRok sp1E3 (by decide) (by decide) sp1E3G0 (by decide +kernel) _ (List.mem_cons_of_mem _ (List.mem_cons_self)) u hu
      · exact gRk_spec (x_ov0_le sf) u_ctS lwFRok sp1E3 (by decide) (by decide) sp1E3G0 (by decide +kernel) _ (List.mem_cons_of_mem _ (List.mem_cons_of_mem _ (List.mem_cons_self))) u hu
      · exact gRk_spec (x_ov0_le sf) u_ctS lwFRok sp1E3 (by decide) (by decide) sp1E3G0 (by decide +kernel) _ (List.mem_cons_of_mem _ (List.mem_cons_of_mem _ (List.mem_cons_of_mem _ (List.mem_cons_self)))) u hu
      · exact gRk_spec (x_ov0_le sf) u_ctS lwFRok sp1E3 (by decide) (by decide) sp1E3G0 (by decide +kernel) _ (List.mem_cons_of_mem _ (List.mem_cons_of_mem _ (List.mem_cons_of_mem _ (List.mem_cons_of_mem _ (List.mem_cons_self))))) u hu
      · exact gRk_spec (x_ov0_le sf) u_ctS lwFRok sp1E3 (by decide) (by decide) sp1E3G0 (by decide +kernel) _ (List.mem_cons_of_mem _ (List.mem_cons_of_mem _ (List.mem_cons_of_mem _ (List.mem_cons_of_mem _ (List.mem_cons_of_mem _ (List.mem_cons_self)))))) u hu
      · cases hu
        exact wRkE_spec (x_ov0_le sf) u_ctS lwFRok sp1E3R43
      · cases hu
        exact wRkE_spec (x_ov0_le sf) u_ctS lwFRok sp1E3R44
      · cases hu
        exact wRkE_spec (x_ov0_le sf) u_ctS lwFRok sp1E3R31)) (Nat.le_refl _) (Nat.le_refl _) (Nat.le_refl _) (by decide +kernel) (by decide +kernel)) (by decide) (by decide)
theorem sp1N4 {xs : Nat → Int32} {n : Nat} {sf : Option Nat} : wGoes x_KT x_tb x_tyl (x_otS xs n sf) lwFR lwGA.length lwGB.length 40 35 45 sp1WA sp1WB 69 205 62 62 sp1_M2 sp1o4 :=
  wDp (wWk (wEd_spec (x_ov0_le sf) u_ctS lwFRok sp1E4) (Nat.le_refl _) (Nat.le_refl _) (Nat.le_refl _) (by decide +kernel) (by decide +kernel)) (by decide) (by decide)
theorem sp1N5 {xs : Nat → Int32} {n : Nat} {sf : Option Nat} : wGoes x_KT x_tb x_tyl (x_otS xs n sf) lwFR lwGA.length lwGB.length 40 35 45 sp1WA sp1WB 69 205 62 62 sp1_F sp1o5 :=
  wDp (wWk (wEd_spec (x_ov0_le sf) u_ctS lwFRok sp1E5) (Nat.le_refl _) (Nat.le_refl _) (Nat.le_refl _) (by decide +kernel) (by decide +kernel)) (by decide) (by decide)
theorem sp1N6 {xs : Nat → Int32} {n : Nat} {sf : Option Nat} : wGoes x_KT x_tb x_tyl (x_otS xs n sf) lwFR lwGA.length lwGB.length 40 35 45 sp1WA sp1WB 69 205 62 62 sp1_op9 sp1o6 :=
  wDp (wWk (wEd_spec (x_ov0_le sf) u_ctS lwFRok sp1E6) (Nat.le_refl _) (Nat.le_refl _) (Nat.le_refl _) (by decide +kernel) (by decide +kernel)) (by decide) (by decide)
theorem sp1N7 {xs : Nat → Int32} {n : Nat} {sf : Option Nat} : wGoes x_KT x_tb x_tyl (x_otS xs n sf) lwFR lwGA.length lwGB.length 40 35 45 sp1WA sp1WB 69 205 62 62 sp1_op10 sp1o7 :=
  wDp (wWk (wEd_spec (x_ov0_le sf) u_ctS lwFRok sp1E7) (Nat.le_refl _) (Nat.le_refl _) (Nat.le_refl _) (by decide +kernel) (by decide +kernel)) (by decide) (by decide)
theorem sp1N8 {xs : Nat → Int32} {n : Nat} {sf : Option Nat} : wGoes x_KT x_tb x_tyl (x_otS xs n sf) lwFR lwGA.length lwGB.length 40 35 45 sp1WA sp1WB 69 205 62 62 sp1_c0 sp1o8 :=
  wDp (wWk (wEqvB (wCallB (recv := 0) (pc := 128) (ix := 291) (nx := 3) (args := [.inl (lSy 6), .inl (lSy 40), .inl (lSy 41), .inl (lK 0)]) (rest := [.inl (lSy 40), .inr (some 8)]) (LE := [(0, .inr (some 0)), (1, .inl (lSy 6)), (2, .inl (lSy 5)), (3, .inl (lK 0)), (7, .inl (lAdd (lSy 31) (lK 1)))]) (cE := (lK 0)) (sE := (lK 0)) (wCallA (recv := 13) (pc := 158) (ix := 87) (nx := 3) (args := [.inl (lSy 40), .inl (lSy 41)]) (rest := [.inl (lSy 40), .inr (some 9)]) (LE := [(0, .inr (some 8)), (4, .inl (lAdd (lSy 31) (lK 1)))]) (cE := (lK 0)) (sE := (lK 0)) (wReL (XA := sp1X8.2.1) (XB := sp1X8.2.2.1) (XC := sp1X8.2.2.2.1) (rk := sp1X8.2.2.2.2) (rA := sp1QA8) (rB := sp1QB8) (ctp1_g0_G _ List.mem_cons_self) sp1L8) gq69 gq70 (by decide +kernel) (by decide +kernel) (by decide +kernel) (by decide +kernel) (by decide +kernel)) gq205 gq206 (by decide +kernel) (by decide +kernel) (by decide +kernel) (by decide +kernel) (by decide +kernel)) (by decide +kernel) (by decide +kernel)) (by decide) (by decide) (by decide) (by decide +kernel) (by decide +kernel)) (by decide) (by decide)
theorem sp1N9 {xs : Nat → Int32} {n : Nat} {sf : Option Nat} : wGoes x_KT x_tb x_tyl (x_otS xs n sf) lwFR lwGA.length lwGB.length 40 35 45 sp1WA sp1WB 69 205 62 62 sp1_op0 sp1o9 :=
  wDp (wWk (wEd_spec (x_ov0_le sf) u_ctS lwFRok sp1E9) (Nat.le_refl _) (Nat.le_refl _) (Nat.le_refl _) (by decide +kernel) (by decide +kernel)) (by decide) (by decide)
theorem sp1N10 {xs : Nat → Int32} {n : Nat} {sf : Option Nat} : wGoes x_KT x_tb x_tyl (x_otS xs n sf) lwFR lwGA.length lwGB.length 40 35 45 sp1WA sp1WB 69 205 62 62 sp1_c0_x sp1o10 :=
  wDp (wWk (wFamE2 (V := [41]) (x_ov0_le sf) u_ctS lwFRok sp1E10 (by decide) (by decide) (fun i hi u hu => by
      have hi : i ∈ ([41] : List Nat) := hi
      simp only [List.mem_cons, List.not_mem_nil, or_false] at hi
      rcases hi with rfl
      · exact gRk_spec (x_ov0_le sf) u_ctS lwFRok sp1E10 (by decide) (by decide) sp1E10G0 (by decide +kernel) _ (List.mem_cons_self) u hu)) (Nat.le_refl _) (Nat.le_refl _) (Nat.le_refl _) (by decide +kernel) (by decide +kernel)) (by decide) (by decide)
theorem sp1N11 {xs : Nat → Int32} {n : Nat} {sf : Option Nat} : wGoes x_KT x_tb x_tyl (x_otS xs n sf) lwFR lwGA.length lwGB.length 40 35 45 sp1WA sp1WB 69 205 62 62 sp1_c3 sp1o11 :=
  wDp (wWk (wEqvB (wCallB (recv := 0) (pc := 299) (ix := 291) (nx := 3) (args := [.inl (lSy 6), .inl (lSy 40), .inl (lSy 41), .inl (lK 0)]) (rest := [.inl (lSy 40), .inr (some 8)]) (LE := [(0, .inr (some 0)), (1, .inl (lSy 6)), (2, .inl (lSy 5)), (3, .inl (lK 0)), (7, .inl (lAdd (lSy 31) (lK 1)))]) (cE := (lK 0)) (sE := (lK 0)) (wCallA (recv := 13) (pc := 192) (ix := 87) (nx := 3) (args := [.inl (lSy 40), .inl (lSy 41)]) (rest := [.inl (lSy 40), .inr (some 9)]) (LE := [(0, .inr (some 8)), (4, .inl (lAdd (lSy 31) (lK 1)))]) (cE := (lK 0)) (sE := (lK 0)) (wReL (XA := sp1X11.2.1) (XB := sp1X11.2.2.1) (XC := sp1X11.2.2.2.1) (rk := sp1X11.2.2.2.2) (rA := sp1QA11) (rB := sp1QB11) (ctp1_g0_G _ List.mem_cons_self) sp1L11) gq69 gq70 (by decide +kernel) (by decide +kernel) (by decide +kernel) (by decide +kernel) (by decide +kernel)) gq205 gq206 (by decide +kernel) (by decide +kernel) (by decide +kernel) (by decide +kernel) (by decide +kernel)) (by decide +kernel) (by decide +kernel)) (by decide) (by decide) (by decide) (by decide +kernel) (by decide +kernel)) (by decide) (by decide)
theorem sp1N12 {xs : Nat → Int32} {n : Nat} {sf : Option Nat} : wGoes x_KT x_tb x_tyl (x_otS xs n sf) lwFR lwGA.length lwGB.length 40 35 45 sp1WA sp1WB 69 205 62 62 sp1_op3 sp1o12 :=
  wDp (wWk (wEd_spec (x_ov0_le sf) u_ctS lwFRok sp1E12) (Nat.le_refl _) (Nat.le_refl _) (Nat.le_refl _) (by decide +kernel) (by decide +kernel)) (by decide) (by decide)
theorem sp1N13 {xs : Nat → Int32} {n : Nat} {sf : Option Nat} : wGoes x_KT x_tb x_tyl (x_otS xs n sf) lwFR lwGA.length lwGB.length 40 35 45 sp1WA sp1WB 69 205 62 62 sp1_c3_x sp1o13 :=
  wDp (wWk (wFamE2 (V := [41]) (x_ov0_le sf) u_ctS lwFRok sp1E13 (by decide) (by decide) (fun i hi u hu => by
      have hi : i ∈ ([41] : List Nat) := hi
      simp only [List.mem_cons, List.not_mem_nil, or_false] at hi
      rcases hi with rfl
      · exact gRk_spec (x_ov0_le sf) u_ctS lwFRok sp1E13 (by decide) (by decide) sp1E13G0 (by decide +kernel) _ (List.mem_cons_self) u hu)) (Nat.le_refl _) (Nat.le_refl _) (Nat.le_refl _) (by decide +kernel) (by decide +kernel)) (by decide) (by decide)
theorem sp1N14 {xs : Nat → Int32} {n : Nat} {sf : Option Nat} : wGoes x_KT x_tb x_tyl (x_otS xs n sf) lwFR lwGA.length lwGB.length 40 35 45 sp1WA sp1WB 69 205 62 62 sp1_c4 sp1o14 :=
  wDp (wWk (wEqvB (wCallB (recv := 0) (pc := 335) (ix := 291) (nx := 3) (args := [.inl (lSy 6), .inl (lSy 40), .inl (lSy 41), .inl (lK 0)]) (rest := [.inl (lSy 40), .inr (some 8)]) (LE := [(0, .inr (some 0)), (1, .inl (lSy 6)), (2, .inl (lSy 5)), (3, .inl (lK 0)), (7, .inl (lAdd (lSy 31) (lK 1)))]) (cE := (lK 0)) (sE := (lK 0)) (wCallA (recv := 13) (pc := 215) (ix := 87) (nx := 3) (args := [.inl (lSy 40), .inl (lSy 41)]) (rest := [.inl (lSy 40), .inr (some 9)]) (LE := [(0, .inr (some 8)), (4, .inl (lAdd (lSy 31) (lK 1)))]) (cE := (lK 0)) (sE := (lK 0)) (wReL (XA := sp1X14.2.1) (XB := sp1X14.2.2.1) (XC := sp1X14.2.2.2.1) (rk := sp1X14.2.2.2.2) (rA := sp1QA14) (rB := sp1QB14) (ctp1_g0_G _ List.mem_cons_self) sp1L14) gq69 gq70 (by decide +kernel) (by decide +kernel) (by decide +kernel) (by decide +kernel) (by decide +kernel)) gq205 gq206 (by decide +kernel) (by decide +kernel) (by decide +kernel) (by decide +kernel) (by decide +kernel)) (by decide +kernel) (by decide +kernel)) (by decide) (by decide) (by decide) (by decide +kernel) (by decide +kernel)) (by decide) (by decide)
theorem sp1N15 {xs : Nat → Int32} {n : Nat} {sf : Option Nat} : wGoes x_KT x_tb x_tyl (x_otS xs n sf) lwFR lwGA.length lwGB.length 40 35 45 sp1WA sp1WB 69 205 62 62 sp1_op4 sp1o15 :=
  wDp (wWk (wEd_spec (x_ov0_le sf) u_ctS lwFRok sp1E15) (Nat.le_refl _) (Nat.le_refl _) (Nat.le_refl _) (by decide +kernel) (by decide +kernel)) (by decide) (by decide)
theorem sp1N16 {xs : Nat → Int32} {n : Nat} {sf : Option Nat} : wGoes x_KT x_tb x_tyl (x_otS xs n sf) lwFR lwGA.length lwGB.length 40 35 45 sp1WA sp1WB 69 205 62 62 sp1_c4_x sp1o16 :=
  wDp (wWk (wFamE2 (V := [41]) (x_ov0_le sf) u_ctS lwFRok sp1E16 (by decide) (by decide) (fun i hi u hu => by
      have hi : i ∈ ([41] : List Nat) := hi
      simp only [List.mem_cons, List.not_mem_nil, or_false] at hi
      rcases hi with rfl
      · exact gRk_spec (x_ov0_le sf) u_ctS lwFRok sp1E16 (by decide) (by decide) sp1E16G0 (by decide +kernel) _ (List.mem_cons_self) u hu)) (Nat.le_refl _) (Nat.le_refl _) (Nat.le_refl _) (by decide +kernel) (by decide +kernel)) (by decide) (by decide)
theorem sp1N17 {xs : Nat → Int32} {n : Nat} {sf : Option Nat} : wGoes x_KT x_tb x_tyl (x_otS xs n sf) lwFR lwGA.length lwGB.length 40 35 45 sp1WA sp1WB 69 205 62 62 sp1_c5 sp1o17 :=
  wDp (wWk (wEqvB (wCallB (recv := 0) (pc := 382) (ix := 291) (nx := 3) (args := [.inl (lSy 6), .inl (lSy 40), .inl (lSy 41), .inl (lK 0)]) (rest := [.inl (lSy 40), .inr (some 8)]) (LE := [(0, .inr (some 0)), (1, .inl (lSy 6)), (2, .inl (lSy 5)), (3, .inl (lK 0)), (7, .inl (lAdd (lSy 31) (lK 1)))]) (cE := (lK 0)) (sE := (lK 0)) (wCallA (recv := 13) (pc := 245) (ix := 87) (nx := 3) (args := [.inl (lSy 40), .inl (lSy 41)]) (rest := [.inl (lSy 40), .inr (some 9)]) (LE := [(0, .inr (some 8)), (4, .inl (lAdd (lSy 31) (lK 1)))]) (cE := (lK 0)) (sE := (lK 0)) (wReL (XA := sp1X17.2.1) (XB := sp1X17.2.2.1) (XC := sp1X17.2.2.2.1) (rk := sp1X17.2.2.2.2) (rA := sp1QA17) (rB := sp1QB17) (ctp1_g0_G _ List.mem_cons_self) sp1L17) gq69 gq70 (by decide +kernel) (by decide +kernel) (by decide +kernel) (by decide +kernel) (by decide +kernel)) gq205 gq206 (by decide +kernel) (by decide +kernel) (by decide +kernel) (by decide +kernel) (by decide +kernel)) (by decide +kernel) (by decide +kernel)) (by decide) (by decide) (by decide) (by decide +kernel) (by decide +kernel)) (by decide) (by decide)
theorem sp1N18 {xs : Nat → Int32} {n : Nat} {sf : Option Nat} : wGoes x_KT x_tb x_tyl (x_otS xs n sf) lwFR lwGA.length lwGB.length 40 35 45 sp1WA sp1WB 69 205 62 62 sp1_op5 sp1o18 :=
  wDp (wWk (wEd_spec (x_ov0_le sf) u_ctS lwFRok sp1E18) (Nat.le_refl _) (Nat.le_refl _) (Nat.le_refl _) (by decide +kernel) (by decide +kernel)) (by decide) (by decide)
theorem sp1N19 {xs : Nat → Int32} {n : Nat} {sf : Option Nat} : wGoes x_KT x_tb x_tyl (x_otS xs n sf) lwFR lwGA.length lwGB.length 40 35 45 sp1WA sp1WB 69 205 62 62 sp1_c5_x sp1o19 :=
  wDp (wWk (wFamE2 (V := [41]) (x_ov0_le sf) u_ctS lwFRok sp1E19 (by decide) (by decide) (fun i hi u hu => by
      have hi : i ∈ ([41] : List Nat) := hi
      simp only [List.mem_cons, List.not_mem_nil, or_false] at hi
      rcases hi with rfl
      · exact gRk_spec (x_ov0_le sf) u_ctS lwFRok sp1E19 (by decide) (by decide) sp1E19G0 (by decide +kernel) _ (List.mem_cons_self) u hu)) (Nat.le_refl _) (Nat.le_refl _) (Nat.le_refl _) (by decide +kernel) (by decide +kernel)) (by decide) (by decide)
theorem sp1N20 {xs : Nat → Int32} {n : Nat} {sf : Option Nat} : wGoes x_KT x_tb x_tyl (x_otS xs n sf) lwFR lwGA.length lwGB.length 40 35 45 sp1WA sp1WB 69 205 62 62 sp1_c6 sp1o20 :=
  wDp (wWk (wEqvB (wCallB (recv := 0) (pc := 429) (ix := 291) (nx := 3) (args := [.inl (lSy 6), .inl (lSy 40), .inl (lSy 41), .inl (lK 0)]) (rest := [.inl (lSy 40), .inr (some 8)]) (LE := [(0, .inr (some 0)), (1, .inl (lSy 6)), (2, .inl (lSy 5)), (3, .inl (lK 0)), (7, .inl (lAdd (lSy 31) (lK 1)))]) (cE := (lK 0)) (sE := (lK 0)) (wCallA (recv := 13) (pc := 275) (ix := 87) (nx := 3) (args := [.inl (lSy 40), .inl (lSy 41)]) (rest := [.inl (lSy 40), .inr (some 9)]) (LE := [(0, .inr (some 8)), (4, .inl (lAdd (lSy 31) (lK 1)))]) (cE := (lK 0)) (sE := (lK 0)) (wReL (XA := sp1X20.2.1) (XB := sp1X20.2.2.1) (XC := sp1X20.2.2.2.1) (rk := sp1X20.2.2.2.2) (rA := sp1QA20) (rB := sp1QB20) (ctp1_g0_G _ List.mem_cons_self) sp1L20) gq69 gq70 (by decide +kernel) (by decide +kernel) (by decide +kernel) (by decide +kernel) (by decide +kernel)) gq205 gq206 (by decide +kernel) (by decide +kernel) (by decide +kernel) (by decide +kernel) (by decide +kernel)) (by decide +kernel) (by decide +kernel)) (by decide) (by decide) (by decide) (by decide +kernel) (by decide +kernel)) (by decide) (by decide)
theorem sp1N21 {xs : Nat → Int32} {n : Nat} {sf : Option Nat} : wGoes x_KT x_tb x_tyl (x_otS xs n sf) lwFR lwGA.length lwGB.length 40 35 45 sp1WA sp1WB 69 205 62 62 sp1_op6 sp1o21 :=
  wDp (wWk (wEd_spec (x_ov0_le sf) u_ctS lwFRok sp1E21) (Nat.le_refl _) (Nat.le_refl _) (Nat.le_refl _) (by decide +kernel) (by decide +kernel)) (by decide) (by decide)
theorem sp1N22 {xs : Nat → Int32} {n : Nat} {sf : Option Nat} : wGoes x_KT x_tb x_tyl (x_otS xs n sf) lwFR lwGA.length lwGB.length 40 35 45 sp1WA sp1WB 69 205 62 62 sp1_c6_x sp1o22 :=
  wDp (wWk (wFamE2 (V := [41]) (x_ov0_le sf) u_ctS lwFRok sp1E22 (by decide) (by decide) (fun i hi u hu => by
      have hi : i ∈ ([41] : List Nat) := hi
      simp only [List.mem_cons, List.not_mem_nil, or_false] at hi
      rcases hi with rfl
      · exact gRk_spec (x_ov0_le sf) u_ctS lwFRok sp1E22 (by decide) (by decide) sp1E22G0 (by decide +kernel) _ (List.mem_cons_self) u hu)) (Nat.le_refl _) (Nat.le_refl _) (Nat.le_refl _) (by decide +kernel) (by decide +kernel)) (by decide) (by decide)
def rip1_g0_nd : List wE := [rip1_in, rip1_c, rip1_c_x]
theorem rip1_g0_G {xs : Nat → Int32} {n : Nat} {sf : Option Nat} : ∀ nd ∈ rip1_g0_nd, wGoes x_KT x_tb x_tyl (x_otS xs n sf) lwFR lwGA.length lwGB.length 41 35 45 rip1WA rip1WB 72 205 61 61 nd (rip1_g0_ex.map (fun x => (false, x))) := wGraph (fun nd hnd => by
  have hnd : nd ∈ ([rip1_in, rip1_c, rip1_c_x] : List wE) := hnd
  simp only [List.mem_cons, List.not_mem_nil, or_false] at hnd
  rcases hnd with rfl | rfl | rfl
  · refine ⟨rip1o1, rip1N1, fun o ho => ?_⟩
    have ho : o ∈ ([(true, rip1_c), (false, rip1_F)] : List (Bool × wE)) := ho
    simp only [List.mem_cons, List.not_mem_nil, or_false] at ho
    rcases ho with rfl | rfl
    · exact Or.inr ⟨rfl, List.mem_cons_of_mem _ (List.mem_cons_self)⟩
    · exact Or.inl (List.mem_cons_of_mem _ (List.mem_cons_self))
  · refine ⟨rip1o0, rip1N0, fun o ho => ?_⟩
    have ho : o ∈ ([(true, rip1_c_x)] : List (Bool × wE)) := ho
    simp only [List.mem_cons, List.not_mem_nil, or_false] at ho
    rcases ho with rfl
    · exact Or.inr ⟨rfl, List.mem_cons_of_mem _ (List.mem_cons_of_mem _ (List.mem_cons_self))⟩
  · refine ⟨rip1o2, rip1N2, fun o ho => ?_⟩
    have ho : o ∈ ([(false, rip1_X)] : List (Bool × wE)) := ho
    simp only [List.mem_cons, List.not_mem_nil, or_false] at ho
    rcases ho with rfl
    · exact Or.inl (List.mem_cons_self))
theorem sp1N23 {xs : Nat → Int32} {n : Nat} {sf : Option Nat} : wGoes x_KT x_tb x_tyl (x_otS xs n sf) lwFR lwGA.length lwGB.length 40 35 45 sp1WA sp1WB 69 205 62 62 sp1_c1 sp1o23 :=
  wDp (wWk (wEqvB (wCallA (recv := 8) (pc := 167) (ix := 91) (nx := 3) (args := [.inl (lSy 40)]) (rest := []) (LE := [(0, .inr (some 8)), (4, .inl (lAdd (lSy 31) (lK 1)))]) (cE := (lK 0)) (sE := (lK 0)) (wReL (XA := sp1X23.2.1) (XB := sp1X23.2.2.1) (XC := sp1X23.2.2.2.1) (rk := sp1X23.2.2.2.2) (rA := sp1QA23) (rB := sp1QB23) (rip1_g0_G _ List.mem_cons_self) sp1L23) gq69 gq72 (by decide +kernel) (by decide +kernel) (by decide +kernel) (by decide +kernel) (by decide +kernel)) (by decide +kernel) (by decide +kernel)) (by decide) (by decide) (by decide) (by decide +kernel) (by decide +kernel)) (by decide) (by decide)
theorem sp1N24 {xs : Nat → Int32} {n : Nat} {sf : Option Nat} : wGoes x_KT x_tb x_tyl (x_otS xs n sf) lwFR lwGA.length lwGB.length 40 35 45 sp1WA sp1WB 69 205 62 62 sp1_op1 sp1o24 :=
  wDp (wWk (wEd_spec (x_ov0_le sf) u_ctS lwFRok sp1E24) (Nat.le_refl _) (Nat.le_refl _) (Nat.le_refl _) (by decide +kernel) (by decide +kernel)) (by decide) (by decide)
theorem sp1N25 {xs : Nat → Int32} {n : Nat} {sf : Option Nat} : wGoes x_KT x_tb x_tyl (x_otS xs n sf) lwFR lwGA.length lwGB.length 40 35 45 sp1WA sp1WB 69 205 62 62 sp1_c1_X sp1o25 :=
  wDp (wWk (wEd_spec (x_ov0_le sf) u_ctS lwFRok sp1E25) (Nat.le_refl _) (Nat.le_refl _) (Nat.le_refl _) (by decide +kernel) (by decide +kernel)) (by decide) (by decide)
theorem sp1N26 {xs : Nat → Int32} {n : Nat} {sf : Option Nat} : wGoes x_KT x_tb x_tyl (x_otS xs n sf) lwFR lwGA.length lwGB.length 40 35 45 sp1WA sp1WB 69 205 62 62 sp1_c1_F sp1o26 :=
  wDp (wWk (wEd_spec (x_ov0_le sf) u_ctS lwFRok sp1E26) (Nat.le_refl _) (Nat.le_refl _) (Nat.le_refl _) (by decide +kernel) (by decide +kernel)) (by decide) (by decide)
theorem sp1N27 {xs : Nat → Int32} {n : Nat} {sf : Option Nat} : wGoes x_KT x_tb x_tyl (x_otS xs n sf) lwFR lwGA.length lwGB.length 40 35 45 sp1WA sp1WB 69 205 62 62 sp1_c7a sp1o27 :=
  wDp (wWk (wEqvB (wCallB (recv := 0) (pc := 446) (ix := 288) (nx := 3) (args := [.inl (lSy 6), .inl (lSy 40), .inl (lK 0)]) (rest := []) (LE := [(0, .inr (some 0)), (1, .inl (lSy 6)), (2, .inl (lSy 5)), (3, .inl (lK 0)), (4, .inr (some 42)), (5, .inl (lSc 4 (lSy 31))), (7, .inl (lAdd (lSy 31) (lK 1)))]) (cE := (lK 0)) (sE := (lK 0)) (wCallA (recv := 8) (pc := 284) (ix := 98) (nx := 3) (args := [.inl (lSy 40)]) (rest := []) (LE := [(0, .inr (some 8)), (2, .inl (lSy 41)), (3, .inl (lSy 42)), (4, .inl (lAdd (lSy 31) (lK 1)))]) (cE := (lK 0)) (sE := (lK 0)) (wReL (XA := sp1X27.2.1) (XB := sp1X27.2.2.1) (XC := sp1X27.2.2.2.1) (rk := sp1X27.2.2.2.2) (rA := sp1QA27) (rB := sp1QB27) (mnp1_g0_G _ List.mem_cons_self) sp1L27) gq69 gq76 (by decide +kernel) (by decide +kernel) (by decide +kernel) (by decide +kernel) (by decide +kernel)) gq205 gq209 (by decide +kernel) (by decide +kernel) (by decide +kernel) (by decide +kernel) (by decide +kernel)) (by decide +kernel) (by decide +kernel)) (by decide) (by decide) (by decide) (by decide +kernel) (by decide +kernel)) (by decide) (by decide)
theorem sp1N28 {xs : Nat → Int32} {n : Nat} {sf : Option Nat} : wGoes x_KT x_tb x_tyl (x_otS xs n sf) lwFR lwGA.length lwGB.length 40 35 45 sp1WA sp1WB 69 205 62 62 sp1_c7b sp1o28 :=
  wDp (wWk (wEqvB (wCallB (recv := 0) (pc := 459) (ix := 288) (nx := 3) (args := [.inl (lSy 6), .inl (lSy 40), .inl (lK 0)]) (rest := [.inl (lSy 43)]) (LE := [(0, .inr (some 0)), (1, .inl (lSy 6)), (2, .inl (lSy 5)), (3, .inl (lK 0)), (4, .inr (some 42)), (5, .inl (lSc 4 (lSy 31))), (7, .inl (lAdd (lSy 31) (lK 1)))]) (cE := (lK 0)) (sE := (lK 0)) (wCallA (recv := 8) (pc := 289) (ix := 98) (nx := 3) (args := [.inl (lSy 40)]) (rest := [.inl (lSy 43)]) (LE := [(0, .inr (some 8)), (2, .inl (lSy 41)), (3, .inl (lSy 42)), (4, .inl (lAdd (lSy 31) (lK 1)))]) (cE := (lK 0)) (sE := (lK 0)) (wReL (XA := sp1X28.2.1) (XB := sp1X28.2.2.1) (XC := sp1X28.2.2.2.1) (rk := sp1X28.2.2.2.2) (rA := sp1QA28) (rB := sp1QB28) (mnp1_g0_G _ List.mem_cons_self) sp1L28) gq69 gq76 (by decide +kernel) (by decide +kernel) (by decide +kernel) (by decide +kernel) (by decide +kernel)) gq205 gq209 (by decide +kernel) (by decide +kernel) (by decide +kernel) (by decide +kernel) (by decide +kernel)) (by decide +kernel) (by decide +kernel)) (by decide) (by decide) (by decide) (by decide +kernel) (by decide +kernel)) (by decide) (by decide)
theorem sp1N29 {xs : Nat → Int32} {n : Nat} {sf : Option Nat} : wGoes x_KT x_tb x_tyl (x_otS xs n sf) lwFR lwGA.length lwGB.length 40 35 45 sp1WA sp1WB 69 205 62 62 sp1_op7 sp1o29 :=
  wDp (wWk (wEd_spec (x_ov0_le sf) u_ctS lwFRok sp1E29) (Nat.le_refl _) (Nat.le_refl _) (Nat.le_refl _) (by decide +kernel) (by decide +kernel)) (by decide) (by decide)
theorem sp1N30 {xs : Nat → Int32} {n : Nat} {sf : Option Nat} : wGoes x_KT x_tb x_tyl (x_otS xs n sf) lwFR lwGA.length lwGB.length 40 35 45 sp1WA sp1WB 69 205 62 62 sp1_c7a_x sp1o30 :=
  wDp (wWk (wEd_spec (x_ov0_le sf) u_ctS lwFRok sp1E30) (Nat.le_refl _) (Nat.le_refl _) (Nat.le_refl _) (by decide +kernel) (by decide +kernel)) (by decide) (by decide)
theorem sp1N31 {xs : Nat → Int32} {n : Nat} {sf : Option Nat} : wGoes x_KT x_tb x_tyl (x_otS xs n sf) lwFR lwGA.length lwGB.length 40 35 45 sp1WA sp1WB 69 205 62 62 sp1_c7b_x sp1o31 :=
  wDp (wWk (wEd_spec (x_ov0_le sf) u_ctS lwFRok sp1E31) (Nat.le_refl _) (Nat.le_refl _) (Nat.le_refl _) (by decide +kernel) (by decide +kernel)) (by decide) (by decide)
theorem sp1N32 {xs : Nat → Int32} {n : Nat} {sf : Option Nat} : wGoes x_KT x_tb x_tyl (x_otS xs n sf) lwFR lwGA.length lwGB.length 40 35 45 sp1WA sp1WB 69 205 62 62 sp1_c11a sp1o32 :=
  wDp (wWk (wEqvB (wCallB (recv := 0) (pc := 492) (ix := 288) (nx := 3) (args := [.inl (lSy 6), .inl (lSy 40), .inl (lK 0)]) (rest := []) (LE := [(0, .inr (some 0)), (1, .inl (lSy 6)), (2, .inl (lSy 5)), (3, .inl (lK 0)), (4, .inr (some 42)), (5, .inl (lSc 4 (lSy 31))), (7, .inl (lAdd (lSy 31) (lK 1)))]) (cE := (lK 0)) (sE := (lK 0)) (wCallA (recv := 8) (pc := 308) (ix := 98) (nx := 3) (args := [.inl (lSy 40)]) (rest := []) (LE := [(0, .inr (some 8)), (2, .inl (lSy 41)), (3, .inl (lSy 42)), (4, .inl (lAdd (lSy 31) (lK 1)))]) (cE := (lK 0)) (sE := (lK 0)) (wReL (XA := sp1X32.2.1) (XB := sp1X32.2.2.1) (XC := sp1X32.2.2.2.1) (rk := sp1X32.2.2.2.2) (rA := sp1QA32) (rB := sp1QB32) (mnp1_g0_G _ List.mem_cons_self) sp1L32) gq69 gq76 (by decide +kernel) (by decide +kernel) (by decide +kernel) (by decide +kernel) (by decide +kernel)) gq205 gq209 (by decide +kernel) (by decide +kernel) (by decide +kernel) (by decide +kernel) (by decide +kernel)) (by decide +kernel) (by decide +kernel)) (by decide) (by decide) (by decide) (by decide +kernel) (by decide +kernel)) (by decide) (by decide)
theorem sp1N33 {xs : Nat → Int32} {n : Nat} {sf : Option Nat} : wGoes x_KT x_tb x_tyl (x_otS xs n sf) lwFR lwGA.length lwGB.length 40 35 45 sp1WA sp1WB 69 205 62 62 sp1_c11b sp1o33 :=
  wDp (wWk (wEqvB (wCallB (recv := 0) (pc := 505) (ix := 288) (nx := 3) (args := [.inl (lSy 6), .inl (lSy 40), .inl (lK 0)]) (rest := [.inl (lSy 43)]) (LE := [(0, .inr (some 0)), (1, .inl (lSy 6)), (2, .inl (lSy 5)), (3, .inl (lK 0)), (4, .inr (some 42)), (5, .inl (lSc 4 (lSy 31))), (7, .inl (lAdd (lSy 31) (lK 1)))]) (cE := (lK 0)) (sE := (lK 0)) (wCallA (recv := 8) (pc := 313) (ix := 98) (nx := 3) (args := [.inl (lSy 40)]) (rest := [.inl (lSy 43)]) (LE := [(0, .inr (some 8)), (2, .inl (lSy 41)), (3, .inl (lSy 42)), (4, .inl (lAdd (lSy 31) (lK 1)))]) (cE := (lK 0)) (sE := (lK 0)) (wReL (XA := sp1X33.2.1) (XB := sp1X33.2.2.1) (XC := sp1X33.2.2.2.1) (rk := sp1X33.2.2.2.2) (rA := sp1QA33) (rB := sp1QB33) (mnp1_g0_G _ List.mem_cons_self) sp1L33) gq69 gq76 (by decide +kernel) (by decide +kernel) (by decide +kernel) (by decide +kernel) (by decide +kernel)) gq205 gq209 (by decide +kernel) (by decide +kernel) (by decide +kernel) (by decide +kernel) (by decide +kernel)) (by decide +kernel) (by decide +kernel)) (by decide) (by decide) (by decide) (by decide +kernel) (by decide +kernel)) (by decide) (by decide)
theorem sp1N34 {xs : Nat → Int32} {n : Nat} {sf : Option Nat} : wGoes x_KT x_tb x_tyl (x_otS xs n sf) lwFR lwGA.length lwGB.length 40 35 45 sp1WA sp1WB 69 205 62 62 sp1_op11 sp1o34 :=
  wDp (wWk (wEd_spec (x_ov0_le sf) u_ctS lwFRok sp1E34) (Nat.le_refl _) (Nat.le_refl _) (Nat.le_refl _) (by decide +kernel) (by decide +kernel)) (by decide) (by decide)
theorem sp1N35 {xs : Nat → Int32} {n : Nat} {sf : Option Nat} : wGoes x_KT x_tb x_tyl (x_otS xs n sf) lwFR lwGA.length lwGB.length 40 35 45 sp1WA sp1WB 69 205 62 62 sp1_c11a_x sp1o35 :=
  wDp (wWk (wEd_spec (x_ov0_le sf) u_ctS lwFRok sp1E35) (Nat.le_refl _) (Nat.le_refl _) (Nat.le_refl _) (by decide +kernel) (by decide +kernel)) (by decide) (by decide)
theorem sp1N36 {xs : Nat → Int32} {n : Nat} {sf : Option Nat} : wGoes x_KT x_tb x_tyl (x_otS xs n sf) lwFR lwGA.length lwGB.length 40 35 45 sp1WA sp1WB 69 205 62 62 sp1_c11b_x sp1o36 :=
  wDp (wWk (wEd_spec (x_ov0_le sf) u_ctS lwFRok sp1E36) (Nat.le_refl _) (Nat.le_refl _) (Nat.le_refl _) (by decide +kernel) (by decide +kernel)) (by decide) (by decide)
def lep1_g0_nd : List wE := [lep1_in, lep1_c, lep1_c_x]
theorem lep1_g0_G {xs : Nat → Int32} {n : Nat} {sf : Option Nat} : ∀ nd ∈ lep1_g0_nd, wGoes x_KT x_tb x_tyl (x_otS xs n sf) lwFR lwGA.length lwGB.length 44 35 45 lep1WA lep1WB 69 210 61 61 nd (lep1_g0_ex.map (fun x => (false, x))) := wGraph (fun nd hnd => by
  have hnd : nd ∈ ([lep1_in, lep1_c, lep1_c_x] : List wE) := hnd
  simp only [List.mem_cons, List.not_mem_nil, or_false] at hnd
  rcases hnd with rfl | rfl | rfl
  · refine ⟨lep1o1, lep1N1, fun o ho => ?_⟩
    have ho : o ∈ ([(true, lep1_c)] : List (Bool × wE)) := ho
    simp only [List.mem_cons, List.not_mem_nil, or_false] at ho
    rcases ho with rfl
    · exact Or.inr ⟨rfl, List.mem_cons_of_mem _ (List.mem_cons_self)⟩
  · refine ⟨lep1o0, lep1N0, fun o ho => ?_⟩
    have ho : o ∈ ([(true, lep1_c_x)] : List (Bool × wE)) := ho
    simp only [List.mem_cons, List.not_mem_nil, or_false] at ho
    rcases ho with rfl
    · exact Or.inr ⟨rfl, List.mem_cons_of_mem _ (List.mem_cons_of_mem _ (List.mem_cons_self))⟩
  · refine ⟨lep1o2, lep1N2, fun o ho => ?_⟩
    have ho : o ∈ ([(false, lep1_x)] : List (Bool × wE)) := ho
    simp only [List.mem_cons, List.not_mem_nil, or_false] at ho
    rcases ho with rfl
    · exact Or.inl (List.mem_cons_self))
theorem sp1N37 {xs : Nat → Int32} {n : Nat} {sf : Option Nat} : wGoes x_KT x_tb x_tyl (x_otS xs n sf) lwFR lwGA.length lwGB.length 40 35 45 sp1WA sp1WB 69 205 62 62 sp1_c8 sp1o37 :=
  wDp (wWk (wEqvB (wCallB (recv := 0) (pc := 538) (ix := 301) (nx := 3) (args := [.inl (lSy 6), .inl (lSy 40), .inl (lK 0)]) (rest := []) (LE := [(0, .inr (some 0)), (1, .inl (lSy 6)), (2, .inl (lSy 5)), (3, .inl (lK 0)), (4, .inr (some 42)), (5, .inl (lSc 4 (lSy 31))), (7, .inl (lAdd (lSy 31) (lK 1)))]) (cE := (lK 0)) (sE := (lK 0)) (wReL (XA := sp1X37.2.1) (XB := sp1X37.2.2.1) (XC := sp1X37.2.2.2.1) (rk := sp1X37.2.2.2.2) (rA := sp1QA37) (rB := sp1QB37) (lep1_g0_G _ List.mem_cons_self) sp1L37) gq205 gq210 (by decide +kernel) (by decide +kernel) (by decide +kernel) (by decide +kernel) (by decide +kernel)) (by decide +kernel) (by decide +kernel)) (by decide) (by decide) (by decide) (by decide +kernel) (by decide +kernel)) (by decide) (by decide)
theorem sp1N38 {xs : Nat → Int32} {n : Nat} {sf : Option Nat} : wGoes x_KT x_tb x_tyl (x_otS xs n sf) lwFR lwGA.length lwGB.length 40 35 45 sp1WA sp1WB 69 205 62 62 sp1_op8 sp1o38 :=
  wDp (wWk (wEd_spec (x_ov0_le sf) u_ctS lwFRok sp1E38) (Nat.le_refl _) (Nat.le_refl _) (Nat.le_refl _) (by decide +kernel) (by decide +kernel)) (by decide) (by decide)
theorem sp1N39 {xs : Nat → Int32} {n : Nat} {sf : Option Nat} : wGoes x_KT x_tb x_tyl (x_otS xs n sf) lwFR lwGA.length lwGB.length 40 35 45 sp1WA sp1WB 69 205 62 62 sp1_c8_x sp1o39 :=
  wDp (wWk (wEd_spec (x_ov0_le sf) u_ctS lwFRok sp1E39) (Nat.le_refl _) (Nat.le_refl _) (Nat.le_refl _) (by decide +kernel) (by decide +kernel)) (by decide) (by decide)
theorem sb1N0 {xs : Nat → Int32} {n : Nat} {sf : Option Nat} : wGoes x_KT x_tb x_tyl (x_otS xs n sf) lwFR lwGA.length lwGB.length 43 35 45 sb1WA sb1WB 113 205 60 60 sb1_in sb1o0 :=
  wDp (wWk (wEd_spec (x_ov0_le sf) u_ctS lwFRok sb1E0) (Nat.le_refl _) (Nat.le_refl _) (Nat.le_refl _) (by decide +kernel) (by decide +kernel)) (by decide) (by decide)
theorem sb1N1 {xs : Nat → Int32} {n : Nat} {sf : Option Nat} : wGoes x_KT x_tb x_tyl (x_otS xs n sf) lwFR lwGA.length lwGB.length 43 35 45 sb1WA sb1WB 113 205 60 60 sb1_op0 sb1o1 :=
  wDp (wWk (wFamE2 (V := [41]) (x_ov0_le sf) u_ctS lwFRok sb1E1 (by decide) (by decide) (fun i hi u hu => by
      have hi : i ∈ ([41] : List Nat) := hi
      simp only [List.mem_cons, List.not_mem_nil, or_false] at hi
      rcases hi with rfl
      · cases hu
        exact wRkE_spec (x_ov0_le sf) u_ctS lwFRok sb1E1R41)) (Nat.le_refl _) (Nat.le_refl _) (Nat.le_refl _) (by decide +kernel) (by decide +kernel)) (by decide) (by decide)
theorem sb1N2 {xs : Nat → Int32} {n : Nat} {sf : Option Nat} : wGoes x_KT x_tb x_tyl (x_otS xs n sf) lwFR lwGA.length lwGB.length 43 35 45 sb1WA sb1WB 113 205 60 60 sb1_op1 sb1o2 :=
  wDp (wWk (wFamE2 (V := [41, 47]) (x_ov0_le sf) u_ctS lwFRok sb1E2 (by decide) (by decide) (fun i hi u hu => by
      have hi : i ∈ ([41, 47] : List Nat) := hi
      simp only [List.mem_cons, List.not_mem_nil, or_false] at hi
      rcases hi with rfl | rfl
      · cases hu
        exact wRkE_spec (x_ov0_le sf) u_ctS lwFRok sb1E2R41
      · cases hu
        exact wRkE_spec (x_ov0_le sf) u_ctS lwFRok sb1E2R47)) (Nat.le_refl _) (Nat.le_refl _) (Nat.le_refl _) (by decide +kernel) (by decide +kernel)) (by decide) (by decide)
theorem sb1N3 {xs : Nat → Int32} {n : Nat} {sf : Option Nat} : wGoes x_KT x_tb x_tyl (x_otS xs n sf) lwFR lwGA.length lwGB.length 43 35 45 sb1WA sb1WB 113 205 60 60 sb1_op2 sb1o3 :=
  wDp (wWk (wFamE2 (V := [43]) (x_ov0_le sf) u_ctS lwFRok sb1E3 (by decide) (by decide) (fun i hi u hu => by
      have hi : i ∈ ([43] : List Nat) := hi
      simp only [List.mem_cons, List.not_mem_nil, or_false] at hi
      rcases hi with rfl
      · cases hu
        exact wRkE_spec (x_ov0_le sf) u_ctS lwFRok sb1E3R43)) (Nat.le_refl _) (Nat.le_refl _) (Nat.le_refl _) (by decide +kernel) (by decide +kernel)) (by decide) (by decide)
theorem sb1N4 {xs : Nat → Int32} {n : Nat} {sf : Option Nat} : wGoes x_KT x_tb x_tyl (x_otS xs n sf) lwFR lwGA.length lwGB.length 43 35 45 sb1WA sb1WB 113 205 60 60 sb1_op3 sb1o4 :=
  wDp (wWk (wFamE2 (V := [41]) (x_ov0_le sf) u_ctS lwFRok sb1E4 (by decide) (by decide) (fun i hi u hu => by
      have hi : i ∈ ([41] : List Nat) := hi
      simp only [List.mem_cons, List.not_mem_nil, or_false] at hi
      rcases hi with rfl
      · cases hu
        exact wRkE_spec (x_ov0_le sf) u_ctS lwFRok sb1E4R41)) (Nat.le_refl _) (Nat.le_refl _) (Nat.le_refl _) (by decide +kernel) (by decide +kernel)) (by decide) (by decide)
theorem sb1N5 {xs : Nat → Int32} {n : Nat} {sf : Option Nat} : wGoes x_KT x_tb x_tyl (x_otS xs n sf) lwFR lwGA.length lwGB.length 43 35 45 sb1WA sb1WB 113 205 60 60 sb1_op4 sb1o5 :=
  wDp (wWk (wFamE2 (V := [41]) (x_ov0_le sf) u_ctS lwFRok sb1E5 (by decide) (by decide) (fun i hi u hu => by
      have hi : i ∈ ([41] : List Nat) := hi
      simp only [List.mem_cons, List.not_mem_nil, or_false] at hi
      rcases hi with rfl
      · cases hu
        exact wRkE_spec (x_ov0_le sf) u_ctS lwFRok sb1E5R41)) (Nat.le_refl _) (Nat.le_refl _) (Nat.le_refl _) (by decide +kernel) (by decide +kernel)) (by decide) (by decide)
theorem sb1N6 {xs : Nat → Int32} {n : Nat} {sf : Option Nat} : wGoes x_KT x_tb x_tyl (x_otS xs n sf) lwFR lwGA.length lwGB.length 43 35 45 sb1WA sb1WB 113 205 60 60 sb1_op5 sb1o6 :=
  wDp (wWk (wFamE2 (V := [41]) (x_ov0_le sf) u_ctS lwFRok sb1E6 (by decide) (by decide) (fun i hi u hu => by
      have hi : i ∈ ([41] : List Nat) := hi
      simp only [List.mem_cons, List.not_mem_nil, or_false] at hi
      rcases hi with rfl
      · cases hu
        exact wRkE_spec (x_ov0_le sf) u_ctS lwFRok sb1E6R41)) (Nat.le_refl _) (Nat.le_refl _) (Nat.le_refl _) (by decide +kernel) (by decide +kernel)) (by decide) (by decide)
theorem sb1N7 {xs : Nat → Int32} {n : Nat} {sf : Option Nat} : wGoes x_KT x_tb x_tyl (x_otS xs n sf) lwFR lwGA.length lwGB.length 43 35 45 sb1WA sb1WB 113 205 60 60 sb1_op6 sb1o7 :=
  wDp (wWk (wFamE2 (V := [41]) (x_ov0_le sf) u_ctS lwFRok sb1E7 (by decide) (by decide) (fun i hi u hu => by
      have hi : i ∈ ([41] : List Nat) := hi
      simp only [List.mem_cons, List.not_mem_nil, or_false] at hi
      rcases hi with rfl
      · cases hu
        exact wRkE_spec (x_ov0_le sf) u_ctS lwFRok sb1E7R41)) (Nat.le_refl _) (Nat.le_refl _) (Nat.le_refl _) (by decide +kernel) (by decide +kernel)) (by decide) (by decide)
theorem sb1N8 {xs : Nat → Int32} {n : Nat} {sf : Option Nat} : wGoes x_KT x_tb x_tyl (x_otS xs n sf) lwFR lwGA.length lwGB.length 43 35 45 sb1WA sb1WB 113 205 60 60 sb1_op7 sb1o8 :=
  wDp (wWk (wEd_spec (x_ov0_le sf) u_ctS lwFRok sb1E8) (Nat.le_refl _) (Nat.le_refl _) (Nat.le_refl _) (by decide +kernel) (by decide +kernel)) (by decide) (by decide)
theorem sb1N9 {xs : Nat → Int32} {n : Nat} {sf : Option Nat} : wGoes x_KT x_tb x_tyl (x_otS xs n sf) lwFR lwGA.length lwGB.length 43 35 45 sb1WA sb1WB 113 205 60 60 sb1_op8 sb1o9 :=
  wDp (wWk (wEd_spec (x_ov0_le sf) u_ctS lwFRok sb1E9) (Nat.le_refl _) (Nat.le_refl _) (Nat.le_refl _) (by decide +kernel) (by decide +kernel)) (by decide) (by decide)
theorem sb1N10 {xs : Nat → Int32} {n : Nat} {sf : Option Nat} : wGoes x_KT x_tb x_tyl (x_otS xs n sf) lwFR lwGA.length lwGB.length 43 35 45 sb1WA sb1WB 113 205 60 60 sb1_op9 sb1o10 :=
  wDp (wWk (wEd_spec (x_ov0_le sf) u_ctS lwFRok sb1E10) (Nat.le_refl _) (Nat.le_refl _) (Nat.le_refl _) (by decide +kernel) (by decide +kernel)) (by decide) (by decide)
theorem sb1N11 {xs : Nat → Int32} {n : Nat} {sf : Option Nat} : wGoes x_KT x_tb x_tyl (x_otS xs n sf) lwFR lwGA.length lwGB.length 43 35 45 sb1WA sb1WB 113 205 60 60 sb1_op10 sb1o11 :=
  wDp (wWk (wEd_spec (x_ov0_le sf) u_ctS lwFRok sb1E11) (Nat.le_refl _) (Nat.le_refl _) (Nat.le_refl _) (by decide +kernel) (by decide +kernel)) (by decide) (by decide)
theorem sb1N12 {xs : Nat → Int32} {n : Nat} {sf : Option Nat} : wGoes x_KT x_tb x_tyl (x_otS xs n sf) lwFR lwGA.length lwGB.length 43 35 45 sb1WA sb1WB 113 205 60 60 sb1_op11 sb1o12 :=
  wDp (wWk (wEd_spec (x_ov0_le sf) u_ctS lwFRok sb1E12) (Nat.le_refl _) (Nat.le_refl _) (Nat.le_refl _) (by decide +kernel) (by decide +kernel)) (by decide) (by decide)
theorem fb1N0 {xs : Nat → Int32} {n : Nat} {sf : Option Nat} : wGoes x_KT x_tb x_tyl (x_otS xs n sf) lwFR lwGA.length lwGB.length 29 35 45 fb1WA fb1WB 116 203 63 63 fb1_in fb1o0 :=
  wDp (wWk (wFamE2 (V := [41, 43, 47]) (x_ov0_le sf) u_ctS lwFRok fb1E0 (by decide) (by decide) (fun i hi u hu => by
      have hi : i ∈ ([41, 43, 47] : List Nat) := hi
      simp only [List.mem_cons, List.not_mem_nil, or_false] at hi
      rcases hi with rfl | rfl | rfl
      · cases hu
        exact wRkE_spec (x_ov0_le sf) u_ctS lwFRok fb1E0R41
      · cases hu
        exact wRkE_spec (x_ov0_le sf) u_ctS lwFRok fb1E0R43
      · cases hu
        exact wRkE_spec (x_ov0_le sf) u_ctS lwFRok fb1E0R47)) (Nat.le_refl _) (Nat.le_refl _) (Nat.le_refl _) (by decide +kernel) (by decide +kernel)) (by decide) (by decide)
def sp1_g0_nd : List wE := [sp1_in, sp1_op0, sp1_op1, sp1_op2, sp1_op3, sp1_op4, sp1_op5, sp1_op6, sp1_op7, sp1_op8, sp1_op9, sp1_op10, sp1_op11, sp1_c0, sp1_c1, sp1_L, sp1_c3, sp1_c4, sp1_c5, sp1_c6, sp1_c7a, sp1_c8, sp1_M, sp1_c11a, sp1_c0_x, sp1_c1_X, sp1_c1_F, sp1_M2, sp1_F, sp1_c3_x, sp1_c4_x, sp1_c5_x, sp1_c6_x, sp1_c7a_x, sp1_c8_x, sp1_c11a_x, sp1_c7b, sp1_c11b, sp1_c7b_x, sp1_c11b_x]
theorem sp1_g0_G {xs : Nat → Int32} {n : Nat} {sf : Option Nat} : ∀ nd ∈ sp1_g0_nd, wGoes x_KT x_tb x_tyl (x_otS xs n sf) lwFR lwGA.length lwGB.length 40 35 45 sp1WA sp1WB 69 205 62 62 nd (sp1_g0_ex.map (fun x => (false, x))) := wGraph (fun nd hnd => by
  have hnd : nd ∈ ([sp1_in, sp1_op0, sp1_op1, sp1_op2, sp1_op3, sp1_op4, sp1_op5, sp1_op6, sp1_op7, sp1_op8, sp1_op9, sp1_op10, sp1_op11, sp1_c0, sp1_c1, sp1_L, sp1_c3, sp1_c4, sp1_c5, sp1_c6, sp1_c7a, sp1_c8, sp1_M, sp1_c11a, sp1_c0_x, sp1_c1_X, sp1_c1_F, sp1_M2, sp1_F, sp1_c3_x, sp1_c4_x, sp1_c5_x, sp1_c6_x, sp1_c7a_x, sp1_c8_x, sp1_c11a_x, sp1_c7b, sp1_c11b, sp1_c7b_x, sp1_c11b_x] : List wE) := hnd
  simp only [List.mem_cons, List.not_mem_nil, or_false] at hnd
  rcases hnd with rfl | rfl | rfl | rfl | rfl | rfl | rfl | rfl | rfl | rfl | rfl | rfl | rfl | rfl | rfl | rfl | rfl | rfl | rfl | rfl | rfl | rfl | rfl | rfl | rfl | rfl | rfl | rfl | rfl | rfl | rfl | rfl | rfl | rfl | rfl | rfl | rfl | rfl | rfl | rfl
  · refine ⟨sp1o0, sp1N0, fun o ho => ?_⟩
    have ho : o ∈ ([(true, sp1_op0), (true, sp1_op1), (true, sp1_op2), (true, sp1_op3), (true, sp1_op4), (true, sp1_op5), (true, sp1_op6), (true, sp1_op7), (true, sp1_op8), (true, sp1_op9), (true, sp1_op10), (true, sp1_op11)] : List (Bool × wE)) := ho
    simp only [List.mem_cons, List.not_mem_nil, or_false] at ho
    rcases ho with rfl | rfl | rfl | rfl | rfl | rfl | rfl | rfl | rfl | rfl | rfl | rfl
    · exact Or.inr ⟨rfl, List.mem_cons_of_mem _ (List.mem_cons_self)⟩
    · exact Or.inr ⟨rfl, List.mem_cons_of_mem _ (List.mem_cons_of_mem _ (List.mem_cons_self))⟩
    · exact Or.inr ⟨rfl, List.mem_cons_of_mem _ (List.mem_cons_of_mem _ (List.mem_cons_of_mem _ (List.mem_cons_self)))⟩
    · exact Or.inr ⟨rfl, List.mem_cons_of_mem _ (List.mem_cons_of_mem _ (List.mem_cons_of_mem _ (List.mem_cons_of_mem _ (List.mem_cons_self))))⟩
    · exact Or.inr ⟨rfl, List.mem_cons_of_mem _ (List.mem_cons_of_mem _ (List.mem_cons_of_mem _ (List.mem_cons_of_mem _ (List.mem_cons_of_mem _ (List.mem_cons_self)))))⟩
    · exact Or.inr ⟨rfl, List.mem_cons_of_mem _ (List.mem_cons_of_mem _ (List.mem_cons_of_mem _ (List.mem_cons_of_mem _ (List.mem_cons_of_mem _ (List.mem_cons_of_mem _ (List.mem_cons_self))))))⟩
    · exact Or.inr ⟨rfl, List.mem_cons_of_mem _ (List.mem_cons_of_mem _ (List.mem_cons_of_mem _ (List.mem_cons_of_mem _ (List.mem_cons_of_mem _ (List.mem_cons_of_mem _ (List.mem_cons_of_mem _ (List.mem_cons_self)))))))⟩
    · exact Or.inr ⟨rfl, List.mem_cons_of_mem _ (List.mem_cons_of_mem _ (List.mem_cons_of_mem _ (List.mem_cons_of_mem _ (List.mem_cons_of_mem _ (List.mem_cons_of_mem _ (List.mem_cons_of_mem _ (List.mem_cons_of_mem _ (List.mem_cons_self))))))))⟩
    · exact Or.inr ⟨rfl, List.mem_cons_of_mem _ (List.mem_cons_of_mem _ (List.mem_cons_of_mem _ (List.mem_cons_of_mem _ (List.mem_cons_of_mem _ (List.mem_cons_of_mem _ (List.mem_cons_of_mem _ (List.mem_cons_of_mem _ (List.mem_cons_of_mem _ (List.mem_cons_self)))))))))⟩
    · exact Or.inr ⟨rfl, List.mem_cons_of_mem _ (List.mem_cons_of_mem _ (List.mem_cons_of_mem _ (List.mem_cons_of_mem _ (List.mem_cons_of_mem _ (List.mem_cons_of_mem _ (List.mem_cons_of_mem _ (List.mem_cons_of_mem _ (List.mem_cons_of_mem _ (List.mem_cons_of_mem _ (List.mem_cons_self))))))))))⟩
    · exact Or.inr ⟨rfl, List.mem_cons_of_mem _ (List.mem_cons_of_mem _ (List.mem_cons_of_mem _ (List.mem_cons_of_mem _ (List.mem_cons_of_mem _ (List.mem_cons_of_mem _ (List.mem_cons_of_mem _ (List.mem_cons_of_mem _ (List.mem_cons_of_mem _ (List.mem_cons_of_mem _ (List.mem_cons_of_mem _ (List.mem_cons_self)))))))))))⟩
    · exact Or.inr ⟨rfl, List.mem_cons_of_mem _ (List.mem_cons_of_mem _ (List.mem_cons_of_mem _ (List.mem_cons_of_mem _ (List.mem_cons_of_mem _ (List.mem_cons_of_mem _ (List.mem_cons_of_mem _ (List.mem_cons_of_mem _ (List.mem_cons_of_mem _ (List.mem_cons_of_mem _ (List.mem_cons_of_mem _ (List.mem_cons_of_mem _ (List.mem_cons_self))))))))))))⟩
  · refine ⟨sp1o9, sp1N9, fun o ho => ?_⟩
    have ho : o ∈ ([(true, sp1_c0)] : List (Bool × wE)) := ho
    simp only [List.mem_cons, List.not_mem_nil, or_false] at ho
    rcases ho with rfl
    · exact Or.inr ⟨rfl, List.mem_cons_of_mem _ (List.mem_cons_of_mem _ (List.mem_cons_of_mem _ (List.mem_cons_of_mem _ (List.mem_cons_of_mem _ (List.mem_cons_of_mem _ (List.mem_cons_of_mem _ (List.mem_cons_of_mem _ (List.mem_cons_of_mem _ (List.mem_cons_of_mem _ (List.mem_cons_of_mem _ (List.mem_cons_of_mem _ (List.mem_cons_of_mem _ (List.mem_cons_self)))))))))))))⟩
  · refine ⟨sp1o24, sp1N24, fun o ho => ?_⟩
    have ho : o ∈ ([(true, sp1_c1)] : List (Bool × wE)) := ho
    simp only [List.mem_cons, List.not_mem_nil, or_false] at ho
    rcases ho with rfl
    · exact Or.inr ⟨rfl, List.mem_cons_of_mem _ (List.mem_cons_of_mem _ (List.mem_cons_of_mem _ (List.mem_cons_of_mem _ (List.mem_cons_of_mem _ (List.mem_cons_of_mem _ (List.mem_cons_of_mem _ (List.mem_cons_of_mem _ (List.mem_cons_of_mem _ (List.mem_cons_of_mem _ (List.mem_cons_of_mem _ (List.mem_cons_of_mem _ (List.mem_cons_of_mem _ (List.mem_cons_of_mem _ (List.mem_cons_self))))))))))))))⟩
  · refine ⟨sp1o2, sp1N2, fun o ho => ?_⟩
    have ho : o ∈ ([(true, sp1_L)] : List (Bool × wE)) := ho
    simp only [List.mem_cons, List.not_mem_nil, or_false] at ho
    rcases ho with rfl
    · exact Or.inr ⟨rfl, List.mem_cons_of_mem _ (List.mem_cons_of_mem _ (List.mem_cons_of_mem _ (List.mem_cons_of_mem _ (List.mem_cons_of_mem _ (List.mem_cons_of_mem _ (List.mem_cons_of_mem _ (List.mem_cons_of_mem _ (List.mem_cons_of_mem _ (List.mem_cons_of_mem _ (List.mem_cons_of_mem _ (List.mem_cons_of_mem _ (List.mem_cons_of_mem _ (List.mem_cons_of_mem _ (List.mem_cons_of_mem _ (List.mem_cons_self)))))))))))))))⟩
  · refine ⟨sp1o12, sp1N12, fun o ho => ?_⟩
    have ho : o ∈ ([(true, sp1_c3)] : List (Bool × wE)) := ho
    simp only [List.mem_cons, List.not_mem_nil, or_false] at ho
    rcases ho with rfl
    · exact Or.inr ⟨rfl, List.mem_cons_of_mem _ (List.mem_cons_of_mem _ (List.mem_cons_of_mem _ (List.mem_cons_of_mem _ (List.mem_cons_of_mem _ (List.mem_cons_of_mem _ (List.mem_cons_of_mem _ (List.mem_cons_of_mem _ (List.mem_cons_of_mem _ (List.mem_cons_of_mem _ (List.mem_cons_of_mem _ (List.mem_cons_of_mem _ (List.mem_cons_of_mem _ (List.mem_cons_of_mem _ (List.mem_cons_of_mem _ (List.mem_cons_of_mem _ (List.mem_cons_self))))))))))))))))⟩
  · refine ⟨sp1o15, sp1N15, fun o ho => ?_⟩
    have ho : o ∈ ([(true, sp1_c4)] : List (Bool × wE)) := ho
    simp only [List.mem_cons, List.not_mem_nil, or_false] at ho
    rcases ho with rfl
    · exact Or.inr ⟨rfl, List.mem_cons_of_mem _ (List.mem_cons_of_mem _ (List.mem_cons_of_mem _ (List.mem_cons_of_mem _ (List.mem_cons_of_mem _ (List.mem_cons_of_mem _ (List.mem_cons_of_mem _ (List.mem_cons_of_mem _ (List.mem_cons_of_mem _ (List.mem_cons_of_mem _ (List.mem_cons_of_mem _ (List.mem_cons_of_mem _ (List.mem_cons_of_mem _ (List.mem_cons_of_mem _ (List.mem_cons_of_mem _ (List.mem_cons_of_mem _ (List.mem_cons_of_mem _ (List.mem_cons_self)))))))))))))))))⟩
  · refine ⟨sp1o18, sp1N18, fun o ho => ?_⟩
    have ho : o ∈ ([(true, sp1_c5)] : List (Bool × wE)) := ho
    simp only [List.mem_cons, List.not_mem_nil, or_false] at ho
    rcases ho with rfl
    · exact Or.inr ⟨rfl, List.mem_cons_of_mem _ (List.mem_cons_of_mem _ (List.mem_cons_of_mem _ (List.mem_cons_of_mem _ (List.mem_cons_of_mem _ (List.mem_cons_of_mem _ (List.mem_cons_of_mem _ (List.mem_cons_of_mem _ (List.mem_cons_of_mem _ (List.mem_cons_of_mem _ (List.mem_cons_of_mem _ (List.mem_cons_of_mem _ (List.mem_cons_of_mem _ (List.mem_cons_of_mem _ (List.mem_cons_of_mem _ (List.mem_cons_of_mem _ (List.mem_cons_of_mem _ (List.mem_cons_of_mem _ (List.mem_cons_self))))))))))))))))))⟩
  · refine ⟨sp1o21, sp1N21, fun o ho => ?_⟩
    have ho : o ∈ ([(true, sp1_c6)] : List (Bool × wE)) := ho
    simp only [List.mem_cons, List.not_mem_nil, or_false] at ho
    rcases ho with rfl
    · exact Or.inr ⟨rfl, List.mem_cons_of_mem _ (List.mem_cons_of_mem _ (List.mem_cons_of_mem _ (List.mem_cons_of_mem _ (List.mem_cons_of_mem _ (List.mem_cons_of_mem _ (List.mem_cons_of_mem _ (List.mem_cons_of_mem _ (List.mem_cons_of_mem _ (List.mem_cons_of_mem _ (List.mem_cons_of_mem _ (List.mem_cons_of_mem _ (List.mem_cons_of_mem _ (List.mem_cons_of_mem _ (List.mem_cons_of_mem _ (List.mem_cons_of_mem _ (List.mem_cons_of_mem _ (List.mem_cons_of_mem _ (List.mem_cons_of_mem _ (List.mem_cons_self)))))))))))))))))))⟩
  · refine ⟨sp1o29, sp1N29, fun o ho => ?_⟩
    have ho : o ∈ ([(true, sp1_c7a)] : List (Bool × wE)) := ho
    simp only [List.mem_cons, List.not_mem_nil, or_false] at ho
    rcases ho with rfl
    · exact Or.inr ⟨rfl, List.mem_cons_of_mem _ (List.mem_cons_of_mem _ (List.mem_cons_of_mem _ (List.mem_cons_of_mem _ (List.mem_cons_of_mem _ (List.mem_cons_of_mem _ (List.mem_cons_of_mem _ (List.mem_cons_of_mem _ (List.mem_cons_of_mem _ (List.mem_cons_of_mem _ (List.mem_cons_of_mem _ (List.mem_cons_of_mem _ (List.mem_cons_of_mem _ (List.mem_cons_of_mem _ (List.mem_cons_of_mem _ (List.mem_cons_of_mem _ (List.mem_cons_of_mem _ (List.mem_cons_of_mem _ (List.mem_cons_of_mem _ (List.mem_cons_of_mem _ (List.mem_cons_self))))))))))))))))))))⟩
  · refine ⟨sp1o38, sp1N38, fun o ho => ?_⟩
    have ho : o ∈ ([(true, sp1_c8)] : List (Bool × wE)) := ho
    simp only [List.mem_cons, List.not_mem_nil, or_false] at ho
    rcases ho with rfl
    · exact Or.inr ⟨rfl, List.mem_cons_of_mem _ (List.mem_cons_of_mem _ (List.mem_cons_of_mem _ (List.mem_cons_of_mem _ (List.mem_cons_of_mem _ (List.mem_cons_of_mem _ (List.mem_cons_of_mem _ (List.mem_cons_of_mem _ (List.mem_cons_of_mem _ (List.mem_cons_of_mem _ (List.mem_cons_of_mem _ (List.mem_cons_of_mem _ (List.mem_cons_of_mem _ (List.mem_cons_of_mem _ (List.mem_cons_of_mem _ (List.mem_cons_of_mem _ (List.mem_cons_of_mem _ (List.mem_cons_of_mem _ (List.mem_cons_of_mem _ (List.mem_cons_of_mem _ (List.mem_cons_of_mem _ (List.mem_cons_self)))))))))))))))))))))⟩
  · refine ⟨sp1o6, sp1N6, fun o ho => ?_⟩
    have ho : o ∈ ([(true, sp1_M)] : List (Bool × wE)) := ho
    simp only [List.mem_cons, List.not_mem_nil, or_false] at ho
    rcases ho with rfl
    · exact Or.inr ⟨rfl, List.mem_cons_of_mem _ (List.mem_cons_of_mem _ (List.mem_cons_of_mem _ (List.mem_cons_of_mem _ (List.mem_cons_of_mem _ (List.mem_cons_of_mem _ (List.mem_cons_of_mem _ (List.mem_cons_of_mem _ (List.mem_cons_of_mem _ (List.mem_cons_of_mem _ (List.mem_cons_of_mem _ (List.mem_cons_of_mem _ (List.mem_cons_of_mem _ (List.mem_cons_of_mem _ (List.mem_cons_of_mem _ (List.mem_cons_of_mem _ (List.mem_cons_of_mem _ (List.mem_cons_of_mem _ (List.mem_cons_of_mem _ (List.mem_cons_of_mem _ (List.mem_cons_of_mem _ (List.mem_cons_of_mem _ (List.mem_cons_self))))))))))))))))))))))⟩
  · refine ⟨sp1o7, sp1N7, fun o ho => ?_⟩
    have ho : o ∈ ([(false, sp1_R), (false, sp1_O)] : List (Bool × wE)) := ho
    simp only [List.mem_cons, List.not_mem_nil, or_false] at ho
    rcases ho with rfl | rfl
    · exact Or.inl (List.mem_cons_self)
    · exact Or.inl (List.mem_cons_of_mem _ (List.mem_cons_self))
  · refine ⟨sp1o34, sp1N34, fun o ho => ?_⟩
    have ho : o ∈ ([(true, sp1_c11a)] : List (Bool × wE)) := ho
    simp only [List.mem_cons, List.not_mem_nil, or_false] at ho
    rcases ho with rfl
    · exact Or.inr ⟨rfl, List.mem_cons_of_mem _ (List.mem_cons_of_mem _ (List.mem_cons_of_mem _ (List.mem_cons_of_mem _ (List.mem_cons_of_mem _ (List.mem_cons_of_mem _ (List.mem_cons_of_mem _ (List.mem_cons_of_mem _ (List.mem_cons_of_mem _ (List.mem_cons_of_mem _ (List.mem_cons_of_mem _ (List.mem_cons_of_mem _ (List.mem_cons_of_mem _ (List.mem_cons_of_mem _ (List.mem_cons_of_mem _ (List.mem_cons_of_mem _ (List.mem_cons_of_mem _ (List.mem_cons_of_mem _ (List.mem_cons_of_mem _ (List.mem_cons_of_mem _ (List.mem_cons_of_mem _ (List.mem_cons_of_mem _ (List.mem_cons_of_mem _ (List.mem_cons_self)))))))))))))))))))))))⟩
  · refine ⟨sp1o8, sp1N8, fun o ho => ?_⟩
    have ho : o ∈ ([(true, sp1_c0_x)] : List (Bool × wE)) := ho
    simp only [List.mem_cons, List.not_mem_nil, or_false] at ho
    rcases ho with rfl
    · exact Or.inr ⟨rfl, List.mem_cons_of_mem _ (List.mem_cons_of_mem _ (List.mem_cons_of_mem _ (List.mem_cons_of_mem _ (List.mem_cons_of_mem _ (List.mem_cons_of_mem _ (List.mem_cons_of_mem _ (List.mem_cons_of_mem _ (List.mem_cons_of_mem _ (List.mem_cons_of_mem _ (List.mem_cons_of_mem _ (List.mem_cons_of_mem _ (List.mem_cons_of_mem _ (List.mem_cons_of_mem _ (List.mem_cons_of_mem _ (List.mem_cons_of_mem _ (List.mem_cons_of_mem _ (List.mem_cons_of_mem _ (List.mem_cons_of_mem _ (List.mem_cons_of_mem _ (List.mem_cons_of_mem _ (List.mem_cons_of_mem _ (List.mem_cons_of_mem _ (List.mem_cons_of_mem _ (List.mem_cons_self))))))))))))))))))))))))⟩
  · refine ⟨sp1o23, sp1N23, fun o ho => ?_⟩
    have ho : o ∈ ([(true, sp1_c1_X), (true, sp1_c1_F)] : List (Bool × wE)) := ho
    simp only [List.mem_cons, List.not_mem_nil, or_false] at ho
    rcases ho with rfl | rfl
    · exact Or.inr ⟨rfl, List.mem_cons_of_mem _ (List.mem_cons_of_mem _ (List.mem_cons_of_mem _ (List.mem_cons_of_mem _ (List.mem_cons_of_mem _ (List.mem_cons_of_mem _ (List.mem_cons_of_mem _ (List.mem_cons_of_mem _ (List.mem_cons_of_mem _ (List.mem_cons_of_mem _ (List.mem_cons_of_mem _ (List.mem_cons_of_mem _ (List.mem_cons_of_mem _ (List.mem_cons_of_mem _ (List.mem_cons_of_mem _ (List.mem_cons_of_mem _ (List.mem_cons_of_mem _ (List.mem_cons_of_mem _ (List.mem_cons_of_mem _ (List.mem_cons_of_mem _ (List.mem_cons_of_mem _ (List.mem_cons_of_mem _ (List.mem_cons_of_mem _ (List.mem_cons_of_mem _ (List.mem_cons_of_mem _ (List.mem_cons_self)))))))))))))))))))))))))⟩
    · exact Or.inr ⟨rfl, List.mem_cons_of_mem _ (List.mem_cons_of_mem _ (List.mem_cons_of_mem _ (List.mem_cons_of_mem _ (List.mem_cons_of_mem _ (List.mem_cons_of_mem _ (List.mem_cons_of_mem _ (List.mem_cons_of_mem _ (List.mem_cons_of_mem _ (List.mem_cons_of_mem _ (List.mem_cons_of_mem _ (List.mem_cons_of_mem _ (List.mem_cons_of_mem _ (List.mem_cons_of_mem _ (List.mem_cons_of_mem _ (List.mem_cons_of_mem _ (List.mem_cons_of_mem _ (List.mem_cons_of_mem _ (List.mem_cons_of_mem _ (List.mem_cons_of_mem _ (List.mem_cons_of_mem _ (List.mem_cons_of_mem _ (List.mem_cons_of_mem _ (List.mem_cons_of_mem _ (List.mem_cons_of_mem _ (List.mem_cons_of_mem _ (List.mem_cons_self))))))))))))))))))))))))))⟩
  · refine ⟨sp1o3, sp1N3, fun o ho => ?_⟩
    have ho : o ∈ ([(true, sp1_M2), (true, sp1_F)] : List (Bool × wE)) := ho
    simp only [List.mem_cons, List.not_mem_nil, or_false] at ho
    rcases ho with rfl | rfl
    · exact Or.inr ⟨rfl, List.mem_cons_of_mem _ (List.mem_cons_of_mem _ (List.mem_cons_of_mem _ (List.mem_cons_of_mem _ (List.mem_cons_of_mem _ (List.mem_cons_of_mem _ (List.mem_cons_of_mem _ (List.mem_cons_of_mem _ (List.mem_cons_of_mem _ (List.mem_cons_of_mem _ (List.mem_cons_of_mem _ (List.mem_cons_of_mem _ (List.mem_cons_of_mem _ (List.mem_cons_of_mem _ (List.mem_cons_of_mem _ (List.mem_cons_of_mem _ (List.mem_cons_of_mem _ (List.mem_cons_of_mem _ (List.mem_cons_of_mem _ (List.mem_cons_of_mem _ (List.mem_cons_of_mem _ (List.mem_cons_of_mem _ (List.mem_cons_of_mem _ (List.mem_cons_of_mem _ (List.mem_cons_of_mem _ (List.mem_cons_of_mem _ (List.mem_cons_of_mem _ (List.mem_cons_self)))))))))))))))))))))))))))⟩
    · exact Or.inr ⟨rfl, List.mem_cons_of_mem _ (List.mem_cons_of_mem _ (List.mem_cons_of_mem _ (List.mem_cons_of_mem _ (List.mem_cons_of_mem _ (List.mem_cons_of_mem _ (List.mem_cons_of_mem _ (List.mem_cons_of_mem _ (List.mem_cons_of_mem _ (List.mem_cons_of_mem _ (List.mem_cons_of_mem _ (List.mem_cons_of_mem _ (List.mem_cons_of_mem _ (List.mem_cons_of_mem _ (List.mem_cons_of_mem _ (List.mem_cons_of_mem _ (List.mem_cons_of_mem _ (List.mem_cons_of_mem _ (List.mem_cons_of_mem _ (List.mem_cons_of_mem _ (List.mem_cons_of_mem _ (List.mem_cons_of_mem _ (List.mem_cons_of_mem _ (List.mem_cons_of_mem _ (List.mem_cons_of_mem _ (List.mem_cons_of_mem _ (List.mem_cons_of_mem _ (List.mem_cons_of_mem _ (List.mem_cons_self))))))))))))))))))))))))))))⟩
  · refine ⟨sp1o11, sp1N11, fun o ho => ?_⟩
    have ho : o ∈ ([(true, sp1_c3_x)] : List (Bool × wE)) := ho
    simp only [List.mem_cons, List.not_mem_nil, or_false] at ho
    rcases ho with rfl
    · exact Or.inr ⟨rfl, List.mem_cons_of_mem _ (List.mem_cons_of_mem _ (List.mem_cons_of_mem _ (List.mem_cons_of_mem _ (List.mem_cons_of_mem _ (List.mem_cons_of_mem _ (List.mem_cons_of_mem _ (List.mem_cons_of_mem _ (List.mem_cons_of_mem _ (List.mem_cons_of_mem _ (List.mem_cons_of_mem _ (List.mem_cons_of_mem _ (List.mem_cons_of_mem _ (List.mem_cons_of_mem _ (List.mem_cons_of_mem _ (List.mem_cons_of_mem _ (List.mem_cons_of_mem _ (List.mem_cons_of_mem _ (List.mem_cons_of_mem _ (List.mem_cons_of_mem _ (List.mem_cons_of_mem _ (List.mem_cons_of_mem _ (List.mem_cons_of_mem _ (List.mem_cons_of_mem _ (List.mem_cons_of_mem _ (List.mem_cons_of_mem _ (List.mem_cons_of_mem _ (List.mem_cons_of_mem _ (List.mem_cons_of_mem _ (List.mem_cons_self)))))))))))))))))))))))))))))⟩
  · refine ⟨sp1o14, sp1N14, fun o ho => ?_⟩
    have ho : o ∈ ([(true, sp1_c4_x)] : List (Bool × wE)) := ho
    simp only [List.mem_cons, List.not_mem_nil, or_false] at ho
    rcases ho with rfl
    · exact Or.inr ⟨rfl, List.mem_cons_of_mem _ (List.mem_cons_of_mem _ (List.mem_cons_of_mem _ (List.mem_cons_of_mem _ (List.mem_cons_of_mem _ (List.mem_cons_of_mem _ (List.mem_cons_of_mem _ (List.mem_cons_of_mem _ (List.mem_cons_of_mem _ (List.mem_cons_of_mem _ (List.mem_cons_of_mem _ (List.mem_cons_of_mem _ (List.mem_cons_of_mem _ (List.mem_cons_of_mem _ (List.mem_cons_of_mem _ (List.mem_cons_of_mem _ (List.mem_cons_of_mem _ (List.mem_cons_of_mem _ (List.mem_cons_of_mem _ (List.mem_cons_of_mem _ (List.mem_cons_of_mem _ (List.mem_cons_of_mem _ (List.mem_cons_of_mem _ (List.mem_cons_of_mem _ (List.mem_cons_of_mem _ (List.mem_cons_of_mem _ (List.mem_cons_of_mem _ (List.mem_cons_of_mem _ (List.mem_cons_of_mem _ (List.mem_cons_of_mem _ (List.mem_cons_self))))))))))))))))))))))))))))))⟩
  · refine ⟨sp1o17, sp1N17, fun o ho => ?_⟩
    have ho : o ∈ ([(true, sp1_c5_x)] : List (Bool × wE)) := ho
    simp only [List.mem_cons, List.not_mem_nil, or_false] at ho
    rcases ho with rfl
    · exact Or.inr ⟨rfl, List.mem_cons_of_mem _ (List.mem_cons_of_mem _ (List.mem_cons_of_mem _ (List.mem_cons_of_mem _ (List.mem_cons_of_mem _ (List.mem_cons_of_mem _ (List.mem_cons_of_mem _ (List.mem_cons_of_mem _ (List.mem_cons_of_mem _ (List.mem_cons_of_mem _ (List.mem_cons_of_mem _ (List.mem_cons_of_mem _ (List.mem_cons_of_mem _ (List.mem_cons_of_mem _ (List.mem_cons_of_mem _ (List.mem_cons_of_mem _ (List.mem_cons_of_mem _ (List.mem_cons_of_mem _ (List.mem_cons_of_mem _ (List.mem_cons_of_mem _ (List.mem_cons_of_mem _ (List.mem_cons_of_mem _ (List.mem_cons_of_mem _ (List.mem_cons_of_mem _ (List.mem_cons_of_mem _ (List.mem_cons_of_mem _ (List.mem_cons_of_mem _ (List.mem_cons_of_mem _ (List.mem_cons_of_mem _ (List.mem_cons_of_mem _ (List.mem_cons_of_mem _ (List.mem_cons_self)))))))))))))))))))))))))))))))⟩
  · refine ⟨sp1o20, sp1N20, fun o ho => ?_⟩
    have ho : o ∈ ([(true, sp1_c6_x)] : List (Bool × wE)) := ho
    simp only [List.mem_cons, List.not_mem_nil, or_false] at ho
    rcases ho with rfl
    · exact Or.inr ⟨rfl, List.mem_cons_of_mem _ (List.mem_cons_of_mem _ (List.mem_cons_of_mem _ (List.mem_cons_of_mem _ (List.mem_cons_of_mem _ (List.mem_cons_of_mem _ (List.mem_cons_of_mem _ (List.mem_cons_of_mem _ (List.mem_cons_of_mem _ (List.mem_cons_of_mem _ (List.mem_cons_of_mem _ (List.mem_cons_of_mem _ (List.mem_cons_of_mem _ (List.mem_cons_of_mem _ (List.mem_cons_of_mem _ (List.mem_cons_of_mem _ (List.mem_cons_of_mem _ (List.mem_cons_of_mem _ (List.mem_cons_of_mem _ (List.mem_cons_of_mem _ (List.mem_cons_of_mem _ (List.mem_cons_of_mem _ (List.mem_cons_of_mem _ (List.mem_cons_of_mem _ (List.mem_cons_of_mem _ (List.mem_cons_of_mem _ (List.mem_cons_of_mem _ (List.mem_cons_of_mem _ (List.mem_cons_of_mem _ (List.mem_cons_of_mem _ (List.mem_cons_of_mem _ (List.mem_cons_of_mem _ (List.mem_cons_self))))))))))))))))))))))))))))))))⟩
  · refine ⟨sp1o27, sp1N27, fun o ho => ?_⟩
    have ho : o ∈ ([(true, sp1_c7a_x)] : List (Bool × wE)) := ho
    simp only [List.mem_cons, List.not_mem_nil, or_false] at ho
    rcases ho with rfl
    · exact Or.inr ⟨rfl, List.mem_cons_of_mem _ (List.mem_cons_of_mem _ (List.mem_cons_of_mem _ (List.mem_cons_of_mem _ (List.mem_cons_of_mem _ (List.mem_cons_of_mem _ (List.mem_cons_of_mem _ (List.mem_cons_of_mem _ (List.mem_cons_of_mem _ (List.mem_cons_of_mem _ (List.mem_cons_of_mem _ (List.mem_cons_of_mem _ (List.mem_cons_of_mem _ (List.mem_cons_of_mem _ (List.mem_cons_of_mem _ (List.mem_cons_of_mem _ (List.mem_cons_of_mem _ (List.mem_cons_of_mem _ (List.mem_cons_of_mem _ (List.mem_cons_of_mem _ (List.mem_cons_of_mem _ (List.mem_cons_of_mem _ (List.mem_cons_of_mem _ (List.mem_cons_of_mem _ (List.mem_cons_of_mem _ (List.mem_cons_of_mem _ (List.mem_cons_of_mem _ (List.mem_cons_of_mem _ (List.mem_cons_of_mem _ (List.mem_cons_of_mem _ (List.mem_cons_of_mem _ (List.mem_cons_of_mem _ (List.mem_cons_of_mem _ (List.mem_cons_self)))))))))))))))))))))))))))))))))⟩
  · refine ⟨sp1o37, sp1N37, fun o ho => ?_⟩
    have ho : o ∈ ([(true, sp1_c8_x)] : List (Bool × wE)) := ho
    simp only [List.mem_cons, List.not_mem_nil, or_false] at ho
    rcases ho with rfl
    · exact Or.inr ⟨rfl, List.mem_cons_of_mem _ (List.mem_cons_of_mem _ (List.mem_cons_of_mem _ (List.mem_cons_of_mem _ (List.mem_cons_of_mem _ (List.mem_cons_of_mem _ (List.mem_cons_of_mem _ (List.mem_cons_of_mem _ (List.mem_cons_of_mem _ (List.mem_cons_of_mem _ (List.mem_cons_of_mem _ (List.mem_cons_of_mem _ (List.mem_cons_of_mem _ (List.mem_cons_of_mem _ (List.mem_cons_of_mem _ (List.mem_cons_of_mem _ (List.mem_cons_of_mem _ (List.mem_cons_of_mem _ (List.mem_cons_of_mem _ (List.mem_cons_of_mem _ (List.mem_cons_of_mem _ (List.mem_cons_of_mem _ (List.mem_cons_of_mem _ (List.mem_cons_of_mem _ (List.mem_cons_of_mem _ (List.mem_cons_of_mem _ (List.mem_cons_of_mem _ (List.mem_cons_of_mem _ (List.mem_cons_of_mem _ (List.mem_cons_of_mem _ (List.mem_cons_of_mem _ (List.mem_cons_of_mem _ (List.mem_cons_of_mem _ (List.mem_cons_of_mem _ (List.mem_cons_self))))))))))))))))))))))))))))))))))⟩
  · refine ⟨sp1o1, sp1N1, fun o ho => ?_⟩
    have ho : o ∈ ([(false, sp1_R), (false, sp1_O)] : List (Bool × wE)) := ho
    simp only [List.mem_cons, List.not_mem_nil, or_false] at ho
    rcases ho with rfl | rfl
    · exact Or.inl (List.mem_cons_self)
    · exact Or.inl (List.mem_cons_of_mem _ (List.mem_cons_self))
  · refine ⟨sp1o32, sp1N32, fun o ho => ?_⟩
    have ho : o ∈ ([(true, sp1_c11a_x)] : List (Bool × wE)) := ho
    simp only [List.mem_cons, List.not_mem_nil, or_false] at ho
    rcases ho with rfl
    · exact Or.inr ⟨rfl, List.mem_cons_of_mem _ (List.mem_cons_of_mem _ (List.mem_cons_of_mem _ (List.mem_cons_of_mem _ (List.mem_cons_of_mem _ (List.mem_cons_of_mem _ (List.mem_cons_of_mem _ (List.mem_cons_of_mem _ (List.mem_cons_of_mem _ (List.mem_cons_of_mem _ (List.mem_cons_of_mem _ (List.mem_cons_of_mem _ (List.mem_cons_of_mem _ (List.mem_cons_of_mem _ (List.mem_cons_of_mem _ (List.mem_cons_of_mem _ (List.mem_cons_of_mem _ (List.mem_cons_of_mem _ (List.mem_cons_of_mem _ (List.mem_cons_of_mem _ (List.mem_cons_of_mem _ (List.mem_cons_of_mem _ (List.mem_cons_of_mem _ (List.mem_cons_of_mem _ (List.mem_cons_of_mem _ (List.mem_cons_of_mem _ (List.mem_cons_of_mem _ (List.mem_cons_of_mem _ (List.mem_cons_of_mem _ (List.mem_cons_of_mem _ (List.mem_cons_of_mem _ (List.mem_cons_of_mem _ (List.mem_cons_of_mem _ (List.mem_cons_of_mem _ (List.mem_cons_of_mem _ (List.mem_cons_self)))))))))))))))))))))))))))))))))))⟩
  · refine ⟨sp1o10, sp1N10, fun o ho => ?_⟩
    have ho : o ∈ ([(true, sp1_M)] : List (Bool × wE)) := ho
    simp only [List.mem_cons, List.not_mem_nil, or_false] at ho
    rcases ho with rfl
    · exact Or.inr ⟨rfl, List.mem_cons_of_mem _ (List.mem_cons_of_mem _ (List.mem_cons_of_mem _ (List.mem_cons_of_mem _ (List.mem_cons_of_mem _ (List.mem_cons_of_mem _ (List.mem_cons_of_mem _ (List.mem_cons_of_mem _ (List.mem_cons_of_mem _ (List.mem_cons_of_mem _ (List.mem_cons_of_mem _ (List.mem_cons_of_mem _ (List.mem_cons_of_mem _ (List.mem_cons_of_mem _ (List.mem_cons_of_mem _ (List.mem_cons_of_mem _ (List.mem_cons_of_mem _ (List.mem_cons_of_mem _ (List.mem_cons_of_mem _ (List.mem_cons_of_mem _ (List.mem_cons_of_mem _ (List.mem_cons_of_mem _ (List.mem_cons_self))))))))))))))))))))))⟩
  · refine ⟨sp1o25, sp1N25, fun o ho => ?_⟩
    have ho : o ∈ ([(true, sp1_M)] : List (Bool × wE)) := ho
    simp only [List.mem_cons, List.not_mem_nil, or_false] at ho
    rcases ho with rfl
    · exact Or.inr ⟨rfl, List.mem_cons_of_mem _ (List.mem_cons_of_mem _ (List.mem_cons_of_mem _ (List.mem_cons_of_mem _ (List.mem_cons_of_mem _ (List.mem_cons_of_mem _ (List.mem_cons_of_mem _ (List.mem_cons_of_mem _ (List.mem_cons_of_mem _ (List.mem_cons_of_mem _ (List.mem_cons_of_mem _ (List.mem_cons_of_mem _ (List.mem_cons_of_mem _ (List.mem_cons_of_mem _ (List.mem_cons_of_mem _ (List.mem_cons_of_mem _ (List.mem_cons_of_mem _ (List.mem_cons_of_mem _ (List.mem_cons_of_mem _ (List.mem_cons_of_mem _ (List.mem_cons_of_mem _ (List.mem_cons_of_mem _ (List.mem_cons_self))))))))))))))))))))))⟩
  · refine ⟨sp1o26, sp1N26, fun o ho => ?_⟩
    have ho : o ∈ ([(false, sp1_O)] : List (Bool × wE)) := ho
    simp only [List.mem_cons, List.not_mem_nil, or_false] at ho
    rcases ho with rfl
    · exact Or.inl (List.mem_cons_of_mem _ (List.mem_cons_self))
  · refine ⟨sp1o4, sp1N4, fun o ho => ?_⟩
    have ho : o ∈ ([(false, sp1_R), (false, sp1_O)] : List (Bool × wE)) := ho
    simp only [List.mem_cons, List.not_mem_nil, or_false] at ho
    rcases ho with rfl | rfl
    · exact Or.inl (List.mem_cons_self)
    · exact Or.inl (List.mem_cons_of_mem _ (List.mem_cons_self))
  · refine ⟨sp1o5, sp1N5, fun o ho => ?_⟩
    have ho : o ∈ ([(false, sp1_O)] : List (Bool × wE)) := ho
    simp only [List.mem_cons, List.not_mem_nil, or_false] at ho
    rcases ho with rfl
    · exact Or.inl (List.mem_cons_of_mem _ (List.mem_cons_self))
  · refine ⟨sp1o13, sp1N13, fun o ho => ?_⟩
    have ho : o ∈ ([(true, sp1_M)] : List (Bool × wE)) := ho
    simp only [List.mem_cons, List.not_mem_nil, or_false] at ho
    rcases ho with rfl
    · exact Or.inr ⟨rfl, List.mem_cons_of_mem _ (List.mem_cons_of_mem _ (List.mem_cons_of_mem _ (List.mem_cons_of_mem _ (List.mem_cons_of_mem _ (List.mem_cons_of_mem _ (List.mem_cons_of_mem _ (List.mem_cons_of_mem _ (List.mem_cons_of_mem _ (List.mem_cons_of_mem _ (List.mem_cons_of_mem _ (List.mem_cons_of_mem _ (List.mem_cons_of_mem _ (List.mem_cons_of_mem _ (List.mem_cons_of_mem _ (List.mem_cons_of_mem _ (List.mem_cons_of_mem _ (List.mem_cons_of_mem _ (List.mem_cons_of_mem _ (List.mem_cons_of_mem _ (List.mem_cons_of_mem _ (List.mem_cons_of_mem _ (List.mem_cons_self))))))))))))))))))))))⟩
  · refine ⟨sp1o16, sp1N16, fun o ho => ?_⟩
    have ho : o ∈ ([(true, sp1_M)] : List (Bool × wE)) := ho
    simp only [List.mem_cons, List.not_mem_nil, or_false] at ho
    rcases ho with rfl
    · exact Or.inr ⟨rfl, List.mem_cons_of_mem _ (List.mem_cons_of_mem _ (List.mem_cons_of_mem _ (List.mem_cons_of_mem _ (List.mem_cons_of_mem _ (List.mem_cons_of_mem _ (List.mem_cons_of_mem _ (List.mem_cons_of_mem _ (List.mem_cons_of_mem _ (List.mem_cons_of_mem _ (List.mem_cons_of_mem _ (List.mem_cons_of_mem _ (List.mem_cons_of_mem _ (List.mem_cons_of_mem _ (List.mem_cons_of_mem _ (List.mem_cons_of_mem _ (List.mem_cons_of_mem _ (List.mem_cons_of_mem _ (List.mem_cons_of_mem _ (List.mem_cons_of_mem _ (List.mem_cons_of_mem _ (List.mem_cons_of_mem _ (List.mem_cons_self))))))))))))))))))))))⟩
  · refine ⟨sp1o19, sp1N19, fun o ho => ?_⟩
    have ho : o ∈ ([(true, sp1_M)] : List (Bool × wE)) := ho
    simp only [List.mem_cons, List.not_mem_nil, or_false] at ho
    rcases ho with rfl
    · exact Or.inr ⟨rfl, List.mem_cons_of_mem _ (List.mem_cons_of_mem _ (List.mem_cons_of_mem _ (List.mem_cons_of_mem _ (List.mem_cons_of_mem _ (List.mem_cons_of_mem _ (List.mem_cons_of_mem _ (List.mem_cons_of_mem _ (List.mem_cons_of_mem _ (List.mem_cons_of_mem _ (List.mem_cons_of_mem _ (List.mem_cons_of_mem _ (List.mem_cons_of_mem _ (List.mem_cons_of_mem _ (List.mem_cons_of_mem _ (List.mem_cons_of_mem _ (List.mem_cons_of_mem _ (List.mem_cons_of_mem _ (List.mem_cons_of_mem _ (List.mem_cons_of_mem _ (List.mem_cons_of_mem _ (List.mem_cons_of_mem _ (List.mem_cons_self))))))))))))))))))))))⟩
  · refine ⟨sp1o22, sp1N22, fun o ho => ?_⟩
    have ho : o ∈ ([(true, sp1_M)] : List (Bool × wE)) := ho
    simp only [List.mem_cons, List.not_mem_nil, or_false] at ho
    rcases ho with rfl
    · exact Or.inr ⟨rfl, List.mem_cons_of_mem _ (List.mem_cons_of_mem _ (List.mem_cons_of_mem _ (List.mem_cons_of_mem _ (List.mem_cons_of_mem _ (List.mem_cons_of_mem _ (List.mem_cons_of_mem _ (List.mem_cons_of_mem _ (List.mem_cons_of_mem _ (List.mem_cons_of_mem _ (List.mem_cons_of_mem _ (List.mem_cons_of_mem _ (List.mem_cons_of_mem _ (List.mem_cons_of_mem _ (List.mem_cons_of_mem _ (List.mem_cons_of_mem _ (List.mem_cons_of_mem _ (List.mem_cons_of_mem _ (List.mem_cons_of_mem _ (List.mem_cons_of_mem _ (List.mem_cons_of_mem _ (List.mem_cons_of_mem _ (List.mem_cons_self))))))))))))))))))))))⟩
  · refine ⟨sp1o30, sp1N30, fun o ho => ?_⟩
    have ho : o ∈ ([(true, sp1_c7b)] : List (Bool × wE)) := ho
    simp only [List.mem_cons, List.not_mem_nil, or_false] at ho
    rcases ho with rfl
    · exact Or.inr ⟨rfl, List.mem_cons_of_mem _ (List.mem_cons_of_mem _ (List.mem_cons_of_mem _ (List.mem_cons_of_mem _ (List.mem_cons_of_mem _ (List.mem_cons_of_mem _ (List.mem_cons_of_mem _ (List.mem_cons_of_mem _ (List.mem_cons_of_mem _ (List.mem_cons_of_mem _ (List.mem_cons_of_mem _ (List.mem_cons_of_mem _ (List.mem_cons_of_mem _ (List.mem_cons_of_mem _ (List.mem_cons_of_mem _ (List.mem_cons_of_mem _ (List.mem_cons_of_mem _ (List.mem_cons_of_mem _ (List.mem_cons_of_mem _ (List.mem_cons_of_mem _ (List.mem_cons_of_mem _ (List.mem_cons_of_mem _ (List.mem_cons_of_mem _ (List.mem_cons_of_mem _ (List.mem_cons_of_mem _ (List.mem_cons_of_mem _ (List.mem_cons_of_mem _ (List.mem_cons_of_mem _ (List.mem_cons_of_mem _ (List.mem_cons_of_mem _ (List.mem_cons_of_mem _ (List.mem_cons_of_mem _ (List.mem_cons_of_mem _ (List.mem_cons_of_mem _ (List.mem_cons_of_mem _ (List.mem_cons_of_mem _ (List.mem_cons_self))))))))))))))))))))))))))))))))))))⟩
  · refine ⟨sp1o39, sp1N39, fun o ho => ?_⟩
    have ho : o ∈ ([(true, sp1_M)] : List (Bool × wE)) := ho
    simp only [List.mem_cons, List.not_mem_nil, or_false] at ho
    rcases ho with rfl
    · exact Or.inr ⟨rfl, List.mem_cons_of_mem _ (List.mem_cons_of_mem _ (List.mem_cons_of_mem _ (List.mem_cons_of_mem _ (List.mem_cons_of_mem _ (List.mem_cons_of_mem _ (List.mem_cons_of_mem _ (List.mem_cons_of_mem _ (List.mem_cons_of_mem _ (List.mem_cons_of_mem _ (List.mem_cons_of_mem _ (List.mem_cons_of_mem _ (List.mem_cons_of_mem _ (List.mem_cons_of_mem _ (List.mem_cons_of_mem _ (List.mem_cons_of_mem _ (List.mem_cons_of_mem _ (List.mem_cons_of_mem _ (List.mem_cons_of_mem _ (List.mem_cons_of_mem _ (List.mem_cons_of_mem _ (List.mem_cons_of_mem _ (List.mem_cons_self))))))))))))))))))))))⟩
  · refine ⟨sp1o35, sp1N35, fun o ho => ?_⟩
    have ho : o ∈ ([(true, sp1_c11b)] : List (Bool × wE)) := ho
    simp only [List.mem_cons, List.not_mem_nil, or_false] at ho
    rcases ho with rfl
    · exact Or.inr ⟨rfl, List.mem_cons_of_mem _ (List.mem_cons_of_mem _ (List.mem_cons_of_mem _ (List.mem_cons_of_mem _ (List.mem_cons_of_mem _ (List.mem_cons_of_mem _ (List.mem_cons_of_mem _ (List.mem_cons_of_mem _ (List.mem_cons_of_mem _ (List.mem_cons_of_mem _ (List.mem_cons_of_mem _ (List.mem_cons_of_mem _ (List.mem_cons_of_mem _ (List.mem_cons_of_mem _ (List.mem_cons_of_mem _ (List.mem_cons_of_mem _ (List.mem_cons_of_mem _ (List.mem_cons_of_mem _ (List.mem_cons_of_mem _ (List.mem_cons_of_mem _ (List.mem_cons_of_mem _ (List.mem_cons_of_mem _ (List.mem_cons_of_mem _ (List.mem_cons_of_mem _ (List.mem_cons_of_mem _ (List.mem_cons_of_mem _ (List.mem_cons_of_mem _ (List.mem_cons_of_mem _ (List.mem_cons_of_mem _ (List.mem_cons_of_mem _ (List.mem_cons_of_mem _ (List.mem_cons_of_mem _ (List.mem_cons_of_mem _ (List.mem_cons_of_mem _ (List.mem_cons_of_mem _ (List.mem_cons_of_mem _ (List.mem_cons_of_mem _ (List.mem_cons_self)))))))))))))))))))))))))))))))))))))⟩
  · refine ⟨sp1o28, sp1N28, fun o ho => ?_⟩
    have ho : o ∈ ([(true, sp1_c7b_x)] : List (Bool × wE)) := ho
    simp only [List.mem_cons, List.not_mem_nil, or_false] at ho
    rcases ho with rfl
    · exact Or.inr ⟨rfl, List.mem_cons_of_mem _ (List.mem_cons_of_mem _ (List.mem_cons_of_mem _ (List.mem_cons_of_mem _ (List.mem_cons_of_mem _ (List.mem_cons_of_mem _ (List.mem_cons_of_mem _ (List.mem_cons_of_mem _ (List.mem_cons_of_mem _ (List.mem_cons_of_mem _ (List.mem_cons_of_mem _ (List.mem_cons_of_mem _ (List.mem_cons_of_mem _ (List.mem_cons_of_mem _ (List.mem_cons_of_mem _ (List.mem_cons_of_mem _ (List.mem_cons_of_mem _ (List.mem_cons_of_mem _ (List.mem_cons_of_mem _ (List.mem_cons_of_mem _ (List.mem_cons_of_mem _ (List.mem_cons_of_mem _ (List.mem_cons_of_mem _ (List.mem_cons_of_mem _ (List.mem_cons_of_mem _ (List.mem_cons_of_mem _ (List.mem_cons_of_mem _ (List.mem_cons_of_mem _ (List.mem_cons_of_mem _ (List.mem_cons_of_mem _ (List.mem_cons_of_mem _ (List.mem_cons_of_mem _ (List.mem_cons_of_mem _ (List.mem_cons_of_mem _ (List.mem_cons_of_mem _ (List.mem_cons_of_mem _ (List.mem_cons_of_mem _ (List.mem_cons_of_mem _ (List.mem_cons_self))))))))))))))))))))))))))))))))))))))⟩
  · refine ⟨sp1o33, sp1N33, fun o ho => ?_⟩
    have ho : o ∈ ([(true, sp1_c11b_x)] : List (Bool × wE)) := ho
    simp only [List.mem_cons, List.not_mem_nil, or_false] at ho
    rcases ho with rfl
    · exact Or.inr ⟨rfl, List.mem_cons_of_mem _ (List.mem_cons_of_mem _ (List.mem_cons_of_mem _ (List.mem_cons_of_mem _ (List.mem_cons_of_mem _ (List.mem_cons_of_mem _ (List.mem_cons_of_mem _ (List.mem_cons_of_mem _ (List.mem_cons_of_mem _ (List.mem_cons_of_mem _ (List.mem_cons_of_mem _ (List.mem_cons_of_mem _ (List.mem_cons_of_mem _ (List.mem_cons_of_mem _ (List.mem_cons_of_mem _ (List.mem_cons_of_mem _ (List.mem_cons_of_mem _ (List.mem_cons_of_mem _ (List.mem_cons_of_mem _ (List.mem_cons_of_mem _ (List.mem_cons_of_mem _ (List.mem_cons_of_mem _ (List.mem_cons_of_mem _ (List.mem_cons_of_mem _ (List.mem_cons_of_mem _ (List.mem_cons_of_mem _ (List.mem_cons_of_mem _ (List.mem_cons_of_mem _ (List.mem_cons_of_mem _ (List.mem_cons_of_mem _ (List.mem_cons_of_mem _ (List.mem_cons_of_mem _ (List.mem_cons_of_mem _ (List.mem_cons_of_mem _ (List.mem_cons_of_mem _ (List.mem_cons_of_mem _ (List.mem_cons_of_mem _ (List.mem_cons_of_mem _ (List.mem_cons_of_mem _ (List.mem_cons_self)))))))))))))))))))))))))))))))))))))))⟩
  · refine ⟨sp1o31, sp1N31, fun o ho => ?_⟩
    have ho : o ∈ ([(true, sp1_M)] : List (Bool × wE)) := ho
    simp only [List.mem_cons, List.not_mem_nil, or_false] at ho
    rcases ho with rfl
    · exact Or.inr ⟨rfl, List.mem_cons_of_mem _ (List.mem_cons_of_mem _ (List.mem_cons_of_mem _ (List.mem_cons_of_mem _ (List.mem_cons_of_mem _ (List.mem_cons_of_mem _ (List.mem_cons_of_mem _ (List.mem_cons_of_mem _ (List.mem_cons_of_mem _ (List.mem_cons_of_mem _ (List.mem_cons_of_mem _ (List.mem_cons_of_mem _ (List.mem_cons_of_mem _ (List.mem_cons_of_mem _ (List.mem_cons_of_mem _ (List.mem_cons_of_mem _ (List.mem_cons_of_mem _ (List.mem_cons_of_mem _ (List.mem_cons_of_mem _ (List.mem_cons_of_mem _ (List.mem_cons_of_mem _ (List.mem_cons_of_mem _ (List.mem_cons_self))))))))))))))))))))))⟩
  · refine ⟨sp1o36, sp1N36, fun o ho => ?_⟩
    have ho : o ∈ ([(true, sp1_M)] : List (Bool × wE)) := ho
    simp only [List.mem_cons, List.not_mem_nil, or_false] at ho
    rcases ho with rfl
    · exact Or.inr ⟨rfl, List.mem_cons_of_mem _ (List.mem_cons_of_mem _ (List.mem_cons_of_mem _ (List.mem_cons_of_mem _ (List.mem_cons_of_mem _ (List.mem_cons_of_mem _ (List.mem_cons_of_mem _ (List.mem_cons_of_mem _ (List.mem_cons_of_mem _ (List.mem_cons_of_mem _ (List.mem_cons_of_mem _ (List.mem_cons_of_mem _ (List.mem_cons_of_mem _ (List.mem_cons_of_mem _ (List.mem_cons_of_mem _ (List.mem_cons_of_mem _ (List.mem_cons_of_mem _ (List.mem_cons_of_mem _ (List.mem_cons_of_mem _ (List.mem_cons_of_mem _ (List.mem_cons_of_mem _ (List.mem_cons_of_mem _ (List.mem_cons_self))))))))))))))))))))))⟩)
theorem fb1N1 {xs : Nat → Int32} {n : Nat} {sf : Option Nat} : wGoes x_KT x_tb x_tyl (x_otS xs n sf) lwFR lwGA.length lwGB.length 29 35 45 fb1WA fb1WB 116 203 63 63 fb1_c0T fb1o1 :=
  wDp (wWk (wEqvB (wCallB (recv := 0) (pc := 73) (ix := 311) (nx := 3) (args := [.inl (lSy 6), .inl (lSy 5), .inl (lK 0)]) (rest := []) (LE := [(0, .inr (some 0)), (1, .inl (lSy 6)), (2, .inl (lSy 5)), (3, .inl (lK 1)), (4, .inl (lSy 31)), (5, .inl (lSy 38))]) (cE := (lK 0)) (sE := (lK 0)) (wCallA (recv := 8) (pc := 17) (ix := 70) (nx := 3) (args := []) (rest := []) (LE := [(0, .inr (some 8)), (1, .inl (lSy 33))]) (cE := (lK 0)) (sE := (lK 0)) (wReL (XA := fb1X1.2.1) (XB := fb1X1.2.2.1) (XC := fb1X1.2.2.2.1) (rk := fb1X1.2.2.2.2) (rA := fb1QA1) (rB := fb1QB1) (sp1_g0_G _ List.mem_cons_self) fb1L1) gq116 gq69 (by decide +kernel) (by decide +kernel) (by decide +kernel) (by decide +kernel) (by decide +kernel)) gq203 gq205 (by decide +kernel) (by decide +kernel) (by decide +kernel) (by decide +kernel) (by decide +kernel)) (by decide +kernel) (by decide +kernel)) (by decide) (by decide) (by decide) (by decide +kernel) (by decide +kernel)) (by decide) (by decide)
theorem fb1N2 {xs : Nat → Int32} {n : Nat} {sf : Option Nat} : wGoes x_KT x_tb x_tyl (x_otS xs n sf) lwFR lwGA.length lwGB.length 29 35 45 fb1WA fb1WB 116 203 63 63 fb1_T fb1o2 :=
  wDp (wWk (wEd_spec (x_ov0_le sf) u_ctS lwFRok fb1E2) (Nat.le_refl _) (Nat.le_refl _) (Nat.le_refl _) (by decide +kernel) (by decide +kernel)) (by decide) (by decide)
theorem fb1N3 {xs : Nat → Int32} {n : Nat} {sf : Option Nat} : wGoes x_KT x_tb x_tyl (x_otS xs n sf) lwFR lwGA.length lwGB.length 29 35 45 fb1WA fb1WB 116 203 63 63 fb1_c0RR fb1o3 :=
  wDp (wWk (wEqvB (wCallB (recv := 0) (pc := 212) (ix := 311) (nx := 3) (args := [.inl (lSy 6), .inl (lSy 5), .inl (lK 0)]) (rest := []) (LE := [(0, .inr (some 0)), (1, .inl (lSy 6)), (2, .inl (lSy 5)), (3, .inl (lK 0)), (4, .inl (lSy 31)), (5, .inl (lK 0))]) (cE := (lK 0)) (sE := (lK 0)) (wCallA (recv := 8) (pc := 17) (ix := 70) (nx := 3) (args := []) (rest := []) (LE := [(0, .inr (some 8)), (1, .inl (lSy 33))]) (cE := (lK 0)) (sE := (lK 0)) (wReL (XA := fb1X3.2.1) (XB := fb1X3.2.2.1) (XC := fb1X3.2.2.2.1) (rk := fb1X3.2.2.2.2) (rA := fb1QA3) (rB := fb1QB3) (sp1_g0_G _ List.mem_cons_self) fb1L3) gq116 gq69 (by decide +kernel) (by decide +kernel) (by decide +kernel) (by decide +kernel) (by decide +kernel)) gq203 gq205 (by decide +kernel) (by decide +kernel) (by decide +kernel) (by decide +kernel) (by decide +kernel)) (by decide +kernel) (by decide +kernel)) (by decide) (by decide) (by decide) (by decide +kernel) (by decide +kernel)) (by decide) (by decide)
theorem fb1N4 {xs : Nat → Int32} {n : Nat} {sf : Option Nat} : wGoes x_KT x_tb x_tyl (x_otS xs n sf) lwFR lwGA.length lwGB.length 29 35 45 fb1WA fb1WB 116 203 63 63 fb1_RR fb1o4 :=
  wDp (wWk (wEd_spec (x_ov0_le sf) u_ctS lwFRok fb1E4) (Nat.le_refl _) (Nat.le_refl _) (Nat.le_refl _) (by decide +kernel) (by decide +kernel)) (by decide) (by decide)
theorem fb1N5 {xs : Nat → Int32} {n : Nat} {sf : Option Nat} : wGoes x_KT x_tb x_tyl (x_otS xs n sf) lwFR lwGA.length lwGB.length 29 35 45 fb1WA fb1WB 116 203 63 63 fb1_c0RO fb1o5 :=
  wDp (wWk (wEqvB (wCallB (recv := 0) (pc := 212) (ix := 311) (nx := 3) (args := [.inl (lSy 6), .inl (lSy 5), .inl (lK 0)]) (rest := []) (LE := [(0, .inr (some 0)), (1, .inl (lSy 6)), (2, .inl (lSy 5)), (3, .inl (lK 0)), (4, .inl (lSy 31)), (5, .inl (lK 0))]) (cE := (lK 0)) (sE := (lK 0)) (wCallA (recv := 8) (pc := 17) (ix := 70) (nx := 3) (args := []) (rest := []) (LE := [(0, .inr (some 8)), (1, .inl (lSy 33))]) (cE := (lK 0)) (sE := (lK 0)) (wReL (XA := fb1X5.2.1) (XB := fb1X5.2.2.1) (XC := fb1X5.2.2.2.1) (rk := fb1X5.2.2.2.2) (rA := fb1QA5) (rB := fb1QB5) (sp1_g0_G _ List.mem_cons_self) fb1L5) gq116 gq69 (by decide +kernel) (by decide +kernel) (by decide +kernel) (by decide +kernel) (by decide +kernel)) gq203 gq205 (by decide +kernel) (by decide +kernel) (by decide +kernel) (by decide +kernel) (by decide +kernel)) (by decide +kernel) (by decide +kernel)) (by decide) (by decide) (by decide) (by decide +kernel) (by decide +kernel)) (by decide) (by decide)
theorem fb1N6 {xs : Nat → Int32} {n : Nat} {sf : Option Nat} : wGoes x_KT x_tb x_tyl (x_otS xs n sf) lwFR lwGA.length lwGB.length 29 35 45 fb1WA fb1WB 116 203 63 63 fb1_RO fb1o6 :=
  wDp (wWk (wEd_spec (x_ov0_le sf) u_ctS lwFRok fb1E6) (Nat.le_refl _) (Nat.le_refl _) (Nat.le_refl _) (by decide +kernel) (by decide +kernel)) (by decide) (by decide)
def sb1_g0_nd : List wE := [sb1_in, sb1_op0, sb1_op1, sb1_op2, sb1_op3, sb1_op4, sb1_op5, sb1_op6, sb1_op7, sb1_op8, sb1_op9, sb1_op10, sb1_op11]
theorem sb1_g0_G {xs : Nat → Int32} {n : Nat} {sf : Option Nat} : ∀ nd ∈ sb1_g0_nd, wGoes x_KT x_tb x_tyl (x_otS xs n sf) lwFR lwGA.length lwGB.length 43 35 45 sb1WA sb1WB 113 205 60 60 nd (sb1_g0_ex.map (fun x => (false, x))) := wGraph (fun nd hnd => by
  have hnd : nd ∈ ([sb1_in, sb1_op0, sb1_op1, sb1_op2, sb1_op3, sb1_op4, sb1_op5, sb1_op6, sb1_op7, sb1_op8, sb1_op9, sb1_op10, sb1_op11] : List wE) := hnd
  simp only [List.mem_cons, List.not_mem_nil, or_false] at hnd
  rcases hnd with rfl | rfl | rfl | rfl | rfl | rfl | rfl | rfl | rfl | rfl | rfl | rfl | rfl
  · refine ⟨sb1o0, sb1N0, fun o ho => ?_⟩
    have ho : o ∈ ([(true, sb1_op0), (true, sb1_op1), (true, sb1_op2), (true, sb1_op3), (true, sb1_op4), (true, sb1_op5), (true, sb1_op6), (true, sb1_op7), (true, sb1_op8), (true, sb1_op9), (true, sb1_op10), (true, sb1_op11)] : List (Bool × wE)) := ho
    simp only [List.mem_cons, List.not_mem_nil, or_false] at ho
    rcases ho with rfl | rfl | rfl | rfl | rfl | rfl | rfl | rfl | rfl | rfl | rfl | rfl
    · exact Or.inr ⟨rfl, List.mem_cons_of_mem _ (List.mem_cons_self)⟩
    · exact Or.inr ⟨rfl, List.mem_cons_of_mem _ (List.mem_cons_of_mem _ (List.mem_cons_self))⟩
    · exact Or.inr ⟨rfl, List.mem_cons_of_mem _ (List.mem_cons_of_mem _ (List.mem_cons_of_mem _ (List.mem_cons_self)))⟩
    · exact Or.inr ⟨rfl, List.mem_cons_of_mem _ (List.mem_cons_of_mem _ (List.mem_cons_of_mem _ (List.mem_cons_of_mem _ (List.mem_cons_self))))⟩
    · exact Or.inr ⟨rfl, List.mem_cons_of_mem _ (List.mem_cons_of_mem _ (List.mem_cons_of_mem _ (List.mem_cons_of_mem _ (List.mem_cons_of_mem _ (List.mem_cons_self)))))⟩
    · exact Or.inr ⟨rfl, List.mem_cons_of_mem _ (List.mem_cons_of_mem _ (List.mem_cons_of_mem _ (List.mem_cons_of_mem _ (List.mem_cons_of_mem _ (List.mem_cons_of_mem _ (List.mem_cons_self))))))⟩
    · exact Or.inr ⟨rfl, List.mem_cons_of_mem _ (List.mem_cons_of_mem _ (List.mem_cons_of_mem _ (List.mem_cons_of_mem _ (List.mem_cons_of_mem _ (List.mem_cons_of_mem _ (List.mem_cons_of_mem _ (List.mem_cons_self)))))))⟩
    · exact Or.inr ⟨rfl, List.mem_cons_of_mem _ (List.mem_cons_of_mem _ (List.mem_cons_of_mem _ (List.mem_cons_of_mem _ (List.mem_cons_of_mem _ (List.mem_cons_of_mem _ (List.mem_cons_of_mem _ (List.mem_cons_of_mem _ (List.mem_cons_self))))))))⟩
    · exact Or.inr ⟨rfl, List.mem_cons_of_mem _ (List.mem_cons_of_mem _ (List.mem_cons_of_mem _ (List.mem_cons_of_mem _ (List.mem_cons_of_mem _ (List.mem_cons_of_mem _ (List.mem_cons_of_mem _ (List.mem_cons_of_mem _ (List.mem_cons_of_mem _ (List.mem_cons_self)))))))))⟩
    · exact Or.inr ⟨rfl, List.mem_cons_of_mem _ (List.mem_cons_of_mem _ (List.mem_cons_of_mem _ (List.mem_cons_of_mem _ (List.mem_cons_of_mem _ (List.mem_cons_of_mem _ (List.mem_cons_of_mem _ (List.mem_cons_of_mem _ (List.mem_cons_of_mem _ (List.mem_cons_of_mem _ (List.mem_cons_self))))))))))⟩
    · exact Or.inr ⟨rfl, List.mem_cons_of_mem _ (List.mem_cons_of_mem _ (List.mem_cons_of_mem _ (List.mem_cons_of_mem _ (List.mem_cons_of_mem _ (List.mem_cons_of_mem _ (List.mem_cons_of_mem _ (List.mem_cons_of_mem _ (List.mem_cons_of_mem _ (List.mem_cons_of_mem _ (List.mem_cons_of_mem _ (List.mem_cons_self)))))))))))⟩
    · exact Or.inr ⟨rfl, List.mem_cons_of_mem _ (List.mem_cons_of_mem _ (List.mem_cons_of_mem _ (List.mem_cons_of_mem _ (List.mem_cons_of_mem _ (List.mem_cons_of_mem _ (List.mem_cons_of_mem _ (List.mem_cons_of_mem _ (List.mem_cons_of_mem _ (List.mem_cons_of_mem _ (List.mem_cons_of_mem _ (List.mem_cons_of_mem _ (List.mem_cons_self))))))))))))⟩
  · refine ⟨sb1o1, sb1N1, fun o ho => ?_⟩
    have ho : o ∈ ([(false, sb1_R), (false, sb1_O)] : List (Bool × wE)) := ho
    simp only [List.mem_cons, List.not_mem_nil, or_false] at ho
    rcases ho with rfl | rfl
    · exact Or.inl (List.mem_cons_self)
    · exact Or.inl (List.mem_cons_of_mem _ (List.mem_cons_self))
  · refine ⟨sb1o2, sb1N2, fun o ho => ?_⟩
    have ho : o ∈ ([(false, sb1_R), (false, sb1_O)] : List (Bool × wE)) := ho
    simp only [List.mem_cons, List.not_mem_nil, or_false] at ho
    rcases ho with rfl | rfl
    · exact Or.inl (List.mem_cons_self)
    · exact Or.inl (List.mem_cons_of_mem _ (List.mem_cons_self))
  · refine ⟨sb1o3, sb1N3, fun o ho => ?_⟩
    have ho : o ∈ ([(false, sb1_R), (false, sb1_O)] : List (Bool × wE)) := ho
    simp only [List.mem_cons, List.not_mem_nil, or_false] at ho
    rcases ho with rfl | rfl
    · exact Or.inl (List.mem_cons_self)
    · exact Or.inl (List.mem_cons_of_mem _ (List.mem_cons_self))
  · refine ⟨sb1o4, sb1N4, fun o ho => ?_⟩
    have ho : o ∈ ([(false, sb1_R), (false, sb1_O)] : List (Bool × wE)) := ho
    simp only [List.mem_cons, List.not_mem_nil, or_false] at ho
    rcases ho with rfl | rfl
    · exact Or.inl (List.mem_cons_self)
    · exact Or.inl (List.mem_cons_of_mem _ (List.mem_cons_self))
  · refine ⟨sb1o5, sb1N5, fun o ho => ?_⟩
    have ho : o ∈ ([(false, sb1_R), (false, sb1_O)] : List (Bool × wE)) := ho
    simp only [List.mem_cons, List.not_mem_nil, or_false] at ho
    rcases ho with rfl | rfl
    · exact Or.inl (List.mem_cons_self)
    · exact Or.inl (List.mem_cons_of_mem _ (List.mem_cons_self))
  · refine ⟨sb1o6, sb1N6, fun o ho => ?_⟩
    have ho : o ∈ ([(false, sb1_R), (false, sb1_O)] : List (Bool × wE)) := ho
    simp only [List.mem_cons, List.not_mem_nil, or_false] at ho
    rcases ho with rfl | rfl
    · exact Or.inl (List.mem_cons_self)
    · exact Or.inl (List.mem_cons_of_mem _ (List.mem_cons_self))
  · refine ⟨sb1o7, sb1N7, fun o ho => ?_⟩
    have ho : o ∈ ([(false, sb1_R), (false, sb1_O)] : List (Bool × wE)) := ho
    simp only [List.mem_cons, List.not_mem_nil, or_false] at ho
    rcases ho with rfl | rfl
    · exact Or.inl (List.mem_cons_self)
    · exact Or.inl (List.mem_cons_of_mem _ (List.mem_cons_self))
  · refine ⟨sb1o8, sb1N8, fun o ho => ?_⟩
    have ho : o ∈ ([(false, sb1_R), (false, sb1_O)] : List (Bool × wE)) := ho
    simp only [List.mem_cons, List.not_mem_nil, or_false] at ho
    rcases ho with rfl | rfl
    · exact Or.inl (List.mem_cons_self)
    · exact Or.inl (List.mem_cons_of_mem _ (List.mem_cons_self))
  · refine ⟨sb1o9, sb1N9, fun o ho => ?_⟩
    have ho : o ∈ ([(false, sb1_R), (false, sb1_O)] : List (Bool × wE)) := ho
    simp only [List.mem_cons, List.not_mem_nil, or_false] at ho
    rcases ho with rfl | rfl
    · exact Or.inl (List.mem_cons_self)
    · exact Or.inl (List.mem_cons_of_mem _ (List.mem_cons_self))
  · refine ⟨sb1o10, sb1N10, fun o ho => ?_⟩
    have ho : o ∈ ([(false, sb1_R), (false, sb1_O)] : List (Bool × wE)) := ho
    simp only [List.mem_cons, List.not_mem_nil, or_false] at ho
    rcases ho with rfl | rfl
    · exact Or.inl (List.mem_cons_self)
    · exact Or.inl (List.mem_cons_of_mem _ (List.mem_cons_self))
  · refine ⟨sb1o11, sb1N11, fun o ho => ?_⟩
    have ho : o ∈ ([(false, sb1_R), (false, sb1_O)] : List (Bool × wE)) := ho
    simp only [List.mem_cons, List.not_mem_nil, or_false] at ho
    rcases ho with rfl | rfl
    · exact Or.inl (List.mem_cons_self)
    · exact Or.inl (List.mem_cons_of_mem _ (List.mem_cons_self))
  · refine ⟨sb1o12, sb1N12, fun o ho => ?_⟩
    have ho : o ∈ ([(false, sb1_R), (false, sb1_O)] : List (Bool × wE)) := ho
    simp only [List.mem_cons, List.not_mem_nil, or_false] at ho
    rcases ho with rfl | rfl
    · exact Or.inl (List.mem_cons_self)
    · exact Or.inl (List.mem_cons_of_mem _ (List.mem_cons_self)))
theorem fb1N7 {xs : Nat → Int32} {n : Nat} {sf : Option Nat} : wGoes x_KT x_tb x_tyl (x_otS xs n sf) lwFR lwGA.length lwGB.length 29 35 45 fb1WA fb1WB 116 203 63 63 fb1_c1TR fb1o7 :=
  wDp (wWk (wEqvB (wCallB (recv := 0) (pc := 80) (ix := 311) (nx := 3) (args := [.inl (lSy 6), .inl (lSy 5), .inl (lK 1)]) (rest := []) (LE := [(0, .inr (some 0)), (1, .inl (lSy 6)), (2, .inl (lSy 5)), (3, .inl (lK 1)), (4, .inl (lSy 40)), (5, .inl (lSy 41))]) (cE := (lK 0)) (sE := (lK 0)) (wLiftA (dpA := 60) (pc := 20) (pcP := 22) (nx := 1) (LE := [(0, .inr (some 8)), (1, .inl (lAdd (lSy 33) (lK (-1))))]) (SE := []) (cE := (lK 0)) (sE := (lK 0)) (wReL (XA := fb1X7.2.1) (XB := fb1X7.2.2.1) (XC := fb1X7.2.2.2.1) (rk := fb1X7.2.2.2.2) (rA := fb1QA7) (rB := fb1QB7) (sb1_g0_G _ List.mem_cons_self) fb1L7) gq116 gq113 (by decide +kernel) (by decide +kernel) (by decide +kernel) (by decide +kernel)) gq203 gq205 (by decide +kernel) (by decide +kernel) (by decide +kernel) (by decide +kernel) (by decide +kernel)) (by decide +kernel) (by decide +kernel)) (by decide) (by decide) (by decide) (by decide +kernel) (by decide +kernel)) (by decide) (by decide)
theorem fb1N8 {xs : Nat → Int32} {n : Nat} {sf : Option Nat} : wGoes x_KT x_tb x_tyl (x_otS xs n sf) lwFR lwGA.length lwGB.length 29 35 45 fb1WA fb1WB 116 203 63 63 fb1_c1TO fb1o8 :=
  wDp (wWk (wEqvB (wCallB (recv := 0) (pc := 80) (ix := 311) (nx := 3) (args := [.inl (lSy 6), .inl (lSy 5), .inl (lK 1)]) (rest := []) (LE := [(0, .inr (some 0)), (1, .inl (lSy 6)), (2, .inl (lSy 5)), (3, .inl (lK 1)), (4, .inl (lSy 40)), (5, .inl (lSy 41))]) (cE := (lK 0)) (sE := (lK 0)) (wLiftA (dpA := 60) (pc := 20) (pcP := 22) (nx := 1) (LE := [(0, .inr (some 8)), (1, .inl (lAdd (lSy 33) (lK (-1))))]) (SE := []) (cE := (lK 0)) (sE := (lK 0)) (wReL (XA := fb1X8.2.1) (XB := fb1X8.2.2.1) (XC := fb1X8.2.2.2.1) (rk := fb1X8.2.2.2.2) (rA := fb1QA8) (rB := fb1QB8) (sb1_g0_G _ List.mem_cons_self) fb1L8) gq116 gq113 (by decide +kernel) (by decide +kernel) (by decide +kernel) (by decide +kernel)) gq203 gq205 (by decide +kernel) (by decide +kernel) (by decide +kernel) (by decide +kernel) (by decide +kernel)) (by decide +kernel) (by decide +kernel)) (by decide) (by decide) (by decide) (by decide +kernel) (by decide +kernel)) (by decide) (by decide)
theorem fb1N9 {xs : Nat → Int32} {n : Nat} {sf : Option Nat} : wGoes x_KT x_tb x_tyl (x_otS xs n sf) lwFR lwGA.length lwGB.length 29 35 45 fb1WA fb1WB 116 203 63 63 fb1_c1RR fb1o9 :=
  wDp (wWk (wEqvB (wCallB (recv := 0) (pc := 212) (ix := 311) (nx := 3) (args := [.inl (lSy 6), .inl (lSy 5), .inl (lK 1)]) (rest := []) (LE := [(0, .inr (some 0)), (1, .inl (lSy 6)), (2, .inl (lSy 5)), (3, .inl (lK 0)), (5, .inl (lK 1))]) (cE := (lK 0)) (sE := (lK 0)) (wLiftA (dpA := 60) (pc := 20) (pcP := 22) (nx := 1) (LE := [(0, .inr (some 8)), (1, .inl (lAdd (lSy 33) (lK (-1))))]) (SE := []) (cE := (lK 0)) (sE := (lK 0)) (wReL (XA := fb1X9.2.1) (XB := fb1X9.2.2.1) (XC := fb1X9.2.2.2.1) (rk := fb1X9.2.2.2.2) (rA := fb1QA9) (rB := fb1QB9) (sb1_g0_G _ List.mem_cons_self) fb1L9) gq116 gq113 (by decide +kernel) (by decide +kernel) (by decide +kernel) (by decide +kernel)) gq203 gq205 (by decide +kernel) (by decide +kernel) (by decide +kernel) (by decide +kernel) (by decide +kernel)) (by decide +kernel) (by decide +kernel)) (by decide) (by decide) (by decide) (by decide +kernel) (by decide +kernel)) (by decide) (by decide)
theorem fb1N10 {xs : Nat → Int32} {n : Nat} {sf : Option Nat} : wGoes x_KT x_tb x_tyl (x_otS xs n sf) lwFR lwGA.length lwGB.length 29 35 45 fb1WA fb1WB 116 203 63 63 fb1_c1RO fb1o10 :=
  wDp (wWk (wEqvB (wCallB (recv := 0) (pc := 212) (ix := 311) (nx := 3) (args := [.inl (lSy 6), .inl (lSy 5), .inl (lK 1)]) (rest := []) (LE := [(0, .inr (some 0)), (1, .inl (lSy 6)), (2, .inl (lSy 5)), (3, .inl (lK 0)), (5, .inl (lK 1))]) (cE := (lK 0)) (sE := (lK 0)) (wLiftA (dpA := 60) (pc := 20) (pcP := 22) (nx := 1) (LE := [(0, .inr (some 8)), (1, .inl (lAdd (lSy 33) (lK (-1))))]) (SE := []) (cE := (lK 0)) (sE := (lK 0)) (wReL (XA := fb1X10.2.1) (XB := fb1X10.2.2.1) (XC := fb1X10.2.2.2.1) (rk := fb1X10.2.2.2.2) (rA := fb1QA10) (rB := fb1QB10) (sb1_g0_G _ List.mem_cons_self) fb1L10) gq116 gq113 (by decide +kernel) (by decide +kernel) (by decide +kernel) (by decide +kernel)) gq203 gq205 (by decide +kernel) (by decide +kernel) (by decide +kernel) (by decide +kernel) (by decide +kernel)) (by decide +kernel) (by decide +kernel)) (by decide) (by decide) (by decide) (by decide +kernel) (by decide +kernel)) (by decide) (by decide)
theorem fb1N11 {xs : Nat → Int32} {n : Nat} {sf : Option Nat} : wGoes x_KT x_tb x_tyl (x_otS xs n sf) lwFR lwGA.length lwGB.length 29 35 45 fb1WA fb1WB 116 203 63 63 fb1_c1OR fb1o11 :=
  wDp (wWk (wEqvB (wCallB (recv := 0) (pc := 212) (ix := 311) (nx := 3) (args := [.inl (lSy 6), .inl (lSy 5), .inl (lK 1)]) (rest := []) (LE := [(0, .inr (some 0)), (1, .inl (lSy 6)), (2, .inl (lSy 5)), (3, .inl (lK 0)), (5, .inl (lK 1))]) (cE := (lK 0)) (sE := (lK 0)) (wLiftA (dpA := 60) (pc := 2) (pcP := 22) (nx := 1) (LE := [(0, .inr (some 8)), (1, .inl (lSy 36))]) (SE := []) (cE := (lK 0)) (sE := (lK 0)) (wReL (XA := fb1X11.2.1) (XB := fb1X11.2.2.1) (XC := fb1X11.2.2.2.1) (rk := fb1X11.2.2.2.2) (rA := fb1QA11) (rB := fb1QB11) (sb1_g0_G _ List.mem_cons_self) fb1L11) gq116 gq113 (by decide +kernel) (by decide +kernel) (by decide +kernel) (by decide +kernel)) gq203 gq205 (by decide +kernel) (by decide +kernel) (by decide +kernel) (by decide +kernel) (by decide +kernel)) (by decide +kernel) (by decide +kernel)) (by decide) (by decide) (by decide) (by decide +kernel) (by decide +kernel)) (by decide) (by decide)
theorem fb1N12 {xs : Nat → Int32} {n : Nat} {sf : Option Nat} : wGoes x_KT x_tb x_tyl (x_otS xs n sf) lwFR lwGA.length lwGB.length 29 35 45 fb1WA fb1WB 116 203 63 63 fb1_c0T_R fb1o12 :=
  wDp (wWk (wEd_spec (x_ov0_le sf) u_ctS lwFRok fb1E12) (Nat.le_refl _) (Nat.le_refl _) (Nat.le_refl _) (by decide +kernel) (by decide +kernel)) (by decide) (by decide)
theorem fb1N13 {xs : Nat → Int32} {n : Nat} {sf : Option Nat} : wGoes x_KT x_tb x_tyl (x_otS xs n sf) lwFR lwGA.length lwGB.length 29 35 45 fb1WA fb1WB 116 203 63 63 fb1_c0T_O fb1o13 :=
  wDp (wWk (wEd_spec (x_ov0_le sf) u_ctS lwFRok fb1E13) (Nat.le_refl _) (Nat.le_refl _) (Nat.le_refl _) (by decide +kernel) (by decide +kernel)) (by decide) (by decide)
theorem fb1N14 {xs : Nat → Int32} {n : Nat} {sf : Option Nat} : wGoes x_KT x_tb x_tyl (x_otS xs n sf) lwFR lwGA.length lwGB.length 29 35 45 fb1WA fb1WB 116 203 63 63 fb1_c0RR_R fb1o14 :=
  wDp (wWk (wEd_spec (x_ov0_le sf) u_ctS lwFRok fb1E14) (Nat.le_refl _) (Nat.le_refl _) (Nat.le_refl _) (by decide +kernel) (by decide +kernel)) (by decide) (by decide)
theorem fb1N15 {xs : Nat → Int32} {n : Nat} {sf : Option Nat} : wGoes x_KT x_tb x_tyl (x_otS xs n sf) lwFR lwGA.length lwGB.length 29 35 45 fb1WA fb1WB 116 203 63 63 fb1_c0RR_O fb1o15 :=
  wDp (wWk (wEd_spec (x_ov0_le sf) u_ctS lwFRok fb1E15) (Nat.le_refl _) (Nat.le_refl _) (Nat.le_refl _) (by decide +kernel) (by decide +kernel)) (by decide) (by decide)
theorem fb1N16 {xs : Nat → Int32} {n : Nat} {sf : Option Nat} : wGoes x_KT x_tb x_tyl (x_otS xs n sf) lwFR lwGA.length lwGB.length 29 35 45 fb1WA fb1WB 116 203 63 63 fb1_c0RO_R fb1o16 :=
  wDp (wWk (wEd_spec (x_ov0_le sf) u_ctS lwFRok fb1E16) (Nat.le_refl _) (Nat.le_refl _) (Nat.le_refl _) (by decide +kernel) (by decide +kernel)) (by decide) (by decide)
theorem fb1N17 {xs : Nat → Int32} {n : Nat} {sf : Option Nat} : wGoes x_KT x_tb x_tyl (x_otS xs n sf) lwFR lwGA.length lwGB.length 29 35 45 fb1WA fb1WB 116 203 63 63 fb1_c0RO_O fb1o17 :=
  wDp (wWk (wEd_spec (x_ov0_le sf) u_ctS lwFRok fb1E17) (Nat.le_refl _) (Nat.le_refl _) (Nat.le_refl _) (by decide +kernel) (by decide +kernel)) (by decide) (by decide)
theorem fb1N18 {xs : Nat → Int32} {n : Nat} {sf : Option Nat} : wGoes x_KT x_tb x_tyl (x_otS xs n sf) lwFR lwGA.length lwGB.length 29 35 45 fb1WA fb1WB 116 203 63 63 fb1_OR fb1o18 :=
  wDp (wWk (wEd_spec (x_ov0_le sf) u_ctS lwFRok fb1E18) (Nat.le_refl _) (Nat.le_refl _) (Nat.le_refl _) (by decide +kernel) (by decide +kernel)) (by decide) (by decide)
theorem fb1N19 {xs : Nat → Int32} {n : Nat} {sf : Option Nat} : wGoes x_KT x_tb x_tyl (x_otS xs n sf) lwFR lwGA.length lwGB.length 29 35 45 fb1WA fb1WB 116 203 63 63 fb1_c1TR_R fb1o19 :=
  wDp (wWk (wEd_spec (x_ov0_le sf) u_ctS lwFRok fb1E19) (Nat.le_refl _) (Nat.le_refl _) (Nat.le_refl _) (by decide +kernel) (by decide +kernel)) (by decide) (by decide)
theorem fb1N20 {xs : Nat → Int32} {n : Nat} {sf : Option Nat} : wGoes x_KT x_tb x_tyl (x_otS xs n sf) lwFR lwGA.length lwGB.length 29 35 45 fb1WA fb1WB 116 203 63 63 fb1_c1TR_O fb1o20 :=
  wDp (wWk (wEd_spec (x_ov0_le sf) u_ctS lwFRok fb1E20) (Nat.le_refl _) (Nat.le_refl _) (Nat.le_refl _) (by decide +kernel) (by decide +kernel)) (by decide) (by decide)
theorem fb1N21 {xs : Nat → Int32} {n : Nat} {sf : Option Nat} : wGoes x_KT x_tb x_tyl (x_otS xs n sf) lwFR lwGA.length lwGB.length 29 35 45 fb1WA fb1WB 116 203 63 63 fb1_c1TO_R fb1o21 :=
  wDp (wWk (wEd_spec (x_ov0_le sf) u_ctS lwFRok fb1E21) (Nat.le_refl _) (Nat.le_refl _) (Nat.le_refl _) (by decide +kernel) (by decide +kernel)) (by decide) (by decide)
theorem fb1N22 {xs : Nat → Int32} {n : Nat} {sf : Option Nat} : wGoes x_KT x_tb x_tyl (x_otS xs n sf) lwFR lwGA.length lwGB.length 29 35 45 fb1WA fb1WB 116 203 63 63 fb1_c1TO_O fb1o22 :=
  wDp (wWk (wEd_spec (x_ov0_le sf) u_ctS lwFRok fb1E22) (Nat.le_refl _) (Nat.le_refl _) (Nat.le_refl _) (by decide +kernel) (by decide +kernel)) (by decide) (by decide)
theorem fb1N23 {xs : Nat → Int32} {n : Nat} {sf : Option Nat} : wGoes x_KT x_tb x_tyl (x_otS xs n sf) lwFR lwGA.length lwGB.length 29 35 45 fb1WA fb1WB 116 203 63 63 fb1_c1RR_R fb1o23 :=
  wDp (wWk (wEd_spec (x_ov0_le sf) u_ctS lwFRok fb1E23) (Nat.le_refl _) (Nat.le_refl _) (Nat.le_refl _) (by decide +kernel) (by decide +kernel)) (by decide) (by decide)
theorem fb1N24 {xs : Nat → Int32} {n : Nat} {sf : Option Nat} : wGoes x_KT x_tb x_tyl (x_otS xs n sf) lwFR lwGA.length lwGB.length 29 35 45 fb1WA fb1WB 116 203 63 63 fb1_c1RR_O fb1o24 :=
  wDp (wWk (wEd_spec (x_ov0_le sf) u_ctS lwFRok fb1E24) (Nat.le_refl _) (Nat.le_refl _) (Nat.le_refl _) (by decide +kernel) (by decide +kernel)) (by decide) (by decide)
theorem fb1N25 {xs : Nat → Int32} {n : Nat} {sf : Option Nat} : wGoes x_KT x_tb x_tyl (x_otS xs n sf) lwFR lwGA.length lwGB.length 29 35 45 fb1WA fb1WB 116 203 63 63 fb1_c1RO_R fb1o25 :=
  wDp (wWk (wEd_spec (x_ov0_le sf) u_ctS lwFRok fb1E25) (Nat.le_refl _) (Nat.le_refl _) (Nat.le_refl _) (by decide +kernel) (by decide +kernel)) (by decide) (by decide)
theorem fb1N26 {xs : Nat → Int32} {n : Nat} {sf : Option Nat} : wGoes x_KT x_tb x_tyl (x_otS xs n sf) lwFR lwGA.length lwGB.length 29 35 45 fb1WA fb1WB 116 203 63 63 fb1_c1RO_O fb1o26 :=
  wDp (wWk (wEd_spec (x_ov0_le sf) u_ctS lwFRok fb1E26) (Nat.le_refl _) (Nat.le_refl _) (Nat.le_refl _) (by decide +kernel) (by decide +kernel)) (by decide) (by decide)
theorem fb1N27 {xs : Nat → Int32} {n : Nat} {sf : Option Nat} : wGoes x_KT x_tb x_tyl (x_otS xs n sf) lwFR lwGA.length lwGB.length 29 35 45 fb1WA fb1WB 116 203 63 63 fb1_c1OR_R fb1o27 :=
  wDp (wWk (wEd_spec (x_ov0_le sf) u_ctS lwFRok fb1E27) (Nat.le_refl _) (Nat.le_refl _) (Nat.le_refl _) (by decide +kernel) (by decide +kernel)) (by decide) (by decide)
theorem fb1N28 {xs : Nat → Int32} {n : Nat} {sf : Option Nat} : wGoes x_KT x_tb x_tyl (x_otS xs n sf) lwFR lwGA.length lwGB.length 29 35 45 fb1WA fb1WB 116 203 63 63 fb1_c1OR_O fb1o28 :=
  wDp (wWk (wEd_spec (x_ov0_le sf) u_ctS lwFRok fb1E28) (Nat.le_refl _) (Nat.le_refl _) (Nat.le_refl _) (by decide +kernel) (by decide +kernel)) (by decide) (by decide)
theorem fb1N29 {xs : Nat → Int32} {n : Nat} {sf : Option Nat} : wGoes x_KT x_tb x_tyl (x_otS xs n sf) lwFR lwGA.length lwGB.length 29 35 45 fb1WA fb1WB 116 203 63 63 fb1_OO fb1o29 :=
  wDp (wWk (wEd_spec (x_ov0_le sf) u_ctS lwFRok fb1E29) (Nat.le_refl _) (Nat.le_refl _) (Nat.le_refl _) (by decide +kernel) (by decide +kernel)) (by decide) (by decide)
theorem lkBN0 {xs : Nat → Int32} {n : Nat} {sf : Option Nat} : wGoes x_KT x_tb x_tyl (x_otS xs n sf) lwFR lwGA.length lwGB.length 31 33 45 lkBWA lkBWB 83 211 60 60 lkB_in lkBo0 :=
  wDp (wWk (wEd_spec (x_ov0_le sf) u_ctS lwFRok lkBE0) (Nat.le_refl _) (Nat.le_refl _) (Nat.le_refl _) (by decide +kernel) (by decide +kernel)) (by decide) (by decide)
theorem lkBN1 {xs : Nat → Int32} {n : Nat} {sf : Option Nat} : wGoes x_KT x_tb x_tyl (x_otS xs n sf) lwFR lwGA.length lwGB.length 31 33 45 lkBWA lkBWB 83 211 60 60 lkB_lp lkBo1 :=
  wDp (wWk (wEd_spec (x_ov0_le sf) u_ctS lwFRok lkBE1) (Nat.le_refl _) (Nat.le_refl _) (Nat.le_refl _) (by decide +kernel) (by decide +kernel)) (by decide) (by decide)
def bg_g0_nd : List wE := [bg_in]
theorem bg_g0_G {xs : Nat → Int32} {n : Nat} {sf : Option Nat} : ∀ nd ∈ bg_g0_nd, wGoes x_KT x_tb x_tyl (x_otS xs n sf) lwFR lwGA.length lwGB.length 27 33 45 bgWA bgWB 115 243 60 60 nd (bg_g0_ex.map (fun x => (false, x))) := wGraph (fun nd hnd => by
  have hnd : nd ∈ ([bg_in] : List wE) := hnd
  simp only [List.mem_cons, List.not_mem_nil, or_false] at hnd
  rcases hnd with rfl
  · refine ⟨bgo0, bgN0, fun o ho => ?_⟩
    have ho : o ∈ ([(false, bg_x)] : List (Bool × wE)) := ho
    simp only [List.mem_cons, List.not_mem_nil, or_false] at ho
    rcases ho with rfl
    · exact Or.inl (List.mem_cons_self))
theorem chgN0 {xs : Nat → Int32} {n : Nat} {sf : Option Nat} : wGoes x_KT x_tb x_tyl (x_otS xs n sf) lwFR lwGA.length lwGB.length 27 33 45 chgWA chgWB 115 243 64 65 chg_cb_0 chgo0 :=
  wDp (wWk (wEqvB (wReL (XA := chgX0.2.1) (XB := chgX0.2.2.1) (XC := chgX0.2.2.2.1) (rk := chgX0.2.2.2.2) (rA := chgQA0) (rB := chgQB0) (bg_g0_G _ List.mem_cons_self) chgL0) (by decide +kernel) (by decide +kernel)) (by decide) (by decide) (by decide) (by decide +kernel) (by decide +kernel)) (by decide) (by decide)
theorem chgN1 {xs : Nat → Int32} {n : Nat} {sf : Option Nat} : wGoes x_KT x_tb x_tyl (x_otS xs n sf) lwFR lwGA.length lwGB.length 27 33 45 chgWA chgWB 115 243 64 65 chg_in0 chgo1 :=
  wDp (wWk (wEd_spec (x_ov0_le sf) u_ctS lwFRok chgE1) (Nat.le_refl _) (Nat.le_refl _) (Nat.le_refl _) (by decide +kernel) (by decide +kernel)) (by decide) (by decide)
def ai_g0_nd : List wE := [ai_in, ai_c, ai_c_X]
theorem ai_g0_G {xs : Nat → Int32} {n : Nat} {sf : Option Nat} : ∀ nd ∈ ai_g0_nd, wGoes x_KT x_tb x_tyl (x_otS xs n sf) lwFR lwGA.length lwGB.length 29 35 45 aiWA aiWB 116 244 63 64 nd (ai_g0_ex.map (fun x => (false, x))) := wGraph (fun nd hnd => by
  have hnd : nd ∈ ([ai_in, ai_c, ai_c_X] : List wE) := hnd
  simp only [List.mem_cons, List.not_mem_nil, or_false] at hnd
  rcases hnd with rfl | rfl | rfl
  · refine ⟨aio1, aiN1, fun o ho => ?_⟩
    have ho : o ∈ ([(true, ai_c)] : List (Bool × wE)) := ho
    simp only [List.mem_cons, List.not_mem_nil, or_false] at ho
    rcases ho with rfl
    · exact Or.inr ⟨rfl, List.mem_cons_of_mem _ (List.mem_cons_self)⟩
  · refine ⟨aio0, aiN0, fun o ho => ?_⟩
    have ho : o ∈ ([(true, ai_c_X)] : List (Bool × wE)) := ho
    simp only [List.mem_cons, List.not_mem_nil, or_false] at ho
    rcases ho with rfl
    · exact Or.inr ⟨rfl, List.mem_cons_of_mem _ (List.mem_cons_of_mem _ (List.mem_cons_self))⟩
  · refine ⟨aio2, aiN2, fun o ho => ?_⟩
    have ho : o ∈ ([(false, ai_X)] : List (Bool × wE)) := ho
    simp only [List.mem_cons, List.not_mem_nil, or_false] at ho
    rcases ho with rfl
    · exact Or.inl (List.mem_cons_self))
theorem chgN2 {xs : Nat → Int32} {n : Nat} {sf : Option Nat} : wGoes x_KT x_tb x_tyl (x_otS xs n sf) lwFR lwGA.length lwGB.length 27 33 45 chgWA chgWB 115 243 64 65 chg_c0_0 chgo2 :=
  wDp (wWk (wEqvB (wCallB (recv := 0) (pc := 4) (ix := 392) (nx := 3) (args := [.inl (lSy 6), .inl (lSy 5)]) (rest := []) (LE := [(0, .inr (some 0)), (1, .inl (lSy 6)), (2, .inl (lK 0)), (3, .inl (lSy 19)), (4, .inl (lSy 20)), (5, .inl (lSy 5)), (6, .inl (lSy 21))]) (cE := (lK 0)) (sE := (lK 0)) (wCallA (recv := 4) (pc := 60) (ix := 320) (nx := 3) (args := []) (rest := []) (LE := [(0, .inr (some 0)), (1, .inr (some 24)), (2, .inl (lSy 5))]) (cE := (lK 0)) (sE := (lK 0)) (wReL (XA := chgX2.2.1) (XB := chgX2.2.2.1) (XC := chgX2.2.2.2.1) (rk := chgX2.2.2.2.2) (rA := chgQA2) (rB := chgQB2) (ai_g0_G _ List.mem_cons_self) chgL2) gq115 gq116 (by decide +kernel) (by decide +kernel) (by decide +kernel) (by decide +kernel) (by decide +kernel)) gq243 gq244 (by decide +kernel) (by decide +kernel) (by decide +kernel) (by decide +kernel) (by decide +kernel)) (by decide +kernel) (by decide +kernel)) (by decide) (by decide) (by decide) (by decide +kernel) (by decide +kernel)) (by decide) (by decide)
theorem chgN3 {xs : Nat → Int32} {n : Nat} {sf : Option Nat} : wGoes x_KT x_tb x_tyl (x_otS xs n sf) lwFR lwGA.length lwGB.length 27 33 45 chgWA chgWB 115 243 64 65 chg_cb_0_x chgo3 :=
  wDp (wWk (wEd_spec (x_ov0_le sf) u_ctS lwFRok chgE3) (Nat.le_refl _) (Nat.le_refl _) (Nat.le_refl _) (by decide +kernel) (by decide +kernel)) (by decide) (by decide)
def fb1_g0_nd : List wE := [fb1_in, fb1_T, fb1_c0T, fb1_c0T_R, fb1_c0T_O, fb1_c1TR, fb1_c1TO, fb1_c1TR_R, fb1_c1TR_O, fb1_c1TO_R, fb1_c1TO_O, fb1_RR, fb1_RO, fb1_OR, fb1_OO, fb1_c0RR, fb1_c0RO, fb1_c1OR, fb1_c0RR_R, fb1_c0RR_O, fb1_c0RO_R, fb1_c0RO_O, fb1_c1OR_R, fb1_c1OR_O, fb1_c1RR, fb1_c1RO, fb1_c1RR_R, fb1_c1RR_O, fb1_c1RO_R, fb1_c1RO_O]
theorem fb1_g0_G {xs : Nat → Int32} {n : Nat} {sf : Option Nat} : ∀ nd ∈ fb1_g0_nd, wGoes x_KT x_tb x_tyl (x_otS xs n sf) lwFR lwGA.length lwGB.length 29 35 45 fb1WA fb1WB 116 203 63 63 nd (fb1_g0_ex.map (fun x => (false, x))) := wGraph (fun nd hnd => by
  have hnd : nd ∈ ([fb1_in, fb1_T, fb1_c0T, fb1_c0T_R, fb1_c0T_O, fb1_c1TR, fb1_c1TO, fb1_c1TR_R, fb1_c1TR_O, fb1_c1TO_R, fb1_c1TO_O, fb1_RR, fb1_RO, fb1_OR, fb1_OO, fb1_c0RR, fb1_c0RO, fb1_c1OR, fb1_c0RR_R, fb1_c0RR_O, fb1_c0RO_R, fb1_c0RO_O, fb1_c1OR_R, fb1_c1OR_O, fb1_c1RR, fb1_c1RO, fb1_c1RR_R, fb1_c1RR_O, fb1_c1RO_R, fb1_c1RO_O] : List wE) := hnd
  simp only [List.mem_cons, List.not_mem_nil, or_false] at hnd
  rcases hnd with rfl | rfl | rfl | rfl | rfl | rfl | rfl | rfl | rfl | rfl | rfl | rfl | rfl | rfl | rfl | rfl | rfl | rfl | rfl | rfl | rfl | rfl | rfl | rfl | rfl | rfl | rfl | rfl | rfl | rfl
  · refine ⟨fb1o0, fb1N0, fun o ho => ?_⟩
    have ho : o ∈ ([(true, fb1_T)] : List (Bool × wE)) := ho
    simp only [List.mem_cons, List.not_mem_nil, or_false] at ho
    rcases ho with rfl
    · exact Or.inr ⟨rfl, List.mem_cons_of_mem _ (List.mem_cons_self)⟩
  · refine ⟨fb1o2, fb1N2, fun o ho => ?_⟩
    have ho : o ∈ ([(true, fb1_c0T)] : List (Bool × wE)) := ho
    simp only [List.mem_cons, List.not_mem_nil, or_false] at ho
    rcases ho with rfl
    · exact Or.inr ⟨rfl, List.mem_cons_of_mem _ (List.mem_cons_of_mem _ (List.mem_cons_self))⟩
  · refine ⟨fb1o1, fb1N1, fun o ho => ?_⟩
    have ho : o ∈ ([(true, fb1_c0T_R), (true, fb1_c0T_O)] : List (Bool × wE)) := ho
    simp only [List.mem_cons, List.not_mem_nil, or_false] at ho
    rcases ho with rfl | rfl
    · exact Or.inr ⟨rfl, List.mem_cons_of_mem _ (List.mem_cons_of_mem _ (List.mem_cons_of_mem _ (List.mem_cons_self)))⟩
    · exact Or.inr ⟨rfl, List.mem_cons_of_mem _ (List.mem_cons_of_mem _ (List.mem_cons_of_mem _ (List.mem_cons_of_mem _ (List.mem_cons_self))))⟩
  · refine ⟨fb1o12, fb1N12, fun o ho => ?_⟩
    have ho : o ∈ ([(true, fb1_c1TR)] : List (Bool × wE)) := ho
    simp only [List.mem_cons, List.not_mem_nil, or_false] at ho
    rcases ho with rfl
    · exact Or.inr ⟨rfl, List.mem_cons_of_mem _ (List.mem_cons_of_mem _ (List.mem_cons_of_mem _ (List.mem_cons_of_mem _ (List.mem_cons_of_mem _ (List.mem_cons_self)))))⟩
  · refine ⟨fb1o13, fb1N13, fun o ho => ?_⟩
    have ho : o ∈ ([(true, fb1_c1TO)] : List (Bool × wE)) := ho
    simp only [List.mem_cons, List.not_mem_nil, or_false] at ho
    rcases ho with rfl
    · exact Or.inr ⟨rfl, List.mem_cons_of_mem _ (List.mem_cons_of_mem _ (List.mem_cons_of_mem _ (List.mem_cons_of_mem _ (List.mem_cons_of_mem _ (List.mem_cons_of_mem _ (List.mem_cons_self))))))⟩
  · refine ⟨fb1o7, fb1N7, fun o ho => ?_⟩
    have ho : o ∈ ([(true, fb1_c1TR_R), (true, fb1_c1TR_O)] : List (Bool × wE)) := ho
    simp only [List.mem_cons, List.not_mem_nil, or_false] at ho
    rcases ho with rfl | rfl
    · exact Or.inr ⟨rfl, List.mem_cons_of_mem _ (List.mem_cons_of_mem _ (List.mem_cons_of_mem _ (List.mem_cons_of_mem _ (List.mem_cons_of_mem _ (List.mem_cons_of_mem _ (List.mem_cons_of_mem _ (List.mem_cons_self)))))))⟩
    · exact Or.inr ⟨rfl, List.mem_cons_of_mem _ (List.mem_cons_of_mem _ (List.mem_cons_of_mem _ (List.mem_cons_of_mem _ (List.mem_cons_of_mem _ (List.mem_cons_of_mem _ (List.mem_cons_of_mem _ (List.mem_cons_of_mem _ (List.mem_cons_self))))))))⟩
  · refine ⟨fb1o8, fb1N8, fun o ho => ?_⟩
    have ho : o ∈ ([(true, fb1_c1TO_R), (true, fb1_c1TO_O)] : List (Bool × wE)) := ho
    simp only [List.mem_cons, List.not_mem_nil, or_false] at ho
    rcases ho with rfl | rfl
    · exact Or.inr ⟨rfl, List.mem_cons_of_mem _ (List.mem_cons_of_mem _ (List.mem_cons_of_mem _ (List.mem_cons_of_mem _ (List.mem_cons_of_mem _ (List.mem_cons_of_mem _ (List.mem_cons_of_mem _ (List.mem_cons_of_mem _ (List.mem_cons_of_mem _ (List.mem_cons_self)))))))))⟩
    · exact Or.inr ⟨rfl, List.mem_cons_of_mem _ (List.mem_cons_of_mem _ (List.mem_cons_of_mem _ (List.mem_cons_of_mem _ (List.mem_cons_of_mem _ (List.mem_cons_of_mem _ (List.mem_cons_of_mem _ (List.mem_cons_of_mem _ (List.mem_cons_of_mem _ (List.mem_cons_of_mem _ (List.mem_cons_self))))))))))⟩
  · refine ⟨fb1o19, fb1N19, fun o ho => ?_⟩
    have ho : o ∈ ([(true, fb1_T), (true, fb1_RR), (true, fb1_RO), (true, fb1_OR), (true, fb1_OO)] : List (Bool × wE)) := ho
    simp only [List.mem_cons, List.not_mem_nil, or_false] at ho
    rcases ho with rfl | rfl | rfl | rfl | rfl
    · exact Or.inr ⟨rfl, List.mem_cons_of_mem _ (List.mem_cons_self)⟩
    · exact Or.inr ⟨rfl, List.mem_cons_of_mem _ (List.mem_cons_of_mem _ (List.mem_cons_of_mem _ (List.mem_cons_of_mem _ (List.mem_cons_of_mem _ (List.mem_cons_of_mem _ (List.mem_cons_of_mem _ (List.mem_cons_of_mem _ (List.mem_cons_of_mem _ (List.mem_cons_of_mem _ (List.mem_cons_of_mem _ (List.mem_cons_self)))))))))))⟩
    · exact Or.inr ⟨rfl, List.mem_cons_of_mem _ (List.mem_cons_of_mem _ (List.mem_cons_of_mem _ (List.mem_cons_of_mem _ (List.mem_cons_of_mem _ (List.mem_cons_of_mem _ (List.mem_cons_of_mem _ (List.mem_cons_of_mem _ (List.mem_cons_of_mem _ (List.mem_cons_of_mem _ (List.mem_cons_of_mem _ (List.mem_cons_of_mem _ (List.mem_cons_self))))))))))))⟩
    · exact Or.inr ⟨rfl, List.mem_cons_of_mem _ (List.mem_cons_of_mem _ (List.mem_cons_of_mem _ (List.mem_cons_of_mem _ (List.mem_cons_of_mem _ (List.mem_cons_of_mem _ (List.mem_cons_of_mem _ (List.mem_cons_of_mem _ (List.mem_cons_of_mem _ (List.mem_cons_of_mem _ (List.mem_cons_of_mem _ (List.mem_cons_of_mem _ (List.mem_cons_of_mem _ (List.mem_cons_self)))))))))))))⟩
    · exact Or.inr ⟨rfl, List.mem_cons_of_mem _ (List.mem_cons_of_mem _ (List.mem_cons_of_mem _ (List.mem_cons_of_mem _ (List.mem_cons_of_mem _ (List.mem_cons_of_mem _ (List.mem_cons_of_mem _ (List.mem_cons_of_mem _ (List.mem_cons_of_mem _ (List.mem_cons_of_mem _ (List.mem_cons_of_mem _ (List.mem_cons_of_mem _ (List.mem_cons_of_mem _ (List.mem_cons_of_mem _ (List.mem_cons_self))))))))))))))⟩
  · refine ⟨fb1o20, fb1N20, fun o ho => ?_⟩
    have ho : o ∈ ([(true, fb1_T), (true, fb1_RR), (true, fb1_RO), (true, fb1_OR), (true, fb1_OO)] : List (Bool × wE)) := ho
    simp only [List.mem_cons, List.not_mem_nil, or_false] at ho
    rcases ho with rfl | rfl | rfl | rfl | rfl
    · exact Or.inr ⟨rfl, List.mem_cons_of_mem _ (List.mem_cons_self)⟩
    · exact Or.inr ⟨rfl, List.mem_cons_of_mem _ (List.mem_cons_of_mem _ (List.mem_cons_of_mem _ (List.mem_cons_of_mem _ (List.mem_cons_of_mem _ (List.mem_cons_of_mem _ (List.mem_cons_of_mem _ (List.mem_cons_of_mem _ (List.mem_cons_of_mem _ (List.mem_cons_of_mem _ (List.mem_cons_of_mem _ (List.mem_cons_self)))))))))))⟩
    · exact Or.inr ⟨rfl, List.mem_cons_of_mem _ (List.mem_cons_of_mem _ (List.mem_cons_of_mem _ (List.mem_cons_of_mem _ (List.mem_cons_of_mem _ (List.mem_cons_of_mem _ (List.mem_cons_of_mem _ (List.mem_cons_of_mem _ (List.mem_cons_of_mem _ (List.mem_cons_of_mem _ (List.mem_cons_of_mem _ (List.mem_cons_of_mem _ (List.mem_cons_self))))))))))))⟩
    · exact Or.inr ⟨rfl, List.mem_cons_of_mem _ (List.mem_cons_of_mem _ (List.mem_cons_of_mem _ (List.mem_cons_of_mem _ (List.mem_cons_of_mem _ (List.mem_cons_of_mem _ (List.mem_cons_of_mem _ (List.mem_cons_of_mem _ (List.mem_cons_of_mem _ (List.mem_cons_of_mem _ (List.mem_cons_of_mem _ (List.mem_cons_of_mem _ (List.mem_cons_of_mem _ (List.mem_cons_self)))))))))))))⟩
    · exact Or.inr ⟨rfl, List.mem_cons_of_mem _ (List.mem_cons_of_mem _ (List.mem_cons_of_mem _ (List.mem_cons_of_mem _ (List.mem_cons_of_mem _ (List.mem_cons_of_mem _ (List.mem_cons_of_mem _ (List.mem_cons_of_mem _ (List.mem_cons_of_mem _ (List.mem_cons_of_mem _ (List.mem_cons_of_mem _ (List.mem_cons_of_mem _ (List.mem_cons_of_mem _ (List.mem_cons_of_mem _ (List.mem_cons_self))))))))))))))⟩
  · refine ⟨fb1o21, fb1N21, fun o ho => ?_⟩
    have ho : o ∈ ([(true, fb1_T), (true, fb1_RR), (true, fb1_RO), (true, fb1_OR), (true, fb1_OO)] : List (Bool × wE)) := ho
    simp only [List.mem_cons, List.not_mem_nil, or_false] at ho
    rcases ho with rfl | rfl | rfl | rfl | rfl
    · exact Or.inr ⟨rfl, List.mem_cons_of_mem _ (List.mem_cons_self)⟩
    · exact Or.inr ⟨rfl, List.mem_cons_of_mem _ (List.mem_cons_of_mem _ (List.mem_cons_of_mem _ (List.mem_cons_of_mem _ (List.mem_cons_of_mem _ (List.mem_cons_of_mem _ (List.mem_cons_of_mem _ (List.mem_cons_of_mem _ (List.mem_cons_of_mem _ (List.mem_cons_of_mem _ (List.mem_cons_of_mem _ (List.mem_cons_self)))))))))))⟩
    · exact Or.inr ⟨rfl, List.mem_cons_of_mem _ (List.mem_cons_of_mem _ (List.mem_cons_of_mem _ (List.mem_cons_of_mem _ (List.mem_cons_of_mem _ (List.mem_cons_of_mem _ (List.mem_cons_of_mem _ (List.mem_cons_of_mem _ (List.mem_cons_of_mem _ (List.mem_cons_of_mem _ (List.mem_cons_of_mem _ (List.mem_cons_of_mem _ (List.mem_cons_self))))))))))))⟩
    · exact Or.inr ⟨rfl, List.mem_cons_of_mem _ (List.mem_cons_of_mem _ (List.mem_cons_of_mem _ (List.mem_cons_of_mem _ (List.mem_cons_of_mem _ (List.mem_cons_of_mem _ (List.mem_cons_of_mem _ (List.mem_cons_of_mem _ (List.mem_cons_of_mem _ (List.mem_cons_of_mem _ (List.mem_cons_of_mem _ (List.mem_cons_of_mem _ (List.mem_cons_of_mem _ (List.mem_cons_self)))))))))))))⟩
    · exact Or.inr ⟨rfl, List.mem_cons_of_mem _ (List.mem_cons_of_mem _ (List.mem_cons_of_mem _ (List.mem_cons_of_mem _ (List.mem_cons_of_mem _ (List.mem_cons_of_mem _ (List.mem_cons_of_mem _ (List.mem_cons_of_mem _ (List.mem_cons_of_mem _ (List.mem_cons_of_mem _ (List.mem_cons_of_mem _ (List.mem_cons_of_mem _ (List.mem_cons_of_mem _ (List.mem_cons_of_mem _ (List.mem_cons_self))))))))))))))⟩
  · refine ⟨fb1o22, fb1N22, fun o ho => ?_⟩
    have ho : o ∈ ([(true, fb1_T), (true, fb1_RR), (true, fb1_RO), (true, fb1_OR), (true, fb1_OO)] : List (Bool × wE)) := ho
    simp only [List.mem_cons, List.not_mem_nil, or_false] at ho
    rcases ho with rfl | rfl | rfl | rfl | rfl
    · exact Or.inr ⟨rfl, List.mem_cons_of_mem _ (List.mem_cons_self)⟩
    · exact Or.inr ⟨rfl, List.mem_cons_of_mem _ (List.mem_cons_of_mem _ (List.mem_cons_of_mem _ (List.mem_cons_of_mem _ (List.mem_cons_of_mem _ (List.mem_cons_of_mem _ (List.mem_cons_of_mem _ (List.mem_cons_of_mem _ (List.mem_cons_of_mem _ (List.mem_cons_of_mem _ (List.mem_cons_of_mem _ (List.mem_cons_self)))))))))))⟩
    · exact Or.inr ⟨rfl, List.mem_cons_of_mem _ (List.mem_cons_of_mem _ (List.mem_cons_of_mem _ (List.mem_cons_of_mem _ (List.mem_cons_of_mem _ (List.mem_cons_of_mem _ (List.mem_cons_of_mem _ (List.mem_cons_of_mem _ (List.mem_cons_of_mem _ (List.mem_cons_of_mem _ (List.mem_cons_of_mem _ (List.mem_cons_of_mem _ (List.mem_cons_self))))))))))))⟩
    · exact Or.inr ⟨rfl, List.mem_cons_of_mem _ (List.mem_cons_of_mem _ (List.mem_cons_of_mem _ (List.mem_cons_of_mem _ (List.mem_cons_of_mem _ (List.mem_cons_of_mem _ (List.mem_cons_of_mem _ (List.mem_cons_of_mem _ (List.mem_cons_of_mem _ (List.mem_cons_of_mem _ (List.mem_cons_of_mem _ (List.mem_cons_of_mem _ (List.mem_cons_of_mem _ (List.mem_cons_self)))))))))))))⟩
    · exact Or.inr ⟨rfl, List.mem_cons_of_mem _ (List.mem_cons_of_mem _ (List.mem_cons_of_mem _ (List.mem_cons_of_mem _ (List.mem_cons_of_mem _ (List.mem_cons_of_mem _ (List.mem_cons_of_mem _ (List.mem_cons_of_mem _ (List.mem_cons_of_mem _ (List.mem_cons_of_mem _ (List.mem_cons_of_mem _ (List.mem_cons_of_mem _ (List.mem_cons_of_mem _ (List.mem_cons_of_mem _ (List.mem_cons_self))))))))))))))⟩
  · refine ⟨fb1o4, fb1N4, fun o ho => ?_⟩
    have ho : o ∈ ([(true, fb1_c0RR)] : List (Bool × wE)) := ho
    simp only [List.mem_cons, List.not_mem_nil, or_false] at ho
    rcases ho with rfl
    · exact Or.inr ⟨rfl, List.mem_cons_of_mem _ (List.mem_cons_of_mem _ (List.mem_cons_of_mem _ (List.mem_cons_of_mem _ (List.mem_cons_of_mem _ (List.mem_cons_of_mem _ (List.mem_cons_of_mem _ (List.mem_cons_of_mem _ (List.mem_cons_of_mem _ (List.mem_cons_of_mem _ (List.mem_cons_of_mem _ (List.mem_cons_of_mem _ (List.mem_cons_of_mem _ (List.mem_cons_of_mem _ (List.mem_cons_of_mem _ (List.mem_cons_self)))))))))))))))⟩
  · refine ⟨fb1o6, fb1N6, fun o ho => ?_⟩
    have ho : o ∈ ([(true, fb1_c0RO)] : List (Bool × wE)) := ho
    simp only [List.mem_cons, List.not_mem_nil, or_false] at ho
    rcases ho with rfl
    · exact Or.inr ⟨rfl, List.mem_cons_of_mem _ (List.mem_cons_of_mem _ (List.mem_cons_of_mem _ (List.mem_cons_of_mem _ (List.mem_cons_of_mem _ (List.mem_cons_of_mem _ (List.mem_cons_of_mem _ (List.mem_cons_of_mem _ (List.mem_cons_of_mem _ (List.mem_cons_of_mem _ (List.mem_cons_of_mem _ (List.mem_cons_of_mem _ (List.mem_cons_of_mem _ (List.mem_cons_of_mem _ (List.mem_cons_of_mem _ (List.mem_cons_of_mem _ (List.mem_cons_self))))))))))))))))⟩
  · refine ⟨fb1o18, fb1N18, fun o ho => ?_⟩
    have ho : o ∈ ([(true, fb1_c1OR)] : List (Bool × wE)) := ho
    simp only [List.mem_cons, List.not_mem_nil, or_false] at ho
    rcases ho with rfl
    · exact Or.inr ⟨rfl, List.mem_cons_of_mem _ (List.mem_cons_of_mem _ (List.mem_cons_of_mem _ (List.mem_cons_of_mem _ (List.mem_cons_of_mem _ (List.mem_cons_of_mem _ (List.mem_cons_of_mem _ (List.mem_cons_of_mem _ (List.mem_cons_of_mem _ (List.mem_cons_of_mem _ (List.mem_cons_of_mem _ (List.mem_cons_of_mem _ (List.mem_cons_of_mem _ (List.mem_cons_of_mem _ (List.mem_cons_of_mem _ (List.mem_cons_of_mem _ (List.mem_cons_of_mem _ (List.mem_cons_self)))))))))))))))))⟩
  · refine ⟨fb1o29, fb1N29, fun o ho => ?_⟩
    have ho : o ∈ ([(false, fb1_X)] : List (Bool × wE)) := ho
    simp only [List.mem_cons, List.not_mem_nil, or_false] at ho
    rcases ho with rfl
    · exact Or.inl (List.mem_cons_self)
  · refine ⟨fb1o3, fb1N3, fun o ho => ?_⟩
    have ho : o ∈ ([(true, fb1_c0RR_R), (true, fb1_c0RR_O)] : List (Bool × wE)) := ho
    simp only [List.mem_cons, List.not_mem_nil, or_false] at ho
    rcases ho with rfl | rfl
    · exact Or.inr ⟨rfl, List.mem_cons_of_mem _ (List.mem_cons_of_mem _ (List.mem_cons_of_mem _ (List.mem_cons_of_mem _ (List.mem_cons_of_mem _ (List.mem_cons_of_mem _ (List.mem_cons_of_mem _ (List.mem_cons_of_mem _ (List.mem_cons_of_mem _ (List.mem_cons_of_mem _ (List.mem_cons_of_mem _ (List.mem_cons_of_mem _ (List.mem_cons_of_mem _ (List.mem_cons_of_mem _ (List.mem_cons_of_mem _ (List.mem_cons_of_mem _ (List.mem_cons_of_mem _ (List.mem_cons_of_mem _ (List.mem_cons_self))))))))))))))))))⟩
    · exact Or.inr ⟨rfl, List.mem_cons_of_mem _ (List.mem_cons_of_mem _ (List.mem_cons_of_mem _ (List.mem_cons_of_mem _ (List.mem_cons_of_mem _ (List.mem_cons_of_mem _ (List.mem_cons_of_mem _ (List.mem_cons_of_mem _ (List.mem_cons_of_mem _ (List.mem_cons_of_mem _ (List.mem_cons_of_mem _ (List.mem_cons_of_mem _ (List.mem_cons_of_mem _ (List.mem_cons_of_mem _ (List.mem_cons_of_mem _ (List.mem_cons_of_mem _ (List.mem_cons_of_mem _ (List.mem_cons_of_mem _ (List.mem_cons_of_mem _ (List.mem_cons_self)))))))))))))))))))⟩
  · refine ⟨fb1o5, fb1N5, fun o ho => ?_⟩
    have ho : o ∈ ([(true, fb1_c0RO_R), (true, fb1_c0RO_O)] : List (Bool × wE)) := ho
    simp only [List.mem_cons, List.not_mem_nil, or_false] at ho
    rcases ho with rfl | rfl
    · exact Or.inr ⟨rfl, List.mem_cons_of_mem _ (List.mem_cons_of_mem _ (List.mem_cons_of_mem _ (List.mem_cons_of_mem _ (List.mem_cons_of_mem _ (List.mem_cons_of_mem _ (List.mem_cons_of_mem _ (List.mem_cons_of_mem _ (List.mem_cons_of_mem _ (List.mem_cons_of_mem _ (List.mem_cons_of_mem _ (List.mem_cons_of_mem _ (List.mem_cons_of_mem _ (List.mem_cons_of_mem _ (List.mem_cons_of_mem _ (List.mem_cons_of_mem _ (List.mem_cons_of_mem _ (List.mem_cons_of_mem _ (List.mem_cons_of_mem _ (List.mem_cons_of_mem _ (List.mem_cons_self))))))))))))))))))))⟩
    · exact Or.inr ⟨rfl, List.mem_cons_of_mem _ (List.mem_cons_of_mem _ (List.mem_cons_of_mem _ (List.mem_cons_of_mem _ (List.mem_cons_of_mem _ (List.mem_cons_of_mem _ (List.mem_cons_of_mem _ (List.mem_cons_of_mem _ (List.mem_cons_of_mem _ (List.mem_cons_of_mem _ (List.mem_cons_of_mem _ (List.mem_cons_of_mem _ (List.mem_cons_of_mem _ (List.mem_cons_of_mem _ (List.mem_cons_of_mem _ (List.mem_cons_of_mem _ (List.mem_cons_of_mem _ (List.mem_cons_of_mem _ (List.mem_cons_of_mem _ (List.mem_cons_of_mem _ (List.mem_cons_of_mem _ (List.mem_cons_self)))))))))))))))))))))⟩
  · refine ⟨fb1o11, fb1N11, fun o ho => ?_⟩
    have ho : o ∈ ([(true, fb1_c1OR_R), (true, fb1_c1OR_O)] : List (Bool × wE)) := ho
    simp only [List.mem_cons, List.not_mem_nil, or_false] at ho
    rcases ho with rfl | rfl
    · exact Or.inr ⟨rfl, List.mem_cons_of_mem _ (List.mem_cons_of_mem _ (List.mem_cons_of_mem _ (List.mem_cons_of_mem _ (List.mem_cons_of_mem _ (List.mem_cons_of_mem _ (List.mem_cons_of_mem _ (List.mem_cons_of_mem _ (List.mem_cons_of_mem _ (List.mem_cons_of_mem _ (List.mem_cons_of_mem _ (List.mem_cons_of_mem _ (List.mem_cons_of_mem _ (List.mem_cons_of_mem _ (List.mem_cons_of_mem _ (List.mem_cons_of_mem _ (List.mem_cons_of_mem _ (List.mem_cons_of_mem _ (List.mem_cons_of_mem _ (List.mem_cons_of_mem _ (List.mem_cons_of_mem _ (List.mem_cons_of_mem _ (List.mem_cons_self))))))))))))))))))))))⟩
    · exact Or.inr ⟨rfl, List.mem_cons_of_mem _ (List.mem_cons_of_mem _ (List.mem_cons_of_mem _ (List.mem_cons_of_mem _ (List.mem_cons_of_mem _ (List.mem_cons_of_mem _ (List.mem_cons_of_mem _ (List.mem_cons_of_mem _ (List.mem_cons_of_mem _ (List.mem_cons_of_mem _ (List.mem_cons_of_mem _ (List.mem_cons_of_mem _ (List.mem_cons_of_mem _ (List.mem_cons_of_mem _ (List.mem_cons_of_mem _ (List.mem_cons_of_mem _ (List.mem_cons_of_mem _ (List.mem_cons_of_mem _ (List.mem_cons_of_mem _ (List.mem_cons_of_mem _ (List.mem_cons_of_mem _ (List.mem_cons_of_mem _ (List.mem_cons_of_mem _ (List.mem_cons_self)))))))))))))))))))))))⟩
  · refine ⟨fb1o14, fb1N14, fun o ho => ?_⟩
    have ho : o ∈ ([(true, fb1_c1RR)] : List (Bool × wE)) := ho
    simp only [List.mem_cons, List.not_mem_nil, or_false] at ho
    rcases ho with rfl
    · exact Or.inr ⟨rfl, List.mem_cons_of_mem _ (List.mem_cons_of_mem _ (List.mem_cons_of_mem _ (List.mem_cons_of_mem _ (List.mem_cons_of_mem _ (List.mem_cons_of_mem _ (List.mem_cons_of_mem _ (List.mem_cons_of_mem _ (List.mem_cons_of_mem _ (List.mem_cons_of_mem _ (List.mem_cons_of_mem _ (List.mem_cons_of_mem _ (List.mem_cons_of_mem _ (List.mem_cons_of_mem _ (List.mem_cons_of_mem _ (List.mem_cons_of_mem _ (List.mem_cons_of_mem _ (List.mem_cons_of_mem _ (List.mem_cons_of_mem _ (List.mem_cons_of_mem _ (List.mem_cons_of_mem _ (List.mem_cons_of_mem _ (List.mem_cons_of_mem _ (List.mem_cons_of_mem _ (List.mem_cons_self))))))))))))))))))))))))⟩
  · refine ⟨fb1o15, fb1N15, fun o ho => ?_⟩
    have ho : o ∈ ([(true, fb1_c1RO)] : List (Bool × wE)) := ho
    simp only [List.mem_cons, List.not_mem_nil, or_false] at ho
    rcases ho with rfl
    · exact Or.inr ⟨rfl, List.mem_cons_of_mem _ (List.mem_cons_of_mem _ (List.mem_cons_of_mem _ (List.mem_cons_of_mem _ (List.mem_cons_of_mem _ (List.mem_cons_of_mem _ (List.mem_cons_of_mem _ (List.mem_cons_of_mem _ (List.mem_cons_of_mem _ (List.mem_cons_of_mem _ (List.mem_cons_of_mem _ (List.mem_cons_of_mem _ (List.mem_cons_of_mem _ (List.mem_cons_of_mem _ (List.mem_cons_of_mem _ (List.mem_cons_of_mem _ (List.mem_cons_of_mem _ (List.mem_cons_of_mem _ (List.mem_cons_of_mem _ (List.mem_cons_of_mem _ (List.mem_cons_of_mem _ (List.mem_cons_of_mem _ (List.mem_cons_of_mem _ (List.mem_cons_of_mem _ (List.mem_cons_of_mem _ (List.mem_cons_self)))))))))))))))))))))))))⟩
  · refine ⟨fb1o16, fb1N16, fun o ho => ?_⟩
    have ho : o ∈ ([(true, fb1_RO), (true, fb1_OO)] : List (Bool × wE)) := ho
    simp only [List.mem_cons, List.not_mem_nil, or_false] at ho
    rcases ho with rfl | rfl
    · exact Or.inr ⟨rfl, List.mem_cons_of_mem _ (List.mem_cons_of_mem _ (List.mem_cons_of_mem _ (List.mem_cons_of_mem _ (List.mem_cons_of_mem _ (List.mem_cons_of_mem _ (List.mem_cons_of_mem _ (List.mem_cons_of_mem _ (List.mem_cons_of_mem _ (List.mem_cons_of_mem _ (List.mem_cons_of_mem _ (List.mem_cons_of_mem _ (List.mem_cons_self))))))))))))⟩
    · exact Or.inr ⟨rfl, List.mem_cons_of_mem _ (List.mem_cons_of_mem _ (List.mem_cons_of_mem _ (List.mem_cons_of_mem _ (List.mem_cons_of_mem _ (List.mem_cons_of_mem _ (List.mem_cons_of_mem _ (List.mem_cons_of_mem _ (List.mem_cons_of_mem _ (List.mem_cons_of_mem _ (List.mem_cons_of_mem _ (List.mem_cons_of_mem _ (List.mem_cons_of_mem _ (List.mem_cons_of_mem _ (List.mem_cons_self))))))))))))))⟩
  · refine ⟨fb1o17, fb1N17, fun o ho => ?_⟩
    have ho : o ∈ ([(true, fb1_RO), (true, fb1_OO)] : List (Bool × wE)) := ho
    simp only [List.mem_cons, List.not_mem_nil, or_false] at ho
    rcases ho with rfl | rfl
    · exact Or.inr ⟨rfl, List.mem_cons_of_mem _ (List.mem_cons_of_mem _ (List.mem_cons_of_mem _ (List.mem_cons_of_mem _ (List.mem_cons_of_mem _ (List.mem_cons_of_mem _ (List.mem_cons_of_mem _ (List.mem_cons_of_mem _ (List.mem_cons_of_mem _ (List.mem_cons_of_mem _ (List.mem_cons_of_mem _ (List.mem_cons_of_mem _ (List.mem_cons_self))))))))))))⟩
    · exact Or.inr ⟨rfl, List.mem_cons_of_mem _ (List.mem_cons_of_mem _ (List.mem_cons_of_mem _ (List.mem_cons_of_mem _ (List.mem_cons_of_mem _ (List.mem_cons_of_mem _ (List.mem_cons_of_mem _ (List.mem_cons_of_mem _ (List.mem_cons_of_mem _ (List.mem_cons_of_mem _ (List.mem_cons_of_mem _ (List.mem_cons_of_mem _ (List.mem_cons_of_mem _ (List.mem_cons_of_mem _ (List.mem_cons_self))))))))))))))⟩
  · refine ⟨fb1o27, fb1N27, fun o ho => ?_⟩
    have ho : o ∈ ([(true, fb1_OR), (true, fb1_OO)] : List (Bool × wE)) := ho
    simp only [List.mem_cons, List.not_mem_nil, or_false] at ho
    rcases ho with rfl | rfl
    · exact Or.inr ⟨rfl, List.mem_cons_of_mem _ (List.mem_cons_of_mem _ (List.mem_cons_of_mem _ (List.mem_cons_of_mem _ (List.mem_cons_of_mem _ (List.mem_cons_of_mem _ (List.mem_cons_of_mem _ (List.mem_cons_of_mem _ (List.mem_cons_of_mem _ (List.mem_cons_of_mem _ (List.mem_cons_of_mem _ (List.mem_cons_of_mem _ (List.mem_cons_of_mem _ (List.mem_cons_self)))))))))))))⟩
    · exact Or.inr ⟨rfl, List.mem_cons_of_mem _ (List.mem_cons_of_mem _ (List.mem_cons_of_mem _ (List.mem_cons_of_mem _ (List.mem_cons_of_mem _ (List.mem_cons_of_mem _ (List.mem_cons_of_mem _ (List.mem_cons_of_mem _ (List.mem_cons_of_mem _ (List.mem_cons_of_mem _ (List.mem_cons_of_mem _ (List.mem_cons_of_mem _ (List.mem_cons_of_mem _ (List.mem_cons_of_mem _ (List.mem_cons_self))))))))))))))⟩
  · refine ⟨fb1o28, fb1N28, fun o ho => ?_⟩
    have ho : o ∈ ([(true, fb1_OR), (true, fb1_OO)] : List (Bool × wE)) := ho
    simp only [List.mem_cons, List.not_mem_nil, or_false] at ho
    rcases ho with rfl | rfl
    · exact Or.inr ⟨rfl, List.mem_cons_of_mem _ (List.mem_cons_of_mem _ (List.mem_cons_of_mem _ (List.mem_cons_of_mem _ (List.mem_cons_of_mem _ (List.mem_cons_of_mem _ (List.mem_cons_of_mem _ (List.mem_cons_of_mem _ (List.mem_cons_of_mem _ (List.mem_cons_of_mem _ (List.mem_cons_of_mem _ (List.mem_cons_of_mem _ (List.mem_cons_of_mem _ (List.mem_cons_self)))))))))))))⟩
    · exact Or.inr ⟨rfl, List.mem_cons_of_mem _ (List.mem_cons_of_mem _ (List.mem_cons_of_mem _ (List.mem_cons_of_mem _ (List.mem_cons_of_mem _ (List.mem_cons_of_mem _ (List.mem_cons_of_mem _ (List.mem_cons_of_mem _ (List.mem_cons_of_mem _ (List.mem_cons_of_mem _ (List.mem_cons_of_mem _ (List.mem_cons_of_mem _ (List.mem_cons_of_mem _ (List.mem_cons_of_mem _ (List.mem_cons_self))))))))))))))⟩
  · refine ⟨fb1o9, fb1N9, fun o ho => ?_⟩
    have ho : o ∈ ([(true, fb1_c1RR_R), (true, fb1_c1RR_O)] : List (Bool × wE)) := ho
    simp only [List.mem_cons, List.not_mem_nil, or_false] at ho
    rcases ho with rfl | rfl
    · exact Or.inr ⟨rfl, List.mem_cons_of_mem _ (List.mem_cons_of_mem _ (List.mem_cons_of_mem _ (List.mem_cons_of_mem _ (List.mem_cons_of_mem _ (List.mem_cons_of_mem _ (List.mem_cons_of_mem _ (List.mem_cons_of_mem _ (List.mem_cons_of_mem _ (List.mem_cons_of_mem _ (List.mem_cons_of_mem _ (List.mem_cons_of_mem _ (List.mem_cons_of_mem _ (List.mem_cons_of_mem _ (List.mem_cons_of_mem _ (List.mem_cons_of_mem _ (List.mem_cons_of_mem _ (List.mem_cons_of_mem _ (List.mem_cons_of_mem _ (List.mem_cons_of_mem _ (List.mem_cons_of_mem _ (List.mem_cons_of_mem _ (List.mem_cons_of_mem _ (List.mem_cons_of_mem _ (List.mem_cons_of_mem _ (List.mem_cons_of_mem _ (List.mem_cons_self))))))))))))))))))))))))))⟩
    · exact Or.inr ⟨rfl, List.mem_cons_of_mem _ (List.mem_cons_of_mem _ (List.mem_cons_of_mem _ (List.mem_cons_of_mem _ (List.mem_cons_of_mem _ (List.mem_cons_of_mem _ (List.mem_cons_of_mem _ (List.mem_cons_of_mem _ (List.mem_cons_of_mem _ (List.mem_cons_of_mem _ (List.mem_cons_of_mem _ (List.mem_cons_of_mem _ (List.mem_cons_of_mem _ (List.mem_cons_of_mem _ (List.mem_cons_of_mem _ (List.mem_cons_of_mem _ (List.mem_cons_of_mem _ (List.mem_cons_of_mem _ (List.mem_cons_of_mem _ (List.mem_cons_of_mem _ (List.mem_cons_of_mem _ (List.mem_cons_of_mem _ (List.mem_cons_of_mem _ (List.mem_cons_of_mem _ (List.mem_cons_of_mem _ (List.mem_cons_of_mem _ (List.mem_cons_of_mem _ (List.mem_cons_self)))))))))))))))))))))))))))⟩
  · refine ⟨fb1o10, fb1N10, fun o ho => ?_⟩
    have ho : o ∈ ([(true, fb1_c1RO_R), (true, fb1_c1RO_O)] : List (Bool × wE)) := ho
    simp only [List.mem_cons, List.not_mem_nil, or_false] at ho
    rcases ho with rfl | rfl
    · exact Or.inr ⟨rfl, List.mem_cons_of_mem _ (List.mem_cons_of_mem _ (List.mem_cons_of_mem _ (List.mem_cons_of_mem _ (List.mem_cons_of_mem _ (List.mem_cons_of_mem _ (List.mem_cons_of_mem _ (List.mem_cons_of_mem _ (List.mem_cons_of_mem _ (List.mem_cons_of_mem _ (List.mem_cons_of_mem _ (List.mem_cons_of_mem _ (List.mem_cons_of_mem _ (List.mem_cons_of_mem _ (List.mem_cons_of_mem _ (List.mem_cons_of_mem _ (List.mem_cons_of_mem _ (List.mem_cons_of_mem _ (List.mem_cons_of_mem _ (List.mem_cons_of_mem _ (List.mem_cons_of_mem _ (List.mem_cons_of_mem _ (List.mem_cons_of_mem _ (List.mem_cons_of_mem _ (List.mem_cons_of_mem _ (List.mem_cons_of_mem _ (List.mem_cons_of_mem _ (List.mem_cons_of_mem _ (List.mem_cons_self))))))))))))))))))))))))))))⟩
    · exact Or.inr ⟨rfl, List.mem_cons_of_mem _ (List.mem_cons_of_mem _ (List.mem_cons_of_mem _ (List.mem_cons_of_mem _ (List.mem_cons_of_mem _ (List.mem_cons_of_mem _ (List.mem_cons_of_mem _ (List.mem_cons_of_mem _ (List.mem_cons_of_mem _ (List.mem_cons_of_mem _ (List.mem_cons_of_mem _ (List.mem_cons_of_mem _ (List.mem_cons_of_mem _ (List.mem_cons_of_mem _ (List.mem_cons_of_mem _ (List.mem_cons_of_mem _ (List.mem_cons_of_mem _ (List.mem_cons_of_mem _ (List.mem_cons_of_mem _ (List.mem_cons_of_mem _ (List.mem_cons_of_mem _ (List.mem_cons_of_mem _ (List.mem_cons_of_mem _ (List.mem_cons_of_mem _ (List.mem_cons_of_mem _ (List.mem_cons_of_mem _ (List.mem_cons_of_mem _ (List.mem_cons_of_mem _ (List.mem_cons_of_mem _ (List.mem_cons_self)))))))))))))))))))))))))))))⟩
  · refine ⟨fb1o23, fb1N23, fun o ho => ?_⟩
    have ho : o ∈ ([(true, fb1_T), (true, fb1_RR), (true, fb1_RO), (true, fb1_OR), (true, fb1_OO)] : List (Bool × wE)) := ho
    simp only [List.mem_cons, List.not_mem_nil, or_false] at ho
    rcases ho with rfl | rfl | rfl | rfl | rfl
    · exact Or.inr ⟨rfl, List.mem_cons_of_mem _ (List.mem_cons_self)⟩
    · exact Or.inr ⟨rfl, List.mem_cons_of_mem _ (List.mem_cons_of_mem _ (List.mem_cons_of_mem _ (List.mem_cons_of_mem _ (List.mem_cons_of_mem _ (List.mem_cons_of_mem _ (List.mem_cons_of_mem _ (List.mem_cons_of_mem _ (List.mem_cons_of_mem _ (List.mem_cons_of_mem _ (List.mem_cons_of_mem _ (List.mem_cons_self)))))))))))⟩
    · exact Or.inr ⟨rfl, List.mem_cons_of_mem _ (List.mem_cons_of_mem _ (List.mem_cons_of_mem _ (List.mem_cons_of_mem _ (List.mem_cons_of_mem _ (List.mem_cons_of_mem _ (List.mem_cons_of_mem _ (List.mem_cons_of_mem _ (List.mem_cons_of_mem _ (List.mem_cons_of_mem _ (List.mem_cons_of_mem _ (List.mem_cons_of_mem _ (List.mem_cons_self))))))))))))⟩
    · exact Or.inr ⟨rfl, List.mem_cons_of_mem _ (List.mem_cons_of_mem _ (List.mem_cons_of_mem _ (List.mem_cons_of_mem _ (List.mem_cons_of_mem _ (List.mem_cons_of_mem _ (List.mem_cons_of_mem _ (List.mem_cons_of_mem _ (List.mem_cons_of_mem _ (List.mem_cons_of_mem _ (List.mem_cons_of_mem _ (List.mem_cons_of_mem _ (List.mem_cons_of_mem _ (List.mem_cons_self)))))))))))))⟩
    · exact Or.inr ⟨rfl, List.mem_cons_of_mem _ (List.mem_cons_of_mem _ (List.mem_cons_of_mem _ (List.mem_cons_of_mem _ (List.mem_cons_of_mem _ (List.mem_cons_of_mem _ (List.mem_cons_of_mem _ (List.mem_cons_of_mem _ (List.mem_cons_of_mem _ (List.mem_cons_of_mem _ (List.mem_cons_of_mem _ (List.mem_cons_of_mem _ (List.mem_cons_of_mem _ (List.mem_cons_of_mem _ (List.mem_cons_self))))))))))))))⟩
  · refine ⟨fb1o24, fb1N24, fun o ho => ?_⟩
    have ho : o ∈ ([(true, fb1_T), (true, fb1_RR), (true, fb1_RO), (true, fb1_OR), (true, fb1_OO)] : List (Bool × wE)) := ho
    simp only [List.mem_cons, List.not_mem_nil, or_false] at ho
    rcases ho with rfl | rfl | rfl | rfl | rfl
    · exact Or.inr ⟨rfl, List.mem_cons_of_mem _ (List.mem_cons_self)⟩
    · exact Or.inr ⟨rfl, List.mem_cons_of_mem _ (List.mem_cons_of_mem _ (List.mem_cons_of_mem _ (List.mem_cons_of_mem _ (List.mem_cons_of_mem _ (List.mem_cons_of_mem _ (List.mem_cons_of_mem _ (List.mem_cons_of_mem _ (List.mem_cons_of_mem _ (List.mem_cons_of_mem _ (List.mem_cons_of_mem _ (List.mem_cons_self)))))))))))⟩
    · exact Or.inr ⟨rfl, List.mem_cons_of_mem _ (List.mem_cons_of_mem _ (List.mem_cons_of_mem _ (List.mem_cons_of_mem _ (List.mem_cons_of_mem _ (List.mem_cons_of_mem _ (List.mem_cons_of_mem _ (List.mem_cons_of_mem _ (List.mem_cons_of_mem _ (List.mem_cons_of_mem _ (List.mem_cons_of_mem _ (List.mem_cons_of_mem _ (List.mem_cons_self))))))))))))⟩
    · exact Or.inr ⟨rfl, List.mem_cons_of_mem _ (List.mem_cons_of_mem _ (List.mem_cons_of_mem _ (List.mem_cons_of_mem _ (List.mem_cons_of_mem _ (List.mem_cons_of_mem _ (List.mem_cons_of_mem _ (List.mem_cons_of_mem _ (List.mem_cons_of_mem _ (List.mem_cons_of_mem _ (List.mem_cons_of_mem _ (List.mem_cons_of_mem _ (List.mem_cons_of_mem _ (List.mem_cons_self)))))))))))))⟩
    · exact Or.inr ⟨rfl, List.mem_cons_of_mem _ (List.mem_cons_of_mem _ (List.mem_cons_of_mem _ (List.mem_cons_of_mem _ (List.mem_cons_of_mem _ (List.mem_cons_of_mem _ (List.mem_cons_of_mem _ (List.mem_cons_of_mem _ (List.mem_cons_of_mem _ (List.mem_cons_of_mem _ (List.mem_cons_of_mem _ (List.mem_cons_of_mem _ (List.mem_cons_of_mem _ (List.mem_cons_of_mem _ (List.mem_cons_self))))))))))))))⟩
  · refine ⟨fb1o25, fb1N25, fun o ho => ?_⟩
    have ho : o ∈ ([(true, fb1_T), (true, fb1_RR), (true, fb1_RO), (true, fb1_OR), (true, fb1_OO)] : List (Bool × wE)) := ho
    simp only [List.mem_cons, List.not_mem_nil, or_false] at ho
    rcases ho with rfl | rfl | rfl | rfl | rfl
    · exact Or.inr ⟨rfl, List.mem_cons_of_mem _ (List.mem_cons_self)⟩
    · exact Or.inr ⟨rfl, List.mem_cons_of_mem _ (List.mem_cons_of_mem _ (List.mem_cons_of_mem _ (List.mem_cons_of_mem _ (List.mem_cons_of_mem _ (List.mem_cons_of_mem _ (List.mem_cons_of_mem _ (List.mem_cons_of_mem _ (List.mem_cons_of_mem _ (List.mem_cons_of_mem _ (List.mem_cons_of_mem _ (List.mem_cons_self)))))))))))⟩
    · exact Or.inr ⟨rfl, List.mem_cons_of_mem _ (List.mem_cons_of_mem _ (List.mem_cons_of_mem _ (List.mem_cons_of_mem _ (List.mem_cons_of_mem _ (List.mem_cons_of_mem _ (List.mem_cons_of_mem _ (List.mem_cons_of_mem _ (List.mem_cons_of_mem _ (List.mem_cons_of_mem _ (List.mem_cons_of_mem _ (List.mem_cons_of_mem _ (List.mem_cons_self))))))))))))⟩
    · exact Or.inr ⟨rfl, List.mem_cons_of_mem _ (List.mem_cons_of_mem _ (List.mem_cons_of_mem _ (List.mem_cons_of_mem _ (List.mem_cons_of_mem _ (List.mem_cons_of_mem _ (List.mem_cons_of_mem _ (List.mem_cons_of_mem _ (List.mem_cons_of_mem _ (List.mem_cons_of_mem _ (List.mem_cons_of_mem _ (List.mem_cons_of_mem _ (List.mem_cons_of_mem _ (List.mem_cons_self)))))))))))))⟩
    · exact Or.inr ⟨rfl, List.mem_cons_of_mem _ (List.mem_cons_of_mem _ (List.mem_cons_of_mem _ (List.mem_cons_of_mem _ (List.mem_cons_of_mem _ (List.mem_cons_of_mem _ (List.mem_cons_of_mem _ (List.mem_cons_of_mem _ (List.mem_cons_of_mem _ (List.mem_cons_of_mem _ (List.mem_cons_of_mem _ (List.mem_cons_of_mem _ (List.mem_cons_of_mem _ (List.mem_cons_of_mem _ (List.mem_cons_self))))))))))))))⟩
  · refine ⟨fb1o26, fb1N26, fun o ho => ?_⟩
    have ho : o ∈ ([(true, fb1_T), (true, fb1_RR), (true, fb1_RO), (true, fb1_OR), (true, fb1_OO)] : List (Bool × wE)) := ho
    simp only [List.mem_cons, List.not_mem_nil, or_false] at ho
    rcases ho with rfl | rfl | rfl | rfl | rfl
    · exact Or.inr ⟨rfl, List.mem_cons_of_mem _ (List.mem_cons_self)⟩
    · exact Or.inr ⟨rfl, List.mem_cons_of_mem _ (List.mem_cons_of_mem _ (List.mem_cons_of_mem _ (List.mem_cons_of_mem _ (List.mem_cons_of_mem _ (List.mem_cons_of_mem _ (List.mem_cons_of_mem _ (List.mem_cons_of_mem _ (List.mem_cons_of_mem _ (List.mem_cons_of_mem _ (List.mem_cons_of_mem _ (List.mem_cons_self)))))))))))⟩
    · exact Or.inr ⟨rfl, List.mem_cons_of_mem _ (List.mem_cons_of_mem _ (List.mem_cons_of_mem _ (List.mem_cons_of_mem _ (List.mem_cons_of_mem _ (List.mem_cons_of_mem _ (List.mem_cons_of_mem _ (List.mem_cons_of_mem _ (List.mem_cons_of_mem _ (List.mem_cons_of_mem _ (List.mem_cons_of_mem _ (List.mem_cons_of_mem _ (List.mem_cons_self))))))))))))⟩
    · exact Or.inr ⟨rfl, List.mem_cons_of_mem _ (List.mem_cons_of_mem _ (List.mem_cons_of_mem _ (List.mem_cons_of_mem _ (List.mem_cons_of_mem _ (List.mem_cons_of_mem _ (List.mem_cons_of_mem _ (List.mem_cons_of_mem _ (List.mem_cons_of_mem _ (List.mem_cons_of_mem _ (List.mem_cons_of_mem _ (List.mem_cons_of_mem _ (List.mem_cons_of_mem _ (List.mem_cons_self)))))))))))))⟩
    · exact Or.inr ⟨rfl, List.mem_cons_of_mem _ (List.mem_cons_of_mem _ (List.mem_cons_of_mem _ (List.mem_cons_of_mem _ (List.mem_cons_of_mem _ (List.mem_cons_of_mem _ (List.mem_cons_of_mem _ (List.mem_cons_of_mem _ (List.mem_cons_of_mem _ (List.mem_cons_of_mem _ (List.mem_cons_of_mem _ (List.mem_cons_of_mem _ (List.mem_cons_of_mem _ (List.mem_cons_of_mem _ (List.mem_cons_self))))))))))))))⟩)
theorem chgN4 {xs : Nat → Int32} {n : Nat} {sf : Option Nat} : wGoes x_KT x_tb x_tyl (x_otS xs n sf) lwFR lwGA.length lwGB.length 27 33 45 chgWA chgWB 115 243 64 65 chg_c1_0 chgo4 :=
  wDp (wWk (wEqvB (wCallB (recv := 0) (pc := 50) (ix := 315) (nx := 3) (args := [.inl (lSy 6), .inl (lSy 5)]) (rest := []) (LE := [(0, .inr (some 0)), (1, .inl (lSy 6)), (2, .inl (lK 0)), (3, .inl (lSy 19)), (4, .inl (lSy 20)), (5, .inl (lSy 5)), (6, .inl (lSy 21)), (7, .inl (lSy 7)), (8, .inl (lSy 13))]) (cE := (lK 0)) (sE := (lK 0)) (wCallA (recv := 8) (pc := 68) (ix := 320) (nx := 3) (args := []) (rest := []) (LE := [(0, .inr (some 0)), (1, .inr (some 24)), (2, .inl (lSy 5)), (3, .inl (lSy 27))]) (cE := (lK 0)) (sE := (lK 0)) (wReL (XA := chgX4.2.1) (XB := chgX4.2.2.1) (XC := chgX4.2.2.2.1) (rk := chgX4.2.2.2.2) (rA := chgQA4) (rB := chgQB4) (fb1_g0_G _ List.mem_cons_self) chgL4) gq115 gq116 (by decide +kernel) (by decide +kernel) (by decide +kernel) (by decide +kernel) (by decide +kernel)) gq243 gq203 (by decide +kernel) (by decide +kernel) (by decide +kernel) (by decide +kernel) (by decide +kernel)) (by decide +kernel) (by decide +kernel)) (by decide) (by decide) (by decide) (by decide +kernel) (by decide +kernel)) (by decide) (by decide)
theorem chgN5 {xs : Nat → Int32} {n : Nat} {sf : Option Nat} : wGoes x_KT x_tb x_tyl (x_otS xs n sf) lwFR lwGA.length lwGB.length 27 33 45 chgWA chgWB 115 243 64 65 chg_c0_0_X chgo5 :=
  wDp (wWk (wFamE2 (V := [45, 46]) (x_ov0_le sf) u_ctS lwFRok chgE5 (by decide) (by decide) (fun i hi u hu => by
      have hi : i ∈ ([45, 46] : List Nat) := hi
      simp only [List.mem_cons, List.not_mem_nil, or_false] at hi
      rcases hi with rfl | rfl
      · cases hu
        exact wRkE_spec (x_ov0_le sf) u_ctS lwFRok chgE5R45
      · cases hu
        exact wRkE_spec (x_ov0_le sf) u_ctS lwFRok chgE5R46)) (Nat.le_refl _) (Nat.le_refl _) (Nat.le_refl _) (by decide +kernel) (by decide +kernel)) (by decide) (by decide)
def lkB_g0_nd : List wE := [lkB_in, lkB_lp]
theorem lkB_g0_G {xs : Nat → Int32} {n : Nat} {sf : Option Nat} : ∀ nd ∈ lkB_g0_nd, wGoes x_KT x_tb x_tyl (x_otS xs n sf) lwFR lwGA.length lwGB.length 31 33 45 lkBWA lkBWB 83 211 60 60 nd (lkB_g0_ex.map (fun x => (false, x))) := wGraph (fun nd hnd => by
  have hnd : nd ∈ ([lkB_in, lkB_lp] : List wE) := hnd
  simp only [List.mem_cons, List.not_mem_nil, or_false] at hnd
  rcases hnd with rfl | rfl
  · refine ⟨lkBo0, lkBN0, fun o ho => ?_⟩
    have ho : o ∈ ([(true, lkB_lp), (false, lkB_e0), (false, lkB_e1)] : List (Bool × wE)) := ho
    simp only [List.mem_cons, List.not_mem_nil, or_false] at ho
    rcases ho with rfl | rfl | rfl
    · exact Or.inr ⟨rfl, List.mem_cons_of_mem _ (List.mem_cons_self)⟩
    · exact Or.inl (List.mem_cons_self)
    · exact Or.inl (List.mem_cons_of_mem _ (List.mem_cons_self))
  · refine ⟨lkBo1, lkBN1, fun o ho => ?_⟩
    have ho : o ∈ ([(true, lkB_lp), (false, lkB_e0), (false, lkB_e1)] : List (Bool × wE)) := ho
    simp only [List.mem_cons, List.not_mem_nil, or_false] at ho
    rcases ho with rfl | rfl | rfl
    · exact Or.inr ⟨rfl, List.mem_cons_of_mem _ (List.mem_cons_self)⟩
    · exact Or.inl (List.mem_cons_self)
    · exact Or.inl (List.mem_cons_of_mem _ (List.mem_cons_self)))
theorem chgN6 {xs : Nat → Int32} {n : Nat} {sf : Option Nat} : wGoes x_KT x_tb x_tyl (x_otS xs n sf) lwFR lwGA.length lwGB.length 27 33 45 chgWA chgWB 115 243 64 65 chg_cl_0 chgo6 :=
  wDp (wWk (wEqvB (wCallBs (pc := 93) (ix := 319) (nx := 3) (so := 2) (args := [.inr (some 37), .inl (lSy 28), .inr (some 11), .inl (lSy 30)]) (rest := []) (LE := [(0, .inr (some 0)), (6, .inl (lSy 21))]) (cE := (lK 0)) (sE := (lK 0)) (wCallA (recv := 6) (pc := 87) (ix := 324) (nx := 3) (args := [.inr (some 10)]) (rest := []) (LE := [(0, .inr (some 0)), (1, .inr (some 24)), (2, .inl (lSy 5)), (3, .inl (lSy 27)), (4, .inl (lSy 29))]) (cE := (lK 0)) (sE := (lK 0)) (wReL (XA := chgX6.2.1) (XB := chgX6.2.2.1) (XC := chgX6.2.2.2.1) (rk := chgX6.2.2.2.2) (rA := chgQA6) (rB := chgQB6) (lkB_g0_G _ List.mem_cons_self) chgL6) gq115 gq83 (by decide +kernel) (by decide +kernel) (by decide +kernel) (by decide +kernel) (by decide +kernel)) gq243 gq211 (by decide +kernel) (by decide +kernel) (by decide +kernel) (by decide +kernel) (by decide +kernel)) (by decide +kernel) (by decide +kernel)) (by decide) (by decide) (by decide) (by decide +kernel) (by decide +kernel)) (by decide) (by decide)
theorem chgN7 {xs : Nat → Int32} {n : Nat} {sf : Option Nat} : wGoes x_KT x_tb x_tyl (x_otS xs n sf) lwFR lwGA.length lwGB.length 27 33 45 chgWA chgWB 115 243 64 65 chg_c1_0_X chgo7 :=
  wDp (wWk (wFamE2 (V := [2]) (x_ov0_le sf) u_ctS lwFRok chgE7 (by decide) (by decide) (fun i hi u hu => by
      have hi : i ∈ ([2] : List Nat) := hi
      simp only [List.mem_cons, List.not_mem_nil, or_false] at hi
      rcases hi with rfl
      · cases hu
        exact wRkE_spec (x_ov0_le sf) u_ctS lwFRok chgE7R2)) (Nat.le_refl _) (Nat.le_refl _) (Nat.le_refl _) (by decide +kernel) (by decide +kernel)) (by decide) (by decide)
theorem chgN8 {xs : Nat → Int32} {n : Nat} {sf : Option Nat} : wGoes x_KT x_tb x_tyl (x_otS xs n sf) lwFR lwGA.length lwGB.length 27 33 45 chgWA chgWB 115 243 64 65 chg_cl_0_e0 chgo8 :=
  wDp (wWk (wEd_spec (x_ov0_le sf) u_ctS lwFRok chgE8) (Nat.le_refl _) (Nat.le_refl _) (Nat.le_refl _) (by decide +kernel) (by decide +kernel)) (by decide) (by decide)
theorem chgN9 {xs : Nat → Int32} {n : Nat} {sf : Option Nat} : wGoes x_KT x_tb x_tyl (x_otS xs n sf) lwFR lwGA.length lwGB.length 27 33 45 chgWA chgWB 115 243 64 65 chg_cl_0_e1 chgo9 :=
  wDp (wWk (wEd_spec (x_ov0_le sf) u_ctS lwFRok chgE9) (Nat.le_refl _) (Nat.le_refl _) (Nat.le_refl _) (by decide +kernel) (by decide +kernel)) (by decide) (by decide)
theorem chgN10 {xs : Nat → Int32} {n : Nat} {sf : Option Nat} : wGoes x_KT x_tb x_tyl (x_otS xs n sf) lwFR lwGA.length lwGB.length 27 33 45 chgWA chgWB 115 243 64 65 chg_cb_1 chgo10 :=
  wDp (wWk (wEqvB (wReL (XA := chgX10.2.1) (XB := chgX10.2.2.1) (XC := chgX10.2.2.2.1) (rk := chgX10.2.2.2.2) (rA := chgQA10) (rB := chgQB10) (bg_g0_G _ List.mem_cons_self) chgL10) (by decide +kernel) (by decide +kernel)) (by decide) (by decide) (by decide) (by decide +kernel) (by decide +kernel)) (by decide) (by decide)
theorem chgN11 {xs : Nat → Int32} {n : Nat} {sf : Option Nat} : wGoes x_KT x_tb x_tyl (x_otS xs n sf) lwFR lwGA.length lwGB.length 27 33 45 chgWA chgWB 115 243 64 65 chg_in1 chgo11 :=
  wDp (wWk (wEd_spec (x_ov0_le sf) u_ctS lwFRok chgE11) (Nat.le_refl _) (Nat.le_refl _) (Nat.le_refl _) (by decide +kernel) (by decide +kernel)) (by decide) (by decide)
theorem chgN12 {xs : Nat → Int32} {n : Nat} {sf : Option Nat} : wGoes x_KT x_tb x_tyl (x_otS xs n sf) lwFR lwGA.length lwGB.length 27 33 45 chgWA chgWB 115 243 64 65 chg_c0_1 chgo12 :=
  wDp (wWk (wEqvB (wCallB (recv := 0) (pc := 4) (ix := 392) (nx := 3) (args := [.inl (lSy 6), .inl (lSy 5)]) (rest := []) (LE := [(0, .inr (some 0)), (1, .inl (lSy 6)), (2, .inl (lK 1)), (3, .inl (lSy 19)), (4, .inl (lSy 20)), (5, .inl (lSy 5)), (6, .inl (lSy 21))]) (cE := (lK 0)) (sE := (lK 0)) (wCallA (recv := 4) (pc := 60) (ix := 320) (nx := 3) (args := []) (rest := []) (LE := [(0, .inr (some 0)), (1, .inr (some 24)), (2, .inl (lSy 5))]) (cE := (lK 0)) (sE := (lK 0)) (wReL (XA := chgX12.2.1) (XB := chgX12.2.2.1) (XC := chgX12.2.2.2.1) (rk := chgX12.2.2.2.2) (rA := chgQA12) (rB := chgQB12) (ai_g0_G _ List.mem_cons_self) chgL12) gq115 gq116 (by decide +kernel) (by decide +kernel) (by decide +kernel) (by decide +kernel) (by decide +kernel)) gq243 gq244 (by decide +kernel) (by decide +kernel) (by decide +kernel) (by decide +kernel) (by decide +kernel)) (by decide +kernel) (by decide +kernel)) (by decide) (by decide) (by decide) (by decide +kernel) (by decide +kernel)) (by decide) (by decide)
theorem chgN13 {xs : Nat → Int32} {n : Nat} {sf : Option Nat} : wGoes x_KT x_tb x_tyl (x_otS xs n sf) lwFR lwGA.length lwGB.length 27 33 45 chgWA chgWB 115 243 64 65 chg_cb_1_x chgo13 :=
  wDp (wWk (wEd_spec (x_ov0_le sf) u_ctS lwFRok chgE13) (Nat.le_refl _) (Nat.le_refl _) (Nat.le_refl _) (by decide +kernel) (by decide +kernel)) (by decide) (by decide)
theorem chgN14 {xs : Nat → Int32} {n : Nat} {sf : Option Nat} : wGoes x_KT x_tb x_tyl (x_otS xs n sf) lwFR lwGA.length lwGB.length 27 33 45 chgWA chgWB 115 243 64 65 chg_c1_1 chgo14 :=
  wDp (wWk (wEqvB (wCallB (recv := 0) (pc := 50) (ix := 315) (nx := 3) (args := [.inl (lSy 6), .inl (lSy 5)]) (rest := []) (LE := [(0, .inr (some 0)), (1, .inl (lSy 6)), (2, .inl (lK 1)), (3, .inl (lSy 19)), (4, .inl (lSy 20)), (5, .inl (lSy 5)), (6, .inl (lSy 21)), (7, .inl (lSy 8)), (8, .inl (lSy 14))]) (cE := (lK 0)) (sE := (lK 0)) (wCallA (recv := 8) (pc := 68) (ix := 320) (nx := 3) (args := []) (rest := []) (LE := [(0, .inr (some 0)), (1, .inr (some 24)), (2, .inl (lSy 5)), (3, .inl (lSy 27))]) (cE := (lK 0)) (sE := (lK 0)) (wReL (XA := chgX14.2.1) (XB := chgX14.2.2.1) (XC := chgX14.2.2.2.1) (rk := chgX14.2.2.2.2) (rA := chgQA14) (rB := chgQB14) (fb1_g0_G _ List.mem_cons_self) chgL14) gq115 gq116 (by decide +kernel) (by decide +kernel) (by decide +kernel) (by decide +kernel) (by decide +kernel)) gq243 gq203 (by decide +kernel) (by decide +kernel) (by decide +kernel) (by decide +kernel) (by decide +kernel)) (by decide +kernel) (by decide +kernel)) (by decide) (by decide) (by decide) (by decide +kernel) (by decide +kernel)) (by decide) (by decide)
theorem chgN15 {xs : Nat → Int32} {n : Nat} {sf : Option Nat} : wGoes x_KT x_tb x_tyl (x_otS xs n sf) lwFR lwGA.length lwGB.length 27 33 45 chgWA chgWB 115 243 64 65 chg_c0_1_X chgo15 :=
  wDp (wWk (wFamE2 (V := [45, 46]) (x_ov0_le sf) u_ctS lwFRok chgE15 (by decide) (by decide) (fun i hi u hu => by
      have hi : i ∈ ([45, 46] : List Nat) := hi
      simp only [List.mem_cons, List.not_mem_nil, or_false] at hi
      rcases hi with rfl | rfl
      · cases hu
        exact wRkE_spec (x_ov0_le sf) u_ctS lwFRok chgE15R45
      · cases hu
        exact wRkE_spec (x_ov0_le sf) u_ctS lwFRok chgE15R46)) (Nat.le_refl _) (Nat.le_refl _) (Nat.le_refl _) (by decide +kernel) (by decide +kernel)) (by decide) (by decide)
theorem chgN16 {xs : Nat → Int32} {n : Nat} {sf : Option Nat} : wGoes x_KT x_tb x_tyl (x_otS xs n sf) lwFR lwGA.length lwGB.length 27 33 45 chgWA chgWB 115 243 64 65 chg_cl_1 chgo16 :=
  wDp (wWk (wEqvB (wCallBs (pc := 93) (ix := 319) (nx := 3) (so := 2) (args := [.inr (some 37), .inl (lSy 28), .inr (some 11), .inl (lSy 30)]) (rest := []) (LE := [(0, .inr (some 0)), (6, .inl (lSy 21))]) (cE := (lK 0)) (sE := (lK 0)) (wCallA (recv := 6) (pc := 87) (ix := 324) (nx := 3) (args := [.inr (some 10)]) (rest := []) (LE := [(0, .inr (some 0)), (1, .inr (some 24)), (2, .inl (lSy 5)), (3, .inl (lSy 27)), (4, .inl (lSy 29))]) (cE := (lK 0)) (sE := (lK 0)) (wReL (XA := chgX16.2.1) (XB := chgX16.2.2.1) (XC := chgX16.2.2.2.1) (rk := chgX16.2.2.2.2) (rA := chgQA16) (rB := chgQB16) (lkB_g0_G _ List.mem_cons_self) chgL16) gq115 gq83 (by decide +kernel) (by decide +kernel) (by decide +kernel) (by decide +kernel) (by decide +kernel)) gq243 gq211 (by decide +kernel) (by decide +kernel) (by decide +kernel) (by decide +kernel) (by decide +kernel)) (by decide +kernel) (by decide +kernel)) (by decide) (by decide) (by decide) (by decide +kernel) (by decide +kernel)) (by decide) (by decide)
theorem chgN17 {xs : Nat → Int32} {n : Nat} {sf : Option Nat} : wGoes x_KT x_tb x_tyl (x_otS xs n sf) lwFR lwGA.length lwGB.length 27 33 45 chgWA chgWB 115 243 64 65 chg_c1_1_X chgo17 :=
  wDp (wWk (wFamE2 (V := [2]) (x_ov0_le sf) u_ctS lwFRok chgE17 (by decide) (by decide) (fun i hi u hu => by
      have hi : i ∈ ([2] : List Nat) := hi
      simp only [List.mem_cons, List.not_mem_nil, or_false] at hi
      rcases hi with rfl
      · cases hu
        exact wRkE_spec (x_ov0_le sf) u_ctS lwFRok chgE17R2)) (Nat.le_refl _) (Nat.le_refl _) (Nat.le_refl _) (by decide +kernel) (by decide +kernel)) (by decide) (by decide)
theorem chgN18 {xs : Nat → Int32} {n : Nat} {sf : Option Nat} : wGoes x_KT x_tb x_tyl (x_otS xs n sf) lwFR lwGA.length lwGB.length 27 33 45 chgWA chgWB 115 243 64 65 chg_cl_1_e0 chgo18 :=
  wDp (wWk (wEd_spec (x_ov0_le sf) u_ctS lwFRok chgE18) (Nat.le_refl _) (Nat.le_refl _) (Nat.le_refl _) (by decide +kernel) (by decide +kernel)) (by decide) (by decide)
theorem chgN19 {xs : Nat → Int32} {n : Nat} {sf : Option Nat} : wGoes x_KT x_tb x_tyl (x_otS xs n sf) lwFR lwGA.length lwGB.length 27 33 45 chgWA chgWB 115 243 64 65 chg_cl_1_e1 chgo19 :=
  wDp (wWk (wEd_spec (x_ov0_le sf) u_ctS lwFRok chgE19) (Nat.le_refl _) (Nat.le_refl _) (Nat.le_refl _) (by decide +kernel) (by decide +kernel)) (by decide) (by decide)
theorem chgN20 {xs : Nat → Int32} {n : Nat} {sf : Option Nat} : wGoes x_KT x_tb x_tyl (x_otS xs n sf) lwFR lwGA.length lwGB.length 27 33 45 chgWA chgWB 115 243 64 65 chg_cb_2 chgo20 :=
  wDp (wWk (wEqvB (wReL (XA := chgX20.2.1) (XB := chgX20.2.2.1) (XC := chgX20.2.2.2.1) (rk := chgX20.2.2.2.2) (rA := chgQA20) (rB := chgQB20) (bg_g0_G _ List.mem_cons_self) chgL20) (by decide +kernel) (by decide +kernel)) (by decide) (by decide) (by decide) (by decide +kernel) (by decide +kernel)) (by decide) (by decide)
theorem chgN21 {xs : Nat → Int32} {n : Nat} {sf : Option Nat} : wGoes x_KT x_tb x_tyl (x_otS xs n sf) lwFR lwGA.length lwGB.length 27 33 45 chgWA chgWB 115 243 64 65 chg_in2 chgo21 :=
  wDp (wWk (wEd_spec (x_ov0_le sf) u_ctS lwFRok chgE21) (Nat.le_refl _) (Nat.le_refl _) (Nat.le_refl _) (by decide +kernel) (by decide +kernel)) (by decide) (by decide)
theorem chgN22 {xs : Nat → Int32} {n : Nat} {sf : Option Nat} : wGoes x_KT x_tb x_tyl (x_otS xs n sf) lwFR lwGA.length lwGB.length 27 33 45 chgWA chgWB 115 243 64 65 chg_c0_2 chgo22 :=
  wDp (wWk (wEqvB (wCallB (recv := 0) (pc := 4) (ix := 392) (nx := 3) (args := [.inl (lSy 6), .inl (lSy 5)]) (rest := []) (LE := [(0, .inr (some 0)), (1, .inl (lSy 6)), (2, .inl (lK 2)), (3, .inl (lSy 19)), (4, .inl (lSy 20)), (5, .inl (lSy 5)), (6, .inl (lSy 21))]) (cE := (lK 0)) (sE := (lK 0)) (wCallA (recv := 4) (pc := 60) (ix := 320) (nx := 3) (args := []) (rest := []) (LE := [(0, .inr (some 0)), (1, .inr (some 24)), (2, .inl (lSy 5))]) (cE := (lK 0)) (sE := (lK 0)) (wReL (XA := chgX22.2.1) (XB := chgX22.2.2.1) (XC := chgX22.2.2.2.1) (rk := chgX22.2.2.2.2) (rA := chgQA22) (rB := chgQB22) (ai_g0_G _ List.mem_cons_self) chgL22) gq115 gq116 (by decide +kernel) (by decide +kernel) (by decide +kernel) (by decide +kernel) (by decide +kernel)) gq243 gq244 (by decide +kernel) (by decide +kernel) (by decide +kernel) (by decide +kernel) (by decide +kernel)) (by decide +kernel) (by decide +kernel)) (by decide) (by decide) (by decide) (by decide +kernel) (by decide +kernel)) (by decide) (by decide)
theorem chgN23 {xs : Nat → Int32} {n : Nat} {sf : Option Nat} : wGoes x_KT x_tb x_tyl (x_otS xs n sf) lwFR lwGA.length lwGB.length 27 33 45 chgWA chgWB 115 243 64 65 chg_cb_2_x chgo23 :=
  wDp (wWk (wEd_spec (x_ov0_le sf) u_ctS lwFRok chgE23) (Nat.le_refl _) (Nat.le_refl _) (Nat.le_refl _) (by decide +kernel) (by decide +kernel)) (by decide) (by decide)
theorem chgN24 {xs : Nat → Int32} {n : Nat} {sf : Option Nat} : wGoes x_KT x_tb x_tyl (x_otS xs n sf) lwFR lwGA.length lwGB.length 27 33 45 chgWA chgWB 115 243 64 65 chg_c1_2 chgo24 :=
  wDp (wWk (wEqvB (wCallB (recv := 0) (pc := 50) (ix := 315) (nx := 3) (args := [.inl (lSy 6), .inl (lSy 5)]) (rest := []) (LE := [(0, .inr (some 0)), (1, .inl (lSy 6)), (2, .inl (lK 2)), (3, .inl (lSy 19)), (4, .inl (lSy 20)), (5, .inl (lSy 5)), (6, .inl (lSy 21)), (7, .inl (lSy 9)), (8, .inl (lSy 15))]) (cE := (lK 0)) (sE := (lK 0)) (wCallA (recv := 8) (pc := 68) (ix := 320) (nx := 3) (args := []) (rest := []) (LE := [(0, .inr (some 0)), (1, .inr (some 24)), (2, .inl (lSy 5)), (3, .inl (lSy 27))]) (cE := (lK 0)) (sE := (lK 0)) (wReL (XA := chgX24.2.1) (XB := chgX24.2.2.1) (XC := chgX24.2.2.2.1) (rk := chgX24.2.2.2.2) (rA := chgQA24) (rB := chgQB24) (fb1_g0_G _ List.mem_cons_self) chgL24) gq115 gq116 (by decide +kernel) (by decide +kernel) (by decide +kernel) (by decide +kernel) (by decide +kernel)) gq243 gq203 (by decide +kernel) (by decide +kernel) (by decide +kernel) (by decide +kernel) (by decide +kernel)) (by decide +kernel) (by decide +kernel)) (by decide) (by decide) (by decide) (by decide +kernel) (by decide +kernel)) (by decide) (by decide)
theorem chgN25 {xs : Nat → Int32} {n : Nat} {sf : Option Nat} : wGoes x_KT x_tb x_tyl (x_otS xs n sf) lwFR lwGA.length lwGB.length 27 33 45 chgWA chgWB 115 243 64 65 chg_c0_2_X chgo25 :=
  wDp (wWk (wFamE2 (V := [45, 46]) (x_ov0_le sf) u_ctS lwFRok chgE25 (by decide) (by decide) (fun i hi u hu => by
      have hi : i ∈ ([45, 46] : List Nat) := hi
      simp only [List.mem_cons, List.not_mem_nil, or_false] at hi
      rcases hi with rfl | rfl
      · cases hu
        exact wRkE_spec (x_ov0_le sf) u_ctS lwFRok chgE25R45
      · cases hu
        exact wRkE_spec (x_ov0_le sf) u_ctS lwFRok chgE25R46)) (Nat.le_refl _) (Nat.le_refl _) (Nat.le_refl _) (by decide +kernel) (by decide +kernel)) (by decide) (by decide)
theorem chgN26 {xs : Nat → Int32} {n : Nat} {sf : Option Nat} : wGoes x_KT x_tb x_tyl (x_otS xs n sf) lwFR lwGA.length lwGB.length 27 33 45 chgWA chgWB 115 243 64 65 chg_cl_2 chgo26 :=
  wDp (wWk (wEqvB (wCallBs (pc := 93) (ix := 319) (nx := 3) (so := 2) (args := [.inr (some 37), .inl (lSy 28), .inr (some 11), .inl (lSy 30)]) (rest := []) (LE := [(0, .inr (some 0)), (6, .inl (lSy 21))]) (cE := (lK 0)) (sE := (lK 0)) (wCallA (recv := 6) (pc := 87) (ix := 324) (nx := 3) (args := [.inr (some 10)]) (rest := []) (LE := [(0, .inr (some 0)), (1, .inr (some 24)), (2, .inl (lSy 5)), (3, .inl (lSy 27)), (4, .inl (lSy 29))]) (cE := (lK 0)) (sE := (lK 0)) (wReL (XA := chgX26.2.1) (XB := chgX26.2.2.1) (XC := chgX26.2.2.2.1) (rk := chgX26.2.2.2.2) (rA := chgQA26) (rB := chgQB26) (lkB_g0_G _ List.mem_cons_self) chgL26) gq115 gq83 (by decide +kernel) (by decide +kernel) (by decide +kernel) (by decide +kernel) (by decide +kernel)) gq243 gq211 (by decide +kernel) (by decide +kernel) (by decide +kernel) (by decide +kernel) (by decide +kernel)) (by decide +kernel) (by decide +kernel)) (by decide) (by decide) (by decide) (by decide +kernel) (by decide +kernel)) (by decide) (by decide)
theorem chgN27 {xs : Nat → Int32} {n : Nat} {sf : Option Nat} : wGoes x_KT x_tb x_tyl (x_otS xs n sf) lwFR lwGA.length lwGB.length 27 33 45 chgWA chgWB 115 243 64 65 chg_c1_2_X chgo27 :=
  wDp (wWk (wFamE2 (V := [2]) (x_ov0_le sf) u_ctS lwFRok chgE27 (by decide) (by decide) (fun i hi u hu => by
      have hi : i ∈ ([2] : List Nat) := hi
      simp only [List.mem_cons, List.not_mem_nil, or_false] at hi
      rcases hi with rfl
      · cases hu
        exact wRkE_spec (x_ov0_le sf) u_ctS lwFRok chgE27R2)) (Nat.le_refl _) (Nat.le_refl _) (Nat.le_refl _) (by decide +kernel) (by decide +kernel)) (by decide) (by decide)
theorem chgN28 {xs : Nat → Int32} {n : Nat} {sf : Option Nat} : wGoes x_KT x_tb x_tyl (x_otS xs n sf) lwFR lwGA.length lwGB.length 27 33 45 chgWA chgWB 115 243 64 65 chg_cl_2_e0 chgo28 :=
  wDp (wWk (wEd_spec (x_ov0_le sf) u_ctS lwFRok chgE28) (Nat.le_refl _) (Nat.le_refl _) (Nat.le_refl _) (by decide +kernel) (by decide +kernel)) (by decide) (by decide)
theorem chgN29 {xs : Nat → Int32} {n : Nat} {sf : Option Nat} : wGoes x_KT x_tb x_tyl (x_otS xs n sf) lwFR lwGA.length lwGB.length 27 33 45 chgWA chgWB 115 243 64 65 chg_cl_2_e1 chgo29 :=
  wDp (wWk (wEd_spec (x_ov0_le sf) u_ctS lwFRok chgE29) (Nat.le_refl _) (Nat.le_refl _) (Nat.le_refl _) (by decide +kernel) (by decide +kernel)) (by decide) (by decide)
theorem chgN30 {xs : Nat → Int32} {n : Nat} {sf : Option Nat} : wGoes x_KT x_tb x_tyl (x_otS xs n sf) lwFR lwGA.length lwGB.length 27 33 45 chgWA chgWB 115 243 64 65 chg_cb_3 chgo30 :=
  wDp (wWk (wEqvB (wReL (XA := chgX30.2.1) (XB := chgX30.2.2.1) (XC := chgX30.2.2.2.1) (rk := chgX30.2.2.2.2) (rA := chgQA30) (rB := chgQB30) (bg_g0_G _ List.mem_cons_self) chgL30) (by decide +kernel) (by decide +kernel)) (by decide) (by decide) (by decide) (by decide +kernel) (by decide +kernel)) (by decide) (by decide)
theorem chgN31 {xs : Nat → Int32} {n : Nat} {sf : Option Nat} : wGoes x_KT x_tb x_tyl (x_otS xs n sf) lwFR lwGA.length lwGB.length 27 33 45 chgWA chgWB 115 243 64 65 chg_in3 chgo31 :=
  wDp (wWk (wEd_spec (x_ov0_le sf) u_ctS lwFRok chgE31) (Nat.le_refl _) (Nat.le_refl _) (Nat.le_refl _) (by decide +kernel) (by decide +kernel)) (by decide) (by decide)
theorem chgN32 {xs : Nat → Int32} {n : Nat} {sf : Option Nat} : wGoes x_KT x_tb x_tyl (x_otS xs n sf) lwFR lwGA.length lwGB.length 27 33 45 chgWA chgWB 115 243 64 65 chg_c0_3 chgo32 :=
  wDp (wWk (wEqvB (wCallB (recv := 0) (pc := 4) (ix := 392) (nx := 3) (args := [.inl (lSy 6), .inl (lSy 5)]) (rest := []) (LE := [(0, .inr (some 0)), (1, .inl (lSy 6)), (2, .inl (lK 3)), (3, .inl (lSy 19)), (4, .inl (lSy 20)), (5, .inl (lSy 5)), (6, .inl (lSy 21))]) (cE := (lK 0)) (sE := (lK 0)) (wCallA (recv := 4) (pc := 60) (ix := 320) (nx := 3) (args := []) (rest := []) (LE := [(0, .inr (some 0)), (1, .inr (some 24)), (2, .inl (lSy 5))]) (cE := (lK 0)) (sE := (lK 0)) (wReL (XA := chgX32.2.1) (XB := chgX32.2.2.1) (XC := chgX32.2.2.2.1) (rk := chgX32.2.2.2.2) (rA := chgQA32) (rB := chgQB32) (ai_g0_G _ List.mem_cons_self) chgL32) gq115 gq116 (by decide +kernel) (by decide +kernel) (by decide +kernel) (by decide +kernel) (by decide +kernel)) gq243 gq244 (by decide +kernel) (by decide +kernel) (by decide +kernel) (by decide +kernel) (by decide +kernel)) (by decide +kernel) (by decide +kernel)) (by decide) (by decide) (by decide) (by decide +kernel) (by decide +kernel)) (by decide) (by decide)
theorem chgN33 {xs : Nat → Int32} {n : Nat} {sf : Option Nat} : wGoes x_KT x_tb x_tyl (x_otS xs n sf) lwFR lwGA.length lwGB.length 27 33 45 chgWA chgWB 115 243 64 65 chg_cb_3_x chgo33 :=
  wDp (wWk (wEd_spec (x_ov0_le sf) u_ctS lwFRok chgE33) (Nat.le_refl _) (Nat.le_refl _) (Nat.le_refl _) (by decide +kernel) (by decide +kernel)) (by decide) (by decide)
theorem chgN34 {xs : Nat → Int32} {n : Nat} {sf : Option Nat} : wGoes x_KT x_tb x_tyl (x_otS xs n sf) lwFR lwGA.length lwGB.length 27 33 45 chgWA chgWB 115 243 64 65 chg_c1_3 chgo34 :=
  wDp (wWk (wEqvB (wCallB (recv := 0) (pc := 50) (ix := 315) (nx := 3) (args := [.inl (lSy 6), .inl (lSy 5)]) (rest := []) (LE := [(0, .inr (some 0)), (1, .inl (lSy 6)), (2, .inl (lK 3)), (3, .inl (lSy 19)), (4, .inl (lSy 20)), (5, .inl (lSy 5)), (6, .inl (lSy 21)), (7, .inl (lSy 10)), (8, .inl (lSy 16))]) (cE := (lK 0)) (sE := (lK 0)) (wCallA (recv := 8) (pc := 68) (ix := 320) (nx := 3) (args := []) (rest := []) (LE := [(0, .inr (some 0)), (1, .inr (some 24)), (2, .inl (lSy 5)), (3, .inl (lSy 27))]) (cE := (lK 0)) (sE := (lK 0)) (wReL (XA := chgX34.2.1) (XB := chgX34.2.2.1) (XC := chgX34.2.2.2.1) (rk := chgX34.2.2.2.2) (rA := chgQA34) (rB := chgQB34) (fb1_g0_G _ List.mem_cons_self) chgL34) gq115 gq116 (by decide +kernel) (by decide +kernel) (by decide +kernel) (by decide +kernel) (by decide +kernel)) gq243 gq203 (by decide +kernel) (by decide +kernel) (by decide +kernel) (by decide +kernel) (by decide +kernel)) (by decide +kernel) (by decide +kernel)) (by decide) (by decide) (by decide) (by decide +kernel) (by decide +kernel)) (by decide) (by decide)
theorem chgN35 {xs : Nat → Int32} {n : Nat} {sf : Option Nat} : wGoes x_KT x_tb x_tyl (x_otS xs n sf) lwFR lwGA.length lwGB.length 27 33 45 chgWA chgWB 115 243 64 65 chg_c0_3_X chgo35 :=
  wDp (wWk (wFamE2 (V := [45, 46]) (x_ov0_le sf) u_ctS lwFRok chgE35 (by decide) (by decide) (fun i hi u hu => by
      have hi : i ∈ ([45, 46] : List Nat) := hi
      simp only [List.mem_cons, List.not_mem_nil, or_false] at hi
      rcases hi with rfl | rfl
      · cases hu
        exact wRkE_spec (x_ov0_le sf) u_ctS lwFRok chgE35R45
      · cases hu
        exact wRkE_spec (x_ov0_le sf) u_ctS lwFRok chgE35R46)) (Nat.le_refl _) (Nat.le_refl _) (Nat.le_refl _) (by decide +kernel) (by decide +kernel)) (by decide) (by decide)
theorem chgN36 {xs : Nat → Int32} {n : Nat} {sf : Option Nat} : wGoes x_KT x_tb x_tyl (x_otS xs n sf) lwFR lwGA.length lwGB.length 27 33 45 chgWA chgWB 115 243 64 65 chg_cl_3 chgo36 :=
  wDp (wWk (wEqvB (wCallBs (pc := 93) (ix := 319) (nx := 3) (so := 2) (args := [.inr (some 37), .inl (lSy 28), .inr (some 11), .inl (lSy 30)]) (rest := []) (LE := [(0, .inr (some 0)), (6, .inl (lSy 21))]) (cE := (lK 0)) (sE := (lK 0)) (wCallA (recv := 6) (pc := 87) (ix := 324) (nx := 3) (args := [.inr (some 10)]) (rest := []) (LE := [(0, .inr (some 0)), (1, .inr (some 24)), (2, .inl (lSy 5)), (3, .inl (lSy 27)), (4, .inl (lSy 29))]) (cE := (lK 0)) (sE := (lK 0)) (wReL (XA := chgX36.2.1) (XB := chgX36.2.2.1) (XC := chgX36.2.2.2.1) (rk := chgX36.2.2.2.2) (rA := chgQA36) (rB := chgQB36) (lkB_g0_G _ List.mem_cons_self) chgL36) gq115 gq83 (by decide +kernel) (by decide +kernel) (by decide +kernel) (by decide +kernel) (by decide +kernel)) gq243 gq211 (by decide +kernel) (by decide +kernel) (by decide +kernel) (by decide +kernel) (by decide +kernel)) (by decide +kernel) (by decide +kernel)) (by decide) (by decide) (by decide) (by decide +kernel) (by decide +kernel)) (by decide) (by decide)
theorem chgN37 {xs : Nat → Int32} {n : Nat} {sf : Option Nat} : wGoes x_KT x_tb x_tyl (x_otS xs n sf) lwFR lwGA.length lwGB.length 27 33 45 chgWA chgWB 115 243 64 65 chg_c1_3_X chgo37 :=
  wDp (wWk (wFamE2 (V := [2]) (x_ov0_le sf) u_ctS lwFRok chgE37 (by decide) (by decide) (fun i hi u hu => by
      have hi : i ∈ ([2] : List Nat) := hi
      simp only [List.mem_cons, List.not_mem_nil, or_false] at hi
      rcases hi with rfl
      · cases hu
        exact wRkE_spec (x_ov0_le sf) u_ctS lwFRok chgE37R2)) (Nat.le_refl _) (Nat.le_refl _) (Nat.le_refl _) (by decide +kernel) (by decide +kernel)) (by decide) (by decide)
theorem chgN38 {xs : Nat → Int32} {n : Nat} {sf : Option Nat} : wGoes x_KT x_tb x_tyl (x_otS xs n sf) lwFR lwGA.length lwGB.length 27 33 45 chgWA chgWB 115 243 64 65 chg_cl_3_e0 chgo38 :=
  wDp (wWk (wEd_spec (x_ov0_le sf) u_ctS lwFRok chgE38) (Nat.le_refl _) (Nat.le_refl _) (Nat.le_refl _) (by decide +kernel) (by decide +kernel)) (by decide) (by decide)
theorem chgN39 {xs : Nat → Int32} {n : Nat} {sf : Option Nat} : wGoes x_KT x_tb x_tyl (x_otS xs n sf) lwFR lwGA.length lwGB.length 27 33 45 chgWA chgWB 115 243 64 65 chg_cl_3_e1 chgo39 :=
  wDp (wWk (wEd_spec (x_ov0_le sf) u_ctS lwFRok chgE39) (Nat.le_refl _) (Nat.le_refl _) (Nat.le_refl _) (by decide +kernel) (by decide +kernel)) (by decide) (by decide)
theorem chgN40 {xs : Nat → Int32} {n : Nat} {sf : Option Nat} : wGoes x_KT x_tb x_tyl (x_otS xs n sf) lwFR lwGA.length lwGB.length 27 33 45 chgWA chgWB 115 243 64 65 chg_cb_4 chgo40 :=
  wDp (wWk (wEqvB (wReL (XA := chgX40.2.1) (XB := chgX40.2.2.1) (XC := chgX40.2.2.2.1) (rk := chgX40.2.2.2.2) (rA := chgQA40) (rB := chgQB40) (bg_g0_G _ List.mem_cons_self) chgL40) (by decide +kernel) (by decide +kernel)) (by decide) (by decide) (by decide) (by decide +kernel) (by decide +kernel)) (by decide) (by decide)
theorem chgN41 {xs : Nat → Int32} {n : Nat} {sf : Option Nat} : wGoes x_KT x_tb x_tyl (x_otS xs n sf) lwFR lwGA.length lwGB.length 27 33 45 chgWA chgWB 115 243 64 65 chg_in4 chgo41 :=
  wDp (wWk (wEd_spec (x_ov0_le sf) u_ctS lwFRok chgE41) (Nat.le_refl _) (Nat.le_refl _) (Nat.le_refl _) (by decide +kernel) (by decide +kernel)) (by decide) (by decide)
theorem chgN42 {xs : Nat → Int32} {n : Nat} {sf : Option Nat} : wGoes x_KT x_tb x_tyl (x_otS xs n sf) lwFR lwGA.length lwGB.length 27 33 45 chgWA chgWB 115 243 64 65 chg_c0_4 chgo42 :=
  wDp (wWk (wEqvB (wCallB (recv := 0) (pc := 4) (ix := 392) (nx := 3) (args := [.inl (lSy 6), .inl (lSy 5)]) (rest := []) (LE := [(0, .inr (some 0)), (1, .inl (lSy 6)), (2, .inl (lK 4)), (3, .inl (lSy 19)), (4, .inl (lSy 20)), (5, .inl (lSy 5)), (6, .inl (lSy 21))]) (cE := (lK 0)) (sE := (lK 0)) (wCallA (recv := 4) (pc := 60) (ix := 320) (nx := 3) (args := []) (rest := []) (LE := [(0, .inr (some 0)), (1, .inr (some 24)), (2, .inl (lSy 5))]) (cE := (lK 0)) (sE := (lK 0)) (wReL (XA := chgX42.2.1) (XB := chgX42.2.2.1) (XC := chgX42.2.2.2.1) (rk := chgX42.2.2.2.2) (rA := chgQA42) (rB := chgQB42) (ai_g0_G _ List.mem_cons_self) chgL42) gq115 gq116 (by decide +kernel) (by decide +kernel) (by decide +kernel) (by decide +kernel) (by decide +kernel)) gq243 gq244 (by decide +kernel) (by decide +kernel) (by decide +kernel) (by decide +kernel) (by decide +kernel)) (by decide +kernel) (by decide +kernel)) (by decide) (by decide) (by decide) (by decide +kernel) (by decide +kernel)) (by decide) (by decide)
theorem chgN43 {xs : Nat → Int32} {n : Nat} {sf : Option Nat} : wGoes x_KT x_tb x_tyl (x_otS xs n sf) lwFR lwGA.length lwGB.length 27 33 45 chgWA chgWB 115 243 64 65 chg_cb_4_x chgo43 :=
  wDp (wWk (wEd_spec (x_ov0_le sf) u_ctS lwFRok chgE43) (Nat.le_refl _) (Nat.le_refl _) (Nat.le_refl _) (by decide +kernel) (by decide +kernel)) (by decide) (by decide)
theorem chgN44 {xs : Nat → Int32} {n : Nat} {sf : Option Nat} : wGoes x_KT x_tb x_tyl (x_otS xs n sf) lwFR lwGA.length lwGB.length 27 33 45 chgWA chgWB 115 243 64 65 chg_c1_4 chgo44 :=
  wDp (wWk (wEqvB (wCallB (recv := 0) (pc := 50) (ix := 315) (nx := 3) (args := [.inl (lSy 6), .inl (lSy 5)]) (rest := []) (LE := [(0, .inr (some 0)), (1, .inl (lSy 6)), (2, .inl (lK 4)), (3, .inl (lSy 19)), (4, .inl (lSy 20)), (5, .inl (lSy 5)), (6, .inl (lSy 21)), (7, .inl (lSy 11)), (8, .inl (lSy 17))]) (cE := (lK 0)) (sE := (lK 0)) (wCallA (recv := 8) (pc := 68) (ix := 320) (nx := 3) (args := []) (rest := []) (LE := [(0, .inr (some 0)), (1, .inr (some 24)), (2, .inl (lSy 5)), (3, .inl (lSy 27))]) (cE := (lK 0)) (sE := (lK 0)) (wReL (XA := chgX44.2.1) (XB := chgX44.2.2.1) (XC := chgX44.2.2.2.1) (rk := chgX44.2.2.2.2) (rA := chgQA44) (rB := chgQB44) (fb1_g0_G _ List.mem_cons_self) chgL44) gq115 gq116 (by decide +kernel) (by decide +kernel) (by decide +kernel) (by decide +kernel) (by decide +kernel)) gq243 gq203 (by decide +kernel) (by decide +kernel) (by decide +kernel) (by decide +kernel) (by decide +kernel)) (by decide +kernel) (by decide +kernel)) (by decide) (by decide) (by decide) (by decide +kernel) (by decide +kernel)) (by decide) (by decide)
theorem chgN45 {xs : Nat → Int32} {n : Nat} {sf : Option Nat} : wGoes x_KT x_tb x_tyl (x_otS xs n sf) lwFR lwGA.length lwGB.length 27 33 45 chgWA chgWB 115 243 64 65 chg_c0_4_X chgo45 :=
  wDp (wWk (wFamE2 (V := [45, 46]) (x_ov0_le sf) u_ctS lwFRok chgE45 (by decide) (by decide) (fun i hi u hu => by
      have hi : i ∈ ([45, 46] : List Nat) := hi
      simp only [List.mem_cons, List.not_mem_nil, or_false] at hi
      rcases hi with rfl | rfl
      · cases hu
        exact wRkE_spec (x_ov0_le sf) u_ctS lwFRok chgE45R45
      · cases hu
        exact wRkE_spec (x_ov0_le sf) u_ctS lwFRok chgE45R46)) (Nat.le_refl _) (Nat.le_refl _) (Nat.le_refl _) (by decide +kernel) (by decide +kernel)) (by decide) (by decide)
theorem chgN46 {xs : Nat → Int32} {n : Nat} {sf : Option Nat} : wGoes x_KT x_tb x_tyl (x_otS xs n sf) lwFR lwGA.length lwGB.length 27 33 45 chgWA chgWB 115 243 64 65 chg_cl_4 chgo46 :=
  wDp (wWk (wEqvB (wCallBs (pc := 93) (ix := 319) (nx := 3) (so := 2) (args := [.inr (some 37), .inl (lSy 28), .inr (some 11), .inl (lSy 30)]) (rest := []) (LE := [(0, .inr (some 0)), (6, .inl (lSy 21))]) (cE := (lK 0)) (sE := (lK 0)) (wCallA (recv := 6) (pc := 87) (ix := 324) (nx := 3) (args := [.inr (some 10)]) (rest := []) (LE := [(0, .inr (some 0)), (1, .inr (some 24)), (2, .inl (lSy 5)), (3, .inl (lSy 27)), (4, .inl (lSy 29))]) (cE := (lK 0)) (sE := (lK 0)) (wReL (XA := chgX46.2.1) (XB := chgX46.2.2.1) (XC := chgX46.2.2.2.1) (rk := chgX46.2.2.2.2) (rA := chgQA46) (rB := chgQB46) (lkB_g0_G _ List.mem_cons_self) chgL46) gq115 gq83 (by decide +kernel) (by decide +kernel) (by decide +kernel) (by decide +kernel) (by decide +kernel)) gq243 gq211 (by decide +kernel) (by decide +kernel) (by decide +kernel) (by decide +kernel) (by decide +kernel)) (by decide +kernel) (by decide +kernel)) (by decide) (by decide) (by decide) (by decide +kernel) (by decide +kernel)) (by decide) (by decide)
theorem chgN47 {xs : Nat → Int32} {n : Nat} {sf : Option Nat} : wGoes x_KT x_tb x_tyl (x_otS xs n sf) lwFR lwGA.length lwGB.length 27 33 45 chgWA chgWB 115 243 64 65 chg_c1_4_X chgo47 :=
  wDp (wWk (wFamE2 (V := [2]) (x_ov0_le sf) u_ctS lwFRok chgE47 (by decide) (by decide) (fun i hi u hu => by
      have hi : i ∈ ([2] : List Nat) := hi
      simp only [List.mem_cons, List.not_mem_nil, or_false] at hi
      rcases hi with rfl
      · cases hu
        exact wRkE_spec (x_ov0_le sf) u_ctS lwFRok chgE47R2)) (Nat.le_refl _) (Nat.le_refl _) (Nat.le_refl _) (by decide +kernel) (by decide +kernel)) (by decide) (by decide)
theorem chgN48 {xs : Nat → Int32} {n : Nat} {sf : Option Nat} : wGoes x_KT x_tb x_tyl (x_otS xs n sf) lwFR lwGA.length lwGB.length 27 33 45 chgWA chgWB 115 243 64 65 chg_cl_4_e0 chgo48 :=
  wDp (wWk (wEd_spec (x_ov0_le sf) u_ctS lwFRok chgE48) (Nat.le_refl _) (Nat.le_refl _) (Nat.le_refl _) (by decide +kernel) (by decide +kernel)) (by decide) (by decide)
theorem chgN49 {xs : Nat → Int32} {n : Nat} {sf : Option Nat} : wGoes x_KT x_tb x_tyl (x_otS xs n sf) lwFR lwGA.length lwGB.length 27 33 45 chgWA chgWB 115 243 64 65 chg_cl_4_e1 chgo49 :=
  wDp (wWk (wEd_spec (x_ov0_le sf) u_ctS lwFRok chgE49) (Nat.le_refl _) (Nat.le_refl _) (Nat.le_refl _) (by decide +kernel) (by decide +kernel)) (by decide) (by decide)
theorem chgN50 {xs : Nat → Int32} {n : Nat} {sf : Option Nat} : wGoes x_KT x_tb x_tyl (x_otS xs n sf) lwFR lwGA.length lwGB.length 27 33 45 chgWA chgWB 115 243 64 65 chg_cb_5 chgo50 :=
  wDp (wWk (wEqvB (wReL (XA := chgX50.2.1) (XB := chgX50.2.2.1) (XC := chgX50.2.2.2.1) (rk := chgX50.2.2.2.2) (rA := chgQA50) (rB := chgQB50) (bg_g0_G _ List.mem_cons_self) chgL50) (by decide +kernel) (by decide +kernel)) (by decide) (by decide) (by decide) (by decide +kernel) (by decide +kernel)) (by decide) (by decide)
theorem chgN51 {xs : Nat → Int32} {n : Nat} {sf : Option Nat} : wGoes x_KT x_tb x_tyl (x_otS xs n sf) lwFR lwGA.length lwGB.length 27 33 45 chgWA chgWB 115 243 64 65 chg_in5 chgo51 :=
  wDp (wWk (wEd_spec (x_ov0_le sf) u_ctS lwFRok chgE51) (Nat.le_refl _) (Nat.le_refl _) (Nat.le_refl _) (by decide +kernel) (by decide +kernel)) (by decide) (by decide)
theorem chgN52 {xs : Nat → Int32} {n : Nat} {sf : Option Nat} : wGoes x_KT x_tb x_tyl (x_otS xs n sf) lwFR lwGA.length lwGB.length 27 33 45 chgWA chgWB 115 243 64 65 chg_c0_5 chgo52 :=
  wDp (wWk (wEqvB (wCallB (recv := 0) (pc := 4) (ix := 392) (nx := 3) (args := [.inl (lSy 6), .inl (lSy 5)]) (rest := []) (LE := [(0, .inr (some 0)), (1, .inl (lSy 6)), (2, .inl (lK 5)), (3, .inl (lSy 19)), (4, .inl (lSy 20)), (5, .inl (lSy 5)), (6, .inl (lSy 21))]) (cE := (lK 0)) (sE := (lK 0)) (wCallA (recv := 4) (pc := 60) (ix := 320) (nx := 3) (args := []) (rest := []) (LE := [(0, .inr (some 0)), (1, .inr (some 24)), (2, .inl (lSy 5))]) (cE := (lK 0)) (sE := (lK 0)) (wReL (XA := chgX52.2.1) (XB := chgX52.2.2.1) (XC := chgX52.2.2.2.1) (rk := chgX52.2.2.2.2) (rA := chgQA52) (rB := chgQB52) (ai_g0_G _ List.mem_cons_self) chgL52) gq115 gq116 (by decide +kernel) (by decide +kernel) (by decide +kernel) (by decide +kernel) (by decide +kernel)) gq243 gq244 (by decide +kernel) (by decide +kernel) (by decide +kernel) (by decide +kernel) (by decide +kernel)) (by decide +kernel) (by decide +kernel)) (by decide) (by decide) (by decide) (by decide +kernel) (by decide +kernel)) (by decide) (by decide)
theorem chgN53 {xs : Nat → Int32} {n : Nat} {sf : Option Nat} : wGoes x_KT x_tb x_tyl (x_otS xs n sf) lwFR lwGA.length lwGB.length 27 33 45 chgWA chgWB 115 243 64 65 chg_cb_5_x chgo53 :=
  wDp (wWk (wEd_spec (x_ov0_le sf) u_ctS lwFRok chgE53) (Nat.le_refl _) (Nat.le_refl _) (Nat.le_refl _) (by decide +kernel) (by decide +kernel)) (by decide) (by decide)
theorem chgN54 {xs : Nat → Int32} {n : Nat} {sf : Option Nat} : wGoes x_KT x_tb x_tyl (x_otS xs n sf) lwFR lwGA.length lwGB.length 27 33 45 chgWA chgWB 115 243 64 65 chg_c1_5 chgo54 :=
  wDp (wWk (wEqvB (wCallB (recv := 0) (pc := 50) (ix := 315) (nx := 3) (args := [.inl (lSy 6), .inl (lSy 5)]) (rest := []) (LE := [(0, .inr (some 0)), (1, .inl (lSy 6)), (2, .inl (lK 5)), (3, .inl (lSy 19)), (4, .inl (lSy 20)), (5, .inl (lSy 5)), (6, .inl (lSy 21)), (7, .inl (lSy 12)), (8, .inl (lSy 18))]) (cE := (lK 0)) (sE := (lK 0)) (wCallA (recv := 8) (pc := 68) (ix := 320) (nx := 3) (args := []) (rest := []) (LE := [(0, .inr (some 0)), (1, .inr (some 24)), (2, .inl (lSy 5)), (3, .inl (lSy 27))]) (cE := (lK 0)) (sE := (lK 0)) (wReL (XA := chgX54.2.1) (XB := chgX54.2.2.1) (XC := chgX54.2.2.2.1) (rk := chgX54.2.2.2.2) (rA := chgQA54) (rB := chgQB54) (fb1_g0_G _ List.mem_cons_self) chgL54) gq115 gq116 (by decide +kernel) (by decide +kernel) (by decide +kernel) (by decide +kernel) (by decide +kernel)) gq243 gq203 (by decide +kernel) (by decide +kernel) (by decide +kernel) (by decide +kernel) (by decide +kernel)) (by decide +kernel) (by decide +kernel)) (by decide) (by decide) (by decide) (by decide +kernel) (by decide +kernel)) (by decide) (by decide)
theorem chgN55 {xs : Nat → Int32} {n : Nat} {sf : Option Nat} : wGoes x_KT x_tb x_tyl (x_otS xs n sf) lwFR lwGA.length lwGB.length 27 33 45 chgWA chgWB 115 243 64 65 chg_c0_5_X chgo55 :=
  wDp (wWk (wFamE2 (V := [45, 46]) (x_ov0_le sf) u_ctS lwFRok chgE55 (by decide) (by decide) (fun i hi u hu => by
      have hi : i ∈ ([45, 46] : List Nat) := hi
      simp only [List.mem_cons, List.not_mem_nil, or_false] at hi
      rcases hi with rfl | rfl
      · cases hu
        exact wRkE_spec (x_ov0_le sf) u_ctS lwFRok chgE55R45
      · cases hu
        exact wRkE_spec (x_ov0_le sf) u_ctS lwFRok chgE55R46)) (Nat.le_refl _) (Nat.le_refl _) (Nat.le_refl _) (by decide +kernel) (by decide +kernel)) (by decide) (by decide)
theorem chgN56 {xs : Nat → Int32} {n : Nat} {sf : Option Nat} : wGoes x_KT x_tb x_tyl (x_otS xs n sf) lwFR lwGA.length lwGB.length 27 33 45 chgWA chgWB 115 243 64 65 chg_cl_5 chgo56 :=
  wDp (wWk (wEqvB (wCallBs (pc := 93) (ix := 319) (nx := 3) (so := 2) (args := [.inr (some 37), .inl (lSy 28), .inr (some 11), .inl (lSy 30)]) (rest := []) (LE := [(0, .inr (some 0)), (6, .inl (lSy 21))]) (cE := (lK 0)) (sE := (lK 0)) (wCallA (recv := 6) (pc := 87) (ix := 324) (nx := 3) (args := [.inr (some 10)]) (rest := []) (LE := [(0, .inr (some 0)), (1, .inr (some 24)), (2, .inl (lSy 5)), (3, .inl (lSy 27)), (4, .inl (lSy 29))]) (cE := (lK 0)) (sE := (lK 0)) (wReL (XA := chgX56.2.1) (XB := chgX56.2.2.1) (XC := chgX56.2.2.2.1) (rk := chgX56.2.2.2.2) (rA := chgQA56) (rB := chgQB56) (lkB_g0_G _ List.mem_cons_self) chgL56) gq115 gq83 (by decide +kernel) (by decide +kernel) (by decide +kernel) (by decide +kernel) (by decide +kernel)) gq243 gq211 (by decide +kernel) (by decide +kernel) (by decide +kernel) (by decide +kernel) (by decide +kernel)) (by decide +kernel) (by decide +kernel)) (by decide) (by decide) (by decide) (by decide +kernel) (by decide +kernel)) (by decide) (by decide)
theorem chgN57 {xs : Nat → Int32} {n : Nat} {sf : Option Nat} : wGoes x_KT x_tb x_tyl (x_otS xs n sf) lwFR lwGA.length lwGB.length 27 33 45 chgWA chgWB 115 243 64 65 chg_c1_5_X chgo57 :=
  wDp (wWk (wFamE2 (V := [2]) (x_ov0_le sf) u_ctS lwFRok chgE57 (by decide) (by decide) (fun i hi u hu => by
      have hi : i ∈ ([2] : List Nat) := hi
      simp only [List.mem_cons, List.not_mem_nil, or_false] at hi
      rcases hi with rfl
      · cases hu
        exact wRkE_spec (x_ov0_le sf) u_ctS lwFRok chgE57R2)) (Nat.le_refl _) (Nat.le_refl _) (Nat.le_refl _) (by decide +kernel) (by decide +kernel)) (by decide) (by decide)
theorem chgN58 {xs : Nat → Int32} {n : Nat} {sf : Option Nat} : wGoes x_KT x_tb x_tyl (x_otS xs n sf) lwFR lwGA.length lwGB.length 27 33 45 chgWA chgWB 115 243 64 65 chg_cl_5_e0 chgo58 :=
  wDp (wWk (wEd_spec (x_ov0_le sf) u_ctS lwFRok chgE58) (Nat.le_refl _) (Nat.le_refl _) (Nat.le_refl _) (by decide +kernel) (by decide +kernel)) (by decide) (by decide)
theorem chgN59 {xs : Nat → Int32} {n : Nat} {sf : Option Nat} : wGoes x_KT x_tb x_tyl (x_otS xs n sf) lwFR lwGA.length lwGB.length 27 33 45 chgWA chgWB 115 243 64 65 chg_cl_5_e1 chgo59 :=
  wDp (wWk (wEd_spec (x_ov0_le sf) u_ctS lwFRok chgE59) (Nat.le_refl _) (Nat.le_refl _) (Nat.le_refl _) (by decide +kernel) (by decide +kernel)) (by decide) (by decide)
set_option maxRecDepth 1000000 in
theorem gq112 : tMth x_tb 112 = some xm112 := rfl
set_option maxRecDepth 1000000 in
theorem gq242 : tMth x_tb 242 = some xm242 := rfl
theorem breaksN0 {xs : Nat → Int32} {n : Nat} {sf : Option Nat} : wGoes x_KT x_tb x_tyl (x_otS xs n sf) lwFR lwGA.length lwGB.length 5 24 42 breaksWA breaksWB 112 242 65 66 breaks_in breakso0 :=
  wDp (wWk (wEd_spec (x_ov0_le sf) u_ctS lwFRok breaksE0) (Nat.le_refl _) (Nat.le_refl _) (Nat.le_refl _) (by decide +kernel) (by decide +kernel)) (by decide) (by decide)
theorem breaksN1 {xs : Nat → Int32} {n : Nat} {sf : Option Nat} : wGoes x_KT x_tb x_tyl (x_otS xs n sf) lwFR lwGA.length lwGB.length 5 24 42 breaksWA breaksWB 112 242 65 66 breaks_m breakso1 :=
  wDp (wWk (wFamE2 (V := [0, 2, 3]) (x_ov0_le sf) u_ctS lwFRok breaksE1 (by decide) (by decide) (fun i hi u hu => by
      have hi : i ∈ ([0, 2, 3] : List Nat) := hi
      simp only [List.mem_cons, List.not_mem_nil, or_false] at hi
      rcases hi with rfl | rfl | rfl
      · cases hu
        exact wRkE_spec (x_ov0_le sf) u_ctS lwFRok breaksE1R0
      · cases hu
        exact wRkE_spec (x_ov0_le sf) u_ctS lwFRok breaksE1R2
      · cases hu
        exact wRkE_spec (x_ov0_le sf) u_ctS lwFRok breaksE1R3)) (Nat.le_refl _) (Nat.le_refl _) (Nat.le_refl _) (by decide +kernel) (by decide +kernel)) (by decide) (by decide)
def chg_g0_nd : List wE := [chg_in0, chg_cb_0, chg_cb_0_x, chg_c0_0, chg_c0_0_X, chg_c1_0, chg_c1_0_X, chg_cl_0, chg_cl_0_e0, chg_cl_0_e1]
theorem chg_g0_G {xs : Nat → Int32} {n : Nat} {sf : Option Nat} : ∀ nd ∈ chg_g0_nd, wGoes x_KT x_tb x_tyl (x_otS xs n sf) lwFR lwGA.length lwGB.length 27 33 45 chgWA chgWB 115 243 64 65 nd (chg_g0_ex.map (fun x => (false, x))) := wGraph (fun nd hnd => by
  have hnd : nd ∈ ([chg_in0, chg_cb_0, chg_cb_0_x, chg_c0_0, chg_c0_0_X, chg_c1_0, chg_c1_0_X, chg_cl_0, chg_cl_0_e0, chg_cl_0_e1] : List wE) := hnd
  simp only [List.mem_cons, List.not_mem_nil, or_false] at hnd
  rcases hnd with rfl | rfl | rfl | rfl | rfl | rfl | rfl | rfl | rfl | rfl
  · refine ⟨chgo1, chgN1, fun o ho => ?_⟩
    have ho : o ∈ ([(true, chg_cb_0)] : List (Bool × wE)) := ho
    simp only [List.mem_cons, List.not_mem_nil, or_false] at ho
    rcases ho with rfl
    · exact Or.inr ⟨rfl, List.mem_cons_of_mem _ (List.mem_cons_self)⟩
  · refine ⟨chgo0, chgN0, fun o ho => ?_⟩
    have ho : o ∈ ([(true, chg_cb_0_x)] : List (Bool × wE)) := ho
    simp only [List.mem_cons, List.not_mem_nil, or_false] at ho
    rcases ho with rfl
    · exact Or.inr ⟨rfl, List.mem_cons_of_mem _ (List.mem_cons_of_mem _ (List.mem_cons_self))⟩
  · refine ⟨chgo3, chgN3, fun o ho => ?_⟩
    have ho : o ∈ ([(true, chg_c0_0)] : List (Bool × wE)) := ho
    simp only [List.mem_cons, List.not_mem_nil, or_false] at ho
    rcases ho with rfl
    · exact Or.inr ⟨rfl, List.mem_cons_of_mem _ (List.mem_cons_of_mem _ (List.mem_cons_of_mem _ (List.mem_cons_self)))⟩
  · refine ⟨chgo2, chgN2, fun o ho => ?_⟩
    have ho : o ∈ ([(true, chg_c0_0_X)] : List (Bool × wE)) := ho
    simp only [List.mem_cons, List.not_mem_nil, or_false] at ho
    rcases ho with rfl
    · exact Or.inr ⟨rfl, List.mem_cons_of_mem _ (List.mem_cons_of_mem _ (List.mem_cons_of_mem _ (List.mem_cons_of_mem _ (List.mem_cons_self))))⟩
  · refine ⟨chgo5, chgN5, fun o ho => ?_⟩
    have ho : o ∈ ([(true, chg_c1_0)] : List (Bool × wE)) := ho
    simp only [List.mem_cons, List.not_mem_nil, or_false] at ho
    rcases ho with rfl
    · exact Or.inr ⟨rfl, List.mem_cons_of_mem _ (List.mem_cons_of_mem _ (List.mem_cons_of_mem _ (List.mem_cons_of_mem _ (List.mem_cons_of_mem _ (List.mem_cons_self)))))⟩
  · refine ⟨chgo4, chgN4, fun o ho => ?_⟩
    have ho : o ∈ ([(true, chg_c1_0_X)] : List (Bool × wE)) := ho
    simp only [List.mem_cons, List.not_mem_nil, or_false] at ho
    rcases ho with rfl
    · exact Or.inr ⟨rfl, List.mem_cons_of_mem _ (List.mem_cons_of_mem _ (List.mem_cons_of_mem _ (List.mem_cons_of_mem _ (List.mem_cons_of_mem _ (List.mem_cons_of_mem _ (List.mem_cons_self))))))⟩
  · refine ⟨chgo7, chgN7, fun o ho => ?_⟩
    have ho : o ∈ ([(true, chg_cl_0)] : List (Bool × wE)) := ho
    simp only [List.mem_cons, List.not_mem_nil, or_false] at ho
    rcases ho with rfl
    · exact Or.inr ⟨rfl, List.mem_cons_of_mem _ (List.mem_cons_of_mem _ (List.mem_cons_of_mem _ (List.mem_cons_of_mem _ (List.mem_cons_of_mem _ (List.mem_cons_of_mem _ (List.mem_cons_of_mem _ (List.mem_cons_self)))))))⟩
  · refine ⟨chgo6, chgN6, fun o ho => ?_⟩
    have ho : o ∈ ([(true, chg_cl_0_e0), (true, chg_cl_0_e1)] : List (Bool × wE)) := ho
    simp only [List.mem_cons, List.not_mem_nil, or_false] at ho
    rcases ho with rfl | rfl
    · exact Or.inr ⟨rfl, List.mem_cons_of_mem _ (List.mem_cons_of_mem _ (List.mem_cons_of_mem _ (List.mem_cons_of_mem _ (List.mem_cons_of_mem _ (List.mem_cons_of_mem _ (List.mem_cons_of_mem _ (List.mem_cons_of_mem _ (List.mem_cons_self))))))))⟩
    · exact Or.inr ⟨rfl, List.mem_cons_of_mem _ (List.mem_cons_of_mem _ (List.mem_cons_of_mem _ (List.mem_cons_of_mem _ (List.mem_cons_of_mem _ (List.mem_cons_of_mem _ (List.mem_cons_of_mem _ (List.mem_cons_of_mem _ (List.mem_cons_of_mem _ (List.mem_cons_self)))))))))⟩
  · refine ⟨chgo8, chgN8, fun o ho => ?_⟩
    have ho : o ∈ ([(false, chg_x0), (false, chg_x1), (false, chg_x2), (false, chg_x3)] : List (Bool × wE)) := ho
    simp only [List.mem_cons, List.not_mem_nil, or_false] at ho
    rcases ho with rfl | rfl | rfl | rfl
    · exact Or.inl (List.mem_cons_self)
    · exact Or.inl (List.mem_cons_of_mem _ (List.mem_cons_self))
    · exact Or.inl (List.mem_cons_of_mem _ (List.mem_cons_of_mem _ (List.mem_cons_self)))
    · exact Or.inl (List.mem_cons_of_mem _ (List.mem_cons_of_mem _ (List.mem_cons_of_mem _ (List.mem_cons_self))))
  · refine ⟨chgo9, chgN9, fun o ho => ?_⟩
    have ho : o ∈ ([(false, chg_x0), (false, chg_x1), (false, chg_x2), (false, chg_x3)] : List (Bool × wE)) := ho
    simp only [List.mem_cons, List.not_mem_nil, or_false] at ho
    rcases ho with rfl | rfl | rfl | rfl
    · exact Or.inl (List.mem_cons_self)
    · exact Or.inl (List.mem_cons_of_mem _ (List.mem_cons_self))
    · exact Or.inl (List.mem_cons_of_mem _ (List.mem_cons_of_mem _ (List.mem_cons_self)))
    · exact Or.inl (List.mem_cons_of_mem _ (List.mem_cons_of_mem _ (List.mem_cons_of_mem _ (List.mem_cons_self)))))
theorem breaksN2 {xs : Nat → Int32} {n : Nat} {sf : Option Nat} : wGoes x_KT x_tb x_tyl (x_otS xs n sf) lwFR lwGA.length lwGB.length 5 24 42 breaksWA breaksWB 112 242 65 66 breaks_c0 breakso2 :=
  wDp (wWk (wEqvB (wCallB (recv := 0) (pc := 69) (ix := 395) (nx := 3) (args := [.inl (lSy 6), .inl (lSy 26), .inl (lSy 19), .inl (lSy 20), .inl (lSy 5), .inl (lSy 21)]) (rest := []) (LE := [(0, .inr (some 0)), (1, .inl (lSy 6)), (2, .inl (lSy 26)), (3, .inl (lSy 19)), (4, .inl (lSy 20)), (5, .inl (lSy 22)), (6, .inl (lSy 23)), (7, .inl (lSy 24)), (8, .inl (lSy 5))]) (cE := (lK 0)) (sE := (lK 0)) (wCallA (recv := 0) (pc := 78) (ix := 302) (nx := 3) (args := [.inr (some 24), .inl (lSy 5)]) (rest := []) (LE := [(0, .inr (some 0)), (1, .inl (lSy 6)), (2, .inl (lSy 26)), (3, .inl (lSy 19)), (4, .inl (lSy 20)), (5, .inl (lSy 22)), (6, .inr (some 24)), (7, .inl (lSy 23)), (8, .inl (lSy 24)), (9, .inl (lSy 5))]) (cE := (lK 0)) (sE := (lK 0)) (wReL (XA := breaksX2.2.1) (XB := breaksX2.2.2.1) (XC := breaksX2.2.2.2.1) (rk := breaksX2.2.2.2.2) (rA := breaksQA2) (rB := breaksQB2) (chg_g0_G _ List.mem_cons_self) breaksL2) gq112 gq115 (by decide +kernel) (by decide +kernel) (by decide +kernel) (by decide +kernel) (by decide +kernel)) gq242 gq243 (by decide +kernel) (by decide +kernel) (by decide +kernel) (by decide +kernel) (by decide +kernel)) (by decide +kernel) (by decide +kernel)) (by decide) (by decide) (by decide) (by decide +kernel) (by decide +kernel)) (by decide) (by decide)
theorem breaksN3 {xs : Nat → Int32} {n : Nat} {sf : Option Nat} : wGoes x_KT x_tb x_tyl (x_otS xs n sf) lwFR lwGA.length lwGB.length 5 24 42 breaksWA breaksWB 112 242 65 66 breaks_L0 breakso3 :=
  wDp (wWk (wEd_spec (x_ov0_le sf) u_ctS lwFRok breaksE3) (Nat.le_refl _) (Nat.le_refl _) (Nat.le_refl _) (by decide +kernel) (by decide +kernel)) (by decide) (by decide)
theorem breaksN4 {xs : Nat → Int32} {n : Nat} {sf : Option Nat} : wGoes x_KT x_tb x_tyl (x_otS xs n sf) lwFR lwGA.length lwGB.length 5 24 42 breaksWA breaksWB 112 242 65 66 breaks_c0_x0 breakso4 :=
  wDp (wWk (wEd_spec (x_ov0_le sf) u_ctS lwFRok breaksE4) (Nat.le_refl _) (Nat.le_refl _) (Nat.le_refl _) (by decide +kernel) (by decide +kernel)) (by decide) (by decide)
theorem breaksN5 {xs : Nat → Int32} {n : Nat} {sf : Option Nat} : wGoes x_KT x_tb x_tyl (x_otS xs n sf) lwFR lwGA.length lwGB.length 5 24 42 breaksWA breaksWB 112 242 65 66 breaks_c0_x1 breakso5 :=
  wDp (wWk (wEd_spec (x_ov0_le sf) u_ctS lwFRok breaksE5) (Nat.le_refl _) (Nat.le_refl _) (Nat.le_refl _) (by decide +kernel) (by decide +kernel)) (by decide) (by decide)
theorem breaksN6 {xs : Nat → Int32} {n : Nat} {sf : Option Nat} : wGoes x_KT x_tb x_tyl (x_otS xs n sf) lwFR lwGA.length lwGB.length 5 24 42 breaksWA breaksWB 112 242 65 66 breaks_c0_x2 breakso6 :=
  wDp (wWk (wEd_spec (x_ov0_le sf) u_ctS lwFRok breaksE6) (Nat.le_refl _) (Nat.le_refl _) (Nat.le_refl _) (by decide +kernel) (by decide +kernel)) (by decide) (by decide)
theorem breaksN7 {xs : Nat → Int32} {n : Nat} {sf : Option Nat} : wGoes x_KT x_tb x_tyl (x_otS xs n sf) lwFR lwGA.length lwGB.length 5 24 42 breaksWA breaksWB 112 242 65 66 breaks_c0_x3 breakso7 :=
  wDp (wWk (wEd_spec (x_ov0_le sf) u_ctS lwFRok breaksE7) (Nat.le_refl _) (Nat.le_refl _) (Nat.le_refl _) (by decide +kernel) (by decide +kernel)) (by decide) (by decide)
def chg_g1_nd : List wE := [chg_in1, chg_cb_1, chg_cb_1_x, chg_c0_1, chg_c0_1_X, chg_c1_1, chg_c1_1_X, chg_cl_1, chg_cl_1_e0, chg_cl_1_e1]
theorem chg_g1_G {xs : Nat → Int32} {n : Nat} {sf : Option Nat} : ∀ nd ∈ chg_g1_nd, wGoes x_KT x_tb x_tyl (x_otS xs n sf) lwFR lwGA.length lwGB.length 27 33 45 chgWA chgWB 115 243 64 65 nd (chg_g1_ex.map (fun x => (false, x))) := wGraph (fun nd hnd => by
  have hnd : nd ∈ ([chg_in1, chg_cb_1, chg_cb_1_x, chg_c0_1, chg_c0_1_X, chg_c1_1, chg_c1_1_X, chg_cl_1, chg_cl_1_e0, chg_cl_1_e1] : List wE) := hnd
  simp only [List.mem_cons, List.not_mem_nil, or_false] at hnd
  rcases hnd with rfl | rfl | rfl | rfl | rfl | rfl | rfl | rfl | rfl | rfl
  · refine ⟨chgo11, chgN11, fun o ho => ?_⟩
    have ho : o ∈ ([(true, chg_cb_1)] : List (Bool × wE)) := ho
    simp only [List.mem_cons, List.not_mem_nil, or_false] at ho
    rcases ho with rfl
    · exact Or.inr ⟨rfl, List.mem_cons_of_mem _ (List.mem_cons_self)⟩
  · refine ⟨chgo10, chgN10, fun o ho => ?_⟩
    have ho : o ∈ ([(true, chg_cb_1_x)] : List (Bool × wE)) := ho
    simp only [List.mem_cons, List.not_mem_nil, or_false] at ho
    rcases ho with rfl
    · exact Or.inr ⟨rfl, List.mem_cons_of_mem _ (List.mem_cons_of_mem _ (List.mem_cons_self))⟩
  · refine ⟨chgo13, chgN13, fun o ho => ?_⟩
    have ho : o ∈ ([(true, chg_c0_1)] : List (Bool × wE)) := ho
    simp only [List.mem_cons, List.not_mem_nil, or_false] at ho
    rcases ho with rfl
    · exact Or.inr ⟨rfl, List.mem_cons_of_mem _ (List.mem_cons_of_mem _ (List.mem_cons_of_mem _ (List.mem_cons_self)))⟩
  · refine ⟨chgo12, chgN12, fun o ho => ?_⟩
    have ho : o ∈ ([(true, chg_c0_1_X)] : List (Bool × wE)) := ho
    simp only [List.mem_cons, List.not_mem_nil, or_false] at ho
    rcases ho with rfl
    · exact Or.inr ⟨rfl, List.mem_cons_of_mem _ (List.mem_cons_of_mem _ (List.mem_cons_of_mem _ (List.mem_cons_of_mem _ (List.mem_cons_self))))⟩
  · refine ⟨chgo15, chgN15, fun o ho => ?_⟩
    have ho : o ∈ ([(true, chg_c1_1)] : List (Bool × wE)) := ho
    simp only [List.mem_cons, List.not_mem_nil, or_false] at ho
    rcases ho with rfl
    · exact Or.inr ⟨rfl, List.mem_cons_of_mem _ (List.mem_cons_of_mem _ (List.mem_cons_of_mem _ (List.mem_cons_of_mem _ (List.mem_cons_of_mem _ (List.mem_cons_self)))))⟩
  · refine ⟨chgo14, chgN14, fun o ho => ?_⟩
    have ho : o ∈ ([(true, chg_c1_1_X)] : List (Bool × wE)) := ho
    simp only [List.mem_cons, List.not_mem_nil, or_false] at ho
    rcases ho with rfl
    · exact Or.inr ⟨rfl, List.mem_cons_of_mem _ (List.mem_cons_of_mem _ (List.mem_cons_of_mem _ (List.mem_cons_of_mem _ (List.mem_cons_of_mem _ (List.mem_cons_of_mem _ (List.mem_cons_self))))))⟩
  · refine ⟨chgo17, chgN17, fun o ho => ?_⟩
    have ho : o ∈ ([(true, chg_cl_1)] : List (Bool × wE)) := ho
    simp only [List.mem_cons, List.not_mem_nil, or_false] at ho
    rcases ho with rfl
    · exact Or.inr ⟨rfl, List.mem_cons_of_mem _ (List.mem_cons_of_mem _ (List.mem_cons_of_mem _ (List.mem_cons_of_mem _ (List.mem_cons_of_mem _ (List.mem_cons_of_mem _ (List.mem_cons_of_mem _ (List.mem_cons_self)))))))⟩
  · refine ⟨chgo16, chgN16, fun o ho => ?_⟩
    have ho : o ∈ ([(true, chg_cl_1_e0), (true, chg_cl_1_e1)] : List (Bool × wE)) := ho
    simp only [List.mem_cons, List.not_mem_nil, or_false] at ho
    rcases ho with rfl | rfl
    · exact Or.inr ⟨rfl, List.mem_cons_of_mem _ (List.mem_cons_of_mem _ (List.mem_cons_of_mem _ (List.mem_cons_of_mem _ (List.mem_cons_of_mem _ (List.mem_cons_of_mem _ (List.mem_cons_of_mem _ (List.mem_cons_of_mem _ (List.mem_cons_self))))))))⟩
    · exact Or.inr ⟨rfl, List.mem_cons_of_mem _ (List.mem_cons_of_mem _ (List.mem_cons_of_mem _ (List.mem_cons_of_mem _ (List.mem_cons_of_mem _ (List.mem_cons_of_mem _ (List.mem_cons_of_mem _ (List.mem_cons_of_mem _ (List.mem_cons_of_mem _ (List.mem_cons_self)))))))))⟩
  · refine ⟨chgo18, chgN18, fun o ho => ?_⟩
    have ho : o ∈ ([(false, chg_x0), (false, chg_x1), (false, chg_x2), (false, chg_x3)] : List (Bool × wE)) := ho
    simp only [List.mem_cons, List.not_mem_nil, or_false] at ho
    rcases ho with rfl | rfl | rfl | rfl
    · exact Or.inl (List.mem_cons_self)
    · exact Or.inl (List.mem_cons_of_mem _ (List.mem_cons_self))
    · exact Or.inl (List.mem_cons_of_mem _ (List.mem_cons_of_mem _ (List.mem_cons_self)))
    · exact Or.inl (List.mem_cons_of_mem _ (List.mem_cons_of_mem _ (List.mem_cons_of_mem _ (List.mem_cons_self))))
  · refine ⟨chgo19, chgN19, fun o ho => ?_⟩
    have ho : o ∈ ([(false, chg_x0), (false, chg_x1), (false, chg_x2), (false, chg_x3)] : List (Bool × wE)) := ho
    simp only [List.mem_cons, List.not_mem_nil, or_false] at ho
    rcases ho with rfl | rfl | rfl | rfl
    · exact Or.inl (List.mem_cons_self)
    · exact Or.inl (List.mem_cons_of_mem _ (List.mem_cons_self))
    · exact Or.inl (List.mem_cons_of_mem _ (List.mem_cons_of_mem _ (List.mem_cons_self)))
    · exact Or.inl (List.mem_cons_of_mem _ (List.mem_cons_of_mem _ (List.mem_cons_of_mem _ (List.mem_cons_self)))))
theorem breaksN8 {xs : Nat → Int32} {n : Nat} {sf : Option Nat} : wGoes x_KT x_tb x_tyl (x_otS xs n sf) lwFR lwGA.length lwGB.length 5 24 42 breaksWA breaksWB 112 242 65 66 breaks_c1 breakso8 :=
  wDp (wWk (wEqvB (wCallB (recv := 0) (pc := 69) (ix := 395) (nx := 3) (args := [.inl (lSy 6), .inl (lSy 26), .inl (lSy 19), .inl (lSy 20), .inl (lSy 5), .inl (lSy 21)]) (rest := []) (LE := [(0, .inr (some 0)), (1, .inl (lSy 6)), (2, .inl (lSy 26)), (3, .inl (lSy 19)), (4, .inl (lSy 20)), (5, .inl (lSy 22)), (6, .inl (lSy 23)), (7, .inl (lSy 24)), (8, .inl (lSy 5))]) (cE := (lK 0)) (sE := (lK 0)) (wCallA (recv := 0) (pc := 78) (ix := 302) (nx := 3) (args := [.inr (some 24), .inl (lSy 5)]) (rest := []) (LE := [(0, .inr (some 0)), (1, .inl (lSy 6)), (2, .inl (lSy 26)), (3, .inl (lSy 19)), (4, .inl (lSy 20)), (5, .inl (lSy 22)), (6, .inr (some 24)), (7, .inl (lSy 23)), (8, .inl (lSy 24)), (9, .inl (lSy 5))]) (cE := (lK 0)) (sE := (lK 0)) (wReL (XA := breaksX8.2.1) (XB := breaksX8.2.2.1) (XC := breaksX8.2.2.2.1) (rk := breaksX8.2.2.2.2) (rA := breaksQA8) (rB := breaksQB8) (chg_g1_G _ List.mem_cons_self) breaksL8) gq112 gq115 (by decide +kernel) (by decide +kernel) (by decide +kernel) (by decide +kernel) (by decide +kernel)) gq242 gq243 (by decide +kernel) (by decide +kernel) (by decide +kernel) (by decide +kernel) (by decide +kernel)) (by decide +kernel) (by decide +kernel)) (by decide) (by decide) (by decide) (by decide +kernel) (by decide +kernel)) (by decide) (by decide)
theorem breaksN9 {xs : Nat → Int32} {n : Nat} {sf : Option Nat} : wGoes x_KT x_tb x_tyl (x_otS xs n sf) lwFR lwGA.length lwGB.length 5 24 42 breaksWA breaksWB 112 242 65 66 breaks_L1 breakso9 :=
  wDp (wWk (wEd_spec (x_ov0_le sf) u_ctS lwFRok breaksE9) (Nat.le_refl _) (Nat.le_refl _) (Nat.le_refl _) (by decide +kernel) (by decide +kernel)) (by decide) (by decide)
theorem breaksN10 {xs : Nat → Int32} {n : Nat} {sf : Option Nat} : wGoes x_KT x_tb x_tyl (x_otS xs n sf) lwFR lwGA.length lwGB.length 5 24 42 breaksWA breaksWB 112 242 65 66 breaks_c1_x0 breakso10 :=
  wDp (wWk (wEd_spec (x_ov0_le sf) u_ctS lwFRok breaksE10) (Nat.le_refl _) (Nat.le_refl _) (Nat.le_refl _) (by decide +kernel) (by decide +kernel)) (by decide) (by decide)
theorem breaksN11 {xs : Nat → Int32} {n : Nat} {sf : Option Nat} : wGoes x_KT x_tb x_tyl (x_otS xs n sf) lwFR lwGA.length lwGB.length 5 24 42 breaksWA breaksWB 112 242 65 66 breaks_c1_x1 breakso11 :=
  wDp (wWk (wEd_spec (x_ov0_le sf) u_ctS lwFRok breaksE11) (Nat.le_refl _) (Nat.le_refl _) (Nat.le_refl _) (by decide +kernel) (by decide +kernel)) (by decide) (by decide)
theorem breaksN12 {xs : Nat → Int32} {n : Nat} {sf : Option Nat} : wGoes x_KT x_tb x_tyl (x_otS xs n sf) lwFR lwGA.length lwGB.length 5 24 42 breaksWA breaksWB 112 242 65 66 breaks_c1_x2 breakso12 :=
  wDp (wWk (wEd_spec (x_ov0_le sf) u_ctS lwFRok breaksE12) (Nat.le_refl _) (Nat.le_refl _) (Nat.le_refl _) (by decide +kernel) (by decide +kernel)) (by decide) (by decide)
theorem breaksN13 {xs : Nat → Int32} {n : Nat} {sf : Option Nat} : wGoes x_KT x_tb x_tyl (x_otS xs n sf) lwFR lwGA.length lwGB.length 5 24 42 breaksWA breaksWB 112 242 65 66 breaks_c1_x3 breakso13 :=
  wDp (wWk (wEd_spec (x_ov0_le sf) u_ctS lwFRok breaksE13) (Nat.le_refl _) (Nat.le_refl _) (Nat.le_refl _) (by decide +kernel) (by decide +kernel)) (by decide) (by decide)
def chg_g2_nd : List wE := [chg_in2, chg_cb_2, chg_cb_2_x, chg_c0_2, chg_c0_2_X, chg_c1_2, chg_c1_2_X, chg_cl_2, chg_cl_2_e0, chg_cl_2_e1]
theorem chg_g2_G {xs : Nat → Int32} {n : Nat} {sf : Option Nat} : ∀ nd ∈ chg_g2_nd, wGoes x_KT x_tb x_tyl (x_otS xs n sf) lwFR lwGA.length lwGB.length 27 33 45 chgWA chgWB 115 243 64 65 nd (chg_g2_ex.map (fun x => (false, x))) := wGraph (fun nd hnd => by
  have hnd : nd ∈ ([chg_in2, chg_cb_2, chg_cb_2_x, chg_c0_2, chg_c0_2_X, chg_c1_2, chg_c1_2_X, chg_cl_2, chg_cl_2_e0, chg_cl_2_e1] : List wE) := hnd
  simp only [List.mem_cons, List.not_mem_nil, or_false] at hnd
  rcases hnd with rfl | rfl | rfl | rfl | rfl | rfl | rfl | rfl | rfl | rfl
  · refine ⟨chgo21, chgN21, fun o ho => ?_⟩
    have ho : o ∈ ([(true, chg_cb_2)] : List (Bool × wE)) := ho
    simp only [List.mem_cons, List.not_mem_nil, or_false] at ho
    rcases ho with rfl
    · exact Or.inr ⟨rfl, List.mem_cons_of_mem _ (List.mem_cons_self)⟩
  · refine ⟨chgo20, chgN20, fun o ho => ?_⟩
    have ho : o ∈ ([(true, chg_cb_2_x)] : List (Bool × wE)) := ho
    simp only [List.mem_cons, List.not_mem_nil, or_false] at ho
    rcases ho with rfl
    · exact Or.inr ⟨rfl, List.mem_cons_of_mem _ (List.mem_cons_of_mem _ (List.mem_cons_self))⟩
  · refine ⟨chgo23, chgN23, fun o ho => ?_⟩
    have ho : o ∈ ([(true, chg_c0_2)] : List (Bool × wE)) := ho
    simp only [List.mem_cons, List.not_mem_nil, or_false] at ho
    rcases ho with rfl
    · exact Or.inr ⟨rfl, List.mem_cons_of_mem _ (List.mem_cons_of_mem _ (List.mem_cons_of_mem _ (List.mem_cons_self)))⟩
  · refine ⟨chgo22, chgN22, fun o ho => ?_⟩
    have ho : o ∈ ([(true, chg_c0_2_X)] : List (Bool × wE)) := ho
    simp only [List.mem_cons, List.not_mem_nil, or_false] at ho
    rcases ho with rfl
    · exact Or.inr ⟨rfl, List.mem_cons_of_mem _ (List.mem_cons_of_mem _ (List.mem_cons_of_mem _ (List.mem_cons_of_mem _ (List.mem_cons_self))))⟩
  · refine ⟨chgo25, chgN25, fun o ho => ?_⟩
    have ho : o ∈ ([(true, chg_c1_2)] : List (Bool × wE)) := ho
    simp only [List.mem_cons, List.not_mem_nil, or_false] at ho
    rcases ho with rfl
    · exact Or.inr ⟨rfl, List.mem_cons_of_mem _ (List.mem_cons_of_mem _ (List.mem_cons_of_mem _ (List.mem_cons_of_mem _ (List.mem_cons_of_mem _ (List.mem_cons_self)))))⟩
  · refine ⟨chgo24, chgN24, fun o ho => ?_⟩
    have ho : o ∈ ([(true, chg_c1_2_X)] : List (Bool × wE)) := ho
    simp only [List.mem_cons, List.not_mem_nil, or_false] at ho
    rcases ho with rfl
    · exact Or.inr ⟨rfl, List.mem_cons_of_mem _ (List.mem_cons_of_mem _ (List.mem_cons_of_mem _ (List.mem_cons_of_mem _ (List.mem_cons_of_mem _ (List.mem_cons_of_mem _ (List.mem_cons_self))))))⟩
  · refine ⟨chgo27, chgN27, fun o ho => ?_⟩
    have ho : o ∈ ([(true, chg_cl_2)] : List (Bool × wE)) := ho
    simp only [List.mem_cons, List.not_mem_nil, or_false] at ho
    rcases ho with rfl
    · exact Or.inr ⟨rfl, List.mem_cons_of_mem _ (List.mem_cons_of_mem _ (List.mem_cons_of_mem _ (List.mem_cons_of_mem _ (List.mem_cons_of_mem _ (List.mem_cons_of_mem _ (List.mem_cons_of_mem _ (List.mem_cons_self)))))))⟩
  · refine ⟨chgo26, chgN26, fun o ho => ?_⟩
    have ho : o ∈ ([(true, chg_cl_2_e0), (true, chg_cl_2_e1)] : List (Bool × wE)) := ho
    simp only [List.mem_cons, List.not_mem_nil, or_false] at ho
    rcases ho with rfl | rfl
    · exact Or.inr ⟨rfl, List.mem_cons_of_mem _ (List.mem_cons_of_mem _ (List.mem_cons_of_mem _ (List.mem_cons_of_mem _ (List.mem_cons_of_mem _ (List.mem_cons_of_mem _ (List.mem_cons_of_mem _ (List.mem_cons_of_mem _ (List.mem_cons_self))))))))⟩
    · exact Or.inr ⟨rfl, List.mem_cons_of_mem _ (List.mem_cons_of_mem _ (List.mem_cons_of_mem _ (List.mem_cons_of_mem _ (List.mem_cons_of_mem _ (List.mem_cons_of_mem _ (List.mem_cons_of_mem _ (List.mem_cons_of_mem _ (List.mem_cons_of_mem _ (List.mem_cons_self)))))))))⟩
  · refine ⟨chgo28, chgN28, fun o ho => ?_⟩
    have ho : o ∈ ([(false, chg_x0), (false, chg_x1), (false, chg_x2), (false, chg_x3)] : List (Bool × wE)) := ho
    simp only [List.mem_cons, List.not_mem_nil, or_false] at ho
    rcases ho with rfl | rfl | rfl | rfl
    · exact Or.inl (List.mem_cons_self)
    · exact Or.inl (List.mem_cons_of_mem _ (List.mem_cons_self))
    · exact Or.inl (List.mem_cons_of_mem _ (List.mem_cons_of_mem _ (List.mem_cons_self)))
    · exact Or.inl (List.mem_cons_of_mem _ (List.mem_cons_of_mem _ (List.mem_cons_of_mem _ (List.mem_cons_self))))
  · refine ⟨chgo29, chgN29, fun o ho => ?_⟩
    have ho : o ∈ ([(false, chg_x0), (false, chg_x1), (false, chg_x2), (false, chg_x3)] : List (Bool × wE)) := ho
    simp only [List.mem_cons, List.not_mem_nil, or_false] at ho
    rcases ho with rfl | rfl | rfl | rfl
    · exact Or.inl (List.mem_cons_self)
    · exact Or.inl (List.mem_cons_of_mem _ (List.mem_cons_self))
    · exact Or.inl (List.mem_cons_of_mem _ (List.mem_cons_of_mem _ (List.mem_cons_self)))
    · exact Or.inl (List.mem_cons_of_mem _ (List.mem_cons_of_mem _ (List.mem_cons_of_mem _ (List.mem_cons_self)))))
theorem breaksN14 {xs : Nat → Int32} {n : Nat} {sf : Option Nat} : wGoes x_KT x_tb x_tyl (x_otS xs n sf) lwFR lwGA.length lwGB.length 5 24 42 breaksWA breaksWB 112 242 65 66 breaks_c2 breakso14 :=
  wDp (wWk (wEqvB (wCallB (recv := 0) (pc := 69) (ix := 395) (nx := 3) (args := [.inl (lSy 6), .inl (lSy 26), .inl (lSy 19), .inl (lSy 20), .inl (lSy 5), .inl (lSy 21)]) (rest := []) (LE := [(0, .inr (some 0)), (1, .inl (lSy 6)), (2, .inl (lSy 26)), (3, .inl (lSy 19)), (4, .inl (lSy 20)), (5, .inl (lSy 22)), (6, .inl (lSy 23)), (7, .inl (lSy 24)), (8, .inl (lSy 5))]) (cE := (lK 0)) (sE := (lK 0)) (wCallA (recv := 0) (pc := 78) (ix := 302) (nx := 3) (args := [.inr (some 24), .inl (lSy 5)]) (rest := []) (LE := [(0, .inr (some 0)), (1, .inl (lSy 6)), (2, .inl (lSy 26)), (3, .inl (lSy 19)), (4, .inl (lSy 20)), (5, .inl (lSy 22)), (6, .inr (some 24)), (7, .inl (lSy 23)), (8, .inl (lSy 24)), (9, .inl (lSy 5))]) (cE := (lK 0)) (sE := (lK 0)) (wReL (XA := breaksX14.2.1) (XB := breaksX14.2.2.1) (XC := breaksX14.2.2.2.1) (rk := breaksX14.2.2.2.2) (rA := breaksQA14) (rB := breaksQB14) (chg_g2_G _ List.mem_cons_self) breaksL14) gq112 gq115 (by decide +kernel) (by decide +kernel) (by decide +kernel) (by decide +kernel) (by decide +kernel)) gq242 gq243 (by decide +kernel) (by decide +kernel) (by decide +kernel) (by decide +kernel) (by decide +kernel)) (by decide +kernel) (by decide +kernel)) (by decide) (by decide) (by decide) (by decide +kernel) (by decide +kernel)) (by decide) (by decide)
theorem breaksN15 {xs : Nat → Int32} {n : Nat} {sf : Option Nat} : wGoes x_KT x_tb x_tyl (x_otS xs n sf) lwFR lwGA.length lwGB.length 5 24 42 breaksWA breaksWB 112 242 65 66 breaks_L2 breakso15 :=
  wDp (wWk (wEd_spec (x_ov0_le sf) u_ctS lwFRok breaksE15) (Nat.le_refl _) (Nat.le_refl _) (Nat.le_refl _) (by decide +kernel) (by decide +kernel)) (by decide) (by decide)
theorem breaksN16 {xs : Nat → Int32} {n : Nat} {sf : Option Nat} : wGoes x_KT x_tb x_tyl (x_otS xs n sf) lwFR lwGA.length lwGB.length 5 24 42 breaksWA breaksWB 112 242 65 66 breaks_c2_x0 breakso16 :=
  wDp (wWk (wEd_spec (x_ov0_le sf) u_ctS lwFRok breaksE16) (Nat.le_refl _) (Nat.le_refl _) (Nat.le_refl _) (by decide +kernel) (by decide +kernel)) (by decide) (by decide)
theorem breaksN17 {xs : Nat → Int32} {n : Nat} {sf : Option Nat} : wGoes x_KT x_tb x_tyl (x_otS xs n sf) lwFR lwGA.length lwGB.length 5 24 42 breaksWA breaksWB 112 242 65 66 breaks_c2_x1 breakso17 :=
  wDp (wWk (wEd_spec (x_ov0_le sf) u_ctS lwFRok breaksE17) (Nat.le_refl _) (Nat.le_refl _) (Nat.le_refl _) (by decide +kernel) (by decide +kernel)) (by decide) (by decide)
theorem breaksN18 {xs : Nat → Int32} {n : Nat} {sf : Option Nat} : wGoes x_KT x_tb x_tyl (x_otS xs n sf) lwFR lwGA.length lwGB.length 5 24 42 breaksWA breaksWB 112 242 65 66 breaks_c2_x2 breakso18 :=
  wDp (wWk (wEd_spec (x_ov0_le sf) u_ctS lwFRok breaksE18) (Nat.le_refl _) (Nat.le_refl _) (Nat.le_refl _) (by decide +kernel) (by decide +kernel)) (by decide) (by decide)
theorem breaksN19 {xs : Nat → Int32} {n : Nat} {sf : Option Nat} : wGoes x_KT x_tb x_tyl (x_otS xs n sf) lwFR lwGA.length lwGB.length 5 24 42 breaksWA breaksWB 112 242 65 66 breaks_c2_x3 breakso19 :=
  wDp (wWk (wEd_spec (x_ov0_le sf) u_ctS lwFRok breaksE19) (Nat.le_refl _) (Nat.le_refl _) (Nat.le_refl _) (by decide +kernel) (by decide +kernel)) (by decide) (by decide)
def chg_g3_nd : List wE := [chg_in3, chg_cb_3, chg_cb_3_x, chg_c0_3, chg_c0_3_X, chg_c1_3, chg_c1_3_X, chg_cl_3, chg_cl_3_e0, chg_cl_3_e1]
theorem chg_g3_G {xs : Nat → Int32} {n : Nat} {sf : Option Nat} : ∀ nd ∈ chg_g3_nd, wGoes x_KT x_tb x_tyl (x_otS xs n sf) lwFR lwGA.length lwGB.length 27 33 45 chgWA chgWB 115 243 64 65 nd (chg_g3_ex.map (fun x => (false, x))) := wGraph (fun nd hnd => by
  have hnd : nd ∈ ([chg_in3, chg_cb_3, chg_cb_3_x, chg_c0_3, chg_c0_3_X, chg_c1_3, chg_c1_3_X, chg_cl_3, chg_cl_3_e0, chg_cl_3_e1] : List wE) := hnd
  simp only [List.mem_cons, List.not_mem_nil, or_false] at hnd
  rcases hnd with rfl | rfl | rfl | rfl | rfl | rfl | rfl | rfl | rfl | rfl
  · refine ⟨chgo31, chgN31, fun o ho => ?_⟩
    have ho : o ∈ ([(true, chg_cb_3)] : List (Bool × wE)) := ho
    simp only [List.mem_cons, List.not_mem_nil, or_false] at ho
    rcases ho with rfl
    · exact Or.inr ⟨rfl, List.mem_cons_of_mem _ (List.mem_cons_self)⟩
  · refine ⟨chgo30, chgN30, fun o ho => ?_⟩
    have ho : o ∈ ([(true, chg_cb_3_x)] : List (Bool × wE)) := ho
    simp only [List.mem_cons, List.not_mem_nil, or_false] at ho
    rcases ho with rfl
    · exact Or.inr ⟨rfl, List.mem_cons_of_mem _ (List.mem_cons_of_mem _ (List.mem_cons_self))⟩
  · refine ⟨chgo33, chgN33, fun o ho => ?_⟩
    have ho : o ∈ ([(true, chg_c0_3)] : List (Bool × wE)) := ho
    simp only [List.mem_cons, List.not_mem_nil, or_false] at ho
    rcases ho with rfl
    · exact Or.inr ⟨rfl, List.mem_cons_of_mem _ (List.mem_cons_of_mem _ (List.mem_cons_of_mem _ (List.mem_cons_self)))⟩
  · refine ⟨chgo32, chgN32, fun o ho => ?_⟩
    have ho : o ∈ ([(true, chg_c0_3_X)] : List (Bool × wE)) := ho
    simp only [List.mem_cons, List.not_mem_nil, or_false] at ho
    rcases ho with rfl
    · exact Or.inr ⟨rfl, List.mem_cons_of_mem _ (List.mem_cons_of_mem _ (List.mem_cons_of_mem _ (List.mem_cons_of_mem _ (List.mem_cons_self))))⟩
  · refine ⟨chgo35, chgN35, fun o ho => ?_⟩
    have ho : o ∈ ([(true, chg_c1_3)] : List (Bool × wE)) := ho
    simp only [List.mem_cons, List.not_mem_nil, or_false] at ho
    rcases ho with rfl
    · exact Or.inr ⟨rfl, List.mem_cons_of_mem _ (List.mem_cons_of_mem _ (List.mem_cons_of_mem _ (List.mem_cons_of_mem _ (List.mem_cons_of_mem _ (List.mem_cons_self)))))⟩
  · refine ⟨chgo34, chgN34, fun o ho => ?_⟩
    have ho : o ∈ ([(true, chg_c1_3_X)] : List (Bool × wE)) := ho
    simp only [List.mem_cons, List.not_mem_nil, or_false] at ho
    rcases ho with rfl
    · exact Or.inr ⟨rfl, List.mem_cons_of_mem _ (List.mem_cons_of_mem _ (List.mem_cons_of_mem _ (List.mem_cons_of_mem _ (List.mem_cons_of_mem _ (List.mem_cons_of_mem _ (List.mem_cons_self))))))⟩
  · refine ⟨chgo37, chgN37, fun o ho => ?_⟩
    have ho : o ∈ ([(true, chg_cl_3)] : List (Bool × wE)) := ho
    simp only [List.mem_cons, List.not_mem_nil, or_false] at ho
    rcases ho with rfl
    · exact Or.inr ⟨rfl, List.mem_cons_of_mem _ (List.mem_cons_of_mem _ (List.mem_cons_of_mem _ (List.mem_cons_of_mem _ (List.mem_cons_of_mem _ (List.mem_cons_of_mem _ (List.mem_cons_of_mem _ (List.mem_cons_self)))))))⟩
  · refine ⟨chgo36, chgN36, fun o ho => ?_⟩
    have ho : o ∈ ([(true, chg_cl_3_e0), (true, chg_cl_3_e1)] : List (Bool × wE)) := ho
    simp only [List.mem_cons, List.not_mem_nil, or_false] at ho
    rcases ho with rfl | rfl
    · exact Or.inr ⟨rfl, List.mem_cons_of_mem _ (List.mem_cons_of_mem _ (List.mem_cons_of_mem _ (List.mem_cons_of_mem _ (List.mem_cons_of_mem _ (List.mem_cons_of_mem _ (List.mem_cons_of_mem _ (List.mem_cons_of_mem _ (List.mem_cons_self))))))))⟩
    · exact Or.inr ⟨rfl, List.mem_cons_of_mem _ (List.mem_cons_of_mem _ (List.mem_cons_of_mem _ (List.mem_cons_of_mem _ (List.mem_cons_of_mem _ (List.mem_cons_of_mem _ (List.mem_cons_of_mem _ (List.mem_cons_of_mem _ (List.mem_cons_of_mem _ (List.mem_cons_self)))))))))⟩
  · refine ⟨chgo38, chgN38, fun o ho => ?_⟩
    have ho : o ∈ ([(false, chg_x0), (false, chg_x1), (false, chg_x2), (false, chg_x3)] : List (Bool × wE)) := ho
    simp only [List.mem_cons, List.not_mem_nil, or_false] at ho
    rcases ho with rfl | rfl | rfl | rfl
    · exact Or.inl (List.mem_cons_self)
    · exact Or.inl (List.mem_cons_of_mem _ (List.mem_cons_self))
    · exact Or.inl (List.mem_cons_of_mem _ (List.mem_cons_of_mem _ (List.mem_cons_self)))
    · exact Or.inl (List.mem_cons_of_mem _ (List.mem_cons_of_mem _ (List.mem_cons_of_mem _ (List.mem_cons_self))))
  · refine ⟨chgo39, chgN39, fun o ho => ?_⟩
    have ho : o ∈ ([(false, chg_x0), (false, chg_x1), (false, chg_x2), (false, chg_x3)] : List (Bool × wE)) := ho
    simp only [List.mem_cons, List.not_mem_nil, or_false] at ho
    rcases ho with rfl | rfl | rfl | rfl
    · exact Or.inl (List.mem_cons_self)
    · exact Or.inl (List.mem_cons_of_mem _ (List.mem_cons_self))
    · exact Or.inl (List.mem_cons_of_mem _ (List.mem_cons_of_mem _ (List.mem_cons_self)))
    · exact Or.inl (List.mem_cons_of_mem _ (List.mem_cons_of_mem _ (List.mem_cons_of_mem _ (List.mem_cons_self)))))
theorem breaksN20 {xs : Nat → Int32} {n : Nat} {sf : Option Nat} : wGoes x_KT x_tb x_tyl (x_otS xs n sf) lwFR lwGA.length lwGB.length 5 24 42 breaksWA breaksWB 112 242 65 66 breaks_c3 breakso20 :=
  wDp (wWk (wEqvB (wCallB (recv := 0) (pc := 69) (ix := 395) (nx := 3) (args := [.inl (lSy 6), .inl (lSy 26), .inl (lSy 19), .inl (lSy 20), .inl (lSy 5), .inl (lSy 21)]) (rest := []) (LE := [(0, .inr (some 0)), (1, .inl (lSy 6)), (2, .inl (lSy 26)), (3, .inl (lSy 19)), (4, .inl (lSy 20)), (5, .inl (lSy 22)), (6, .inl (lSy 23)), (7, .inl (lSy 24)), (8, .inl (lSy 5))]) (cE := (lK 0)) (sE := (lK 0)) (wCallA (recv := 0) (pc := 78) (ix := 302) (nx := 3) (args := [.inr (some 24), .inl (lSy 5)]) (rest := []) (LE := [(0, .inr (some 0)), (1, .inl (lSy 6)), (2, .inl (lSy 26)), (3, .inl (lSy 19)), (4, .inl (lSy 20)), (5, .inl (lSy 22)), (6, .inr (some 24)), (7, .inl (lSy 23)), (8, .inl (lSy 24)), (9, .inl (lSy 5))]) (cE := (lK 0)) (sE := (lK 0)) (wReL (XA := breaksX20.2.1) (XB := breaksX20.2.2.1) (XC := breaksX20.2.2.2.1) (rk := breaksX20.2.2.2.2) (rA := breaksQA20) (rB := breaksQB20) (chg_g3_G _ List.mem_cons_self) breaksL20) gq112 gq115 (by decide +kernel) (by decide +kernel) (by decide +kernel) (by decide +kernel) (by decide +kernel)) gq242 gq243 (by decide +kernel) (by decide +kernel) (by decide +kernel) (by decide +kernel) (by decide +kernel)) (by decide +kernel) (by decide +kernel)) (by decide) (by decide) (by decide) (by decide +kernel) (by decide +kernel)) (by decide) (by decide)
theorem breaksN21 {xs : Nat → Int32} {n : Nat} {sf : Option Nat} : wGoes x_KT x_tb x_tyl (x_otS xs n sf) lwFR lwGA.length lwGB.length 5 24 42 breaksWA breaksWB 112 242 65 66 breaks_L3 breakso21 :=
  wDp (wWk (wEd_spec (x_ov0_le sf) u_ctS lwFRok breaksE21) (Nat.le_refl _) (Nat.le_refl _) (Nat.le_refl _) (by decide +kernel) (by decide +kernel)) (by decide) (by decide)
theorem breaksN22 {xs : Nat → Int32} {n : Nat} {sf : Option Nat} : wGoes x_KT x_tb x_tyl (x_otS xs n sf) lwFR lwGA.length lwGB.length 5 24 42 breaksWA breaksWB 112 242 65 66 breaks_c3_x0 breakso22 :=
  wDp (wWk (wEd_spec (x_ov0_le sf) u_ctS lwFRok breaksE22) (Nat.le_refl _) (Nat.le_refl _) (Nat.le_refl _) (by decide +kernel) (by decide +kernel)) (by decide) (by decide)
theorem breaksN23 {xs : Nat → Int32} {n : Nat} {sf : Option Nat} : wGoes x_KT x_tb x_tyl (x_otS xs n sf) lwFR lwGA.length lwGB.length 5 24 42 breaksWA breaksWB 112 242 65 66 breaks_c3_x1 breakso23 :=
  wDp (wWk (wEd_spec (x_ov0_le sf) u_ctS lwFRok breaksE23) (Nat.le_refl _) (Nat.le_refl _) (Nat.le_refl _) (by decide +kernel) (by decide +kernel)) (by decide) (by decide)
theorem breaksN24 {xs : Nat → Int32} {n : Nat} {sf : Option Nat} : wGoes x_KT x_tb x_tyl (x_otS xs n sf) lwFR lwGA.length lwGB.length 5 24 42 breaksWA breaksWB 112 242 65 66 breaks_c3_x2 breakso24 :=
  wDp (wWk (wEd_spec (x_ov0_le sf) u_ctS lwFRok breaksE24) (Nat.le_refl _) (Nat.le_refl _) (Nat.le_refl _) (by decide +kernel) (by decide +kernel)) (by decide) (by decide)
theorem breaksN25 {xs : Nat → Int32} {n : Nat} {sf : Option Nat} : wGoes x_KT x_tb x_tyl (x_otS xs n sf) lwFR lwGA.length lwGB.length 5 24 42 breaksWA breaksWB 112 242 65 66 breaks_c3_x3 breakso25 :=
  wDp (wWk (wEd_spec (x_ov0_le sf) u_ctS lwFRok breaksE25) (Nat.le_refl _) (Nat.le_refl _) (Nat.le_refl _) (by decide +kernel) (by decide +kernel)) (by decide) (by decide)
def chg_g4_nd : List wE := [chg_in4, chg_cb_4, chg_cb_4_x, chg_c0_4, chg_c0_4_X, chg_c1_4, chg_c1_4_X, chg_cl_4, chg_cl_4_e0, chg_cl_4_e1]
theorem chg_g4_G {xs : Nat → Int32} {n : Nat} {sf : Option Nat} : ∀ nd ∈ chg_g4_nd, wGoes x_KT x_tb x_tyl (x_otS xs n sf) lwFR lwGA.length lwGB.length 27 33 45 chgWA chgWB 115 243 64 65 nd (chg_g4_ex.map (fun x => (false, x))) := wGraph (fun nd hnd => by
  have hnd : nd ∈ ([chg_in4, chg_cb_4, chg_cb_4_x, chg_c0_4, chg_c0_4_X, chg_c1_4, chg_c1_4_X, chg_cl_4, chg_cl_4_e0, chg_cl_4_e1] : List wE) := hnd
  simp only [List.mem_cons, List.not_mem_nil, or_false] at hnd
  rcases hnd with rfl | rfl | rfl | rfl | rfl | rfl | rfl | rfl | rfl | rfl
  · refine ⟨chgo41, chgN41, fun o ho => ?_⟩
    have ho : o ∈ ([(true, chg_cb_4)] : List (Bool × wE)) := ho
    simp only [List.mem_cons, List.not_mem_nil, or_false] at ho
    rcases ho with rfl
    · exact Or.inr ⟨rfl, List.mem_cons_of_mem _ (List.mem_cons_self)⟩
  · refine ⟨chgo40, chgN40, fun o ho => ?_⟩
    have ho : o ∈ ([(true, chg_cb_4_x)] : List (Bool × wE)) := ho
    simp only [List.mem_cons, List.not_mem_nil, or_false] at ho
    rcases ho with rfl
    · exact Or.inr ⟨rfl, List.mem_cons_of_mem _ (List.mem_cons_of_mem _ (List.mem_cons_self))⟩
  · refine ⟨chgo43, chgN43, fun o ho => ?_⟩
    have ho : o ∈ ([(true, chg_c0_4)] : List (Bool × wE)) := ho
    simp only [List.mem_cons, List.not_mem_nil, or_false] at ho
    rcases ho with rfl
    · exact Or.inr ⟨rfl, List.mem_cons_of_mem _ (List.mem_cons_of_mem _ (List.mem_cons_of_mem _ (List.mem_cons_self)))⟩
  · refine ⟨chgo42, chgN42, fun o ho => ?_⟩
    have ho : o ∈ ([(true, chg_c0_4_X)] : List (Bool × wE)) := ho
    simp only [List.mem_cons, List.not_mem_nil, or_false] at ho
    rcases ho with rfl
    · exact Or.inr ⟨rfl, List.mem_cons_of_mem _ (List.mem_cons_of_mem _ (List.mem_cons_of_mem _ (List.mem_cons_of_mem _ (List.mem_cons_self))))⟩
  · refine ⟨chgo45, chgN45, fun o ho => ?_⟩
    have ho : o ∈ ([(true, chg_c1_4)] : List (Bool × wE)) := ho
    simp only [List.mem_cons, List.not_mem_nil, or_false] at ho
    rcases ho with rfl
    · exact Or.inr ⟨rfl, List.mem_cons_of_mem _ (List.mem_cons_of_mem _ (List.mem_cons_of_mem _ (List.mem_cons_of_mem _ (List.mem_cons_of_mem _ (List.mem_cons_self)))))⟩
  · refine ⟨chgo44, chgN44, fun o ho => ?_⟩
    have ho : o ∈ ([(true, chg_c1_4_X)] : List (Bool × wE)) := ho
    simp only [List.mem_cons, List.not_mem_nil, or_false] at ho
    rcases ho with rfl
    · exact Or.inr ⟨rfl, List.mem_cons_of_mem _ (List.mem_cons_of_mem _ (List.mem_cons_of_mem _ (List.mem_cons_of_mem _ (List.mem_cons_of_mem _ (List.mem_cons_of_mem _ (List.mem_cons_self))))))⟩
  · refine ⟨chgo47, chgN47, fun o ho => ?_⟩
    have ho : o ∈ ([(true, chg_cl_4)] : List (Bool × wE)) := ho
    simp only [List.mem_cons, List.not_mem_nil, or_false] at ho
    rcases ho with rfl
    · exact Or.inr ⟨rfl, List.mem_cons_of_mem _ (List.mem_cons_of_mem _ (List.mem_cons_of_mem _ (List.mem_cons_of_mem _ (List.mem_cons_of_mem _ (List.mem_cons_of_mem _ (List.mem_cons_of_mem _ (List.mem_cons_self)))))))⟩
  · refine ⟨chgo46, chgN46, fun o ho => ?_⟩
    have ho : o ∈ ([(true, chg_cl_4_e0), (true, chg_cl_4_e1)] : List (Bool × wE)) := ho
    simp only [List.mem_cons, List.not_mem_nil, or_false] at ho
    rcases ho with rfl | rfl
    · exact Or.inr ⟨rfl, List.mem_cons_of_mem _ (List.mem_cons_of_mem _ (List.mem_cons_of_mem _ (List.mem_cons_of_mem _ (List.mem_cons_of_mem _ (List.mem_cons_of_mem _ (List.mem_cons_of_mem _ (List.mem_cons_of_mem _ (List.mem_cons_self))))))))⟩
    · exact Or.inr ⟨rfl, List.mem_cons_of_mem _ (List.mem_cons_of_mem _ (List.mem_cons_of_mem _ (List.mem_cons_of_mem _ (List.mem_cons_of_mem _ (List.mem_cons_of_mem _ (List.mem_cons_of_mem _ (List.mem_cons_of_mem _ (List.mem_cons_of_mem _ (List.mem_cons_self)))))))))⟩
  · refine ⟨chgo48, chgN48, fun o ho => ?_⟩
    have ho : o ∈ ([(false, chg_x0), (false, chg_x1), (false, chg_x2), (false, chg_x3)] : List (Bool × wE)) := ho
    simp only [List.mem_cons, List.not_mem_nil, or_false] at ho
    rcases ho with rfl | rfl | rfl | rfl
    · exact Or.inl (List.mem_cons_self)
    · exact Or.inl (List.mem_cons_of_mem _ (List.mem_cons_self))
    · exact Or.inl (List.mem_cons_of_mem _ (List.mem_cons_of_mem _ (List.mem_cons_self)))
    · exact Or.inl (List.mem_cons_of_mem _ (List.mem_cons_of_mem _ (List.mem_cons_of_mem _ (List.mem_cons_self))))
  · refine ⟨chgo49, chgN49, fun o ho => ?_⟩
    have ho : o ∈ ([(false, chg_x0), (false, chg_x1), (false, chg_x2), (false, chg_x3)] : List (Bool × wE)) := ho
    simp only [List.mem_cons, List.not_mem_nil, or_false] at ho
    rcases ho with rfl | rfl | rfl | rfl
    · exact Or.inl (List.mem_cons_self)
    · exact Or.inl (List.mem_cons_of_mem _ (List.mem_cons_self))
    · exact Or.inl (List.mem_cons_of_mem _ (List.mem_cons_of_mem _ (List.mem_cons_self)))
    · exact Or.inl (List.mem_cons_of_mem _ (List.mem_cons_of_mem _ (List.mem_cons_of_mem _ (List.mem_cons_self)))))
theorem breaksN26 {xs : Nat → Int32} {n : Nat} {sf : Option Nat} : wGoes x_KT x_tb x_tyl (x_otS xs n sf) lwFR lwGA.length lwGB.length 5 24 42 breaksWA breaksWB 112 242 65 66 breaks_c4 breakso26 :=
  wDp (wWk (wEqvB (wCallB (recv := 0) (pc := 69) (ix := 395) (nx := 3) (args := [.inl (lSy 6), .inl (lSy 26), .inl (lSy 19), .inl (lSy 20), .inl (lSy 5), .inl (lSy 21)]) (rest := []) (LE := [(0, .inr (some 0)), (1, .inl (lSy 6)), (2, .inl (lSy 26)), (3, .inl (lSy 19)), (4, .inl (lSy 20)), (5, .inl (lSy 22)), (6, .inl (lSy 23)), (7, .inl (lSy 24)), (8, .inl (lSy 5))]) (cE := (lK 0)) (sE := (lK 0)) (wCallA (recv := 0) (pc := 78) (ix := 302) (nx := 3) (args := [.inr (some 24), .inl (lSy 5)]) (rest := []) (LE := [(0, .inr (some 0)), (1, .inl (lSy 6)), (2, .inl (lSy 26)), (3, .inl (lSy 19)), (4, .inl (lSy 20)), (5, .inl (lSy 22)), (6, .inr (some 24)), (7, .inl (lSy 23)), (8, .inl (lSy 24)), (9, .inl (lSy 5))]) (cE := (lK 0)) (sE := (lK 0)) (wReL (XA := breaksX26.2.1) (XB := breaksX26.2.2.1) (XC := breaksX26.2.2.2.1) (rk := breaksX26.2.2.2.2) (rA := breaksQA26) (rB := breaksQB26) (chg_g4_G _ List.mem_cons_self) breaksL26) gq112 gq115 (by decide +kernel) (by decide +kernel) (by decide +kernel) (by decide +kernel) (by decide +kernel)) gq242 gq243 (by decide +kernel) (by decide +kernel) (by decide +kernel) (by decide +kernel) (by decide +kernel)) (by decide +kernel) (by decide +kernel)) (by decide) (by decide) (by decide) (by decide +kernel) (by decide +kernel)) (by decide) (by decide)
theorem breaksN27 {xs : Nat → Int32} {n : Nat} {sf : Option Nat} : wGoes x_KT x_tb x_tyl (x_otS xs n sf) lwFR lwGA.length lwGB.length 5 24 42 breaksWA breaksWB 112 242 65 66 breaks_L4 breakso27 :=
  wDp (wWk (wEd_spec (x_ov0_le sf) u_ctS lwFRok breaksE27) (Nat.le_refl _) (Nat.le_refl _) (Nat.le_refl _) (by decide +kernel) (by decide +kernel)) (by decide) (by decide)
theorem breaksN28 {xs : Nat → Int32} {n : Nat} {sf : Option Nat} : wGoes x_KT x_tb x_tyl (x_otS xs n sf) lwFR lwGA.length lwGB.length 5 24 42 breaksWA breaksWB 112 242 65 66 breaks_c4_x0 breakso28 :=
  wDp (wWk (wEd_spec (x_ov0_le sf) u_ctS lwFRok breaksE28) (Nat.le_refl _) (Nat.le_refl _) (Nat.le_refl _) (by decide +kernel) (by decide +kernel)) (by decide) (by decide)
theorem breaksN29 {xs : Nat → Int32} {n : Nat} {sf : Option Nat} : wGoes x_KT x_tb x_tyl (x_otS xs n sf) lwFR lwGA.length lwGB.length 5 24 42 breaksWA breaksWB 112 242 65 66 breaks_c4_x1 breakso29 :=
  wDp (wWk (wEd_spec (x_ov0_le sf) u_ctS lwFRok breaksE29) (Nat.le_refl _) (Nat.le_refl _) (Nat.le_refl _) (by decide +kernel) (by decide +kernel)) (by decide) (by decide)
theorem breaksN30 {xs : Nat → Int32} {n : Nat} {sf : Option Nat} : wGoes x_KT x_tb x_tyl (x_otS xs n sf) lwFR lwGA.length lwGB.length 5 24 42 breaksWA breaksWB 112 242 65 66 breaks_c4_x2 breakso30 :=
  wDp (wWk (wEd_spec (x_ov0_le sf) u_ctS lwFRok breaksE30) (Nat.le_refl _) (Nat.le_refl _) (Nat.le_refl _) (by decide +kernel) (by decide +kernel)) (by decide) (by decide)
theorem breaksN31 {xs : Nat → Int32} {n : Nat} {sf : Option Nat} : wGoes x_KT x_tb x_tyl (x_otS xs n sf) lwFR lwGA.length lwGB.length 5 24 42 breaksWA breaksWB 112 242 65 66 breaks_c4_x3 breakso31 :=
  wDp (wWk (wEd_spec (x_ov0_le sf) u_ctS lwFRok breaksE31) (Nat.le_refl _) (Nat.le_refl _) (Nat.le_refl _) (by decide +kernel) (by decide +kernel)) (by decide) (by decide)
def chg_g5_nd : List wE := [chg_in5, chg_cb_5, chg_cb_5_x, chg_c0_5, chg_c0_5_X, chg_c1_5, chg_c1_5_X, chg_cl_5, chg_cl_5_e0, chg_cl_5_e1]
theorem chg_g5_G {xs : Nat → Int32} {n : Nat} {sf : Option Nat} : ∀ nd ∈ chg_g5_nd, wGoes x_KT x_tb x_tyl (x_otS xs n sf) lwFR lwGA.length lwGB.length 27 33 45 chgWA chgWB 115 243 64 65 nd (chg_g5_ex.map (fun x => (false, x))) := wGraph (fun nd hnd => by
  have hnd : nd ∈ ([chg_in5, chg_cb_5, chg_cb_5_x, chg_c0_5, chg_c0_5_X, chg_c1_5, chg_c1_5_X, chg_cl_5, chg_cl_5_e0, chg_cl_5_e1] : List wE) := hnd
  simp only [List.mem_cons, List.not_mem_nil, or_false] at hnd
  rcases hnd with rfl | rfl | rfl | rfl | rfl | rfl | rfl | rfl | rfl | rfl
  · refine ⟨chgo51, chgN51, fun o ho => ?_⟩
    have ho : o ∈ ([(true, chg_cb_5)] : List (Bool × wE)) := ho
    simp only [List.mem_cons, List.not_mem_nil, or_false] at ho
    rcases ho with rfl
    · exact Or.inr ⟨rfl, List.mem_cons_of_mem _ (List.mem_cons_self)⟩
  · refine ⟨chgo50, chgN50, fun o ho => ?_⟩
    have ho : o ∈ ([(true, chg_cb_5_x)] : List (Bool × wE)) := ho
    simp only [List.mem_cons, List.not_mem_nil, or_false] at ho
    rcases ho with rfl
    · exact Or.inr ⟨rfl, List.mem_cons_of_mem _ (List.mem_cons_of_mem _ (List.mem_cons_self))⟩
  · refine ⟨chgo53, chgN53, fun o ho => ?_⟩
    have ho : o ∈ ([(true, chg_c0_5)] : List (Bool × wE)) := ho
    simp only [List.mem_cons, List.not_mem_nil, or_false] at ho
    rcases ho with rfl
    · exact Or.inr ⟨rfl, List.mem_cons_of_mem _ (List.mem_cons_of_mem _ (List.mem_cons_of_mem _ (List.mem_cons_self)))⟩
  · refine ⟨chgo52, chgN52, fun o ho => ?_⟩
    have ho : o ∈ ([(true, chg_c0_5_X)] : List (Bool × wE)) := ho
    simp only [List.mem_cons, List.not_mem_nil, or_false] at ho
    rcases ho with rfl
    · exact Or.inr ⟨rfl, List.mem_cons_of_mem _ (List.mem_cons_of_mem _ (List.mem_cons_of_mem _ (List.mem_cons_of_mem _ (List.mem_cons_self))))⟩
  · refine ⟨chgo55, chgN55, fun o ho => ?_⟩
    have ho : o ∈ ([(true, chg_c1_5)] : List (Bool × wE)) := ho
    simp only [List.mem_cons, List.not_mem_nil, or_false] at ho
    rcases ho with rfl
    · exact Or.inr ⟨rfl, List.mem_cons_of_mem _ (List.mem_cons_of_mem _ (List.mem_cons_of_mem _ (List.mem_cons_of_mem _ (List.mem_cons_of_mem _ (List.mem_cons_self)))))⟩
  · refine ⟨chgo54, chgN54, fun o ho => ?_⟩
    have ho : o ∈ ([(true, chg_c1_5_X)] : List (Bool × wE)) := ho
    simp only [List.mem_cons, List.not_mem_nil, or_false] at ho
    rcases ho with rfl
    · exact Or.inr ⟨rfl, List.mem_cons_of_mem _ (List.mem_cons_of_mem _ (List.mem_cons_of_mem _ (List.mem_cons_of_mem _ (List.mem_cons_of_mem _ (List.mem_cons_of_mem _ (List.mem_cons_self))))))⟩
  · refine ⟨chgo57, chgN57, fun o ho => ?_⟩
    have ho : o ∈ ([(true, chg_cl_5)] : List (Bool × wE)) := ho
    simp only [List.mem_cons, List.not_mem_nil, or_false] at ho
    rcases ho with rfl
    · exact Or.inr ⟨rfl, List.mem_cons_of_mem _ (List.mem_cons_of_mem _ (List.mem_cons_of_mem _ (List.mem_cons_of_mem _ (List.mem_cons_of_mem _ (List.mem_cons_of_mem _ (List.mem_cons_of_mem _ (List.mem_cons_self)))))))⟩
  · refine ⟨chgo56, chgN56, fun o ho => ?_⟩
    have ho : o ∈ ([(true, chg_cl_5_e0), (true, chg_cl_5_e1)] : List (Bool × wE)) := ho
    simp only [List.mem_cons, List.not_mem_nil, or_false] at ho
    rcases ho with rfl | rfl
    · exact Or.inr ⟨rfl, List.mem_cons_of_mem _ (List.mem_cons_of_mem _ (List.mem_cons_of_mem _ (List.mem_cons_of_mem _ (List.mem_cons_of_mem _ (List.mem_cons_of_mem _ (List.mem_cons_of_mem _ (List.mem_cons_of_mem _ (List.mem_cons_self))))))))⟩
    · exact Or.inr ⟨rfl, List.mem_cons_of_mem _ (List.mem_cons_of_mem _ (List.mem_cons_of_mem _ (List.mem_cons_of_mem _ (List.mem_cons_of_mem _ (List.mem_cons_of_mem _ (List.mem_cons_of_mem _ (List.mem_cons_of_mem _ (List.mem_cons_of_mem _ (List.mem_cons_self)))))))))⟩
  · refine ⟨chgo58, chgN58, fun o ho => ?_⟩
    have ho : o ∈ ([(false, chg_x0), (false, chg_x1), (false, chg_x2), (false, chg_x3)] : List (Bool × wE)) := ho
    simp only [List.mem_cons, List.not_mem_nil, or_false] at ho
    rcases ho with rfl | rfl | rfl | rfl
    · exact Or.inl (List.mem_cons_self)
    · exact Or.inl (List.mem_cons_of_mem _ (List.mem_cons_self))
    · exact Or.inl (List.mem_cons_of_mem _ (List.mem_cons_of_mem _ (List.mem_cons_self)))
    · exact Or.inl (List.mem_cons_of_mem _ (List.mem_cons_of_mem _ (List.mem_cons_of_mem _ (List.mem_cons_self))))
  · refine ⟨chgo59, chgN59, fun o ho => ?_⟩
    have ho : o ∈ ([(false, chg_x0), (false, chg_x1), (false, chg_x2), (false, chg_x3)] : List (Bool × wE)) := ho
    simp only [List.mem_cons, List.not_mem_nil, or_false] at ho
    rcases ho with rfl | rfl | rfl | rfl
    · exact Or.inl (List.mem_cons_self)
    · exact Or.inl (List.mem_cons_of_mem _ (List.mem_cons_self))
    · exact Or.inl (List.mem_cons_of_mem _ (List.mem_cons_of_mem _ (List.mem_cons_self)))
    · exact Or.inl (List.mem_cons_of_mem _ (List.mem_cons_of_mem _ (List.mem_cons_of_mem _ (List.mem_cons_self)))))
theorem breaksN32 {xs : Nat → Int32} {n : Nat} {sf : Option Nat} : wGoes x_KT x_tb x_tyl (x_otS xs n sf) lwFR lwGA.length lwGB.length 5 24 42 breaksWA breaksWB 112 242 65 66 breaks_c5 breakso32 :=
  wDp (wWk (wEqvB (wCallB (recv := 0) (pc := 69) (ix := 395) (nx := 3) (args := [.inl (lSy 6), .inl (lSy 26), .inl (lSy 19), .inl (lSy 20), .inl (lSy 5), .inl (lSy 21)]) (rest := []) (LE := [(0, .inr (some 0)), (1, .inl (lSy 6)), (2, .inl (lSy 26)), (3, .inl (lSy 19)), (4, .inl (lSy 20)), (5, .inl (lSy 22)), (6, .inl (lSy 23)), (7, .inl (lSy 24)), (8, .inl (lSy 5))]) (cE := (lK 0)) (sE := (lK 0)) (wCallA (recv := 0) (pc := 78) (ix := 302) (nx := 3) (args := [.inr (some 24), .inl (lSy 5)]) (rest := []) (LE := [(0, .inr (some 0)), (1, .inl (lSy 6)), (2, .inl (lSy 26)), (3, .inl (lSy 19)), (4, .inl (lSy 20)), (5, .inl (lSy 22)), (6, .inr (some 24)), (7, .inl (lSy 23)), (8, .inl (lSy 24)), (9, .inl (lSy 5))]) (cE := (lK 0)) (sE := (lK 0)) (wReL (XA := breaksX32.2.1) (XB := breaksX32.2.2.1) (XC := breaksX32.2.2.2.1) (rk := breaksX32.2.2.2.2) (rA := breaksQA32) (rB := breaksQB32) (chg_g5_G _ List.mem_cons_self) breaksL32) gq112 gq115 (by decide +kernel) (by decide +kernel) (by decide +kernel) (by decide +kernel) (by decide +kernel)) gq242 gq243 (by decide +kernel) (by decide +kernel) (by decide +kernel) (by decide +kernel) (by decide +kernel)) (by decide +kernel) (by decide +kernel)) (by decide) (by decide) (by decide) (by decide +kernel) (by decide +kernel)) (by decide) (by decide)
theorem breaksN33 {xs : Nat → Int32} {n : Nat} {sf : Option Nat} : wGoes x_KT x_tb x_tyl (x_otS xs n sf) lwFR lwGA.length lwGB.length 5 24 42 breaksWA breaksWB 112 242 65 66 breaks_L5 breakso33 :=
  wDp (wWk (wEd_spec (x_ov0_le sf) u_ctS lwFRok breaksE33) (Nat.le_refl _) (Nat.le_refl _) (Nat.le_refl _) (by decide +kernel) (by decide +kernel)) (by decide) (by decide)
theorem breaksN34 {xs : Nat → Int32} {n : Nat} {sf : Option Nat} : wGoes x_KT x_tb x_tyl (x_otS xs n sf) lwFR lwGA.length lwGB.length 5 24 42 breaksWA breaksWB 112 242 65 66 breaks_c5_x0 breakso34 :=
  wDp (wWk (wEd_spec (x_ov0_le sf) u_ctS lwFRok breaksE34) (Nat.le_refl _) (Nat.le_refl _) (Nat.le_refl _) (by decide +kernel) (by decide +kernel)) (by decide) (by decide)
theorem breaksN35 {xs : Nat → Int32} {n : Nat} {sf : Option Nat} : wGoes x_KT x_tb x_tyl (x_otS xs n sf) lwFR lwGA.length lwGB.length 5 24 42 breaksWA breaksWB 112 242 65 66 breaks_c5_x1 breakso35 :=
  wDp (wWk (wEd_spec (x_ov0_le sf) u_ctS lwFRok breaksE35) (Nat.le_refl _) (Nat.le_refl _) (Nat.le_refl _) (by decide +kernel) (by decide +kernel)) (by decide) (by decide)
theorem breaksN36 {xs : Nat → Int32} {n : Nat} {sf : Option Nat} : wGoes x_KT x_tb x_tyl (x_otS xs n sf) lwFR lwGA.length lwGB.length 5 24 42 breaksWA breaksWB 112 242 65 66 breaks_c5_x2 breakso36 :=
  wDp (wWk (wEd_spec (x_ov0_le sf) u_ctS lwFRok breaksE36) (Nat.le_refl _) (Nat.le_refl _) (Nat.le_refl _) (by decide +kernel) (by decide +kernel)) (by decide) (by decide)
theorem breaksN37 {xs : Nat → Int32} {n : Nat} {sf : Option Nat} : wGoes x_KT x_tb x_tyl (x_otS xs n sf) lwFR lwGA.length lwGB.length 5 24 42 breaksWA breaksWB 112 242 65 66 breaks_c5_x3 breakso37 :=
  wDp (wWk (wEd_spec (x_ov0_le sf) u_ctS lwFRok breaksE37) (Nat.le_refl _) (Nat.le_refl _) (Nat.le_refl _) (by decide +kernel) (by decide +kernel)) (by decide) (by decide)
def breaks_g0_nd : List wE := [breaks_in, breaks_m, breaks_L0, breaks_L1, breaks_L2, breaks_L3, breaks_L4, breaks_L5, breaks_c0, breaks_c1, breaks_c2, breaks_c3, breaks_c4, breaks_c5, breaks_c0_x0, breaks_c0_x1, breaks_c0_x2, breaks_c0_x3, breaks_c1_x0, breaks_c1_x1, breaks_c1_x2, breaks_c1_x3, breaks_c2_x0, breaks_c2_x1, breaks_c2_x2, breaks_c2_x3, breaks_c3_x0, breaks_c3_x1, breaks_c3_x2, breaks_c3_x3, breaks_c4_x0, breaks_c4_x1, breaks_c4_x2, breaks_c4_x3, breaks_c5_x0, breaks_c5_x1, breaks_c5_x2, breaks_c5_x3]
theorem breaks_g0_G {xs : Nat → Int32} {n : Nat} {sf : Option Nat} : ∀ nd ∈ breaks_g0_nd, wGoes x_KT x_tb x_tyl (x_otS xs n sf) lwFR lwGA.length lwGB.length 5 24 42 breaksWA breaksWB 112 242 65 66 nd (breaks_g0_ex.map (fun x => (false, x))) := wGraph (fun nd hnd => by
  have hnd : nd ∈ ([breaks_in, breaks_m, breaks_L0, breaks_L1, breaks_L2, breaks_L3, breaks_L4, breaks_L5, breaks_c0, breaks_c1, breaks_c2, breaks_c3, breaks_c4, breaks_c5, breaks_c0_x0, breaks_c0_x1, breaks_c0_x2, breaks_c0_x3, breaks_c1_x0, breaks_c1_x1, breaks_c1_x2, breaks_c1_x3, breaks_c2_x0, breaks_c2_x1, breaks_c2_x2, breaks_c2_x3, breaks_c3_x0, breaks_c3_x1, breaks_c3_x2, breaks_c3_x3, breaks_c4_x0, breaks_c4_x1, breaks_c4_x2, breaks_c4_x3, breaks_c5_x0, breaks_c5_x1, breaks_c5_x2, breaks_c5_x3] : List wE) := hnd
  simp only [List.mem_cons, List.not_mem_nil, or_false] at hnd
  rcases hnd with rfl | rfl | rfl | rfl | rfl | rfl | rfl | rfl | rfl | rfl | rfl | rfl | rfl | rfl | rfl | rfl | rfl | rfl | rfl | rfl | rfl | rfl | rfl | rfl | rfl | rfl | rfl | rfl | rfl | rfl | rfl | rfl | rfl | rfl | rfl | rfl | rfl | rfl
  · refine ⟨breakso0, breaksN0, fun o ho => ?_⟩
    have ho : o ∈ ([(true, breaks_m), (false, breaks_out)] : List (Bool × wE)) := ho
    simp only [List.mem_cons, List.not_mem_nil, or_false] at ho
    rcases ho with rfl | rfl
    · exact Or.inr ⟨rfl, List.mem_cons_of_mem _ (List.mem_cons_self)⟩
    · exact Or.inl (List.mem_cons_self)
  · refine ⟨breakso1, breaksN1, fun o ho => ?_⟩
    have ho : o ∈ ([(true, breaks_L0), (true, breaks_L1), (true, breaks_L2), (true, breaks_L3), (true, breaks_L4), (true, breaks_L5)] : List (Bool × wE)) := ho
    simp only [List.mem_cons, List.not_mem_nil, or_false] at ho
    rcases ho with rfl | rfl | rfl | rfl | rfl | rfl
    · exact Or.inr ⟨rfl, List.mem_cons_of_mem _ (List.mem_cons_of_mem _ (List.mem_cons_self))⟩
    · exact Or.inr ⟨rfl, List.mem_cons_of_mem _ (List.mem_cons_of_mem _ (List.mem_cons_of_mem _ (List.mem_cons_self)))⟩
    · exact Or.inr ⟨rfl, List.mem_cons_of_mem _ (List.mem_cons_of_mem _ (List.mem_cons_of_mem _ (List.mem_cons_of_mem _ (List.mem_cons_self))))⟩
    · exact Or.inr ⟨rfl, List.mem_cons_of_mem _ (List.mem_cons_of_mem _ (List.mem_cons_of_mem _ (List.mem_cons_of_mem _ (List.mem_cons_of_mem _ (List.mem_cons_self)))))⟩
    · exact Or.inr ⟨rfl, List.mem_cons_of_mem _ (List.mem_cons_of_mem _ (List.mem_cons_of_mem _ (List.mem_cons_of_mem _ (List.mem_cons_of_mem _ (List.mem_cons_of_mem _ (List.mem_cons_self))))))⟩
    · exact Or.inr ⟨rfl, List.mem_cons_of_mem _ (List.mem_cons_of_mem _ (List.mem_cons_of_mem _ (List.mem_cons_of_mem _ (List.mem_cons_of_mem _ (List.mem_cons_of_mem _ (List.mem_cons_of_mem _ (List.mem_cons_self)))))))⟩
  · refine ⟨breakso3, breaksN3, fun o ho => ?_⟩
    have ho : o ∈ ([(true, breaks_c0), (false, breaks_out)] : List (Bool × wE)) := ho
    simp only [List.mem_cons, List.not_mem_nil, or_false] at ho
    rcases ho with rfl | rfl
    · exact Or.inr ⟨rfl, List.mem_cons_of_mem _ (List.mem_cons_of_mem _ (List.mem_cons_of_mem _ (List.mem_cons_of_mem _ (List.mem_cons_of_mem _ (List.mem_cons_of_mem _ (List.mem_cons_of_mem _ (List.mem_cons_of_mem _ (List.mem_cons_self))))))))⟩
    · exact Or.inl (List.mem_cons_self)
  · refine ⟨breakso9, breaksN9, fun o ho => ?_⟩
    have ho : o ∈ ([(true, breaks_c1), (false, breaks_out)] : List (Bool × wE)) := ho
    simp only [List.mem_cons, List.not_mem_nil, or_false] at ho
    rcases ho with rfl | rfl
    · exact Or.inr ⟨rfl, List.mem_cons_of_mem _ (List.mem_cons_of_mem _ (List.mem_cons_of_mem _ (List.mem_cons_of_mem _ (List.mem_cons_of_mem _ (List.mem_cons_of_mem _ (List.mem_cons_of_mem _ (List.mem_cons_of_mem _ (List.mem_cons_of_mem _ (List.mem_cons_self)))))))))⟩
    · exact Or.inl (List.mem_cons_self)
  · refine ⟨breakso15, breaksN15, fun o ho => ?_⟩
    have ho : o ∈ ([(true, breaks_c2), (false, breaks_out)] : List (Bool × wE)) := ho
    simp only [List.mem_cons, List.not_mem_nil, or_false] at ho
    rcases ho with rfl | rfl
    · exact Or.inr ⟨rfl, List.mem_cons_of_mem _ (List.mem_cons_of_mem _ (List.mem_cons_of_mem _ (List.mem_cons_of_mem _ (List.mem_cons_of_mem _ (List.mem_cons_of_mem _ (List.mem_cons_of_mem _ (List.mem_cons_of_mem _ (List.mem_cons_of_mem _ (List.mem_cons_of_mem _ (List.mem_cons_self))))))))))⟩
    · exact Or.inl (List.mem_cons_self)
  · refine ⟨breakso21, breaksN21, fun o ho => ?_⟩
    have ho : o ∈ ([(true, breaks_c3), (false, breaks_out)] : List (Bool × wE)) := ho
    simp only [List.mem_cons, List.not_mem_nil, or_false] at ho
    rcases ho with rfl | rfl
    · exact Or.inr ⟨rfl, List.mem_cons_of_mem _ (List.mem_cons_of_mem _ (List.mem_cons_of_mem _ (List.mem_cons_of_mem _ (List.mem_cons_of_mem _ (List.mem_cons_of_mem _ (List.mem_cons_of_mem _ (List.mem_cons_of_mem _ (List.mem_cons_of_mem _ (List.mem_cons_of_mem _ (List.mem_cons_of_mem _ (List.mem_cons_self)))))))))))⟩
    · exact Or.inl (List.mem_cons_self)
  · refine ⟨breakso27, breaksN27, fun o ho => ?_⟩
    have ho : o ∈ ([(true, breaks_c4), (false, breaks_out)] : List (Bool × wE)) := ho
    simp only [List.mem_cons, List.not_mem_nil, or_false] at ho
    rcases ho with rfl | rfl
    · exact Or.inr ⟨rfl, List.mem_cons_of_mem _ (List.mem_cons_of_mem _ (List.mem_cons_of_mem _ (List.mem_cons_of_mem _ (List.mem_cons_of_mem _ (List.mem_cons_of_mem _ (List.mem_cons_of_mem _ (List.mem_cons_of_mem _ (List.mem_cons_of_mem _ (List.mem_cons_of_mem _ (List.mem_cons_of_mem _ (List.mem_cons_of_mem _ (List.mem_cons_self))))))))))))⟩
    · exact Or.inl (List.mem_cons_self)
  · refine ⟨breakso33, breaksN33, fun o ho => ?_⟩
    have ho : o ∈ ([(true, breaks_c5), (false, breaks_out)] : List (Bool × wE)) := ho
    simp only [List.mem_cons, List.not_mem_nil, or_false] at ho
    rcases ho with rfl | rfl
    · exact Or.inr ⟨rfl, List.mem_cons_of_mem _ (List.mem_cons_of_mem _ (List.mem_cons_of_mem _ (List.mem_cons_of_mem _ (List.mem_cons_of_mem _ (List.mem_cons_of_mem _ (List.mem_cons_of_mem _ (List.mem_cons_of_mem _ (List.mem_cons_of_mem _ (List.mem_cons_of_mem _ (List.mem_cons_of_mem _ (List.mem_cons_of_mem _ (List.mem_cons_of_mem _ (List.mem_cons_self)))))))))))))⟩
    · exact Or.inl (List.mem_cons_self)
  · refine ⟨breakso2, breaksN2, fun o ho => ?_⟩
    have ho : o ∈ ([(true, breaks_c0_x0), (true, breaks_c0_x1), (true, breaks_c0_x2), (true, breaks_c0_x3)] : List (Bool × wE)) := ho
    simp only [List.mem_cons, List.not_mem_nil, or_false] at ho
    rcases ho with rfl | rfl | rfl | rfl
    · exact Or.inr ⟨rfl, List.mem_cons_of_mem _ (List.mem_cons_of_mem _ (List.mem_cons_of_mem _ (List.mem_cons_of_mem _ (List.mem_cons_of_mem _ (List.mem_cons_of_mem _ (List.mem_cons_of_mem _ (List.mem_cons_of_mem _ (List.mem_cons_of_mem _ (List.mem_cons_of_mem _ (List.mem_cons_of_mem _ (List.mem_cons_of_mem _ (List.mem_cons_of_mem _ (List.mem_cons_of_mem _ (List.mem_cons_self))))))))))))))⟩
    · exact Or.inr ⟨rfl, List.mem_cons_of_mem _ (List.mem_cons_of_mem _ (List.mem_cons_of_mem _ (List.mem_cons_of_mem _ (List.mem_cons_of_mem _ (List.mem_cons_of_mem _ (List.mem_cons_of_mem _ (List.mem_cons_of_mem _ (List.mem_cons_of_mem _ (List.mem_cons_of_mem _ (List.mem_cons_of_mem _ (List.mem_cons_of_mem _ (List.mem_cons_of_mem _ (List.mem_cons_of_mem _ (List.mem_cons_of_mem _ (List.mem_cons_self)))))))))))))))⟩
    · exact Or.inr ⟨rfl, List.mem_cons_of_mem _ (List.mem_cons_of_mem _ (List.mem_cons_of_mem _ (List.mem_cons_of_mem _ (List.mem_cons_of_mem _ (List.mem_cons_of_mem _ (List.mem_cons_of_mem _ (List.mem_cons_of_mem _ (List.mem_cons_of_mem _ (List.mem_cons_of_mem _ (List.mem_cons_of_mem _ (List.mem_cons_of_mem _ (List.mem_cons_of_mem _ (List.mem_cons_of_mem _ (List.mem_cons_of_mem _ (List.mem_cons_of_mem _ (List.mem_cons_self))))))))))))))))⟩
    · exact Or.inr ⟨rfl, List.mem_cons_of_mem _ (List.mem_cons_of_mem _ (List.mem_cons_of_mem _ (List.mem_cons_of_mem _ (List.mem_cons_of_mem _ (List.mem_cons_of_mem _ (List.mem_cons_of_mem _ (List.mem_cons_of_mem _ (List.mem_cons_of_mem _ (List.mem_cons_of_mem _ (List.mem_cons_of_mem _ (List.mem_cons_of_mem _ (List.mem_cons_of_mem _ (List.mem_cons_of_mem _ (List.mem_cons_of_mem _ (List.mem_cons_of_mem _ (List.mem_cons_of_mem _ (List.mem_cons_self)))))))))))))))))⟩
  · refine ⟨breakso8, breaksN8, fun o ho => ?_⟩
    have ho : o ∈ ([(true, breaks_c1_x0), (true, breaks_c1_x1), (true, breaks_c1_x2), (true, breaks_c1_x3)] : List (Bool × wE)) := ho
    simp only [List.mem_cons, List.not_mem_nil, or_false] at ho
    rcases ho with rfl | rfl | rfl | rfl
    · exact Or.inr ⟨rfl, List.mem_cons_of_mem _ (List.mem_cons_of_mem _ (List.mem_cons_of_mem _ (List.mem_cons_of_mem _ (List.mem_cons_of_mem _ (List.mem_cons_of_mem _ (List.mem_cons_of_mem _ (List.mem_cons_of_mem _ (List.mem_cons_of_mem _ (List.mem_cons_of_mem _ (List.mem_cons_of_mem _ (List.mem_cons_of_mem _ (List.mem_cons_of_mem _ (List.mem_cons_of_mem _ (List.mem_cons_of_mem _ (List.mem_cons_of_mem _ (List.mem_cons_of_mem _ (List.mem_cons_of_mem _ (List.mem_cons_self))))))))))))))))))⟩
    · exact Or.inr ⟨rfl, List.mem_cons_of_mem _ (List.mem_cons_of_mem _ (List.mem_cons_of_mem _ (List.mem_cons_of_mem _ (List.mem_cons_of_mem _ (List.mem_cons_of_mem _ (List.mem_cons_of_mem _ (List.mem_cons_of_mem _ (List.mem_cons_of_mem _ (List.mem_cons_of_mem _ (List.mem_cons_of_mem _ (List.mem_cons_of_mem _ (List.mem_cons_of_mem _ (List.mem_cons_of_mem _ (List.mem_cons_of_mem _ (List.mem_cons_of_mem _ (List.mem_cons_of_mem _ (List.mem_cons_of_mem _ (List.mem_cons_of_mem _ (List.mem_cons_self)))))))))))))))))))⟩
    · exact Or.inr ⟨rfl, List.mem_cons_of_mem _ (List.mem_cons_of_mem _ (List.mem_cons_of_mem _ (List.mem_cons_of_mem _ (List.mem_cons_of_mem _ (List.mem_cons_of_mem _ (List.mem_cons_of_mem _ (List.mem_cons_of_mem _ (List.mem_cons_of_mem _ (List.mem_cons_of_mem _ (List.mem_cons_of_mem _ (List.mem_cons_of_mem _ (List.mem_cons_of_mem _ (List.mem_cons_of_mem _ (List.mem_cons_of_mem _ (List.mem_cons_of_mem _ (List.mem_cons_of_mem _ (List.mem_cons_of_mem _ (List.mem_cons_of_mem _ (List.mem_cons_of_mem _ (List.mem_cons_self))))))))))))))))))))⟩
    · exact Or.inr ⟨rfl, List.mem_cons_of_mem _ (List.mem_cons_of_mem _ (List.mem_cons_of_mem _ (List.mem_cons_of_mem _ (List.mem_cons_of_mem _ (List.mem_cons_of_mem _ (List.mem_cons_of_mem _ (List.mem_cons_of_mem _ (List.mem_cons_of_mem _ (List.mem_cons_of_mem _ (List.mem_cons_of_mem _ (List.mem_cons_of_mem _ (List.mem_cons_of_mem _ (List.mem_cons_of_mem _ (List.mem_cons_of_mem _ (List.mem_cons_of_mem _ (List.mem_cons_of_mem _ (List.mem_cons_of_mem _ (List.mem_cons_of_mem _ (List.mem_cons_of_mem _ (List.mem_cons_of_mem _ (List.mem_cons_self)))))))))))))))))))))⟩
  · refine ⟨breakso14, breaksN14, fun o ho => ?_⟩
    have ho : o ∈ ([(true, breaks_c2_x0), (true, breaks_c2_x1), (true, breaks_c2_x2), (true, breaks_c2_x3)] : List (Bool × wE)) := ho
    simp only [List.mem_cons, List.not_mem_nil, or_false] at ho
    rcases ho with rfl | rfl | rfl | rfl
    · exact Or.inr ⟨rfl, List.mem_cons_of_mem _ (List.mem_cons_of_mem _ (List.mem_cons_of_mem _ (List.mem_cons_of_mem _ (List.mem_cons_of_mem _ (List.mem_cons_of_mem _ (List.mem_cons_of_mem _ (List.mem_cons_of_mem _ (List.mem_cons_of_mem _ (List.mem_cons_of_mem _ (List.mem_cons_of_mem _ (List.mem_cons_of_mem _ (List.mem_cons_of_mem _ (List.mem_cons_of_mem _ (List.mem_cons_of_mem _ (List.mem_cons_of_mem _ (List.mem_cons_of_mem _ (List.mem_cons_of_mem _ (List.mem_cons_of_mem _ (List.mem_cons_of_mem _ (List.mem_cons_of_mem _ (List.mem_cons_of_mem _ (List.mem_cons_self))))))))))))))))))))))⟩
    · exact Or.inr ⟨rfl, List.mem_cons_of_mem _ (List.mem_cons_of_mem _ (List.mem_cons_of_mem _ (List.mem_cons_of_mem _ (List.mem_cons_of_mem _ (List.mem_cons_of_mem _ (List.mem_cons_of_mem _ (List.mem_cons_of_mem _ (List.mem_cons_of_mem _ (List.mem_cons_of_mem _ (List.mem_cons_of_mem _ (List.mem_cons_of_mem _ (List.mem_cons_of_mem _ (List.mem_cons_of_mem _ (List.mem_cons_of_mem _ (List.mem_cons_of_mem _ (List.mem_cons_of_mem _ (List.mem_cons_of_mem _ (List.mem_cons_of_mem _ (List.mem_cons_of_mem _ (List.mem_cons_of_mem _ (List.mem_cons_of_mem _ (List.mem_cons_of_mem _ (List.mem_cons_self)))))))))))))))))))))))⟩
    · exact Or.inr ⟨rfl, List.mem_cons_of_mem _ (List.mem_cons_of_mem _ (List.mem_cons_of_mem _ (List.mem_cons_of_mem _ (List.mem_cons_of_mem _ (List.mem_cons_of_mem _ (List.mem_cons_of_mem _ (List.mem_cons_of_mem _ (List.mem_cons_of_mem _ (List.mem_cons_of_mem _ (List.mem_cons_of_mem _ (List.mem_cons_of_mem _ (List.mem_cons_of_mem _ (List.mem_cons_of_mem _ (List.mem_cons_of_mem _ (List.mem_cons_of_mem _ (List.mem_cons_of_mem _ (List.mem_cons_of_mem _ (List.mem_cons_of_mem _ (List.mem_cons_of_mem _ (List.mem_cons_of_mem _ (List.mem_cons_of_mem _ (List.mem_cons_of_mem _ (List.mem_cons_of_mem _ (List.mem_cons_self))))))))))))))))))))))))⟩
    · exact Or.inr ⟨rfl, List.mem_cons_of_mem _ (List.mem_cons_of_mem _ (List.mem_cons_of_mem _ (List.mem_cons_of_mem _ (List.mem_cons_of_mem _ (List.mem_cons_of_mem _ (List.mem_cons_of_mem _ (List.mem_cons_of_mem _ (List.mem_cons_of_mem _ (List.mem_cons_of_mem _ (List.mem_cons_of_mem _ (List.mem_cons_of_mem _ (List.mem_cons_of_mem _ (List.mem_cons_of_mem _ (List.mem_cons_of_mem _ (List.mem_cons_of_mem _ (List.mem_cons_of_mem _ (List.mem_cons_of_mem _ (List.mem_cons_of_mem _ (List.mem_cons_of_mem _ (List.mem_cons_of_mem _ (List.mem_cons_of_mem _ (List.mem_cons_of_mem _ (List.mem_cons_of_mem _ (List.mem_cons_of_mem _ (List.mem_cons_self)))))))))))))))))))))))))⟩
  · refine ⟨breakso20, breaksN20, fun o ho => ?_⟩
    have ho : o ∈ ([(true, breaks_c3_x0), (true, breaks_c3_x1), (true, breaks_c3_x2), (true, breaks_c3_x3)] : List (Bool × wE)) := ho
    simp only [List.mem_cons, List.not_mem_nil, or_false] at ho
    rcases ho with rfl | rfl | rfl | rfl
    · exact Or.inr ⟨rfl, List.mem_cons_of_mem _ (List.mem_cons_of_mem _ (List.mem_cons_of_mem _ (List.mem_cons_of_mem _ (List.mem_cons_of_mem _ (List.mem_cons_of_mem _ (List.mem_cons_of_mem _ (List.mem_cons_of_mem _ (List.mem_cons_of_mem _ (List.mem_cons_of_mem _ (List.mem_cons_of_mem _ (List.mem_cons_of_mem _ (List.mem_cons_of_mem _ (List.mem_cons_of_mem _ (List.mem_cons_of_mem _ (List.mem_cons_of_mem _ (List.mem_cons_of_mem _ (List.mem_cons_of_mem _ (List.mem_cons_of_mem _ (List.mem_cons_of_mem _ (List.mem_cons_of_mem _ (List.mem_cons_of_mem _ (List.mem_cons_of_mem _ (List.mem_cons_of_mem _ (List.mem_cons_of_mem _ (List.mem_cons_of_mem _ (List.mem_cons_self))))))))))))))))))))))))))⟩
    · exact Or.inr ⟨rfl, List.mem_cons_of_mem _ (List.mem_cons_of_mem _ (List.mem_cons_of_mem _ (List.mem_cons_of_mem _ (List.mem_cons_of_mem _ (List.mem_cons_of_mem _ (List.mem_cons_of_mem _ (List.mem_cons_of_mem _ (List.mem_cons_of_mem _ (List.mem_cons_of_mem _ (List.mem_cons_of_mem _ (List.mem_cons_of_mem _ (List.mem_cons_of_mem _ (List.mem_cons_of_mem _ (List.mem_cons_of_mem _ (List.mem_cons_of_mem _ (List.mem_cons_of_mem _ (List.mem_cons_of_mem _ (List.mem_cons_of_mem _ (List.mem_cons_of_mem _ (List.mem_cons_of_mem _ (List.mem_cons_of_mem _ (List.mem_cons_of_mem _ (List.mem_cons_of_mem _ (List.mem_cons_of_mem _ (List.mem_cons_of_mem _ (List.mem_cons_of_mem _ (List.mem_cons_self)))))))))))))))))))))))))))⟩
    · exact Or.inr ⟨rfl, List.mem_cons_of_mem _ (List.mem_cons_of_mem _ (List.mem_cons_of_mem _ (List.mem_cons_of_mem _ (List.mem_cons_of_mem _ (List.mem_cons_of_mem _ (List.mem_cons_of_mem _ (List.mem_cons_of_mem _ (List.mem_cons_of_mem _ (List.mem_cons_of_mem _ (List.mem_cons_of_mem _ (List.mem_cons_of_mem _ (List.mem_cons_of_mem _ (List.mem_cons_of_mem _ (List.mem_cons_of_mem _ (List.mem_cons_of_mem _ (List.mem_cons_of_mem _ (List.mem_cons_of_mem _ (List.mem_cons_of_mem _ (List.mem_cons_of_mem _ (List.mem_cons_of_mem _ (List.mem_cons_of_mem _ (List.mem_cons_of_mem _ (List.mem_cons_of_mem _ (List.mem_cons_of_mem _ (List.mem_cons_of_mem _ (List.mem_cons_of_mem _ (List.mem_cons_of_mem _ (List.mem_cons_self))))))))))))))))))))))))))))⟩
    · exact Or.inr ⟨rfl, List.mem_cons_of_mem _ (List.mem_cons_of_mem _ (List.mem_cons_of_mem _ (List.mem_cons_of_mem _ (List.mem_cons_of_mem _ (List.mem_cons_of_mem _ (List.mem_cons_of_mem _ (List.mem_cons_of_mem _ (List.mem_cons_of_mem _ (List.mem_cons_of_mem _ (List.mem_cons_of_mem _ (List.mem_cons_of_mem _ (List.mem_cons_of_mem _ (List.mem_cons_of_mem _ (List.mem_cons_of_mem _ (List.mem_cons_of_mem _ (List.mem_cons_of_mem _ (List.mem_cons_of_mem _ (List.mem_cons_of_mem _ (List.mem_cons_of_mem _ (List.mem_cons_of_mem _ (List.mem_cons_of_mem _ (List.mem_cons_of_mem _ (List.mem_cons_of_mem _ (List.mem_cons_of_mem _ (List.mem_cons_of_mem _ (List.mem_cons_of_mem _ (List.mem_cons_of_mem _ (List.mem_cons_of_mem _ (List.mem_cons_self)))))))))))))))))))))))))))))⟩
  · refine ⟨breakso26, breaksN26, fun o ho => ?_⟩
    have ho : o ∈ ([(true, breaks_c4_x0), (true, breaks_c4_x1), (true, breaks_c4_x2), (true, breaks_c4_x3)] : List (Bool × wE)) := ho
    simp only [List.mem_cons, List.not_mem_nil, or_false] at ho
    rcases ho with rfl | rfl | rfl | rfl
    · exact Or.inr ⟨rfl, List.mem_cons_of_mem _ (List.mem_cons_of_mem _ (List.mem_cons_of_mem _ (List.mem_cons_of_mem _ (List.mem_cons_of_mem _ (List.mem_cons_of_mem _ (List.mem_cons_of_mem _ (List.mem_cons_of_mem _ (List.mem_cons_of_mem _ (List.mem_cons_of_mem _ (List.mem_cons_of_mem _ (List.mem_cons_of_mem _ (List.mem_cons_of_mem _ (List.mem_cons_of_mem _ (List.mem_cons_of_mem _ (List.mem_cons_of_mem _ (List.mem_cons_of_mem _ (List.mem_cons_of_mem _ (List.mem_cons_of_mem _ (List.mem_cons_of_mem _ (List.mem_cons_of_mem _ (List.mem_cons_of_mem _ (List.mem_cons_of_mem _ (List.mem_cons_of_mem _ (List.mem_cons_of_mem _ (List.mem_cons_of_mem _ (List.mem_cons_of_mem _ (List.mem_cons_of_mem _ (List.mem_cons_of_mem _ (List.mem_cons_of_mem _ (List.mem_cons_self))))))))))))))))))))))))))))))⟩
    · exact Or.inr ⟨rfl, List.mem_cons_of_mem _ (List.mem_cons_of_mem _ (List.mem_cons_of_mem _ (List.mem_cons_of_mem _ (List.mem_cons_of_mem _ (List.mem_cons_of_mem _ (List.mem_cons_of_mem _ (List.mem_cons_of_mem _ (List.mem_cons_of_mem _ (List.mem_cons_of_mem _ (List.mem_cons_of_mem _ (List.mem_cons_of_mem _ (List.mem_cons_of_mem _ (List.mem_cons_of_mem _ (List.mem_cons_of_mem _ (List.mem_cons_of_mem _ (List.mem_cons_of_mem _ (List.mem_cons_of_mem _ (List.mem_cons_of_mem _ (List.mem_cons_of_mem _ (List.mem_cons_of_mem _ (List.mem_cons_of_mem _ (List.mem_cons_of_mem _ (List.mem_cons_of_mem _ (List.mem_cons_of_mem _ (List.mem_cons_of_mem _ (List.mem_cons_of_mem _ (List.mem_cons_of_mem _ (List.mem_cons_of_mem _ (List.mem_cons_of_mem _ (List.mem_cons_of_mem _ (List.mem_cons_self)))))))))))))))))))))))))))))))⟩
    · exact Or.inr ⟨rfl, List.mem_cons_of_mem _ (List.mem_cons_of_mem _ (List.mem_cons_of_mem _ (List.mem_cons_of_mem _ (List.mem_cons_of_mem _ (List.mem_cons_of_mem _ (List.mem_cons_of_mem _ (List.mem_cons_of_mem _ (List.mem_cons_of_mem _ (List.mem_cons_of_mem _ (List.mem_cons_of_mem _ (List.mem_cons_of_mem _ (List.mem_cons_of_mem _ (List.mem_cons_of_mem _ (List.mem_cons_of_mem _ (List.mem_cons_of_mem _ (List.mem_cons_of_mem _ (List.mem_cons_of_mem _ (List.mem_cons_of_mem _ (List.mem_cons_of_mem _ (List.mem_cons_of_mem _ (List.mem_cons_of_mem _ (List.mem_cons_of_mem _ (List.mem_cons_of_mem _ (List.mem_cons_of_mem _ (List.mem_cons_of_mem _ (List.mem_cons_of_mem _ (List.mem_cons_of_mem _ (List.mem_cons_of_mem _ (List.mem_cons_of_mem _ (List.mem_cons_of_mem _ (List.mem_cons_of_mem _ (List.mem_cons_self))))))))))))))))))))))))))))))))⟩
    · exact Or.inr ⟨rfl, List.mem_cons_of_mem _ (List.mem_cons_of_mem _ (List.mem_cons_of_mem _ (List.mem_cons_of_mem _ (List.mem_cons_of_mem _ (List.mem_cons_of_mem _ (List.mem_cons_of_mem _ (List.mem_cons_of_mem _ (List.mem_cons_of_mem _ (List.mem_cons_of_mem _ (List.mem_cons_of_mem _ (List.mem_cons_of_mem _ (List.mem_cons_of_mem _ (List.mem_cons_of_mem _ (List.mem_cons_of_mem _ (List.mem_cons_of_mem _ (List.mem_cons_of_mem _ (List.mem_cons_of_mem _ (List.mem_cons_of_mem _ (List.mem_cons_of_mem _ (List.mem_cons_of_mem _ (List.mem_cons_of_mem _ (List.mem_cons_of_mem _ (List.mem_cons_of_mem _ (List.mem_cons_of_mem _ (List.mem_cons_of_mem _ (List.mem_cons_of_mem _ (List.mem_cons_of_mem _ (List.mem_cons_of_mem _ (List.mem_cons_of_mem _ (List.mem_cons_of_mem _ (List.mem_cons_of_mem _ (List.mem_cons_of_mem _ (List.mem_cons_self)))))))))))))))))))))))))))))))))⟩
  · refine ⟨breakso32, breaksN32, fun o ho => ?_⟩
    have ho : o ∈ ([(true, breaks_c5_x0), (true, breaks_c5_x1), (true, breaks_c5_x2), (true, breaks_c5_x3)] : List (Bool × wE)) := ho
    simp only [List.mem_cons, List.not_mem_nil, or_false] at ho
    rcases ho with rfl | rfl | rfl | rfl
    · exact Or.inr ⟨rfl, List.mem_cons_of_mem _ (List.mem_cons_of_mem _ (List.mem_cons_of_mem _ (List.mem_cons_of_mem _ (List.mem_cons_of_mem _ (List.mem_cons_of_mem _ (List.mem_cons_of_mem _ (List.mem_cons_of_mem _ (List.mem_cons_of_mem _ (List.mem_cons_of_mem _ (List.mem_cons_of_mem _ (List.mem_cons_of_mem _ (List.mem_cons_of_mem _ (List.mem_cons_of_mem _ (List.mem_cons_of_mem _ (List.mem_cons_of_mem _ (List.mem_cons_of_mem _ (List.mem_cons_of_mem _ (List.mem_cons_of_mem _ (List.mem_cons_of_mem _ (List.mem_cons_of_mem _ (List.mem_cons_of_mem _ (List.mem_cons_of_mem _ (List.mem_cons_of_mem _ (List.mem_cons_of_mem _ (List.mem_cons_of_mem _ (List.mem_cons_of_mem _ (List.mem_cons_of_mem _ (List.mem_cons_of_mem _ (List.mem_cons_of_mem _ (List.mem_cons_of_mem _ (List.mem_cons_of_mem _ (List.mem_cons_of_mem _ (List.mem_cons_of_mem _ (List.mem_cons_self))))))))))))))))))))))))))))))))))⟩
    · exact Or.inr ⟨rfl, List.mem_cons_of_mem _ (List.mem_cons_of_mem _ (List.mem_cons_of_mem _ (List.mem_cons_of_mem _ (List.mem_cons_of_mem _ (List.mem_cons_of_mem _ (List.mem_cons_of_mem _ (List.mem_cons_of_mem _ (List.mem_cons_of_mem _ (List.mem_cons_of_mem _ (List.mem_cons_of_mem _ (List.mem_cons_of_mem _ (List.mem_cons_of_mem _ (List.mem_cons_of_mem _ (List.mem_cons_of_mem _ (List.mem_cons_of_mem _ (List.mem_cons_of_mem _ (List.mem_cons_of_mem _ (List.mem_cons_of_mem _ (List.mem_cons_of_mem _ (List.mem_cons_of_mem _ (List.mem_cons_of_mem _ (List.mem_cons_of_mem _ (List.mem_cons_of_mem _ (List.mem_cons_of_mem _ (List.mem_cons_of_mem _ (List.mem_cons_of_mem _ (List.mem_cons_of_mem _ (List.mem_cons_of_mem _ (List.mem_cons_of_mem _ (List.mem_cons_of_mem _ (List.mem_cons_of_mem _ (List.mem_cons_of_mem _ (List.mem_cons_of_mem _ (List.mem_cons_of_mem _ (List.mem_cons_self)))))))))))))))))))))))))))))))))))⟩
    · exact Or.inr ⟨rfl, List.mem_cons_of_mem _ (List.mem_cons_of_mem _ (List.mem_cons_of_mem _ (List.mem_cons_of_mem _ (List.mem_cons_of_mem _ (List.mem_cons_of_mem _ (List.mem_cons_of_mem _ (List.mem_cons_of_mem _ (List.mem_cons_of_mem _ (List.mem_cons_of_mem _ (List.mem_cons_of_mem _ (List.mem_cons_of_mem _ (List.mem_cons_of_mem _ (List.mem_cons_of_mem _ (List.mem_cons_of_mem _ (List.mem_cons_of_mem _ (List.mem_cons_of_mem _ (List.mem_cons_of_mem _ (List.mem_cons_of_mem _ (List.mem_cons_of_mem _ (List.mem_cons_of_mem _ (List.mem_cons_of_mem _ (List.mem_cons_of_mem _ (List.mem_cons_of_mem _ (List.mem_cons_of_mem _ (List.mem_cons_of_mem _ (List.mem_cons_of_mem _ (List.mem_cons_of_mem _ (List.mem_cons_of_mem _ (List.mem_cons_of_mem _ (List.mem_cons_of_mem _ (List.mem_cons_of_mem _ (List.mem_cons_of_mem _ (List.mem_cons_of_mem _ (List.mem_cons_of_mem _ (List.mem_cons_of_mem _ (List.mem_cons_self))))))))))))))))))))))))))))))))))))⟩
    · exact Or.inr ⟨rfl, List.mem_cons_of_mem _ (List.mem_cons_of_mem _ (List.mem_cons_of_mem _ (List.mem_cons_of_mem _ (List.mem_cons_of_mem _ (List.mem_cons_of_mem _ (List.mem_cons_of_mem _ (List.mem_cons_of_mem _ (List.mem_cons_of_mem _ (List.mem_cons_of_mem _ (List.mem_cons_of_mem _ (List.mem_cons_of_mem _ (List.mem_cons_of_mem _ (List.mem_cons_of_mem _ (List.mem_cons_of_mem _ (List.mem_cons_of_mem _ (List.mem_cons_of_mem _ (List.mem_cons_of_mem _ (List.mem_cons_of_mem _ (List.mem_cons_of_mem _ (List.mem_cons_of_mem _ (List.mem_cons_of_mem _ (List.mem_cons_of_mem _ (List.mem_cons_of_mem _ (List.mem_cons_of_mem _ (List.mem_cons_of_mem _ (List.mem_cons_of_mem _ (List.mem_cons_of_mem _ (List.mem_cons_of_mem _ (List.mem_cons_of_mem _ (List.mem_cons_of_mem _ (List.mem_cons_of_mem _ (List.mem_cons_of_mem _ (List.mem_cons_of_mem _ (List.mem_cons_of_mem _ (List.mem_cons_of_mem _ (List.mem_cons_of_mem _ (List.mem_cons_self)))))))))))))))))))))))))))))))))))))⟩
  · refine ⟨breakso4, breaksN4, fun o ho => ?_⟩
    have ho : o ∈ ([(true, breaks_L0)] : List (Bool × wE)) := ho
    simp only [List.mem_cons, List.not_mem_nil, or_false] at ho
    rcases ho with rfl
    · exact Or.inr ⟨rfl, List.mem_cons_of_mem _ (List.mem_cons_of_mem _ (List.mem_cons_self))⟩
  · refine ⟨breakso5, breaksN5, fun o ho => ?_⟩
    have ho : o ∈ ([(true, breaks_L0)] : List (Bool × wE)) := ho
    simp only [List.mem_cons, List.not_mem_nil, or_false] at ho
    rcases ho with rfl
    · exact Or.inr ⟨rfl, List.mem_cons_of_mem _ (List.mem_cons_of_mem _ (List.mem_cons_self))⟩
  · refine ⟨breakso6, breaksN6, fun o ho => ?_⟩
    have ho : o ∈ ([(true, breaks_L0)] : List (Bool × wE)) := ho
    simp only [List.mem_cons, List.not_mem_nil, or_false] at ho
    rcases ho with rfl
    · exact Or.inr ⟨rfl, List.mem_cons_of_mem _ (List.mem_cons_of_mem _ (List.mem_cons_self))⟩
  · refine ⟨breakso7, breaksN7, fun o ho => ?_⟩
    have ho : o ∈ ([(true, breaks_L0)] : List (Bool × wE)) := ho
    simp only [List.mem_cons, List.not_mem_nil, or_false] at ho
    rcases ho with rfl
    · exact Or.inr ⟨rfl, List.mem_cons_of_mem _ (List.mem_cons_of_mem _ (List.mem_cons_self))⟩
  · refine ⟨breakso10, breaksN10, fun o ho => ?_⟩
    have ho : o ∈ ([(true, breaks_L1)] : List (Bool × wE)) := ho
    simp only [List.mem_cons, List.not_mem_nil, or_false] at ho
    rcases ho with rfl
    · exact Or.inr ⟨rfl, List.mem_cons_of_mem _ (List.mem_cons_of_mem _ (List.mem_cons_of_mem _ (List.mem_cons_self)))⟩
  · refine ⟨breakso11, breaksN11, fun o ho => ?_⟩
    have ho : o ∈ ([(true, breaks_L1)] : List (Bool × wE)) := ho
    simp only [List.mem_cons, List.not_mem_nil, or_false] at ho
    rcases ho with rfl
    · exact Or.inr ⟨rfl, List.mem_cons_of_mem _ (List.mem_cons_of_mem _ (List.mem_cons_of_mem _ (List.mem_cons_self)))⟩
  · refine ⟨breakso12, breaksN12, fun o ho => ?_⟩
    have ho : o ∈ ([(true, breaks_L1)] : List (Bool × wE)) := ho
    simp only [List.mem_cons, List.not_mem_nil, or_false] at ho
    rcases ho with rfl
    · exact Or.inr ⟨rfl, List.mem_cons_of_mem _ (List.mem_cons_of_mem _ (List.mem_cons_of_mem _ (List.mem_cons_self)))⟩
  · refine ⟨breakso13, breaksN13, fun o ho => ?_⟩
    have ho : o ∈ ([(true, breaks_L1)] : List (Bool × wE)) := ho
    simp only [List.mem_cons, List.not_mem_nil, or_false] at ho
    rcases ho with rfl
    · exact Or.inr ⟨rfl, List.mem_cons_of_mem _ (List.mem_cons_of_mem _ (List.mem_cons_of_mem _ (List.mem_cons_self)))⟩
  · refine ⟨breakso16, breaksN16, fun o ho => ?_⟩
    have ho : o ∈ ([(true, breaks_L2)] : List (Bool × wE)) := ho
    simp only [List.mem_cons, List.not_mem_nil, or_false] at ho
    rcases ho with rfl
    · exact Or.inr ⟨rfl, List.mem_cons_of_mem _ (List.mem_cons_of_mem _ (List.mem_cons_of_mem _ (List.mem_cons_of_mem _ (List.mem_cons_self))))⟩
  · refine ⟨breakso17, breaksN17, fun o ho => ?_⟩
    have ho : o ∈ ([(true, breaks_L2)] : List (Bool × wE)) := ho
    simp only [List.mem_cons, List.not_mem_nil, or_false] at ho
    rcases ho with rfl
    · exact Or.inr ⟨rfl, List.mem_cons_of_mem _ (List.mem_cons_of_mem _ (List.mem_cons_of_mem _ (List.mem_cons_of_mem _ (List.mem_cons_self))))⟩
  · refine ⟨breakso18, breaksN18, fun o ho => ?_⟩
    have ho : o ∈ ([(true, breaks_L2)] : List (Bool × wE)) := ho
    simp only [List.mem_cons, List.not_mem_nil, or_false] at ho
    rcases ho with rfl
    · exact Or.inr ⟨rfl, List.mem_cons_of_mem _ (List.mem_cons_of_mem _ (List.mem_cons_of_mem _ (List.mem_cons_of_mem _ (List.mem_cons_self))))⟩
  · refine ⟨breakso19, breaksN19, fun o ho => ?_⟩
    have ho : o ∈ ([(true, breaks_L2)] : List (Bool × wE)) := ho
    simp only [List.mem_cons, List.not_mem_nil, or_false] at ho
    rcases ho with rfl
    · exact Or.inr ⟨rfl, List.mem_cons_of_mem _ (List.mem_cons_of_mem _ (List.mem_cons_of_mem _ (List.mem_cons_of_mem _ (List.mem_cons_self))))⟩
  · refine ⟨breakso22, breaksN22, fun o ho => ?_⟩
    have ho : o ∈ ([(true, breaks_L3)] : List (Bool × wE)) := ho
    simp only [List.mem_cons, List.not_mem_nil, or_false] at ho
    rcases ho with rfl
    · exact Or.inr ⟨rfl, List.mem_cons_of_mem _ (List.mem_cons_of_mem _ (List.mem_cons_of_mem _ (List.mem_cons_of_mem _ (List.mem_cons_of_mem _ (List.mem_cons_self)))))⟩
  · refine ⟨breakso23, breaksN23, fun o ho => ?_⟩
    have ho : o ∈ ([(true, breaks_L3)] : List (Bool × wE)) := ho
    simp only [List.mem_cons, List.not_mem_nil, or_false] at ho
    rcases ho with rfl
    · exact Or.inr ⟨rfl, List.mem_cons_of_mem _ (List.mem_cons_of_mem _ (List.mem_cons_of_mem _ (List.mem_cons_of_mem _ (List.mem_cons_of_mem _ (List.mem_cons_self)))))⟩
  · refine ⟨breakso24, breaksN24, fun o ho => ?_⟩
    have ho : o ∈ ([(true, breaks_L3)] : List (Bool × wE)) := ho
    simp only [List.mem_cons, List.not_mem_nil, or_false] at ho
    rcases ho with rfl
    · exact Or.inr ⟨rfl, List.mem_cons_of_mem _ (List.mem_cons_of_mem _ (List.mem_cons_of_mem _ (List.mem_cons_of_mem _ (List.mem_cons_of_mem _ (List.mem_cons_self)))))⟩
  · refine ⟨breakso25, breaksN25, fun o ho => ?_⟩
    have ho : o ∈ ([(true, breaks_L3)] : List (Bool × wE)) := ho
    simp only [List.mem_cons, List.not_mem_nil, or_false] at ho
    rcases ho with rfl
    · exact Or.inr ⟨rfl, List.mem_cons_of_mem _ (List.mem_cons_of_mem _ (List.mem_cons_of_mem _ (List.mem_cons_of_mem _ (List.mem_cons_of_mem _ (List.mem_cons_self)))))⟩
  · refine ⟨breakso28, breaksN28, fun o ho => ?_⟩
    have ho : o ∈ ([(true, breaks_L4)] : List (Bool × wE)) := ho
    simp only [List.mem_cons, List.not_mem_nil, or_false] at ho
    rcases ho with rfl
    · exact Or.inr ⟨rfl, List.mem_cons_of_mem _ (List.mem_cons_of_mem _ (List.mem_cons_of_mem _ (List.mem_cons_of_mem _ (List.mem_cons_of_mem _ (List.mem_cons_of_mem _ (List.mem_cons_self))))))⟩
  · refine ⟨breakso29, breaksN29, fun o ho => ?_⟩
    have ho : o ∈ ([(true, breaks_L4)] : List (Bool × wE)) := ho
    simp only [List.mem_cons, List.not_mem_nil, or_false] at ho
    rcases ho with rfl
    · exact Or.inr ⟨rfl, List.mem_cons_of_mem _ (List.mem_cons_of_mem _ (List.mem_cons_of_mem _ (List.mem_cons_of_mem _ (List.mem_cons_of_mem _ (List.mem_cons_of_mem _ (List.mem_cons_self))))))⟩
  · refine ⟨breakso30, breaksN30, fun o ho => ?_⟩
    have ho : o ∈ ([(true, breaks_L4)] : List (Bool × wE)) := ho
    simp only [List.mem_cons, List.not_mem_nil, or_false] at ho
    rcases ho with rfl
    · exact Or.inr ⟨rfl, List.mem_cons_of_mem _ (List.mem_cons_of_mem _ (List.mem_cons_of_mem _ (List.mem_cons_of_mem _ (List.mem_cons_of_mem _ (List.mem_cons_of_mem _ (List.mem_cons_self))))))⟩
  · refine ⟨breakso31, breaksN31, fun o ho => ?_⟩
    have ho : o ∈ ([(true, breaks_L4)] : List (Bool × wE)) := ho
    simp only [List.mem_cons, List.not_mem_nil, or_false] at ho
    rcases ho with rfl
    · exact Or.inr ⟨rfl, List.mem_cons_of_mem _ (List.mem_cons_of_mem _ (List.mem_cons_of_mem _ (List.mem_cons_of_mem _ (List.mem_cons_of_mem _ (List.mem_cons_of_mem _ (List.mem_cons_self))))))⟩
  · refine ⟨breakso34, breaksN34, fun o ho => ?_⟩
    have ho : o ∈ ([(true, breaks_L5)] : List (Bool × wE)) := ho
    simp only [List.mem_cons, List.not_mem_nil, or_false] at ho
    rcases ho with rfl
    · exact Or.inr ⟨rfl, List.mem_cons_of_mem _ (List.mem_cons_of_mem _ (List.mem_cons_of_mem _ (List.mem_cons_of_mem _ (List.mem_cons_of_mem _ (List.mem_cons_of_mem _ (List.mem_cons_of_mem _ (List.mem_cons_self)))))))⟩
  · refine ⟨breakso35, breaksN35, fun o ho => ?_⟩
    have ho : o ∈ ([(true, breaks_L5)] : List (Bool × wE)) := ho
    simp only [List.mem_cons, List.not_mem_nil, or_false] at ho
    rcases ho with rfl
    · exact Or.inr ⟨rfl, List.mem_cons_of_mem _ (List.mem_cons_of_mem _ (List.mem_cons_of_mem _ (List.mem_cons_of_mem _ (List.mem_cons_of_mem _ (List.mem_cons_of_mem _ (List.mem_cons_of_mem _ (List.mem_cons_self)))))))⟩
  · refine ⟨breakso36, breaksN36, fun o ho => ?_⟩
    have ho : o ∈ ([(true, breaks_L5)] : List (Bool × wE)) := ho
    simp only [List.mem_cons, List.not_mem_nil, or_false] at ho
    rcases ho with rfl
    · exact Or.inr ⟨rfl, List.mem_cons_of_mem _ (List.mem_cons_of_mem _ (List.mem_cons_of_mem _ (List.mem_cons_of_mem _ (List.mem_cons_of_mem _ (List.mem_cons_of_mem _ (List.mem_cons_of_mem _ (List.mem_cons_self)))))))⟩
  · refine ⟨breakso37, breaksN37, fun o ho => ?_⟩
    have ho : o ∈ ([(true, breaks_L5)] : List (Bool × wE)) := ho
    simp only [List.mem_cons, List.not_mem_nil, or_false] at ho
    rcases ho with rfl
    · exact Or.inr ⟨rfl, List.mem_cons_of_mem _ (List.mem_cons_of_mem _ (List.mem_cons_of_mem _ (List.mem_cons_of_mem _ (List.mem_cons_of_mem _ (List.mem_cons_of_mem _ (List.mem_cons_of_mem _ (List.mem_cons_self)))))))⟩)
theorem breaksH {xs : Nat → Int32} {n : Nat} {sf : Option Nat} : wGoes x_KT x_tb x_tyl (x_otS xs n sf) lwFS lwGA.length lwGB.length 5 24 42 breaksWA breaksWB 112 242 65 66 breaks_in (breaksOX.map (fun x => x.1)) :=
  wFSr (FS := lwFR) (nh := 29) (wFam (V := []) lwFRok (by decide +kernel) (by decide +kernel) (breaks_g0_G breaks_in List.mem_cons_self) (by decide) (by decide) (fun i hi u hu => by
  have hi : i ∈ ([] : List Nat) := hi
  simp only [List.mem_cons, List.not_mem_nil, or_false] at hi)) lwFRp (by decide) (by decide +kernel)
theorem breaksPP {xs : Nat → Int32} {n : Nat} {sf : Option Nat} : bPP x_KT x_tb x_tyl (x_otS xs n sf) lwN lwP 1299 112 242 5 (mMc xm112 + mMc xm242) (mRc xm112) (mRc xm242) True :=
  wBlk lwFok lwFB uKa uKb (by decide +kernel) (by decide +kernel) uKdj uKj breaksbc breaksH gq112 gq242 (by decide) (by decide) (uKeep (by decide +kernel)) (by decide +kernel) (by decide +kernel) (by decide +kernel)
theorem feedcn : ∀ ρ : Nat → Int, 0 ≤ ρ 1 → ρ 1 + 7 ≤ ρ 0 → ρ 0 ≤ 3584 → lEv ρ (aCn lwN) + ((mMc xm11 + mMc xm180 : Nat) : Int) ≤ ((mMc xm0 : Nat) : Int) ∧ lEv ρ (aSn lwN) + ((mMs xm11 + mMs xm180 : Nat) : Int) ≤ ((mMs xm0 : Nat) : Int) := fun ρ h1 h2 h3 => by
  have e1 : lEv ρ (aCn lwN) = 536 + 58 * ρ 1 := by
    show lEv ρ (lAdd (lK 536) (lSc 58 (lSy 1))) = _
    rw [lAdd_ev, lK_ev, lSc_ev, lSy_ev]
  have e2 : lEv ρ (aSn lwN) = 9690 + 229 * ρ 1 := by
    show lEv ρ (lAdd (lK 9690) (lSc 229 (lSy 1))) = _
    rw [lAdd_ev, lK_ev, lSc_ev, lSy_ev]
  have k : 536 + 58 * 3577 + (mMc xm11 + mMc xm180) ≤ mMc xm0 ∧ 9690 + 229 * 3577 + (mMs xm11 + mMs xm180) ≤ mMs xm0 := by decide +kernel
  rw [e1, e2]
  constructor <;> omega
theorem feedcd : ∀ ρ ρ2 : Nat → Int, ρ2 0 = ρ 0 → ρ2 1 = ρ 1 + 7 → lEv ρ (aCn lwN) + ((mMc xm11 + mMc xm180 : Nat) : Int) ≤ lEv ρ2 (aCn lwN) ∧ lEv ρ (aSn lwN) + ((mMs xm11 + mMs xm180 : Nat) : Int) ≤ lEv ρ2 (aSn lwN) := fun ρ ρ2 _ h => by
  have e1 : ∀ ρ : Nat → Int, lEv ρ (aCn lwN) = 536 + 58 * ρ 1 := fun ρ => by
    show lEv ρ (lAdd (lK 536) (lSc 58 (lSy 1))) = _
    rw [lAdd_ev, lK_ev, lSc_ev, lSy_ev]
  have e2 : ∀ ρ : Nat → Int, lEv ρ (aSn lwN) = 9690 + 229 * ρ 1 := fun ρ => by
    show lEv ρ (lAdd (lK 9690) (lSc 229 (lSy 1))) = _
    rw [lAdd_ev, lK_ev, lSc_ev, lSy_ev]
  have k : mMc xm11 + mMc xm180 ≤ 406 ∧ mMs xm11 + mMs xm180 ≤ 1603 := by decide +kernel
  rw [e1, e1, e2, e2, h]
  constructor <;> omega
theorem feed_blk {xs : Nat → Int32} {n : Nat} {sf : Option Nat} (hn : n ≤ 3584) : lwBk (x_otS xs n sf) 216 := fun ρ σ ty H Lc cn2 sn2 hat h0 h7 cont =>
  cBlkP (p1 := 227) (p2 := 242) (pi := 1906) (n := 2) (ixA := 13) (ixB := 17) (n1 := 1) (n2 := 3) (n3 := 1) (n4 := 1) (n5 := 3) (n6 := 1) (n7 := 3) (n8 := 3) (n9 := 3) (x6 := (1660)) (x7 := 7) (x8 := (-1891)) (dp := 1299) (hd := 18) (cmp := True) p_q0 rfl gq11 gq180 (show n < 1000000 by omega) (by decide) (by decide +kernel) (by decide +kernel) (by decide +kernel) (by decide +kernel) (by decide +kernel) (by decide +kernel) (by decide +kernel) (by decide +kernel) (by decide +kernel) (by decide +kernel) (by decide +kernel) (by decide +kernel) (by decide +kernel) (by decide +kernel) (by decide +kernel) (by decide +kernel) (by decide +kernel) rfl (by decide +kernel) rfl (by decide +kernel) feedcn (by decide +kernel) feedcd hn feedPP hat h0 h7 cont
theorem programcn : ∀ ρ : Nat → Int, 0 ≤ ρ 1 → ρ 1 + 7 ≤ ρ 0 → ρ 0 ≤ 3584 → lEv ρ (aCn lwN) + ((mMc xm13 + mMc xm182 : Nat) : Int) ≤ ((mMc xm0 : Nat) : Int) ∧ lEv ρ (aSn lwN) + ((mMs xm13 + mMs xm182 : Nat) : Int) ≤ ((mMs xm0 : Nat) : Int) := fun ρ h1 h2 h3 => by
  have e1 : lEv ρ (aCn lwN) = 536 + 58 * ρ 1 := by
    show lEv ρ (lAdd (lK 536) (lSc 58 (lSy 1))) = _
    rw [lAdd_ev, lK_ev, lSc_ev, lSy_ev]
  have e2 : lEv ρ (aSn lwN) = 9690 + 229 * ρ 1 := by
    show lEv ρ (lAdd (lK 9690) (lSc 229 (lSy 1))) = _
    rw [lAdd_ev, lK_ev, lSc_ev, lSy_ev]
  have k : 536 + 58 * 3577 + (mMc xm13 + mMc xm182) ≤ mMc xm0 ∧ 9690 + 229 * 3577 + (mMs xm13 + mMs xm182) ≤ mMs xm0 := by decide +kernel
  rw [e1, e2]
  constructor <;> omega
theorem programcd : ∀ ρ ρ2 : Nat → Int, ρ2 0 = ρ 0 → ρ2 1 = ρ 1 + 7 → lEv ρ (aCn lwN) + ((mMc xm13 + mMc xm182 : Nat) : Int) ≤ lEv ρ2 (aCn lwN) ∧ lEv ρ (aSn lwN) + ((mMs xm13 + mMs xm182 : Nat) : Int) ≤ lEv ρ2 (aSn lwN) := fun ρ ρ2 _ h => by
  have e1 : ∀ ρ : Nat → Int, lEv ρ (aCn lwN) = 536 + 58 * ρ 1 := fun ρ => by
    show lEv ρ (lAdd (lK 536) (lSc 58 (lSy 1))) = _
    rw [lAdd_ev, lK_ev, lSc_ev, lSy_ev]
  have e2 : ∀ ρ : Nat → Int, lEv ρ (aSn lwN) = 9690 + 229 * ρ 1 := fun ρ => by
    show lEv ρ (lAdd (lK 9690) (lSc 229 (lSy 1))) = _
    rw [lAdd_ev, lK_ev, lSc_ev, lSy_ev]
  have k : mMc xm13 + mMc xm182 ≤ 406 ∧ mMs xm13 + mMs xm182 ≤ 1603 := by decide +kernel
  rw [e1, e1, e2, e2, h]
  constructor <;> omega
theorem program_blk {xs : Nat → Int32} {n : Nat} {sf : Option Nat} (hsf : sf = none ∨ sf = some 1200000) (hn : n ≤ 3584) : lwBk (x_otS xs n sf) 249 := fun ρ σ ty H Lc cn2 sn2 hat h0 h7 cont =>
  cBlkP (p1 := 250) (p2 := 255) (pi := 1906) (n := 0) (ixA := 18) (ixB := 22) (n1 := 1) (n2 := 3) (n3 := 1) (n4 := 1) (n5 := 3) (n6 := 1) (n7 := 3) (n8 := 3) (n9 := 3) (x6 := (1647)) (x7 := 7) (x8 := (-1891)) (dp := 1299) (hd := 18) (cmp := True) p_q0 rfl gq13 gq182 (show n < 1000000 by omega) (by decide) (by decide +kernel) (by decide +kernel) (by decide +kernel) (by decide +kernel) (by decide +kernel) (by decide +kernel) (by decide +kernel) (by decide +kernel) (by decide +kernel) (by decide +kernel) (by decide +kernel) (by decide +kernel) (by decide +kernel) (by decide +kernel) (by decide +kernel) (by decide +kernel) (by decide +kernel) rfl (by decide +kernel) rfl (by decide +kernel) programcn (by decide +kernel) programcd hn (programPP hsf) hat h0 h7 cont
theorem setcn : ∀ ρ : Nat → Int, 0 ≤ ρ 1 → ρ 1 + 7 ≤ ρ 0 → ρ 0 ≤ 3584 → lEv ρ (aCn lwN) + ((mMc xm52 + mMc xm216 : Nat) : Int) ≤ ((mMc xm0 : Nat) : Int) ∧ lEv ρ (aSn lwN) + ((mMs xm52 + mMs xm216 : Nat) : Int) ≤ ((mMs xm0 : Nat) : Int) := fun ρ h1 h2 h3 => by
  have e1 : lEv ρ (aCn lwN) = 536 + 58 * ρ 1 := by
    show lEv ρ (lAdd (lK 536) (lSc 58 (lSy 1))) = _
    rw [lAdd_ev, lK_ev, lSc_ev, lSy_ev]
  have e2 : lEv ρ (aSn lwN) = 9690 + 229 * ρ 1 := by
    show lEv ρ (lAdd (lK 9690) (lSc 229 (lSy 1))) = _
    rw [lAdd_ev, lK_ev, lSc_ev, lSy_ev]
  have k : 536 + 58 * 3577 + (mMc xm52 + mMc xm216) ≤ mMc xm0 ∧ 9690 + 229 * 3577 + (mMs xm52 + mMs xm216) ≤ mMs xm0 := by decide +kernel
  rw [e1, e2]
  constructor <;> omega
theorem setcd : ∀ ρ ρ2 : Nat → Int, ρ2 0 = ρ 0 → ρ2 1 = ρ 1 + 7 → lEv ρ (aCn lwN) + ((mMc xm52 + mMc xm216 : Nat) : Int) ≤ lEv ρ2 (aCn lwN) ∧ lEv ρ (aSn lwN) + ((mMs xm52 + mMs xm216 : Nat) : Int) ≤ lEv ρ2 (aSn lwN) := fun ρ ρ2 _ h => by
  have e1 : ∀ ρ : Nat → Int, lEv ρ (aCn lwN) = 536 + 58 * ρ 1 := fun ρ => by
    show lEv ρ (lAdd (lK 536) (lSc 58 (lSy 1))) = _
    rw [lAdd_ev, lK_ev, lSc_ev, lSy_ev]
  have e2 : ∀ ρ : Nat → Int, lEv ρ (aSn lwN) = 9690 + 229 * ρ 1 := fun ρ => by
    show lEv ρ (lAdd (lK 9690) (lSc 229 (lSy 1))) = _
    rw [lAdd_ev, lK_ev, lSc_ev, lSy_ev]
  have k : mMc xm52 + mMc xm216 ≤ 406 ∧ mMs xm52 + mMs xm216 ≤ 1603 := by decide +kernel
  rw [e1, e1, e2, e2, h]
  constructor <;> omega
theorem set_blk {xs : Nat → Int32} {n : Nat} {sf : Option Nat} (hn : n ≤ 3584) : lwBk (x_otS xs n sf) 338 := fun ρ σ ty H Lc cn2 sn2 hat h0 h7 cont =>
  cBlkP (p1 := 354) (p2 := 374) (pi := 1906) (n := 3) (ixA := 32) (ixB := 35) (n1 := 1) (n2 := 3) (n3 := 1) (n4 := 1) (n5 := 3) (n6 := 1) (n7 := 3) (n8 := 3) (n9 := 3) (x6 := (1528)) (x7 := 7) (x8 := (-1891)) (dp := 1299) (hd := 18) (cmp := True) p_q0 rfl gq52 gq216 (show n < 1000000 by omega) (by decide) (by decide +kernel) (by decide +kernel) (by decide +kernel) (by decide +kernel) (by decide +kernel) (by decide +kernel) (by decide +kernel) (by decide +kernel) (by decide +kernel) (by decide +kernel) (by decide +kernel) (by decide +kernel) (by decide +kernel) (by decide +kernel) (by decide +kernel) (by decide +kernel) (by decide +kernel) rfl (by decide +kernel) rfl (by decide +kernel) setcn (by decide +kernel) setcd hn setPP hat h0 h7 cont
theorem inputcn : ∀ ρ : Nat → Int, 0 ≤ ρ 1 → ρ 1 + 7 ≤ ρ 0 → ρ 0 ≤ 3584 → lEv ρ (aCn lwN) + ((mMc xm53 + mMc xm217 : Nat) : Int) ≤ ((mMc xm0 : Nat) : Int) ∧ lEv ρ (aSn lwN) + ((mMs xm53 + mMs xm217 : Nat) : Int) ≤ ((mMs xm0 : Nat) : Int) := fun ρ h1 h2 h3 => by
  have e1 : lEv ρ (aCn lwN) = 536 + 58 * ρ 1 := by
    show lEv ρ (lAdd (lK 536) (lSc 58 (lSy 1))) = _
    rw [lAdd_ev, lK_ev, lSc_ev, lSy_ev]
  have e2 : lEv ρ (aSn lwN) = 9690 + 229 * ρ 1 := by
    show lEv ρ (lAdd (lK 9690) (lSc 229 (lSy 1))) = _
    rw [lAdd_ev, lK_ev, lSc_ev, lSy_ev]
  have k : 536 + 58 * 3577 + (mMc xm53 + mMc xm217) ≤ mMc xm0 ∧ 9690 + 229 * 3577 + (mMs xm53 + mMs xm217) ≤ mMs xm0 := by decide +kernel
  rw [e1, e2]
  constructor <;> omega
theorem inputcd : ∀ ρ ρ2 : Nat → Int, ρ2 0 = ρ 0 → ρ2 1 = ρ 1 + 7 → lEv ρ (aCn lwN) + ((mMc xm53 + mMc xm217 : Nat) : Int) ≤ lEv ρ2 (aCn lwN) ∧ lEv ρ (aSn lwN) + ((mMs xm53 + mMs xm217 : Nat) : Int) ≤ lEv ρ2 (aSn lwN) := fun ρ ρ2 _ h => by
  have e1 : ∀ ρ : Nat → Int, lEv ρ (aCn lwN) = 536 + 58 * ρ 1 := fun ρ => by
    show lEv ρ (lAdd (lK 536) (lSc 58 (lSy 1))) = _
    rw [lAdd_ev, lK_ev, lSc_ev, lSy_ev]
  have e2 : ∀ ρ : Nat → Int, lEv ρ (aSn lwN) = 9690 + 229 * ρ 1 := fun ρ => by
    show lEv ρ (lAdd (lK 9690) (lSc 229 (lSy 1))) = _
    rw [lAdd_ev, lK_ev, lSc_ev, lSy_ev]
  have k : mMc xm53 + mMc xm217 ≤ 406 ∧ mMs xm53 + mMs xm217 ≤ 1603 := by decide +kernel
  rw [e1, e1, e2, e2, h]
  constructor <;> omega
theorem input_blk {xs : Nat → Int32} {n : Nat} {sf : Option Nat} (hn : n ≤ 3584) : lwBk (x_otS xs n sf) 381 := fun ρ σ ty H Lc cn2 sn2 hat h0 h7 cont =>
  cBlkP (p1 := 392) (p2 := 407) (pi := 1906) (n := 2) (ixA := 36) (ixB := 39) (n1 := 1) (n2 := 3) (n3 := 1) (n4 := 1) (n5 := 3) (n6 := 1) (n7 := 3) (n8 := 3) (n9 := 3) (x6 := (1495)) (x7 := 7) (x8 := (-1891)) (dp := 1299) (hd := 18) (cmp := True) p_q0 rfl gq53 gq217 (show n < 1000000 by omega) (by decide) (by decide +kernel) (by decide +kernel) (by decide +kernel) (by decide +kernel) (by decide +kernel) (by decide +kernel) (by decide +kernel) (by decide +kernel) (by decide +kernel) (by decide +kernel) (by decide +kernel) (by decide +kernel) (by decide +kernel) (by decide +kernel) (by decide +kernel) (by decide +kernel) (by decide +kernel) rfl (by decide +kernel) rfl (by decide +kernel) inputcn (by decide +kernel) inputcd hn inputPP hat h0 h7 cont
theorem shelfcn : ∀ ρ : Nat → Int, 0 ≤ ρ 1 → ρ 1 + 7 ≤ ρ 0 → ρ 0 ≤ 3584 → lEv ρ (aCn lwN) + ((mMc xm54 + mMc xm218 : Nat) : Int) ≤ ((mMc xm0 : Nat) : Int) ∧ lEv ρ (aSn lwN) + ((mMs xm54 + mMs xm218 : Nat) : Int) ≤ ((mMs xm0 : Nat) : Int) := fun ρ h1 h2 h3 => by
  have e1 : lEv ρ (aCn lwN) = 536 + 58 * ρ 1 := by
    show lEv ρ (lAdd (lK 536) (lSc 58 (lSy 1))) = _
    rw [lAdd_ev, lK_ev, lSc_ev, lSy_ev]
  have e2 : lEv ρ (aSn lwN) = 9690 + 229 * ρ 1 := by
    show lEv ρ (lAdd (lK 9690) (lSc 229 (lSy 1))) = _
    rw [lAdd_ev, lK_ev, lSc_ev, lSy_ev]
  have k : 536 + 58 * 3577 + (mMc xm54 + mMc xm218) ≤ mMc xm0 ∧ 9690 + 229 * 3577 + (mMs xm54 + mMs xm218) ≤ mMs xm0 := by decide +kernel
  rw [e1, e2]
  constructor <;> omega
theorem shelfcd : ∀ ρ ρ2 : Nat → Int, ρ2 0 = ρ 0 → ρ2 1 = ρ 1 + 7 → lEv ρ (aCn lwN) + ((mMc xm54 + mMc xm218 : Nat) : Int) ≤ lEv ρ2 (aCn lwN) ∧ lEv ρ (aSn lwN) + ((mMs xm54 + mMs xm218 : Nat) : Int) ≤ lEv ρ2 (aSn lwN) := fun ρ ρ2 _ h => by
  have e1 : ∀ ρ : Nat → Int, lEv ρ (aCn lwN) = 536 + 58 * ρ 1 := fun ρ => by
    show lEv ρ (lAdd (lK 536) (lSc 58 (lSy 1))) = _
    rw [lAdd_ev, lK_ev, lSc_ev, lSy_ev]
  have e2 : ∀ ρ : Nat → Int, lEv ρ (aSn lwN) = 9690 + 229 * ρ 1 := fun ρ => by
    show lEv ρ (lAdd (lK 9690) (lSc 229 (lSy 1))) = _
    rw [lAdd_ev, lK_ev, lSc_ev, lSy_ev]
  have k : mMc xm54 + mMc xm218 ≤ 406 ∧ mMs xm54 + mMs xm218 ≤ 1603 := by decide +kernel
  rw [e1, e1, e2, e2, h]
  constructor <;> omega
theorem shelf_blk {xs : Nat → Int32} {n : Nat} {sf : Option Nat} (hn : n ≤ 3584) : lwBk (x_otS xs n sf) 414 := fun ρ σ ty H Lc cn2 sn2 hat h0 h7 cont =>
  cBlkP (p1 := 440) (p2 := 470) (pi := 1906) (n := 5) (ixA := 40) (ixB := 44) (n1 := 1) (n2 := 3) (n3 := 1) (n4 := 1) (n5 := 3) (n6 := 1) (n7 := 3) (n8 := 3) (n9 := 3) (x6 := (1432)) (x7 := 7) (x8 := (-1891)) (dp := 1299) (hd := 18) (cmp := True) p_q0 rfl gq54 gq218 (show n < 1000000 by omega) (by decide) (by decide +kernel) (by decide +kernel) (by decide +kernel) (by decide +kernel) (by decide +kernel) (by decide +kernel) (by decide +kernel) (by decide +kernel) (by decide +kernel) (by decide +kernel) (by decide +kernel) (by decide +kernel) (by decide +kernel) (by decide +kernel) (by decide +kernel) (by decide +kernel) (by decide +kernel) rfl (by decide +kernel) rfl (by decide +kernel) shelfcn (by decide +kernel) shelfcd hn shelfPP hat h0 h7 cont
theorem runcn : ∀ ρ : Nat → Int, 0 ≤ ρ 1 → ρ 1 + 7 ≤ ρ 0 → ρ 0 ≤ 3584 → lEv ρ (aCn lwN) + ((mMc xm62 + mMc xm200 : Nat) : Int) ≤ ((mMc xm0 : Nat) : Int) ∧ lEv ρ (aSn lwN) + ((mMs xm62 + mMs xm200 : Nat) : Int) ≤ ((mMs xm0 : Nat) : Int) := fun ρ h1 h2 h3 => by
  have e1 : lEv ρ (aCn lwN) = 536 + 58 * ρ 1 := by
    show lEv ρ (lAdd (lK 536) (lSc 58 (lSy 1))) = _
    rw [lAdd_ev, lK_ev, lSc_ev, lSy_ev]
  have e2 : lEv ρ (aSn lwN) = 9690 + 229 * ρ 1 := by
    show lEv ρ (lAdd (lK 9690) (lSc 229 (lSy 1))) = _
    rw [lAdd_ev, lK_ev, lSc_ev, lSy_ev]
  have k : 536 + 58 * 3577 + (mMc xm62 + mMc xm200) ≤ mMc xm0 ∧ 9690 + 229 * 3577 + (mMs xm62 + mMs xm200) ≤ mMs xm0 := by decide +kernel
  rw [e1, e2]
  constructor <;> omega
theorem runcd : ∀ ρ ρ2 : Nat → Int, ρ2 0 = ρ 0 → ρ2 1 = ρ 1 + 7 → lEv ρ (aCn lwN) + ((mMc xm62 + mMc xm200 : Nat) : Int) ≤ lEv ρ2 (aCn lwN) ∧ lEv ρ (aSn lwN) + ((mMs xm62 + mMs xm200 : Nat) : Int) ≤ lEv ρ2 (aSn lwN) := fun ρ ρ2 _ h => by
  have e1 : ∀ ρ : Nat → Int, lEv ρ (aCn lwN) = 536 + 58 * ρ 1 := fun ρ => by
    show lEv ρ (lAdd (lK 536) (lSc 58 (lSy 1))) = _
    rw [lAdd_ev, lK_ev, lSc_ev, lSy_ev]
  have e2 : ∀ ρ : Nat → Int, lEv ρ (aSn lwN) = 9690 + 229 * ρ 1 := fun ρ => by
    show lEv ρ (lAdd (lK 9690) (lSc 229 (lSy 1))) = _
    rw [lAdd_ev, lK_ev, lSc_ev, lSy_ev]
  have k : mMc xm62 + mMc xm200 ≤ 406 ∧ mMs xm62 + mMs xm200 ≤ 1603 := by decide +kernel
  rw [e1, e1, e2, e2, h]
  constructor <;> omega
theorem run_blk {xs : Nat → Int32} {n : Nat} {sf : Option Nat} (hn : n ≤ 3584) : lwBk (x_otS xs n sf) 477 := fun ρ σ ty H Lc cn2 sn2 hat h0 h7 cont =>
  cBlkP (p1 := 488) (p2 := 503) (pi := 1906) (n := 2) (ixA := 45) (ixB := 48) (n1 := 1) (n2 := 3) (n3 := 1) (n4 := 1) (n5 := 3) (n6 := 1) (n7 := 3) (n8 := 3) (n9 := 3) (x6 := (1399)) (x7 := 7) (x8 := (-1891)) (dp := 1299) (hd := 18) (cmp := True) p_q0 rfl gq62 gq200 (show n < 1000000 by omega) (by decide) (by decide +kernel) (by decide +kernel) (by decide +kernel) (by decide +kernel) (by decide +kernel) (by decide +kernel) (by decide +kernel) (by decide +kernel) (by decide +kernel) (by decide +kernel) (by decide +kernel) (by decide +kernel) (by decide +kernel) (by decide +kernel) (by decide +kernel) (by decide +kernel) (by decide +kernel) rfl (by decide +kernel) rfl (by decide +kernel) runcn (by decide +kernel) runcd hn runPP hat h0 h7 cont
theorem nightcn : ∀ ρ : Nat → Int, 0 ≤ ρ 1 → ρ 1 + 7 ≤ ρ 0 → ρ 0 ≤ 3584 → lEv ρ (aCn lwN) + ((mMc xm89 + mMc xm219 : Nat) : Int) ≤ ((mMc xm0 : Nat) : Int) ∧ lEv ρ (aSn lwN) + ((mMs xm89 + mMs xm219 : Nat) : Int) ≤ ((mMs xm0 : Nat) : Int) := fun ρ h1 h2 h3 => by
  have e1 : lEv ρ (aCn lwN) = 536 + 58 * ρ 1 := by
    show lEv ρ (lAdd (lK 536) (lSc 58 (lSy 1))) = _
    rw [lAdd_ev, lK_ev, lSc_ev, lSy_ev]
  have e2 : lEv ρ (aSn lwN) = 9690 + 229 * ρ 1 := by
    show lEv ρ (lAdd (lK 9690) (lSc 229 (lSy 1))) = _
    rw [lAdd_ev, lK_ev, lSc_ev, lSy_ev]
  have k : 536 + 58 * 3577 + (mMc xm89 + mMc xm219) ≤ mMc xm0 ∧ 9690 + 229 * 3577 + (mMs xm89 + mMs xm219) ≤ mMs xm0 := by decide +kernel
  rw [e1, e2]
  constructor <;> omega
theorem nightcd : ∀ ρ ρ2 : Nat → Int, ρ2 0 = ρ 0 → ρ2 1 = ρ 1 + 7 → lEv ρ (aCn lwN) + ((mMc xm89 + mMc xm219 : Nat) : Int) ≤ lEv ρ2 (aCn lwN) ∧ lEv ρ (aSn lwN) + ((mMs xm89 + mMs xm219 : Nat) : Int) ≤ lEv ρ2 (aSn lwN) := fun ρ ρ2 _ h => by
  have e1 : ∀ ρ : Nat → Int, lEv ρ (aCn lwN) = 536 + 58 * ρ 1 := fun ρ => by
    show lEv ρ (lAdd (lK 536) (lSc 58 (lSy 1))) = _
    rw [lAdd_ev, lK_ev, lSc_ev, lSy_ev]
  have e2 : ∀ ρ : Nat → Int, lEv ρ (aSn lwN) = 9690 + 229 * ρ 1 := fun ρ => by
    show lEv ρ (lAdd (lK 9690) (lSc 229 (lSy 1))) = _
    rw [lAdd_ev, lK_ev, lSc_ev, lSy_ev]
  have k : mMc xm89 + mMc xm219 ≤ 406 ∧ mMs xm89 + mMs xm219 ≤ 1603 := by decide +kernel
  rw [e1, e1, e2, e2, h]
  constructor <;> omega
theorem night_blk {xs : Nat → Int32} {n : Nat} {sf : Option Nat} (hn : n ≤ 3584) : lwBk (x_otS xs n sf) 668 := fun ρ σ ty H Lc cn2 sn2 hat h0 h7 cont =>
  cBlkP (p1 := 674) (p2 := 684) (pi := 1906) (n := 1) (ixA := 66) (ixB := 70) (n1 := 1) (n2 := 3) (n3 := 1) (n4 := 1) (n5 := 3) (n6 := 1) (n7 := 3) (n8 := 3) (n9 := 3) (x6 := (1218)) (x7 := 7) (x8 := (-1891)) (dp := 1299) (hd := 18) (cmp := True) p_q0 rfl gq89 gq219 (show n < 1000000 by omega) (by decide) (by decide +kernel) (by decide +kernel) (by decide +kernel) (by decide +kernel) (by decide +kernel) (by decide +kernel) (by decide +kernel) (by decide +kernel) (by decide +kernel) (by decide +kernel) (by decide +kernel) (by decide +kernel) (by decide +kernel) (by decide +kernel) (by decide +kernel) (by decide +kernel) (by decide +kernel) rfl (by decide +kernel) rfl (by decide +kernel) nightcn (by decide +kernel) nightcd hn nightPP hat h0 h7 cont
theorem doescn : ∀ ρ : Nat → Int, 0 ≤ ρ 1 → ρ 1 + 7 ≤ ρ 0 → ρ 0 ≤ 3584 → lEv ρ (aCn lwN) + ((mMc xm96 + mMc xm233 : Nat) : Int) ≤ ((mMc xm0 : Nat) : Int) ∧ lEv ρ (aSn lwN) + ((mMs xm96 + mMs xm233 : Nat) : Int) ≤ ((mMs xm0 : Nat) : Int) := fun ρ h1 h2 h3 => by
  have e1 : lEv ρ (aCn lwN) = 536 + 58 * ρ 1 := by
    show lEv ρ (lAdd (lK 536) (lSc 58 (lSy 1))) = _
    rw [lAdd_ev, lK_ev, lSc_ev, lSy_ev]
  have e2 : lEv ρ (aSn lwN) = 9690 + 229 * ρ 1 := by
    show lEv ρ (lAdd (lK 9690) (lSc 229 (lSy 1))) = _
    rw [lAdd_ev, lK_ev, lSc_ev, lSy_ev]
  have k : 536 + 58 * 3577 + (mMc xm96 + mMc xm233) ≤ mMc xm0 ∧ 9690 + 229 * 3577 + (mMs xm96 + mMs xm233) ≤ mMs xm0 := by decide +kernel
  rw [e1, e2]
  constructor <;> omega
theorem doescd : ∀ ρ ρ2 : Nat → Int, ρ2 0 = ρ 0 → ρ2 1 = ρ 1 + 7 → lEv ρ (aCn lwN) + ((mMc xm96 + mMc xm233 : Nat) : Int) ≤ lEv ρ2 (aCn lwN) ∧ lEv ρ (aSn lwN) + ((mMs xm96 + mMs xm233 : Nat) : Int) ≤ lEv ρ2 (aSn lwN) := fun ρ ρ2 _ h => by
  have e1 : ∀ ρ : Nat → Int, lEv ρ (aCn lwN) = 536 + 58 * ρ 1 := fun ρ => by
    show lEv ρ (lAdd (lK 536) (lSc 58 (lSy 1))) = _
    rw [lAdd_ev, lK_ev, lSc_ev, lSy_ev]
  have e2 : ∀ ρ : Nat → Int, lEv ρ (aSn lwN) = 9690 + 229 * ρ 1 := fun ρ => by
    show lEv ρ (lAdd (lK 9690) (lSc 229 (lSy 1))) = _
    rw [lAdd_ev, lK_ev, lSc_ev, lSy_ev]
  have k : mMc xm96 + mMc xm233 ≤ 406 ∧ mMs xm96 + mMs xm233 ≤ 1603 := by decide +kernel
  rw [e1, e1, e2, e2, h]
  constructor <;> omega
theorem does_blk {xs : Nat → Int32} {n : Nat} {sf : Option Nat} (hn : n ≤ 3584) : lwBk (x_otS xs n sf) 757 := fun ρ σ ty H Lc cn2 sn2 hat h0 h7 cont =>
  cBlkP (p1 := 778) (p2 := 803) (pi := 1906) (n := 4) (ixA := 79) (ixB := 83) (n1 := 1) (n2 := 3) (n3 := 1) (n4 := 1) (n5 := 3) (n6 := 1) (n7 := 3) (n8 := 3) (n9 := 3) (x6 := (1099)) (x7 := 7) (x8 := (-1891)) (dp := 1299) (hd := 18) (cmp := True) p_q0 rfl gq96 gq233 (show n < 1000000 by omega) (by decide) (by decide +kernel) (by decide +kernel) (by decide +kernel) (by decide +kernel) (by decide +kernel) (by decide +kernel) (by decide +kernel) (by decide +kernel) (by decide +kernel) (by decide +kernel) (by decide +kernel) (by decide +kernel) (by decide +kernel) (by decide +kernel) (by decide +kernel) (by decide +kernel) (by decide +kernel) rfl (by decide +kernel) rfl (by decide +kernel) doescn (by decide +kernel) doescd hn doesPP hat h0 h7 cont
theorem mendcn : ∀ ρ : Nat → Int, 0 ≤ ρ 1 → ρ 1 + 7 ≤ ρ 0 → ρ 0 ≤ 3584 → lEv ρ (aCn lwN) + ((mMc xm103 + mMc xm236 : Nat) : Int) ≤ ((mMc xm0 : Nat) : Int) ∧ lEv ρ (aSn lwN) + ((mMs xm103 + mMs xm236 : Nat) : Int) ≤ ((mMs xm0 : Nat) : Int) := fun ρ h1 h2 h3 => by
  have e1 : lEv ρ (aCn lwN) = 536 + 58 * ρ 1 := by
    show lEv ρ (lAdd (lK 536) (lSc 58 (lSy 1))) = _
    rw [lAdd_ev, lK_ev, lSc_ev, lSy_ev]
  have e2 : lEv ρ (aSn lwN) = 9690 + 229 * ρ 1 := by
    show lEv ρ (lAdd (lK 9690) (lSc 229 (lSy 1))) = _
    rw [lAdd_ev, lK_ev, lSc_ev, lSy_ev]
  have k : 536 + 58 * 3577 + (mMc xm103 + mMc xm236) ≤ mMc xm0 ∧ 9690 + 229 * 3577 + (mMs xm103 + mMs xm236) ≤ mMs xm0 := by decide +kernel
  rw [e1, e2]
  constructor <;> omega
theorem mendcd : ∀ ρ ρ2 : Nat → Int, ρ2 0 = ρ 0 → ρ2 1 = ρ 1 + 7 → lEv ρ (aCn lwN) + ((mMc xm103 + mMc xm236 : Nat) : Int) ≤ lEv ρ2 (aCn lwN) ∧ lEv ρ (aSn lwN) + ((mMs xm103 + mMs xm236 : Nat) : Int) ≤ lEv ρ2 (aSn lwN) := fun ρ ρ2 _ h => by
  have e1 : ∀ ρ : Nat → Int, lEv ρ (aCn lwN) = 536 + 58 * ρ 1 := fun ρ => by
    show lEv ρ (lAdd (lK 536) (lSc 58 (lSy 1))) = _
    rw [lAdd_ev, lK_ev, lSc_ev, lSy_ev]
  have e2 : ∀ ρ : Nat → Int, lEv ρ (aSn lwN) = 9690 + 229 * ρ 1 := fun ρ => by
    show lEv ρ (lAdd (lK 9690) (lSc 229 (lSy 1))) = _
    rw [lAdd_ev, lK_ev, lSc_ev, lSy_ev]
  have k : mMc xm103 + mMc xm236 ≤ 406 ∧ mMs xm103 + mMs xm236 ≤ 1603 := by decide +kernel
  rw [e1, e1, e2, e2, h]
  constructor <;> omega
theorem mend_blk {xs : Nat → Int32} {n : Nat} {sf : Option Nat} (hn : n ≤ 3584) : lwBk (x_otS xs n sf) 810 := fun ρ σ ty H Lc cn2 sn2 hat h0 h7 cont =>
  cBlkP (p1 := 842) (p2 := 878) (pi := 1906) (n := 6) (ixA := 84) (ixB := 88) (n1 := 1) (n2 := 3) (n3 := 1) (n4 := 1) (n5 := 3) (n6 := 1) (n7 := 3) (n8 := 3) (n9 := 3) (x6 := (1024)) (x7 := 7) (x8 := (-1891)) (dp := 1299) (hd := 18) (cmp := True) p_q0 rfl gq103 gq236 (show n < 1000000 by omega) (by decide) (by decide +kernel) (by decide +kernel) (by decide +kernel) (by decide +kernel) (by decide +kernel) (by decide +kernel) (by decide +kernel) (by decide +kernel) (by decide +kernel) (by decide +kernel) (by decide +kernel) (by decide +kernel) (by decide +kernel) (by decide +kernel) (by decide +kernel) (by decide +kernel) (by decide +kernel) rfl (by decide +kernel) rfl (by decide +kernel) mendcn (by decide +kernel) mendcd hn mendPP hat h0 h7 cont
theorem mendRulecn : ∀ ρ : Nat → Int, 0 ≤ ρ 1 → ρ 1 + 7 ≤ ρ 0 → ρ 0 ≤ 3584 → lEv ρ (aCn lwN) + ((mMc xm107 + mMc xm239 : Nat) : Int) ≤ ((mMc xm0 : Nat) : Int) ∧ lEv ρ (aSn lwN) + ((mMs xm107 + mMs xm239 : Nat) : Int) ≤ ((mMs xm0 : Nat) : Int) := fun ρ h1 h2 h3 => by
  have e1 : lEv ρ (aCn lwN) = 536 + 58 * ρ 1 := by
    show lEv ρ (lAdd (lK 536) (lSc 58 (lSy 1))) = _
    rw [lAdd_ev, lK_ev, lSc_ev, lSy_ev]
  have e2 : lEv ρ (aSn lwN) = 9690 + 229 * ρ 1 := by
    show lEv ρ (lAdd (lK 9690) (lSc 229 (lSy 1))) = _
    rw [lAdd_ev, lK_ev, lSc_ev, lSy_ev]
  have k : 536 + 58 * 3577 + (mMc xm107 + mMc xm239) ≤ mMc xm0 ∧ 9690 + 229 * 3577 + (mMs xm107 + mMs xm239) ≤ mMs xm0 := by decide +kernel
  rw [e1, e2]
  constructor <;> omega
theorem mendRulecd : ∀ ρ ρ2 : Nat → Int, ρ2 0 = ρ 0 → ρ2 1 = ρ 1 + 7 → lEv ρ (aCn lwN) + ((mMc xm107 + mMc xm239 : Nat) : Int) ≤ lEv ρ2 (aCn lwN) ∧ lEv ρ (aSn lwN) + ((mMs xm107 + mMs xm239 : Nat) : Int) ≤ lEv ρ2 (aSn lwN) := fun ρ ρ2 _ h => by
  have e1 : ∀ ρ : Nat → Int, lEv ρ (aCn lwN) = 536 + 58 * ρ 1 := fun ρ => by
    show lEv ρ (lAdd (lK 536) (lSc 58 (lSy 1))) = _
    rw [lAdd_ev, lK_ev, lSc_ev, lSy_ev]
  have e2 : ∀ ρ : Nat → Int, lEv ρ (aSn lwN) = 9690 + 229 * ρ 1 := fun ρ => by
    show lEv ρ (lAdd (lK 9690) (lSc 229 (lSy 1))) = _
    rw [lAdd_ev, lK_ev, lSc_ev, lSy_ev]
  have k : mMc xm107 + mMc xm239 ≤ 406 ∧ mMs xm107 + mMs xm239 ≤ 1603 := by decide +kernel
  rw [e1, e1, e2, e2, h]
  constructor <;> omega
theorem mendRule_blk {xs : Nat → Int32} {n : Nat} {sf : Option Nat} (hn : n ≤ 3584) : lwBk (x_otS xs n sf) 885 := fun ρ σ ty H Lc cn2 sn2 hat h0 h7 cont =>
  cBlkP (p1 := 906) (p2 := 931) (pi := 1906) (n := 4) (ixA := 89) (ixB := 92) (n1 := 1) (n2 := 3) (n3 := 1) (n4 := 1) (n5 := 3) (n6 := 1) (n7 := 3) (n8 := 3) (n9 := 3) (x6 := (971)) (x7 := 7) (x8 := (-1891)) (dp := 1299) (hd := 18) (cmp := True) p_q0 rfl gq107 gq239 (show n < 1000000 by omega) (by decide) (by decide +kernel) (by decide +kernel) (by decide +kernel) (by decide +kernel) (by decide +kernel) (by decide +kernel) (by decide +kernel) (by decide +kernel) (by decide +kernel) (by decide +kernel) (by decide +kernel) (by decide +kernel) (by decide +kernel) (by decide +kernel) (by decide +kernel) (by decide +kernel) (by decide +kernel) rfl (by decide +kernel) rfl (by decide +kernel) mendRulecn (by decide +kernel) mendRulecd hn mendRulePP hat h0 h7 cont
theorem testcn : ∀ ρ : Nat → Int, 0 ≤ ρ 1 → ρ 1 + 7 ≤ ρ 0 → ρ 0 ≤ 3584 → lEv ρ (aCn lwN) + ((mMc xm108 + mMc xm240 : Nat) : Int) ≤ ((mMc xm0 : Nat) : Int) ∧ lEv ρ (aSn lwN) + ((mMs xm108 + mMs xm240 : Nat) : Int) ≤ ((mMs xm0 : Nat) : Int) := fun ρ h1 h2 h3 => by
  have e1 : lEv ρ (aCn lwN) = 536 + 58 * ρ 1 := by
    show lEv ρ (lAdd (lK 536) (lSc 58 (lSy 1))) = _
    rw [lAdd_ev, lK_ev, lSc_ev, lSy_ev]
  have e2 : lEv ρ (aSn lwN) = 9690 + 229 * ρ 1 := by
    show lEv ρ (lAdd (lK 9690) (lSc 229 (lSy 1))) = _
    rw [lAdd_ev, lK_ev, lSc_ev, lSy_ev]
  have k : 536 + 58 * 3577 + (mMc xm108 + mMc xm240) ≤ mMc xm0 ∧ 9690 + 229 * 3577 + (mMs xm108 + mMs xm240) ≤ mMs xm0 := by decide +kernel
  rw [e1, e2]
  constructor <;> omega
theorem testcd : ∀ ρ ρ2 : Nat → Int, ρ2 0 = ρ 0 → ρ2 1 = ρ 1 + 7 → lEv ρ (aCn lwN) + ((mMc xm108 + mMc xm240 : Nat) : Int) ≤ lEv ρ2 (aCn lwN) ∧ lEv ρ (aSn lwN) + ((mMs xm108 + mMs xm240 : Nat) : Int) ≤ lEv ρ2 (aSn lwN) := fun ρ ρ2 _ h => by
  have e1 : ∀ ρ : Nat → Int, lEv ρ (aCn lwN) = 536 + 58 * ρ 1 := fun ρ => by
    show lEv ρ (lAdd (lK 536) (lSc 58 (lSy 1))) = _
    rw [lAdd_ev, lK_ev, lSc_ev, lSy_ev]
  have e2 : ∀ ρ : Nat → Int, lEv ρ (aSn lwN) = 9690 + 229 * ρ 1 := fun ρ => by
    show lEv ρ (lAdd (lK 9690) (lSc 229 (lSy 1))) = _
    rw [lAdd_ev, lK_ev, lSc_ev, lSy_ev]
  have k : mMc xm108 + mMc xm240 ≤ 406 ∧ mMs xm108 + mMs xm240 ≤ 1603 := by decide +kernel
  rw [e1, e1, e2, e2, h]
  constructor <;> omega
theorem test_blk {xs : Nat → Int32} {n : Nat} {sf : Option Nat} (hn : n ≤ 3584) : lwBk (x_otS xs n sf) 938 := fun ρ σ ty H Lc cn2 sn2 hat h0 h7 cont =>
  cBlkP (p1 := 959) (p2 := 984) (pi := 1906) (n := 4) (ixA := 93) (ixB := 96) (n1 := 1) (n2 := 3) (n3 := 1) (n4 := 1) (n5 := 3) (n6 := 1) (n7 := 3) (n8 := 3) (n9 := 3) (x6 := (918)) (x7 := 7) (x8 := (-1891)) (dp := 1299) (hd := 18) (cmp := True) p_q0 rfl gq108 gq240 (show n < 1000000 by omega) (by decide) (by decide +kernel) (by decide +kernel) (by decide +kernel) (by decide +kernel) (by decide +kernel) (by decide +kernel) (by decide +kernel) (by decide +kernel) (by decide +kernel) (by decide +kernel) (by decide +kernel) (by decide +kernel) (by decide +kernel) (by decide +kernel) (by decide +kernel) (by decide +kernel) (by decide +kernel) rfl (by decide +kernel) rfl (by decide +kernel) testcn (by decide +kernel) testcd hn testPP hat h0 h7 cont
theorem showscn : ∀ ρ : Nat → Int, 0 ≤ ρ 1 → ρ 1 + 7 ≤ ρ 0 → ρ 0 ≤ 3584 → lEv ρ (aCn lwN) + ((mMc xm135 + mMc xm247 : Nat) : Int) ≤ ((mMc xm0 : Nat) : Int) ∧ lEv ρ (aSn lwN) + ((mMs xm135 + mMs xm247 : Nat) : Int) ≤ ((mMs xm0 : Nat) : Int) := fun ρ h1 h2 h3 => by
  have e1 : lEv ρ (aCn lwN) = 536 + 58 * ρ 1 := by
    show lEv ρ (lAdd (lK 536) (lSc 58 (lSy 1))) = _
    rw [lAdd_ev, lK_ev, lSc_ev, lSy_ev]
  have e2 : lEv ρ (aSn lwN) = 9690 + 229 * ρ 1 := by
    show lEv ρ (lAdd (lK 9690) (lSc 229 (lSy 1))) = _
    rw [lAdd_ev, lK_ev, lSc_ev, lSy_ev]
  have k : 536 + 58 * 3577 + (mMc xm135 + mMc xm247) ≤ mMc xm0 ∧ 9690 + 229 * 3577 + (mMs xm135 + mMs xm247) ≤ mMs xm0 := by decide +kernel
  rw [e1, e2]
  constructor <;> omega
theorem showscd : ∀ ρ ρ2 : Nat → Int, ρ2 0 = ρ 0 → ρ2 1 = ρ 1 + 7 → lEv ρ (aCn lwN) + ((mMc xm135 + mMc xm247 : Nat) : Int) ≤ lEv ρ2 (aCn lwN) ∧ lEv ρ (aSn lwN) + ((mMs xm135 + mMs xm247 : Nat) : Int) ≤ lEv ρ2 (aSn lwN) := fun ρ ρ2 _ h => by
  have e1 : ∀ ρ : Nat → Int, lEv ρ (aCn lwN) = 536 + 58 * ρ 1 := fun ρ => by
    show lEv ρ (lAdd (lK 536) (lSc 58 (lSy 1))) = _
    rw [lAdd_ev, lK_ev, lSc_ev, lSy_ev]
  have e2 : ∀ ρ : Nat → Int, lEv ρ (aSn lwN) = 9690 + 229 * ρ 1 := fun ρ => by
    show lEv ρ (lAdd (lK 9690) (lSc 229 (lSy 1))) = _
    rw [lAdd_ev, lK_ev, lSc_ev, lSy_ev]
  have k : mMc xm135 + mMc xm247 ≤ 406 ∧ mMs xm135 + mMs xm247 ≤ 1603 := by decide +kernel
  rw [e1, e1, e2, e2, h]
  constructor <;> omega
theorem shows_blk {xs : Nat → Int32} {n : Nat} {sf : Option Nat} (hsf : sf = none ∨ sf = some 1200000) (hn : n ≤ 3584) : lwBk (x_otS xs n sf) 1384 := fun ρ σ ty H Lc cn2 sn2 hat h0 h7 cont =>
  cBlkP (p1 := 1395) (p2 := 1410) (pi := 1906) (n := 2) (ixA := 134) (ixB := 137) (n1 := 1) (n2 := 3) (n3 := 1) (n4 := 1) (n5 := 3) (n6 := 1) (n7 := 3) (n8 := 3) (n9 := 3) (x6 := (492)) (x7 := 7) (x8 := (-1891)) (dp := 1299) (hd := 18) (cmp := False) p_q0 rfl gq135 gq247 (show n < 1000000 by omega) (by decide) (by decide +kernel) (by decide +kernel) (by decide +kernel) (by decide +kernel) (by decide +kernel) (by decide +kernel) (by decide +kernel) (by decide +kernel) (by decide +kernel) (by decide +kernel) (by decide +kernel) (by decide +kernel) (by decide +kernel) (by decide +kernel) (by decide +kernel) (by decide +kernel) (by decide +kernel) rfl (by decide +kernel) rfl (by decide +kernel) showscn (by decide +kernel) showscd hn (showsPP hsf) hat h0 h7 cont
theorem covercn : ∀ ρ : Nat → Int, 0 ≤ ρ 1 → ρ 1 + 7 ≤ ρ 0 → ρ 0 ≤ 3584 → lEv ρ (aCn lwN) + ((mMc xm137 + mMc xm249 : Nat) : Int) ≤ ((mMc xm0 : Nat) : Int) ∧ lEv ρ (aSn lwN) + ((mMs xm137 + mMs xm249 : Nat) : Int) ≤ ((mMs xm0 : Nat) : Int) := fun ρ h1 h2 h3 => by
  have e1 : lEv ρ (aCn lwN) = 536 + 58 * ρ 1 := by
    show lEv ρ (lAdd (lK 536) (lSc 58 (lSy 1))) = _
    rw [lAdd_ev, lK_ev, lSc_ev, lSy_ev]
  have e2 : lEv ρ (aSn lwN) = 9690 + 229 * ρ 1 := by
    show lEv ρ (lAdd (lK 9690) (lSc 229 (lSy 1))) = _
    rw [lAdd_ev, lK_ev, lSc_ev, lSy_ev]
  have k : 536 + 58 * 3577 + (mMc xm137 + mMc xm249) ≤ mMc xm0 ∧ 9690 + 229 * 3577 + (mMs xm137 + mMs xm249) ≤ mMs xm0 := by decide +kernel
  rw [e1, e2]
  constructor <;> omega
theorem covercd : ∀ ρ ρ2 : Nat → Int, ρ2 0 = ρ 0 → ρ2 1 = ρ 1 + 7 → lEv ρ (aCn lwN) + ((mMc xm137 + mMc xm249 : Nat) : Int) ≤ lEv ρ2 (aCn lwN) ∧ lEv ρ (aSn lwN) + ((mMs xm137 + mMs xm249 : Nat) : Int) ≤ lEv ρ2 (aSn lwN) := fun ρ ρ2 _ h => by
  have e1 : ∀ ρ : Nat → Int, lEv ρ (aCn lwN) = 536 + 58 * ρ 1 := fun ρ => by
    show lEv ρ (lAdd (lK 536) (lSc 58 (lSy 1))) = _
    rw [lAdd_ev, lK_ev, lSc_ev, lSy_ev]
  have e2 : ∀ ρ : Nat → Int, lEv ρ (aSn lwN) = 9690 + 229 * ρ 1 := fun ρ => by
    show lEv ρ (lAdd (lK 9690) (lSc 229 (lSy 1))) = _
    rw [lAdd_ev, lK_ev, lSc_ev, lSy_ev]
  have k : mMc xm137 + mMc xm249 ≤ 406 ∧ mMs xm137 + mMs xm249 ≤ 1603 := by decide +kernel
  rw [e1, e1, e2, e2, h]
  constructor <;> omega
theorem cover_blk {xs : Nat → Int32} {n : Nat} {sf : Option Nat} (hsf : sf = none ∨ sf = some 1200000) (hn : n ≤ 3584) : lwBk (x_otS xs n sf) 1417 := fun ρ σ ty H Lc cn2 sn2 hat h0 h7 cont =>
  cBlkP (p1 := 1423) (p2 := 1433) (pi := 1906) (n := 1) (ixA := 138) (ixB := 141) (n1 := 1) (n2 := 3) (n3 := 1) (n4 := 1) (n5 := 3) (n6 := 1) (n7 := 3) (n8 := 3) (n9 := 3) (x6 := (469)) (x7 := 7) (x8 := (-1891)) (dp := 1299) (hd := 18) (cmp := False) p_q0 rfl gq137 gq249 (show n < 1000000 by omega) (by decide) (by decide +kernel) (by decide +kernel) (by decide +kernel) (by decide +kernel) (by decide +kernel) (by decide +kernel) (by decide +kernel) (by decide +kernel) (by decide +kernel) (by decide +kernel) (by decide +kernel) (by decide +kernel) (by decide +kernel) (by decide +kernel) (by decide +kernel) (by decide +kernel) (by decide +kernel) rfl (by decide +kernel) rfl (by decide +kernel) covercn (by decide +kernel) covercd hn (coverPP hsf) hat h0 h7 cont
theorem firstcn : ∀ ρ : Nat → Int, 0 ≤ ρ 1 → ρ 1 + 7 ≤ ρ 0 → ρ 0 ≤ 3584 → lEv ρ (aCn lwN) + ((mMc xm140 + mMc xm223 : Nat) : Int) ≤ ((mMc xm0 : Nat) : Int) ∧ lEv ρ (aSn lwN) + ((mMs xm140 + mMs xm223 : Nat) : Int) ≤ ((mMs xm0 : Nat) : Int) := fun ρ h1 h2 h3 => by
  have e1 : lEv ρ (aCn lwN) = 536 + 58 * ρ 1 := by
    show lEv ρ (lAdd (lK 536) (lSc 58 (lSy 1))) = _
    rw [lAdd_ev, lK_ev, lSc_ev, lSy_ev]
  have e2 : lEv ρ (aSn lwN) = 9690 + 229 * ρ 1 := by
    show lEv ρ (lAdd (lK 9690) (lSc 229 (lSy 1))) = _
    rw [lAdd_ev, lK_ev, lSc_ev, lSy_ev]
  have k : 536 + 58 * 3577 + (mMc xm140 + mMc xm223) ≤ mMc xm0 ∧ 9690 + 229 * 3577 + (mMs xm140 + mMs xm223) ≤ mMs xm0 := by decide +kernel
  rw [e1, e2]
  constructor <;> omega
theorem firstcd : ∀ ρ ρ2 : Nat → Int, ρ2 0 = ρ 0 → ρ2 1 = ρ 1 + 7 → lEv ρ (aCn lwN) + ((mMc xm140 + mMc xm223 : Nat) : Int) ≤ lEv ρ2 (aCn lwN) ∧ lEv ρ (aSn lwN) + ((mMs xm140 + mMs xm223 : Nat) : Int) ≤ lEv ρ2 (aSn lwN) := fun ρ ρ2 _ h => by
  have e1 : ∀ ρ : Nat → Int, lEv ρ (aCn lwN) = 536 + 58 * ρ 1 := fun ρ => by
    show lEv ρ (lAdd (lK 536) (lSc 58 (lSy 1))) = _
    rw [lAdd_ev, lK_ev, lSc_ev, lSy_ev]
  have e2 : ∀ ρ : Nat → Int, lEv ρ (aSn lwN) = 9690 + 229 * ρ 1 := fun ρ => by
    show lEv ρ (lAdd (lK 9690) (lSc 229 (lSy 1))) = _
    rw [lAdd_ev, lK_ev, lSc_ev, lSy_ev]
  have k : mMc xm140 + mMc xm223 ≤ 406 ∧ mMs xm140 + mMs xm223 ≤ 1603 := by decide +kernel
  rw [e1, e1, e2, e2, h]
  constructor <;> omega
theorem first_blk {xs : Nat → Int32} {n : Nat} {sf : Option Nat} (hsf : sf = none ∨ sf = some 1200000) (hn : n ≤ 3584) : lwBk (x_otS xs n sf) 1440 := fun ρ σ ty H Lc cn2 sn2 hat h0 h7 cont =>
  cBlkP (p1 := 1461) (p2 := 1486) (pi := 1906) (n := 4) (ixA := 142) (ixB := 145) (n1 := 1) (n2 := 3) (n3 := 1) (n4 := 1) (n5 := 3) (n6 := 1) (n7 := 3) (n8 := 3) (n9 := 3) (x6 := (416)) (x7 := 7) (x8 := (-1891)) (dp := 1299) (hd := 18) (cmp := False) p_q0 rfl gq140 gq223 (show n < 1000000 by omega) (by decide) (by decide +kernel) (by decide +kernel) (by decide +kernel) (by decide +kernel) (by decide +kernel) (by decide +kernel) (by decide +kernel) (by decide +kernel) (by decide +kernel) (by decide +kernel) (by decide +kernel) (by decide +kernel) (by decide +kernel) (by decide +kernel) (by decide +kernel) (by decide +kernel) (by decide +kernel) rfl (by decide +kernel) rfl (by decide +kernel) firstcn (by decide +kernel) firstcd hn (firstPP hsf) hat h0 h7 cont
theorem besidecn : ∀ ρ : Nat → Int, 0 ≤ ρ 1 → ρ 1 + 7 ≤ ρ 0 → ρ 0 ≤ 3584 → lEv ρ (aCn lwN) + ((mMc xm146 + mMc xm221 : Nat) : Int) ≤ ((mMc xm0 : Nat) : Int) ∧ lEv ρ (aSn lwN) + ((mMs xm146 + mMs xm221 : Nat) : Int) ≤ ((mMs xm0 : Nat) : Int) := fun ρ h1 h2 h3 => by
  have e1 : lEv ρ (aCn lwN) = 536 + 58 * ρ 1 := by
    show lEv ρ (lAdd (lK 536) (lSc 58 (lSy 1))) = _
    rw [lAdd_ev, lK_ev, lSc_ev, lSy_ev]
  have e2 : lEv ρ (aSn lwN) = 9690 + 229 * ρ 1 := by
    show lEv ρ (lAdd (lK 9690) (lSc 229 (lSy 1))) = _
    rw [lAdd_ev, lK_ev, lSc_ev, lSy_ev]
  have k : 536 + 58 * 3577 + (mMc xm146 + mMc xm221) ≤ mMc xm0 ∧ 9690 + 229 * 3577 + (mMs xm146 + mMs xm221) ≤ mMs xm0 := by decide +kernel
  rw [e1, e2]
  constructor <;> omega
theorem besidecd : ∀ ρ ρ2 : Nat → Int, ρ2 0 = ρ 0 → ρ2 1 = ρ 1 + 7 → lEv ρ (aCn lwN) + ((mMc xm146 + mMc xm221 : Nat) : Int) ≤ lEv ρ2 (aCn lwN) ∧ lEv ρ (aSn lwN) + ((mMs xm146 + mMs xm221 : Nat) : Int) ≤ lEv ρ2 (aSn lwN) := fun ρ ρ2 _ h => by
  have e1 : ∀ ρ : Nat → Int, lEv ρ (aCn lwN) = 536 + 58 * ρ 1 := fun ρ => by
    show lEv ρ (lAdd (lK 536) (lSc 58 (lSy 1))) = _
    rw [lAdd_ev, lK_ev, lSc_ev, lSy_ev]
  have e2 : ∀ ρ : Nat → Int, lEv ρ (aSn lwN) = 9690 + 229 * ρ 1 := fun ρ => by
    show lEv ρ (lAdd (lK 9690) (lSc 229 (lSy 1))) = _
    rw [lAdd_ev, lK_ev, lSc_ev, lSy_ev]
  have k : mMc xm146 + mMc xm221 ≤ 406 ∧ mMs xm146 + mMs xm221 ≤ 1603 := by decide +kernel
  rw [e1, e1, e2, e2, h]
  constructor <;> omega
theorem beside_blk {xs : Nat → Int32} {n : Nat} {sf : Option Nat} (hsf : sf = none ∨ sf = some 1200000) (hn : n ≤ 3584) : lwBk (x_otS xs n sf) 1493 := fun ρ σ ty H Lc cn2 sn2 hat h0 h7 cont =>
  cBlkP (p1 := 1499) (p2 := 1509) (pi := 1906) (n := 1) (ixA := 146) (ixB := 149) (n1 := 1) (n2 := 3) (n3 := 1) (n4 := 1) (n5 := 3) (n6 := 1) (n7 := 3) (n8 := 3) (n9 := 3) (x6 := (393)) (x7 := 7) (x8 := (-1891)) (dp := 1299) (hd := 18) (cmp := False) p_q0 rfl gq146 gq221 (show n < 1000000 by omega) (by decide) (by decide +kernel) (by decide +kernel) (by decide +kernel) (by decide +kernel) (by decide +kernel) (by decide +kernel) (by decide +kernel) (by decide +kernel) (by decide +kernel) (by decide +kernel) (by decide +kernel) (by decide +kernel) (by decide +kernel) (by decide +kernel) (by decide +kernel) (by decide +kernel) (by decide +kernel) rfl (by decide +kernel) rfl (by decide +kernel) besidecn (by decide +kernel) besidecd hn (besidePP hsf) hat h0 h7 cont
theorem sheetcn : ∀ ρ : Nat → Int, 0 ≤ ρ 1 → ρ 1 + 7 ≤ ρ 0 → ρ 0 ≤ 3584 → lEv ρ (aCn lwN) + ((mMc xm174 + mMc xm272 : Nat) : Int) ≤ ((mMc xm0 : Nat) : Int) ∧ lEv ρ (aSn lwN) + ((mMs xm174 + mMs xm272 : Nat) : Int) ≤ ((mMs xm0 : Nat) : Int) := fun ρ h1 h2 h3 => by
  have e1 : lEv ρ (aCn lwN) = 536 + 58 * ρ 1 := by
    show lEv ρ (lAdd (lK 536) (lSc 58 (lSy 1))) = _
    rw [lAdd_ev, lK_ev, lSc_ev, lSy_ev]
  have e2 : lEv ρ (aSn lwN) = 9690 + 229 * ρ 1 := by
    show lEv ρ (lAdd (lK 9690) (lSc 229 (lSy 1))) = _
    rw [lAdd_ev, lK_ev, lSc_ev, lSy_ev]
  have k : 536 + 58 * 3577 + (mMc xm174 + mMc xm272) ≤ mMc xm0 ∧ 9690 + 229 * 3577 + (mMs xm174 + mMs xm272) ≤ mMs xm0 := by decide +kernel
  rw [e1, e2]
  constructor <;> omega
theorem sheetcd : ∀ ρ ρ2 : Nat → Int, ρ2 0 = ρ 0 → ρ2 1 = ρ 1 + 7 → lEv ρ (aCn lwN) + ((mMc xm174 + mMc xm272 : Nat) : Int) ≤ lEv ρ2 (aCn lwN) ∧ lEv ρ (aSn lwN) + ((mMs xm174 + mMs xm272 : Nat) : Int) ≤ lEv ρ2 (aSn lwN) := fun ρ ρ2 _ h => by
  have e1 : ∀ ρ : Nat → Int, lEv ρ (aCn lwN) = 536 + 58 * ρ 1 := fun ρ => by
    show lEv ρ (lAdd (lK 536) (lSc 58 (lSy 1))) = _
    rw [lAdd_ev, lK_ev, lSc_ev, lSy_ev]
  have e2 : ∀ ρ : Nat → Int, lEv ρ (aSn lwN) = 9690 + 229 * ρ 1 := fun ρ => by
    show lEv ρ (lAdd (lK 9690) (lSc 229 (lSy 1))) = _
    rw [lAdd_ev, lK_ev, lSc_ev, lSy_ev]
  have k : mMc xm174 + mMc xm272 ≤ 406 ∧ mMs xm174 + mMs xm272 ≤ 1603 := by decide +kernel
  rw [e1, e1, e2, e2, h]
  constructor <;> omega
end XRuG6
