/-! Runs: graphs, blocks, 1. -/
noncomputable section XRuG1
theorem rlN25 {xs : Nat → Int32} {n : Nat} {sf : Option Nat} (hsf : sf = none ∨ sf = some 1200000) : wGoes x_KT x_tb x_tyl (x_otS xs n sf) lwFR lwGA.length lwGB.length 6 30 44 rlWA rlWB 15 183 62 63 rl_op10 rlo25 :=
  wDp (wWk (wFamE2 (V := [1, 0, 37]) (x_ov0_le sf) u_ctS lwFRok rlE25 (by decide) (by decide) (fun i hi u hu => by
      have hi : i ∈ ([1, 0, 37] : List Nat) := hi
      simp only [List.mem_cons, List.not_mem_nil, or_false] at hi
      rcases hi with rfl | rfl | rfl
      · cases hu
        exact wRkE_spec (x_ov0_le sf) u_ctS lwFRok rlE25R1
      · cases hu
        exact wRkE_spec (x_ov0_le sf) u_ctS lwFRok rlE25R0
      · cases hu
        exact wRkE_spec (x_ov0_le sf) u_ctS lwFRok rlE25R37)) (Nat.le_refl _) (Nat.le_refl _) (Nat.le_refl _) (by decide +kernel) (by decide +kernel)) (by decide) (by decide)
theorem rlN26 {xs : Nat → Int32} {n : Nat} {sf : Option Nat} (hsf : sf = none ∨ sf = some 1200000) : wGoes x_KT x_tb x_tyl (x_otS xs n sf) lwFR lwGA.length lwGB.length 6 30 44 rlWA rlWB 15 183 62 63 rl_op11 rlo26 :=
  wDp (wWk (wFamE2 (V := [1, 0, 37]) (x_ov0_le sf) u_ctS lwFRok rlE26 (by decide) (by decide) (fun i hi u hu => by
      have hi : i ∈ ([1, 0, 37] : List Nat) := hi
      simp only [List.mem_cons, List.not_mem_nil, or_false] at hi
      rcases hi with rfl | rfl | rfl
      · cases hu
        exact wRkE_spec (x_ov0_le sf) u_ctS lwFRok rlE26R1
      · cases hu
        exact wRkE_spec (x_ov0_le sf) u_ctS lwFRok rlE26R0
      · cases hu
        exact wRkE_spec (x_ov0_le sf) u_ctS lwFRok rlE26R37)) (Nat.le_refl _) (Nat.le_refl _) (Nat.le_refl _) (by decide +kernel) (by decide +kernel)) (by decide) (by decide)
set_option maxRecDepth 1000000 in
theorem gq14 : tMth x_tb 14 = some xm14 := rfl
theorem rdN0 {xs : Nat → Int32} {n : Nat} {sf : Option Nat} (hsf : sf = none ∨ sf = some 1200000) : wGoes x_KT x_tb x_tyl (x_otS xs n sf) lwFR lwGA.length lwGB.length 5 30 44 rdWA rdWB 14 183 63 63 rd_in rdo0 :=
  wDp (wWk (wFamE2 (V := [1, 0, 37]) (x_ov0_le sf) u_ctS lwFRok rdE0 (by decide) (by decide) (fun i hi u hu => by
      have hi : i ∈ ([1, 0, 37] : List Nat) := hi
      simp only [List.mem_cons, List.not_mem_nil, or_false] at hi
      rcases hi with rfl | rfl | rfl
      · cases hu
        exact wRkE_spec (x_ov0_le sf) u_ctS lwFRok rdE0R1
      · cases hu
        exact wRkE_spec (x_ov0_le sf) u_ctS lwFRok rdE0R0
      · cases hu
        exact wRkE_spec (x_ov0_le sf) u_ctS lwFRok rdE0R37)) (Nat.le_refl _) (Nat.le_refl _) (Nat.le_refl _) (by decide +kernel) (by decide +kernel)) (by decide) (by decide)
def rl_g0_nd : List wE := [rl_in, rl_cl, rl_cl_y0, rl_cl_y1, rl_cl_y2, rl_cl_y3, rl_cl_y4, rl_cl_y5, rl_cl_y6, rl_cl_y7, rl_cl_y8, rl_cl_y9, rl_cl_y10, rl_cl_y11, rl_cl_N, rl_op0, rl_op1, rl_op2, rl_op3, rl_op4, rl_op5, rl_op6, rl_op7, rl_op8, rl_op9, rl_op10, rl_op11]
theorem rl_g0_G {xs : Nat → Int32} {n : Nat} {sf : Option Nat} (hsf : sf = none ∨ sf = some 1200000) : ∀ nd ∈ rl_g0_nd, wGoes x_KT x_tb x_tyl (x_otS xs n sf) lwFR lwGA.length lwGB.length 6 30 44 rlWA rlWB 15 183 62 63 nd (rl_g0_ex.map (fun x => (false, x))) := wGraph (fun nd hnd => by
  have hnd : nd ∈ ([rl_in, rl_cl, rl_cl_y0, rl_cl_y1, rl_cl_y2, rl_cl_y3, rl_cl_y4, rl_cl_y5, rl_cl_y6, rl_cl_y7, rl_cl_y8, rl_cl_y9, rl_cl_y10, rl_cl_y11, rl_cl_N, rl_op0, rl_op1, rl_op2, rl_op3, rl_op4, rl_op5, rl_op6, rl_op7, rl_op8, rl_op9, rl_op10, rl_op11] : List wE) := hnd
  simp only [List.mem_cons, List.not_mem_nil, or_false] at hnd
  rcases hnd with rfl | rfl | rfl | rfl | rfl | rfl | rfl | rfl | rfl | rfl | rfl | rfl | rfl | rfl | rfl | rfl | rfl | rfl | rfl | rfl | rfl | rfl | rfl | rfl | rfl | rfl | rfl
  · refine ⟨rlo1, rlN1 hsf, fun o ho => ?_⟩
    have ho : o ∈ ([(true, rl_cl)] : List (Bool × wE)) := ho
    simp only [List.mem_cons, List.not_mem_nil, or_false] at ho
    rcases ho with rfl
    · exact Or.inr ⟨rfl, List.mem_cons_of_mem _ (List.mem_cons_self)⟩
  · refine ⟨rlo0, rlN0 hsf, fun o ho => ?_⟩
    have ho : o ∈ ([(true, rl_cl_y0), (true, rl_cl_y1), (true, rl_cl_y2), (true, rl_cl_y3), (true, rl_cl_y4), (true, rl_cl_y5), (true, rl_cl_y6), (true, rl_cl_y7), (true, rl_cl_y8), (true, rl_cl_y9), (true, rl_cl_y10), (true, rl_cl_y11), (true, rl_cl_N)] : List (Bool × wE)) := ho
    simp only [List.mem_cons, List.not_mem_nil, or_false] at ho
    rcases ho with rfl | rfl | rfl | rfl | rfl | rfl | rfl | rfl | rfl | rfl | rfl | rfl | rfl
    · exact Or.inr ⟨rfl, List.mem_cons_of_mem _ (List.mem_cons_of_mem _ (List.mem_cons_self))⟩
    · exact Or.inr ⟨rfl, List.mem_cons_of_mem _ (List.mem_cons_of_mem _ (List.mem_cons_of_mem _ (List.mem_cons_self)))⟩
    · exact Or.inr ⟨rfl, List.mem_cons_of_mem _ (List.mem_cons_of_mem _ (List.mem_cons_of_mem _ (List.mem_cons_of_mem _ (List.mem_cons_self))))⟩
    · exact Or.inr ⟨rfl, List.mem_cons_of_mem _ (List.mem_cons_of_mem _ (List.mem_cons_of_mem _ (List.mem_cons_of_mem _ (List.mem_cons_of_mem _ (List.mem_cons_self)))))⟩
    · exact Or.inr ⟨rfl, List.mem_cons_of_mem _ (List.mem_cons_of_mem _ (List.mem_cons_of_mem _ (List.mem_cons_of_mem _ (List.mem_cons_of_mem _ (List.mem_cons_of_mem _ (List.mem_cons_self))))))⟩
    · exact Or.inr ⟨rfl, List.mem_cons_of_mem _ (List.mem_cons_of_mem _ (List.mem_cons_of_mem _ (List.mem_cons_of_mem _ (List.mem_cons_of_mem _ (List.mem_cons_of_mem _ (List.mem_cons_of_mem _ (List.mem_cons_self)))))))⟩
    · exact Or.inr ⟨rfl, List.mem_cons_of_mem _ (List.mem_cons_of_mem _ (List.mem_cons_of_mem _ (List.mem_cons_of_mem _ (List.mem_cons_of_mem _ (List.mem_cons_of_mem _ (List.mem_cons_of_mem _ (List.mem_cons_of_mem _ (List.mem_cons_self))))))))⟩
    · exact Or.inr ⟨rfl, List.mem_cons_of_mem _ (List.mem_cons_of_mem _ (List.mem_cons_of_mem _ (List.mem_cons_of_mem _ (List.mem_cons_of_mem _ (List.mem_cons_of_mem _ (List.mem_cons_of_mem _ (List.mem_cons_of_mem _ (List.mem_cons_of_mem _ (List.mem_cons_self)))))))))⟩
    · exact Or.inr ⟨rfl, List.mem_cons_of_mem _ (List.mem_cons_of_mem _ (List.mem_cons_of_mem _ (List.mem_cons_of_mem _ (List.mem_cons_of_mem _ (List.mem_cons_of_mem _ (List.mem_cons_of_mem _ (List.mem_cons_of_mem _ (List.mem_cons_of_mem _ (List.mem_cons_of_mem _ (List.mem_cons_self))))))))))⟩
    · exact Or.inr ⟨rfl, List.mem_cons_of_mem _ (List.mem_cons_of_mem _ (List.mem_cons_of_mem _ (List.mem_cons_of_mem _ (List.mem_cons_of_mem _ (List.mem_cons_of_mem _ (List.mem_cons_of_mem _ (List.mem_cons_of_mem _ (List.mem_cons_of_mem _ (List.mem_cons_of_mem _ (List.mem_cons_of_mem _ (List.mem_cons_self)))))))))))⟩
    · exact Or.inr ⟨rfl, List.mem_cons_of_mem _ (List.mem_cons_of_mem _ (List.mem_cons_of_mem _ (List.mem_cons_of_mem _ (List.mem_cons_of_mem _ (List.mem_cons_of_mem _ (List.mem_cons_of_mem _ (List.mem_cons_of_mem _ (List.mem_cons_of_mem _ (List.mem_cons_of_mem _ (List.mem_cons_of_mem _ (List.mem_cons_of_mem _ (List.mem_cons_self))))))))))))⟩
    · exact Or.inr ⟨rfl, List.mem_cons_of_mem _ (List.mem_cons_of_mem _ (List.mem_cons_of_mem _ (List.mem_cons_of_mem _ (List.mem_cons_of_mem _ (List.mem_cons_of_mem _ (List.mem_cons_of_mem _ (List.mem_cons_of_mem _ (List.mem_cons_of_mem _ (List.mem_cons_of_mem _ (List.mem_cons_of_mem _ (List.mem_cons_of_mem _ (List.mem_cons_of_mem _ (List.mem_cons_self)))))))))))))⟩
    · exact Or.inr ⟨rfl, List.mem_cons_of_mem _ (List.mem_cons_of_mem _ (List.mem_cons_of_mem _ (List.mem_cons_of_mem _ (List.mem_cons_of_mem _ (List.mem_cons_of_mem _ (List.mem_cons_of_mem _ (List.mem_cons_of_mem _ (List.mem_cons_of_mem _ (List.mem_cons_of_mem _ (List.mem_cons_of_mem _ (List.mem_cons_of_mem _ (List.mem_cons_of_mem _ (List.mem_cons_of_mem _ (List.mem_cons_self))))))))))))))⟩
  · refine ⟨rlo2, rlN2 hsf, fun o ho => ?_⟩
    have ho : o ∈ ([(true, rl_op0)] : List (Bool × wE)) := ho
    simp only [List.mem_cons, List.not_mem_nil, or_false] at ho
    rcases ho with rfl
    · exact Or.inr ⟨rfl, List.mem_cons_of_mem _ (List.mem_cons_of_mem _ (List.mem_cons_of_mem _ (List.mem_cons_of_mem _ (List.mem_cons_of_mem _ (List.mem_cons_of_mem _ (List.mem_cons_of_mem _ (List.mem_cons_of_mem _ (List.mem_cons_of_mem _ (List.mem_cons_of_mem _ (List.mem_cons_of_mem _ (List.mem_cons_of_mem _ (List.mem_cons_of_mem _ (List.mem_cons_of_mem _ (List.mem_cons_of_mem _ (List.mem_cons_self)))))))))))))))⟩
  · refine ⟨rlo3, rlN3 hsf, fun o ho => ?_⟩
    have ho : o ∈ ([(true, rl_op1)] : List (Bool × wE)) := ho
    simp only [List.mem_cons, List.not_mem_nil, or_false] at ho
    rcases ho with rfl
    · exact Or.inr ⟨rfl, List.mem_cons_of_mem _ (List.mem_cons_of_mem _ (List.mem_cons_of_mem _ (List.mem_cons_of_mem _ (List.mem_cons_of_mem _ (List.mem_cons_of_mem _ (List.mem_cons_of_mem _ (List.mem_cons_of_mem _ (List.mem_cons_of_mem _ (List.mem_cons_of_mem _ (List.mem_cons_of_mem _ (List.mem_cons_of_mem _ (List.mem_cons_of_mem _ (List.mem_cons_of_mem _ (List.mem_cons_of_mem _ (List.mem_cons_of_mem _ (List.mem_cons_self))))))))))))))))⟩
  · refine ⟨rlo4, rlN4 hsf, fun o ho => ?_⟩
    have ho : o ∈ ([(true, rl_op2)] : List (Bool × wE)) := ho
    simp only [List.mem_cons, List.not_mem_nil, or_false] at ho
    rcases ho with rfl
    · exact Or.inr ⟨rfl, List.mem_cons_of_mem _ (List.mem_cons_of_mem _ (List.mem_cons_of_mem _ (List.mem_cons_of_mem _ (List.mem_cons_of_mem _ (List.mem_cons_of_mem _ (List.mem_cons_of_mem _ (List.mem_cons_of_mem _ (List.mem_cons_of_mem _ (List.mem_cons_of_mem _ (List.mem_cons_of_mem _ (List.mem_cons_of_mem _ (List.mem_cons_of_mem _ (List.mem_cons_of_mem _ (List.mem_cons_of_mem _ (List.mem_cons_of_mem _ (List.mem_cons_of_mem _ (List.mem_cons_self)))))))))))))))))⟩
  · refine ⟨rlo5, rlN5 hsf, fun o ho => ?_⟩
    have ho : o ∈ ([(true, rl_op3)] : List (Bool × wE)) := ho
    simp only [List.mem_cons, List.not_mem_nil, or_false] at ho
    rcases ho with rfl
    · exact Or.inr ⟨rfl, List.mem_cons_of_mem _ (List.mem_cons_of_mem _ (List.mem_cons_of_mem _ (List.mem_cons_of_mem _ (List.mem_cons_of_mem _ (List.mem_cons_of_mem _ (List.mem_cons_of_mem _ (List.mem_cons_of_mem _ (List.mem_cons_of_mem _ (List.mem_cons_of_mem _ (List.mem_cons_of_mem _ (List.mem_cons_of_mem _ (List.mem_cons_of_mem _ (List.mem_cons_of_mem _ (List.mem_cons_of_mem _ (List.mem_cons_of_mem _ (List.mem_cons_of_mem _ (List.mem_cons_of_mem _ (List.mem_cons_self))))))))))))))))))⟩
  · refine ⟨rlo6, rlN6 hsf, fun o ho => ?_⟩
    have ho : o ∈ ([(true, rl_op4)] : List (Bool × wE)) := ho
    simp only [List.mem_cons, List.not_mem_nil, or_false] at ho
    rcases ho with rfl
    · exact Or.inr ⟨rfl, List.mem_cons_of_mem _ (List.mem_cons_of_mem _ (List.mem_cons_of_mem _ (List.mem_cons_of_mem _ (List.mem_cons_of_mem _ (List.mem_cons_of_mem _ (List.mem_cons_of_mem _ (List.mem_cons_of_mem _ (List.mem_cons_of_mem _ (List.mem_cons_of_mem _ (List.mem_cons_of_mem _ (List.mem_cons_of_mem _ (List.mem_cons_of_mem _ (List.mem_cons_of_mem _ (List.mem_cons_of_mem _ (List.mem_cons_of_mem _ (List.mem_cons_of_mem _ (List.mem_cons_of_mem _ (List.mem_cons_of_mem _ (List.mem_cons_self)))))))))))))))))))⟩
  · refine ⟨rlo7, rlN7 hsf, fun o ho => ?_⟩
    have ho : o ∈ ([(true, rl_op5)] : List (Bool × wE)) := ho
    simp only [List.mem_cons, List.not_mem_nil, or_false] at ho
    rcases ho with rfl
    · exact Or.inr ⟨rfl, List.mem_cons_of_mem _ (List.mem_cons_of_mem _ (List.mem_cons_of_mem _ (List.mem_cons_of_mem _ (List.mem_cons_of_mem _ (List.mem_cons_of_mem _ (List.mem_cons_of_mem _ (List.mem_cons_of_mem _ (List.mem_cons_of_mem _ (List.mem_cons_of_mem _ (List.mem_cons_of_mem _ (List.mem_cons_of_mem _ (List.mem_cons_of_mem _ (List.mem_cons_of_mem _ (List.mem_cons_of_mem _ (List.mem_cons_of_mem _ (List.mem_cons_of_mem _ (List.mem_cons_of_mem _ (List.mem_cons_of_mem _ (List.mem_cons_of_mem _ (List.mem_cons_self))))))))))))))))))))⟩
  · refine ⟨rlo8, rlN8 hsf, fun o ho => ?_⟩
    have ho : o ∈ ([(true, rl_op6)] : List (Bool × wE)) := ho
    simp only [List.mem_cons, List.not_mem_nil, or_false] at ho
    rcases ho with rfl
    · exact Or.inr ⟨rfl, List.mem_cons_of_mem _ (List.mem_cons_of_mem _ (List.mem_cons_of_mem _ (List.mem_cons_of_mem _ (List.mem_cons_of_mem _ (List.mem_cons_of_mem _ (List.mem_cons_of_mem _ (List.mem_cons_of_mem _ (List.mem_cons_of_mem _ (List.mem_cons_of_mem _ (List.mem_cons_of_mem _ (List.mem_cons_of_mem _ (List.mem_cons_of_mem _ (List.mem_cons_of_mem _ (List.mem_cons_of_mem _ (List.mem_cons_of_mem _ (List.mem_cons_of_mem _ (List.mem_cons_of_mem _ (List.mem_cons_of_mem _ (List.mem_cons_of_mem _ (List.mem_cons_of_mem _ (List.mem_cons_self)))))))))))))))))))))⟩
  · refine ⟨rlo9, rlN9 hsf, fun o ho => ?_⟩
    have ho : o ∈ ([(true, rl_op7)] : List (Bool × wE)) := ho
    simp only [List.mem_cons, List.not_mem_nil, or_false] at ho
    rcases ho with rfl
    · exact Or.inr ⟨rfl, List.mem_cons_of_mem _ (List.mem_cons_of_mem _ (List.mem_cons_of_mem _ (List.mem_cons_of_mem _ (List.mem_cons_of_mem _ (List.mem_cons_of_mem _ (List.mem_cons_of_mem _ (List.mem_cons_of_mem _ (List.mem_cons_of_mem _ (List.mem_cons_of_mem _ (List.mem_cons_of_mem _ (List.mem_cons_of_mem _ (List.mem_cons_of_mem _ (List.mem_cons_of_mem _ (List.mem_cons_of_mem _ (List.mem_cons_of_mem _ (List.mem_cons_of_mem _ (List.mem_cons_of_mem _ (List.mem_cons_of_mem _ (List.mem_cons_of_mem _ (List.mem_cons_of_mem _ (List.mem_cons_of_mem _ (List.mem_cons_self))))))))))))))))))))))⟩
  · refine ⟨rlo10, rlN10 hsf, fun o ho => ?_⟩
    have ho : o ∈ ([(true, rl_op8)] : List (Bool × wE)) := ho
    simp only [List.mem_cons, List.not_mem_nil, or_false] at ho
    rcases ho with rfl
    · exact Or.inr ⟨rfl, List.mem_cons_of_mem _ (List.mem_cons_of_mem _ (List.mem_cons_of_mem _ (List.mem_cons_of_mem _ (List.mem_cons_of_mem _ (List.mem_cons_of_mem _ (List.mem_cons_of_mem _ (List.mem_cons_of_mem _ (List.mem_cons_of_mem _ (List.mem_cons_of_mem _ (List.mem_cons_of_mem _ (List.mem_cons_of_mem _ (List.mem_cons_of_mem _ (List.mem_cons_of_mem _ (List.mem_cons_of_mem _ (List.mem_cons_of_mem _ (List.mem_cons_of_mem _ (List.mem_cons_of_mem _ (List.mem_cons_of_mem _ (List.mem_cons_of_mem _ (List.mem_cons_of_mem _ (List.mem_cons_of_mem _ (List.mem_cons_of_mem _ (List.mem_cons_self)))))))))))))))))))))))⟩
  · refine ⟨rlo11, rlN11 hsf, fun o ho => ?_⟩
    have ho : o ∈ ([(true, rl_op9)] : List (Bool × wE)) := ho
    simp only [List.mem_cons, List.not_mem_nil, or_false] at ho
    rcases ho with rfl
    · exact Or.inr ⟨rfl, List.mem_cons_of_mem _ (List.mem_cons_of_mem _ (List.mem_cons_of_mem _ (List.mem_cons_of_mem _ (List.mem_cons_of_mem _ (List.mem_cons_of_mem _ (List.mem_cons_of_mem _ (List.mem_cons_of_mem _ (List.mem_cons_of_mem _ (List.mem_cons_of_mem _ (List.mem_cons_of_mem _ (List.mem_cons_of_mem _ (List.mem_cons_of_mem _ (List.mem_cons_of_mem _ (List.mem_cons_of_mem _ (List.mem_cons_of_mem _ (List.mem_cons_of_mem _ (List.mem_cons_of_mem _ (List.mem_cons_of_mem _ (List.mem_cons_of_mem _ (List.mem_cons_of_mem _ (List.mem_cons_of_mem _ (List.mem_cons_of_mem _ (List.mem_cons_of_mem _ (List.mem_cons_self))))))))))))))))))))))))⟩
  · refine ⟨rlo12, rlN12 hsf, fun o ho => ?_⟩
    have ho : o ∈ ([(true, rl_op10)] : List (Bool × wE)) := ho
    simp only [List.mem_cons, List.not_mem_nil, or_false] at ho
    rcases ho with rfl
    · exact Or.inr ⟨rfl, List.mem_cons_of_mem _ (List.mem_cons_of_mem _ (List.mem_cons_of_mem _ (List.mem_cons_of_mem _ (List.mem_cons_of_mem _ (List.mem_cons_of_mem _ (List.mem_cons_of_mem _ (List.mem_cons_of_mem _ (List.mem_cons_of_mem _ (List.mem_cons_of_mem _ (List.mem_cons_of_mem _ (List.mem_cons_of_mem _ (List.mem_cons_of_mem _ (List.mem_cons_of_mem _ (List.mem_cons_of_mem _ (List.mem_cons_of_mem _ (List.mem_cons_of_mem _ (List.mem_cons_of_mem _ (List.mem_cons_of_mem _ (List.mem_cons_of_mem _ (List.mem_cons_of_mem _ (List.mem_cons_of_mem _ (List.mem_cons_of_mem _ (List.mem_cons_of_mem _ (List.mem_cons_of_mem _ (List.mem_cons_self)))))))))))))))))))))))))⟩
  · refine ⟨rlo13, rlN13 hsf, fun o ho => ?_⟩
    have ho : o ∈ ([(true, rl_op11)] : List (Bool × wE)) := ho
    simp only [List.mem_cons, List.not_mem_nil, or_false] at ho
    rcases ho with rfl
    · exact Or.inr ⟨rfl, List.mem_cons_of_mem _ (List.mem_cons_of_mem _ (List.mem_cons_of_mem _ (List.mem_cons_of_mem _ (List.mem_cons_of_mem _ (List.mem_cons_of_mem _ (List.mem_cons_of_mem _ (List.mem_cons_of_mem _ (List.mem_cons_of_mem _ (List.mem_cons_of_mem _ (List.mem_cons_of_mem _ (List.mem_cons_of_mem _ (List.mem_cons_of_mem _ (List.mem_cons_of_mem _ (List.mem_cons_of_mem _ (List.mem_cons_of_mem _ (List.mem_cons_of_mem _ (List.mem_cons_of_mem _ (List.mem_cons_of_mem _ (List.mem_cons_of_mem _ (List.mem_cons_of_mem _ (List.mem_cons_of_mem _ (List.mem_cons_of_mem _ (List.mem_cons_of_mem _ (List.mem_cons_of_mem _ (List.mem_cons_of_mem _ (List.mem_cons_self))))))))))))))))))))))))))⟩
  · refine ⟨rlo14, rlN14 hsf, fun o ho => ?_⟩
    have ho : o ∈ ([(false, rl_end)] : List (Bool × wE)) := ho
    simp only [List.mem_cons, List.not_mem_nil, or_false] at ho
    rcases ho with rfl
    · exact Or.inl (List.mem_cons_of_mem _ (List.mem_cons_self))
  · refine ⟨rlo15, rlN15 hsf, fun o ho => ?_⟩
    have ho : o ∈ ([(false, rl_yes)] : List (Bool × wE)) := ho
    simp only [List.mem_cons, List.not_mem_nil, or_false] at ho
    rcases ho with rfl
    · exact Or.inl (List.mem_cons_self)
  · refine ⟨rlo16, rlN16 hsf, fun o ho => ?_⟩
    have ho : o ∈ ([(false, rl_yes)] : List (Bool × wE)) := ho
    simp only [List.mem_cons, List.not_mem_nil, or_false] at ho
    rcases ho with rfl
    · exact Or.inl (List.mem_cons_self)
  · refine ⟨rlo17, rlN17 hsf, fun o ho => ?_⟩
    have ho : o ∈ ([(false, rl_yes)] : List (Bool × wE)) := ho
    simp only [List.mem_cons, List.not_mem_nil, or_false] at ho
    rcases ho with rfl
    · exact Or.inl (List.mem_cons_self)
  · refine ⟨rlo18, rlN18 hsf, fun o ho => ?_⟩
    have ho : o ∈ ([(false, rl_yes)] : List (Bool × wE)) := ho
    simp only [List.mem_cons, List.not_mem_nil, or_false] at ho
    rcases ho with rfl
    · exact Or.inl (List.mem_cons_self)
  · refine ⟨rlo19, rlN19 hsf, fun o ho => ?_⟩
    have ho : o ∈ ([(false, rl_yes)] : List (Bool × wE)) := ho
    simp only [List.mem_cons, List.not_mem_nil, or_false] at ho
    rcases ho with rfl
    · exact Or.inl (List.mem_cons_self)
  · refine ⟨rlo20, rlN20 hsf, fun o ho => ?_⟩
    have ho : o ∈ ([(false, rl_yes)] : List (Bool × wE)) := ho
    simp only [List.mem_cons, List.not_mem_nil, or_false] at ho
    rcases ho with rfl
    · exact Or.inl (List.mem_cons_self)
  · refine ⟨rlo21, rlN21 hsf, fun o ho => ?_⟩
    have ho : o ∈ ([(false, rl_yes)] : List (Bool × wE)) := ho
    simp only [List.mem_cons, List.not_mem_nil, or_false] at ho
    rcases ho with rfl
    · exact Or.inl (List.mem_cons_self)
  · refine ⟨rlo22, rlN22 hsf, fun o ho => ?_⟩
    have ho : o ∈ ([(false, rl_yes)] : List (Bool × wE)) := ho
    simp only [List.mem_cons, List.not_mem_nil, or_false] at ho
    rcases ho with rfl
    · exact Or.inl (List.mem_cons_self)
  · refine ⟨rlo23, rlN23 hsf, fun o ho => ?_⟩
    have ho : o ∈ ([(false, rl_yes)] : List (Bool × wE)) := ho
    simp only [List.mem_cons, List.not_mem_nil, or_false] at ho
    rcases ho with rfl
    · exact Or.inl (List.mem_cons_self)
  · refine ⟨rlo24, rlN24 hsf, fun o ho => ?_⟩
    have ho : o ∈ ([(false, rl_yes)] : List (Bool × wE)) := ho
    simp only [List.mem_cons, List.not_mem_nil, or_false] at ho
    rcases ho with rfl
    · exact Or.inl (List.mem_cons_self)
  · refine ⟨rlo25, rlN25 hsf, fun o ho => ?_⟩
    have ho : o ∈ ([(false, rl_yes)] : List (Bool × wE)) := ho
    simp only [List.mem_cons, List.not_mem_nil, or_false] at ho
    rcases ho with rfl
    · exact Or.inl (List.mem_cons_self)
  · refine ⟨rlo26, rlN26 hsf, fun o ho => ?_⟩
    have ho : o ∈ ([(false, rl_yes)] : List (Bool × wE)) := ho
    simp only [List.mem_cons, List.not_mem_nil, or_false] at ho
    rcases ho with rfl
    · exact Or.inl (List.mem_cons_self))
theorem rdN1 {xs : Nat → Int32} {n : Nat} {sf : Option Nat} (hsf : sf = none ∨ sf = some 1200000) : wGoes x_KT x_tb x_tyl (x_otS xs n sf) lwFR lwGA.length lwGB.length 5 30 44 rdWA rdWB 14 183 63 63 rd_cl rdo1 :=
  wDp (wWk (wEqvB (wCallA (recv := 1) (pc := 20) (ix := 25) (nx := 3) (args := [.inr (some 25)]) (rest := []) (LE := [(0, .inr (some 1)), (1, .inr (some 25)), (2, .inl (lSy 5))]) (cE := (lK 0)) (sE := (lK 0)) (wReL (XA := rdX1.2.1) (XB := rdX1.2.2.1) (XC := rdX1.2.2.2.1) (rk := rdX1.2.2.2.2) (rA := rdQA1) (rB := rdQB1) (rl_g0_G hsf _ List.mem_cons_self) rdL1) gq14 gq15 (by decide +kernel) (by decide +kernel) (by decide +kernel) (by decide +kernel) (by decide +kernel)) (by decide +kernel) (by decide +kernel)) (by decide) (by decide) (by decide) (by decide +kernel) (by decide +kernel)) (by decide) (by decide)
theorem rdN2 {xs : Nat → Int32} {n : Nat} {sf : Option Nat} (hsf : sf = none ∨ sf = some 1200000) : wGoes x_KT x_tb x_tyl (x_otS xs n sf) lwFR lwGA.length lwGB.length 5 30 44 rdWA rdWB 14 183 63 63 rd_lp rdo2 :=
  wDp (wWk (wEd_spec (x_ov0_le sf) u_ctS lwFRok rdE2) (Nat.le_refl _) (Nat.le_refl _) (Nat.le_refl _) (by decide +kernel) (by decide +kernel)) (by decide) (by decide)
theorem rdN3 {xs : Nat → Int32} {n : Nat} {sf : Option Nat} (hsf : sf = none ∨ sf = some 1200000) : wGoes x_KT x_tb x_tyl (x_otS xs n sf) lwFR lwGA.length lwGB.length 5 30 44 rdWA rdWB 14 183 63 63 rd_cl_yes rdo3 :=
  wDp (wWk (wEd_spec (x_ov0_le sf) u_ctS lwFRok rdE3) (Nat.le_refl _) (Nat.le_refl _) (Nat.le_refl _) (by decide +kernel) (by decide +kernel)) (by decide) (by decide)
theorem rdN4 {xs : Nat → Int32} {n : Nat} {sf : Option Nat} (hsf : sf = none ∨ sf = some 1200000) : wGoes x_KT x_tb x_tyl (x_otS xs n sf) lwFR lwGA.length lwGB.length 5 30 44 rdWA rdWB 14 183 63 63 rd_cl_end rdo4 :=
  wDp (wWk (wEd_spec (x_ov0_le sf) u_ctS lwFRok rdE4) (Nat.le_refl _) (Nat.le_refl _) (Nat.le_refl _) (by decide +kernel) (by decide +kernel)) (by decide) (by decide)
set_option maxRecDepth 1000000 in
theorem gq13 : tMth x_tb 13 = some xm13 := rfl
set_option maxRecDepth 1000000 in
theorem gq182 : tMth x_tb 182 = some xm182 := rfl
def rd_g0_nd : List wE := [rd_in, rd_lp, rd_cl, rd_cl_yes, rd_cl_end]
theorem rd_g0_G {xs : Nat → Int32} {n : Nat} {sf : Option Nat} (hsf : sf = none ∨ sf = some 1200000) : ∀ nd ∈ rd_g0_nd, wGoes x_KT x_tb x_tyl (x_otS xs n sf) lwFR lwGA.length lwGB.length 5 30 44 rdWA rdWB 14 183 63 63 nd (rd_g0_ex.map (fun x => (false, x))) := wGraph (fun nd hnd => by
  have hnd : nd ∈ ([rd_in, rd_lp, rd_cl, rd_cl_yes, rd_cl_end] : List wE) := hnd
  simp only [List.mem_cons, List.not_mem_nil, or_false] at hnd
  rcases hnd with rfl | rfl | rfl | rfl | rfl
  · refine ⟨rdo0, rdN0 hsf, fun o ho => ?_⟩
    have ho : o ∈ ([(true, rd_lp)] : List (Bool × wE)) := ho
    simp only [List.mem_cons, List.not_mem_nil, or_false] at ho
    rcases ho with rfl
    · exact Or.inr ⟨rfl, List.mem_cons_of_mem _ (List.mem_cons_self)⟩
  · refine ⟨rdo2, rdN2 hsf, fun o ho => ?_⟩
    have ho : o ∈ ([(true, rd_cl)] : List (Bool × wE)) := ho
    simp only [List.mem_cons, List.not_mem_nil, or_false] at ho
    rcases ho with rfl
    · exact Or.inr ⟨rfl, List.mem_cons_of_mem _ (List.mem_cons_of_mem _ (List.mem_cons_self))⟩
  · refine ⟨rdo1, rdN1 hsf, fun o ho => ?_⟩
    have ho : o ∈ ([(true, rd_cl_yes), (true, rd_cl_end)] : List (Bool × wE)) := ho
    simp only [List.mem_cons, List.not_mem_nil, or_false] at ho
    rcases ho with rfl | rfl
    · exact Or.inr ⟨rfl, List.mem_cons_of_mem _ (List.mem_cons_of_mem _ (List.mem_cons_of_mem _ (List.mem_cons_self)))⟩
    · exact Or.inr ⟨rfl, List.mem_cons_of_mem _ (List.mem_cons_of_mem _ (List.mem_cons_of_mem _ (List.mem_cons_of_mem _ (List.mem_cons_self))))⟩
  · refine ⟨rdo3, rdN3 hsf, fun o ho => ?_⟩
    have ho : o ∈ ([(true, rd_lp), (false, rd_ok), (false, rd_no)] : List (Bool × wE)) := ho
    simp only [List.mem_cons, List.not_mem_nil, or_false] at ho
    rcases ho with rfl | rfl | rfl
    · exact Or.inr ⟨rfl, List.mem_cons_of_mem _ (List.mem_cons_self)⟩
    · exact Or.inl (List.mem_cons_self)
    · exact Or.inl (List.mem_cons_of_mem _ (List.mem_cons_self))
  · refine ⟨rdo4, rdN4 hsf, fun o ho => ?_⟩
    have ho : o ∈ ([(false, rd_no)] : List (Bool × wE)) := ho
    simp only [List.mem_cons, List.not_mem_nil, or_false] at ho
    rcases ho with rfl
    · exact Or.inl (List.mem_cons_of_mem _ (List.mem_cons_self)))
theorem programN0 {xs : Nat → Int32} {n : Nat} {sf : Option Nat} (hsf : sf = none ∨ sf = some 1200000) : wGoes x_KT x_tb x_tyl (x_otS xs n sf) lwFR lwGA.length lwGB.length 5 25 43 programWA programWB 13 182 64 64 program_cl programo0 :=
  wDp (wWk (wEqvB (wCallB (recv := 0) (pc := 17) (ix := 268) (nx := 3) (args := [.inl (lSy 3)]) (rest := []) (LE := [(0, .inr (some 0))]) (cE := (lK 0)) (sE := (lK 0)) (wCallA (recv := 1) (pc := 20) (ix := 110) (nx := 3) (args := [.inr (some 25)]) (rest := []) (LE := [(0, .inr (some 0))]) (cE := (lK 0)) (sE := (lK 0)) (wReL (XA := programX0.2.1) (XB := programX0.2.2.1) (XC := programX0.2.2.2.1) (rk := programX0.2.2.2.2) (rA := programQA0) (rB := programQB0) (rd_g0_G hsf _ List.mem_cons_self) programL0) gq13 gq14 (by decide +kernel) (by decide +kernel) (by decide +kernel) (by decide +kernel) (by decide +kernel)) gq182 gq183 (by decide +kernel) (by decide +kernel) (by decide +kernel) (by decide +kernel) (by decide +kernel)) (by decide +kernel) (by decide +kernel)) (by decide) (by decide) (by decide) (by decide +kernel) (by decide +kernel)) (by decide) (by decide)
theorem programN1 {xs : Nat → Int32} {n : Nat} {sf : Option Nat} (hsf : sf = none ∨ sf = some 1200000) : wGoes x_KT x_tb x_tyl (x_otS xs n sf) lwFR lwGA.length lwGB.length 5 25 43 programWA programWB 13 182 64 64 program_in programo1 :=
  wDp (wWk (wEd_spec (x_ov0_le sf) u_ctS lwFRok programE1) (Nat.le_refl _) (Nat.le_refl _) (Nat.le_refl _) (by decide +kernel) (by decide +kernel)) (by decide) (by decide)
theorem programN2 {xs : Nat → Int32} {n : Nat} {sf : Option Nat} (hsf : sf = none ∨ sf = some 1200000) : wGoes x_KT x_tb x_tyl (x_otS xs n sf) lwFR lwGA.length lwGB.length 5 25 43 programWA programWB 13 182 64 64 program_cl_no programo2 :=
  wDp (wWk (wEd_spec (x_ov0_le sf) u_ctS lwFRok programE2) (Nat.le_refl _) (Nat.le_refl _) (Nat.le_refl _) (by decide +kernel) (by decide +kernel)) (by decide) (by decide)
theorem programN3 {xs : Nat → Int32} {n : Nat} {sf : Option Nat} (hsf : sf = none ∨ sf = some 1200000) : wGoes x_KT x_tb x_tyl (x_otS xs n sf) lwFR lwGA.length lwGB.length 5 25 43 programWA programWB 13 182 64 64 program_cl_ok programo3 :=
  wDp (wWk (wFamE2 (V := [5, 6, 7, 8, 9, 10, 11, 15, 14, 27, 20, 1, 2, 0, 3, 12, 16, 18, 28]) (x_ov0_le sf) u_ctS lwFRok programE3 (by decide) (by decide) (fun i hi u hu => by
      have hi : i ∈ ([5, 6, 7, 8, 9, 10, 11, 15, 14, 27, 20, 1, 2, 0, 3, 12, 16, 18, 28] : List Nat) := hi
      simp only [List.mem_cons, List.not_mem_nil, or_false] at hi
      rcases hi with rfl | rfl | rfl | rfl | rfl | rfl | rfl | rfl | rfl | rfl | rfl | rfl | rfl | rfl | rfl | rfl | rfl | rfl | rfl
      · exact gRk_spec (x_ov0_le sf) u_ctS lwFRok programE3 (by decide) (by decide) programE3G0 (by decide +kernel) _ (List.mem_cons_self) u hu
      · exact gRk_spec (x_ov0_le sf) u_ctS lwFRok programE3 (by decide) (by decide) programE3G0 (by decide +kernel) _ (List.mem_cons_of_mem _ (List.mem_cons_self)) u hu
      · exact gRk_spec (x_ov0_le sf) u_ctS lwFRok programE3 (by decide) (by decide) programE3G0 (by decide +kernel) _ (List.mem_cons_of_mem _ (List.mem_cons_of_mem _ (List.mem_cons_self))) u hu
      · exact gRk_spec (x_ov0_le sf) u_ctS lwFRok programE3 (by decide) (by decide) programE3G0 (by decide +kernel) _ (List.mem_cons_of_mem _ (List.mem_cons_of_mem _ (List.mem_cons_of_mem _ (List.mem_cons_self)))) u hu
      · exact gRk_spec (x_ov0_le sf) u_ctS lwFRok programE3 (by decide) (by decide) programE3G0 (by decide +kernel) _ (List.mem_cons_of_mem _ (List.mem_cons_of_mem _ (List.mem_cons_of_mem _ (List.mem_cons_of_mem _ (List.mem_cons_self))))) u hu
      · exact gRk_spec (x_ov0_le sf) u_ctS lwFRok programE3 (by decide) (by decide) programE3G0 (by decide +kernel) _ (List.mem_cons_of_mem _ (List.mem_cons_of_mem _ (List.mem_cons_of_mem _ (List.mem_cons_of_mem _ (List.mem_cons_of_mem _ (List.mem_cons_self)))))) u hu
      · exact gRk_spec (x_ov0_le sf) u_ctS lwFRok programE3 (by decide) (by decide) programE3G0 (by decide +kernel) _ (List.mem_cons_of_mem _ (List.mem_cons_of_mem _ (List.mem_cons_of_mem _ (List.mem_cons_of_mem _ (List.mem_cons_of_mem _ (List.mem_cons_of_mem _ (List.mem_cons_self))))))) u hu
      · exact gRk_spec (x_ov0_le sf) u_ctS lwFRok programE3 (by decide) (by decide) programE3G0 (by decide +kernel) _ (List.mem_cons_of_mem _ (List.mem_cons_of_mem _ (List.mem_cons_of_mem _ (List.mem_cons_of_mem _ (List.mem_cons_of_mem _ (List.mem_cons_of_mem _ (List.mem_cons_of_mem _ (List.mem_cons_self)))))))) u hu
      · exact gRk_spec (x_ov0_le sf) u_ctS lwFRok programE3 (by decide) (by decide) programE3G0 (by decide +kernel) _ (List.mem_cons_of_mem _ (List.mem_cons_of_mem _ (List.mem_cons_of_mem _ (List.mem_cons_of_mem _ (List.mem_cons_of_mem _ (List.mem_cons_of_mem _ (List.mem_cons_of_mem _ (List.mem_cons_of_mem _ (List.mem_cons_self))))))))) u hu
      · exact gRk_spec (x_ov0_le sf) u_ctS lwFRok programE3 (by decide) (by decide) programE3G0 (by decide +kernel) _ (List.mem_cons_of_mem _ (List.mem_cons_of_mem _ (List.mem_cons_of_mem _ (List.mem_cons_of_mem _ (List.mem_cons_of_mem _ (List.mem_cons_of_mem _ (List.mem_cons_of_mem _ (List.mem_cons_of_mem _ (List.mem_cons_of_mem _ (List.mem_cons_self)))))))))) u hu
      · exact gRk_spec (x_ov0_le sf) u_ctS lwFRok programE3 (by decide) (by decide) programE3G0 (by decide +kernel) _ (List.mem_cons_of_mem _ (List.mem_cons_of_mem _ (List.mem_cons_of_mem _ (List.mem_cons_of_mem _ (List.mem_cons_of_mem _ (List.mem_cons_of_mem _ (List.mem_cons_of_mem _ (List.mem_cons_of_mem _ (List.mem_cons_of_mem _ (List.mem_cons_of_mem _ (List.mem_cons_self))))))))))) u hu
      · exact gRk_spec (x_ov0_le sf) u_ctS lwFRok programE3 (by decide) (by decide) programE3G1 (by decide +kernel) _ (List.mem_cons_self) u hu
      · exact gRk_spec (x_ov0_le sf) u_ctS lwFRok programE3 (by decide) (by decide) programE3G2 (by decide +kernel) _ (List.mem_cons_self) u hu
      · cases hu
        exact wRkE_spec (x_ov0_le sf) u_ctS lwFRok programE3R0
      · cases hu
        exact wRkE_spec (x_ov0_le sf) u_ctS lwFRok programE3R3
      · cases hu
        exact wRkE_spec (x_ov0_le sf) u_ctS lwFRok programE3R12
      · cases hu
        exact wRkE_spec (x_ov0_le sf) u_ctS lwFRok programE3R16
      · cases hu
        exact wRkE_spec (x_ov0_le sf) u_ctS lwFRok programE3R18
      · cases hu
        exact wRkE_spec (x_ov0_le sf) u_ctS lwFRok programE3R28)) (Nat.le_refl _) (Nat.le_refl _) (Nat.le_refl _) (by decide +kernel) (by decide +kernel)) (by decide) (by decide)
def program_g0_nd : List wE := [program_in, program_cl, program_cl_ok, program_cl_no]
theorem program_g0_G {xs : Nat → Int32} {n : Nat} {sf : Option Nat} (hsf : sf = none ∨ sf = some 1200000) : ∀ nd ∈ program_g0_nd, wGoes x_KT x_tb x_tyl (x_otS xs n sf) lwFR lwGA.length lwGB.length 5 25 43 programWA programWB 13 182 64 64 nd (program_g0_ex.map (fun x => (false, x))) := wGraph (fun nd hnd => by
  have hnd : nd ∈ ([program_in, program_cl, program_cl_ok, program_cl_no] : List wE) := hnd
  simp only [List.mem_cons, List.not_mem_nil, or_false] at hnd
  rcases hnd with rfl | rfl | rfl | rfl
  · refine ⟨programo1, programN1 hsf, fun o ho => ?_⟩
    have ho : o ∈ ([(true, program_cl), (false, program_full)] : List (Bool × wE)) := ho
    simp only [List.mem_cons, List.not_mem_nil, or_false] at ho
    rcases ho with rfl | rfl
    · exact Or.inr ⟨rfl, List.mem_cons_of_mem _ (List.mem_cons_self)⟩
    · exact Or.inl (List.mem_cons_self)
  · refine ⟨programo0, programN0 hsf, fun o ho => ?_⟩
    have ho : o ∈ ([(true, program_cl_ok), (true, program_cl_no)] : List (Bool × wE)) := ho
    simp only [List.mem_cons, List.not_mem_nil, or_false] at ho
    rcases ho with rfl | rfl
    · exact Or.inr ⟨rfl, List.mem_cons_of_mem _ (List.mem_cons_of_mem _ (List.mem_cons_self))⟩
    · exact Or.inr ⟨rfl, List.mem_cons_of_mem _ (List.mem_cons_of_mem _ (List.mem_cons_of_mem _ (List.mem_cons_self)))⟩
  · refine ⟨programo3, programN3 hsf, fun o ho => ?_⟩
    have ho : o ∈ ([(false, program_good)] : List (Bool × wE)) := ho
    simp only [List.mem_cons, List.not_mem_nil, or_false] at ho
    rcases ho with rfl
    · exact Or.inl (List.mem_cons_of_mem _ (List.mem_cons_of_mem _ (List.mem_cons_self)))
  · refine ⟨programo2, programN2 hsf, fun o ho => ?_⟩
    have ho : o ∈ ([(false, program_bad)] : List (Bool × wE)) := ho
    simp only [List.mem_cons, List.not_mem_nil, or_false] at ho
    rcases ho with rfl
    · exact Or.inl (List.mem_cons_of_mem _ (List.mem_cons_self)))
theorem programH {xs : Nat → Int32} {n : Nat} {sf : Option Nat} (hsf : sf = none ∨ sf = some 1200000) : wGoes x_KT x_tb x_tyl (x_otS xs n sf) lwFS lwGA.length lwGB.length 5 25 43 programWA programWB 13 182 64 64 program_in (programOX.map (fun x => x.1)) :=
  wFSr (FS := lwFR) (nh := 33) (wFam (V := []) lwFRok (by decide +kernel) (by decide +kernel) (program_g0_G hsf program_in List.mem_cons_self) (by decide) (by decide) (fun i hi u hu => by
  have hi : i ∈ ([] : List Nat) := hi
  simp only [List.mem_cons, List.not_mem_nil, or_false] at hi)) lwFRp (by decide) (by decide +kernel)
theorem programPP {xs : Nat → Int32} {n : Nat} {sf : Option Nat} (hsf : sf = none ∨ sf = some 1200000) : bPP x_KT x_tb x_tyl (x_otS xs n sf) lwN lwP 1299 13 182 0 (mMc xm13 + mMc xm182) (mRc xm13) (mRc xm182) True :=
  wBlk lwFok lwFB uKa uKb (by decide +kernel) (by decide +kernel) uKdj uKj programbc (programH hsf) gq13 gq182 (by decide) (by decide) (uKeep (by decide +kernel)) (by decide +kernel) (by decide +kernel) (by decide +kernel)
set_option maxRecDepth 1000000 in
theorem gq52 : tMth x_tb 52 = some xm52 := rfl
set_option maxRecDepth 1000000 in
theorem gq216 : tMth x_tb 216 = some xm216 := rfl
theorem setN0 {xs : Nat → Int32} {n : Nat} {sf : Option Nat} : wGoes x_KT x_tb x_tyl (x_otS xs n sf) lwFR lwGA.length lwGB.length 5 25 43 setWA setWB 52 216 60 60 set_in seto0 :=
  wDp (wWk (wEd_spec (x_ov0_le sf) u_ctS lwFRok setE0) (Nat.le_refl _) (Nat.le_refl _) (Nat.le_refl _) (by decide +kernel) (by decide +kernel)) (by decide) (by decide)
theorem setN1 {xs : Nat → Int32} {n : Nat} {sf : Option Nat} : wGoes x_KT x_tb x_tyl (x_otS xs n sf) lwFR lwGA.length lwGB.length 5 25 43 setWA setWB 52 216 60 60 set_m0 seto1 :=
  wDp (wWk (wFamE2 (V := [0]) (x_ov0_le sf) u_ctS lwFRok setE1 (by decide) (by decide) (fun i hi u hu => by
      have hi : i ∈ ([0] : List Nat) := hi
      simp only [List.mem_cons, List.not_mem_nil, or_false] at hi
      rcases hi with rfl
      · cases hu
        exact wRkE_spec (x_ov0_le sf) u_ctS lwFRok setE1R0)) (Nat.le_refl _) (Nat.le_refl _) (Nat.le_refl _) (by decide +kernel) (by decide +kernel)) (by decide) (by decide)
theorem setN2 {xs : Nat → Int32} {n : Nat} {sf : Option Nat} : wGoes x_KT x_tb x_tyl (x_otS xs n sf) lwFR lwGA.length lwGB.length 5 25 43 setWA setWB 52 216 60 60 set_m1 seto2 :=
  wDp (wWk (wFamE2 (V := [0]) (x_ov0_le sf) u_ctS lwFRok setE2 (by decide) (by decide) (fun i hi u hu => by
      have hi : i ∈ ([0] : List Nat) := hi
      simp only [List.mem_cons, List.not_mem_nil, or_false] at hi
      rcases hi with rfl
      · cases hu
        exact wRkE_spec (x_ov0_le sf) u_ctS lwFRok setE2R0)) (Nat.le_refl _) (Nat.le_refl _) (Nat.le_refl _) (by decide +kernel) (by decide +kernel)) (by decide) (by decide)
def set_g0_nd : List wE := [set_in, set_m0, set_m1]
theorem set_g0_G {xs : Nat → Int32} {n : Nat} {sf : Option Nat} : ∀ nd ∈ set_g0_nd, wGoes x_KT x_tb x_tyl (x_otS xs n sf) lwFR lwGA.length lwGB.length 5 25 43 setWA setWB 52 216 60 60 nd (set_g0_ex.map (fun x => (false, x))) := wGraph (fun nd hnd => by
  have hnd : nd ∈ ([set_in, set_m0, set_m1] : List wE) := hnd
  simp only [List.mem_cons, List.not_mem_nil, or_false] at hnd
  rcases hnd with rfl | rfl | rfl
  · refine ⟨seto0, setN0, fun o ho => ?_⟩
    have ho : o ∈ ([(true, set_m0), (true, set_m1), (false, set_out)] : List (Bool × wE)) := ho
    simp only [List.mem_cons, List.not_mem_nil, or_false] at ho
    rcases ho with rfl | rfl | rfl
    · exact Or.inr ⟨rfl, List.mem_cons_of_mem _ (List.mem_cons_self)⟩
    · exact Or.inr ⟨rfl, List.mem_cons_of_mem _ (List.mem_cons_of_mem _ (List.mem_cons_self))⟩
    · exact Or.inl (List.mem_cons_self)
  · refine ⟨seto1, setN1, fun o ho => ?_⟩
    have ho : o ∈ ([(false, set_out)] : List (Bool × wE)) := ho
    simp only [List.mem_cons, List.not_mem_nil, or_false] at ho
    rcases ho with rfl
    · exact Or.inl (List.mem_cons_self)
  · refine ⟨seto2, setN2, fun o ho => ?_⟩
    have ho : o ∈ ([(false, set_out)] : List (Bool × wE)) := ho
    simp only [List.mem_cons, List.not_mem_nil, or_false] at ho
    rcases ho with rfl
    · exact Or.inl (List.mem_cons_self))
theorem setH {xs : Nat → Int32} {n : Nat} {sf : Option Nat} : wGoes x_KT x_tb x_tyl (x_otS xs n sf) lwFS lwGA.length lwGB.length 5 25 43 setWA setWB 52 216 60 60 set_in (setOX.map (fun x => x.1)) :=
  wFSr (FS := lwFR) (nh := 33) (wFam (V := []) lwFRok (by decide +kernel) (by decide +kernel) (set_g0_G set_in List.mem_cons_self) (by decide) (by decide) (fun i hi u hu => by
  have hi : i ∈ ([] : List Nat) := hi
  simp only [List.mem_cons, List.not_mem_nil, or_false] at hi)) lwFRp (by decide) (by decide +kernel)
theorem setPP {xs : Nat → Int32} {n : Nat} {sf : Option Nat} : bPP x_KT x_tb x_tyl (x_otS xs n sf) lwN lwP 1299 52 216 3 (mMc xm52 + mMc xm216) (mRc xm52) (mRc xm216) True :=
  wBlk lwFok lwFB uKa uKb (by decide +kernel) (by decide +kernel) uKdj uKj setbc setH gq52 gq216 (by decide) (by decide) (uKeep (by decide +kernel)) (by decide +kernel) (by decide +kernel) (by decide +kernel)
set_option maxRecDepth 1000000 in
theorem gq53 : tMth x_tb 53 = some xm53 := rfl
set_option maxRecDepth 1000000 in
theorem gq217 : tMth x_tb 217 = some xm217 := rfl
theorem inputN0 {xs : Nat → Int32} {n : Nat} {sf : Option Nat} : wGoes x_KT x_tb x_tyl (x_otS xs n sf) lwFR lwGA.length lwGB.length 5 25 43 inputWA inputWB 53 217 60 60 input_in inputo0 :=
  wDp (wWk (wEd_spec (x_ov0_le sf) u_ctS lwFRok inputE0) (Nat.le_refl _) (Nat.le_refl _) (Nat.le_refl _) (by decide +kernel) (by decide +kernel)) (by decide) (by decide)
theorem inputN1 {xs : Nat → Int32} {n : Nat} {sf : Option Nat} : wGoes x_KT x_tb x_tyl (x_otS xs n sf) lwFR lwGA.length lwGB.length 5 25 43 inputWA inputWB 53 217 60 60 input_m0 inputo1 :=
  wDp (wWk (wFamE2 (V := [0]) (x_ov0_le sf) u_ctS lwFRok inputE1 (by decide) (by decide) (fun i hi u hu => by
      have hi : i ∈ ([0] : List Nat) := hi
      simp only [List.mem_cons, List.not_mem_nil, or_false] at hi
      rcases hi with rfl
      · cases hu
        exact wRkE_spec (x_ov0_le sf) u_ctS lwFRok inputE1R0)) (Nat.le_refl _) (Nat.le_refl _) (Nat.le_refl _) (by decide +kernel) (by decide +kernel)) (by decide) (by decide)
theorem inputN2 {xs : Nat → Int32} {n : Nat} {sf : Option Nat} : wGoes x_KT x_tb x_tyl (x_otS xs n sf) lwFR lwGA.length lwGB.length 5 25 43 inputWA inputWB 53 217 60 60 input_m1 inputo2 :=
  wDp (wWk (wFamE2 (V := [0]) (x_ov0_le sf) u_ctS lwFRok inputE2 (by decide) (by decide) (fun i hi u hu => by
      have hi : i ∈ ([0] : List Nat) := hi
      simp only [List.mem_cons, List.not_mem_nil, or_false] at hi
      rcases hi with rfl
      · cases hu
        exact wRkE_spec (x_ov0_le sf) u_ctS lwFRok inputE2R0)) (Nat.le_refl _) (Nat.le_refl _) (Nat.le_refl _) (by decide +kernel) (by decide +kernel)) (by decide) (by decide)
def input_g0_nd : List wE := [input_in, input_m0, input_m1]
theorem input_g0_G {xs : Nat → Int32} {n : Nat} {sf : Option Nat} : ∀ nd ∈ input_g0_nd, wGoes x_KT x_tb x_tyl (x_otS xs n sf) lwFR lwGA.length lwGB.length 5 25 43 inputWA inputWB 53 217 60 60 nd (input_g0_ex.map (fun x => (false, x))) := wGraph (fun nd hnd => by
  have hnd : nd ∈ ([input_in, input_m0, input_m1] : List wE) := hnd
  simp only [List.mem_cons, List.not_mem_nil, or_false] at hnd
  rcases hnd with rfl | rfl | rfl
  · refine ⟨inputo0, inputN0, fun o ho => ?_⟩
    have ho : o ∈ ([(true, input_m0), (true, input_m1), (false, input_out)] : List (Bool × wE)) := ho
    simp only [List.mem_cons, List.not_mem_nil, or_false] at ho
    rcases ho with rfl | rfl | rfl
    · exact Or.inr ⟨rfl, List.mem_cons_of_mem _ (List.mem_cons_self)⟩
    · exact Or.inr ⟨rfl, List.mem_cons_of_mem _ (List.mem_cons_of_mem _ (List.mem_cons_self))⟩
    · exact Or.inl (List.mem_cons_self)
  · refine ⟨inputo1, inputN1, fun o ho => ?_⟩
    have ho : o ∈ ([(false, input_out)] : List (Bool × wE)) := ho
    simp only [List.mem_cons, List.not_mem_nil, or_false] at ho
    rcases ho with rfl
    · exact Or.inl (List.mem_cons_self)
  · refine ⟨inputo2, inputN2, fun o ho => ?_⟩
    have ho : o ∈ ([(false, input_out)] : List (Bool × wE)) := ho
    simp only [List.mem_cons, List.not_mem_nil, or_false] at ho
    rcases ho with rfl
    · exact Or.inl (List.mem_cons_self))
theorem inputH {xs : Nat → Int32} {n : Nat} {sf : Option Nat} : wGoes x_KT x_tb x_tyl (x_otS xs n sf) lwFS lwGA.length lwGB.length 5 25 43 inputWA inputWB 53 217 60 60 input_in (inputOX.map (fun x => x.1)) :=
  wFSr (FS := lwFR) (nh := 33) (wFam (V := []) lwFRok (by decide +kernel) (by decide +kernel) (input_g0_G input_in List.mem_cons_self) (by decide) (by decide) (fun i hi u hu => by
  have hi : i ∈ ([] : List Nat) := hi
  simp only [List.mem_cons, List.not_mem_nil, or_false] at hi)) lwFRp (by decide) (by decide +kernel)
theorem inputPP {xs : Nat → Int32} {n : Nat} {sf : Option Nat} : bPP x_KT x_tb x_tyl (x_otS xs n sf) lwN lwP 1299 53 217 2 (mMc xm53 + mMc xm217) (mRc xm53) (mRc xm217) True :=
  wBlk lwFok lwFB uKa uKb (by decide +kernel) (by decide +kernel) uKdj uKj inputbc inputH gq53 gq217 (by decide) (by decide) (uKeep (by decide +kernel)) (by decide +kernel) (by decide +kernel) (by decide +kernel)
set_option maxRecDepth 1000000 in
theorem gq54 : tMth x_tb 54 = some xm54 := rfl
set_option maxRecDepth 1000000 in
theorem gq218 : tMth x_tb 218 = some xm218 := rfl
theorem shelfN0 {xs : Nat → Int32} {n : Nat} {sf : Option Nat} : wGoes x_KT x_tb x_tyl (x_otS xs n sf) lwFR lwGA.length lwGB.length 5 25 43 shelfWA shelfWB 54 218 60 60 shelf_in shelfo0 :=
  wDp (wWk (wEd_spec (x_ov0_le sf) u_ctS lwFRok shelfE0) (Nat.le_refl _) (Nat.le_refl _) (Nat.le_refl _) (by decide +kernel) (by decide +kernel)) (by decide) (by decide)
theorem shelfN1 {xs : Nat → Int32} {n : Nat} {sf : Option Nat} : wGoes x_KT x_tb x_tyl (x_otS xs n sf) lwFR lwGA.length lwGB.length 5 25 43 shelfWA shelfWB 54 218 60 60 shelf_m0 shelfo1 :=
  wDp (wWk (wEd_spec (x_ov0_le sf) u_ctS lwFRok shelfE1) (Nat.le_refl _) (Nat.le_refl _) (Nat.le_refl _) (by decide +kernel) (by decide +kernel)) (by decide) (by decide)
theorem shelfN2 {xs : Nat → Int32} {n : Nat} {sf : Option Nat} : wGoes x_KT x_tb x_tyl (x_otS xs n sf) lwFR lwGA.length lwGB.length 5 25 43 shelfWA shelfWB 54 218 60 60 shelf_r0 shelfo2 :=
  wDp (wWk (wFamE2 (V := [5, 6, 9, 10]) (x_ov0_le sf) u_ctS lwFRok shelfE2 (by decide) (by decide) (fun i hi u hu => by
      have hi : i ∈ ([5, 6, 9, 10] : List Nat) := hi
      simp only [List.mem_cons, List.not_mem_nil, or_false] at hi
      rcases hi with rfl | rfl | rfl | rfl
      · exact gRk_spec (x_ov0_le sf) u_ctS lwFRok shelfE2 (by decide) (by decide) shelfE2G0 (by decide +kernel) _ (List.mem_cons_self) u hu
      · exact gRk_spec (x_ov0_le sf) u_ctS lwFRok shelfE2 (by decide) (by decide) shelfE2G0 (by decide +kernel) _ (List.mem_cons_of_mem _ (List.mem_cons_self)) u hu
      · exact gRk_spec (x_ov0_le sf) u_ctS lwFRok shelfE2 (by decide) (by decide) shelfE2G0 (by decide +kernel) _ (List.mem_cons_of_mem _ (List.mem_cons_of_mem _ (List.mem_cons_self))) u hu
      · exact gRk_spec (x_ov0_le sf) u_ctS lwFRok shelfE2 (by decide) (by decide) shelfE2G0 (by decide +kernel) _ (List.mem_cons_of_mem _ (List.mem_cons_of_mem _ (List.mem_cons_of_mem _ (List.mem_cons_self)))) u hu)) (Nat.le_refl _) (Nat.le_refl _) (Nat.le_refl _) (by decide +kernel) (by decide +kernel)) (by decide) (by decide)
theorem shelfN3 {xs : Nat → Int32} {n : Nat} {sf : Option Nat} : wGoes x_KT x_tb x_tyl (x_otS xs n sf) lwFR lwGA.length lwGB.length 5 25 43 shelfWA shelfWB 54 218 60 60 shelf_m00 shelfo3 :=
  wDp (wWk (wEd_spec (x_ov0_le sf) u_ctS lwFRok shelfE3) (Nat.le_refl _) (Nat.le_refl _) (Nat.le_refl _) (by decide +kernel) (by decide +kernel)) (by decide) (by decide)
theorem shelfN4 {xs : Nat → Int32} {n : Nat} {sf : Option Nat} : wGoes x_KT x_tb x_tyl (x_otS xs n sf) lwFR lwGA.length lwGB.length 5 25 43 shelfWA shelfWB 54 218 60 60 shelf_r00 shelfo4 :=
  wDp (wWk (wFamE2 (V := [5, 6, 9, 10]) (x_ov0_le sf) u_ctS lwFRok shelfE4 (by decide) (by decide) (fun i hi u hu => by
      have hi : i ∈ ([5, 6, 9, 10] : List Nat) := hi
      simp only [List.mem_cons, List.not_mem_nil, or_false] at hi
      rcases hi with rfl | rfl | rfl | rfl
      · exact gRk_spec (x_ov0_le sf) u_ctS lwFRok shelfE4 (by decide) (by decide) shelfE4G0 (by decide +kernel) _ (List.mem_cons_self) u hu
      · exact gRk_spec (x_ov0_le sf) u_ctS lwFRok shelfE4 (by decide) (by decide) shelfE4G0 (by decide +kernel) _ (List.mem_cons_of_mem _ (List.mem_cons_self)) u hu
      · exact gRk_spec (x_ov0_le sf) u_ctS lwFRok shelfE4 (by decide) (by decide) shelfE4G0 (by decide +kernel) _ (List.mem_cons_of_mem _ (List.mem_cons_of_mem _ (List.mem_cons_self))) u hu
      · exact gRk_spec (x_ov0_le sf) u_ctS lwFRok shelfE4 (by decide) (by decide) shelfE4G0 (by decide +kernel) _ (List.mem_cons_of_mem _ (List.mem_cons_of_mem _ (List.mem_cons_of_mem _ (List.mem_cons_self)))) u hu)) (Nat.le_refl _) (Nat.le_refl _) (Nat.le_refl _) (by decide +kernel) (by decide +kernel)) (by decide) (by decide)
theorem shelfN5 {xs : Nat → Int32} {n : Nat} {sf : Option Nat} : wGoes x_KT x_tb x_tyl (x_otS xs n sf) lwFR lwGA.length lwGB.length 5 25 43 shelfWA shelfWB 54 218 60 60 shelf_m1 shelfo5 :=
  wDp (wWk (wEd_spec (x_ov0_le sf) u_ctS lwFRok shelfE5) (Nat.le_refl _) (Nat.le_refl _) (Nat.le_refl _) (by decide +kernel) (by decide +kernel)) (by decide) (by decide)
theorem shelfN6 {xs : Nat → Int32} {n : Nat} {sf : Option Nat} : wGoes x_KT x_tb x_tyl (x_otS xs n sf) lwFR lwGA.length lwGB.length 5 25 43 shelfWA shelfWB 54 218 60 60 shelf_r1 shelfo6 :=
  wDp (wWk (wFamE2 (V := [5, 6, 9, 10]) (x_ov0_le sf) u_ctS lwFRok shelfE6 (by decide) (by decide) (fun i hi u hu => by
      have hi : i ∈ ([5, 6, 9, 10] : List Nat) := hi
      simp only [List.mem_cons, List.not_mem_nil, or_false] at hi
      rcases hi with rfl | rfl | rfl | rfl
      · exact gRk_spec (x_ov0_le sf) u_ctS lwFRok shelfE6 (by decide) (by decide) shelfE6G0 (by decide +kernel) _ (List.mem_cons_self) u hu
      · exact gRk_spec (x_ov0_le sf) u_ctS lwFRok shelfE6 (by decide) (by decide) shelfE6G0 (by decide +kernel) _ (List.mem_cons_of_mem _ (List.mem_cons_self)) u hu
      · exact gRk_spec (x_ov0_le sf) u_ctS lwFRok shelfE6 (by decide) (by decide) shelfE6G0 (by decide +kernel) _ (List.mem_cons_of_mem _ (List.mem_cons_of_mem _ (List.mem_cons_self))) u hu
      · exact gRk_spec (x_ov0_le sf) u_ctS lwFRok shelfE6 (by decide) (by decide) shelfE6G0 (by decide +kernel) _ (List.mem_cons_of_mem _ (List.mem_cons_of_mem _ (List.mem_cons_of_mem _ (List.mem_cons_self)))) u hu)) (Nat.le_refl _) (Nat.le_refl _) (Nat.le_refl _) (by decide +kernel) (by decide +kernel)) (by decide) (by decide)
theorem shelfN7 {xs : Nat → Int32} {n : Nat} {sf : Option Nat} : wGoes x_KT x_tb x_tyl (x_otS xs n sf) lwFR lwGA.length lwGB.length 5 25 43 shelfWA shelfWB 54 218 60 60 shelf_m10 shelfo7 :=
  wDp (wWk (wEd_spec (x_ov0_le sf) u_ctS lwFRok shelfE7) (Nat.le_refl _) (Nat.le_refl _) (Nat.le_refl _) (by decide +kernel) (by decide +kernel)) (by decide) (by decide)
theorem shelfN8 {xs : Nat → Int32} {n : Nat} {sf : Option Nat} : wGoes x_KT x_tb x_tyl (x_otS xs n sf) lwFR lwGA.length lwGB.length 5 25 43 shelfWA shelfWB 54 218 60 60 shelf_r10 shelfo8 :=
  wDp (wWk (wFamE2 (V := [5, 6, 9, 10]) (x_ov0_le sf) u_ctS lwFRok shelfE8 (by decide) (by decide) (fun i hi u hu => by
      have hi : i ∈ ([5, 6, 9, 10] : List Nat) := hi
      simp only [List.mem_cons, List.not_mem_nil, or_false] at hi
      rcases hi with rfl | rfl | rfl | rfl
      · exact gRk_spec (x_ov0_le sf) u_ctS lwFRok shelfE8 (by decide) (by decide) shelfE8G0 (by decide +kernel) _ (List.mem_cons_self) u hu
      · exact gRk_spec (x_ov0_le sf) u_ctS lwFRok shelfE8 (by decide) (by decide) shelfE8G0 (by decide +kernel) _ (List.mem_cons_of_mem _ (List.mem_cons_self)) u hu
      · exact gRk_spec (x_ov0_le sf) u_ctS lwFRok shelfE8 (by decide) (by decide) shelfE8G0 (by decide +kernel) _ (List.mem_cons_of_mem _ (List.mem_cons_of_mem _ (List.mem_cons_self))) u hu
      · exact gRk_spec (x_ov0_le sf) u_ctS lwFRok shelfE8 (by decide) (by decide) shelfE8G0 (by decide +kernel) _ (List.mem_cons_of_mem _ (List.mem_cons_of_mem _ (List.mem_cons_of_mem _ (List.mem_cons_self)))) u hu)) (Nat.le_refl _) (Nat.le_refl _) (Nat.le_refl _) (by decide +kernel) (by decide +kernel)) (by decide) (by decide)
theorem shelfN9 {xs : Nat → Int32} {n : Nat} {sf : Option Nat} : wGoes x_KT x_tb x_tyl (x_otS xs n sf) lwFR lwGA.length lwGB.length 5 25 43 shelfWA shelfWB 54 218 60 60 shelf_m2 shelfo9 :=
  wDp (wWk (wEd_spec (x_ov0_le sf) u_ctS lwFRok shelfE9) (Nat.le_refl _) (Nat.le_refl _) (Nat.le_refl _) (by decide +kernel) (by decide +kernel)) (by decide) (by decide)
theorem shelfN10 {xs : Nat → Int32} {n : Nat} {sf : Option Nat} : wGoes x_KT x_tb x_tyl (x_otS xs n sf) lwFR lwGA.length lwGB.length 5 25 43 shelfWA shelfWB 54 218 60 60 shelf_r2 shelfo10 :=
  wDp (wWk (wFamE2 (V := [5, 6, 9, 10]) (x_ov0_le sf) u_ctS lwFRok shelfE10 (by decide) (by decide) (fun i hi u hu => by
      have hi : i ∈ ([5, 6, 9, 10] : List Nat) := hi
      simp only [List.mem_cons, List.not_mem_nil, or_false] at hi
      rcases hi with rfl | rfl | rfl | rfl
      · exact gRk_spec (x_ov0_le sf) u_ctS lwFRok shelfE10 (by decide) (by decide) shelfE10G0 (by decide +kernel) _ (List.mem_cons_self) u hu
      · exact gRk_spec (x_ov0_le sf) u_ctS lwFRok shelfE10 (by decide) (by decide) shelfE10G0 (by decide +kernel) _ (List.mem_cons_of_mem _ (List.mem_cons_self)) u hu
      · exact gRk_spec (x_ov0_le sf) u_ctS lwFRok shelfE10 (by decide) (by decide) shelfE10G0 (by decide +kernel) _ (List.mem_cons_of_mem _ (List.mem_cons_of_mem _ (List.mem_cons_self))) u hu
      · exact gRk_spec (x_ov0_le sf) u_ctS lwFRok shelfE10 (by decide) (by decide) shelfE10G0 (by decide +kernel) _ (List.mem_cons_of_mem _ (List.mem_cons_of_mem _ (List.mem_cons_of_mem _ (List.mem_cons_self)))) u hu)) (Nat.le_refl _) (Nat.le_refl _) (Nat.le_refl _) (by decide +kernel) (by decide +kernel)) (by decide) (by decide)
theorem shelfN11 {xs : Nat → Int32} {n : Nat} {sf : Option Nat} : wGoes x_KT x_tb x_tyl (x_otS xs n sf) lwFR lwGA.length lwGB.length 5 25 43 shelfWA shelfWB 54 218 60 60 shelf_m20 shelfo11 :=
  wDp (wWk (wEd_spec (x_ov0_le sf) u_ctS lwFRok shelfE11) (Nat.le_refl _) (Nat.le_refl _) (Nat.le_refl _) (by decide +kernel) (by decide +kernel)) (by decide) (by decide)
theorem shelfN12 {xs : Nat → Int32} {n : Nat} {sf : Option Nat} : wGoes x_KT x_tb x_tyl (x_otS xs n sf) lwFR lwGA.length lwGB.length 5 25 43 shelfWA shelfWB 54 218 60 60 shelf_r20 shelfo12 :=
  wDp (wWk (wFamE2 (V := [5, 6, 9, 10]) (x_ov0_le sf) u_ctS lwFRok shelfE12 (by decide) (by decide) (fun i hi u hu => by
      have hi : i ∈ ([5, 6, 9, 10] : List Nat) := hi
      simp only [List.mem_cons, List.not_mem_nil, or_false] at hi
      rcases hi with rfl | rfl | rfl | rfl
      · exact gRk_spec (x_ov0_le sf) u_ctS lwFRok shelfE12 (by decide) (by decide) shelfE12G0 (by decide +kernel) _ (List.mem_cons_self) u hu
      · exact gRk_spec (x_ov0_le sf) u_ctS lwFRok shelfE12 (by decide) (by decide) shelfE12G0 (by decide +kernel) _ (List.mem_cons_of_mem _ (List.mem_cons_self)) u hu
      · exact gRk_spec (x_ov0_le sf) u_ctS lwFRok shelfE12 (by decide) (by decide) shelfE12G0 (by decide +kernel) _ (List.mem_cons_of_mem _ (List.mem_cons_of_mem _ (List.mem_cons_self))) u hu
      · exact gRk_spec (x_ov0_le sf) u_ctS lwFRok shelfE12 (by decide) (by decide) shelfE12G0 (by decide +kernel) _ (List.mem_cons_of_mem _ (List.mem_cons_of_mem _ (List.mem_cons_of_mem _ (List.mem_cons_self)))) u hu)) (Nat.le_refl _) (Nat.le_refl _) (Nat.le_refl _) (by decide +kernel) (by decide +kernel)) (by decide) (by decide)
theorem shelfN13 {xs : Nat → Int32} {n : Nat} {sf : Option Nat} : wGoes x_KT x_tb x_tyl (x_otS xs n sf) lwFR lwGA.length lwGB.length 5 25 43 shelfWA shelfWB 54 218 60 60 shelf_l0 shelfo13 :=
  wDp (wWk (wFamE2 (V := [5, 6, 9, 10]) (x_ov0_le sf) u_ctS lwFRok shelfE13 (by decide) (by decide) (fun i hi u hu => by
      have hi : i ∈ ([5, 6, 9, 10] : List Nat) := hi
      simp only [List.mem_cons, List.not_mem_nil, or_false] at hi
      rcases hi with rfl | rfl | rfl | rfl
      · exact gRk_spec (x_ov0_le sf) u_ctS lwFRok shelfE13 (by decide) (by decide) shelfE13G0 (by decide +kernel) _ (List.mem_cons_self) u hu
      · exact gRk_spec (x_ov0_le sf) u_ctS lwFRok shelfE13 (by decide) (by decide) shelfE13G0 (by decide +kernel) _ (List.mem_cons_of_mem _ (List.mem_cons_self)) u hu
      · exact gRk_spec (x_ov0_le sf) u_ctS lwFRok shelfE13 (by decide) (by decide) shelfE13G0 (by decide +kernel) _ (List.mem_cons_of_mem _ (List.mem_cons_of_mem _ (List.mem_cons_self))) u hu
      · exact gRk_spec (x_ov0_le sf) u_ctS lwFRok shelfE13 (by decide) (by decide) shelfE13G0 (by decide +kernel) _ (List.mem_cons_of_mem _ (List.mem_cons_of_mem _ (List.mem_cons_of_mem _ (List.mem_cons_self)))) u hu)) (Nat.le_refl _) (Nat.le_refl _) (Nat.le_refl _) (by decide +kernel) (by decide +kernel)) (by decide) (by decide)
theorem shelfN14 {xs : Nat → Int32} {n : Nat} {sf : Option Nat} : wGoes x_KT x_tb x_tyl (x_otS xs n sf) lwFR lwGA.length lwGB.length 5 25 43 shelfWA shelfWB 54 218 60 60 shelf_l1 shelfo14 :=
  wDp (wWk (wFamE2 (V := [5, 6, 9, 10]) (x_ov0_le sf) u_ctS lwFRok shelfE14 (by decide) (by decide) (fun i hi u hu => by
      have hi : i ∈ ([5, 6, 9, 10] : List Nat) := hi
      simp only [List.mem_cons, List.not_mem_nil, or_false] at hi
      rcases hi with rfl | rfl | rfl | rfl
      · exact gRk_spec (x_ov0_le sf) u_ctS lwFRok shelfE14 (by decide) (by decide) shelfE14G0 (by decide +kernel) _ (List.mem_cons_self) u hu
      · exact gRk_spec (x_ov0_le sf) u_ctS lwFRok shelfE14 (by decide) (by decide) shelfE14G0 (by decide +kernel) _ (List.mem_cons_of_mem _ (List.mem_cons_self)) u hu
      · exact gRk_spec (x_ov0_le sf) u_ctS lwFRok shelfE14 (by decide) (by decide) shelfE14G0 (by decide +kernel) _ (List.mem_cons_of_mem _ (List.mem_cons_of_mem _ (List.mem_cons_self))) u hu
      · exact gRk_spec (x_ov0_le sf) u_ctS lwFRok shelfE14 (by decide) (by decide) shelfE14G0 (by decide +kernel) _ (List.mem_cons_of_mem _ (List.mem_cons_of_mem _ (List.mem_cons_of_mem _ (List.mem_cons_self)))) u hu)) (Nat.le_refl _) (Nat.le_refl _) (Nat.le_refl _) (by decide +kernel) (by decide +kernel)) (by decide) (by decide)
theorem shelfN15 {xs : Nat → Int32} {n : Nat} {sf : Option Nat} : wGoes x_KT x_tb x_tyl (x_otS xs n sf) lwFR lwGA.length lwGB.length 5 25 43 shelfWA shelfWB 54 218 60 60 shelf_l2 shelfo15 :=
  wDp (wWk (wFamE2 (V := [5, 6, 9, 10]) (x_ov0_le sf) u_ctS lwFRok shelfE15 (by decide) (by decide) (fun i hi u hu => by
      have hi : i ∈ ([5, 6, 9, 10] : List Nat) := hi
      simp only [List.mem_cons, List.not_mem_nil, or_false] at hi
      rcases hi with rfl | rfl | rfl | rfl
      · exact gRk_spec (x_ov0_le sf) u_ctS lwFRok shelfE15 (by decide) (by decide) shelfE15G0 (by decide +kernel) _ (List.mem_cons_self) u hu
      · exact gRk_spec (x_ov0_le sf) u_ctS lwFRok shelfE15 (by decide) (by decide) shelfE15G0 (by decide +kernel) _ (List.mem_cons_of_mem _ (List.mem_cons_self)) u hu
      · exact gRk_spec (x_ov0_le sf) u_ctS lwFRok shelfE15 (by decide) (by decide) shelfE15G0 (by decide +kernel) _ (List.mem_cons_of_mem _ (List.mem_cons_of_mem _ (List.mem_cons_self))) u hu
      · exact gRk_spec (x_ov0_le sf) u_ctS lwFRok shelfE15 (by decide) (by decide) shelfE15G0 (by decide +kernel) _ (List.mem_cons_of_mem _ (List.mem_cons_of_mem _ (List.mem_cons_of_mem _ (List.mem_cons_self)))) u hu)) (Nat.le_refl _) (Nat.le_refl _) (Nat.le_refl _) (by decide +kernel) (by decide +kernel)) (by decide) (by decide)
theorem shelfN16 {xs : Nat → Int32} {n : Nat} {sf : Option Nat} : wGoes x_KT x_tb x_tyl (x_otS xs n sf) lwFR lwGA.length lwGB.length 5 25 43 shelfWA shelfWB 54 218 60 60 shelf_x shelfo16 :=
  wDp (wWk (wFamE2 (V := [20]) (x_ov0_le sf) u_ctS lwFRok shelfE16 (by decide) (by decide) (fun i hi u hu => by
      have hi : i ∈ ([20] : List Nat) := hi
      simp only [List.mem_cons, List.not_mem_nil, or_false] at hi
      rcases hi with rfl
      · cases hu
        exact wRkE_spec (x_ov0_le sf) u_ctS lwFRok shelfE16R20)) (Nat.le_refl _) (Nat.le_refl _) (Nat.le_refl _) (by decide +kernel) (by decide +kernel)) (by decide) (by decide)
def shelf_g0_nd : List wE := [shelf_in, shelf_m0, shelf_m00, shelf_m1, shelf_m10, shelf_m2, shelf_m20, shelf_r0, shelf_r00, shelf_r1, shelf_r10, shelf_r2, shelf_r20, shelf_l0, shelf_x, shelf_l1, shelf_l2]
theorem shelf_g0_G {xs : Nat → Int32} {n : Nat} {sf : Option Nat} : ∀ nd ∈ shelf_g0_nd, wGoes x_KT x_tb x_tyl (x_otS xs n sf) lwFR lwGA.length lwGB.length 5 25 43 shelfWA shelfWB 54 218 60 60 nd (shelf_g0_ex.map (fun x => (false, x))) := wGraph (fun nd hnd => by
  have hnd : nd ∈ ([shelf_in, shelf_m0, shelf_m00, shelf_m1, shelf_m10, shelf_m2, shelf_m20, shelf_r0, shelf_r00, shelf_r1, shelf_r10, shelf_r2, shelf_r20, shelf_l0, shelf_x, shelf_l1, shelf_l2] : List wE) := hnd
  simp only [List.mem_cons, List.not_mem_nil, or_false] at hnd
  rcases hnd with rfl | rfl | rfl | rfl | rfl | rfl | rfl | rfl | rfl | rfl | rfl | rfl | rfl | rfl | rfl | rfl | rfl
  · refine ⟨shelfo0, shelfN0, fun o ho => ?_⟩
    have ho : o ∈ ([(true, shelf_m0), (true, shelf_m00), (true, shelf_m1), (true, shelf_m10), (true, shelf_m2), (true, shelf_m20), (false, shelf_out)] : List (Bool × wE)) := ho
    simp only [List.mem_cons, List.not_mem_nil, or_false] at ho
    rcases ho with rfl | rfl | rfl | rfl | rfl | rfl | rfl
    · exact Or.inr ⟨rfl, List.mem_cons_of_mem _ (List.mem_cons_self)⟩
    · exact Or.inr ⟨rfl, List.mem_cons_of_mem _ (List.mem_cons_of_mem _ (List.mem_cons_self))⟩
    · exact Or.inr ⟨rfl, List.mem_cons_of_mem _ (List.mem_cons_of_mem _ (List.mem_cons_of_mem _ (List.mem_cons_self)))⟩
    · exact Or.inr ⟨rfl, List.mem_cons_of_mem _ (List.mem_cons_of_mem _ (List.mem_cons_of_mem _ (List.mem_cons_of_mem _ (List.mem_cons_self))))⟩
    · exact Or.inr ⟨rfl, List.mem_cons_of_mem _ (List.mem_cons_of_mem _ (List.mem_cons_of_mem _ (List.mem_cons_of_mem _ (List.mem_cons_of_mem _ (List.mem_cons_self)))))⟩
    · exact Or.inr ⟨rfl, List.mem_cons_of_mem _ (List.mem_cons_of_mem _ (List.mem_cons_of_mem _ (List.mem_cons_of_mem _ (List.mem_cons_of_mem _ (List.mem_cons_of_mem _ (List.mem_cons_self))))))⟩
    · exact Or.inl (List.mem_cons_self)
  · refine ⟨shelfo1, shelfN1, fun o ho => ?_⟩
    have ho : o ∈ ([(true, shelf_r0), (false, shelf_out)] : List (Bool × wE)) := ho
    simp only [List.mem_cons, List.not_mem_nil, or_false] at ho
    rcases ho with rfl | rfl
    · exact Or.inr ⟨rfl, List.mem_cons_of_mem _ (List.mem_cons_of_mem _ (List.mem_cons_of_mem _ (List.mem_cons_of_mem _ (List.mem_cons_of_mem _ (List.mem_cons_of_mem _ (List.mem_cons_of_mem _ (List.mem_cons_self)))))))⟩
    · exact Or.inl (List.mem_cons_self)
  · refine ⟨shelfo3, shelfN3, fun o ho => ?_⟩
    have ho : o ∈ ([(true, shelf_r00), (false, shelf_out)] : List (Bool × wE)) := ho
    simp only [List.mem_cons, List.not_mem_nil, or_false] at ho
    rcases ho with rfl | rfl
    · exact Or.inr ⟨rfl, List.mem_cons_of_mem _ (List.mem_cons_of_mem _ (List.mem_cons_of_mem _ (List.mem_cons_of_mem _ (List.mem_cons_of_mem _ (List.mem_cons_of_mem _ (List.mem_cons_of_mem _ (List.mem_cons_of_mem _ (List.mem_cons_self))))))))⟩
    · exact Or.inl (List.mem_cons_self)
  · refine ⟨shelfo5, shelfN5, fun o ho => ?_⟩
    have ho : o ∈ ([(true, shelf_r1), (false, shelf_out)] : List (Bool × wE)) := ho
    simp only [List.mem_cons, List.not_mem_nil, or_false] at ho
    rcases ho with rfl | rfl
    · exact Or.inr ⟨rfl, List.mem_cons_of_mem _ (List.mem_cons_of_mem _ (List.mem_cons_of_mem _ (List.mem_cons_of_mem _ (List.mem_cons_of_mem _ (List.mem_cons_of_mem _ (List.mem_cons_of_mem _ (List.mem_cons_of_mem _ (List.mem_cons_of_mem _ (List.mem_cons_self)))))))))⟩
    · exact Or.inl (List.mem_cons_self)
  · refine ⟨shelfo7, shelfN7, fun o ho => ?_⟩
    have ho : o ∈ ([(true, shelf_r10), (false, shelf_out)] : List (Bool × wE)) := ho
    simp only [List.mem_cons, List.not_mem_nil, or_false] at ho
    rcases ho with rfl | rfl
    · exact Or.inr ⟨rfl, List.mem_cons_of_mem _ (List.mem_cons_of_mem _ (List.mem_cons_of_mem _ (List.mem_cons_of_mem _ (List.mem_cons_of_mem _ (List.mem_cons_of_mem _ (List.mem_cons_of_mem _ (List.mem_cons_of_mem _ (List.mem_cons_of_mem _ (List.mem_cons_of_mem _ (List.mem_cons_self))))))))))⟩
    · exact Or.inl (List.mem_cons_self)
  · refine ⟨shelfo9, shelfN9, fun o ho => ?_⟩
    have ho : o ∈ ([(true, shelf_r2), (false, shelf_out)] : List (Bool × wE)) := ho
    simp only [List.mem_cons, List.not_mem_nil, or_false] at ho
    rcases ho with rfl | rfl
    · exact Or.inr ⟨rfl, List.mem_cons_of_mem _ (List.mem_cons_of_mem _ (List.mem_cons_of_mem _ (List.mem_cons_of_mem _ (List.mem_cons_of_mem _ (List.mem_cons_of_mem _ (List.mem_cons_of_mem _ (List.mem_cons_of_mem _ (List.mem_cons_of_mem _ (List.mem_cons_of_mem _ (List.mem_cons_of_mem _ (List.mem_cons_self)))))))))))⟩
    · exact Or.inl (List.mem_cons_self)
  · refine ⟨shelfo11, shelfN11, fun o ho => ?_⟩
    have ho : o ∈ ([(true, shelf_r20), (false, shelf_out)] : List (Bool × wE)) := ho
    simp only [List.mem_cons, List.not_mem_nil, or_false] at ho
    rcases ho with rfl | rfl
    · exact Or.inr ⟨rfl, List.mem_cons_of_mem _ (List.mem_cons_of_mem _ (List.mem_cons_of_mem _ (List.mem_cons_of_mem _ (List.mem_cons_of_mem _ (List.mem_cons_of_mem _ (List.mem_cons_of_mem _ (List.mem_cons_of_mem _ (List.mem_cons_of_mem _ (List.mem_cons_of_mem _ (List.mem_cons_of_mem _ (List.mem_cons_of_mem _ (List.mem_cons_self))))))))))))⟩
    · exact Or.inl (List.mem_cons_self)
  · refine ⟨shelfo2, shelfN2, fun o ho => ?_⟩
    have ho : o ∈ ([(true, shelf_l0)] : List (Bool × wE)) := ho
    simp only [List.mem_cons, List.not_mem_nil, or_false] at ho
    rcases ho with rfl
    · exact Or.inr ⟨rfl, List.mem_cons_of_mem _ (List.mem_cons_of_mem _ (List.mem_cons_of_mem _ (List.mem_cons_of_mem _ (List.mem_cons_of_mem _ (List.mem_cons_of_mem _ (List.mem_cons_of_mem _ (List.mem_cons_of_mem _ (List.mem_cons_of_mem _ (List.mem_cons_of_mem _ (List.mem_cons_of_mem _ (List.mem_cons_of_mem _ (List.mem_cons_of_mem _ (List.mem_cons_self)))))))))))))⟩
  · refine ⟨shelfo4, shelfN4, fun o ho => ?_⟩
    have ho : o ∈ ([(true, shelf_x)] : List (Bool × wE)) := ho
    simp only [List.mem_cons, List.not_mem_nil, or_false] at ho
    rcases ho with rfl
    · exact Or.inr ⟨rfl, List.mem_cons_of_mem _ (List.mem_cons_of_mem _ (List.mem_cons_of_mem _ (List.mem_cons_of_mem _ (List.mem_cons_of_mem _ (List.mem_cons_of_mem _ (List.mem_cons_of_mem _ (List.mem_cons_of_mem _ (List.mem_cons_of_mem _ (List.mem_cons_of_mem _ (List.mem_cons_of_mem _ (List.mem_cons_of_mem _ (List.mem_cons_of_mem _ (List.mem_cons_of_mem _ (List.mem_cons_self))))))))))))))⟩
  · refine ⟨shelfo6, shelfN6, fun o ho => ?_⟩
    have ho : o ∈ ([(true, shelf_l1)] : List (Bool × wE)) := ho
    simp only [List.mem_cons, List.not_mem_nil, or_false] at ho
    rcases ho with rfl
    · exact Or.inr ⟨rfl, List.mem_cons_of_mem _ (List.mem_cons_of_mem _ (List.mem_cons_of_mem _ (List.mem_cons_of_mem _ (List.mem_cons_of_mem _ (List.mem_cons_of_mem _ (List.mem_cons_of_mem _ (List.mem_cons_of_mem _ (List.mem_cons_of_mem _ (List.mem_cons_of_mem _ (List.mem_cons_of_mem _ (List.mem_cons_of_mem _ (List.mem_cons_of_mem _ (List.mem_cons_of_mem _ (List.mem_cons_of_mem _ (List.mem_cons_self)))))))))))))))⟩
  · refine ⟨shelfo8, shelfN8, fun o ho => ?_⟩
    have ho : o ∈ ([(true, shelf_x)] : List (Bool × wE)) := ho
    simp only [List.mem_cons, List.not_mem_nil, or_false] at ho
    rcases ho with rfl
    · exact Or.inr ⟨rfl, List.mem_cons_of_mem _ (List.mem_cons_of_mem _ (List.mem_cons_of_mem _ (List.mem_cons_of_mem _ (List.mem_cons_of_mem _ (List.mem_cons_of_mem _ (List.mem_cons_of_mem _ (List.mem_cons_of_mem _ (List.mem_cons_of_mem _ (List.mem_cons_of_mem _ (List.mem_cons_of_mem _ (List.mem_cons_of_mem _ (List.mem_cons_of_mem _ (List.mem_cons_of_mem _ (List.mem_cons_self))))))))))))))⟩
  · refine ⟨shelfo10, shelfN10, fun o ho => ?_⟩
    have ho : o ∈ ([(true, shelf_l2)] : List (Bool × wE)) := ho
    simp only [List.mem_cons, List.not_mem_nil, or_false] at ho
    rcases ho with rfl
    · exact Or.inr ⟨rfl, List.mem_cons_of_mem _ (List.mem_cons_of_mem _ (List.mem_cons_of_mem _ (List.mem_cons_of_mem _ (List.mem_cons_of_mem _ (List.mem_cons_of_mem _ (List.mem_cons_of_mem _ (List.mem_cons_of_mem _ (List.mem_cons_of_mem _ (List.mem_cons_of_mem _ (List.mem_cons_of_mem _ (List.mem_cons_of_mem _ (List.mem_cons_of_mem _ (List.mem_cons_of_mem _ (List.mem_cons_of_mem _ (List.mem_cons_of_mem _ (List.mem_cons_self))))))))))))))))⟩
  · refine ⟨shelfo12, shelfN12, fun o ho => ?_⟩
    have ho : o ∈ ([(true, shelf_x)] : List (Bool × wE)) := ho
    simp only [List.mem_cons, List.not_mem_nil, or_false] at ho
    rcases ho with rfl
    · exact Or.inr ⟨rfl, List.mem_cons_of_mem _ (List.mem_cons_of_mem _ (List.mem_cons_of_mem _ (List.mem_cons_of_mem _ (List.mem_cons_of_mem _ (List.mem_cons_of_mem _ (List.mem_cons_of_mem _ (List.mem_cons_of_mem _ (List.mem_cons_of_mem _ (List.mem_cons_of_mem _ (List.mem_cons_of_mem _ (List.mem_cons_of_mem _ (List.mem_cons_of_mem _ (List.mem_cons_of_mem _ (List.mem_cons_self))))))))))))))⟩
  · refine ⟨shelfo13, shelfN13, fun o ho => ?_⟩
    have ho : o ∈ ([(true, shelf_l0), (true, shelf_x)] : List (Bool × wE)) := ho
    simp only [List.mem_cons, List.not_mem_nil, or_false] at ho
    rcases ho with rfl | rfl
    · exact Or.inr ⟨rfl, List.mem_cons_of_mem _ (List.mem_cons_of_mem _ (List.mem_cons_of_mem _ (List.mem_cons_of_mem _ (List.mem_cons_of_mem _ (List.mem_cons_of_mem _ (List.mem_cons_of_mem _ (List.mem_cons_of_mem _ (List.mem_cons_of_mem _ (List.mem_cons_of_mem _ (List.mem_cons_of_mem _ (List.mem_cons_of_mem _ (List.mem_cons_of_mem _ (List.mem_cons_self)))))))))))))⟩
    · exact Or.inr ⟨rfl, List.mem_cons_of_mem _ (List.mem_cons_of_mem _ (List.mem_cons_of_mem _ (List.mem_cons_of_mem _ (List.mem_cons_of_mem _ (List.mem_cons_of_mem _ (List.mem_cons_of_mem _ (List.mem_cons_of_mem _ (List.mem_cons_of_mem _ (List.mem_cons_of_mem _ (List.mem_cons_of_mem _ (List.mem_cons_of_mem _ (List.mem_cons_of_mem _ (List.mem_cons_of_mem _ (List.mem_cons_self))))))))))))))⟩
  · refine ⟨shelfo16, shelfN16, fun o ho => ?_⟩
    have ho : o ∈ ([(false, shelf_out)] : List (Bool × wE)) := ho
    simp only [List.mem_cons, List.not_mem_nil, or_false] at ho
    rcases ho with rfl
    · exact Or.inl (List.mem_cons_self)
  · refine ⟨shelfo14, shelfN14, fun o ho => ?_⟩
    have ho : o ∈ ([(true, shelf_l1), (true, shelf_x)] : List (Bool × wE)) := ho
    simp only [List.mem_cons, List.not_mem_nil, or_false] at ho
    rcases ho with rfl | rfl
    · exact Or.inr ⟨rfl, List.mem_cons_of_mem _ (List.mem_cons_of_mem _ (List.mem_cons_of_mem _ (List.mem_cons_of_mem _ (List.mem_cons_of_mem _ (List.mem_cons_of_mem _ (List.mem_cons_of_mem _ (List.mem_cons_of_mem _ (List.mem_cons_of_mem _ (List.mem_cons_of_mem _ (List.mem_cons_of_mem _ (List.mem_cons_of_mem _ (List.mem_cons_of_mem _ (List.mem_cons_of_mem _ (List.mem_cons_of_mem _ (List.mem_cons_self)))))))))))))))⟩
    · exact Or.inr ⟨rfl, List.mem_cons_of_mem _ (List.mem_cons_of_mem _ (List.mem_cons_of_mem _ (List.mem_cons_of_mem _ (List.mem_cons_of_mem _ (List.mem_cons_of_mem _ (List.mem_cons_of_mem _ (List.mem_cons_of_mem _ (List.mem_cons_of_mem _ (List.mem_cons_of_mem _ (List.mem_cons_of_mem _ (List.mem_cons_of_mem _ (List.mem_cons_of_mem _ (List.mem_cons_of_mem _ (List.mem_cons_self))))))))))))))⟩
  · refine ⟨shelfo15, shelfN15, fun o ho => ?_⟩
    have ho : o ∈ ([(true, shelf_l2), (true, shelf_x)] : List (Bool × wE)) := ho
    simp only [List.mem_cons, List.not_mem_nil, or_false] at ho
    rcases ho with rfl | rfl
    · exact Or.inr ⟨rfl, List.mem_cons_of_mem _ (List.mem_cons_of_mem _ (List.mem_cons_of_mem _ (List.mem_cons_of_mem _ (List.mem_cons_of_mem _ (List.mem_cons_of_mem _ (List.mem_cons_of_mem _ (List.mem_cons_of_mem _ (List.mem_cons_of_mem _ (List.mem_cons_of_mem _ (List.mem_cons_of_mem _ (List.mem_cons_of_mem _ (List.mem_cons_of_mem _ (List.mem_cons_of_mem _ (List.mem_cons_of_mem _ (List.mem_cons_of_mem _ (List.mem_cons_self))))))))))))))))⟩
    · exact Or.inr ⟨rfl, List.mem_cons_of_mem _ (List.mem_cons_of_mem _ (List.mem_cons_of_mem _ (List.mem_cons_of_mem _ (List.mem_cons_of_mem _ (List.mem_cons_of_mem _ (List.mem_cons_of_mem _ (List.mem_cons_of_mem _ (List.mem_cons_of_mem _ (List.mem_cons_of_mem _ (List.mem_cons_of_mem _ (List.mem_cons_of_mem _ (List.mem_cons_of_mem _ (List.mem_cons_of_mem _ (List.mem_cons_self))))))))))))))⟩)
theorem shelf_ShN0 {xs : Nat → Int32} {n : Nat} {sf : Option Nat} : wGoes x_KT x_tb x_tyl (x_otS xs n sf) lwFR lwGA.length lwGB.length 12 25 43 shelf_ShWA shelf_ShWB 54 218 60 60 shelf_Sh_in shelf_Sho0 :=
  wDp (wWk (wEd_spec (x_ov0_le sf) u_ctS lwFRok shelf_ShE0) (Nat.le_refl _) (Nat.le_refl _) (Nat.le_refl _) (by decide +kernel) (by decide +kernel)) (by decide) (by decide)
theorem shelf_ShN1 {xs : Nat → Int32} {n : Nat} {sf : Option Nat} : wGoes x_KT x_tb x_tyl (x_otS xs n sf) lwFR lwGA.length lwGB.length 12 25 43 shelf_ShWA shelf_ShWB 54 218 60 60 shelf_Sh_m0 shelf_Sho1 :=
  wDp (wWk (wEd_spec (x_ov0_le sf) u_ctS lwFRok shelf_ShE1) (Nat.le_refl _) (Nat.le_refl _) (Nat.le_refl _) (by decide +kernel) (by decide +kernel)) (by decide) (by decide)
theorem shelf_ShN2 {xs : Nat → Int32} {n : Nat} {sf : Option Nat} : wGoes x_KT x_tb x_tyl (x_otS xs n sf) lwFR lwGA.length lwGB.length 12 25 43 shelf_ShWA shelf_ShWB 54 218 60 60 shelf_Sh_r0 shelf_Sho2 :=
  wDp (wWk (wEd_spec (x_ov0_le sf) u_ctS lwFRok shelf_ShE2) (Nat.le_refl _) (Nat.le_refl _) (Nat.le_refl _) (by decide +kernel) (by decide +kernel)) (by decide) (by decide)
theorem shelf_ShN3 {xs : Nat → Int32} {n : Nat} {sf : Option Nat} : wGoes x_KT x_tb x_tyl (x_otS xs n sf) lwFR lwGA.length lwGB.length 12 25 43 shelf_ShWA shelf_ShWB 54 218 60 60 shelf_Sh_m00 shelf_Sho3 :=
  wDp (wWk (wEd_spec (x_ov0_le sf) u_ctS lwFRok shelf_ShE3) (Nat.le_refl _) (Nat.le_refl _) (Nat.le_refl _) (by decide +kernel) (by decide +kernel)) (by decide) (by decide)
theorem shelf_ShN4 {xs : Nat → Int32} {n : Nat} {sf : Option Nat} : wGoes x_KT x_tb x_tyl (x_otS xs n sf) lwFR lwGA.length lwGB.length 12 25 43 shelf_ShWA shelf_ShWB 54 218 60 60 shelf_Sh_r00 shelf_Sho4 :=
  wDp (wWk (wEd_spec (x_ov0_le sf) u_ctS lwFRok shelf_ShE4) (Nat.le_refl _) (Nat.le_refl _) (Nat.le_refl _) (by decide +kernel) (by decide +kernel)) (by decide) (by decide)
theorem shelf_ShN5 {xs : Nat → Int32} {n : Nat} {sf : Option Nat} : wGoes x_KT x_tb x_tyl (x_otS xs n sf) lwFR lwGA.length lwGB.length 12 25 43 shelf_ShWA shelf_ShWB 54 218 60 60 shelf_Sh_m1 shelf_Sho5 :=
  wDp (wWk (wEd_spec (x_ov0_le sf) u_ctS lwFRok shelf_ShE5) (Nat.le_refl _) (Nat.le_refl _) (Nat.le_refl _) (by decide +kernel) (by decide +kernel)) (by decide) (by decide)
theorem shelf_ShN6 {xs : Nat → Int32} {n : Nat} {sf : Option Nat} : wGoes x_KT x_tb x_tyl (x_otS xs n sf) lwFR lwGA.length lwGB.length 12 25 43 shelf_ShWA shelf_ShWB 54 218 60 60 shelf_Sh_r1 shelf_Sho6 :=
  wDp (wWk (wEd_spec (x_ov0_le sf) u_ctS lwFRok shelf_ShE6) (Nat.le_refl _) (Nat.le_refl _) (Nat.le_refl _) (by decide +kernel) (by decide +kernel)) (by decide) (by decide)
theorem shelf_ShN7 {xs : Nat → Int32} {n : Nat} {sf : Option Nat} : wGoes x_KT x_tb x_tyl (x_otS xs n sf) lwFR lwGA.length lwGB.length 12 25 43 shelf_ShWA shelf_ShWB 54 218 60 60 shelf_Sh_m10 shelf_Sho7 :=
  wDp (wWk (wEd_spec (x_ov0_le sf) u_ctS lwFRok shelf_ShE7) (Nat.le_refl _) (Nat.le_refl _) (Nat.le_refl _) (by decide +kernel) (by decide +kernel)) (by decide) (by decide)
theorem shelf_ShN8 {xs : Nat → Int32} {n : Nat} {sf : Option Nat} : wGoes x_KT x_tb x_tyl (x_otS xs n sf) lwFR lwGA.length lwGB.length 12 25 43 shelf_ShWA shelf_ShWB 54 218 60 60 shelf_Sh_r10 shelf_Sho8 :=
  wDp (wWk (wEd_spec (x_ov0_le sf) u_ctS lwFRok shelf_ShE8) (Nat.le_refl _) (Nat.le_refl _) (Nat.le_refl _) (by decide +kernel) (by decide +kernel)) (by decide) (by decide)
theorem shelf_ShN9 {xs : Nat → Int32} {n : Nat} {sf : Option Nat} : wGoes x_KT x_tb x_tyl (x_otS xs n sf) lwFR lwGA.length lwGB.length 12 25 43 shelf_ShWA shelf_ShWB 54 218 60 60 shelf_Sh_m2 shelf_Sho9 :=
  wDp (wWk (wEd_spec (x_ov0_le sf) u_ctS lwFRok shelf_ShE9) (Nat.le_refl _) (Nat.le_refl _) (Nat.le_refl _) (by decide +kernel) (by decide +kernel)) (by decide) (by decide)
theorem shelf_ShN10 {xs : Nat → Int32} {n : Nat} {sf : Option Nat} : wGoes x_KT x_tb x_tyl (x_otS xs n sf) lwFR lwGA.length lwGB.length 12 25 43 shelf_ShWA shelf_ShWB 54 218 60 60 shelf_Sh_r2 shelf_Sho10 :=
  wDp (wWk (wEd_spec (x_ov0_le sf) u_ctS lwFRok shelf_ShE10) (Nat.le_refl _) (Nat.le_refl _) (Nat.le_refl _) (by decide +kernel) (by decide +kernel)) (by decide) (by decide)
theorem shelf_ShN11 {xs : Nat → Int32} {n : Nat} {sf : Option Nat} : wGoes x_KT x_tb x_tyl (x_otS xs n sf) lwFR lwGA.length lwGB.length 12 25 43 shelf_ShWA shelf_ShWB 54 218 60 60 shelf_Sh_m20 shelf_Sho11 :=
  wDp (wWk (wEd_spec (x_ov0_le sf) u_ctS lwFRok shelf_ShE11) (Nat.le_refl _) (Nat.le_refl _) (Nat.le_refl _) (by decide +kernel) (by decide +kernel)) (by decide) (by decide)
theorem shelf_ShN12 {xs : Nat → Int32} {n : Nat} {sf : Option Nat} : wGoes x_KT x_tb x_tyl (x_otS xs n sf) lwFR lwGA.length lwGB.length 12 25 43 shelf_ShWA shelf_ShWB 54 218 60 60 shelf_Sh_r20 shelf_Sho12 :=
  wDp (wWk (wEd_spec (x_ov0_le sf) u_ctS lwFRok shelf_ShE12) (Nat.le_refl _) (Nat.le_refl _) (Nat.le_refl _) (by decide +kernel) (by decide +kernel)) (by decide) (by decide)
theorem shelf_ShN13 {xs : Nat → Int32} {n : Nat} {sf : Option Nat} : wGoes x_KT x_tb x_tyl (x_otS xs n sf) lwFR lwGA.length lwGB.length 12 25 43 shelf_ShWA shelf_ShWB 54 218 60 60 shelf_Sh_l0qal shelf_Sho13 :=
  wDp (wWk (wEd_spec (x_ov0_le sf) u_ctS lwFRok shelf_ShE13) (Nat.le_refl _) (Nat.le_refl _) (Nat.le_refl _) (by decide +kernel) (by decide +kernel)) (by decide) (by decide)
theorem shelf_ShN14 {xs : Nat → Int32} {n : Nat} {sf : Option Nat} : wGoes x_KT x_tb x_tyl (x_otS xs n sf) lwFR lwGA.length lwGB.length 12 25 43 shelf_ShWA shelf_ShWB 54 218 60 60 shelf_Sh_l1qal shelf_Sho14 :=
  wDp (wWk (wEd_spec (x_ov0_le sf) u_ctS lwFRok shelf_ShE14) (Nat.le_refl _) (Nat.le_refl _) (Nat.le_refl _) (by decide +kernel) (by decide +kernel)) (by decide) (by decide)
theorem shelf_ShN15 {xs : Nat → Int32} {n : Nat} {sf : Option Nat} : wGoes x_KT x_tb x_tyl (x_otS xs n sf) lwFR lwGA.length lwGB.length 12 25 43 shelf_ShWA shelf_ShWB 54 218 60 60 shelf_Sh_l2qal shelf_Sho15 :=
  wDp (wWk (wEd_spec (x_ov0_le sf) u_ctS lwFRok shelf_ShE15) (Nat.le_refl _) (Nat.le_refl _) (Nat.le_refl _) (by decide +kernel) (by decide +kernel)) (by decide) (by decide)
theorem shelf_ShN16 {xs : Nat → Int32} {n : Nat} {sf : Option Nat} : wGoes x_KT x_tb x_tyl (x_otS xs n sf) lwFR lwGA.length lwGB.length 12 25 43 shelf_ShWA shelf_ShWB 54 218 60 60 shelf_Sh_xqal shelf_Sho16 :=
  wDp (wWk (wEd_spec (x_ov0_le sf) u_ctS lwFRok shelf_ShE16) (Nat.le_refl _) (Nat.le_refl _) (Nat.le_refl _) (by decide +kernel) (by decide +kernel)) (by decide) (by decide)
theorem shelf_ShN17 {xs : Nat → Int32} {n : Nat} {sf : Option Nat} : wGoes x_KT x_tb x_tyl (x_otS xs n sf) lwFR lwGA.length lwGB.length 12 25 43 shelf_ShWA shelf_ShWB 54 218 60 60 shelf_Sh_l0qag shelf_Sho17 :=
  wDp (wWk (wEd_spec (x_ov0_le sf) u_ctS lwFRok shelf_ShE17) (Nat.le_refl _) (Nat.le_refl _) (Nat.le_refl _) (by decide +kernel) (by decide +kernel)) (by decide) (by decide)
theorem shelf_ShN18 {xs : Nat → Int32} {n : Nat} {sf : Option Nat} : wGoes x_KT x_tb x_tyl (x_otS xs n sf) lwFR lwGA.length lwGB.length 12 25 43 shelf_ShWA shelf_ShWB 54 218 60 60 shelf_Sh_l1qag shelf_Sho18 :=
  wDp (wWk (wEd_spec (x_ov0_le sf) u_ctS lwFRok shelf_ShE18) (Nat.le_refl _) (Nat.le_refl _) (Nat.le_refl _) (by decide +kernel) (by decide +kernel)) (by decide) (by decide)
theorem shelf_ShN19 {xs : Nat → Int32} {n : Nat} {sf : Option Nat} : wGoes x_KT x_tb x_tyl (x_otS xs n sf) lwFR lwGA.length lwGB.length 12 25 43 shelf_ShWA shelf_ShWB 54 218 60 60 shelf_Sh_l2qag shelf_Sho19 :=
  wDp (wWk (wEd_spec (x_ov0_le sf) u_ctS lwFRok shelf_ShE19) (Nat.le_refl _) (Nat.le_refl _) (Nat.le_refl _) (by decide +kernel) (by decide +kernel)) (by decide) (by decide)
theorem shelf_ShN20 {xs : Nat → Int32} {n : Nat} {sf : Option Nat} : wGoes x_KT x_tb x_tyl (x_otS xs n sf) lwFR lwGA.length lwGB.length 12 25 43 shelf_ShWA shelf_ShWB 54 218 60 60 shelf_Sh_xqag shelf_Sho20 :=
  wDp (wWk (wEd_spec (x_ov0_le sf) u_ctS lwFRok shelf_ShE20) (Nat.le_refl _) (Nat.le_refl _) (Nat.le_refl _) (by decide +kernel) (by decide +kernel)) (by decide) (by decide)
theorem shelf_ShN21 {xs : Nat → Int32} {n : Nat} {sf : Option Nat} : wGoes x_KT x_tb x_tyl (x_otS xs n sf) lwFR lwGA.length lwGB.length 12 25 43 shelf_ShWA shelf_ShWB 54 218 60 60 shelf_Sh_l0qbl shelf_Sho21 :=
  wDp (wWk (wEd_spec (x_ov0_le sf) u_ctS lwFRok shelf_ShE21) (Nat.le_refl _) (Nat.le_refl _) (Nat.le_refl _) (by decide +kernel) (by decide +kernel)) (by decide) (by decide)
theorem shelf_ShN22 {xs : Nat → Int32} {n : Nat} {sf : Option Nat} : wGoes x_KT x_tb x_tyl (x_otS xs n sf) lwFR lwGA.length lwGB.length 12 25 43 shelf_ShWA shelf_ShWB 54 218 60 60 shelf_Sh_l1qbl shelf_Sho22 :=
  wDp (wWk (wEd_spec (x_ov0_le sf) u_ctS lwFRok shelf_ShE22) (Nat.le_refl _) (Nat.le_refl _) (Nat.le_refl _) (by decide +kernel) (by decide +kernel)) (by decide) (by decide)
theorem shelf_ShN23 {xs : Nat → Int32} {n : Nat} {sf : Option Nat} : wGoes x_KT x_tb x_tyl (x_otS xs n sf) lwFR lwGA.length lwGB.length 12 25 43 shelf_ShWA shelf_ShWB 54 218 60 60 shelf_Sh_l2qbl shelf_Sho23 :=
  wDp (wWk (wEd_spec (x_ov0_le sf) u_ctS lwFRok shelf_ShE23) (Nat.le_refl _) (Nat.le_refl _) (Nat.le_refl _) (by decide +kernel) (by decide +kernel)) (by decide) (by decide)
theorem shelf_ShN24 {xs : Nat → Int32} {n : Nat} {sf : Option Nat} : wGoes x_KT x_tb x_tyl (x_otS xs n sf) lwFR lwGA.length lwGB.length 12 25 43 shelf_ShWA shelf_ShWB 54 218 60 60 shelf_Sh_xqbl shelf_Sho24 :=
  wDp (wWk (wEd_spec (x_ov0_le sf) u_ctS lwFRok shelf_ShE24) (Nat.le_refl _) (Nat.le_refl _) (Nat.le_refl _) (by decide +kernel) (by decide +kernel)) (by decide) (by decide)
theorem shelf_ShN25 {xs : Nat → Int32} {n : Nat} {sf : Option Nat} : wGoes x_KT x_tb x_tyl (x_otS xs n sf) lwFR lwGA.length lwGB.length 12 25 43 shelf_ShWA shelf_ShWB 54 218 60 60 shelf_Sh_l0qbg shelf_Sho25 :=
  wDp (wWk (wEd_spec (x_ov0_le sf) u_ctS lwFRok shelf_ShE25) (Nat.le_refl _) (Nat.le_refl _) (Nat.le_refl _) (by decide +kernel) (by decide +kernel)) (by decide) (by decide)
theorem shelf_ShN26 {xs : Nat → Int32} {n : Nat} {sf : Option Nat} : wGoes x_KT x_tb x_tyl (x_otS xs n sf) lwFR lwGA.length lwGB.length 12 25 43 shelf_ShWA shelf_ShWB 54 218 60 60 shelf_Sh_l1qbg shelf_Sho26 :=
  wDp (wWk (wEd_spec (x_ov0_le sf) u_ctS lwFRok shelf_ShE26) (Nat.le_refl _) (Nat.le_refl _) (Nat.le_refl _) (by decide +kernel) (by decide +kernel)) (by decide) (by decide)
theorem shelf_ShN27 {xs : Nat → Int32} {n : Nat} {sf : Option Nat} : wGoes x_KT x_tb x_tyl (x_otS xs n sf) lwFR lwGA.length lwGB.length 12 25 43 shelf_ShWA shelf_ShWB 54 218 60 60 shelf_Sh_l2qbg shelf_Sho27 :=
  wDp (wWk (wEd_spec (x_ov0_le sf) u_ctS lwFRok shelf_ShE27) (Nat.le_refl _) (Nat.le_refl _) (Nat.le_refl _) (by decide +kernel) (by decide +kernel)) (by decide) (by decide)
theorem shelf_ShN28 {xs : Nat → Int32} {n : Nat} {sf : Option Nat} : wGoes x_KT x_tb x_tyl (x_otS xs n sf) lwFR lwGA.length lwGB.length 12 25 43 shelf_ShWA shelf_ShWB 54 218 60 60 shelf_Sh_xqbg shelf_Sho28 :=
  wDp (wWk (wEd_spec (x_ov0_le sf) u_ctS lwFRok shelf_ShE28) (Nat.le_refl _) (Nat.le_refl _) (Nat.le_refl _) (by decide +kernel) (by decide +kernel)) (by decide) (by decide)
theorem shelf_ShN29 {xs : Nat → Int32} {n : Nat} {sf : Option Nat} : wGoes x_KT x_tb x_tyl (x_otS xs n sf) lwFR lwGA.length lwGB.length 12 25 43 shelf_ShWA shelf_ShWB 54 218 60 60 shelf_Sh_l0qcl shelf_Sho29 :=
  wDp (wWk (wEd_spec (x_ov0_le sf) u_ctS lwFRok shelf_ShE29) (Nat.le_refl _) (Nat.le_refl _) (Nat.le_refl _) (by decide +kernel) (by decide +kernel)) (by decide) (by decide)
theorem shelf_ShN30 {xs : Nat → Int32} {n : Nat} {sf : Option Nat} : wGoes x_KT x_tb x_tyl (x_otS xs n sf) lwFR lwGA.length lwGB.length 12 25 43 shelf_ShWA shelf_ShWB 54 218 60 60 shelf_Sh_l1qcl shelf_Sho30 :=
  wDp (wWk (wEd_spec (x_ov0_le sf) u_ctS lwFRok shelf_ShE30) (Nat.le_refl _) (Nat.le_refl _) (Nat.le_refl _) (by decide +kernel) (by decide +kernel)) (by decide) (by decide)
theorem shelf_ShN31 {xs : Nat → Int32} {n : Nat} {sf : Option Nat} : wGoes x_KT x_tb x_tyl (x_otS xs n sf) lwFR lwGA.length lwGB.length 12 25 43 shelf_ShWA shelf_ShWB 54 218 60 60 shelf_Sh_l2qcl shelf_Sho31 :=
  wDp (wWk (wEd_spec (x_ov0_le sf) u_ctS lwFRok shelf_ShE31) (Nat.le_refl _) (Nat.le_refl _) (Nat.le_refl _) (by decide +kernel) (by decide +kernel)) (by decide) (by decide)
theorem shelf_ShN32 {xs : Nat → Int32} {n : Nat} {sf : Option Nat} : wGoes x_KT x_tb x_tyl (x_otS xs n sf) lwFR lwGA.length lwGB.length 12 25 43 shelf_ShWA shelf_ShWB 54 218 60 60 shelf_Sh_xqcl shelf_Sho32 :=
  wDp (wWk (wEd_spec (x_ov0_le sf) u_ctS lwFRok shelf_ShE32) (Nat.le_refl _) (Nat.le_refl _) (Nat.le_refl _) (by decide +kernel) (by decide +kernel)) (by decide) (by decide)
theorem shelf_ShN33 {xs : Nat → Int32} {n : Nat} {sf : Option Nat} : wGoes x_KT x_tb x_tyl (x_otS xs n sf) lwFR lwGA.length lwGB.length 12 25 43 shelf_ShWA shelf_ShWB 54 218 60 60 shelf_Sh_l0qcg shelf_Sho33 :=
  wDp (wWk (wEd_spec (x_ov0_le sf) u_ctS lwFRok shelf_ShE33) (Nat.le_refl _) (Nat.le_refl _) (Nat.le_refl _) (by decide +kernel) (by decide +kernel)) (by decide) (by decide)
theorem shelf_ShN34 {xs : Nat → Int32} {n : Nat} {sf : Option Nat} : wGoes x_KT x_tb x_tyl (x_otS xs n sf) lwFR lwGA.length lwGB.length 12 25 43 shelf_ShWA shelf_ShWB 54 218 60 60 shelf_Sh_l1qcg shelf_Sho34 :=
  wDp (wWk (wEd_spec (x_ov0_le sf) u_ctS lwFRok shelf_ShE34) (Nat.le_refl _) (Nat.le_refl _) (Nat.le_refl _) (by decide +kernel) (by decide +kernel)) (by decide) (by decide)
theorem shelf_ShN35 {xs : Nat → Int32} {n : Nat} {sf : Option Nat} : wGoes x_KT x_tb x_tyl (x_otS xs n sf) lwFR lwGA.length lwGB.length 12 25 43 shelf_ShWA shelf_ShWB 54 218 60 60 shelf_Sh_l2qcg shelf_Sho35 :=
  wDp (wWk (wEd_spec (x_ov0_le sf) u_ctS lwFRok shelf_ShE35) (Nat.le_refl _) (Nat.le_refl _) (Nat.le_refl _) (by decide +kernel) (by decide +kernel)) (by decide) (by decide)
theorem shelf_ShN36 {xs : Nat → Int32} {n : Nat} {sf : Option Nat} : wGoes x_KT x_tb x_tyl (x_otS xs n sf) lwFR lwGA.length lwGB.length 12 25 43 shelf_ShWA shelf_ShWB 54 218 60 60 shelf_Sh_xqcg shelf_Sho36 :=
  wDp (wWk (wEd_spec (x_ov0_le sf) u_ctS lwFRok shelf_ShE36) (Nat.le_refl _) (Nat.le_refl _) (Nat.le_refl _) (by decide +kernel) (by decide +kernel)) (by decide) (by decide)
theorem shelf_ShN37 {xs : Nat → Int32} {n : Nat} {sf : Option Nat} : wGoes x_KT x_tb x_tyl (x_otS xs n sf) lwFR lwGA.length lwGB.length 12 25 43 shelf_ShWA shelf_ShWB 54 218 60 60 shelf_Sh_l0n shelf_Sho37 :=
  wDp (wWk (wEd_spec (x_ov0_le sf) u_ctS lwFRok shelf_ShE37) (Nat.le_refl _) (Nat.le_refl _) (Nat.le_refl _) (by decide +kernel) (by decide +kernel)) (by decide) (by decide)
theorem shelf_ShN38 {xs : Nat → Int32} {n : Nat} {sf : Option Nat} : wGoes x_KT x_tb x_tyl (x_otS xs n sf) lwFR lwGA.length lwGB.length 12 25 43 shelf_ShWA shelf_ShWB 54 218 60 60 shelf_Sh_l1n shelf_Sho38 :=
  wDp (wWk (wEd_spec (x_ov0_le sf) u_ctS lwFRok shelf_ShE38) (Nat.le_refl _) (Nat.le_refl _) (Nat.le_refl _) (by decide +kernel) (by decide +kernel)) (by decide) (by decide)
theorem shelf_ShN39 {xs : Nat → Int32} {n : Nat} {sf : Option Nat} : wGoes x_KT x_tb x_tyl (x_otS xs n sf) lwFR lwGA.length lwGB.length 12 25 43 shelf_ShWA shelf_ShWB 54 218 60 60 shelf_Sh_l2n shelf_Sho39 :=
  wDp (wWk (wEd_spec (x_ov0_le sf) u_ctS lwFRok shelf_ShE39) (Nat.le_refl _) (Nat.le_refl _) (Nat.le_refl _) (by decide +kernel) (by decide +kernel)) (by decide) (by decide)
theorem shelf_ShN40 {xs : Nat → Int32} {n : Nat} {sf : Option Nat} : wGoes x_KT x_tb x_tyl (x_otS xs n sf) lwFR lwGA.length lwGB.length 12 25 43 shelf_ShWA shelf_ShWB 54 218 60 60 shelf_Sh_xn shelf_Sho40 :=
  wDp (wWk (wEd_spec (x_ov0_le sf) u_ctS lwFRok shelf_ShE40) (Nat.le_refl _) (Nat.le_refl _) (Nat.le_refl _) (by decide +kernel) (by decide +kernel)) (by decide) (by decide)
theorem shelf_ShN41 {xs : Nat → Int32} {n : Nat} {sf : Option Nat} : wGoes x_KT x_tb x_tyl (x_otS xs n sf) lwFR lwGA.length lwGB.length 12 25 43 shelf_ShWA shelf_ShWB 54 218 60 60 shelf_Sh_l0e shelf_Sho41 :=
  wDp (wWk (wEd_spec (x_ov0_le sf) u_ctS lwFRok shelf_ShE41) (Nat.le_refl _) (Nat.le_refl _) (Nat.le_refl _) (by decide +kernel) (by decide +kernel)) (by decide) (by decide)
theorem shelf_ShN42 {xs : Nat → Int32} {n : Nat} {sf : Option Nat} : wGoes x_KT x_tb x_tyl (x_otS xs n sf) lwFR lwGA.length lwGB.length 12 25 43 shelf_ShWA shelf_ShWB 54 218 60 60 shelf_Sh_l1e shelf_Sho42 :=
  wDp (wWk (wEd_spec (x_ov0_le sf) u_ctS lwFRok shelf_ShE42) (Nat.le_refl _) (Nat.le_refl _) (Nat.le_refl _) (by decide +kernel) (by decide +kernel)) (by decide) (by decide)
theorem shelf_ShN43 {xs : Nat → Int32} {n : Nat} {sf : Option Nat} : wGoes x_KT x_tb x_tyl (x_otS xs n sf) lwFR lwGA.length lwGB.length 12 25 43 shelf_ShWA shelf_ShWB 54 218 60 60 shelf_Sh_l2e shelf_Sho43 :=
  wDp (wWk (wEd_spec (x_ov0_le sf) u_ctS lwFRok shelf_ShE43) (Nat.le_refl _) (Nat.le_refl _) (Nat.le_refl _) (by decide +kernel) (by decide +kernel)) (by decide) (by decide)
theorem shelf_ShN44 {xs : Nat → Int32} {n : Nat} {sf : Option Nat} : wGoes x_KT x_tb x_tyl (x_otS xs n sf) lwFR lwGA.length lwGB.length 12 25 43 shelf_ShWA shelf_ShWB 54 218 60 60 shelf_Sh_l0pa shelf_Sho44 :=
  wDp (wWk (wEd_spec (x_ov0_le sf) u_ctS lwFRok shelf_ShE44) (Nat.le_refl _) (Nat.le_refl _) (Nat.le_refl _) (by decide +kernel) (by decide +kernel)) (by decide) (by decide)
theorem shelf_ShN45 {xs : Nat → Int32} {n : Nat} {sf : Option Nat} : wGoes x_KT x_tb x_tyl (x_otS xs n sf) lwFR lwGA.length lwGB.length 12 25 43 shelf_ShWA shelf_ShWB 54 218 60 60 shelf_Sh_l1pa shelf_Sho45 :=
  wDp (wWk (wEd_spec (x_ov0_le sf) u_ctS lwFRok shelf_ShE45) (Nat.le_refl _) (Nat.le_refl _) (Nat.le_refl _) (by decide +kernel) (by decide +kernel)) (by decide) (by decide)
theorem shelf_ShN46 {xs : Nat → Int32} {n : Nat} {sf : Option Nat} : wGoes x_KT x_tb x_tyl (x_otS xs n sf) lwFR lwGA.length lwGB.length 12 25 43 shelf_ShWA shelf_ShWB 54 218 60 60 shelf_Sh_l2pa shelf_Sho46 :=
  wDp (wWk (wEd_spec (x_ov0_le sf) u_ctS lwFRok shelf_ShE46) (Nat.le_refl _) (Nat.le_refl _) (Nat.le_refl _) (by decide +kernel) (by decide +kernel)) (by decide) (by decide)
theorem shelf_ShN47 {xs : Nat → Int32} {n : Nat} {sf : Option Nat} : wGoes x_KT x_tb x_tyl (x_otS xs n sf) lwFR lwGA.length lwGB.length 12 25 43 shelf_ShWA shelf_ShWB 54 218 60 60 shelf_Sh_xpa shelf_Sho47 :=
  wDp (wWk (wEd_spec (x_ov0_le sf) u_ctS lwFRok shelf_ShE47) (Nat.le_refl _) (Nat.le_refl _) (Nat.le_refl _) (by decide +kernel) (by decide +kernel)) (by decide) (by decide)
theorem shelf_ShN48 {xs : Nat → Int32} {n : Nat} {sf : Option Nat} : wGoes x_KT x_tb x_tyl (x_otS xs n sf) lwFR lwGA.length lwGB.length 12 25 43 shelf_ShWA shelf_ShWB 54 218 60 60 shelf_Sh_l0pb shelf_Sho48 :=
  wDp (wWk (wEd_spec (x_ov0_le sf) u_ctS lwFRok shelf_ShE48) (Nat.le_refl _) (Nat.le_refl _) (Nat.le_refl _) (by decide +kernel) (by decide +kernel)) (by decide) (by decide)
theorem shelf_ShN49 {xs : Nat → Int32} {n : Nat} {sf : Option Nat} : wGoes x_KT x_tb x_tyl (x_otS xs n sf) lwFR lwGA.length lwGB.length 12 25 43 shelf_ShWA shelf_ShWB 54 218 60 60 shelf_Sh_l1pb shelf_Sho49 :=
  wDp (wWk (wEd_spec (x_ov0_le sf) u_ctS lwFRok shelf_ShE49) (Nat.le_refl _) (Nat.le_refl _) (Nat.le_refl _) (by decide +kernel) (by decide +kernel)) (by decide) (by decide)
theorem shelf_ShN50 {xs : Nat → Int32} {n : Nat} {sf : Option Nat} : wGoes x_KT x_tb x_tyl (x_otS xs n sf) lwFR lwGA.length lwGB.length 12 25 43 shelf_ShWA shelf_ShWB 54 218 60 60 shelf_Sh_l2pb shelf_Sho50 :=
  wDp (wWk (wEd_spec (x_ov0_le sf) u_ctS lwFRok shelf_ShE50) (Nat.le_refl _) (Nat.le_refl _) (Nat.le_refl _) (by decide +kernel) (by decide +kernel)) (by decide) (by decide)
theorem shelf_ShN51 {xs : Nat → Int32} {n : Nat} {sf : Option Nat} : wGoes x_KT x_tb x_tyl (x_otS xs n sf) lwFR lwGA.length lwGB.length 12 25 43 shelf_ShWA shelf_ShWB 54 218 60 60 shelf_Sh_xpb shelf_Sho51 :=
  wDp (wWk (wEd_spec (x_ov0_le sf) u_ctS lwFRok shelf_ShE51) (Nat.le_refl _) (Nat.le_refl _) (Nat.le_refl _) (by decide +kernel) (by decide +kernel)) (by decide) (by decide)
theorem shelf_ShN52 {xs : Nat → Int32} {n : Nat} {sf : Option Nat} : wGoes x_KT x_tb x_tyl (x_otS xs n sf) lwFR lwGA.length lwGB.length 12 25 43 shelf_ShWA shelf_ShWB 54 218 60 60 shelf_Sh_l0o shelf_Sho52 :=
  wDp (wWk (wEd_spec (x_ov0_le sf) u_ctS lwFRok shelf_ShE52) (Nat.le_refl _) (Nat.le_refl _) (Nat.le_refl _) (by decide +kernel) (by decide +kernel)) (by decide) (by decide)
theorem shelf_ShN53 {xs : Nat → Int32} {n : Nat} {sf : Option Nat} : wGoes x_KT x_tb x_tyl (x_otS xs n sf) lwFR lwGA.length lwGB.length 12 25 43 shelf_ShWA shelf_ShWB 54 218 60 60 shelf_Sh_l1o shelf_Sho53 :=
  wDp (wWk (wEd_spec (x_ov0_le sf) u_ctS lwFRok shelf_ShE53) (Nat.le_refl _) (Nat.le_refl _) (Nat.le_refl _) (by decide +kernel) (by decide +kernel)) (by decide) (by decide)
theorem shelf_ShN54 {xs : Nat → Int32} {n : Nat} {sf : Option Nat} : wGoes x_KT x_tb x_tyl (x_otS xs n sf) lwFR lwGA.length lwGB.length 12 25 43 shelf_ShWA shelf_ShWB 54 218 60 60 shelf_Sh_l2o shelf_Sho54 :=
  wDp (wWk (wEd_spec (x_ov0_le sf) u_ctS lwFRok shelf_ShE54) (Nat.le_refl _) (Nat.le_refl _) (Nat.le_refl _) (by decide +kernel) (by decide +kernel)) (by decide) (by decide)
theorem shelf_ShN55 {xs : Nat → Int32} {n : Nat} {sf : Option Nat} : wGoes x_KT x_tb x_tyl (x_otS xs n sf) lwFR lwGA.length lwGB.length 12 25 43 shelf_ShWA shelf_ShWB 54 218 60 60 shelf_Sh_xo shelf_Sho55 :=
  wDp (wWk (wEd_spec (x_ov0_le sf) u_ctS lwFRok shelf_ShE55) (Nat.le_refl _) (Nat.le_refl _) (Nat.le_refl _) (by decide +kernel) (by decide +kernel)) (by decide) (by decide)
end XRuG1
