/-! Runs: graphs, blocks, 3. -/
noncomputable section XRuG3
theorem shelfG7re {xs : Nat → Int32} {n : Nat} {sf : Option Nat} : wRe x_KT x_tb x_tyl (x_otS xs n sf) lwFR lwGA.length lwGB.length 54 218 60 60 false shelf_in lwF7 :=
  wReG (OX := shelfG7OX) (iu := 7) lwFRok (wDp (shelf_Sh_g0_G shelf_Sh_in List.mem_cons_self) (by decide) (by decide)) rfl (by decide +kernel) (by decide +kernel) (by decide +kernel) (by decide +kernel) shelfG7gk (by decide) (by decide) (by decide)
theorem shelf_szSN0 {xs : Nat → Int32} {n : Nat} {sf : Option Nat} : wGoes x_KT x_tb x_tyl (x_otS xs n sf) lwFR lwGA.length lwGB.length 11 25 43 shelf_szSWA shelf_szSWB 54 218 60 60 shelf_szS_in shelf_szSo0 :=
  wDp (wWk (wEd_spec (x_ov0_le sf) u_ctS lwFRok shelf_szSE0) (Nat.le_refl _) (Nat.le_refl _) (Nat.le_refl _) (by decide +kernel) (by decide +kernel)) (by decide) (by decide)
theorem shelf_szSN1 {xs : Nat → Int32} {n : Nat} {sf : Option Nat} : wGoes x_KT x_tb x_tyl (x_otS xs n sf) lwFR lwGA.length lwGB.length 11 25 43 shelf_szSWA shelf_szSWB 54 218 60 60 shelf_szS_m0 shelf_szSo1 :=
  wDp (wWk (wEd_spec (x_ov0_le sf) u_ctS lwFRok shelf_szSE1) (Nat.le_refl _) (Nat.le_refl _) (Nat.le_refl _) (by decide +kernel) (by decide +kernel)) (by decide) (by decide)
theorem shelf_szSN2 {xs : Nat → Int32} {n : Nat} {sf : Option Nat} : wGoes x_KT x_tb x_tyl (x_otS xs n sf) lwFR lwGA.length lwGB.length 11 25 43 shelf_szSWA shelf_szSWB 54 218 60 60 shelf_szS_r0 shelf_szSo2 :=
  wDp (wWk (wEd_spec (x_ov0_le sf) u_ctS lwFRok shelf_szSE2) (Nat.le_refl _) (Nat.le_refl _) (Nat.le_refl _) (by decide +kernel) (by decide +kernel)) (by decide) (by decide)
theorem shelf_szSN3 {xs : Nat → Int32} {n : Nat} {sf : Option Nat} : wGoes x_KT x_tb x_tyl (x_otS xs n sf) lwFR lwGA.length lwGB.length 11 25 43 shelf_szSWA shelf_szSWB 54 218 60 60 shelf_szS_m00 shelf_szSo3 :=
  wDp (wWk (wEd_spec (x_ov0_le sf) u_ctS lwFRok shelf_szSE3) (Nat.le_refl _) (Nat.le_refl _) (Nat.le_refl _) (by decide +kernel) (by decide +kernel)) (by decide) (by decide)
theorem shelf_szSN4 {xs : Nat → Int32} {n : Nat} {sf : Option Nat} : wGoes x_KT x_tb x_tyl (x_otS xs n sf) lwFR lwGA.length lwGB.length 11 25 43 shelf_szSWA shelf_szSWB 54 218 60 60 shelf_szS_r00 shelf_szSo4 :=
  wDp (wWk (wEd_spec (x_ov0_le sf) u_ctS lwFRok shelf_szSE4) (Nat.le_refl _) (Nat.le_refl _) (Nat.le_refl _) (by decide +kernel) (by decide +kernel)) (by decide) (by decide)
theorem shelf_szSN5 {xs : Nat → Int32} {n : Nat} {sf : Option Nat} : wGoes x_KT x_tb x_tyl (x_otS xs n sf) lwFR lwGA.length lwGB.length 11 25 43 shelf_szSWA shelf_szSWB 54 218 60 60 shelf_szS_m1 shelf_szSo5 :=
  wDp (wWk (wEd_spec (x_ov0_le sf) u_ctS lwFRok shelf_szSE5) (Nat.le_refl _) (Nat.le_refl _) (Nat.le_refl _) (by decide +kernel) (by decide +kernel)) (by decide) (by decide)
theorem shelf_szSN6 {xs : Nat → Int32} {n : Nat} {sf : Option Nat} : wGoes x_KT x_tb x_tyl (x_otS xs n sf) lwFR lwGA.length lwGB.length 11 25 43 shelf_szSWA shelf_szSWB 54 218 60 60 shelf_szS_r1 shelf_szSo6 :=
  wDp (wWk (wEd_spec (x_ov0_le sf) u_ctS lwFRok shelf_szSE6) (Nat.le_refl _) (Nat.le_refl _) (Nat.le_refl _) (by decide +kernel) (by decide +kernel)) (by decide) (by decide)
theorem shelf_szSN7 {xs : Nat → Int32} {n : Nat} {sf : Option Nat} : wGoes x_KT x_tb x_tyl (x_otS xs n sf) lwFR lwGA.length lwGB.length 11 25 43 shelf_szSWA shelf_szSWB 54 218 60 60 shelf_szS_m10 shelf_szSo7 :=
  wDp (wWk (wEd_spec (x_ov0_le sf) u_ctS lwFRok shelf_szSE7) (Nat.le_refl _) (Nat.le_refl _) (Nat.le_refl _) (by decide +kernel) (by decide +kernel)) (by decide) (by decide)
theorem shelf_szSN8 {xs : Nat → Int32} {n : Nat} {sf : Option Nat} : wGoes x_KT x_tb x_tyl (x_otS xs n sf) lwFR lwGA.length lwGB.length 11 25 43 shelf_szSWA shelf_szSWB 54 218 60 60 shelf_szS_r10 shelf_szSo8 :=
  wDp (wWk (wEd_spec (x_ov0_le sf) u_ctS lwFRok shelf_szSE8) (Nat.le_refl _) (Nat.le_refl _) (Nat.le_refl _) (by decide +kernel) (by decide +kernel)) (by decide) (by decide)
theorem shelf_szSN9 {xs : Nat → Int32} {n : Nat} {sf : Option Nat} : wGoes x_KT x_tb x_tyl (x_otS xs n sf) lwFR lwGA.length lwGB.length 11 25 43 shelf_szSWA shelf_szSWB 54 218 60 60 shelf_szS_m2 shelf_szSo9 :=
  wDp (wWk (wEd_spec (x_ov0_le sf) u_ctS lwFRok shelf_szSE9) (Nat.le_refl _) (Nat.le_refl _) (Nat.le_refl _) (by decide +kernel) (by decide +kernel)) (by decide) (by decide)
theorem shelf_szSN10 {xs : Nat → Int32} {n : Nat} {sf : Option Nat} : wGoes x_KT x_tb x_tyl (x_otS xs n sf) lwFR lwGA.length lwGB.length 11 25 43 shelf_szSWA shelf_szSWB 54 218 60 60 shelf_szS_r2 shelf_szSo10 :=
  wDp (wWk (wEd_spec (x_ov0_le sf) u_ctS lwFRok shelf_szSE10) (Nat.le_refl _) (Nat.le_refl _) (Nat.le_refl _) (by decide +kernel) (by decide +kernel)) (by decide) (by decide)
theorem shelf_szSN11 {xs : Nat → Int32} {n : Nat} {sf : Option Nat} : wGoes x_KT x_tb x_tyl (x_otS xs n sf) lwFR lwGA.length lwGB.length 11 25 43 shelf_szSWA shelf_szSWB 54 218 60 60 shelf_szS_m20 shelf_szSo11 :=
  wDp (wWk (wEd_spec (x_ov0_le sf) u_ctS lwFRok shelf_szSE11) (Nat.le_refl _) (Nat.le_refl _) (Nat.le_refl _) (by decide +kernel) (by decide +kernel)) (by decide) (by decide)
theorem shelf_szSN12 {xs : Nat → Int32} {n : Nat} {sf : Option Nat} : wGoes x_KT x_tb x_tyl (x_otS xs n sf) lwFR lwGA.length lwGB.length 11 25 43 shelf_szSWA shelf_szSWB 54 218 60 60 shelf_szS_r20 shelf_szSo12 :=
  wDp (wWk (wEd_spec (x_ov0_le sf) u_ctS lwFRok shelf_szSE12) (Nat.le_refl _) (Nat.le_refl _) (Nat.le_refl _) (by decide +kernel) (by decide +kernel)) (by decide) (by decide)
theorem shelf_szSN13 {xs : Nat → Int32} {n : Nat} {sf : Option Nat} : wGoes x_KT x_tb x_tyl (x_otS xs n sf) lwFR lwGA.length lwGB.length 11 25 43 shelf_szSWA shelf_szSWB 54 218 60 60 shelf_szS_l0qal shelf_szSo13 :=
  wDp (wWk (wEd_spec (x_ov0_le sf) u_ctS lwFRok shelf_szSE13) (Nat.le_refl _) (Nat.le_refl _) (Nat.le_refl _) (by decide +kernel) (by decide +kernel)) (by decide) (by decide)
theorem shelf_szSN14 {xs : Nat → Int32} {n : Nat} {sf : Option Nat} : wGoes x_KT x_tb x_tyl (x_otS xs n sf) lwFR lwGA.length lwGB.length 11 25 43 shelf_szSWA shelf_szSWB 54 218 60 60 shelf_szS_l1qal shelf_szSo14 :=
  wDp (wWk (wEd_spec (x_ov0_le sf) u_ctS lwFRok shelf_szSE14) (Nat.le_refl _) (Nat.le_refl _) (Nat.le_refl _) (by decide +kernel) (by decide +kernel)) (by decide) (by decide)
theorem shelf_szSN15 {xs : Nat → Int32} {n : Nat} {sf : Option Nat} : wGoes x_KT x_tb x_tyl (x_otS xs n sf) lwFR lwGA.length lwGB.length 11 25 43 shelf_szSWA shelf_szSWB 54 218 60 60 shelf_szS_l2qal shelf_szSo15 :=
  wDp (wWk (wEd_spec (x_ov0_le sf) u_ctS lwFRok shelf_szSE15) (Nat.le_refl _) (Nat.le_refl _) (Nat.le_refl _) (by decide +kernel) (by decide +kernel)) (by decide) (by decide)
theorem shelf_szSN16 {xs : Nat → Int32} {n : Nat} {sf : Option Nat} : wGoes x_KT x_tb x_tyl (x_otS xs n sf) lwFR lwGA.length lwGB.length 11 25 43 shelf_szSWA shelf_szSWB 54 218 60 60 shelf_szS_xqal shelf_szSo16 :=
  wDp (wWk (wEd_spec (x_ov0_le sf) u_ctS lwFRok shelf_szSE16) (Nat.le_refl _) (Nat.le_refl _) (Nat.le_refl _) (by decide +kernel) (by decide +kernel)) (by decide) (by decide)
theorem shelf_szSN17 {xs : Nat → Int32} {n : Nat} {sf : Option Nat} : wGoes x_KT x_tb x_tyl (x_otS xs n sf) lwFR lwGA.length lwGB.length 11 25 43 shelf_szSWA shelf_szSWB 54 218 60 60 shelf_szS_l0qag shelf_szSo17 :=
  wDp (wWk (wEd_spec (x_ov0_le sf) u_ctS lwFRok shelf_szSE17) (Nat.le_refl _) (Nat.le_refl _) (Nat.le_refl _) (by decide +kernel) (by decide +kernel)) (by decide) (by decide)
theorem shelf_szSN18 {xs : Nat → Int32} {n : Nat} {sf : Option Nat} : wGoes x_KT x_tb x_tyl (x_otS xs n sf) lwFR lwGA.length lwGB.length 11 25 43 shelf_szSWA shelf_szSWB 54 218 60 60 shelf_szS_l1qag shelf_szSo18 :=
  wDp (wWk (wEd_spec (x_ov0_le sf) u_ctS lwFRok shelf_szSE18) (Nat.le_refl _) (Nat.le_refl _) (Nat.le_refl _) (by decide +kernel) (by decide +kernel)) (by decide) (by decide)
theorem shelf_szSN19 {xs : Nat → Int32} {n : Nat} {sf : Option Nat} : wGoes x_KT x_tb x_tyl (x_otS xs n sf) lwFR lwGA.length lwGB.length 11 25 43 shelf_szSWA shelf_szSWB 54 218 60 60 shelf_szS_l2qag shelf_szSo19 :=
  wDp (wWk (wEd_spec (x_ov0_le sf) u_ctS lwFRok shelf_szSE19) (Nat.le_refl _) (Nat.le_refl _) (Nat.le_refl _) (by decide +kernel) (by decide +kernel)) (by decide) (by decide)
theorem shelf_szSN20 {xs : Nat → Int32} {n : Nat} {sf : Option Nat} : wGoes x_KT x_tb x_tyl (x_otS xs n sf) lwFR lwGA.length lwGB.length 11 25 43 shelf_szSWA shelf_szSWB 54 218 60 60 shelf_szS_xqag shelf_szSo20 :=
  wDp (wWk (wEd_spec (x_ov0_le sf) u_ctS lwFRok shelf_szSE20) (Nat.le_refl _) (Nat.le_refl _) (Nat.le_refl _) (by decide +kernel) (by decide +kernel)) (by decide) (by decide)
theorem shelf_szSN21 {xs : Nat → Int32} {n : Nat} {sf : Option Nat} : wGoes x_KT x_tb x_tyl (x_otS xs n sf) lwFR lwGA.length lwGB.length 11 25 43 shelf_szSWA shelf_szSWB 54 218 60 60 shelf_szS_l0n shelf_szSo21 :=
  wDp (wWk (wEd_spec (x_ov0_le sf) u_ctS lwFRok shelf_szSE21) (Nat.le_refl _) (Nat.le_refl _) (Nat.le_refl _) (by decide +kernel) (by decide +kernel)) (by decide) (by decide)
theorem shelf_szSN22 {xs : Nat → Int32} {n : Nat} {sf : Option Nat} : wGoes x_KT x_tb x_tyl (x_otS xs n sf) lwFR lwGA.length lwGB.length 11 25 43 shelf_szSWA shelf_szSWB 54 218 60 60 shelf_szS_l1n shelf_szSo22 :=
  wDp (wWk (wEd_spec (x_ov0_le sf) u_ctS lwFRok shelf_szSE22) (Nat.le_refl _) (Nat.le_refl _) (Nat.le_refl _) (by decide +kernel) (by decide +kernel)) (by decide) (by decide)
theorem shelf_szSN23 {xs : Nat → Int32} {n : Nat} {sf : Option Nat} : wGoes x_KT x_tb x_tyl (x_otS xs n sf) lwFR lwGA.length lwGB.length 11 25 43 shelf_szSWA shelf_szSWB 54 218 60 60 shelf_szS_l2n shelf_szSo23 :=
  wDp (wWk (wEd_spec (x_ov0_le sf) u_ctS lwFRok shelf_szSE23) (Nat.le_refl _) (Nat.le_refl _) (Nat.le_refl _) (by decide +kernel) (by decide +kernel)) (by decide) (by decide)
theorem shelf_szSN24 {xs : Nat → Int32} {n : Nat} {sf : Option Nat} : wGoes x_KT x_tb x_tyl (x_otS xs n sf) lwFR lwGA.length lwGB.length 11 25 43 shelf_szSWA shelf_szSWB 54 218 60 60 shelf_szS_xn shelf_szSo24 :=
  wDp (wWk (wEd_spec (x_ov0_le sf) u_ctS lwFRok shelf_szSE24) (Nat.le_refl _) (Nat.le_refl _) (Nat.le_refl _) (by decide +kernel) (by decide +kernel)) (by decide) (by decide)
theorem shelf_szSN25 {xs : Nat → Int32} {n : Nat} {sf : Option Nat} : wGoes x_KT x_tb x_tyl (x_otS xs n sf) lwFR lwGA.length lwGB.length 11 25 43 shelf_szSWA shelf_szSWB 54 218 60 60 shelf_szS_l0o shelf_szSo25 :=
  wDp (wWk (wEd_spec (x_ov0_le sf) u_ctS lwFRok shelf_szSE25) (Nat.le_refl _) (Nat.le_refl _) (Nat.le_refl _) (by decide +kernel) (by decide +kernel)) (by decide) (by decide)
theorem shelf_szSN26 {xs : Nat → Int32} {n : Nat} {sf : Option Nat} : wGoes x_KT x_tb x_tyl (x_otS xs n sf) lwFR lwGA.length lwGB.length 11 25 43 shelf_szSWA shelf_szSWB 54 218 60 60 shelf_szS_l1o shelf_szSo26 :=
  wDp (wWk (wEd_spec (x_ov0_le sf) u_ctS lwFRok shelf_szSE26) (Nat.le_refl _) (Nat.le_refl _) (Nat.le_refl _) (by decide +kernel) (by decide +kernel)) (by decide) (by decide)
theorem shelf_szSN27 {xs : Nat → Int32} {n : Nat} {sf : Option Nat} : wGoes x_KT x_tb x_tyl (x_otS xs n sf) lwFR lwGA.length lwGB.length 11 25 43 shelf_szSWA shelf_szSWB 54 218 60 60 shelf_szS_l2o shelf_szSo27 :=
  wDp (wWk (wEd_spec (x_ov0_le sf) u_ctS lwFRok shelf_szSE27) (Nat.le_refl _) (Nat.le_refl _) (Nat.le_refl _) (by decide +kernel) (by decide +kernel)) (by decide) (by decide)
theorem shelf_szSN28 {xs : Nat → Int32} {n : Nat} {sf : Option Nat} : wGoes x_KT x_tb x_tyl (x_otS xs n sf) lwFR lwGA.length lwGB.length 11 25 43 shelf_szSWA shelf_szSWB 54 218 60 60 shelf_szS_xo shelf_szSo28 :=
  wDp (wWk (wEd_spec (x_ov0_le sf) u_ctS lwFRok shelf_szSE28) (Nat.le_refl _) (Nat.le_refl _) (Nat.le_refl _) (by decide +kernel) (by decide +kernel)) (by decide) (by decide)
def shelf_szS_g0_nd : List wE := [shelf_szS_in, shelf_szS_m0, shelf_szS_m00, shelf_szS_m1, shelf_szS_m10, shelf_szS_m2, shelf_szS_m20, shelf_szS_r0, shelf_szS_r00, shelf_szS_r1, shelf_szS_r10, shelf_szS_r2, shelf_szS_r20, shelf_szS_l0qal, shelf_szS_l0qag, shelf_szS_l0n, shelf_szS_l0o, shelf_szS_xqal, shelf_szS_xqag, shelf_szS_xn, shelf_szS_xo, shelf_szS_l1qal, shelf_szS_l1qag, shelf_szS_l1n, shelf_szS_l1o, shelf_szS_l2qal, shelf_szS_l2qag, shelf_szS_l2n, shelf_szS_l2o]
theorem shelf_szS_g0_G {xs : Nat → Int32} {n : Nat} {sf : Option Nat} : ∀ nd ∈ shelf_szS_g0_nd, wGoes x_KT x_tb x_tyl (x_otS xs n sf) lwFR lwGA.length lwGB.length 11 25 43 shelf_szSWA shelf_szSWB 54 218 60 60 nd (shelf_szS_g0_ex.map (fun x => (false, x))) := wGraph (fun nd hnd => by
  have hnd : nd ∈ ([shelf_szS_in, shelf_szS_m0, shelf_szS_m00, shelf_szS_m1, shelf_szS_m10, shelf_szS_m2, shelf_szS_m20, shelf_szS_r0, shelf_szS_r00, shelf_szS_r1, shelf_szS_r10, shelf_szS_r2, shelf_szS_r20, shelf_szS_l0qal, shelf_szS_l0qag, shelf_szS_l0n, shelf_szS_l0o, shelf_szS_xqal, shelf_szS_xqag, shelf_szS_xn, shelf_szS_xo, shelf_szS_l1qal, shelf_szS_l1qag, shelf_szS_l1n, shelf_szS_l1o, shelf_szS_l2qal, shelf_szS_l2qag, shelf_szS_l2n, shelf_szS_l2o] : List wE) := hnd
  simp only [List.mem_cons, List.not_mem_nil, or_false] at hnd
  rcases hnd with rfl | rfl | rfl | rfl | rfl | rfl | rfl | rfl | rfl | rfl | rfl | rfl | rfl | rfl | rfl | rfl | rfl | rfl | rfl | rfl | rfl | rfl | rfl | rfl | rfl | rfl | rfl | rfl | rfl
  · refine ⟨shelf_szSo0, shelf_szSN0, fun o ho => ?_⟩
    have ho : o ∈ ([(true, shelf_szS_m0), (true, shelf_szS_m00), (true, shelf_szS_m1), (true, shelf_szS_m10), (true, shelf_szS_m2), (true, shelf_szS_m20), (false, shelf_szS_out)] : List (Bool × wE)) := ho
    simp only [List.mem_cons, List.not_mem_nil, or_false] at ho
    rcases ho with rfl | rfl | rfl | rfl | rfl | rfl | rfl
    · exact Or.inr ⟨rfl, List.mem_cons_of_mem _ (List.mem_cons_self)⟩
    · exact Or.inr ⟨rfl, List.mem_cons_of_mem _ (List.mem_cons_of_mem _ (List.mem_cons_self))⟩
    · exact Or.inr ⟨rfl, List.mem_cons_of_mem _ (List.mem_cons_of_mem _ (List.mem_cons_of_mem _ (List.mem_cons_self)))⟩
    · exact Or.inr ⟨rfl, List.mem_cons_of_mem _ (List.mem_cons_of_mem _ (List.mem_cons_of_mem _ (List.mem_cons_of_mem _ (List.mem_cons_self))))⟩
    · exact Or.inr ⟨rfl, List.mem_cons_of_mem _ (List.mem_cons_of_mem _ (List.mem_cons_of_mem _ (List.mem_cons_of_mem _ (List.mem_cons_of_mem _ (List.mem_cons_self)))))⟩
    · exact Or.inr ⟨rfl, List.mem_cons_of_mem _ (List.mem_cons_of_mem _ (List.mem_cons_of_mem _ (List.mem_cons_of_mem _ (List.mem_cons_of_mem _ (List.mem_cons_of_mem _ (List.mem_cons_self))))))⟩
    · exact Or.inl (List.mem_cons_self)
  · refine ⟨shelf_szSo1, shelf_szSN1, fun o ho => ?_⟩
    have ho : o ∈ ([(true, shelf_szS_r0), (false, shelf_szS_out)] : List (Bool × wE)) := ho
    simp only [List.mem_cons, List.not_mem_nil, or_false] at ho
    rcases ho with rfl | rfl
    · exact Or.inr ⟨rfl, List.mem_cons_of_mem _ (List.mem_cons_of_mem _ (List.mem_cons_of_mem _ (List.mem_cons_of_mem _ (List.mem_cons_of_mem _ (List.mem_cons_of_mem _ (List.mem_cons_of_mem _ (List.mem_cons_self)))))))⟩
    · exact Or.inl (List.mem_cons_self)
  · refine ⟨shelf_szSo3, shelf_szSN3, fun o ho => ?_⟩
    have ho : o ∈ ([(true, shelf_szS_r00), (false, shelf_szS_out)] : List (Bool × wE)) := ho
    simp only [List.mem_cons, List.not_mem_nil, or_false] at ho
    rcases ho with rfl | rfl
    · exact Or.inr ⟨rfl, List.mem_cons_of_mem _ (List.mem_cons_of_mem _ (List.mem_cons_of_mem _ (List.mem_cons_of_mem _ (List.mem_cons_of_mem _ (List.mem_cons_of_mem _ (List.mem_cons_of_mem _ (List.mem_cons_of_mem _ (List.mem_cons_self))))))))⟩
    · exact Or.inl (List.mem_cons_self)
  · refine ⟨shelf_szSo5, shelf_szSN5, fun o ho => ?_⟩
    have ho : o ∈ ([(true, shelf_szS_r1), (false, shelf_szS_out)] : List (Bool × wE)) := ho
    simp only [List.mem_cons, List.not_mem_nil, or_false] at ho
    rcases ho with rfl | rfl
    · exact Or.inr ⟨rfl, List.mem_cons_of_mem _ (List.mem_cons_of_mem _ (List.mem_cons_of_mem _ (List.mem_cons_of_mem _ (List.mem_cons_of_mem _ (List.mem_cons_of_mem _ (List.mem_cons_of_mem _ (List.mem_cons_of_mem _ (List.mem_cons_of_mem _ (List.mem_cons_self)))))))))⟩
    · exact Or.inl (List.mem_cons_self)
  · refine ⟨shelf_szSo7, shelf_szSN7, fun o ho => ?_⟩
    have ho : o ∈ ([(true, shelf_szS_r10), (false, shelf_szS_out)] : List (Bool × wE)) := ho
    simp only [List.mem_cons, List.not_mem_nil, or_false] at ho
    rcases ho with rfl | rfl
    · exact Or.inr ⟨rfl, List.mem_cons_of_mem _ (List.mem_cons_of_mem _ (List.mem_cons_of_mem _ (List.mem_cons_of_mem _ (List.mem_cons_of_mem _ (List.mem_cons_of_mem _ (List.mem_cons_of_mem _ (List.mem_cons_of_mem _ (List.mem_cons_of_mem _ (List.mem_cons_of_mem _ (List.mem_cons_self))))))))))⟩
    · exact Or.inl (List.mem_cons_self)
  · refine ⟨shelf_szSo9, shelf_szSN9, fun o ho => ?_⟩
    have ho : o ∈ ([(true, shelf_szS_r2), (false, shelf_szS_out)] : List (Bool × wE)) := ho
    simp only [List.mem_cons, List.not_mem_nil, or_false] at ho
    rcases ho with rfl | rfl
    · exact Or.inr ⟨rfl, List.mem_cons_of_mem _ (List.mem_cons_of_mem _ (List.mem_cons_of_mem _ (List.mem_cons_of_mem _ (List.mem_cons_of_mem _ (List.mem_cons_of_mem _ (List.mem_cons_of_mem _ (List.mem_cons_of_mem _ (List.mem_cons_of_mem _ (List.mem_cons_of_mem _ (List.mem_cons_of_mem _ (List.mem_cons_self)))))))))))⟩
    · exact Or.inl (List.mem_cons_self)
  · refine ⟨shelf_szSo11, shelf_szSN11, fun o ho => ?_⟩
    have ho : o ∈ ([(true, shelf_szS_r20), (false, shelf_szS_out)] : List (Bool × wE)) := ho
    simp only [List.mem_cons, List.not_mem_nil, or_false] at ho
    rcases ho with rfl | rfl
    · exact Or.inr ⟨rfl, List.mem_cons_of_mem _ (List.mem_cons_of_mem _ (List.mem_cons_of_mem _ (List.mem_cons_of_mem _ (List.mem_cons_of_mem _ (List.mem_cons_of_mem _ (List.mem_cons_of_mem _ (List.mem_cons_of_mem _ (List.mem_cons_of_mem _ (List.mem_cons_of_mem _ (List.mem_cons_of_mem _ (List.mem_cons_of_mem _ (List.mem_cons_self))))))))))))⟩
    · exact Or.inl (List.mem_cons_self)
  · refine ⟨shelf_szSo2, shelf_szSN2, fun o ho => ?_⟩
    have ho : o ∈ ([(true, shelf_szS_l0qal), (true, shelf_szS_l0qag), (true, shelf_szS_l0n), (true, shelf_szS_l0o)] : List (Bool × wE)) := ho
    simp only [List.mem_cons, List.not_mem_nil, or_false] at ho
    rcases ho with rfl | rfl | rfl | rfl
    · exact Or.inr ⟨rfl, List.mem_cons_of_mem _ (List.mem_cons_of_mem _ (List.mem_cons_of_mem _ (List.mem_cons_of_mem _ (List.mem_cons_of_mem _ (List.mem_cons_of_mem _ (List.mem_cons_of_mem _ (List.mem_cons_of_mem _ (List.mem_cons_of_mem _ (List.mem_cons_of_mem _ (List.mem_cons_of_mem _ (List.mem_cons_of_mem _ (List.mem_cons_of_mem _ (List.mem_cons_self)))))))))))))⟩
    · exact Or.inr ⟨rfl, List.mem_cons_of_mem _ (List.mem_cons_of_mem _ (List.mem_cons_of_mem _ (List.mem_cons_of_mem _ (List.mem_cons_of_mem _ (List.mem_cons_of_mem _ (List.mem_cons_of_mem _ (List.mem_cons_of_mem _ (List.mem_cons_of_mem _ (List.mem_cons_of_mem _ (List.mem_cons_of_mem _ (List.mem_cons_of_mem _ (List.mem_cons_of_mem _ (List.mem_cons_of_mem _ (List.mem_cons_self))))))))))))))⟩
    · exact Or.inr ⟨rfl, List.mem_cons_of_mem _ (List.mem_cons_of_mem _ (List.mem_cons_of_mem _ (List.mem_cons_of_mem _ (List.mem_cons_of_mem _ (List.mem_cons_of_mem _ (List.mem_cons_of_mem _ (List.mem_cons_of_mem _ (List.mem_cons_of_mem _ (List.mem_cons_of_mem _ (List.mem_cons_of_mem _ (List.mem_cons_of_mem _ (List.mem_cons_of_mem _ (List.mem_cons_of_mem _ (List.mem_cons_of_mem _ (List.mem_cons_self)))))))))))))))⟩
    · exact Or.inr ⟨rfl, List.mem_cons_of_mem _ (List.mem_cons_of_mem _ (List.mem_cons_of_mem _ (List.mem_cons_of_mem _ (List.mem_cons_of_mem _ (List.mem_cons_of_mem _ (List.mem_cons_of_mem _ (List.mem_cons_of_mem _ (List.mem_cons_of_mem _ (List.mem_cons_of_mem _ (List.mem_cons_of_mem _ (List.mem_cons_of_mem _ (List.mem_cons_of_mem _ (List.mem_cons_of_mem _ (List.mem_cons_of_mem _ (List.mem_cons_of_mem _ (List.mem_cons_self))))))))))))))))⟩
  · refine ⟨shelf_szSo4, shelf_szSN4, fun o ho => ?_⟩
    have ho : o ∈ ([(true, shelf_szS_xqal), (true, shelf_szS_xqag), (true, shelf_szS_xn), (true, shelf_szS_xo)] : List (Bool × wE)) := ho
    simp only [List.mem_cons, List.not_mem_nil, or_false] at ho
    rcases ho with rfl | rfl | rfl | rfl
    · exact Or.inr ⟨rfl, List.mem_cons_of_mem _ (List.mem_cons_of_mem _ (List.mem_cons_of_mem _ (List.mem_cons_of_mem _ (List.mem_cons_of_mem _ (List.mem_cons_of_mem _ (List.mem_cons_of_mem _ (List.mem_cons_of_mem _ (List.mem_cons_of_mem _ (List.mem_cons_of_mem _ (List.mem_cons_of_mem _ (List.mem_cons_of_mem _ (List.mem_cons_of_mem _ (List.mem_cons_of_mem _ (List.mem_cons_of_mem _ (List.mem_cons_of_mem _ (List.mem_cons_of_mem _ (List.mem_cons_self)))))))))))))))))⟩
    · exact Or.inr ⟨rfl, List.mem_cons_of_mem _ (List.mem_cons_of_mem _ (List.mem_cons_of_mem _ (List.mem_cons_of_mem _ (List.mem_cons_of_mem _ (List.mem_cons_of_mem _ (List.mem_cons_of_mem _ (List.mem_cons_of_mem _ (List.mem_cons_of_mem _ (List.mem_cons_of_mem _ (List.mem_cons_of_mem _ (List.mem_cons_of_mem _ (List.mem_cons_of_mem _ (List.mem_cons_of_mem _ (List.mem_cons_of_mem _ (List.mem_cons_of_mem _ (List.mem_cons_of_mem _ (List.mem_cons_of_mem _ (List.mem_cons_self))))))))))))))))))⟩
    · exact Or.inr ⟨rfl, List.mem_cons_of_mem _ (List.mem_cons_of_mem _ (List.mem_cons_of_mem _ (List.mem_cons_of_mem _ (List.mem_cons_of_mem _ (List.mem_cons_of_mem _ (List.mem_cons_of_mem _ (List.mem_cons_of_mem _ (List.mem_cons_of_mem _ (List.mem_cons_of_mem _ (List.mem_cons_of_mem _ (List.mem_cons_of_mem _ (List.mem_cons_of_mem _ (List.mem_cons_of_mem _ (List.mem_cons_of_mem _ (List.mem_cons_of_mem _ (List.mem_cons_of_mem _ (List.mem_cons_of_mem _ (List.mem_cons_of_mem _ (List.mem_cons_self)))))))))))))))))))⟩
    · exact Or.inr ⟨rfl, List.mem_cons_of_mem _ (List.mem_cons_of_mem _ (List.mem_cons_of_mem _ (List.mem_cons_of_mem _ (List.mem_cons_of_mem _ (List.mem_cons_of_mem _ (List.mem_cons_of_mem _ (List.mem_cons_of_mem _ (List.mem_cons_of_mem _ (List.mem_cons_of_mem _ (List.mem_cons_of_mem _ (List.mem_cons_of_mem _ (List.mem_cons_of_mem _ (List.mem_cons_of_mem _ (List.mem_cons_of_mem _ (List.mem_cons_of_mem _ (List.mem_cons_of_mem _ (List.mem_cons_of_mem _ (List.mem_cons_of_mem _ (List.mem_cons_of_mem _ (List.mem_cons_self))))))))))))))))))))⟩
  · refine ⟨shelf_szSo6, shelf_szSN6, fun o ho => ?_⟩
    have ho : o ∈ ([(true, shelf_szS_l1qal), (true, shelf_szS_l1qag), (true, shelf_szS_l1n), (true, shelf_szS_l1o)] : List (Bool × wE)) := ho
    simp only [List.mem_cons, List.not_mem_nil, or_false] at ho
    rcases ho with rfl | rfl | rfl | rfl
    · exact Or.inr ⟨rfl, List.mem_cons_of_mem _ (List.mem_cons_of_mem _ (List.mem_cons_of_mem _ (List.mem_cons_of_mem _ (List.mem_cons_of_mem _ (List.mem_cons_of_mem _ (List.mem_cons_of_mem _ (List.mem_cons_of_mem _ (List.mem_cons_of_mem _ (List.mem_cons_of_mem _ (List.mem_cons_of_mem _ (List.mem_cons_of_mem _ (List.mem_cons_of_mem _ (List.mem_cons_of_mem _ (List.mem_cons_of_mem _ (List.mem_cons_of_mem _ (List.mem_cons_of_mem _ (List.mem_cons_of_mem _ (List.mem_cons_of_mem _ (List.mem_cons_of_mem _ (List.mem_cons_of_mem _ (List.mem_cons_self)))))))))))))))))))))⟩
    · exact Or.inr ⟨rfl, List.mem_cons_of_mem _ (List.mem_cons_of_mem _ (List.mem_cons_of_mem _ (List.mem_cons_of_mem _ (List.mem_cons_of_mem _ (List.mem_cons_of_mem _ (List.mem_cons_of_mem _ (List.mem_cons_of_mem _ (List.mem_cons_of_mem _ (List.mem_cons_of_mem _ (List.mem_cons_of_mem _ (List.mem_cons_of_mem _ (List.mem_cons_of_mem _ (List.mem_cons_of_mem _ (List.mem_cons_of_mem _ (List.mem_cons_of_mem _ (List.mem_cons_of_mem _ (List.mem_cons_of_mem _ (List.mem_cons_of_mem _ (List.mem_cons_of_mem _ (List.mem_cons_of_mem _ (List.mem_cons_of_mem _ (List.mem_cons_self))))))))))))))))))))))⟩
    · exact Or.inr ⟨rfl, List.mem_cons_of_mem _ (List.mem_cons_of_mem _ (List.mem_cons_of_mem _ (List.mem_cons_of_mem _ (List.mem_cons_of_mem _ (List.mem_cons_of_mem _ (List.mem_cons_of_mem _ (List.mem_cons_of_mem _ (List.mem_cons_of_mem _ (List.mem_cons_of_mem _ (List.mem_cons_of_mem _ (List.mem_cons_of_mem _ (List.mem_cons_of_mem _ (List.mem_cons_of_mem _ (List.mem_cons_of_mem _ (List.mem_cons_of_mem _ (List.mem_cons_of_mem _ (List.mem_cons_of_mem _ (List.mem_cons_of_mem _ (List.mem_cons_of_mem _ (List.mem_cons_of_mem _ (List.mem_cons_of_mem _ (List.mem_cons_of_mem _ (List.mem_cons_self)))))))))))))))))))))))⟩
    · exact Or.inr ⟨rfl, List.mem_cons_of_mem _ (List.mem_cons_of_mem _ (List.mem_cons_of_mem _ (List.mem_cons_of_mem _ (List.mem_cons_of_mem _ (List.mem_cons_of_mem _ (List.mem_cons_of_mem _ (List.mem_cons_of_mem _ (List.mem_cons_of_mem _ (List.mem_cons_of_mem _ (List.mem_cons_of_mem _ (List.mem_cons_of_mem _ (List.mem_cons_of_mem _ (List.mem_cons_of_mem _ (List.mem_cons_of_mem _ (List.mem_cons_of_mem _ (List.mem_cons_of_mem _ (List.mem_cons_of_mem _ (List.mem_cons_of_mem _ (List.mem_cons_of_mem _ (List.mem_cons_of_mem _ (List.mem_cons_of_mem _ (List.mem_cons_of_mem _ (List.mem_cons_of_mem _ (List.mem_cons_self))))))))))))))))))))))))⟩
  · refine ⟨shelf_szSo8, shelf_szSN8, fun o ho => ?_⟩
    have ho : o ∈ ([(true, shelf_szS_xqal), (true, shelf_szS_xqag), (true, shelf_szS_xn), (true, shelf_szS_xo)] : List (Bool × wE)) := ho
    simp only [List.mem_cons, List.not_mem_nil, or_false] at ho
    rcases ho with rfl | rfl | rfl | rfl
    · exact Or.inr ⟨rfl, List.mem_cons_of_mem _ (List.mem_cons_of_mem _ (List.mem_cons_of_mem _ (List.mem_cons_of_mem _ (List.mem_cons_of_mem _ (List.mem_cons_of_mem _ (List.mem_cons_of_mem _ (List.mem_cons_of_mem _ (List.mem_cons_of_mem _ (List.mem_cons_of_mem _ (List.mem_cons_of_mem _ (List.mem_cons_of_mem _ (List.mem_cons_of_mem _ (List.mem_cons_of_mem _ (List.mem_cons_of_mem _ (List.mem_cons_of_mem _ (List.mem_cons_of_mem _ (List.mem_cons_self)))))))))))))))))⟩
    · exact Or.inr ⟨rfl, List.mem_cons_of_mem _ (List.mem_cons_of_mem _ (List.mem_cons_of_mem _ (List.mem_cons_of_mem _ (List.mem_cons_of_mem _ (List.mem_cons_of_mem _ (List.mem_cons_of_mem _ (List.mem_cons_of_mem _ (List.mem_cons_of_mem _ (List.mem_cons_of_mem _ (List.mem_cons_of_mem _ (List.mem_cons_of_mem _ (List.mem_cons_of_mem _ (List.mem_cons_of_mem _ (List.mem_cons_of_mem _ (List.mem_cons_of_mem _ (List.mem_cons_of_mem _ (List.mem_cons_of_mem _ (List.mem_cons_self))))))))))))))))))⟩
    · exact Or.inr ⟨rfl, List.mem_cons_of_mem _ (List.mem_cons_of_mem _ (List.mem_cons_of_mem _ (List.mem_cons_of_mem _ (List.mem_cons_of_mem _ (List.mem_cons_of_mem _ (List.mem_cons_of_mem _ (List.mem_cons_of_mem _ (List.mem_cons_of_mem _ (List.mem_cons_of_mem _ (List.mem_cons_of_mem _ (List.mem_cons_of_mem _ (List.mem_cons_of_mem _ (List.mem_cons_of_mem _ (List.mem_cons_of_mem _ (List.mem_cons_of_mem _ (List.mem_cons_of_mem _ (List.mem_cons_of_mem _ (List.mem_cons_of_mem _ (List.mem_cons_self)))))))))))))))))))⟩
    · exact Or.inr ⟨rfl, List.mem_cons_of_mem _ (List.mem_cons_of_mem _ (List.mem_cons_of_mem _ (List.mem_cons_of_mem _ (List.mem_cons_of_mem _ (List.mem_cons_of_mem _ (List.mem_cons_of_mem _ (List.mem_cons_of_mem _ (List.mem_cons_of_mem _ (List.mem_cons_of_mem _ (List.mem_cons_of_mem _ (List.mem_cons_of_mem _ (List.mem_cons_of_mem _ (List.mem_cons_of_mem _ (List.mem_cons_of_mem _ (List.mem_cons_of_mem _ (List.mem_cons_of_mem _ (List.mem_cons_of_mem _ (List.mem_cons_of_mem _ (List.mem_cons_of_mem _ (List.mem_cons_self))))))))))))))))))))⟩
  · refine ⟨shelf_szSo10, shelf_szSN10, fun o ho => ?_⟩
    have ho : o ∈ ([(true, shelf_szS_l2qal), (true, shelf_szS_l2qag), (true, shelf_szS_l2n), (true, shelf_szS_l2o)] : List (Bool × wE)) := ho
    simp only [List.mem_cons, List.not_mem_nil, or_false] at ho
    rcases ho with rfl | rfl | rfl | rfl
    · exact Or.inr ⟨rfl, List.mem_cons_of_mem _ (List.mem_cons_of_mem _ (List.mem_cons_of_mem _ (List.mem_cons_of_mem _ (List.mem_cons_of_mem _ (List.mem_cons_of_mem _ (List.mem_cons_of_mem _ (List.mem_cons_of_mem _ (List.mem_cons_of_mem _ (List.mem_cons_of_mem _ (List.mem_cons_of_mem _ (List.mem_cons_of_mem _ (List.mem_cons_of_mem _ (List.mem_cons_of_mem _ (List.mem_cons_of_mem _ (List.mem_cons_of_mem _ (List.mem_cons_of_mem _ (List.mem_cons_of_mem _ (List.mem_cons_of_mem _ (List.mem_cons_of_mem _ (List.mem_cons_of_mem _ (List.mem_cons_of_mem _ (List.mem_cons_of_mem _ (List.mem_cons_of_mem _ (List.mem_cons_of_mem _ (List.mem_cons_self)))))))))))))))))))))))))⟩
    · exact Or.inr ⟨rfl, List.mem_cons_of_mem _ (List.mem_cons_of_mem _ (List.mem_cons_of_mem _ (List.mem_cons_of_mem _ (List.mem_cons_of_mem _ (List.mem_cons_of_mem _ (List.mem_cons_of_mem _ (List.mem_cons_of_mem _ (List.mem_cons_of_mem _ (List.mem_cons_of_mem _ (List.mem_cons_of_mem _ (List.mem_cons_of_mem _ (List.mem_cons_of_mem _ (List.mem_cons_of_mem _ (List.mem_cons_of_mem _ (List.mem_cons_of_mem _ (List.mem_cons_of_mem _ (List.mem_cons_of_mem _ (List.mem_cons_of_mem _ (List.mem_cons_of_mem _ (List.mem_cons_of_mem _ (List.mem_cons_of_mem _ (List.mem_cons_of_mem _ (List.mem_cons_of_mem _ (List.mem_cons_of_mem _ (List.mem_cons_of_mem _ (List.mem_cons_self))))))))))))))))))))))))))⟩
    · exact Or.inr ⟨rfl, List.mem_cons_of_mem _ (List.mem_cons_of_mem _ (List.mem_cons_of_mem _ (List.mem_cons_of_mem _ (List.mem_cons_of_mem _ (List.mem_cons_of_mem _ (List.mem_cons_of_mem _ (List.mem_cons_of_mem _ (List.mem_cons_of_mem _ (List.mem_cons_of_mem _ (List.mem_cons_of_mem _ (List.mem_cons_of_mem _ (List.mem_cons_of_mem _ (List.mem_cons_of_mem _ (List.mem_cons_of_mem _ (List.mem_cons_of_mem _ (List.mem_cons_of_mem _ (List.mem_cons_of_mem _ (List.mem_cons_of_mem _ (List.mem_cons_of_mem _ (List.mem_cons_of_mem _ (List.mem_cons_of_mem _ (List.mem_cons_of_mem _ (List.mem_cons_of_mem _ (List.mem_cons_of_mem _ (List.mem_cons_of_mem _ (List.mem_cons_of_mem _ (List.mem_cons_self)))))))))))))))))))))))))))⟩
    · exact Or.inr ⟨rfl, List.mem_cons_of_mem _ (List.mem_cons_of_mem _ (List.mem_cons_of_mem _ (List.mem_cons_of_mem _ (List.mem_cons_of_mem _ (List.mem_cons_of_mem _ (List.mem_cons_of_mem _ (List.mem_cons_of_mem _ (List.mem_cons_of_mem _ (List.mem_cons_of_mem _ (List.mem_cons_of_mem _ (List.mem_cons_of_mem _ (List.mem_cons_of_mem _ (List.mem_cons_of_mem _ (List.mem_cons_of_mem _ (List.mem_cons_of_mem _ (List.mem_cons_of_mem _ (List.mem_cons_of_mem _ (List.mem_cons_of_mem _ (List.mem_cons_of_mem _ (List.mem_cons_of_mem _ (List.mem_cons_of_mem _ (List.mem_cons_of_mem _ (List.mem_cons_of_mem _ (List.mem_cons_of_mem _ (List.mem_cons_of_mem _ (List.mem_cons_of_mem _ (List.mem_cons_of_mem _ (List.mem_cons_self))))))))))))))))))))))))))))⟩
  · refine ⟨shelf_szSo12, shelf_szSN12, fun o ho => ?_⟩
    have ho : o ∈ ([(true, shelf_szS_xqal), (true, shelf_szS_xqag), (true, shelf_szS_xn), (true, shelf_szS_xo)] : List (Bool × wE)) := ho
    simp only [List.mem_cons, List.not_mem_nil, or_false] at ho
    rcases ho with rfl | rfl | rfl | rfl
    · exact Or.inr ⟨rfl, List.mem_cons_of_mem _ (List.mem_cons_of_mem _ (List.mem_cons_of_mem _ (List.mem_cons_of_mem _ (List.mem_cons_of_mem _ (List.mem_cons_of_mem _ (List.mem_cons_of_mem _ (List.mem_cons_of_mem _ (List.mem_cons_of_mem _ (List.mem_cons_of_mem _ (List.mem_cons_of_mem _ (List.mem_cons_of_mem _ (List.mem_cons_of_mem _ (List.mem_cons_of_mem _ (List.mem_cons_of_mem _ (List.mem_cons_of_mem _ (List.mem_cons_of_mem _ (List.mem_cons_self)))))))))))))))))⟩
    · exact Or.inr ⟨rfl, List.mem_cons_of_mem _ (List.mem_cons_of_mem _ (List.mem_cons_of_mem _ (List.mem_cons_of_mem _ (List.mem_cons_of_mem _ (List.mem_cons_of_mem _ (List.mem_cons_of_mem _ (List.mem_cons_of_mem _ (List.mem_cons_of_mem _ (List.mem_cons_of_mem _ (List.mem_cons_of_mem _ (List.mem_cons_of_mem _ (List.mem_cons_of_mem _ (List.mem_cons_of_mem _ (List.mem_cons_of_mem _ (List.mem_cons_of_mem _ (List.mem_cons_of_mem _ (List.mem_cons_of_mem _ (List.mem_cons_self))))))))))))))))))⟩
    · exact Or.inr ⟨rfl, List.mem_cons_of_mem _ (List.mem_cons_of_mem _ (List.mem_cons_of_mem _ (List.mem_cons_of_mem _ (List.mem_cons_of_mem _ (List.mem_cons_of_mem _ (List.mem_cons_of_mem _ (List.mem_cons_of_mem _ (List.mem_cons_of_mem _ (List.mem_cons_of_mem _ (List.mem_cons_of_mem _ (List.mem_cons_of_mem _ (List.mem_cons_of_mem _ (List.mem_cons_of_mem _ (List.mem_cons_of_mem _ (List.mem_cons_of_mem _ (List.mem_cons_of_mem _ (List.mem_cons_of_mem _ (List.mem_cons_of_mem _ (List.mem_cons_self)))))))))))))))))))⟩
    · exact Or.inr ⟨rfl, List.mem_cons_of_mem _ (List.mem_cons_of_mem _ (List.mem_cons_of_mem _ (List.mem_cons_of_mem _ (List.mem_cons_of_mem _ (List.mem_cons_of_mem _ (List.mem_cons_of_mem _ (List.mem_cons_of_mem _ (List.mem_cons_of_mem _ (List.mem_cons_of_mem _ (List.mem_cons_of_mem _ (List.mem_cons_of_mem _ (List.mem_cons_of_mem _ (List.mem_cons_of_mem _ (List.mem_cons_of_mem _ (List.mem_cons_of_mem _ (List.mem_cons_of_mem _ (List.mem_cons_of_mem _ (List.mem_cons_of_mem _ (List.mem_cons_of_mem _ (List.mem_cons_self))))))))))))))))))))⟩
  · refine ⟨shelf_szSo13, shelf_szSN13, fun o ho => ?_⟩
    have ho : o ∈ ([(true, shelf_szS_l0qal), (true, shelf_szS_l0qag), (true, shelf_szS_l0n), (true, shelf_szS_l0o), (true, shelf_szS_xqal), (true, shelf_szS_xqag), (true, shelf_szS_xn), (true, shelf_szS_xo)] : List (Bool × wE)) := ho
    simp only [List.mem_cons, List.not_mem_nil, or_false] at ho
    rcases ho with rfl | rfl | rfl | rfl | rfl | rfl | rfl | rfl
    · exact Or.inr ⟨rfl, List.mem_cons_of_mem _ (List.mem_cons_of_mem _ (List.mem_cons_of_mem _ (List.mem_cons_of_mem _ (List.mem_cons_of_mem _ (List.mem_cons_of_mem _ (List.mem_cons_of_mem _ (List.mem_cons_of_mem _ (List.mem_cons_of_mem _ (List.mem_cons_of_mem _ (List.mem_cons_of_mem _ (List.mem_cons_of_mem _ (List.mem_cons_of_mem _ (List.mem_cons_self)))))))))))))⟩
    · exact Or.inr ⟨rfl, List.mem_cons_of_mem _ (List.mem_cons_of_mem _ (List.mem_cons_of_mem _ (List.mem_cons_of_mem _ (List.mem_cons_of_mem _ (List.mem_cons_of_mem _ (List.mem_cons_of_mem _ (List.mem_cons_of_mem _ (List.mem_cons_of_mem _ (List.mem_cons_of_mem _ (List.mem_cons_of_mem _ (List.mem_cons_of_mem _ (List.mem_cons_of_mem _ (List.mem_cons_of_mem _ (List.mem_cons_self))))))))))))))⟩
    · exact Or.inr ⟨rfl, List.mem_cons_of_mem _ (List.mem_cons_of_mem _ (List.mem_cons_of_mem _ (List.mem_cons_of_mem _ (List.mem_cons_of_mem _ (List.mem_cons_of_mem _ (List.mem_cons_of_mem _ (List.mem_cons_of_mem _ (List.mem_cons_of_mem _ (List.mem_cons_of_mem _ (List.mem_cons_of_mem _ (List.mem_cons_of_mem _ (List.mem_cons_of_mem _ (List.mem_cons_of_mem _ (List.mem_cons_of_mem _ (List.mem_cons_self)))))))))))))))⟩
    · exact Or.inr ⟨rfl, List.mem_cons_of_mem _ (List.mem_cons_of_mem _ (List.mem_cons_of_mem _ (List.mem_cons_of_mem _ (List.mem_cons_of_mem _ (List.mem_cons_of_mem _ (List.mem_cons_of_mem _ (List.mem_cons_of_mem _ (List.mem_cons_of_mem _ (List.mem_cons_of_mem _ (List.mem_cons_of_mem _ (List.mem_cons_of_mem _ (List.mem_cons_of_mem _ (List.mem_cons_of_mem _ (List.mem_cons_of_mem _ (List.mem_cons_of_mem _ (List.mem_cons_self))))))))))))))))⟩
    · exact Or.inr ⟨rfl, List.mem_cons_of_mem _ (List.mem_cons_of_mem _ (List.mem_cons_of_mem _ (List.mem_cons_of_mem _ (List.mem_cons_of_mem _ (List.mem_cons_of_mem _ (List.mem_cons_of_mem _ (List.mem_cons_of_mem _ (List.mem_cons_of_mem _ (List.mem_cons_of_mem _ (List.mem_cons_of_mem _ (List.mem_cons_of_mem _ (List.mem_cons_of_mem _ (List.mem_cons_of_mem _ (List.mem_cons_of_mem _ (List.mem_cons_of_mem _ (List.mem_cons_of_mem _ (List.mem_cons_self)))))))))))))))))⟩
    · exact Or.inr ⟨rfl, List.mem_cons_of_mem _ (List.mem_cons_of_mem _ (List.mem_cons_of_mem _ (List.mem_cons_of_mem _ (List.mem_cons_of_mem _ (List.mem_cons_of_mem _ (List.mem_cons_of_mem _ (List.mem_cons_of_mem _ (List.mem_cons_of_mem _ (List.mem_cons_of_mem _ (List.mem_cons_of_mem _ (List.mem_cons_of_mem _ (List.mem_cons_of_mem _ (List.mem_cons_of_mem _ (List.mem_cons_of_mem _ (List.mem_cons_of_mem _ (List.mem_cons_of_mem _ (List.mem_cons_of_mem _ (List.mem_cons_self))))))))))))))))))⟩
    · exact Or.inr ⟨rfl, List.mem_cons_of_mem _ (List.mem_cons_of_mem _ (List.mem_cons_of_mem _ (List.mem_cons_of_mem _ (List.mem_cons_of_mem _ (List.mem_cons_of_mem _ (List.mem_cons_of_mem _ (List.mem_cons_of_mem _ (List.mem_cons_of_mem _ (List.mem_cons_of_mem _ (List.mem_cons_of_mem _ (List.mem_cons_of_mem _ (List.mem_cons_of_mem _ (List.mem_cons_of_mem _ (List.mem_cons_of_mem _ (List.mem_cons_of_mem _ (List.mem_cons_of_mem _ (List.mem_cons_of_mem _ (List.mem_cons_of_mem _ (List.mem_cons_self)))))))))))))))))))⟩
    · exact Or.inr ⟨rfl, List.mem_cons_of_mem _ (List.mem_cons_of_mem _ (List.mem_cons_of_mem _ (List.mem_cons_of_mem _ (List.mem_cons_of_mem _ (List.mem_cons_of_mem _ (List.mem_cons_of_mem _ (List.mem_cons_of_mem _ (List.mem_cons_of_mem _ (List.mem_cons_of_mem _ (List.mem_cons_of_mem _ (List.mem_cons_of_mem _ (List.mem_cons_of_mem _ (List.mem_cons_of_mem _ (List.mem_cons_of_mem _ (List.mem_cons_of_mem _ (List.mem_cons_of_mem _ (List.mem_cons_of_mem _ (List.mem_cons_of_mem _ (List.mem_cons_of_mem _ (List.mem_cons_self))))))))))))))))))))⟩
  · refine ⟨shelf_szSo17, shelf_szSN17, fun o ho => ?_⟩
    have ho : o ∈ ([(true, shelf_szS_l0qal), (true, shelf_szS_l0qag), (true, shelf_szS_l0n), (true, shelf_szS_l0o), (true, shelf_szS_xqal), (true, shelf_szS_xqag), (true, shelf_szS_xn), (true, shelf_szS_xo)] : List (Bool × wE)) := ho
    simp only [List.mem_cons, List.not_mem_nil, or_false] at ho
    rcases ho with rfl | rfl | rfl | rfl | rfl | rfl | rfl | rfl
    · exact Or.inr ⟨rfl, List.mem_cons_of_mem _ (List.mem_cons_of_mem _ (List.mem_cons_of_mem _ (List.mem_cons_of_mem _ (List.mem_cons_of_mem _ (List.mem_cons_of_mem _ (List.mem_cons_of_mem _ (List.mem_cons_of_mem _ (List.mem_cons_of_mem _ (List.mem_cons_of_mem _ (List.mem_cons_of_mem _ (List.mem_cons_of_mem _ (List.mem_cons_of_mem _ (List.mem_cons_self)))))))))))))⟩
    · exact Or.inr ⟨rfl, List.mem_cons_of_mem _ (List.mem_cons_of_mem _ (List.mem_cons_of_mem _ (List.mem_cons_of_mem _ (List.mem_cons_of_mem _ (List.mem_cons_of_mem _ (List.mem_cons_of_mem _ (List.mem_cons_of_mem _ (List.mem_cons_of_mem _ (List.mem_cons_of_mem _ (List.mem_cons_of_mem _ (List.mem_cons_of_mem _ (List.mem_cons_of_mem _ (List.mem_cons_of_mem _ (List.mem_cons_self))))))))))))))⟩
    · exact Or.inr ⟨rfl, List.mem_cons_of_mem _ (List.mem_cons_of_mem _ (List.mem_cons_of_mem _ (List.mem_cons_of_mem _ (List.mem_cons_of_mem _ (List.mem_cons_of_mem _ (List.mem_cons_of_mem _ (List.mem_cons_of_mem _ (List.mem_cons_of_mem _ (List.mem_cons_of_mem _ (List.mem_cons_of_mem _ (List.mem_cons_of_mem _ (List.mem_cons_of_mem _ (List.mem_cons_of_mem _ (List.mem_cons_of_mem _ (List.mem_cons_self)))))))))))))))⟩
    · exact Or.inr ⟨rfl, List.mem_cons_of_mem _ (List.mem_cons_of_mem _ (List.mem_cons_of_mem _ (List.mem_cons_of_mem _ (List.mem_cons_of_mem _ (List.mem_cons_of_mem _ (List.mem_cons_of_mem _ (List.mem_cons_of_mem _ (List.mem_cons_of_mem _ (List.mem_cons_of_mem _ (List.mem_cons_of_mem _ (List.mem_cons_of_mem _ (List.mem_cons_of_mem _ (List.mem_cons_of_mem _ (List.mem_cons_of_mem _ (List.mem_cons_of_mem _ (List.mem_cons_self))))))))))))))))⟩
    · exact Or.inr ⟨rfl, List.mem_cons_of_mem _ (List.mem_cons_of_mem _ (List.mem_cons_of_mem _ (List.mem_cons_of_mem _ (List.mem_cons_of_mem _ (List.mem_cons_of_mem _ (List.mem_cons_of_mem _ (List.mem_cons_of_mem _ (List.mem_cons_of_mem _ (List.mem_cons_of_mem _ (List.mem_cons_of_mem _ (List.mem_cons_of_mem _ (List.mem_cons_of_mem _ (List.mem_cons_of_mem _ (List.mem_cons_of_mem _ (List.mem_cons_of_mem _ (List.mem_cons_of_mem _ (List.mem_cons_self)))))))))))))))))⟩
    · exact Or.inr ⟨rfl, List.mem_cons_of_mem _ (List.mem_cons_of_mem _ (List.mem_cons_of_mem _ (List.mem_cons_of_mem _ (List.mem_cons_of_mem _ (List.mem_cons_of_mem _ (List.mem_cons_of_mem _ (List.mem_cons_of_mem _ (List.mem_cons_of_mem _ (List.mem_cons_of_mem _ (List.mem_cons_of_mem _ (List.mem_cons_of_mem _ (List.mem_cons_of_mem _ (List.mem_cons_of_mem _ (List.mem_cons_of_mem _ (List.mem_cons_of_mem _ (List.mem_cons_of_mem _ (List.mem_cons_of_mem _ (List.mem_cons_self))))))))))))))))))⟩
    · exact Or.inr ⟨rfl, List.mem_cons_of_mem _ (List.mem_cons_of_mem _ (List.mem_cons_of_mem _ (List.mem_cons_of_mem _ (List.mem_cons_of_mem _ (List.mem_cons_of_mem _ (List.mem_cons_of_mem _ (List.mem_cons_of_mem _ (List.mem_cons_of_mem _ (List.mem_cons_of_mem _ (List.mem_cons_of_mem _ (List.mem_cons_of_mem _ (List.mem_cons_of_mem _ (List.mem_cons_of_mem _ (List.mem_cons_of_mem _ (List.mem_cons_of_mem _ (List.mem_cons_of_mem _ (List.mem_cons_of_mem _ (List.mem_cons_of_mem _ (List.mem_cons_self)))))))))))))))))))⟩
    · exact Or.inr ⟨rfl, List.mem_cons_of_mem _ (List.mem_cons_of_mem _ (List.mem_cons_of_mem _ (List.mem_cons_of_mem _ (List.mem_cons_of_mem _ (List.mem_cons_of_mem _ (List.mem_cons_of_mem _ (List.mem_cons_of_mem _ (List.mem_cons_of_mem _ (List.mem_cons_of_mem _ (List.mem_cons_of_mem _ (List.mem_cons_of_mem _ (List.mem_cons_of_mem _ (List.mem_cons_of_mem _ (List.mem_cons_of_mem _ (List.mem_cons_of_mem _ (List.mem_cons_of_mem _ (List.mem_cons_of_mem _ (List.mem_cons_of_mem _ (List.mem_cons_of_mem _ (List.mem_cons_self))))))))))))))))))))⟩
  · refine ⟨shelf_szSo21, shelf_szSN21, fun o ho => ?_⟩
    have ho : o ∈ ([(true, shelf_szS_l0qal), (true, shelf_szS_l0qag), (true, shelf_szS_l0n), (true, shelf_szS_l0o), (true, shelf_szS_xqal), (true, shelf_szS_xqag), (true, shelf_szS_xn), (true, shelf_szS_xo)] : List (Bool × wE)) := ho
    simp only [List.mem_cons, List.not_mem_nil, or_false] at ho
    rcases ho with rfl | rfl | rfl | rfl | rfl | rfl | rfl | rfl
    · exact Or.inr ⟨rfl, List.mem_cons_of_mem _ (List.mem_cons_of_mem _ (List.mem_cons_of_mem _ (List.mem_cons_of_mem _ (List.mem_cons_of_mem _ (List.mem_cons_of_mem _ (List.mem_cons_of_mem _ (List.mem_cons_of_mem _ (List.mem_cons_of_mem _ (List.mem_cons_of_mem _ (List.mem_cons_of_mem _ (List.mem_cons_of_mem _ (List.mem_cons_of_mem _ (List.mem_cons_self)))))))))))))⟩
    · exact Or.inr ⟨rfl, List.mem_cons_of_mem _ (List.mem_cons_of_mem _ (List.mem_cons_of_mem _ (List.mem_cons_of_mem _ (List.mem_cons_of_mem _ (List.mem_cons_of_mem _ (List.mem_cons_of_mem _ (List.mem_cons_of_mem _ (List.mem_cons_of_mem _ (List.mem_cons_of_mem _ (List.mem_cons_of_mem _ (List.mem_cons_of_mem _ (List.mem_cons_of_mem _ (List.mem_cons_of_mem _ (List.mem_cons_self))))))))))))))⟩
    · exact Or.inr ⟨rfl, List.mem_cons_of_mem _ (List.mem_cons_of_mem _ (List.mem_cons_of_mem _ (List.mem_cons_of_mem _ (List.mem_cons_of_mem _ (List.mem_cons_of_mem _ (List.mem_cons_of_mem _ (List.mem_cons_of_mem _ (List.mem_cons_of_mem _ (List.mem_cons_of_mem _ (List.mem_cons_of_mem _ (List.mem_cons_of_mem _ (List.mem_cons_of_mem _ (List.mem_cons_of_mem _ (List.mem_cons_of_mem _ (List.mem_cons_self)))))))))))))))⟩
    · exact Or.inr ⟨rfl, List.mem_cons_of_mem _ (List.mem_cons_of_mem _ (List.mem_cons_of_mem _ (List.mem_cons_of_mem _ (List.mem_cons_of_mem _ (List.mem_cons_of_mem _ (List.mem_cons_of_mem _ (List.mem_cons_of_mem _ (List.mem_cons_of_mem _ (List.mem_cons_of_mem _ (List.mem_cons_of_mem _ (List.mem_cons_of_mem _ (List.mem_cons_of_mem _ (List.mem_cons_of_mem _ (List.mem_cons_of_mem _ (List.mem_cons_of_mem _ (List.mem_cons_self))))))))))))))))⟩
    · exact Or.inr ⟨rfl, List.mem_cons_of_mem _ (List.mem_cons_of_mem _ (List.mem_cons_of_mem _ (List.mem_cons_of_mem _ (List.mem_cons_of_mem _ (List.mem_cons_of_mem _ (List.mem_cons_of_mem _ (List.mem_cons_of_mem _ (List.mem_cons_of_mem _ (List.mem_cons_of_mem _ (List.mem_cons_of_mem _ (List.mem_cons_of_mem _ (List.mem_cons_of_mem _ (List.mem_cons_of_mem _ (List.mem_cons_of_mem _ (List.mem_cons_of_mem _ (List.mem_cons_of_mem _ (List.mem_cons_self)))))))))))))))))⟩
    · exact Or.inr ⟨rfl, List.mem_cons_of_mem _ (List.mem_cons_of_mem _ (List.mem_cons_of_mem _ (List.mem_cons_of_mem _ (List.mem_cons_of_mem _ (List.mem_cons_of_mem _ (List.mem_cons_of_mem _ (List.mem_cons_of_mem _ (List.mem_cons_of_mem _ (List.mem_cons_of_mem _ (List.mem_cons_of_mem _ (List.mem_cons_of_mem _ (List.mem_cons_of_mem _ (List.mem_cons_of_mem _ (List.mem_cons_of_mem _ (List.mem_cons_of_mem _ (List.mem_cons_of_mem _ (List.mem_cons_of_mem _ (List.mem_cons_self))))))))))))))))))⟩
    · exact Or.inr ⟨rfl, List.mem_cons_of_mem _ (List.mem_cons_of_mem _ (List.mem_cons_of_mem _ (List.mem_cons_of_mem _ (List.mem_cons_of_mem _ (List.mem_cons_of_mem _ (List.mem_cons_of_mem _ (List.mem_cons_of_mem _ (List.mem_cons_of_mem _ (List.mem_cons_of_mem _ (List.mem_cons_of_mem _ (List.mem_cons_of_mem _ (List.mem_cons_of_mem _ (List.mem_cons_of_mem _ (List.mem_cons_of_mem _ (List.mem_cons_of_mem _ (List.mem_cons_of_mem _ (List.mem_cons_of_mem _ (List.mem_cons_of_mem _ (List.mem_cons_self)))))))))))))))))))⟩
    · exact Or.inr ⟨rfl, List.mem_cons_of_mem _ (List.mem_cons_of_mem _ (List.mem_cons_of_mem _ (List.mem_cons_of_mem _ (List.mem_cons_of_mem _ (List.mem_cons_of_mem _ (List.mem_cons_of_mem _ (List.mem_cons_of_mem _ (List.mem_cons_of_mem _ (List.mem_cons_of_mem _ (List.mem_cons_of_mem _ (List.mem_cons_of_mem _ (List.mem_cons_of_mem _ (List.mem_cons_of_mem _ (List.mem_cons_of_mem _ (List.mem_cons_of_mem _ (List.mem_cons_of_mem _ (List.mem_cons_of_mem _ (List.mem_cons_of_mem _ (List.mem_cons_of_mem _ (List.mem_cons_self))))))))))))))))))))⟩
  · refine ⟨shelf_szSo25, shelf_szSN25, fun o ho => ?_⟩
    have ho : o ∈ ([(true, shelf_szS_l0qal), (true, shelf_szS_l0qag), (true, shelf_szS_l0n), (true, shelf_szS_l0o), (true, shelf_szS_xqal), (true, shelf_szS_xqag), (true, shelf_szS_xn), (true, shelf_szS_xo)] : List (Bool × wE)) := ho
    simp only [List.mem_cons, List.not_mem_nil, or_false] at ho
    rcases ho with rfl | rfl | rfl | rfl | rfl | rfl | rfl | rfl
    · exact Or.inr ⟨rfl, List.mem_cons_of_mem _ (List.mem_cons_of_mem _ (List.mem_cons_of_mem _ (List.mem_cons_of_mem _ (List.mem_cons_of_mem _ (List.mem_cons_of_mem _ (List.mem_cons_of_mem _ (List.mem_cons_of_mem _ (List.mem_cons_of_mem _ (List.mem_cons_of_mem _ (List.mem_cons_of_mem _ (List.mem_cons_of_mem _ (List.mem_cons_of_mem _ (List.mem_cons_self)))))))))))))⟩
    · exact Or.inr ⟨rfl, List.mem_cons_of_mem _ (List.mem_cons_of_mem _ (List.mem_cons_of_mem _ (List.mem_cons_of_mem _ (List.mem_cons_of_mem _ (List.mem_cons_of_mem _ (List.mem_cons_of_mem _ (List.mem_cons_of_mem _ (List.mem_cons_of_mem _ (List.mem_cons_of_mem _ (List.mem_cons_of_mem _ (List.mem_cons_of_mem _ (List.mem_cons_of_mem _ (List.mem_cons_of_mem _ (List.mem_cons_self))))))))))))))⟩
    · exact Or.inr ⟨rfl, List.mem_cons_of_mem _ (List.mem_cons_of_mem _ (List.mem_cons_of_mem _ (List.mem_cons_of_mem _ (List.mem_cons_of_mem _ (List.mem_cons_of_mem _ (List.mem_cons_of_mem _ (List.mem_cons_of_mem _ (List.mem_cons_of_mem _ (List.mem_cons_of_mem _ (List.mem_cons_of_mem _ (List.mem_cons_of_mem _ (List.mem_cons_of_mem _ (List.mem_cons_of_mem _ (List.mem_cons_of_mem _ (List.mem_cons_self)))))))))))))))⟩
    · exact Or.inr ⟨rfl, List.mem_cons_of_mem _ (List.mem_cons_of_mem _ (List.mem_cons_of_mem _ (List.mem_cons_of_mem _ (List.mem_cons_of_mem _ (List.mem_cons_of_mem _ (List.mem_cons_of_mem _ (List.mem_cons_of_mem _ (List.mem_cons_of_mem _ (List.mem_cons_of_mem _ (List.mem_cons_of_mem _ (List.mem_cons_of_mem _ (List.mem_cons_of_mem _ (List.mem_cons_of_mem _ (List.mem_cons_of_mem _ (List.mem_cons_of_mem _ (List.mem_cons_self))))))))))))))))⟩
    · exact Or.inr ⟨rfl, List.mem_cons_of_mem _ (List.mem_cons_of_mem _ (List.mem_cons_of_mem _ (List.mem_cons_of_mem _ (List.mem_cons_of_mem _ (List.mem_cons_of_mem _ (List.mem_cons_of_mem _ (List.mem_cons_of_mem _ (List.mem_cons_of_mem _ (List.mem_cons_of_mem _ (List.mem_cons_of_mem _ (List.mem_cons_of_mem _ (List.mem_cons_of_mem _ (List.mem_cons_of_mem _ (List.mem_cons_of_mem _ (List.mem_cons_of_mem _ (List.mem_cons_of_mem _ (List.mem_cons_self)))))))))))))))))⟩
    · exact Or.inr ⟨rfl, List.mem_cons_of_mem _ (List.mem_cons_of_mem _ (List.mem_cons_of_mem _ (List.mem_cons_of_mem _ (List.mem_cons_of_mem _ (List.mem_cons_of_mem _ (List.mem_cons_of_mem _ (List.mem_cons_of_mem _ (List.mem_cons_of_mem _ (List.mem_cons_of_mem _ (List.mem_cons_of_mem _ (List.mem_cons_of_mem _ (List.mem_cons_of_mem _ (List.mem_cons_of_mem _ (List.mem_cons_of_mem _ (List.mem_cons_of_mem _ (List.mem_cons_of_mem _ (List.mem_cons_of_mem _ (List.mem_cons_self))))))))))))))))))⟩
    · exact Or.inr ⟨rfl, List.mem_cons_of_mem _ (List.mem_cons_of_mem _ (List.mem_cons_of_mem _ (List.mem_cons_of_mem _ (List.mem_cons_of_mem _ (List.mem_cons_of_mem _ (List.mem_cons_of_mem _ (List.mem_cons_of_mem _ (List.mem_cons_of_mem _ (List.mem_cons_of_mem _ (List.mem_cons_of_mem _ (List.mem_cons_of_mem _ (List.mem_cons_of_mem _ (List.mem_cons_of_mem _ (List.mem_cons_of_mem _ (List.mem_cons_of_mem _ (List.mem_cons_of_mem _ (List.mem_cons_of_mem _ (List.mem_cons_of_mem _ (List.mem_cons_self)))))))))))))))))))⟩
    · exact Or.inr ⟨rfl, List.mem_cons_of_mem _ (List.mem_cons_of_mem _ (List.mem_cons_of_mem _ (List.mem_cons_of_mem _ (List.mem_cons_of_mem _ (List.mem_cons_of_mem _ (List.mem_cons_of_mem _ (List.mem_cons_of_mem _ (List.mem_cons_of_mem _ (List.mem_cons_of_mem _ (List.mem_cons_of_mem _ (List.mem_cons_of_mem _ (List.mem_cons_of_mem _ (List.mem_cons_of_mem _ (List.mem_cons_of_mem _ (List.mem_cons_of_mem _ (List.mem_cons_of_mem _ (List.mem_cons_of_mem _ (List.mem_cons_of_mem _ (List.mem_cons_of_mem _ (List.mem_cons_self))))))))))))))))))))⟩
  · refine ⟨shelf_szSo16, shelf_szSN16, fun o ho => ?_⟩
    have ho : o ∈ ([(false, shelf_szS_eqal)] : List (Bool × wE)) := ho
    simp only [List.mem_cons, List.not_mem_nil, or_false] at ho
    rcases ho with rfl
    · exact Or.inl (List.mem_cons_of_mem _ (List.mem_cons_self))
  · refine ⟨shelf_szSo20, shelf_szSN20, fun o ho => ?_⟩
    have ho : o ∈ ([(false, shelf_szS_eqag)] : List (Bool × wE)) := ho
    simp only [List.mem_cons, List.not_mem_nil, or_false] at ho
    rcases ho with rfl
    · exact Or.inl (List.mem_cons_of_mem _ (List.mem_cons_of_mem _ (List.mem_cons_self)))
  · refine ⟨shelf_szSo24, shelf_szSN24, fun o ho => ?_⟩
    have ho : o ∈ ([(false, shelf_szS_en)] : List (Bool × wE)) := ho
    simp only [List.mem_cons, List.not_mem_nil, or_false] at ho
    rcases ho with rfl
    · exact Or.inl (List.mem_cons_of_mem _ (List.mem_cons_of_mem _ (List.mem_cons_of_mem _ (List.mem_cons_self))))
  · refine ⟨shelf_szSo28, shelf_szSN28, fun o ho => ?_⟩
    have ho : o ∈ ([(false, shelf_szS_eo)] : List (Bool × wE)) := ho
    simp only [List.mem_cons, List.not_mem_nil, or_false] at ho
    rcases ho with rfl
    · exact Or.inl (List.mem_cons_of_mem _ (List.mem_cons_of_mem _ (List.mem_cons_of_mem _ (List.mem_cons_of_mem _ (List.mem_cons_self)))))
  · refine ⟨shelf_szSo14, shelf_szSN14, fun o ho => ?_⟩
    have ho : o ∈ ([(true, shelf_szS_l1qal), (true, shelf_szS_l1qag), (true, shelf_szS_l1n), (true, shelf_szS_l1o), (true, shelf_szS_xqal), (true, shelf_szS_xqag), (true, shelf_szS_xn), (true, shelf_szS_xo)] : List (Bool × wE)) := ho
    simp only [List.mem_cons, List.not_mem_nil, or_false] at ho
    rcases ho with rfl | rfl | rfl | rfl | rfl | rfl | rfl | rfl
    · exact Or.inr ⟨rfl, List.mem_cons_of_mem _ (List.mem_cons_of_mem _ (List.mem_cons_of_mem _ (List.mem_cons_of_mem _ (List.mem_cons_of_mem _ (List.mem_cons_of_mem _ (List.mem_cons_of_mem _ (List.mem_cons_of_mem _ (List.mem_cons_of_mem _ (List.mem_cons_of_mem _ (List.mem_cons_of_mem _ (List.mem_cons_of_mem _ (List.mem_cons_of_mem _ (List.mem_cons_of_mem _ (List.mem_cons_of_mem _ (List.mem_cons_of_mem _ (List.mem_cons_of_mem _ (List.mem_cons_of_mem _ (List.mem_cons_of_mem _ (List.mem_cons_of_mem _ (List.mem_cons_of_mem _ (List.mem_cons_self)))))))))))))))))))))⟩
    · exact Or.inr ⟨rfl, List.mem_cons_of_mem _ (List.mem_cons_of_mem _ (List.mem_cons_of_mem _ (List.mem_cons_of_mem _ (List.mem_cons_of_mem _ (List.mem_cons_of_mem _ (List.mem_cons_of_mem _ (List.mem_cons_of_mem _ (List.mem_cons_of_mem _ (List.mem_cons_of_mem _ (List.mem_cons_of_mem _ (List.mem_cons_of_mem _ (List.mem_cons_of_mem _ (List.mem_cons_of_mem _ (List.mem_cons_of_mem _ (List.mem_cons_of_mem _ (List.mem_cons_of_mem _ (List.mem_cons_of_mem _ (List.mem_cons_of_mem _ (List.mem_cons_of_mem _ (List.mem_cons_of_mem _ (List.mem_cons_of_mem _ (List.mem_cons_self))))))))))))))))))))))⟩
    · exact Or.inr ⟨rfl, List.mem_cons_of_mem _ (List.mem_cons_of_mem _ (List.mem_cons_of_mem _ (List.mem_cons_of_mem _ (List.mem_cons_of_mem _ (List.mem_cons_of_mem _ (List.mem_cons_of_mem _ (List.mem_cons_of_mem _ (List.mem_cons_of_mem _ (List.mem_cons_of_mem _ (List.mem_cons_of_mem _ (List.mem_cons_of_mem _ (List.mem_cons_of_mem _ (List.mem_cons_of_mem _ (List.mem_cons_of_mem _ (List.mem_cons_of_mem _ (List.mem_cons_of_mem _ (List.mem_cons_of_mem _ (List.mem_cons_of_mem _ (List.mem_cons_of_mem _ (List.mem_cons_of_mem _ (List.mem_cons_of_mem _ (List.mem_cons_of_mem _ (List.mem_cons_self)))))))))))))))))))))))⟩
    · exact Or.inr ⟨rfl, List.mem_cons_of_mem _ (List.mem_cons_of_mem _ (List.mem_cons_of_mem _ (List.mem_cons_of_mem _ (List.mem_cons_of_mem _ (List.mem_cons_of_mem _ (List.mem_cons_of_mem _ (List.mem_cons_of_mem _ (List.mem_cons_of_mem _ (List.mem_cons_of_mem _ (List.mem_cons_of_mem _ (List.mem_cons_of_mem _ (List.mem_cons_of_mem _ (List.mem_cons_of_mem _ (List.mem_cons_of_mem _ (List.mem_cons_of_mem _ (List.mem_cons_of_mem _ (List.mem_cons_of_mem _ (List.mem_cons_of_mem _ (List.mem_cons_of_mem _ (List.mem_cons_of_mem _ (List.mem_cons_of_mem _ (List.mem_cons_of_mem _ (List.mem_cons_of_mem _ (List.mem_cons_self))))))))))))))))))))))))⟩
    · exact Or.inr ⟨rfl, List.mem_cons_of_mem _ (List.mem_cons_of_mem _ (List.mem_cons_of_mem _ (List.mem_cons_of_mem _ (List.mem_cons_of_mem _ (List.mem_cons_of_mem _ (List.mem_cons_of_mem _ (List.mem_cons_of_mem _ (List.mem_cons_of_mem _ (List.mem_cons_of_mem _ (List.mem_cons_of_mem _ (List.mem_cons_of_mem _ (List.mem_cons_of_mem _ (List.mem_cons_of_mem _ (List.mem_cons_of_mem _ (List.mem_cons_of_mem _ (List.mem_cons_of_mem _ (List.mem_cons_self)))))))))))))))))⟩
    · exact Or.inr ⟨rfl, List.mem_cons_of_mem _ (List.mem_cons_of_mem _ (List.mem_cons_of_mem _ (List.mem_cons_of_mem _ (List.mem_cons_of_mem _ (List.mem_cons_of_mem _ (List.mem_cons_of_mem _ (List.mem_cons_of_mem _ (List.mem_cons_of_mem _ (List.mem_cons_of_mem _ (List.mem_cons_of_mem _ (List.mem_cons_of_mem _ (List.mem_cons_of_mem _ (List.mem_cons_of_mem _ (List.mem_cons_of_mem _ (List.mem_cons_of_mem _ (List.mem_cons_of_mem _ (List.mem_cons_of_mem _ (List.mem_cons_self))))))))))))))))))⟩
    · exact Or.inr ⟨rfl, List.mem_cons_of_mem _ (List.mem_cons_of_mem _ (List.mem_cons_of_mem _ (List.mem_cons_of_mem _ (List.mem_cons_of_mem _ (List.mem_cons_of_mem _ (List.mem_cons_of_mem _ (List.mem_cons_of_mem _ (List.mem_cons_of_mem _ (List.mem_cons_of_mem _ (List.mem_cons_of_mem _ (List.mem_cons_of_mem _ (List.mem_cons_of_mem _ (List.mem_cons_of_mem _ (List.mem_cons_of_mem _ (List.mem_cons_of_mem _ (List.mem_cons_of_mem _ (List.mem_cons_of_mem _ (List.mem_cons_of_mem _ (List.mem_cons_self)))))))))))))))))))⟩
    · exact Or.inr ⟨rfl, List.mem_cons_of_mem _ (List.mem_cons_of_mem _ (List.mem_cons_of_mem _ (List.mem_cons_of_mem _ (List.mem_cons_of_mem _ (List.mem_cons_of_mem _ (List.mem_cons_of_mem _ (List.mem_cons_of_mem _ (List.mem_cons_of_mem _ (List.mem_cons_of_mem _ (List.mem_cons_of_mem _ (List.mem_cons_of_mem _ (List.mem_cons_of_mem _ (List.mem_cons_of_mem _ (List.mem_cons_of_mem _ (List.mem_cons_of_mem _ (List.mem_cons_of_mem _ (List.mem_cons_of_mem _ (List.mem_cons_of_mem _ (List.mem_cons_of_mem _ (List.mem_cons_self))))))))))))))))))))⟩
  · refine ⟨shelf_szSo18, shelf_szSN18, fun o ho => ?_⟩
    have ho : o ∈ ([(true, shelf_szS_l1qal), (true, shelf_szS_l1qag), (true, shelf_szS_l1n), (true, shelf_szS_l1o), (true, shelf_szS_xqal), (true, shelf_szS_xqag), (true, shelf_szS_xn), (true, shelf_szS_xo)] : List (Bool × wE)) := ho
    simp only [List.mem_cons, List.not_mem_nil, or_false] at ho
    rcases ho with rfl | rfl | rfl | rfl | rfl | rfl | rfl | rfl
    · exact Or.inr ⟨rfl, List.mem_cons_of_mem _ (List.mem_cons_of_mem _ (List.mem_cons_of_mem _ (List.mem_cons_of_mem _ (List.mem_cons_of_mem _ (List.mem_cons_of_mem _ (List.mem_cons_of_mem _ (List.mem_cons_of_mem _ (List.mem_cons_of_mem _ (List.mem_cons_of_mem _ (List.mem_cons_of_mem _ (List.mem_cons_of_mem _ (List.mem_cons_of_mem _ (List.mem_cons_of_mem _ (List.mem_cons_of_mem _ (List.mem_cons_of_mem _ (List.mem_cons_of_mem _ (List.mem_cons_of_mem _ (List.mem_cons_of_mem _ (List.mem_cons_of_mem _ (List.mem_cons_of_mem _ (List.mem_cons_self)))))))))))))))))))))⟩
    · exact Or.inr ⟨rfl, List.mem_cons_of_mem _ (List.mem_cons_of_mem _ (List.mem_cons_of_mem _ (List.mem_cons_of_mem _ (List.mem_cons_of_mem _ (List.mem_cons_of_mem _ (List.mem_cons_of_mem _ (List.mem_cons_of_mem _ (List.mem_cons_of_mem _ (List.mem_cons_of_mem _ (List.mem_cons_of_mem _ (List.mem_cons_of_mem _ (List.mem_cons_of_mem _ (List.mem_cons_of_mem _ (List.mem_cons_of_mem _ (List.mem_cons_of_mem _ (List.mem_cons_of_mem _ (List.mem_cons_of_mem _ (List.mem_cons_of_mem _ (List.mem_cons_of_mem _ (List.mem_cons_of_mem _ (List.mem_cons_of_mem _ (List.mem_cons_self))))))))))))))))))))))⟩
    · exact Or.inr ⟨rfl, List.mem_cons_of_mem _ (List.mem_cons_of_mem _ (List.mem_cons_of_mem _ (List.mem_cons_of_mem _ (List.mem_cons_of_mem _ (List.mem_cons_of_mem _ (List.mem_cons_of_mem _ (List.mem_cons_of_mem _ (List.mem_cons_of_mem _ (List.mem_cons_of_mem _ (List.mem_cons_of_mem _ (List.mem_cons_of_mem _ (List.mem_cons_of_mem _ (List.mem_cons_of_mem _ (List.mem_cons_of_mem _ (List.mem_cons_of_mem _ (List.mem_cons_of_mem _ (List.mem_cons_of_mem _ (List.mem_cons_of_mem _ (List.mem_cons_of_mem _ (List.mem_cons_of_mem _ (List.mem_cons_of_mem _ (List.mem_cons_of_mem _ (List.mem_cons_self)))))))))))))))))))))))⟩
    · exact Or.inr ⟨rfl, List.mem_cons_of_mem _ (List.mem_cons_of_mem _ (List.mem_cons_of_mem _ (List.mem_cons_of_mem _ (List.mem_cons_of_mem _ (List.mem_cons_of_mem _ (List.mem_cons_of_mem _ (List.mem_cons_of_mem _ (List.mem_cons_of_mem _ (List.mem_cons_of_mem _ (List.mem_cons_of_mem _ (List.mem_cons_of_mem _ (List.mem_cons_of_mem _ (List.mem_cons_of_mem _ (List.mem_cons_of_mem _ (List.mem_cons_of_mem _ (List.mem_cons_of_mem _ (List.mem_cons_of_mem _ (List.mem_cons_of_mem _ (List.mem_cons_of_mem _ (List.mem_cons_of_mem _ (List.mem_cons_of_mem _ (List.mem_cons_of_mem _ (List.mem_cons_of_mem _ (List.mem_cons_self))))))))))))))))))))))))⟩
    · exact Or.inr ⟨rfl, List.mem_cons_of_mem _ (List.mem_cons_of_mem _ (List.mem_cons_of_mem _ (List.mem_cons_of_mem _ (List.mem_cons_of_mem _ (List.mem_cons_of_mem _ (List.mem_cons_of_mem _ (List.mem_cons_of_mem _ (List.mem_cons_of_mem _ (List.mem_cons_of_mem _ (List.mem_cons_of_mem _ (List.mem_cons_of_mem _ (List.mem_cons_of_mem _ (List.mem_cons_of_mem _ (List.mem_cons_of_mem _ (List.mem_cons_of_mem _ (List.mem_cons_of_mem _ (List.mem_cons_self)))))))))))))))))⟩
    · exact Or.inr ⟨rfl, List.mem_cons_of_mem _ (List.mem_cons_of_mem _ (List.mem_cons_of_mem _ (List.mem_cons_of_mem _ (List.mem_cons_of_mem _ (List.mem_cons_of_mem _ (List.mem_cons_of_mem _ (List.mem_cons_of_mem _ (List.mem_cons_of_mem _ (List.mem_cons_of_mem _ (List.mem_cons_of_mem _ (List.mem_cons_of_mem _ (List.mem_cons_of_mem _ (List.mem_cons_of_mem _ (List.mem_cons_of_mem _ (List.mem_cons_of_mem _ (List.mem_cons_of_mem _ (List.mem_cons_of_mem _ (List.mem_cons_self))))))))))))))))))⟩
    · exact Or.inr ⟨rfl, List.mem_cons_of_mem _ (List.mem_cons_of_mem _ (List.mem_cons_of_mem _ (List.mem_cons_of_mem _ (List.mem_cons_of_mem _ (List.mem_cons_of_mem _ (List.mem_cons_of_mem _ (List.mem_cons_of_mem _ (List.mem_cons_of_mem _ (List.mem_cons_of_mem _ (List.mem_cons_of_mem _ (List.mem_cons_of_mem _ (List.mem_cons_of_mem _ (List.mem_cons_of_mem _ (List.mem_cons_of_mem _ (List.mem_cons_of_mem _ (List.mem_cons_of_mem _ (List.mem_cons_of_mem _ (List.mem_cons_of_mem _ (List.mem_cons_self)))))))))))))))))))⟩
    · exact Or.inr ⟨rfl, List.mem_cons_of_mem _ (List.mem_cons_of_mem _ (List.mem_cons_of_mem _ (List.mem_cons_of_mem _ (List.mem_cons_of_mem _ (List.mem_cons_of_mem _ (List.mem_cons_of_mem _ (List.mem_cons_of_mem _ (List.mem_cons_of_mem _ (List.mem_cons_of_mem _ (List.mem_cons_of_mem _ (List.mem_cons_of_mem _ (List.mem_cons_of_mem _ (List.mem_cons_of_mem _ (List.mem_cons_of_mem _ (List.mem_cons_of_mem _ (List.mem_cons_of_mem _ (List.mem_cons_of_mem _ (List.mem_cons_of_mem _ (List.mem_cons_of_mem _ (List.mem_cons_self))))))))))))))))))))⟩
  · refine ⟨shelf_szSo22, shelf_szSN22, fun o ho => ?_⟩
    have ho : o ∈ ([(true, shelf_szS_l1qal), (true, shelf_szS_l1qag), (true, shelf_szS_l1n), (true, shelf_szS_l1o), (true, shelf_szS_xqal), (true, shelf_szS_xqag), (true, shelf_szS_xn), (true, shelf_szS_xo)] : List (Bool × wE)) := ho
    simp only [List.mem_cons, List.not_mem_nil, or_false] at ho
    rcases ho with rfl | rfl | rfl | rfl | rfl | rfl | rfl | rfl
    · exact Or.inr ⟨rfl, List.mem_cons_of_mem _ (List.mem_cons_of_mem _ (List.mem_cons_of_mem _ (List.mem_cons_of_mem _ (List.mem_cons_of_mem _ (List.mem_cons_of_mem _ (List.mem_cons_of_mem _ (List.mem_cons_of_mem _ (List.mem_cons_of_mem _ (List.mem_cons_of_mem _ (List.mem_cons_of_mem _ (List.mem_cons_of_mem _ (List.mem_cons_of_mem _ (List.mem_cons_of_mem _ (List.mem_cons_of_mem _ (List.mem_cons_of_mem _ (List.mem_cons_of_mem _ (List.mem_cons_of_mem _ (List.mem_cons_of_mem _ (List.mem_cons_of_mem _ (List.mem_cons_of_mem _ (List.mem_cons_self)))))))))))))))))))))⟩
    · exact Or.inr ⟨rfl, List.mem_cons_of_mem _ (List.mem_cons_of_mem _ (List.mem_cons_of_mem _ (List.mem_cons_of_mem _ (List.mem_cons_of_mem _ (List.mem_cons_of_mem _ (List.mem_cons_of_mem _ (List.mem_cons_of_mem _ (List.mem_cons_of_mem _ (List.mem_cons_of_mem _ (List.mem_cons_of_mem _ (List.mem_cons_of_mem _ (List.mem_cons_of_mem _ (List.mem_cons_of_mem _ (List.mem_cons_of_mem _ (List.mem_cons_of_mem _ (List.mem_cons_of_mem _ (List.mem_cons_of_mem _ (List.mem_cons_of_mem _ (List.mem_cons_of_mem _ (List.mem_cons_of_mem _ (List.mem_cons_of_mem _ (List.mem_cons_self))))))))))))))))))))))⟩
    · exact Or.inr ⟨rfl, List.mem_cons_of_mem _ (List.mem_cons_of_mem _ (List.mem_cons_of_mem _ (List.mem_cons_of_mem _ (List.mem_cons_of_mem _ (List.mem_cons_of_mem _ (List.mem_cons_of_mem _ (List.mem_cons_of_mem _ (List.mem_cons_of_mem _ (List.mem_cons_of_mem _ (List.mem_cons_of_mem _ (List.mem_cons_of_mem _ (List.mem_cons_of_mem _ (List.mem_cons_of_mem _ (List.mem_cons_of_mem _ (List.mem_cons_of_mem _ (List.mem_cons_of_mem _ (List.mem_cons_of_mem _ (List.mem_cons_of_mem _ (List.mem_cons_of_mem _ (List.mem_cons_of_mem _ (List.mem_cons_of_mem _ (List.mem_cons_of_mem _ (List.mem_cons_self)))))))))))))))))))))))⟩
    · exact Or.inr ⟨rfl, List.mem_cons_of_mem _ (List.mem_cons_of_mem _ (List.mem_cons_of_mem _ (List.mem_cons_of_mem _ (List.mem_cons_of_mem _ (List.mem_cons_of_mem _ (List.mem_cons_of_mem _ (List.mem_cons_of_mem _ (List.mem_cons_of_mem _ (List.mem_cons_of_mem _ (List.mem_cons_of_mem _ (List.mem_cons_of_mem _ (List.mem_cons_of_mem _ (List.mem_cons_of_mem _ (List.mem_cons_of_mem _ (List.mem_cons_of_mem _ (List.mem_cons_of_mem _ (List.mem_cons_of_mem _ (List.mem_cons_of_mem _ (List.mem_cons_of_mem _ (List.mem_cons_of_mem _ (List.mem_cons_of_mem _ (List.mem_cons_of_mem _ (List.mem_cons_of_mem _ (List.mem_cons_self))))))))))))))))))))))))⟩
    · exact Or.inr ⟨rfl, List.mem_cons_of_mem _ (List.mem_cons_of_mem _ (List.mem_cons_of_mem _ (List.mem_cons_of_mem _ (List.mem_cons_of_mem _ (List.mem_cons_of_mem _ (List.mem_cons_of_mem _ (List.mem_cons_of_mem _ (List.mem_cons_of_mem _ (List.mem_cons_of_mem _ (List.mem_cons_of_mem _ (List.mem_cons_of_mem _ (List.mem_cons_of_mem _ (List.mem_cons_of_mem _ (List.mem_cons_of_mem _ (List.mem_cons_of_mem _ (List.mem_cons_of_mem _ (List.mem_cons_self)))))))))))))))))⟩
    · exact Or.inr ⟨rfl, List.mem_cons_of_mem _ (List.mem_cons_of_mem _ (List.mem_cons_of_mem _ (List.mem_cons_of_mem _ (List.mem_cons_of_mem _ (List.mem_cons_of_mem _ (List.mem_cons_of_mem _ (List.mem_cons_of_mem _ (List.mem_cons_of_mem _ (List.mem_cons_of_mem _ (List.mem_cons_of_mem _ (List.mem_cons_of_mem _ (List.mem_cons_of_mem _ (List.mem_cons_of_mem _ (List.mem_cons_of_mem _ (List.mem_cons_of_mem _ (List.mem_cons_of_mem _ (List.mem_cons_of_mem _ (List.mem_cons_self))))))))))))))))))⟩
    · exact Or.inr ⟨rfl, List.mem_cons_of_mem _ (List.mem_cons_of_mem _ (List.mem_cons_of_mem _ (List.mem_cons_of_mem _ (List.mem_cons_of_mem _ (List.mem_cons_of_mem _ (List.mem_cons_of_mem _ (List.mem_cons_of_mem _ (List.mem_cons_of_mem _ (List.mem_cons_of_mem _ (List.mem_cons_of_mem _ (List.mem_cons_of_mem _ (List.mem_cons_of_mem _ (List.mem_cons_of_mem _ (List.mem_cons_of_mem _ (List.mem_cons_of_mem _ (List.mem_cons_of_mem _ (List.mem_cons_of_mem _ (List.mem_cons_of_mem _ (List.mem_cons_self)))))))))))))))))))⟩
    · exact Or.inr ⟨rfl, List.mem_cons_of_mem _ (List.mem_cons_of_mem _ (List.mem_cons_of_mem _ (List.mem_cons_of_mem _ (List.mem_cons_of_mem _ (List.mem_cons_of_mem _ (List.mem_cons_of_mem _ (List.mem_cons_of_mem _ (List.mem_cons_of_mem _ (List.mem_cons_of_mem _ (List.mem_cons_of_mem _ (List.mem_cons_of_mem _ (List.mem_cons_of_mem _ (List.mem_cons_of_mem _ (List.mem_cons_of_mem _ (List.mem_cons_of_mem _ (List.mem_cons_of_mem _ (List.mem_cons_of_mem _ (List.mem_cons_of_mem _ (List.mem_cons_of_mem _ (List.mem_cons_self))))))))))))))))))))⟩
  · refine ⟨shelf_szSo26, shelf_szSN26, fun o ho => ?_⟩
    have ho : o ∈ ([(true, shelf_szS_l1qal), (true, shelf_szS_l1qag), (true, shelf_szS_l1n), (true, shelf_szS_l1o), (true, shelf_szS_xqal), (true, shelf_szS_xqag), (true, shelf_szS_xn), (true, shelf_szS_xo)] : List (Bool × wE)) := ho
    simp only [List.mem_cons, List.not_mem_nil, or_false] at ho
    rcases ho with rfl | rfl | rfl | rfl | rfl | rfl | rfl | rfl
    · exact Or.inr ⟨rfl, List.mem_cons_of_mem _ (List.mem_cons_of_mem _ (List.mem_cons_of_mem _ (List.mem_cons_of_mem _ (List.mem_cons_of_mem _ (List.mem_cons_of_mem _ (List.mem_cons_of_mem _ (List.mem_cons_of_mem _ (List.mem_cons_of_mem _ (List.mem_cons_of_mem _ (List.mem_cons_of_mem _ (List.mem_cons_of_mem _ (List.mem_cons_of_mem _ (List.mem_cons_of_mem _ (List.mem_cons_of_mem _ (List.mem_cons_of_mem _ (List.mem_cons_of_mem _ (List.mem_cons_of_mem _ (List.mem_cons_of_mem _ (List.mem_cons_of_mem _ (List.mem_cons_of_mem _ (List.mem_cons_self)))))))))))))))))))))⟩
    · exact Or.inr ⟨rfl, List.mem_cons_of_mem _ (List.mem_cons_of_mem _ (List.mem_cons_of_mem _ (List.mem_cons_of_mem _ (List.mem_cons_of_mem _ (List.mem_cons_of_mem _ (List.mem_cons_of_mem _ (List.mem_cons_of_mem _ (List.mem_cons_of_mem _ (List.mem_cons_of_mem _ (List.mem_cons_of_mem _ (List.mem_cons_of_mem _ (List.mem_cons_of_mem _ (List.mem_cons_of_mem _ (List.mem_cons_of_mem _ (List.mem_cons_of_mem _ (List.mem_cons_of_mem _ (List.mem_cons_of_mem _ (List.mem_cons_of_mem _ (List.mem_cons_of_mem _ (List.mem_cons_of_mem _ (List.mem_cons_of_mem _ (List.mem_cons_self))))))))))))))))))))))⟩
    · exact Or.inr ⟨rfl, List.mem_cons_of_mem _ (List.mem_cons_of_mem _ (List.mem_cons_of_mem _ (List.mem_cons_of_mem _ (List.mem_cons_of_mem _ (List.mem_cons_of_mem _ (List.mem_cons_of_mem _ (List.mem_cons_of_mem _ (List.mem_cons_of_mem _ (List.mem_cons_of_mem _ (List.mem_cons_of_mem _ (List.mem_cons_of_mem _ (List.mem_cons_of_mem _ (List.mem_cons_of_mem _ (List.mem_cons_of_mem _ (List.mem_cons_of_mem _ (List.mem_cons_of_mem _ (List.mem_cons_of_mem _ (List.mem_cons_of_mem _ (List.mem_cons_of_mem _ (List.mem_cons_of_mem _ (List.mem_cons_of_mem _ (List.mem_cons_of_mem _ (List.mem_cons_self)))))))))))))))))))))))⟩
    · exact Or.inr ⟨rfl, List.mem_cons_of_mem _ (List.mem_cons_of_mem _ (List.mem_cons_of_mem _ (List.mem_cons_of_mem _ (List.mem_cons_of_mem _ (List.mem_cons_of_mem _ (List.mem_cons_of_mem _ (List.mem_cons_of_mem _ (List.mem_cons_of_mem _ (List.mem_cons_of_mem _ (List.mem_cons_of_mem _ (List.mem_cons_of_mem _ (List.mem_cons_of_mem _ (List.mem_cons_of_mem _ (List.mem_cons_of_mem _ (List.mem_cons_of_mem _ (List.mem_cons_of_mem _ (List.mem_cons_of_mem _ (List.mem_cons_of_mem _ (List.mem_cons_of_mem _ (List.mem_cons_of_mem _ (List.mem_cons_of_mem _ (List.mem_cons_of_mem _ (List.mem_cons_of_mem _ (List.mem_cons_self))))))))))))))))))))))))⟩
    · exact Or.inr ⟨rfl, List.mem_cons_of_mem _ (List.mem_cons_of_mem _ (List.mem_cons_of_mem _ (List.mem_cons_of_mem _ (List.mem_cons_of_mem _ (List.mem_cons_of_mem _ (List.mem_cons_of_mem _ (List.mem_cons_of_mem _ (List.mem_cons_of_mem _ (List.mem_cons_of_mem _ (List.mem_cons_of_mem _ (List.mem_cons_of_mem _ (List.mem_cons_of_mem _ (List.mem_cons_of_mem _ (List.mem_cons_of_mem _ (List.mem_cons_of_mem _ (List.mem_cons_of_mem _ (List.mem_cons_self)))))))))))))))))⟩
    · exact Or.inr ⟨rfl, List.mem_cons_of_mem _ (List.mem_cons_of_mem _ (List.mem_cons_of_mem _ (List.mem_cons_of_mem _ (List.mem_cons_of_mem _ (List.mem_cons_of_mem _ (List.mem_cons_of_mem _ (List.mem_cons_of_mem _ (List.mem_cons_of_mem _ (List.mem_cons_of_mem _ (List.mem_cons_of_mem _ (List.mem_cons_of_mem _ (List.mem_cons_of_mem _ (List.mem_cons_of_mem _ (List.mem_cons_of_mem _ (List.mem_cons_of_mem _ (List.mem_cons_of_mem _ (List.mem_cons_of_mem _ (List.mem_cons_self))))))))))))))))))⟩
    · exact Or.inr ⟨rfl, List.mem_cons_of_mem _ (List.mem_cons_of_mem _ (List.mem_cons_of_mem _ (List.mem_cons_of_mem _ (List.mem_cons_of_mem _ (List.mem_cons_of_mem _ (List.mem_cons_of_mem _ (List.mem_cons_of_mem _ (List.mem_cons_of_mem _ (List.mem_cons_of_mem _ (List.mem_cons_of_mem _ (List.mem_cons_of_mem _ (List.mem_cons_of_mem _ (List.mem_cons_of_mem _ (List.mem_cons_of_mem _ (List.mem_cons_of_mem _ (List.mem_cons_of_mem _ (List.mem_cons_of_mem _ (List.mem_cons_of_mem _ (List.mem_cons_self)))))))))))))))))))⟩
    · exact Or.inr ⟨rfl, List.mem_cons_of_mem _ (List.mem_cons_of_mem _ (List.mem_cons_of_mem _ (List.mem_cons_of_mem _ (List.mem_cons_of_mem _ (List.mem_cons_of_mem _ (List.mem_cons_of_mem _ (List.mem_cons_of_mem _ (List.mem_cons_of_mem _ (List.mem_cons_of_mem _ (List.mem_cons_of_mem _ (List.mem_cons_of_mem _ (List.mem_cons_of_mem _ (List.mem_cons_of_mem _ (List.mem_cons_of_mem _ (List.mem_cons_of_mem _ (List.mem_cons_of_mem _ (List.mem_cons_of_mem _ (List.mem_cons_of_mem _ (List.mem_cons_of_mem _ (List.mem_cons_self))))))))))))))))))))⟩
  · refine ⟨shelf_szSo15, shelf_szSN15, fun o ho => ?_⟩
    have ho : o ∈ ([(true, shelf_szS_l2qal), (true, shelf_szS_l2qag), (true, shelf_szS_l2n), (true, shelf_szS_l2o), (true, shelf_szS_xqal), (true, shelf_szS_xqag), (true, shelf_szS_xn), (true, shelf_szS_xo)] : List (Bool × wE)) := ho
    simp only [List.mem_cons, List.not_mem_nil, or_false] at ho
    rcases ho with rfl | rfl | rfl | rfl | rfl | rfl | rfl | rfl
    · exact Or.inr ⟨rfl, List.mem_cons_of_mem _ (List.mem_cons_of_mem _ (List.mem_cons_of_mem _ (List.mem_cons_of_mem _ (List.mem_cons_of_mem _ (List.mem_cons_of_mem _ (List.mem_cons_of_mem _ (List.mem_cons_of_mem _ (List.mem_cons_of_mem _ (List.mem_cons_of_mem _ (List.mem_cons_of_mem _ (List.mem_cons_of_mem _ (List.mem_cons_of_mem _ (List.mem_cons_of_mem _ (List.mem_cons_of_mem _ (List.mem_cons_of_mem _ (List.mem_cons_of_mem _ (List.mem_cons_of_mem _ (List.mem_cons_of_mem _ (List.mem_cons_of_mem _ (List.mem_cons_of_mem _ (List.mem_cons_of_mem _ (List.mem_cons_of_mem _ (List.mem_cons_of_mem _ (List.mem_cons_of_mem _ (List.mem_cons_self)))))))))))))))))))))))))⟩
    · exact Or.inr ⟨rfl, List.mem_cons_of_mem _ (List.mem_cons_of_mem _ (List.mem_cons_of_mem _ (List.mem_cons_of_mem _ (List.mem_cons_of_mem _ (List.mem_cons_of_mem _ (List.mem_cons_of_mem _ (List.mem_cons_of_mem _ (List.mem_cons_of_mem _ (List.mem_cons_of_mem _ (List.mem_cons_of_mem _ (List.mem_cons_of_mem _ (List.mem_cons_of_mem _ (List.mem_cons_of_mem _ (List.mem_cons_of_mem _ (List.mem_cons_of_mem _ (List.mem_cons_of_mem _ (List.mem_cons_of_mem _ (List.mem_cons_of_mem _ (List.mem_cons_of_mem _ (List.mem_cons_of_mem _ (List.mem_cons_of_mem _ (List.mem_cons_of_mem _ (List.mem_cons_of_mem _ (List.mem_cons_of_mem _ (List.mem_cons_of_mem _ (List.mem_cons_self))))))))))))))))))))))))))⟩
    · exact Or.inr ⟨rfl, List.mem_cons_of_mem _ (List.mem_cons_of_mem _ (List.mem_cons_of_mem _ (List.mem_cons_of_mem _ (List.mem_cons_of_mem _ (List.mem_cons_of_mem _ (List.mem_cons_of_mem _ (List.mem_cons_of_mem _ (List.mem_cons_of_mem _ (List.mem_cons_of_mem _ (List.mem_cons_of_mem _ (List.mem_cons_of_mem _ (List.mem_cons_of_mem _ (List.mem_cons_of_mem _ (List.mem_cons_of_mem _ (List.mem_cons_of_mem _ (List.mem_cons_of_mem _ (List.mem_cons_of_mem _ (List.mem_cons_of_mem _ (List.mem_cons_of_mem _ (List.mem_cons_of_mem _ (List.mem_cons_of_mem _ (List.mem_cons_of_mem _ (List.mem_cons_of_mem _ (List.mem_cons_of_mem _ (List.mem_cons_of_mem _ (List.mem_cons_of_mem _ (List.mem_cons_self)))))))))))))))))))))))))))⟩
    · exact Or.inr ⟨rfl, List.mem_cons_of_mem _ (List.mem_cons_of_mem _ (List.mem_cons_of_mem _ (List.mem_cons_of_mem _ (List.mem_cons_of_mem _ (List.mem_cons_of_mem _ (List.mem_cons_of_mem _ (List.mem_cons_of_mem _ (List.mem_cons_of_mem _ (List.mem_cons_of_mem _ (List.mem_cons_of_mem _ (List.mem_cons_of_mem _ (List.mem_cons_of_mem _ (List.mem_cons_of_mem _ (List.mem_cons_of_mem _ (List.mem_cons_of_mem _ (List.mem_cons_of_mem _ (List.mem_cons_of_mem _ (List.mem_cons_of_mem _ (List.mem_cons_of_mem _ (List.mem_cons_of_mem _ (List.mem_cons_of_mem _ (List.mem_cons_of_mem _ (List.mem_cons_of_mem _ (List.mem_cons_of_mem _ (List.mem_cons_of_mem _ (List.mem_cons_of_mem _ (List.mem_cons_of_mem _ (List.mem_cons_self))))))))))))))))))))))))))))⟩
    · exact Or.inr ⟨rfl, List.mem_cons_of_mem _ (List.mem_cons_of_mem _ (List.mem_cons_of_mem _ (List.mem_cons_of_mem _ (List.mem_cons_of_mem _ (List.mem_cons_of_mem _ (List.mem_cons_of_mem _ (List.mem_cons_of_mem _ (List.mem_cons_of_mem _ (List.mem_cons_of_mem _ (List.mem_cons_of_mem _ (List.mem_cons_of_mem _ (List.mem_cons_of_mem _ (List.mem_cons_of_mem _ (List.mem_cons_of_mem _ (List.mem_cons_of_mem _ (List.mem_cons_of_mem _ (List.mem_cons_self)))))))))))))))))⟩
    · exact Or.inr ⟨rfl, List.mem_cons_of_mem _ (List.mem_cons_of_mem _ (List.mem_cons_of_mem _ (List.mem_cons_of_mem _ (List.mem_cons_of_mem _ (List.mem_cons_of_mem _ (List.mem_cons_of_mem _ (List.mem_cons_of_mem _ (List.mem_cons_of_mem _ (List.mem_cons_of_mem _ (List.mem_cons_of_mem _ (List.mem_cons_of_mem _ (List.mem_cons_of_mem _ (List.mem_cons_of_mem _ (List.mem_cons_of_mem _ (List.mem_cons_of_mem _ (List.mem_cons_of_mem _ (List.mem_cons_of_mem _ (List.mem_cons_self))))))))))))))))))⟩
    · exact Or.inr ⟨rfl, List.mem_cons_of_mem _ (List.mem_cons_of_mem _ (List.mem_cons_of_mem _ (List.mem_cons_of_mem _ (List.mem_cons_of_mem _ (List.mem_cons_of_mem _ (List.mem_cons_of_mem _ (List.mem_cons_of_mem _ (List.mem_cons_of_mem _ (List.mem_cons_of_mem _ (List.mem_cons_of_mem _ (List.mem_cons_of_mem _ (List.mem_cons_of_mem _ (List.mem_cons_of_mem _ (List.mem_cons_of_mem _ (List.mem_cons_of_mem _ (List.mem_cons_of_mem _ (List.mem_cons_of_mem _ (List.mem_cons_of_mem _ (List.mem_cons_self)))))))))))))))))))⟩
    · exact Or.inr ⟨rfl, List.mem_cons_of_mem _ (List.mem_cons_of_mem _ (List.mem_cons_of_mem _ (List.mem_cons_of_mem _ (List.mem_cons_of_mem _ (List.mem_cons_of_mem _ (List.mem_cons_of_mem _ (List.mem_cons_of_mem _ (List.mem_cons_of_mem _ (List.mem_cons_of_mem _ (List.mem_cons_of_mem _ (List.mem_cons_of_mem _ (List.mem_cons_of_mem _ (List.mem_cons_of_mem _ (List.mem_cons_of_mem _ (List.mem_cons_of_mem _ (List.mem_cons_of_mem _ (List.mem_cons_of_mem _ (List.mem_cons_of_mem _ (List.mem_cons_of_mem _ (List.mem_cons_self))))))))))))))))))))⟩
  · refine ⟨shelf_szSo19, shelf_szSN19, fun o ho => ?_⟩
    have ho : o ∈ ([(true, shelf_szS_l2qal), (true, shelf_szS_l2qag), (true, shelf_szS_l2n), (true, shelf_szS_l2o), (true, shelf_szS_xqal), (true, shelf_szS_xqag), (true, shelf_szS_xn), (true, shelf_szS_xo)] : List (Bool × wE)) := ho
    simp only [List.mem_cons, List.not_mem_nil, or_false] at ho
    rcases ho with rfl | rfl | rfl | rfl | rfl | rfl | rfl | rfl
    · exact Or.inr ⟨rfl, List.mem_cons_of_mem _ (List.mem_cons_of_mem _ (List.mem_cons_of_mem _ (List.mem_cons_of_mem _ (List.mem_cons_of_mem _ (List.mem_cons_of_mem _ (List.mem_cons_of_mem _ (List.mem_cons_of_mem _ (List.mem_cons_of_mem _ (List.mem_cons_of_mem _ (List.mem_cons_of_mem _ (List.mem_cons_of_mem _ (List.mem_cons_of_mem _ (List.mem_cons_of_mem _ (List.mem_cons_of_mem _ (List.mem_cons_of_mem _ (List.mem_cons_of_mem _ (List.mem_cons_of_mem _ (List.mem_cons_of_mem _ (List.mem_cons_of_mem _ (List.mem_cons_of_mem _ (List.mem_cons_of_mem _ (List.mem_cons_of_mem _ (List.mem_cons_of_mem _ (List.mem_cons_of_mem _ (List.mem_cons_self)))))))))))))))))))))))))⟩
    · exact Or.inr ⟨rfl, List.mem_cons_of_mem _ (List.mem_cons_of_mem _ (List.mem_cons_of_mem _ (List.mem_cons_of_mem _ (List.mem_cons_of_mem _ (List.mem_cons_of_mem _ (List.mem_cons_of_mem _ (List.mem_cons_of_mem _ (List.mem_cons_of_mem _ (List.mem_cons_of_mem _ (List.mem_cons_of_mem _ (List.mem_cons_of_mem _ (List.mem_cons_of_mem _ (List.mem_cons_of_mem _ (List.mem_cons_of_mem _ (List.mem_cons_of_mem _ (List.mem_cons_of_mem _ (List.mem_cons_of_mem _ (List.mem_cons_of_mem _ (List.mem_cons_of_mem _ (List.mem_cons_of_mem _ (List.mem_cons_of_mem _ (List.mem_cons_of_mem _ (List.mem_cons_of_mem _ (List.mem_cons_of_mem _ (List.mem_cons_of_mem _ (List.mem_cons_self))))))))))))))))))))))))))⟩
    · exact Or.inr ⟨rfl, List.mem_cons_of_mem _ (List.mem_cons_of_mem _ (List.mem_cons_of_mem _ (List.mem_cons_of_mem _ (List.mem_cons_of_mem _ (List.mem_cons_of_mem _ (List.mem_cons_of_mem _ (List.mem_cons_of_mem _ (List.mem_cons_of_mem _ (List.mem_cons_of_mem _ (List.mem_cons_of_mem _ (List.mem_cons_of_mem _ (List.mem_cons_of_mem _ (List.mem_cons_of_mem _ (List.mem_cons_of_mem _ (List.mem_cons_of_mem _ (List.mem_cons_of_mem _ (List.mem_cons_of_mem _ (List.mem_cons_of_mem _ (List.mem_cons_of_mem _ (List.mem_cons_of_mem _ (List.mem_cons_of_mem _ (List.mem_cons_of_mem _ (List.mem_cons_of_mem _ (List.mem_cons_of_mem _ (List.mem_cons_of_mem _ (List.mem_cons_of_mem _ (List.mem_cons_self)))))))))))))))))))))))))))⟩
    · exact Or.inr ⟨rfl, List.mem_cons_of_mem _ (List.mem_cons_of_mem _ (List.mem_cons_of_mem _ (List.mem_cons_of_mem _ (List.mem_cons_of_mem _ (List.mem_cons_of_mem _ (List.mem_cons_of_mem _ (List.mem_cons_of_mem _ (List.mem_cons_of_mem _ (List.mem_cons_of_mem _ (List.mem_cons_of_mem _ (List.mem_cons_of_mem _ (List.mem_cons_of_mem _ (List.mem_cons_of_mem _ (List.mem_cons_of_mem _ (List.mem_cons_of_mem _ (List.mem_cons_of_mem _ (List.mem_cons_of_mem _ (List.mem_cons_of_mem _ (List.mem_cons_of_mem _ (List.mem_cons_of_mem _ (List.mem_cons_of_mem _ (List.mem_cons_of_mem _ (List.mem_cons_of_mem _ (List.mem_cons_of_mem _ (List.mem_cons_of_mem _ (List.mem_cons_of_mem _ (List.mem_cons_of_mem _ (List.mem_cons_self))))))))))))))))))))))))))))⟩
    · exact Or.inr ⟨rfl, List.mem_cons_of_mem _ (List.mem_cons_of_mem _ (List.mem_cons_of_mem _ (List.mem_cons_of_mem _ (List.mem_cons_of_mem _ (List.mem_cons_of_mem _ (List.mem_cons_of_mem _ (List.mem_cons_of_mem _ (List.mem_cons_of_mem _ (List.mem_cons_of_mem _ (List.mem_cons_of_mem _ (List.mem_cons_of_mem _ (List.mem_cons_of_mem _ (List.mem_cons_of_mem _ (List.mem_cons_of_mem _ (List.mem_cons_of_mem _ (List.mem_cons_of_mem _ (List.mem_cons_self)))))))))))))))))⟩
    · exact Or.inr ⟨rfl, List.mem_cons_of_mem _ (List.mem_cons_of_mem _ (List.mem_cons_of_mem _ (List.mem_cons_of_mem _ (List.mem_cons_of_mem _ (List.mem_cons_of_mem _ (List.mem_cons_of_mem _ (List.mem_cons_of_mem _ (List.mem_cons_of_mem _ (List.mem_cons_of_mem _ (List.mem_cons_of_mem _ (List.mem_cons_of_mem _ (List.mem_cons_of_mem _ (List.mem_cons_of_mem _ (List.mem_cons_of_mem _ (List.mem_cons_of_mem _ (List.mem_cons_of_mem _ (List.mem_cons_of_mem _ (List.mem_cons_self))))))))))))))))))⟩
    · exact Or.inr ⟨rfl, List.mem_cons_of_mem _ (List.mem_cons_of_mem _ (List.mem_cons_of_mem _ (List.mem_cons_of_mem _ (List.mem_cons_of_mem _ (List.mem_cons_of_mem _ (List.mem_cons_of_mem _ (List.mem_cons_of_mem _ (List.mem_cons_of_mem _ (List.mem_cons_of_mem _ (List.mem_cons_of_mem _ (List.mem_cons_of_mem _ (List.mem_cons_of_mem _ (List.mem_cons_of_mem _ (List.mem_cons_of_mem _ (List.mem_cons_of_mem _ (List.mem_cons_of_mem _ (List.mem_cons_of_mem _ (List.mem_cons_of_mem _ (List.mem_cons_self)))))))))))))))))))⟩
    · exact Or.inr ⟨rfl, List.mem_cons_of_mem _ (List.mem_cons_of_mem _ (List.mem_cons_of_mem _ (List.mem_cons_of_mem _ (List.mem_cons_of_mem _ (List.mem_cons_of_mem _ (List.mem_cons_of_mem _ (List.mem_cons_of_mem _ (List.mem_cons_of_mem _ (List.mem_cons_of_mem _ (List.mem_cons_of_mem _ (List.mem_cons_of_mem _ (List.mem_cons_of_mem _ (List.mem_cons_of_mem _ (List.mem_cons_of_mem _ (List.mem_cons_of_mem _ (List.mem_cons_of_mem _ (List.mem_cons_of_mem _ (List.mem_cons_of_mem _ (List.mem_cons_of_mem _ (List.mem_cons_self))))))))))))))))))))⟩
  · refine ⟨shelf_szSo23, shelf_szSN23, fun o ho => ?_⟩
    have ho : o ∈ ([(true, shelf_szS_l2qal), (true, shelf_szS_l2qag), (true, shelf_szS_l2n), (true, shelf_szS_l2o), (true, shelf_szS_xqal), (true, shelf_szS_xqag), (true, shelf_szS_xn), (true, shelf_szS_xo)] : List (Bool × wE)) := ho
    simp only [List.mem_cons, List.not_mem_nil, or_false] at ho
    rcases ho with rfl | rfl | rfl | rfl | rfl | rfl | rfl | rfl
    · exact Or.inr ⟨rfl, List.mem_cons_of_mem _ (List.mem_cons_of_mem _ (List.mem_cons_of_mem _ (List.mem_cons_of_mem _ (List.mem_cons_of_mem _ (List.mem_cons_of_mem _ (List.mem_cons_of_mem _ (List.mem_cons_of_mem _ (List.mem_cons_of_mem _ (List.mem_cons_of_mem _ (List.mem_cons_of_mem _ (List.mem_cons_of_mem _ (List.mem_cons_of_mem _ (List.mem_cons_of_mem _ (List.mem_cons_of_mem _ (List.mem_cons_of_mem _ (List.mem_cons_of_mem _ (List.mem_cons_of_mem _ (List.mem_cons_of_mem _ (List.mem_cons_of_mem _ (List.mem_cons_of_mem _ (List.mem_cons_of_mem _ (List.mem_cons_of_mem _ (List.mem_cons_of_mem _ (List.mem_cons_of_mem _ (List.mem_cons_self)))))))))))))))))))))))))⟩
    · exact Or.inr ⟨rfl, List.mem_cons_of_mem _ (List.mem_cons_of_mem _ (List.mem_cons_of_mem _ (List.mem_cons_of_mem _ (List.mem_cons_of_mem _ (List.mem_cons_of_mem _ (List.mem_cons_of_mem _ (List.mem_cons_of_mem _ (List.mem_cons_of_mem _ (List.mem_cons_of_mem _ (List.mem_cons_of_mem _ (List.mem_cons_of_mem _ (List.mem_cons_of_mem _ (List.mem_cons_of_mem _ (List.mem_cons_of_mem _ (List.mem_cons_of_mem _ (List.mem_cons_of_mem _ (List.mem_cons_of_mem _ (List.mem_cons_of_mem _ (List.mem_cons_of_mem _ (List.mem_cons_of_mem _ (List.mem_cons_of_mem _ (List.mem_cons_of_mem _ (List.mem_cons_of_mem _ (List.mem_cons_of_mem _ (List.mem_cons_of_mem _ (List.mem_cons_self))))))))))))))))))))))))))⟩
    · exact Or.inr ⟨rfl, List.mem_cons_of_mem _ (List.mem_cons_of_mem _ (List.mem_cons_of_mem _ (List.mem_cons_of_mem _ (List.mem_cons_of_mem _ (List.mem_cons_of_mem _ (List.mem_cons_of_mem _ (List.mem_cons_of_mem _ (List.mem_cons_of_mem _ (List.mem_cons_of_mem _ (List.mem_cons_of_mem _ (List.mem_cons_of_mem _ (List.mem_cons_of_mem _ (List.mem_cons_of_mem _ (List.mem_cons_of_mem _ (List.mem_cons_of_mem _ (List.mem_cons_of_mem _ (List.mem_cons_of_mem _ (List.mem_cons_of_mem _ (List.mem_cons_of_mem _ (List.mem_cons_of_mem _ (List.mem_cons_of_mem _ (List.mem_cons_of_mem _ (List.mem_cons_of_mem _ (List.mem_cons_of_mem _ (List.mem_cons_of_mem _ (List.mem_cons_of_mem _ (List.mem_cons_self)))))))))))))))))))))))))))⟩
    · exact Or.inr ⟨rfl, List.mem_cons_of_mem _ (List.mem_cons_of_mem _ (List.mem_cons_of_mem _ (List.mem_cons_of_mem _ (List.mem_cons_of_mem _ (List.mem_cons_of_mem _ (List.mem_cons_of_mem _ (List.mem_cons_of_mem _ (List.mem_cons_of_mem _ (List.mem_cons_of_mem _ (List.mem_cons_of_mem _ (List.mem_cons_of_mem _ (List.mem_cons_of_mem _ (List.mem_cons_of_mem _ (List.mem_cons_of_mem _ (List.mem_cons_of_mem _ (List.mem_cons_of_mem _ (List.mem_cons_of_mem _ (List.mem_cons_of_mem _ (List.mem_cons_of_mem _ (List.mem_cons_of_mem _ (List.mem_cons_of_mem _ (List.mem_cons_of_mem _ (List.mem_cons_of_mem _ (List.mem_cons_of_mem _ (List.mem_cons_of_mem _ (List.mem_cons_of_mem _ (List.mem_cons_of_mem _ (List.mem_cons_self))))))))))))))))))))))))))))⟩
    · exact Or.inr ⟨rfl, List.mem_cons_of_mem _ (List.mem_cons_of_mem _ (List.mem_cons_of_mem _ (List.mem_cons_of_mem _ (List.mem_cons_of_mem _ (List.mem_cons_of_mem _ (List.mem_cons_of_mem _ (List.mem_cons_of_mem _ (List.mem_cons_of_mem _ (List.mem_cons_of_mem _ (List.mem_cons_of_mem _ (List.mem_cons_of_mem _ (List.mem_cons_of_mem _ (List.mem_cons_of_mem _ (List.mem_cons_of_mem _ (List.mem_cons_of_mem _ (List.mem_cons_of_mem _ (List.mem_cons_self)))))))))))))))))⟩
    · exact Or.inr ⟨rfl, List.mem_cons_of_mem _ (List.mem_cons_of_mem _ (List.mem_cons_of_mem _ (List.mem_cons_of_mem _ (List.mem_cons_of_mem _ (List.mem_cons_of_mem _ (List.mem_cons_of_mem _ (List.mem_cons_of_mem _ (List.mem_cons_of_mem _ (List.mem_cons_of_mem _ (List.mem_cons_of_mem _ (List.mem_cons_of_mem _ (List.mem_cons_of_mem _ (List.mem_cons_of_mem _ (List.mem_cons_of_mem _ (List.mem_cons_of_mem _ (List.mem_cons_of_mem _ (List.mem_cons_of_mem _ (List.mem_cons_self))))))))))))))))))⟩
    · exact Or.inr ⟨rfl, List.mem_cons_of_mem _ (List.mem_cons_of_mem _ (List.mem_cons_of_mem _ (List.mem_cons_of_mem _ (List.mem_cons_of_mem _ (List.mem_cons_of_mem _ (List.mem_cons_of_mem _ (List.mem_cons_of_mem _ (List.mem_cons_of_mem _ (List.mem_cons_of_mem _ (List.mem_cons_of_mem _ (List.mem_cons_of_mem _ (List.mem_cons_of_mem _ (List.mem_cons_of_mem _ (List.mem_cons_of_mem _ (List.mem_cons_of_mem _ (List.mem_cons_of_mem _ (List.mem_cons_of_mem _ (List.mem_cons_of_mem _ (List.mem_cons_self)))))))))))))))))))⟩
    · exact Or.inr ⟨rfl, List.mem_cons_of_mem _ (List.mem_cons_of_mem _ (List.mem_cons_of_mem _ (List.mem_cons_of_mem _ (List.mem_cons_of_mem _ (List.mem_cons_of_mem _ (List.mem_cons_of_mem _ (List.mem_cons_of_mem _ (List.mem_cons_of_mem _ (List.mem_cons_of_mem _ (List.mem_cons_of_mem _ (List.mem_cons_of_mem _ (List.mem_cons_of_mem _ (List.mem_cons_of_mem _ (List.mem_cons_of_mem _ (List.mem_cons_of_mem _ (List.mem_cons_of_mem _ (List.mem_cons_of_mem _ (List.mem_cons_of_mem _ (List.mem_cons_of_mem _ (List.mem_cons_self))))))))))))))))))))⟩
  · refine ⟨shelf_szSo27, shelf_szSN27, fun o ho => ?_⟩
    have ho : o ∈ ([(true, shelf_szS_l2qal), (true, shelf_szS_l2qag), (true, shelf_szS_l2n), (true, shelf_szS_l2o), (true, shelf_szS_xqal), (true, shelf_szS_xqag), (true, shelf_szS_xn), (true, shelf_szS_xo)] : List (Bool × wE)) := ho
    simp only [List.mem_cons, List.not_mem_nil, or_false] at ho
    rcases ho with rfl | rfl | rfl | rfl | rfl | rfl | rfl | rfl
    · exact Or.inr ⟨rfl, List.mem_cons_of_mem _ (List.mem_cons_of_mem _ (List.mem_cons_of_mem _ (List.mem_cons_of_mem _ (List.mem_cons_of_mem _ (List.mem_cons_of_mem _ (List.mem_cons_of_mem _ (List.mem_cons_of_mem _ (List.mem_cons_of_mem _ (List.mem_cons_of_mem _ (List.mem_cons_of_mem _ (List.mem_cons_of_mem _ (List.mem_cons_of_mem _ (List.mem_cons_of_mem _ (List.mem_cons_of_mem _ (List.mem_cons_of_mem _ (List.mem_cons_of_mem _ (List.mem_cons_of_mem _ (List.mem_cons_of_mem _ (List.mem_cons_of_mem _ (List.mem_cons_of_mem _ (List.mem_cons_of_mem _ (List.mem_cons_of_mem _ (List.mem_cons_of_mem _ (List.mem_cons_of_mem _ (List.mem_cons_self)))))))))))))))))))))))))⟩
    · exact Or.inr ⟨rfl, List.mem_cons_of_mem _ (List.mem_cons_of_mem _ (List.mem_cons_of_mem _ (List.mem_cons_of_mem _ (List.mem_cons_of_mem _ (List.mem_cons_of_mem _ (List.mem_cons_of_mem _ (List.mem_cons_of_mem _ (List.mem_cons_of_mem _ (List.mem_cons_of_mem _ (List.mem_cons_of_mem _ (List.mem_cons_of_mem _ (List.mem_cons_of_mem _ (List.mem_cons_of_mem _ (List.mem_cons_of_mem _ (List.mem_cons_of_mem _ (List.mem_cons_of_mem _ (List.mem_cons_of_mem _ (List.mem_cons_of_mem _ (List.mem_cons_of_mem _ (List.mem_cons_of_mem _ (List.mem_cons_of_mem _ (List.mem_cons_of_mem _ (List.mem_cons_of_mem _ (List.mem_cons_of_mem _ (List.mem_cons_of_mem _ (List.mem_cons_self))))))))))))))))))))))))))⟩
    · exact Or.inr ⟨rfl, List.mem_cons_of_mem _ (List.mem_cons_of_mem _ (List.mem_cons_of_mem _ (List.mem_cons_of_mem _ (List.mem_cons_of_mem _ (List.mem_cons_of_mem _ (List.mem_cons_of_mem _ (List.mem_cons_of_mem _ (List.mem_cons_of_mem _ (List.mem_cons_of_mem _ (List.mem_cons_of_mem _ (List.mem_cons_of_mem _ (List.mem_cons_of_mem _ (List.mem_cons_of_mem _ (List.mem_cons_of_mem _ (List.mem_cons_of_mem _ (List.mem_cons_of_mem _ (List.mem_cons_of_mem _ (List.mem_cons_of_mem _ (List.mem_cons_of_mem _ (List.mem_cons_of_mem _ (List.mem_cons_of_mem _ (List.mem_cons_of_mem _ (List.mem_cons_of_mem _ (List.mem_cons_of_mem _ (List.mem_cons_of_mem _ (List.mem_cons_of_mem _ (List.mem_cons_self)))))))))))))))))))))))))))⟩
    · exact Or.inr ⟨rfl, List.mem_cons_of_mem _ (List.mem_cons_of_mem _ (List.mem_cons_of_mem _ (List.mem_cons_of_mem _ (List.mem_cons_of_mem _ (List.mem_cons_of_mem _ (List.mem_cons_of_mem _ (List.mem_cons_of_mem _ (List.mem_cons_of_mem _ (List.mem_cons_of_mem _ (List.mem_cons_of_mem _ (List.mem_cons_of_mem _ (List.mem_cons_of_mem _ (List.mem_cons_of_mem _ (List.mem_cons_of_mem _ (List.mem_cons_of_mem _ (List.mem_cons_of_mem _ (List.mem_cons_of_mem _ (List.mem_cons_of_mem _ (List.mem_cons_of_mem _ (List.mem_cons_of_mem _ (List.mem_cons_of_mem _ (List.mem_cons_of_mem _ (List.mem_cons_of_mem _ (List.mem_cons_of_mem _ (List.mem_cons_of_mem _ (List.mem_cons_of_mem _ (List.mem_cons_of_mem _ (List.mem_cons_self))))))))))))))))))))))))))))⟩
    · exact Or.inr ⟨rfl, List.mem_cons_of_mem _ (List.mem_cons_of_mem _ (List.mem_cons_of_mem _ (List.mem_cons_of_mem _ (List.mem_cons_of_mem _ (List.mem_cons_of_mem _ (List.mem_cons_of_mem _ (List.mem_cons_of_mem _ (List.mem_cons_of_mem _ (List.mem_cons_of_mem _ (List.mem_cons_of_mem _ (List.mem_cons_of_mem _ (List.mem_cons_of_mem _ (List.mem_cons_of_mem _ (List.mem_cons_of_mem _ (List.mem_cons_of_mem _ (List.mem_cons_of_mem _ (List.mem_cons_self)))))))))))))))))⟩
    · exact Or.inr ⟨rfl, List.mem_cons_of_mem _ (List.mem_cons_of_mem _ (List.mem_cons_of_mem _ (List.mem_cons_of_mem _ (List.mem_cons_of_mem _ (List.mem_cons_of_mem _ (List.mem_cons_of_mem _ (List.mem_cons_of_mem _ (List.mem_cons_of_mem _ (List.mem_cons_of_mem _ (List.mem_cons_of_mem _ (List.mem_cons_of_mem _ (List.mem_cons_of_mem _ (List.mem_cons_of_mem _ (List.mem_cons_of_mem _ (List.mem_cons_of_mem _ (List.mem_cons_of_mem _ (List.mem_cons_of_mem _ (List.mem_cons_self))))))))))))))))))⟩
    · exact Or.inr ⟨rfl, List.mem_cons_of_mem _ (List.mem_cons_of_mem _ (List.mem_cons_of_mem _ (List.mem_cons_of_mem _ (List.mem_cons_of_mem _ (List.mem_cons_of_mem _ (List.mem_cons_of_mem _ (List.mem_cons_of_mem _ (List.mem_cons_of_mem _ (List.mem_cons_of_mem _ (List.mem_cons_of_mem _ (List.mem_cons_of_mem _ (List.mem_cons_of_mem _ (List.mem_cons_of_mem _ (List.mem_cons_of_mem _ (List.mem_cons_of_mem _ (List.mem_cons_of_mem _ (List.mem_cons_of_mem _ (List.mem_cons_of_mem _ (List.mem_cons_self)))))))))))))))))))⟩
    · exact Or.inr ⟨rfl, List.mem_cons_of_mem _ (List.mem_cons_of_mem _ (List.mem_cons_of_mem _ (List.mem_cons_of_mem _ (List.mem_cons_of_mem _ (List.mem_cons_of_mem _ (List.mem_cons_of_mem _ (List.mem_cons_of_mem _ (List.mem_cons_of_mem _ (List.mem_cons_of_mem _ (List.mem_cons_of_mem _ (List.mem_cons_of_mem _ (List.mem_cons_of_mem _ (List.mem_cons_of_mem _ (List.mem_cons_of_mem _ (List.mem_cons_of_mem _ (List.mem_cons_of_mem _ (List.mem_cons_of_mem _ (List.mem_cons_of_mem _ (List.mem_cons_of_mem _ (List.mem_cons_self))))))))))))))))))))⟩)
theorem shelfG8re {xs : Nat → Int32} {n : Nat} {sf : Option Nat} : wRe x_KT x_tb x_tyl (x_otS xs n sf) lwFR lwGA.length lwGB.length 54 218 60 60 false shelf_in lwF8 :=
  wReG (OX := shelfG8OX) (iu := 8) lwFRok (wDp (shelf_szS_g0_G shelf_szS_in List.mem_cons_self) (by decide) (by decide)) rfl (by decide +kernel) (by decide +kernel) (by decide +kernel) (by decide +kernel) shelfG8gk (by decide) (by decide) (by decide)
theorem shelfH {xs : Nat → Int32} {n : Nat} {sf : Option Nat} : wGoes x_KT x_tb x_tyl (x_otS xs n sf) lwFS lwGA.length lwGB.length 5 25 43 shelfWA shelfWB 54 218 60 60 shelf_in (shelfOX.map (fun x => x.1)) :=
  wFSr (FS := lwFR) (nh := 33) (wFam (V := [7, 8]) lwFRok (by decide +kernel) (by decide +kernel) (shelf_g0_G shelf_in List.mem_cons_self) (by decide) (by decide) (fun i hi u hu => by
  have hi : i ∈ ([7, 8] : List Nat) := hi
  simp only [List.mem_cons, List.not_mem_nil, or_false] at hi
  rcases hi with rfl | rfl
  · cases hu
    exact shelfG7re
  · cases hu
    exact shelfG8re)) lwFRp (by decide) (by decide +kernel)
theorem shelfPP {xs : Nat → Int32} {n : Nat} {sf : Option Nat} : bPP x_KT x_tb x_tyl (x_otS xs n sf) lwN lwP 1299 54 218 5 (mMc xm54 + mMc xm218) (mRc xm54) (mRc xm218) True :=
  wBlk lwFok lwFB uKa uKb (by decide +kernel) (by decide +kernel) uKdj uKj shelfbc shelfH gq54 gq218 (by decide) (by decide) (uKeep (by decide +kernel)) (by decide +kernel) (by decide +kernel) (by decide +kernel)
set_option maxRecDepth 1000000 in
theorem gq70 : tMth x_tb 70 = some xm70 := rfl
set_option maxRecDepth 1000000 in
theorem gq206 : tMth x_tb 206 = some xm206 := rfl
theorem ctN0 {xs : Nat → Int32} {n : Nat} {sf : Option Nat} : wGoes x_KT x_tb x_tyl (x_otS xs n sf) lwFR lwGA.length lwGB.length 34 42 44 ctWA ctWB 70 206 60 60 ct_in cto0 :=
  wDp (wWk (wEd_spec (x_ov0_le sf) u_ctS lwFRok ctE0) (Nat.le_refl _) (Nat.le_refl _) (Nat.le_refl _) (by decide +kernel) (by decide +kernel)) (by decide) (by decide)
set_option maxRecDepth 1000000 in
theorem gq72 : tMth x_tb 72 = some xm72 := rfl
set_option maxRecDepth 1000000 in
theorem gq205 : tMth x_tb 205 = some xm205 := rfl
def ct_g0_nd : List wE := [ct_in]
theorem ct_g0_G {xs : Nat → Int32} {n : Nat} {sf : Option Nat} : ∀ nd ∈ ct_g0_nd, wGoes x_KT x_tb x_tyl (x_otS xs n sf) lwFR lwGA.length lwGB.length 34 42 44 ctWA ctWB 70 206 60 60 nd (ct_g0_ex.map (fun x => (false, x))) := wGraph (fun nd hnd => by
  have hnd : nd ∈ ([ct_in] : List wE) := hnd
  simp only [List.mem_cons, List.not_mem_nil, or_false] at hnd
  rcases hnd with rfl
  · refine ⟨cto0, ctN0, fun o ho => ?_⟩
    have ho : o ∈ ([(false, ct_x)] : List (Bool × wE)) := ho
    simp only [List.mem_cons, List.not_mem_nil, or_false] at ho
    rcases ho with rfl
    · exact Or.inl (List.mem_cons_self))
theorem riN0 {xs : Nat → Int32} {n : Nat} {sf : Option Nat} : wGoes x_KT x_tb x_tyl (x_otS xs n sf) lwFR lwGA.length lwGB.length 33 42 44 riWA riWB 72 205 61 61 ri_c rio0 :=
  wDp (wWk (wEqvB (wCallB (recv := 0) (pc := 189) (ix := 291) (nx := 3) (args := [.inl (lSy 6), .inl (lSy 32), .inl (lSy 33), .inl (lK 0)]) (rest := [.inl (lSy 32), .inr (some 8)]) (LE := [(0, .inr (some 0)), (1, .inl (lSy 6)), (2, .inl (lSy 5)), (3, .inl (lK 0)), (4, .inr (some 43)), (5, .inl (lSc 4 (lSy 24))), (7, .inl (lAdd (lSy 24) (lK 1)))]) (cE := (lK 0)) (sE := (lK 0)) (wCallA (recv := 31) (pc := 41) (ix := 87) (nx := 3) (args := [.inl (lSy 32), .inl (lSy 33)]) (rest := [.inl (lSy 32), .inr (some 5)]) (LE := [(0, .inr (some 4))]) (cE := (lK 0)) (sE := (lK 0)) (wReL (XA := riX0.2.1) (XB := riX0.2.2.1) (XC := riX0.2.2.2.1) (rk := riX0.2.2.2.2) (rA := riQA0) (rB := riQB0) (ct_g0_G _ List.mem_cons_self) riL0) gq72 gq70 (by decide +kernel) (by decide +kernel) (by decide +kernel) (by decide +kernel) (by decide +kernel)) gq205 gq206 (by decide +kernel) (by decide +kernel) (by decide +kernel) (by decide +kernel) (by decide +kernel)) (by decide +kernel) (by decide +kernel)) (by decide) (by decide) (by decide) (by decide +kernel) (by decide +kernel)) (by decide) (by decide)
theorem riN1 {xs : Nat → Int32} {n : Nat} {sf : Option Nat} : wGoes x_KT x_tb x_tyl (x_otS xs n sf) lwFR lwGA.length lwGB.length 33 42 44 riWA riWB 72 205 61 61 ri_in rio1 :=
  wDp (wWk (wEd_spec (x_ov0_le sf) u_ctS lwFRok riE1) (Nat.le_refl _) (Nat.le_refl _) (Nat.le_refl _) (by decide +kernel) (by decide +kernel)) (by decide) (by decide)
theorem riN2 {xs : Nat → Int32} {n : Nat} {sf : Option Nat} : wGoes x_KT x_tb x_tyl (x_otS xs n sf) lwFR lwGA.length lwGB.length 33 42 44 riWA riWB 72 205 61 61 ri_c_x rio2 :=
  wDp (wWk (wFamE2 (V := [33, 34]) (x_ov0_le sf) u_ctS lwFRok riE2 (by decide) (by decide) (fun i hi u hu => by
      have hi : i ∈ ([33, 34] : List Nat) := hi
      simp only [List.mem_cons, List.not_mem_nil, or_false] at hi
      rcases hi with rfl | rfl
      · exact gRk_spec (x_ov0_le sf) u_ctS lwFRok riE2 (by decide) (by decide) riE2G0 (by decide +kernel) _ (List.mem_cons_self) u hu
      · exact gRk_spec (x_ov0_le sf) u_ctS lwFRok riE2 (by decide) (by decide) riE2G0 (by decide +kernel) _ (List.mem_cons_of_mem _ (List.mem_cons_self)) u hu)) (Nat.le_refl _) (Nat.le_refl _) (Nat.le_refl _) (by decide +kernel) (by decide +kernel)) (by decide) (by decide)
set_option maxRecDepth 1000000 in
theorem gq76 : tMth x_tb 76 = some xm76 := rfl
set_option maxRecDepth 1000000 in
theorem gq209 : tMth x_tb 209 = some xm209 := rfl
theorem mnN0 {xs : Nat → Int32} {n : Nat} {sf : Option Nat} : wGoes x_KT x_tb x_tyl (x_otS xs n sf) lwFR lwGA.length lwGB.length 36 42 44 mnWA mnWB 76 209 60 60 mn_in mno0 :=
  wDp (wWk (wEd_spec (x_ov0_le sf) u_ctS lwFRok mnE0) (Nat.le_refl _) (Nat.le_refl _) (Nat.le_refl _) (by decide +kernel) (by decide +kernel)) (by decide) (by decide)
set_option maxRecDepth 1000000 in
theorem gq69 : tMth x_tb 69 = some xm69 := rfl
set_option maxRecDepth 1000000 in
theorem gq210 : tMth x_tb 210 = some xm210 := rfl
def mn_g0_nd : List wE := [mn_in]
theorem mn_g0_G {xs : Nat → Int32} {n : Nat} {sf : Option Nat} : ∀ nd ∈ mn_g0_nd, wGoes x_KT x_tb x_tyl (x_otS xs n sf) lwFR lwGA.length lwGB.length 36 42 44 mnWA mnWB 76 209 60 60 nd (mn_g0_ex.map (fun x => (false, x))) := wGraph (fun nd hnd => by
  have hnd : nd ∈ ([mn_in] : List wE) := hnd
  simp only [List.mem_cons, List.not_mem_nil, or_false] at hnd
  rcases hnd with rfl
  · refine ⟨mno0, mnN0, fun o ho => ?_⟩
    have ho : o ∈ ([(false, mn_x)] : List (Bool × wE)) := ho
    simp only [List.mem_cons, List.not_mem_nil, or_false] at ho
    rcases ho with rfl
    · exact Or.inl (List.mem_cons_self))
theorem leN0 {xs : Nat → Int32} {n : Nat} {sf : Option Nat} : wGoes x_KT x_tb x_tyl (x_otS xs n sf) lwFR lwGA.length lwGB.length 36 42 44 leWA leWB 69 210 61 61 le_c leo0 :=
  wDp (wWk (wEqvB (wCallB (recv := 0) (pc := 4) (ix := 288) (nx := 3) (args := [.inl (lSy 6), .inl (lSy 32), .inl (lK 0)]) (rest := []) (LE := [(0, .inr (some 0)), (1, .inl (lSy 6)), (2, .inl (lSy 32)), (3, .inl (lK 0))]) (cE := (lK 0)) (sE := (lK 0)) (wCallA (recv := 4) (pc := 336) (ix := 98) (nx := 3) (args := [.inl (lSy 32)]) (rest := [.inr (some 31)]) (LE := [(0, .inr (some 4)), (2, .inl (lSy 33)), (3, .inl (lSy 34)), (4, .inl (lAdd (lSy 24) (lK 1)))]) (cE := (lK 0)) (sE := (lK 0)) (wReL (XA := leX0.2.1) (XB := leX0.2.2.1) (XC := leX0.2.2.2.1) (rk := leX0.2.2.2.2) (rA := leQA0) (rB := leQB0) (mn_g0_G _ List.mem_cons_self) leL0) gq69 gq76 (by decide +kernel) (by decide +kernel) (by decide +kernel) (by decide +kernel) (by decide +kernel)) gq210 gq209 (by decide +kernel) (by decide +kernel) (by decide +kernel) (by decide +kernel) (by decide +kernel)) (by decide +kernel) (by decide +kernel)) (by decide) (by decide) (by decide) (by decide +kernel) (by decide +kernel)) (by decide) (by decide)
theorem leN1 {xs : Nat → Int32} {n : Nat} {sf : Option Nat} : wGoes x_KT x_tb x_tyl (x_otS xs n sf) lwFR lwGA.length lwGB.length 36 42 44 leWA leWB 69 210 61 61 le_in leo1 :=
  wDp (wWk (wEd_spec (x_ov0_le sf) u_ctS lwFRok leE1) (Nat.le_refl _) (Nat.le_refl _) (Nat.le_refl _) (by decide +kernel) (by decide +kernel)) (by decide) (by decide)
theorem leN2 {xs : Nat → Int32} {n : Nat} {sf : Option Nat} : wGoes x_KT x_tb x_tyl (x_otS xs n sf) lwFR lwGA.length lwGB.length 36 42 44 leWA leWB 69 210 61 61 le_c_x leo2 :=
  wDp (wWk (wEd_spec (x_ov0_le sf) u_ctS lwFRok leE2) (Nat.le_refl _) (Nat.le_refl _) (Nat.le_refl _) (by decide +kernel) (by decide +kernel)) (by decide) (by decide)
theorem st0N0 {xs : Nat → Int32} {n : Nat} {sf : Option Nat} : wGoes x_KT x_tb x_tyl (x_otS xs n sf) lwFR lwGA.length lwGB.length 32 42 44 st0WA st0WB 69 205 62 62 st0_gen st0o0 :=
  wDp (wWk (wEd_spec (x_ov0_le sf) u_ctS lwFRok st0E0) (Nat.le_refl _) (Nat.le_refl _) (Nat.le_refl _) (by decide +kernel) (by decide +kernel)) (by decide) (by decide)
theorem st0N1 {xs : Nat → Int32} {n : Nat} {sf : Option Nat} : wGoes x_KT x_tb x_tyl (x_otS xs n sf) lwFR lwGA.length lwGB.length 32 42 44 st0WA st0WB 69 205 62 62 st0_lo st0o1 :=
  wDp (wWk (wEd_spec (x_ov0_le sf) u_ctS lwFRok st0E1) (Nat.le_refl _) (Nat.le_refl _) (Nat.le_refl _) (by decide +kernel) (by decide +kernel)) (by decide) (by decide)
theorem st0N2 {xs : Nat → Int32} {n : Nat} {sf : Option Nat} : wGoes x_KT x_tb x_tyl (x_otS xs n sf) lwFR lwGA.length lwGB.length 32 42 44 st0WA st0WB 69 205 62 62 st0_hi st0o2 :=
  wDp (wWk (wEd_spec (x_ov0_le sf) u_ctS lwFRok st0E2) (Nat.le_refl _) (Nat.le_refl _) (Nat.le_refl _) (by decide +kernel) (by decide +kernel)) (by decide) (by decide)
theorem st0N3 {xs : Nat → Int32} {n : Nat} {sf : Option Nat} : wGoes x_KT x_tb x_tyl (x_otS xs n sf) lwFR lwGA.length lwGB.length 32 42 44 st0WA st0WB 69 205 62 62 st0_ou st0o3 :=
  wDp (wWk (wEd_spec (x_ov0_le sf) u_ctS lwFRok st0E3) (Nat.le_refl _) (Nat.le_refl _) (Nat.le_refl _) (by decide +kernel) (by decide +kernel)) (by decide) (by decide)
theorem st0N4 {xs : Nat → Int32} {n : Nat} {sf : Option Nat} : wGoes x_KT x_tb x_tyl (x_otS xs n sf) lwFR lwGA.length lwGB.length 32 42 44 st0WA st0WB 69 205 62 62 st0_M st0o4 :=
  wDp (wWk (wEd_spec (x_ov0_le sf) u_ctS lwFRok st0E4) (Nat.le_refl _) (Nat.le_refl _) (Nat.le_refl _) (by decide +kernel) (by decide +kernel)) (by decide) (by decide)
theorem st0N5 {xs : Nat → Int32} {n : Nat} {sf : Option Nat} : wGoes x_KT x_tb x_tyl (x_otS xs n sf) lwFR lwGA.length lwGB.length 32 42 44 st0WA st0WB 69 205 62 62 st0_op2 st0o5 :=
  wDp (wWk (wEd_spec (x_ov0_le sf) u_ctS lwFRok st0E5) (Nat.le_refl _) (Nat.le_refl _) (Nat.le_refl _) (by decide +kernel) (by decide +kernel)) (by decide) (by decide)
theorem st0N6 {xs : Nat → Int32} {n : Nat} {sf : Option Nat} : wGoes x_KT x_tb x_tyl (x_otS xs n sf) lwFR lwGA.length lwGB.length 32 42 44 st0WA st0WB 69 205 62 62 st0_L2 st0o6 :=
  wDp (wWk (wFamE2 (V := [38, 39, 40, 41, 42, 35, 36]) (x_ov0_le sf) u_ctS lwFRok st0E6 (by decide) (by decide) (fun i hi u hu => by
      have hi : i ∈ ([38, 39, 40, 41, 42, 35, 36] : List Nat) := hi
      simp only [List.mem_cons, List.not_mem_nil, or_false] at hi
      rcases hi with rfl | rfl | rfl | rfl | rfl | rfl | rfl
      · cases hu
        exact wRkE_spec (x_ov0_le sf) u_ctS lwFRok st0E6R38
      · cases hu
        exact wRkE_spec (x_ov0_le sf) u_ctS lwFRok st0E6R39
      · cases hu
        exact wRkE_spec (x_ov0_le sf) u_ctS lwFRok st0E6R40
      · cases hu
        exact wRkE_spec (x_ov0_le sf) u_ctS lwFRok st0E6R41
      · cases hu
        exact wRkE_spec (x_ov0_le sf) u_ctS lwFRok st0E6R42
      · cases hu
        exact wRkE_spec (x_ov0_le sf) u_ctS lwFRok st0E6R35
      · cases hu
        exact wRkE_spec (x_ov0_le sf) u_ctS lwFRok st0E6R36)) (Nat.le_refl _) (Nat.le_refl _) (Nat.le_refl _) (by decide +kernel) (by decide +kernel)) (by decide) (by decide)
theorem st0N7 {xs : Nat → Int32} {n : Nat} {sf : Option Nat} : wGoes x_KT x_tb x_tyl (x_otS xs n sf) lwFR lwGA.length lwGB.length 32 42 44 st0WA st0WB 69 205 62 62 st0_M22 st0o7 :=
  wDp (wWk (wEd_spec (x_ov0_le sf) u_ctS lwFRok st0E7) (Nat.le_refl _) (Nat.le_refl _) (Nat.le_refl _) (by decide +kernel) (by decide +kernel)) (by decide) (by decide)
theorem st0N8 {xs : Nat → Int32} {n : Nat} {sf : Option Nat} : wGoes x_KT x_tb x_tyl (x_otS xs n sf) lwFR lwGA.length lwGB.length 32 42 44 st0WA st0WB 69 205 62 62 st0_F2 st0o8 :=
  wDp (wWk (wEd_spec (x_ov0_le sf) u_ctS lwFRok st0E8) (Nat.le_refl _) (Nat.le_refl _) (Nat.le_refl _) (by decide +kernel) (by decide +kernel)) (by decide) (by decide)
theorem st0N9 {xs : Nat → Int32} {n : Nat} {sf : Option Nat} : wGoes x_KT x_tb x_tyl (x_otS xs n sf) lwFR lwGA.length lwGB.length 32 42 44 st0WA st0WB 69 205 62 62 st0_op9 st0o9 :=
  wDp (wWk (wEd_spec (x_ov0_le sf) u_ctS lwFRok st0E9) (Nat.le_refl _) (Nat.le_refl _) (Nat.le_refl _) (by decide +kernel) (by decide +kernel)) (by decide) (by decide)
theorem st0N10 {xs : Nat → Int32} {n : Nat} {sf : Option Nat} : wGoes x_KT x_tb x_tyl (x_otS xs n sf) lwFR lwGA.length lwGB.length 32 42 44 st0WA st0WB 69 205 62 62 st0_op10 st0o10 :=
  wDp (wWk (wEd_spec (x_ov0_le sf) u_ctS lwFRok st0E10) (Nat.le_refl _) (Nat.le_refl _) (Nat.le_refl _) (by decide +kernel) (by decide +kernel)) (by decide) (by decide)
theorem st0N11 {xs : Nat → Int32} {n : Nat} {sf : Option Nat} : wGoes x_KT x_tb x_tyl (x_otS xs n sf) lwFR lwGA.length lwGB.length 32 42 44 st0WA st0WB 69 205 62 62 st0_c0 st0o11 :=
  wDp (wWk (wEqvB (wCallB (recv := 0) (pc := 128) (ix := 291) (nx := 3) (args := [.inl (lSy 6), .inl (lSy 32), .inl (lSy 33), .inl (lK 0)]) (rest := [.inl (lSy 32), .inr (some 8)]) (LE := [(0, .inr (some 0)), (1, .inl (lSy 6)), (2, .inl (lSy 5)), (3, .inl (lK 0)), (7, .inl (lAdd (lSy 24) (lK 1)))]) (cE := (lK 0)) (sE := (lK 0)) (wCallA (recv := 31) (pc := 158) (ix := 87) (nx := 3) (args := [.inl (lSy 32), .inl (lSy 33)]) (rest := [.inl (lSy 32), .inr (some 5)]) (LE := [(0, .inr (some 4)), (4, .inl (lAdd (lSy 24) (lK 1)))]) (cE := (lK 0)) (sE := (lK 0)) (wReL (XA := st0X11.2.1) (XB := st0X11.2.2.1) (XC := st0X11.2.2.2.1) (rk := st0X11.2.2.2.2) (rA := st0QA11) (rB := st0QB11) (ct_g0_G _ List.mem_cons_self) st0L11) gq69 gq70 (by decide +kernel) (by decide +kernel) (by decide +kernel) (by decide +kernel) (by decide +kernel)) gq205 gq206 (by decide +kernel) (by decide +kernel) (by decide +kernel) (by decide +kernel) (by decide +kernel)) (by decide +kernel) (by decide +kernel)) (by decide) (by decide) (by decide) (by decide +kernel) (by decide +kernel)) (by decide) (by decide)
theorem st0N12 {xs : Nat → Int32} {n : Nat} {sf : Option Nat} : wGoes x_KT x_tb x_tyl (x_otS xs n sf) lwFR lwGA.length lwGB.length 32 42 44 st0WA st0WB 69 205 62 62 st0_op0 st0o12 :=
  wDp (wWk (wEd_spec (x_ov0_le sf) u_ctS lwFRok st0E12) (Nat.le_refl _) (Nat.le_refl _) (Nat.le_refl _) (by decide +kernel) (by decide +kernel)) (by decide) (by decide)
theorem st0N13 {xs : Nat → Int32} {n : Nat} {sf : Option Nat} : wGoes x_KT x_tb x_tyl (x_otS xs n sf) lwFR lwGA.length lwGB.length 32 42 44 st0WA st0WB 69 205 62 62 st0_c0_x st0o13 :=
  wDp (wWk (wFamE2 (V := [33, 34]) (x_ov0_le sf) u_ctS lwFRok st0E13 (by decide) (by decide) (fun i hi u hu => by
      have hi : i ∈ ([33, 34] : List Nat) := hi
      simp only [List.mem_cons, List.not_mem_nil, or_false] at hi
      rcases hi with rfl | rfl
      · exact gRk_spec (x_ov0_le sf) u_ctS lwFRok st0E13 (by decide) (by decide) st0E13G0 (by decide +kernel) _ (List.mem_cons_self) u hu
      · exact gRk_spec (x_ov0_le sf) u_ctS lwFRok st0E13 (by decide) (by decide) st0E13G0 (by decide +kernel) _ (List.mem_cons_of_mem _ (List.mem_cons_self)) u hu)) (Nat.le_refl _) (Nat.le_refl _) (Nat.le_refl _) (by decide +kernel) (by decide +kernel)) (by decide) (by decide)
theorem st0N14 {xs : Nat → Int32} {n : Nat} {sf : Option Nat} : wGoes x_KT x_tb x_tyl (x_otS xs n sf) lwFR lwGA.length lwGB.length 32 42 44 st0WA st0WB 69 205 62 62 st0_c3 st0o14 :=
  wDp (wWk (wEqvB (wCallB (recv := 0) (pc := 299) (ix := 291) (nx := 3) (args := [.inl (lSy 6), .inl (lSy 32), .inl (lSy 33), .inl (lK 0)]) (rest := [.inl (lSy 32), .inr (some 8)]) (LE := [(0, .inr (some 0)), (1, .inl (lSy 6)), (2, .inl (lSy 5)), (3, .inl (lK 0)), (7, .inl (lAdd (lSy 24) (lK 1)))]) (cE := (lK 0)) (sE := (lK 0)) (wCallA (recv := 31) (pc := 192) (ix := 87) (nx := 3) (args := [.inl (lSy 32), .inl (lSy 33)]) (rest := [.inl (lSy 32), .inr (some 5)]) (LE := [(0, .inr (some 4)), (4, .inl (lAdd (lSy 24) (lK 1)))]) (cE := (lK 0)) (sE := (lK 0)) (wReL (XA := st0X14.2.1) (XB := st0X14.2.2.1) (XC := st0X14.2.2.2.1) (rk := st0X14.2.2.2.2) (rA := st0QA14) (rB := st0QB14) (ct_g0_G _ List.mem_cons_self) st0L14) gq69 gq70 (by decide +kernel) (by decide +kernel) (by decide +kernel) (by decide +kernel) (by decide +kernel)) gq205 gq206 (by decide +kernel) (by decide +kernel) (by decide +kernel) (by decide +kernel) (by decide +kernel)) (by decide +kernel) (by decide +kernel)) (by decide) (by decide) (by decide) (by decide +kernel) (by decide +kernel)) (by decide) (by decide)
theorem st0N15 {xs : Nat → Int32} {n : Nat} {sf : Option Nat} : wGoes x_KT x_tb x_tyl (x_otS xs n sf) lwFR lwGA.length lwGB.length 32 42 44 st0WA st0WB 69 205 62 62 st0_op3 st0o15 :=
  wDp (wWk (wEd_spec (x_ov0_le sf) u_ctS lwFRok st0E15) (Nat.le_refl _) (Nat.le_refl _) (Nat.le_refl _) (by decide +kernel) (by decide +kernel)) (by decide) (by decide)
theorem st0N16 {xs : Nat → Int32} {n : Nat} {sf : Option Nat} : wGoes x_KT x_tb x_tyl (x_otS xs n sf) lwFR lwGA.length lwGB.length 32 42 44 st0WA st0WB 69 205 62 62 st0_c3_x st0o16 :=
  wDp (wWk (wFamE2 (V := [33, 34]) (x_ov0_le sf) u_ctS lwFRok st0E16 (by decide) (by decide) (fun i hi u hu => by
      have hi : i ∈ ([33, 34] : List Nat) := hi
      simp only [List.mem_cons, List.not_mem_nil, or_false] at hi
      rcases hi with rfl | rfl
      · exact gRk_spec (x_ov0_le sf) u_ctS lwFRok st0E16 (by decide) (by decide) st0E16G0 (by decide +kernel) _ (List.mem_cons_self) u hu
      · exact gRk_spec (x_ov0_le sf) u_ctS lwFRok st0E16 (by decide) (by decide) st0E16G0 (by decide +kernel) _ (List.mem_cons_of_mem _ (List.mem_cons_self)) u hu)) (Nat.le_refl _) (Nat.le_refl _) (Nat.le_refl _) (by decide +kernel) (by decide +kernel)) (by decide) (by decide)
theorem st0N17 {xs : Nat → Int32} {n : Nat} {sf : Option Nat} : wGoes x_KT x_tb x_tyl (x_otS xs n sf) lwFR lwGA.length lwGB.length 32 42 44 st0WA st0WB 69 205 62 62 st0_c4 st0o17 :=
  wDp (wWk (wEqvB (wCallB (recv := 0) (pc := 335) (ix := 291) (nx := 3) (args := [.inl (lSy 6), .inl (lSy 32), .inl (lSy 33), .inl (lK 0)]) (rest := [.inl (lSy 32), .inr (some 8)]) (LE := [(0, .inr (some 0)), (1, .inl (lSy 6)), (2, .inl (lSy 5)), (3, .inl (lK 0)), (7, .inl (lAdd (lSy 24) (lK 1)))]) (cE := (lK 0)) (sE := (lK 0)) (wCallA (recv := 31) (pc := 215) (ix := 87) (nx := 3) (args := [.inl (lSy 32), .inl (lSy 33)]) (rest := [.inl (lSy 32), .inr (some 5)]) (LE := [(0, .inr (some 4)), (4, .inl (lAdd (lSy 24) (lK 1)))]) (cE := (lK 0)) (sE := (lK 0)) (wReL (XA := st0X17.2.1) (XB := st0X17.2.2.1) (XC := st0X17.2.2.2.1) (rk := st0X17.2.2.2.2) (rA := st0QA17) (rB := st0QB17) (ct_g0_G _ List.mem_cons_self) st0L17) gq69 gq70 (by decide +kernel) (by decide +kernel) (by decide +kernel) (by decide +kernel) (by decide +kernel)) gq205 gq206 (by decide +kernel) (by decide +kernel) (by decide +kernel) (by decide +kernel) (by decide +kernel)) (by decide +kernel) (by decide +kernel)) (by decide) (by decide) (by decide) (by decide +kernel) (by decide +kernel)) (by decide) (by decide)
theorem st0N18 {xs : Nat → Int32} {n : Nat} {sf : Option Nat} : wGoes x_KT x_tb x_tyl (x_otS xs n sf) lwFR lwGA.length lwGB.length 32 42 44 st0WA st0WB 69 205 62 62 st0_op4 st0o18 :=
  wDp (wWk (wEd_spec (x_ov0_le sf) u_ctS lwFRok st0E18) (Nat.le_refl _) (Nat.le_refl _) (Nat.le_refl _) (by decide +kernel) (by decide +kernel)) (by decide) (by decide)
theorem st0N19 {xs : Nat → Int32} {n : Nat} {sf : Option Nat} : wGoes x_KT x_tb x_tyl (x_otS xs n sf) lwFR lwGA.length lwGB.length 32 42 44 st0WA st0WB 69 205 62 62 st0_c4_x st0o19 :=
  wDp (wWk (wFamE2 (V := [33, 34]) (x_ov0_le sf) u_ctS lwFRok st0E19 (by decide) (by decide) (fun i hi u hu => by
      have hi : i ∈ ([33, 34] : List Nat) := hi
      simp only [List.mem_cons, List.not_mem_nil, or_false] at hi
      rcases hi with rfl | rfl
      · exact gRk_spec (x_ov0_le sf) u_ctS lwFRok st0E19 (by decide) (by decide) st0E19G0 (by decide +kernel) _ (List.mem_cons_self) u hu
      · exact gRk_spec (x_ov0_le sf) u_ctS lwFRok st0E19 (by decide) (by decide) st0E19G0 (by decide +kernel) _ (List.mem_cons_of_mem _ (List.mem_cons_self)) u hu)) (Nat.le_refl _) (Nat.le_refl _) (Nat.le_refl _) (by decide +kernel) (by decide +kernel)) (by decide) (by decide)
theorem st0N20 {xs : Nat → Int32} {n : Nat} {sf : Option Nat} : wGoes x_KT x_tb x_tyl (x_otS xs n sf) lwFR lwGA.length lwGB.length 32 42 44 st0WA st0WB 69 205 62 62 st0_c5 st0o20 :=
  wDp (wWk (wEqvB (wCallB (recv := 0) (pc := 382) (ix := 291) (nx := 3) (args := [.inl (lSy 6), .inl (lSy 32), .inl (lSy 33), .inl (lK 0)]) (rest := [.inl (lSy 32), .inr (some 8)]) (LE := [(0, .inr (some 0)), (1, .inl (lSy 6)), (2, .inl (lSy 5)), (3, .inl (lK 0)), (7, .inl (lAdd (lSy 24) (lK 1)))]) (cE := (lK 0)) (sE := (lK 0)) (wCallA (recv := 31) (pc := 245) (ix := 87) (nx := 3) (args := [.inl (lSy 32), .inl (lSy 33)]) (rest := [.inl (lSy 32), .inr (some 5)]) (LE := [(0, .inr (some 4)), (4, .inl (lAdd (lSy 24) (lK 1)))]) (cE := (lK 0)) (sE := (lK 0)) (wReL (XA := st0X20.2.1) (XB := st0X20.2.2.1) (XC := st0X20.2.2.2.1) (rk := st0X20.2.2.2.2) (rA := st0QA20) (rB := st0QB20) (ct_g0_G _ List.mem_cons_self) st0L20) gq69 gq70 (by decide +kernel) (by decide +kernel) (by decide +kernel) (by decide +kernel) (by decide +kernel)) gq205 gq206 (by decide +kernel) (by decide +kernel) (by decide +kernel) (by decide +kernel) (by decide +kernel)) (by decide +kernel) (by decide +kernel)) (by decide) (by decide) (by decide) (by decide +kernel) (by decide +kernel)) (by decide) (by decide)
theorem st0N21 {xs : Nat → Int32} {n : Nat} {sf : Option Nat} : wGoes x_KT x_tb x_tyl (x_otS xs n sf) lwFR lwGA.length lwGB.length 32 42 44 st0WA st0WB 69 205 62 62 st0_op5 st0o21 :=
  wDp (wWk (wEd_spec (x_ov0_le sf) u_ctS lwFRok st0E21) (Nat.le_refl _) (Nat.le_refl _) (Nat.le_refl _) (by decide +kernel) (by decide +kernel)) (by decide) (by decide)
theorem st0N22 {xs : Nat → Int32} {n : Nat} {sf : Option Nat} : wGoes x_KT x_tb x_tyl (x_otS xs n sf) lwFR lwGA.length lwGB.length 32 42 44 st0WA st0WB 69 205 62 62 st0_c5_x st0o22 :=
  wDp (wWk (wFamE2 (V := [33, 34]) (x_ov0_le sf) u_ctS lwFRok st0E22 (by decide) (by decide) (fun i hi u hu => by
      have hi : i ∈ ([33, 34] : List Nat) := hi
      simp only [List.mem_cons, List.not_mem_nil, or_false] at hi
      rcases hi with rfl | rfl
      · exact gRk_spec (x_ov0_le sf) u_ctS lwFRok st0E22 (by decide) (by decide) st0E22G0 (by decide +kernel) _ (List.mem_cons_self) u hu
      · exact gRk_spec (x_ov0_le sf) u_ctS lwFRok st0E22 (by decide) (by decide) st0E22G0 (by decide +kernel) _ (List.mem_cons_of_mem _ (List.mem_cons_self)) u hu)) (Nat.le_refl _) (Nat.le_refl _) (Nat.le_refl _) (by decide +kernel) (by decide +kernel)) (by decide) (by decide)
theorem st0N23 {xs : Nat → Int32} {n : Nat} {sf : Option Nat} : wGoes x_KT x_tb x_tyl (x_otS xs n sf) lwFR lwGA.length lwGB.length 32 42 44 st0WA st0WB 69 205 62 62 st0_c6 st0o23 :=
  wDp (wWk (wEqvB (wCallB (recv := 0) (pc := 429) (ix := 291) (nx := 3) (args := [.inl (lSy 6), .inl (lSy 32), .inl (lSy 33), .inl (lK 0)]) (rest := [.inl (lSy 32), .inr (some 8)]) (LE := [(0, .inr (some 0)), (1, .inl (lSy 6)), (2, .inl (lSy 5)), (3, .inl (lK 0)), (7, .inl (lAdd (lSy 24) (lK 1)))]) (cE := (lK 0)) (sE := (lK 0)) (wCallA (recv := 31) (pc := 275) (ix := 87) (nx := 3) (args := [.inl (lSy 32), .inl (lSy 33)]) (rest := [.inl (lSy 32), .inr (some 5)]) (LE := [(0, .inr (some 4)), (4, .inl (lAdd (lSy 24) (lK 1)))]) (cE := (lK 0)) (sE := (lK 0)) (wReL (XA := st0X23.2.1) (XB := st0X23.2.2.1) (XC := st0X23.2.2.2.1) (rk := st0X23.2.2.2.2) (rA := st0QA23) (rB := st0QB23) (ct_g0_G _ List.mem_cons_self) st0L23) gq69 gq70 (by decide +kernel) (by decide +kernel) (by decide +kernel) (by decide +kernel) (by decide +kernel)) gq205 gq206 (by decide +kernel) (by decide +kernel) (by decide +kernel) (by decide +kernel) (by decide +kernel)) (by decide +kernel) (by decide +kernel)) (by decide) (by decide) (by decide) (by decide +kernel) (by decide +kernel)) (by decide) (by decide)
theorem st0N24 {xs : Nat → Int32} {n : Nat} {sf : Option Nat} : wGoes x_KT x_tb x_tyl (x_otS xs n sf) lwFR lwGA.length lwGB.length 32 42 44 st0WA st0WB 69 205 62 62 st0_op6 st0o24 :=
  wDp (wWk (wEd_spec (x_ov0_le sf) u_ctS lwFRok st0E24) (Nat.le_refl _) (Nat.le_refl _) (Nat.le_refl _) (by decide +kernel) (by decide +kernel)) (by decide) (by decide)
theorem st0N25 {xs : Nat → Int32} {n : Nat} {sf : Option Nat} : wGoes x_KT x_tb x_tyl (x_otS xs n sf) lwFR lwGA.length lwGB.length 32 42 44 st0WA st0WB 69 205 62 62 st0_c6_x st0o25 :=
  wDp (wWk (wFamE2 (V := [33, 34]) (x_ov0_le sf) u_ctS lwFRok st0E25 (by decide) (by decide) (fun i hi u hu => by
      have hi : i ∈ ([33, 34] : List Nat) := hi
      simp only [List.mem_cons, List.not_mem_nil, or_false] at hi
      rcases hi with rfl | rfl
      · exact gRk_spec (x_ov0_le sf) u_ctS lwFRok st0E25 (by decide) (by decide) st0E25G0 (by decide +kernel) _ (List.mem_cons_self) u hu
      · exact gRk_spec (x_ov0_le sf) u_ctS lwFRok st0E25 (by decide) (by decide) st0E25G0 (by decide +kernel) _ (List.mem_cons_of_mem _ (List.mem_cons_self)) u hu)) (Nat.le_refl _) (Nat.le_refl _) (Nat.le_refl _) (by decide +kernel) (by decide +kernel)) (by decide) (by decide)
def ri_g0_nd : List wE := [ri_in, ri_c, ri_c_x]
theorem ri_g0_G {xs : Nat → Int32} {n : Nat} {sf : Option Nat} : ∀ nd ∈ ri_g0_nd, wGoes x_KT x_tb x_tyl (x_otS xs n sf) lwFR lwGA.length lwGB.length 33 42 44 riWA riWB 72 205 61 61 nd (ri_g0_ex.map (fun x => (false, x))) := wGraph (fun nd hnd => by
  have hnd : nd ∈ ([ri_in, ri_c, ri_c_x] : List wE) := hnd
  simp only [List.mem_cons, List.not_mem_nil, or_false] at hnd
  rcases hnd with rfl | rfl | rfl
  · refine ⟨rio1, riN1, fun o ho => ?_⟩
    have ho : o ∈ ([(true, ri_c), (false, ri_F)] : List (Bool × wE)) := ho
    simp only [List.mem_cons, List.not_mem_nil, or_false] at ho
    rcases ho with rfl | rfl
    · exact Or.inr ⟨rfl, List.mem_cons_of_mem _ (List.mem_cons_self)⟩
    · exact Or.inl (List.mem_cons_of_mem _ (List.mem_cons_self))
  · refine ⟨rio0, riN0, fun o ho => ?_⟩
    have ho : o ∈ ([(true, ri_c_x)] : List (Bool × wE)) := ho
    simp only [List.mem_cons, List.not_mem_nil, or_false] at ho
    rcases ho with rfl
    · exact Or.inr ⟨rfl, List.mem_cons_of_mem _ (List.mem_cons_of_mem _ (List.mem_cons_self))⟩
  · refine ⟨rio2, riN2, fun o ho => ?_⟩
    have ho : o ∈ ([(false, ri_X)] : List (Bool × wE)) := ho
    simp only [List.mem_cons, List.not_mem_nil, or_false] at ho
    rcases ho with rfl
    · exact Or.inl (List.mem_cons_self))
theorem st0N26 {xs : Nat → Int32} {n : Nat} {sf : Option Nat} : wGoes x_KT x_tb x_tyl (x_otS xs n sf) lwFR lwGA.length lwGB.length 32 42 44 st0WA st0WB 69 205 62 62 st0_c1 st0o26 :=
  wDp (wWk (wEqvB (wCallA (recv := 4) (pc := 167) (ix := 91) (nx := 3) (args := [.inl (lSy 32)]) (rest := []) (LE := [(0, .inr (some 4)), (4, .inl (lAdd (lSy 24) (lK 1)))]) (cE := (lK 0)) (sE := (lK 0)) (wReL (XA := st0X26.2.1) (XB := st0X26.2.2.1) (XC := st0X26.2.2.2.1) (rk := st0X26.2.2.2.2) (rA := st0QA26) (rB := st0QB26) (ri_g0_G _ List.mem_cons_self) st0L26) gq69 gq72 (by decide +kernel) (by decide +kernel) (by decide +kernel) (by decide +kernel) (by decide +kernel)) (by decide +kernel) (by decide +kernel)) (by decide) (by decide) (by decide) (by decide +kernel) (by decide +kernel)) (by decide) (by decide)
theorem st0N27 {xs : Nat → Int32} {n : Nat} {sf : Option Nat} : wGoes x_KT x_tb x_tyl (x_otS xs n sf) lwFR lwGA.length lwGB.length 32 42 44 st0WA st0WB 69 205 62 62 st0_op1 st0o27 :=
  wDp (wWk (wEd_spec (x_ov0_le sf) u_ctS lwFRok st0E27) (Nat.le_refl _) (Nat.le_refl _) (Nat.le_refl _) (by decide +kernel) (by decide +kernel)) (by decide) (by decide)
theorem st0N28 {xs : Nat → Int32} {n : Nat} {sf : Option Nat} : wGoes x_KT x_tb x_tyl (x_otS xs n sf) lwFR lwGA.length lwGB.length 32 42 44 st0WA st0WB 69 205 62 62 st0_c1_X st0o28 :=
  wDp (wWk (wEd_spec (x_ov0_le sf) u_ctS lwFRok st0E28) (Nat.le_refl _) (Nat.le_refl _) (Nat.le_refl _) (by decide +kernel) (by decide +kernel)) (by decide) (by decide)
theorem st0N29 {xs : Nat → Int32} {n : Nat} {sf : Option Nat} : wGoes x_KT x_tb x_tyl (x_otS xs n sf) lwFR lwGA.length lwGB.length 32 42 44 st0WA st0WB 69 205 62 62 st0_c1_F st0o29 :=
  wDp (wWk (wEd_spec (x_ov0_le sf) u_ctS lwFRok st0E29) (Nat.le_refl _) (Nat.le_refl _) (Nat.le_refl _) (by decide +kernel) (by decide +kernel)) (by decide) (by decide)
theorem st0N30 {xs : Nat → Int32} {n : Nat} {sf : Option Nat} : wGoes x_KT x_tb x_tyl (x_otS xs n sf) lwFR lwGA.length lwGB.length 32 42 44 st0WA st0WB 69 205 62 62 st0_c7a st0o30 :=
  wDp (wWk (wEqvB (wCallB (recv := 0) (pc := 446) (ix := 288) (nx := 3) (args := [.inl (lSy 6), .inl (lSy 32), .inl (lK 0)]) (rest := []) (LE := [(0, .inr (some 0)), (1, .inl (lSy 6)), (2, .inl (lSy 5)), (3, .inl (lK 0)), (4, .inr (some 43)), (5, .inl (lSc 4 (lSy 24))), (7, .inl (lAdd (lSy 24) (lK 1)))]) (cE := (lK 0)) (sE := (lK 0)) (wCallA (recv := 4) (pc := 284) (ix := 98) (nx := 3) (args := [.inl (lSy 32)]) (rest := []) (LE := [(0, .inr (some 4)), (2, .inl (lSy 33)), (3, .inl (lSy 34)), (4, .inl (lAdd (lSy 24) (lK 1)))]) (cE := (lK 0)) (sE := (lK 0)) (wReL (XA := st0X30.2.1) (XB := st0X30.2.2.1) (XC := st0X30.2.2.2.1) (rk := st0X30.2.2.2.2) (rA := st0QA30) (rB := st0QB30) (mn_g0_G _ List.mem_cons_self) st0L30) gq69 gq76 (by decide +kernel) (by decide +kernel) (by decide +kernel) (by decide +kernel) (by decide +kernel)) gq205 gq209 (by decide +kernel) (by decide +kernel) (by decide +kernel) (by decide +kernel) (by decide +kernel)) (by decide +kernel) (by decide +kernel)) (by decide) (by decide) (by decide) (by decide +kernel) (by decide +kernel)) (by decide) (by decide)
theorem st0N31 {xs : Nat → Int32} {n : Nat} {sf : Option Nat} : wGoes x_KT x_tb x_tyl (x_otS xs n sf) lwFR lwGA.length lwGB.length 32 42 44 st0WA st0WB 69 205 62 62 st0_c7b st0o31 :=
  wDp (wWk (wEqvB (wCallB (recv := 0) (pc := 459) (ix := 288) (nx := 3) (args := [.inl (lSy 6), .inl (lSy 32), .inl (lK 0)]) (rest := [.inl (lSy 35)]) (LE := [(0, .inr (some 0)), (1, .inl (lSy 6)), (2, .inl (lSy 5)), (3, .inl (lK 0)), (4, .inr (some 43)), (5, .inl (lSc 4 (lSy 24))), (7, .inl (lAdd (lSy 24) (lK 1)))]) (cE := (lK 0)) (sE := (lK 0)) (wCallA (recv := 4) (pc := 289) (ix := 98) (nx := 3) (args := [.inl (lSy 32)]) (rest := [.inl (lSy 35)]) (LE := [(0, .inr (some 4)), (2, .inl (lSy 33)), (3, .inl (lSy 34)), (4, .inl (lAdd (lSy 24) (lK 1)))]) (cE := (lK 0)) (sE := (lK 0)) (wReL (XA := st0X31.2.1) (XB := st0X31.2.2.1) (XC := st0X31.2.2.2.1) (rk := st0X31.2.2.2.2) (rA := st0QA31) (rB := st0QB31) (mn_g0_G _ List.mem_cons_self) st0L31) gq69 gq76 (by decide +kernel) (by decide +kernel) (by decide +kernel) (by decide +kernel) (by decide +kernel)) gq205 gq209 (by decide +kernel) (by decide +kernel) (by decide +kernel) (by decide +kernel) (by decide +kernel)) (by decide +kernel) (by decide +kernel)) (by decide) (by decide) (by decide) (by decide +kernel) (by decide +kernel)) (by decide) (by decide)
theorem st0N32 {xs : Nat → Int32} {n : Nat} {sf : Option Nat} : wGoes x_KT x_tb x_tyl (x_otS xs n sf) lwFR lwGA.length lwGB.length 32 42 44 st0WA st0WB 69 205 62 62 st0_op7 st0o32 :=
  wDp (wWk (wEd_spec (x_ov0_le sf) u_ctS lwFRok st0E32) (Nat.le_refl _) (Nat.le_refl _) (Nat.le_refl _) (by decide +kernel) (by decide +kernel)) (by decide) (by decide)
theorem st0N33 {xs : Nat → Int32} {n : Nat} {sf : Option Nat} : wGoes x_KT x_tb x_tyl (x_otS xs n sf) lwFR lwGA.length lwGB.length 32 42 44 st0WA st0WB 69 205 62 62 st0_c7a_x st0o33 :=
  wDp (wWk (wEd_spec (x_ov0_le sf) u_ctS lwFRok st0E33) (Nat.le_refl _) (Nat.le_refl _) (Nat.le_refl _) (by decide +kernel) (by decide +kernel)) (by decide) (by decide)
theorem st0N34 {xs : Nat → Int32} {n : Nat} {sf : Option Nat} : wGoes x_KT x_tb x_tyl (x_otS xs n sf) lwFR lwGA.length lwGB.length 32 42 44 st0WA st0WB 69 205 62 62 st0_c7b_x st0o34 :=
  wDp (wWk (wEd_spec (x_ov0_le sf) u_ctS lwFRok st0E34) (Nat.le_refl _) (Nat.le_refl _) (Nat.le_refl _) (by decide +kernel) (by decide +kernel)) (by decide) (by decide)
theorem st0N35 {xs : Nat → Int32} {n : Nat} {sf : Option Nat} : wGoes x_KT x_tb x_tyl (x_otS xs n sf) lwFR lwGA.length lwGB.length 32 42 44 st0WA st0WB 69 205 62 62 st0_c11a st0o35 :=
  wDp (wWk (wEqvB (wCallB (recv := 0) (pc := 492) (ix := 288) (nx := 3) (args := [.inl (lSy 6), .inl (lSy 32), .inl (lK 0)]) (rest := []) (LE := [(0, .inr (some 0)), (1, .inl (lSy 6)), (2, .inl (lSy 5)), (3, .inl (lK 0)), (4, .inr (some 43)), (5, .inl (lSc 4 (lSy 24))), (7, .inl (lAdd (lSy 24) (lK 1)))]) (cE := (lK 0)) (sE := (lK 0)) (wCallA (recv := 4) (pc := 308) (ix := 98) (nx := 3) (args := [.inl (lSy 32)]) (rest := []) (LE := [(0, .inr (some 4)), (2, .inl (lSy 33)), (3, .inl (lSy 34)), (4, .inl (lAdd (lSy 24) (lK 1)))]) (cE := (lK 0)) (sE := (lK 0)) (wReL (XA := st0X35.2.1) (XB := st0X35.2.2.1) (XC := st0X35.2.2.2.1) (rk := st0X35.2.2.2.2) (rA := st0QA35) (rB := st0QB35) (mn_g0_G _ List.mem_cons_self) st0L35) gq69 gq76 (by decide +kernel) (by decide +kernel) (by decide +kernel) (by decide +kernel) (by decide +kernel)) gq205 gq209 (by decide +kernel) (by decide +kernel) (by decide +kernel) (by decide +kernel) (by decide +kernel)) (by decide +kernel) (by decide +kernel)) (by decide) (by decide) (by decide) (by decide +kernel) (by decide +kernel)) (by decide) (by decide)
theorem st0N36 {xs : Nat → Int32} {n : Nat} {sf : Option Nat} : wGoes x_KT x_tb x_tyl (x_otS xs n sf) lwFR lwGA.length lwGB.length 32 42 44 st0WA st0WB 69 205 62 62 st0_c11b st0o36 :=
  wDp (wWk (wEqvB (wCallB (recv := 0) (pc := 505) (ix := 288) (nx := 3) (args := [.inl (lSy 6), .inl (lSy 32), .inl (lK 0)]) (rest := [.inl (lSy 35)]) (LE := [(0, .inr (some 0)), (1, .inl (lSy 6)), (2, .inl (lSy 5)), (3, .inl (lK 0)), (4, .inr (some 43)), (5, .inl (lSc 4 (lSy 24))), (7, .inl (lAdd (lSy 24) (lK 1)))]) (cE := (lK 0)) (sE := (lK 0)) (wCallA (recv := 4) (pc := 313) (ix := 98) (nx := 3) (args := [.inl (lSy 32)]) (rest := [.inl (lSy 35)]) (LE := [(0, .inr (some 4)), (2, .inl (lSy 33)), (3, .inl (lSy 34)), (4, .inl (lAdd (lSy 24) (lK 1)))]) (cE := (lK 0)) (sE := (lK 0)) (wReL (XA := st0X36.2.1) (XB := st0X36.2.2.1) (XC := st0X36.2.2.2.1) (rk := st0X36.2.2.2.2) (rA := st0QA36) (rB := st0QB36) (mn_g0_G _ List.mem_cons_self) st0L36) gq69 gq76 (by decide +kernel) (by decide +kernel) (by decide +kernel) (by decide +kernel) (by decide +kernel)) gq205 gq209 (by decide +kernel) (by decide +kernel) (by decide +kernel) (by decide +kernel) (by decide +kernel)) (by decide +kernel) (by decide +kernel)) (by decide) (by decide) (by decide) (by decide +kernel) (by decide +kernel)) (by decide) (by decide)
theorem st0N37 {xs : Nat → Int32} {n : Nat} {sf : Option Nat} : wGoes x_KT x_tb x_tyl (x_otS xs n sf) lwFR lwGA.length lwGB.length 32 42 44 st0WA st0WB 69 205 62 62 st0_op11 st0o37 :=
  wDp (wWk (wEd_spec (x_ov0_le sf) u_ctS lwFRok st0E37) (Nat.le_refl _) (Nat.le_refl _) (Nat.le_refl _) (by decide +kernel) (by decide +kernel)) (by decide) (by decide)
theorem st0N38 {xs : Nat → Int32} {n : Nat} {sf : Option Nat} : wGoes x_KT x_tb x_tyl (x_otS xs n sf) lwFR lwGA.length lwGB.length 32 42 44 st0WA st0WB 69 205 62 62 st0_c11a_x st0o38 :=
  wDp (wWk (wEd_spec (x_ov0_le sf) u_ctS lwFRok st0E38) (Nat.le_refl _) (Nat.le_refl _) (Nat.le_refl _) (by decide +kernel) (by decide +kernel)) (by decide) (by decide)
theorem st0N39 {xs : Nat → Int32} {n : Nat} {sf : Option Nat} : wGoes x_KT x_tb x_tyl (x_otS xs n sf) lwFR lwGA.length lwGB.length 32 42 44 st0WA st0WB 69 205 62 62 st0_c11b_x st0o39 :=
  wDp (wWk (wEd_spec (x_ov0_le sf) u_ctS lwFRok st0E39) (Nat.le_refl _) (Nat.le_refl _) (Nat.le_refl _) (by decide +kernel) (by decide +kernel)) (by decide) (by decide)
def le_g0_nd : List wE := [le_in, le_c, le_c_x]
theorem le_g0_G {xs : Nat → Int32} {n : Nat} {sf : Option Nat} : ∀ nd ∈ le_g0_nd, wGoes x_KT x_tb x_tyl (x_otS xs n sf) lwFR lwGA.length lwGB.length 36 42 44 leWA leWB 69 210 61 61 nd (le_g0_ex.map (fun x => (false, x))) := wGraph (fun nd hnd => by
  have hnd : nd ∈ ([le_in, le_c, le_c_x] : List wE) := hnd
  simp only [List.mem_cons, List.not_mem_nil, or_false] at hnd
  rcases hnd with rfl | rfl | rfl
  · refine ⟨leo1, leN1, fun o ho => ?_⟩
    have ho : o ∈ ([(true, le_c)] : List (Bool × wE)) := ho
    simp only [List.mem_cons, List.not_mem_nil, or_false] at ho
    rcases ho with rfl
    · exact Or.inr ⟨rfl, List.mem_cons_of_mem _ (List.mem_cons_self)⟩
  · refine ⟨leo0, leN0, fun o ho => ?_⟩
    have ho : o ∈ ([(true, le_c_x)] : List (Bool × wE)) := ho
    simp only [List.mem_cons, List.not_mem_nil, or_false] at ho
    rcases ho with rfl
    · exact Or.inr ⟨rfl, List.mem_cons_of_mem _ (List.mem_cons_of_mem _ (List.mem_cons_self))⟩
  · refine ⟨leo2, leN2, fun o ho => ?_⟩
    have ho : o ∈ ([(false, le_x)] : List (Bool × wE)) := ho
    simp only [List.mem_cons, List.not_mem_nil, or_false] at ho
    rcases ho with rfl
    · exact Or.inl (List.mem_cons_self))
theorem st0N40 {xs : Nat → Int32} {n : Nat} {sf : Option Nat} : wGoes x_KT x_tb x_tyl (x_otS xs n sf) lwFR lwGA.length lwGB.length 32 42 44 st0WA st0WB 69 205 62 62 st0_c8 st0o40 :=
  wDp (wWk (wEqvB (wCallB (recv := 0) (pc := 538) (ix := 301) (nx := 3) (args := [.inl (lSy 6), .inl (lSy 32), .inl (lK 0)]) (rest := []) (LE := [(0, .inr (some 0)), (1, .inl (lSy 6)), (2, .inl (lSy 5)), (3, .inl (lK 0)), (4, .inr (some 43)), (5, .inl (lSc 4 (lSy 24))), (7, .inl (lAdd (lSy 24) (lK 1)))]) (cE := (lK 0)) (sE := (lK 0)) (wReL (XA := st0X40.2.1) (XB := st0X40.2.2.1) (XC := st0X40.2.2.2.1) (rk := st0X40.2.2.2.2) (rA := st0QA40) (rB := st0QB40) (le_g0_G _ List.mem_cons_self) st0L40) gq205 gq210 (by decide +kernel) (by decide +kernel) (by decide +kernel) (by decide +kernel) (by decide +kernel)) (by decide +kernel) (by decide +kernel)) (by decide) (by decide) (by decide) (by decide +kernel) (by decide +kernel)) (by decide) (by decide)
theorem st0N41 {xs : Nat → Int32} {n : Nat} {sf : Option Nat} : wGoes x_KT x_tb x_tyl (x_otS xs n sf) lwFR lwGA.length lwGB.length 32 42 44 st0WA st0WB 69 205 62 62 st0_op8 st0o41 :=
  wDp (wWk (wEd_spec (x_ov0_le sf) u_ctS lwFRok st0E41) (Nat.le_refl _) (Nat.le_refl _) (Nat.le_refl _) (by decide +kernel) (by decide +kernel)) (by decide) (by decide)
theorem st0N42 {xs : Nat → Int32} {n : Nat} {sf : Option Nat} : wGoes x_KT x_tb x_tyl (x_otS xs n sf) lwFR lwGA.length lwGB.length 32 42 44 st0WA st0WB 69 205 62 62 st0_c8_x st0o42 :=
  wDp (wWk (wEd_spec (x_ov0_le sf) u_ctS lwFRok st0E42) (Nat.le_refl _) (Nat.le_refl _) (Nat.le_refl _) (by decide +kernel) (by decide +kernel)) (by decide) (by decide)
theorem st1N0 {xs : Nat → Int32} {n : Nat} {sf : Option Nat} : wGoes x_KT x_tb x_tyl (x_otS xs n sf) lwFR lwGA.length lwGB.length 34 42 44 st1WA st1WB 69 205 60 60 st1_gen st1o0 :=
  wDp (wWk (wEd_spec (x_ov0_le sf) u_ctS lwFRok st1E0) (Nat.le_refl _) (Nat.le_refl _) (Nat.le_refl _) (by decide +kernel) (by decide +kernel)) (by decide) (by decide)
theorem st1N1 {xs : Nat → Int32} {n : Nat} {sf : Option Nat} : wGoes x_KT x_tb x_tyl (x_otS xs n sf) lwFR lwGA.length lwGB.length 34 42 44 st1WA st1WB 69 205 60 60 st1_lo st1o1 :=
  wDp (wWk (wEd_spec (x_ov0_le sf) u_ctS lwFRok st1E1) (Nat.le_refl _) (Nat.le_refl _) (Nat.le_refl _) (by decide +kernel) (by decide +kernel)) (by decide) (by decide)
theorem st1N2 {xs : Nat → Int32} {n : Nat} {sf : Option Nat} : wGoes x_KT x_tb x_tyl (x_otS xs n sf) lwFR lwGA.length lwGB.length 34 42 44 st1WA st1WB 69 205 60 60 st1_hi st1o2 :=
  wDp (wWk (wEd_spec (x_ov0_le sf) u_ctS lwFRok st1E2) (Nat.le_refl _) (Nat.le_refl _) (Nat.le_refl _) (by decide +kernel) (by decide +kernel)) (by decide) (by decide)
theorem st1N3 {xs : Nat → Int32} {n : Nat} {sf : Option Nat} : wGoes x_KT x_tb x_tyl (x_otS xs n sf) lwFR lwGA.length lwGB.length 34 42 44 st1WA st1WB 69 205 60 60 st1_ou st1o3 :=
  wDp (wWk (wEd_spec (x_ov0_le sf) u_ctS lwFRok st1E3) (Nat.le_refl _) (Nat.le_refl _) (Nat.le_refl _) (by decide +kernel) (by decide +kernel)) (by decide) (by decide)
theorem st1N4 {xs : Nat → Int32} {n : Nat} {sf : Option Nat} : wGoes x_KT x_tb x_tyl (x_otS xs n sf) lwFR lwGA.length lwGB.length 34 42 44 st1WA st1WB 69 205 60 60 st1_M st1o4 :=
  wDp (wWk (wEd_spec (x_ov0_le sf) u_ctS lwFRok st1E4) (Nat.le_refl _) (Nat.le_refl _) (Nat.le_refl _) (by decide +kernel) (by decide +kernel)) (by decide) (by decide)
theorem st1N5 {xs : Nat → Int32} {n : Nat} {sf : Option Nat} : wGoes x_KT x_tb x_tyl (x_otS xs n sf) lwFR lwGA.length lwGB.length 34 42 44 st1WA st1WB 69 205 60 60 st1_op2 st1o5 :=
  wDp (wWk (wEd_spec (x_ov0_le sf) u_ctS lwFRok st1E5) (Nat.le_refl _) (Nat.le_refl _) (Nat.le_refl _) (by decide +kernel) (by decide +kernel)) (by decide) (by decide)
theorem st1N6 {xs : Nat → Int32} {n : Nat} {sf : Option Nat} : wGoes x_KT x_tb x_tyl (x_otS xs n sf) lwFR lwGA.length lwGB.length 34 42 44 st1WA st1WB 69 205 60 60 st1_L2 st1o6 :=
  wDp (wWk (wFamE2 (V := [38, 39, 40, 41, 42, 35, 36]) (x_ov0_le sf) u_ctS lwFRok st1E6 (by decide) (by decide) (fun i hi u hu => by
      have hi : i ∈ ([38, 39, 40, 41, 42, 35, 36] : List Nat) := hi
      simp only [List.mem_cons, List.not_mem_nil, or_false] at hi
      rcases hi with rfl | rfl | rfl | rfl | rfl | rfl | rfl
      · cases hu
        exact wRkE_spec (x_ov0_le sf) u_ctS lwFRok st1E6R38
      · cases hu
        exact wRkE_spec (x_ov0_le sf) u_ctS lwFRok st1E6R39
      · cases hu
        exact wRkE_spec (x_ov0_le sf) u_ctS lwFRok st1E6R40
      · cases hu
        exact wRkE_spec (x_ov0_le sf) u_ctS lwFRok st1E6R41
      · cases hu
        exact wRkE_spec (x_ov0_le sf) u_ctS lwFRok st1E6R42
      · cases hu
        exact wRkE_spec (x_ov0_le sf) u_ctS lwFRok st1E6R35
      · cases hu
        exact wRkE_spec (x_ov0_le sf) u_ctS lwFRok st1E6R36)) (Nat.le_refl _) (Nat.le_refl _) (Nat.le_refl _) (by decide +kernel) (by decide +kernel)) (by decide) (by decide)
theorem st1N7 {xs : Nat → Int32} {n : Nat} {sf : Option Nat} : wGoes x_KT x_tb x_tyl (x_otS xs n sf) lwFR lwGA.length lwGB.length 34 42 44 st1WA st1WB 69 205 60 60 st1_M22 st1o7 :=
  wDp (wWk (wEd_spec (x_ov0_le sf) u_ctS lwFRok st1E7) (Nat.le_refl _) (Nat.le_refl _) (Nat.le_refl _) (by decide +kernel) (by decide +kernel)) (by decide) (by decide)
theorem st1N8 {xs : Nat → Int32} {n : Nat} {sf : Option Nat} : wGoes x_KT x_tb x_tyl (x_otS xs n sf) lwFR lwGA.length lwGB.length 34 42 44 st1WA st1WB 69 205 60 60 st1_F2 st1o8 :=
  wDp (wWk (wEd_spec (x_ov0_le sf) u_ctS lwFRok st1E8) (Nat.le_refl _) (Nat.le_refl _) (Nat.le_refl _) (by decide +kernel) (by decide +kernel)) (by decide) (by decide)
theorem st1N9 {xs : Nat → Int32} {n : Nat} {sf : Option Nat} : wGoes x_KT x_tb x_tyl (x_otS xs n sf) lwFR lwGA.length lwGB.length 34 42 44 st1WA st1WB 69 205 60 60 st1_op2i st1o9 :=
  wDp (wWk (wEd_spec (x_ov0_le sf) u_ctS lwFRok st1E9) (Nat.le_refl _) (Nat.le_refl _) (Nat.le_refl _) (by decide +kernel) (by decide +kernel)) (by decide) (by decide)
theorem st1N10 {xs : Nat → Int32} {n : Nat} {sf : Option Nat} : wGoes x_KT x_tb x_tyl (x_otS xs n sf) lwFR lwGA.length lwGB.length 34 42 44 st1WA st1WB 69 205 60 60 st1_L2i st1o10 :=
  wDp (wWk (wFamE2 (V := [38, 39, 40, 41, 42, 35, 36]) (x_ov0_le sf) u_ctS lwFRok st1E10 (by decide) (by decide) (fun i hi u hu => by
      have hi : i ∈ ([38, 39, 40, 41, 42, 35, 36] : List Nat) := hi
      simp only [List.mem_cons, List.not_mem_nil, or_false] at hi
      rcases hi with rfl | rfl | rfl | rfl | rfl | rfl | rfl
      · cases hu
        exact wRkE_spec (x_ov0_le sf) u_ctS lwFRok st1E10R38
      · cases hu
        exact wRkE_spec (x_ov0_le sf) u_ctS lwFRok st1E10R39
      · cases hu
        exact wRkE_spec (x_ov0_le sf) u_ctS lwFRok st1E10R40
      · cases hu
        exact wRkE_spec (x_ov0_le sf) u_ctS lwFRok st1E10R41
      · cases hu
        exact wRkE_spec (x_ov0_le sf) u_ctS lwFRok st1E10R42
      · cases hu
        exact wRkE_spec (x_ov0_le sf) u_ctS lwFRok st1E10R35
      · cases hu
        exact wRkE_spec (x_ov0_le sf) u_ctS lwFRok st1E10R36)) (Nat.le_refl _) (Nat.le_refl _) (Nat.le_refl _) (by decide +kernel) (by decide +kernel)) (by decide) (by decide)
theorem st1N11 {xs : Nat → Int32} {n : Nat} {sf : Option Nat} : wGoes x_KT x_tb x_tyl (x_otS xs n sf) lwFR lwGA.length lwGB.length 34 42 44 st1WA st1WB 69 205 60 60 st1_M22i st1o11 :=
  wDp (wWk (wEd_spec (x_ov0_le sf) u_ctS lwFRok st1E11) (Nat.le_refl _) (Nat.le_refl _) (Nat.le_refl _) (by decide +kernel) (by decide +kernel)) (by decide) (by decide)
theorem st1N12 {xs : Nat → Int32} {n : Nat} {sf : Option Nat} : wGoes x_KT x_tb x_tyl (x_otS xs n sf) lwFR lwGA.length lwGB.length 34 42 44 st1WA st1WB 69 205 60 60 st1_F2i st1o12 :=
  wDp (wWk (wEd_spec (x_ov0_le sf) u_ctS lwFRok st1E12) (Nat.le_refl _) (Nat.le_refl _) (Nat.le_refl _) (by decide +kernel) (by decide +kernel)) (by decide) (by decide)
theorem st1N13 {xs : Nat → Int32} {n : Nat} {sf : Option Nat} : wGoes x_KT x_tb x_tyl (x_otS xs n sf) lwFR lwGA.length lwGB.length 34 42 44 st1WA st1WB 69 205 60 60 st1_op9 st1o13 :=
  wDp (wWk (wEd_spec (x_ov0_le sf) u_ctS lwFRok st1E13) (Nat.le_refl _) (Nat.le_refl _) (Nat.le_refl _) (by decide +kernel) (by decide +kernel)) (by decide) (by decide)
theorem st1N14 {xs : Nat → Int32} {n : Nat} {sf : Option Nat} : wGoes x_KT x_tb x_tyl (x_otS xs n sf) lwFR lwGA.length lwGB.length 34 42 44 st1WA st1WB 69 205 60 60 st1_op10 st1o14 :=
  wDp (wWk (wEd_spec (x_ov0_le sf) u_ctS lwFRok st1E14) (Nat.le_refl _) (Nat.le_refl _) (Nat.le_refl _) (by decide +kernel) (by decide +kernel)) (by decide) (by decide)
theorem st1N15 {xs : Nat → Int32} {n : Nat} {sf : Option Nat} : wGoes x_KT x_tb x_tyl (x_otS xs n sf) lwFR lwGA.length lwGB.length 34 42 44 st1WA st1WB 69 205 60 60 st1_op0 st1o15 :=
  wDp (wWk (wEd_spec (x_ov0_le sf) u_ctS lwFRok st1E15) (Nat.le_refl _) (Nat.le_refl _) (Nat.le_refl _) (by decide +kernel) (by decide +kernel)) (by decide) (by decide)
theorem st1N16 {xs : Nat → Int32} {n : Nat} {sf : Option Nat} : wGoes x_KT x_tb x_tyl (x_otS xs n sf) lwFR lwGA.length lwGB.length 34 42 44 st1WA st1WB 69 205 60 60 st1_L0 st1o16 :=
  wDp (wWk (wFamE2 (V := [34, 33]) (x_ov0_le sf) u_ctS lwFRok st1E16 (by decide) (by decide) (fun i hi u hu => by
      have hi : i ∈ ([34, 33] : List Nat) := hi
      simp only [List.mem_cons, List.not_mem_nil, or_false] at hi
      rcases hi with rfl | rfl
      · exact gRk_spec (x_ov0_le sf) u_ctS lwFRok st1E16 (by decide) (by decide) st1E16G0 (by decide +kernel) _ (List.mem_cons_self) u hu
      · exact gRk_spec (x_ov0_le sf) u_ctS lwFRok st1E16 (by decide) (by decide) st1E16G0 (by decide +kernel) _ (List.mem_cons_of_mem _ (List.mem_cons_self)) u hu)) (Nat.le_refl _) (Nat.le_refl _) (Nat.le_refl _) (by decide +kernel) (by decide +kernel)) (by decide) (by decide)
theorem st1N17 {xs : Nat → Int32} {n : Nat} {sf : Option Nat} : wGoes x_KT x_tb x_tyl (x_otS xs n sf) lwFR lwGA.length lwGB.length 34 42 44 st1WA st1WB 69 205 60 60 st1_op1 st1o17 :=
  wDp (wWk (wEd_spec (x_ov0_le sf) u_ctS lwFRok st1E17) (Nat.le_refl _) (Nat.le_refl _) (Nat.le_refl _) (by decide +kernel) (by decide +kernel)) (by decide) (by decide)
theorem st1N18 {xs : Nat → Int32} {n : Nat} {sf : Option Nat} : wGoes x_KT x_tb x_tyl (x_otS xs n sf) lwFR lwGA.length lwGB.length 34 42 44 st1WA st1WB 69 205 60 60 st1_F1 st1o18 :=
  wDp (wWk (wEd_spec (x_ov0_le sf) u_ctS lwFRok st1E18) (Nat.le_refl _) (Nat.le_refl _) (Nat.le_refl _) (by decide +kernel) (by decide +kernel)) (by decide) (by decide)
theorem st1N19 {xs : Nat → Int32} {n : Nat} {sf : Option Nat} : wGoes x_KT x_tb x_tyl (x_otS xs n sf) lwFR lwGA.length lwGB.length 34 42 44 st1WA st1WB 69 205 60 60 st1_M1 st1o19 :=
  wDp (wWk (wEd_spec (x_ov0_le sf) u_ctS lwFRok st1E19) (Nat.le_refl _) (Nat.le_refl _) (Nat.le_refl _) (by decide +kernel) (by decide +kernel)) (by decide) (by decide)
theorem st1N20 {xs : Nat → Int32} {n : Nat} {sf : Option Nat} : wGoes x_KT x_tb x_tyl (x_otS xs n sf) lwFR lwGA.length lwGB.length 34 42 44 st1WA st1WB 69 205 60 60 st1_L1 st1o20 :=
  wDp (wWk (wFamE2 (V := [34, 33]) (x_ov0_le sf) u_ctS lwFRok st1E20 (by decide) (by decide) (fun i hi u hu => by
      have hi : i ∈ ([34, 33] : List Nat) := hi
      simp only [List.mem_cons, List.not_mem_nil, or_false] at hi
      rcases hi with rfl | rfl
      · exact gRk_spec (x_ov0_le sf) u_ctS lwFRok st1E20 (by decide) (by decide) st1E20G0 (by decide +kernel) _ (List.mem_cons_self) u hu
      · exact gRk_spec (x_ov0_le sf) u_ctS lwFRok st1E20 (by decide) (by decide) st1E20G0 (by decide +kernel) _ (List.mem_cons_of_mem _ (List.mem_cons_self)) u hu)) (Nat.le_refl _) (Nat.le_refl _) (Nat.le_refl _) (by decide +kernel) (by decide +kernel)) (by decide) (by decide)
theorem st1N21 {xs : Nat → Int32} {n : Nat} {sf : Option Nat} : wGoes x_KT x_tb x_tyl (x_otS xs n sf) lwFR lwGA.length lwGB.length 34 42 44 st1WA st1WB 69 205 60 60 st1_op3 st1o21 :=
  wDp (wWk (wEd_spec (x_ov0_le sf) u_ctS lwFRok st1E21) (Nat.le_refl _) (Nat.le_refl _) (Nat.le_refl _) (by decide +kernel) (by decide +kernel)) (by decide) (by decide)
theorem st1N22 {xs : Nat → Int32} {n : Nat} {sf : Option Nat} : wGoes x_KT x_tb x_tyl (x_otS xs n sf) lwFR lwGA.length lwGB.length 34 42 44 st1WA st1WB 69 205 60 60 st1_L3 st1o22 :=
  wDp (wWk (wFamE2 (V := [34, 33]) (x_ov0_le sf) u_ctS lwFRok st1E22 (by decide) (by decide) (fun i hi u hu => by
      have hi : i ∈ ([34, 33] : List Nat) := hi
      simp only [List.mem_cons, List.not_mem_nil, or_false] at hi
      rcases hi with rfl | rfl
      · exact gRk_spec (x_ov0_le sf) u_ctS lwFRok st1E22 (by decide) (by decide) st1E22G0 (by decide +kernel) _ (List.mem_cons_self) u hu
      · exact gRk_spec (x_ov0_le sf) u_ctS lwFRok st1E22 (by decide) (by decide) st1E22G0 (by decide +kernel) _ (List.mem_cons_of_mem _ (List.mem_cons_self)) u hu)) (Nat.le_refl _) (Nat.le_refl _) (Nat.le_refl _) (by decide +kernel) (by decide +kernel)) (by decide) (by decide)
theorem st1N23 {xs : Nat → Int32} {n : Nat} {sf : Option Nat} : wGoes x_KT x_tb x_tyl (x_otS xs n sf) lwFR lwGA.length lwGB.length 34 42 44 st1WA st1WB 69 205 60 60 st1_op4 st1o23 :=
  wDp (wWk (wEd_spec (x_ov0_le sf) u_ctS lwFRok st1E23) (Nat.le_refl _) (Nat.le_refl _) (Nat.le_refl _) (by decide +kernel) (by decide +kernel)) (by decide) (by decide)
theorem st1N24 {xs : Nat → Int32} {n : Nat} {sf : Option Nat} : wGoes x_KT x_tb x_tyl (x_otS xs n sf) lwFR lwGA.length lwGB.length 34 42 44 st1WA st1WB 69 205 60 60 st1_L4 st1o24 :=
  wDp (wWk (wFamE2 (V := [34, 33]) (x_ov0_le sf) u_ctS lwFRok st1E24 (by decide) (by decide) (fun i hi u hu => by
      have hi : i ∈ ([34, 33] : List Nat) := hi
      simp only [List.mem_cons, List.not_mem_nil, or_false] at hi
      rcases hi with rfl | rfl
      · exact gRk_spec (x_ov0_le sf) u_ctS lwFRok st1E24 (by decide) (by decide) st1E24G0 (by decide +kernel) _ (List.mem_cons_self) u hu
      · exact gRk_spec (x_ov0_le sf) u_ctS lwFRok st1E24 (by decide) (by decide) st1E24G0 (by decide +kernel) _ (List.mem_cons_of_mem _ (List.mem_cons_self)) u hu)) (Nat.le_refl _) (Nat.le_refl _) (Nat.le_refl _) (by decide +kernel) (by decide +kernel)) (by decide) (by decide)
theorem st1N25 {xs : Nat → Int32} {n : Nat} {sf : Option Nat} : wGoes x_KT x_tb x_tyl (x_otS xs n sf) lwFR lwGA.length lwGB.length 34 42 44 st1WA st1WB 69 205 60 60 st1_op5 st1o25 :=
  wDp (wWk (wEd_spec (x_ov0_le sf) u_ctS lwFRok st1E25) (Nat.le_refl _) (Nat.le_refl _) (Nat.le_refl _) (by decide +kernel) (by decide +kernel)) (by decide) (by decide)
theorem st1N26 {xs : Nat → Int32} {n : Nat} {sf : Option Nat} : wGoes x_KT x_tb x_tyl (x_otS xs n sf) lwFR lwGA.length lwGB.length 34 42 44 st1WA st1WB 69 205 60 60 st1_L5 st1o26 :=
  wDp (wWk (wFamE2 (V := [34, 33]) (x_ov0_le sf) u_ctS lwFRok st1E26 (by decide) (by decide) (fun i hi u hu => by
      have hi : i ∈ ([34, 33] : List Nat) := hi
      simp only [List.mem_cons, List.not_mem_nil, or_false] at hi
      rcases hi with rfl | rfl
      · exact gRk_spec (x_ov0_le sf) u_ctS lwFRok st1E26 (by decide) (by decide) st1E26G0 (by decide +kernel) _ (List.mem_cons_self) u hu
      · exact gRk_spec (x_ov0_le sf) u_ctS lwFRok st1E26 (by decide) (by decide) st1E26G0 (by decide +kernel) _ (List.mem_cons_of_mem _ (List.mem_cons_self)) u hu)) (Nat.le_refl _) (Nat.le_refl _) (Nat.le_refl _) (by decide +kernel) (by decide +kernel)) (by decide) (by decide)
theorem st1N27 {xs : Nat → Int32} {n : Nat} {sf : Option Nat} : wGoes x_KT x_tb x_tyl (x_otS xs n sf) lwFR lwGA.length lwGB.length 34 42 44 st1WA st1WB 69 205 60 60 st1_op6 st1o27 :=
  wDp (wWk (wEd_spec (x_ov0_le sf) u_ctS lwFRok st1E27) (Nat.le_refl _) (Nat.le_refl _) (Nat.le_refl _) (by decide +kernel) (by decide +kernel)) (by decide) (by decide)
theorem st1N28 {xs : Nat → Int32} {n : Nat} {sf : Option Nat} : wGoes x_KT x_tb x_tyl (x_otS xs n sf) lwFR lwGA.length lwGB.length 34 42 44 st1WA st1WB 69 205 60 60 st1_L6 st1o28 :=
  wDp (wWk (wFamE2 (V := [34, 33]) (x_ov0_le sf) u_ctS lwFRok st1E28 (by decide) (by decide) (fun i hi u hu => by
      have hi : i ∈ ([34, 33] : List Nat) := hi
      simp only [List.mem_cons, List.not_mem_nil, or_false] at hi
      rcases hi with rfl | rfl
      · exact gRk_spec (x_ov0_le sf) u_ctS lwFRok st1E28 (by decide) (by decide) st1E28G0 (by decide +kernel) _ (List.mem_cons_self) u hu
      · exact gRk_spec (x_ov0_le sf) u_ctS lwFRok st1E28 (by decide) (by decide) st1E28G0 (by decide +kernel) _ (List.mem_cons_of_mem _ (List.mem_cons_self)) u hu)) (Nat.le_refl _) (Nat.le_refl _) (Nat.le_refl _) (by decide +kernel) (by decide +kernel)) (by decide) (by decide)
theorem st1N29 {xs : Nat → Int32} {n : Nat} {sf : Option Nat} : wGoes x_KT x_tb x_tyl (x_otS xs n sf) lwFR lwGA.length lwGB.length 34 42 44 st1WA st1WB 69 205 60 60 st1_op7 st1o29 :=
  wDp (wWk (wEd_spec (x_ov0_le sf) u_ctS lwFRok st1E29) (Nat.le_refl _) (Nat.le_refl _) (Nat.le_refl _) (by decide +kernel) (by decide +kernel)) (by decide) (by decide)
theorem st1N30 {xs : Nat → Int32} {n : Nat} {sf : Option Nat} : wGoes x_KT x_tb x_tyl (x_otS xs n sf) lwFR lwGA.length lwGB.length 34 42 44 st1WA st1WB 69 205 60 60 st1_op8 st1o30 :=
  wDp (wWk (wEd_spec (x_ov0_le sf) u_ctS lwFRok st1E30) (Nat.le_refl _) (Nat.le_refl _) (Nat.le_refl _) (by decide +kernel) (by decide +kernel)) (by decide) (by decide)
theorem st1N31 {xs : Nat → Int32} {n : Nat} {sf : Option Nat} : wGoes x_KT x_tb x_tyl (x_otS xs n sf) lwFR lwGA.length lwGB.length 34 42 44 st1WA st1WB 69 205 60 60 st1_op11 st1o31 :=
  wDp (wWk (wEd_spec (x_ov0_le sf) u_ctS lwFRok st1E31) (Nat.le_refl _) (Nat.le_refl _) (Nat.le_refl _) (by decide +kernel) (by decide +kernel)) (by decide) (by decide)
set_option maxRecDepth 1000000 in
theorem gq64 : tMth x_tb 64 = some xm64 := rfl
set_option maxRecDepth 1000000 in
theorem gq203 : tMth x_tb 203 = some xm203 := rfl
theorem mrN0 {xs : Nat → Int32} {n : Nat} {sf : Option Nat} : wGoes x_KT x_tb x_tyl (x_otS xs n sf) lwFR lwGA.length lwGB.length 11 26 43 mrWA mrWB 64 203 63 63 mr_in mro0 :=
  wDp (wWk (wFamE2 (V := [40, 41, 42, 35, 36]) (x_ov0_le sf) u_ctS lwFRok mrE0 (by decide) (by decide) (fun i hi u hu => by
      have hi : i ∈ ([40, 41, 42, 35, 36] : List Nat) := hi
      simp only [List.mem_cons, List.not_mem_nil, or_false] at hi
      rcases hi with rfl | rfl | rfl | rfl | rfl
      · exact gRk_spec (x_ov0_le sf) u_ctS lwFRok mrE0 (by decide) (by decide) mrE0G0 (by decide +kernel) _ (List.mem_cons_self) u hu
      · exact gRk_spec (x_ov0_le sf) u_ctS lwFRok mrE0 (by decide) (by decide) mrE0G1 (by decide +kernel) _ (List.mem_cons_self) u hu
      · exact gRk_spec (x_ov0_le sf) u_ctS lwFRok mrE0 (by decide) (by decide) mrE0G2 (by decide +kernel) _ (List.mem_cons_self) u hu
      · exact gRk_spec (x_ov0_le sf) u_ctS lwFRok mrE0 (by decide) (by decide) mrE0G3 (by decide +kernel) _ (List.mem_cons_self) u hu
      · exact gRk_spec (x_ov0_le sf) u_ctS lwFRok mrE0 (by decide) (by decide) mrE0G4 (by decide +kernel) _ (List.mem_cons_self) u hu)) (Nat.le_refl _) (Nat.le_refl _) (Nat.le_refl _) (by decide +kernel) (by decide +kernel)) (by decide) (by decide)
theorem mrN1 {xs : Nat → Int32} {n : Nat} {sf : Option Nat} : wGoes x_KT x_tb x_tyl (x_otS xs n sf) lwFR lwGA.length lwGB.length 11 26 43 mrWA mrWB 64 203 63 63 mr_EB mro1 :=
  wDp (wWk (wFamE2 (V := [33, 34, 38, 39]) (x_ov0_le sf) u_ctS lwFRok mrE1 (by decide) (by decide) (fun i hi u hu => by
      have hi : i ∈ ([33, 34, 38, 39] : List Nat) := hi
      simp only [List.mem_cons, List.not_mem_nil, or_false] at hi
      rcases hi with rfl | rfl | rfl | rfl
      · exact gRk_spec (x_ov0_le sf) u_ctS lwFRok mrE1 (by decide) (by decide) mrE1G0 (by decide +kernel) _ (List.mem_cons_self) u hu
      · exact gRk_spec (x_ov0_le sf) u_ctS lwFRok mrE1 (by decide) (by decide) mrE1G0 (by decide +kernel) _ (List.mem_cons_of_mem _ (List.mem_cons_self)) u hu
      · exact gRk_spec (x_ov0_le sf) u_ctS lwFRok mrE1 (by decide) (by decide) mrE1G1 (by decide +kernel) _ (List.mem_cons_self) u hu
      · exact gRk_spec (x_ov0_le sf) u_ctS lwFRok mrE1 (by decide) (by decide) mrE1G1 (by decide +kernel) _ (List.mem_cons_of_mem _ (List.mem_cons_self)) u hu)) (Nat.le_refl _) (Nat.le_refl _) (Nat.le_refl _) (by decide +kernel) (by decide +kernel)) (by decide) (by decide)
def st0_g0_nd : List wE := [st0_ou, st0_op2, st0_L2, st0_M22, st0_F2]
theorem st0_g0_G {xs : Nat → Int32} {n : Nat} {sf : Option Nat} : ∀ nd ∈ st0_g0_nd, wGoes x_KT x_tb x_tyl (x_otS xs n sf) lwFR lwGA.length lwGB.length 32 42 44 st0WA st0WB 69 205 62 62 nd (st0_g0_ex.map (fun x => (false, x))) := wGraph (fun nd hnd => by
  have hnd : nd ∈ ([st0_ou, st0_op2, st0_L2, st0_M22, st0_F2] : List wE) := hnd
  simp only [List.mem_cons, List.not_mem_nil, or_false] at hnd
  rcases hnd with rfl | rfl | rfl | rfl | rfl
  · refine ⟨st0o3, st0N3, fun o ho => ?_⟩
    have ho : o ∈ ([(true, st0_op2)] : List (Bool × wE)) := ho
    simp only [List.mem_cons, List.not_mem_nil, or_false] at ho
    rcases ho with rfl
    · exact Or.inr ⟨rfl, List.mem_cons_of_mem _ (List.mem_cons_self)⟩
  · refine ⟨st0o5, st0N5, fun o ho => ?_⟩
    have ho : o ∈ ([(true, st0_L2)] : List (Bool × wE)) := ho
    simp only [List.mem_cons, List.not_mem_nil, or_false] at ho
    rcases ho with rfl
    · exact Or.inr ⟨rfl, List.mem_cons_of_mem _ (List.mem_cons_of_mem _ (List.mem_cons_self))⟩
  · refine ⟨st0o6, st0N6, fun o ho => ?_⟩
    have ho : o ∈ ([(true, st0_M22), (true, st0_F2)] : List (Bool × wE)) := ho
    simp only [List.mem_cons, List.not_mem_nil, or_false] at ho
    rcases ho with rfl | rfl
    · exact Or.inr ⟨rfl, List.mem_cons_of_mem _ (List.mem_cons_of_mem _ (List.mem_cons_of_mem _ (List.mem_cons_self)))⟩
    · exact Or.inr ⟨rfl, List.mem_cons_of_mem _ (List.mem_cons_of_mem _ (List.mem_cons_of_mem _ (List.mem_cons_of_mem _ (List.mem_cons_self))))⟩
  · refine ⟨st0o7, st0N7, fun o ho => ?_⟩
    have ho : o ∈ ([(false, st0_WR), (false, st0_WE), (false, st0_WL)] : List (Bool × wE)) := ho
    simp only [List.mem_cons, List.not_mem_nil, or_false] at ho
    rcases ho with rfl | rfl | rfl
    · exact Or.inl (List.mem_cons_self)
    · exact Or.inl (List.mem_cons_of_mem _ (List.mem_cons_self))
    · exact Or.inl (List.mem_cons_of_mem _ (List.mem_cons_of_mem _ (List.mem_cons_self)))
  · refine ⟨st0o8, st0N8, fun o ho => ?_⟩
    have ho : o ∈ ([(false, st0_FU)] : List (Bool × wE)) := ho
    simp only [List.mem_cons, List.not_mem_nil, or_false] at ho
    rcases ho with rfl
    · exact Or.inl (List.mem_cons_of_mem _ (List.mem_cons_of_mem _ (List.mem_cons_of_mem _ (List.mem_cons_self)))))
theorem mrN2 {xs : Nat → Int32} {n : Nat} {sf : Option Nat} : wGoes x_KT x_tb x_tyl (x_otS xs n sf) lwFR lwGA.length lwGB.length 11 26 43 mrWA mrWB 64 203 63 63 mr_c0Tou mro2 :=
  wDp (wWk (wEqvB (wCallB (recv := 0) (pc := 73) (ix := 311) (nx := 3) (args := [.inl (lSy 6), .inl (lSy 5), .inl (lK 0)]) (rest := []) (LE := [(0, .inr (some 0)), (1, .inl (lSy 6)), (2, .inl (lSy 5)), (3, .inl (lK 1)), (4, .inl (lSy 24)), (5, .inl (lK 1))]) (cE := (lK 0)) (sE := (lK 0)) (wCallA (recv := 4) (pc := 106) (ix := 455) (nx := 3) (args := []) (rest := []) (LE := [(0, .inr (some 0)), (1, .inr (some 25)), (2, .inl (lSy 5)), (3, .inl (lSy 12)), (4, .inl (lSy 11)), (5, .inl (lSy 24))]) (cE := (lK 0)) (sE := (lK 0)) (wReL (XA := mrX2.2.1) (XB := mrX2.2.2.1) (XC := mrX2.2.2.2.1) (rk := mrX2.2.2.2.2) (rA := mrQA2) (rB := mrQB2) (st0_g0_G _ List.mem_cons_self) mrL2) gq64 gq69 (by decide +kernel) (by decide +kernel) (by decide +kernel) (by decide +kernel) (by decide +kernel)) gq203 gq205 (by decide +kernel) (by decide +kernel) (by decide +kernel) (by decide +kernel) (by decide +kernel)) (by decide +kernel) (by decide +kernel)) (by decide) (by decide) (by decide) (by decide +kernel) (by decide +kernel)) (by decide) (by decide)
def st0_g1_nd : List wE := [st0_lo, st0_op0, st0_op1, st0_c0, st0_c1, st0_c0_x, st0_c1_X, st0_c1_F, st0_M]
theorem st0_g1_G {xs : Nat → Int32} {n : Nat} {sf : Option Nat} : ∀ nd ∈ st0_g1_nd, wGoes x_KT x_tb x_tyl (x_otS xs n sf) lwFR lwGA.length lwGB.length 32 42 44 st0WA st0WB 69 205 62 62 nd (st0_g1_ex.map (fun x => (false, x))) := wGraph (fun nd hnd => by
  have hnd : nd ∈ ([st0_lo, st0_op0, st0_op1, st0_c0, st0_c1, st0_c0_x, st0_c1_X, st0_c1_F, st0_M] : List wE) := hnd
  simp only [List.mem_cons, List.not_mem_nil, or_false] at hnd
  rcases hnd with rfl | rfl | rfl | rfl | rfl | rfl | rfl | rfl | rfl
  · refine ⟨st0o1, st0N1, fun o ho => ?_⟩
    have ho : o ∈ ([(true, st0_op0), (true, st0_op1)] : List (Bool × wE)) := ho
    simp only [List.mem_cons, List.not_mem_nil, or_false] at ho
    rcases ho with rfl | rfl
    · exact Or.inr ⟨rfl, List.mem_cons_of_mem _ (List.mem_cons_self)⟩
    · exact Or.inr ⟨rfl, List.mem_cons_of_mem _ (List.mem_cons_of_mem _ (List.mem_cons_self))⟩
  · refine ⟨st0o12, st0N12, fun o ho => ?_⟩
    have ho : o ∈ ([(true, st0_c0)] : List (Bool × wE)) := ho
    simp only [List.mem_cons, List.not_mem_nil, or_false] at ho
    rcases ho with rfl
    · exact Or.inr ⟨rfl, List.mem_cons_of_mem _ (List.mem_cons_of_mem _ (List.mem_cons_of_mem _ (List.mem_cons_self)))⟩
  · refine ⟨st0o27, st0N27, fun o ho => ?_⟩
    have ho : o ∈ ([(true, st0_c1)] : List (Bool × wE)) := ho
    simp only [List.mem_cons, List.not_mem_nil, or_false] at ho
    rcases ho with rfl
    · exact Or.inr ⟨rfl, List.mem_cons_of_mem _ (List.mem_cons_of_mem _ (List.mem_cons_of_mem _ (List.mem_cons_of_mem _ (List.mem_cons_self))))⟩
  · refine ⟨st0o11, st0N11, fun o ho => ?_⟩
    have ho : o ∈ ([(true, st0_c0_x)] : List (Bool × wE)) := ho
    simp only [List.mem_cons, List.not_mem_nil, or_false] at ho
    rcases ho with rfl
    · exact Or.inr ⟨rfl, List.mem_cons_of_mem _ (List.mem_cons_of_mem _ (List.mem_cons_of_mem _ (List.mem_cons_of_mem _ (List.mem_cons_of_mem _ (List.mem_cons_self)))))⟩
  · refine ⟨st0o26, st0N26, fun o ho => ?_⟩
    have ho : o ∈ ([(true, st0_c1_X), (true, st0_c1_F)] : List (Bool × wE)) := ho
    simp only [List.mem_cons, List.not_mem_nil, or_false] at ho
    rcases ho with rfl | rfl
    · exact Or.inr ⟨rfl, List.mem_cons_of_mem _ (List.mem_cons_of_mem _ (List.mem_cons_of_mem _ (List.mem_cons_of_mem _ (List.mem_cons_of_mem _ (List.mem_cons_of_mem _ (List.mem_cons_self))))))⟩
    · exact Or.inr ⟨rfl, List.mem_cons_of_mem _ (List.mem_cons_of_mem _ (List.mem_cons_of_mem _ (List.mem_cons_of_mem _ (List.mem_cons_of_mem _ (List.mem_cons_of_mem _ (List.mem_cons_of_mem _ (List.mem_cons_self)))))))⟩
  · refine ⟨st0o13, st0N13, fun o ho => ?_⟩
    have ho : o ∈ ([(true, st0_M)] : List (Bool × wE)) := ho
    simp only [List.mem_cons, List.not_mem_nil, or_false] at ho
    rcases ho with rfl
    · exact Or.inr ⟨rfl, List.mem_cons_of_mem _ (List.mem_cons_of_mem _ (List.mem_cons_of_mem _ (List.mem_cons_of_mem _ (List.mem_cons_of_mem _ (List.mem_cons_of_mem _ (List.mem_cons_of_mem _ (List.mem_cons_of_mem _ (List.mem_cons_self))))))))⟩
  · refine ⟨st0o28, st0N28, fun o ho => ?_⟩
    have ho : o ∈ ([(true, st0_M)] : List (Bool × wE)) := ho
    simp only [List.mem_cons, List.not_mem_nil, or_false] at ho
    rcases ho with rfl
    · exact Or.inr ⟨rfl, List.mem_cons_of_mem _ (List.mem_cons_of_mem _ (List.mem_cons_of_mem _ (List.mem_cons_of_mem _ (List.mem_cons_of_mem _ (List.mem_cons_of_mem _ (List.mem_cons_of_mem _ (List.mem_cons_of_mem _ (List.mem_cons_self))))))))⟩
  · refine ⟨st0o29, st0N29, fun o ho => ?_⟩
    have ho : o ∈ ([(false, st0_O)] : List (Bool × wE)) := ho
    simp only [List.mem_cons, List.not_mem_nil, or_false] at ho
    rcases ho with rfl
    · exact Or.inl (List.mem_cons_of_mem _ (List.mem_cons_self))
  · refine ⟨st0o4, st0N4, fun o ho => ?_⟩
    have ho : o ∈ ([(false, st0_R), (false, st0_O)] : List (Bool × wE)) := ho
    simp only [List.mem_cons, List.not_mem_nil, or_false] at ho
    rcases ho with rfl | rfl
    · exact Or.inl (List.mem_cons_self)
    · exact Or.inl (List.mem_cons_of_mem _ (List.mem_cons_self)))
theorem mrN3 {xs : Nat → Int32} {n : Nat} {sf : Option Nat} : wGoes x_KT x_tb x_tyl (x_otS xs n sf) lwFR lwGA.length lwGB.length 11 26 43 mrWA mrWB 64 203 63 63 mr_c0Tlo mro3 :=
  wDp (wWk (wEqvB (wCallB (recv := 0) (pc := 73) (ix := 311) (nx := 3) (args := [.inl (lSy 6), .inl (lSy 5), .inl (lK 0)]) (rest := []) (LE := [(0, .inr (some 0)), (1, .inl (lSy 6)), (2, .inl (lSy 5)), (3, .inl (lK 1)), (4, .inl (lSy 24)), (5, .inl (lK 0))]) (cE := (lK 0)) (sE := (lK 0)) (wCallA (recv := 4) (pc := 106) (ix := 455) (nx := 3) (args := []) (rest := []) (LE := [(0, .inr (some 0)), (1, .inr (some 25)), (2, .inl (lSy 5)), (3, .inl (lSy 12)), (4, .inl (lSy 11)), (5, .inl (lSy 24))]) (cE := (lK 0)) (sE := (lK 0)) (wReL (XA := mrX3.2.1) (XB := mrX3.2.2.1) (XC := mrX3.2.2.2.1) (rk := mrX3.2.2.2.2) (rA := mrQA3) (rB := mrQB3) (st0_g1_G _ List.mem_cons_self) mrL3) gq64 gq69 (by decide +kernel) (by decide +kernel) (by decide +kernel) (by decide +kernel) (by decide +kernel)) gq203 gq205 (by decide +kernel) (by decide +kernel) (by decide +kernel) (by decide +kernel) (by decide +kernel)) (by decide +kernel) (by decide +kernel)) (by decide) (by decide) (by decide) (by decide +kernel) (by decide +kernel)) (by decide) (by decide)
def st0_g2_nd : List wE := [st0_hi, st0_op3, st0_op4, st0_op5, st0_op6, st0_op7, st0_op8, st0_op9, st0_op10, st0_op11, st0_c3, st0_c4, st0_c5, st0_c6, st0_c7a, st0_c8, st0_M, st0_c11a, st0_c3_x, st0_c4_x, st0_c5_x, st0_c6_x, st0_c7a_x, st0_c8_x, st0_c11a_x, st0_c7b, st0_c11b, st0_c7b_x, st0_c11b_x]
theorem st0_g2_G {xs : Nat → Int32} {n : Nat} {sf : Option Nat} : ∀ nd ∈ st0_g2_nd, wGoes x_KT x_tb x_tyl (x_otS xs n sf) lwFR lwGA.length lwGB.length 32 42 44 st0WA st0WB 69 205 62 62 nd (st0_g2_ex.map (fun x => (false, x))) := wGraph (fun nd hnd => by
  have hnd : nd ∈ ([st0_hi, st0_op3, st0_op4, st0_op5, st0_op6, st0_op7, st0_op8, st0_op9, st0_op10, st0_op11, st0_c3, st0_c4, st0_c5, st0_c6, st0_c7a, st0_c8, st0_M, st0_c11a, st0_c3_x, st0_c4_x, st0_c5_x, st0_c6_x, st0_c7a_x, st0_c8_x, st0_c11a_x, st0_c7b, st0_c11b, st0_c7b_x, st0_c11b_x] : List wE) := hnd
  simp only [List.mem_cons, List.not_mem_nil, or_false] at hnd
  rcases hnd with rfl | rfl | rfl | rfl | rfl | rfl | rfl | rfl | rfl | rfl | rfl | rfl | rfl | rfl | rfl | rfl | rfl | rfl | rfl | rfl | rfl | rfl | rfl | rfl | rfl | rfl | rfl | rfl | rfl
  · refine ⟨st0o2, st0N2, fun o ho => ?_⟩
    have ho : o ∈ ([(true, st0_op3), (true, st0_op4), (true, st0_op5), (true, st0_op6), (true, st0_op7), (true, st0_op8), (true, st0_op9), (true, st0_op10), (true, st0_op11)] : List (Bool × wE)) := ho
    simp only [List.mem_cons, List.not_mem_nil, or_false] at ho
    rcases ho with rfl | rfl | rfl | rfl | rfl | rfl | rfl | rfl | rfl
    · exact Or.inr ⟨rfl, List.mem_cons_of_mem _ (List.mem_cons_self)⟩
    · exact Or.inr ⟨rfl, List.mem_cons_of_mem _ (List.mem_cons_of_mem _ (List.mem_cons_self))⟩
    · exact Or.inr ⟨rfl, List.mem_cons_of_mem _ (List.mem_cons_of_mem _ (List.mem_cons_of_mem _ (List.mem_cons_self)))⟩
    · exact Or.inr ⟨rfl, List.mem_cons_of_mem _ (List.mem_cons_of_mem _ (List.mem_cons_of_mem _ (List.mem_cons_of_mem _ (List.mem_cons_self))))⟩
    · exact Or.inr ⟨rfl, List.mem_cons_of_mem _ (List.mem_cons_of_mem _ (List.mem_cons_of_mem _ (List.mem_cons_of_mem _ (List.mem_cons_of_mem _ (List.mem_cons_self)))))⟩
    · exact Or.inr ⟨rfl, List.mem_cons_of_mem _ (List.mem_cons_of_mem _ (List.mem_cons_of_mem _ (List.mem_cons_of_mem _ (List.mem_cons_of_mem _ (List.mem_cons_of_mem _ (List.mem_cons_self))))))⟩
    · exact Or.inr ⟨rfl, List.mem_cons_of_mem _ (List.mem_cons_of_mem _ (List.mem_cons_of_mem _ (List.mem_cons_of_mem _ (List.mem_cons_of_mem _ (List.mem_cons_of_mem _ (List.mem_cons_of_mem _ (List.mem_cons_self)))))))⟩
    · exact Or.inr ⟨rfl, List.mem_cons_of_mem _ (List.mem_cons_of_mem _ (List.mem_cons_of_mem _ (List.mem_cons_of_mem _ (List.mem_cons_of_mem _ (List.mem_cons_of_mem _ (List.mem_cons_of_mem _ (List.mem_cons_of_mem _ (List.mem_cons_self))))))))⟩
    · exact Or.inr ⟨rfl, List.mem_cons_of_mem _ (List.mem_cons_of_mem _ (List.mem_cons_of_mem _ (List.mem_cons_of_mem _ (List.mem_cons_of_mem _ (List.mem_cons_of_mem _ (List.mem_cons_of_mem _ (List.mem_cons_of_mem _ (List.mem_cons_of_mem _ (List.mem_cons_self)))))))))⟩
  · refine ⟨st0o15, st0N15, fun o ho => ?_⟩
    have ho : o ∈ ([(true, st0_c3)] : List (Bool × wE)) := ho
    simp only [List.mem_cons, List.not_mem_nil, or_false] at ho
    rcases ho with rfl
    · exact Or.inr ⟨rfl, List.mem_cons_of_mem _ (List.mem_cons_of_mem _ (List.mem_cons_of_mem _ (List.mem_cons_of_mem _ (List.mem_cons_of_mem _ (List.mem_cons_of_mem _ (List.mem_cons_of_mem _ (List.mem_cons_of_mem _ (List.mem_cons_of_mem _ (List.mem_cons_of_mem _ (List.mem_cons_self))))))))))⟩
  · refine ⟨st0o18, st0N18, fun o ho => ?_⟩
    have ho : o ∈ ([(true, st0_c4)] : List (Bool × wE)) := ho
    simp only [List.mem_cons, List.not_mem_nil, or_false] at ho
    rcases ho with rfl
    · exact Or.inr ⟨rfl, List.mem_cons_of_mem _ (List.mem_cons_of_mem _ (List.mem_cons_of_mem _ (List.mem_cons_of_mem _ (List.mem_cons_of_mem _ (List.mem_cons_of_mem _ (List.mem_cons_of_mem _ (List.mem_cons_of_mem _ (List.mem_cons_of_mem _ (List.mem_cons_of_mem _ (List.mem_cons_of_mem _ (List.mem_cons_self)))))))))))⟩
  · refine ⟨st0o21, st0N21, fun o ho => ?_⟩
    have ho : o ∈ ([(true, st0_c5)] : List (Bool × wE)) := ho
    simp only [List.mem_cons, List.not_mem_nil, or_false] at ho
    rcases ho with rfl
    · exact Or.inr ⟨rfl, List.mem_cons_of_mem _ (List.mem_cons_of_mem _ (List.mem_cons_of_mem _ (List.mem_cons_of_mem _ (List.mem_cons_of_mem _ (List.mem_cons_of_mem _ (List.mem_cons_of_mem _ (List.mem_cons_of_mem _ (List.mem_cons_of_mem _ (List.mem_cons_of_mem _ (List.mem_cons_of_mem _ (List.mem_cons_of_mem _ (List.mem_cons_self))))))))))))⟩
  · refine ⟨st0o24, st0N24, fun o ho => ?_⟩
    have ho : o ∈ ([(true, st0_c6)] : List (Bool × wE)) := ho
    simp only [List.mem_cons, List.not_mem_nil, or_false] at ho
    rcases ho with rfl
    · exact Or.inr ⟨rfl, List.mem_cons_of_mem _ (List.mem_cons_of_mem _ (List.mem_cons_of_mem _ (List.mem_cons_of_mem _ (List.mem_cons_of_mem _ (List.mem_cons_of_mem _ (List.mem_cons_of_mem _ (List.mem_cons_of_mem _ (List.mem_cons_of_mem _ (List.mem_cons_of_mem _ (List.mem_cons_of_mem _ (List.mem_cons_of_mem _ (List.mem_cons_of_mem _ (List.mem_cons_self)))))))))))))⟩
  · refine ⟨st0o32, st0N32, fun o ho => ?_⟩
    have ho : o ∈ ([(true, st0_c7a)] : List (Bool × wE)) := ho
    simp only [List.mem_cons, List.not_mem_nil, or_false] at ho
    rcases ho with rfl
    · exact Or.inr ⟨rfl, List.mem_cons_of_mem _ (List.mem_cons_of_mem _ (List.mem_cons_of_mem _ (List.mem_cons_of_mem _ (List.mem_cons_of_mem _ (List.mem_cons_of_mem _ (List.mem_cons_of_mem _ (List.mem_cons_of_mem _ (List.mem_cons_of_mem _ (List.mem_cons_of_mem _ (List.mem_cons_of_mem _ (List.mem_cons_of_mem _ (List.mem_cons_of_mem _ (List.mem_cons_of_mem _ (List.mem_cons_self))))))))))))))⟩
  · refine ⟨st0o41, st0N41, fun o ho => ?_⟩
    have ho : o ∈ ([(true, st0_c8)] : List (Bool × wE)) := ho
    simp only [List.mem_cons, List.not_mem_nil, or_false] at ho
    rcases ho with rfl
    · exact Or.inr ⟨rfl, List.mem_cons_of_mem _ (List.mem_cons_of_mem _ (List.mem_cons_of_mem _ (List.mem_cons_of_mem _ (List.mem_cons_of_mem _ (List.mem_cons_of_mem _ (List.mem_cons_of_mem _ (List.mem_cons_of_mem _ (List.mem_cons_of_mem _ (List.mem_cons_of_mem _ (List.mem_cons_of_mem _ (List.mem_cons_of_mem _ (List.mem_cons_of_mem _ (List.mem_cons_of_mem _ (List.mem_cons_of_mem _ (List.mem_cons_self)))))))))))))))⟩
  · refine ⟨st0o9, st0N9, fun o ho => ?_⟩
    have ho : o ∈ ([(true, st0_M)] : List (Bool × wE)) := ho
    simp only [List.mem_cons, List.not_mem_nil, or_false] at ho
    rcases ho with rfl
    · exact Or.inr ⟨rfl, List.mem_cons_of_mem _ (List.mem_cons_of_mem _ (List.mem_cons_of_mem _ (List.mem_cons_of_mem _ (List.mem_cons_of_mem _ (List.mem_cons_of_mem _ (List.mem_cons_of_mem _ (List.mem_cons_of_mem _ (List.mem_cons_of_mem _ (List.mem_cons_of_mem _ (List.mem_cons_of_mem _ (List.mem_cons_of_mem _ (List.mem_cons_of_mem _ (List.mem_cons_of_mem _ (List.mem_cons_of_mem _ (List.mem_cons_of_mem _ (List.mem_cons_self))))))))))))))))⟩
  · refine ⟨st0o10, st0N10, fun o ho => ?_⟩
    have ho : o ∈ ([(false, st0_R), (false, st0_O)] : List (Bool × wE)) := ho
    simp only [List.mem_cons, List.not_mem_nil, or_false] at ho
    rcases ho with rfl | rfl
    · exact Or.inl (List.mem_cons_self)
    · exact Or.inl (List.mem_cons_of_mem _ (List.mem_cons_self))
  · refine ⟨st0o37, st0N37, fun o ho => ?_⟩
    have ho : o ∈ ([(true, st0_c11a)] : List (Bool × wE)) := ho
    simp only [List.mem_cons, List.not_mem_nil, or_false] at ho
    rcases ho with rfl
    · exact Or.inr ⟨rfl, List.mem_cons_of_mem _ (List.mem_cons_of_mem _ (List.mem_cons_of_mem _ (List.mem_cons_of_mem _ (List.mem_cons_of_mem _ (List.mem_cons_of_mem _ (List.mem_cons_of_mem _ (List.mem_cons_of_mem _ (List.mem_cons_of_mem _ (List.mem_cons_of_mem _ (List.mem_cons_of_mem _ (List.mem_cons_of_mem _ (List.mem_cons_of_mem _ (List.mem_cons_of_mem _ (List.mem_cons_of_mem _ (List.mem_cons_of_mem _ (List.mem_cons_of_mem _ (List.mem_cons_self)))))))))))))))))⟩
  · refine ⟨st0o14, st0N14, fun o ho => ?_⟩
    have ho : o ∈ ([(true, st0_c3_x)] : List (Bool × wE)) := ho
    simp only [List.mem_cons, List.not_mem_nil, or_false] at ho
    rcases ho with rfl
    · exact Or.inr ⟨rfl, List.mem_cons_of_mem _ (List.mem_cons_of_mem _ (List.mem_cons_of_mem _ (List.mem_cons_of_mem _ (List.mem_cons_of_mem _ (List.mem_cons_of_mem _ (List.mem_cons_of_mem _ (List.mem_cons_of_mem _ (List.mem_cons_of_mem _ (List.mem_cons_of_mem _ (List.mem_cons_of_mem _ (List.mem_cons_of_mem _ (List.mem_cons_of_mem _ (List.mem_cons_of_mem _ (List.mem_cons_of_mem _ (List.mem_cons_of_mem _ (List.mem_cons_of_mem _ (List.mem_cons_of_mem _ (List.mem_cons_self))))))))))))))))))⟩
  · refine ⟨st0o17, st0N17, fun o ho => ?_⟩
    have ho : o ∈ ([(true, st0_c4_x)] : List (Bool × wE)) := ho
    simp only [List.mem_cons, List.not_mem_nil, or_false] at ho
    rcases ho with rfl
    · exact Or.inr ⟨rfl, List.mem_cons_of_mem _ (List.mem_cons_of_mem _ (List.mem_cons_of_mem _ (List.mem_cons_of_mem _ (List.mem_cons_of_mem _ (List.mem_cons_of_mem _ (List.mem_cons_of_mem _ (List.mem_cons_of_mem _ (List.mem_cons_of_mem _ (List.mem_cons_of_mem _ (List.mem_cons_of_mem _ (List.mem_cons_of_mem _ (List.mem_cons_of_mem _ (List.mem_cons_of_mem _ (List.mem_cons_of_mem _ (List.mem_cons_of_mem _ (List.mem_cons_of_mem _ (List.mem_cons_of_mem _ (List.mem_cons_of_mem _ (List.mem_cons_self)))))))))))))))))))⟩
  · refine ⟨st0o20, st0N20, fun o ho => ?_⟩
    have ho : o ∈ ([(true, st0_c5_x)] : List (Bool × wE)) := ho
    simp only [List.mem_cons, List.not_mem_nil, or_false] at ho
    rcases ho with rfl
    · exact Or.inr ⟨rfl, List.mem_cons_of_mem _ (List.mem_cons_of_mem _ (List.mem_cons_of_mem _ (List.mem_cons_of_mem _ (List.mem_cons_of_mem _ (List.mem_cons_of_mem _ (List.mem_cons_of_mem _ (List.mem_cons_of_mem _ (List.mem_cons_of_mem _ (List.mem_cons_of_mem _ (List.mem_cons_of_mem _ (List.mem_cons_of_mem _ (List.mem_cons_of_mem _ (List.mem_cons_of_mem _ (List.mem_cons_of_mem _ (List.mem_cons_of_mem _ (List.mem_cons_of_mem _ (List.mem_cons_of_mem _ (List.mem_cons_of_mem _ (List.mem_cons_of_mem _ (List.mem_cons_self))))))))))))))))))))⟩
  · refine ⟨st0o23, st0N23, fun o ho => ?_⟩
    have ho : o ∈ ([(true, st0_c6_x)] : List (Bool × wE)) := ho
    simp only [List.mem_cons, List.not_mem_nil, or_false] at ho
    rcases ho with rfl
    · exact Or.inr ⟨rfl, List.mem_cons_of_mem _ (List.mem_cons_of_mem _ (List.mem_cons_of_mem _ (List.mem_cons_of_mem _ (List.mem_cons_of_mem _ (List.mem_cons_of_mem _ (List.mem_cons_of_mem _ (List.mem_cons_of_mem _ (List.mem_cons_of_mem _ (List.mem_cons_of_mem _ (List.mem_cons_of_mem _ (List.mem_cons_of_mem _ (List.mem_cons_of_mem _ (List.mem_cons_of_mem _ (List.mem_cons_of_mem _ (List.mem_cons_of_mem _ (List.mem_cons_of_mem _ (List.mem_cons_of_mem _ (List.mem_cons_of_mem _ (List.mem_cons_of_mem _ (List.mem_cons_of_mem _ (List.mem_cons_self)))))))))))))))))))))⟩
  · refine ⟨st0o30, st0N30, fun o ho => ?_⟩
    have ho : o ∈ ([(true, st0_c7a_x)] : List (Bool × wE)) := ho
    simp only [List.mem_cons, List.not_mem_nil, or_false] at ho
    rcases ho with rfl
    · exact Or.inr ⟨rfl, List.mem_cons_of_mem _ (List.mem_cons_of_mem _ (List.mem_cons_of_mem _ (List.mem_cons_of_mem _ (List.mem_cons_of_mem _ (List.mem_cons_of_mem _ (List.mem_cons_of_mem _ (List.mem_cons_of_mem _ (List.mem_cons_of_mem _ (List.mem_cons_of_mem _ (List.mem_cons_of_mem _ (List.mem_cons_of_mem _ (List.mem_cons_of_mem _ (List.mem_cons_of_mem _ (List.mem_cons_of_mem _ (List.mem_cons_of_mem _ (List.mem_cons_of_mem _ (List.mem_cons_of_mem _ (List.mem_cons_of_mem _ (List.mem_cons_of_mem _ (List.mem_cons_of_mem _ (List.mem_cons_of_mem _ (List.mem_cons_self))))))))))))))))))))))⟩
  · refine ⟨st0o40, st0N40, fun o ho => ?_⟩
    have ho : o ∈ ([(true, st0_c8_x)] : List (Bool × wE)) := ho
    simp only [List.mem_cons, List.not_mem_nil, or_false] at ho
    rcases ho with rfl
    · exact Or.inr ⟨rfl, List.mem_cons_of_mem _ (List.mem_cons_of_mem _ (List.mem_cons_of_mem _ (List.mem_cons_of_mem _ (List.mem_cons_of_mem _ (List.mem_cons_of_mem _ (List.mem_cons_of_mem _ (List.mem_cons_of_mem _ (List.mem_cons_of_mem _ (List.mem_cons_of_mem _ (List.mem_cons_of_mem _ (List.mem_cons_of_mem _ (List.mem_cons_of_mem _ (List.mem_cons_of_mem _ (List.mem_cons_of_mem _ (List.mem_cons_of_mem _ (List.mem_cons_of_mem _ (List.mem_cons_of_mem _ (List.mem_cons_of_mem _ (List.mem_cons_of_mem _ (List.mem_cons_of_mem _ (List.mem_cons_of_mem _ (List.mem_cons_of_mem _ (List.mem_cons_self)))))))))))))))))))))))⟩
  · refine ⟨st0o4, st0N4, fun o ho => ?_⟩
    have ho : o ∈ ([(false, st0_R), (false, st0_O)] : List (Bool × wE)) := ho
    simp only [List.mem_cons, List.not_mem_nil, or_false] at ho
    rcases ho with rfl | rfl
    · exact Or.inl (List.mem_cons_self)
    · exact Or.inl (List.mem_cons_of_mem _ (List.mem_cons_self))
  · refine ⟨st0o35, st0N35, fun o ho => ?_⟩
    have ho : o ∈ ([(true, st0_c11a_x)] : List (Bool × wE)) := ho
    simp only [List.mem_cons, List.not_mem_nil, or_false] at ho
    rcases ho with rfl
    · exact Or.inr ⟨rfl, List.mem_cons_of_mem _ (List.mem_cons_of_mem _ (List.mem_cons_of_mem _ (List.mem_cons_of_mem _ (List.mem_cons_of_mem _ (List.mem_cons_of_mem _ (List.mem_cons_of_mem _ (List.mem_cons_of_mem _ (List.mem_cons_of_mem _ (List.mem_cons_of_mem _ (List.mem_cons_of_mem _ (List.mem_cons_of_mem _ (List.mem_cons_of_mem _ (List.mem_cons_of_mem _ (List.mem_cons_of_mem _ (List.mem_cons_of_mem _ (List.mem_cons_of_mem _ (List.mem_cons_of_mem _ (List.mem_cons_of_mem _ (List.mem_cons_of_mem _ (List.mem_cons_of_mem _ (List.mem_cons_of_mem _ (List.mem_cons_of_mem _ (List.mem_cons_of_mem _ (List.mem_cons_self))))))))))))))))))))))))⟩
  · refine ⟨st0o16, st0N16, fun o ho => ?_⟩
    have ho : o ∈ ([(true, st0_M)] : List (Bool × wE)) := ho
    simp only [List.mem_cons, List.not_mem_nil, or_false] at ho
    rcases ho with rfl
    · exact Or.inr ⟨rfl, List.mem_cons_of_mem _ (List.mem_cons_of_mem _ (List.mem_cons_of_mem _ (List.mem_cons_of_mem _ (List.mem_cons_of_mem _ (List.mem_cons_of_mem _ (List.mem_cons_of_mem _ (List.mem_cons_of_mem _ (List.mem_cons_of_mem _ (List.mem_cons_of_mem _ (List.mem_cons_of_mem _ (List.mem_cons_of_mem _ (List.mem_cons_of_mem _ (List.mem_cons_of_mem _ (List.mem_cons_of_mem _ (List.mem_cons_of_mem _ (List.mem_cons_self))))))))))))))))⟩
  · refine ⟨st0o19, st0N19, fun o ho => ?_⟩
    have ho : o ∈ ([(true, st0_M)] : List (Bool × wE)) := ho
    simp only [List.mem_cons, List.not_mem_nil, or_false] at ho
    rcases ho with rfl
    · exact Or.inr ⟨rfl, List.mem_cons_of_mem _ (List.mem_cons_of_mem _ (List.mem_cons_of_mem _ (List.mem_cons_of_mem _ (List.mem_cons_of_mem _ (List.mem_cons_of_mem _ (List.mem_cons_of_mem _ (List.mem_cons_of_mem _ (List.mem_cons_of_mem _ (List.mem_cons_of_mem _ (List.mem_cons_of_mem _ (List.mem_cons_of_mem _ (List.mem_cons_of_mem _ (List.mem_cons_of_mem _ (List.mem_cons_of_mem _ (List.mem_cons_of_mem _ (List.mem_cons_self))))))))))))))))⟩
  · refine ⟨st0o22, st0N22, fun o ho => ?_⟩
    have ho : o ∈ ([(true, st0_M)] : List (Bool × wE)) := ho
    simp only [List.mem_cons, List.not_mem_nil, or_false] at ho
    rcases ho with rfl
    · exact Or.inr ⟨rfl, List.mem_cons_of_mem _ (List.mem_cons_of_mem _ (List.mem_cons_of_mem _ (List.mem_cons_of_mem _ (List.mem_cons_of_mem _ (List.mem_cons_of_mem _ (List.mem_cons_of_mem _ (List.mem_cons_of_mem _ (List.mem_cons_of_mem _ (List.mem_cons_of_mem _ (List.mem_cons_of_mem _ (List.mem_cons_of_mem _ (List.mem_cons_of_mem _ (List.mem_cons_of_mem _ (List.mem_cons_of_mem _ (List.mem_cons_of_mem _ (List.mem_cons_self))))))))))))))))⟩
  · refine ⟨st0o25, st0N25, fun o ho => ?_⟩
    have ho : o ∈ ([(true, st0_M)] : List (Bool × wE)) := ho
    simp only [List.mem_cons, List.not_mem_nil, or_false] at ho
    rcases ho with rfl
    · exact Or.inr ⟨rfl, List.mem_cons_of_mem _ (List.mem_cons_of_mem _ (List.mem_cons_of_mem _ (List.mem_cons_of_mem _ (List.mem_cons_of_mem _ (List.mem_cons_of_mem _ (List.mem_cons_of_mem _ (List.mem_cons_of_mem _ (List.mem_cons_of_mem _ (List.mem_cons_of_mem _ (List.mem_cons_of_mem _ (List.mem_cons_of_mem _ (List.mem_cons_of_mem _ (List.mem_cons_of_mem _ (List.mem_cons_of_mem _ (List.mem_cons_of_mem _ (List.mem_cons_self))))))))))))))))⟩
  · refine ⟨st0o33, st0N33, fun o ho => ?_⟩
    have ho : o ∈ ([(true, st0_c7b)] : List (Bool × wE)) := ho
    simp only [List.mem_cons, List.not_mem_nil, or_false] at ho
    rcases ho with rfl
    · exact Or.inr ⟨rfl, List.mem_cons_of_mem _ (List.mem_cons_of_mem _ (List.mem_cons_of_mem _ (List.mem_cons_of_mem _ (List.mem_cons_of_mem _ (List.mem_cons_of_mem _ (List.mem_cons_of_mem _ (List.mem_cons_of_mem _ (List.mem_cons_of_mem _ (List.mem_cons_of_mem _ (List.mem_cons_of_mem _ (List.mem_cons_of_mem _ (List.mem_cons_of_mem _ (List.mem_cons_of_mem _ (List.mem_cons_of_mem _ (List.mem_cons_of_mem _ (List.mem_cons_of_mem _ (List.mem_cons_of_mem _ (List.mem_cons_of_mem _ (List.mem_cons_of_mem _ (List.mem_cons_of_mem _ (List.mem_cons_of_mem _ (List.mem_cons_of_mem _ (List.mem_cons_of_mem _ (List.mem_cons_of_mem _ (List.mem_cons_self)))))))))))))))))))))))))⟩
  · refine ⟨st0o42, st0N42, fun o ho => ?_⟩
    have ho : o ∈ ([(true, st0_M)] : List (Bool × wE)) := ho
    simp only [List.mem_cons, List.not_mem_nil, or_false] at ho
    rcases ho with rfl
    · exact Or.inr ⟨rfl, List.mem_cons_of_mem _ (List.mem_cons_of_mem _ (List.mem_cons_of_mem _ (List.mem_cons_of_mem _ (List.mem_cons_of_mem _ (List.mem_cons_of_mem _ (List.mem_cons_of_mem _ (List.mem_cons_of_mem _ (List.mem_cons_of_mem _ (List.mem_cons_of_mem _ (List.mem_cons_of_mem _ (List.mem_cons_of_mem _ (List.mem_cons_of_mem _ (List.mem_cons_of_mem _ (List.mem_cons_of_mem _ (List.mem_cons_of_mem _ (List.mem_cons_self))))))))))))))))⟩
  · refine ⟨st0o38, st0N38, fun o ho => ?_⟩
    have ho : o ∈ ([(true, st0_c11b)] : List (Bool × wE)) := ho
    simp only [List.mem_cons, List.not_mem_nil, or_false] at ho
    rcases ho with rfl
    · exact Or.inr ⟨rfl, List.mem_cons_of_mem _ (List.mem_cons_of_mem _ (List.mem_cons_of_mem _ (List.mem_cons_of_mem _ (List.mem_cons_of_mem _ (List.mem_cons_of_mem _ (List.mem_cons_of_mem _ (List.mem_cons_of_mem _ (List.mem_cons_of_mem _ (List.mem_cons_of_mem _ (List.mem_cons_of_mem _ (List.mem_cons_of_mem _ (List.mem_cons_of_mem _ (List.mem_cons_of_mem _ (List.mem_cons_of_mem _ (List.mem_cons_of_mem _ (List.mem_cons_of_mem _ (List.mem_cons_of_mem _ (List.mem_cons_of_mem _ (List.mem_cons_of_mem _ (List.mem_cons_of_mem _ (List.mem_cons_of_mem _ (List.mem_cons_of_mem _ (List.mem_cons_of_mem _ (List.mem_cons_of_mem _ (List.mem_cons_of_mem _ (List.mem_cons_self))))))))))))))))))))))))))⟩
  · refine ⟨st0o31, st0N31, fun o ho => ?_⟩
    have ho : o ∈ ([(true, st0_c7b_x)] : List (Bool × wE)) := ho
    simp only [List.mem_cons, List.not_mem_nil, or_false] at ho
    rcases ho with rfl
    · exact Or.inr ⟨rfl, List.mem_cons_of_mem _ (List.mem_cons_of_mem _ (List.mem_cons_of_mem _ (List.mem_cons_of_mem _ (List.mem_cons_of_mem _ (List.mem_cons_of_mem _ (List.mem_cons_of_mem _ (List.mem_cons_of_mem _ (List.mem_cons_of_mem _ (List.mem_cons_of_mem _ (List.mem_cons_of_mem _ (List.mem_cons_of_mem _ (List.mem_cons_of_mem _ (List.mem_cons_of_mem _ (List.mem_cons_of_mem _ (List.mem_cons_of_mem _ (List.mem_cons_of_mem _ (List.mem_cons_of_mem _ (List.mem_cons_of_mem _ (List.mem_cons_of_mem _ (List.mem_cons_of_mem _ (List.mem_cons_of_mem _ (List.mem_cons_of_mem _ (List.mem_cons_of_mem _ (List.mem_cons_of_mem _ (List.mem_cons_of_mem _ (List.mem_cons_of_mem _ (List.mem_cons_self)))))))))))))))))))))))))))⟩
  · refine ⟨st0o36, st0N36, fun o ho => ?_⟩
    have ho : o ∈ ([(true, st0_c11b_x)] : List (Bool × wE)) := ho
    simp only [List.mem_cons, List.not_mem_nil, or_false] at ho
    rcases ho with rfl
    · exact Or.inr ⟨rfl, List.mem_cons_of_mem _ (List.mem_cons_of_mem _ (List.mem_cons_of_mem _ (List.mem_cons_of_mem _ (List.mem_cons_of_mem _ (List.mem_cons_of_mem _ (List.mem_cons_of_mem _ (List.mem_cons_of_mem _ (List.mem_cons_of_mem _ (List.mem_cons_of_mem _ (List.mem_cons_of_mem _ (List.mem_cons_of_mem _ (List.mem_cons_of_mem _ (List.mem_cons_of_mem _ (List.mem_cons_of_mem _ (List.mem_cons_of_mem _ (List.mem_cons_of_mem _ (List.mem_cons_of_mem _ (List.mem_cons_of_mem _ (List.mem_cons_of_mem _ (List.mem_cons_of_mem _ (List.mem_cons_of_mem _ (List.mem_cons_of_mem _ (List.mem_cons_of_mem _ (List.mem_cons_of_mem _ (List.mem_cons_of_mem _ (List.mem_cons_of_mem _ (List.mem_cons_of_mem _ (List.mem_cons_self))))))))))))))))))))))))))))⟩
  · refine ⟨st0o34, st0N34, fun o ho => ?_⟩
    have ho : o ∈ ([(true, st0_M)] : List (Bool × wE)) := ho
    simp only [List.mem_cons, List.not_mem_nil, or_false] at ho
    rcases ho with rfl
    · exact Or.inr ⟨rfl, List.mem_cons_of_mem _ (List.mem_cons_of_mem _ (List.mem_cons_of_mem _ (List.mem_cons_of_mem _ (List.mem_cons_of_mem _ (List.mem_cons_of_mem _ (List.mem_cons_of_mem _ (List.mem_cons_of_mem _ (List.mem_cons_of_mem _ (List.mem_cons_of_mem _ (List.mem_cons_of_mem _ (List.mem_cons_of_mem _ (List.mem_cons_of_mem _ (List.mem_cons_of_mem _ (List.mem_cons_of_mem _ (List.mem_cons_of_mem _ (List.mem_cons_self))))))))))))))))⟩
  · refine ⟨st0o39, st0N39, fun o ho => ?_⟩
    have ho : o ∈ ([(true, st0_M)] : List (Bool × wE)) := ho
    simp only [List.mem_cons, List.not_mem_nil, or_false] at ho
    rcases ho with rfl
    · exact Or.inr ⟨rfl, List.mem_cons_of_mem _ (List.mem_cons_of_mem _ (List.mem_cons_of_mem _ (List.mem_cons_of_mem _ (List.mem_cons_of_mem _ (List.mem_cons_of_mem _ (List.mem_cons_of_mem _ (List.mem_cons_of_mem _ (List.mem_cons_of_mem _ (List.mem_cons_of_mem _ (List.mem_cons_of_mem _ (List.mem_cons_of_mem _ (List.mem_cons_of_mem _ (List.mem_cons_of_mem _ (List.mem_cons_of_mem _ (List.mem_cons_of_mem _ (List.mem_cons_self))))))))))))))))⟩)
theorem mrN4 {xs : Nat → Int32} {n : Nat} {sf : Option Nat} : wGoes x_KT x_tb x_tyl (x_otS xs n sf) lwFR lwGA.length lwGB.length 11 26 43 mrWA mrWB 64 203 63 63 mr_c0Thi mro4 :=
  wDp (wWk (wEqvB (wCallB (recv := 0) (pc := 73) (ix := 311) (nx := 3) (args := [.inl (lSy 6), .inl (lSy 5), .inl (lK 0)]) (rest := []) (LE := [(0, .inr (some 0)), (1, .inl (lSy 6)), (2, .inl (lSy 5)), (3, .inl (lK 1)), (4, .inl (lSy 24)), (5, .inl (lK 0))]) (cE := (lK 0)) (sE := (lK 0)) (wCallA (recv := 4) (pc := 106) (ix := 455) (nx := 3) (args := []) (rest := []) (LE := [(0, .inr (some 0)), (1, .inr (some 25)), (2, .inl (lSy 5)), (3, .inl (lSy 12)), (4, .inl (lSy 11)), (5, .inl (lSy 24))]) (cE := (lK 0)) (sE := (lK 0)) (wReL (XA := mrX4.2.1) (XB := mrX4.2.2.1) (XC := mrX4.2.2.2.1) (rk := mrX4.2.2.2.2) (rA := mrQA4) (rB := mrQB4) (st0_g2_G _ List.mem_cons_self) mrL4) gq64 gq69 (by decide +kernel) (by decide +kernel) (by decide +kernel) (by decide +kernel) (by decide +kernel)) gq203 gq205 (by decide +kernel) (by decide +kernel) (by decide +kernel) (by decide +kernel) (by decide +kernel)) (by decide +kernel) (by decide +kernel)) (by decide) (by decide) (by decide) (by decide +kernel) (by decide +kernel)) (by decide) (by decide)
theorem mrN5 {xs : Nat → Int32} {n : Nat} {sf : Option Nat} : wGoes x_KT x_tb x_tyl (x_otS xs n sf) lwFR lwGA.length lwGB.length 11 26 43 mrWA mrWB 64 203 63 63 mr_T mro5 :=
  wDp (wWk (wEd_spec (x_ov0_le sf) u_ctS lwFRok mrE5) (Nat.le_refl _) (Nat.le_refl _) (Nat.le_refl _) (by decide +kernel) (by decide +kernel)) (by decide) (by decide)
def st1_g0_nd : List wE := [st1_ou, st1_op2i, st1_L2i, st1_M22i, st1_F2i]
theorem st1_g0_G {xs : Nat → Int32} {n : Nat} {sf : Option Nat} : ∀ nd ∈ st1_g0_nd, wGoes x_KT x_tb x_tyl (x_otS xs n sf) lwFR lwGA.length lwGB.length 34 42 44 st1WA st1WB 69 205 60 60 nd (st1_g0_ex.map (fun x => (false, x))) := wGraph (fun nd hnd => by
  have hnd : nd ∈ ([st1_ou, st1_op2i, st1_L2i, st1_M22i, st1_F2i] : List wE) := hnd
  simp only [List.mem_cons, List.not_mem_nil, or_false] at hnd
  rcases hnd with rfl | rfl | rfl | rfl | rfl
  · refine ⟨st1o3, st1N3, fun o ho => ?_⟩
    have ho : o ∈ ([(true, st1_op2i)] : List (Bool × wE)) := ho
    simp only [List.mem_cons, List.not_mem_nil, or_false] at ho
    rcases ho with rfl
    · exact Or.inr ⟨rfl, List.mem_cons_of_mem _ (List.mem_cons_self)⟩
  · refine ⟨st1o9, st1N9, fun o ho => ?_⟩
    have ho : o ∈ ([(true, st1_L2i)] : List (Bool × wE)) := ho
    simp only [List.mem_cons, List.not_mem_nil, or_false] at ho
    rcases ho with rfl
    · exact Or.inr ⟨rfl, List.mem_cons_of_mem _ (List.mem_cons_of_mem _ (List.mem_cons_self))⟩
  · refine ⟨st1o10, st1N10, fun o ho => ?_⟩
    have ho : o ∈ ([(true, st1_M22i), (true, st1_F2i)] : List (Bool × wE)) := ho
    simp only [List.mem_cons, List.not_mem_nil, or_false] at ho
    rcases ho with rfl | rfl
    · exact Or.inr ⟨rfl, List.mem_cons_of_mem _ (List.mem_cons_of_mem _ (List.mem_cons_of_mem _ (List.mem_cons_self)))⟩
    · exact Or.inr ⟨rfl, List.mem_cons_of_mem _ (List.mem_cons_of_mem _ (List.mem_cons_of_mem _ (List.mem_cons_of_mem _ (List.mem_cons_self))))⟩
  · refine ⟨st1o11, st1N11, fun o ho => ?_⟩
    have ho : o ∈ ([(false, st1_WRi), (false, st1_WEi), (false, st1_WLi)] : List (Bool × wE)) := ho
    simp only [List.mem_cons, List.not_mem_nil, or_false] at ho
    rcases ho with rfl | rfl | rfl
    · exact Or.inl (List.mem_cons_self)
    · exact Or.inl (List.mem_cons_of_mem _ (List.mem_cons_self))
    · exact Or.inl (List.mem_cons_of_mem _ (List.mem_cons_of_mem _ (List.mem_cons_self)))
  · refine ⟨st1o12, st1N12, fun o ho => ?_⟩
    have ho : o ∈ ([(false, st1_FUi)] : List (Bool × wE)) := ho
    simp only [List.mem_cons, List.not_mem_nil, or_false] at ho
    rcases ho with rfl
    · exact Or.inl (List.mem_cons_of_mem _ (List.mem_cons_of_mem _ (List.mem_cons_of_mem _ (List.mem_cons_self)))))
theorem mrN6 {xs : Nat → Int32} {n : Nat} {sf : Option Nat} : wGoes x_KT x_tb x_tyl (x_otS xs n sf) lwFR lwGA.length lwGB.length 11 26 43 mrWA mrWB 64 203 63 63 mr_c1Tir mro6 :=
  wDp (wWk (wEqvB (wCallB (recv := 0) (pc := 80) (ix := 311) (nx := 3) (args := [.inl (lSy 6), .inl (lSy 5), .inl (lK 1)]) (rest := []) (LE := [(0, .inr (some 0)), (1, .inl (lSy 6)), (2, .inl (lSy 5)), (3, .inl (lK 1)), (4, .inl (lSy 26)), (5, .inl (lK 1))]) (cE := (lK 0)) (sE := (lK 0)) (wCallA (recv := 8) (pc := 113) (ix := 455) (nx := 3) (args := []) (rest := []) (LE := [(0, .inr (some 0)), (1, .inr (some 25)), (2, .inl (lSy 5)), (3, .inl (lSy 12)), (4, .inl (lSy 11)), (5, .inl (lSy 26))]) (cE := (lK 0)) (sE := (lK 0)) (wReL (XA := mrX6.2.1) (XB := mrX6.2.2.1) (XC := mrX6.2.2.2.1) (rk := mrX6.2.2.2.2) (rA := mrQA6) (rB := mrQB6) (st1_g0_G _ List.mem_cons_self) mrL6) gq64 gq69 (by decide +kernel) (by decide +kernel) (by decide +kernel) (by decide +kernel) (by decide +kernel)) gq203 gq205 (by decide +kernel) (by decide +kernel) (by decide +kernel) (by decide +kernel) (by decide +kernel)) (by decide +kernel) (by decide +kernel)) (by decide) (by decide) (by decide) (by decide +kernel) (by decide +kernel)) (by decide) (by decide)
theorem mrN7 {xs : Nat → Int32} {n : Nat} {sf : Option Nat} : wGoes x_KT x_tb x_tyl (x_otS xs n sf) lwFR lwGA.length lwGB.length 11 26 43 mrWA mrWB 64 203 63 63 mr_c1Tie mro7 :=
  wDp (wWk (wEqvB (wCallB (recv := 0) (pc := 80) (ix := 311) (nx := 3) (args := [.inl (lSy 6), .inl (lSy 5), .inl (lK 1)]) (rest := []) (LE := [(0, .inr (some 0)), (1, .inl (lSy 6)), (2, .inl (lSy 5)), (3, .inl (lK 1)), (4, .inl (lSy 26)), (5, .inl (lK 1))]) (cE := (lK 0)) (sE := (lK 0)) (wCallA (recv := 8) (pc := 113) (ix := 455) (nx := 3) (args := []) (rest := []) (LE := [(0, .inr (some 0)), (1, .inr (some 25)), (2, .inl (lSy 5)), (3, .inl (lSy 12)), (4, .inl (lSy 11)), (5, .inl (lSy 26))]) (cE := (lK 0)) (sE := (lK 0)) (wReL (XA := mrX7.2.1) (XB := mrX7.2.2.1) (XC := mrX7.2.2.2.1) (rk := mrX7.2.2.2.2) (rA := mrQA7) (rB := mrQB7) (st1_g0_G _ List.mem_cons_self) mrL7) gq64 gq69 (by decide +kernel) (by decide +kernel) (by decide +kernel) (by decide +kernel) (by decide +kernel)) gq203 gq205 (by decide +kernel) (by decide +kernel) (by decide +kernel) (by decide +kernel) (by decide +kernel)) (by decide +kernel) (by decide +kernel)) (by decide) (by decide) (by decide) (by decide +kernel) (by decide +kernel)) (by decide) (by decide)
theorem mrN8 {xs : Nat → Int32} {n : Nat} {sf : Option Nat} : wGoes x_KT x_tb x_tyl (x_otS xs n sf) lwFR lwGA.length lwGB.length 11 26 43 mrWA mrWB 64 203 63 63 mr_c1Til mro8 :=
  wDp (wWk (wEqvB (wCallB (recv := 0) (pc := 80) (ix := 311) (nx := 3) (args := [.inl (lSy 6), .inl (lSy 5), .inl (lK 1)]) (rest := []) (LE := [(0, .inr (some 0)), (1, .inl (lSy 6)), (2, .inl (lSy 5)), (3, .inl (lK 1)), (4, .inl (lSy 26)), (5, .inl (lK 1))]) (cE := (lK 0)) (sE := (lK 0)) (wCallA (recv := 8) (pc := 113) (ix := 455) (nx := 3) (args := []) (rest := []) (LE := [(0, .inr (some 0)), (1, .inr (some 25)), (2, .inl (lSy 5)), (3, .inl (lSy 12)), (4, .inl (lSy 11)), (5, .inl (lSy 26))]) (cE := (lK 0)) (sE := (lK 0)) (wReL (XA := mrX8.2.1) (XB := mrX8.2.2.1) (XC := mrX8.2.2.2.1) (rk := mrX8.2.2.2.2) (rA := mrQA8) (rB := mrQB8) (st1_g0_G _ List.mem_cons_self) mrL8) gq64 gq69 (by decide +kernel) (by decide +kernel) (by decide +kernel) (by decide +kernel) (by decide +kernel)) gq203 gq205 (by decide +kernel) (by decide +kernel) (by decide +kernel) (by decide +kernel) (by decide +kernel)) (by decide +kernel) (by decide +kernel)) (by decide) (by decide) (by decide) (by decide +kernel) (by decide +kernel)) (by decide) (by decide)
def st1_g1_nd : List wE := [st1_gen, st1_op0, st1_op1, st1_op2, st1_op3, st1_op4, st1_op5, st1_op6, st1_op7, st1_op8, st1_op9, st1_op10, st1_op11, st1_L0, st1_L1, st1_L2, st1_L3, st1_L4, st1_L5, st1_L6, st1_M, st1_M1, st1_F1, st1_M22, st1_F2]
theorem st1_g1_G {xs : Nat → Int32} {n : Nat} {sf : Option Nat} : ∀ nd ∈ st1_g1_nd, wGoes x_KT x_tb x_tyl (x_otS xs n sf) lwFR lwGA.length lwGB.length 34 42 44 st1WA st1WB 69 205 60 60 nd (st1_g1_ex.map (fun x => (false, x))) := wGraph (fun nd hnd => by
  have hnd : nd ∈ ([st1_gen, st1_op0, st1_op1, st1_op2, st1_op3, st1_op4, st1_op5, st1_op6, st1_op7, st1_op8, st1_op9, st1_op10, st1_op11, st1_L0, st1_L1, st1_L2, st1_L3, st1_L4, st1_L5, st1_L6, st1_M, st1_M1, st1_F1, st1_M22, st1_F2] : List wE) := hnd
  simp only [List.mem_cons, List.not_mem_nil, or_false] at hnd
  rcases hnd with rfl | rfl | rfl | rfl | rfl | rfl | rfl | rfl | rfl | rfl | rfl | rfl | rfl | rfl | rfl | rfl | rfl | rfl | rfl | rfl | rfl | rfl | rfl | rfl | rfl
  · refine ⟨st1o0, st1N0, fun o ho => ?_⟩
    have ho : o ∈ ([(true, st1_op0), (true, st1_op1), (true, st1_op2), (true, st1_op3), (true, st1_op4), (true, st1_op5), (true, st1_op6), (true, st1_op7), (true, st1_op8), (true, st1_op9), (true, st1_op10), (true, st1_op11)] : List (Bool × wE)) := ho
    simp only [List.mem_cons, List.not_mem_nil, or_false] at ho
    rcases ho with rfl | rfl | rfl | rfl | rfl | rfl | rfl | rfl | rfl | rfl | rfl | rfl
    · exact Or.inr ⟨rfl, List.mem_cons_of_mem _ (List.mem_cons_self)⟩
    · exact Or.inr ⟨rfl, List.mem_cons_of_mem _ (List.mem_cons_of_mem _ (List.mem_cons_self))⟩
    · exact Or.inr ⟨rfl, List.mem_cons_of_mem _ (List.mem_cons_of_mem _ (List.mem_cons_of_mem _ (List.mem_cons_self)))⟩
    · exact Or.inr ⟨rfl, List.mem_cons_of_mem _ (List.mem_cons_of_mem _ (List.mem_cons_of_mem _ (List.mem_cons_of_mem _ (List.mem_cons_self))))⟩
    · exact Or.inr ⟨rfl, List.mem_cons_of_mem _ (List.mem_cons_of_mem _ (List.mem_cons_of_mem _ (List.mem_cons_of_mem _ (List.mem_cons_of_mem _ (List.mem_cons_self)))))⟩
    · exact Or.inr ⟨rfl, List.mem_cons_of_mem _ (List.mem_cons_of_mem _ (List.mem_cons_of_mem _ (List.mem_cons_of_mem _ (List.mem_cons_of_mem _ (List.mem_cons_of_mem _ (List.mem_cons_self))))))⟩
    · exact Or.inr ⟨rfl, List.mem_cons_of_mem _ (List.mem_cons_of_mem _ (List.mem_cons_of_mem _ (List.mem_cons_of_mem _ (List.mem_cons_of_mem _ (List.mem_cons_of_mem _ (List.mem_cons_of_mem _ (List.mem_cons_self)))))))⟩
    · exact Or.inr ⟨rfl, List.mem_cons_of_mem _ (List.mem_cons_of_mem _ (List.mem_cons_of_mem _ (List.mem_cons_of_mem _ (List.mem_cons_of_mem _ (List.mem_cons_of_mem _ (List.mem_cons_of_mem _ (List.mem_cons_of_mem _ (List.mem_cons_self))))))))⟩
    · exact Or.inr ⟨rfl, List.mem_cons_of_mem _ (List.mem_cons_of_mem _ (List.mem_cons_of_mem _ (List.mem_cons_of_mem _ (List.mem_cons_of_mem _ (List.mem_cons_of_mem _ (List.mem_cons_of_mem _ (List.mem_cons_of_mem _ (List.mem_cons_of_mem _ (List.mem_cons_self)))))))))⟩
    · exact Or.inr ⟨rfl, List.mem_cons_of_mem _ (List.mem_cons_of_mem _ (List.mem_cons_of_mem _ (List.mem_cons_of_mem _ (List.mem_cons_of_mem _ (List.mem_cons_of_mem _ (List.mem_cons_of_mem _ (List.mem_cons_of_mem _ (List.mem_cons_of_mem _ (List.mem_cons_of_mem _ (List.mem_cons_self))))))))))⟩
    · exact Or.inr ⟨rfl, List.mem_cons_of_mem _ (List.mem_cons_of_mem _ (List.mem_cons_of_mem _ (List.mem_cons_of_mem _ (List.mem_cons_of_mem _ (List.mem_cons_of_mem _ (List.mem_cons_of_mem _ (List.mem_cons_of_mem _ (List.mem_cons_of_mem _ (List.mem_cons_of_mem _ (List.mem_cons_of_mem _ (List.mem_cons_self)))))))))))⟩
    · exact Or.inr ⟨rfl, List.mem_cons_of_mem _ (List.mem_cons_of_mem _ (List.mem_cons_of_mem _ (List.mem_cons_of_mem _ (List.mem_cons_of_mem _ (List.mem_cons_of_mem _ (List.mem_cons_of_mem _ (List.mem_cons_of_mem _ (List.mem_cons_of_mem _ (List.mem_cons_of_mem _ (List.mem_cons_of_mem _ (List.mem_cons_of_mem _ (List.mem_cons_self))))))))))))⟩
  · refine ⟨st1o15, st1N15, fun o ho => ?_⟩
    have ho : o ∈ ([(true, st1_L0)] : List (Bool × wE)) := ho
    simp only [List.mem_cons, List.not_mem_nil, or_false] at ho
    rcases ho with rfl
    · exact Or.inr ⟨rfl, List.mem_cons_of_mem _ (List.mem_cons_of_mem _ (List.mem_cons_of_mem _ (List.mem_cons_of_mem _ (List.mem_cons_of_mem _ (List.mem_cons_of_mem _ (List.mem_cons_of_mem _ (List.mem_cons_of_mem _ (List.mem_cons_of_mem _ (List.mem_cons_of_mem _ (List.mem_cons_of_mem _ (List.mem_cons_of_mem _ (List.mem_cons_of_mem _ (List.mem_cons_self)))))))))))))⟩
  · refine ⟨st1o17, st1N17, fun o ho => ?_⟩
    have ho : o ∈ ([(true, st1_L1)] : List (Bool × wE)) := ho
    simp only [List.mem_cons, List.not_mem_nil, or_false] at ho
    rcases ho with rfl
    · exact Or.inr ⟨rfl, List.mem_cons_of_mem _ (List.mem_cons_of_mem _ (List.mem_cons_of_mem _ (List.mem_cons_of_mem _ (List.mem_cons_of_mem _ (List.mem_cons_of_mem _ (List.mem_cons_of_mem _ (List.mem_cons_of_mem _ (List.mem_cons_of_mem _ (List.mem_cons_of_mem _ (List.mem_cons_of_mem _ (List.mem_cons_of_mem _ (List.mem_cons_of_mem _ (List.mem_cons_of_mem _ (List.mem_cons_self))))))))))))))⟩
  · refine ⟨st1o5, st1N5, fun o ho => ?_⟩
    have ho : o ∈ ([(true, st1_L2)] : List (Bool × wE)) := ho
    simp only [List.mem_cons, List.not_mem_nil, or_false] at ho
    rcases ho with rfl
    · exact Or.inr ⟨rfl, List.mem_cons_of_mem _ (List.mem_cons_of_mem _ (List.mem_cons_of_mem _ (List.mem_cons_of_mem _ (List.mem_cons_of_mem _ (List.mem_cons_of_mem _ (List.mem_cons_of_mem _ (List.mem_cons_of_mem _ (List.mem_cons_of_mem _ (List.mem_cons_of_mem _ (List.mem_cons_of_mem _ (List.mem_cons_of_mem _ (List.mem_cons_of_mem _ (List.mem_cons_of_mem _ (List.mem_cons_of_mem _ (List.mem_cons_self)))))))))))))))⟩
  · refine ⟨st1o21, st1N21, fun o ho => ?_⟩
    have ho : o ∈ ([(true, st1_L3)] : List (Bool × wE)) := ho
    simp only [List.mem_cons, List.not_mem_nil, or_false] at ho
    rcases ho with rfl
    · exact Or.inr ⟨rfl, List.mem_cons_of_mem _ (List.mem_cons_of_mem _ (List.mem_cons_of_mem _ (List.mem_cons_of_mem _ (List.mem_cons_of_mem _ (List.mem_cons_of_mem _ (List.mem_cons_of_mem _ (List.mem_cons_of_mem _ (List.mem_cons_of_mem _ (List.mem_cons_of_mem _ (List.mem_cons_of_mem _ (List.mem_cons_of_mem _ (List.mem_cons_of_mem _ (List.mem_cons_of_mem _ (List.mem_cons_of_mem _ (List.mem_cons_of_mem _ (List.mem_cons_self))))))))))))))))⟩
  · refine ⟨st1o23, st1N23, fun o ho => ?_⟩
    have ho : o ∈ ([(true, st1_L4)] : List (Bool × wE)) := ho
    simp only [List.mem_cons, List.not_mem_nil, or_false] at ho
    rcases ho with rfl
    · exact Or.inr ⟨rfl, List.mem_cons_of_mem _ (List.mem_cons_of_mem _ (List.mem_cons_of_mem _ (List.mem_cons_of_mem _ (List.mem_cons_of_mem _ (List.mem_cons_of_mem _ (List.mem_cons_of_mem _ (List.mem_cons_of_mem _ (List.mem_cons_of_mem _ (List.mem_cons_of_mem _ (List.mem_cons_of_mem _ (List.mem_cons_of_mem _ (List.mem_cons_of_mem _ (List.mem_cons_of_mem _ (List.mem_cons_of_mem _ (List.mem_cons_of_mem _ (List.mem_cons_of_mem _ (List.mem_cons_self)))))))))))))))))⟩
  · refine ⟨st1o25, st1N25, fun o ho => ?_⟩
    have ho : o ∈ ([(true, st1_L5)] : List (Bool × wE)) := ho
    simp only [List.mem_cons, List.not_mem_nil, or_false] at ho
    rcases ho with rfl
    · exact Or.inr ⟨rfl, List.mem_cons_of_mem _ (List.mem_cons_of_mem _ (List.mem_cons_of_mem _ (List.mem_cons_of_mem _ (List.mem_cons_of_mem _ (List.mem_cons_of_mem _ (List.mem_cons_of_mem _ (List.mem_cons_of_mem _ (List.mem_cons_of_mem _ (List.mem_cons_of_mem _ (List.mem_cons_of_mem _ (List.mem_cons_of_mem _ (List.mem_cons_of_mem _ (List.mem_cons_of_mem _ (List.mem_cons_of_mem _ (List.mem_cons_of_mem _ (List.mem_cons_of_mem _ (List.mem_cons_of_mem _ (List.mem_cons_self))))))))))))))))))⟩
  · refine ⟨st1o27, st1N27, fun o ho => ?_⟩
    have ho : o ∈ ([(true, st1_L6)] : List (Bool × wE)) := ho
    simp only [List.mem_cons, List.not_mem_nil, or_false] at ho
    rcases ho with rfl
    · exact Or.inr ⟨rfl, List.mem_cons_of_mem _ (List.mem_cons_of_mem _ (List.mem_cons_of_mem _ (List.mem_cons_of_mem _ (List.mem_cons_of_mem _ (List.mem_cons_of_mem _ (List.mem_cons_of_mem _ (List.mem_cons_of_mem _ (List.mem_cons_of_mem _ (List.mem_cons_of_mem _ (List.mem_cons_of_mem _ (List.mem_cons_of_mem _ (List.mem_cons_of_mem _ (List.mem_cons_of_mem _ (List.mem_cons_of_mem _ (List.mem_cons_of_mem _ (List.mem_cons_of_mem _ (List.mem_cons_of_mem _ (List.mem_cons_of_mem _ (List.mem_cons_self)))))))))))))))))))⟩
  · refine ⟨st1o29, st1N29, fun o ho => ?_⟩
    have ho : o ∈ ([(true, st1_M)] : List (Bool × wE)) := ho
    simp only [List.mem_cons, List.not_mem_nil, or_false] at ho
    rcases ho with rfl
    · exact Or.inr ⟨rfl, List.mem_cons_of_mem _ (List.mem_cons_of_mem _ (List.mem_cons_of_mem _ (List.mem_cons_of_mem _ (List.mem_cons_of_mem _ (List.mem_cons_of_mem _ (List.mem_cons_of_mem _ (List.mem_cons_of_mem _ (List.mem_cons_of_mem _ (List.mem_cons_of_mem _ (List.mem_cons_of_mem _ (List.mem_cons_of_mem _ (List.mem_cons_of_mem _ (List.mem_cons_of_mem _ (List.mem_cons_of_mem _ (List.mem_cons_of_mem _ (List.mem_cons_of_mem _ (List.mem_cons_of_mem _ (List.mem_cons_of_mem _ (List.mem_cons_of_mem _ (List.mem_cons_self))))))))))))))))))))⟩
  · refine ⟨st1o30, st1N30, fun o ho => ?_⟩
    have ho : o ∈ ([(true, st1_M)] : List (Bool × wE)) := ho
    simp only [List.mem_cons, List.not_mem_nil, or_false] at ho
    rcases ho with rfl
    · exact Or.inr ⟨rfl, List.mem_cons_of_mem _ (List.mem_cons_of_mem _ (List.mem_cons_of_mem _ (List.mem_cons_of_mem _ (List.mem_cons_of_mem _ (List.mem_cons_of_mem _ (List.mem_cons_of_mem _ (List.mem_cons_of_mem _ (List.mem_cons_of_mem _ (List.mem_cons_of_mem _ (List.mem_cons_of_mem _ (List.mem_cons_of_mem _ (List.mem_cons_of_mem _ (List.mem_cons_of_mem _ (List.mem_cons_of_mem _ (List.mem_cons_of_mem _ (List.mem_cons_of_mem _ (List.mem_cons_of_mem _ (List.mem_cons_of_mem _ (List.mem_cons_of_mem _ (List.mem_cons_self))))))))))))))))))))⟩
  · refine ⟨st1o13, st1N13, fun o ho => ?_⟩
    have ho : o ∈ ([(true, st1_M)] : List (Bool × wE)) := ho
    simp only [List.mem_cons, List.not_mem_nil, or_false] at ho
    rcases ho with rfl
    · exact Or.inr ⟨rfl, List.mem_cons_of_mem _ (List.mem_cons_of_mem _ (List.mem_cons_of_mem _ (List.mem_cons_of_mem _ (List.mem_cons_of_mem _ (List.mem_cons_of_mem _ (List.mem_cons_of_mem _ (List.mem_cons_of_mem _ (List.mem_cons_of_mem _ (List.mem_cons_of_mem _ (List.mem_cons_of_mem _ (List.mem_cons_of_mem _ (List.mem_cons_of_mem _ (List.mem_cons_of_mem _ (List.mem_cons_of_mem _ (List.mem_cons_of_mem _ (List.mem_cons_of_mem _ (List.mem_cons_of_mem _ (List.mem_cons_of_mem _ (List.mem_cons_of_mem _ (List.mem_cons_self))))))))))))))))))))⟩
  · refine ⟨st1o14, st1N14, fun o ho => ?_⟩
    have ho : o ∈ ([(false, st1_R), (false, st1_O)] : List (Bool × wE)) := ho
    simp only [List.mem_cons, List.not_mem_nil, or_false] at ho
    rcases ho with rfl | rfl
    · exact Or.inl (List.mem_cons_self)
    · exact Or.inl (List.mem_cons_of_mem _ (List.mem_cons_self))
  · refine ⟨st1o31, st1N31, fun o ho => ?_⟩
    have ho : o ∈ ([(true, st1_M)] : List (Bool × wE)) := ho
    simp only [List.mem_cons, List.not_mem_nil, or_false] at ho
    rcases ho with rfl
    · exact Or.inr ⟨rfl, List.mem_cons_of_mem _ (List.mem_cons_of_mem _ (List.mem_cons_of_mem _ (List.mem_cons_of_mem _ (List.mem_cons_of_mem _ (List.mem_cons_of_mem _ (List.mem_cons_of_mem _ (List.mem_cons_of_mem _ (List.mem_cons_of_mem _ (List.mem_cons_of_mem _ (List.mem_cons_of_mem _ (List.mem_cons_of_mem _ (List.mem_cons_of_mem _ (List.mem_cons_of_mem _ (List.mem_cons_of_mem _ (List.mem_cons_of_mem _ (List.mem_cons_of_mem _ (List.mem_cons_of_mem _ (List.mem_cons_of_mem _ (List.mem_cons_of_mem _ (List.mem_cons_self))))))))))))))))))))⟩
  · refine ⟨st1o16, st1N16, fun o ho => ?_⟩
    have ho : o ∈ ([(true, st1_M)] : List (Bool × wE)) := ho
    simp only [List.mem_cons, List.not_mem_nil, or_false] at ho
    rcases ho with rfl
    · exact Or.inr ⟨rfl, List.mem_cons_of_mem _ (List.mem_cons_of_mem _ (List.mem_cons_of_mem _ (List.mem_cons_of_mem _ (List.mem_cons_of_mem _ (List.mem_cons_of_mem _ (List.mem_cons_of_mem _ (List.mem_cons_of_mem _ (List.mem_cons_of_mem _ (List.mem_cons_of_mem _ (List.mem_cons_of_mem _ (List.mem_cons_of_mem _ (List.mem_cons_of_mem _ (List.mem_cons_of_mem _ (List.mem_cons_of_mem _ (List.mem_cons_of_mem _ (List.mem_cons_of_mem _ (List.mem_cons_of_mem _ (List.mem_cons_of_mem _ (List.mem_cons_of_mem _ (List.mem_cons_self))))))))))))))))))))⟩
  · refine ⟨st1o20, st1N20, fun o ho => ?_⟩
    have ho : o ∈ ([(true, st1_M1), (true, st1_F1)] : List (Bool × wE)) := ho
    simp only [List.mem_cons, List.not_mem_nil, or_false] at ho
    rcases ho with rfl | rfl
    · exact Or.inr ⟨rfl, List.mem_cons_of_mem _ (List.mem_cons_of_mem _ (List.mem_cons_of_mem _ (List.mem_cons_of_mem _ (List.mem_cons_of_mem _ (List.mem_cons_of_mem _ (List.mem_cons_of_mem _ (List.mem_cons_of_mem _ (List.mem_cons_of_mem _ (List.mem_cons_of_mem _ (List.mem_cons_of_mem _ (List.mem_cons_of_mem _ (List.mem_cons_of_mem _ (List.mem_cons_of_mem _ (List.mem_cons_of_mem _ (List.mem_cons_of_mem _ (List.mem_cons_of_mem _ (List.mem_cons_of_mem _ (List.mem_cons_of_mem _ (List.mem_cons_of_mem _ (List.mem_cons_of_mem _ (List.mem_cons_self)))))))))))))))))))))⟩
    · exact Or.inr ⟨rfl, List.mem_cons_of_mem _ (List.mem_cons_of_mem _ (List.mem_cons_of_mem _ (List.mem_cons_of_mem _ (List.mem_cons_of_mem _ (List.mem_cons_of_mem _ (List.mem_cons_of_mem _ (List.mem_cons_of_mem _ (List.mem_cons_of_mem _ (List.mem_cons_of_mem _ (List.mem_cons_of_mem _ (List.mem_cons_of_mem _ (List.mem_cons_of_mem _ (List.mem_cons_of_mem _ (List.mem_cons_of_mem _ (List.mem_cons_of_mem _ (List.mem_cons_of_mem _ (List.mem_cons_of_mem _ (List.mem_cons_of_mem _ (List.mem_cons_of_mem _ (List.mem_cons_of_mem _ (List.mem_cons_of_mem _ (List.mem_cons_self))))))))))))))))))))))⟩
  · refine ⟨st1o6, st1N6, fun o ho => ?_⟩
    have ho : o ∈ ([(true, st1_M22), (true, st1_F2)] : List (Bool × wE)) := ho
    simp only [List.mem_cons, List.not_mem_nil, or_false] at ho
    rcases ho with rfl | rfl
    · exact Or.inr ⟨rfl, List.mem_cons_of_mem _ (List.mem_cons_of_mem _ (List.mem_cons_of_mem _ (List.mem_cons_of_mem _ (List.mem_cons_of_mem _ (List.mem_cons_of_mem _ (List.mem_cons_of_mem _ (List.mem_cons_of_mem _ (List.mem_cons_of_mem _ (List.mem_cons_of_mem _ (List.mem_cons_of_mem _ (List.mem_cons_of_mem _ (List.mem_cons_of_mem _ (List.mem_cons_of_mem _ (List.mem_cons_of_mem _ (List.mem_cons_of_mem _ (List.mem_cons_of_mem _ (List.mem_cons_of_mem _ (List.mem_cons_of_mem _ (List.mem_cons_of_mem _ (List.mem_cons_of_mem _ (List.mem_cons_of_mem _ (List.mem_cons_of_mem _ (List.mem_cons_self)))))))))))))))))))))))⟩
    · exact Or.inr ⟨rfl, List.mem_cons_of_mem _ (List.mem_cons_of_mem _ (List.mem_cons_of_mem _ (List.mem_cons_of_mem _ (List.mem_cons_of_mem _ (List.mem_cons_of_mem _ (List.mem_cons_of_mem _ (List.mem_cons_of_mem _ (List.mem_cons_of_mem _ (List.mem_cons_of_mem _ (List.mem_cons_of_mem _ (List.mem_cons_of_mem _ (List.mem_cons_of_mem _ (List.mem_cons_of_mem _ (List.mem_cons_of_mem _ (List.mem_cons_of_mem _ (List.mem_cons_of_mem _ (List.mem_cons_of_mem _ (List.mem_cons_of_mem _ (List.mem_cons_of_mem _ (List.mem_cons_of_mem _ (List.mem_cons_of_mem _ (List.mem_cons_of_mem _ (List.mem_cons_of_mem _ (List.mem_cons_self))))))))))))))))))))))))⟩
  · refine ⟨st1o22, st1N22, fun o ho => ?_⟩
    have ho : o ∈ ([(true, st1_M)] : List (Bool × wE)) := ho
    simp only [List.mem_cons, List.not_mem_nil, or_false] at ho
    rcases ho with rfl
    · exact Or.inr ⟨rfl, List.mem_cons_of_mem _ (List.mem_cons_of_mem _ (List.mem_cons_of_mem _ (List.mem_cons_of_mem _ (List.mem_cons_of_mem _ (List.mem_cons_of_mem _ (List.mem_cons_of_mem _ (List.mem_cons_of_mem _ (List.mem_cons_of_mem _ (List.mem_cons_of_mem _ (List.mem_cons_of_mem _ (List.mem_cons_of_mem _ (List.mem_cons_of_mem _ (List.mem_cons_of_mem _ (List.mem_cons_of_mem _ (List.mem_cons_of_mem _ (List.mem_cons_of_mem _ (List.mem_cons_of_mem _ (List.mem_cons_of_mem _ (List.mem_cons_of_mem _ (List.mem_cons_self))))))))))))))))))))⟩
  · refine ⟨st1o24, st1N24, fun o ho => ?_⟩
    have ho : o ∈ ([(true, st1_M)] : List (Bool × wE)) := ho
    simp only [List.mem_cons, List.not_mem_nil, or_false] at ho
    rcases ho with rfl
    · exact Or.inr ⟨rfl, List.mem_cons_of_mem _ (List.mem_cons_of_mem _ (List.mem_cons_of_mem _ (List.mem_cons_of_mem _ (List.mem_cons_of_mem _ (List.mem_cons_of_mem _ (List.mem_cons_of_mem _ (List.mem_cons_of_mem _ (List.mem_cons_of_mem _ (List.mem_cons_of_mem _ (List.mem_cons_of_mem _ (List.mem_cons_of_mem _ (List.mem_cons_of_mem _ (List.mem_cons_of_mem _ (List.mem_cons_of_mem _ (List.mem_cons_of_mem _ (List.mem_cons_of_mem _ (List.mem_cons_of_mem _ (List.mem_cons_of_mem _ (List.mem_cons_of_mem _ (List.mem_cons_self))))))))))))))))))))⟩
  · refine ⟨st1o26, st1N26, fun o ho => ?_⟩
    have ho : o ∈ ([(true, st1_M)] : List (Bool × wE)) := ho
    simp only [List.mem_cons, List.not_mem_nil, or_false] at ho
    rcases ho with rfl
    · exact Or.inr ⟨rfl, List.mem_cons_of_mem _ (List.mem_cons_of_mem _ (List.mem_cons_of_mem _ (List.mem_cons_of_mem _ (List.mem_cons_of_mem _ (List.mem_cons_of_mem _ (List.mem_cons_of_mem _ (List.mem_cons_of_mem _ (List.mem_cons_of_mem _ (List.mem_cons_of_mem _ (List.mem_cons_of_mem _ (List.mem_cons_of_mem _ (List.mem_cons_of_mem _ (List.mem_cons_of_mem _ (List.mem_cons_of_mem _ (List.mem_cons_of_mem _ (List.mem_cons_of_mem _ (List.mem_cons_of_mem _ (List.mem_cons_of_mem _ (List.mem_cons_of_mem _ (List.mem_cons_self))))))))))))))))))))⟩
  · refine ⟨st1o28, st1N28, fun o ho => ?_⟩
    have ho : o ∈ ([(true, st1_M)] : List (Bool × wE)) := ho
    simp only [List.mem_cons, List.not_mem_nil, or_false] at ho
    rcases ho with rfl
    · exact Or.inr ⟨rfl, List.mem_cons_of_mem _ (List.mem_cons_of_mem _ (List.mem_cons_of_mem _ (List.mem_cons_of_mem _ (List.mem_cons_of_mem _ (List.mem_cons_of_mem _ (List.mem_cons_of_mem _ (List.mem_cons_of_mem _ (List.mem_cons_of_mem _ (List.mem_cons_of_mem _ (List.mem_cons_of_mem _ (List.mem_cons_of_mem _ (List.mem_cons_of_mem _ (List.mem_cons_of_mem _ (List.mem_cons_of_mem _ (List.mem_cons_of_mem _ (List.mem_cons_of_mem _ (List.mem_cons_of_mem _ (List.mem_cons_of_mem _ (List.mem_cons_of_mem _ (List.mem_cons_self))))))))))))))))))))⟩
  · refine ⟨st1o4, st1N4, fun o ho => ?_⟩
    have ho : o ∈ ([(false, st1_R), (false, st1_O)] : List (Bool × wE)) := ho
    simp only [List.mem_cons, List.not_mem_nil, or_false] at ho
    rcases ho with rfl | rfl
    · exact Or.inl (List.mem_cons_self)
    · exact Or.inl (List.mem_cons_of_mem _ (List.mem_cons_self))
  · refine ⟨st1o19, st1N19, fun o ho => ?_⟩
    have ho : o ∈ ([(true, st1_M)] : List (Bool × wE)) := ho
    simp only [List.mem_cons, List.not_mem_nil, or_false] at ho
    rcases ho with rfl
    · exact Or.inr ⟨rfl, List.mem_cons_of_mem _ (List.mem_cons_of_mem _ (List.mem_cons_of_mem _ (List.mem_cons_of_mem _ (List.mem_cons_of_mem _ (List.mem_cons_of_mem _ (List.mem_cons_of_mem _ (List.mem_cons_of_mem _ (List.mem_cons_of_mem _ (List.mem_cons_of_mem _ (List.mem_cons_of_mem _ (List.mem_cons_of_mem _ (List.mem_cons_of_mem _ (List.mem_cons_of_mem _ (List.mem_cons_of_mem _ (List.mem_cons_of_mem _ (List.mem_cons_of_mem _ (List.mem_cons_of_mem _ (List.mem_cons_of_mem _ (List.mem_cons_of_mem _ (List.mem_cons_self))))))))))))))))))))⟩
  · refine ⟨st1o18, st1N18, fun o ho => ?_⟩
    have ho : o ∈ ([(false, st1_O)] : List (Bool × wE)) := ho
    simp only [List.mem_cons, List.not_mem_nil, or_false] at ho
    rcases ho with rfl
    · exact Or.inl (List.mem_cons_of_mem _ (List.mem_cons_self))
  · refine ⟨st1o7, st1N7, fun o ho => ?_⟩
    have ho : o ∈ ([(false, st1_WR), (false, st1_WE), (false, st1_WL)] : List (Bool × wE)) := ho
    simp only [List.mem_cons, List.not_mem_nil, or_false] at ho
    rcases ho with rfl | rfl | rfl
    · exact Or.inl (List.mem_cons_of_mem _ (List.mem_cons_of_mem _ (List.mem_cons_self)))
    · exact Or.inl (List.mem_cons_of_mem _ (List.mem_cons_of_mem _ (List.mem_cons_of_mem _ (List.mem_cons_self))))
    · exact Or.inl (List.mem_cons_of_mem _ (List.mem_cons_of_mem _ (List.mem_cons_of_mem _ (List.mem_cons_of_mem _ (List.mem_cons_self)))))
  · refine ⟨st1o8, st1N8, fun o ho => ?_⟩
    have ho : o ∈ ([(false, st1_FU)] : List (Bool × wE)) := ho
    simp only [List.mem_cons, List.not_mem_nil, or_false] at ho
    rcases ho with rfl
    · exact Or.inl (List.mem_cons_of_mem _ (List.mem_cons_of_mem _ (List.mem_cons_of_mem _ (List.mem_cons_of_mem _ (List.mem_cons_of_mem _ (List.mem_cons_self)))))))
theorem mrN9 {xs : Nat → Int32} {n : Nat} {sf : Option Nat} : wGoes x_KT x_tb x_tyl (x_otS xs n sf) lwFR lwGA.length lwGB.length 11 26 43 mrWA mrWB 64 203 63 63 mr_c1Tar mro9 :=
  wDp (wWk (wEqvB (wCallB (recv := 0) (pc := 80) (ix := 311) (nx := 3) (args := [.inl (lSy 6), .inl (lSy 5), .inl (lK 1)]) (rest := []) (LE := [(0, .inr (some 0)), (1, .inl (lSy 6)), (2, .inl (lSy 5)), (3, .inl (lK 1)), (4, .inl (lSy 26)), (5, .inl (lK 0))]) (cE := (lK 0)) (sE := (lK 0)) (wCallA (recv := 8) (pc := 113) (ix := 455) (nx := 3) (args := []) (rest := []) (LE := [(0, .inr (some 0)), (1, .inr (some 25)), (2, .inl (lSy 5)), (3, .inl (lSy 12)), (4, .inl (lSy 11)), (5, .inl (lSy 26))]) (cE := (lK 0)) (sE := (lK 0)) (wReL (XA := mrX9.2.1) (XB := mrX9.2.2.1) (XC := mrX9.2.2.2.1) (rk := mrX9.2.2.2.2) (rA := mrQA9) (rB := mrQB9) (st1_g1_G _ List.mem_cons_self) mrL9) gq64 gq69 (by decide +kernel) (by decide +kernel) (by decide +kernel) (by decide +kernel) (by decide +kernel)) gq203 gq205 (by decide +kernel) (by decide +kernel) (by decide +kernel) (by decide +kernel) (by decide +kernel)) (by decide +kernel) (by decide +kernel)) (by decide) (by decide) (by decide) (by decide +kernel) (by decide +kernel)) (by decide) (by decide)
theorem mrN10 {xs : Nat → Int32} {n : Nat} {sf : Option Nat} : wGoes x_KT x_tb x_tyl (x_otS xs n sf) lwFR lwGA.length lwGB.length 11 26 43 mrWA mrWB 64 203 63 63 mr_c1Tao mro10 :=
  wDp (wWk (wEqvB (wCallB (recv := 0) (pc := 80) (ix := 311) (nx := 3) (args := [.inl (lSy 6), .inl (lSy 5), .inl (lK 1)]) (rest := []) (LE := [(0, .inr (some 0)), (1, .inl (lSy 6)), (2, .inl (lSy 5)), (3, .inl (lK 1)), (4, .inl (lSy 26)), (5, .inl (lK 0))]) (cE := (lK 0)) (sE := (lK 0)) (wCallA (recv := 8) (pc := 113) (ix := 455) (nx := 3) (args := []) (rest := []) (LE := [(0, .inr (some 0)), (1, .inr (some 25)), (2, .inl (lSy 5)), (3, .inl (lSy 12)), (4, .inl (lSy 11)), (5, .inl (lSy 26))]) (cE := (lK 0)) (sE := (lK 0)) (wReL (XA := mrX10.2.1) (XB := mrX10.2.2.1) (XC := mrX10.2.2.2.1) (rk := mrX10.2.2.2.2) (rA := mrQA10) (rB := mrQB10) (st1_g1_G _ List.mem_cons_self) mrL10) gq64 gq69 (by decide +kernel) (by decide +kernel) (by decide +kernel) (by decide +kernel) (by decide +kernel)) gq203 gq205 (by decide +kernel) (by decide +kernel) (by decide +kernel) (by decide +kernel) (by decide +kernel)) (by decide +kernel) (by decide +kernel)) (by decide) (by decide) (by decide) (by decide +kernel) (by decide +kernel)) (by decide) (by decide)
theorem mrN11 {xs : Nat → Int32} {n : Nat} {sf : Option Nat} : wGoes x_KT x_tb x_tyl (x_otS xs n sf) lwFR lwGA.length lwGB.length 11 26 43 mrWA mrWB 64 203 63 63 mr_c1Tb mro11 :=
  wDp (wWk (wEqvB (wCallB (recv := 0) (pc := 80) (ix := 311) (nx := 3) (args := [.inl (lSy 6), .inl (lSy 5), .inl (lK 1)]) (rest := []) (LE := [(0, .inr (some 0)), (1, .inl (lSy 6)), (2, .inl (lSy 5)), (3, .inl (lK 1)), (4, .inl (lSy 26)), (5, .inl (lK 1))]) (cE := (lK 0)) (sE := (lK 0)) (wCallA (recv := 8) (pc := 113) (ix := 455) (nx := 3) (args := []) (rest := []) (LE := [(0, .inr (some 0)), (1, .inr (some 25)), (2, .inl (lSy 5)), (3, .inl (lSy 12)), (4, .inl (lSy 11)), (5, .inl (lSy 26))]) (cE := (lK 0)) (sE := (lK 0)) (wReL (XA := mrX11.2.1) (XB := mrX11.2.2.1) (XC := mrX11.2.2.2.1) (rk := mrX11.2.2.2.2) (rA := mrQA11) (rB := mrQB11) (st1_g1_G _ List.mem_cons_self) mrL11) gq64 gq69 (by decide +kernel) (by decide +kernel) (by decide +kernel) (by decide +kernel) (by decide +kernel)) gq203 gq205 (by decide +kernel) (by decide +kernel) (by decide +kernel) (by decide +kernel) (by decide +kernel)) (by decide +kernel) (by decide +kernel)) (by decide) (by decide) (by decide) (by decide +kernel) (by decide +kernel)) (by decide) (by decide)
theorem mrN12 {xs : Nat → Int32} {n : Nat} {sf : Option Nat} : wGoes x_KT x_tb x_tyl (x_otS xs n sf) lwFR lwGA.length lwGB.length 11 26 43 mrWA mrWB 64 203 63 63 mr_c0Tou_WR mro12 :=
  wDp (wWk (wEd_spec (x_ov0_le sf) u_ctS lwFRok mrE12) (Nat.le_refl _) (Nat.le_refl _) (Nat.le_refl _) (by decide +kernel) (by decide +kernel)) (by decide) (by decide)
theorem mrN13 {xs : Nat → Int32} {n : Nat} {sf : Option Nat} : wGoes x_KT x_tb x_tyl (x_otS xs n sf) lwFR lwGA.length lwGB.length 11 26 43 mrWA mrWB 64 203 63 63 mr_c0Tou_WE mro13 :=
  wDp (wWk (wEd_spec (x_ov0_le sf) u_ctS lwFRok mrE13) (Nat.le_refl _) (Nat.le_refl _) (Nat.le_refl _) (by decide +kernel) (by decide +kernel)) (by decide) (by decide)
theorem mrN14 {xs : Nat → Int32} {n : Nat} {sf : Option Nat} : wGoes x_KT x_tb x_tyl (x_otS xs n sf) lwFR lwGA.length lwGB.length 11 26 43 mrWA mrWB 64 203 63 63 mr_c0Tou_WL mro14 :=
  wDp (wWk (wEd_spec (x_ov0_le sf) u_ctS lwFRok mrE14) (Nat.le_refl _) (Nat.le_refl _) (Nat.le_refl _) (by decide +kernel) (by decide +kernel)) (by decide) (by decide)
theorem mrN15 {xs : Nat → Int32} {n : Nat} {sf : Option Nat} : wGoes x_KT x_tb x_tyl (x_otS xs n sf) lwFR lwGA.length lwGB.length 11 26 43 mrWA mrWB 64 203 63 63 mr_c0Tou_FU mro15 :=
  wDp (wWk (wEd_spec (x_ov0_le sf) u_ctS lwFRok mrE15) (Nat.le_refl _) (Nat.le_refl _) (Nat.le_refl _) (by decide +kernel) (by decide +kernel)) (by decide) (by decide)
theorem mrN16 {xs : Nat → Int32} {n : Nat} {sf : Option Nat} : wGoes x_KT x_tb x_tyl (x_otS xs n sf) lwFR lwGA.length lwGB.length 11 26 43 mrWA mrWB 64 203 63 63 mr_c0Tlo_R mro16 :=
  wDp (wWk (wEd_spec (x_ov0_le sf) u_ctS lwFRok mrE16) (Nat.le_refl _) (Nat.le_refl _) (Nat.le_refl _) (by decide +kernel) (by decide +kernel)) (by decide) (by decide)
theorem mrN17 {xs : Nat → Int32} {n : Nat} {sf : Option Nat} : wGoes x_KT x_tb x_tyl (x_otS xs n sf) lwFR lwGA.length lwGB.length 11 26 43 mrWA mrWB 64 203 63 63 mr_c0Tlo_O mro17 :=
  wDp (wWk (wEd_spec (x_ov0_le sf) u_ctS lwFRok mrE17) (Nat.le_refl _) (Nat.le_refl _) (Nat.le_refl _) (by decide +kernel) (by decide +kernel)) (by decide) (by decide)
theorem mrN18 {xs : Nat → Int32} {n : Nat} {sf : Option Nat} : wGoes x_KT x_tb x_tyl (x_otS xs n sf) lwFR lwGA.length lwGB.length 11 26 43 mrWA mrWB 64 203 63 63 mr_c0Thi_R mro18 :=
  wDp (wWk (wEd_spec (x_ov0_le sf) u_ctS lwFRok mrE18) (Nat.le_refl _) (Nat.le_refl _) (Nat.le_refl _) (by decide +kernel) (by decide +kernel)) (by decide) (by decide)
theorem mrN19 {xs : Nat → Int32} {n : Nat} {sf : Option Nat} : wGoes x_KT x_tb x_tyl (x_otS xs n sf) lwFR lwGA.length lwGB.length 11 26 43 mrWA mrWB 64 203 63 63 mr_c0Thi_O mro19 :=
  wDp (wWk (wEd_spec (x_ov0_le sf) u_ctS lwFRok mrE19) (Nat.le_refl _) (Nat.le_refl _) (Nat.le_refl _) (by decide +kernel) (by decide +kernel)) (by decide) (by decide)
theorem mrN20 {xs : Nat → Int32} {n : Nat} {sf : Option Nat} : wGoes x_KT x_tb x_tyl (x_otS xs n sf) lwFR lwGA.length lwGB.length 11 26 43 mrWA mrWB 64 203 63 63 mr_c1Tir_WRi mro20 :=
  wDp (wWk (wEd_spec (x_ov0_le sf) u_ctS lwFRok mrE20) (Nat.le_refl _) (Nat.le_refl _) (Nat.le_refl _) (by decide +kernel) (by decide +kernel)) (by decide) (by decide)
theorem mrN21 {xs : Nat → Int32} {n : Nat} {sf : Option Nat} : wGoes x_KT x_tb x_tyl (x_otS xs n sf) lwFR lwGA.length lwGB.length 11 26 43 mrWA mrWB 64 203 63 63 mr_c1Tir_WEi mro21 :=
  wDp (wWk (wEd_spec (x_ov0_le sf) u_ctS lwFRok mrE21) (Nat.le_refl _) (Nat.le_refl _) (Nat.le_refl _) (by decide +kernel) (by decide +kernel)) (by decide) (by decide)
theorem mrN22 {xs : Nat → Int32} {n : Nat} {sf : Option Nat} : wGoes x_KT x_tb x_tyl (x_otS xs n sf) lwFR lwGA.length lwGB.length 11 26 43 mrWA mrWB 64 203 63 63 mr_c1Tir_WLi mro22 :=
  wDp (wWk (wEd_spec (x_ov0_le sf) u_ctS lwFRok mrE22) (Nat.le_refl _) (Nat.le_refl _) (Nat.le_refl _) (by decide +kernel) (by decide +kernel)) (by decide) (by decide)
theorem mrN23 {xs : Nat → Int32} {n : Nat} {sf : Option Nat} : wGoes x_KT x_tb x_tyl (x_otS xs n sf) lwFR lwGA.length lwGB.length 11 26 43 mrWA mrWB 64 203 63 63 mr_c1Tir_FUi mro23 :=
  wDp (wWk (wEd_spec (x_ov0_le sf) u_ctS lwFRok mrE23) (Nat.le_refl _) (Nat.le_refl _) (Nat.le_refl _) (by decide +kernel) (by decide +kernel)) (by decide) (by decide)
theorem mrN24 {xs : Nat → Int32} {n : Nat} {sf : Option Nat} : wGoes x_KT x_tb x_tyl (x_otS xs n sf) lwFR lwGA.length lwGB.length 11 26 43 mrWA mrWB 64 203 63 63 mr_c1Tie_WRi mro24 :=
  wDp (wWk (wEd_spec (x_ov0_le sf) u_ctS lwFRok mrE24) (Nat.le_refl _) (Nat.le_refl _) (Nat.le_refl _) (by decide +kernel) (by decide +kernel)) (by decide) (by decide)
theorem mrN25 {xs : Nat → Int32} {n : Nat} {sf : Option Nat} : wGoes x_KT x_tb x_tyl (x_otS xs n sf) lwFR lwGA.length lwGB.length 11 26 43 mrWA mrWB 64 203 63 63 mr_c1Tie_WEi mro25 :=
  wDp (wWk (wEd_spec (x_ov0_le sf) u_ctS lwFRok mrE25) (Nat.le_refl _) (Nat.le_refl _) (Nat.le_refl _) (by decide +kernel) (by decide +kernel)) (by decide) (by decide)
theorem mrN26 {xs : Nat → Int32} {n : Nat} {sf : Option Nat} : wGoes x_KT x_tb x_tyl (x_otS xs n sf) lwFR lwGA.length lwGB.length 11 26 43 mrWA mrWB 64 203 63 63 mr_c1Tie_WLi mro26 :=
  wDp (wWk (wEd_spec (x_ov0_le sf) u_ctS lwFRok mrE26) (Nat.le_refl _) (Nat.le_refl _) (Nat.le_refl _) (by decide +kernel) (by decide +kernel)) (by decide) (by decide)
theorem mrN27 {xs : Nat → Int32} {n : Nat} {sf : Option Nat} : wGoes x_KT x_tb x_tyl (x_otS xs n sf) lwFR lwGA.length lwGB.length 11 26 43 mrWA mrWB 64 203 63 63 mr_c1Tie_FUi mro27 :=
  wDp (wWk (wEd_spec (x_ov0_le sf) u_ctS lwFRok mrE27) (Nat.le_refl _) (Nat.le_refl _) (Nat.le_refl _) (by decide +kernel) (by decide +kernel)) (by decide) (by decide)
theorem mrN28 {xs : Nat → Int32} {n : Nat} {sf : Option Nat} : wGoes x_KT x_tb x_tyl (x_otS xs n sf) lwFR lwGA.length lwGB.length 11 26 43 mrWA mrWB 64 203 63 63 mr_c1Til_WRi mro28 :=
  wDp (wWk (wEd_spec (x_ov0_le sf) u_ctS lwFRok mrE28) (Nat.le_refl _) (Nat.le_refl _) (Nat.le_refl _) (by decide +kernel) (by decide +kernel)) (by decide) (by decide)
theorem mrN29 {xs : Nat → Int32} {n : Nat} {sf : Option Nat} : wGoes x_KT x_tb x_tyl (x_otS xs n sf) lwFR lwGA.length lwGB.length 11 26 43 mrWA mrWB 64 203 63 63 mr_c1Til_WEi mro29 :=
  wDp (wWk (wEd_spec (x_ov0_le sf) u_ctS lwFRok mrE29) (Nat.le_refl _) (Nat.le_refl _) (Nat.le_refl _) (by decide +kernel) (by decide +kernel)) (by decide) (by decide)
theorem mrN30 {xs : Nat → Int32} {n : Nat} {sf : Option Nat} : wGoes x_KT x_tb x_tyl (x_otS xs n sf) lwFR lwGA.length lwGB.length 11 26 43 mrWA mrWB 64 203 63 63 mr_c1Til_WLi mro30 :=
  wDp (wWk (wEd_spec (x_ov0_le sf) u_ctS lwFRok mrE30) (Nat.le_refl _) (Nat.le_refl _) (Nat.le_refl _) (by decide +kernel) (by decide +kernel)) (by decide) (by decide)
theorem mrN31 {xs : Nat → Int32} {n : Nat} {sf : Option Nat} : wGoes x_KT x_tb x_tyl (x_otS xs n sf) lwFR lwGA.length lwGB.length 11 26 43 mrWA mrWB 64 203 63 63 mr_c1Til_FUi mro31 :=
  wDp (wWk (wEd_spec (x_ov0_le sf) u_ctS lwFRok mrE31) (Nat.le_refl _) (Nat.le_refl _) (Nat.le_refl _) (by decide +kernel) (by decide +kernel)) (by decide) (by decide)
theorem mrN32 {xs : Nat → Int32} {n : Nat} {sf : Option Nat} : wGoes x_KT x_tb x_tyl (x_otS xs n sf) lwFR lwGA.length lwGB.length 11 26 43 mrWA mrWB 64 203 63 63 mr_c1Tar_R mro32 :=
  wDp (wWk (wEd_spec (x_ov0_le sf) u_ctS lwFRok mrE32) (Nat.le_refl _) (Nat.le_refl _) (Nat.le_refl _) (by decide +kernel) (by decide +kernel)) (by decide) (by decide)
theorem mrN33 {xs : Nat → Int32} {n : Nat} {sf : Option Nat} : wGoes x_KT x_tb x_tyl (x_otS xs n sf) lwFR lwGA.length lwGB.length 11 26 43 mrWA mrWB 64 203 63 63 mr_c1Tar_O mro33 :=
  wDp (wWk (wEd_spec (x_ov0_le sf) u_ctS lwFRok mrE33) (Nat.le_refl _) (Nat.le_refl _) (Nat.le_refl _) (by decide +kernel) (by decide +kernel)) (by decide) (by decide)
theorem mrN34 {xs : Nat → Int32} {n : Nat} {sf : Option Nat} : wGoes x_KT x_tb x_tyl (x_otS xs n sf) lwFR lwGA.length lwGB.length 11 26 43 mrWA mrWB 64 203 63 63 mr_c1Tar_WR mro34 :=
  wDp (wWk (wEd_spec (x_ov0_le sf) u_ctS lwFRok mrE34) (Nat.le_refl _) (Nat.le_refl _) (Nat.le_refl _) (by decide +kernel) (by decide +kernel)) (by decide) (by decide)
theorem mrN35 {xs : Nat → Int32} {n : Nat} {sf : Option Nat} : wGoes x_KT x_tb x_tyl (x_otS xs n sf) lwFR lwGA.length lwGB.length 11 26 43 mrWA mrWB 64 203 63 63 mr_c1Tar_WE mro35 :=
  wDp (wWk (wEd_spec (x_ov0_le sf) u_ctS lwFRok mrE35) (Nat.le_refl _) (Nat.le_refl _) (Nat.le_refl _) (by decide +kernel) (by decide +kernel)) (by decide) (by decide)
theorem mrN36 {xs : Nat → Int32} {n : Nat} {sf : Option Nat} : wGoes x_KT x_tb x_tyl (x_otS xs n sf) lwFR lwGA.length lwGB.length 11 26 43 mrWA mrWB 64 203 63 63 mr_c1Tar_WL mro36 :=
  wDp (wWk (wEd_spec (x_ov0_le sf) u_ctS lwFRok mrE36) (Nat.le_refl _) (Nat.le_refl _) (Nat.le_refl _) (by decide +kernel) (by decide +kernel)) (by decide) (by decide)
theorem mrN37 {xs : Nat → Int32} {n : Nat} {sf : Option Nat} : wGoes x_KT x_tb x_tyl (x_otS xs n sf) lwFR lwGA.length lwGB.length 11 26 43 mrWA mrWB 64 203 63 63 mr_c1Tar_FU mro37 :=
  wDp (wWk (wEd_spec (x_ov0_le sf) u_ctS lwFRok mrE37) (Nat.le_refl _) (Nat.le_refl _) (Nat.le_refl _) (by decide +kernel) (by decide +kernel)) (by decide) (by decide)
theorem mrN38 {xs : Nat → Int32} {n : Nat} {sf : Option Nat} : wGoes x_KT x_tb x_tyl (x_otS xs n sf) lwFR lwGA.length lwGB.length 11 26 43 mrWA mrWB 64 203 63 63 mr_c1Tao_R mro38 :=
  wDp (wWk (wEd_spec (x_ov0_le sf) u_ctS lwFRok mrE38) (Nat.le_refl _) (Nat.le_refl _) (Nat.le_refl _) (by decide +kernel) (by decide +kernel)) (by decide) (by decide)
theorem mrN39 {xs : Nat → Int32} {n : Nat} {sf : Option Nat} : wGoes x_KT x_tb x_tyl (x_otS xs n sf) lwFR lwGA.length lwGB.length 11 26 43 mrWA mrWB 64 203 63 63 mr_c1Tao_O mro39 :=
  wDp (wWk (wEd_spec (x_ov0_le sf) u_ctS lwFRok mrE39) (Nat.le_refl _) (Nat.le_refl _) (Nat.le_refl _) (by decide +kernel) (by decide +kernel)) (by decide) (by decide)
theorem mrN40 {xs : Nat → Int32} {n : Nat} {sf : Option Nat} : wGoes x_KT x_tb x_tyl (x_otS xs n sf) lwFR lwGA.length lwGB.length 11 26 43 mrWA mrWB 64 203 63 63 mr_c1Tao_WR mro40 :=
  wDp (wWk (wEd_spec (x_ov0_le sf) u_ctS lwFRok mrE40) (Nat.le_refl _) (Nat.le_refl _) (Nat.le_refl _) (by decide +kernel) (by decide +kernel)) (by decide) (by decide)
theorem mrN41 {xs : Nat → Int32} {n : Nat} {sf : Option Nat} : wGoes x_KT x_tb x_tyl (x_otS xs n sf) lwFR lwGA.length lwGB.length 11 26 43 mrWA mrWB 64 203 63 63 mr_c1Tao_WE mro41 :=
  wDp (wWk (wEd_spec (x_ov0_le sf) u_ctS lwFRok mrE41) (Nat.le_refl _) (Nat.le_refl _) (Nat.le_refl _) (by decide +kernel) (by decide +kernel)) (by decide) (by decide)
theorem mrN42 {xs : Nat → Int32} {n : Nat} {sf : Option Nat} : wGoes x_KT x_tb x_tyl (x_otS xs n sf) lwFR lwGA.length lwGB.length 11 26 43 mrWA mrWB 64 203 63 63 mr_c1Tao_WL mro42 :=
  wDp (wWk (wEd_spec (x_ov0_le sf) u_ctS lwFRok mrE42) (Nat.le_refl _) (Nat.le_refl _) (Nat.le_refl _) (by decide +kernel) (by decide +kernel)) (by decide) (by decide)
theorem mrN43 {xs : Nat → Int32} {n : Nat} {sf : Option Nat} : wGoes x_KT x_tb x_tyl (x_otS xs n sf) lwFR lwGA.length lwGB.length 11 26 43 mrWA mrWB 64 203 63 63 mr_c1Tao_FU mro43 :=
  wDp (wWk (wEd_spec (x_ov0_le sf) u_ctS lwFRok mrE43) (Nat.le_refl _) (Nat.le_refl _) (Nat.le_refl _) (by decide +kernel) (by decide +kernel)) (by decide) (by decide)
theorem mrN44 {xs : Nat → Int32} {n : Nat} {sf : Option Nat} : wGoes x_KT x_tb x_tyl (x_otS xs n sf) lwFR lwGA.length lwGB.length 11 26 43 mrWA mrWB 64 203 63 63 mr_c1Tb_R mro44 :=
  wDp (wWk (wEd_spec (x_ov0_le sf) u_ctS lwFRok mrE44) (Nat.le_refl _) (Nat.le_refl _) (Nat.le_refl _) (by decide +kernel) (by decide +kernel)) (by decide) (by decide)
theorem mrN45 {xs : Nat → Int32} {n : Nat} {sf : Option Nat} : wGoes x_KT x_tb x_tyl (x_otS xs n sf) lwFR lwGA.length lwGB.length 11 26 43 mrWA mrWB 64 203 63 63 mr_c1Tb_O mro45 :=
  wDp (wWk (wEd_spec (x_ov0_le sf) u_ctS lwFRok mrE45) (Nat.le_refl _) (Nat.le_refl _) (Nat.le_refl _) (by decide +kernel) (by decide +kernel)) (by decide) (by decide)
theorem mrN46 {xs : Nat → Int32} {n : Nat} {sf : Option Nat} : wGoes x_KT x_tb x_tyl (x_otS xs n sf) lwFR lwGA.length lwGB.length 11 26 43 mrWA mrWB 64 203 63 63 mr_c1Tb_WR mro46 :=
  wDp (wWk (wEd_spec (x_ov0_le sf) u_ctS lwFRok mrE46) (Nat.le_refl _) (Nat.le_refl _) (Nat.le_refl _) (by decide +kernel) (by decide +kernel)) (by decide) (by decide)
theorem mrN47 {xs : Nat → Int32} {n : Nat} {sf : Option Nat} : wGoes x_KT x_tb x_tyl (x_otS xs n sf) lwFR lwGA.length lwGB.length 11 26 43 mrWA mrWB 64 203 63 63 mr_c1Tb_WE mro47 :=
  wDp (wWk (wEd_spec (x_ov0_le sf) u_ctS lwFRok mrE47) (Nat.le_refl _) (Nat.le_refl _) (Nat.le_refl _) (by decide +kernel) (by decide +kernel)) (by decide) (by decide)
theorem mrN48 {xs : Nat → Int32} {n : Nat} {sf : Option Nat} : wGoes x_KT x_tb x_tyl (x_otS xs n sf) lwFR lwGA.length lwGB.length 11 26 43 mrWA mrWB 64 203 63 63 mr_c1Tb_WL mro48 :=
  wDp (wWk (wEd_spec (x_ov0_le sf) u_ctS lwFRok mrE48) (Nat.le_refl _) (Nat.le_refl _) (Nat.le_refl _) (by decide +kernel) (by decide +kernel)) (by decide) (by decide)
theorem mrN49 {xs : Nat → Int32} {n : Nat} {sf : Option Nat} : wGoes x_KT x_tb x_tyl (x_otS xs n sf) lwFR lwGA.length lwGB.length 11 26 43 mrWA mrWB 64 203 63 63 mr_c1Tb_FU mro49 :=
  wDp (wWk (wEd_spec (x_ov0_le sf) u_ctS lwFRok mrE49) (Nat.le_refl _) (Nat.le_refl _) (Nat.le_refl _) (by decide +kernel) (by decide +kernel)) (by decide) (by decide)
def st0_g3_nd : List wE := [st0_gen, st0_op0, st0_op1, st0_op2, st0_op3, st0_op4, st0_op5, st0_op6, st0_op7, st0_op8, st0_op9, st0_op10, st0_op11, st0_c0, st0_c1, st0_L2, st0_c3, st0_c4, st0_c5, st0_c6, st0_c7a, st0_c8, st0_M, st0_c11a, st0_c0_x, st0_c1_X, st0_c1_F, st0_M22, st0_F2, st0_c3_x, st0_c4_x, st0_c5_x, st0_c6_x, st0_c7a_x, st0_c8_x, st0_c11a_x, st0_c7b, st0_c11b, st0_c7b_x, st0_c11b_x]
theorem st0_g3_G {xs : Nat → Int32} {n : Nat} {sf : Option Nat} : ∀ nd ∈ st0_g3_nd, wGoes x_KT x_tb x_tyl (x_otS xs n sf) lwFR lwGA.length lwGB.length 32 42 44 st0WA st0WB 69 205 62 62 nd (st0_g3_ex.map (fun x => (false, x))) := wGraph (fun nd hnd => by
  have hnd : nd ∈ ([st0_gen, st0_op0, st0_op1, st0_op2, st0_op3, st0_op4, st0_op5, st0_op6, st0_op7, st0_op8, st0_op9, st0_op10, st0_op11, st0_c0, st0_c1, st0_L2, st0_c3, st0_c4, st0_c5, st0_c6, st0_c7a, st0_c8, st0_M, st0_c11a, st0_c0_x, st0_c1_X, st0_c1_F, st0_M22, st0_F2, st0_c3_x, st0_c4_x, st0_c5_x, st0_c6_x, st0_c7a_x, st0_c8_x, st0_c11a_x, st0_c7b, st0_c11b, st0_c7b_x, st0_c11b_x] : List wE) := hnd
  simp only [List.mem_cons, List.not_mem_nil, or_false] at hnd
  rcases hnd with rfl | rfl | rfl | rfl | rfl | rfl | rfl | rfl | rfl | rfl | rfl | rfl | rfl | rfl | rfl | rfl | rfl | rfl | rfl | rfl | rfl | rfl | rfl | rfl | rfl | rfl | rfl | rfl | rfl | rfl | rfl | rfl | rfl | rfl | rfl | rfl | rfl | rfl | rfl | rfl
  · refine ⟨st0o0, st0N0, fun o ho => ?_⟩
    have ho : o ∈ ([(true, st0_op0), (true, st0_op1), (true, st0_op2), (true, st0_op3), (true, st0_op4), (true, st0_op5), (true, st0_op6), (true, st0_op7), (true, st0_op8), (true, st0_op9), (true, st0_op10), (true, st0_op11)] : List (Bool × wE)) := ho
    simp only [List.mem_cons, List.not_mem_nil, or_false] at ho
    rcases ho with rfl | rfl | rfl | rfl | rfl | rfl | rfl | rfl | rfl | rfl | rfl | rfl
    · exact Or.inr ⟨rfl, List.mem_cons_of_mem _ (List.mem_cons_self)⟩
    · exact Or.inr ⟨rfl, List.mem_cons_of_mem _ (List.mem_cons_of_mem _ (List.mem_cons_self))⟩
    · exact Or.inr ⟨rfl, List.mem_cons_of_mem _ (List.mem_cons_of_mem _ (List.mem_cons_of_mem _ (List.mem_cons_self)))⟩
    · exact Or.inr ⟨rfl, List.mem_cons_of_mem _ (List.mem_cons_of_mem _ (List.mem_cons_of_mem _ (List.mem_cons_of_mem _ (List.mem_cons_self))))⟩
    · exact Or.inr ⟨rfl, List.mem_cons_of_mem _ (List.mem_cons_of_mem _ (List.mem_cons_of_mem _ (List.mem_cons_of_mem _ (List.mem_cons_of_mem _ (List.mem_cons_self)))))⟩
    · exact Or.inr ⟨rfl, List.mem_cons_of_mem _ (List.mem_cons_of_mem _ (List.mem_cons_of_mem _ (List.mem_cons_of_mem _ (List.mem_cons_of_mem _ (List.mem_cons_of_mem _ (List.mem_cons_self))))))⟩
    · exact Or.inr ⟨rfl, List.mem_cons_of_mem _ (List.mem_cons_of_mem _ (List.mem_cons_of_mem _ (List.mem_cons_of_mem _ (List.mem_cons_of_mem _ (List.mem_cons_of_mem _ (List.mem_cons_of_mem _ (List.mem_cons_self)))))))⟩
    · exact Or.inr ⟨rfl, List.mem_cons_of_mem _ (List.mem_cons_of_mem _ (List.mem_cons_of_mem _ (List.mem_cons_of_mem _ (List.mem_cons_of_mem _ (List.mem_cons_of_mem _ (List.mem_cons_of_mem _ (List.mem_cons_of_mem _ (List.mem_cons_self))))))))⟩
    · exact Or.inr ⟨rfl, List.mem_cons_of_mem _ (List.mem_cons_of_mem _ (List.mem_cons_of_mem _ (List.mem_cons_of_mem _ (List.mem_cons_of_mem _ (List.mem_cons_of_mem _ (List.mem_cons_of_mem _ (List.mem_cons_of_mem _ (List.mem_cons_of_mem _ (List.mem_cons_self)))))))))⟩
    · exact Or.inr ⟨rfl, List.mem_cons_of_mem _ (List.mem_cons_of_mem _ (List.mem_cons_of_mem _ (List.mem_cons_of_mem _ (List.mem_cons_of_mem _ (List.mem_cons_of_mem _ (List.mem_cons_of_mem _ (List.mem_cons_of_mem _ (List.mem_cons_of_mem _ (List.mem_cons_of_mem _ (List.mem_cons_self))))))))))⟩
    · exact Or.inr ⟨rfl, List.mem_cons_of_mem _ (List.mem_cons_of_mem _ (List.mem_cons_of_mem _ (List.mem_cons_of_mem _ (List.mem_cons_of_mem _ (List.mem_cons_of_mem _ (List.mem_cons_of_mem _ (List.mem_cons_of_mem _ (List.mem_cons_of_mem _ (List.mem_cons_of_mem _ (List.mem_cons_of_mem _ (List.mem_cons_self)))))))))))⟩
    · exact Or.inr ⟨rfl, List.mem_cons_of_mem _ (List.mem_cons_of_mem _ (List.mem_cons_of_mem _ (List.mem_cons_of_mem _ (List.mem_cons_of_mem _ (List.mem_cons_of_mem _ (List.mem_cons_of_mem _ (List.mem_cons_of_mem _ (List.mem_cons_of_mem _ (List.mem_cons_of_mem _ (List.mem_cons_of_mem _ (List.mem_cons_of_mem _ (List.mem_cons_self))))))))))))⟩
  · refine ⟨st0o12, st0N12, fun o ho => ?_⟩
    have ho : o ∈ ([(true, st0_c0)] : List (Bool × wE)) := ho
    simp only [List.mem_cons, List.not_mem_nil, or_false] at ho
    rcases ho with rfl
    · exact Or.inr ⟨rfl, List.mem_cons_of_mem _ (List.mem_cons_of_mem _ (List.mem_cons_of_mem _ (List.mem_cons_of_mem _ (List.mem_cons_of_mem _ (List.mem_cons_of_mem _ (List.mem_cons_of_mem _ (List.mem_cons_of_mem _ (List.mem_cons_of_mem _ (List.mem_cons_of_mem _ (List.mem_cons_of_mem _ (List.mem_cons_of_mem _ (List.mem_cons_of_mem _ (List.mem_cons_self)))))))))))))⟩
  · refine ⟨st0o27, st0N27, fun o ho => ?_⟩
    have ho : o ∈ ([(true, st0_c1)] : List (Bool × wE)) := ho
    simp only [List.mem_cons, List.not_mem_nil, or_false] at ho
    rcases ho with rfl
    · exact Or.inr ⟨rfl, List.mem_cons_of_mem _ (List.mem_cons_of_mem _ (List.mem_cons_of_mem _ (List.mem_cons_of_mem _ (List.mem_cons_of_mem _ (List.mem_cons_of_mem _ (List.mem_cons_of_mem _ (List.mem_cons_of_mem _ (List.mem_cons_of_mem _ (List.mem_cons_of_mem _ (List.mem_cons_of_mem _ (List.mem_cons_of_mem _ (List.mem_cons_of_mem _ (List.mem_cons_of_mem _ (List.mem_cons_self))))))))))))))⟩
  · refine ⟨st0o5, st0N5, fun o ho => ?_⟩
    have ho : o ∈ ([(true, st0_L2)] : List (Bool × wE)) := ho
    simp only [List.mem_cons, List.not_mem_nil, or_false] at ho
    rcases ho with rfl
    · exact Or.inr ⟨rfl, List.mem_cons_of_mem _ (List.mem_cons_of_mem _ (List.mem_cons_of_mem _ (List.mem_cons_of_mem _ (List.mem_cons_of_mem _ (List.mem_cons_of_mem _ (List.mem_cons_of_mem _ (List.mem_cons_of_mem _ (List.mem_cons_of_mem _ (List.mem_cons_of_mem _ (List.mem_cons_of_mem _ (List.mem_cons_of_mem _ (List.mem_cons_of_mem _ (List.mem_cons_of_mem _ (List.mem_cons_of_mem _ (List.mem_cons_self)))))))))))))))⟩
  · refine ⟨st0o15, st0N15, fun o ho => ?_⟩
    have ho : o ∈ ([(true, st0_c3)] : List (Bool × wE)) := ho
    simp only [List.mem_cons, List.not_mem_nil, or_false] at ho
    rcases ho with rfl
    · exact Or.inr ⟨rfl, List.mem_cons_of_mem _ (List.mem_cons_of_mem _ (List.mem_cons_of_mem _ (List.mem_cons_of_mem _ (List.mem_cons_of_mem _ (List.mem_cons_of_mem _ (List.mem_cons_of_mem _ (List.mem_cons_of_mem _ (List.mem_cons_of_mem _ (List.mem_cons_of_mem _ (List.mem_cons_of_mem _ (List.mem_cons_of_mem _ (List.mem_cons_of_mem _ (List.mem_cons_of_mem _ (List.mem_cons_of_mem _ (List.mem_cons_of_mem _ (List.mem_cons_self))))))))))))))))⟩
  · refine ⟨st0o18, st0N18, fun o ho => ?_⟩
    have ho : o ∈ ([(true, st0_c4)] : List (Bool × wE)) := ho
    simp only [List.mem_cons, List.not_mem_nil, or_false] at ho
    rcases ho with rfl
    · exact Or.inr ⟨rfl, List.mem_cons_of_mem _ (List.mem_cons_of_mem _ (List.mem_cons_of_mem _ (List.mem_cons_of_mem _ (List.mem_cons_of_mem _ (List.mem_cons_of_mem _ (List.mem_cons_of_mem _ (List.mem_cons_of_mem _ (List.mem_cons_of_mem _ (List.mem_cons_of_mem _ (List.mem_cons_of_mem _ (List.mem_cons_of_mem _ (List.mem_cons_of_mem _ (List.mem_cons_of_mem _ (List.mem_cons_of_mem _ (List.mem_cons_of_mem _ (List.mem_cons_of_mem _ (List.mem_cons_self)))))))))))))))))⟩
  · refine ⟨st0o21, st0N21, fun o ho => ?_⟩
    have ho : o ∈ ([(true, st0_c5)] : List (Bool × wE)) := ho
    simp only [List.mem_cons, List.not_mem_nil, or_false] at ho
    rcases ho with rfl
    · exact Or.inr ⟨rfl, List.mem_cons_of_mem _ (List.mem_cons_of_mem _ (List.mem_cons_of_mem _ (List.mem_cons_of_mem _ (List.mem_cons_of_mem _ (List.mem_cons_of_mem _ (List.mem_cons_of_mem _ (List.mem_cons_of_mem _ (List.mem_cons_of_mem _ (List.mem_cons_of_mem _ (List.mem_cons_of_mem _ (List.mem_cons_of_mem _ (List.mem_cons_of_mem _ (List.mem_cons_of_mem _ (List.mem_cons_of_mem _ (List.mem_cons_of_mem _ (List.mem_cons_of_mem _ (List.mem_cons_of_mem _ (List.mem_cons_self))))))))))))))))))⟩
  · refine ⟨st0o24, st0N24, fun o ho => ?_⟩
    have ho : o ∈ ([(true, st0_c6)] : List (Bool × wE)) := ho
    simp only [List.mem_cons, List.not_mem_nil, or_false] at ho
    rcases ho with rfl
    · exact Or.inr ⟨rfl, List.mem_cons_of_mem _ (List.mem_cons_of_mem _ (List.mem_cons_of_mem _ (List.mem_cons_of_mem _ (List.mem_cons_of_mem _ (List.mem_cons_of_mem _ (List.mem_cons_of_mem _ (List.mem_cons_of_mem _ (List.mem_cons_of_mem _ (List.mem_cons_of_mem _ (List.mem_cons_of_mem _ (List.mem_cons_of_mem _ (List.mem_cons_of_mem _ (List.mem_cons_of_mem _ (List.mem_cons_of_mem _ (List.mem_cons_of_mem _ (List.mem_cons_of_mem _ (List.mem_cons_of_mem _ (List.mem_cons_of_mem _ (List.mem_cons_self)))))))))))))))))))⟩
  · refine ⟨st0o32, st0N32, fun o ho => ?_⟩
    have ho : o ∈ ([(true, st0_c7a)] : List (Bool × wE)) := ho
    simp only [List.mem_cons, List.not_mem_nil, or_false] at ho
    rcases ho with rfl
    · exact Or.inr ⟨rfl, List.mem_cons_of_mem _ (List.mem_cons_of_mem _ (List.mem_cons_of_mem _ (List.mem_cons_of_mem _ (List.mem_cons_of_mem _ (List.mem_cons_of_mem _ (List.mem_cons_of_mem _ (List.mem_cons_of_mem _ (List.mem_cons_of_mem _ (List.mem_cons_of_mem _ (List.mem_cons_of_mem _ (List.mem_cons_of_mem _ (List.mem_cons_of_mem _ (List.mem_cons_of_mem _ (List.mem_cons_of_mem _ (List.mem_cons_of_mem _ (List.mem_cons_of_mem _ (List.mem_cons_of_mem _ (List.mem_cons_of_mem _ (List.mem_cons_of_mem _ (List.mem_cons_self))))))))))))))))))))⟩
  · refine ⟨st0o41, st0N41, fun o ho => ?_⟩
    have ho : o ∈ ([(true, st0_c8)] : List (Bool × wE)) := ho
    simp only [List.mem_cons, List.not_mem_nil, or_false] at ho
    rcases ho with rfl
    · exact Or.inr ⟨rfl, List.mem_cons_of_mem _ (List.mem_cons_of_mem _ (List.mem_cons_of_mem _ (List.mem_cons_of_mem _ (List.mem_cons_of_mem _ (List.mem_cons_of_mem _ (List.mem_cons_of_mem _ (List.mem_cons_of_mem _ (List.mem_cons_of_mem _ (List.mem_cons_of_mem _ (List.mem_cons_of_mem _ (List.mem_cons_of_mem _ (List.mem_cons_of_mem _ (List.mem_cons_of_mem _ (List.mem_cons_of_mem _ (List.mem_cons_of_mem _ (List.mem_cons_of_mem _ (List.mem_cons_of_mem _ (List.mem_cons_of_mem _ (List.mem_cons_of_mem _ (List.mem_cons_of_mem _ (List.mem_cons_self)))))))))))))))))))))⟩
  · refine ⟨st0o9, st0N9, fun o ho => ?_⟩
    have ho : o ∈ ([(true, st0_M)] : List (Bool × wE)) := ho
    simp only [List.mem_cons, List.not_mem_nil, or_false] at ho
    rcases ho with rfl
    · exact Or.inr ⟨rfl, List.mem_cons_of_mem _ (List.mem_cons_of_mem _ (List.mem_cons_of_mem _ (List.mem_cons_of_mem _ (List.mem_cons_of_mem _ (List.mem_cons_of_mem _ (List.mem_cons_of_mem _ (List.mem_cons_of_mem _ (List.mem_cons_of_mem _ (List.mem_cons_of_mem _ (List.mem_cons_of_mem _ (List.mem_cons_of_mem _ (List.mem_cons_of_mem _ (List.mem_cons_of_mem _ (List.mem_cons_of_mem _ (List.mem_cons_of_mem _ (List.mem_cons_of_mem _ (List.mem_cons_of_mem _ (List.mem_cons_of_mem _ (List.mem_cons_of_mem _ (List.mem_cons_of_mem _ (List.mem_cons_of_mem _ (List.mem_cons_self))))))))))))))))))))))⟩
  · refine ⟨st0o10, st0N10, fun o ho => ?_⟩
    have ho : o ∈ ([(false, st0_R), (false, st0_O)] : List (Bool × wE)) := ho
    simp only [List.mem_cons, List.not_mem_nil, or_false] at ho
    rcases ho with rfl | rfl
    · exact Or.inl (List.mem_cons_self)
    · exact Or.inl (List.mem_cons_of_mem _ (List.mem_cons_self))
  · refine ⟨st0o37, st0N37, fun o ho => ?_⟩
    have ho : o ∈ ([(true, st0_c11a)] : List (Bool × wE)) := ho
    simp only [List.mem_cons, List.not_mem_nil, or_false] at ho
    rcases ho with rfl
    · exact Or.inr ⟨rfl, List.mem_cons_of_mem _ (List.mem_cons_of_mem _ (List.mem_cons_of_mem _ (List.mem_cons_of_mem _ (List.mem_cons_of_mem _ (List.mem_cons_of_mem _ (List.mem_cons_of_mem _ (List.mem_cons_of_mem _ (List.mem_cons_of_mem _ (List.mem_cons_of_mem _ (List.mem_cons_of_mem _ (List.mem_cons_of_mem _ (List.mem_cons_of_mem _ (List.mem_cons_of_mem _ (List.mem_cons_of_mem _ (List.mem_cons_of_mem _ (List.mem_cons_of_mem _ (List.mem_cons_of_mem _ (List.mem_cons_of_mem _ (List.mem_cons_of_mem _ (List.mem_cons_of_mem _ (List.mem_cons_of_mem _ (List.mem_cons_of_mem _ (List.mem_cons_self)))))))))))))))))))))))⟩
  · refine ⟨st0o11, st0N11, fun o ho => ?_⟩
    have ho : o ∈ ([(true, st0_c0_x)] : List (Bool × wE)) := ho
    simp only [List.mem_cons, List.not_mem_nil, or_false] at ho
    rcases ho with rfl
    · exact Or.inr ⟨rfl, List.mem_cons_of_mem _ (List.mem_cons_of_mem _ (List.mem_cons_of_mem _ (List.mem_cons_of_mem _ (List.mem_cons_of_mem _ (List.mem_cons_of_mem _ (List.mem_cons_of_mem _ (List.mem_cons_of_mem _ (List.mem_cons_of_mem _ (List.mem_cons_of_mem _ (List.mem_cons_of_mem _ (List.mem_cons_of_mem _ (List.mem_cons_of_mem _ (List.mem_cons_of_mem _ (List.mem_cons_of_mem _ (List.mem_cons_of_mem _ (List.mem_cons_of_mem _ (List.mem_cons_of_mem _ (List.mem_cons_of_mem _ (List.mem_cons_of_mem _ (List.mem_cons_of_mem _ (List.mem_cons_of_mem _ (List.mem_cons_of_mem _ (List.mem_cons_of_mem _ (List.mem_cons_self))))))))))))))))))))))))⟩
  · refine ⟨st0o26, st0N26, fun o ho => ?_⟩
    have ho : o ∈ ([(true, st0_c1_X), (true, st0_c1_F)] : List (Bool × wE)) := ho
    simp only [List.mem_cons, List.not_mem_nil, or_false] at ho
    rcases ho with rfl | rfl
    · exact Or.inr ⟨rfl, List.mem_cons_of_mem _ (List.mem_cons_of_mem _ (List.mem_cons_of_mem _ (List.mem_cons_of_mem _ (List.mem_cons_of_mem _ (List.mem_cons_of_mem _ (List.mem_cons_of_mem _ (List.mem_cons_of_mem _ (List.mem_cons_of_mem _ (List.mem_cons_of_mem _ (List.mem_cons_of_mem _ (List.mem_cons_of_mem _ (List.mem_cons_of_mem _ (List.mem_cons_of_mem _ (List.mem_cons_of_mem _ (List.mem_cons_of_mem _ (List.mem_cons_of_mem _ (List.mem_cons_of_mem _ (List.mem_cons_of_mem _ (List.mem_cons_of_mem _ (List.mem_cons_of_mem _ (List.mem_cons_of_mem _ (List.mem_cons_of_mem _ (List.mem_cons_of_mem _ (List.mem_cons_of_mem _ (List.mem_cons_self)))))))))))))))))))))))))⟩
    · exact Or.inr ⟨rfl, List.mem_cons_of_mem _ (List.mem_cons_of_mem _ (List.mem_cons_of_mem _ (List.mem_cons_of_mem _ (List.mem_cons_of_mem _ (List.mem_cons_of_mem _ (List.mem_cons_of_mem _ (List.mem_cons_of_mem _ (List.mem_cons_of_mem _ (List.mem_cons_of_mem _ (List.mem_cons_of_mem _ (List.mem_cons_of_mem _ (List.mem_cons_of_mem _ (List.mem_cons_of_mem _ (List.mem_cons_of_mem _ (List.mem_cons_of_mem _ (List.mem_cons_of_mem _ (List.mem_cons_of_mem _ (List.mem_cons_of_mem _ (List.mem_cons_of_mem _ (List.mem_cons_of_mem _ (List.mem_cons_of_mem _ (List.mem_cons_of_mem _ (List.mem_cons_of_mem _ (List.mem_cons_of_mem _ (List.mem_cons_of_mem _ (List.mem_cons_self))))))))))))))))))))))))))⟩
  · refine ⟨st0o6, st0N6, fun o ho => ?_⟩
    have ho : o ∈ ([(true, st0_M22), (true, st0_F2)] : List (Bool × wE)) := ho
    simp only [List.mem_cons, List.not_mem_nil, or_false] at ho
    rcases ho with rfl | rfl
    · exact Or.inr ⟨rfl, List.mem_cons_of_mem _ (List.mem_cons_of_mem _ (List.mem_cons_of_mem _ (List.mem_cons_of_mem _ (List.mem_cons_of_mem _ (List.mem_cons_of_mem _ (List.mem_cons_of_mem _ (List.mem_cons_of_mem _ (List.mem_cons_of_mem _ (List.mem_cons_of_mem _ (List.mem_cons_of_mem _ (List.mem_cons_of_mem _ (List.mem_cons_of_mem _ (List.mem_cons_of_mem _ (List.mem_cons_of_mem _ (List.mem_cons_of_mem _ (List.mem_cons_of_mem _ (List.mem_cons_of_mem _ (List.mem_cons_of_mem _ (List.mem_cons_of_mem _ (List.mem_cons_of_mem _ (List.mem_cons_of_mem _ (List.mem_cons_of_mem _ (List.mem_cons_of_mem _ (List.mem_cons_of_mem _ (List.mem_cons_of_mem _ (List.mem_cons_of_mem _ (List.mem_cons_self)))))))))))))))))))))))))))⟩
    · exact Or.inr ⟨rfl, List.mem_cons_of_mem _ (List.mem_cons_of_mem _ (List.mem_cons_of_mem _ (List.mem_cons_of_mem _ (List.mem_cons_of_mem _ (List.mem_cons_of_mem _ (List.mem_cons_of_mem _ (List.mem_cons_of_mem _ (List.mem_cons_of_mem _ (List.mem_cons_of_mem _ (List.mem_cons_of_mem _ (List.mem_cons_of_mem _ (List.mem_cons_of_mem _ (List.mem_cons_of_mem _ (List.mem_cons_of_mem _ (List.mem_cons_of_mem _ (List.mem_cons_of_mem _ (List.mem_cons_of_mem _ (List.mem_cons_of_mem _ (List.mem_cons_of_mem _ (List.mem_cons_of_mem _ (List.mem_cons_of_mem _ (List.mem_cons_of_mem _ (List.mem_cons_of_mem _ (List.mem_cons_of_mem _ (List.mem_cons_of_mem _ (List.mem_cons_of_mem _ (List.mem_cons_of_mem _ (List.mem_cons_self))))))))))))))))))))))))))))⟩
  · refine ⟨st0o14, st0N14, fun o ho => ?_⟩
    have ho : o ∈ ([(true, st0_c3_x)] : List (Bool × wE)) := ho
    simp only [List.mem_cons, List.not_mem_nil, or_false] at ho
    rcases ho with rfl
    · exact Or.inr ⟨rfl, List.mem_cons_of_mem _ (List.mem_cons_of_mem _ (List.mem_cons_of_mem _ (List.mem_cons_of_mem _ (List.mem_cons_of_mem _ (List.mem_cons_of_mem _ (List.mem_cons_of_mem _ (List.mem_cons_of_mem _ (List.mem_cons_of_mem _ (List.mem_cons_of_mem _ (List.mem_cons_of_mem _ (List.mem_cons_of_mem _ (List.mem_cons_of_mem _ (List.mem_cons_of_mem _ (List.mem_cons_of_mem _ (List.mem_cons_of_mem _ (List.mem_cons_of_mem _ (List.mem_cons_of_mem _ (List.mem_cons_of_mem _ (List.mem_cons_of_mem _ (List.mem_cons_of_mem _ (List.mem_cons_of_mem _ (List.mem_cons_of_mem _ (List.mem_cons_of_mem _ (List.mem_cons_of_mem _ (List.mem_cons_of_mem _ (List.mem_cons_of_mem _ (List.mem_cons_of_mem _ (List.mem_cons_of_mem _ (List.mem_cons_self)))))))))))))))))))))))))))))⟩
  · refine ⟨st0o17, st0N17, fun o ho => ?_⟩
    have ho : o ∈ ([(true, st0_c4_x)] : List (Bool × wE)) := ho
    simp only [List.mem_cons, List.not_mem_nil, or_false] at ho
    rcases ho with rfl
    · exact Or.inr ⟨rfl, List.mem_cons_of_mem _ (List.mem_cons_of_mem _ (List.mem_cons_of_mem _ (List.mem_cons_of_mem _ (List.mem_cons_of_mem _ (List.mem_cons_of_mem _ (List.mem_cons_of_mem _ (List.mem_cons_of_mem _ (List.mem_cons_of_mem _ (List.mem_cons_of_mem _ (List.mem_cons_of_mem _ (List.mem_cons_of_mem _ (List.mem_cons_of_mem _ (List.mem_cons_of_mem _ (List.mem_cons_of_mem _ (List.mem_cons_of_mem _ (List.mem_cons_of_mem _ (List.mem_cons_of_mem _ (List.mem_cons_of_mem _ (List.mem_cons_of_mem _ (List.mem_cons_of_mem _ (List.mem_cons_of_mem _ (List.mem_cons_of_mem _ (List.mem_cons_of_mem _ (List.mem_cons_of_mem _ (List.mem_cons_of_mem _ (List.mem_cons_of_mem _ (List.mem_cons_of_mem _ (List.mem_cons_of_mem _ (List.mem_cons_of_mem _ (List.mem_cons_self))))))))))))))))))))))))))))))⟩
  · refine ⟨st0o20, st0N20, fun o ho => ?_⟩
    have ho : o ∈ ([(true, st0_c5_x)] : List (Bool × wE)) := ho
    simp only [List.mem_cons, List.not_mem_nil, or_false] at ho
    rcases ho with rfl
    · exact Or.inr ⟨rfl, List.mem_cons_of_mem _ (List.mem_cons_of_mem _ (List.mem_cons_of_mem _ (List.mem_cons_of_mem _ (List.mem_cons_of_mem _ (List.mem_cons_of_mem _ (List.mem_cons_of_mem _ (List.mem_cons_of_mem _ (List.mem_cons_of_mem _ (List.mem_cons_of_mem _ (List.mem_cons_of_mem _ (List.mem_cons_of_mem _ (List.mem_cons_of_mem _ (List.mem_cons_of_mem _ (List.mem_cons_of_mem _ (List.mem_cons_of_mem _ (List.mem_cons_of_mem _ (List.mem_cons_of_mem _ (List.mem_cons_of_mem _ (List.mem_cons_of_mem _ (List.mem_cons_of_mem _ (List.mem_cons_of_mem _ (List.mem_cons_of_mem _ (List.mem_cons_of_mem _ (List.mem_cons_of_mem _ (List.mem_cons_of_mem _ (List.mem_cons_of_mem _ (List.mem_cons_of_mem _ (List.mem_cons_of_mem _ (List.mem_cons_of_mem _ (List.mem_cons_of_mem _ (List.mem_cons_self)))))))))))))))))))))))))))))))⟩
  · refine ⟨st0o23, st0N23, fun o ho => ?_⟩
    have ho : o ∈ ([(true, st0_c6_x)] : List (Bool × wE)) := ho
    simp only [List.mem_cons, List.not_mem_nil, or_false] at ho
    rcases ho with rfl
    · exact Or.inr ⟨rfl, List.mem_cons_of_mem _ (List.mem_cons_of_mem _ (List.mem_cons_of_mem _ (List.mem_cons_of_mem _ (List.mem_cons_of_mem _ (List.mem_cons_of_mem _ (List.mem_cons_of_mem _ (List.mem_cons_of_mem _ (List.mem_cons_of_mem _ (List.mem_cons_of_mem _ (List.mem_cons_of_mem _ (List.mem_cons_of_mem _ (List.mem_cons_of_mem _ (List.mem_cons_of_mem _ (List.mem_cons_of_mem _ (List.mem_cons_of_mem _ (List.mem_cons_of_mem _ (List.mem_cons_of_mem _ (List.mem_cons_of_mem _ (List.mem_cons_of_mem _ (List.mem_cons_of_mem _ (List.mem_cons_of_mem _ (List.mem_cons_of_mem _ (List.mem_cons_of_mem _ (List.mem_cons_of_mem _ (List.mem_cons_of_mem _ (List.mem_cons_of_mem _ (List.mem_cons_of_mem _ (List.mem_cons_of_mem _ (List.mem_cons_of_mem _ (List.mem_cons_of_mem _ (List.mem_cons_of_mem _ (List.mem_cons_self))))))))))))))))))))))))))))))))⟩
  · refine ⟨st0o30, st0N30, fun o ho => ?_⟩
    have ho : o ∈ ([(true, st0_c7a_x)] : List (Bool × wE)) := ho
    simp only [List.mem_cons, List.not_mem_nil, or_false] at ho
    rcases ho with rfl
    · exact Or.inr ⟨rfl, List.mem_cons_of_mem _ (List.mem_cons_of_mem _ (List.mem_cons_of_mem _ (List.mem_cons_of_mem _ (List.mem_cons_of_mem _ (List.mem_cons_of_mem _ (List.mem_cons_of_mem _ (List.mem_cons_of_mem _ (List.mem_cons_of_mem _ (List.mem_cons_of_mem _ (List.mem_cons_of_mem _ (List.mem_cons_of_mem _ (List.mem_cons_of_mem _ (List.mem_cons_of_mem _ (List.mem_cons_of_mem _ (List.mem_cons_of_mem _ (List.mem_cons_of_mem _ (List.mem_cons_of_mem _ (List.mem_cons_of_mem _ (List.mem_cons_of_mem _ (List.mem_cons_of_mem _ (List.mem_cons_of_mem _ (List.mem_cons_of_mem _ (List.mem_cons_of_mem _ (List.mem_cons_of_mem _ (List.mem_cons_of_mem _ (List.mem_cons_of_mem _ (List.mem_cons_of_mem _ (List.mem_cons_of_mem _ (List.mem_cons_of_mem _ (List.mem_cons_of_mem _ (List.mem_cons_of_mem _ (List.mem_cons_of_mem _ (List.mem_cons_self)))))))))))))))))))))))))))))))))⟩
  · refine ⟨st0o40, st0N40, fun o ho => ?_⟩
    have ho : o ∈ ([(true, st0_c8_x)] : List (Bool × wE)) := ho
    simp only [List.mem_cons, List.not_mem_nil, or_false] at ho
    rcases ho with rfl
    · exact Or.inr ⟨rfl, List.mem_cons_of_mem _ (List.mem_cons_of_mem _ (List.mem_cons_of_mem _ (List.mem_cons_of_mem _ (List.mem_cons_of_mem _ (List.mem_cons_of_mem _ (List.mem_cons_of_mem _ (List.mem_cons_of_mem _ (List.mem_cons_of_mem _ (List.mem_cons_of_mem _ (List.mem_cons_of_mem _ (List.mem_cons_of_mem _ (List.mem_cons_of_mem _ (List.mem_cons_of_mem _ (List.mem_cons_of_mem _ (List.mem_cons_of_mem _ (List.mem_cons_of_mem _ (List.mem_cons_of_mem _ (List.mem_cons_of_mem _ (List.mem_cons_of_mem _ (List.mem_cons_of_mem _ (List.mem_cons_of_mem _ (List.mem_cons_of_mem _ (List.mem_cons_of_mem _ (List.mem_cons_of_mem _ (List.mem_cons_of_mem _ (List.mem_cons_of_mem _ (List.mem_cons_of_mem _ (List.mem_cons_of_mem _ (List.mem_cons_of_mem _ (List.mem_cons_of_mem _ (List.mem_cons_of_mem _ (List.mem_cons_of_mem _ (List.mem_cons_of_mem _ (List.mem_cons_self))))))))))))))))))))))))))))))))))⟩
  · refine ⟨st0o4, st0N4, fun o ho => ?_⟩
    have ho : o ∈ ([(false, st0_R), (false, st0_O)] : List (Bool × wE)) := ho
    simp only [List.mem_cons, List.not_mem_nil, or_false] at ho
    rcases ho with rfl | rfl
    · exact Or.inl (List.mem_cons_self)
    · exact Or.inl (List.mem_cons_of_mem _ (List.mem_cons_self))
  · refine ⟨st0o35, st0N35, fun o ho => ?_⟩
    have ho : o ∈ ([(true, st0_c11a_x)] : List (Bool × wE)) := ho
    simp only [List.mem_cons, List.not_mem_nil, or_false] at ho
    rcases ho with rfl
    · exact Or.inr ⟨rfl, List.mem_cons_of_mem _ (List.mem_cons_of_mem _ (List.mem_cons_of_mem _ (List.mem_cons_of_mem _ (List.mem_cons_of_mem _ (List.mem_cons_of_mem _ (List.mem_cons_of_mem _ (List.mem_cons_of_mem _ (List.mem_cons_of_mem _ (List.mem_cons_of_mem _ (List.mem_cons_of_mem _ (List.mem_cons_of_mem _ (List.mem_cons_of_mem _ (List.mem_cons_of_mem _ (List.mem_cons_of_mem _ (List.mem_cons_of_mem _ (List.mem_cons_of_mem _ (List.mem_cons_of_mem _ (List.mem_cons_of_mem _ (List.mem_cons_of_mem _ (List.mem_cons_of_mem _ (List.mem_cons_of_mem _ (List.mem_cons_of_mem _ (List.mem_cons_of_mem _ (List.mem_cons_of_mem _ (List.mem_cons_of_mem _ (List.mem_cons_of_mem _ (List.mem_cons_of_mem _ (List.mem_cons_of_mem _ (List.mem_cons_of_mem _ (List.mem_cons_of_mem _ (List.mem_cons_of_mem _ (List.mem_cons_of_mem _ (List.mem_cons_of_mem _ (List.mem_cons_of_mem _ (List.mem_cons_self)))))))))))))))))))))))))))))))))))⟩
  · refine ⟨st0o13, st0N13, fun o ho => ?_⟩
    have ho : o ∈ ([(true, st0_M)] : List (Bool × wE)) := ho
    simp only [List.mem_cons, List.not_mem_nil, or_false] at ho
    rcases ho with rfl
    · exact Or.inr ⟨rfl, List.mem_cons_of_mem _ (List.mem_cons_of_mem _ (List.mem_cons_of_mem _ (List.mem_cons_of_mem _ (List.mem_cons_of_mem _ (List.mem_cons_of_mem _ (List.mem_cons_of_mem _ (List.mem_cons_of_mem _ (List.mem_cons_of_mem _ (List.mem_cons_of_mem _ (List.mem_cons_of_mem _ (List.mem_cons_of_mem _ (List.mem_cons_of_mem _ (List.mem_cons_of_mem _ (List.mem_cons_of_mem _ (List.mem_cons_of_mem _ (List.mem_cons_of_mem _ (List.mem_cons_of_mem _ (List.mem_cons_of_mem _ (List.mem_cons_of_mem _ (List.mem_cons_of_mem _ (List.mem_cons_of_mem _ (List.mem_cons_self))))))))))))))))))))))⟩
  · refine ⟨st0o28, st0N28, fun o ho => ?_⟩
    have ho : o ∈ ([(true, st0_M)] : List (Bool × wE)) := ho
    simp only [List.mem_cons, List.not_mem_nil, or_false] at ho
    rcases ho with rfl
    · exact Or.inr ⟨rfl, List.mem_cons_of_mem _ (List.mem_cons_of_mem _ (List.mem_cons_of_mem _ (List.mem_cons_of_mem _ (List.mem_cons_of_mem _ (List.mem_cons_of_mem _ (List.mem_cons_of_mem _ (List.mem_cons_of_mem _ (List.mem_cons_of_mem _ (List.mem_cons_of_mem _ (List.mem_cons_of_mem _ (List.mem_cons_of_mem _ (List.mem_cons_of_mem _ (List.mem_cons_of_mem _ (List.mem_cons_of_mem _ (List.mem_cons_of_mem _ (List.mem_cons_of_mem _ (List.mem_cons_of_mem _ (List.mem_cons_of_mem _ (List.mem_cons_of_mem _ (List.mem_cons_of_mem _ (List.mem_cons_of_mem _ (List.mem_cons_self))))))))))))))))))))))⟩
  · refine ⟨st0o29, st0N29, fun o ho => ?_⟩
    have ho : o ∈ ([(false, st0_O)] : List (Bool × wE)) := ho
    simp only [List.mem_cons, List.not_mem_nil, or_false] at ho
    rcases ho with rfl
    · exact Or.inl (List.mem_cons_of_mem _ (List.mem_cons_self))
  · refine ⟨st0o7, st0N7, fun o ho => ?_⟩
    have ho : o ∈ ([(false, st0_WR), (false, st0_WE), (false, st0_WL)] : List (Bool × wE)) := ho
    simp only [List.mem_cons, List.not_mem_nil, or_false] at ho
    rcases ho with rfl | rfl | rfl
    · exact Or.inl (List.mem_cons_of_mem _ (List.mem_cons_of_mem _ (List.mem_cons_self)))
    · exact Or.inl (List.mem_cons_of_mem _ (List.mem_cons_of_mem _ (List.mem_cons_of_mem _ (List.mem_cons_self))))
    · exact Or.inl (List.mem_cons_of_mem _ (List.mem_cons_of_mem _ (List.mem_cons_of_mem _ (List.mem_cons_of_mem _ (List.mem_cons_self)))))
  · refine ⟨st0o8, st0N8, fun o ho => ?_⟩
    have ho : o ∈ ([(false, st0_FU)] : List (Bool × wE)) := ho
    simp only [List.mem_cons, List.not_mem_nil, or_false] at ho
    rcases ho with rfl
    · exact Or.inl (List.mem_cons_of_mem _ (List.mem_cons_of_mem _ (List.mem_cons_of_mem _ (List.mem_cons_of_mem _ (List.mem_cons_of_mem _ (List.mem_cons_self))))))
  · refine ⟨st0o16, st0N16, fun o ho => ?_⟩
    have ho : o ∈ ([(true, st0_M)] : List (Bool × wE)) := ho
    simp only [List.mem_cons, List.not_mem_nil, or_false] at ho
    rcases ho with rfl
    · exact Or.inr ⟨rfl, List.mem_cons_of_mem _ (List.mem_cons_of_mem _ (List.mem_cons_of_mem _ (List.mem_cons_of_mem _ (List.mem_cons_of_mem _ (List.mem_cons_of_mem _ (List.mem_cons_of_mem _ (List.mem_cons_of_mem _ (List.mem_cons_of_mem _ (List.mem_cons_of_mem _ (List.mem_cons_of_mem _ (List.mem_cons_of_mem _ (List.mem_cons_of_mem _ (List.mem_cons_of_mem _ (List.mem_cons_of_mem _ (List.mem_cons_of_mem _ (List.mem_cons_of_mem _ (List.mem_cons_of_mem _ (List.mem_cons_of_mem _ (List.mem_cons_of_mem _ (List.mem_cons_of_mem _ (List.mem_cons_of_mem _ (List.mem_cons_self))))))))))))))))))))))⟩
  · refine ⟨st0o19, st0N19, fun o ho => ?_⟩
    have ho : o ∈ ([(true, st0_M)] : List (Bool × wE)) := ho
    simp only [List.mem_cons, List.not_mem_nil, or_false] at ho
    rcases ho with rfl
    · exact Or.inr ⟨rfl, List.mem_cons_of_mem _ (List.mem_cons_of_mem _ (List.mem_cons_of_mem _ (List.mem_cons_of_mem _ (List.mem_cons_of_mem _ (List.mem_cons_of_mem _ (List.mem_cons_of_mem _ (List.mem_cons_of_mem _ (List.mem_cons_of_mem _ (List.mem_cons_of_mem _ (List.mem_cons_of_mem _ (List.mem_cons_of_mem _ (List.mem_cons_of_mem _ (List.mem_cons_of_mem _ (List.mem_cons_of_mem _ (List.mem_cons_of_mem _ (List.mem_cons_of_mem _ (List.mem_cons_of_mem _ (List.mem_cons_of_mem _ (List.mem_cons_of_mem _ (List.mem_cons_of_mem _ (List.mem_cons_of_mem _ (List.mem_cons_self))))))))))))))))))))))⟩
  · refine ⟨st0o22, st0N22, fun o ho => ?_⟩
    have ho : o ∈ ([(true, st0_M)] : List (Bool × wE)) := ho
    simp only [List.mem_cons, List.not_mem_nil, or_false] at ho
    rcases ho with rfl
    · exact Or.inr ⟨rfl, List.mem_cons_of_mem _ (List.mem_cons_of_mem _ (List.mem_cons_of_mem _ (List.mem_cons_of_mem _ (List.mem_cons_of_mem _ (List.mem_cons_of_mem _ (List.mem_cons_of_mem _ (List.mem_cons_of_mem _ (List.mem_cons_of_mem _ (List.mem_cons_of_mem _ (List.mem_cons_of_mem _ (List.mem_cons_of_mem _ (List.mem_cons_of_mem _ (List.mem_cons_of_mem _ (List.mem_cons_of_mem _ (List.mem_cons_of_mem _ (List.mem_cons_of_mem _ (List.mem_cons_of_mem _ (List.mem_cons_of_mem _ (List.mem_cons_of_mem _ (List.mem_cons_of_mem _ (List.mem_cons_of_mem _ (List.mem_cons_self))))))))))))))))))))))⟩
  · refine ⟨st0o25, st0N25, fun o ho => ?_⟩
    have ho : o ∈ ([(true, st0_M)] : List (Bool × wE)) := ho
    simp only [List.mem_cons, List.not_mem_nil, or_false] at ho
    rcases ho with rfl
    · exact Or.inr ⟨rfl, List.mem_cons_of_mem _ (List.mem_cons_of_mem _ (List.mem_cons_of_mem _ (List.mem_cons_of_mem _ (List.mem_cons_of_mem _ (List.mem_cons_of_mem _ (List.mem_cons_of_mem _ (List.mem_cons_of_mem _ (List.mem_cons_of_mem _ (List.mem_cons_of_mem _ (List.mem_cons_of_mem _ (List.mem_cons_of_mem _ (List.mem_cons_of_mem _ (List.mem_cons_of_mem _ (List.mem_cons_of_mem _ (List.mem_cons_of_mem _ (List.mem_cons_of_mem _ (List.mem_cons_of_mem _ (List.mem_cons_of_mem _ (List.mem_cons_of_mem _ (List.mem_cons_of_mem _ (List.mem_cons_of_mem _ (List.mem_cons_self))))))))))))))))))))))⟩
  · refine ⟨st0o33, st0N33, fun o ho => ?_⟩
    have ho : o ∈ ([(true, st0_c7b)] : List (Bool × wE)) := ho
    simp only [List.mem_cons, List.not_mem_nil, or_false] at ho
    rcases ho with rfl
    · exact Or.inr ⟨rfl, List.mem_cons_of_mem _ (List.mem_cons_of_mem _ (List.mem_cons_of_mem _ (List.mem_cons_of_mem _ (List.mem_cons_of_mem _ (List.mem_cons_of_mem _ (List.mem_cons_of_mem _ (List.mem_cons_of_mem _ (List.mem_cons_of_mem _ (List.mem_cons_of_mem _ (List.mem_cons_of_mem _ (List.mem_cons_of_mem _ (List.mem_cons_of_mem _ (List.mem_cons_of_mem _ (List.mem_cons_of_mem _ (List.mem_cons_of_mem _ (List.mem_cons_of_mem _ (List.mem_cons_of_mem _ (List.mem_cons_of_mem _ (List.mem_cons_of_mem _ (List.mem_cons_of_mem _ (List.mem_cons_of_mem _ (List.mem_cons_of_mem _ (List.mem_cons_of_mem _ (List.mem_cons_of_mem _ (List.mem_cons_of_mem _ (List.mem_cons_of_mem _ (List.mem_cons_of_mem _ (List.mem_cons_of_mem _ (List.mem_cons_of_mem _ (List.mem_cons_of_mem _ (List.mem_cons_of_mem _ (List.mem_cons_of_mem _ (List.mem_cons_of_mem _ (List.mem_cons_of_mem _ (List.mem_cons_of_mem _ (List.mem_cons_self))))))))))))))))))))))))))))))))))))⟩
  · refine ⟨st0o42, st0N42, fun o ho => ?_⟩
    have ho : o ∈ ([(true, st0_M)] : List (Bool × wE)) := ho
    simp only [List.mem_cons, List.not_mem_nil, or_false] at ho
    rcases ho with rfl
    · exact Or.inr ⟨rfl, List.mem_cons_of_mem _ (List.mem_cons_of_mem _ (List.mem_cons_of_mem _ (List.mem_cons_of_mem _ (List.mem_cons_of_mem _ (List.mem_cons_of_mem _ (List.mem_cons_of_mem _ (List.mem_cons_of_mem _ (List.mem_cons_of_mem _ (List.mem_cons_of_mem _ (List.mem_cons_of_mem _ (List.mem_cons_of_mem _ (List.mem_cons_of_mem _ (List.mem_cons_of_mem _ (List.mem_cons_of_mem _ (List.mem_cons_of_mem _ (List.mem_cons_of_mem _ (List.mem_cons_of_mem _ (List.mem_cons_of_mem _ (List.mem_cons_of_mem _ (List.mem_cons_of_mem _ (List.mem_cons_of_mem _ (List.mem_cons_self))))))))))))))))))))))⟩
  · refine ⟨st0o38, st0N38, fun o ho => ?_⟩
    have ho : o ∈ ([(true, st0_c11b)] : List (Bool × wE)) := ho
    simp only [List.mem_cons, List.not_mem_nil, or_false] at ho
    rcases ho with rfl
    · exact Or.inr ⟨rfl, List.mem_cons_of_mem _ (List.mem_cons_of_mem _ (List.mem_cons_of_mem _ (List.mem_cons_of_mem _ (List.mem_cons_of_mem _ (List.mem_cons_of_mem _ (List.mem_cons_of_mem _ (List.mem_cons_of_mem _ (List.mem_cons_of_mem _ (List.mem_cons_of_mem _ (List.mem_cons_of_mem _ (List.mem_cons_of_mem _ (List.mem_cons_of_mem _ (List.mem_cons_of_mem _ (List.mem_cons_of_mem _ (List.mem_cons_of_mem _ (List.mem_cons_of_mem _ (List.mem_cons_of_mem _ (List.mem_cons_of_mem _ (List.mem_cons_of_mem _ (List.mem_cons_of_mem _ (List.mem_cons_of_mem _ (List.mem_cons_of_mem _ (List.mem_cons_of_mem _ (List.mem_cons_of_mem _ (List.mem_cons_of_mem _ (List.mem_cons_of_mem _ (List.mem_cons_of_mem _ (List.mem_cons_of_mem _ (List.mem_cons_of_mem _ (List.mem_cons_of_mem _ (List.mem_cons_of_mem _ (List.mem_cons_of_mem _ (List.mem_cons_of_mem _ (List.mem_cons_of_mem _ (List.mem_cons_of_mem _ (List.mem_cons_of_mem _ (List.mem_cons_self)))))))))))))))))))))))))))))))))))))⟩
  · refine ⟨st0o31, st0N31, fun o ho => ?_⟩
    have ho : o ∈ ([(true, st0_c7b_x)] : List (Bool × wE)) := ho
    simp only [List.mem_cons, List.not_mem_nil, or_false] at ho
    rcases ho with rfl
    · exact Or.inr ⟨rfl, List.mem_cons_of_mem _ (List.mem_cons_of_mem _ (List.mem_cons_of_mem _ (List.mem_cons_of_mem _ (List.mem_cons_of_mem _ (List.mem_cons_of_mem _ (List.mem_cons_of_mem _ (List.mem_cons_of_mem _ (List.mem_cons_of_mem _ (List.mem_cons_of_mem _ (List.mem_cons_of_mem _ (List.mem_cons_of_mem _ (List.mem_cons_of_mem _ (List.mem_cons_of_mem _ (List.mem_cons_of_mem _ (List.mem_cons_of_mem _ (List.mem_cons_of_mem _ (List.mem_cons_of_mem _ (List.mem_cons_of_mem _ (List.mem_cons_of_mem _ (List.mem_cons_of_mem _ (List.mem_cons_of_mem _ (List.mem_cons_of_mem _ (List.mem_cons_of_mem _ (List.mem_cons_of_mem _ (List.mem_cons_of_mem _ (List.mem_cons_of_mem _ (List.mem_cons_of_mem _ (List.mem_cons_of_mem _ (List.mem_cons_of_mem _ (List.mem_cons_of_mem _ (List.mem_cons_of_mem _ (List.mem_cons_of_mem _ (List.mem_cons_of_mem _ (List.mem_cons_of_mem _ (List.mem_cons_of_mem _ (List.mem_cons_of_mem _ (List.mem_cons_of_mem _ (List.mem_cons_self))))))))))))))))))))))))))))))))))))))⟩
  · refine ⟨st0o36, st0N36, fun o ho => ?_⟩
    have ho : o ∈ ([(true, st0_c11b_x)] : List (Bool × wE)) := ho
    simp only [List.mem_cons, List.not_mem_nil, or_false] at ho
    rcases ho with rfl
    · exact Or.inr ⟨rfl, List.mem_cons_of_mem _ (List.mem_cons_of_mem _ (List.mem_cons_of_mem _ (List.mem_cons_of_mem _ (List.mem_cons_of_mem _ (List.mem_cons_of_mem _ (List.mem_cons_of_mem _ (List.mem_cons_of_mem _ (List.mem_cons_of_mem _ (List.mem_cons_of_mem _ (List.mem_cons_of_mem _ (List.mem_cons_of_mem _ (List.mem_cons_of_mem _ (List.mem_cons_of_mem _ (List.mem_cons_of_mem _ (List.mem_cons_of_mem _ (List.mem_cons_of_mem _ (List.mem_cons_of_mem _ (List.mem_cons_of_mem _ (List.mem_cons_of_mem _ (List.mem_cons_of_mem _ (List.mem_cons_of_mem _ (List.mem_cons_of_mem _ (List.mem_cons_of_mem _ (List.mem_cons_of_mem _ (List.mem_cons_of_mem _ (List.mem_cons_of_mem _ (List.mem_cons_of_mem _ (List.mem_cons_of_mem _ (List.mem_cons_of_mem _ (List.mem_cons_of_mem _ (List.mem_cons_of_mem _ (List.mem_cons_of_mem _ (List.mem_cons_of_mem _ (List.mem_cons_of_mem _ (List.mem_cons_of_mem _ (List.mem_cons_of_mem _ (List.mem_cons_of_mem _ (List.mem_cons_of_mem _ (List.mem_cons_self)))))))))))))))))))))))))))))))))))))))⟩
  · refine ⟨st0o34, st0N34, fun o ho => ?_⟩
    have ho : o ∈ ([(true, st0_M)] : List (Bool × wE)) := ho
    simp only [List.mem_cons, List.not_mem_nil, or_false] at ho
    rcases ho with rfl
    · exact Or.inr ⟨rfl, List.mem_cons_of_mem _ (List.mem_cons_of_mem _ (List.mem_cons_of_mem _ (List.mem_cons_of_mem _ (List.mem_cons_of_mem _ (List.mem_cons_of_mem _ (List.mem_cons_of_mem _ (List.mem_cons_of_mem _ (List.mem_cons_of_mem _ (List.mem_cons_of_mem _ (List.mem_cons_of_mem _ (List.mem_cons_of_mem _ (List.mem_cons_of_mem _ (List.mem_cons_of_mem _ (List.mem_cons_of_mem _ (List.mem_cons_of_mem _ (List.mem_cons_of_mem _ (List.mem_cons_of_mem _ (List.mem_cons_of_mem _ (List.mem_cons_of_mem _ (List.mem_cons_of_mem _ (List.mem_cons_of_mem _ (List.mem_cons_self))))))))))))))))))))))⟩
  · refine ⟨st0o39, st0N39, fun o ho => ?_⟩
    have ho : o ∈ ([(true, st0_M)] : List (Bool × wE)) := ho
    simp only [List.mem_cons, List.not_mem_nil, or_false] at ho
    rcases ho with rfl
    · exact Or.inr ⟨rfl, List.mem_cons_of_mem _ (List.mem_cons_of_mem _ (List.mem_cons_of_mem _ (List.mem_cons_of_mem _ (List.mem_cons_of_mem _ (List.mem_cons_of_mem _ (List.mem_cons_of_mem _ (List.mem_cons_of_mem _ (List.mem_cons_of_mem _ (List.mem_cons_of_mem _ (List.mem_cons_of_mem _ (List.mem_cons_of_mem _ (List.mem_cons_of_mem _ (List.mem_cons_of_mem _ (List.mem_cons_of_mem _ (List.mem_cons_of_mem _ (List.mem_cons_of_mem _ (List.mem_cons_of_mem _ (List.mem_cons_of_mem _ (List.mem_cons_of_mem _ (List.mem_cons_of_mem _ (List.mem_cons_of_mem _ (List.mem_cons_self))))))))))))))))))))))⟩)
theorem mrN50 {xs : Nat → Int32} {n : Nat} {sf : Option Nat} : wGoes x_KT x_tb x_tyl (x_otS xs n sf) lwFR lwGA.length lwGB.length 11 26 43 mrWA mrWB 64 203 63 63 mr_c0RR mro50 :=
  wDp (wWk (wEqvB (wCallB (recv := 0) (pc := 212) (ix := 311) (nx := 3) (args := [.inl (lSy 6), .inl (lSy 5), .inl (lK 0)]) (rest := []) (LE := [(0, .inr (some 0)), (1, .inl (lSy 6)), (2, .inl (lSy 5)), (3, .inl (lK 0)), (4, .inl (lSy 24)), (5, .inl (lK 0))]) (cE := (lK 0)) (sE := (lK 0)) (wCallA (recv := 4) (pc := 106) (ix := 455) (nx := 3) (args := []) (rest := []) (LE := [(0, .inr (some 0)), (1, .inr (some 25)), (2, .inl (lSy 5)), (3, .inl (lSy 12)), (4, .inl (lSy 11)), (5, .inl (lSy 24))]) (cE := (lK 0)) (sE := (lK 0)) (wReL (XA := mrX50.2.1) (XB := mrX50.2.2.1) (XC := mrX50.2.2.2.1) (rk := mrX50.2.2.2.2) (rA := mrQA50) (rB := mrQB50) (st0_g3_G _ List.mem_cons_self) mrL50) gq64 gq69 (by decide +kernel) (by decide +kernel) (by decide +kernel) (by decide +kernel) (by decide +kernel)) gq203 gq205 (by decide +kernel) (by decide +kernel) (by decide +kernel) (by decide +kernel) (by decide +kernel)) (by decide +kernel) (by decide +kernel)) (by decide) (by decide) (by decide) (by decide +kernel) (by decide +kernel)) (by decide) (by decide)
theorem mrN51 {xs : Nat → Int32} {n : Nat} {sf : Option Nat} : wGoes x_KT x_tb x_tyl (x_otS xs n sf) lwFR lwGA.length lwGB.length 11 26 43 mrWA mrWB 64 203 63 63 mr_c0RO mro51 :=
  wDp (wWk (wEqvB (wCallB (recv := 0) (pc := 212) (ix := 311) (nx := 3) (args := [.inl (lSy 6), .inl (lSy 5), .inl (lK 0)]) (rest := []) (LE := [(0, .inr (some 0)), (1, .inl (lSy 6)), (2, .inl (lSy 5)), (3, .inl (lK 0)), (4, .inl (lSy 24)), (5, .inl (lK 0))]) (cE := (lK 0)) (sE := (lK 0)) (wCallA (recv := 4) (pc := 106) (ix := 455) (nx := 3) (args := []) (rest := []) (LE := [(0, .inr (some 0)), (1, .inr (some 25)), (2, .inl (lSy 5)), (3, .inl (lSy 12)), (4, .inl (lSy 11)), (5, .inl (lSy 24))]) (cE := (lK 0)) (sE := (lK 0)) (wReL (XA := mrX51.2.1) (XB := mrX51.2.2.1) (XC := mrX51.2.2.2.1) (rk := mrX51.2.2.2.2) (rA := mrQA51) (rB := mrQB51) (st0_g3_G _ List.mem_cons_self) mrL51) gq64 gq69 (by decide +kernel) (by decide +kernel) (by decide +kernel) (by decide +kernel) (by decide +kernel)) gq203 gq205 (by decide +kernel) (by decide +kernel) (by decide +kernel) (by decide +kernel) (by decide +kernel)) (by decide +kernel) (by decide +kernel)) (by decide) (by decide) (by decide) (by decide +kernel) (by decide +kernel)) (by decide) (by decide)
theorem mrN52 {xs : Nat → Int32} {n : Nat} {sf : Option Nat} : wGoes x_KT x_tb x_tyl (x_otS xs n sf) lwFR lwGA.length lwGB.length 11 26 43 mrWA mrWB 64 203 63 63 mr_RR mro52 :=
  wDp (wWk (wEd_spec (x_ov0_le sf) u_ctS lwFRok mrE52) (Nat.le_refl _) (Nat.le_refl _) (Nat.le_refl _) (by decide +kernel) (by decide +kernel)) (by decide) (by decide)
theorem mrN53 {xs : Nat → Int32} {n : Nat} {sf : Option Nat} : wGoes x_KT x_tb x_tyl (x_otS xs n sf) lwFR lwGA.length lwGB.length 11 26 43 mrWA mrWB 64 203 63 63 mr_RO mro53 :=
  wDp (wWk (wEd_spec (x_ov0_le sf) u_ctS lwFRok mrE53) (Nat.le_refl _) (Nat.le_refl _) (Nat.le_refl _) (by decide +kernel) (by decide +kernel)) (by decide) (by decide)
theorem mrN54 {xs : Nat → Int32} {n : Nat} {sf : Option Nat} : wGoes x_KT x_tb x_tyl (x_otS xs n sf) lwFR lwGA.length lwGB.length 11 26 43 mrWA mrWB 64 203 63 63 mr_c1R mro54 :=
  wDp (wWk (wEqvB (wCallB (recv := 0) (pc := 212) (ix := 311) (nx := 3) (args := [.inl (lSy 6), .inl (lSy 5), .inl (lK 1)]) (rest := []) (LE := [(0, .inr (some 0)), (1, .inl (lSy 6)), (2, .inl (lSy 5)), (3, .inl (lK 0)), (4, .inl (lSy 30)), (5, .inl (lK 1))]) (cE := (lK 0)) (sE := (lK 0)) (wCallA (recv := 8) (pc := 113) (ix := 455) (nx := 3) (args := []) (rest := []) (LE := [(0, .inr (some 0)), (1, .inr (some 25)), (2, .inl (lSy 5)), (3, .inl (lSy 12)), (4, .inl (lSy 11)), (5, .inl (lSy 13))]) (cE := (lK 0)) (sE := (lK 0)) (wReL (XA := mrX54.2.1) (XB := mrX54.2.2.1) (XC := mrX54.2.2.2.1) (rk := mrX54.2.2.2.2) (rA := mrQA54) (rB := mrQB54) (st1_g1_G _ List.mem_cons_self) mrL54) gq64 gq69 (by decide +kernel) (by decide +kernel) (by decide +kernel) (by decide +kernel) (by decide +kernel)) gq203 gq205 (by decide +kernel) (by decide +kernel) (by decide +kernel) (by decide +kernel) (by decide +kernel)) (by decide +kernel) (by decide +kernel)) (by decide) (by decide) (by decide) (by decide +kernel) (by decide +kernel)) (by decide) (by decide)
theorem mrN55 {xs : Nat → Int32} {n : Nat} {sf : Option Nat} : wGoes x_KT x_tb x_tyl (x_otS xs n sf) lwFR lwGA.length lwGB.length 11 26 43 mrWA mrWB 64 203 63 63 mr_c1O mro55 :=
  wDp (wWk (wEqvB (wCallB (recv := 0) (pc := 212) (ix := 311) (nx := 3) (args := [.inl (lSy 6), .inl (lSy 5), .inl (lK 1)]) (rest := []) (LE := [(0, .inr (some 0)), (1, .inl (lSy 6)), (2, .inl (lSy 5)), (3, .inl (lK 0)), (4, .inl (lSy 30)), (5, .inl (lK 1))]) (cE := (lK 0)) (sE := (lK 0)) (wCallA (recv := 8) (pc := 113) (ix := 455) (nx := 3) (args := []) (rest := []) (LE := [(0, .inr (some 0)), (1, .inr (some 25)), (2, .inl (lSy 5)), (3, .inl (lSy 12)), (4, .inl (lSy 11)), (5, .inl (lSy 13))]) (cE := (lK 0)) (sE := (lK 0)) (wReL (XA := mrX55.2.1) (XB := mrX55.2.2.1) (XC := mrX55.2.2.2.1) (rk := mrX55.2.2.2.2) (rA := mrQA55) (rB := mrQB55) (st1_g1_G _ List.mem_cons_self) mrL55) gq64 gq69 (by decide +kernel) (by decide +kernel) (by decide +kernel) (by decide +kernel) (by decide +kernel)) gq203 gq205 (by decide +kernel) (by decide +kernel) (by decide +kernel) (by decide +kernel) (by decide +kernel)) (by decide +kernel) (by decide +kernel)) (by decide) (by decide) (by decide) (by decide +kernel) (by decide +kernel)) (by decide) (by decide)
theorem mrN56 {xs : Nat → Int32} {n : Nat} {sf : Option Nat} : wGoes x_KT x_tb x_tyl (x_otS xs n sf) lwFR lwGA.length lwGB.length 11 26 43 mrWA mrWB 64 203 63 63 mr_OR mro56 :=
  wDp (wWk (wEd_spec (x_ov0_le sf) u_ctS lwFRok mrE56) (Nat.le_refl _) (Nat.le_refl _) (Nat.le_refl _) (by decide +kernel) (by decide +kernel)) (by decide) (by decide)
theorem mrN57 {xs : Nat → Int32} {n : Nat} {sf : Option Nat} : wGoes x_KT x_tb x_tyl (x_otS xs n sf) lwFR lwGA.length lwGB.length 11 26 43 mrWA mrWB 64 203 63 63 mr_c0RR_R mro57 :=
  wDp (wWk (wEd_spec (x_ov0_le sf) u_ctS lwFRok mrE57) (Nat.le_refl _) (Nat.le_refl _) (Nat.le_refl _) (by decide +kernel) (by decide +kernel)) (by decide) (by decide)
theorem mrN58 {xs : Nat → Int32} {n : Nat} {sf : Option Nat} : wGoes x_KT x_tb x_tyl (x_otS xs n sf) lwFR lwGA.length lwGB.length 11 26 43 mrWA mrWB 64 203 63 63 mr_c0RR_O mro58 :=
  wDp (wWk (wEd_spec (x_ov0_le sf) u_ctS lwFRok mrE58) (Nat.le_refl _) (Nat.le_refl _) (Nat.le_refl _) (by decide +kernel) (by decide +kernel)) (by decide) (by decide)
theorem mrN59 {xs : Nat → Int32} {n : Nat} {sf : Option Nat} : wGoes x_KT x_tb x_tyl (x_otS xs n sf) lwFR lwGA.length lwGB.length 11 26 43 mrWA mrWB 64 203 63 63 mr_c0RR_WR mro59 :=
  wDp (wWk (wEd_spec (x_ov0_le sf) u_ctS lwFRok mrE59) (Nat.le_refl _) (Nat.le_refl _) (Nat.le_refl _) (by decide +kernel) (by decide +kernel)) (by decide) (by decide)
theorem mrN60 {xs : Nat → Int32} {n : Nat} {sf : Option Nat} : wGoes x_KT x_tb x_tyl (x_otS xs n sf) lwFR lwGA.length lwGB.length 11 26 43 mrWA mrWB 64 203 63 63 mr_c0RR_WE mro60 :=
  wDp (wWk (wEd_spec (x_ov0_le sf) u_ctS lwFRok mrE60) (Nat.le_refl _) (Nat.le_refl _) (Nat.le_refl _) (by decide +kernel) (by decide +kernel)) (by decide) (by decide)
theorem mrN61 {xs : Nat → Int32} {n : Nat} {sf : Option Nat} : wGoes x_KT x_tb x_tyl (x_otS xs n sf) lwFR lwGA.length lwGB.length 11 26 43 mrWA mrWB 64 203 63 63 mr_c0RR_WL mro61 :=
  wDp (wWk (wEd_spec (x_ov0_le sf) u_ctS lwFRok mrE61) (Nat.le_refl _) (Nat.le_refl _) (Nat.le_refl _) (by decide +kernel) (by decide +kernel)) (by decide) (by decide)
theorem mrN62 {xs : Nat → Int32} {n : Nat} {sf : Option Nat} : wGoes x_KT x_tb x_tyl (x_otS xs n sf) lwFR lwGA.length lwGB.length 11 26 43 mrWA mrWB 64 203 63 63 mr_c0RR_FU mro62 :=
  wDp (wWk (wEd_spec (x_ov0_le sf) u_ctS lwFRok mrE62) (Nat.le_refl _) (Nat.le_refl _) (Nat.le_refl _) (by decide +kernel) (by decide +kernel)) (by decide) (by decide)
theorem mrN63 {xs : Nat → Int32} {n : Nat} {sf : Option Nat} : wGoes x_KT x_tb x_tyl (x_otS xs n sf) lwFR lwGA.length lwGB.length 11 26 43 mrWA mrWB 64 203 63 63 mr_c0RO_R mro63 :=
  wDp (wWk (wEd_spec (x_ov0_le sf) u_ctS lwFRok mrE63) (Nat.le_refl _) (Nat.le_refl _) (Nat.le_refl _) (by decide +kernel) (by decide +kernel)) (by decide) (by decide)
theorem mrN64 {xs : Nat → Int32} {n : Nat} {sf : Option Nat} : wGoes x_KT x_tb x_tyl (x_otS xs n sf) lwFR lwGA.length lwGB.length 11 26 43 mrWA mrWB 64 203 63 63 mr_c0RO_O mro64 :=
  wDp (wWk (wEd_spec (x_ov0_le sf) u_ctS lwFRok mrE64) (Nat.le_refl _) (Nat.le_refl _) (Nat.le_refl _) (by decide +kernel) (by decide +kernel)) (by decide) (by decide)
theorem mrN65 {xs : Nat → Int32} {n : Nat} {sf : Option Nat} : wGoes x_KT x_tb x_tyl (x_otS xs n sf) lwFR lwGA.length lwGB.length 11 26 43 mrWA mrWB 64 203 63 63 mr_c0RO_WR mro65 :=
  wDp (wWk (wEd_spec (x_ov0_le sf) u_ctS lwFRok mrE65) (Nat.le_refl _) (Nat.le_refl _) (Nat.le_refl _) (by decide +kernel) (by decide +kernel)) (by decide) (by decide)
theorem mrN66 {xs : Nat → Int32} {n : Nat} {sf : Option Nat} : wGoes x_KT x_tb x_tyl (x_otS xs n sf) lwFR lwGA.length lwGB.length 11 26 43 mrWA mrWB 64 203 63 63 mr_c0RO_WE mro66 :=
  wDp (wWk (wEd_spec (x_ov0_le sf) u_ctS lwFRok mrE66) (Nat.le_refl _) (Nat.le_refl _) (Nat.le_refl _) (by decide +kernel) (by decide +kernel)) (by decide) (by decide)
theorem mrN67 {xs : Nat → Int32} {n : Nat} {sf : Option Nat} : wGoes x_KT x_tb x_tyl (x_otS xs n sf) lwFR lwGA.length lwGB.length 11 26 43 mrWA mrWB 64 203 63 63 mr_c0RO_WL mro67 :=
  wDp (wWk (wEd_spec (x_ov0_le sf) u_ctS lwFRok mrE67) (Nat.le_refl _) (Nat.le_refl _) (Nat.le_refl _) (by decide +kernel) (by decide +kernel)) (by decide) (by decide)
theorem mrN68 {xs : Nat → Int32} {n : Nat} {sf : Option Nat} : wGoes x_KT x_tb x_tyl (x_otS xs n sf) lwFR lwGA.length lwGB.length 11 26 43 mrWA mrWB 64 203 63 63 mr_c0RO_FU mro68 :=
  wDp (wWk (wEd_spec (x_ov0_le sf) u_ctS lwFRok mrE68) (Nat.le_refl _) (Nat.le_refl _) (Nat.le_refl _) (by decide +kernel) (by decide +kernel)) (by decide) (by decide)
theorem mrN69 {xs : Nat → Int32} {n : Nat} {sf : Option Nat} : wGoes x_KT x_tb x_tyl (x_otS xs n sf) lwFR lwGA.length lwGB.length 11 26 43 mrWA mrWB 64 203 63 63 mr_c1R_R mro69 :=
  wDp (wWk (wEd_spec (x_ov0_le sf) u_ctS lwFRok mrE69) (Nat.le_refl _) (Nat.le_refl _) (Nat.le_refl _) (by decide +kernel) (by decide +kernel)) (by decide) (by decide)
theorem mrN70 {xs : Nat → Int32} {n : Nat} {sf : Option Nat} : wGoes x_KT x_tb x_tyl (x_otS xs n sf) lwFR lwGA.length lwGB.length 11 26 43 mrWA mrWB 64 203 63 63 mr_c1R_O mro70 :=
  wDp (wWk (wEd_spec (x_ov0_le sf) u_ctS lwFRok mrE70) (Nat.le_refl _) (Nat.le_refl _) (Nat.le_refl _) (by decide +kernel) (by decide +kernel)) (by decide) (by decide)
theorem mrN71 {xs : Nat → Int32} {n : Nat} {sf : Option Nat} : wGoes x_KT x_tb x_tyl (x_otS xs n sf) lwFR lwGA.length lwGB.length 11 26 43 mrWA mrWB 64 203 63 63 mr_c1R_WR mro71 :=
  wDp (wWk (wEd_spec (x_ov0_le sf) u_ctS lwFRok mrE71) (Nat.le_refl _) (Nat.le_refl _) (Nat.le_refl _) (by decide +kernel) (by decide +kernel)) (by decide) (by decide)
theorem mrN72 {xs : Nat → Int32} {n : Nat} {sf : Option Nat} : wGoes x_KT x_tb x_tyl (x_otS xs n sf) lwFR lwGA.length lwGB.length 11 26 43 mrWA mrWB 64 203 63 63 mr_c1R_WE mro72 :=
  wDp (wWk (wEd_spec (x_ov0_le sf) u_ctS lwFRok mrE72) (Nat.le_refl _) (Nat.le_refl _) (Nat.le_refl _) (by decide +kernel) (by decide +kernel)) (by decide) (by decide)
theorem mrN73 {xs : Nat → Int32} {n : Nat} {sf : Option Nat} : wGoes x_KT x_tb x_tyl (x_otS xs n sf) lwFR lwGA.length lwGB.length 11 26 43 mrWA mrWB 64 203 63 63 mr_c1R_WL mro73 :=
  wDp (wWk (wEd_spec (x_ov0_le sf) u_ctS lwFRok mrE73) (Nat.le_refl _) (Nat.le_refl _) (Nat.le_refl _) (by decide +kernel) (by decide +kernel)) (by decide) (by decide)
theorem mrN74 {xs : Nat → Int32} {n : Nat} {sf : Option Nat} : wGoes x_KT x_tb x_tyl (x_otS xs n sf) lwFR lwGA.length lwGB.length 11 26 43 mrWA mrWB 64 203 63 63 mr_c1R_FU mro74 :=
  wDp (wWk (wEd_spec (x_ov0_le sf) u_ctS lwFRok mrE74) (Nat.le_refl _) (Nat.le_refl _) (Nat.le_refl _) (by decide +kernel) (by decide +kernel)) (by decide) (by decide)
theorem mrN75 {xs : Nat → Int32} {n : Nat} {sf : Option Nat} : wGoes x_KT x_tb x_tyl (x_otS xs n sf) lwFR lwGA.length lwGB.length 11 26 43 mrWA mrWB 64 203 63 63 mr_c1O_R mro75 :=
  wDp (wWk (wEd_spec (x_ov0_le sf) u_ctS lwFRok mrE75) (Nat.le_refl _) (Nat.le_refl _) (Nat.le_refl _) (by decide +kernel) (by decide +kernel)) (by decide) (by decide)
theorem mrN76 {xs : Nat → Int32} {n : Nat} {sf : Option Nat} : wGoes x_KT x_tb x_tyl (x_otS xs n sf) lwFR lwGA.length lwGB.length 11 26 43 mrWA mrWB 64 203 63 63 mr_c1O_O mro76 :=
  wDp (wWk (wEd_spec (x_ov0_le sf) u_ctS lwFRok mrE76) (Nat.le_refl _) (Nat.le_refl _) (Nat.le_refl _) (by decide +kernel) (by decide +kernel)) (by decide) (by decide)
theorem mrN77 {xs : Nat → Int32} {n : Nat} {sf : Option Nat} : wGoes x_KT x_tb x_tyl (x_otS xs n sf) lwFR lwGA.length lwGB.length 11 26 43 mrWA mrWB 64 203 63 63 mr_c1O_WR mro77 :=
  wDp (wWk (wEd_spec (x_ov0_le sf) u_ctS lwFRok mrE77) (Nat.le_refl _) (Nat.le_refl _) (Nat.le_refl _) (by decide +kernel) (by decide +kernel)) (by decide) (by decide)
theorem mrN78 {xs : Nat → Int32} {n : Nat} {sf : Option Nat} : wGoes x_KT x_tb x_tyl (x_otS xs n sf) lwFR lwGA.length lwGB.length 11 26 43 mrWA mrWB 64 203 63 63 mr_c1O_WE mro78 :=
  wDp (wWk (wEd_spec (x_ov0_le sf) u_ctS lwFRok mrE78) (Nat.le_refl _) (Nat.le_refl _) (Nat.le_refl _) (by decide +kernel) (by decide +kernel)) (by decide) (by decide)
theorem mrN79 {xs : Nat → Int32} {n : Nat} {sf : Option Nat} : wGoes x_KT x_tb x_tyl (x_otS xs n sf) lwFR lwGA.length lwGB.length 11 26 43 mrWA mrWB 64 203 63 63 mr_c1O_WL mro79 :=
  wDp (wWk (wEd_spec (x_ov0_le sf) u_ctS lwFRok mrE79) (Nat.le_refl _) (Nat.le_refl _) (Nat.le_refl _) (by decide +kernel) (by decide +kernel)) (by decide) (by decide)
theorem mrN80 {xs : Nat → Int32} {n : Nat} {sf : Option Nat} : wGoes x_KT x_tb x_tyl (x_otS xs n sf) lwFR lwGA.length lwGB.length 11 26 43 mrWA mrWB 64 203 63 63 mr_c1O_FU mro80 :=
  wDp (wWk (wEd_spec (x_ov0_le sf) u_ctS lwFRok mrE80) (Nat.le_refl _) (Nat.le_refl _) (Nat.le_refl _) (by decide +kernel) (by decide +kernel)) (by decide) (by decide)
theorem mrN81 {xs : Nat → Int32} {n : Nat} {sf : Option Nat} : wGoes x_KT x_tb x_tyl (x_otS xs n sf) lwFR lwGA.length lwGB.length 11 26 43 mrWA mrWB 64 203 63 63 mr_OO mro81 :=
  wDp (wWk (wEd_spec (x_ov0_le sf) u_ctS lwFRok mrE81) (Nat.le_refl _) (Nat.le_refl _) (Nat.le_refl _) (by decide +kernel) (by decide +kernel)) (by decide) (by decide)
set_option maxRecDepth 1000000 in
theorem gq83 : tMth x_tb 83 = some xm83 := rfl
set_option maxRecDepth 1000000 in
theorem gq211 : tMth x_tb 211 = some xm211 := rfl
theorem lkN0 {xs : Nat → Int32} {n : Nat} {sf : Option Nat} : wGoes x_KT x_tb x_tyl (x_otS xs n sf) lwFR lwGA.length lwGB.length 18 30 45 lkWA lkWB 83 211 60 60 lk_in lko0 :=
  wDp (wWk (wEd_spec (x_ov0_le sf) u_ctS lwFRok lkE0) (Nat.le_refl _) (Nat.le_refl _) (Nat.le_refl _) (by decide +kernel) (by decide +kernel)) (by decide) (by decide)
theorem lkN1 {xs : Nat → Int32} {n : Nat} {sf : Option Nat} : wGoes x_KT x_tb x_tyl (x_otS xs n sf) lwFR lwGA.length lwGB.length 18 30 45 lkWA lkWB 83 211 60 60 lk_lp lko1 :=
  wDp (wWk (wEd_spec (x_ov0_le sf) u_ctS lwFRok lkE1) (Nat.le_refl _) (Nat.le_refl _) (Nat.le_refl _) (by decide +kernel) (by decide +kernel)) (by decide) (by decide)
set_option maxRecDepth 1000000 in
theorem gq202 : tMth x_tb 202 = some xm202 := rfl
end XRuG3
