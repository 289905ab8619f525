/-! Runs: graphs, blocks, 5. -/
noncomputable section XRuG5
theorem rrN0 {xs : Nat → Int32} {n : Nat} {sf : Option Nat} : wGoes x_KT x_tb x_tyl (x_otS xs n sf) lwFR lwGA.length lwGB.length 11 25 42 rrWA rrWB 64 202 63 64 rr_cb rro0 :=
  wDp (wWk (wEqvB (wCallB (recv := 0) (pc := 3) (ix := 315) (nx := 3) (args := [.inl (lSy 6), .inl (lSy 5)]) (rest := []) (LE := [(0, .inr (some 0)), (1, .inl (lSy 6)), (2, .inl (lSy 5))]) (cE := (lK 0)) (sE := (lK 0)) (wReL (XA := rrX0.2.1) (XB := rrX0.2.2.1) (XC := rrX0.2.2.2.1) (rk := rrX0.2.2.2.2) (rA := rrQA0) (rB := rrQB0) (mr_g0_G _ List.mem_cons_self) rrL0) gq202 gq203 (by decide +kernel) (by decide +kernel) (by decide +kernel) (by decide +kernel) (by decide +kernel)) (by decide +kernel) (by decide +kernel)) (by decide) (by decide) (by decide) (by decide +kernel) (by decide +kernel)) (by decide) (by decide)
theorem rrN1 {xs : Nat → Int32} {n : Nat} {sf : Option Nat} : wGoes x_KT x_tb x_tyl (x_otS xs n sf) lwFR lwGA.length lwGB.length 11 25 42 rrWA rrWB 64 202 63 64 rr_in rro1 :=
  wDp (wWk (wEd_spec (x_ov0_le sf) u_ctS lwFRok rrE1) (Nat.le_refl _) (Nat.le_refl _) (Nat.le_refl _) (by decide +kernel) (by decide +kernel)) (by decide) (by decide)
def lk_g0_nd : List wE := [lk_in, lk_lp]
theorem lk_g0_G {xs : Nat → Int32} {n : Nat} {sf : Option Nat} : ∀ nd ∈ lk_g0_nd, wGoes x_KT x_tb x_tyl (x_otS xs n sf) lwFR lwGA.length lwGB.length 18 29 44 lkWA lkWB 83 211 60 60 nd (lk_g0_ex.map (fun x => (false, x))) := wGraph (fun nd hnd => by
  have hnd : nd ∈ ([lk_in, lk_lp] : List wE) := hnd
  simp only [List.mem_cons, List.not_mem_nil, or_false] at hnd
  rcases hnd with rfl | rfl
  · refine ⟨lko0, lkN0, fun o ho => ?_⟩
    have ho : o ∈ ([(true, lk_lp), (false, lk_e0), (false, lk_e1)] : List (Bool × wE)) := ho
    simp only [List.mem_cons, List.not_mem_nil, or_false] at ho
    rcases ho with rfl | rfl | rfl
    · exact Or.inr ⟨rfl, List.mem_cons_of_mem _ (List.mem_cons_self)⟩
    · exact Or.inl (List.mem_cons_self)
    · exact Or.inl (List.mem_cons_of_mem _ (List.mem_cons_self))
  · refine ⟨lko1, lkN1, fun o ho => ?_⟩
    have ho : o ∈ ([(true, lk_lp), (false, lk_e0), (false, lk_e1)] : List (Bool × wE)) := ho
    simp only [List.mem_cons, List.not_mem_nil, or_false] at ho
    rcases ho with rfl | rfl | rfl
    · exact Or.inr ⟨rfl, List.mem_cons_of_mem _ (List.mem_cons_self)⟩
    · exact Or.inl (List.mem_cons_self)
    · exact Or.inl (List.mem_cons_of_mem _ (List.mem_cons_self)))
theorem rrN2 {xs : Nat → Int32} {n : Nat} {sf : Option Nat} : wGoes x_KT x_tb x_tyl (x_otS xs n sf) lwFR lwGA.length lwGB.length 11 25 42 rrWA rrWB 64 202 63 64 rr_cl rro2 :=
  wDp (wWk (wEqvB (wCallBs (pc := 107) (ix := 319) (nx := 3) (so := 2) (args := [.inr (some 42), .inl (lSy 16), .inr (some 43), .inl (lSy 17)]) (rest := []) (LE := [(0, .inr (some 0)), (1, .inl (lSy 6)), (2, .inl (lSy 5))]) (cE := (lK 0)) (sE := (lK 0)) (wCallA (recv := 25) (pc := 212) (ix := 324) (nx := 3) (args := [.inr (some 27)]) (rest := [.inr (some 24)]) (LE := [(0, .inr (some 0)), (1, .inr (some 24)), (2, .inl (lSy 5))]) (cE := (lK 0)) (sE := (lK 0)) (wReL (XA := rrX2.2.1) (XB := rrX2.2.2.1) (XC := rrX2.2.2.2.1) (rk := rrX2.2.2.2.2) (rA := rrQA2) (rB := rrQB2) (lk_g0_G _ List.mem_cons_self) rrL2) gq64 gq83 (by decide +kernel) (by decide +kernel) (by decide +kernel) (by decide +kernel) (by decide +kernel)) gq202 gq211 (by decide +kernel) (by decide +kernel) (by decide +kernel) (by decide +kernel) (by decide +kernel)) (by decide +kernel) (by decide +kernel)) (by decide) (by decide) (by decide) (by decide +kernel) (by decide +kernel)) (by decide) (by decide)
theorem rrN3 {xs : Nat → Int32} {n : Nat} {sf : Option Nat} : wGoes x_KT x_tb x_tyl (x_otS xs n sf) lwFR lwGA.length lwGB.length 11 25 42 rrWA rrWB 64 202 63 64 rr_cb_X rro3 :=
  wDp (wWk (wFamE2 (V := [5, 9, 6, 10, 7, 8, 20]) (x_ov0_le sf) u_ctS lwFRok rrE3 (by decide) (by decide) (fun i hi u hu => by
      have hi : i ∈ ([5, 9, 6, 10, 7, 8, 20] : List Nat) := hi
      simp only [List.mem_cons, List.not_mem_nil, or_false] at hi
      rcases hi with rfl | rfl | rfl | rfl | rfl | rfl | rfl
      · exact gRk_spec (x_ov0_le sf) u_ctS lwFRok rrE3 (by decide) (by decide) rrE3G0 (by decide +kernel) _ (List.mem_cons_self) u hu
      · exact gRk_spec (x_ov0_le sf) u_ctS lwFRok rrE3 (by decide) (by decide) rrE3G0 (by decide +kernel) _ (List.mem_cons_of_mem _ (List.mem_cons_self)) u hu
      · exact gRk_spec (x_ov0_le sf) u_ctS lwFRok rrE3 (by decide) (by decide) rrE3G0 (by decide +kernel) _ (List.mem_cons_of_mem _ (List.mem_cons_of_mem _ (List.mem_cons_self))) u hu
      · exact gRk_spec (x_ov0_le sf) u_ctS lwFRok rrE3 (by decide) (by decide) rrE3G0 (by decide +kernel) _ (List.mem_cons_of_mem _ (List.mem_cons_of_mem _ (List.mem_cons_of_mem _ (List.mem_cons_self)))) u hu
      · exact gRk_spec (x_ov0_le sf) u_ctS lwFRok rrE3 (by decide) (by decide) rrE3G0 (by decide +kernel) _ (List.mem_cons_of_mem _ (List.mem_cons_of_mem _ (List.mem_cons_of_mem _ (List.mem_cons_of_mem _ (List.mem_cons_self))))) u hu
      · exact gRk_spec (x_ov0_le sf) u_ctS lwFRok rrE3 (by decide) (by decide) rrE3G0 (by decide +kernel) _ (List.mem_cons_of_mem _ (List.mem_cons_of_mem _ (List.mem_cons_of_mem _ (List.mem_cons_of_mem _ (List.mem_cons_of_mem _ (List.mem_cons_self)))))) u hu
      · cases hu
        exact wRkE_spec (x_ov0_le sf) u_ctS lwFRok rrE3R20)) (Nat.le_refl _) (Nat.le_refl _) (Nat.le_refl _) (by decide +kernel) (by decide +kernel)) (by decide) (by decide)
theorem rrN4 {xs : Nat → Int32} {n : Nat} {sf : Option Nat} : wGoes x_KT x_tb x_tyl (x_otS xs n sf) lwFR lwGA.length lwGB.length 11 25 42 rrWA rrWB 64 202 63 64 rr_cl_e0 rro4 :=
  wDp (wWk (wEd_spec (x_ov0_le sf) u_ctS lwFRok rrE4) (Nat.le_refl _) (Nat.le_refl _) (Nat.le_refl _) (by decide +kernel) (by decide +kernel)) (by decide) (by decide)
theorem rrN5 {xs : Nat → Int32} {n : Nat} {sf : Option Nat} : wGoes x_KT x_tb x_tyl (x_otS xs n sf) lwFR lwGA.length lwGB.length 11 25 42 rrWA rrWB 64 202 63 64 rr_cl_e1 rro5 :=
  wDp (wWk (wEd_spec (x_ov0_le sf) u_ctS lwFRok rrE5) (Nat.le_refl _) (Nat.le_refl _) (Nat.le_refl _) (by decide +kernel) (by decide +kernel)) (by decide) (by decide)
set_option maxRecDepth 1000000 in
theorem gq62 : tMth x_tb 62 = some xm62 := rfl
set_option maxRecDepth 1000000 in
theorem gq200 : tMth x_tb 200 = some xm200 := rfl
def rr_g0_nd : List wE := [rr_in, rr_cb, rr_cb_X, rr_cl, rr_cl_e0, rr_cl_e1]
theorem rr_g0_G {xs : Nat → Int32} {n : Nat} {sf : Option Nat} : ∀ nd ∈ rr_g0_nd, wGoes x_KT x_tb x_tyl (x_otS xs n sf) lwFR lwGA.length lwGB.length 11 25 42 rrWA rrWB 64 202 63 64 nd (rr_g0_ex.map (fun x => (false, x))) := wGraph (fun nd hnd => by
  have hnd : nd ∈ ([rr_in, rr_cb, rr_cb_X, rr_cl, rr_cl_e0, rr_cl_e1] : List wE) := hnd
  simp only [List.mem_cons, List.not_mem_nil, or_false] at hnd
  rcases hnd with rfl | rfl | rfl | rfl | rfl | rfl
  · refine ⟨rro1, rrN1, fun o ho => ?_⟩
    have ho : o ∈ ([(true, rr_cb)] : List (Bool × wE)) := ho
    simp only [List.mem_cons, List.not_mem_nil, or_false] at ho
    rcases ho with rfl
    · exact Or.inr ⟨rfl, List.mem_cons_of_mem _ (List.mem_cons_self)⟩
  · refine ⟨rro0, rrN0, fun o ho => ?_⟩
    have ho : o ∈ ([(true, rr_cb_X)] : List (Bool × wE)) := ho
    simp only [List.mem_cons, List.not_mem_nil, or_false] at ho
    rcases ho with rfl
    · exact Or.inr ⟨rfl, List.mem_cons_of_mem _ (List.mem_cons_of_mem _ (List.mem_cons_self))⟩
  · refine ⟨rro3, rrN3, fun o ho => ?_⟩
    have ho : o ∈ ([(true, rr_cl), (false, rr_x1)] : List (Bool × wE)) := ho
    simp only [List.mem_cons, List.not_mem_nil, or_false] at ho
    rcases ho with rfl | rfl
    · exact Or.inr ⟨rfl, List.mem_cons_of_mem _ (List.mem_cons_of_mem _ (List.mem_cons_of_mem _ (List.mem_cons_self)))⟩
    · exact Or.inl (List.mem_cons_of_mem _ (List.mem_cons_self))
  · refine ⟨rro2, rrN2, fun o ho => ?_⟩
    have ho : o ∈ ([(true, rr_cl_e0), (true, rr_cl_e1)] : List (Bool × wE)) := ho
    simp only [List.mem_cons, List.not_mem_nil, or_false] at ho
    rcases ho with rfl | rfl
    · exact Or.inr ⟨rfl, List.mem_cons_of_mem _ (List.mem_cons_of_mem _ (List.mem_cons_of_mem _ (List.mem_cons_of_mem _ (List.mem_cons_self))))⟩
    · exact Or.inr ⟨rfl, List.mem_cons_of_mem _ (List.mem_cons_of_mem _ (List.mem_cons_of_mem _ (List.mem_cons_of_mem _ (List.mem_cons_of_mem _ (List.mem_cons_self)))))⟩
  · refine ⟨rro4, rrN4, fun o ho => ?_⟩
    have ho : o ∈ ([(false, rr_x1)] : List (Bool × wE)) := ho
    simp only [List.mem_cons, List.not_mem_nil, or_false] at ho
    rcases ho with rfl
    · exact Or.inl (List.mem_cons_of_mem _ (List.mem_cons_self))
  · refine ⟨rro5, rrN5, fun o ho => ?_⟩
    have ho : o ∈ ([(false, rr_x0)] : List (Bool × wE)) := ho
    simp only [List.mem_cons, List.not_mem_nil, or_false] at ho
    rcases ho with rfl
    · exact Or.inl (List.mem_cons_self))
theorem runN0 {xs : Nat → Int32} {n : Nat} {sf : Option Nat} : wGoes x_KT x_tb x_tyl (x_otS xs n sf) lwFR lwGA.length lwGB.length 5 24 42 runWA runWB 62 200 64 65 run_cl runo0 :=
  wDp (wWk (wEqvB (wCallB (recv := 0) (pc := 25) (ix := 329) (nx := 3) (args := [.inl (lSy 6), .inl (lSy 5)]) (rest := [.inl (lSy 6), .inr (some 0)]) (LE := [(0, .inr (some 0)), (1, .inl (lSy 6)), (2, .inl (lSy 5))]) (cE := (lK 0)) (sE := (lK 0)) (wCallA (recv := 0) (pc := 25) (ix := 215) (nx := 3) (args := [.inr (some 24), .inl (lSy 5)]) (rest := []) (LE := [(0, .inr (some 0)), (1, .inl (lSy 6)), (2, .inl (lSy 5)), (3, .inr (some 24))]) (cE := (lK 0)) (sE := (lK 0)) (wReL (XA := runX0.2.1) (XB := runX0.2.2.1) (XC := runX0.2.2.2.1) (rk := runX0.2.2.2.2) (rA := runQA0) (rB := runQB0) (rr_g0_G _ List.mem_cons_self) runL0) gq62 gq64 (by decide +kernel) (by decide +kernel) (by decide +kernel) (by decide +kernel) (by decide +kernel)) gq200 gq202 (by decide +kernel) (by decide +kernel) (by decide +kernel) (by decide +kernel) (by decide +kernel)) (by decide +kernel) (by decide +kernel)) (by decide) (by decide) (by decide) (by decide +kernel) (by decide +kernel)) (by decide) (by decide)
theorem runN1 {xs : Nat → Int32} {n : Nat} {sf : Option Nat} : wGoes x_KT x_tb x_tyl (x_otS xs n sf) lwFR lwGA.length lwGB.length 5 24 42 runWA runWB 62 200 64 65 run_in runo1 :=
  wDp (wWk (wEd_spec (x_ov0_le sf) u_ctS lwFRok runE1) (Nat.le_refl _) (Nat.le_refl _) (Nat.le_refl _) (by decide +kernel) (by decide +kernel)) (by decide) (by decide)
theorem runN2 {xs : Nat → Int32} {n : Nat} {sf : Option Nat} : wGoes x_KT x_tb x_tyl (x_otS xs n sf) lwFR lwGA.length lwGB.length 5 24 42 runWA runWB 62 200 64 65 run_cl_x0 runo2 :=
  wDp (wWk (wEd_spec (x_ov0_le sf) u_ctS lwFRok runE2) (Nat.le_refl _) (Nat.le_refl _) (Nat.le_refl _) (by decide +kernel) (by decide +kernel)) (by decide) (by decide)
theorem runN3 {xs : Nat → Int32} {n : Nat} {sf : Option Nat} : wGoes x_KT x_tb x_tyl (x_otS xs n sf) lwFR lwGA.length lwGB.length 5 24 42 runWA runWB 62 200 64 65 run_cl_x1 runo3 :=
  wDp (wWk (wEd_spec (x_ov0_le sf) u_ctS lwFRok runE3) (Nat.le_refl _) (Nat.le_refl _) (Nat.le_refl _) (by decide +kernel) (by decide +kernel)) (by decide) (by decide)
def run_g0_nd : List wE := [run_in, run_cl, run_cl_x0, run_cl_x1]
theorem run_g0_G {xs : Nat → Int32} {n : Nat} {sf : Option Nat} : ∀ nd ∈ run_g0_nd, wGoes x_KT x_tb x_tyl (x_otS xs n sf) lwFR lwGA.length lwGB.length 5 24 42 runWA runWB 62 200 64 65 nd (run_g0_ex.map (fun x => (false, x))) := wGraph (fun nd hnd => by
  have hnd : nd ∈ ([run_in, run_cl, run_cl_x0, run_cl_x1] : List wE) := hnd
  simp only [List.mem_cons, List.not_mem_nil, or_false] at hnd
  rcases hnd with rfl | rfl | rfl | rfl
  · refine ⟨runo1, runN1, fun o ho => ?_⟩
    have ho : o ∈ ([(true, run_cl), (false, run_out)] : List (Bool × wE)) := ho
    simp only [List.mem_cons, List.not_mem_nil, or_false] at ho
    rcases ho with rfl | rfl
    · exact Or.inr ⟨rfl, List.mem_cons_of_mem _ (List.mem_cons_self)⟩
    · exact Or.inl (List.mem_cons_self)
  · refine ⟨runo0, runN0, fun o ho => ?_⟩
    have ho : o ∈ ([(true, run_cl_x0), (true, run_cl_x1)] : List (Bool × wE)) := ho
    simp only [List.mem_cons, List.not_mem_nil, or_false] at ho
    rcases ho with rfl | rfl
    · exact Or.inr ⟨rfl, List.mem_cons_of_mem _ (List.mem_cons_of_mem _ (List.mem_cons_self))⟩
    · exact Or.inr ⟨rfl, List.mem_cons_of_mem _ (List.mem_cons_of_mem _ (List.mem_cons_of_mem _ (List.mem_cons_self)))⟩
  · refine ⟨runo2, runN2, fun o ho => ?_⟩
    have ho : o ∈ ([(false, run_out)] : List (Bool × wE)) := ho
    simp only [List.mem_cons, List.not_mem_nil, or_false] at ho
    rcases ho with rfl
    · exact Or.inl (List.mem_cons_self)
  · refine ⟨runo3, runN3, fun o ho => ?_⟩
    have ho : o ∈ ([(false, run_out)] : List (Bool × wE)) := ho
    simp only [List.mem_cons, List.not_mem_nil, or_false] at ho
    rcases ho with rfl
    · exact Or.inl (List.mem_cons_self))
theorem runH {xs : Nat → Int32} {n : Nat} {sf : Option Nat} : wGoes x_KT x_tb x_tyl (x_otS xs n sf) lwFS lwGA.length lwGB.length 5 24 42 runWA runWB 62 200 64 65 run_in (runOX.map (fun x => x.1)) :=
  wFSr (FS := lwFR) (nh := 29) (wFam (V := []) lwFRok (by decide +kernel) (by decide +kernel) (run_g0_G run_in List.mem_cons_self) (by decide) (by decide) (fun i hi u hu => by
  have hi : i ∈ ([] : List Nat) := hi
  simp only [List.mem_cons, List.not_mem_nil, or_false] at hi)) lwFRp (by decide) (by decide +kernel)
theorem runPP {xs : Nat → Int32} {n : Nat} {sf : Option Nat} : bPP x_KT x_tb x_tyl (x_otS xs n sf) lwN lwP 1299 62 200 2 (mMc xm62 + mMc xm200) (mRc xm62) (mRc xm200) True :=
  wBlk lwFok lwFB uKa uKb (by decide +kernel) (by decide +kernel) uKdj uKj runbc runH gq62 gq200 (by decide) (by decide) (uKeep (by decide +kernel)) (by decide +kernel) (by decide +kernel) (by decide +kernel)
set_option maxRecDepth 1000000 in
theorem gq89 : tMth x_tb 89 = some xm89 := rfl
set_option maxRecDepth 1000000 in
theorem gq220 : tMth x_tb 220 = some xm220 := rfl
theorem nightNN0 {xs : Nat → Int32} {n : Nat} {sf : Option Nat} : wGoes x_KT x_tb x_tyl (x_otS xs n sf) lwFR lwGA.length lwGB.length 6 24 42 nightNWA nightNWB 89 220 64 65 nightN_cl nightNo0 :=
  wDp (wWk (wEqvB (wCallB (recv := 0) (pc := 86) (ix := 329) (nx := 3) (args := [.inl (lSy 6), .inl (lSy 5)]) (rest := []) (LE := [(0, .inr (some 0)), (1, .inl (lSy 5)), (2, .inl (lK 0)), (3, .inl (lK 1)), (4, .inl (lK 1)), (5, .inl (lSy 7)), (6, .inl (lSy 6))]) (cE := (lK 0)) (sE := (lK 0)) (wCallA (recv := 0) (pc := 67) (ix := 215) (nx := 3) (args := [.inr (some 24), .inl (lSy 5)]) (rest := []) (LE := [(0, .inr (some 0)), (1, .inl (lSy 5)), (2, .inl (lSy 7)), (3, .inl (lSy 6)), (4, .inr (some 24))]) (cE := (lK 0)) (sE := (lK 0)) (wReL (XA := nightNX0.2.1) (XB := nightNX0.2.2.1) (XC := nightNX0.2.2.2.1) (rk := nightNX0.2.2.2.2) (rA := nightNQA0) (rB := nightNQB0) (rr_g0_G _ List.mem_cons_self) nightNL0) gq89 gq64 (by decide +kernel) (by decide +kernel) (by decide +kernel) (by decide +kernel) (by decide +kernel)) gq220 gq202 (by decide +kernel) (by decide +kernel) (by decide +kernel) (by decide +kernel) (by decide +kernel)) (by decide +kernel) (by decide +kernel)) (by decide) (by decide) (by decide) (by decide +kernel) (by decide +kernel)) (by decide) (by decide)
theorem nightNN1 {xs : Nat → Int32} {n : Nat} {sf : Option Nat} : wGoes x_KT x_tb x_tyl (x_otS xs n sf) lwFR lwGA.length lwGB.length 6 24 42 nightNWA nightNWB 89 220 64 65 nightN_in nightNo1 :=
  wDp (wWk (wEd_spec (x_ov0_le sf) u_ctS lwFRok nightNE1) (Nat.le_refl _) (Nat.le_refl _) (Nat.le_refl _) (by decide +kernel) (by decide +kernel)) (by decide) (by decide)
theorem nightNN2 {xs : Nat → Int32} {n : Nat} {sf : Option Nat} : wGoes x_KT x_tb x_tyl (x_otS xs n sf) lwFR lwGA.length lwGB.length 6 24 42 nightNWA nightNWB 89 220 64 65 nightN_lp nightNo2 :=
  wDp (wWk (wFamE2 (V := [5, 6, 7, 9, 10, 8, 20]) (x_ov0_le sf) u_ctS lwFRok nightNE2 (by decide) (by decide) (fun i hi u hu => by
      have hi : i ∈ ([5, 6, 7, 9, 10, 8, 20] : List Nat) := hi
      simp only [List.mem_cons, List.not_mem_nil, or_false] at hi
      rcases hi with rfl | rfl | rfl | rfl | rfl | rfl | rfl
      · exact gRk_spec (x_ov0_le sf) u_ctS lwFRok nightNE2 (by decide) (by decide) nightNE2G0 (by decide +kernel) _ (List.mem_cons_self) u hu
      · exact gRk_spec (x_ov0_le sf) u_ctS lwFRok nightNE2 (by decide) (by decide) nightNE2G0 (by decide +kernel) _ (List.mem_cons_of_mem _ (List.mem_cons_self)) u hu
      · exact gRk_spec (x_ov0_le sf) u_ctS lwFRok nightNE2 (by decide) (by decide) nightNE2G0 (by decide +kernel) _ (List.mem_cons_of_mem _ (List.mem_cons_of_mem _ (List.mem_cons_self))) u hu
      · exact gRk_spec (x_ov0_le sf) u_ctS lwFRok nightNE2 (by decide) (by decide) nightNE2G0 (by decide +kernel) _ (List.mem_cons_of_mem _ (List.mem_cons_of_mem _ (List.mem_cons_of_mem _ (List.mem_cons_self)))) u hu
      · exact gRk_spec (x_ov0_le sf) u_ctS lwFRok nightNE2 (by decide) (by decide) nightNE2G0 (by decide +kernel) _ (List.mem_cons_of_mem _ (List.mem_cons_of_mem _ (List.mem_cons_of_mem _ (List.mem_cons_of_mem _ (List.mem_cons_self))))) u hu
      · exact gRk_spec (x_ov0_le sf) u_ctS lwFRok nightNE2 (by decide) (by decide) nightNE2G0 (by decide +kernel) _ (List.mem_cons_of_mem _ (List.mem_cons_of_mem _ (List.mem_cons_of_mem _ (List.mem_cons_of_mem _ (List.mem_cons_of_mem _ (List.mem_cons_self)))))) u hu
      · cases hu
        exact wRkE_spec (x_ov0_le sf) u_ctS lwFRok nightNE2R20)) (Nat.le_refl _) (Nat.le_refl _) (Nat.le_refl _) (by decide +kernel) (by decide +kernel)) (by decide) (by decide)
theorem nightNN3 {xs : Nat → Int32} {n : Nat} {sf : Option Nat} : wGoes x_KT x_tb x_tyl (x_otS xs n sf) lwFR lwGA.length lwGB.length 6 24 42 nightNWA nightNWB 89 220 64 65 nightN_cl_x0 nightNo3 :=
  wDp (wWk (wEd_spec (x_ov0_le sf) u_ctS lwFRok nightNE3) (Nat.le_refl _) (Nat.le_refl _) (Nat.le_refl _) (by decide +kernel) (by decide +kernel)) (by decide) (by decide)
theorem nightNN4 {xs : Nat → Int32} {n : Nat} {sf : Option Nat} : wGoes x_KT x_tb x_tyl (x_otS xs n sf) lwFR lwGA.length lwGB.length 6 24 42 nightNWA nightNWB 89 220 64 65 nightN_cl_x1 nightNo4 :=
  wDp (wWk (wEd_spec (x_ov0_le sf) u_ctS lwFRok nightNE4) (Nat.le_refl _) (Nat.le_refl _) (Nat.le_refl _) (by decide +kernel) (by decide +kernel)) (by decide) (by decide)
set_option maxRecDepth 1000000 in
theorem gq219 : tMth x_tb 219 = some xm219 := rfl
def nightN_g0_nd : List wE := [nightN_in, nightN_lp, nightN_cl, nightN_cl_x0, nightN_cl_x1]
theorem nightN_g0_G {xs : Nat → Int32} {n : Nat} {sf : Option Nat} : ∀ nd ∈ nightN_g0_nd, wGoes x_KT x_tb x_tyl (x_otS xs n sf) lwFR lwGA.length lwGB.length 6 24 42 nightNWA nightNWB 89 220 64 65 nd (nightN_g0_ex.map (fun x => (false, x))) := wGraph (fun nd hnd => by
  have hnd : nd ∈ ([nightN_in, nightN_lp, nightN_cl, nightN_cl_x0, nightN_cl_x1] : List wE) := hnd
  simp only [List.mem_cons, List.not_mem_nil, or_false] at hnd
  rcases hnd with rfl | rfl | rfl | rfl | rfl
  · refine ⟨nightNo1, nightNN1, fun o ho => ?_⟩
    have ho : o ∈ ([(true, nightN_lp)] : List (Bool × wE)) := ho
    simp only [List.mem_cons, List.not_mem_nil, or_false] at ho
    rcases ho with rfl
    · exact Or.inr ⟨rfl, List.mem_cons_of_mem _ (List.mem_cons_self)⟩
  · refine ⟨nightNo2, nightNN2, fun o ho => ?_⟩
    have ho : o ∈ ([(true, nightN_cl), (true, nightN_lp), (false, nightN_out)] : List (Bool × wE)) := ho
    simp only [List.mem_cons, List.not_mem_nil, or_false] at ho
    rcases ho with rfl | rfl | rfl
    · exact Or.inr ⟨rfl, List.mem_cons_of_mem _ (List.mem_cons_of_mem _ (List.mem_cons_self))⟩
    · exact Or.inr ⟨rfl, List.mem_cons_of_mem _ (List.mem_cons_self)⟩
    · exact Or.inl (List.mem_cons_self)
  · refine ⟨nightNo0, nightNN0, fun o ho => ?_⟩
    have ho : o ∈ ([(true, nightN_cl_x0), (true, nightN_cl_x1)] : List (Bool × wE)) := ho
    simp only [List.mem_cons, List.not_mem_nil, or_false] at ho
    rcases ho with rfl | rfl
    · exact Or.inr ⟨rfl, List.mem_cons_of_mem _ (List.mem_cons_of_mem _ (List.mem_cons_of_mem _ (List.mem_cons_self)))⟩
    · exact Or.inr ⟨rfl, List.mem_cons_of_mem _ (List.mem_cons_of_mem _ (List.mem_cons_of_mem _ (List.mem_cons_of_mem _ (List.mem_cons_self))))⟩
  · refine ⟨nightNo3, nightNN3, fun o ho => ?_⟩
    have ho : o ∈ ([(true, nightN_lp)] : List (Bool × wE)) := ho
    simp only [List.mem_cons, List.not_mem_nil, or_false] at ho
    rcases ho with rfl
    · exact Or.inr ⟨rfl, List.mem_cons_of_mem _ (List.mem_cons_self)⟩
  · refine ⟨nightNo4, nightNN4, fun o ho => ?_⟩
    have ho : o ∈ ([(true, nightN_lp)] : List (Bool × wE)) := ho
    simp only [List.mem_cons, List.not_mem_nil, or_false] at ho
    rcases ho with rfl
    · exact Or.inr ⟨rfl, List.mem_cons_of_mem _ (List.mem_cons_self)⟩)
theorem nightN0 {xs : Nat → Int32} {n : Nat} {sf : Option Nat} : wGoes x_KT x_tb x_tyl (x_otS xs n sf) lwFR lwGA.length lwGB.length 5 24 42 nightWA nightWB 89 219 64 66 night_cb nighto0 :=
  wDp (wWk (wEqvB (wCallB (recv := 0) (pc := 12) (ix := 335) (nx := 3) (args := [.inl (lSy 5), .inl (lK 0), .inl (lK 1), .inl (lK 1)]) (rest := []) (LE := [(0, .inr (some 0)), (1, .inl (lSy 5))]) (cE := (lK 0)) (sE := (lK 0)) (wReL (XA := nightX0.2.1) (XB := nightX0.2.2.1) (XC := nightX0.2.2.2.1) (rk := nightX0.2.2.2.2) (rA := nightQA0) (rB := nightQB0) (nightN_g0_G _ List.mem_cons_self) nightL0) gq219 gq220 (by decide +kernel) (by decide +kernel) (by decide +kernel) (by decide +kernel) (by decide +kernel)) (by decide +kernel) (by decide +kernel)) (by decide) (by decide) (by decide) (by decide +kernel) (by decide +kernel)) (by decide) (by decide)
theorem nightN1 {xs : Nat → Int32} {n : Nat} {sf : Option Nat} : wGoes x_KT x_tb x_tyl (x_otS xs n sf) lwFR lwGA.length lwGB.length 5 24 42 nightWA nightWB 89 219 64 66 night_in nighto1 :=
  wDp (wWk (wEd_spec (x_ov0_le sf) u_ctS lwFRok nightE1) (Nat.le_refl _) (Nat.le_refl _) (Nat.le_refl _) (by decide +kernel) (by decide +kernel)) (by decide) (by decide)
theorem nightN2 {xs : Nat → Int32} {n : Nat} {sf : Option Nat} : wGoes x_KT x_tb x_tyl (x_otS xs n sf) lwFR lwGA.length lwGB.length 5 24 42 nightWA nightWB 89 219 64 66 night_cb_out nighto2 :=
  wDp (wWk (wEd_spec (x_ov0_le sf) u_ctS lwFRok nightE2) (Nat.le_refl _) (Nat.le_refl _) (Nat.le_refl _) (by decide +kernel) (by decide +kernel)) (by decide) (by decide)
def night_g0_nd : List wE := [night_in, night_cb, night_cb_out]
theorem night_g0_G {xs : Nat → Int32} {n : Nat} {sf : Option Nat} : ∀ nd ∈ night_g0_nd, wGoes x_KT x_tb x_tyl (x_otS xs n sf) lwFR lwGA.length lwGB.length 5 24 42 nightWA nightWB 89 219 64 66 nd (night_g0_ex.map (fun x => (false, x))) := wGraph (fun nd hnd => by
  have hnd : nd ∈ ([night_in, night_cb, night_cb_out] : List wE) := hnd
  simp only [List.mem_cons, List.not_mem_nil, or_false] at hnd
  rcases hnd with rfl | rfl | rfl
  · refine ⟨nighto1, nightN1, fun o ho => ?_⟩
    have ho : o ∈ ([(true, night_cb), (false, night_out)] : List (Bool × wE)) := ho
    simp only [List.mem_cons, List.not_mem_nil, or_false] at ho
    rcases ho with rfl | rfl
    · exact Or.inr ⟨rfl, List.mem_cons_of_mem _ (List.mem_cons_self)⟩
    · exact Or.inl (List.mem_cons_self)
  · refine ⟨nighto0, nightN0, fun o ho => ?_⟩
    have ho : o ∈ ([(true, night_cb_out)] : List (Bool × wE)) := ho
    simp only [List.mem_cons, List.not_mem_nil, or_false] at ho
    rcases ho with rfl
    · exact Or.inr ⟨rfl, List.mem_cons_of_mem _ (List.mem_cons_of_mem _ (List.mem_cons_self))⟩
  · refine ⟨nighto2, nightN2, fun o ho => ?_⟩
    have ho : o ∈ ([(false, night_out)] : List (Bool × wE)) := ho
    simp only [List.mem_cons, List.not_mem_nil, or_false] at ho
    rcases ho with rfl
    · exact Or.inl (List.mem_cons_self))
theorem nightH {xs : Nat → Int32} {n : Nat} {sf : Option Nat} : wGoes x_KT x_tb x_tyl (x_otS xs n sf) lwFS lwGA.length lwGB.length 5 24 42 nightWA nightWB 89 219 64 66 night_in (nightOX.map (fun x => x.1)) :=
  wFSr (FS := lwFR) (nh := 29) (wFam (V := []) lwFRok (by decide +kernel) (by decide +kernel) (night_g0_G night_in List.mem_cons_self) (by decide) (by decide) (fun i hi u hu => by
  have hi : i ∈ ([] : List Nat) := hi
  simp only [List.mem_cons, List.not_mem_nil, or_false] at hi)) lwFRp (by decide) (by decide +kernel)
theorem nightPP {xs : Nat → Int32} {n : Nat} {sf : Option Nat} : bPP x_KT x_tb x_tyl (x_otS xs n sf) lwN lwP 1299 89 219 1 (mMc xm89 + mMc xm219) (mRc xm89) (mRc xm219) True :=
  wBlk lwFok lwFB uKa uKb (by decide +kernel) (by decide +kernel) uKdj uKj nightbc nightH gq89 gq219 (by decide) (by decide) (uKeep (by decide +kernel)) (by decide +kernel) (by decide +kernel) (by decide +kernel)
set_option maxRecDepth 1000000 in
theorem gq96 : tMth x_tb 96 = some xm96 := rfl
set_option maxRecDepth 1000000 in
theorem gq233 : tMth x_tb 233 = some xm233 := rfl
theorem doesN0 {xs : Nat → Int32} {n : Nat} {sf : Option Nat} : wGoes x_KT x_tb x_tyl (x_otS xs n sf) lwFR lwGA.length lwGB.length 5 24 42 doesWA doesWB 96 233 60 60 does_in doeso0 :=
  wDp (wWk (wEd_spec (x_ov0_le sf) u_ctS lwFRok doesE0) (Nat.le_refl _) (Nat.le_refl _) (Nat.le_refl _) (by decide +kernel) (by decide +kernel)) (by decide) (by decide)
theorem doesN1 {xs : Nat → Int32} {n : Nat} {sf : Option Nat} : wGoes x_KT x_tb x_tyl (x_otS xs n sf) lwFR lwGA.length lwGB.length 5 24 42 doesWA doesWB 96 233 60 60 does_m0 doeso1 :=
  wDp (wWk (wFamE2 (V := [0, 20]) (x_ov0_le sf) u_ctS lwFRok doesE1 (by decide) (by decide) (fun i hi u hu => by
      have hi : i ∈ ([0, 20] : List Nat) := hi
      simp only [List.mem_cons, List.not_mem_nil, or_false] at hi
      rcases hi with rfl | rfl
      · cases hu
        exact wRkE_spec (x_ov0_le sf) u_ctS lwFRok doesE1R0
      · cases hu
        exact wRkE_spec (x_ov0_le sf) u_ctS lwFRok doesE1R20)) (Nat.le_refl _) (Nat.le_refl _) (Nat.le_refl _) (by decide +kernel) (by decide +kernel)) (by decide) (by decide)
theorem doesN2 {xs : Nat → Int32} {n : Nat} {sf : Option Nat} : wGoes x_KT x_tb x_tyl (x_otS xs n sf) lwFR lwGA.length lwGB.length 5 24 42 doesWA doesWB 96 233 60 60 does_m1 doeso2 :=
  wDp (wWk (wFamE2 (V := [0, 20]) (x_ov0_le sf) u_ctS lwFRok doesE2 (by decide) (by decide) (fun i hi u hu => by
      have hi : i ∈ ([0, 20] : List Nat) := hi
      simp only [List.mem_cons, List.not_mem_nil, or_false] at hi
      rcases hi with rfl | rfl
      · cases hu
        exact wRkE_spec (x_ov0_le sf) u_ctS lwFRok doesE2R0
      · cases hu
        exact wRkE_spec (x_ov0_le sf) u_ctS lwFRok doesE2R20)) (Nat.le_refl _) (Nat.le_refl _) (Nat.le_refl _) (by decide +kernel) (by decide +kernel)) (by decide) (by decide)
theorem doesN3 {xs : Nat → Int32} {n : Nat} {sf : Option Nat} : wGoes x_KT x_tb x_tyl (x_otS xs n sf) lwFR lwGA.length lwGB.length 5 24 42 doesWA doesWB 96 233 60 60 does_m2 doeso3 :=
  wDp (wWk (wFamE2 (V := [0, 20]) (x_ov0_le sf) u_ctS lwFRok doesE3 (by decide) (by decide) (fun i hi u hu => by
      have hi : i ∈ ([0, 20] : List Nat) := hi
      simp only [List.mem_cons, List.not_mem_nil, or_false] at hi
      rcases hi with rfl | rfl
      · cases hu
        exact wRkE_spec (x_ov0_le sf) u_ctS lwFRok doesE3R0
      · cases hu
        exact wRkE_spec (x_ov0_le sf) u_ctS lwFRok doesE3R20)) (Nat.le_refl _) (Nat.le_refl _) (Nat.le_refl _) (by decide +kernel) (by decide +kernel)) (by decide) (by decide)
theorem doesN4 {xs : Nat → Int32} {n : Nat} {sf : Option Nat} : wGoes x_KT x_tb x_tyl (x_otS xs n sf) lwFR lwGA.length lwGB.length 5 24 42 doesWA doesWB 96 233 60 60 does_m3 doeso4 :=
  wDp (wWk (wFamE2 (V := [0, 20]) (x_ov0_le sf) u_ctS lwFRok doesE4 (by decide) (by decide) (fun i hi u hu => by
      have hi : i ∈ ([0, 20] : List Nat) := hi
      simp only [List.mem_cons, List.not_mem_nil, or_false] at hi
      rcases hi with rfl | rfl
      · cases hu
        exact wRkE_spec (x_ov0_le sf) u_ctS lwFRok doesE4R0
      · cases hu
        exact wRkE_spec (x_ov0_le sf) u_ctS lwFRok doesE4R20)) (Nat.le_refl _) (Nat.le_refl _) (Nat.le_refl _) (by decide +kernel) (by decide +kernel)) (by decide) (by decide)
theorem doesN5 {xs : Nat → Int32} {n : Nat} {sf : Option Nat} : wGoes x_KT x_tb x_tyl (x_otS xs n sf) lwFR lwGA.length lwGB.length 5 24 42 doesWA doesWB 96 233 60 60 does_bk doeso5 :=
  wDp (wWk (wEd_spec (x_ov0_le sf) u_ctS lwFRok doesE5) (Nat.le_refl _) (Nat.le_refl _) (Nat.le_refl _) (by decide +kernel) (by decide +kernel)) (by decide) (by decide)
def does_g0_nd : List wE := [does_in, does_m0, does_m1, does_m2, does_m3, does_bk]
theorem does_g0_G {xs : Nat → Int32} {n : Nat} {sf : Option Nat} : ∀ nd ∈ does_g0_nd, wGoes x_KT x_tb x_tyl (x_otS xs n sf) lwFR lwGA.length lwGB.length 5 24 42 doesWA doesWB 96 233 60 60 nd (does_g0_ex.map (fun x => (false, x))) := wGraph (fun nd hnd => by
  have hnd : nd ∈ ([does_in, does_m0, does_m1, does_m2, does_m3, does_bk] : List wE) := hnd
  simp only [List.mem_cons, List.not_mem_nil, or_false] at hnd
  rcases hnd with rfl | rfl | rfl | rfl | rfl | rfl
  · refine ⟨doeso0, doesN0, fun o ho => ?_⟩
    have ho : o ∈ ([(true, does_m0), (true, does_m1), (true, does_m2), (true, does_m3), (false, does_out)] : List (Bool × wE)) := ho
    simp only [List.mem_cons, List.not_mem_nil, or_false] at ho
    rcases ho with rfl | rfl | rfl | rfl | rfl
    · exact Or.inr ⟨rfl, List.mem_cons_of_mem _ (List.mem_cons_self)⟩
    · exact Or.inr ⟨rfl, List.mem_cons_of_mem _ (List.mem_cons_of_mem _ (List.mem_cons_self))⟩
    · exact Or.inr ⟨rfl, List.mem_cons_of_mem _ (List.mem_cons_of_mem _ (List.mem_cons_of_mem _ (List.mem_cons_self)))⟩
    · exact Or.inr ⟨rfl, List.mem_cons_of_mem _ (List.mem_cons_of_mem _ (List.mem_cons_of_mem _ (List.mem_cons_of_mem _ (List.mem_cons_self))))⟩
    · exact Or.inl (List.mem_cons_self)
  · refine ⟨doeso1, doesN1, fun o ho => ?_⟩
    have ho : o ∈ ([(true, does_bk)] : List (Bool × wE)) := ho
    simp only [List.mem_cons, List.not_mem_nil, or_false] at ho
    rcases ho with rfl
    · exact Or.inr ⟨rfl, List.mem_cons_of_mem _ (List.mem_cons_of_mem _ (List.mem_cons_of_mem _ (List.mem_cons_of_mem _ (List.mem_cons_of_mem _ (List.mem_cons_self)))))⟩
  · refine ⟨doeso2, doesN2, fun o ho => ?_⟩
    have ho : o ∈ ([(true, does_bk)] : List (Bool × wE)) := ho
    simp only [List.mem_cons, List.not_mem_nil, or_false] at ho
    rcases ho with rfl
    · exact Or.inr ⟨rfl, List.mem_cons_of_mem _ (List.mem_cons_of_mem _ (List.mem_cons_of_mem _ (List.mem_cons_of_mem _ (List.mem_cons_of_mem _ (List.mem_cons_self)))))⟩
  · refine ⟨doeso3, doesN3, fun o ho => ?_⟩
    have ho : o ∈ ([(true, does_bk)] : List (Bool × wE)) := ho
    simp only [List.mem_cons, List.not_mem_nil, or_false] at ho
    rcases ho with rfl
    · exact Or.inr ⟨rfl, List.mem_cons_of_mem _ (List.mem_cons_of_mem _ (List.mem_cons_of_mem _ (List.mem_cons_of_mem _ (List.mem_cons_of_mem _ (List.mem_cons_self)))))⟩
  · refine ⟨doeso4, doesN4, fun o ho => ?_⟩
    have ho : o ∈ ([(true, does_bk)] : List (Bool × wE)) := ho
    simp only [List.mem_cons, List.not_mem_nil, or_false] at ho
    rcases ho with rfl
    · exact Or.inr ⟨rfl, List.mem_cons_of_mem _ (List.mem_cons_of_mem _ (List.mem_cons_of_mem _ (List.mem_cons_of_mem _ (List.mem_cons_of_mem _ (List.mem_cons_self)))))⟩
  · refine ⟨doeso5, doesN5, fun o ho => ?_⟩
    have ho : o ∈ ([(false, does_outb)] : List (Bool × wE)) := ho
    simp only [List.mem_cons, List.not_mem_nil, or_false] at ho
    rcases ho with rfl
    · exact Or.inl (List.mem_cons_of_mem _ (List.mem_cons_self)))
theorem doesH {xs : Nat → Int32} {n : Nat} {sf : Option Nat} : wGoes x_KT x_tb x_tyl (x_otS xs n sf) lwFS lwGA.length lwGB.length 5 24 42 doesWA doesWB 96 233 60 60 does_in (doesOX.map (fun x => x.1)) :=
  wFSr (FS := lwFR) (nh := 29) (wFam (V := []) lwFRok (by decide +kernel) (by decide +kernel) (does_g0_G does_in List.mem_cons_self) (by decide) (by decide) (fun i hi u hu => by
  have hi : i ∈ ([] : List Nat) := hi
  simp only [List.mem_cons, List.not_mem_nil, or_false] at hi)) lwFRp (by decide) (by decide +kernel)
theorem doesPP {xs : Nat → Int32} {n : Nat} {sf : Option Nat} : bPP x_KT x_tb x_tyl (x_otS xs n sf) lwN lwP 1299 96 233 4 (mMc xm96 + mMc xm233) (mRc xm96) (mRc xm233) True :=
  wBlk lwFok lwFB uKa uKb (by decide +kernel) (by decide +kernel) uKdj uKj doesbc doesH gq96 gq233 (by decide) (by decide) (uKeep (by decide +kernel)) (by decide +kernel) (by decide +kernel) (by decide +kernel)
set_option maxRecDepth 1000000 in
theorem gq103 : tMth x_tb 103 = some xm103 := rfl
set_option maxRecDepth 1000000 in
theorem gq236 : tMth x_tb 236 = some xm236 := rfl
theorem mendN0 {xs : Nat → Int32} {n : Nat} {sf : Option Nat} : wGoes x_KT x_tb x_tyl (x_otS xs n sf) lwFR lwGA.length lwGB.length 5 24 42 mendWA mendWB 103 236 60 60 mend_in mendo0 :=
  wDp (wWk (wEd_spec (x_ov0_le sf) u_ctS lwFRok mendE0) (Nat.le_refl _) (Nat.le_refl _) (Nat.le_refl _) (by decide +kernel) (by decide +kernel)) (by decide) (by decide)
theorem mendN1 {xs : Nat → Int32} {n : Nat} {sf : Option Nat} : wGoes x_KT x_tb x_tyl (x_otS xs n sf) lwFR lwGA.length lwGB.length 5 24 42 mendWA mendWB 103 236 60 60 mend_m2 mendo1 :=
  wDp (wWk (wFamE2 (V := [0, 20, 2]) (x_ov0_le sf) u_ctS lwFRok mendE1 (by decide) (by decide) (fun i hi u hu => by
      have hi : i ∈ ([0, 20, 2] : List Nat) := hi
      simp only [List.mem_cons, List.not_mem_nil, or_false] at hi
      rcases hi with rfl | rfl | rfl
      · cases hu
        exact wRkE_spec (x_ov0_le sf) u_ctS lwFRok mendE1R0
      · cases hu
        exact wRkE_spec (x_ov0_le sf) u_ctS lwFRok mendE1R20
      · cases hu
        exact wRkE_spec (x_ov0_le sf) u_ctS lwFRok mendE1R2)) (Nat.le_refl _) (Nat.le_refl _) (Nat.le_refl _) (by decide +kernel) (by decide +kernel)) (by decide) (by decide)
theorem mendN2 {xs : Nat → Int32} {n : Nat} {sf : Option Nat} : wGoes x_KT x_tb x_tyl (x_otS xs n sf) lwFR lwGA.length lwGB.length 5 24 42 mendWA mendWB 103 236 60 60 mend_m4 mendo2 :=
  wDp (wWk (wFamE2 (V := [0, 20, 2]) (x_ov0_le sf) u_ctS lwFRok mendE2 (by decide) (by decide) (fun i hi u hu => by
      have hi : i ∈ ([0, 20, 2] : List Nat) := hi
      simp only [List.mem_cons, List.not_mem_nil, or_false] at hi
      rcases hi with rfl | rfl | rfl
      · cases hu
        exact wRkE_spec (x_ov0_le sf) u_ctS lwFRok mendE2R0
      · cases hu
        exact wRkE_spec (x_ov0_le sf) u_ctS lwFRok mendE2R20
      · cases hu
        exact wRkE_spec (x_ov0_le sf) u_ctS lwFRok mendE2R2)) (Nat.le_refl _) (Nat.le_refl _) (Nat.le_refl _) (by decide +kernel) (by decide +kernel)) (by decide) (by decide)
theorem mendN3 {xs : Nat → Int32} {n : Nat} {sf : Option Nat} : wGoes x_KT x_tb x_tyl (x_otS xs n sf) lwFR lwGA.length lwGB.length 5 24 42 mendWA mendWB 103 236 60 60 mend_bk mendo3 :=
  wDp (wWk (wEd_spec (x_ov0_le sf) u_ctS lwFRok mendE3) (Nat.le_refl _) (Nat.le_refl _) (Nat.le_refl _) (by decide +kernel) (by decide +kernel)) (by decide) (by decide)
def mend_g0_nd : List wE := [mend_in, mend_m2, mend_m4, mend_bk]
theorem mend_g0_G {xs : Nat → Int32} {n : Nat} {sf : Option Nat} : ∀ nd ∈ mend_g0_nd, wGoes x_KT x_tb x_tyl (x_otS xs n sf) lwFR lwGA.length lwGB.length 5 24 42 mendWA mendWB 103 236 60 60 nd (mend_g0_ex.map (fun x => (false, x))) := wGraph (fun nd hnd => by
  have hnd : nd ∈ ([mend_in, mend_m2, mend_m4, mend_bk] : List wE) := hnd
  simp only [List.mem_cons, List.not_mem_nil, or_false] at hnd
  rcases hnd with rfl | rfl | rfl | rfl
  · refine ⟨mendo0, mendN0, fun o ho => ?_⟩
    have ho : o ∈ ([(true, mend_m2), (true, mend_m4), (false, mend_out)] : List (Bool × wE)) := ho
    simp only [List.mem_cons, List.not_mem_nil, or_false] at ho
    rcases ho with rfl | rfl | rfl
    · exact Or.inr ⟨rfl, List.mem_cons_of_mem _ (List.mem_cons_self)⟩
    · exact Or.inr ⟨rfl, List.mem_cons_of_mem _ (List.mem_cons_of_mem _ (List.mem_cons_self))⟩
    · exact Or.inl (List.mem_cons_self)
  · refine ⟨mendo1, mendN1, fun o ho => ?_⟩
    have ho : o ∈ ([(true, mend_bk)] : List (Bool × wE)) := ho
    simp only [List.mem_cons, List.not_mem_nil, or_false] at ho
    rcases ho with rfl
    · exact Or.inr ⟨rfl, List.mem_cons_of_mem _ (List.mem_cons_of_mem _ (List.mem_cons_of_mem _ (List.mem_cons_self)))⟩
  · refine ⟨mendo2, mendN2, fun o ho => ?_⟩
    have ho : o ∈ ([(true, mend_bk)] : List (Bool × wE)) := ho
    simp only [List.mem_cons, List.not_mem_nil, or_false] at ho
    rcases ho with rfl
    · exact Or.inr ⟨rfl, List.mem_cons_of_mem _ (List.mem_cons_of_mem _ (List.mem_cons_of_mem _ (List.mem_cons_self)))⟩
  · refine ⟨mendo3, mendN3, fun o ho => ?_⟩
    have ho : o ∈ ([(false, mend_outb)] : List (Bool × wE)) := ho
    simp only [List.mem_cons, List.not_mem_nil, or_false] at ho
    rcases ho with rfl
    · exact Or.inl (List.mem_cons_of_mem _ (List.mem_cons_self)))
theorem mendH {xs : Nat → Int32} {n : Nat} {sf : Option Nat} : wGoes x_KT x_tb x_tyl (x_otS xs n sf) lwFS lwGA.length lwGB.length 5 24 42 mendWA mendWB 103 236 60 60 mend_in (mendOX.map (fun x => x.1)) :=
  wFSr (FS := lwFR) (nh := 29) (wFam (V := []) lwFRok (by decide +kernel) (by decide +kernel) (mend_g0_G mend_in List.mem_cons_self) (by decide) (by decide) (fun i hi u hu => by
  have hi : i ∈ ([] : List Nat) := hi
  simp only [List.mem_cons, List.not_mem_nil, or_false] at hi)) lwFRp (by decide) (by decide +kernel)
theorem mendPP {xs : Nat → Int32} {n : Nat} {sf : Option Nat} : bPP x_KT x_tb x_tyl (x_otS xs n sf) lwN lwP 1299 103 236 6 (mMc xm103 + mMc xm236) (mRc xm103) (mRc xm236) True :=
  wBlk lwFok lwFB uKa uKb (by decide +kernel) (by decide +kernel) uKdj uKj mendbc mendH gq103 gq236 (by decide) (by decide) (uKeep (by decide +kernel)) (by decide +kernel) (by decide +kernel) (by decide +kernel)
set_option maxRecDepth 1000000 in
theorem gq107 : tMth x_tb 107 = some xm107 := rfl
set_option maxRecDepth 1000000 in
theorem gq239 : tMth x_tb 239 = some xm239 := rfl
theorem mendRuleN0 {xs : Nat → Int32} {n : Nat} {sf : Option Nat} : wGoes x_KT x_tb x_tyl (x_otS xs n sf) lwFR lwGA.length lwGB.length 5 24 42 mendRuleWA mendRuleWB 107 239 60 60 mendRule_in mendRuleo0 :=
  wDp (wWk (wEd_spec (x_ov0_le sf) u_ctS lwFRok mendRuleE0) (Nat.le_refl _) (Nat.le_refl _) (Nat.le_refl _) (by decide +kernel) (by decide +kernel)) (by decide) (by decide)
theorem mendRuleN1 {xs : Nat → Int32} {n : Nat} {sf : Option Nat} : wGoes x_KT x_tb x_tyl (x_otS xs n sf) lwFR lwGA.length lwGB.length 5 24 42 mendRuleWA mendRuleWB 107 239 60 60 mendRule_m mendRuleo1 :=
  wDp (wWk (wFamE2 (V := [0, 20, 3]) (x_ov0_le sf) u_ctS lwFRok mendRuleE1 (by decide) (by decide) (fun i hi u hu => by
      have hi : i ∈ ([0, 20, 3] : List Nat) := hi
      simp only [List.mem_cons, List.not_mem_nil, or_false] at hi
      rcases hi with rfl | rfl | rfl
      · cases hu
        exact wRkE_spec (x_ov0_le sf) u_ctS lwFRok mendRuleE1R0
      · cases hu
        exact wRkE_spec (x_ov0_le sf) u_ctS lwFRok mendRuleE1R20
      · cases hu
        exact wRkE_spec (x_ov0_le sf) u_ctS lwFRok mendRuleE1R3)) (Nat.le_refl _) (Nat.le_refl _) (Nat.le_refl _) (by decide +kernel) (by decide +kernel)) (by decide) (by decide)
theorem mendRuleN2 {xs : Nat → Int32} {n : Nat} {sf : Option Nat} : wGoes x_KT x_tb x_tyl (x_otS xs n sf) lwFR lwGA.length lwGB.length 5 24 42 mendRuleWA mendRuleWB 107 239 60 60 mendRule_bk mendRuleo2 :=
  wDp (wWk (wEd_spec (x_ov0_le sf) u_ctS lwFRok mendRuleE2) (Nat.le_refl _) (Nat.le_refl _) (Nat.le_refl _) (by decide +kernel) (by decide +kernel)) (by decide) (by decide)
def mendRule_g0_nd : List wE := [mendRule_in, mendRule_m, mendRule_bk]
theorem mendRule_g0_G {xs : Nat → Int32} {n : Nat} {sf : Option Nat} : ∀ nd ∈ mendRule_g0_nd, wGoes x_KT x_tb x_tyl (x_otS xs n sf) lwFR lwGA.length lwGB.length 5 24 42 mendRuleWA mendRuleWB 107 239 60 60 nd (mendRule_g0_ex.map (fun x => (false, x))) := wGraph (fun nd hnd => by
  have hnd : nd ∈ ([mendRule_in, mendRule_m, mendRule_bk] : List wE) := hnd
  simp only [List.mem_cons, List.not_mem_nil, or_false] at hnd
  rcases hnd with rfl | rfl | rfl
  · refine ⟨mendRuleo0, mendRuleN0, fun o ho => ?_⟩
    have ho : o ∈ ([(true, mendRule_m), (false, mendRule_out)] : List (Bool × wE)) := ho
    simp only [List.mem_cons, List.not_mem_nil, or_false] at ho
    rcases ho with rfl | rfl
    · exact Or.inr ⟨rfl, List.mem_cons_of_mem _ (List.mem_cons_self)⟩
    · exact Or.inl (List.mem_cons_self)
  · refine ⟨mendRuleo1, mendRuleN1, fun o ho => ?_⟩
    have ho : o ∈ ([(true, mendRule_bk)] : List (Bool × wE)) := ho
    simp only [List.mem_cons, List.not_mem_nil, or_false] at ho
    rcases ho with rfl
    · exact Or.inr ⟨rfl, List.mem_cons_of_mem _ (List.mem_cons_of_mem _ (List.mem_cons_self))⟩
  · refine ⟨mendRuleo2, mendRuleN2, fun o ho => ?_⟩
    have ho : o ∈ ([(false, mendRule_outb)] : List (Bool × wE)) := ho
    simp only [List.mem_cons, List.not_mem_nil, or_false] at ho
    rcases ho with rfl
    · exact Or.inl (List.mem_cons_of_mem _ (List.mem_cons_self)))
theorem mendRuleH {xs : Nat → Int32} {n : Nat} {sf : Option Nat} : wGoes x_KT x_tb x_tyl (x_otS xs n sf) lwFS lwGA.length lwGB.length 5 24 42 mendRuleWA mendRuleWB 107 239 60 60 mendRule_in (mendRuleOX.map (fun x => x.1)) :=
  wFSr (FS := lwFR) (nh := 29) (wFam (V := []) lwFRok (by decide +kernel) (by decide +kernel) (mendRule_g0_G mendRule_in List.mem_cons_self) (by decide) (by decide) (fun i hi u hu => by
  have hi : i ∈ ([] : List Nat) := hi
  simp only [List.mem_cons, List.not_mem_nil, or_false] at hi)) lwFRp (by decide) (by decide +kernel)
theorem mendRulePP {xs : Nat → Int32} {n : Nat} {sf : Option Nat} : bPP x_KT x_tb x_tyl (x_otS xs n sf) lwN lwP 1299 107 239 4 (mMc xm107 + mMc xm239) (mRc xm107) (mRc xm239) True :=
  wBlk lwFok lwFB uKa uKb (by decide +kernel) (by decide +kernel) uKdj uKj mendRulebc mendRuleH gq107 gq239 (by decide) (by decide) (uKeep (by decide +kernel)) (by decide +kernel) (by decide +kernel) (by decide +kernel)
set_option maxRecDepth 1000000 in
theorem gq108 : tMth x_tb 108 = some xm108 := rfl
set_option maxRecDepth 1000000 in
theorem gq240 : tMth x_tb 240 = some xm240 := rfl
theorem testN0 {xs : Nat → Int32} {n : Nat} {sf : Option Nat} : wGoes x_KT x_tb x_tyl (x_otS xs n sf) lwFR lwGA.length lwGB.length 5 24 42 testWA testWB 108 240 64 65 test_cl testo0 :=
  wDp (wWk (wEqvB (wCallB (recv := 0) (pc := 57) (ix := 329) (nx := 3) (args := [.inl (lSy 6), .inl (lSy 5)]) (rest := [.inl (lSy 6), .inr (some 0)]) (LE := [(0, .inr (some 0)), (1, .inl (lSy 6)), (2, .inl (lSy 7)), (3, .inl (lSy 8)), (4, .inl (lSy 5))]) (cE := (lK 0)) (sE := (lK 0)) (wCallA (recv := 0) (pc := 56) (ix := 215) (nx := 3) (args := [.inr (some 24), .inl (lSy 5)]) (rest := []) (LE := [(0, .inr (some 0)), (1, .inl (lSy 6)), (2, .inl (lSy 7)), (3, .inl (lSy 8)), (4, .inl (lSy 5)), (5, .inr (some 24))]) (cE := (lK 0)) (sE := (lK 0)) (wReL (XA := testX0.2.1) (XB := testX0.2.2.1) (XC := testX0.2.2.2.1) (rk := testX0.2.2.2.2) (rA := testQA0) (rB := testQB0) (rr_g0_G _ List.mem_cons_self) testL0) gq108 gq64 (by decide +kernel) (by decide +kernel) (by decide +kernel) (by decide +kernel) (by decide +kernel)) gq240 gq202 (by decide +kernel) (by decide +kernel) (by decide +kernel) (by decide +kernel) (by decide +kernel)) (by decide +kernel) (by decide +kernel)) (by decide) (by decide) (by decide) (by decide +kernel) (by decide +kernel)) (by decide) (by decide)
theorem testN1 {xs : Nat → Int32} {n : Nat} {sf : Option Nat} : wGoes x_KT x_tb x_tyl (x_otS xs n sf) lwFR lwGA.length lwGB.length 5 24 42 testWA testWB 108 240 64 65 test_in testo1 :=
  wDp (wWk (wEd_spec (x_ov0_le sf) u_ctS lwFRok testE1) (Nat.le_refl _) (Nat.le_refl _) (Nat.le_refl _) (by decide +kernel) (by decide +kernel)) (by decide) (by decide)
theorem testN2 {xs : Nat → Int32} {n : Nat} {sf : Option Nat} : wGoes x_KT x_tb x_tyl (x_otS xs n sf) lwFR lwGA.length lwGB.length 5 24 42 testWA testWB 108 240 64 65 test_cl_x0 testo2 :=
  wDp (wWk (wFamE2 (V := [0, 20]) (x_ov0_le sf) u_ctS lwFRok testE2 (by decide) (by decide) (fun i hi u hu => by
      have hi : i ∈ ([0, 20] : List Nat) := hi
      simp only [List.mem_cons, List.not_mem_nil, or_false] at hi
      rcases hi with rfl | rfl
      · cases hu
        exact wRkE_spec (x_ov0_le sf) u_ctS lwFRok testE2R0
      · cases hu
        exact wRkE_spec (x_ov0_le sf) u_ctS lwFRok testE2R20)) (Nat.le_refl _) (Nat.le_refl _) (Nat.le_refl _) (by decide +kernel) (by decide +kernel)) (by decide) (by decide)
theorem testN3 {xs : Nat → Int32} {n : Nat} {sf : Option Nat} : wGoes x_KT x_tb x_tyl (x_otS xs n sf) lwFR lwGA.length lwGB.length 5 24 42 testWA testWB 108 240 64 65 test_cl_x1 testo3 :=
  wDp (wWk (wFamE2 (V := [0, 20]) (x_ov0_le sf) u_ctS lwFRok testE3 (by decide) (by decide) (fun i hi u hu => by
      have hi : i ∈ ([0, 20] : List Nat) := hi
      simp only [List.mem_cons, List.not_mem_nil, or_false] at hi
      rcases hi with rfl | rfl
      · cases hu
        exact wRkE_spec (x_ov0_le sf) u_ctS lwFRok testE3R0
      · cases hu
        exact wRkE_spec (x_ov0_le sf) u_ctS lwFRok testE3R20)) (Nat.le_refl _) (Nat.le_refl _) (Nat.le_refl _) (by decide +kernel) (by decide +kernel)) (by decide) (by decide)
theorem testN4 {xs : Nat → Int32} {n : Nat} {sf : Option Nat} : wGoes x_KT x_tb x_tyl (x_otS xs n sf) lwFR lwGA.length lwGB.length 5 24 42 testWA testWB 108 240 64 65 test_bk testo4 :=
  wDp (wWk (wEd_spec (x_ov0_le sf) u_ctS lwFRok testE4) (Nat.le_refl _) (Nat.le_refl _) (Nat.le_refl _) (by decide +kernel) (by decide +kernel)) (by decide) (by decide)
def test_g0_nd : List wE := [test_in, test_cl, test_cl_x0, test_cl_x1, test_bk]
theorem test_g0_G {xs : Nat → Int32} {n : Nat} {sf : Option Nat} : ∀ nd ∈ test_g0_nd, wGoes x_KT x_tb x_tyl (x_otS xs n sf) lwFR lwGA.length lwGB.length 5 24 42 testWA testWB 108 240 64 65 nd (test_g0_ex.map (fun x => (false, x))) := wGraph (fun nd hnd => by
  have hnd : nd ∈ ([test_in, test_cl, test_cl_x0, test_cl_x1, test_bk] : List wE) := hnd
  simp only [List.mem_cons, List.not_mem_nil, or_false] at hnd
  rcases hnd with rfl | rfl | rfl | rfl | rfl
  · refine ⟨testo1, testN1, fun o ho => ?_⟩
    have ho : o ∈ ([(true, test_cl), (false, test_out)] : List (Bool × wE)) := ho
    simp only [List.mem_cons, List.not_mem_nil, or_false] at ho
    rcases ho with rfl | rfl
    · exact Or.inr ⟨rfl, List.mem_cons_of_mem _ (List.mem_cons_self)⟩
    · exact Or.inl (List.mem_cons_self)
  · refine ⟨testo0, testN0, fun o ho => ?_⟩
    have ho : o ∈ ([(true, test_cl_x0), (true, test_cl_x1)] : List (Bool × wE)) := ho
    simp only [List.mem_cons, List.not_mem_nil, or_false] at ho
    rcases ho with rfl | rfl
    · exact Or.inr ⟨rfl, List.mem_cons_of_mem _ (List.mem_cons_of_mem _ (List.mem_cons_self))⟩
    · exact Or.inr ⟨rfl, List.mem_cons_of_mem _ (List.mem_cons_of_mem _ (List.mem_cons_of_mem _ (List.mem_cons_self)))⟩
  · refine ⟨testo2, testN2, fun o ho => ?_⟩
    have ho : o ∈ ([(true, test_bk)] : List (Bool × wE)) := ho
    simp only [List.mem_cons, List.not_mem_nil, or_false] at ho
    rcases ho with rfl
    · exact Or.inr ⟨rfl, List.mem_cons_of_mem _ (List.mem_cons_of_mem _ (List.mem_cons_of_mem _ (List.mem_cons_of_mem _ (List.mem_cons_self))))⟩
  · refine ⟨testo3, testN3, fun o ho => ?_⟩
    have ho : o ∈ ([(true, test_bk)] : List (Bool × wE)) := ho
    simp only [List.mem_cons, List.not_mem_nil, or_false] at ho
    rcases ho with rfl
    · exact Or.inr ⟨rfl, List.mem_cons_of_mem _ (List.mem_cons_of_mem _ (List.mem_cons_of_mem _ (List.mem_cons_of_mem _ (List.mem_cons_self))))⟩
  · refine ⟨testo4, testN4, fun o ho => ?_⟩
    have ho : o ∈ ([(false, test_outb)] : List (Bool × wE)) := ho
    simp only [List.mem_cons, List.not_mem_nil, or_false] at ho
    rcases ho with rfl
    · exact Or.inl (List.mem_cons_of_mem _ (List.mem_cons_self)))
theorem testH {xs : Nat → Int32} {n : Nat} {sf : Option Nat} : wGoes x_KT x_tb x_tyl (x_otS xs n sf) lwFS lwGA.length lwGB.length 5 24 42 testWA testWB 108 240 64 65 test_in (testOX.map (fun x => x.1)) :=
  wFSr (FS := lwFR) (nh := 29) (wFam (V := []) lwFRok (by decide +kernel) (by decide +kernel) (test_g0_G test_in List.mem_cons_self) (by decide) (by decide) (fun i hi u hu => by
  have hi : i ∈ ([] : List Nat) := hi
  simp only [List.mem_cons, List.not_mem_nil, or_false] at hi)) lwFRp (by decide) (by decide +kernel)
theorem testPP {xs : Nat → Int32} {n : Nat} {sf : Option Nat} : bPP x_KT x_tb x_tyl (x_otS xs n sf) lwN lwP 1299 108 240 4 (mMc xm108 + mMc xm240) (mRc xm108) (mRc xm240) True :=
  wBlk lwFok lwFB uKa uKb (by decide +kernel) (by decide +kernel) uKdj uKj testbc testH gq108 gq240 (by decide) (by decide) (uKeep (by decide +kernel)) (by decide +kernel) (by decide +kernel) (by decide +kernel)
theorem u_ctKS0 {xs : Nat → Int32} {n : Nat} {sf : Option Nat} (hsf : sf = none ∨ sf = some 1200000) : ∀ j c, c ∈ u_ctK0 j → vCtSem x_KT x_tb x_tyl (x_otS xs n sf) j c := fun j c h => by
  unfold u_ctK0 at h
  cases hb : (Nat.beq j 70 || Nat.beq j 76 || Nat.beq j 79) with
  | true =>
    rw [hb] at h
    exact x_allS xs n hsf j c h
  | false =>
    rw [hb] at h
    exact absurd h List.not_mem_nil
set_option maxRecDepth 1000000 in
theorem gq116 : tMth x_tb 116 = some xm116 := rfl
set_option maxRecDepth 1000000 in
theorem gq244 : tMth x_tb 244 = some xm244 := rfl
theorem fin0N0 {xs : Nat → Int32} {n : Nat} {sf : Option Nat} (hsf : sf = none ∨ sf = some 1200000) : wGoes x_KT x_tb x_tyl (x_otS xs n sf) lwFR lwGA.length lwGB.length 27 25 42 fin0WA fin0WB 116 244 60 60 fin0_in fin0o0 :=
  wDp (wWk (wEd_spec (x_ov0_le sf) (u_ctKS0 hsf) lwFRok fin0E0) (Nat.le_refl _) (Nat.le_refl _) (Nat.le_refl _) (by decide +kernel) (by decide +kernel)) (by decide) (by decide)
theorem fin0N1 {xs : Nat → Int32} {n : Nat} {sf : Option Nat} (hsf : sf = none ∨ sf = some 1200000) : wGoes x_KT x_tb x_tyl (x_otS xs n sf) lwFR lwGA.length lwGB.length 27 25 42 fin0WA fin0WB 116 244 60 60 fin0_lr fin0o1 :=
  wDp (wWk (wFamE2 (V := [5, 6, 7, 9, 10, 8]) (x_ov0_le sf) (u_ctKS0 hsf) lwFRok fin0E1 (by decide) (by decide) (fun i hi u hu => by
      have hi : i ∈ ([5, 6, 7, 9, 10, 8] : List Nat) := hi
      simp only [List.mem_cons, List.not_mem_nil, or_false] at hi
      rcases hi with rfl | rfl | rfl | rfl | rfl | rfl
      · exact gRk_spec (x_ov0_le sf) (u_ctKS0 hsf) lwFRok fin0E1 (by decide) (by decide) fin0E1G0 (by decide +kernel) _ (List.mem_cons_self) u hu
      · exact gRk_spec (x_ov0_le sf) (u_ctKS0 hsf) lwFRok fin0E1 (by decide) (by decide) fin0E1G0 (by decide +kernel) _ (List.mem_cons_of_mem _ (List.mem_cons_self)) u hu
      · exact gRk_spec (x_ov0_le sf) (u_ctKS0 hsf) lwFRok fin0E1 (by decide) (by decide) fin0E1G0 (by decide +kernel) _ (List.mem_cons_of_mem _ (List.mem_cons_of_mem _ (List.mem_cons_self))) u hu
      · exact gRk_spec (x_ov0_le sf) (u_ctKS0 hsf) lwFRok fin0E1 (by decide) (by decide) fin0E1G0 (by decide +kernel) _ (List.mem_cons_of_mem _ (List.mem_cons_of_mem _ (List.mem_cons_of_mem _ (List.mem_cons_self)))) u hu
      · exact gRk_spec (x_ov0_le sf) (u_ctKS0 hsf) lwFRok fin0E1 (by decide) (by decide) fin0E1G0 (by decide +kernel) _ (List.mem_cons_of_mem _ (List.mem_cons_of_mem _ (List.mem_cons_of_mem _ (List.mem_cons_of_mem _ (List.mem_cons_self))))) u hu
      · exact gRk_spec (x_ov0_le sf) (u_ctKS0 hsf) lwFRok fin0E1 (by decide) (by decide) fin0E1G0 (by decide +kernel) _ (List.mem_cons_of_mem _ (List.mem_cons_of_mem _ (List.mem_cons_of_mem _ (List.mem_cons_of_mem _ (List.mem_cons_of_mem _ (List.mem_cons_self)))))) u hu)) (Nat.le_refl _) (Nat.le_refl _) (Nat.le_refl _) (by decide +kernel) (by decide +kernel)) (by decide) (by decide)
theorem fin0N2 {xs : Nat → Int32} {n : Nat} {sf : Option Nat} (hsf : sf = none ∨ sf = some 1200000) : wGoes x_KT x_tb x_tyl (x_otS xs n sf) lwFR lwGA.length lwGB.length 27 25 42 fin0WA fin0WB 116 244 60 60 fin0_lo fin0o2 :=
  wDp (wWk (wEd_spec (x_ov0_le sf) (u_ctKS0 hsf) lwFRok fin0E2) (Nat.le_refl _) (Nat.le_refl _) (Nat.le_refl _) (by decide +kernel) (by decide +kernel)) (by decide) (by decide)
theorem fin1N0 {xs : Nat → Int32} {n : Nat} {sf : Option Nat} (hsf : sf = none ∨ sf = some 1200000) : wGoes x_KT x_tb x_tyl (x_otS xs n sf) lwFR lwGA.length lwGB.length 27 25 42 fin1WA fin1WB 116 244 60 60 fin1_in fin1o0 :=
  wDp (wWk (wEd_spec (x_ov0_le sf) (u_ctKS0 hsf) lwFRok fin1E0) (Nat.le_refl _) (Nat.le_refl _) (Nat.le_refl _) (by decide +kernel) (by decide +kernel)) (by decide) (by decide)
theorem fin1N1 {xs : Nat → Int32} {n : Nat} {sf : Option Nat} (hsf : sf = none ∨ sf = some 1200000) : wGoes x_KT x_tb x_tyl (x_otS xs n sf) lwFR lwGA.length lwGB.length 27 25 42 fin1WA fin1WB 116 244 60 60 fin1_lr fin1o1 :=
  wDp (wWk (wFamE2 (V := [5, 6, 7, 9, 10, 8]) (x_ov0_le sf) (u_ctKS0 hsf) lwFRok fin1E1 (by decide) (by decide) (fun i hi u hu => by
      have hi : i ∈ ([5, 6, 7, 9, 10, 8] : List Nat) := hi
      simp only [List.mem_cons, List.not_mem_nil, or_false] at hi
      rcases hi with rfl | rfl | rfl | rfl | rfl | rfl
      · exact gRk_spec (x_ov0_le sf) (u_ctKS0 hsf) lwFRok fin1E1 (by decide) (by decide) fin1E1G0 (by decide +kernel) _ (List.mem_cons_self) u hu
      · exact gRk_spec (x_ov0_le sf) (u_ctKS0 hsf) lwFRok fin1E1 (by decide) (by decide) fin1E1G0 (by decide +kernel) _ (List.mem_cons_of_mem _ (List.mem_cons_self)) u hu
      · exact gRk_spec (x_ov0_le sf) (u_ctKS0 hsf) lwFRok fin1E1 (by decide) (by decide) fin1E1G0 (by decide +kernel) _ (List.mem_cons_of_mem _ (List.mem_cons_of_mem _ (List.mem_cons_self))) u hu
      · exact gRk_spec (x_ov0_le sf) (u_ctKS0 hsf) lwFRok fin1E1 (by decide) (by decide) fin1E1G0 (by decide +kernel) _ (List.mem_cons_of_mem _ (List.mem_cons_of_mem _ (List.mem_cons_of_mem _ (List.mem_cons_self)))) u hu
      · exact gRk_spec (x_ov0_le sf) (u_ctKS0 hsf) lwFRok fin1E1 (by decide) (by decide) fin1E1G0 (by decide +kernel) _ (List.mem_cons_of_mem _ (List.mem_cons_of_mem _ (List.mem_cons_of_mem _ (List.mem_cons_of_mem _ (List.mem_cons_self))))) u hu
      · exact gRk_spec (x_ov0_le sf) (u_ctKS0 hsf) lwFRok fin1E1 (by decide) (by decide) fin1E1G0 (by decide +kernel) _ (List.mem_cons_of_mem _ (List.mem_cons_of_mem _ (List.mem_cons_of_mem _ (List.mem_cons_of_mem _ (List.mem_cons_of_mem _ (List.mem_cons_self)))))) u hu)) (Nat.le_refl _) (Nat.le_refl _) (Nat.le_refl _) (by decide +kernel) (by decide +kernel)) (by decide) (by decide)
theorem fin1N2 {xs : Nat → Int32} {n : Nat} {sf : Option Nat} (hsf : sf = none ∨ sf = some 1200000) : wGoes x_KT x_tb x_tyl (x_otS xs n sf) lwFR lwGA.length lwGB.length 27 25 42 fin1WA fin1WB 116 244 60 60 fin1_lo fin1o2 :=
  wDp (wWk (wEd_spec (x_ov0_le sf) (u_ctKS0 hsf) lwFRok fin1E2) (Nat.le_refl _) (Nat.le_refl _) (Nat.le_refl _) (by decide +kernel) (by decide +kernel)) (by decide) (by decide)
theorem u_ctKS1 {xs : Nat → Int32} {n : Nat} {sf : Option Nat} (hsf : sf = none ∨ sf = some 1200000) : ∀ j c, c ∈ u_ctK1 j → vCtSem x_KT x_tb x_tyl (x_otS xs n sf) j c := fun j c h => by
  unfold u_ctK1 at h
  cases hb : (Nat.beq j 83) with
  | true =>
    rw [hb] at h
    exact x_allS xs n hsf j c h
  | false =>
    rw [hb] at h
    exact absurd h List.not_mem_nil
set_option maxRecDepth 1000000 in
theorem gq115 : tMth x_tb 115 = some xm115 := rfl
def fin0_g0_nd : List wE := [fin0_in, fin0_lr, fin0_lo]
theorem fin0_g0_G {xs : Nat → Int32} {n : Nat} {sf : Option Nat} (hsf : sf = none ∨ sf = some 1200000) : ∀ nd ∈ fin0_g0_nd, wGoes x_KT x_tb x_tyl (x_otS xs n sf) lwFR lwGA.length lwGB.length 27 25 42 fin0WA fin0WB 116 244 60 60 nd (fin0_g0_ex.map (fun x => (false, x))) := wGraph (fun nd hnd => by
  have hnd : nd ∈ ([fin0_in, fin0_lr, fin0_lo] : List wE) := hnd
  simp only [List.mem_cons, List.not_mem_nil, or_false] at hnd
  rcases hnd with rfl | rfl | rfl
  · refine ⟨fin0o0, fin0N0 hsf, fun o ho => ?_⟩
    have ho : o ∈ ([(true, fin0_lr), (true, fin0_lo)] : List (Bool × wE)) := ho
    simp only [List.mem_cons, List.not_mem_nil, or_false] at ho
    rcases ho with rfl | rfl
    · exact Or.inr ⟨rfl, List.mem_cons_of_mem _ (List.mem_cons_self)⟩
    · exact Or.inr ⟨rfl, List.mem_cons_of_mem _ (List.mem_cons_of_mem _ (List.mem_cons_self))⟩
  · refine ⟨fin0o1, fin0N1 hsf, fun o ho => ?_⟩
    have ho : o ∈ ([(true, fin0_lr), (true, fin0_lo), (false, fin0_out)] : List (Bool × wE)) := ho
    simp only [List.mem_cons, List.not_mem_nil, or_false] at ho
    rcases ho with rfl | rfl | rfl
    · exact Or.inr ⟨rfl, List.mem_cons_of_mem _ (List.mem_cons_self)⟩
    · exact Or.inr ⟨rfl, List.mem_cons_of_mem _ (List.mem_cons_of_mem _ (List.mem_cons_self))⟩
    · exact Or.inl (List.mem_cons_self)
  · refine ⟨fin0o2, fin0N2 hsf, fun o ho => ?_⟩
    have ho : o ∈ ([(false, fin0_out)] : List (Bool × wE)) := ho
    simp only [List.mem_cons, List.not_mem_nil, or_false] at ho
    rcases ho with rfl
    · exact Or.inl (List.mem_cons_self))
theorem cbaN0 {xs : Nat → Int32} {n : Nat} {sf : Option Nat} (hsf : sf = none ∨ sf = some 1200000) : wGoes x_KT x_tb x_tyl (x_otS xs n sf) lwFR lwGA.length lwGB.length 26 25 42 cbaWA cbaWB 115 244 61 60 cba_c0 cbao0 :=
  wDp (wWk (wEqvB (wCallA (recv := 4) (pc := 60) (ix := 320) (nx := 3) (args := []) (rest := []) (LE := [(0, .inr (some 0)), (1, .inr (some 24)), (2, .inl (lSy 25))]) (cE := (lK 0)) (sE := (lK 0)) (wReL (XA := cbaX0.2.1) (XB := cbaX0.2.2.1) (XC := cbaX0.2.2.2.1) (rk := cbaX0.2.2.2.2) (rA := cbaQA0) (rB := cbaQB0) (fin0_g0_G hsf _ List.mem_cons_self) cbaL0) gq115 gq116 (by decide +kernel) (by decide +kernel) (by decide +kernel) (by decide +kernel) (by decide +kernel)) (by decide +kernel) (by decide +kernel)) (by decide) (by decide) (by decide) (by decide +kernel) (by decide +kernel)) (by decide) (by decide)
theorem cbaN1 {xs : Nat → Int32} {n : Nat} {sf : Option Nat} (hsf : sf = none ∨ sf = some 1200000) : wGoes x_KT x_tb x_tyl (x_otS xs n sf) lwFR lwGA.length lwGB.length 26 25 42 cbaWA cbaWB 115 244 61 60 cba_in cbao1 :=
  wDp (wWk (wFamE2 (V := [5, 6, 7, 9, 10, 8]) (x_ov0_le sf) (u_ctKS1 hsf) lwFRok cbaE1 (by decide) (by decide) (fun i hi u hu => by
      have hi : i ∈ ([5, 6, 7, 9, 10, 8] : List Nat) := hi
      simp only [List.mem_cons, List.not_mem_nil, or_false] at hi
      rcases hi with rfl | rfl | rfl | rfl | rfl | rfl
      · exact gRk_spec (x_ov0_le sf) (u_ctKS1 hsf) lwFRok cbaE1 (by decide) (by decide) cbaE1G0 (by decide +kernel) _ (List.mem_cons_self) u hu
      · exact gRk_spec (x_ov0_le sf) (u_ctKS1 hsf) lwFRok cbaE1 (by decide) (by decide) cbaE1G0 (by decide +kernel) _ (List.mem_cons_of_mem _ (List.mem_cons_self)) u hu
      · exact gRk_spec (x_ov0_le sf) (u_ctKS1 hsf) lwFRok cbaE1 (by decide) (by decide) cbaE1G0 (by decide +kernel) _ (List.mem_cons_of_mem _ (List.mem_cons_of_mem _ (List.mem_cons_self))) u hu
      · exact gRk_spec (x_ov0_le sf) (u_ctKS1 hsf) lwFRok cbaE1 (by decide) (by decide) cbaE1G0 (by decide +kernel) _ (List.mem_cons_of_mem _ (List.mem_cons_of_mem _ (List.mem_cons_of_mem _ (List.mem_cons_self)))) u hu
      · exact gRk_spec (x_ov0_le sf) (u_ctKS1 hsf) lwFRok cbaE1 (by decide) (by decide) cbaE1G0 (by decide +kernel) _ (List.mem_cons_of_mem _ (List.mem_cons_of_mem _ (List.mem_cons_of_mem _ (List.mem_cons_of_mem _ (List.mem_cons_self))))) u hu
      · exact gRk_spec (x_ov0_le sf) (u_ctKS1 hsf) lwFRok cbaE1 (by decide) (by decide) cbaE1G0 (by decide +kernel) _ (List.mem_cons_of_mem _ (List.mem_cons_of_mem _ (List.mem_cons_of_mem _ (List.mem_cons_of_mem _ (List.mem_cons_of_mem _ (List.mem_cons_self)))))) u hu)) (Nat.le_refl _) (Nat.le_refl _) (Nat.le_refl _) (by decide +kernel) (by decide +kernel)) (by decide) (by decide)
def fin1_g0_nd : List wE := [fin1_in, fin1_lr, fin1_lo]
theorem fin1_g0_G {xs : Nat → Int32} {n : Nat} {sf : Option Nat} (hsf : sf = none ∨ sf = some 1200000) : ∀ nd ∈ fin1_g0_nd, wGoes x_KT x_tb x_tyl (x_otS xs n sf) lwFR lwGA.length lwGB.length 27 25 42 fin1WA fin1WB 116 244 60 60 nd (fin1_g0_ex.map (fun x => (false, x))) := wGraph (fun nd hnd => by
  have hnd : nd ∈ ([fin1_in, fin1_lr, fin1_lo] : List wE) := hnd
  simp only [List.mem_cons, List.not_mem_nil, or_false] at hnd
  rcases hnd with rfl | rfl | rfl
  · refine ⟨fin1o0, fin1N0 hsf, fun o ho => ?_⟩
    have ho : o ∈ ([(true, fin1_lr), (true, fin1_lo)] : List (Bool × wE)) := ho
    simp only [List.mem_cons, List.not_mem_nil, or_false] at ho
    rcases ho with rfl | rfl
    · exact Or.inr ⟨rfl, List.mem_cons_of_mem _ (List.mem_cons_self)⟩
    · exact Or.inr ⟨rfl, List.mem_cons_of_mem _ (List.mem_cons_of_mem _ (List.mem_cons_self))⟩
  · refine ⟨fin1o1, fin1N1 hsf, fun o ho => ?_⟩
    have ho : o ∈ ([(true, fin1_lr), (true, fin1_lo), (false, fin1_out)] : List (Bool × wE)) := ho
    simp only [List.mem_cons, List.not_mem_nil, or_false] at ho
    rcases ho with rfl | rfl | rfl
    · exact Or.inr ⟨rfl, List.mem_cons_of_mem _ (List.mem_cons_self)⟩
    · exact Or.inr ⟨rfl, List.mem_cons_of_mem _ (List.mem_cons_of_mem _ (List.mem_cons_self))⟩
    · exact Or.inl (List.mem_cons_self)
  · refine ⟨fin1o2, fin1N2 hsf, fun o ho => ?_⟩
    have ho : o ∈ ([(false, fin1_out)] : List (Bool × wE)) := ho
    simp only [List.mem_cons, List.not_mem_nil, or_false] at ho
    rcases ho with rfl
    · exact Or.inl (List.mem_cons_self))
theorem cbaN2 {xs : Nat → Int32} {n : Nat} {sf : Option Nat} (hsf : sf = none ∨ sf = some 1200000) : wGoes x_KT x_tb x_tyl (x_otS xs n sf) lwFR lwGA.length lwGB.length 26 25 42 cbaWA cbaWB 115 244 61 60 cba_c1 cbao2 :=
  wDp (wWk (wEqvB (wCallA (recv := 8) (pc := 68) (ix := 320) (nx := 3) (args := []) (rest := []) (LE := [(0, .inr (some 0)), (1, .inr (some 24)), (2, .inl (lSy 25)), (3, .inl (lSy 26))]) (cE := (lK 0)) (sE := (lK 0)) (wReL (XA := cbaX2.2.1) (XB := cbaX2.2.2.1) (XC := cbaX2.2.2.2.1) (rk := cbaX2.2.2.2.2) (rA := cbaQA2) (rB := cbaQB2) (fin1_g0_G hsf _ List.mem_cons_self) cbaL2) gq115 gq116 (by decide +kernel) (by decide +kernel) (by decide +kernel) (by decide +kernel) (by decide +kernel)) (by decide +kernel) (by decide +kernel)) (by decide) (by decide) (by decide) (by decide +kernel) (by decide +kernel)) (by decide) (by decide)
theorem cbaN3 {xs : Nat → Int32} {n : Nat} {sf : Option Nat} (hsf : sf = none ∨ sf = some 1200000) : wGoes x_KT x_tb x_tyl (x_otS xs n sf) lwFR lwGA.length lwGB.length 26 25 42 cbaWA cbaWB 115 244 61 60 cba_c0_out cbao3 :=
  wDp (wWk (wEd_spec (x_ov0_le sf) (u_ctKS1 hsf) lwFRok cbaE3) (Nat.le_refl _) (Nat.le_refl _) (Nat.le_refl _) (by decide +kernel) (by decide +kernel)) (by decide) (by decide)
theorem cbaN4 {xs : Nat → Int32} {n : Nat} {sf : Option Nat} (hsf : sf = none ∨ sf = some 1200000) : wGoes x_KT x_tb x_tyl (x_otS xs n sf) lwFR lwGA.length lwGB.length 26 25 42 cbaWA cbaWB 115 244 61 60 cba_c1_out cbao4 :=
  wDp (wWk (wEd_spec (x_ov0_le sf) (u_ctKS1 hsf) lwFRok cbaE4) (Nat.le_refl _) (Nat.le_refl _) (Nat.le_refl _) (by decide +kernel) (by decide +kernel)) (by decide) (by decide)
set_option maxRecDepth 1000000 in
theorem gq136 : tMth x_tb 136 = some xm136 := rfl
def cba_g0_nd : List wE := [cba_in, cba_c0, cba_c0_out, cba_c1, cba_c1_out]
theorem cba_g0_G {xs : Nat → Int32} {n : Nat} {sf : Option Nat} (hsf : sf = none ∨ sf = some 1200000) : ∀ nd ∈ cba_g0_nd, wGoes x_KT x_tb x_tyl (x_otS xs n sf) lwFR lwGA.length lwGB.length 26 25 42 cbaWA cbaWB 115 244 61 60 nd (cba_g0_ex.map (fun x => (false, x))) := wGraph (fun nd hnd => by
  have hnd : nd ∈ ([cba_in, cba_c0, cba_c0_out, cba_c1, cba_c1_out] : List wE) := hnd
  simp only [List.mem_cons, List.not_mem_nil, or_false] at hnd
  rcases hnd with rfl | rfl | rfl | rfl | rfl
  · refine ⟨cbao1, cbaN1 hsf, fun o ho => ?_⟩
    have ho : o ∈ ([(true, cba_c0)] : List (Bool × wE)) := ho
    simp only [List.mem_cons, List.not_mem_nil, or_false] at ho
    rcases ho with rfl
    · exact Or.inr ⟨rfl, List.mem_cons_of_mem _ (List.mem_cons_self)⟩
  · refine ⟨cbao0, cbaN0 hsf, fun o ho => ?_⟩
    have ho : o ∈ ([(true, cba_c0_out)] : List (Bool × wE)) := ho
    simp only [List.mem_cons, List.not_mem_nil, or_false] at ho
    rcases ho with rfl
    · exact Or.inr ⟨rfl, List.mem_cons_of_mem _ (List.mem_cons_of_mem _ (List.mem_cons_self))⟩
  · refine ⟨cbao3, cbaN3 hsf, fun o ho => ?_⟩
    have ho : o ∈ ([(true, cba_c1)] : List (Bool × wE)) := ho
    simp only [List.mem_cons, List.not_mem_nil, or_false] at ho
    rcases ho with rfl
    · exact Or.inr ⟨rfl, List.mem_cons_of_mem _ (List.mem_cons_of_mem _ (List.mem_cons_of_mem _ (List.mem_cons_self)))⟩
  · refine ⟨cbao2, cbaN2 hsf, fun o ho => ?_⟩
    have ho : o ∈ ([(true, cba_c1_out)] : List (Bool × wE)) := ho
    simp only [List.mem_cons, List.not_mem_nil, or_false] at ho
    rcases ho with rfl
    · exact Or.inr ⟨rfl, List.mem_cons_of_mem _ (List.mem_cons_of_mem _ (List.mem_cons_of_mem _ (List.mem_cons_of_mem _ (List.mem_cons_self))))⟩
  · refine ⟨cbao4, cbaN4 hsf, fun o ho => ?_⟩
    have ho : o ∈ ([(false, cba_out)] : List (Bool × wE)) := ho
    simp only [List.mem_cons, List.not_mem_nil, or_false] at ho
    rcases ho with rfl
    · exact Or.inl (List.mem_cons_self))
theorem ishN0 {xs : Nat → Int32} {n : Nat} {sf : Option Nat} (hsf : sf = none ∨ sf = some 1200000) : wGoes x_KT x_tb x_tyl (x_otS xs n sf) lwFR lwGA.length lwGB.length 13 24 42 ishWA ishWB 136 244 62 60 ish_c isho0 :=
  wDp (wWk (wEqvB (wCallA (recv := 0) (pc := 75) (ix := 302) (nx := 3) (args := [.inr (some 24), .inl (lSy 25)]) (rest := []) (LE := [(0, .inr (some 0)), (1, .inl (lSy 13)), (2, .inl (lSy 14)), (3, .inr (some 24))]) (cE := (lK 0)) (sE := (lK 0)) (wReL (XA := ishX0.2.1) (XB := ishX0.2.2.1) (XC := ishX0.2.2.2.1) (rk := ishX0.2.2.2.2) (rA := ishQA0) (rB := ishQB0) (cba_g0_G hsf _ List.mem_cons_self) ishL0) gq136 gq115 (by decide +kernel) (by decide +kernel) (by decide +kernel) (by decide +kernel) (by decide +kernel)) (by decide +kernel) (by decide +kernel)) (by decide) (by decide) (by decide) (by decide +kernel) (by decide +kernel)) (by decide) (by decide)
theorem ishN1 {xs : Nat → Int32} {n : Nat} {sf : Option Nat} (hsf : sf = none ∨ sf = some 1200000) : wGoes x_KT x_tb x_tyl (x_otS xs n sf) lwFR lwGA.length lwGB.length 13 24 42 ishWA ishWB 136 244 62 60 ish_in isho1 :=
  wDp (wWk (wFamE2 (V := [0, 2, 3]) (x_ov0_le sf) u_ctS lwFRok ishE1 (by decide) (by decide) (fun i hi u hu => by
      have hi : i ∈ ([0, 2, 3] : List Nat) := hi
      simp only [List.mem_cons, List.not_mem_nil, or_false] at hi
      rcases hi with rfl | rfl | rfl
      · cases hu
        exact wRkE_spec (x_ov0_le sf) u_ctS lwFRok ishE1R0
      · cases hu
        exact wRkE_spec (x_ov0_le sf) u_ctS lwFRok ishE1R2
      · cases hu
        exact wRkE_spec (x_ov0_le sf) u_ctS lwFRok ishE1R3)) (Nat.le_refl _) (Nat.le_refl _) (Nat.le_refl _) (by decide +kernel) (by decide +kernel)) (by decide) (by decide)
theorem ishN2 {xs : Nat → Int32} {n : Nat} {sf : Option Nat} (hsf : sf = none ∨ sf = some 1200000) : wGoes x_KT x_tb x_tyl (x_otS xs n sf) lwFR lwGA.length lwGB.length 13 24 42 ishWA ishWB 136 244 62 60 ish_c_out isho2 :=
  wDp (wWk (wEd_spec (x_ov0_le sf) u_ctS lwFRok ishE2) (Nat.le_refl _) (Nat.le_refl _) (Nat.le_refl _) (by decide +kernel) (by decide +kernel)) (by decide) (by decide)
theorem u_ctKS2 {xs : Nat → Int32} {n : Nat} {sf : Option Nat} (hsf : sf = none ∨ sf = some 1200000) : ∀ j c, c ∈ u_ctK2 j → vCtSem x_KT x_tb x_tyl (x_otS xs n sf) j c := fun j c h => by
  unfold u_ctK2 at h
  cases hb : (Nat.beq j 203 || Nat.beq j 211) with
  | true =>
    rw [hb] at h
    exact x_allS xs n hsf j c h
  | false =>
    rw [hb] at h
    exact absurd h List.not_mem_nil
set_option maxRecDepth 1000000 in
theorem gq113 : tMth x_tb 113 = some xm113 := rfl
set_option maxRecDepth 1000000 in
theorem gq243 : tMth x_tb 243 = some xm243 := rfl
theorem chbN0 {xs : Nat → Int32} {n : Nat} {sf : Option Nat} (hsf : sf = none ∨ sf = some 1200000) : wGoes x_KT x_tb x_tyl (x_otS xs n sf) lwFR lwGA.length lwGB.length 25 24 42 chbWA chbWB 113 243 60 60 chb_in chbo0 :=
  wDp (wWk (wFamE2 (V := [2]) (x_ov0_le sf) (u_ctKS2 hsf) lwFRok chbE0 (by decide) (by decide) (fun i hi u hu => by
      have hi : i ∈ ([2] : List Nat) := hi
      simp only [List.mem_cons, List.not_mem_nil, or_false] at hi
      rcases hi with rfl
      · cases hu
        exact wRkE_spec (x_ov0_le sf) (u_ctKS2 hsf) lwFRok chbE0R2)) (Nat.le_refl _) (Nat.le_refl _) (Nat.le_refl _) (by decide +kernel) (by decide +kernel)) (by decide) (by decide)
set_option maxRecDepth 1000000 in
theorem gq248 : tMth x_tb 248 = some xm248 := rfl
def chb_g0_nd : List wE := [chb_in]
theorem chb_g0_G {xs : Nat → Int32} {n : Nat} {sf : Option Nat} (hsf : sf = none ∨ sf = some 1200000) : ∀ nd ∈ chb_g0_nd, wGoes x_KT x_tb x_tyl (x_otS xs n sf) lwFR lwGA.length lwGB.length 25 24 42 chbWA chbWB 113 243 60 60 nd (chb_g0_ex.map (fun x => (false, x))) := wGraph (fun nd hnd => by
  have hnd : nd ∈ ([chb_in] : List wE) := hnd
  simp only [List.mem_cons, List.not_mem_nil, or_false] at hnd
  rcases hnd with rfl
  · refine ⟨chbo0, chbN0 hsf, fun o ho => ?_⟩
    have ho : o ∈ ([(false, chb_out)] : List (Bool × wE)) := ho
    simp only [List.mem_cons, List.not_mem_nil, or_false] at ho
    rcases ho with rfl
    · exact Or.inl (List.mem_cons_self))
theorem isbN0 {xs : Nat → Int32} {n : Nat} {sf : Option Nat} (hsf : sf = none ∨ sf = some 1200000) : wGoes x_KT x_tb x_tyl (x_otS xs n sf) lwFR lwGA.length lwGB.length 13 24 42 isbWA isbWB 113 248 60 61 isb_c isbo0 :=
  wDp (wWk (wEqvB (wCallB (recv := 0) (pc := 27) (ix := 395) (nx := 3) (args := [.inl (lSy 25), .inl (lSy 26), .inl (lSy 27), .inl (lSy 28), .inl (lSy 29), .inl (lSy 30)]) (rest := []) (LE := [(0, .inr (some 0)), (1, .inl (lSy 13)), (2, .inl (lSy 14))]) (cE := (lK 0)) (sE := (lK 0)) (wReL (XA := isbX0.2.1) (XB := isbX0.2.2.1) (XC := isbX0.2.2.2.1) (rk := isbX0.2.2.2.2) (rA := isbQA0) (rB := isbQB0) (chb_g0_G hsf _ List.mem_cons_self) isbL0) gq248 gq243 (by decide +kernel) (by decide +kernel) (by decide +kernel) (by decide +kernel) (by decide +kernel)) (by decide +kernel) (by decide +kernel)) (by decide) (by decide) (by decide) (by decide +kernel) (by decide +kernel)) (by decide) (by decide)
theorem isbN1 {xs : Nat → Int32} {n : Nat} {sf : Option Nat} (hsf : sf = none ∨ sf = some 1200000) : wGoes x_KT x_tb x_tyl (x_otS xs n sf) lwFR lwGA.length lwGB.length 13 24 42 isbWA isbWB 113 248 60 61 isb_in isbo1 :=
  wDp (wWk (wEd_spec (x_ov0_le sf) u_ctS lwFRok isbE1) (Nat.le_refl _) (Nat.le_refl _) (Nat.le_refl _) (by decide +kernel) (by decide +kernel)) (by decide) (by decide)
theorem isbN2 {xs : Nat → Int32} {n : Nat} {sf : Option Nat} (hsf : sf = none ∨ sf = some 1200000) : wGoes x_KT x_tb x_tyl (x_otS xs n sf) lwFR lwGA.length lwGB.length 13 24 42 isbWA isbWB 113 248 60 61 isb_c_out isbo2 :=
  wDp (wWk (wEd_spec (x_ov0_le sf) u_ctS lwFRok isbE2) (Nat.le_refl _) (Nat.le_refl _) (Nat.le_refl _) (by decide +kernel) (by decide +kernel)) (by decide) (by decide)
set_option maxRecDepth 1000000 in
theorem gq135 : tMth x_tb 135 = some xm135 := rfl
set_option maxRecDepth 1000000 in
theorem gq247 : tMth x_tb 247 = some xm247 := rfl
def ish_g0_nd : List wE := [ish_in, ish_c, ish_c_out]
theorem ish_g0_G {xs : Nat → Int32} {n : Nat} {sf : Option Nat} (hsf : sf = none ∨ sf = some 1200000) : ∀ nd ∈ ish_g0_nd, wGoes x_KT x_tb x_tyl (x_otS xs n sf) lwFR lwGA.length lwGB.length 13 24 42 ishWA ishWB 136 244 62 60 nd (ish_g0_ex.map (fun x => (false, x))) := wGraph (fun nd hnd => by
  have hnd : nd ∈ ([ish_in, ish_c, ish_c_out] : List wE) := hnd
  simp only [List.mem_cons, List.not_mem_nil, or_false] at hnd
  rcases hnd with rfl | rfl | rfl
  · refine ⟨isho1, ishN1 hsf, fun o ho => ?_⟩
    have ho : o ∈ ([(true, ish_c), (false, ish_out)] : List (Bool × wE)) := ho
    simp only [List.mem_cons, List.not_mem_nil, or_false] at ho
    rcases ho with rfl | rfl
    · exact Or.inr ⟨rfl, List.mem_cons_of_mem _ (List.mem_cons_self)⟩
    · exact Or.inl (List.mem_cons_self)
  · refine ⟨isho0, ishN0 hsf, fun o ho => ?_⟩
    have ho : o ∈ ([(true, ish_c_out)] : List (Bool × wE)) := ho
    simp only [List.mem_cons, List.not_mem_nil, or_false] at ho
    rcases ho with rfl
    · exact Or.inr ⟨rfl, List.mem_cons_of_mem _ (List.mem_cons_of_mem _ (List.mem_cons_self))⟩
  · refine ⟨isho2, ishN2 hsf, fun o ho => ?_⟩
    have ho : o ∈ ([(false, ish_out)] : List (Bool × wE)) := ho
    simp only [List.mem_cons, List.not_mem_nil, or_false] at ho
    rcases ho with rfl
    · exact Or.inl (List.mem_cons_self))
theorem showsN0 {xs : Nat → Int32} {n : Nat} {sf : Option Nat} (hsf : sf = none ∨ sf = some 1200000) : wGoes x_KT x_tb x_tyl (x_otS xs n sf) lwFR lwGA.length lwGB.length 5 24 42 showsWA showsWB 135 247 63 62 shows_c showso0 :=
  wDp (wWk (wEqvB (wCallA (recv := 0) (pc := 29) (ix := 355) (nx := 3) (args := [.inl (lSy 13), .inl (lSy 14)]) (rest := []) (LE := [(0, .inr (some 0)), (1, .inl (lSy 5)), (2, .inl (lSy 6))]) (cE := (lK 0)) (sE := (lK 0)) (wLift (dpB := 60) (pc := 0) (pcP := 43) (nx := 1) (LE := [(0, .inr (some 0)), (1, .inl (lSy 5)), (2, .inl (lSy 6))]) (SE := []) (cE := (lK 0)) (sE := (lK 0)) (wReL (XA := showsX0.2.1) (XB := showsX0.2.2.1) (XC := showsX0.2.2.2.1) (rk := showsX0.2.2.2.2) (rA := showsQA0) (rB := showsQB0) (ish_g0_G hsf _ List.mem_cons_self) showsL0) gq247 gq244 (by decide +kernel) (by decide +kernel) (by decide +kernel) (by decide +kernel)) gq135 gq136 (by decide +kernel) (by decide +kernel) (by decide +kernel) (by decide +kernel) (by decide +kernel)) (by decide +kernel) (by decide +kernel)) (by decide) (by decide) (by decide) (by decide +kernel) (by decide +kernel)) (by decide) (by decide)
theorem showsN1 {xs : Nat → Int32} {n : Nat} {sf : Option Nat} (hsf : sf = none ∨ sf = some 1200000) : wGoes x_KT x_tb x_tyl (x_otS xs n sf) lwFR lwGA.length lwGB.length 5 24 42 showsWA showsWB 135 247 63 62 shows_in showso1 :=
  wDp (wWk (wEd_spec (x_ov0_le sf) u_ctS lwFRok showsE1) (Nat.le_refl _) (Nat.le_refl _) (Nat.le_refl _) (by decide +kernel) (by decide +kernel)) (by decide) (by decide)
theorem showsN2 {xs : Nat → Int32} {n : Nat} {sf : Option Nat} (hsf : sf = none ∨ sf = some 1200000) : wGoes x_KT x_tb x_tyl (x_otS xs n sf) lwFR lwGA.length lwGB.length 5 24 42 showsWA showsWB 135 247 63 62 shows_c_out showso2 :=
  wDp (wWk (wEd_spec (x_ov0_le sf) u_ctS lwFRok showsE2) (Nat.le_refl _) (Nat.le_refl _) (Nat.le_refl _) (by decide +kernel) (by decide +kernel)) (by decide) (by decide)
def isb_g0_nd : List wE := [isb_in, isb_c, isb_c_out]
theorem isb_g0_G {xs : Nat → Int32} {n : Nat} {sf : Option Nat} (hsf : sf = none ∨ sf = some 1200000) : ∀ nd ∈ isb_g0_nd, wGoes x_KT x_tb x_tyl (x_otS xs n sf) lwFR lwGA.length lwGB.length 13 24 42 isbWA isbWB 113 248 60 61 nd (isb_g0_ex.map (fun x => (false, x))) := wGraph (fun nd hnd => by
  have hnd : nd ∈ ([isb_in, isb_c, isb_c_out] : List wE) := hnd
  simp only [List.mem_cons, List.not_mem_nil, or_false] at hnd
  rcases hnd with rfl | rfl | rfl
  · refine ⟨isbo1, isbN1 hsf, fun o ho => ?_⟩
    have ho : o ∈ ([(true, isb_c)] : List (Bool × wE)) := ho
    simp only [List.mem_cons, List.not_mem_nil, or_false] at ho
    rcases ho with rfl
    · exact Or.inr ⟨rfl, List.mem_cons_of_mem _ (List.mem_cons_self)⟩
  · refine ⟨isbo0, isbN0 hsf, fun o ho => ?_⟩
    have ho : o ∈ ([(true, isb_c_out)] : List (Bool × wE)) := ho
    simp only [List.mem_cons, List.not_mem_nil, or_false] at ho
    rcases ho with rfl
    · exact Or.inr ⟨rfl, List.mem_cons_of_mem _ (List.mem_cons_of_mem _ (List.mem_cons_self))⟩
  · refine ⟨isbo2, isbN2 hsf, fun o ho => ?_⟩
    have ho : o ∈ ([(false, isb_out)] : List (Bool × wE)) := ho
    simp only [List.mem_cons, List.not_mem_nil, or_false] at ho
    rcases ho with rfl
    · exact Or.inl (List.mem_cons_self))
theorem showsN3 {xs : Nat → Int32} {n : Nat} {sf : Option Nat} (hsf : sf = none ∨ sf = some 1200000) : wGoes x_KT x_tb x_tyl (x_otS xs n sf) lwFR lwGA.length lwGB.length 5 24 42 showsWA showsWB 135 247 63 62 shows_cb1 showso3 :=
  wDp (wWk (wEqvB (wCallB (recv := 0) (pc := 31) (ix := 405) (nx := 3) (args := [.inl (lSy 13), .inl (lSy 14)]) (rest := []) (LE := [(0, .inr (some 0)), (1, .inl (lSy 5)), (2, .inl (lSy 6))]) (cE := (lK 0)) (sE := (lK 0)) (wLiftA (dpA := 60) (pc := 25) (pcP := 22) (nx := 1) (LE := []) (SE := [.inl (lK (-1))]) (cE := (lK 0)) (sE := (lK 0)) (wReL (XA := showsX3.2.1) (XB := showsX3.2.2.1) (XC := showsX3.2.2.2.1) (rk := showsX3.2.2.2.2) (rA := showsQA3) (rB := showsQB3) (isb_g0_G hsf _ List.mem_cons_self) showsL3) gq135 gq113 (by decide +kernel) (by decide +kernel) (by decide +kernel) (by decide +kernel)) gq247 gq248 (by decide +kernel) (by decide +kernel) (by decide +kernel) (by decide +kernel) (by decide +kernel)) (by decide +kernel) (by decide +kernel)) (by decide) (by decide) (by decide) (by decide +kernel) (by decide +kernel)) (by decide) (by decide)
theorem showsN4 {xs : Nat → Int32} {n : Nat} {sf : Option Nat} (hsf : sf = none ∨ sf = some 1200000) : wGoes x_KT x_tb x_tyl (x_otS xs n sf) lwFR lwGA.length lwGB.length 5 24 42 showsWA showsWB 135 247 63 62 shows_a1 showso4 :=
  wDp (wWk (wEd_spec (x_ov0_le sf) u_ctS lwFRok showsE4) (Nat.le_refl _) (Nat.le_refl _) (Nat.le_refl _) (by decide +kernel) (by decide +kernel)) (by decide) (by decide)
theorem showsN5 {xs : Nat → Int32} {n : Nat} {sf : Option Nat} (hsf : sf = none ∨ sf = some 1200000) : wGoes x_KT x_tb x_tyl (x_otS xs n sf) lwFR lwGA.length lwGB.length 5 24 42 showsWA showsWB 135 247 63 62 shows_cb1_out showso5 :=
  wDp (wWk (wEd_spec (x_ov0_le sf) u_ctS lwFRok showsE5) (Nat.le_refl _) (Nat.le_refl _) (Nat.le_refl _) (by decide +kernel) (by decide +kernel)) (by decide) (by decide)
theorem showsN6 {xs : Nat → Int32} {n : Nat} {sf : Option Nat} (hsf : sf = none ∨ sf = some 1200000) : wGoes x_KT x_tb x_tyl (x_otS xs n sf) lwFR lwGA.length lwGB.length 5 24 42 showsWA showsWB 135 247 63 62 shows_fb1 showso6 :=
  wDp (wWk (wEd_spec (x_ov0_le sf) u_ctS lwFRok showsE6) (Nat.le_refl _) (Nat.le_refl _) (Nat.le_refl _) (by decide +kernel) (by decide +kernel)) (by decide) (by decide)
theorem showsN7 {xs : Nat → Int32} {n : Nat} {sf : Option Nat} (hsf : sf = none ∨ sf = some 1200000) : wGoes x_KT x_tb x_tyl (x_otS xs n sf) lwFR lwGA.length lwGB.length 5 24 42 showsWA showsWB 135 247 63 62 shows_cb2 showso7 :=
  wDp (wWk (wEqvB (wCallB (recv := 0) (pc := 31) (ix := 405) (nx := 3) (args := [.inl (lSy 13), .inl (lSy 14)]) (rest := []) (LE := [(0, .inr (some 0)), (1, .inl (lSy 6)), (2, .inl (lSy 7))]) (cE := (lK 0)) (sE := (lK 0)) (wLiftA (dpA := 60) (pc := 40) (pcP := 22) (nx := 1) (LE := []) (SE := [.inl (lSy 5)]) (cE := (lK 0)) (sE := (lK 0)) (wReL (XA := showsX7.2.1) (XB := showsX7.2.2.1) (XC := showsX7.2.2.2.1) (rk := showsX7.2.2.2.2) (rA := showsQA7) (rB := showsQB7) (isb_g0_G hsf _ List.mem_cons_self) showsL7) gq135 gq113 (by decide +kernel) (by decide +kernel) (by decide +kernel) (by decide +kernel)) gq247 gq248 (by decide +kernel) (by decide +kernel) (by decide +kernel) (by decide +kernel) (by decide +kernel)) (by decide +kernel) (by decide +kernel)) (by decide) (by decide) (by decide) (by decide +kernel) (by decide +kernel)) (by decide) (by decide)
theorem showsN8 {xs : Nat → Int32} {n : Nat} {sf : Option Nat} (hsf : sf = none ∨ sf = some 1200000) : wGoes x_KT x_tb x_tyl (x_otS xs n sf) lwFR lwGA.length lwGB.length 5 24 42 showsWA showsWB 135 247 63 62 shows_a2 showso8 :=
  wDp (wWk (wEd_spec (x_ov0_le sf) u_ctS lwFRok showsE8) (Nat.le_refl _) (Nat.le_refl _) (Nat.le_refl _) (by decide +kernel) (by decide +kernel)) (by decide) (by decide)
theorem showsN9 {xs : Nat → Int32} {n : Nat} {sf : Option Nat} (hsf : sf = none ∨ sf = some 1200000) : wGoes x_KT x_tb x_tyl (x_otS xs n sf) lwFR lwGA.length lwGB.length 5 24 42 showsWA showsWB 135 247 63 62 shows_cb2_out showso9 :=
  wDp (wWk (wEd_spec (x_ov0_le sf) u_ctS lwFRok showsE9) (Nat.le_refl _) (Nat.le_refl _) (Nat.le_refl _) (by decide +kernel) (by decide +kernel)) (by decide) (by decide)
theorem showsN10 {xs : Nat → Int32} {n : Nat} {sf : Option Nat} (hsf : sf = none ∨ sf = some 1200000) : wGoes x_KT x_tb x_tyl (x_otS xs n sf) lwFR lwGA.length lwGB.length 5 24 42 showsWA showsWB 135 247 63 62 shows_fb2 showso10 :=
  wDp (wWk (wEd_spec (x_ov0_le sf) u_ctS lwFRok showsE10) (Nat.le_refl _) (Nat.le_refl _) (Nat.le_refl _) (by decide +kernel) (by decide +kernel)) (by decide) (by decide)
def shows_g0_nd : List wE := [shows_in, shows_c, shows_a1, shows_c_out, shows_cb1, shows_fb1, shows_a2, shows_cb1_out, shows_cb2, shows_fb2, shows_cb2_out]
theorem shows_g0_G {xs : Nat → Int32} {n : Nat} {sf : Option Nat} (hsf : sf = none ∨ sf = some 1200000) : ∀ nd ∈ shows_g0_nd, wGoes x_KT x_tb x_tyl (x_otS xs n sf) lwFR lwGA.length lwGB.length 5 24 42 showsWA showsWB 135 247 63 62 nd (shows_g0_ex.map (fun x => (false, x))) := wGraph (fun nd hnd => by
  have hnd : nd ∈ ([shows_in, shows_c, shows_a1, shows_c_out, shows_cb1, shows_fb1, shows_a2, shows_cb1_out, shows_cb2, shows_fb2, shows_cb2_out] : List wE) := hnd
  simp only [List.mem_cons, List.not_mem_nil, or_false] at hnd
  rcases hnd with rfl | rfl | rfl | rfl | rfl | rfl | rfl | rfl | rfl | rfl | rfl
  · refine ⟨showso1, showsN1 hsf, fun o ho => ?_⟩
    have ho : o ∈ ([(true, shows_c), (true, shows_a1)] : List (Bool × wE)) := ho
    simp only [List.mem_cons, List.not_mem_nil, or_false] at ho
    rcases ho with rfl | rfl
    · exact Or.inr ⟨rfl, List.mem_cons_of_mem _ (List.mem_cons_self)⟩
    · exact Or.inr ⟨rfl, List.mem_cons_of_mem _ (List.mem_cons_of_mem _ (List.mem_cons_self))⟩
  · refine ⟨showso0, showsN0 hsf, fun o ho => ?_⟩
    have ho : o ∈ ([(true, shows_c_out)] : List (Bool × wE)) := ho
    simp only [List.mem_cons, List.not_mem_nil, or_false] at ho
    rcases ho with rfl
    · exact Or.inr ⟨rfl, List.mem_cons_of_mem _ (List.mem_cons_of_mem _ (List.mem_cons_of_mem _ (List.mem_cons_self)))⟩
  · refine ⟨showso4, showsN4 hsf, fun o ho => ?_⟩
    have ho : o ∈ ([(true, shows_cb1), (true, shows_fb1)] : List (Bool × wE)) := ho
    simp only [List.mem_cons, List.not_mem_nil, or_false] at ho
    rcases ho with rfl | rfl
    · exact Or.inr ⟨rfl, List.mem_cons_of_mem _ (List.mem_cons_of_mem _ (List.mem_cons_of_mem _ (List.mem_cons_of_mem _ (List.mem_cons_self))))⟩
    · exact Or.inr ⟨rfl, List.mem_cons_of_mem _ (List.mem_cons_of_mem _ (List.mem_cons_of_mem _ (List.mem_cons_of_mem _ (List.mem_cons_of_mem _ (List.mem_cons_self)))))⟩
  · refine ⟨showso2, showsN2 hsf, fun o ho => ?_⟩
    have ho : o ∈ ([(true, shows_a2)] : List (Bool × wE)) := ho
    simp only [List.mem_cons, List.not_mem_nil, or_false] at ho
    rcases ho with rfl
    · exact Or.inr ⟨rfl, List.mem_cons_of_mem _ (List.mem_cons_of_mem _ (List.mem_cons_of_mem _ (List.mem_cons_of_mem _ (List.mem_cons_of_mem _ (List.mem_cons_of_mem _ (List.mem_cons_self))))))⟩
  · refine ⟨showso3, showsN3 hsf, fun o ho => ?_⟩
    have ho : o ∈ ([(true, shows_cb1_out)] : List (Bool × wE)) := ho
    simp only [List.mem_cons, List.not_mem_nil, or_false] at ho
    rcases ho with rfl
    · exact Or.inr ⟨rfl, List.mem_cons_of_mem _ (List.mem_cons_of_mem _ (List.mem_cons_of_mem _ (List.mem_cons_of_mem _ (List.mem_cons_of_mem _ (List.mem_cons_of_mem _ (List.mem_cons_of_mem _ (List.mem_cons_self)))))))⟩
  · refine ⟨showso6, showsN6 hsf, fun o ho => ?_⟩
    have ho : o ∈ ([(false, shows_out)] : List (Bool × wE)) := ho
    simp only [List.mem_cons, List.not_mem_nil, or_false] at ho
    rcases ho with rfl
    · exact Or.inl (List.mem_cons_self)
  · refine ⟨showso8, showsN8 hsf, fun o ho => ?_⟩
    have ho : o ∈ ([(true, shows_cb2), (true, shows_fb2)] : List (Bool × wE)) := ho
    simp only [List.mem_cons, List.not_mem_nil, or_false] at ho
    rcases ho with rfl | rfl
    · exact Or.inr ⟨rfl, List.mem_cons_of_mem _ (List.mem_cons_of_mem _ (List.mem_cons_of_mem _ (List.mem_cons_of_mem _ (List.mem_cons_of_mem _ (List.mem_cons_of_mem _ (List.mem_cons_of_mem _ (List.mem_cons_of_mem _ (List.mem_cons_self))))))))⟩
    · exact Or.inr ⟨rfl, List.mem_cons_of_mem _ (List.mem_cons_of_mem _ (List.mem_cons_of_mem _ (List.mem_cons_of_mem _ (List.mem_cons_of_mem _ (List.mem_cons_of_mem _ (List.mem_cons_of_mem _ (List.mem_cons_of_mem _ (List.mem_cons_of_mem _ (List.mem_cons_self)))))))))⟩
  · refine ⟨showso5, showsN5 hsf, fun o ho => ?_⟩
    have ho : o ∈ ([(true, shows_fb1)] : List (Bool × wE)) := ho
    simp only [List.mem_cons, List.not_mem_nil, or_false] at ho
    rcases ho with rfl
    · exact Or.inr ⟨rfl, List.mem_cons_of_mem _ (List.mem_cons_of_mem _ (List.mem_cons_of_mem _ (List.mem_cons_of_mem _ (List.mem_cons_of_mem _ (List.mem_cons_self)))))⟩
  · refine ⟨showso7, showsN7 hsf, fun o ho => ?_⟩
    have ho : o ∈ ([(true, shows_cb2_out)] : List (Bool × wE)) := ho
    simp only [List.mem_cons, List.not_mem_nil, or_false] at ho
    rcases ho with rfl
    · exact Or.inr ⟨rfl, List.mem_cons_of_mem _ (List.mem_cons_of_mem _ (List.mem_cons_of_mem _ (List.mem_cons_of_mem _ (List.mem_cons_of_mem _ (List.mem_cons_of_mem _ (List.mem_cons_of_mem _ (List.mem_cons_of_mem _ (List.mem_cons_of_mem _ (List.mem_cons_of_mem _ (List.mem_cons_self))))))))))⟩
  · refine ⟨showso10, showsN10 hsf, fun o ho => ?_⟩
    have ho : o ∈ ([(false, shows_out)] : List (Bool × wE)) := ho
    simp only [List.mem_cons, List.not_mem_nil, or_false] at ho
    rcases ho with rfl
    · exact Or.inl (List.mem_cons_self)
  · refine ⟨showso9, showsN9 hsf, fun o ho => ?_⟩
    have ho : o ∈ ([(true, shows_fb2)] : List (Bool × wE)) := ho
    simp only [List.mem_cons, List.not_mem_nil, or_false] at ho
    rcases ho with rfl
    · exact Or.inr ⟨rfl, List.mem_cons_of_mem _ (List.mem_cons_of_mem _ (List.mem_cons_of_mem _ (List.mem_cons_of_mem _ (List.mem_cons_of_mem _ (List.mem_cons_of_mem _ (List.mem_cons_of_mem _ (List.mem_cons_of_mem _ (List.mem_cons_of_mem _ (List.mem_cons_self)))))))))⟩)
theorem showsH {xs : Nat → Int32} {n : Nat} {sf : Option Nat} (hsf : sf = none ∨ sf = some 1200000) : wGoes x_KT x_tb x_tyl (x_otS xs n sf) lwFS lwGA.length lwGB.length 5 24 42 showsWA showsWB 135 247 63 62 shows_in (showsOX.map (fun x => x.1)) :=
  wFSr (FS := lwFR) (nh := 29) (wFam (V := []) lwFRok (by decide +kernel) (by decide +kernel) (shows_g0_G hsf shows_in List.mem_cons_self) (by decide) (by decide) (fun i hi u hu => by
  have hi : i ∈ ([] : List Nat) := hi
  simp only [List.mem_cons, List.not_mem_nil, or_false] at hi)) lwFRp (by decide) (by decide +kernel)
theorem showsPP {xs : Nat → Int32} {n : Nat} {sf : Option Nat} (hsf : sf = none ∨ sf = some 1200000) : bPP x_KT x_tb x_tyl (x_otS xs n sf) lwN lwP 1299 135 247 2 (mMc xm135 + mMc xm247) (mRc xm135) (mRc xm247) False :=
  wBlkN lwFok lwFB uKa uKb (by decide +kernel) (by decide +kernel) uKdj uKj showsbc (showsH hsf) gq135 gq247 (by decide) (by decide) (uKeep (by decide +kernel)) (by decide +kernel) (by decide +kernel) (by decide +kernel)
theorem chbcN0 {xs : Nat → Int32} {n : Nat} {sf : Option Nat} (hsf : sf = none ∨ sf = some 1200000) : wGoes x_KT x_tb x_tyl (x_otS xs n sf) lwFR lwGA.length lwGB.length 25 24 43 chbcWA chbcWB 113 243 60 60 chbc_in chbco0 :=
  wDp (wWk (wFamE2 (V := [2]) (x_ov0_le sf) (u_ctKS2 hsf) lwFRok chbcE0 (by decide) (by decide) (fun i hi u hu => by
      have hi : i ∈ ([2] : List Nat) := hi
      simp only [List.mem_cons, List.not_mem_nil, or_false] at hi
      rcases hi with rfl
      · cases hu
        exact wRkE_spec (x_ov0_le sf) (u_ctKS2 hsf) lwFRok chbcE0R2)) (Nat.le_refl _) (Nat.le_refl _) (Nat.le_refl _) (by decide +kernel) (by decide +kernel)) (by decide) (by decide)
def chbc_g0_nd : List wE := [chbc_in]
theorem chbc_g0_G {xs : Nat → Int32} {n : Nat} {sf : Option Nat} (hsf : sf = none ∨ sf = some 1200000) : ∀ nd ∈ chbc_g0_nd, wGoes x_KT x_tb x_tyl (x_otS xs n sf) lwFR lwGA.length lwGB.length 25 24 43 chbcWA chbcWB 113 243 60 60 nd (chbc_g0_ex.map (fun x => (false, x))) := wGraph (fun nd hnd => by
  have hnd : nd ∈ ([chbc_in] : List wE) := hnd
  simp only [List.mem_cons, List.not_mem_nil, or_false] at hnd
  rcases hnd with rfl
  · refine ⟨chbco0, chbcN0 hsf, fun o ho => ?_⟩
    have ho : o ∈ ([(false, chbc_out)] : List (Bool × wE)) := ho
    simp only [List.mem_cons, List.not_mem_nil, or_false] at ho
    rcases ho with rfl
    · exact Or.inl (List.mem_cons_self))
theorem isbcN0 {xs : Nat → Int32} {n : Nat} {sf : Option Nat} (hsf : sf = none ∨ sf = some 1200000) : wGoes x_KT x_tb x_tyl (x_otS xs n sf) lwFR lwGA.length lwGB.length 13 24 43 isbcWA isbcWB 113 248 60 61 isbc_c isbco0 :=
  wDp (wWk (wEqvB (wCallB (recv := 0) (pc := 27) (ix := 395) (nx := 3) (args := [.inl (lSy 25), .inl (lSy 26), .inl (lSy 27), .inl (lSy 28), .inl (lSy 29), .inl (lSy 30)]) (rest := []) (LE := [(0, .inr (some 0)), (1, .inl (lSy 13)), (2, .inl (lSy 14))]) (cE := (lK 0)) (sE := (lK 0)) (wReL (XA := isbcX0.2.1) (XB := isbcX0.2.2.1) (XC := isbcX0.2.2.2.1) (rk := isbcX0.2.2.2.2) (rA := isbcQA0) (rB := isbcQB0) (chbc_g0_G hsf _ List.mem_cons_self) isbcL0) gq248 gq243 (by decide +kernel) (by decide +kernel) (by decide +kernel) (by decide +kernel) (by decide +kernel)) (by decide +kernel) (by decide +kernel)) (by decide) (by decide) (by decide) (by decide +kernel) (by decide +kernel)) (by decide) (by decide)
theorem isbcN1 {xs : Nat → Int32} {n : Nat} {sf : Option Nat} (hsf : sf = none ∨ sf = some 1200000) : wGoes x_KT x_tb x_tyl (x_otS xs n sf) lwFR lwGA.length lwGB.length 13 24 43 isbcWA isbcWB 113 248 60 61 isbc_in isbco1 :=
  wDp (wWk (wEd_spec (x_ov0_le sf) u_ctS lwFRok isbcE1) (Nat.le_refl _) (Nat.le_refl _) (Nat.le_refl _) (by decide +kernel) (by decide +kernel)) (by decide) (by decide)
theorem isbcN2 {xs : Nat → Int32} {n : Nat} {sf : Option Nat} (hsf : sf = none ∨ sf = some 1200000) : wGoes x_KT x_tb x_tyl (x_otS xs n sf) lwFR lwGA.length lwGB.length 13 24 43 isbcWA isbcWB 113 248 60 61 isbc_c_out isbco2 :=
  wDp (wWk (wEd_spec (x_ov0_le sf) u_ctS lwFRok isbcE2) (Nat.le_refl _) (Nat.le_refl _) (Nat.le_refl _) (by decide +kernel) (by decide +kernel)) (by decide) (by decide)
theorem u_ctKS3 {xs : Nat → Int32} {n : Nat} {sf : Option Nat} (hsf : sf = none ∨ sf = some 1200000) : ∀ j c, c ∈ u_ctK3 j → vCtSem x_KT x_tb x_tyl (x_otS xs n sf) j c := fun j c h => by
  unfold u_ctK3 at h
  cases hb : (Nat.beq j 138 || Nat.beq j 139) with
  | true =>
    rw [hb] at h
    exact x_allS xs n hsf j c h
  | false =>
    rw [hb] at h
    exact absurd h List.not_mem_nil
set_option maxRecDepth 1000000 in
theorem gq137 : tMth x_tb 137 = some xm137 := rfl
set_option maxRecDepth 1000000 in
theorem gq249 : tMth x_tb 249 = some xm249 := rfl
theorem coverN0 {xs : Nat → Int32} {n : Nat} {sf : Option Nat} (hsf : sf = none ∨ sf = some 1200000) : wGoes x_KT x_tb x_tyl (x_otS xs n sf) lwFR lwGA.length lwGB.length 5 24 42 coverWA coverWB 137 249 63 62 cover_in covero0 :=
  wDp (wWk (wEd_spec (x_ov0_le sf) (u_ctKS3 hsf) lwFRok coverE0) (Nat.le_refl _) (Nat.le_refl _) (Nat.le_refl _) (by decide +kernel) (by decide +kernel)) (by decide) (by decide)
theorem coverN1 {xs : Nat → Int32} {n : Nat} {sf : Option Nat} (hsf : sf = none ∨ sf = some 1200000) : wGoes x_KT x_tb x_tyl (x_otS xs n sf) lwFR lwGA.length lwGB.length 5 24 42 coverWA coverWB 137 249 63 62 cover_lo covero1 :=
  wDp (wWk (wEd_spec (x_ov0_le sf) (u_ctKS3 hsf) lwFRok coverE1) (Nat.le_refl _) (Nat.le_refl _) (Nat.le_refl _) (by decide +kernel) (by decide +kernel)) (by decide) (by decide)
theorem coverN2 {xs : Nat → Int32} {n : Nat} {sf : Option Nat} (hsf : sf = none ∨ sf = some 1200000) : wGoes x_KT x_tb x_tyl (x_otS xs n sf) lwFR lwGA.length lwGB.length 5 24 42 coverWA coverWB 137 249 63 62 cover_hi covero2 :=
  wDp (wWk (wEd_spec (x_ov0_le sf) (u_ctKS3 hsf) lwFRok coverE2) (Nat.le_refl _) (Nat.le_refl _) (Nat.le_refl _) (by decide +kernel) (by decide +kernel)) (by decide) (by decide)
theorem coverN3 {xs : Nat → Int32} {n : Nat} {sf : Option Nat} (hsf : sf = none ∨ sf = some 1200000) : wGoes x_KT x_tb x_tyl (x_otS xs n sf) lwFR lwGA.length lwGB.length 5 24 42 coverWA coverWB 137 249 63 62 cover_c13 covero3 :=
  wDp (wWk (wEd_spec (x_ov0_le sf) (u_ctKS3 hsf) lwFRok coverE3) (Nat.le_refl _) (Nat.le_refl _) (Nat.le_refl _) (by decide +kernel) (by decide +kernel)) (by decide) (by decide)
theorem coverN4 {xs : Nat → Int32} {n : Nat} {sf : Option Nat} (hsf : sf = none ∨ sf = some 1200000) : wGoes x_KT x_tb x_tyl (x_otS xs n sf) lwFR lwGA.length lwGB.length 5 24 42 coverWA coverWB 137 249 63 62 cover_c covero4 :=
  wDp (wWk (wEqvB (wCallA (recv := 0) (pc := 46) (ix := 355) (nx := 3) (args := [.inl (lSy 13), .inl (lSy 14)]) (rest := [.inl (lSy 7)]) (LE := [(0, .inr (some 0)), (1, .inl (lSy 5)), (2, .inl (lSy 6)), (3, .inl (lSy 7)), (4, .inl (lSy 8))]) (cE := (lK 0)) (sE := (lK 0)) (wLift (dpB := 60) (pc := 0) (pcP := 43) (nx := 1) (LE := [(0, .inr (some 0)), (1, .inl (lSy 5))]) (SE := []) (cE := (lK 0)) (sE := (lK 0)) (wReL (XA := coverX4.2.1) (XB := coverX4.2.2.1) (XC := coverX4.2.2.2.1) (rk := coverX4.2.2.2.2) (rA := coverQA4) (rB := coverQB4) (ish_g0_G hsf _ List.mem_cons_self) coverL4) gq249 gq244 (by decide +kernel) (by decide +kernel) (by decide +kernel) (by decide +kernel)) gq137 gq136 (by decide +kernel) (by decide +kernel) (by decide +kernel) (by decide +kernel) (by decide +kernel)) (by decide +kernel) (by decide +kernel)) (by decide) (by decide) (by decide) (by decide +kernel) (by decide +kernel)) (by decide) (by decide)
theorem coverN5 {xs : Nat → Int32} {n : Nat} {sf : Option Nat} (hsf : sf = none ∨ sf = some 1200000) : wGoes x_KT x_tb x_tyl (x_otS xs n sf) lwFR lwGA.length lwGB.length 5 24 42 coverWA coverWB 137 249 63 62 cover_c29 covero5 :=
  wDp (wWk (wEd_spec (x_ov0_le sf) (u_ctKS3 hsf) lwFRok coverE5) (Nat.le_refl _) (Nat.le_refl _) (Nat.le_refl _) (by decide +kernel) (by decide +kernel)) (by decide) (by decide)
theorem coverN6 {xs : Nat → Int32} {n : Nat} {sf : Option Nat} (hsf : sf = none ∨ sf = some 1200000) : wGoes x_KT x_tb x_tyl (x_otS xs n sf) lwFR lwGA.length lwGB.length 5 24 42 coverWA coverWB 137 249 63 62 cover_c_out covero6 :=
  wDp (wWk (wEd_spec (x_ov0_le sf) (u_ctKS3 hsf) lwFRok coverE6) (Nat.le_refl _) (Nat.le_refl _) (Nat.le_refl _) (by decide +kernel) (by decide +kernel)) (by decide) (by decide)
theorem coverN7 {xs : Nat → Int32} {n : Nat} {sf : Option Nat} (hsf : sf = none ∨ sf = some 1200000) : wGoes x_KT x_tb x_tyl (x_otS xs n sf) lwFR lwGA.length lwGB.length 5 24 42 coverWA coverWB 137 249 63 62 cover_a2 covero7 :=
  wDp (wWk (wEd_spec (x_ov0_le sf) (u_ctKS3 hsf) lwFRok coverE7) (Nat.le_refl _) (Nat.le_refl _) (Nat.le_refl _) (by decide +kernel) (by decide +kernel)) (by decide) (by decide)
theorem coverN8 {xs : Nat → Int32} {n : Nat} {sf : Option Nat} (hsf : sf = none ∨ sf = some 1200000) : wGoes x_KT x_tb x_tyl (x_otS xs n sf) lwFR lwGA.length lwGB.length 5 24 42 coverWA coverWB 137 249 63 62 cover_b21 covero8 :=
  wDp (wWk (wEd_spec (x_ov0_le sf) (u_ctKS3 hsf) lwFRok coverE8) (Nat.le_refl _) (Nat.le_refl _) (Nat.le_refl _) (by decide +kernel) (by decide +kernel)) (by decide) (by decide)
def isbc_g0_nd : List wE := [isbc_in, isbc_c, isbc_c_out]
theorem isbc_g0_G {xs : Nat → Int32} {n : Nat} {sf : Option Nat} (hsf : sf = none ∨ sf = some 1200000) : ∀ nd ∈ isbc_g0_nd, wGoes x_KT x_tb x_tyl (x_otS xs n sf) lwFR lwGA.length lwGB.length 13 24 43 isbcWA isbcWB 113 248 60 61 nd (isbc_g0_ex.map (fun x => (false, x))) := wGraph (fun nd hnd => by
  have hnd : nd ∈ ([isbc_in, isbc_c, isbc_c_out] : List wE) := hnd
  simp only [List.mem_cons, List.not_mem_nil, or_false] at hnd
  rcases hnd with rfl | rfl | rfl
  · refine ⟨isbco1, isbcN1 hsf, fun o ho => ?_⟩
    have ho : o ∈ ([(true, isbc_c)] : List (Bool × wE)) := ho
    simp only [List.mem_cons, List.not_mem_nil, or_false] at ho
    rcases ho with rfl
    · exact Or.inr ⟨rfl, List.mem_cons_of_mem _ (List.mem_cons_self)⟩
  · refine ⟨isbco0, isbcN0 hsf, fun o ho => ?_⟩
    have ho : o ∈ ([(true, isbc_c_out)] : List (Bool × wE)) := ho
    simp only [List.mem_cons, List.not_mem_nil, or_false] at ho
    rcases ho with rfl
    · exact Or.inr ⟨rfl, List.mem_cons_of_mem _ (List.mem_cons_of_mem _ (List.mem_cons_self))⟩
  · refine ⟨isbco2, isbcN2 hsf, fun o ho => ?_⟩
    have ho : o ∈ ([(false, isbc_out)] : List (Bool × wE)) := ho
    simp only [List.mem_cons, List.not_mem_nil, or_false] at ho
    rcases ho with rfl
    · exact Or.inl (List.mem_cons_self))
theorem coverN9 {xs : Nat → Int32} {n : Nat} {sf : Option Nat} (hsf : sf = none ∨ sf = some 1200000) : wGoes x_KT x_tb x_tyl (x_otS xs n sf) lwFR lwGA.length lwGB.length 5 24 42 coverWA coverWB 137 249 63 62 cover_c2 covero9 :=
  wDp (wWk (wEqvB (wCallB (recv := 0) (pc := 52) (ix := 405) (nx := 3) (args := [.inl (lSy 13), .inl (lSy 14)]) (rest := [.inl (lSy 10), .inl (lSy 8), .inr (some 42)]) (LE := [(0, .inr (some 0)), (1, .inl (lSy 6)), (2, .inr (some 42)), (3, .inl (lSy 7)), (4, .inl (lSy 8)), (5, .inl (lSy 9))]) (cE := (lK 1)) (sE := (lK 8)) (wLiftA (dpA := 60) (pc := 106) (pcP := 22) (nx := 1) (LE := []) (SE := [.inl (lSy 5)]) (cE := (lK 0)) (sE := (lK 0)) (wReL (XA := coverX9.2.1) (XB := coverX9.2.2.1) (XC := coverX9.2.2.2.1) (rk := coverX9.2.2.2.2) (rA := coverQA9) (rB := coverQB9) (isbc_g0_G hsf _ List.mem_cons_self) coverL9) gq137 gq113 (by decide +kernel) (by decide +kernel) (by decide +kernel) (by decide +kernel)) gq249 gq248 (by decide +kernel) (by decide +kernel) (by decide +kernel) (by decide +kernel) (by decide +kernel)) (by decide +kernel) (by decide +kernel)) (by decide) (by decide) (by decide) (by decide +kernel) (by decide +kernel)) (by decide) (by decide)
theorem coverN10 {xs : Nat → Int32} {n : Nat} {sf : Option Nat} (hsf : sf = none ∨ sf = some 1200000) : wGoes x_KT x_tb x_tyl (x_otS xs n sf) lwFR lwGA.length lwGB.length 5 24 42 coverWA coverWB 137 249 63 62 cover_b33 covero10 :=
  wDp (wWk (wEd_spec (x_ov0_le sf) (u_ctKS3 hsf) lwFRok coverE10) (Nat.le_refl _) (Nat.le_refl _) (Nat.le_refl _) (by decide +kernel) (by decide +kernel)) (by decide) (by decide)
theorem coverN11 {xs : Nat → Int32} {n : Nat} {sf : Option Nat} (hsf : sf = none ∨ sf = some 1200000) : wGoes x_KT x_tb x_tyl (x_otS xs n sf) lwFR lwGA.length lwGB.length 5 24 42 coverWA coverWB 137 249 63 62 cover_c2_out covero11 :=
  wDp (wWk (wEd_spec (x_ov0_le sf) (u_ctKS3 hsf) lwFRok coverE11) (Nat.le_refl _) (Nat.le_refl _) (Nat.le_refl _) (by decide +kernel) (by decide +kernel)) (by decide) (by decide)
theorem coverN12 {xs : Nat → Int32} {n : Nat} {sf : Option Nat} (hsf : sf = none ∨ sf = some 1200000) : wGoes x_KT x_tb x_tyl (x_otS xs n sf) lwFR lwGA.length lwGB.length 5 24 42 coverWA coverWB 137 249 63 62 cover_b100 covero12 :=
  wDp (wWk (wEd_spec (x_ov0_le sf) (u_ctKS3 hsf) lwFRok coverE12) (Nat.le_refl _) (Nat.le_refl _) (Nat.le_refl _) (by decide +kernel) (by decide +kernel)) (by decide) (by decide)
theorem coverN13 {xs : Nat → Int32} {n : Nat} {sf : Option Nat} (hsf : sf = none ∨ sf = some 1200000) : wGoes x_KT x_tb x_tyl (x_otS xs n sf) lwFR lwGA.length lwGB.length 5 24 42 coverWA coverWB 137 249 63 62 cover_b117 covero13 :=
  wDp (wWk (wEd_spec (x_ov0_le sf) (u_ctKS3 hsf) lwFRok coverE13) (Nat.le_refl _) (Nat.le_refl _) (Nat.le_refl _) (by decide +kernel) (by decide +kernel)) (by decide) (by decide)
theorem coverN14 {xs : Nat → Int32} {n : Nat} {sf : Option Nat} (hsf : sf = none ∨ sf = some 1200000) : wGoes x_KT x_tb x_tyl (x_otS xs n sf) lwFR lwGA.length lwGB.length 5 24 42 coverWA coverWB 137 249 63 62 cover_fb covero14 :=
  wDp (wWk (wEd_spec (x_ov0_le sf) (u_ctKS3 hsf) lwFRok coverE14) (Nat.le_refl _) (Nat.le_refl _) (Nat.le_refl _) (by decide +kernel) (by decide +kernel)) (by decide) (by decide)
def cover_g0_nd : List wE := [cover_in, cover_lo, cover_hi, cover_c13, cover_c29, cover_a2, cover_c, cover_b21, cover_c_out, cover_b33, cover_b100, cover_c2, cover_b117, cover_fb, cover_c2_out]
theorem cover_g0_G {xs : Nat → Int32} {n : Nat} {sf : Option Nat} (hsf : sf = none ∨ sf = some 1200000) : ∀ nd ∈ cover_g0_nd, wGoes x_KT x_tb x_tyl (x_otS xs n sf) lwFR lwGA.length lwGB.length 5 24 42 coverWA coverWB 137 249 63 62 nd (cover_g0_ex.map (fun x => (false, x))) := wGraph (fun nd hnd => by
  have hnd : nd ∈ ([cover_in, cover_lo, cover_hi, cover_c13, cover_c29, cover_a2, cover_c, cover_b21, cover_c_out, cover_b33, cover_b100, cover_c2, cover_b117, cover_fb, cover_c2_out] : List wE) := hnd
  simp only [List.mem_cons, List.not_mem_nil, or_false] at hnd
  rcases hnd with rfl | rfl | rfl | rfl | rfl | rfl | rfl | rfl | rfl | rfl | rfl | rfl | rfl | rfl | rfl
  · refine ⟨covero0, coverN0 hsf, fun o ho => ?_⟩
    have ho : o ∈ ([(true, cover_lo), (true, cover_hi), (true, cover_c13)] : List (Bool × wE)) := ho
    simp only [List.mem_cons, List.not_mem_nil, or_false] at ho
    rcases ho with rfl | rfl | rfl
    · exact Or.inr ⟨rfl, List.mem_cons_of_mem _ (List.mem_cons_self)⟩
    · exact Or.inr ⟨rfl, List.mem_cons_of_mem _ (List.mem_cons_of_mem _ (List.mem_cons_self))⟩
    · exact Or.inr ⟨rfl, List.mem_cons_of_mem _ (List.mem_cons_of_mem _ (List.mem_cons_of_mem _ (List.mem_cons_self)))⟩
  · refine ⟨covero1, coverN1 hsf, fun o ho => ?_⟩
    have ho : o ∈ ([(false, cover_out)] : List (Bool × wE)) := ho
    simp only [List.mem_cons, List.not_mem_nil, or_false] at ho
    rcases ho with rfl
    · exact Or.inl (List.mem_cons_self)
  · refine ⟨covero2, coverN2 hsf, fun o ho => ?_⟩
    have ho : o ∈ ([(false, cover_out)] : List (Bool × wE)) := ho
    simp only [List.mem_cons, List.not_mem_nil, or_false] at ho
    rcases ho with rfl
    · exact Or.inl (List.mem_cons_self)
  · refine ⟨covero3, coverN3 hsf, fun o ho => ?_⟩
    have ho : o ∈ ([(true, cover_c29), (true, cover_a2)] : List (Bool × wE)) := ho
    simp only [List.mem_cons, List.not_mem_nil, or_false] at ho
    rcases ho with rfl | rfl
    · exact Or.inr ⟨rfl, List.mem_cons_of_mem _ (List.mem_cons_of_mem _ (List.mem_cons_of_mem _ (List.mem_cons_of_mem _ (List.mem_cons_self))))⟩
    · exact Or.inr ⟨rfl, List.mem_cons_of_mem _ (List.mem_cons_of_mem _ (List.mem_cons_of_mem _ (List.mem_cons_of_mem _ (List.mem_cons_of_mem _ (List.mem_cons_self)))))⟩
  · refine ⟨covero5, coverN5 hsf, fun o ho => ?_⟩
    have ho : o ∈ ([(true, cover_c), (true, cover_c13)] : List (Bool × wE)) := ho
    simp only [List.mem_cons, List.not_mem_nil, or_false] at ho
    rcases ho with rfl | rfl
    · exact Or.inr ⟨rfl, List.mem_cons_of_mem _ (List.mem_cons_of_mem _ (List.mem_cons_of_mem _ (List.mem_cons_of_mem _ (List.mem_cons_of_mem _ (List.mem_cons_of_mem _ (List.mem_cons_self))))))⟩
    · exact Or.inr ⟨rfl, List.mem_cons_of_mem _ (List.mem_cons_of_mem _ (List.mem_cons_of_mem _ (List.mem_cons_self)))⟩
  · refine ⟨covero7, coverN7 hsf, fun o ho => ?_⟩
    have ho : o ∈ ([(true, cover_b21)] : List (Bool × wE)) := ho
    simp only [List.mem_cons, List.not_mem_nil, or_false] at ho
    rcases ho with rfl
    · exact Or.inr ⟨rfl, List.mem_cons_of_mem _ (List.mem_cons_of_mem _ (List.mem_cons_of_mem _ (List.mem_cons_of_mem _ (List.mem_cons_of_mem _ (List.mem_cons_of_mem _ (List.mem_cons_of_mem _ (List.mem_cons_self)))))))⟩
  · refine ⟨covero4, coverN4 hsf, fun o ho => ?_⟩
    have ho : o ∈ ([(true, cover_c_out)] : List (Bool × wE)) := ho
    simp only [List.mem_cons, List.not_mem_nil, or_false] at ho
    rcases ho with rfl
    · exact Or.inr ⟨rfl, List.mem_cons_of_mem _ (List.mem_cons_of_mem _ (List.mem_cons_of_mem _ (List.mem_cons_of_mem _ (List.mem_cons_of_mem _ (List.mem_cons_of_mem _ (List.mem_cons_of_mem _ (List.mem_cons_of_mem _ (List.mem_cons_self))))))))⟩
  · refine ⟨covero8, coverN8 hsf, fun o ho => ?_⟩
    have ho : o ∈ ([(true, cover_b33), (true, cover_b100)] : List (Bool × wE)) := ho
    simp only [List.mem_cons, List.not_mem_nil, or_false] at ho
    rcases ho with rfl | rfl
    · exact Or.inr ⟨rfl, List.mem_cons_of_mem _ (List.mem_cons_of_mem _ (List.mem_cons_of_mem _ (List.mem_cons_of_mem _ (List.mem_cons_of_mem _ (List.mem_cons_of_mem _ (List.mem_cons_of_mem _ (List.mem_cons_of_mem _ (List.mem_cons_of_mem _ (List.mem_cons_self)))))))))⟩
    · exact Or.inr ⟨rfl, List.mem_cons_of_mem _ (List.mem_cons_of_mem _ (List.mem_cons_of_mem _ (List.mem_cons_of_mem _ (List.mem_cons_of_mem _ (List.mem_cons_of_mem _ (List.mem_cons_of_mem _ (List.mem_cons_of_mem _ (List.mem_cons_of_mem _ (List.mem_cons_of_mem _ (List.mem_cons_self))))))))))⟩
  · refine ⟨covero6, coverN6 hsf, fun o ho => ?_⟩
    have ho : o ∈ ([(true, cover_c29)] : List (Bool × wE)) := ho
    simp only [List.mem_cons, List.not_mem_nil, or_false] at ho
    rcases ho with rfl
    · exact Or.inr ⟨rfl, List.mem_cons_of_mem _ (List.mem_cons_of_mem _ (List.mem_cons_of_mem _ (List.mem_cons_of_mem _ (List.mem_cons_self))))⟩
  · refine ⟨covero10, coverN10 hsf, fun o ho => ?_⟩
    have ho : o ∈ ([(true, cover_c2), (true, cover_b21)] : List (Bool × wE)) := ho
    simp only [List.mem_cons, List.not_mem_nil, or_false] at ho
    rcases ho with rfl | rfl
    · exact Or.inr ⟨rfl, List.mem_cons_of_mem _ (List.mem_cons_of_mem _ (List.mem_cons_of_mem _ (List.mem_cons_of_mem _ (List.mem_cons_of_mem _ (List.mem_cons_of_mem _ (List.mem_cons_of_mem _ (List.mem_cons_of_mem _ (List.mem_cons_of_mem _ (List.mem_cons_of_mem _ (List.mem_cons_of_mem _ (List.mem_cons_self)))))))))))⟩
    · exact Or.inr ⟨rfl, List.mem_cons_of_mem _ (List.mem_cons_of_mem _ (List.mem_cons_of_mem _ (List.mem_cons_of_mem _ (List.mem_cons_of_mem _ (List.mem_cons_of_mem _ (List.mem_cons_of_mem _ (List.mem_cons_self)))))))⟩
  · refine ⟨covero12, coverN12 hsf, fun o ho => ?_⟩
    have ho : o ∈ ([(true, cover_b117), (true, cover_fb)] : List (Bool × wE)) := ho
    simp only [List.mem_cons, List.not_mem_nil, or_false] at ho
    rcases ho with rfl | rfl
    · exact Or.inr ⟨rfl, List.mem_cons_of_mem _ (List.mem_cons_of_mem _ (List.mem_cons_of_mem _ (List.mem_cons_of_mem _ (List.mem_cons_of_mem _ (List.mem_cons_of_mem _ (List.mem_cons_of_mem _ (List.mem_cons_of_mem _ (List.mem_cons_of_mem _ (List.mem_cons_of_mem _ (List.mem_cons_of_mem _ (List.mem_cons_of_mem _ (List.mem_cons_self))))))))))))⟩
    · exact Or.inr ⟨rfl, List.mem_cons_of_mem _ (List.mem_cons_of_mem _ (List.mem_cons_of_mem _ (List.mem_cons_of_mem _ (List.mem_cons_of_mem _ (List.mem_cons_of_mem _ (List.mem_cons_of_mem _ (List.mem_cons_of_mem _ (List.mem_cons_of_mem _ (List.mem_cons_of_mem _ (List.mem_cons_of_mem _ (List.mem_cons_of_mem _ (List.mem_cons_of_mem _ (List.mem_cons_self)))))))))))))⟩
  · refine ⟨covero9, coverN9 hsf, fun o ho => ?_⟩
    have ho : o ∈ ([(true, cover_c2_out)] : List (Bool × wE)) := ho
    simp only [List.mem_cons, List.not_mem_nil, or_false] at ho
    rcases ho with rfl
    · exact Or.inr ⟨rfl, List.mem_cons_of_mem _ (List.mem_cons_of_mem _ (List.mem_cons_of_mem _ (List.mem_cons_of_mem _ (List.mem_cons_of_mem _ (List.mem_cons_of_mem _ (List.mem_cons_of_mem _ (List.mem_cons_of_mem _ (List.mem_cons_of_mem _ (List.mem_cons_of_mem _ (List.mem_cons_of_mem _ (List.mem_cons_of_mem _ (List.mem_cons_of_mem _ (List.mem_cons_of_mem _ (List.mem_cons_self))))))))))))))⟩
  · refine ⟨covero13, coverN13 hsf, fun o ho => ?_⟩
    have ho : o ∈ ([(true, cover_b117), (true, cover_b100)] : List (Bool × wE)) := ho
    simp only [List.mem_cons, List.not_mem_nil, or_false] at ho
    rcases ho with rfl | rfl
    · exact Or.inr ⟨rfl, List.mem_cons_of_mem _ (List.mem_cons_of_mem _ (List.mem_cons_of_mem _ (List.mem_cons_of_mem _ (List.mem_cons_of_mem _ (List.mem_cons_of_mem _ (List.mem_cons_of_mem _ (List.mem_cons_of_mem _ (List.mem_cons_of_mem _ (List.mem_cons_of_mem _ (List.mem_cons_of_mem _ (List.mem_cons_of_mem _ (List.mem_cons_self))))))))))))⟩
    · exact Or.inr ⟨rfl, List.mem_cons_of_mem _ (List.mem_cons_of_mem _ (List.mem_cons_of_mem _ (List.mem_cons_of_mem _ (List.mem_cons_of_mem _ (List.mem_cons_of_mem _ (List.mem_cons_of_mem _ (List.mem_cons_of_mem _ (List.mem_cons_of_mem _ (List.mem_cons_of_mem _ (List.mem_cons_self))))))))))⟩
  · refine ⟨covero14, coverN14 hsf, fun o ho => ?_⟩
    have ho : o ∈ ([(false, cover_out)] : List (Bool × wE)) := ho
    simp only [List.mem_cons, List.not_mem_nil, or_false] at ho
    rcases ho with rfl
    · exact Or.inl (List.mem_cons_self)
  · refine ⟨covero11, coverN11 hsf, fun o ho => ?_⟩
    have ho : o ∈ ([(true, cover_b33)] : List (Bool × wE)) := ho
    simp only [List.mem_cons, List.not_mem_nil, or_false] at ho
    rcases ho with rfl
    · exact Or.inr ⟨rfl, List.mem_cons_of_mem _ (List.mem_cons_of_mem _ (List.mem_cons_of_mem _ (List.mem_cons_of_mem _ (List.mem_cons_of_mem _ (List.mem_cons_of_mem _ (List.mem_cons_of_mem _ (List.mem_cons_of_mem _ (List.mem_cons_of_mem _ (List.mem_cons_self)))))))))⟩)
theorem coverH {xs : Nat → Int32} {n : Nat} {sf : Option Nat} (hsf : sf = none ∨ sf = some 1200000) : wGoes x_KT x_tb x_tyl (x_otS xs n sf) lwFS lwGA.length lwGB.length 5 24 42 coverWA coverWB 137 249 63 62 cover_in (coverOX.map (fun x => x.1)) :=
  wFSr (FS := lwFR) (nh := 29) (wFam (V := []) lwFRok (by decide +kernel) (by decide +kernel) (cover_g0_G hsf cover_in List.mem_cons_self) (by decide) (by decide) (fun i hi u hu => by
  have hi : i ∈ ([] : List Nat) := hi
  simp only [List.mem_cons, List.not_mem_nil, or_false] at hi)) lwFRp (by decide) (by decide +kernel)
theorem coverPP {xs : Nat → Int32} {n : Nat} {sf : Option Nat} (hsf : sf = none ∨ sf = some 1200000) : bPP x_KT x_tb x_tyl (x_otS xs n sf) lwN lwP 1299 137 249 1 (mMc xm137 + mMc xm249) (mRc xm137) (mRc xm249) False :=
  wBlkN lwFok lwFB uKa uKb (by decide +kernel) (by decide +kernel) uKdj uKj coverbc (coverH hsf) gq137 gq249 (by decide) (by decide) (uKeep (by decide +kernel)) (by decide +kernel) (by decide +kernel) (by decide +kernel)
theorem fin1tN0 {xs : Nat → Int32} {n : Nat} {sf : Option Nat} (hsf : sf = none ∨ sf = some 1200000) : wGoes x_KT x_tb x_tyl (x_otS xs n sf) lwFR lwGA.length lwGB.length 27 26 42 fin1tWA fin1tWB 116 244 60 60 fin1t_in fin1to0 :=
  wDp (wWk (wEd_spec (x_ov0_le sf) (u_ctKS0 hsf) lwFRok fin1tE0) (Nat.le_refl _) (Nat.le_refl _) (Nat.le_refl _) (by decide +kernel) (by decide +kernel)) (by decide) (by decide)
theorem fin1tN1 {xs : Nat → Int32} {n : Nat} {sf : Option Nat} (hsf : sf = none ∨ sf = some 1200000) : wGoes x_KT x_tb x_tyl (x_otS xs n sf) lwFR lwGA.length lwGB.length 27 26 42 fin1tWA fin1tWB 116 244 60 60 fin1t_lr fin1to1 :=
  wDp (wWk (wFamE2 (V := [5, 6, 7, 9, 10, 8]) (x_ov0_le sf) (u_ctKS0 hsf) lwFRok fin1tE1 (by decide) (by decide) (fun i hi u hu => by
      have hi : i ∈ ([5, 6, 7, 9, 10, 8] : List Nat) := hi
      simp only [List.mem_cons, List.not_mem_nil, or_false] at hi
      rcases hi with rfl | rfl | rfl | rfl | rfl | rfl
      · exact gRk_spec (x_ov0_le sf) (u_ctKS0 hsf) lwFRok fin1tE1 (by decide) (by decide) fin1tE1G0 (by decide +kernel) _ (List.mem_cons_self) u hu
      · exact gRk_spec (x_ov0_le sf) (u_ctKS0 hsf) lwFRok fin1tE1 (by decide) (by decide) fin1tE1G0 (by decide +kernel) _ (List.mem_cons_of_mem _ (List.mem_cons_self)) u hu
      · exact gRk_spec (x_ov0_le sf) (u_ctKS0 hsf) lwFRok fin1tE1 (by decide) (by decide) fin1tE1G0 (by decide +kernel) _ (List.mem_cons_of_mem _ (List.mem_cons_of_mem _ (List.mem_cons_self))) u hu
      · exact gRk_spec (x_ov0_le sf) (u_ctKS0 hsf) lwFRok fin1tE1 (by decide) (by decide) fin1tE1G0 (by decide +kernel) _ (List.mem_cons_of_mem _ (List.mem_cons_of_mem _ (List.mem_cons_of_mem _ (List.mem_cons_self)))) u hu
      · exact gRk_spec (x_ov0_le sf) (u_ctKS0 hsf) lwFRok fin1tE1 (by decide) (by decide) fin1tE1G0 (by decide +kernel) _ (List.mem_cons_of_mem _ (List.mem_cons_of_mem _ (List.mem_cons_of_mem _ (List.mem_cons_of_mem _ (List.mem_cons_self))))) u hu
      · exact gRk_spec (x_ov0_le sf) (u_ctKS0 hsf) lwFRok fin1tE1 (by decide) (by decide) fin1tE1G0 (by decide +kernel) _ (List.mem_cons_of_mem _ (List.mem_cons_of_mem _ (List.mem_cons_of_mem _ (List.mem_cons_of_mem _ (List.mem_cons_of_mem _ (List.mem_cons_self)))))) u hu)) (Nat.le_refl _) (Nat.le_refl _) (Nat.le_refl _) (by decide +kernel) (by decide +kernel)) (by decide) (by decide)
theorem fin1tN2 {xs : Nat → Int32} {n : Nat} {sf : Option Nat} (hsf : sf = none ∨ sf = some 1200000) : wGoes x_KT x_tb x_tyl (x_otS xs n sf) lwFR lwGA.length lwGB.length 27 26 42 fin1tWA fin1tWB 116 244 60 60 fin1t_lo fin1to2 :=
  wDp (wWk (wEd_spec (x_ov0_le sf) (u_ctKS0 hsf) lwFRok fin1tE2) (Nat.le_refl _) (Nat.le_refl _) (Nat.le_refl _) (by decide +kernel) (by decide +kernel)) (by decide) (by decide)
set_option maxRecDepth 1000000 in
theorem gq141 : tMth x_tb 141 = some xm141 := rfl
def fin1t_g0_nd : List wE := [fin1t_in, fin1t_lr, fin1t_lo]
theorem fin1t_g0_G {xs : Nat → Int32} {n : Nat} {sf : Option Nat} (hsf : sf = none ∨ sf = some 1200000) : ∀ nd ∈ fin1t_g0_nd, wGoes x_KT x_tb x_tyl (x_otS xs n sf) lwFR lwGA.length lwGB.length 27 26 42 fin1tWA fin1tWB 116 244 60 60 nd (fin1t_g0_ex.map (fun x => (false, x))) := wGraph (fun nd hnd => by
  have hnd : nd ∈ ([fin1t_in, fin1t_lr, fin1t_lo] : List wE) := hnd
  simp only [List.mem_cons, List.not_mem_nil, or_false] at hnd
  rcases hnd with rfl | rfl | rfl
  · refine ⟨fin1to0, fin1tN0 hsf, fun o ho => ?_⟩
    have ho : o ∈ ([(true, fin1t_lr), (true, fin1t_lo)] : List (Bool × wE)) := ho
    simp only [List.mem_cons, List.not_mem_nil, or_false] at ho
    rcases ho with rfl | rfl
    · exact Or.inr ⟨rfl, List.mem_cons_of_mem _ (List.mem_cons_self)⟩
    · exact Or.inr ⟨rfl, List.mem_cons_of_mem _ (List.mem_cons_of_mem _ (List.mem_cons_self))⟩
  · refine ⟨fin1to1, fin1tN1 hsf, fun o ho => ?_⟩
    have ho : o ∈ ([(true, fin1t_lr), (true, fin1t_lo), (false, fin1t_out)] : List (Bool × wE)) := ho
    simp only [List.mem_cons, List.not_mem_nil, or_false] at ho
    rcases ho with rfl | rfl | rfl
    · exact Or.inr ⟨rfl, List.mem_cons_of_mem _ (List.mem_cons_self)⟩
    · exact Or.inr ⟨rfl, List.mem_cons_of_mem _ (List.mem_cons_of_mem _ (List.mem_cons_self))⟩
    · exact Or.inl (List.mem_cons_self)
  · refine ⟨fin1to2, fin1tN2 hsf, fun o ho => ?_⟩
    have ho : o ∈ ([(false, fin1t_out)] : List (Bool × wE)) := ho
    simp only [List.mem_cons, List.not_mem_nil, or_false] at ho
    rcases ho with rfl
    · exact Or.inl (List.mem_cons_self))
theorem rtN0 {xs : Nat → Int32} {n : Nat} {sf : Option Nat} (hsf : sf = none ∨ sf = some 1200000) : wGoes x_KT x_tb x_tyl (x_otS xs n sf) lwFR lwGA.length lwGB.length 11 24 42 rtWA rtWB 141 244 61 60 rt_c rto0 :=
  wDp (wWk (wEqvB (wCallA (recv := 8) (pc := 76) (ix := 320) (nx := 3) (args := []) (rest := [.inr (some 24)]) (LE := [(0, .inr (some 0)), (1, .inl (lSy 11)), (2, .inl (lSy 12)), (3, .inl (lSy 24)), (4, .inr (some 24))]) (cE := (lK 0)) (sE := (lK 0)) (wReL (XA := rtX0.2.1) (XB := rtX0.2.2.1) (XC := rtX0.2.2.2.1) (rk := rtX0.2.2.2.2) (rA := rtQA0) (rB := rtQB0) (fin1t_g0_G hsf _ List.mem_cons_self) rtL0) gq141 gq116 (by decide +kernel) (by decide +kernel) (by decide +kernel) (by decide +kernel) (by decide +kernel)) (by decide +kernel) (by decide +kernel)) (by decide) (by decide) (by decide) (by decide +kernel) (by decide +kernel)) (by decide) (by decide)
theorem rtN1 {xs : Nat → Int32} {n : Nat} {sf : Option Nat} (hsf : sf = none ∨ sf = some 1200000) : wGoes x_KT x_tb x_tyl (x_otS xs n sf) lwFR lwGA.length lwGB.length 11 24 42 rtWA rtWB 141 244 61 60 rt_in rto1 :=
  wDp (wWk (wEd_spec (x_ov0_le sf) u_ctS lwFRok rtE1) (Nat.le_refl _) (Nat.le_refl _) (Nat.le_refl _) (by decide +kernel) (by decide +kernel)) (by decide) (by decide)
theorem rtN2 {xs : Nat → Int32} {n : Nat} {sf : Option Nat} (hsf : sf = none ∨ sf = some 1200000) : wGoes x_KT x_tb x_tyl (x_otS xs n sf) lwFR lwGA.length lwGB.length 11 24 42 rtWA rtWB 141 244 61 60 rt_lp rto2 :=
  wDp (wWk (wFamE2 (V := [5, 6, 7, 9, 10, 8]) (x_ov0_le sf) u_ctS lwFRok rtE2 (by decide) (by decide) (fun i hi u hu => by
      have hi : i ∈ ([5, 6, 7, 9, 10, 8] : List Nat) := hi
      simp only [List.mem_cons, List.not_mem_nil, or_false] at hi
      rcases hi with rfl | rfl | rfl | rfl | rfl | rfl
      · exact gRk_spec (x_ov0_le sf) u_ctS lwFRok rtE2 (by decide) (by decide) rtE2G0 (by decide +kernel) _ (List.mem_cons_self) u hu
      · exact gRk_spec (x_ov0_le sf) u_ctS lwFRok rtE2 (by decide) (by decide) rtE2G0 (by decide +kernel) _ (List.mem_cons_of_mem _ (List.mem_cons_self)) u hu
      · exact gRk_spec (x_ov0_le sf) u_ctS lwFRok rtE2 (by decide) (by decide) rtE2G0 (by decide +kernel) _ (List.mem_cons_of_mem _ (List.mem_cons_of_mem _ (List.mem_cons_self))) u hu
      · exact gRk_spec (x_ov0_le sf) u_ctS lwFRok rtE2 (by decide) (by decide) rtE2G0 (by decide +kernel) _ (List.mem_cons_of_mem _ (List.mem_cons_of_mem _ (List.mem_cons_of_mem _ (List.mem_cons_self)))) u hu
      · exact gRk_spec (x_ov0_le sf) u_ctS lwFRok rtE2 (by decide) (by decide) rtE2G0 (by decide +kernel) _ (List.mem_cons_of_mem _ (List.mem_cons_of_mem _ (List.mem_cons_of_mem _ (List.mem_cons_of_mem _ (List.mem_cons_self))))) u hu
      · exact gRk_spec (x_ov0_le sf) u_ctS lwFRok rtE2 (by decide) (by decide) rtE2G0 (by decide +kernel) _ (List.mem_cons_of_mem _ (List.mem_cons_of_mem _ (List.mem_cons_of_mem _ (List.mem_cons_of_mem _ (List.mem_cons_of_mem _ (List.mem_cons_self)))))) u hu)) (Nat.le_refl _) (Nat.le_refl _) (Nat.le_refl _) (by decide +kernel) (by decide +kernel)) (by decide) (by decide)
theorem rtN3 {xs : Nat → Int32} {n : Nat} {sf : Option Nat} (hsf : sf = none ∨ sf = some 1200000) : wGoes x_KT x_tb x_tyl (x_otS xs n sf) lwFR lwGA.length lwGB.length 11 24 42 rtWA rtWB 141 244 61 60 rt_c_out rto3 :=
  wDp (wWk (wEd_spec (x_ov0_le sf) u_ctS lwFRok rtE3) (Nat.le_refl _) (Nat.le_refl _) (Nat.le_refl _) (by decide +kernel) (by decide +kernel)) (by decide) (by decide)
theorem fin0tN0 {xs : Nat → Int32} {n : Nat} {sf : Option Nat} (hsf : sf = none ∨ sf = some 1200000) : wGoes x_KT x_tb x_tyl (x_otS xs n sf) lwFR lwGA.length lwGB.length 27 26 42 fin0tWA fin0tWB 116 244 60 60 fin0t_in fin0to0 :=
  wDp (wWk (wEd_spec (x_ov0_le sf) (u_ctKS0 hsf) lwFRok fin0tE0) (Nat.le_refl _) (Nat.le_refl _) (Nat.le_refl _) (by decide +kernel) (by decide +kernel)) (by decide) (by decide)
theorem fin0tN1 {xs : Nat → Int32} {n : Nat} {sf : Option Nat} (hsf : sf = none ∨ sf = some 1200000) : wGoes x_KT x_tb x_tyl (x_otS xs n sf) lwFR lwGA.length lwGB.length 27 26 42 fin0tWA fin0tWB 116 244 60 60 fin0t_lr fin0to1 :=
  wDp (wWk (wFamE2 (V := [5, 6, 7, 9, 10, 8]) (x_ov0_le sf) (u_ctKS0 hsf) lwFRok fin0tE1 (by decide) (by decide) (fun i hi u hu => by
      have hi : i ∈ ([5, 6, 7, 9, 10, 8] : List Nat) := hi
      simp only [List.mem_cons, List.not_mem_nil, or_false] at hi
      rcases hi with rfl | rfl | rfl | rfl | rfl | rfl
      · exact gRk_spec (x_ov0_le sf) (u_ctKS0 hsf) lwFRok fin0tE1 (by decide) (by decide) fin0tE1G0 (by decide +kernel) _ (List.mem_cons_self) u hu
      · exact gRk_spec (x_ov0_le sf) (u_ctKS0 hsf) lwFRok fin0tE1 (by decide) (by decide) fin0tE1G0 (by decide +kernel) _ (List.mem_cons_of_mem _ (List.mem_cons_self)) u hu
      · exact gRk_spec (x_ov0_le sf) (u_ctKS0 hsf) lwFRok fin0tE1 (by decide) (by decide) fin0tE1G0 (by decide +kernel) _ (List.mem_cons_of_mem _ (List.mem_cons_of_mem _ (List.mem_cons_self))) u hu
      · exact gRk_spec (x_ov0_le sf) (u_ctKS0 hsf) lwFRok fin0tE1 (by decide) (by decide) fin0tE1G0 (by decide +kernel) _ (List.mem_cons_of_mem _ (List.mem_cons_of_mem _ (List.mem_cons_of_mem _ (List.mem_cons_self)))) u hu
      · exact gRk_spec (x_ov0_le sf) (u_ctKS0 hsf) lwFRok fin0tE1 (by decide) (by decide) fin0tE1G0 (by decide +kernel) _ (List.mem_cons_of_mem _ (List.mem_cons_of_mem _ (List.mem_cons_of_mem _ (List.mem_cons_of_mem _ (List.mem_cons_self))))) u hu
      · exact gRk_spec (x_ov0_le sf) (u_ctKS0 hsf) lwFRok fin0tE1 (by decide) (by decide) fin0tE1G0 (by decide +kernel) _ (List.mem_cons_of_mem _ (List.mem_cons_of_mem _ (List.mem_cons_of_mem _ (List.mem_cons_of_mem _ (List.mem_cons_of_mem _ (List.mem_cons_self)))))) u hu)) (Nat.le_refl _) (Nat.le_refl _) (Nat.le_refl _) (by decide +kernel) (by decide +kernel)) (by decide) (by decide)
theorem fin0tN2 {xs : Nat → Int32} {n : Nat} {sf : Option Nat} (hsf : sf = none ∨ sf = some 1200000) : wGoes x_KT x_tb x_tyl (x_otS xs n sf) lwFR lwGA.length lwGB.length 27 26 42 fin0tWA fin0tWB 116 244 60 60 fin0t_lo fin0to2 :=
  wDp (wWk (wEd_spec (x_ov0_le sf) (u_ctKS0 hsf) lwFRok fin0tE2) (Nat.le_refl _) (Nat.le_refl _) (Nat.le_refl _) (by decide +kernel) (by decide +kernel)) (by decide) (by decide)
set_option maxRecDepth 1000000 in
theorem gq144 : tMth x_tb 144 = some xm144 := rfl
def fin0t_g0_nd : List wE := [fin0t_in, fin0t_lr, fin0t_lo]
theorem fin0t_g0_G {xs : Nat → Int32} {n : Nat} {sf : Option Nat} (hsf : sf = none ∨ sf = some 1200000) : ∀ nd ∈ fin0t_g0_nd, wGoes x_KT x_tb x_tyl (x_otS xs n sf) lwFR lwGA.length lwGB.length 27 26 42 fin0tWA fin0tWB 116 244 60 60 nd (fin0t_g0_ex.map (fun x => (false, x))) := wGraph (fun nd hnd => by
  have hnd : nd ∈ ([fin0t_in, fin0t_lr, fin0t_lo] : List wE) := hnd
  simp only [List.mem_cons, List.not_mem_nil, or_false] at hnd
  rcases hnd with rfl | rfl | rfl
  · refine ⟨fin0to0, fin0tN0 hsf, fun o ho => ?_⟩
    have ho : o ∈ ([(true, fin0t_lr), (true, fin0t_lo)] : List (Bool × wE)) := ho
    simp only [List.mem_cons, List.not_mem_nil, or_false] at ho
    rcases ho with rfl | rfl
    · exact Or.inr ⟨rfl, List.mem_cons_of_mem _ (List.mem_cons_self)⟩
    · exact Or.inr ⟨rfl, List.mem_cons_of_mem _ (List.mem_cons_of_mem _ (List.mem_cons_self))⟩
  · refine ⟨fin0to1, fin0tN1 hsf, fun o ho => ?_⟩
    have ho : o ∈ ([(true, fin0t_lr), (true, fin0t_lo), (false, fin0t_out)] : List (Bool × wE)) := ho
    simp only [List.mem_cons, List.not_mem_nil, or_false] at ho
    rcases ho with rfl | rfl | rfl
    · exact Or.inr ⟨rfl, List.mem_cons_of_mem _ (List.mem_cons_self)⟩
    · exact Or.inr ⟨rfl, List.mem_cons_of_mem _ (List.mem_cons_of_mem _ (List.mem_cons_self))⟩
    · exact Or.inl (List.mem_cons_self)
  · refine ⟨fin0to2, fin0tN2 hsf, fun o ho => ?_⟩
    have ho : o ∈ ([(false, fin0t_out)] : List (Bool × wE)) := ho
    simp only [List.mem_cons, List.not_mem_nil, or_false] at ho
    rcases ho with rfl
    · exact Or.inl (List.mem_cons_self))
theorem rhN0 {xs : Nat → Int32} {n : Nat} {sf : Option Nat} (hsf : sf = none ∨ sf = some 1200000) : wGoes x_KT x_tb x_tyl (x_otS xs n sf) lwFR lwGA.length lwGB.length 16 24 42 rhWA rhWB 144 244 61 60 rh_c rho0 :=
  wDp (wWk (wEqvB (wCallA (recv := 4) (pc := 112) (ix := 320) (nx := 3) (args := []) (rest := []) (LE := [(0, .inr (some 0)), (1, .inl (lSy 16)), (2, .inl (lSy 17)), (3, .inl (lSy 18)), (4, .inl (lSy 19)), (5, .inl (lSy 24)), (6, .inr (some 24))]) (cE := (lK 0)) (sE := (lK 0)) (wReL (XA := rhX0.2.1) (XB := rhX0.2.2.1) (XC := rhX0.2.2.2.1) (rk := rhX0.2.2.2.2) (rA := rhQA0) (rB := rhQB0) (fin0t_g0_G hsf _ List.mem_cons_self) rhL0) gq144 gq116 (by decide +kernel) (by decide +kernel) (by decide +kernel) (by decide +kernel) (by decide +kernel)) (by decide +kernel) (by decide +kernel)) (by decide) (by decide) (by decide) (by decide +kernel) (by decide +kernel)) (by decide) (by decide)
theorem rhN1 {xs : Nat → Int32} {n : Nat} {sf : Option Nat} (hsf : sf = none ∨ sf = some 1200000) : wGoes x_KT x_tb x_tyl (x_otS xs n sf) lwFR lwGA.length lwGB.length 16 24 42 rhWA rhWB 144 244 61 60 rh_in rho1 :=
  wDp (wWk (wEd_spec (x_ov0_le sf) (u_ctKS1 hsf) lwFRok rhE1) (Nat.le_refl _) (Nat.le_refl _) (Nat.le_refl _) (by decide +kernel) (by decide +kernel)) (by decide) (by decide)
theorem rhN2 {xs : Nat → Int32} {n : Nat} {sf : Option Nat} (hsf : sf = none ∨ sf = some 1200000) : wGoes x_KT x_tb x_tyl (x_otS xs n sf) lwFR lwGA.length lwGB.length 16 24 42 rhWA rhWB 144 244 61 60 rh_lp rho2 :=
  wDp (wWk (wFamE2 (V := [5, 6, 7, 9, 10, 8]) (x_ov0_le sf) (u_ctKS1 hsf) lwFRok rhE2 (by decide) (by decide) (fun i hi u hu => by
      have hi : i ∈ ([5, 6, 7, 9, 10, 8] : List Nat) := hi
      simp only [List.mem_cons, List.not_mem_nil, or_false] at hi
      rcases hi with rfl | rfl | rfl | rfl | rfl | rfl
      · exact gRk_spec (x_ov0_le sf) (u_ctKS1 hsf) lwFRok rhE2 (by decide) (by decide) rhE2G0 (by decide +kernel) _ (List.mem_cons_self) u hu
      · exact gRk_spec (x_ov0_le sf) (u_ctKS1 hsf) lwFRok rhE2 (by decide) (by decide) rhE2G0 (by decide +kernel) _ (List.mem_cons_of_mem _ (List.mem_cons_self)) u hu
      · exact gRk_spec (x_ov0_le sf) (u_ctKS1 hsf) lwFRok rhE2 (by decide) (by decide) rhE2G1 (by decide +kernel) _ (List.mem_cons_self) u hu
      · exact gRk_spec (x_ov0_le sf) (u_ctKS1 hsf) lwFRok rhE2 (by decide) (by decide) rhE2G2 (by decide +kernel) _ (List.mem_cons_self) u hu
      · exact gRk_spec (x_ov0_le sf) (u_ctKS1 hsf) lwFRok rhE2 (by decide) (by decide) rhE2G2 (by decide +kernel) _ (List.mem_cons_of_mem _ (List.mem_cons_self)) u hu
      · exact gRk_spec (x_ov0_le sf) (u_ctKS1 hsf) lwFRok rhE2 (by decide) (by decide) rhE2G2 (by decide +kernel) _ (List.mem_cons_of_mem _ (List.mem_cons_of_mem _ (List.mem_cons_self))) u hu)) (Nat.le_refl _) (Nat.le_refl _) (Nat.le_refl _) (by decide +kernel) (by decide +kernel)) (by decide) (by decide)
theorem rhN3 {xs : Nat → Int32} {n : Nat} {sf : Option Nat} (hsf : sf = none ∨ sf = some 1200000) : wGoes x_KT x_tb x_tyl (x_otS xs n sf) lwFR lwGA.length lwGB.length 16 24 42 rhWA rhWB 144 244 61 60 rh_c_out rho3 :=
  wDp (wWk (wEd_spec (x_ov0_le sf) (u_ctKS1 hsf) lwFRok rhE3) (Nat.le_refl _) (Nat.le_refl _) (Nat.le_refl _) (by decide +kernel) (by decide +kernel)) (by decide) (by decide)
theorem u_ctKS4 {xs : Nat → Int32} {n : Nat} {sf : Option Nat} (hsf : sf = none ∨ sf = some 1200000) : ∀ j c, c ∈ u_ctK4 j → vCtSem x_KT x_tb x_tyl (x_otS xs n sf) j c := fun j c h => by
  unfold u_ctK4 at h
  cases hb : (Nat.beq j 145) with
  | true =>
    rw [hb] at h
    exact x_allS xs n hsf j c h
  | false =>
    rw [hb] at h
    exact absurd h List.not_mem_nil
set_option maxRecDepth 1000000 in
theorem gq143 : tMth x_tb 143 = some xm143 := rfl
def rh_g0_nd : List wE := [rh_in, rh_lp, rh_c, rh_c_out]
theorem rh_g0_G {xs : Nat → Int32} {n : Nat} {sf : Option Nat} (hsf : sf = none ∨ sf = some 1200000) : ∀ nd ∈ rh_g0_nd, wGoes x_KT x_tb x_tyl (x_otS xs n sf) lwFR lwGA.length lwGB.length 16 24 42 rhWA rhWB 144 244 61 60 nd (rh_g0_ex.map (fun x => (false, x))) := wGraph (fun nd hnd => by
  have hnd : nd ∈ ([rh_in, rh_lp, rh_c, rh_c_out] : List wE) := hnd
  simp only [List.mem_cons, List.not_mem_nil, or_false] at hnd
  rcases hnd with rfl | rfl | rfl | rfl
  · refine ⟨rho1, rhN1 hsf, fun o ho => ?_⟩
    have ho : o ∈ ([(true, rh_lp)] : List (Bool × wE)) := ho
    simp only [List.mem_cons, List.not_mem_nil, or_false] at ho
    rcases ho with rfl
    · exact Or.inr ⟨rfl, List.mem_cons_of_mem _ (List.mem_cons_self)⟩
  · refine ⟨rho2, rhN2 hsf, fun o ho => ?_⟩
    have ho : o ∈ ([(true, rh_c), (true, rh_lp), (false, rh_out)] : List (Bool × wE)) := ho
    simp only [List.mem_cons, List.not_mem_nil, or_false] at ho
    rcases ho with rfl | rfl | rfl
    · exact Or.inr ⟨rfl, List.mem_cons_of_mem _ (List.mem_cons_of_mem _ (List.mem_cons_self))⟩
    · exact Or.inr ⟨rfl, List.mem_cons_of_mem _ (List.mem_cons_self)⟩
    · exact Or.inl (List.mem_cons_self)
  · refine ⟨rho0, rhN0 hsf, fun o ho => ?_⟩
    have ho : o ∈ ([(true, rh_c_out)] : List (Bool × wE)) := ho
    simp only [List.mem_cons, List.not_mem_nil, or_false] at ho
    rcases ho with rfl
    · exact Or.inr ⟨rfl, List.mem_cons_of_mem _ (List.mem_cons_of_mem _ (List.mem_cons_of_mem _ (List.mem_cons_self)))⟩
  · refine ⟨rho3, rhN3 hsf, fun o ho => ?_⟩
    have ho : o ∈ ([(true, rh_lp)] : List (Bool × wE)) := ho
    simp only [List.mem_cons, List.not_mem_nil, or_false] at ho
    rcases ho with rfl
    · exact Or.inr ⟨rfl, List.mem_cons_of_mem _ (List.mem_cons_self)⟩)
theorem bmN0 {xs : Nat → Int32} {n : Nat} {sf : Option Nat} (hsf : sf = none ∨ sf = some 1200000) : wGoes x_KT x_tb x_tyl (x_otS xs n sf) lwFR lwGA.length lwGB.length 9 24 42 bmWA bmWB 143 244 62 60 bm_c0 bmo0 :=
  wDp (wWk (wEqvB (wCallA (recv := 0) (pc := 7) (ix := 380) (nx := 3) (args := [.inl (lSy 16), .inl (lSy 17), .inl (lSy 18)]) (rest := []) (LE := [(0, .inr (some 0)), (1, .inl (lSy 9)), (2, .inl (lSy 10)), (3, .inl (lSy 11)), (4, .inl (lK 0))]) (cE := (lK 0)) (sE := (lK 0)) (wReL (XA := bmX0.2.1) (XB := bmX0.2.2.1) (XC := bmX0.2.2.2.1) (rk := bmX0.2.2.2.2) (rA := bmQA0) (rB := bmQB0) (rh_g0_G hsf _ List.mem_cons_self) bmL0) gq143 gq144 (by decide +kernel) (by decide +kernel) (by decide +kernel) (by decide +kernel) (by decide +kernel)) (by decide +kernel) (by decide +kernel)) (by decide) (by decide) (by decide) (by decide +kernel) (by decide +kernel)) (by decide) (by decide)
theorem bmN1 {xs : Nat → Int32} {n : Nat} {sf : Option Nat} (hsf : sf = none ∨ sf = some 1200000) : wGoes x_KT x_tb x_tyl (x_otS xs n sf) lwFR lwGA.length lwGB.length 9 24 42 bmWA bmWB 143 244 62 60 bm_in bmo1 :=
  wDp (wWk (wEd_spec (x_ov0_le sf) (u_ctKS4 hsf) lwFRok bmE1) (Nat.le_refl _) (Nat.le_refl _) (Nat.le_refl _) (by decide +kernel) (by decide +kernel)) (by decide) (by decide)
theorem bmN2 {xs : Nat → Int32} {n : Nat} {sf : Option Nat} (hsf : sf = none ∨ sf = some 1200000) : wGoes x_KT x_tb x_tyl (x_otS xs n sf) lwFR lwGA.length lwGB.length 9 24 42 bmWA bmWB 143 244 62 60 bm_c0_out bmo2 :=
  wDp (wWk (wEd_spec (x_ov0_le sf) (u_ctKS4 hsf) lwFRok bmE2) (Nat.le_refl _) (Nat.le_refl _) (Nat.le_refl _) (by decide +kernel) (by decide +kernel)) (by decide) (by decide)
theorem bmN3 {xs : Nat → Int32} {n : Nat} {sf : Option Nat} (hsf : sf = none ∨ sf = some 1200000) : wGoes x_KT x_tb x_tyl (x_otS xs n sf) lwFR lwGA.length lwGB.length 9 24 42 bmWA bmWB 143 244 62 60 bm_c1 bmo3 :=
  wDp (wWk (wEqvB (wCallA (recv := 0) (pc := 51) (ix := 380) (nx := 3) (args := [.inl (lSy 16), .inl (lSy 17), .inl (lSy 18)]) (rest := []) (LE := [(0, .inr (some 0)), (1, .inl (lSy 9)), (2, .inl (lSy 10)), (3, .inl (lSy 11)), (4, .inl (lSy 12)), (5, .inl (lSy 13)), (6, .inl (lSy 14)), (7, .inl (lSy 15))]) (cE := (lK 0)) (sE := (lK 0)) (wReL (XA := bmX3.2.1) (XB := bmX3.2.2.1) (XC := bmX3.2.2.2.1) (rk := bmX3.2.2.2.2) (rA := bmQA3) (rB := bmQB3) (rh_g0_G hsf _ List.mem_cons_self) bmL3) gq143 gq144 (by decide +kernel) (by decide +kernel) (by decide +kernel) (by decide +kernel) (by decide +kernel)) (by decide +kernel) (by decide +kernel)) (by decide) (by decide) (by decide) (by decide +kernel) (by decide +kernel)) (by decide) (by decide)
theorem bmN4 {xs : Nat → Int32} {n : Nat} {sf : Option Nat} (hsf : sf = none ∨ sf = some 1200000) : wGoes x_KT x_tb x_tyl (x_otS xs n sf) lwFR lwGA.length lwGB.length 9 24 42 bmWA bmWB 143 244 62 60 bm_lp bmo4 :=
  wDp (wWk (wEd_spec (x_ov0_le sf) (u_ctKS4 hsf) lwFRok bmE4) (Nat.le_refl _) (Nat.le_refl _) (Nat.le_refl _) (by decide +kernel) (by decide +kernel)) (by decide) (by decide)
theorem bmN5 {xs : Nat → Int32} {n : Nat} {sf : Option Nat} (hsf : sf = none ∨ sf = some 1200000) : wGoes x_KT x_tb x_tyl (x_otS xs n sf) lwFR lwGA.length lwGB.length 9 24 42 bmWA bmWB 143 244 62 60 bm_c1_out bmo5 :=
  wDp (wWk (wEd_spec (x_ov0_le sf) (u_ctKS4 hsf) lwFRok bmE5) (Nat.le_refl _) (Nat.le_refl _) (Nat.le_refl _) (by decide +kernel) (by decide +kernel)) (by decide) (by decide)
theorem niN0 {xs : Nat → Int32} {n : Nat} {sf : Option Nat} (hsf : sf = none ∨ sf = some 1200000) : wGoes x_KT x_tb x_tyl (x_otS xs n sf) lwFR lwGA.length lwGB.length 25 24 42 niWA niWB 113 220 60 60 ni_in nio0 :=
  wDp (wWk (wEd_spec (x_ov0_le sf) (u_ctKS2 hsf) lwFRok niE0) (Nat.le_refl _) (Nat.le_refl _) (Nat.le_refl _) (by decide +kernel) (by decide +kernel)) (by decide) (by decide)
theorem niN1 {xs : Nat → Int32} {n : Nat} {sf : Option Nat} (hsf : sf = none ∨ sf = some 1200000) : wGoes x_KT x_tb x_tyl (x_otS xs n sf) lwFR lwGA.length lwGB.length 25 24 42 niWA niWB 113 220 60 60 ni_lp nio1 :=
  wDp (wWk (wFamE2 (V := [5, 6, 9, 10, 20]) (x_ov0_le sf) (u_ctKS2 hsf) lwFRok niE1 (by decide) (by decide) (fun i hi u hu => by
      have hi : i ∈ ([5, 6, 9, 10, 20] : List Nat) := hi
      simp only [List.mem_cons, List.not_mem_nil, or_false] at hi
      rcases hi with rfl | rfl | rfl | rfl | rfl
      · cases hu
        exact wRkE_spec (x_ov0_le sf) (u_ctKS2 hsf) lwFRok niE1R5
      · cases hu
        exact wRkE_spec (x_ov0_le sf) (u_ctKS2 hsf) lwFRok niE1R6
      · cases hu
        exact wRkE_spec (x_ov0_le sf) (u_ctKS2 hsf) lwFRok niE1R9
      · cases hu
        exact wRkE_spec (x_ov0_le sf) (u_ctKS2 hsf) lwFRok niE1R10
      · cases hu
        exact wRkE_spec (x_ov0_le sf) (u_ctKS2 hsf) lwFRok niE1R20)) (Nat.le_refl _) (Nat.le_refl _) (Nat.le_refl _) (by decide +kernel) (by decide +kernel)) (by decide) (by decide)
set_option maxRecDepth 1000000 in
theorem gq222 : tMth x_tb 222 = some xm222 := rfl
def ni_g0_nd : List wE := [ni_in, ni_lp]
theorem ni_g0_G {xs : Nat → Int32} {n : Nat} {sf : Option Nat} (hsf : sf = none ∨ sf = some 1200000) : ∀ nd ∈ ni_g0_nd, wGoes x_KT x_tb x_tyl (x_otS xs n sf) lwFR lwGA.length lwGB.length 25 24 42 niWA niWB 113 220 60 60 nd (ni_g0_ex.map (fun x => (false, x))) := wGraph (fun nd hnd => by
  have hnd : nd ∈ ([ni_in, ni_lp] : List wE) := hnd
  simp only [List.mem_cons, List.not_mem_nil, or_false] at hnd
  rcases hnd with rfl | rfl
  · refine ⟨nio0, niN0 hsf, fun o ho => ?_⟩
    have ho : o ∈ ([(true, ni_lp)] : List (Bool × wE)) := ho
    simp only [List.mem_cons, List.not_mem_nil, or_false] at ho
    rcases ho with rfl
    · exact Or.inr ⟨rfl, List.mem_cons_of_mem _ (List.mem_cons_self)⟩
  · refine ⟨nio1, niN1 hsf, fun o ho => ?_⟩
    have ho : o ∈ ([(true, ni_lp), (false, ni_out)] : List (Bool × wE)) := ho
    simp only [List.mem_cons, List.not_mem_nil, or_false] at ho
    rcases ho with rfl | rfl
    · exact Or.inr ⟨rfl, List.mem_cons_of_mem _ (List.mem_cons_self)⟩
    · exact Or.inl (List.mem_cons_self))
theorem trN0 {xs : Nat → Int32} {n : Nat} {sf : Option Nat} (hsf : sf = none ∨ sf = some 1200000) : wGoes x_KT x_tb x_tyl (x_otS xs n sf) lwFR lwGA.length lwGB.length 19 24 42 trWA trWB 113 222 60 61 tr_c tro0 :=
  wDp (wWk (wEqvB (wCallB (recv := 0) (pc := 141) (ix := 335) (nx := 3) (args := [.inl (lSy 25), .inl (lSy 26), .inl (lSy 27), .inl (lK 0)]) (rest := []) (LE := [(0, .inr (some 0)), (4, .inr (some 31)), (5, .inr (some 33)), (6, .inr (some 32)), (7, .inr (some 34))]) (cE := (lK 0)) (sE := (lK 0)) (wReL (XA := trX0.2.1) (XB := trX0.2.2.1) (XC := trX0.2.2.2.1) (rk := trX0.2.2.2.2) (rA := trQA0) (rB := trQB0) (ni_g0_G hsf _ List.mem_cons_self) trL0) gq222 gq220 (by decide +kernel) (by decide +kernel) (by decide +kernel) (by decide +kernel) (by decide +kernel)) (by decide +kernel) (by decide +kernel)) (by decide) (by decide) (by decide) (by decide +kernel) (by decide +kernel)) (by decide) (by decide)
theorem trN1 {xs : Nat → Int32} {n : Nat} {sf : Option Nat} (hsf : sf = none ∨ sf = some 1200000) : wGoes x_KT x_tb x_tyl (x_otS xs n sf) lwFR lwGA.length lwGB.length 19 24 42 trWA trWB 113 222 60 61 tr_in tro1 :=
  wDp (wWk (wEd_spec (x_ov0_le sf) u_ctS lwFRok trE1) (Nat.le_refl _) (Nat.le_refl _) (Nat.le_refl _) (by decide +kernel) (by decide +kernel)) (by decide) (by decide)
theorem trN2 {xs : Nat → Int32} {n : Nat} {sf : Option Nat} (hsf : sf = none ∨ sf = some 1200000) : wGoes x_KT x_tb x_tyl (x_otS xs n sf) lwFR lwGA.length lwGB.length 19 24 42 trWA trWB 113 222 60 61 tr_lp tro2 :=
  wDp (wWk (wFamE2 (V := [5, 6, 9, 10, 20]) (x_ov0_le sf) u_ctS lwFRok trE2 (by decide) (by decide) (fun i hi u hu => by
      have hi : i ∈ ([5, 6, 9, 10, 20] : List Nat) := hi
      simp only [List.mem_cons, List.not_mem_nil, or_false] at hi
      rcases hi with rfl | rfl | rfl | rfl | rfl
      · cases hu
        exact wRkE_spec (x_ov0_le sf) u_ctS lwFRok trE2R5
      · cases hu
        exact wRkE_spec (x_ov0_le sf) u_ctS lwFRok trE2R6
      · cases hu
        exact wRkE_spec (x_ov0_le sf) u_ctS lwFRok trE2R9
      · cases hu
        exact wRkE_spec (x_ov0_le sf) u_ctS lwFRok trE2R10
      · cases hu
        exact wRkE_spec (x_ov0_le sf) u_ctS lwFRok trE2R20)) (Nat.le_refl _) (Nat.le_refl _) (Nat.le_refl _) (by decide +kernel) (by decide +kernel)) (by decide) (by decide)
theorem trN3 {xs : Nat → Int32} {n : Nat} {sf : Option Nat} (hsf : sf = none ∨ sf = some 1200000) : wGoes x_KT x_tb x_tyl (x_otS xs n sf) lwFR lwGA.length lwGB.length 19 24 42 trWA trWB 113 222 60 61 tr_c_out tro3 :=
  wDp (wWk (wEd_spec (x_ov0_le sf) u_ctS lwFRok trE3) (Nat.le_refl _) (Nat.le_refl _) (Nat.le_refl _) (by decide +kernel) (by decide +kernel)) (by decide) (by decide)
set_option maxRecDepth 1000000 in
theorem gq223 : tMth x_tb 223 = some xm223 := rfl
theorem bfN0 {xs : Nat → Int32} {n : Nat} {sf : Option Nat} (hsf : sf = none ∨ sf = some 1200000) : wGoes x_KT x_tb x_tyl (x_otS xs n sf) lwFR lwGA.length lwGB.length 6 24 42 bfWA bfWB 113 223 60 62 bf_in bfo0 :=
  wDp (wWk (wEd_spec (x_ov0_le sf) u_ctS lwFRok bfE0) (Nat.le_refl _) (Nat.le_refl _) (Nat.le_refl _) (by decide +kernel) (by decide +kernel)) (by decide) (by decide)
theorem bfN1 {xs : Nat → Int32} {n : Nat} {sf : Option Nat} (hsf : sf = none ∨ sf = some 1200000) : wGoes x_KT x_tb x_tyl (x_otS xs n sf) lwFR lwGA.length lwGB.length 6 24 42 bfWA bfWB 113 223 60 62 bf_h0 bfo1 :=
  wDp (wWk (wEd_spec (x_ov0_le sf) u_ctS lwFRok bfE1) (Nat.le_refl _) (Nat.le_refl _) (Nat.le_refl _) (by decide +kernel) (by decide +kernel)) (by decide) (by decide)
theorem bfN2 {xs : Nat → Int32} {n : Nat} {sf : Option Nat} (hsf : sf = none ∨ sf = some 1200000) : wGoes x_KT x_tb x_tyl (x_otS xs n sf) lwFR lwGA.length lwGB.length 6 24 42 bfWA bfWB 113 223 60 62 bf_h1 bfo2 :=
  wDp (wWk (wEd_spec (x_ov0_le sf) u_ctS lwFRok bfE2) (Nat.le_refl _) (Nat.le_refl _) (Nat.le_refl _) (by decide +kernel) (by decide +kernel)) (by decide) (by decide)
def tr_g0_nd : List wE := [tr_in, tr_lp, tr_c, tr_c_out]
theorem tr_g0_G {xs : Nat → Int32} {n : Nat} {sf : Option Nat} (hsf : sf = none ∨ sf = some 1200000) : ∀ nd ∈ tr_g0_nd, wGoes x_KT x_tb x_tyl (x_otS xs n sf) lwFR lwGA.length lwGB.length 19 24 42 trWA trWB 113 222 60 61 nd (tr_g0_ex.map (fun x => (false, x))) := wGraph (fun nd hnd => by
  have hnd : nd ∈ ([tr_in, tr_lp, tr_c, tr_c_out] : List wE) := hnd
  simp only [List.mem_cons, List.not_mem_nil, or_false] at hnd
  rcases hnd with rfl | rfl | rfl | rfl
  · refine ⟨tro1, trN1 hsf, fun o ho => ?_⟩
    have ho : o ∈ ([(true, tr_lp)] : List (Bool × wE)) := ho
    simp only [List.mem_cons, List.not_mem_nil, or_false] at ho
    rcases ho with rfl
    · exact Or.inr ⟨rfl, List.mem_cons_of_mem _ (List.mem_cons_self)⟩
  · refine ⟨tro2, trN2 hsf, fun o ho => ?_⟩
    have ho : o ∈ ([(true, tr_lp), (true, tr_c)] : List (Bool × wE)) := ho
    simp only [List.mem_cons, List.not_mem_nil, or_false] at ho
    rcases ho with rfl | rfl
    · exact Or.inr ⟨rfl, List.mem_cons_of_mem _ (List.mem_cons_self)⟩
    · exact Or.inr ⟨rfl, List.mem_cons_of_mem _ (List.mem_cons_of_mem _ (List.mem_cons_self))⟩
  · refine ⟨tro0, trN0 hsf, fun o ho => ?_⟩
    have ho : o ∈ ([(true, tr_c_out)] : List (Bool × wE)) := ho
    simp only [List.mem_cons, List.not_mem_nil, or_false] at ho
    rcases ho with rfl
    · exact Or.inr ⟨rfl, List.mem_cons_of_mem _ (List.mem_cons_of_mem _ (List.mem_cons_of_mem _ (List.mem_cons_self)))⟩
  · refine ⟨tro3, trN3 hsf, fun o ho => ?_⟩
    have ho : o ∈ ([(false, tr_out)] : List (Bool × wE)) := ho
    simp only [List.mem_cons, List.not_mem_nil, or_false] at ho
    rcases ho with rfl
    · exact Or.inl (List.mem_cons_self))
theorem bfN3 {xs : Nat → Int32} {n : Nat} {sf : Option Nat} (hsf : sf = none ∨ sf = some 1200000) : wGoes x_KT x_tb x_tyl (x_otS xs n sf) lwFR lwGA.length lwGB.length 6 24 42 bfWA bfWB 113 223 60 62 bf_c0 bfo3 :=
  wDp (wWk (wEqvB (wCallB (recv := 0) (pc := 154) (ix := 339) (nx := 3) (args := [.inl (lSy 19), .inl (lSy 20), .inl (lSy 21)]) (rest := []) (LE := [(0, .inr (some 0)), (1, .inl (lSy 6)), (2, .inl (lSy 7)), (3, .inl (lSy 8)), (4, .inl (lSy 9)), (5, .inl (lSy 10)), (6, .inl (lSy 11)), (7, .inl (lSy 12)), (8, .inl (lK 0)), (9, .inl (lSy 13)), (10, .inl (lSy 14))]) (cE := (lK 0)) (sE := (lK 0)) (wReL (XA := bfX3.2.1) (XB := bfX3.2.2.1) (XC := bfX3.2.2.2.1) (rk := bfX3.2.2.2.2) (rA := bfQA3) (rB := bfQB3) (tr_g0_G hsf _ List.mem_cons_self) bfL3) gq223 gq222 (by decide +kernel) (by decide +kernel) (by decide +kernel) (by decide +kernel) (by decide +kernel)) (by decide +kernel) (by decide +kernel)) (by decide) (by decide) (by decide) (by decide +kernel) (by decide +kernel)) (by decide) (by decide)
theorem bfN4 {xs : Nat → Int32} {n : Nat} {sf : Option Nat} (hsf : sf = none ∨ sf = some 1200000) : wGoes x_KT x_tb x_tyl (x_otS xs n sf) lwFR lwGA.length lwGB.length 6 24 42 bfWA bfWB 113 223 60 62 bf_c1 bfo4 :=
  wDp (wWk (wEqvB (wCallB (recv := 0) (pc := 154) (ix := 339) (nx := 3) (args := [.inl (lSy 19), .inl (lSy 20), .inl (lSy 21)]) (rest := []) (LE := [(0, .inr (some 0)), (1, .inl (lSy 6)), (2, .inl (lSy 7)), (3, .inl (lSy 8)), (4, .inl (lSy 9)), (5, .inl (lSy 10)), (6, .inl (lSy 11)), (7, .inl (lSy 12)), (8, .inl (lK 1)), (9, .inl (lSy 13)), (10, .inl (lSy 14))]) (cE := (lK 0)) (sE := (lK 0)) (wReL (XA := bfX4.2.1) (XB := bfX4.2.2.1) (XC := bfX4.2.2.2.1) (rk := bfX4.2.2.2.2) (rA := bfQA4) (rB := bfQB4) (tr_g0_G hsf _ List.mem_cons_self) bfL4) gq223 gq222 (by decide +kernel) (by decide +kernel) (by decide +kernel) (by decide +kernel) (by decide +kernel)) (by decide +kernel) (by decide +kernel)) (by decide) (by decide) (by decide) (by decide +kernel) (by decide +kernel)) (by decide) (by decide)
theorem bfN5 {xs : Nat → Int32} {n : Nat} {sf : Option Nat} (hsf : sf = none ∨ sf = some 1200000) : wGoes x_KT x_tb x_tyl (x_otS xs n sf) lwFR lwGA.length lwGB.length 6 24 42 bfWA bfWB 113 223 60 62 bf_l0 bfo5 :=
  wDp (wWk (wEd_spec (x_ov0_le sf) u_ctS lwFRok bfE5) (Nat.le_refl _) (Nat.le_refl _) (Nat.le_refl _) (by decide +kernel) (by decide +kernel)) (by decide) (by decide)
theorem bfN6 {xs : Nat → Int32} {n : Nat} {sf : Option Nat} (hsf : sf = none ∨ sf = some 1200000) : wGoes x_KT x_tb x_tyl (x_otS xs n sf) lwFR lwGA.length lwGB.length 6 24 42 bfWA bfWB 113 223 60 62 bf_l1 bfo6 :=
  wDp (wWk (wEd_spec (x_ov0_le sf) u_ctS lwFRok bfE6) (Nat.le_refl _) (Nat.le_refl _) (Nat.le_refl _) (by decide +kernel) (by decide +kernel)) (by decide) (by decide)
theorem bfN7 {xs : Nat → Int32} {n : Nat} {sf : Option Nat} (hsf : sf = none ∨ sf = some 1200000) : wGoes x_KT x_tb x_tyl (x_otS xs n sf) lwFR lwGA.length lwGB.length 6 24 42 bfWA bfWB 113 223 60 62 bf_c0_out bfo7 :=
  wDp (wWk (wEd_spec (x_ov0_le sf) u_ctS lwFRok bfE7) (Nat.le_refl _) (Nat.le_refl _) (Nat.le_refl _) (by decide +kernel) (by decide +kernel)) (by decide) (by decide)
theorem bfN8 {xs : Nat → Int32} {n : Nat} {sf : Option Nat} (hsf : sf = none ∨ sf = some 1200000) : wGoes x_KT x_tb x_tyl (x_otS xs n sf) lwFR lwGA.length lwGB.length 6 24 42 bfWA bfWB 113 223 60 62 bf_c1_out bfo8 :=
  wDp (wWk (wEd_spec (x_ov0_le sf) u_ctS lwFRok bfE8) (Nat.le_refl _) (Nat.le_refl _) (Nat.le_refl _) (by decide +kernel) (by decide +kernel)) (by decide) (by decide)
set_option maxRecDepth 1000000 in
theorem gq140 : tMth x_tb 140 = some xm140 := rfl
def rt_g0_nd : List wE := [rt_in, rt_lp, rt_c, rt_c_out]
theorem rt_g0_G {xs : Nat → Int32} {n : Nat} {sf : Option Nat} (hsf : sf = none ∨ sf = some 1200000) : ∀ nd ∈ rt_g0_nd, wGoes x_KT x_tb x_tyl (x_otS xs n sf) lwFR lwGA.length lwGB.length 11 24 42 rtWA rtWB 141 244 61 60 nd (rt_g0_ex.map (fun x => (false, x))) := wGraph (fun nd hnd => by
  have hnd : nd ∈ ([rt_in, rt_lp, rt_c, rt_c_out] : List wE) := hnd
  simp only [List.mem_cons, List.not_mem_nil, or_false] at hnd
  rcases hnd with rfl | rfl | rfl | rfl
  · refine ⟨rto1, rtN1 hsf, fun o ho => ?_⟩
    have ho : o ∈ ([(true, rt_lp)] : List (Bool × wE)) := ho
    simp only [List.mem_cons, List.not_mem_nil, or_false] at ho
    rcases ho with rfl
    · exact Or.inr ⟨rfl, List.mem_cons_of_mem _ (List.mem_cons_self)⟩
  · refine ⟨rto2, rtN2 hsf, fun o ho => ?_⟩
    have ho : o ∈ ([(true, rt_c), (true, rt_lp), (false, rt_out)] : List (Bool × wE)) := ho
    simp only [List.mem_cons, List.not_mem_nil, or_false] at ho
    rcases ho with rfl | rfl | rfl
    · exact Or.inr ⟨rfl, List.mem_cons_of_mem _ (List.mem_cons_of_mem _ (List.mem_cons_self))⟩
    · exact Or.inr ⟨rfl, List.mem_cons_of_mem _ (List.mem_cons_self)⟩
    · exact Or.inl (List.mem_cons_self)
  · refine ⟨rto0, rtN0 hsf, fun o ho => ?_⟩
    have ho : o ∈ ([(true, rt_c_out)] : List (Bool × wE)) := ho
    simp only [List.mem_cons, List.not_mem_nil, or_false] at ho
    rcases ho with rfl
    · exact Or.inr ⟨rfl, List.mem_cons_of_mem _ (List.mem_cons_of_mem _ (List.mem_cons_of_mem _ (List.mem_cons_self)))⟩
  · refine ⟨rto3, rtN3 hsf, fun o ho => ?_⟩
    have ho : o ∈ ([(true, rt_lp)] : List (Bool × wE)) := ho
    simp only [List.mem_cons, List.not_mem_nil, or_false] at ho
    rcases ho with rfl
    · exact Or.inr ⟨rfl, List.mem_cons_of_mem _ (List.mem_cons_self)⟩)
theorem firstN0 {xs : Nat → Int32} {n : Nat} {sf : Option Nat} (hsf : sf = none ∨ sf = some 1200000) : wGoes x_KT x_tb x_tyl (x_otS xs n sf) lwFR lwGA.length lwGB.length 5 24 42 firstWA firstWB 140 223 63 62 first_c1 firsto0 :=
  wDp (wWk (wEqvB (wCallA (recv := 0) (pc := 68) (ix := 372) (nx := 3) (args := [.inl (lSy 11), .inl (lSy 12)]) (rest := []) (LE := [(0, .inr (some 0)), (1, .inl (lSy 5)), (2, .inl (lSy 6)), (3, .inl (lSy 7)), (4, .inl (lSy 8))]) (cE := (lK 0)) (sE := (lK 0)) (wLift (dpB := 60) (pc := 0) (pcP := 43) (nx := 1) (LE := [(0, .inr (some 0)), (1, .inl (lSy 5)), (2, .inl (lSy 6)), (3, .inl (lSy 7)), (4, .inl (lSy 8))]) (SE := []) (cE := (lK 0)) (sE := (lK 0)) (wReL (XA := firstX0.2.1) (XB := firstX0.2.2.1) (XC := firstX0.2.2.2.1) (rk := firstX0.2.2.2.2) (rA := firstQA0) (rB := firstQB0) (rt_g0_G hsf _ List.mem_cons_self) firstL0) gq223 gq244 (by decide +kernel) (by decide +kernel) (by decide +kernel) (by decide +kernel)) gq140 gq141 (by decide +kernel) (by decide +kernel) (by decide +kernel) (by decide +kernel) (by decide +kernel)) (by decide +kernel) (by decide +kernel)) (by decide) (by decide) (by decide) (by decide +kernel) (by decide +kernel)) (by decide) (by decide)
theorem firstN1 {xs : Nat → Int32} {n : Nat} {sf : Option Nat} (hsf : sf = none ∨ sf = some 1200000) : wGoes x_KT x_tb x_tyl (x_otS xs n sf) lwFR lwGA.length lwGB.length 5 24 42 firstWA firstWB 140 223 63 62 first_in firsto1 :=
  wDp (wWk (wEd_spec (x_ov0_le sf) (u_ctKS4 hsf) lwFRok firstE1) (Nat.le_refl _) (Nat.le_refl _) (Nat.le_refl _) (by decide +kernel) (by decide +kernel)) (by decide) (by decide)
def bm_g0_nd : List wE := [bm_in, bm_c0, bm_c0_out, bm_lp, bm_c1, bm_c1_out]
theorem bm_g0_G {xs : Nat → Int32} {n : Nat} {sf : Option Nat} (hsf : sf = none ∨ sf = some 1200000) : ∀ nd ∈ bm_g0_nd, wGoes x_KT x_tb x_tyl (x_otS xs n sf) lwFR lwGA.length lwGB.length 9 24 42 bmWA bmWB 143 244 62 60 nd (bm_g0_ex.map (fun x => (false, x))) := wGraph (fun nd hnd => by
  have hnd : nd ∈ ([bm_in, bm_c0, bm_c0_out, bm_lp, bm_c1, bm_c1_out] : List wE) := hnd
  simp only [List.mem_cons, List.not_mem_nil, or_false] at hnd
  rcases hnd with rfl | rfl | rfl | rfl | rfl | rfl
  · refine ⟨bmo1, bmN1 hsf, fun o ho => ?_⟩
    have ho : o ∈ ([(true, bm_c0)] : List (Bool × wE)) := ho
    simp only [List.mem_cons, List.not_mem_nil, or_false] at ho
    rcases ho with rfl
    · exact Or.inr ⟨rfl, List.mem_cons_of_mem _ (List.mem_cons_self)⟩
  · refine ⟨bmo0, bmN0 hsf, fun o ho => ?_⟩
    have ho : o ∈ ([(true, bm_c0_out)] : List (Bool × wE)) := ho
    simp only [List.mem_cons, List.not_mem_nil, or_false] at ho
    rcases ho with rfl
    · exact Or.inr ⟨rfl, List.mem_cons_of_mem _ (List.mem_cons_of_mem _ (List.mem_cons_self))⟩
  · refine ⟨bmo2, bmN2 hsf, fun o ho => ?_⟩
    have ho : o ∈ ([(true, bm_lp)] : List (Bool × wE)) := ho
    simp only [List.mem_cons, List.not_mem_nil, or_false] at ho
    rcases ho with rfl
    · exact Or.inr ⟨rfl, List.mem_cons_of_mem _ (List.mem_cons_of_mem _ (List.mem_cons_of_mem _ (List.mem_cons_self)))⟩
  · refine ⟨bmo4, bmN4 hsf, fun o ho => ?_⟩
    have ho : o ∈ ([(true, bm_c1), (true, bm_lp), (false, bm_out)] : List (Bool × wE)) := ho
    simp only [List.mem_cons, List.not_mem_nil, or_false] at ho
    rcases ho with rfl | rfl | rfl
    · exact Or.inr ⟨rfl, List.mem_cons_of_mem _ (List.mem_cons_of_mem _ (List.mem_cons_of_mem _ (List.mem_cons_of_mem _ (List.mem_cons_self))))⟩
    · exact Or.inr ⟨rfl, List.mem_cons_of_mem _ (List.mem_cons_of_mem _ (List.mem_cons_of_mem _ (List.mem_cons_self)))⟩
    · exact Or.inl (List.mem_cons_self)
  · refine ⟨bmo3, bmN3 hsf, fun o ho => ?_⟩
    have ho : o ∈ ([(true, bm_c1_out)] : List (Bool × wE)) := ho
    simp only [List.mem_cons, List.not_mem_nil, or_false] at ho
    rcases ho with rfl
    · exact Or.inr ⟨rfl, List.mem_cons_of_mem _ (List.mem_cons_of_mem _ (List.mem_cons_of_mem _ (List.mem_cons_of_mem _ (List.mem_cons_of_mem _ (List.mem_cons_self)))))⟩
  · refine ⟨bmo5, bmN5 hsf, fun o ho => ?_⟩
    have ho : o ∈ ([(true, bm_lp)] : List (Bool × wE)) := ho
    simp only [List.mem_cons, List.not_mem_nil, or_false] at ho
    rcases ho with rfl
    · exact Or.inr ⟨rfl, List.mem_cons_of_mem _ (List.mem_cons_of_mem _ (List.mem_cons_of_mem _ (List.mem_cons_self)))⟩)
theorem firstN2 {xs : Nat → Int32} {n : Nat} {sf : Option Nat} (hsf : sf = none ∨ sf = some 1200000) : wGoes x_KT x_tb x_tyl (x_otS xs n sf) lwFR lwGA.length lwGB.length 5 24 42 firstWA firstWB 140 223 63 62 first_c2 firsto2 :=
  wDp (wWk (wEqvB (wCallA (recv := 0) (pc := 75) (ix := 376) (nx := 3) (args := [.inl (lSy 9), .inl (lSy 10), .inl (lSy 11)]) (rest := []) (LE := [(0, .inr (some 0)), (1, .inl (lSy 5)), (2, .inl (lSy 6)), (3, .inl (lSy 7)), (4, .inl (lSy 8))]) (cE := (lK 0)) (sE := (lK 0)) (wLift (dpB := 60) (pc := 0) (pcP := 43) (nx := 1) (LE := [(0, .inr (some 0)), (1, .inl (lSy 5)), (2, .inl (lSy 6)), (3, .inl (lSy 7)), (4, .inl (lSy 8))]) (SE := []) (cE := (lK 0)) (sE := (lK 0)) (wReL (XA := firstX2.2.1) (XB := firstX2.2.2.1) (XC := firstX2.2.2.2.1) (rk := firstX2.2.2.2.2) (rA := firstQA2) (rB := firstQB2) (bm_g0_G hsf _ List.mem_cons_self) firstL2) gq223 gq244 (by decide +kernel) (by decide +kernel) (by decide +kernel) (by decide +kernel)) gq140 gq143 (by decide +kernel) (by decide +kernel) (by decide +kernel) (by decide +kernel) (by decide +kernel)) (by decide +kernel) (by decide +kernel)) (by decide) (by decide) (by decide) (by decide +kernel) (by decide +kernel)) (by decide) (by decide)
theorem firstN3 {xs : Nat → Int32} {n : Nat} {sf : Option Nat} (hsf : sf = none ∨ sf = some 1200000) : wGoes x_KT x_tb x_tyl (x_otS xs n sf) lwFR lwGA.length lwGB.length 5 24 42 firstWA firstWB 140 223 63 62 first_c1_out firsto3 :=
  wDp (wWk (wEd_spec (x_ov0_le sf) (u_ctKS4 hsf) lwFRok firstE3) (Nat.le_refl _) (Nat.le_refl _) (Nat.le_refl _) (by decide +kernel) (by decide +kernel)) (by decide) (by decide)
theorem firstN4 {xs : Nat → Int32} {n : Nat} {sf : Option Nat} (hsf : sf = none ∨ sf = some 1200000) : wGoes x_KT x_tb x_tyl (x_otS xs n sf) lwFR lwGA.length lwGB.length 5 24 42 firstWA firstWB 140 223 63 62 first_c3 firsto4 :=
  wDp (wWk (wEqvB (wCallA (recv := 0) (pc := 113) (ix := 380) (nx := 3) (args := [.inl (lSy 16), .inl (lSy 17), .inl (lSy 18)]) (rest := []) (LE := [(0, .inr (some 0)), (1, .inl (lSy 5)), (2, .inl (lSy 6)), (3, .inl (lSy 7)), (4, .inl (lSy 8))]) (cE := (lK 0)) (sE := (lK 0)) (wLift (dpB := 60) (pc := 0) (pcP := 43) (nx := 1) (LE := [(0, .inr (some 0)), (1, .inl (lSy 5)), (2, .inl (lSy 6)), (3, .inl (lSy 7)), (4, .inl (lSy 8))]) (SE := []) (cE := (lK 0)) (sE := (lK 0)) (wReL (XA := firstX4.2.1) (XB := firstX4.2.2.1) (XC := firstX4.2.2.2.1) (rk := firstX4.2.2.2.2) (rA := firstQA4) (rB := firstQB4) (rh_g0_G hsf _ List.mem_cons_self) firstL4) gq223 gq244 (by decide +kernel) (by decide +kernel) (by decide +kernel) (by decide +kernel)) gq140 gq144 (by decide +kernel) (by decide +kernel) (by decide +kernel) (by decide +kernel) (by decide +kernel)) (by decide +kernel) (by decide +kernel)) (by decide) (by decide) (by decide) (by decide +kernel) (by decide +kernel)) (by decide) (by decide)
theorem firstN5 {xs : Nat → Int32} {n : Nat} {sf : Option Nat} (hsf : sf = none ∨ sf = some 1200000) : wGoes x_KT x_tb x_tyl (x_otS xs n sf) lwFR lwGA.length lwGB.length 5 24 42 firstWA firstWB 140 223 63 62 first_c2_out firsto5 :=
  wDp (wWk (wEd_spec (x_ov0_le sf) (u_ctKS4 hsf) lwFRok firstE5) (Nat.le_refl _) (Nat.le_refl _) (Nat.le_refl _) (by decide +kernel) (by decide +kernel)) (by decide) (by decide)
def bf_g0_nd : List wE := [bf_in, bf_h1, bf_l0, bf_l1, bf_c0, bf_h0, bf_c1, bf_c0_out, bf_c1_out]
theorem bf_g0_G {xs : Nat → Int32} {n : Nat} {sf : Option Nat} (hsf : sf = none ∨ sf = some 1200000) : ∀ nd ∈ bf_g0_nd, wGoes x_KT x_tb x_tyl (x_otS xs n sf) lwFR lwGA.length lwGB.length 6 24 42 bfWA bfWB 113 223 60 62 nd (bf_g0_ex.map (fun x => (false, x))) := wGraph (fun nd hnd => by
  have hnd : nd ∈ ([bf_in, bf_h1, bf_l0, bf_l1, bf_c0, bf_h0, bf_c1, bf_c0_out, bf_c1_out] : List wE) := hnd
  simp only [List.mem_cons, List.not_mem_nil, or_false] at hnd
  rcases hnd with rfl | rfl | rfl | rfl | rfl | rfl | rfl | rfl | rfl
  · refine ⟨bfo0, bfN0 hsf, fun o ho => ?_⟩
    have ho : o ∈ ([(true, bf_h1), (false, bf_e226), (false, bf_e26), (false, bf_e56)] : List (Bool × wE)) := ho
    simp only [List.mem_cons, List.not_mem_nil, or_false] at ho
    rcases ho with rfl | rfl | rfl | rfl
    · exact Or.inr ⟨rfl, List.mem_cons_of_mem _ (List.mem_cons_self)⟩
    · exact Or.inl (List.mem_cons_self)
    · exact Or.inl (List.mem_cons_of_mem _ (List.mem_cons_self))
    · exact Or.inl (List.mem_cons_of_mem _ (List.mem_cons_of_mem _ (List.mem_cons_self)))
  · refine ⟨bfo2, bfN2 hsf, fun o ho => ?_⟩
    have ho : o ∈ ([(true, bf_l0), (true, bf_l1), (false, bf_e226)] : List (Bool × wE)) := ho
    simp only [List.mem_cons, List.not_mem_nil, or_false] at ho
    rcases ho with rfl | rfl | rfl
    · exact Or.inr ⟨rfl, List.mem_cons_of_mem _ (List.mem_cons_of_mem _ (List.mem_cons_self))⟩
    · exact Or.inr ⟨rfl, List.mem_cons_of_mem _ (List.mem_cons_of_mem _ (List.mem_cons_of_mem _ (List.mem_cons_self)))⟩
    · exact Or.inl (List.mem_cons_self)
  · refine ⟨bfo5, bfN5 hsf, fun o ho => ?_⟩
    have ho : o ∈ ([(true, bf_l0), (true, bf_c0), (true, bf_h0)] : List (Bool × wE)) := ho
    simp only [List.mem_cons, List.not_mem_nil, or_false] at ho
    rcases ho with rfl | rfl | rfl
    · exact Or.inr ⟨rfl, List.mem_cons_of_mem _ (List.mem_cons_of_mem _ (List.mem_cons_self))⟩
    · exact Or.inr ⟨rfl, List.mem_cons_of_mem _ (List.mem_cons_of_mem _ (List.mem_cons_of_mem _ (List.mem_cons_of_mem _ (List.mem_cons_self))))⟩
    · exact Or.inr ⟨rfl, List.mem_cons_of_mem _ (List.mem_cons_of_mem _ (List.mem_cons_of_mem _ (List.mem_cons_of_mem _ (List.mem_cons_of_mem _ (List.mem_cons_self)))))⟩
  · refine ⟨bfo6, bfN6 hsf, fun o ho => ?_⟩
    have ho : o ∈ ([(true, bf_l1), (true, bf_c1), (true, bf_h1)] : List (Bool × wE)) := ho
    simp only [List.mem_cons, List.not_mem_nil, or_false] at ho
    rcases ho with rfl | rfl | rfl
    · exact Or.inr ⟨rfl, List.mem_cons_of_mem _ (List.mem_cons_of_mem _ (List.mem_cons_of_mem _ (List.mem_cons_self)))⟩
    · exact Or.inr ⟨rfl, List.mem_cons_of_mem _ (List.mem_cons_of_mem _ (List.mem_cons_of_mem _ (List.mem_cons_of_mem _ (List.mem_cons_of_mem _ (List.mem_cons_of_mem _ (List.mem_cons_self))))))⟩
    · exact Or.inr ⟨rfl, List.mem_cons_of_mem _ (List.mem_cons_self)⟩
  · refine ⟨bfo3, bfN3 hsf, fun o ho => ?_⟩
    have ho : o ∈ ([(true, bf_c0_out)] : List (Bool × wE)) := ho
    simp only [List.mem_cons, List.not_mem_nil, or_false] at ho
    rcases ho with rfl
    · exact Or.inr ⟨rfl, List.mem_cons_of_mem _ (List.mem_cons_of_mem _ (List.mem_cons_of_mem _ (List.mem_cons_of_mem _ (List.mem_cons_of_mem _ (List.mem_cons_of_mem _ (List.mem_cons_of_mem _ (List.mem_cons_self)))))))⟩
  · refine ⟨bfo1, bfN1 hsf, fun o ho => ?_⟩
    have ho : o ∈ ([(true, bf_l0), (true, bf_l1), (false, bf_e226)] : List (Bool × wE)) := ho
    simp only [List.mem_cons, List.not_mem_nil, or_false] at ho
    rcases ho with rfl | rfl | rfl
    · exact Or.inr ⟨rfl, List.mem_cons_of_mem _ (List.mem_cons_of_mem _ (List.mem_cons_self))⟩
    · exact Or.inr ⟨rfl, List.mem_cons_of_mem _ (List.mem_cons_of_mem _ (List.mem_cons_of_mem _ (List.mem_cons_self)))⟩
    · exact Or.inl (List.mem_cons_self)
  · refine ⟨bfo4, bfN4 hsf, fun o ho => ?_⟩
    have ho : o ∈ ([(true, bf_c1_out)] : List (Bool × wE)) := ho
    simp only [List.mem_cons, List.not_mem_nil, or_false] at ho
    rcases ho with rfl
    · exact Or.inr ⟨rfl, List.mem_cons_of_mem _ (List.mem_cons_of_mem _ (List.mem_cons_of_mem _ (List.mem_cons_of_mem _ (List.mem_cons_of_mem _ (List.mem_cons_of_mem _ (List.mem_cons_of_mem _ (List.mem_cons_of_mem _ (List.mem_cons_self))))))))⟩
  · refine ⟨bfo7, bfN7 hsf, fun o ho => ?_⟩
    have ho : o ∈ ([(true, bf_h0)] : List (Bool × wE)) := ho
    simp only [List.mem_cons, List.not_mem_nil, or_false] at ho
    rcases ho with rfl
    · exact Or.inr ⟨rfl, List.mem_cons_of_mem _ (List.mem_cons_of_mem _ (List.mem_cons_of_mem _ (List.mem_cons_of_mem _ (List.mem_cons_of_mem _ (List.mem_cons_self)))))⟩
  · refine ⟨bfo8, bfN8 hsf, fun o ho => ?_⟩
    have ho : o ∈ ([(true, bf_h1)] : List (Bool × wE)) := ho
    simp only [List.mem_cons, List.not_mem_nil, or_false] at ho
    rcases ho with rfl
    · exact Or.inr ⟨rfl, List.mem_cons_of_mem _ (List.mem_cons_self)⟩)
theorem firstN6 {xs : Nat → Int32} {n : Nat} {sf : Option Nat} (hsf : sf = none ∨ sf = some 1200000) : wGoes x_KT x_tb x_tyl (x_otS xs n sf) lwFR lwGA.length lwGB.length 5 24 42 firstWA firstWB 140 223 63 62 first_f38 firsto6 :=
  wDp (wWk (wEqvB (wLiftA (dpA := 60) (pc := 38) (pcP := 22) (nx := 1) (LE := []) (SE := [.inl (lK (-1))]) (cE := (lK 0)) (sE := (lK 0)) (wReL (XA := firstX6.2.1) (XB := firstX6.2.2.1) (XC := firstX6.2.2.2.1) (rk := firstX6.2.2.2.2) (rA := firstQA6) (rB := firstQB6) (bf_g0_G hsf _ List.mem_cons_self) firstL6) gq140 gq113 (by decide +kernel) (by decide +kernel) (by decide +kernel) (by decide +kernel)) (by decide +kernel) (by decide +kernel)) (by decide) (by decide) (by decide) (by decide +kernel) (by decide +kernel)) (by decide) (by decide)
theorem firstN7 {xs : Nat → Int32} {n : Nat} {sf : Option Nat} (hsf : sf = none ∨ sf = some 1200000) : wGoes x_KT x_tb x_tyl (x_otS xs n sf) lwFR lwGA.length lwGB.length 5 24 42 firstWA firstWB 140 223 63 62 first_r1 firsto7 :=
  wDp (wWk (wEd_spec (x_ov0_le sf) (u_ctKS4 hsf) lwFRok firstE7) (Nat.le_refl _) (Nat.le_refl _) (Nat.le_refl _) (by decide +kernel) (by decide +kernel)) (by decide) (by decide)
theorem firstN8 {xs : Nat → Int32} {n : Nat} {sf : Option Nat} (hsf : sf = none ∨ sf = some 1200000) : wGoes x_KT x_tb x_tyl (x_otS xs n sf) lwFR lwGA.length lwGB.length 5 24 42 firstWA firstWB 140 223 63 62 first_f38_e226 firsto8 :=
  wDp (wWk (wEd_spec (x_ov0_le sf) (u_ctKS4 hsf) lwFRok firstE8) (Nat.le_refl _) (Nat.le_refl _) (Nat.le_refl _) (by decide +kernel) (by decide +kernel)) (by decide) (by decide)
theorem firstN9 {xs : Nat → Int32} {n : Nat} {sf : Option Nat} (hsf : sf = none ∨ sf = some 1200000) : wGoes x_KT x_tb x_tyl (x_otS xs n sf) lwFR lwGA.length lwGB.length 5 24 42 firstWA firstWB 140 223 63 62 first_f38_e26 firsto9 :=
  wDp (wWk (wEd_spec (x_ov0_le sf) (u_ctKS4 hsf) lwFRok firstE9) (Nat.le_refl _) (Nat.le_refl _) (Nat.le_refl _) (by decide +kernel) (by decide +kernel)) (by decide) (by decide)
theorem firstN10 {xs : Nat → Int32} {n : Nat} {sf : Option Nat} (hsf : sf = none ∨ sf = some 1200000) : wGoes x_KT x_tb x_tyl (x_otS xs n sf) lwFR lwGA.length lwGB.length 5 24 42 firstWA firstWB 140 223 63 62 first_f38_e56 firsto10 :=
  wDp (wWk (wEd_spec (x_ov0_le sf) (u_ctKS4 hsf) lwFRok firstE10) (Nat.le_refl _) (Nat.le_refl _) (Nat.le_refl _) (by decide +kernel) (by decide +kernel)) (by decide) (by decide)
theorem firstN11 {xs : Nat → Int32} {n : Nat} {sf : Option Nat} (hsf : sf = none ∨ sf = some 1200000) : wGoes x_KT x_tb x_tyl (x_otS xs n sf) lwFR lwGA.length lwGB.length 5 24 42 firstWA firstWB 140 223 63 62 first_f64 firsto11 :=
  wDp (wWk (wEqvB (wLiftA (dpA := 60) (pc := 64) (pcP := 22) (nx := 1) (LE := []) (SE := [.inl (lK (-2))]) (cE := (lK 0)) (sE := (lK 0)) (wReL (XA := firstX11.2.1) (XB := firstX11.2.2.1) (XC := firstX11.2.2.2.1) (rk := firstX11.2.2.2.2) (rA := firstQA11) (rB := firstQB11) (bf_g0_G hsf _ List.mem_cons_self) firstL11) gq140 gq113 (by decide +kernel) (by decide +kernel) (by decide +kernel) (by decide +kernel)) (by decide +kernel) (by decide +kernel)) (by decide) (by decide) (by decide) (by decide +kernel) (by decide +kernel)) (by decide) (by decide)
theorem firstN12 {xs : Nat → Int32} {n : Nat} {sf : Option Nat} (hsf : sf = none ∨ sf = some 1200000) : wGoes x_KT x_tb x_tyl (x_otS xs n sf) lwFR lwGA.length lwGB.length 5 24 42 firstWA firstWB 140 223 63 62 first_r2 firsto12 :=
  wDp (wWk (wEd_spec (x_ov0_le sf) (u_ctKS4 hsf) lwFRok firstE12) (Nat.le_refl _) (Nat.le_refl _) (Nat.le_refl _) (by decide +kernel) (by decide +kernel)) (by decide) (by decide)
theorem firstN13 {xs : Nat → Int32} {n : Nat} {sf : Option Nat} (hsf : sf = none ∨ sf = some 1200000) : wGoes x_KT x_tb x_tyl (x_otS xs n sf) lwFR lwGA.length lwGB.length 5 24 42 firstWA firstWB 140 223 63 62 first_f64_e226 firsto13 :=
  wDp (wWk (wEd_spec (x_ov0_le sf) (u_ctKS4 hsf) lwFRok firstE13) (Nat.le_refl _) (Nat.le_refl _) (Nat.le_refl _) (by decide +kernel) (by decide +kernel)) (by decide) (by decide)
theorem firstN14 {xs : Nat → Int32} {n : Nat} {sf : Option Nat} (hsf : sf = none ∨ sf = some 1200000) : wGoes x_KT x_tb x_tyl (x_otS xs n sf) lwFR lwGA.length lwGB.length 5 24 42 firstWA firstWB 140 223 63 62 first_f64_e26 firsto14 :=
  wDp (wWk (wEd_spec (x_ov0_le sf) (u_ctKS4 hsf) lwFRok firstE14) (Nat.le_refl _) (Nat.le_refl _) (Nat.le_refl _) (by decide +kernel) (by decide +kernel)) (by decide) (by decide)
theorem firstN15 {xs : Nat → Int32} {n : Nat} {sf : Option Nat} (hsf : sf = none ∨ sf = some 1200000) : wGoes x_KT x_tb x_tyl (x_otS xs n sf) lwFR lwGA.length lwGB.length 5 24 42 firstWA firstWB 140 223 63 62 first_f64_e56 firsto15 :=
  wDp (wWk (wEd_spec (x_ov0_le sf) (u_ctKS4 hsf) lwFRok firstE15) (Nat.le_refl _) (Nat.le_refl _) (Nat.le_refl _) (by decide +kernel) (by decide +kernel)) (by decide) (by decide)
theorem firstN16 {xs : Nat → Int32} {n : Nat} {sf : Option Nat} (hsf : sf = none ∨ sf = some 1200000) : wGoes x_KT x_tb x_tyl (x_otS xs n sf) lwFR lwGA.length lwGB.length 5 24 42 firstWA firstWB 140 223 63 62 first_f116 firsto16 :=
  wDp (wWk (wEqvB (wLiftA (dpA := 60) (pc := 116) (pcP := 22) (nx := 1) (LE := []) (SE := [.inl (lSy 5)]) (cE := (lK 0)) (sE := (lK 0)) (wReL (XA := firstX16.2.1) (XB := firstX16.2.2.1) (XC := firstX16.2.2.2.1) (rk := firstX16.2.2.2.2) (rA := firstQA16) (rB := firstQB16) (bf_g0_G hsf _ List.mem_cons_self) firstL16) gq140 gq113 (by decide +kernel) (by decide +kernel) (by decide +kernel) (by decide +kernel)) (by decide +kernel) (by decide +kernel)) (by decide) (by decide) (by decide) (by decide +kernel) (by decide +kernel)) (by decide) (by decide)
theorem firstN17 {xs : Nat → Int32} {n : Nat} {sf : Option Nat} (hsf : sf = none ∨ sf = some 1200000) : wGoes x_KT x_tb x_tyl (x_otS xs n sf) lwFR lwGA.length lwGB.length 5 24 42 firstWA firstWB 140 223 63 62 first_c3_out firsto17 :=
  wDp (wWk (wEd_spec (x_ov0_le sf) (u_ctKS4 hsf) lwFRok firstE17) (Nat.le_refl _) (Nat.le_refl _) (Nat.le_refl _) (by decide +kernel) (by decide +kernel)) (by decide) (by decide)
theorem firstN18 {xs : Nat → Int32} {n : Nat} {sf : Option Nat} (hsf : sf = none ∨ sf = some 1200000) : wGoes x_KT x_tb x_tyl (x_otS xs n sf) lwFR lwGA.length lwGB.length 5 24 42 firstWA firstWB 140 223 63 62 first_f116_e226 firsto18 :=
  wDp (wWk (wEd_spec (x_ov0_le sf) (u_ctKS4 hsf) lwFRok firstE18) (Nat.le_refl _) (Nat.le_refl _) (Nat.le_refl _) (by decide +kernel) (by decide +kernel)) (by decide) (by decide)
theorem firstN19 {xs : Nat → Int32} {n : Nat} {sf : Option Nat} (hsf : sf = none ∨ sf = some 1200000) : wGoes x_KT x_tb x_tyl (x_otS xs n sf) lwFR lwGA.length lwGB.length 5 24 42 firstWA firstWB 140 223 63 62 first_f116_e26 firsto19 :=
  wDp (wWk (wEd_spec (x_ov0_le sf) (u_ctKS4 hsf) lwFRok firstE19) (Nat.le_refl _) (Nat.le_refl _) (Nat.le_refl _) (by decide +kernel) (by decide +kernel)) (by decide) (by decide)
theorem firstN20 {xs : Nat → Int32} {n : Nat} {sf : Option Nat} (hsf : sf = none ∨ sf = some 1200000) : wGoes x_KT x_tb x_tyl (x_otS xs n sf) lwFR lwGA.length lwGB.length 5 24 42 firstWA firstWB 140 223 63 62 first_f116_e56 firsto20 :=
  wDp (wWk (wEd_spec (x_ov0_le sf) (u_ctKS4 hsf) lwFRok firstE20) (Nat.le_refl _) (Nat.le_refl _) (Nat.le_refl _) (by decide +kernel) (by decide +kernel)) (by decide) (by decide)
theorem firstN21 {xs : Nat → Int32} {n : Nat} {sf : Option Nat} (hsf : sf = none ∨ sf = some 1200000) : wGoes x_KT x_tb x_tyl (x_otS xs n sf) lwFR lwGA.length lwGB.length 5 24 42 firstWA firstWB 140 223 63 62 first_f119 firsto21 :=
  wDp (wWk (wEqvB (wLiftA (dpA := 60) (pc := 119) (pcP := 22) (nx := 1) (LE := []) (SE := [.inl (lSy 5)]) (cE := (lK 0)) (sE := (lK 0)) (wReL (XA := firstX21.2.1) (XB := firstX21.2.2.1) (XC := firstX21.2.2.2.1) (rk := firstX21.2.2.2.2) (rA := firstQA21) (rB := firstQB21) (bf_g0_G hsf _ List.mem_cons_self) firstL21) gq140 gq113 (by decide +kernel) (by decide +kernel) (by decide +kernel) (by decide +kernel)) (by decide +kernel) (by decide +kernel)) (by decide) (by decide) (by decide) (by decide +kernel) (by decide +kernel)) (by decide) (by decide)
theorem firstN22 {xs : Nat → Int32} {n : Nat} {sf : Option Nat} (hsf : sf = none ∨ sf = some 1200000) : wGoes x_KT x_tb x_tyl (x_otS xs n sf) lwFR lwGA.length lwGB.length 5 24 42 firstWA firstWB 140 223 63 62 first_a119 firsto22 :=
  wDp (wWk (wEd_spec (x_ov0_le sf) (u_ctKS4 hsf) lwFRok firstE22) (Nat.le_refl _) (Nat.le_refl _) (Nat.le_refl _) (by decide +kernel) (by decide +kernel)) (by decide) (by decide)
theorem firstN23 {xs : Nat → Int32} {n : Nat} {sf : Option Nat} (hsf : sf = none ∨ sf = some 1200000) : wGoes x_KT x_tb x_tyl (x_otS xs n sf) lwFR lwGA.length lwGB.length 5 24 42 firstWA firstWB 140 223 63 62 first_f119_e226 firsto23 :=
  wDp (wWk (wEd_spec (x_ov0_le sf) (u_ctKS4 hsf) lwFRok firstE23) (Nat.le_refl _) (Nat.le_refl _) (Nat.le_refl _) (by decide +kernel) (by decide +kernel)) (by decide) (by decide)
theorem firstN24 {xs : Nat → Int32} {n : Nat} {sf : Option Nat} (hsf : sf = none ∨ sf = some 1200000) : wGoes x_KT x_tb x_tyl (x_otS xs n sf) lwFR lwGA.length lwGB.length 5 24 42 firstWA firstWB 140 223 63 62 first_f119_e26 firsto24 :=
  wDp (wWk (wEd_spec (x_ov0_le sf) (u_ctKS4 hsf) lwFRok firstE24) (Nat.le_refl _) (Nat.le_refl _) (Nat.le_refl _) (by decide +kernel) (by decide +kernel)) (by decide) (by decide)
theorem firstN25 {xs : Nat → Int32} {n : Nat} {sf : Option Nat} (hsf : sf = none ∨ sf = some 1200000) : wGoes x_KT x_tb x_tyl (x_otS xs n sf) lwFR lwGA.length lwGB.length 5 24 42 firstWA firstWB 140 223 63 62 first_f119_e56 firsto25 :=
  wDp (wWk (wEd_spec (x_ov0_le sf) (u_ctKS4 hsf) lwFRok firstE25) (Nat.le_refl _) (Nat.le_refl _) (Nat.le_refl _) (by decide +kernel) (by decide +kernel)) (by decide) (by decide)
theorem firstN26 {xs : Nat → Int32} {n : Nat} {sf : Option Nat} (hsf : sf = none ∨ sf = some 1200000) : wGoes x_KT x_tb x_tyl (x_otS xs n sf) lwFR lwGA.length lwGB.length 5 24 42 firstWA firstWB 140 223 63 62 first_f126 firsto26 :=
  wDp (wWk (wEqvB (wLiftA (dpA := 60) (pc := 126) (pcP := 22) (nx := 1) (LE := []) (SE := [.inl (lSy 5)]) (cE := (lK 0)) (sE := (lK 0)) (wReL (XA := firstX26.2.1) (XB := firstX26.2.2.1) (XC := firstX26.2.2.2.1) (rk := firstX26.2.2.2.2) (rA := firstQA26) (rB := firstQB26) (bf_g0_G hsf _ List.mem_cons_self) firstL26) gq140 gq113 (by decide +kernel) (by decide +kernel) (by decide +kernel) (by decide +kernel)) (by decide +kernel) (by decide +kernel)) (by decide) (by decide) (by decide) (by decide +kernel) (by decide +kernel)) (by decide) (by decide)
theorem firstN27 {xs : Nat → Int32} {n : Nat} {sf : Option Nat} (hsf : sf = none ∨ sf = some 1200000) : wGoes x_KT x_tb x_tyl (x_otS xs n sf) lwFR lwGA.length lwGB.length 5 24 42 firstWA firstWB 140 223 63 62 first_a126 firsto27 :=
  wDp (wWk (wEd_spec (x_ov0_le sf) (u_ctKS4 hsf) lwFRok firstE27) (Nat.le_refl _) (Nat.le_refl _) (Nat.le_refl _) (by decide +kernel) (by decide +kernel)) (by decide) (by decide)
theorem firstN28 {xs : Nat → Int32} {n : Nat} {sf : Option Nat} (hsf : sf = none ∨ sf = some 1200000) : wGoes x_KT x_tb x_tyl (x_otS xs n sf) lwFR lwGA.length lwGB.length 5 24 42 firstWA firstWB 140 223 63 62 first_f126_e226 firsto28 :=
  wDp (wWk (wEd_spec (x_ov0_le sf) (u_ctKS4 hsf) lwFRok firstE28) (Nat.le_refl _) (Nat.le_refl _) (Nat.le_refl _) (by decide +kernel) (by decide +kernel)) (by decide) (by decide)
theorem firstN29 {xs : Nat → Int32} {n : Nat} {sf : Option Nat} (hsf : sf = none ∨ sf = some 1200000) : wGoes x_KT x_tb x_tyl (x_otS xs n sf) lwFR lwGA.length lwGB.length 5 24 42 firstWA firstWB 140 223 63 62 first_f126_e26 firsto29 :=
  wDp (wWk (wEd_spec (x_ov0_le sf) (u_ctKS4 hsf) lwFRok firstE29) (Nat.le_refl _) (Nat.le_refl _) (Nat.le_refl _) (by decide +kernel) (by decide +kernel)) (by decide) (by decide)
theorem firstN30 {xs : Nat → Int32} {n : Nat} {sf : Option Nat} (hsf : sf = none ∨ sf = some 1200000) : wGoes x_KT x_tb x_tyl (x_otS xs n sf) lwFR lwGA.length lwGB.length 5 24 42 firstWA firstWB 140 223 63 62 first_f126_e56 firsto30 :=
  wDp (wWk (wEd_spec (x_ov0_le sf) (u_ctKS4 hsf) lwFRok firstE30) (Nat.le_refl _) (Nat.le_refl _) (Nat.le_refl _) (by decide +kernel) (by decide +kernel)) (by decide) (by decide)
def first_g0_nd : List wE := [first_in, first_c1, first_r1, first_r2, first_c1_out, first_f38, first_f64, first_c2, first_f38_e226, first_f38_e26, first_f38_e56, first_f64_e226, first_f64_e26, first_f64_e56, first_c2_out, first_c3, first_a119, first_a126, first_c3_out, first_f119, first_f126, first_f116, first_f119_e226, first_f119_e26, first_f119_e56, first_f126_e226, first_f126_e26, first_f126_e56, first_f116_e226, first_f116_e26, first_f116_e56]
theorem first_g0_G {xs : Nat → Int32} {n : Nat} {sf : Option Nat} (hsf : sf = none ∨ sf = some 1200000) : ∀ nd ∈ first_g0_nd, wGoes x_KT x_tb x_tyl (x_otS xs n sf) lwFR lwGA.length lwGB.length 5 24 42 firstWA firstWB 140 223 63 62 nd (first_g0_ex.map (fun x => (false, x))) := wGraph (fun nd hnd => by
  have hnd : nd ∈ ([first_in, first_c1, first_r1, first_r2, first_c1_out, first_f38, first_f64, first_c2, first_f38_e226, first_f38_e26, first_f38_e56, first_f64_e226, first_f64_e26, first_f64_e56, first_c2_out, first_c3, first_a119, first_a126, first_c3_out, first_f119, first_f126, first_f116, first_f119_e226, first_f119_e26, first_f119_e56, first_f126_e226, first_f126_e26, first_f126_e56, first_f116_e226, first_f116_e26, first_f116_e56] : List wE) := hnd
  simp only [List.mem_cons, List.not_mem_nil, or_false] at hnd
  rcases hnd with rfl | rfl | rfl | rfl | rfl | rfl | rfl | rfl | rfl | rfl | rfl | rfl | rfl | rfl | rfl | rfl | rfl | rfl | rfl | rfl | rfl | rfl | rfl | rfl | rfl | rfl | rfl | rfl | rfl | rfl | rfl
  · refine ⟨firsto1, firstN1 hsf, fun o ho => ?_⟩
    have ho : o ∈ ([(true, first_c1), (true, first_r1), (true, first_r2)] : List (Bool × wE)) := ho
    simp only [List.mem_cons, List.not_mem_nil, or_false] at ho
    rcases ho with rfl | rfl | rfl
    · exact Or.inr ⟨rfl, List.mem_cons_of_mem _ (List.mem_cons_self)⟩
    · exact Or.inr ⟨rfl, List.mem_cons_of_mem _ (List.mem_cons_of_mem _ (List.mem_cons_self))⟩
    · exact Or.inr ⟨rfl, List.mem_cons_of_mem _ (List.mem_cons_of_mem _ (List.mem_cons_of_mem _ (List.mem_cons_self)))⟩
  · refine ⟨firsto0, firstN0 hsf, fun o ho => ?_⟩
    have ho : o ∈ ([(true, first_c1_out)] : List (Bool × wE)) := ho
    simp only [List.mem_cons, List.not_mem_nil, or_false] at ho
    rcases ho with rfl
    · exact Or.inr ⟨rfl, List.mem_cons_of_mem _ (List.mem_cons_of_mem _ (List.mem_cons_of_mem _ (List.mem_cons_of_mem _ (List.mem_cons_self))))⟩
  · refine ⟨firsto7, firstN7 hsf, fun o ho => ?_⟩
    have ho : o ∈ ([(true, first_f38)] : List (Bool × wE)) := ho
    simp only [List.mem_cons, List.not_mem_nil, or_false] at ho
    rcases ho with rfl
    · exact Or.inr ⟨rfl, List.mem_cons_of_mem _ (List.mem_cons_of_mem _ (List.mem_cons_of_mem _ (List.mem_cons_of_mem _ (List.mem_cons_of_mem _ (List.mem_cons_self)))))⟩
  · refine ⟨firsto12, firstN12 hsf, fun o ho => ?_⟩
    have ho : o ∈ ([(true, first_f64)] : List (Bool × wE)) := ho
    simp only [List.mem_cons, List.not_mem_nil, or_false] at ho
    rcases ho with rfl
    · exact Or.inr ⟨rfl, List.mem_cons_of_mem _ (List.mem_cons_of_mem _ (List.mem_cons_of_mem _ (List.mem_cons_of_mem _ (List.mem_cons_of_mem _ (List.mem_cons_of_mem _ (List.mem_cons_self))))))⟩
  · refine ⟨firsto3, firstN3 hsf, fun o ho => ?_⟩
    have ho : o ∈ ([(true, first_c2)] : List (Bool × wE)) := ho
    simp only [List.mem_cons, List.not_mem_nil, or_false] at ho
    rcases ho with rfl
    · exact Or.inr ⟨rfl, List.mem_cons_of_mem _ (List.mem_cons_of_mem _ (List.mem_cons_of_mem _ (List.mem_cons_of_mem _ (List.mem_cons_of_mem _ (List.mem_cons_of_mem _ (List.mem_cons_of_mem _ (List.mem_cons_self)))))))⟩
  · refine ⟨firsto6, firstN6 hsf, fun o ho => ?_⟩
    have ho : o ∈ ([(true, first_f38_e226), (true, first_f38_e26), (true, first_f38_e56)] : List (Bool × wE)) := ho
    simp only [List.mem_cons, List.not_mem_nil, or_false] at ho
    rcases ho with rfl | rfl | rfl
    · exact Or.inr ⟨rfl, List.mem_cons_of_mem _ (List.mem_cons_of_mem _ (List.mem_cons_of_mem _ (List.mem_cons_of_mem _ (List.mem_cons_of_mem _ (List.mem_cons_of_mem _ (List.mem_cons_of_mem _ (List.mem_cons_of_mem _ (List.mem_cons_self))))))))⟩
    · exact Or.inr ⟨rfl, List.mem_cons_of_mem _ (List.mem_cons_of_mem _ (List.mem_cons_of_mem _ (List.mem_cons_of_mem _ (List.mem_cons_of_mem _ (List.mem_cons_of_mem _ (List.mem_cons_of_mem _ (List.mem_cons_of_mem _ (List.mem_cons_of_mem _ (List.mem_cons_self)))))))))⟩
    · exact Or.inr ⟨rfl, List.mem_cons_of_mem _ (List.mem_cons_of_mem _ (List.mem_cons_of_mem _ (List.mem_cons_of_mem _ (List.mem_cons_of_mem _ (List.mem_cons_of_mem _ (List.mem_cons_of_mem _ (List.mem_cons_of_mem _ (List.mem_cons_of_mem _ (List.mem_cons_of_mem _ (List.mem_cons_self))))))))))⟩
  · refine ⟨firsto11, firstN11 hsf, fun o ho => ?_⟩
    have ho : o ∈ ([(true, first_f64_e226), (true, first_f64_e26), (true, first_f64_e56)] : List (Bool × wE)) := ho
    simp only [List.mem_cons, List.not_mem_nil, or_false] at ho
    rcases ho with rfl | rfl | rfl
    · exact Or.inr ⟨rfl, List.mem_cons_of_mem _ (List.mem_cons_of_mem _ (List.mem_cons_of_mem _ (List.mem_cons_of_mem _ (List.mem_cons_of_mem _ (List.mem_cons_of_mem _ (List.mem_cons_of_mem _ (List.mem_cons_of_mem _ (List.mem_cons_of_mem _ (List.mem_cons_of_mem _ (List.mem_cons_of_mem _ (List.mem_cons_self)))))))))))⟩
    · exact Or.inr ⟨rfl, List.mem_cons_of_mem _ (List.mem_cons_of_mem _ (List.mem_cons_of_mem _ (List.mem_cons_of_mem _ (List.mem_cons_of_mem _ (List.mem_cons_of_mem _ (List.mem_cons_of_mem _ (List.mem_cons_of_mem _ (List.mem_cons_of_mem _ (List.mem_cons_of_mem _ (List.mem_cons_of_mem _ (List.mem_cons_of_mem _ (List.mem_cons_self))))))))))))⟩
    · exact Or.inr ⟨rfl, List.mem_cons_of_mem _ (List.mem_cons_of_mem _ (List.mem_cons_of_mem _ (List.mem_cons_of_mem _ (List.mem_cons_of_mem _ (List.mem_cons_of_mem _ (List.mem_cons_of_mem _ (List.mem_cons_of_mem _ (List.mem_cons_of_mem _ (List.mem_cons_of_mem _ (List.mem_cons_of_mem _ (List.mem_cons_of_mem _ (List.mem_cons_of_mem _ (List.mem_cons_self)))))))))))))⟩
  · refine ⟨firsto2, firstN2 hsf, fun o ho => ?_⟩
    have ho : o ∈ ([(true, first_c2_out)] : List (Bool × wE)) := ho
    simp only [List.mem_cons, List.not_mem_nil, or_false] at ho
    rcases ho with rfl
    · exact Or.inr ⟨rfl, List.mem_cons_of_mem _ (List.mem_cons_of_mem _ (List.mem_cons_of_mem _ (List.mem_cons_of_mem _ (List.mem_cons_of_mem _ (List.mem_cons_of_mem _ (List.mem_cons_of_mem _ (List.mem_cons_of_mem _ (List.mem_cons_of_mem _ (List.mem_cons_of_mem _ (List.mem_cons_of_mem _ (List.mem_cons_of_mem _ (List.mem_cons_of_mem _ (List.mem_cons_of_mem _ (List.mem_cons_self))))))))))))))⟩
  · refine ⟨firsto8, firstN8 hsf, fun o ho => ?_⟩
    have ho : o ∈ ([(false, first_out)] : List (Bool × wE)) := ho
    simp only [List.mem_cons, List.not_mem_nil, or_false] at ho
    rcases ho with rfl
    · exact Or.inl (List.mem_cons_self)
  · refine ⟨firsto9, firstN9 hsf, fun o ho => ?_⟩
    have ho : o ∈ ([(false, first_out)] : List (Bool × wE)) := ho
    simp only [List.mem_cons, List.not_mem_nil, or_false] at ho
    rcases ho with rfl
    · exact Or.inl (List.mem_cons_self)
  · refine ⟨firsto10, firstN10 hsf, fun o ho => ?_⟩
    have ho : o ∈ ([(false, first_out)] : List (Bool × wE)) := ho
    simp only [List.mem_cons, List.not_mem_nil, or_false] at ho
    rcases ho with rfl
    · exact Or.inl (List.mem_cons_self)
  · refine ⟨firsto13, firstN13 hsf, fun o ho => ?_⟩
    have ho : o ∈ ([(false, first_out)] : List (Bool × wE)) := ho
    simp only [List.mem_cons, List.not_mem_nil, or_false] at ho
    rcases ho with rfl
    · exact Or.inl (List.mem_cons_self)
  · refine ⟨firsto14, firstN14 hsf, fun o ho => ?_⟩
    have ho : o ∈ ([(false, first_out)] : List (Bool × wE)) := ho
    simp only [List.mem_cons, List.not_mem_nil, or_false] at ho
    rcases ho with rfl
    · exact Or.inl (List.mem_cons_self)
  · refine ⟨firsto15, firstN15 hsf, fun o ho => ?_⟩
    have ho : o ∈ ([(false, first_out)] : List (Bool × wE)) := ho
    simp only [List.mem_cons, List.not_mem_nil, or_false] at ho
    rcases ho with rfl
    · exact Or.inl (List.mem_cons_self)
  · refine ⟨firsto5, firstN5 hsf, fun o ho => ?_⟩
    have ho : o ∈ ([(true, first_c3), (true, first_a119), (true, first_a126)] : List (Bool × wE)) := ho
    simp only [List.mem_cons, List.not_mem_nil, or_false] at ho
    rcases ho with rfl | rfl | rfl
    · exact Or.inr ⟨rfl, List.mem_cons_of_mem _ (List.mem_cons_of_mem _ (List.mem_cons_of_mem _ (List.mem_cons_of_mem _ (List.mem_cons_of_mem _ (List.mem_cons_of_mem _ (List.mem_cons_of_mem _ (List.mem_cons_of_mem _ (List.mem_cons_of_mem _ (List.mem_cons_of_mem _ (List.mem_cons_of_mem _ (List.mem_cons_of_mem _ (List.mem_cons_of_mem _ (List.mem_cons_of_mem _ (List.mem_cons_of_mem _ (List.mem_cons_self)))))))))))))))⟩
    · exact Or.inr ⟨rfl, List.mem_cons_of_mem _ (List.mem_cons_of_mem _ (List.mem_cons_of_mem _ (List.mem_cons_of_mem _ (List.mem_cons_of_mem _ (List.mem_cons_of_mem _ (List.mem_cons_of_mem _ (List.mem_cons_of_mem _ (List.mem_cons_of_mem _ (List.mem_cons_of_mem _ (List.mem_cons_of_mem _ (List.mem_cons_of_mem _ (List.mem_cons_of_mem _ (List.mem_cons_of_mem _ (List.mem_cons_of_mem _ (List.mem_cons_of_mem _ (List.mem_cons_self))))))))))))))))⟩
    · exact Or.inr ⟨rfl, List.mem_cons_of_mem _ (List.mem_cons_of_mem _ (List.mem_cons_of_mem _ (List.mem_cons_of_mem _ (List.mem_cons_of_mem _ (List.mem_cons_of_mem _ (List.mem_cons_of_mem _ (List.mem_cons_of_mem _ (List.mem_cons_of_mem _ (List.mem_cons_of_mem _ (List.mem_cons_of_mem _ (List.mem_cons_of_mem _ (List.mem_cons_of_mem _ (List.mem_cons_of_mem _ (List.mem_cons_of_mem _ (List.mem_cons_of_mem _ (List.mem_cons_of_mem _ (List.mem_cons_self)))))))))))))))))⟩
  · refine ⟨firsto4, firstN4 hsf, fun o ho => ?_⟩
    have ho : o ∈ ([(true, first_c3_out)] : List (Bool × wE)) := ho
    simp only [List.mem_cons, List.not_mem_nil, or_false] at ho
    rcases ho with rfl
    · exact Or.inr ⟨rfl, List.mem_cons_of_mem _ (List.mem_cons_of_mem _ (List.mem_cons_of_mem _ (List.mem_cons_of_mem _ (List.mem_cons_of_mem _ (List.mem_cons_of_mem _ (List.mem_cons_of_mem _ (List.mem_cons_of_mem _ (List.mem_cons_of_mem _ (List.mem_cons_of_mem _ (List.mem_cons_of_mem _ (List.mem_cons_of_mem _ (List.mem_cons_of_mem _ (List.mem_cons_of_mem _ (List.mem_cons_of_mem _ (List.mem_cons_of_mem _ (List.mem_cons_of_mem _ (List.mem_cons_of_mem _ (List.mem_cons_self))))))))))))))))))⟩
  · refine ⟨firsto22, firstN22 hsf, fun o ho => ?_⟩
    have ho : o ∈ ([(true, first_f119)] : List (Bool × wE)) := ho
    simp only [List.mem_cons, List.not_mem_nil, or_false] at ho
    rcases ho with rfl
    · exact Or.inr ⟨rfl, List.mem_cons_of_mem _ (List.mem_cons_of_mem _ (List.mem_cons_of_mem _ (List.mem_cons_of_mem _ (List.mem_cons_of_mem _ (List.mem_cons_of_mem _ (List.mem_cons_of_mem _ (List.mem_cons_of_mem _ (List.mem_cons_of_mem _ (List.mem_cons_of_mem _ (List.mem_cons_of_mem _ (List.mem_cons_of_mem _ (List.mem_cons_of_mem _ (List.mem_cons_of_mem _ (List.mem_cons_of_mem _ (List.mem_cons_of_mem _ (List.mem_cons_of_mem _ (List.mem_cons_of_mem _ (List.mem_cons_of_mem _ (List.mem_cons_self)))))))))))))))))))⟩
  · refine ⟨firsto27, firstN27 hsf, fun o ho => ?_⟩
    have ho : o ∈ ([(true, first_f126)] : List (Bool × wE)) := ho
    simp only [List.mem_cons, List.not_mem_nil, or_false] at ho
    rcases ho with rfl
    · exact Or.inr ⟨rfl, List.mem_cons_of_mem _ (List.mem_cons_of_mem _ (List.mem_cons_of_mem _ (List.mem_cons_of_mem _ (List.mem_cons_of_mem _ (List.mem_cons_of_mem _ (List.mem_cons_of_mem _ (List.mem_cons_of_mem _ (List.mem_cons_of_mem _ (List.mem_cons_of_mem _ (List.mem_cons_of_mem _ (List.mem_cons_of_mem _ (List.mem_cons_of_mem _ (List.mem_cons_of_mem _ (List.mem_cons_of_mem _ (List.mem_cons_of_mem _ (List.mem_cons_of_mem _ (List.mem_cons_of_mem _ (List.mem_cons_of_mem _ (List.mem_cons_of_mem _ (List.mem_cons_self))))))))))))))))))))⟩
  · refine ⟨firsto17, firstN17 hsf, fun o ho => ?_⟩
    have ho : o ∈ ([(true, first_f116)] : List (Bool × wE)) := ho
    simp only [List.mem_cons, List.not_mem_nil, or_false] at ho
    rcases ho with rfl
    · exact Or.inr ⟨rfl, List.mem_cons_of_mem _ (List.mem_cons_of_mem _ (List.mem_cons_of_mem _ (List.mem_cons_of_mem _ (List.mem_cons_of_mem _ (List.mem_cons_of_mem _ (List.mem_cons_of_mem _ (List.mem_cons_of_mem _ (List.mem_cons_of_mem _ (List.mem_cons_of_mem _ (List.mem_cons_of_mem _ (List.mem_cons_of_mem _ (List.mem_cons_of_mem _ (List.mem_cons_of_mem _ (List.mem_cons_of_mem _ (List.mem_cons_of_mem _ (List.mem_cons_of_mem _ (List.mem_cons_of_mem _ (List.mem_cons_of_mem _ (List.mem_cons_of_mem _ (List.mem_cons_of_mem _ (List.mem_cons_self)))))))))))))))))))))⟩
  · refine ⟨firsto21, firstN21 hsf, fun o ho => ?_⟩
    have ho : o ∈ ([(true, first_f119_e226), (true, first_f119_e26), (true, first_f119_e56)] : List (Bool × wE)) := ho
    simp only [List.mem_cons, List.not_mem_nil, or_false] at ho
    rcases ho with rfl | rfl | rfl
    · exact Or.inr ⟨rfl, List.mem_cons_of_mem _ (List.mem_cons_of_mem _ (List.mem_cons_of_mem _ (List.mem_cons_of_mem _ (List.mem_cons_of_mem _ (List.mem_cons_of_mem _ (List.mem_cons_of_mem _ (List.mem_cons_of_mem _ (List.mem_cons_of_mem _ (List.mem_cons_of_mem _ (List.mem_cons_of_mem _ (List.mem_cons_of_mem _ (List.mem_cons_of_mem _ (List.mem_cons_of_mem _ (List.mem_cons_of_mem _ (List.mem_cons_of_mem _ (List.mem_cons_of_mem _ (List.mem_cons_of_mem _ (List.mem_cons_of_mem _ (List.mem_cons_of_mem _ (List.mem_cons_of_mem _ (List.mem_cons_of_mem _ (List.mem_cons_self))))))))))))))))))))))⟩
    · exact Or.inr ⟨rfl, List.mem_cons_of_mem _ (List.mem_cons_of_mem _ (List.mem_cons_of_mem _ (List.mem_cons_of_mem _ (List.mem_cons_of_mem _ (List.mem_cons_of_mem _ (List.mem_cons_of_mem _ (List.mem_cons_of_mem _ (List.mem_cons_of_mem _ (List.mem_cons_of_mem _ (List.mem_cons_of_mem _ (List.mem_cons_of_mem _ (List.mem_cons_of_mem _ (List.mem_cons_of_mem _ (List.mem_cons_of_mem _ (List.mem_cons_of_mem _ (List.mem_cons_of_mem _ (List.mem_cons_of_mem _ (List.mem_cons_of_mem _ (List.mem_cons_of_mem _ (List.mem_cons_of_mem _ (List.mem_cons_of_mem _ (List.mem_cons_of_mem _ (List.mem_cons_self)))))))))))))))))))))))⟩
    · exact Or.inr ⟨rfl, List.mem_cons_of_mem _ (List.mem_cons_of_mem _ (List.mem_cons_of_mem _ (List.mem_cons_of_mem _ (List.mem_cons_of_mem _ (List.mem_cons_of_mem _ (List.mem_cons_of_mem _ (List.mem_cons_of_mem _ (List.mem_cons_of_mem _ (List.mem_cons_of_mem _ (List.mem_cons_of_mem _ (List.mem_cons_of_mem _ (List.mem_cons_of_mem _ (List.mem_cons_of_mem _ (List.mem_cons_of_mem _ (List.mem_cons_of_mem _ (List.mem_cons_of_mem _ (List.mem_cons_of_mem _ (List.mem_cons_of_mem _ (List.mem_cons_of_mem _ (List.mem_cons_of_mem _ (List.mem_cons_of_mem _ (List.mem_cons_of_mem _ (List.mem_cons_of_mem _ (List.mem_cons_self))))))))))))))))))))))))⟩
  · refine ⟨firsto26, firstN26 hsf, fun o ho => ?_⟩
    have ho : o ∈ ([(true, first_f126_e226), (true, first_f126_e26), (true, first_f126_e56)] : List (Bool × wE)) := ho
    simp only [List.mem_cons, List.not_mem_nil, or_false] at ho
    rcases ho with rfl | rfl | rfl
    · exact Or.inr ⟨rfl, List.mem_cons_of_mem _ (List.mem_cons_of_mem _ (List.mem_cons_of_mem _ (List.mem_cons_of_mem _ (List.mem_cons_of_mem _ (List.mem_cons_of_mem _ (List.mem_cons_of_mem _ (List.mem_cons_of_mem _ (List.mem_cons_of_mem _ (List.mem_cons_of_mem _ (List.mem_cons_of_mem _ (List.mem_cons_of_mem _ (List.mem_cons_of_mem _ (List.mem_cons_of_mem _ (List.mem_cons_of_mem _ (List.mem_cons_of_mem _ (List.mem_cons_of_mem _ (List.mem_cons_of_mem _ (List.mem_cons_of_mem _ (List.mem_cons_of_mem _ (List.mem_cons_of_mem _ (List.mem_cons_of_mem _ (List.mem_cons_of_mem _ (List.mem_cons_of_mem _ (List.mem_cons_of_mem _ (List.mem_cons_self)))))))))))))))))))))))))⟩
    · exact Or.inr ⟨rfl, List.mem_cons_of_mem _ (List.mem_cons_of_mem _ (List.mem_cons_of_mem _ (List.mem_cons_of_mem _ (List.mem_cons_of_mem _ (List.mem_cons_of_mem _ (List.mem_cons_of_mem _ (List.mem_cons_of_mem _ (List.mem_cons_of_mem _ (List.mem_cons_of_mem _ (List.mem_cons_of_mem _ (List.mem_cons_of_mem _ (List.mem_cons_of_mem _ (List.mem_cons_of_mem _ (List.mem_cons_of_mem _ (List.mem_cons_of_mem _ (List.mem_cons_of_mem _ (List.mem_cons_of_mem _ (List.mem_cons_of_mem _ (List.mem_cons_of_mem _ (List.mem_cons_of_mem _ (List.mem_cons_of_mem _ (List.mem_cons_of_mem _ (List.mem_cons_of_mem _ (List.mem_cons_of_mem _ (List.mem_cons_of_mem _ (List.mem_cons_self))))))))))))))))))))))))))⟩
    · exact Or.inr ⟨rfl, List.mem_cons_of_mem _ (List.mem_cons_of_mem _ (List.mem_cons_of_mem _ (List.mem_cons_of_mem _ (List.mem_cons_of_mem _ (List.mem_cons_of_mem _ (List.mem_cons_of_mem _ (List.mem_cons_of_mem _ (List.mem_cons_of_mem _ (List.mem_cons_of_mem _ (List.mem_cons_of_mem _ (List.mem_cons_of_mem _ (List.mem_cons_of_mem _ (List.mem_cons_of_mem _ (List.mem_cons_of_mem _ (List.mem_cons_of_mem _ (List.mem_cons_of_mem _ (List.mem_cons_of_mem _ (List.mem_cons_of_mem _ (List.mem_cons_of_mem _ (List.mem_cons_of_mem _ (List.mem_cons_of_mem _ (List.mem_cons_of_mem _ (List.mem_cons_of_mem _ (List.mem_cons_of_mem _ (List.mem_cons_of_mem _ (List.mem_cons_of_mem _ (List.mem_cons_self)))))))))))))))))))))))))))⟩
  · refine ⟨firsto16, firstN16 hsf, fun o ho => ?_⟩
    have ho : o ∈ ([(true, first_f116_e226), (true, first_f116_e26), (true, first_f116_e56)] : List (Bool × wE)) := ho
    simp only [List.mem_cons, List.not_mem_nil, or_false] at ho
    rcases ho with rfl | rfl | rfl
    · exact Or.inr ⟨rfl, List.mem_cons_of_mem _ (List.mem_cons_of_mem _ (List.mem_cons_of_mem _ (List.mem_cons_of_mem _ (List.mem_cons_of_mem _ (List.mem_cons_of_mem _ (List.mem_cons_of_mem _ (List.mem_cons_of_mem _ (List.mem_cons_of_mem _ (List.mem_cons_of_mem _ (List.mem_cons_of_mem _ (List.mem_cons_of_mem _ (List.mem_cons_of_mem _ (List.mem_cons_of_mem _ (List.mem_cons_of_mem _ (List.mem_cons_of_mem _ (List.mem_cons_of_mem _ (List.mem_cons_of_mem _ (List.mem_cons_of_mem _ (List.mem_cons_of_mem _ (List.mem_cons_of_mem _ (List.mem_cons_of_mem _ (List.mem_cons_of_mem _ (List.mem_cons_of_mem _ (List.mem_cons_of_mem _ (List.mem_cons_of_mem _ (List.mem_cons_of_mem _ (List.mem_cons_of_mem _ (List.mem_cons_self))))))))))))))))))))))))))))⟩
    · exact Or.inr ⟨rfl, List.mem_cons_of_mem _ (List.mem_cons_of_mem _ (List.mem_cons_of_mem _ (List.mem_cons_of_mem _ (List.mem_cons_of_mem _ (List.mem_cons_of_mem _ (List.mem_cons_of_mem _ (List.mem_cons_of_mem _ (List.mem_cons_of_mem _ (List.mem_cons_of_mem _ (List.mem_cons_of_mem _ (List.mem_cons_of_mem _ (List.mem_cons_of_mem _ (List.mem_cons_of_mem _ (List.mem_cons_of_mem _ (List.mem_cons_of_mem _ (List.mem_cons_of_mem _ (List.mem_cons_of_mem _ (List.mem_cons_of_mem _ (List.mem_cons_of_mem _ (List.mem_cons_of_mem _ (List.mem_cons_of_mem _ (List.mem_cons_of_mem _ (List.mem_cons_of_mem _ (List.mem_cons_of_mem _ (List.mem_cons_of_mem _ (List.mem_cons_of_mem _ (List.mem_cons_of_mem _ (List.mem_cons_of_mem _ (List.mem_cons_self)))))))))))))))))))))))))))))⟩
    · exact Or.inr ⟨rfl, List.mem_cons_of_mem _ (List.mem_cons_of_mem _ (List.mem_cons_of_mem _ (List.mem_cons_of_mem _ (List.mem_cons_of_mem _ (List.mem_cons_of_mem _ (List.mem_cons_of_mem _ (List.mem_cons_of_mem _ (List.mem_cons_of_mem _ (List.mem_cons_of_mem _ (List.mem_cons_of_mem _ (List.mem_cons_of_mem _ (List.mem_cons_of_mem _ (List.mem_cons_of_mem _ (List.mem_cons_of_mem _ (List.mem_cons_of_mem _ (List.mem_cons_of_mem _ (List.mem_cons_of_mem _ (List.mem_cons_of_mem _ (List.mem_cons_of_mem _ (List.mem_cons_of_mem _ (List.mem_cons_of_mem _ (List.mem_cons_of_mem _ (List.mem_cons_of_mem _ (List.mem_cons_of_mem _ (List.mem_cons_of_mem _ (List.mem_cons_of_mem _ (List.mem_cons_of_mem _ (List.mem_cons_of_mem _ (List.mem_cons_of_mem _ (List.mem_cons_self))))))))))))))))))))))))))))))⟩
  · refine ⟨firsto23, firstN23 hsf, fun o ho => ?_⟩
    have ho : o ∈ ([(false, first_out)] : List (Bool × wE)) := ho
    simp only [List.mem_cons, List.not_mem_nil, or_false] at ho
    rcases ho with rfl
    · exact Or.inl (List.mem_cons_self)
  · refine ⟨firsto24, firstN24 hsf, fun o ho => ?_⟩
    have ho : o ∈ ([(false, first_out)] : List (Bool × wE)) := ho
    simp only [List.mem_cons, List.not_mem_nil, or_false] at ho
    rcases ho with rfl
    · exact Or.inl (List.mem_cons_self)
  · refine ⟨firsto25, firstN25 hsf, fun o ho => ?_⟩
    have ho : o ∈ ([(false, first_out)] : List (Bool × wE)) := ho
    simp only [List.mem_cons, List.not_mem_nil, or_false] at ho
    rcases ho with rfl
    · exact Or.inl (List.mem_cons_self)
  · refine ⟨firsto28, firstN28 hsf, fun o ho => ?_⟩
    have ho : o ∈ ([(false, first_out)] : List (Bool × wE)) := ho
    simp only [List.mem_cons, List.not_mem_nil, or_false] at ho
    rcases ho with rfl
    · exact Or.inl (List.mem_cons_self)
  · refine ⟨firsto29, firstN29 hsf, fun o ho => ?_⟩
    have ho : o ∈ ([(false, first_out)] : List (Bool × wE)) := ho
    simp only [List.mem_cons, List.not_mem_nil, or_false] at ho
    rcases ho with rfl
    · exact Or.inl (List.mem_cons_self)
  · refine ⟨firsto30, firstN30 hsf, fun o ho => ?_⟩
    have ho : o ∈ ([(false, first_out)] : List (Bool × wE)) := ho
    simp only [List.mem_cons, List.not_mem_nil, or_false] at ho
    rcases ho with rfl
    · exact Or.inl (List.mem_cons_self)
  · refine ⟨firsto18, firstN18 hsf, fun o ho => ?_⟩
    have ho : o ∈ ([(false, first_out)] : List (Bool × wE)) := ho
    simp only [List.mem_cons, List.not_mem_nil, or_false] at ho
    rcases ho with rfl
    · exact Or.inl (List.mem_cons_self)
  · refine ⟨firsto19, firstN19 hsf, fun o ho => ?_⟩
    have ho : o ∈ ([(false, first_out)] : List (Bool × wE)) := ho
    simp only [List.mem_cons, List.not_mem_nil, or_false] at ho
    rcases ho with rfl
    · exact Or.inl (List.mem_cons_self)
  · refine ⟨firsto20, firstN20 hsf, fun o ho => ?_⟩
    have ho : o ∈ ([(false, first_out)] : List (Bool × wE)) := ho
    simp only [List.mem_cons, List.not_mem_nil, or_false] at ho
    rcases ho with rfl
    · exact Or.inl (List.mem_cons_self))
theorem firstH {xs : Nat → Int32} {n : Nat} {sf : Option Nat} (hsf : sf = none ∨ sf = some 1200000) : wGoes x_KT x_tb x_tyl (x_otS xs n sf) lwFS lwGA.length lwGB.length 5 24 42 firstWA firstWB 140 223 63 62 first_in (firstOX.map (fun x => x.1)) :=
  wFSr (FS := lwFR) (nh := 29) (wFam (V := []) lwFRok (by decide +kernel) (by decide +kernel) (first_g0_G hsf first_in List.mem_cons_self) (by decide) (by decide) (fun i hi u hu => by
  have hi : i ∈ ([] : List Nat) := hi
  simp only [List.mem_cons, List.not_mem_nil, or_false] at hi)) lwFRp (by decide) (by decide +kernel)
theorem firstPP {xs : Nat → Int32} {n : Nat} {sf : Option Nat} (hsf : sf = none ∨ sf = some 1200000) : bPP x_KT x_tb x_tyl (x_otS xs n sf) lwN lwP 1299 140 223 4 (mMc xm140 + mMc xm223) (mRc xm140) (mRc xm223) False :=
  wBlkN lwFok lwFB uKa uKb (by decide +kernel) (by decide +kernel) uKdj uKj firstbc (firstH hsf) gq140 gq223 (by decide) (by decide) (uKeep (by decide +kernel)) (by decide +kernel) (by decide +kernel) (by decide +kernel)
set_option maxRecDepth 1000000 in
theorem gq221 : tMth x_tb 221 = some xm221 := rfl
theorem bbN0 {xs : Nat → Int32} {n : Nat} {sf : Option Nat} (hsf : sf = none ∨ sf = some 1200000) : wGoes x_KT x_tb x_tyl (x_otS xs n sf) lwFR lwGA.length lwGB.length 6 24 42 bbWA bbWB 113 221 60 62 bb_c bbo0 :=
  wDp (wWk (wEqvB (wCallB (recv := 0) (pc := 116) (ix := 339) (nx := 3) (args := [.inl (lSy 19), .inl (lSy 20), .inl (lSy 21)]) (rest := []) (LE := [(0, .inr (some 0)), (2, .inr (some 21)), (3, .inr (some 22)), (4, .inr (some 23))]) (cE := (lK 27)) (sE := (lK 180)) (wReL (XA := bbX0.2.1) (XB := bbX0.2.2.1) (XC := bbX0.2.2.2.1) (rk := bbX0.2.2.2.2) (rA := bbQA0) (rB := bbQB0) (tr_g0_G hsf _ List.mem_cons_self) bbL0) gq221 gq222 (by decide +kernel) (by decide +kernel) (by decide +kernel) (by decide +kernel) (by decide +kernel)) (by decide +kernel) (by decide +kernel)) (by decide) (by decide) (by decide) (by decide +kernel) (by decide +kernel)) (by decide) (by decide)
theorem bbN1 {xs : Nat → Int32} {n : Nat} {sf : Option Nat} (hsf : sf = none ∨ sf = some 1200000) : wGoes x_KT x_tb x_tyl (x_otS xs n sf) lwFR lwGA.length lwGB.length 6 24 42 bbWA bbWB 113 221 60 62 bb_in bbo1 :=
  wDp (wWk (wFamE2 (V := [2]) (x_ov0_le sf) u_ctS lwFRok bbE1 (by decide) (by decide) (fun i hi u hu => by
      have hi : i ∈ ([2] : List Nat) := hi
      simp only [List.mem_cons, List.not_mem_nil, or_false] at hi
      rcases hi with rfl
      · cases hu
        exact wRkE_spec (x_ov0_le sf) u_ctS lwFRok bbE1R2)) (Nat.le_refl _) (Nat.le_refl _) (Nat.le_refl _) (by decide +kernel) (by decide +kernel)) (by decide) (by decide)
theorem bbN2 {xs : Nat → Int32} {n : Nat} {sf : Option Nat} (hsf : sf = none ∨ sf = some 1200000) : wGoes x_KT x_tb x_tyl (x_otS xs n sf) lwFR lwGA.length lwGB.length 6 24 42 bbWA bbWB 113 221 60 62 bb_c_out bbo2 :=
  wDp (wWk (wEd_spec (x_ov0_le sf) u_ctS lwFRok bbE2) (Nat.le_refl _) (Nat.le_refl _) (Nat.le_refl _) (by decide +kernel) (by decide +kernel)) (by decide) (by decide)
set_option maxRecDepth 1000000 in
theorem gq146 : tMth x_tb 146 = some xm146 := rfl
theorem besideN0 {xs : Nat → Int32} {n : Nat} {sf : Option Nat} (hsf : sf = none ∨ sf = some 1200000) : wGoes x_KT x_tb x_tyl (x_otS xs n sf) lwFR lwGA.length lwGB.length 5 24 42 besideWA besideWB 146 221 62 62 beside_c1 besideo0 :=
  wDp (wWk (wEqvB (wCallA (recv := 0) (pc := 13) (ix := 372) (nx := 3) (args := [.inl (lSy 11), .inl (lSy 12)]) (rest := []) (LE := [(0, .inr (some 0)), (1, .inl (lSy 5))]) (cE := (lK 0)) (sE := (lK 0)) (wLift (dpB := 60) (pc := 0) (pcP := 43) (nx := 1) (LE := [(0, .inr (some 0)), (1, .inl (lSy 5))]) (SE := []) (cE := (lK 0)) (sE := (lK 0)) (wReL (XA := besideX0.2.1) (XB := besideX0.2.2.1) (XC := besideX0.2.2.2.1) (rk := besideX0.2.2.2.2) (rA := besideQA0) (rB := besideQB0) (rt_g0_G hsf _ List.mem_cons_self) besideL0) gq221 gq244 (by decide +kernel) (by decide +kernel) (by decide +kernel) (by decide +kernel)) gq146 gq141 (by decide +kernel) (by decide +kernel) (by decide +kernel) (by decide +kernel) (by decide +kernel)) (by decide +kernel) (by decide +kernel)) (by decide) (by decide) (by decide) (by decide +kernel) (by decide +kernel)) (by decide) (by decide)
theorem besideN1 {xs : Nat → Int32} {n : Nat} {sf : Option Nat} (hsf : sf = none ∨ sf = some 1200000) : wGoes x_KT x_tb x_tyl (x_otS xs n sf) lwFR lwGA.length lwGB.length 5 24 42 besideWA besideWB 146 221 62 62 beside_in besideo1 :=
  wDp (wWk (wEd_spec (x_ov0_le sf) u_ctS lwFRok besideE1) (Nat.le_refl _) (Nat.le_refl _) (Nat.le_refl _) (by decide +kernel) (by decide +kernel)) (by decide) (by decide)
theorem besideN2 {xs : Nat → Int32} {n : Nat} {sf : Option Nat} (hsf : sf = none ∨ sf = some 1200000) : wGoes x_KT x_tb x_tyl (x_otS xs n sf) lwFR lwGA.length lwGB.length 5 24 42 besideWA besideWB 146 221 62 62 beside_c3 besideo2 :=
  wDp (wWk (wEqvB (wCallA (recv := 0) (pc := 20) (ix := 380) (nx := 3) (args := [.inl (lSy 16), .inl (lSy 17), .inl (lSy 18)]) (rest := []) (LE := [(0, .inr (some 0)), (1, .inl (lSy 5))]) (cE := (lK 0)) (sE := (lK 0)) (wLift (dpB := 60) (pc := 0) (pcP := 43) (nx := 1) (LE := [(0, .inr (some 0)), (1, .inl (lSy 5))]) (SE := []) (cE := (lK 0)) (sE := (lK 0)) (wReL (XA := besideX2.2.1) (XB := besideX2.2.2.1) (XC := besideX2.2.2.2.1) (rk := besideX2.2.2.2.2) (rA := besideQA2) (rB := besideQB2) (rh_g0_G hsf _ List.mem_cons_self) besideL2) gq221 gq244 (by decide +kernel) (by decide +kernel) (by decide +kernel) (by decide +kernel)) gq146 gq144 (by decide +kernel) (by decide +kernel) (by decide +kernel) (by decide +kernel) (by decide +kernel)) (by decide +kernel) (by decide +kernel)) (by decide) (by decide) (by decide) (by decide +kernel) (by decide +kernel)) (by decide) (by decide)
theorem besideN3 {xs : Nat → Int32} {n : Nat} {sf : Option Nat} (hsf : sf = none ∨ sf = some 1200000) : wGoes x_KT x_tb x_tyl (x_otS xs n sf) lwFR lwGA.length lwGB.length 5 24 42 besideWA besideWB 146 221 62 62 beside_c1_out besideo3 :=
  wDp (wWk (wEd_spec (x_ov0_le sf) u_ctS lwFRok besideE3) (Nat.le_refl _) (Nat.le_refl _) (Nat.le_refl _) (by decide +kernel) (by decide +kernel)) (by decide) (by decide)
def bb_g0_nd : List wE := [bb_in, bb_c, bb_c_out]
theorem bb_g0_G {xs : Nat → Int32} {n : Nat} {sf : Option Nat} (hsf : sf = none ∨ sf = some 1200000) : ∀ nd ∈ bb_g0_nd, wGoes x_KT x_tb x_tyl (x_otS xs n sf) lwFR lwGA.length lwGB.length 6 24 42 bbWA bbWB 113 221 60 62 nd (bb_g0_ex.map (fun x => (false, x))) := wGraph (fun nd hnd => by
  have hnd : nd ∈ ([bb_in, bb_c, bb_c_out] : List wE) := hnd
  simp only [List.mem_cons, List.not_mem_nil, or_false] at hnd
  rcases hnd with rfl | rfl | rfl
  · refine ⟨bbo1, bbN1 hsf, fun o ho => ?_⟩
    have ho : o ∈ ([(true, bb_c), (false, bb_e9)] : List (Bool × wE)) := ho
    simp only [List.mem_cons, List.not_mem_nil, or_false] at ho
    rcases ho with rfl | rfl
    · exact Or.inr ⟨rfl, List.mem_cons_of_mem _ (List.mem_cons_self)⟩
    · exact Or.inl (List.mem_cons_of_mem _ (List.mem_cons_self))
  · refine ⟨bbo0, bbN0 hsf, fun o ho => ?_⟩
    have ho : o ∈ ([(true, bb_c_out)] : List (Bool × wE)) := ho
    simp only [List.mem_cons, List.not_mem_nil, or_false] at ho
    rcases ho with rfl
    · exact Or.inr ⟨rfl, List.mem_cons_of_mem _ (List.mem_cons_of_mem _ (List.mem_cons_self))⟩
  · refine ⟨bbo2, bbN2 hsf, fun o ho => ?_⟩
    have ho : o ∈ ([(false, bb_e139)] : List (Bool × wE)) := ho
    simp only [List.mem_cons, List.not_mem_nil, or_false] at ho
    rcases ho with rfl
    · exact Or.inl (List.mem_cons_self))
theorem besideN4 {xs : Nat → Int32} {n : Nat} {sf : Option Nat} (hsf : sf = none ∨ sf = some 1200000) : wGoes x_KT x_tb x_tyl (x_otS xs n sf) lwFR lwGA.length lwGB.length 5 24 42 besideWA besideWB 146 221 62 62 beside_f9 besideo4 :=
  wDp (wWk (wEqvB (wLiftA (dpA := 60) (pc := 9) (pcP := 22) (nx := 1) (LE := []) (SE := [.inl (lK (-2))]) (cE := (lK 0)) (sE := (lK 0)) (wReL (XA := besideX4.2.1) (XB := besideX4.2.2.1) (XC := besideX4.2.2.2.1) (rk := besideX4.2.2.2.2) (rA := besideQA4) (rB := besideQB4) (bb_g0_G hsf _ List.mem_cons_self) besideL4) gq146 gq113 (by decide +kernel) (by decide +kernel) (by decide +kernel) (by decide +kernel)) (by decide +kernel) (by decide +kernel)) (by decide) (by decide) (by decide) (by decide +kernel) (by decide +kernel)) (by decide) (by decide)
theorem besideN5 {xs : Nat → Int32} {n : Nat} {sf : Option Nat} (hsf : sf = none ∨ sf = some 1200000) : wGoes x_KT x_tb x_tyl (x_otS xs n sf) lwFR lwGA.length lwGB.length 5 24 42 besideWA besideWB 146 221 62 62 beside_r1 besideo5 :=
  wDp (wWk (wEd_spec (x_ov0_le sf) u_ctS lwFRok besideE5) (Nat.le_refl _) (Nat.le_refl _) (Nat.le_refl _) (by decide +kernel) (by decide +kernel)) (by decide) (by decide)
theorem besideN6 {xs : Nat → Int32} {n : Nat} {sf : Option Nat} (hsf : sf = none ∨ sf = some 1200000) : wGoes x_KT x_tb x_tyl (x_otS xs n sf) lwFR lwGA.length lwGB.length 5 24 42 besideWA besideWB 146 221 62 62 beside_f9_e139 besideo6 :=
  wDp (wWk (wEd_spec (x_ov0_le sf) u_ctS lwFRok besideE6) (Nat.le_refl _) (Nat.le_refl _) (Nat.le_refl _) (by decide +kernel) (by decide +kernel)) (by decide) (by decide)
theorem besideN7 {xs : Nat → Int32} {n : Nat} {sf : Option Nat} (hsf : sf = none ∨ sf = some 1200000) : wGoes x_KT x_tb x_tyl (x_otS xs n sf) lwFR lwGA.length lwGB.length 5 24 42 besideWA besideWB 146 221 62 62 beside_f9_e9 besideo7 :=
  wDp (wWk (wEd_spec (x_ov0_le sf) u_ctS lwFRok besideE7) (Nat.le_refl _) (Nat.le_refl _) (Nat.le_refl _) (by decide +kernel) (by decide +kernel)) (by decide) (by decide)
theorem besideN8 {xs : Nat → Int32} {n : Nat} {sf : Option Nat} (hsf : sf = none ∨ sf = some 1200000) : wGoes x_KT x_tb x_tyl (x_otS xs n sf) lwFR lwGA.length lwGB.length 5 24 42 besideWA besideWB 146 221 62 62 beside_f23 besideo8 :=
  wDp (wWk (wEqvB (wLiftA (dpA := 60) (pc := 23) (pcP := 22) (nx := 1) (LE := []) (SE := [.inl (lSy 5)]) (cE := (lK 0)) (sE := (lK 0)) (wReL (XA := besideX8.2.1) (XB := besideX8.2.2.1) (XC := besideX8.2.2.2.1) (rk := besideX8.2.2.2.2) (rA := besideQA8) (rB := besideQB8) (bb_g0_G hsf _ List.mem_cons_self) besideL8) gq146 gq113 (by decide +kernel) (by decide +kernel) (by decide +kernel) (by decide +kernel)) (by decide +kernel) (by decide +kernel)) (by decide) (by decide) (by decide) (by decide +kernel) (by decide +kernel)) (by decide) (by decide)
theorem besideN9 {xs : Nat → Int32} {n : Nat} {sf : Option Nat} (hsf : sf = none ∨ sf = some 1200000) : wGoes x_KT x_tb x_tyl (x_otS xs n sf) lwFR lwGA.length lwGB.length 5 24 42 besideWA besideWB 146 221 62 62 beside_c3_out besideo9 :=
  wDp (wWk (wEd_spec (x_ov0_le sf) u_ctS lwFRok besideE9) (Nat.le_refl _) (Nat.le_refl _) (Nat.le_refl _) (by decide +kernel) (by decide +kernel)) (by decide) (by decide)
theorem besideN10 {xs : Nat → Int32} {n : Nat} {sf : Option Nat} (hsf : sf = none ∨ sf = some 1200000) : wGoes x_KT x_tb x_tyl (x_otS xs n sf) lwFR lwGA.length lwGB.length 5 24 42 besideWA besideWB 146 221 62 62 beside_f23_e139 besideo10 :=
  wDp (wWk (wEd_spec (x_ov0_le sf) u_ctS lwFRok besideE10) (Nat.le_refl _) (Nat.le_refl _) (Nat.le_refl _) (by decide +kernel) (by decide +kernel)) (by decide) (by decide)
theorem besideN11 {xs : Nat → Int32} {n : Nat} {sf : Option Nat} (hsf : sf = none ∨ sf = some 1200000) : wGoes x_KT x_tb x_tyl (x_otS xs n sf) lwFR lwGA.length lwGB.length 5 24 42 besideWA besideWB 146 221 62 62 beside_f23_e9 besideo11 :=
  wDp (wWk (wEd_spec (x_ov0_le sf) u_ctS lwFRok besideE11) (Nat.le_refl _) (Nat.le_refl _) (Nat.le_refl _) (by decide +kernel) (by decide +kernel)) (by decide) (by decide)
def beside_g0_nd : List wE := [beside_in, beside_c1, beside_r1, beside_c1_out, beside_f9, beside_c3, beside_f9_e139, beside_f9_e9, beside_c3_out, beside_f23, beside_f23_e139, beside_f23_e9]
theorem beside_g0_G {xs : Nat → Int32} {n : Nat} {sf : Option Nat} (hsf : sf = none ∨ sf = some 1200000) : ∀ nd ∈ beside_g0_nd, wGoes x_KT x_tb x_tyl (x_otS xs n sf) lwFR lwGA.length lwGB.length 5 24 42 besideWA besideWB 146 221 62 62 nd (beside_g0_ex.map (fun x => (false, x))) := wGraph (fun nd hnd => by
  have hnd : nd ∈ ([beside_in, beside_c1, beside_r1, beside_c1_out, beside_f9, beside_c3, beside_f9_e139, beside_f9_e9, beside_c3_out, beside_f23, beside_f23_e139, beside_f23_e9] : List wE) := hnd
  simp only [List.mem_cons, List.not_mem_nil, or_false] at hnd
  rcases hnd with rfl | rfl | rfl | rfl | rfl | rfl | rfl | rfl | rfl | rfl | rfl | rfl
  · refine ⟨besideo1, besideN1 hsf, fun o ho => ?_⟩
    have ho : o ∈ ([(true, beside_c1), (true, beside_r1)] : List (Bool × wE)) := ho
    simp only [List.mem_cons, List.not_mem_nil, or_false] at ho
    rcases ho with rfl | rfl
    · exact Or.inr ⟨rfl, List.mem_cons_of_mem _ (List.mem_cons_self)⟩
    · exact Or.inr ⟨rfl, List.mem_cons_of_mem _ (List.mem_cons_of_mem _ (List.mem_cons_self))⟩
  · refine ⟨besideo0, besideN0 hsf, fun o ho => ?_⟩
    have ho : o ∈ ([(true, beside_c1_out)] : List (Bool × wE)) := ho
    simp only [List.mem_cons, List.not_mem_nil, or_false] at ho
    rcases ho with rfl
    · exact Or.inr ⟨rfl, List.mem_cons_of_mem _ (List.mem_cons_of_mem _ (List.mem_cons_of_mem _ (List.mem_cons_self)))⟩
  · refine ⟨besideo5, besideN5 hsf, fun o ho => ?_⟩
    have ho : o ∈ ([(true, beside_f9)] : List (Bool × wE)) := ho
    simp only [List.mem_cons, List.not_mem_nil, or_false] at ho
    rcases ho with rfl
    · exact Or.inr ⟨rfl, List.mem_cons_of_mem _ (List.mem_cons_of_mem _ (List.mem_cons_of_mem _ (List.mem_cons_of_mem _ (List.mem_cons_self))))⟩
  · refine ⟨besideo3, besideN3 hsf, fun o ho => ?_⟩
    have ho : o ∈ ([(true, beside_c3)] : List (Bool × wE)) := ho
    simp only [List.mem_cons, List.not_mem_nil, or_false] at ho
    rcases ho with rfl
    · exact Or.inr ⟨rfl, List.mem_cons_of_mem _ (List.mem_cons_of_mem _ (List.mem_cons_of_mem _ (List.mem_cons_of_mem _ (List.mem_cons_of_mem _ (List.mem_cons_self)))))⟩
  · refine ⟨besideo4, besideN4 hsf, fun o ho => ?_⟩
    have ho : o ∈ ([(true, beside_f9_e139), (true, beside_f9_e9)] : List (Bool × wE)) := ho
    simp only [List.mem_cons, List.not_mem_nil, or_false] at ho
    rcases ho with rfl | rfl
    · exact Or.inr ⟨rfl, List.mem_cons_of_mem _ (List.mem_cons_of_mem _ (List.mem_cons_of_mem _ (List.mem_cons_of_mem _ (List.mem_cons_of_mem _ (List.mem_cons_of_mem _ (List.mem_cons_self))))))⟩
    · exact Or.inr ⟨rfl, List.mem_cons_of_mem _ (List.mem_cons_of_mem _ (List.mem_cons_of_mem _ (List.mem_cons_of_mem _ (List.mem_cons_of_mem _ (List.mem_cons_of_mem _ (List.mem_cons_of_mem _ (List.mem_cons_self)))))))⟩
  · refine ⟨besideo2, besideN2 hsf, fun o ho => ?_⟩
    have ho : o ∈ ([(true, beside_c3_out)] : List (Bool × wE)) := ho
    simp only [List.mem_cons, List.not_mem_nil, or_false] at ho
    rcases ho with rfl
    · exact Or.inr ⟨rfl, List.mem_cons_of_mem _ (List.mem_cons_of_mem _ (List.mem_cons_of_mem _ (List.mem_cons_of_mem _ (List.mem_cons_of_mem _ (List.mem_cons_of_mem _ (List.mem_cons_of_mem _ (List.mem_cons_of_mem _ (List.mem_cons_self))))))))⟩
  · refine ⟨besideo6, besideN6 hsf, fun o ho => ?_⟩
    have ho : o ∈ ([(false, beside_out)] : List (Bool × wE)) := ho
    simp only [List.mem_cons, List.not_mem_nil, or_false] at ho
    rcases ho with rfl
    · exact Or.inl (List.mem_cons_self)
  · refine ⟨besideo7, besideN7 hsf, fun o ho => ?_⟩
    have ho : o ∈ ([(false, beside_out)] : List (Bool × wE)) := ho
    simp only [List.mem_cons, List.not_mem_nil, or_false] at ho
    rcases ho with rfl
    · exact Or.inl (List.mem_cons_self)
  · refine ⟨besideo9, besideN9 hsf, fun o ho => ?_⟩
    have ho : o ∈ ([(true, beside_f23)] : List (Bool × wE)) := ho
    simp only [List.mem_cons, List.not_mem_nil, or_false] at ho
    rcases ho with rfl
    · exact Or.inr ⟨rfl, List.mem_cons_of_mem _ (List.mem_cons_of_mem _ (List.mem_cons_of_mem _ (List.mem_cons_of_mem _ (List.mem_cons_of_mem _ (List.mem_cons_of_mem _ (List.mem_cons_of_mem _ (List.mem_cons_of_mem _ (List.mem_cons_of_mem _ (List.mem_cons_self)))))))))⟩
  · refine ⟨besideo8, besideN8 hsf, fun o ho => ?_⟩
    have ho : o ∈ ([(true, beside_f23_e139), (true, beside_f23_e9)] : List (Bool × wE)) := ho
    simp only [List.mem_cons, List.not_mem_nil, or_false] at ho
    rcases ho with rfl | rfl
    · exact Or.inr ⟨rfl, List.mem_cons_of_mem _ (List.mem_cons_of_mem _ (List.mem_cons_of_mem _ (List.mem_cons_of_mem _ (List.mem_cons_of_mem _ (List.mem_cons_of_mem _ (List.mem_cons_of_mem _ (List.mem_cons_of_mem _ (List.mem_cons_of_mem _ (List.mem_cons_of_mem _ (List.mem_cons_self))))))))))⟩
    · exact Or.inr ⟨rfl, List.mem_cons_of_mem _ (List.mem_cons_of_mem _ (List.mem_cons_of_mem _ (List.mem_cons_of_mem _ (List.mem_cons_of_mem _ (List.mem_cons_of_mem _ (List.mem_cons_of_mem _ (List.mem_cons_of_mem _ (List.mem_cons_of_mem _ (List.mem_cons_of_mem _ (List.mem_cons_of_mem _ (List.mem_cons_self)))))))))))⟩
  · refine ⟨besideo10, besideN10 hsf, fun o ho => ?_⟩
    have ho : o ∈ ([(false, beside_out)] : List (Bool × wE)) := ho
    simp only [List.mem_cons, List.not_mem_nil, or_false] at ho
    rcases ho with rfl
    · exact Or.inl (List.mem_cons_self)
  · refine ⟨besideo11, besideN11 hsf, fun o ho => ?_⟩
    have ho : o ∈ ([(false, beside_out)] : List (Bool × wE)) := ho
    simp only [List.mem_cons, List.not_mem_nil, or_false] at ho
    rcases ho with rfl
    · exact Or.inl (List.mem_cons_self))
theorem besideH {xs : Nat → Int32} {n : Nat} {sf : Option Nat} (hsf : sf = none ∨ sf = some 1200000) : wGoes x_KT x_tb x_tyl (x_otS xs n sf) lwFS lwGA.length lwGB.length 5 24 42 besideWA besideWB 146 221 62 62 beside_in (besideOX.map (fun x => x.1)) :=
  wFSr (FS := lwFR) (nh := 29) (wFam (V := []) lwFRok (by decide +kernel) (by decide +kernel) (beside_g0_G hsf beside_in List.mem_cons_self) (by decide) (by decide) (fun i hi u hu => by
  have hi : i ∈ ([] : List Nat) := hi
  simp only [List.mem_cons, List.not_mem_nil, or_false] at hi)) lwFRp (by decide) (by decide +kernel)
theorem besidePP {xs : Nat → Int32} {n : Nat} {sf : Option Nat} (hsf : sf = none ∨ sf = some 1200000) : bPP x_KT x_tb x_tyl (x_otS xs n sf) lwN lwP 1299 146 221 1 (mMc xm146 + mMc xm221) (mRc xm146) (mRc xm221) False :=
  wBlkN lwFok lwFB uKa uKb (by decide +kernel) (by decide +kernel) uKdj uKj besidebc (besideH hsf) gq146 gq221 (by decide) (by decide) (uKeep (by decide +kernel)) (by decide +kernel) (by decide +kernel) (by decide +kernel)
set_option maxRecDepth 1000000 in
theorem gq174 : tMth x_tb 174 = some xm174 := rfl
set_option maxRecDepth 1000000 in
theorem gq272 : tMth x_tb 272 = some xm272 := rfl
theorem sheetN0 {xs : Nat → Int32} {n : Nat} {sf : Option Nat} : wGoes x_KT x_tb x_tyl (x_otS xs n sf) lwFR lwGA.length lwGB.length 5 24 42 sheetWA sheetWB 174 272 60 60 sheet_in sheeto0 :=
  wDp (wWk (wEd_spec (x_ov0_le sf) u_ctS lwFRok sheetE0) (Nat.le_refl _) (Nat.le_refl _) (Nat.le_refl _) (by decide +kernel) (by decide +kernel)) (by decide) (by decide)
theorem sheetN1 {xs : Nat → Int32} {n : Nat} {sf : Option Nat} : wGoes x_KT x_tb x_tyl (x_otS xs n sf) lwFR lwGA.length lwGB.length 5 24 42 sheetWA sheetWB 174 272 60 60 sheet_c0 sheeto1 :=
  wDp (wWk (wFamE2 (V := [22, 23, 21]) (x_ov0_le sf) u_ctS lwFRok sheetE1 (by decide) (by decide) (fun i hi u hu => by
      have hi : i ∈ ([22, 23, 21] : List Nat) := hi
      simp only [List.mem_cons, List.not_mem_nil, or_false] at hi
      rcases hi with rfl | rfl | rfl
      · cases hu
        exact wRkE_spec (x_ov0_le sf) u_ctS lwFRok sheetE1R22
      · cases hu
        exact wRkE_spec (x_ov0_le sf) u_ctS lwFRok sheetE1R23
      · cases hu
        exact wRkE_spec (x_ov0_le sf) u_ctS lwFRok sheetE1R21)) (Nat.le_refl _) (Nat.le_refl _) (Nat.le_refl _) (by decide +kernel) (by decide +kernel)) (by decide) (by decide)
theorem sheetN2 {xs : Nat → Int32} {n : Nat} {sf : Option Nat} : wGoes x_KT x_tb x_tyl (x_otS xs n sf) lwFR lwGA.length lwGB.length 5 24 42 sheetWA sheetWB 174 272 60 60 sheet_o0 sheeto2 :=
  wDp (wWk (wFamE2 (V := [22, 23]) (x_ov0_le sf) u_ctS lwFRok sheetE2 (by decide) (by decide) (fun i hi u hu => by
      have hi : i ∈ ([22, 23] : List Nat) := hi
      simp only [List.mem_cons, List.not_mem_nil, or_false] at hi
      rcases hi with rfl | rfl
      · cases hu
        exact wRkE_spec (x_ov0_le sf) u_ctS lwFRok sheetE2R22
      · cases hu
        exact wRkE_spec (x_ov0_le sf) u_ctS lwFRok sheetE2R23)) (Nat.le_refl _) (Nat.le_refl _) (Nat.le_refl _) (by decide +kernel) (by decide +kernel)) (by decide) (by decide)
theorem sheetN3 {xs : Nat → Int32} {n : Nat} {sf : Option Nat} : wGoes x_KT x_tb x_tyl (x_otS xs n sf) lwFR lwGA.length lwGB.length 5 24 42 sheetWA sheetWB 174 272 60 60 sheet_z0 sheeto3 :=
  wDp (wWk (wFamE2 (V := [21]) (x_ov0_le sf) u_ctS lwFRok sheetE3 (by decide) (by decide) (fun i hi u hu => by
      have hi : i ∈ ([21] : List Nat) := hi
      simp only [List.mem_cons, List.not_mem_nil, or_false] at hi
      rcases hi with rfl
      · cases hu
        exact wRkE_spec (x_ov0_le sf) u_ctS lwFRok sheetE3R21)) (Nat.le_refl _) (Nat.le_refl _) (Nat.le_refl _) (by decide +kernel) (by decide +kernel)) (by decide) (by decide)
theorem sheetN4 {xs : Nat → Int32} {n : Nat} {sf : Option Nat} : wGoes x_KT x_tb x_tyl (x_otS xs n sf) lwFR lwGA.length lwGB.length 5 24 42 sheetWA sheetWB 174 272 60 60 sheet_c1 sheeto4 :=
  wDp (wWk (wFamE2 (V := [21, 23, 22]) (x_ov0_le sf) u_ctS lwFRok sheetE4 (by decide) (by decide) (fun i hi u hu => by
      have hi : i ∈ ([21, 23, 22] : List Nat) := hi
      simp only [List.mem_cons, List.not_mem_nil, or_false] at hi
      rcases hi with rfl | rfl | rfl
      · cases hu
        exact wRkE_spec (x_ov0_le sf) u_ctS lwFRok sheetE4R21
      · cases hu
        exact wRkE_spec (x_ov0_le sf) u_ctS lwFRok sheetE4R23
      · cases hu
        exact wRkE_spec (x_ov0_le sf) u_ctS lwFRok sheetE4R22)) (Nat.le_refl _) (Nat.le_refl _) (Nat.le_refl _) (by decide +kernel) (by decide +kernel)) (by decide) (by decide)
theorem sheetN5 {xs : Nat → Int32} {n : Nat} {sf : Option Nat} : wGoes x_KT x_tb x_tyl (x_otS xs n sf) lwFR lwGA.length lwGB.length 5 24 42 sheetWA sheetWB 174 272 60 60 sheet_o1 sheeto5 :=
  wDp (wWk (wFamE2 (V := [21, 23]) (x_ov0_le sf) u_ctS lwFRok sheetE5 (by decide) (by decide) (fun i hi u hu => by
      have hi : i ∈ ([21, 23] : List Nat) := hi
      simp only [List.mem_cons, List.not_mem_nil, or_false] at hi
      rcases hi with rfl | rfl
      · cases hu
        exact wRkE_spec (x_ov0_le sf) u_ctS lwFRok sheetE5R21
      · cases hu
        exact wRkE_spec (x_ov0_le sf) u_ctS lwFRok sheetE5R23)) (Nat.le_refl _) (Nat.le_refl _) (Nat.le_refl _) (by decide +kernel) (by decide +kernel)) (by decide) (by decide)
theorem sheetN6 {xs : Nat → Int32} {n : Nat} {sf : Option Nat} : wGoes x_KT x_tb x_tyl (x_otS xs n sf) lwFR lwGA.length lwGB.length 5 24 42 sheetWA sheetWB 174 272 60 60 sheet_z1 sheeto6 :=
  wDp (wWk (wFamE2 (V := [22]) (x_ov0_le sf) u_ctS lwFRok sheetE6 (by decide) (by decide) (fun i hi u hu => by
      have hi : i ∈ ([22] : List Nat) := hi
      simp only [List.mem_cons, List.not_mem_nil, or_false] at hi
      rcases hi with rfl
      · cases hu
        exact wRkE_spec (x_ov0_le sf) u_ctS lwFRok sheetE6R22)) (Nat.le_refl _) (Nat.le_refl _) (Nat.le_refl _) (by decide +kernel) (by decide +kernel)) (by decide) (by decide)
theorem sheetN7 {xs : Nat → Int32} {n : Nat} {sf : Option Nat} : wGoes x_KT x_tb x_tyl (x_otS xs n sf) lwFR lwGA.length lwGB.length 5 24 42 sheetWA sheetWB 174 272 60 60 sheet_c2 sheeto7 :=
  wDp (wWk (wFamE2 (V := [21, 22, 23]) (x_ov0_le sf) u_ctS lwFRok sheetE7 (by decide) (by decide) (fun i hi u hu => by
      have hi : i ∈ ([21, 22, 23] : List Nat) := hi
      simp only [List.mem_cons, List.not_mem_nil, or_false] at hi
      rcases hi with rfl | rfl | rfl
      · cases hu
        exact wRkE_spec (x_ov0_le sf) u_ctS lwFRok sheetE7R21
      · cases hu
        exact wRkE_spec (x_ov0_le sf) u_ctS lwFRok sheetE7R22
      · cases hu
        exact wRkE_spec (x_ov0_le sf) u_ctS lwFRok sheetE7R23)) (Nat.le_refl _) (Nat.le_refl _) (Nat.le_refl _) (by decide +kernel) (by decide +kernel)) (by decide) (by decide)
theorem sheetN8 {xs : Nat → Int32} {n : Nat} {sf : Option Nat} : wGoes x_KT x_tb x_tyl (x_otS xs n sf) lwFR lwGA.length lwGB.length 5 24 42 sheetWA sheetWB 174 272 60 60 sheet_o2 sheeto8 :=
  wDp (wWk (wFamE2 (V := [21, 22]) (x_ov0_le sf) u_ctS lwFRok sheetE8 (by decide) (by decide) (fun i hi u hu => by
      have hi : i ∈ ([21, 22] : List Nat) := hi
      simp only [List.mem_cons, List.not_mem_nil, or_false] at hi
      rcases hi with rfl | rfl
      · cases hu
        exact wRkE_spec (x_ov0_le sf) u_ctS lwFRok sheetE8R21
      · cases hu
        exact wRkE_spec (x_ov0_le sf) u_ctS lwFRok sheetE8R22)) (Nat.le_refl _) (Nat.le_refl _) (Nat.le_refl _) (by decide +kernel) (by decide +kernel)) (by decide) (by decide)
theorem sheetN9 {xs : Nat → Int32} {n : Nat} {sf : Option Nat} : wGoes x_KT x_tb x_tyl (x_otS xs n sf) lwFR lwGA.length lwGB.length 5 24 42 sheetWA sheetWB 174 272 60 60 sheet_z2 sheeto9 :=
  wDp (wWk (wFamE2 (V := [23]) (x_ov0_le sf) u_ctS lwFRok sheetE9 (by decide) (by decide) (fun i hi u hu => by
      have hi : i ∈ ([23] : List Nat) := hi
      simp only [List.mem_cons, List.not_mem_nil, or_false] at hi
      rcases hi with rfl
      · cases hu
        exact wRkE_spec (x_ov0_le sf) u_ctS lwFRok sheetE9R23)) (Nat.le_refl _) (Nat.le_refl _) (Nat.le_refl _) (by decide +kernel) (by decide +kernel)) (by decide) (by decide)
def sheet_g0_nd : List wE := [sheet_in, sheet_c0, sheet_o0, sheet_c1, sheet_o1, sheet_c2, sheet_o2, sheet_z0, sheet_z1, sheet_z2]
theorem sheet_g0_G {xs : Nat → Int32} {n : Nat} {sf : Option Nat} : ∀ nd ∈ sheet_g0_nd, wGoes x_KT x_tb x_tyl (x_otS xs n sf) lwFR lwGA.length lwGB.length 5 24 42 sheetWA sheetWB 174 272 60 60 nd (sheet_g0_ex.map (fun x => (false, x))) := wGraph (fun nd hnd => by
  have hnd : nd ∈ ([sheet_in, sheet_c0, sheet_o0, sheet_c1, sheet_o1, sheet_c2, sheet_o2, sheet_z0, sheet_z1, sheet_z2] : List wE) := hnd
  simp only [List.mem_cons, List.not_mem_nil, or_false] at hnd
  rcases hnd with rfl | rfl | rfl | rfl | rfl | rfl | rfl | rfl | rfl | rfl
  · refine ⟨sheeto0, sheetN0, fun o ho => ?_⟩
    have ho : o ∈ ([(true, sheet_c0), (true, sheet_o0), (true, sheet_c1), (true, sheet_o1), (true, sheet_c2), (true, sheet_o2), (false, sheet_out)] : List (Bool × wE)) := ho
    simp only [List.mem_cons, List.not_mem_nil, or_false] at ho
    rcases ho with rfl | rfl | rfl | rfl | rfl | rfl | rfl
    · exact Or.inr ⟨rfl, List.mem_cons_of_mem _ (List.mem_cons_self)⟩
    · exact Or.inr ⟨rfl, List.mem_cons_of_mem _ (List.mem_cons_of_mem _ (List.mem_cons_self))⟩
    · exact Or.inr ⟨rfl, List.mem_cons_of_mem _ (List.mem_cons_of_mem _ (List.mem_cons_of_mem _ (List.mem_cons_self)))⟩
    · exact Or.inr ⟨rfl, List.mem_cons_of_mem _ (List.mem_cons_of_mem _ (List.mem_cons_of_mem _ (List.mem_cons_of_mem _ (List.mem_cons_self))))⟩
    · exact Or.inr ⟨rfl, List.mem_cons_of_mem _ (List.mem_cons_of_mem _ (List.mem_cons_of_mem _ (List.mem_cons_of_mem _ (List.mem_cons_of_mem _ (List.mem_cons_self)))))⟩
    · exact Or.inr ⟨rfl, List.mem_cons_of_mem _ (List.mem_cons_of_mem _ (List.mem_cons_of_mem _ (List.mem_cons_of_mem _ (List.mem_cons_of_mem _ (List.mem_cons_of_mem _ (List.mem_cons_self))))))⟩
    · exact Or.inl (List.mem_cons_self)
  · refine ⟨sheeto1, sheetN1, fun o ho => ?_⟩
    have ho : o ∈ ([(false, sheet_out)] : List (Bool × wE)) := ho
    simp only [List.mem_cons, List.not_mem_nil, or_false] at ho
    rcases ho with rfl
    · exact Or.inl (List.mem_cons_self)
  · refine ⟨sheeto2, sheetN2, fun o ho => ?_⟩
    have ho : o ∈ ([(true, sheet_z0)] : List (Bool × wE)) := ho
    simp only [List.mem_cons, List.not_mem_nil, or_false] at ho
    rcases ho with rfl
    · exact Or.inr ⟨rfl, List.mem_cons_of_mem _ (List.mem_cons_of_mem _ (List.mem_cons_of_mem _ (List.mem_cons_of_mem _ (List.mem_cons_of_mem _ (List.mem_cons_of_mem _ (List.mem_cons_of_mem _ (List.mem_cons_self)))))))⟩
  · refine ⟨sheeto4, sheetN4, fun o ho => ?_⟩
    have ho : o ∈ ([(false, sheet_out)] : List (Bool × wE)) := ho
    simp only [List.mem_cons, List.not_mem_nil, or_false] at ho
    rcases ho with rfl
    · exact Or.inl (List.mem_cons_self)
  · refine ⟨sheeto5, sheetN5, fun o ho => ?_⟩
    have ho : o ∈ ([(true, sheet_z1)] : List (Bool × wE)) := ho
    simp only [List.mem_cons, List.not_mem_nil, or_false] at ho
    rcases ho with rfl
    · exact Or.inr ⟨rfl, List.mem_cons_of_mem _ (List.mem_cons_of_mem _ (List.mem_cons_of_mem _ (List.mem_cons_of_mem _ (List.mem_cons_of_mem _ (List.mem_cons_of_mem _ (List.mem_cons_of_mem _ (List.mem_cons_of_mem _ (List.mem_cons_self))))))))⟩
  · refine ⟨sheeto7, sheetN7, fun o ho => ?_⟩
    have ho : o ∈ ([(false, sheet_out)] : List (Bool × wE)) := ho
    simp only [List.mem_cons, List.not_mem_nil, or_false] at ho
    rcases ho with rfl
    · exact Or.inl (List.mem_cons_self)
  · refine ⟨sheeto8, sheetN8, fun o ho => ?_⟩
    have ho : o ∈ ([(true, sheet_z2)] : List (Bool × wE)) := ho
    simp only [List.mem_cons, List.not_mem_nil, or_false] at ho
    rcases ho with rfl
    · exact Or.inr ⟨rfl, List.mem_cons_of_mem _ (List.mem_cons_of_mem _ (List.mem_cons_of_mem _ (List.mem_cons_of_mem _ (List.mem_cons_of_mem _ (List.mem_cons_of_mem _ (List.mem_cons_of_mem _ (List.mem_cons_of_mem _ (List.mem_cons_of_mem _ (List.mem_cons_self)))))))))⟩
  · refine ⟨sheeto3, sheetN3, fun o ho => ?_⟩
    have ho : o ∈ ([(false, sheet_out)] : List (Bool × wE)) := ho
    simp only [List.mem_cons, List.not_mem_nil, or_false] at ho
    rcases ho with rfl
    · exact Or.inl (List.mem_cons_self)
  · refine ⟨sheeto6, sheetN6, fun o ho => ?_⟩
    have ho : o ∈ ([(false, sheet_out)] : List (Bool × wE)) := ho
    simp only [List.mem_cons, List.not_mem_nil, or_false] at ho
    rcases ho with rfl
    · exact Or.inl (List.mem_cons_self)
  · refine ⟨sheeto9, sheetN9, fun o ho => ?_⟩
    have ho : o ∈ ([(false, sheet_out)] : List (Bool × wE)) := ho
    simp only [List.mem_cons, List.not_mem_nil, or_false] at ho
    rcases ho with rfl
    · exact Or.inl (List.mem_cons_self))
theorem sheetH {xs : Nat → Int32} {n : Nat} {sf : Option Nat} : wGoes x_KT x_tb x_tyl (x_otS xs n sf) lwFS lwGA.length lwGB.length 5 24 42 sheetWA sheetWB 174 272 60 60 sheet_in (sheetOX.map (fun x => x.1)) :=
  wFSr (FS := lwFR) (nh := 29) (wFam (V := []) lwFRok (by decide +kernel) (by decide +kernel) (sheet_g0_G sheet_in List.mem_cons_self) (by decide) (by decide) (fun i hi u hu => by
  have hi : i ∈ ([] : List Nat) := hi
  simp only [List.mem_cons, List.not_mem_nil, or_false] at hi)) lwFRp (by decide) (by decide +kernel)
theorem sheetPP {xs : Nat → Int32} {n : Nat} {sf : Option Nat} : bPP x_KT x_tb x_tyl (x_otS xs n sf) lwN lwP 1299 174 272 3 (mMc xm174 + mMc xm272) (mRc xm174) (mRc xm272) True :=
  wBlk lwFok lwFB uKa uKb (by decide +kernel) (by decide +kernel) uKdj uKj sheetbc sheetH gq174 gq272 (by decide) (by decide) (uKeep (by decide +kernel)) (by decide +kernel) (by decide +kernel) (by decide +kernel)
set_option maxRecDepth 1000000 in
theorem gq176 : tMth x_tb 176 = some xm176 := rfl
set_option maxRecDepth 1000000 in
theorem gq273 : tMth x_tb 273 = some xm273 := rfl
theorem cellN0 {xs : Nat → Int32} {n : Nat} {sf : Option Nat} : wGoes x_KT x_tb x_tyl (x_otS xs n sf) lwFR lwGA.length lwGB.length 5 24 42 cellWA cellWB 176 273 60 60 cell_in cello0 :=
  wDp (wWk (wEd_spec (x_ov0_le sf) u_ctS lwFRok cellE0) (Nat.le_refl _) (Nat.le_refl _) (Nat.le_refl _) (by decide +kernel) (by decide +kernel)) (by decide) (by decide)
theorem cellN1 {xs : Nat → Int32} {n : Nat} {sf : Option Nat} : wGoes x_KT x_tb x_tyl (x_otS xs n sf) lwFR lwGA.length lwGB.length 5 24 42 cellWA cellWB 176 273 60 60 cell_s0 cello1 :=
  wDp (wWk (wEd_spec (x_ov0_le sf) u_ctS lwFRok cellE1) (Nat.le_refl _) (Nat.le_refl _) (Nat.le_refl _) (by decide +kernel) (by decide +kernel)) (by decide) (by decide)
theorem cellN2 {xs : Nat → Int32} {n : Nat} {sf : Option Nat} : wGoes x_KT x_tb x_tyl (x_otS xs n sf) lwFR lwGA.length lwGB.length 5 24 42 cellWA cellWB 176 273 60 60 cell_s1 cello2 :=
  wDp (wWk (wEd_spec (x_ov0_le sf) u_ctS lwFRok cellE2) (Nat.le_refl _) (Nat.le_refl _) (Nat.le_refl _) (by decide +kernel) (by decide +kernel)) (by decide) (by decide)
theorem cellN3 {xs : Nat → Int32} {n : Nat} {sf : Option Nat} : wGoes x_KT x_tb x_tyl (x_otS xs n sf) lwFR lwGA.length lwGB.length 5 24 42 cellWA cellWB 176 273 60 60 cell_s2 cello3 :=
  wDp (wWk (wEd_spec (x_ov0_le sf) u_ctS lwFRok cellE3) (Nat.le_refl _) (Nat.le_refl _) (Nat.le_refl _) (by decide +kernel) (by decide +kernel)) (by decide) (by decide)
theorem cellN4 {xs : Nat → Int32} {n : Nat} {sf : Option Nat} : wGoes x_KT x_tb x_tyl (x_otS xs n sf) lwFR lwGA.length lwGB.length 5 24 42 cellWA cellWB 176 273 60 60 cell_m0 cello4 :=
  wDp (wWk (wFamE2 (V := [21, 22, 23]) (x_ov0_le sf) u_ctS lwFRok cellE4 (by decide) (by decide) (fun i hi u hu => by
      have hi : i ∈ ([21, 22, 23] : List Nat) := hi
      simp only [List.mem_cons, List.not_mem_nil, or_false] at hi
      rcases hi with rfl | rfl | rfl
      · cases hu
        exact wRkE_spec (x_ov0_le sf) u_ctS lwFRok cellE4R21
      · cases hu
        exact wRkE_spec (x_ov0_le sf) u_ctS lwFRok cellE4R22
      · cases hu
        exact wRkE_spec (x_ov0_le sf) u_ctS lwFRok cellE4R23)) (Nat.le_refl _) (Nat.le_refl _) (Nat.le_refl _) (by decide +kernel) (by decide +kernel)) (by decide) (by decide)
theorem cellN5 {xs : Nat → Int32} {n : Nat} {sf : Option Nat} : wGoes x_KT x_tb x_tyl (x_otS xs n sf) lwFR lwGA.length lwGB.length 5 24 42 cellWA cellWB 176 273 60 60 cell_m1 cello5 :=
  wDp (wWk (wFamE2 (V := [21, 22, 23]) (x_ov0_le sf) u_ctS lwFRok cellE5 (by decide) (by decide) (fun i hi u hu => by
      have hi : i ∈ ([21, 22, 23] : List Nat) := hi
      simp only [List.mem_cons, List.not_mem_nil, or_false] at hi
      rcases hi with rfl | rfl | rfl
      · cases hu
        exact wRkE_spec (x_ov0_le sf) u_ctS lwFRok cellE5R21
      · cases hu
        exact wRkE_spec (x_ov0_le sf) u_ctS lwFRok cellE5R22
      · cases hu
        exact wRkE_spec (x_ov0_le sf) u_ctS lwFRok cellE5R23)) (Nat.le_refl _) (Nat.le_refl _) (Nat.le_refl _) (by decide +kernel) (by decide +kernel)) (by decide) (by decide)
theorem cellN6 {xs : Nat → Int32} {n : Nat} {sf : Option Nat} : wGoes x_KT x_tb x_tyl (x_otS xs n sf) lwFR lwGA.length lwGB.length 5 24 42 cellWA cellWB 176 273 60 60 cell_m2 cello6 :=
  wDp (wWk (wFamE2 (V := [21, 22, 23]) (x_ov0_le sf) u_ctS lwFRok cellE6 (by decide) (by decide) (fun i hi u hu => by
      have hi : i ∈ ([21, 22, 23] : List Nat) := hi
      simp only [List.mem_cons, List.not_mem_nil, or_false] at hi
      rcases hi with rfl | rfl | rfl
      · cases hu
        exact wRkE_spec (x_ov0_le sf) u_ctS lwFRok cellE6R21
      · cases hu
        exact wRkE_spec (x_ov0_le sf) u_ctS lwFRok cellE6R22
      · cases hu
        exact wRkE_spec (x_ov0_le sf) u_ctS lwFRok cellE6R23)) (Nat.le_refl _) (Nat.le_refl _) (Nat.le_refl _) (by decide +kernel) (by decide +kernel)) (by decide) (by decide)
def cell_g0_nd : List wE := [cell_in, cell_s0, cell_s1, cell_s2, cell_m0, cell_m1, cell_m2]
theorem cell_g0_G {xs : Nat → Int32} {n : Nat} {sf : Option Nat} : ∀ nd ∈ cell_g0_nd, wGoes x_KT x_tb x_tyl (x_otS xs n sf) lwFR lwGA.length lwGB.length 5 24 42 cellWA cellWB 176 273 60 60 nd (cell_g0_ex.map (fun x => (false, x))) := wGraph (fun nd hnd => by
  have hnd : nd ∈ ([cell_in, cell_s0, cell_s1, cell_s2, cell_m0, cell_m1, cell_m2] : List wE) := hnd
  simp only [List.mem_cons, List.not_mem_nil, or_false] at hnd
  rcases hnd with rfl | rfl | rfl | rfl | rfl | rfl | rfl
  · refine ⟨cello0, cellN0, fun o ho => ?_⟩
    have ho : o ∈ ([(true, cell_s0), (true, cell_s1), (true, cell_s2), (false, cell_out)] : List (Bool × wE)) := ho
    simp only [List.mem_cons, List.not_mem_nil, or_false] at ho
    rcases ho with rfl | rfl | rfl | rfl
    · exact Or.inr ⟨rfl, List.mem_cons_of_mem _ (List.mem_cons_self)⟩
    · exact Or.inr ⟨rfl, List.mem_cons_of_mem _ (List.mem_cons_of_mem _ (List.mem_cons_self))⟩
    · exact Or.inr ⟨rfl, List.mem_cons_of_mem _ (List.mem_cons_of_mem _ (List.mem_cons_of_mem _ (List.mem_cons_self)))⟩
    · exact Or.inl (List.mem_cons_self)
  · refine ⟨cello1, cellN1, fun o ho => ?_⟩
    have ho : o ∈ ([(true, cell_m0), (false, cell_out)] : List (Bool × wE)) := ho
    simp only [List.mem_cons, List.not_mem_nil, or_false] at ho
    rcases ho with rfl | rfl
    · exact Or.inr ⟨rfl, List.mem_cons_of_mem _ (List.mem_cons_of_mem _ (List.mem_cons_of_mem _ (List.mem_cons_of_mem _ (List.mem_cons_self))))⟩
    · exact Or.inl (List.mem_cons_self)
  · refine ⟨cello2, cellN2, fun o ho => ?_⟩
    have ho : o ∈ ([(true, cell_m1), (false, cell_out)] : List (Bool × wE)) := ho
    simp only [List.mem_cons, List.not_mem_nil, or_false] at ho
    rcases ho with rfl | rfl
    · exact Or.inr ⟨rfl, List.mem_cons_of_mem _ (List.mem_cons_of_mem _ (List.mem_cons_of_mem _ (List.mem_cons_of_mem _ (List.mem_cons_of_mem _ (List.mem_cons_self)))))⟩
    · exact Or.inl (List.mem_cons_self)
  · refine ⟨cello3, cellN3, fun o ho => ?_⟩
    have ho : o ∈ ([(true, cell_m2), (false, cell_out)] : List (Bool × wE)) := ho
    simp only [List.mem_cons, List.not_mem_nil, or_false] at ho
    rcases ho with rfl | rfl
    · exact Or.inr ⟨rfl, List.mem_cons_of_mem _ (List.mem_cons_of_mem _ (List.mem_cons_of_mem _ (List.mem_cons_of_mem _ (List.mem_cons_of_mem _ (List.mem_cons_of_mem _ (List.mem_cons_self))))))⟩
    · exact Or.inl (List.mem_cons_self)
  · refine ⟨cello4, cellN4, fun o ho => ?_⟩
    have ho : o ∈ ([(false, cell_out)] : List (Bool × wE)) := ho
    simp only [List.mem_cons, List.not_mem_nil, or_false] at ho
    rcases ho with rfl
    · exact Or.inl (List.mem_cons_self)
  · refine ⟨cello5, cellN5, fun o ho => ?_⟩
    have ho : o ∈ ([(false, cell_out)] : List (Bool × wE)) := ho
    simp only [List.mem_cons, List.not_mem_nil, or_false] at ho
    rcases ho with rfl
    · exact Or.inl (List.mem_cons_self)
  · refine ⟨cello6, cellN6, fun o ho => ?_⟩
    have ho : o ∈ ([(false, cell_out)] : List (Bool × wE)) := ho
    simp only [List.mem_cons, List.not_mem_nil, or_false] at ho
    rcases ho with rfl
    · exact Or.inl (List.mem_cons_self))
theorem cellH {xs : Nat → Int32} {n : Nat} {sf : Option Nat} : wGoes x_KT x_tb x_tyl (x_otS xs n sf) lwFS lwGA.length lwGB.length 5 24 42 cellWA cellWB 176 273 60 60 cell_in (cellOX.map (fun x => x.1)) :=
  wFSr (FS := lwFR) (nh := 29) (wFam (V := []) lwFRok (by decide +kernel) (by decide +kernel) (cell_g0_G cell_in List.mem_cons_self) (by decide) (by decide) (fun i hi u hu => by
  have hi : i ∈ ([] : List Nat) := hi
  simp only [List.mem_cons, List.not_mem_nil, or_false] at hi)) lwFRp (by decide) (by decide +kernel)
theorem cellPP {xs : Nat → Int32} {n : Nat} {sf : Option Nat} : bPP x_KT x_tb x_tyl (x_otS xs n sf) lwN lwP 1299 176 273 3 (mMc xm176 + mMc xm273) (mRc xm176) (mRc xm273) True :=
  wBlk lwFok lwFB uKa uKb (by decide +kernel) (by decide +kernel) uKdj uKj cellbc cellH gq176 gq273 (by decide) (by decide) (uKeep (by decide +kernel)) (by decide +kernel) (by decide +kernel) (by decide +kernel)
set_option maxRecDepth 1000000 in
theorem gq178 : tMth x_tb 178 = some xm178 := rfl
set_option maxRecDepth 1000000 in
theorem gq274 : tMth x_tb 274 = some xm274 := rfl
theorem copyN0 {xs : Nat → Int32} {n : Nat} {sf : Option Nat} : wGoes x_KT x_tb x_tyl (x_otS xs n sf) lwFR lwGA.length lwGB.length 5 24 42 copyWA copyWB 178 274 60 60 copy_in copyo0 :=
  wDp (wWk (wEd_spec (x_ov0_le sf) u_ctS lwFRok copyE0) (Nat.le_refl _) (Nat.le_refl _) (Nat.le_refl _) (by decide +kernel) (by decide +kernel)) (by decide) (by decide)
theorem copyN1 {xs : Nat → Int32} {n : Nat} {sf : Option Nat} : wGoes x_KT x_tb x_tyl (x_otS xs n sf) lwFR lwGA.length lwGB.length 5 24 42 copyWA copyWB 178 274 60 60 copy_s00 copyo1 :=
  wDp (wWk (wEd_spec (x_ov0_le sf) u_ctS lwFRok copyE1) (Nat.le_refl _) (Nat.le_refl _) (Nat.le_refl _) (by decide +kernel) (by decide +kernel)) (by decide) (by decide)
theorem copyN2 {xs : Nat → Int32} {n : Nat} {sf : Option Nat} : wGoes x_KT x_tb x_tyl (x_otS xs n sf) lwFR lwGA.length lwGB.length 5 24 42 copyWA copyWB 178 274 60 60 copy_s01 copyo2 :=
  wDp (wWk (wEd_spec (x_ov0_le sf) u_ctS lwFRok copyE2) (Nat.le_refl _) (Nat.le_refl _) (Nat.le_refl _) (by decide +kernel) (by decide +kernel)) (by decide) (by decide)
theorem copyN3 {xs : Nat → Int32} {n : Nat} {sf : Option Nat} : wGoes x_KT x_tb x_tyl (x_otS xs n sf) lwFR lwGA.length lwGB.length 5 24 42 copyWA copyWB 178 274 60 60 copy_s02 copyo3 :=
  wDp (wWk (wEd_spec (x_ov0_le sf) u_ctS lwFRok copyE3) (Nat.le_refl _) (Nat.le_refl _) (Nat.le_refl _) (by decide +kernel) (by decide +kernel)) (by decide) (by decide)
theorem copyN4 {xs : Nat → Int32} {n : Nat} {sf : Option Nat} : wGoes x_KT x_tb x_tyl (x_otS xs n sf) lwFR lwGA.length lwGB.length 5 24 42 copyWA copyWB 178 274 60 60 copy_s10 copyo4 :=
  wDp (wWk (wEd_spec (x_ov0_le sf) u_ctS lwFRok copyE4) (Nat.le_refl _) (Nat.le_refl _) (Nat.le_refl _) (by decide +kernel) (by decide +kernel)) (by decide) (by decide)
theorem copyN5 {xs : Nat → Int32} {n : Nat} {sf : Option Nat} : wGoes x_KT x_tb x_tyl (x_otS xs n sf) lwFR lwGA.length lwGB.length 5 24 42 copyWA copyWB 178 274 60 60 copy_s11 copyo5 :=
  wDp (wWk (wEd_spec (x_ov0_le sf) u_ctS lwFRok copyE5) (Nat.le_refl _) (Nat.le_refl _) (Nat.le_refl _) (by decide +kernel) (by decide +kernel)) (by decide) (by decide)
theorem copyN6 {xs : Nat → Int32} {n : Nat} {sf : Option Nat} : wGoes x_KT x_tb x_tyl (x_otS xs n sf) lwFR lwGA.length lwGB.length 5 24 42 copyWA copyWB 178 274 60 60 copy_s12 copyo6 :=
  wDp (wWk (wEd_spec (x_ov0_le sf) u_ctS lwFRok copyE6) (Nat.le_refl _) (Nat.le_refl _) (Nat.le_refl _) (by decide +kernel) (by decide +kernel)) (by decide) (by decide)
theorem copyN7 {xs : Nat → Int32} {n : Nat} {sf : Option Nat} : wGoes x_KT x_tb x_tyl (x_otS xs n sf) lwFR lwGA.length lwGB.length 5 24 42 copyWA copyWB 178 274 60 60 copy_s20 copyo7 :=
  wDp (wWk (wEd_spec (x_ov0_le sf) u_ctS lwFRok copyE7) (Nat.le_refl _) (Nat.le_refl _) (Nat.le_refl _) (by decide +kernel) (by decide +kernel)) (by decide) (by decide)
theorem copyN8 {xs : Nat → Int32} {n : Nat} {sf : Option Nat} : wGoes x_KT x_tb x_tyl (x_otS xs n sf) lwFR lwGA.length lwGB.length 5 24 42 copyWA copyWB 178 274 60 60 copy_s21 copyo8 :=
  wDp (wWk (wEd_spec (x_ov0_le sf) u_ctS lwFRok copyE8) (Nat.le_refl _) (Nat.le_refl _) (Nat.le_refl _) (by decide +kernel) (by decide +kernel)) (by decide) (by decide)
theorem copyN9 {xs : Nat → Int32} {n : Nat} {sf : Option Nat} : wGoes x_KT x_tb x_tyl (x_otS xs n sf) lwFR lwGA.length lwGB.length 5 24 42 copyWA copyWB 178 274 60 60 copy_s22 copyo9 :=
  wDp (wWk (wEd_spec (x_ov0_le sf) u_ctS lwFRok copyE9) (Nat.le_refl _) (Nat.le_refl _) (Nat.le_refl _) (by decide +kernel) (by decide +kernel)) (by decide) (by decide)
theorem copyN10 {xs : Nat → Int32} {n : Nat} {sf : Option Nat} : wGoes x_KT x_tb x_tyl (x_otS xs n sf) lwFR lwGA.length lwGB.length 5 24 42 copyWA copyWB 178 274 60 60 copy_m00 copyo10 :=
  wDp (wWk (wFamE2 (V := [21, 22, 23]) (x_ov0_le sf) u_ctS lwFRok copyE10 (by decide) (by decide) (fun i hi u hu => by
      have hi : i ∈ ([21, 22, 23] : List Nat) := hi
      simp only [List.mem_cons, List.not_mem_nil, or_false] at hi
      rcases hi with rfl | rfl | rfl
      · cases hu
        exact wRkE_spec (x_ov0_le sf) u_ctS lwFRok copyE10R21
      · cases hu
        exact wRkE_spec (x_ov0_le sf) u_ctS lwFRok copyE10R22
      · cases hu
        exact wRkE_spec (x_ov0_le sf) u_ctS lwFRok copyE10R23)) (Nat.le_refl _) (Nat.le_refl _) (Nat.le_refl _) (by decide +kernel) (by decide +kernel)) (by decide) (by decide)
theorem copyN11 {xs : Nat → Int32} {n : Nat} {sf : Option Nat} : wGoes x_KT x_tb x_tyl (x_otS xs n sf) lwFR lwGA.length lwGB.length 5 24 42 copyWA copyWB 178 274 60 60 copy_m01 copyo11 :=
  wDp (wWk (wFamE2 (V := [21, 22, 23]) (x_ov0_le sf) u_ctS lwFRok copyE11 (by decide) (by decide) (fun i hi u hu => by
      have hi : i ∈ ([21, 22, 23] : List Nat) := hi
      simp only [List.mem_cons, List.not_mem_nil, or_false] at hi
      rcases hi with rfl | rfl | rfl
      · cases hu
        exact wRkE_spec (x_ov0_le sf) u_ctS lwFRok copyE11R21
      · cases hu
        exact wRkE_spec (x_ov0_le sf) u_ctS lwFRok copyE11R22
      · cases hu
        exact wRkE_spec (x_ov0_le sf) u_ctS lwFRok copyE11R23)) (Nat.le_refl _) (Nat.le_refl _) (Nat.le_refl _) (by decide +kernel) (by decide +kernel)) (by decide) (by decide)
theorem copyN12 {xs : Nat → Int32} {n : Nat} {sf : Option Nat} : wGoes x_KT x_tb x_tyl (x_otS xs n sf) lwFR lwGA.length lwGB.length 5 24 42 copyWA copyWB 178 274 60 60 copy_m02 copyo12 :=
  wDp (wWk (wFamE2 (V := [21, 22, 23]) (x_ov0_le sf) u_ctS lwFRok copyE12 (by decide) (by decide) (fun i hi u hu => by
      have hi : i ∈ ([21, 22, 23] : List Nat) := hi
      simp only [List.mem_cons, List.not_mem_nil, or_false] at hi
      rcases hi with rfl | rfl | rfl
      · cases hu
        exact wRkE_spec (x_ov0_le sf) u_ctS lwFRok copyE12R21
      · cases hu
        exact wRkE_spec (x_ov0_le sf) u_ctS lwFRok copyE12R22
      · cases hu
        exact wRkE_spec (x_ov0_le sf) u_ctS lwFRok copyE12R23)) (Nat.le_refl _) (Nat.le_refl _) (Nat.le_refl _) (by decide +kernel) (by decide +kernel)) (by decide) (by decide)
theorem copyN13 {xs : Nat → Int32} {n : Nat} {sf : Option Nat} : wGoes x_KT x_tb x_tyl (x_otS xs n sf) lwFR lwGA.length lwGB.length 5 24 42 copyWA copyWB 178 274 60 60 copy_m10 copyo13 :=
  wDp (wWk (wFamE2 (V := [21, 22, 23]) (x_ov0_le sf) u_ctS lwFRok copyE13 (by decide) (by decide) (fun i hi u hu => by
      have hi : i ∈ ([21, 22, 23] : List Nat) := hi
      simp only [List.mem_cons, List.not_mem_nil, or_false] at hi
      rcases hi with rfl | rfl | rfl
      · cases hu
        exact wRkE_spec (x_ov0_le sf) u_ctS lwFRok copyE13R21
      · cases hu
        exact wRkE_spec (x_ov0_le sf) u_ctS lwFRok copyE13R22
      · cases hu
        exact wRkE_spec (x_ov0_le sf) u_ctS lwFRok copyE13R23)) (Nat.le_refl _) (Nat.le_refl _) (Nat.le_refl _) (by decide +kernel) (by decide +kernel)) (by decide) (by decide)
theorem copyN14 {xs : Nat → Int32} {n : Nat} {sf : Option Nat} : wGoes x_KT x_tb x_tyl (x_otS xs n sf) lwFR lwGA.length lwGB.length 5 24 42 copyWA copyWB 178 274 60 60 copy_m11 copyo14 :=
  wDp (wWk (wFamE2 (V := [21, 22, 23]) (x_ov0_le sf) u_ctS lwFRok copyE14 (by decide) (by decide) (fun i hi u hu => by
      have hi : i ∈ ([21, 22, 23] : List Nat) := hi
      simp only [List.mem_cons, List.not_mem_nil, or_false] at hi
      rcases hi with rfl | rfl | rfl
      · cases hu
        exact wRkE_spec (x_ov0_le sf) u_ctS lwFRok copyE14R21
      · cases hu
        exact wRkE_spec (x_ov0_le sf) u_ctS lwFRok copyE14R22
      · cases hu
        exact wRkE_spec (x_ov0_le sf) u_ctS lwFRok copyE14R23)) (Nat.le_refl _) (Nat.le_refl _) (Nat.le_refl _) (by decide +kernel) (by decide +kernel)) (by decide) (by decide)
theorem copyN15 {xs : Nat → Int32} {n : Nat} {sf : Option Nat} : wGoes x_KT x_tb x_tyl (x_otS xs n sf) lwFR lwGA.length lwGB.length 5 24 42 copyWA copyWB 178 274 60 60 copy_m12 copyo15 :=
  wDp (wWk (wFamE2 (V := [21, 22, 23]) (x_ov0_le sf) u_ctS lwFRok copyE15 (by decide) (by decide) (fun i hi u hu => by
      have hi : i ∈ ([21, 22, 23] : List Nat) := hi
      simp only [List.mem_cons, List.not_mem_nil, or_false] at hi
      rcases hi with rfl | rfl | rfl
      · cases hu
        exact wRkE_spec (x_ov0_le sf) u_ctS lwFRok copyE15R21
      · cases hu
        exact wRkE_spec (x_ov0_le sf) u_ctS lwFRok copyE15R22
      · cases hu
        exact wRkE_spec (x_ov0_le sf) u_ctS lwFRok copyE15R23)) (Nat.le_refl _) (Nat.le_refl _) (Nat.le_refl _) (by decide +kernel) (by decide +kernel)) (by decide) (by decide)
theorem copyN16 {xs : Nat → Int32} {n : Nat} {sf : Option Nat} : wGoes x_KT x_tb x_tyl (x_otS xs n sf) lwFR lwGA.length lwGB.length 5 24 42 copyWA copyWB 178 274 60 60 copy_m20 copyo16 :=
  wDp (wWk (wFamE2 (V := [21, 22, 23]) (x_ov0_le sf) u_ctS lwFRok copyE16 (by decide) (by decide) (fun i hi u hu => by
      have hi : i ∈ ([21, 22, 23] : List Nat) := hi
      simp only [List.mem_cons, List.not_mem_nil, or_false] at hi
      rcases hi with rfl | rfl | rfl
      · cases hu
        exact wRkE_spec (x_ov0_le sf) u_ctS lwFRok copyE16R21
      · cases hu
        exact wRkE_spec (x_ov0_le sf) u_ctS lwFRok copyE16R22
      · cases hu
        exact wRkE_spec (x_ov0_le sf) u_ctS lwFRok copyE16R23)) (Nat.le_refl _) (Nat.le_refl _) (Nat.le_refl _) (by decide +kernel) (by decide +kernel)) (by decide) (by decide)
theorem copyN17 {xs : Nat → Int32} {n : Nat} {sf : Option Nat} : wGoes x_KT x_tb x_tyl (x_otS xs n sf) lwFR lwGA.length lwGB.length 5 24 42 copyWA copyWB 178 274 60 60 copy_m21 copyo17 :=
  wDp (wWk (wFamE2 (V := [21, 22, 23]) (x_ov0_le sf) u_ctS lwFRok copyE17 (by decide) (by decide) (fun i hi u hu => by
      have hi : i ∈ ([21, 22, 23] : List Nat) := hi
      simp only [List.mem_cons, List.not_mem_nil, or_false] at hi
      rcases hi with rfl | rfl | rfl
      · cases hu
        exact wRkE_spec (x_ov0_le sf) u_ctS lwFRok copyE17R21
      · cases hu
        exact wRkE_spec (x_ov0_le sf) u_ctS lwFRok copyE17R22
      · cases hu
        exact wRkE_spec (x_ov0_le sf) u_ctS lwFRok copyE17R23)) (Nat.le_refl _) (Nat.le_refl _) (Nat.le_refl _) (by decide +kernel) (by decide +kernel)) (by decide) (by decide)
theorem copyN18 {xs : Nat → Int32} {n : Nat} {sf : Option Nat} : wGoes x_KT x_tb x_tyl (x_otS xs n sf) lwFR lwGA.length lwGB.length 5 24 42 copyWA copyWB 178 274 60 60 copy_m22 copyo18 :=
  wDp (wWk (wFamE2 (V := [21, 22, 23]) (x_ov0_le sf) u_ctS lwFRok copyE18 (by decide) (by decide) (fun i hi u hu => by
      have hi : i ∈ ([21, 22, 23] : List Nat) := hi
      simp only [List.mem_cons, List.not_mem_nil, or_false] at hi
      rcases hi with rfl | rfl | rfl
      · cases hu
        exact wRkE_spec (x_ov0_le sf) u_ctS lwFRok copyE18R21
      · cases hu
        exact wRkE_spec (x_ov0_le sf) u_ctS lwFRok copyE18R22
      · cases hu
        exact wRkE_spec (x_ov0_le sf) u_ctS lwFRok copyE18R23)) (Nat.le_refl _) (Nat.le_refl _) (Nat.le_refl _) (by decide +kernel) (by decide +kernel)) (by decide) (by decide)
def copy_g0_nd : List wE := [copy_in, copy_s00, copy_s01, copy_s02, copy_s10, copy_s11, copy_s12, copy_s20, copy_s21, copy_s22, copy_m00, copy_m01, copy_m02, copy_m10, copy_m11, copy_m12, copy_m20, copy_m21, copy_m22]
theorem copy_g0_G {xs : Nat → Int32} {n : Nat} {sf : Option Nat} : ∀ nd ∈ copy_g0_nd, wGoes x_KT x_tb x_tyl (x_otS xs n sf) lwFR lwGA.length lwGB.length 5 24 42 copyWA copyWB 178 274 60 60 nd (copy_g0_ex.map (fun x => (false, x))) := wGraph (fun nd hnd => by
  have hnd : nd ∈ ([copy_in, copy_s00, copy_s01, copy_s02, copy_s10, copy_s11, copy_s12, copy_s20, copy_s21, copy_s22, copy_m00, copy_m01, copy_m02, copy_m10, copy_m11, copy_m12, copy_m20, copy_m21, copy_m22] : List wE) := hnd
  simp only [List.mem_cons, List.not_mem_nil, or_false] at hnd
  rcases hnd with rfl | rfl | rfl | rfl | rfl | rfl | rfl | rfl | rfl | rfl | rfl | rfl | rfl | rfl | rfl | rfl | rfl | rfl | rfl
  · refine ⟨copyo0, copyN0, fun o ho => ?_⟩
    have ho : o ∈ ([(true, copy_s00), (true, copy_s01), (true, copy_s02), (true, copy_s10), (true, copy_s11), (true, copy_s12), (true, copy_s20), (true, copy_s21), (true, copy_s22), (false, copy_out)] : List (Bool × wE)) := ho
    simp only [List.mem_cons, List.not_mem_nil, or_false] at ho
    rcases ho with rfl | rfl | rfl | rfl | rfl | rfl | rfl | rfl | rfl | rfl
    · exact Or.inr ⟨rfl, List.mem_cons_of_mem _ (List.mem_cons_self)⟩
    · exact Or.inr ⟨rfl, List.mem_cons_of_mem _ (List.mem_cons_of_mem _ (List.mem_cons_self))⟩
    · exact Or.inr ⟨rfl, List.mem_cons_of_mem _ (List.mem_cons_of_mem _ (List.mem_cons_of_mem _ (List.mem_cons_self)))⟩
    · exact Or.inr ⟨rfl, List.mem_cons_of_mem _ (List.mem_cons_of_mem _ (List.mem_cons_of_mem _ (List.mem_cons_of_mem _ (List.mem_cons_self))))⟩
    · exact Or.inr ⟨rfl, List.mem_cons_of_mem _ (List.mem_cons_of_mem _ (List.mem_cons_of_mem _ (List.mem_cons_of_mem _ (List.mem_cons_of_mem _ (List.mem_cons_self)))))⟩
    · exact Or.inr ⟨rfl, List.mem_cons_of_mem _ (List.mem_cons_of_mem _ (List.mem_cons_of_mem _ (List.mem_cons_of_mem _ (List.mem_cons_of_mem _ (List.mem_cons_of_mem _ (List.mem_cons_self))))))⟩
    · exact Or.inr ⟨rfl, List.mem_cons_of_mem _ (List.mem_cons_of_mem _ (List.mem_cons_of_mem _ (List.mem_cons_of_mem _ (List.mem_cons_of_mem _ (List.mem_cons_of_mem _ (List.mem_cons_of_mem _ (List.mem_cons_self)))))))⟩
    · exact Or.inr ⟨rfl, List.mem_cons_of_mem _ (List.mem_cons_of_mem _ (List.mem_cons_of_mem _ (List.mem_cons_of_mem _ (List.mem_cons_of_mem _ (List.mem_cons_of_mem _ (List.mem_cons_of_mem _ (List.mem_cons_of_mem _ (List.mem_cons_self))))))))⟩
    · exact Or.inr ⟨rfl, List.mem_cons_of_mem _ (List.mem_cons_of_mem _ (List.mem_cons_of_mem _ (List.mem_cons_of_mem _ (List.mem_cons_of_mem _ (List.mem_cons_of_mem _ (List.mem_cons_of_mem _ (List.mem_cons_of_mem _ (List.mem_cons_of_mem _ (List.mem_cons_self)))))))))⟩
    · exact Or.inl (List.mem_cons_self)
  · refine ⟨copyo1, copyN1, fun o ho => ?_⟩
    have ho : o ∈ ([(true, copy_m00), (false, copy_out)] : List (Bool × wE)) := ho
    simp only [List.mem_cons, List.not_mem_nil, or_false] at ho
    rcases ho with rfl | rfl
    · exact Or.inr ⟨rfl, List.mem_cons_of_mem _ (List.mem_cons_of_mem _ (List.mem_cons_of_mem _ (List.mem_cons_of_mem _ (List.mem_cons_of_mem _ (List.mem_cons_of_mem _ (List.mem_cons_of_mem _ (List.mem_cons_of_mem _ (List.mem_cons_of_mem _ (List.mem_cons_of_mem _ (List.mem_cons_self))))))))))⟩
    · exact Or.inl (List.mem_cons_self)
  · refine ⟨copyo2, copyN2, fun o ho => ?_⟩
    have ho : o ∈ ([(true, copy_m01), (false, copy_out)] : List (Bool × wE)) := ho
    simp only [List.mem_cons, List.not_mem_nil, or_false] at ho
    rcases ho with rfl | rfl
    · exact Or.inr ⟨rfl, List.mem_cons_of_mem _ (List.mem_cons_of_mem _ (List.mem_cons_of_mem _ (List.mem_cons_of_mem _ (List.mem_cons_of_mem _ (List.mem_cons_of_mem _ (List.mem_cons_of_mem _ (List.mem_cons_of_mem _ (List.mem_cons_of_mem _ (List.mem_cons_of_mem _ (List.mem_cons_of_mem _ (List.mem_cons_self)))))))))))⟩
    · exact Or.inl (List.mem_cons_self)
  · refine ⟨copyo3, copyN3, fun o ho => ?_⟩
    have ho : o ∈ ([(true, copy_m02), (false, copy_out)] : List (Bool × wE)) := ho
    simp only [List.mem_cons, List.not_mem_nil, or_false] at ho
    rcases ho with rfl | rfl
    · exact Or.inr ⟨rfl, List.mem_cons_of_mem _ (List.mem_cons_of_mem _ (List.mem_cons_of_mem _ (List.mem_cons_of_mem _ (List.mem_cons_of_mem _ (List.mem_cons_of_mem _ (List.mem_cons_of_mem _ (List.mem_cons_of_mem _ (List.mem_cons_of_mem _ (List.mem_cons_of_mem _ (List.mem_cons_of_mem _ (List.mem_cons_of_mem _ (List.mem_cons_self))))))))))))⟩
    · exact Or.inl (List.mem_cons_self)
  · refine ⟨copyo4, copyN4, fun o ho => ?_⟩
    have ho : o ∈ ([(true, copy_m10), (false, copy_out)] : List (Bool × wE)) := ho
    simp only [List.mem_cons, List.not_mem_nil, or_false] at ho
    rcases ho with rfl | rfl
    · exact Or.inr ⟨rfl, List.mem_cons_of_mem _ (List.mem_cons_of_mem _ (List.mem_cons_of_mem _ (List.mem_cons_of_mem _ (List.mem_cons_of_mem _ (List.mem_cons_of_mem _ (List.mem_cons_of_mem _ (List.mem_cons_of_mem _ (List.mem_cons_of_mem _ (List.mem_cons_of_mem _ (List.mem_cons_of_mem _ (List.mem_cons_of_mem _ (List.mem_cons_of_mem _ (List.mem_cons_self)))))))))))))⟩
    · exact Or.inl (List.mem_cons_self)
  · refine ⟨copyo5, copyN5, fun o ho => ?_⟩
    have ho : o ∈ ([(true, copy_m11), (false, copy_out)] : List (Bool × wE)) := ho
    simp only [List.mem_cons, List.not_mem_nil, or_false] at ho
    rcases ho with rfl | rfl
    · exact Or.inr ⟨rfl, List.mem_cons_of_mem _ (List.mem_cons_of_mem _ (List.mem_cons_of_mem _ (List.mem_cons_of_mem _ (List.mem_cons_of_mem _ (List.mem_cons_of_mem _ (List.mem_cons_of_mem _ (List.mem_cons_of_mem _ (List.mem_cons_of_mem _ (List.mem_cons_of_mem _ (List.mem_cons_of_mem _ (List.mem_cons_of_mem _ (List.mem_cons_of_mem _ (List.mem_cons_of_mem _ (List.mem_cons_self))))))))))))))⟩
    · exact Or.inl (List.mem_cons_self)
  · refine ⟨copyo6, copyN6, fun o ho => ?_⟩
    have ho : o ∈ ([(true, copy_m12), (false, copy_out)] : List (Bool × wE)) := ho
    simp only [List.mem_cons, List.not_mem_nil, or_false] at ho
    rcases ho with rfl | rfl
    · exact Or.inr ⟨rfl, List.mem_cons_of_mem _ (List.mem_cons_of_mem _ (List.mem_cons_of_mem _ (List.mem_cons_of_mem _ (List.mem_cons_of_mem _ (List.mem_cons_of_mem _ (List.mem_cons_of_mem _ (List.mem_cons_of_mem _ (List.mem_cons_of_mem _ (List.mem_cons_of_mem _ (List.mem_cons_of_mem _ (List.mem_cons_of_mem _ (List.mem_cons_of_mem _ (List.mem_cons_of_mem _ (List.mem_cons_of_mem _ (List.mem_cons_self)))))))))))))))⟩
    · exact Or.inl (List.mem_cons_self)
  · refine ⟨copyo7, copyN7, fun o ho => ?_⟩
    have ho : o ∈ ([(true, copy_m20), (false, copy_out)] : List (Bool × wE)) := ho
    simp only [List.mem_cons, List.not_mem_nil, or_false] at ho
    rcases ho with rfl | rfl
    · exact Or.inr ⟨rfl, List.mem_cons_of_mem _ (List.mem_cons_of_mem _ (List.mem_cons_of_mem _ (List.mem_cons_of_mem _ (List.mem_cons_of_mem _ (List.mem_cons_of_mem _ (List.mem_cons_of_mem _ (List.mem_cons_of_mem _ (List.mem_cons_of_mem _ (List.mem_cons_of_mem _ (List.mem_cons_of_mem _ (List.mem_cons_of_mem _ (List.mem_cons_of_mem _ (List.mem_cons_of_mem _ (List.mem_cons_of_mem _ (List.mem_cons_of_mem _ (List.mem_cons_self))))))))))))))))⟩
    · exact Or.inl (List.mem_cons_self)
  · refine ⟨copyo8, copyN8, fun o ho => ?_⟩
    have ho : o ∈ ([(true, copy_m21), (false, copy_out)] : List (Bool × wE)) := ho
    simp only [List.mem_cons, List.not_mem_nil, or_false] at ho
    rcases ho with rfl | rfl
    · exact Or.inr ⟨rfl, List.mem_cons_of_mem _ (List.mem_cons_of_mem _ (List.mem_cons_of_mem _ (List.mem_cons_of_mem _ (List.mem_cons_of_mem _ (List.mem_cons_of_mem _ (List.mem_cons_of_mem _ (List.mem_cons_of_mem _ (List.mem_cons_of_mem _ (List.mem_cons_of_mem _ (List.mem_cons_of_mem _ (List.mem_cons_of_mem _ (List.mem_cons_of_mem _ (List.mem_cons_of_mem _ (List.mem_cons_of_mem _ (List.mem_cons_of_mem _ (List.mem_cons_of_mem _ (List.mem_cons_self)))))))))))))))))⟩
    · exact Or.inl (List.mem_cons_self)
  · refine ⟨copyo9, copyN9, fun o ho => ?_⟩
    have ho : o ∈ ([(true, copy_m22), (false, copy_out)] : List (Bool × wE)) := ho
    simp only [List.mem_cons, List.not_mem_nil, or_false] at ho
    rcases ho with rfl | rfl
    · exact Or.inr ⟨rfl, List.mem_cons_of_mem _ (List.mem_cons_of_mem _ (List.mem_cons_of_mem _ (List.mem_cons_of_mem _ (List.mem_cons_of_mem _ (List.mem_cons_of_mem _ (List.mem_cons_of_mem _ (List.mem_cons_of_mem _ (List.mem_cons_of_mem _ (List.mem_cons_of_mem _ (List.mem_cons_of_mem _ (List.mem_cons_of_mem _ (List.mem_cons_of_mem _ (List.mem_cons_of_mem _ (List.mem_cons_of_mem _ (List.mem_cons_of_mem _ (List.mem_cons_of_mem _ (List.mem_cons_of_mem _ (List.mem_cons_self))))))))))))))))))⟩
    · exact Or.inl (List.mem_cons_self)
  · refine ⟨copyo10, copyN10, fun o ho => ?_⟩
    have ho : o ∈ ([(false, copy_out)] : List (Bool × wE)) := ho
    simp only [List.mem_cons, List.not_mem_nil, or_false] at ho
    rcases ho with rfl
    · exact Or.inl (List.mem_cons_self)
  · refine ⟨copyo11, copyN11, fun o ho => ?_⟩
    have ho : o ∈ ([(false, copy_out)] : List (Bool × wE)) := ho
    simp only [List.mem_cons, List.not_mem_nil, or_false] at ho
    rcases ho with rfl
    · exact Or.inl (List.mem_cons_self)
  · refine ⟨copyo12, copyN12, fun o ho => ?_⟩
    have ho : o ∈ ([(false, copy_out)] : List (Bool × wE)) := ho
    simp only [List.mem_cons, List.not_mem_nil, or_false] at ho
    rcases ho with rfl
    · exact Or.inl (List.mem_cons_self)
  · refine ⟨copyo13, copyN13, fun o ho => ?_⟩
    have ho : o ∈ ([(false, copy_out)] : List (Bool × wE)) := ho
    simp only [List.mem_cons, List.not_mem_nil, or_false] at ho
    rcases ho with rfl
    · exact Or.inl (List.mem_cons_self)
  · refine ⟨copyo14, copyN14, fun o ho => ?_⟩
    have ho : o ∈ ([(false, copy_out)] : List (Bool × wE)) := ho
    simp only [List.mem_cons, List.not_mem_nil, or_false] at ho
    rcases ho with rfl
    · exact Or.inl (List.mem_cons_self)
  · refine ⟨copyo15, copyN15, fun o ho => ?_⟩
    have ho : o ∈ ([(false, copy_out)] : List (Bool × wE)) := ho
    simp only [List.mem_cons, List.not_mem_nil, or_false] at ho
    rcases ho with rfl
    · exact Or.inl (List.mem_cons_self)
  · refine ⟨copyo16, copyN16, fun o ho => ?_⟩
    have ho : o ∈ ([(false, copy_out)] : List (Bool × wE)) := ho
    simp only [List.mem_cons, List.not_mem_nil, or_false] at ho
    rcases ho with rfl
    · exact Or.inl (List.mem_cons_self)
  · refine ⟨copyo17, copyN17, fun o ho => ?_⟩
    have ho : o ∈ ([(false, copy_out)] : List (Bool × wE)) := ho
    simp only [List.mem_cons, List.not_mem_nil, or_false] at ho
    rcases ho with rfl
    · exact Or.inl (List.mem_cons_self)
  · refine ⟨copyo18, copyN18, fun o ho => ?_⟩
    have ho : o ∈ ([(false, copy_out)] : List (Bool × wE)) := ho
    simp only [List.mem_cons, List.not_mem_nil, or_false] at ho
    rcases ho with rfl
    · exact Or.inl (List.mem_cons_self))
theorem copyH {xs : Nat → Int32} {n : Nat} {sf : Option Nat} : wGoes x_KT x_tb x_tyl (x_otS xs n sf) lwFS lwGA.length lwGB.length 5 24 42 copyWA copyWB 178 274 60 60 copy_in (copyOX.map (fun x => x.1)) :=
  wFSr (FS := lwFR) (nh := 29) (wFam (V := []) lwFRok (by decide +kernel) (by decide +kernel) (copy_g0_G copy_in List.mem_cons_self) (by decide) (by decide) (fun i hi u hu => by
  have hi : i ∈ ([] : List Nat) := hi
  simp only [List.mem_cons, List.not_mem_nil, or_false] at hi)) lwFRp (by decide) (by decide +kernel)
theorem copyPP {xs : Nat → Int32} {n : Nat} {sf : Option Nat} : bPP x_KT x_tb x_tyl (x_otS xs n sf) lwN lwP 1299 178 274 5 (mMc xm178 + mMc xm274) (mRc xm178) (mRc xm274) True :=
  wBlk lwFok lwFB uKa uKb (by decide +kernel) (by decide +kernel) uKdj uKj copybc copyH gq178 gq274 (by decide) (by decide) (uKeep (by decide +kernel)) (by decide +kernel) (by decide +kernel) (by decide +kernel)
theorem bgN0 {xs : Nat → Int32} {n : Nat} {sf : Option Nat} : wGoes x_KT x_tb x_tyl (x_otS xs n sf) lwFR lwGA.length lwGB.length 27 33 45 bgWA bgWB 115 243 60 60 bg_in bgo0 :=
  wDp (wWk (wFamE2 (V := [5, 6, 7, 9, 10, 8, 31, 39, 40]) (x_ov0_le sf) u_ctS lwFRok bgE0 (by decide) (by decide) (fun i hi u hu => by
      have hi : i ∈ ([5, 6, 7, 9, 10, 8, 31, 39, 40] : List Nat) := hi
      simp only [List.mem_cons, List.not_mem_nil, or_false] at hi
      rcases hi with rfl | rfl | rfl | rfl | rfl | rfl | rfl | rfl | rfl
      · exact gRk_spec (x_ov0_le sf) u_ctS lwFRok bgE0 (by decide) (by decide) bgE0G0 (by decide +kernel) _ (List.mem_cons_self) u hu
      · exact gRk_spec (x_ov0_le sf) u_ctS lwFRok bgE0 (by decide) (by decide) bgE0G0 (by decide +kernel) _ (List.mem_cons_of_mem _ (List.mem_cons_self)) u hu
      · exact gRk_spec (x_ov0_le sf) u_ctS lwFRok bgE0 (by decide) (by decide) bgE0G0 (by decide +kernel) _ (List.mem_cons_of_mem _ (List.mem_cons_of_mem _ (List.mem_cons_self))) u hu
      · exact gRk_spec (x_ov0_le sf) u_ctS lwFRok bgE0 (by decide) (by decide) bgE0G0 (by decide +kernel) _ (List.mem_cons_of_mem _ (List.mem_cons_of_mem _ (List.mem_cons_of_mem _ (List.mem_cons_self)))) u hu
      · exact gRk_spec (x_ov0_le sf) u_ctS lwFRok bgE0 (by decide) (by decide) bgE0G0 (by decide +kernel) _ (List.mem_cons_of_mem _ (List.mem_cons_of_mem _ (List.mem_cons_of_mem _ (List.mem_cons_of_mem _ (List.mem_cons_self))))) u hu
      · exact gRk_spec (x_ov0_le sf) u_ctS lwFRok bgE0 (by decide) (by decide) bgE0G0 (by decide +kernel) _ (List.mem_cons_of_mem _ (List.mem_cons_of_mem _ (List.mem_cons_of_mem _ (List.mem_cons_of_mem _ (List.mem_cons_of_mem _ (List.mem_cons_self)))))) u hu
      · exact gRk_spec (x_ov0_le sf) u_ctS lwFRok bgE0 (by decide) (by decide) bgE0G1 (by decide +kernel) _ (List.mem_cons_self) u hu
      · exact gRk_spec (x_ov0_le sf) u_ctS lwFRok bgE0 (by decide) (by decide) bgE0G2 (by decide +kernel) _ (List.mem_cons_self) u hu
      · exact gRk_spec (x_ov0_le sf) u_ctS lwFRok bgE0 (by decide) (by decide) bgE0G2 (by decide +kernel) _ (List.mem_cons_of_mem _ (List.mem_cons_self)) u hu)) (Nat.le_refl _) (Nat.le_refl _) (Nat.le_refl _) (by decide +kernel) (by decide +kernel)) (by decide) (by decide)
theorem ctp0N0 {xs : Nat → Int32} {n : Nat} {sf : Option Nat} : wGoes x_KT x_tb x_tyl (x_otS xs n sf) lwFR lwGA.length lwGB.length 42 35 45 ctp0WA ctp0WB 70 206 60 60 ctp0_in ctp0o0 :=
  wDp (wWk (wEd_spec (x_ov0_le sf) u_ctS lwFRok ctp0E0) (Nat.le_refl _) (Nat.le_refl _) (Nat.le_refl _) (by decide +kernel) (by decide +kernel)) (by decide) (by decide)
def ctp0_g0_nd : List wE := [ctp0_in]
theorem ctp0_g0_G {xs : Nat → Int32} {n : Nat} {sf : Option Nat} : ∀ nd ∈ ctp0_g0_nd, wGoes x_KT x_tb x_tyl (x_otS xs n sf) lwFR lwGA.length lwGB.length 42 35 45 ctp0WA ctp0WB 70 206 60 60 nd (ctp0_g0_ex.map (fun x => (false, x))) := wGraph (fun nd hnd => by
  have hnd : nd ∈ ([ctp0_in] : List wE) := hnd
  simp only [List.mem_cons, List.not_mem_nil, or_false] at hnd
  rcases hnd with rfl
  · refine ⟨ctp0o0, ctp0N0, fun o ho => ?_⟩
    have ho : o ∈ ([(false, ctp0_x)] : List (Bool × wE)) := ho
    simp only [List.mem_cons, List.not_mem_nil, or_false] at ho
    rcases ho with rfl
    · exact Or.inl (List.mem_cons_self))
theorem rip0N0 {xs : Nat → Int32} {n : Nat} {sf : Option Nat} : wGoes x_KT x_tb x_tyl (x_otS xs n sf) lwFR lwGA.length lwGB.length 41 35 45 rip0WA rip0WB 72 205 61 61 rip0_c rip0o0 :=
  wDp (wWk (wEqvB (wCallB (recv := 0) (pc := 189) (ix := 291) (nx := 3) (args := [.inl (lSy 6), .inl (lSy 40), .inl (lSy 41), .inl (lK 0)]) (rest := [.inl (lSy 40), .inr (some 8)]) (LE := [(0, .inr (some 0)), (1, .inl (lSy 6)), (2, .inl (lSy 5)), (3, .inl (lK 0)), (4, .inr (some 42)), (5, .inl (lSc 4 (lSy 31))), (7, .inl (lAdd (lSy 31) (lK 1)))]) (cE := (lK 0)) (sE := (lK 0)) (wCallA (recv := 30) (pc := 41) (ix := 87) (nx := 3) (args := [.inl (lSy 40), .inl (lSy 41)]) (rest := [.inl (lSy 40), .inr (some 5)]) (LE := [(0, .inr (some 4))]) (cE := (lK 0)) (sE := (lK 0)) (wReL (XA := rip0X0.2.1) (XB := rip0X0.2.2.1) (XC := rip0X0.2.2.2.1) (rk := rip0X0.2.2.2.2) (rA := rip0QA0) (rB := rip0QB0) (ctp0_g0_G _ List.mem_cons_self) rip0L0) gq72 gq70 (by decide +kernel) (by decide +kernel) (by decide +kernel) (by decide +kernel) (by decide +kernel)) gq205 gq206 (by decide +kernel) (by decide +kernel) (by decide +kernel) (by decide +kernel) (by decide +kernel)) (by decide +kernel) (by decide +kernel)) (by decide) (by decide) (by decide) (by decide +kernel) (by decide +kernel)) (by decide) (by decide)
theorem rip0N1 {xs : Nat → Int32} {n : Nat} {sf : Option Nat} : wGoes x_KT x_tb x_tyl (x_otS xs n sf) lwFR lwGA.length lwGB.length 41 35 45 rip0WA rip0WB 72 205 61 61 rip0_in rip0o1 :=
  wDp (wWk (wEd_spec (x_ov0_le sf) u_ctS lwFRok rip0E1) (Nat.le_refl _) (Nat.le_refl _) (Nat.le_refl _) (by decide +kernel) (by decide +kernel)) (by decide) (by decide)
theorem rip0N2 {xs : Nat → Int32} {n : Nat} {sf : Option Nat} : wGoes x_KT x_tb x_tyl (x_otS xs n sf) lwFR lwGA.length lwGB.length 41 35 45 rip0WA rip0WB 72 205 61 61 rip0_c_x rip0o2 :=
  wDp (wWk (wFamE2 (V := [29, 40, 47]) (x_ov0_le sf) u_ctS lwFRok rip0E2 (by decide) (by decide) (fun i hi u hu => by
      have hi : i ∈ ([29, 40, 47] : List Nat) := hi
      simp only [List.mem_cons, List.not_mem_nil, or_false] at hi
      rcases hi with rfl | rfl | rfl
      · exact gRk_spec (x_ov0_le sf) u_ctS lwFRok rip0E2 (by decide) (by decide) rip0E2G0 (by decide +kernel) _ (List.mem_cons_self) u hu
      · exact gRk_spec (x_ov0_le sf) u_ctS lwFRok rip0E2 (by decide) (by decide) rip0E2G0 (by decide +kernel) _ (List.mem_cons_of_mem _ (List.mem_cons_self)) u hu
      · cases hu
        exact wRkE_spec (x_ov0_le sf) u_ctS lwFRok rip0E2R47)) (Nat.le_refl _) (Nat.le_refl _) (Nat.le_refl _) (by decide +kernel) (by decide +kernel)) (by decide) (by decide)
theorem mnp0N0 {xs : Nat → Int32} {n : Nat} {sf : Option Nat} : wGoes x_KT x_tb x_tyl (x_otS xs n sf) lwFR lwGA.length lwGB.length 44 35 45 mnp0WA mnp0WB 76 209 60 60 mnp0_in mnp0o0 :=
  wDp (wWk (wEd_spec (x_ov0_le sf) u_ctS lwFRok mnp0E0) (Nat.le_refl _) (Nat.le_refl _) (Nat.le_refl _) (by decide +kernel) (by decide +kernel)) (by decide) (by decide)
def mnp0_g0_nd : List wE := [mnp0_in]
theorem mnp0_g0_G {xs : Nat → Int32} {n : Nat} {sf : Option Nat} : ∀ nd ∈ mnp0_g0_nd, wGoes x_KT x_tb x_tyl (x_otS xs n sf) lwFR lwGA.length lwGB.length 44 35 45 mnp0WA mnp0WB 76 209 60 60 nd (mnp0_g0_ex.map (fun x => (false, x))) := wGraph (fun nd hnd => by
  have hnd : nd ∈ ([mnp0_in] : List wE) := hnd
  simp only [List.mem_cons, List.not_mem_nil, or_false] at hnd
  rcases hnd with rfl
  · refine ⟨mnp0o0, mnp0N0, fun o ho => ?_⟩
    have ho : o ∈ ([(false, mnp0_x)] : List (Bool × wE)) := ho
    simp only [List.mem_cons, List.not_mem_nil, or_false] at ho
    rcases ho with rfl
    · exact Or.inl (List.mem_cons_self))
theorem lep0N0 {xs : Nat → Int32} {n : Nat} {sf : Option Nat} : wGoes x_KT x_tb x_tyl (x_otS xs n sf) lwFR lwGA.length lwGB.length 44 35 45 lep0WA lep0WB 69 210 61 61 lep0_c lep0o0 :=
  wDp (wWk (wEqvB (wCallB (recv := 0) (pc := 4) (ix := 288) (nx := 3) (args := [.inl (lSy 6), .inl (lSy 40), .inl (lK 0)]) (rest := []) (LE := [(0, .inr (some 0)), (1, .inl (lSy 6)), (2, .inl (lSy 40)), (3, .inl (lK 0))]) (cE := (lK 0)) (sE := (lK 0)) (wCallA (recv := 4) (pc := 336) (ix := 98) (nx := 3) (args := [.inl (lSy 40)]) (rest := [.inr (some 30)]) (LE := [(0, .inr (some 4)), (2, .inl (lSy 41)), (3, .inl (lSy 42)), (4, .inl (lAdd (lSy 31) (lK 1)))]) (cE := (lK 0)) (sE := (lK 0)) (wReL (XA := lep0X0.2.1) (XB := lep0X0.2.2.1) (XC := lep0X0.2.2.2.1) (rk := lep0X0.2.2.2.2) (rA := lep0QA0) (rB := lep0QB0) (mnp0_g0_G _ List.mem_cons_self) lep0L0) gq69 gq76 (by decide +kernel) (by decide +kernel) (by decide +kernel) (by decide +kernel) (by decide +kernel)) gq210 gq209 (by decide +kernel) (by decide +kernel) (by decide +kernel) (by decide +kernel) (by decide +kernel)) (by decide +kernel) (by decide +kernel)) (by decide) (by decide) (by decide) (by decide +kernel) (by decide +kernel)) (by decide) (by decide)
theorem lep0N1 {xs : Nat → Int32} {n : Nat} {sf : Option Nat} : wGoes x_KT x_tb x_tyl (x_otS xs n sf) lwFR lwGA.length lwGB.length 44 35 45 lep0WA lep0WB 69 210 61 61 lep0_in lep0o1 :=
  wDp (wWk (wEd_spec (x_ov0_le sf) u_ctS lwFRok lep0E1) (Nat.le_refl _) (Nat.le_refl _) (Nat.le_refl _) (by decide +kernel) (by decide +kernel)) (by decide) (by decide)
theorem lep0N2 {xs : Nat → Int32} {n : Nat} {sf : Option Nat} : wGoes x_KT x_tb x_tyl (x_otS xs n sf) lwFR lwGA.length lwGB.length 44 35 45 lep0WA lep0WB 69 210 61 61 lep0_c_x lep0o2 :=
  wDp (wWk (wEd_spec (x_ov0_le sf) u_ctS lwFRok lep0E2) (Nat.le_refl _) (Nat.le_refl _) (Nat.le_refl _) (by decide +kernel) (by decide +kernel)) (by decide) (by decide)
theorem sp0N0 {xs : Nat → Int32} {n : Nat} {sf : Option Nat} : wGoes x_KT x_tb x_tyl (x_otS xs n sf) lwFR lwGA.length lwGB.length 40 35 45 sp0WA sp0WB 69 205 62 62 sp0_in sp0o0 :=
  wDp (wWk (wEd_spec (x_ov0_le sf) u_ctS lwFRok sp0E0) (Nat.le_refl _) (Nat.le_refl _) (Nat.le_refl _) (by decide +kernel) (by decide +kernel)) (by decide) (by decide)
theorem sp0N1 {xs : Nat → Int32} {n : Nat} {sf : Option Nat} : wGoes x_KT x_tb x_tyl (x_otS xs n sf) lwFR lwGA.length lwGB.length 40 35 45 sp0WA sp0WB 69 205 62 62 sp0_M sp0o1 :=
  wDp (wWk (wEd_spec (x_ov0_le sf) u_ctS lwFRok sp0E1) (Nat.le_refl _) (Nat.le_refl _) (Nat.le_refl _) (by decide +kernel) (by decide +kernel)) (by decide) (by decide)
theorem sp0N2 {xs : Nat → Int32} {n : Nat} {sf : Option Nat} : wGoes x_KT x_tb x_tyl (x_otS xs n sf) lwFR lwGA.length lwGB.length 40 35 45 sp0WA sp0WB 69 205 62 62 sp0_op2 sp0o2 :=
  wDp (wWk (wEd_spec (x_ov0_le sf) u_ctS lwFRok sp0E2) (Nat.le_refl _) (Nat.le_refl _) (Nat.le_refl _) (by decide +kernel) (by decide +kernel)) (by decide) (by decide)
theorem sp0N3 {xs : Nat → Int32} {n : Nat} {sf : Option Nat} : wGoes x_KT x_tb x_tyl (x_otS xs n sf) lwFR lwGA.length lwGB.length 40 35 45 sp0WA sp0WB 69 205 62 62 sp0_L sp0o3 :=
  wDp (wWk (wFamE2 (V := [5, 6, 7, 9, 10, 8, 42, 31]) (x_ov0_le sf) u_ctS lwFRok sp0E3 (by decide) (by decide) (fun i hi u hu => by
      have hi : i ∈ ([5, 6, 7, 9, 10, 8, 42, 31] : List Nat) := hi
      simp only [List.mem_cons, List.not_mem_nil, or_false] at hi
      rcases hi with rfl | rfl | rfl | rfl | rfl | rfl | rfl | rfl
      · exact gRk_spec (x_ov0_le sf) u_ctS lwFRok sp0E3 (by decide) (by decide) sp0E3G0 (by decide +kernel) _ (List.mem_cons_self) u hu
      · exact gRk_spec (x_ov0_le sf) u_ctS lwFRok sp0E3 (by decide) (by decide) sp0E3G0 (by decide +kernel) _ (List.mem_cons_of_mem _ (List.mem_cons_self)) u hu
      · exact gRk_spec (x_ov0_le sf) u_ctS lwFRok sp0E3 (by decide) (by decide) sp0E3G0 (by decide +kernel) _ (List.mem_cons_of_mem _ (List.mem_cons_of_mem _ (List.mem_cons_self))) u hu
      · exact gRk_spec (x_ov0_le sf) u_ctS lwFRok sp0E3 (by decide) (by decide) sp0E3G0 (by decide +kernel) _ (List.mem_cons_of_mem _ (List.mem_cons_of_mem _ (List.mem_cons_of_mem _ (List.mem_cons_self)))) u hu
      · exact gRk_spec (x_ov0_le sf) u_ctS lwFRok sp0E3 (by decide) (by decide) sp0E3G0 (by decide +kernel) _ (List.mem_cons_of_mem _ (List.mem_cons_of_mem _ (List.mem_cons_of_mem _ (List.mem_cons_of_mem _ (List.mem_cons_self))))) u hu
      · exact gRk_spec (x_ov0_le sf) u_ctS lwFRok sp0E3 (by decide) (by decide) sp0E3G0 (by decide +kernel) _ (List.mem_cons_of_mem _ (List.mem_cons_of_mem _ (List.mem_cons_of_mem _ (List.mem_cons_of_mem _ (List.mem_cons_of_mem _ (List.mem_cons_self)))))) u hu
      · cases hu
        exact wRkE_spec (x_ov0_le sf) u_ctS lwFRok sp0E3R42
      · cases hu
        exact wRkE_spec (x_ov0_le sf) u_ctS lwFRok sp0E3R31)) (Nat.le_refl _) (Nat.le_refl _) (Nat.le_refl _) (by decide +kernel) (by decide +kernel)) (by decide) (by decide)
theorem sp0N4 {xs : Nat → Int32} {n : Nat} {sf : Option Nat} : wGoes x_KT x_tb x_tyl (x_otS xs n sf) lwFR lwGA.length lwGB.length 40 35 45 sp0WA sp0WB 69 205 62 62 sp0_M2 sp0o4 :=
  wDp (wWk (wEd_spec (x_ov0_le sf) u_ctS lwFRok sp0E4) (Nat.le_refl _) (Nat.le_refl _) (Nat.le_refl _) (by decide +kernel) (by decide +kernel)) (by decide) (by decide)
theorem sp0N5 {xs : Nat → Int32} {n : Nat} {sf : Option Nat} : wGoes x_KT x_tb x_tyl (x_otS xs n sf) lwFR lwGA.length lwGB.length 40 35 45 sp0WA sp0WB 69 205 62 62 sp0_F sp0o5 :=
  wDp (wWk (wEd_spec (x_ov0_le sf) u_ctS lwFRok sp0E5) (Nat.le_refl _) (Nat.le_refl _) (Nat.le_refl _) (by decide +kernel) (by decide +kernel)) (by decide) (by decide)
theorem sp0N6 {xs : Nat → Int32} {n : Nat} {sf : Option Nat} : wGoes x_KT x_tb x_tyl (x_otS xs n sf) lwFR lwGA.length lwGB.length 40 35 45 sp0WA sp0WB 69 205 62 62 sp0_op9 sp0o6 :=
  wDp (wWk (wEd_spec (x_ov0_le sf) u_ctS lwFRok sp0E6) (Nat.le_refl _) (Nat.le_refl _) (Nat.le_refl _) (by decide +kernel) (by decide +kernel)) (by decide) (by decide)
theorem sp0N7 {xs : Nat → Int32} {n : Nat} {sf : Option Nat} : wGoes x_KT x_tb x_tyl (x_otS xs n sf) lwFR lwGA.length lwGB.length 40 35 45 sp0WA sp0WB 69 205 62 62 sp0_op10 sp0o7 :=
  wDp (wWk (wEd_spec (x_ov0_le sf) u_ctS lwFRok sp0E7) (Nat.le_refl _) (Nat.le_refl _) (Nat.le_refl _) (by decide +kernel) (by decide +kernel)) (by decide) (by decide)
theorem sp0N8 {xs : Nat → Int32} {n : Nat} {sf : Option Nat} : wGoes x_KT x_tb x_tyl (x_otS xs n sf) lwFR lwGA.length lwGB.length 40 35 45 sp0WA sp0WB 69 205 62 62 sp0_c0 sp0o8 :=
  wDp (wWk (wEqvB (wCallB (recv := 0) (pc := 128) (ix := 291) (nx := 3) (args := [.inl (lSy 6), .inl (lSy 40), .inl (lSy 41), .inl (lK 0)]) (rest := [.inl (lSy 40), .inr (some 8)]) (LE := [(0, .inr (some 0)), (1, .inl (lSy 6)), (2, .inl (lSy 5)), (3, .inl (lK 0)), (7, .inl (lAdd (lSy 31) (lK 1)))]) (cE := (lK 0)) (sE := (lK 0)) (wCallA (recv := 30) (pc := 158) (ix := 87) (nx := 3) (args := [.inl (lSy 40), .inl (lSy 41)]) (rest := [.inl (lSy 40), .inr (some 5)]) (LE := [(0, .inr (some 4)), (4, .inl (lAdd (lSy 31) (lK 1)))]) (cE := (lK 0)) (sE := (lK 0)) (wReL (XA := sp0X8.2.1) (XB := sp0X8.2.2.1) (XC := sp0X8.2.2.2.1) (rk := sp0X8.2.2.2.2) (rA := sp0QA8) (rB := sp0QB8) (ctp0_g0_G _ List.mem_cons_self) sp0L8) gq69 gq70 (by decide +kernel) (by decide +kernel) (by decide +kernel) (by decide +kernel) (by decide +kernel)) gq205 gq206 (by decide +kernel) (by decide +kernel) (by decide +kernel) (by decide +kernel) (by decide +kernel)) (by decide +kernel) (by decide +kernel)) (by decide) (by decide) (by decide) (by decide +kernel) (by decide +kernel)) (by decide) (by decide)
theorem sp0N9 {xs : Nat → Int32} {n : Nat} {sf : Option Nat} : wGoes x_KT x_tb x_tyl (x_otS xs n sf) lwFR lwGA.length lwGB.length 40 35 45 sp0WA sp0WB 69 205 62 62 sp0_op0 sp0o9 :=
  wDp (wWk (wEd_spec (x_ov0_le sf) u_ctS lwFRok sp0E9) (Nat.le_refl _) (Nat.le_refl _) (Nat.le_refl _) (by decide +kernel) (by decide +kernel)) (by decide) (by decide)
theorem sp0N10 {xs : Nat → Int32} {n : Nat} {sf : Option Nat} : wGoes x_KT x_tb x_tyl (x_otS xs n sf) lwFR lwGA.length lwGB.length 40 35 45 sp0WA sp0WB 69 205 62 62 sp0_c0_x sp0o10 :=
  wDp (wWk (wFamE2 (V := [29, 40]) (x_ov0_le sf) u_ctS lwFRok sp0E10 (by decide) (by decide) (fun i hi u hu => by
      have hi : i ∈ ([29, 40] : List Nat) := hi
      simp only [List.mem_cons, List.not_mem_nil, or_false] at hi
      rcases hi with rfl | rfl
      · exact gRk_spec (x_ov0_le sf) u_ctS lwFRok sp0E10 (by decide) (by decide) sp0E10G0 (by decide +kernel) _ (List.mem_cons_self) u hu
      · exact gRk_spec (x_ov0_le sf) u_ctS lwFRok sp0E10 (by decide) (by decide) sp0E10G0 (by decide +kernel) _ (List.mem_cons_of_mem _ (List.mem_cons_self)) u hu)) (Nat.le_refl _) (Nat.le_refl _) (Nat.le_refl _) (by decide +kernel) (by decide +kernel)) (by decide) (by decide)
theorem sp0N11 {xs : Nat → Int32} {n : Nat} {sf : Option Nat} : wGoes x_KT x_tb x_tyl (x_otS xs n sf) lwFR lwGA.length lwGB.length 40 35 45 sp0WA sp0WB 69 205 62 62 sp0_c3 sp0o11 :=
  wDp (wWk (wEqvB (wCallB (recv := 0) (pc := 299) (ix := 291) (nx := 3) (args := [.inl (lSy 6), .inl (lSy 40), .inl (lSy 41), .inl (lK 0)]) (rest := [.inl (lSy 40), .inr (some 8)]) (LE := [(0, .inr (some 0)), (1, .inl (lSy 6)), (2, .inl (lSy 5)), (3, .inl (lK 0)), (7, .inl (lAdd (lSy 31) (lK 1)))]) (cE := (lK 0)) (sE := (lK 0)) (wCallA (recv := 30) (pc := 192) (ix := 87) (nx := 3) (args := [.inl (lSy 40), .inl (lSy 41)]) (rest := [.inl (lSy 40), .inr (some 5)]) (LE := [(0, .inr (some 4)), (4, .inl (lAdd (lSy 31) (lK 1)))]) (cE := (lK 0)) (sE := (lK 0)) (wReL (XA := sp0X11.2.1) (XB := sp0X11.2.2.1) (XC := sp0X11.2.2.2.1) (rk := sp0X11.2.2.2.2) (rA := sp0QA11) (rB := sp0QB11) (ctp0_g0_G _ List.mem_cons_self) sp0L11) gq69 gq70 (by decide +kernel) (by decide +kernel) (by decide +kernel) (by decide +kernel) (by decide +kernel)) gq205 gq206 (by decide +kernel) (by decide +kernel) (by decide +kernel) (by decide +kernel) (by decide +kernel)) (by decide +kernel) (by decide +kernel)) (by decide) (by decide) (by decide) (by decide +kernel) (by decide +kernel)) (by decide) (by decide)
theorem sp0N12 {xs : Nat → Int32} {n : Nat} {sf : Option Nat} : wGoes x_KT x_tb x_tyl (x_otS xs n sf) lwFR lwGA.length lwGB.length 40 35 45 sp0WA sp0WB 69 205 62 62 sp0_op3 sp0o12 :=
  wDp (wWk (wEd_spec (x_ov0_le sf) u_ctS lwFRok sp0E12) (Nat.le_refl _) (Nat.le_refl _) (Nat.le_refl _) (by decide +kernel) (by decide +kernel)) (by decide) (by decide)
theorem sp0N13 {xs : Nat → Int32} {n : Nat} {sf : Option Nat} : wGoes x_KT x_tb x_tyl (x_otS xs n sf) lwFR lwGA.length lwGB.length 40 35 45 sp0WA sp0WB 69 205 62 62 sp0_c3_x sp0o13 :=
  wDp (wWk (wFamE2 (V := [29, 40]) (x_ov0_le sf) u_ctS lwFRok sp0E13 (by decide) (by decide) (fun i hi u hu => by
      have hi : i ∈ ([29, 40] : List Nat) := hi
      simp only [List.mem_cons, List.not_mem_nil, or_false] at hi
      rcases hi with rfl | rfl
      · exact gRk_spec (x_ov0_le sf) u_ctS lwFRok sp0E13 (by decide) (by decide) sp0E13G0 (by decide +kernel) _ (List.mem_cons_self) u hu
      · exact gRk_spec (x_ov0_le sf) u_ctS lwFRok sp0E13 (by decide) (by decide) sp0E13G0 (by decide +kernel) _ (List.mem_cons_of_mem _ (List.mem_cons_self)) u hu)) (Nat.le_refl _) (Nat.le_refl _) (Nat.le_refl _) (by decide +kernel) (by decide +kernel)) (by decide) (by decide)
theorem sp0N14 {xs : Nat → Int32} {n : Nat} {sf : Option Nat} : wGoes x_KT x_tb x_tyl (x_otS xs n sf) lwFR lwGA.length lwGB.length 40 35 45 sp0WA sp0WB 69 205 62 62 sp0_c4 sp0o14 :=
  wDp (wWk (wEqvB (wCallB (recv := 0) (pc := 335) (ix := 291) (nx := 3) (args := [.inl (lSy 6), .inl (lSy 40), .inl (lSy 41), .inl (lK 0)]) (rest := [.inl (lSy 40), .inr (some 8)]) (LE := [(0, .inr (some 0)), (1, .inl (lSy 6)), (2, .inl (lSy 5)), (3, .inl (lK 0)), (7, .inl (lAdd (lSy 31) (lK 1)))]) (cE := (lK 0)) (sE := (lK 0)) (wCallA (recv := 30) (pc := 215) (ix := 87) (nx := 3) (args := [.inl (lSy 40), .inl (lSy 41)]) (rest := [.inl (lSy 40), .inr (some 5)]) (LE := [(0, .inr (some 4)), (4, .inl (lAdd (lSy 31) (lK 1)))]) (cE := (lK 0)) (sE := (lK 0)) (wReL (XA := sp0X14.2.1) (XB := sp0X14.2.2.1) (XC := sp0X14.2.2.2.1) (rk := sp0X14.2.2.2.2) (rA := sp0QA14) (rB := sp0QB14) (ctp0_g0_G _ List.mem_cons_self) sp0L14) gq69 gq70 (by decide +kernel) (by decide +kernel) (by decide +kernel) (by decide +kernel) (by decide +kernel)) gq205 gq206 (by decide +kernel) (by decide +kernel) (by decide +kernel) (by decide +kernel) (by decide +kernel)) (by decide +kernel) (by decide +kernel)) (by decide) (by decide) (by decide) (by decide +kernel) (by decide +kernel)) (by decide) (by decide)
theorem sp0N15 {xs : Nat → Int32} {n : Nat} {sf : Option Nat} : wGoes x_KT x_tb x_tyl (x_otS xs n sf) lwFR lwGA.length lwGB.length 40 35 45 sp0WA sp0WB 69 205 62 62 sp0_op4 sp0o15 :=
  wDp (wWk (wEd_spec (x_ov0_le sf) u_ctS lwFRok sp0E15) (Nat.le_refl _) (Nat.le_refl _) (Nat.le_refl _) (by decide +kernel) (by decide +kernel)) (by decide) (by decide)
theorem sp0N16 {xs : Nat → Int32} {n : Nat} {sf : Option Nat} : wGoes x_KT x_tb x_tyl (x_otS xs n sf) lwFR lwGA.length lwGB.length 40 35 45 sp0WA sp0WB 69 205 62 62 sp0_c4_x sp0o16 :=
  wDp (wWk (wFamE2 (V := [29, 40]) (x_ov0_le sf) u_ctS lwFRok sp0E16 (by decide) (by decide) (fun i hi u hu => by
      have hi : i ∈ ([29, 40] : List Nat) := hi
      simp only [List.mem_cons, List.not_mem_nil, or_false] at hi
      rcases hi with rfl | rfl
      · exact gRk_spec (x_ov0_le sf) u_ctS lwFRok sp0E16 (by decide) (by decide) sp0E16G0 (by decide +kernel) _ (List.mem_cons_self) u hu
      · exact gRk_spec (x_ov0_le sf) u_ctS lwFRok sp0E16 (by decide) (by decide) sp0E16G0 (by decide +kernel) _ (List.mem_cons_of_mem _ (List.mem_cons_self)) u hu)) (Nat.le_refl _) (Nat.le_refl _) (Nat.le_refl _) (by decide +kernel) (by decide +kernel)) (by decide) (by decide)
theorem sp0N17 {xs : Nat → Int32} {n : Nat} {sf : Option Nat} : wGoes x_KT x_tb x_tyl (x_otS xs n sf) lwFR lwGA.length lwGB.length 40 35 45 sp0WA sp0WB 69 205 62 62 sp0_c5 sp0o17 :=
  wDp (wWk (wEqvB (wCallB (recv := 0) (pc := 382) (ix := 291) (nx := 3) (args := [.inl (lSy 6), .inl (lSy 40), .inl (lSy 41), .inl (lK 0)]) (rest := [.inl (lSy 40), .inr (some 8)]) (LE := [(0, .inr (some 0)), (1, .inl (lSy 6)), (2, .inl (lSy 5)), (3, .inl (lK 0)), (7, .inl (lAdd (lSy 31) (lK 1)))]) (cE := (lK 0)) (sE := (lK 0)) (wCallA (recv := 30) (pc := 245) (ix := 87) (nx := 3) (args := [.inl (lSy 40), .inl (lSy 41)]) (rest := [.inl (lSy 40), .inr (some 5)]) (LE := [(0, .inr (some 4)), (4, .inl (lAdd (lSy 31) (lK 1)))]) (cE := (lK 0)) (sE := (lK 0)) (wReL (XA := sp0X17.2.1) (XB := sp0X17.2.2.1) (XC := sp0X17.2.2.2.1) (rk := sp0X17.2.2.2.2) (rA := sp0QA17) (rB := sp0QB17) (ctp0_g0_G _ List.mem_cons_self) sp0L17) gq69 gq70 (by decide +kernel) (by decide +kernel) (by decide +kernel) (by decide +kernel) (by decide +kernel)) gq205 gq206 (by decide +kernel) (by decide +kernel) (by decide +kernel) (by decide +kernel) (by decide +kernel)) (by decide +kernel) (by decide +kernel)) (by decide) (by decide) (by decide) (by decide +kernel) (by decide +kernel)) (by decide) (by decide)
theorem sp0N18 {xs : Nat → Int32} {n : Nat} {sf : Option Nat} : wGoes x_KT x_tb x_tyl (x_otS xs n sf) lwFR lwGA.length lwGB.length 40 35 45 sp0WA sp0WB 69 205 62 62 sp0_op5 sp0o18 :=
  wDp (wWk (wEd_spec (x_ov0_le sf) u_ctS lwFRok sp0E18) (Nat.le_refl _) (Nat.le_refl _) (Nat.le_refl _) (by decide +kernel) (by decide +kernel)) (by decide) (by decide)
theorem sp0N19 {xs : Nat → Int32} {n : Nat} {sf : Option Nat} : wGoes x_KT x_tb x_tyl (x_otS xs n sf) lwFR lwGA.length lwGB.length 40 35 45 sp0WA sp0WB 69 205 62 62 sp0_c5_x sp0o19 :=
  wDp (wWk (wFamE2 (V := [29, 40]) (x_ov0_le sf) u_ctS lwFRok sp0E19 (by decide) (by decide) (fun i hi u hu => by
      have hi : i ∈ ([29, 40] : List Nat) := hi
      simp only [List.mem_cons, List.not_mem_nil, or_false] at hi
      rcases hi with rfl | rfl
      · exact gRk_spec (x_ov0_le sf) u_ctS lwFRok sp0E19 (by decide) (by decide) sp0E19G0 (by decide +kernel) _ (List.mem_cons_self) u hu
      · exact gRk_spec (x_ov0_le sf) u_ctS lwFRok sp0E19 (by decide) (by decide) sp0E19G0 (by decide +kernel) _ (List.mem_cons_of_mem _ (List.mem_cons_self)) u hu)) (Nat.le_refl _) (Nat.le_refl _) (Nat.le_refl _) (by decide +kernel) (by decide +kernel)) (by decide) (by decide)
theorem sp0N20 {xs : Nat → Int32} {n : Nat} {sf : Option Nat} : wGoes x_KT x_tb x_tyl (x_otS xs n sf) lwFR lwGA.length lwGB.length 40 35 45 sp0WA sp0WB 69 205 62 62 sp0_c6 sp0o20 :=
  wDp (wWk (wEqvB (wCallB (recv := 0) (pc := 429) (ix := 291) (nx := 3) (args := [.inl (lSy 6), .inl (lSy 40), .inl (lSy 41), .inl (lK 0)]) (rest := [.inl (lSy 40), .inr (some 8)]) (LE := [(0, .inr (some 0)), (1, .inl (lSy 6)), (2, .inl (lSy 5)), (3, .inl (lK 0)), (7, .inl (lAdd (lSy 31) (lK 1)))]) (cE := (lK 0)) (sE := (lK 0)) (wCallA (recv := 30) (pc := 275) (ix := 87) (nx := 3) (args := [.inl (lSy 40), .inl (lSy 41)]) (rest := [.inl (lSy 40), .inr (some 5)]) (LE := [(0, .inr (some 4)), (4, .inl (lAdd (lSy 31) (lK 1)))]) (cE := (lK 0)) (sE := (lK 0)) (wReL (XA := sp0X20.2.1) (XB := sp0X20.2.2.1) (XC := sp0X20.2.2.2.1) (rk := sp0X20.2.2.2.2) (rA := sp0QA20) (rB := sp0QB20) (ctp0_g0_G _ List.mem_cons_self) sp0L20) gq69 gq70 (by decide +kernel) (by decide +kernel) (by decide +kernel) (by decide +kernel) (by decide +kernel)) gq205 gq206 (by decide +kernel) (by decide +kernel) (by decide +kernel) (by decide +kernel) (by decide +kernel)) (by decide +kernel) (by decide +kernel)) (by decide) (by decide) (by decide) (by decide +kernel) (by decide +kernel)) (by decide) (by decide)
theorem sp0N21 {xs : Nat → Int32} {n : Nat} {sf : Option Nat} : wGoes x_KT x_tb x_tyl (x_otS xs n sf) lwFR lwGA.length lwGB.length 40 35 45 sp0WA sp0WB 69 205 62 62 sp0_op6 sp0o21 :=
  wDp (wWk (wEd_spec (x_ov0_le sf) u_ctS lwFRok sp0E21) (Nat.le_refl _) (Nat.le_refl _) (Nat.le_refl _) (by decide +kernel) (by decide +kernel)) (by decide) (by decide)
theorem sp0N22 {xs : Nat → Int32} {n : Nat} {sf : Option Nat} : wGoes x_KT x_tb x_tyl (x_otS xs n sf) lwFR lwGA.length lwGB.length 40 35 45 sp0WA sp0WB 69 205 62 62 sp0_c6_x sp0o22 :=
  wDp (wWk (wFamE2 (V := [29, 40]) (x_ov0_le sf) u_ctS lwFRok sp0E22 (by decide) (by decide) (fun i hi u hu => by
      have hi : i ∈ ([29, 40] : List Nat) := hi
      simp only [List.mem_cons, List.not_mem_nil, or_false] at hi
      rcases hi with rfl | rfl
      · exact gRk_spec (x_ov0_le sf) u_ctS lwFRok sp0E22 (by decide) (by decide) sp0E22G0 (by decide +kernel) _ (List.mem_cons_self) u hu
      · exact gRk_spec (x_ov0_le sf) u_ctS lwFRok sp0E22 (by decide) (by decide) sp0E22G0 (by decide +kernel) _ (List.mem_cons_of_mem _ (List.mem_cons_self)) u hu)) (Nat.le_refl _) (Nat.le_refl _) (Nat.le_refl _) (by decide +kernel) (by decide +kernel)) (by decide) (by decide)
def rip0_g0_nd : List wE := [rip0_in, rip0_c, rip0_c_x]
theorem rip0_g0_G {xs : Nat → Int32} {n : Nat} {sf : Option Nat} : ∀ nd ∈ rip0_g0_nd, wGoes x_KT x_tb x_tyl (x_otS xs n sf) lwFR lwGA.length lwGB.length 41 35 45 rip0WA rip0WB 72 205 61 61 nd (rip0_g0_ex.map (fun x => (false, x))) := wGraph (fun nd hnd => by
  have hnd : nd ∈ ([rip0_in, rip0_c, rip0_c_x] : List wE) := hnd
  simp only [List.mem_cons, List.not_mem_nil, or_false] at hnd
  rcases hnd with rfl | rfl | rfl
  · refine ⟨rip0o1, rip0N1, fun o ho => ?_⟩
    have ho : o ∈ ([(true, rip0_c), (false, rip0_F)] : List (Bool × wE)) := ho
    simp only [List.mem_cons, List.not_mem_nil, or_false] at ho
    rcases ho with rfl | rfl
    · exact Or.inr ⟨rfl, List.mem_cons_of_mem _ (List.mem_cons_self)⟩
    · exact Or.inl (List.mem_cons_of_mem _ (List.mem_cons_self))
  · refine ⟨rip0o0, rip0N0, fun o ho => ?_⟩
    have ho : o ∈ ([(true, rip0_c_x)] : List (Bool × wE)) := ho
    simp only [List.mem_cons, List.not_mem_nil, or_false] at ho
    rcases ho with rfl
    · exact Or.inr ⟨rfl, List.mem_cons_of_mem _ (List.mem_cons_of_mem _ (List.mem_cons_self))⟩
  · refine ⟨rip0o2, rip0N2, fun o ho => ?_⟩
    have ho : o ∈ ([(false, rip0_X)] : List (Bool × wE)) := ho
    simp only [List.mem_cons, List.not_mem_nil, or_false] at ho
    rcases ho with rfl
    · exact Or.inl (List.mem_cons_self))
theorem sp0N23 {xs : Nat → Int32} {n : Nat} {sf : Option Nat} : wGoes x_KT x_tb x_tyl (x_otS xs n sf) lwFR lwGA.length lwGB.length 40 35 45 sp0WA sp0WB 69 205 62 62 sp0_c1 sp0o23 :=
  wDp (wWk (wEqvB (wCallA (recv := 4) (pc := 167) (ix := 91) (nx := 3) (args := [.inl (lSy 40)]) (rest := []) (LE := [(0, .inr (some 4)), (4, .inl (lAdd (lSy 31) (lK 1)))]) (cE := (lK 0)) (sE := (lK 0)) (wReL (XA := sp0X23.2.1) (XB := sp0X23.2.2.1) (XC := sp0X23.2.2.2.1) (rk := sp0X23.2.2.2.2) (rA := sp0QA23) (rB := sp0QB23) (rip0_g0_G _ List.mem_cons_self) sp0L23) gq69 gq72 (by decide +kernel) (by decide +kernel) (by decide +kernel) (by decide +kernel) (by decide +kernel)) (by decide +kernel) (by decide +kernel)) (by decide) (by decide) (by decide) (by decide +kernel) (by decide +kernel)) (by decide) (by decide)
theorem sp0N24 {xs : Nat → Int32} {n : Nat} {sf : Option Nat} : wGoes x_KT x_tb x_tyl (x_otS xs n sf) lwFR lwGA.length lwGB.length 40 35 45 sp0WA sp0WB 69 205 62 62 sp0_op1 sp0o24 :=
  wDp (wWk (wEd_spec (x_ov0_le sf) u_ctS lwFRok sp0E24) (Nat.le_refl _) (Nat.le_refl _) (Nat.le_refl _) (by decide +kernel) (by decide +kernel)) (by decide) (by decide)
theorem sp0N25 {xs : Nat → Int32} {n : Nat} {sf : Option Nat} : wGoes x_KT x_tb x_tyl (x_otS xs n sf) lwFR lwGA.length lwGB.length 40 35 45 sp0WA sp0WB 69 205 62 62 sp0_c1_X sp0o25 :=
  wDp (wWk (wEd_spec (x_ov0_le sf) u_ctS lwFRok sp0E25) (Nat.le_refl _) (Nat.le_refl _) (Nat.le_refl _) (by decide +kernel) (by decide +kernel)) (by decide) (by decide)
theorem sp0N26 {xs : Nat → Int32} {n : Nat} {sf : Option Nat} : wGoes x_KT x_tb x_tyl (x_otS xs n sf) lwFR lwGA.length lwGB.length 40 35 45 sp0WA sp0WB 69 205 62 62 sp0_c1_F sp0o26 :=
  wDp (wWk (wEd_spec (x_ov0_le sf) u_ctS lwFRok sp0E26) (Nat.le_refl _) (Nat.le_refl _) (Nat.le_refl _) (by decide +kernel) (by decide +kernel)) (by decide) (by decide)
theorem sp0N27 {xs : Nat → Int32} {n : Nat} {sf : Option Nat} : wGoes x_KT x_tb x_tyl (x_otS xs n sf) lwFR lwGA.length lwGB.length 40 35 45 sp0WA sp0WB 69 205 62 62 sp0_c7a sp0o27 :=
  wDp (wWk (wEqvB (wCallB (recv := 0) (pc := 446) (ix := 288) (nx := 3) (args := [.inl (lSy 6), .inl (lSy 40), .inl (lK 0)]) (rest := []) (LE := [(0, .inr (some 0)), (1, .inl (lSy 6)), (2, .inl (lSy 5)), (3, .inl (lK 0)), (4, .inr (some 42)), (5, .inl (lSc 4 (lSy 31))), (7, .inl (lAdd (lSy 31) (lK 1)))]) (cE := (lK 0)) (sE := (lK 0)) (wCallA (recv := 4) (pc := 284) (ix := 98) (nx := 3) (args := [.inl (lSy 40)]) (rest := []) (LE := [(0, .inr (some 4)), (2, .inl (lSy 41)), (3, .inl (lSy 42)), (4, .inl (lAdd (lSy 31) (lK 1)))]) (cE := (lK 0)) (sE := (lK 0)) (wReL (XA := sp0X27.2.1) (XB := sp0X27.2.2.1) (XC := sp0X27.2.2.2.1) (rk := sp0X27.2.2.2.2) (rA := sp0QA27) (rB := sp0QB27) (mnp0_g0_G _ List.mem_cons_self) sp0L27) gq69 gq76 (by decide +kernel) (by decide +kernel) (by decide +kernel) (by decide +kernel) (by decide +kernel)) gq205 gq209 (by decide +kernel) (by decide +kernel) (by decide +kernel) (by decide +kernel) (by decide +kernel)) (by decide +kernel) (by decide +kernel)) (by decide) (by decide) (by decide) (by decide +kernel) (by decide +kernel)) (by decide) (by decide)
theorem sp0N28 {xs : Nat → Int32} {n : Nat} {sf : Option Nat} : wGoes x_KT x_tb x_tyl (x_otS xs n sf) lwFR lwGA.length lwGB.length 40 35 45 sp0WA sp0WB 69 205 62 62 sp0_c7b sp0o28 :=
  wDp (wWk (wEqvB (wCallB (recv := 0) (pc := 459) (ix := 288) (nx := 3) (args := [.inl (lSy 6), .inl (lSy 40), .inl (lK 0)]) (rest := [.inl (lSy 43)]) (LE := [(0, .inr (some 0)), (1, .inl (lSy 6)), (2, .inl (lSy 5)), (3, .inl (lK 0)), (4, .inr (some 42)), (5, .inl (lSc 4 (lSy 31))), (7, .inl (lAdd (lSy 31) (lK 1)))]) (cE := (lK 0)) (sE := (lK 0)) (wCallA (recv := 4) (pc := 289) (ix := 98) (nx := 3) (args := [.inl (lSy 40)]) (rest := [.inl (lSy 43)]) (LE := [(0, .inr (some 4)), (2, .inl (lSy 41)), (3, .inl (lSy 42)), (4, .inl (lAdd (lSy 31) (lK 1)))]) (cE := (lK 0)) (sE := (lK 0)) (wReL (XA := sp0X28.2.1) (XB := sp0X28.2.2.1) (XC := sp0X28.2.2.2.1) (rk := sp0X28.2.2.2.2) (rA := sp0QA28) (rB := sp0QB28) (mnp0_g0_G _ List.mem_cons_self) sp0L28) gq69 gq76 (by decide +kernel) (by decide +kernel) (by decide +kernel) (by decide +kernel) (by decide +kernel)) gq205 gq209 (by decide +kernel) (by decide +kernel) (by decide +kernel) (by decide +kernel) (by decide +kernel)) (by decide +kernel) (by decide +kernel)) (by decide) (by decide) (by decide) (by decide +kernel) (by decide +kernel)) (by decide) (by decide)
theorem sp0N29 {xs : Nat → Int32} {n : Nat} {sf : Option Nat} : wGoes x_KT x_tb x_tyl (x_otS xs n sf) lwFR lwGA.length lwGB.length 40 35 45 sp0WA sp0WB 69 205 62 62 sp0_op7 sp0o29 :=
  wDp (wWk (wEd_spec (x_ov0_le sf) u_ctS lwFRok sp0E29) (Nat.le_refl _) (Nat.le_refl _) (Nat.le_refl _) (by decide +kernel) (by decide +kernel)) (by decide) (by decide)
theorem sp0N30 {xs : Nat → Int32} {n : Nat} {sf : Option Nat} : wGoes x_KT x_tb x_tyl (x_otS xs n sf) lwFR lwGA.length lwGB.length 40 35 45 sp0WA sp0WB 69 205 62 62 sp0_c7a_x sp0o30 :=
  wDp (wWk (wEd_spec (x_ov0_le sf) u_ctS lwFRok sp0E30) (Nat.le_refl _) (Nat.le_refl _) (Nat.le_refl _) (by decide +kernel) (by decide +kernel)) (by decide) (by decide)
theorem sp0N31 {xs : Nat → Int32} {n : Nat} {sf : Option Nat} : wGoes x_KT x_tb x_tyl (x_otS xs n sf) lwFR lwGA.length lwGB.length 40 35 45 sp0WA sp0WB 69 205 62 62 sp0_c7b_x sp0o31 :=
  wDp (wWk (wEd_spec (x_ov0_le sf) u_ctS lwFRok sp0E31) (Nat.le_refl _) (Nat.le_refl _) (Nat.le_refl _) (by decide +kernel) (by decide +kernel)) (by decide) (by decide)
theorem sp0N32 {xs : Nat → Int32} {n : Nat} {sf : Option Nat} : wGoes x_KT x_tb x_tyl (x_otS xs n sf) lwFR lwGA.length lwGB.length 40 35 45 sp0WA sp0WB 69 205 62 62 sp0_c11a sp0o32 :=
  wDp (wWk (wEqvB (wCallB (recv := 0) (pc := 492) (ix := 288) (nx := 3) (args := [.inl (lSy 6), .inl (lSy 40), .inl (lK 0)]) (rest := []) (LE := [(0, .inr (some 0)), (1, .inl (lSy 6)), (2, .inl (lSy 5)), (3, .inl (lK 0)), (4, .inr (some 42)), (5, .inl (lSc 4 (lSy 31))), (7, .inl (lAdd (lSy 31) (lK 1)))]) (cE := (lK 0)) (sE := (lK 0)) (wCallA (recv := 4) (pc := 308) (ix := 98) (nx := 3) (args := [.inl (lSy 40)]) (rest := []) (LE := [(0, .inr (some 4)), (2, .inl (lSy 41)), (3, .inl (lSy 42)), (4, .inl (lAdd (lSy 31) (lK 1)))]) (cE := (lK 0)) (sE := (lK 0)) (wReL (XA := sp0X32.2.1) (XB := sp0X32.2.2.1) (XC := sp0X32.2.2.2.1) (rk := sp0X32.2.2.2.2) (rA := sp0QA32) (rB := sp0QB32) (mnp0_g0_G _ List.mem_cons_self) sp0L32) gq69 gq76 (by decide +kernel) (by decide +kernel) (by decide +kernel) (by decide +kernel) (by decide +kernel)) gq205 gq209 (by decide +kernel) (by decide +kernel) (by decide +kernel) (by decide +kernel) (by decide +kernel)) (by decide +kernel) (by decide +kernel)) (by decide) (by decide) (by decide) (by decide +kernel) (by decide +kernel)) (by decide) (by decide)
theorem sp0N33 {xs : Nat → Int32} {n : Nat} {sf : Option Nat} : wGoes x_KT x_tb x_tyl (x_otS xs n sf) lwFR lwGA.length lwGB.length 40 35 45 sp0WA sp0WB 69 205 62 62 sp0_c11b sp0o33 :=
  wDp (wWk (wEqvB (wCallB (recv := 0) (pc := 505) (ix := 288) (nx := 3) (args := [.inl (lSy 6), .inl (lSy 40), .inl (lK 0)]) (rest := [.inl (lSy 43)]) (LE := [(0, .inr (some 0)), (1, .inl (lSy 6)), (2, .inl (lSy 5)), (3, .inl (lK 0)), (4, .inr (some 42)), (5, .inl (lSc 4 (lSy 31))), (7, .inl (lAdd (lSy 31) (lK 1)))]) (cE := (lK 0)) (sE := (lK 0)) (wCallA (recv := 4) (pc := 313) (ix := 98) (nx := 3) (args := [.inl (lSy 40)]) (rest := [.inl (lSy 43)]) (LE := [(0, .inr (some 4)), (2, .inl (lSy 41)), (3, .inl (lSy 42)), (4, .inl (lAdd (lSy 31) (lK 1)))]) (cE := (lK 0)) (sE := (lK 0)) (wReL (XA := sp0X33.2.1) (XB := sp0X33.2.2.1) (XC := sp0X33.2.2.2.1) (rk := sp0X33.2.2.2.2) (rA := sp0QA33) (rB := sp0QB33) (mnp0_g0_G _ List.mem_cons_self) sp0L33) gq69 gq76 (by decide +kernel) (by decide +kernel) (by decide +kernel) (by decide +kernel) (by decide +kernel)) gq205 gq209 (by decide +kernel) (by decide +kernel) (by decide +kernel) (by decide +kernel) (by decide +kernel)) (by decide +kernel) (by decide +kernel)) (by decide) (by decide) (by decide) (by decide +kernel) (by decide +kernel)) (by decide) (by decide)
theorem sp0N34 {xs : Nat → Int32} {n : Nat} {sf : Option Nat} : wGoes x_KT x_tb x_tyl (x_otS xs n sf) lwFR lwGA.length lwGB.length 40 35 45 sp0WA sp0WB 69 205 62 62 sp0_op11 sp0o34 :=
  wDp (wWk (wEd_spec (x_ov0_le sf) u_ctS lwFRok sp0E34) (Nat.le_refl _) (Nat.le_refl _) (Nat.le_refl _) (by decide +kernel) (by decide +kernel)) (by decide) (by decide)
theorem sp0N35 {xs : Nat → Int32} {n : Nat} {sf : Option Nat} : wGoes x_KT x_tb x_tyl (x_otS xs n sf) lwFR lwGA.length lwGB.length 40 35 45 sp0WA sp0WB 69 205 62 62 sp0_c11a_x sp0o35 :=
  wDp (wWk (wEd_spec (x_ov0_le sf) u_ctS lwFRok sp0E35) (Nat.le_refl _) (Nat.le_refl _) (Nat.le_refl _) (by decide +kernel) (by decide +kernel)) (by decide) (by decide)
theorem sp0N36 {xs : Nat → Int32} {n : Nat} {sf : Option Nat} : wGoes x_KT x_tb x_tyl (x_otS xs n sf) lwFR lwGA.length lwGB.length 40 35 45 sp0WA sp0WB 69 205 62 62 sp0_c11b_x sp0o36 :=
  wDp (wWk (wEd_spec (x_ov0_le sf) u_ctS lwFRok sp0E36) (Nat.le_refl _) (Nat.le_refl _) (Nat.le_refl _) (by decide +kernel) (by decide +kernel)) (by decide) (by decide)
def lep0_g0_nd : List wE := [lep0_in, lep0_c, lep0_c_x]
theorem lep0_g0_G {xs : Nat → Int32} {n : Nat} {sf : Option Nat} : ∀ nd ∈ lep0_g0_nd, wGoes x_KT x_tb x_tyl (x_otS xs n sf) lwFR lwGA.length lwGB.length 44 35 45 lep0WA lep0WB 69 210 61 61 nd (lep0_g0_ex.map (fun x => (false, x))) := wGraph (fun nd hnd => by
  have hnd : nd ∈ ([lep0_in, lep0_c, lep0_c_x] : List wE) := hnd
  simp only [List.mem_cons, List.not_mem_nil, or_false] at hnd
  rcases hnd with rfl | rfl | rfl
  · refine ⟨lep0o1, lep0N1, fun o ho => ?_⟩
    have ho : o ∈ ([(true, lep0_c)] : List (Bool × wE)) := ho
    simp only [List.mem_cons, List.not_mem_nil, or_false] at ho
    rcases ho with rfl
    · exact Or.inr ⟨rfl, List.mem_cons_of_mem _ (List.mem_cons_self)⟩
  · refine ⟨lep0o0, lep0N0, fun o ho => ?_⟩
    have ho : o ∈ ([(true, lep0_c_x)] : List (Bool × wE)) := ho
    simp only [List.mem_cons, List.not_mem_nil, or_false] at ho
    rcases ho with rfl
    · exact Or.inr ⟨rfl, List.mem_cons_of_mem _ (List.mem_cons_of_mem _ (List.mem_cons_self))⟩
  · refine ⟨lep0o2, lep0N2, fun o ho => ?_⟩
    have ho : o ∈ ([(false, lep0_x)] : List (Bool × wE)) := ho
    simp only [List.mem_cons, List.not_mem_nil, or_false] at ho
    rcases ho with rfl
    · exact Or.inl (List.mem_cons_self))
theorem sp0N37 {xs : Nat → Int32} {n : Nat} {sf : Option Nat} : wGoes x_KT x_tb x_tyl (x_otS xs n sf) lwFR lwGA.length lwGB.length 40 35 45 sp0WA sp0WB 69 205 62 62 sp0_c8 sp0o37 :=
  wDp (wWk (wEqvB (wCallB (recv := 0) (pc := 538) (ix := 301) (nx := 3) (args := [.inl (lSy 6), .inl (lSy 40), .inl (lK 0)]) (rest := []) (LE := [(0, .inr (some 0)), (1, .inl (lSy 6)), (2, .inl (lSy 5)), (3, .inl (lK 0)), (4, .inr (some 42)), (5, .inl (lSc 4 (lSy 31))), (7, .inl (lAdd (lSy 31) (lK 1)))]) (cE := (lK 0)) (sE := (lK 0)) (wReL (XA := sp0X37.2.1) (XB := sp0X37.2.2.1) (XC := sp0X37.2.2.2.1) (rk := sp0X37.2.2.2.2) (rA := sp0QA37) (rB := sp0QB37) (lep0_g0_G _ List.mem_cons_self) sp0L37) gq205 gq210 (by decide +kernel) (by decide +kernel) (by decide +kernel) (by decide +kernel) (by decide +kernel)) (by decide +kernel) (by decide +kernel)) (by decide) (by decide) (by decide) (by decide +kernel) (by decide +kernel)) (by decide) (by decide)
theorem sp0N38 {xs : Nat → Int32} {n : Nat} {sf : Option Nat} : wGoes x_KT x_tb x_tyl (x_otS xs n sf) lwFR lwGA.length lwGB.length 40 35 45 sp0WA sp0WB 69 205 62 62 sp0_op8 sp0o38 :=
  wDp (wWk (wEd_spec (x_ov0_le sf) u_ctS lwFRok sp0E38) (Nat.le_refl _) (Nat.le_refl _) (Nat.le_refl _) (by decide +kernel) (by decide +kernel)) (by decide) (by decide)
theorem sp0N39 {xs : Nat → Int32} {n : Nat} {sf : Option Nat} : wGoes x_KT x_tb x_tyl (x_otS xs n sf) lwFR lwGA.length lwGB.length 40 35 45 sp0WA sp0WB 69 205 62 62 sp0_c8_x sp0o39 :=
  wDp (wWk (wEd_spec (x_ov0_le sf) u_ctS lwFRok sp0E39) (Nat.le_refl _) (Nat.le_refl _) (Nat.le_refl _) (by decide +kernel) (by decide +kernel)) (by decide) (by decide)
theorem sb0N0 {xs : Nat → Int32} {n : Nat} {sf : Option Nat} : wGoes x_KT x_tb x_tyl (x_otS xs n sf) lwFR lwGA.length lwGB.length 43 35 45 sb0WA sb0WB 113 205 60 60 sb0_in sb0o0 :=
  wDp (wWk (wEd_spec (x_ov0_le sf) u_ctS lwFRok sb0E0) (Nat.le_refl _) (Nat.le_refl _) (Nat.le_refl _) (by decide +kernel) (by decide +kernel)) (by decide) (by decide)
theorem sb0N1 {xs : Nat → Int32} {n : Nat} {sf : Option Nat} : wGoes x_KT x_tb x_tyl (x_otS xs n sf) lwFR lwGA.length lwGB.length 43 35 45 sb0WA sb0WB 113 205 60 60 sb0_op0 sb0o1 :=
  wDp (wWk (wFamE2 (V := [29]) (x_ov0_le sf) u_ctS lwFRok sb0E1 (by decide) (by decide) (fun i hi u hu => by
      have hi : i ∈ ([29] : List Nat) := hi
      simp only [List.mem_cons, List.not_mem_nil, or_false] at hi
      rcases hi with rfl
      · cases hu
        exact wRkE_spec (x_ov0_le sf) u_ctS lwFRok sb0E1R29)) (Nat.le_refl _) (Nat.le_refl _) (Nat.le_refl _) (by decide +kernel) (by decide +kernel)) (by decide) (by decide)
theorem sb0N2 {xs : Nat → Int32} {n : Nat} {sf : Option Nat} : wGoes x_KT x_tb x_tyl (x_otS xs n sf) lwFR lwGA.length lwGB.length 43 35 45 sb0WA sb0WB 113 205 60 60 sb0_op1 sb0o2 :=
  wDp (wWk (wFamE2 (V := [29, 47]) (x_ov0_le sf) u_ctS lwFRok sb0E2 (by decide) (by decide) (fun i hi u hu => by
      have hi : i ∈ ([29, 47] : List Nat) := hi
      simp only [List.mem_cons, List.not_mem_nil, or_false] at hi
      rcases hi with rfl | rfl
      · cases hu
        exact wRkE_spec (x_ov0_le sf) u_ctS lwFRok sb0E2R29
      · cases hu
        exact wRkE_spec (x_ov0_le sf) u_ctS lwFRok sb0E2R47)) (Nat.le_refl _) (Nat.le_refl _) (Nat.le_refl _) (by decide +kernel) (by decide +kernel)) (by decide) (by decide)
theorem sb0N3 {xs : Nat → Int32} {n : Nat} {sf : Option Nat} : wGoes x_KT x_tb x_tyl (x_otS xs n sf) lwFR lwGA.length lwGB.length 43 35 45 sb0WA sb0WB 113 205 60 60 sb0_op2 sb0o3 :=
  wDp (wWk (wFamE2 (V := [42]) (x_ov0_le sf) u_ctS lwFRok sb0E3 (by decide) (by decide) (fun i hi u hu => by
      have hi : i ∈ ([42] : List Nat) := hi
      simp only [List.mem_cons, List.not_mem_nil, or_false] at hi
      rcases hi with rfl
      · cases hu
        exact wRkE_spec (x_ov0_le sf) u_ctS lwFRok sb0E3R42)) (Nat.le_refl _) (Nat.le_refl _) (Nat.le_refl _) (by decide +kernel) (by decide +kernel)) (by decide) (by decide)
theorem sb0N4 {xs : Nat → Int32} {n : Nat} {sf : Option Nat} : wGoes x_KT x_tb x_tyl (x_otS xs n sf) lwFR lwGA.length lwGB.length 43 35 45 sb0WA sb0WB 113 205 60 60 sb0_op3 sb0o4 :=
  wDp (wWk (wFamE2 (V := [29]) (x_ov0_le sf) u_ctS lwFRok sb0E4 (by decide) (by decide) (fun i hi u hu => by
      have hi : i ∈ ([29] : List Nat) := hi
      simp only [List.mem_cons, List.not_mem_nil, or_false] at hi
      rcases hi with rfl
      · cases hu
        exact wRkE_spec (x_ov0_le sf) u_ctS lwFRok sb0E4R29)) (Nat.le_refl _) (Nat.le_refl _) (Nat.le_refl _) (by decide +kernel) (by decide +kernel)) (by decide) (by decide)
theorem sb0N5 {xs : Nat → Int32} {n : Nat} {sf : Option Nat} : wGoes x_KT x_tb x_tyl (x_otS xs n sf) lwFR lwGA.length lwGB.length 43 35 45 sb0WA sb0WB 113 205 60 60 sb0_op4 sb0o5 :=
  wDp (wWk (wFamE2 (V := [29]) (x_ov0_le sf) u_ctS lwFRok sb0E5 (by decide) (by decide) (fun i hi u hu => by
      have hi : i ∈ ([29] : List Nat) := hi
      simp only [List.mem_cons, List.not_mem_nil, or_false] at hi
      rcases hi with rfl
      · cases hu
        exact wRkE_spec (x_ov0_le sf) u_ctS lwFRok sb0E5R29)) (Nat.le_refl _) (Nat.le_refl _) (Nat.le_refl _) (by decide +kernel) (by decide +kernel)) (by decide) (by decide)
theorem sb0N6 {xs : Nat → Int32} {n : Nat} {sf : Option Nat} : wGoes x_KT x_tb x_tyl (x_otS xs n sf) lwFR lwGA.length lwGB.length 43 35 45 sb0WA sb0WB 113 205 60 60 sb0_op5 sb0o6 :=
  wDp (wWk (wFamE2 (V := [29]) (x_ov0_le sf) u_ctS lwFRok sb0E6 (by decide) (by decide) (fun i hi u hu => by
      have hi : i ∈ ([29] : List Nat) := hi
      simp only [List.mem_cons, List.not_mem_nil, or_false] at hi
      rcases hi with rfl
      · cases hu
        exact wRkE_spec (x_ov0_le sf) u_ctS lwFRok sb0E6R29)) (Nat.le_refl _) (Nat.le_refl _) (Nat.le_refl _) (by decide +kernel) (by decide +kernel)) (by decide) (by decide)
theorem sb0N7 {xs : Nat → Int32} {n : Nat} {sf : Option Nat} : wGoes x_KT x_tb x_tyl (x_otS xs n sf) lwFR lwGA.length lwGB.length 43 35 45 sb0WA sb0WB 113 205 60 60 sb0_op6 sb0o7 :=
  wDp (wWk (wFamE2 (V := [29]) (x_ov0_le sf) u_ctS lwFRok sb0E7 (by decide) (by decide) (fun i hi u hu => by
      have hi : i ∈ ([29] : List Nat) := hi
      simp only [List.mem_cons, List.not_mem_nil, or_false] at hi
      rcases hi with rfl
      · cases hu
        exact wRkE_spec (x_ov0_le sf) u_ctS lwFRok sb0E7R29)) (Nat.le_refl _) (Nat.le_refl _) (Nat.le_refl _) (by decide +kernel) (by decide +kernel)) (by decide) (by decide)
theorem sb0N8 {xs : Nat → Int32} {n : Nat} {sf : Option Nat} : wGoes x_KT x_tb x_tyl (x_otS xs n sf) lwFR lwGA.length lwGB.length 43 35 45 sb0WA sb0WB 113 205 60 60 sb0_op7 sb0o8 :=
  wDp (wWk (wEd_spec (x_ov0_le sf) u_ctS lwFRok sb0E8) (Nat.le_refl _) (Nat.le_refl _) (Nat.le_refl _) (by decide +kernel) (by decide +kernel)) (by decide) (by decide)
theorem sb0N9 {xs : Nat → Int32} {n : Nat} {sf : Option Nat} : wGoes x_KT x_tb x_tyl (x_otS xs n sf) lwFR lwGA.length lwGB.length 43 35 45 sb0WA sb0WB 113 205 60 60 sb0_op8 sb0o9 :=
  wDp (wWk (wEd_spec (x_ov0_le sf) u_ctS lwFRok sb0E9) (Nat.le_refl _) (Nat.le_refl _) (Nat.le_refl _) (by decide +kernel) (by decide +kernel)) (by decide) (by decide)
theorem sb0N10 {xs : Nat → Int32} {n : Nat} {sf : Option Nat} : wGoes x_KT x_tb x_tyl (x_otS xs n sf) lwFR lwGA.length lwGB.length 43 35 45 sb0WA sb0WB 113 205 60 60 sb0_op9 sb0o10 :=
  wDp (wWk (wEd_spec (x_ov0_le sf) u_ctS lwFRok sb0E10) (Nat.le_refl _) (Nat.le_refl _) (Nat.le_refl _) (by decide +kernel) (by decide +kernel)) (by decide) (by decide)
theorem sb0N11 {xs : Nat → Int32} {n : Nat} {sf : Option Nat} : wGoes x_KT x_tb x_tyl (x_otS xs n sf) lwFR lwGA.length lwGB.length 43 35 45 sb0WA sb0WB 113 205 60 60 sb0_op10 sb0o11 :=
  wDp (wWk (wEd_spec (x_ov0_le sf) u_ctS lwFRok sb0E11) (Nat.le_refl _) (Nat.le_refl _) (Nat.le_refl _) (by decide +kernel) (by decide +kernel)) (by decide) (by decide)
theorem sb0N12 {xs : Nat → Int32} {n : Nat} {sf : Option Nat} : wGoes x_KT x_tb x_tyl (x_otS xs n sf) lwFR lwGA.length lwGB.length 43 35 45 sb0WA sb0WB 113 205 60 60 sb0_op11 sb0o12 :=
  wDp (wWk (wEd_spec (x_ov0_le sf) u_ctS lwFRok sb0E12) (Nat.le_refl _) (Nat.le_refl _) (Nat.le_refl _) (by decide +kernel) (by decide +kernel)) (by decide) (by decide)
theorem fb0N0 {xs : Nat → Int32} {n : Nat} {sf : Option Nat} : wGoes x_KT x_tb x_tyl (x_otS xs n sf) lwFR lwGA.length lwGB.length 29 35 45 fb0WA fb0WB 116 203 63 63 fb0_in fb0o0 :=
  wDp (wWk (wFamE2 (V := [29, 42, 47]) (x_ov0_le sf) u_ctS lwFRok fb0E0 (by decide) (by decide) (fun i hi u hu => by
      have hi : i ∈ ([29, 42, 47] : List Nat) := hi
      simp only [List.mem_cons, List.not_mem_nil, or_false] at hi
      rcases hi with rfl | rfl | rfl
      · cases hu
        exact wRkE_spec (x_ov0_le sf) u_ctS lwFRok fb0E0R29
      · cases hu
        exact wRkE_spec (x_ov0_le sf) u_ctS lwFRok fb0E0R42
      · cases hu
        exact wRkE_spec (x_ov0_le sf) u_ctS lwFRok fb0E0R47)) (Nat.le_refl _) (Nat.le_refl _) (Nat.le_refl _) (by decide +kernel) (by decide +kernel)) (by decide) (by decide)
def sp0_g0_nd : List wE := [sp0_in, sp0_op0, sp0_op1, sp0_op2, sp0_op3, sp0_op4, sp0_op5, sp0_op6, sp0_op7, sp0_op8, sp0_op9, sp0_op10, sp0_op11, sp0_c0, sp0_c1, sp0_L, sp0_c3, sp0_c4, sp0_c5, sp0_c6, sp0_c7a, sp0_c8, sp0_M, sp0_c11a, sp0_c0_x, sp0_c1_X, sp0_c1_F, sp0_M2, sp0_F, sp0_c3_x, sp0_c4_x, sp0_c5_x, sp0_c6_x, sp0_c7a_x, sp0_c8_x, sp0_c11a_x, sp0_c7b, sp0_c11b, sp0_c7b_x, sp0_c11b_x]
theorem sp0_g0_G {xs : Nat → Int32} {n : Nat} {sf : Option Nat} : ∀ nd ∈ sp0_g0_nd, wGoes x_KT x_tb x_tyl (x_otS xs n sf) lwFR lwGA.length lwGB.length 40 35 45 sp0WA sp0WB 69 205 62 62 nd (sp0_g0_ex.map (fun x => (false, x))) := wGraph (fun nd hnd => by
  have hnd : nd ∈ ([sp0_in, sp0_op0, sp0_op1, sp0_op2, sp0_op3, sp0_op4, sp0_op5, sp0_op6, sp0_op7, sp0_op8, sp0_op9, sp0_op10, sp0_op11, sp0_c0, sp0_c1, sp0_L, sp0_c3, sp0_c4, sp0_c5, sp0_c6, sp0_c7a, sp0_c8, sp0_M, sp0_c11a, sp0_c0_x, sp0_c1_X, sp0_c1_F, sp0_M2, sp0_F, sp0_c3_x, sp0_c4_x, sp0_c5_x, sp0_c6_x, sp0_c7a_x, sp0_c8_x, sp0_c11a_x, sp0_c7b, sp0_c11b, sp0_c7b_x, sp0_c11b_x] : List wE) := hnd
  simp only [List.mem_cons, List.not_mem_nil, or_false] at hnd
  rcases hnd with rfl | rfl | rfl | rfl | rfl | rfl | rfl | rfl | rfl | rfl | rfl | rfl | rfl | rfl | rfl | rfl | rfl | rfl | rfl | rfl | rfl | rfl | rfl | rfl | rfl | rfl | rfl | rfl | rfl | rfl | rfl | rfl | rfl | rfl | rfl | rfl | rfl | rfl | rfl | rfl
  · refine ⟨sp0o0, sp0N0, fun o ho => ?_⟩
    have ho : o ∈ ([(true, sp0_op0), (true, sp0_op1), (true, sp0_op2), (true, sp0_op3), (true, sp0_op4), (true, sp0_op5), (true, sp0_op6), (true, sp0_op7), (true, sp0_op8), (true, sp0_op9), (true, sp0_op10), (true, sp0_op11)] : List (Bool × wE)) := ho
    simp only [List.mem_cons, List.not_mem_nil, or_false] at ho
    rcases ho with rfl | rfl | rfl | rfl | rfl | rfl | rfl | rfl | rfl | rfl | rfl | rfl
    · exact Or.inr ⟨rfl, List.mem_cons_of_mem _ (List.mem_cons_self)⟩
    · exact Or.inr ⟨rfl, List.mem_cons_of_mem _ (List.mem_cons_of_mem _ (List.mem_cons_self))⟩
    · exact Or.inr ⟨rfl, List.mem_cons_of_mem _ (List.mem_cons_of_mem _ (List.mem_cons_of_mem _ (List.mem_cons_self)))⟩
    · exact Or.inr ⟨rfl, List.mem_cons_of_mem _ (List.mem_cons_of_mem _ (List.mem_cons_of_mem _ (List.mem_cons_of_mem _ (List.mem_cons_self))))⟩
    · exact Or.inr ⟨rfl, List.mem_cons_of_mem _ (List.mem_cons_of_mem _ (List.mem_cons_of_mem _ (List.mem_cons_of_mem _ (List.mem_cons_of_mem _ (List.mem_cons_self)))))⟩
    · exact Or.inr ⟨rfl, List.mem_cons_of_mem _ (List.mem_cons_of_mem _ (List.mem_cons_of_mem _ (List.mem_cons_of_mem _ (List.mem_cons_of_mem _ (List.mem_cons_of_mem _ (List.mem_cons_self))))))⟩
    · exact Or.inr ⟨rfl, List.mem_cons_of_mem _ (List.mem_cons_of_mem _ (List.mem_cons_of_mem _ (List.mem_cons_of_mem _ (List.mem_cons_of_mem _ (List.mem_cons_of_mem _ (List.mem_cons_of_mem _ (List.mem_cons_self)))))))⟩
    · exact Or.inr ⟨rfl, List.mem_cons_of_mem _ (List.mem_cons_of_mem _ (List.mem_cons_of_mem _ (List.mem_cons_of_mem _ (List.mem_cons_of_mem _ (List.mem_cons_of_mem _ (List.mem_cons_of_mem _ (List.mem_cons_of_mem _ (List.mem_cons_self))))))))⟩
    · exact Or.inr ⟨rfl, List.mem_cons_of_mem _ (List.mem_cons_of_mem _ (List.mem_cons_of_mem _ (List.mem_cons_of_mem _ (List.mem_cons_of_mem _ (List.mem_cons_of_mem _ (List.mem_cons_of_mem _ (List.mem_cons_of_mem _ (List.mem_cons_of_mem _ (List.mem_cons_self)))))))))⟩
    · exact Or.inr ⟨rfl, List.mem_cons_of_mem _ (List.mem_cons_of_mem _ (List.mem_cons_of_mem _ (List.mem_cons_of_mem _ (List.mem_cons_of_mem _ (List.mem_cons_of_mem _ (List.mem_cons_of_mem _ (List.mem_cons_of_mem _ (List.mem_cons_of_mem _ (List.mem_cons_of_mem _ (List.mem_cons_self))))))))))⟩
    · exact Or.inr ⟨rfl, List.mem_cons_of_mem _ (List.mem_cons_of_mem _ (List.mem_cons_of_mem _ (List.mem_cons_of_mem _ (List.mem_cons_of_mem _ (List.mem_cons_of_mem _ (List.mem_cons_of_mem _ (List.mem_cons_of_mem _ (List.mem_cons_of_mem _ (List.mem_cons_of_mem _ (List.mem_cons_of_mem _ (List.mem_cons_self)))))))))))⟩
    · exact Or.inr ⟨rfl, List.mem_cons_of_mem _ (List.mem_cons_of_mem _ (List.mem_cons_of_mem _ (List.mem_cons_of_mem _ (List.mem_cons_of_mem _ (List.mem_cons_of_mem _ (List.mem_cons_of_mem _ (List.mem_cons_of_mem _ (List.mem_cons_of_mem _ (List.mem_cons_of_mem _ (List.mem_cons_of_mem _ (List.mem_cons_of_mem _ (List.mem_cons_self))))))))))))⟩
  · refine ⟨sp0o9, sp0N9, fun o ho => ?_⟩
    have ho : o ∈ ([(true, sp0_c0)] : List (Bool × wE)) := ho
    simp only [List.mem_cons, List.not_mem_nil, or_false] at ho
    rcases ho with rfl
    · exact Or.inr ⟨rfl, List.mem_cons_of_mem _ (List.mem_cons_of_mem _ (List.mem_cons_of_mem _ (List.mem_cons_of_mem _ (List.mem_cons_of_mem _ (List.mem_cons_of_mem _ (List.mem_cons_of_mem _ (List.mem_cons_of_mem _ (List.mem_cons_of_mem _ (List.mem_cons_of_mem _ (List.mem_cons_of_mem _ (List.mem_cons_of_mem _ (List.mem_cons_of_mem _ (List.mem_cons_self)))))))))))))⟩
  · refine ⟨sp0o24, sp0N24, fun o ho => ?_⟩
    have ho : o ∈ ([(true, sp0_c1)] : List (Bool × wE)) := ho
    simp only [List.mem_cons, List.not_mem_nil, or_false] at ho
    rcases ho with rfl
    · exact Or.inr ⟨rfl, List.mem_cons_of_mem _ (List.mem_cons_of_mem _ (List.mem_cons_of_mem _ (List.mem_cons_of_mem _ (List.mem_cons_of_mem _ (List.mem_cons_of_mem _ (List.mem_cons_of_mem _ (List.mem_cons_of_mem _ (List.mem_cons_of_mem _ (List.mem_cons_of_mem _ (List.mem_cons_of_mem _ (List.mem_cons_of_mem _ (List.mem_cons_of_mem _ (List.mem_cons_of_mem _ (List.mem_cons_self))))))))))))))⟩
  · refine ⟨sp0o2, sp0N2, fun o ho => ?_⟩
    have ho : o ∈ ([(true, sp0_L)] : List (Bool × wE)) := ho
    simp only [List.mem_cons, List.not_mem_nil, or_false] at ho
    rcases ho with rfl
    · exact Or.inr ⟨rfl, List.mem_cons_of_mem _ (List.mem_cons_of_mem _ (List.mem_cons_of_mem _ (List.mem_cons_of_mem _ (List.mem_cons_of_mem _ (List.mem_cons_of_mem _ (List.mem_cons_of_mem _ (List.mem_cons_of_mem _ (List.mem_cons_of_mem _ (List.mem_cons_of_mem _ (List.mem_cons_of_mem _ (List.mem_cons_of_mem _ (List.mem_cons_of_mem _ (List.mem_cons_of_mem _ (List.mem_cons_of_mem _ (List.mem_cons_self)))))))))))))))⟩
  · refine ⟨sp0o12, sp0N12, fun o ho => ?_⟩
    have ho : o ∈ ([(true, sp0_c3)] : List (Bool × wE)) := ho
    simp only [List.mem_cons, List.not_mem_nil, or_false] at ho
    rcases ho with rfl
    · exact Or.inr ⟨rfl, List.mem_cons_of_mem _ (List.mem_cons_of_mem _ (List.mem_cons_of_mem _ (List.mem_cons_of_mem _ (List.mem_cons_of_mem _ (List.mem_cons_of_mem _ (List.mem_cons_of_mem _ (List.mem_cons_of_mem _ (List.mem_cons_of_mem _ (List.mem_cons_of_mem _ (List.mem_cons_of_mem _ (List.mem_cons_of_mem _ (List.mem_cons_of_mem _ (List.mem_cons_of_mem _ (List.mem_cons_of_mem _ (List.mem_cons_of_mem _ (List.mem_cons_self))))))))))))))))⟩
  · refine ⟨sp0o15, sp0N15, fun o ho => ?_⟩
    have ho : o ∈ ([(true, sp0_c4)] : List (Bool × wE)) := ho
    simp only [List.mem_cons, List.not_mem_nil, or_false] at ho
    rcases ho with rfl
    · exact Or.inr ⟨rfl, List.mem_cons_of_mem _ (List.mem_cons_of_mem _ (List.mem_cons_of_mem _ (List.mem_cons_of_mem _ (List.mem_cons_of_mem _ (List.mem_cons_of_mem _ (List.mem_cons_of_mem _ (List.mem_cons_of_mem _ (List.mem_cons_of_mem _ (List.mem_cons_of_mem _ (List.mem_cons_of_mem _ (List.mem_cons_of_mem _ (List.mem_cons_of_mem _ (List.mem_cons_of_mem _ (List.mem_cons_of_mem _ (List.mem_cons_of_mem _ (List.mem_cons_of_mem _ (List.mem_cons_self)))))))))))))))))⟩
  · refine ⟨sp0o18, sp0N18, fun o ho => ?_⟩
    have ho : o ∈ ([(true, sp0_c5)] : List (Bool × wE)) := ho
    simp only [List.mem_cons, List.not_mem_nil, or_false] at ho
    rcases ho with rfl
    · exact Or.inr ⟨rfl, List.mem_cons_of_mem _ (List.mem_cons_of_mem _ (List.mem_cons_of_mem _ (List.mem_cons_of_mem _ (List.mem_cons_of_mem _ (List.mem_cons_of_mem _ (List.mem_cons_of_mem _ (List.mem_cons_of_mem _ (List.mem_cons_of_mem _ (List.mem_cons_of_mem _ (List.mem_cons_of_mem _ (List.mem_cons_of_mem _ (List.mem_cons_of_mem _ (List.mem_cons_of_mem _ (List.mem_cons_of_mem _ (List.mem_cons_of_mem _ (List.mem_cons_of_mem _ (List.mem_cons_of_mem _ (List.mem_cons_self))))))))))))))))))⟩
  · refine ⟨sp0o21, sp0N21, fun o ho => ?_⟩
    have ho : o ∈ ([(true, sp0_c6)] : List (Bool × wE)) := ho
    simp only [List.mem_cons, List.not_mem_nil, or_false] at ho
    rcases ho with rfl
    · exact Or.inr ⟨rfl, List.mem_cons_of_mem _ (List.mem_cons_of_mem _ (List.mem_cons_of_mem _ (List.mem_cons_of_mem _ (List.mem_cons_of_mem _ (List.mem_cons_of_mem _ (List.mem_cons_of_mem _ (List.mem_cons_of_mem _ (List.mem_cons_of_mem _ (List.mem_cons_of_mem _ (List.mem_cons_of_mem _ (List.mem_cons_of_mem _ (List.mem_cons_of_mem _ (List.mem_cons_of_mem _ (List.mem_cons_of_mem _ (List.mem_cons_of_mem _ (List.mem_cons_of_mem _ (List.mem_cons_of_mem _ (List.mem_cons_of_mem _ (List.mem_cons_self)))))))))))))))))))⟩
  · refine ⟨sp0o29, sp0N29, fun o ho => ?_⟩
    have ho : o ∈ ([(true, sp0_c7a)] : List (Bool × wE)) := ho
    simp only [List.mem_cons, List.not_mem_nil, or_false] at ho
    rcases ho with rfl
    · exact Or.inr ⟨rfl, List.mem_cons_of_mem _ (List.mem_cons_of_mem _ (List.mem_cons_of_mem _ (List.mem_cons_of_mem _ (List.mem_cons_of_mem _ (List.mem_cons_of_mem _ (List.mem_cons_of_mem _ (List.mem_cons_of_mem _ (List.mem_cons_of_mem _ (List.mem_cons_of_mem _ (List.mem_cons_of_mem _ (List.mem_cons_of_mem _ (List.mem_cons_of_mem _ (List.mem_cons_of_mem _ (List.mem_cons_of_mem _ (List.mem_cons_of_mem _ (List.mem_cons_of_mem _ (List.mem_cons_of_mem _ (List.mem_cons_of_mem _ (List.mem_cons_of_mem _ (List.mem_cons_self))))))))))))))))))))⟩
  · refine ⟨sp0o38, sp0N38, fun o ho => ?_⟩
    have ho : o ∈ ([(true, sp0_c8)] : List (Bool × wE)) := ho
    simp only [List.mem_cons, List.not_mem_nil, or_false] at ho
    rcases ho with rfl
    · exact Or.inr ⟨rfl, List.mem_cons_of_mem _ (List.mem_cons_of_mem _ (List.mem_cons_of_mem _ (List.mem_cons_of_mem _ (List.mem_cons_of_mem _ (List.mem_cons_of_mem _ (List.mem_cons_of_mem _ (List.mem_cons_of_mem _ (List.mem_cons_of_mem _ (List.mem_cons_of_mem _ (List.mem_cons_of_mem _ (List.mem_cons_of_mem _ (List.mem_cons_of_mem _ (List.mem_cons_of_mem _ (List.mem_cons_of_mem _ (List.mem_cons_of_mem _ (List.mem_cons_of_mem _ (List.mem_cons_of_mem _ (List.mem_cons_of_mem _ (List.mem_cons_of_mem _ (List.mem_cons_of_mem _ (List.mem_cons_self)))))))))))))))))))))⟩
  · refine ⟨sp0o6, sp0N6, fun o ho => ?_⟩
    have ho : o ∈ ([(true, sp0_M)] : List (Bool × wE)) := ho
    simp only [List.mem_cons, List.not_mem_nil, or_false] at ho
    rcases ho with rfl
    · exact Or.inr ⟨rfl, List.mem_cons_of_mem _ (List.mem_cons_of_mem _ (List.mem_cons_of_mem _ (List.mem_cons_of_mem _ (List.mem_cons_of_mem _ (List.mem_cons_of_mem _ (List.mem_cons_of_mem _ (List.mem_cons_of_mem _ (List.mem_cons_of_mem _ (List.mem_cons_of_mem _ (List.mem_cons_of_mem _ (List.mem_cons_of_mem _ (List.mem_cons_of_mem _ (List.mem_cons_of_mem _ (List.mem_cons_of_mem _ (List.mem_cons_of_mem _ (List.mem_cons_of_mem _ (List.mem_cons_of_mem _ (List.mem_cons_of_mem _ (List.mem_cons_of_mem _ (List.mem_cons_of_mem _ (List.mem_cons_of_mem _ (List.mem_cons_self))))))))))))))))))))))⟩
  · refine ⟨sp0o7, sp0N7, fun o ho => ?_⟩
    have ho : o ∈ ([(false, sp0_R), (false, sp0_O)] : List (Bool × wE)) := ho
    simp only [List.mem_cons, List.not_mem_nil, or_false] at ho
    rcases ho with rfl | rfl
    · exact Or.inl (List.mem_cons_self)
    · exact Or.inl (List.mem_cons_of_mem _ (List.mem_cons_self))
  · refine ⟨sp0o34, sp0N34, fun o ho => ?_⟩
    have ho : o ∈ ([(true, sp0_c11a)] : List (Bool × wE)) := ho
    simp only [List.mem_cons, List.not_mem_nil, or_false] at ho
    rcases ho with rfl
    · exact Or.inr ⟨rfl, List.mem_cons_of_mem _ (List.mem_cons_of_mem _ (List.mem_cons_of_mem _ (List.mem_cons_of_mem _ (List.mem_cons_of_mem _ (List.mem_cons_of_mem _ (List.mem_cons_of_mem _ (List.mem_cons_of_mem _ (List.mem_cons_of_mem _ (List.mem_cons_of_mem _ (List.mem_cons_of_mem _ (List.mem_cons_of_mem _ (List.mem_cons_of_mem _ (List.mem_cons_of_mem _ (List.mem_cons_of_mem _ (List.mem_cons_of_mem _ (List.mem_cons_of_mem _ (List.mem_cons_of_mem _ (List.mem_cons_of_mem _ (List.mem_cons_of_mem _ (List.mem_cons_of_mem _ (List.mem_cons_of_mem _ (List.mem_cons_of_mem _ (List.mem_cons_self)))))))))))))))))))))))⟩
  · refine ⟨sp0o8, sp0N8, fun o ho => ?_⟩
    have ho : o ∈ ([(true, sp0_c0_x)] : List (Bool × wE)) := ho
    simp only [List.mem_cons, List.not_mem_nil, or_false] at ho
    rcases ho with rfl
    · exact Or.inr ⟨rfl, List.mem_cons_of_mem _ (List.mem_cons_of_mem _ (List.mem_cons_of_mem _ (List.mem_cons_of_mem _ (List.mem_cons_of_mem _ (List.mem_cons_of_mem _ (List.mem_cons_of_mem _ (List.mem_cons_of_mem _ (List.mem_cons_of_mem _ (List.mem_cons_of_mem _ (List.mem_cons_of_mem _ (List.mem_cons_of_mem _ (List.mem_cons_of_mem _ (List.mem_cons_of_mem _ (List.mem_cons_of_mem _ (List.mem_cons_of_mem _ (List.mem_cons_of_mem _ (List.mem_cons_of_mem _ (List.mem_cons_of_mem _ (List.mem_cons_of_mem _ (List.mem_cons_of_mem _ (List.mem_cons_of_mem _ (List.mem_cons_of_mem _ (List.mem_cons_of_mem _ (List.mem_cons_self))))))))))))))))))))))))⟩
  · refine ⟨sp0o23, sp0N23, fun o ho => ?_⟩
    have ho : o ∈ ([(true, sp0_c1_X), (true, sp0_c1_F)] : List (Bool × wE)) := ho
    simp only [List.mem_cons, List.not_mem_nil, or_false] at ho
    rcases ho with rfl | rfl
    · exact Or.inr ⟨rfl, List.mem_cons_of_mem _ (List.mem_cons_of_mem _ (List.mem_cons_of_mem _ (List.mem_cons_of_mem _ (List.mem_cons_of_mem _ (List.mem_cons_of_mem _ (List.mem_cons_of_mem _ (List.mem_cons_of_mem _ (List.mem_cons_of_mem _ (List.mem_cons_of_mem _ (List.mem_cons_of_mem _ (List.mem_cons_of_mem _ (List.mem_cons_of_mem _ (List.mem_cons_of_mem _ (List.mem_cons_of_mem _ (List.mem_cons_of_mem _ (List.mem_cons_of_mem _ (List.mem_cons_of_mem _ (List.mem_cons_of_mem _ (List.mem_cons_of_mem _ (List.mem_cons_of_mem _ (List.mem_cons_of_mem _ (List.mem_cons_of_mem _ (List.mem_cons_of_mem _ (List.mem_cons_of_mem _ (List.mem_cons_self)))))))))))))))))))))))))⟩
    · exact Or.inr ⟨rfl, List.mem_cons_of_mem _ (List.mem_cons_of_mem _ (List.mem_cons_of_mem _ (List.mem_cons_of_mem _ (List.mem_cons_of_mem _ (List.mem_cons_of_mem _ (List.mem_cons_of_mem _ (List.mem_cons_of_mem _ (List.mem_cons_of_mem _ (List.mem_cons_of_mem _ (List.mem_cons_of_mem _ (List.mem_cons_of_mem _ (List.mem_cons_of_mem _ (List.mem_cons_of_mem _ (List.mem_cons_of_mem _ (List.mem_cons_of_mem _ (List.mem_cons_of_mem _ (List.mem_cons_of_mem _ (List.mem_cons_of_mem _ (List.mem_cons_of_mem _ (List.mem_cons_of_mem _ (List.mem_cons_of_mem _ (List.mem_cons_of_mem _ (List.mem_cons_of_mem _ (List.mem_cons_of_mem _ (List.mem_cons_of_mem _ (List.mem_cons_self))))))))))))))))))))))))))⟩
  · refine ⟨sp0o3, sp0N3, fun o ho => ?_⟩
    have ho : o ∈ ([(true, sp0_M2), (true, sp0_F)] : List (Bool × wE)) := ho
    simp only [List.mem_cons, List.not_mem_nil, or_false] at ho
    rcases ho with rfl | rfl
    · exact Or.inr ⟨rfl, List.mem_cons_of_mem _ (List.mem_cons_of_mem _ (List.mem_cons_of_mem _ (List.mem_cons_of_mem _ (List.mem_cons_of_mem _ (List.mem_cons_of_mem _ (List.mem_cons_of_mem _ (List.mem_cons_of_mem _ (List.mem_cons_of_mem _ (List.mem_cons_of_mem _ (List.mem_cons_of_mem _ (List.mem_cons_of_mem _ (List.mem_cons_of_mem _ (List.mem_cons_of_mem _ (List.mem_cons_of_mem _ (List.mem_cons_of_mem _ (List.mem_cons_of_mem _ (List.mem_cons_of_mem _ (List.mem_cons_of_mem _ (List.mem_cons_of_mem _ (List.mem_cons_of_mem _ (List.mem_cons_of_mem _ (List.mem_cons_of_mem _ (List.mem_cons_of_mem _ (List.mem_cons_of_mem _ (List.mem_cons_of_mem _ (List.mem_cons_of_mem _ (List.mem_cons_self)))))))))))))))))))))))))))⟩
    · exact Or.inr ⟨rfl, List.mem_cons_of_mem _ (List.mem_cons_of_mem _ (List.mem_cons_of_mem _ (List.mem_cons_of_mem _ (List.mem_cons_of_mem _ (List.mem_cons_of_mem _ (List.mem_cons_of_mem _ (List.mem_cons_of_mem _ (List.mem_cons_of_mem _ (List.mem_cons_of_mem _ (List.mem_cons_of_mem _ (List.mem_cons_of_mem _ (List.mem_cons_of_mem _ (List.mem_cons_of_mem _ (List.mem_cons_of_mem _ (List.mem_cons_of_mem _ (List.mem_cons_of_mem _ (List.mem_cons_of_mem _ (List.mem_cons_of_mem _ (List.mem_cons_of_mem _ (List.mem_cons_of_mem _ (List.mem_cons_of_mem _ (List.mem_cons_of_mem _ (List.mem_cons_of_mem _ (List.mem_cons_of_mem _ (List.mem_cons_of_mem _ (List.mem_cons_of_mem _ (List.mem_cons_of_mem _ (List.mem_cons_self))))))))))))))))))))))))))))⟩
  · refine ⟨sp0o11, sp0N11, fun o ho => ?_⟩
    have ho : o ∈ ([(true, sp0_c3_x)] : List (Bool × wE)) := ho
    simp only [List.mem_cons, List.not_mem_nil, or_false] at ho
    rcases ho with rfl
    · exact Or.inr ⟨rfl, List.mem_cons_of_mem _ (List.mem_cons_of_mem _ (List.mem_cons_of_mem _ (List.mem_cons_of_mem _ (List.mem_cons_of_mem _ (List.mem_cons_of_mem _ (List.mem_cons_of_mem _ (List.mem_cons_of_mem _ (List.mem_cons_of_mem _ (List.mem_cons_of_mem _ (List.mem_cons_of_mem _ (List.mem_cons_of_mem _ (List.mem_cons_of_mem _ (List.mem_cons_of_mem _ (List.mem_cons_of_mem _ (List.mem_cons_of_mem _ (List.mem_cons_of_mem _ (List.mem_cons_of_mem _ (List.mem_cons_of_mem _ (List.mem_cons_of_mem _ (List.mem_cons_of_mem _ (List.mem_cons_of_mem _ (List.mem_cons_of_mem _ (List.mem_cons_of_mem _ (List.mem_cons_of_mem _ (List.mem_cons_of_mem _ (List.mem_cons_of_mem _ (List.mem_cons_of_mem _ (List.mem_cons_of_mem _ (List.mem_cons_self)))))))))))))))))))))))))))))⟩
  · refine ⟨sp0o14, sp0N14, fun o ho => ?_⟩
    have ho : o ∈ ([(true, sp0_c4_x)] : List (Bool × wE)) := ho
    simp only [List.mem_cons, List.not_mem_nil, or_false] at ho
    rcases ho with rfl
    · exact Or.inr ⟨rfl, List.mem_cons_of_mem _ (List.mem_cons_of_mem _ (List.mem_cons_of_mem _ (List.mem_cons_of_mem _ (List.mem_cons_of_mem _ (List.mem_cons_of_mem _ (List.mem_cons_of_mem _ (List.mem_cons_of_mem _ (List.mem_cons_of_mem _ (List.mem_cons_of_mem _ (List.mem_cons_of_mem _ (List.mem_cons_of_mem _ (List.mem_cons_of_mem _ (List.mem_cons_of_mem _ (List.mem_cons_of_mem _ (List.mem_cons_of_mem _ (List.mem_cons_of_mem _ (List.mem_cons_of_mem _ (List.mem_cons_of_mem _ (List.mem_cons_of_mem _ (List.mem_cons_of_mem _ (List.mem_cons_of_mem _ (List.mem_cons_of_mem _ (List.mem_cons_of_mem _ (List.mem_cons_of_mem _ (List.mem_cons_of_mem _ (List.mem_cons_of_mem _ (List.mem_cons_of_mem _ (List.mem_cons_of_mem _ (List.mem_cons_of_mem _ (List.mem_cons_self))))))))))))))))))))))))))))))⟩
  · refine ⟨sp0o17, sp0N17, fun o ho => ?_⟩
    have ho : o ∈ ([(true, sp0_c5_x)] : List (Bool × wE)) := ho
    simp only [List.mem_cons, List.not_mem_nil, or_false] at ho
    rcases ho with rfl
    · exact Or.inr ⟨rfl, List.mem_cons_of_mem _ (List.mem_cons_of_mem _ (List.mem_cons_of_mem _ (List.mem_cons_of_mem _ (List.mem_cons_of_mem _ (List.mem_cons_of_mem _ (List.mem_cons_of_mem _ (List.mem_cons_of_mem _ (List.mem_cons_of_mem _ (List.mem_cons_of_mem _ (List.mem_cons_of_mem _ (List.mem_cons_of_mem _ (List.mem_cons_of_mem _ (List.mem_cons_of_mem _ (List.mem_cons_of_mem _ (List.mem_cons_of_mem _ (List.mem_cons_of_mem _ (List.mem_cons_of_mem _ (List.mem_cons_of_mem _ (List.mem_cons_of_mem _ (List.mem_cons_of_mem _ (List.mem_cons_of_mem _ (List.mem_cons_of_mem _ (List.mem_cons_of_mem _ (List.mem_cons_of_mem _ (List.mem_cons_of_mem _ (List.mem_cons_of_mem _ (List.mem_cons_of_mem _ (List.mem_cons_of_mem _ (List.mem_cons_of_mem _ (List.mem_cons_of_mem _ (List.mem_cons_self)))))))))))))))))))))))))))))))⟩
  · refine ⟨sp0o20, sp0N20, fun o ho => ?_⟩
    have ho : o ∈ ([(true, sp0_c6_x)] : List (Bool × wE)) := ho
    simp only [List.mem_cons, List.not_mem_nil, or_false] at ho
    rcases ho with rfl
    · exact Or.inr ⟨rfl, List.mem_cons_of_mem _ (List.mem_cons_of_mem _ (List.mem_cons_of_mem _ (List.mem_cons_of_mem _ (List.mem_cons_of_mem _ (List.mem_cons_of_mem _ (List.mem_cons_of_mem _ (List.mem_cons_of_mem _ (List.mem_cons_of_mem _ (List.mem_cons_of_mem _ (List.mem_cons_of_mem _ (List.mem_cons_of_mem _ (List.mem_cons_of_mem _ (List.mem_cons_of_mem _ (List.mem_cons_of_mem _ (List.mem_cons_of_mem _ (List.mem_cons_of_mem _ (List.mem_cons_of_mem _ (List.mem_cons_of_mem _ (List.mem_cons_of_mem _ (List.mem_cons_of_mem _ (List.mem_cons_of_mem _ (List.mem_cons_of_mem _ (List.mem_cons_of_mem _ (List.mem_cons_of_mem _ (List.mem_cons_of_mem _ (List.mem_cons_of_mem _ (List.mem_cons_of_mem _ (List.mem_cons_of_mem _ (List.mem_cons_of_mem _ (List.mem_cons_of_mem _ (List.mem_cons_of_mem _ (List.mem_cons_self))))))))))))))))))))))))))))))))⟩
  · refine ⟨sp0o27, sp0N27, fun o ho => ?_⟩
    have ho : o ∈ ([(true, sp0_c7a_x)] : List (Bool × wE)) := ho
    simp only [List.mem_cons, List.not_mem_nil, or_false] at ho
    rcases ho with rfl
    · exact Or.inr ⟨rfl, List.mem_cons_of_mem _ (List.mem_cons_of_mem _ (List.mem_cons_of_mem _ (List.mem_cons_of_mem _ (List.mem_cons_of_mem _ (List.mem_cons_of_mem _ (List.mem_cons_of_mem _ (List.mem_cons_of_mem _ (List.mem_cons_of_mem _ (List.mem_cons_of_mem _ (List.mem_cons_of_mem _ (List.mem_cons_of_mem _ (List.mem_cons_of_mem _ (List.mem_cons_of_mem _ (List.mem_cons_of_mem _ (List.mem_cons_of_mem _ (List.mem_cons_of_mem _ (List.mem_cons_of_mem _ (List.mem_cons_of_mem _ (List.mem_cons_of_mem _ (List.mem_cons_of_mem _ (List.mem_cons_of_mem _ (List.mem_cons_of_mem _ (List.mem_cons_of_mem _ (List.mem_cons_of_mem _ (List.mem_cons_of_mem _ (List.mem_cons_of_mem _ (List.mem_cons_of_mem _ (List.mem_cons_of_mem _ (List.mem_cons_of_mem _ (List.mem_cons_of_mem _ (List.mem_cons_of_mem _ (List.mem_cons_of_mem _ (List.mem_cons_self)))))))))))))))))))))))))))))))))⟩
  · refine ⟨sp0o37, sp0N37, fun o ho => ?_⟩
    have ho : o ∈ ([(true, sp0_c8_x)] : List (Bool × wE)) := ho
    simp only [List.mem_cons, List.not_mem_nil, or_false] at ho
    rcases ho with rfl
    · exact Or.inr ⟨rfl, List.mem_cons_of_mem _ (List.mem_cons_of_mem _ (List.mem_cons_of_mem _ (List.mem_cons_of_mem _ (List.mem_cons_of_mem _ (List.mem_cons_of_mem _ (List.mem_cons_of_mem _ (List.mem_cons_of_mem _ (List.mem_cons_of_mem _ (List.mem_cons_of_mem _ (List.mem_cons_of_mem _ (List.mem_cons_of_mem _ (List.mem_cons_of_mem _ (List.mem_cons_of_mem _ (List.mem_cons_of_mem _ (List.mem_cons_of_mem _ (List.mem_cons_of_mem _ (List.mem_cons_of_mem _ (List.mem_cons_of_mem _ (List.mem_cons_of_mem _ (List.mem_cons_of_mem _ (List.mem_cons_of_mem _ (List.mem_cons_of_mem _ (List.mem_cons_of_mem _ (List.mem_cons_of_mem _ (List.mem_cons_of_mem _ (List.mem_cons_of_mem _ (List.mem_cons_of_mem _ (List.mem_cons_of_mem _ (List.mem_cons_of_mem _ (List.mem_cons_of_mem _ (List.mem_cons_of_mem _ (List.mem_cons_of_mem _ (List.mem_cons_of_mem _ (List.mem_cons_self))))))))))))))))))))))))))))))))))⟩
  · refine ⟨sp0o1, sp0N1, fun o ho => ?_⟩
    have ho : o ∈ ([(false, sp0_R), (false, sp0_O)] : List (Bool × wE)) := ho
    simp only [List.mem_cons, List.not_mem_nil, or_false] at ho
    rcases ho with rfl | rfl
    · exact Or.inl (List.mem_cons_self)
    · exact Or.inl (List.mem_cons_of_mem _ (List.mem_cons_self))
  · refine ⟨sp0o32, sp0N32, fun o ho => ?_⟩
    have ho : o ∈ ([(true, sp0_c11a_x)] : List (Bool × wE)) := ho
    simp only [List.mem_cons, List.not_mem_nil, or_false] at ho
    rcases ho with rfl
    · exact Or.inr ⟨rfl, List.mem_cons_of_mem _ (List.mem_cons_of_mem _ (List.mem_cons_of_mem _ (List.mem_cons_of_mem _ (List.mem_cons_of_mem _ (List.mem_cons_of_mem _ (List.mem_cons_of_mem _ (List.mem_cons_of_mem _ (List.mem_cons_of_mem _ (List.mem_cons_of_mem _ (List.mem_cons_of_mem _ (List.mem_cons_of_mem _ (List.mem_cons_of_mem _ (List.mem_cons_of_mem _ (List.mem_cons_of_mem _ (List.mem_cons_of_mem _ (List.mem_cons_of_mem _ (List.mem_cons_of_mem _ (List.mem_cons_of_mem _ (List.mem_cons_of_mem _ (List.mem_cons_of_mem _ (List.mem_cons_of_mem _ (List.mem_cons_of_mem _ (List.mem_cons_of_mem _ (List.mem_cons_of_mem _ (List.mem_cons_of_mem _ (List.mem_cons_of_mem _ (List.mem_cons_of_mem _ (List.mem_cons_of_mem _ (List.mem_cons_of_mem _ (List.mem_cons_of_mem _ (List.mem_cons_of_mem _ (List.mem_cons_of_mem _ (List.mem_cons_of_mem _ (List.mem_cons_of_mem _ (List.mem_cons_self)))))))))))))))))))))))))))))))))))⟩
  · refine ⟨sp0o10, sp0N10, fun o ho => ?_⟩
    have ho : o ∈ ([(true, sp0_M)] : List (Bool × wE)) := ho
    simp only [List.mem_cons, List.not_mem_nil, or_false] at ho
    rcases ho with rfl
    · exact Or.inr ⟨rfl, List.mem_cons_of_mem _ (List.mem_cons_of_mem _ (List.mem_cons_of_mem _ (List.mem_cons_of_mem _ (List.mem_cons_of_mem _ (List.mem_cons_of_mem _ (List.mem_cons_of_mem _ (List.mem_cons_of_mem _ (List.mem_cons_of_mem _ (List.mem_cons_of_mem _ (List.mem_cons_of_mem _ (List.mem_cons_of_mem _ (List.mem_cons_of_mem _ (List.mem_cons_of_mem _ (List.mem_cons_of_mem _ (List.mem_cons_of_mem _ (List.mem_cons_of_mem _ (List.mem_cons_of_mem _ (List.mem_cons_of_mem _ (List.mem_cons_of_mem _ (List.mem_cons_of_mem _ (List.mem_cons_of_mem _ (List.mem_cons_self))))))))))))))))))))))⟩
  · refine ⟨sp0o25, sp0N25, fun o ho => ?_⟩
    have ho : o ∈ ([(true, sp0_M)] : List (Bool × wE)) := ho
    simp only [List.mem_cons, List.not_mem_nil, or_false] at ho
    rcases ho with rfl
    · exact Or.inr ⟨rfl, List.mem_cons_of_mem _ (List.mem_cons_of_mem _ (List.mem_cons_of_mem _ (List.mem_cons_of_mem _ (List.mem_cons_of_mem _ (List.mem_cons_of_mem _ (List.mem_cons_of_mem _ (List.mem_cons_of_mem _ (List.mem_cons_of_mem _ (List.mem_cons_of_mem _ (List.mem_cons_of_mem _ (List.mem_cons_of_mem _ (List.mem_cons_of_mem _ (List.mem_cons_of_mem _ (List.mem_cons_of_mem _ (List.mem_cons_of_mem _ (List.mem_cons_of_mem _ (List.mem_cons_of_mem _ (List.mem_cons_of_mem _ (List.mem_cons_of_mem _ (List.mem_cons_of_mem _ (List.mem_cons_of_mem _ (List.mem_cons_self))))))))))))))))))))))⟩
  · refine ⟨sp0o26, sp0N26, fun o ho => ?_⟩
    have ho : o ∈ ([(false, sp0_O)] : List (Bool × wE)) := ho
    simp only [List.mem_cons, List.not_mem_nil, or_false] at ho
    rcases ho with rfl
    · exact Or.inl (List.mem_cons_of_mem _ (List.mem_cons_self))
  · refine ⟨sp0o4, sp0N4, fun o ho => ?_⟩
    have ho : o ∈ ([(false, sp0_R), (false, sp0_O)] : List (Bool × wE)) := ho
    simp only [List.mem_cons, List.not_mem_nil, or_false] at ho
    rcases ho with rfl | rfl
    · exact Or.inl (List.mem_cons_self)
    · exact Or.inl (List.mem_cons_of_mem _ (List.mem_cons_self))
  · refine ⟨sp0o5, sp0N5, fun o ho => ?_⟩
    have ho : o ∈ ([(false, sp0_O)] : List (Bool × wE)) := ho
    simp only [List.mem_cons, List.not_mem_nil, or_false] at ho
    rcases ho with rfl
    · exact Or.inl (List.mem_cons_of_mem _ (List.mem_cons_self))
  · refine ⟨sp0o13, sp0N13, fun o ho => ?_⟩
    have ho : o ∈ ([(true, sp0_M)] : List (Bool × wE)) := ho
    simp only [List.mem_cons, List.not_mem_nil, or_false] at ho
    rcases ho with rfl
    · exact Or.inr ⟨rfl, List.mem_cons_of_mem _ (List.mem_cons_of_mem _ (List.mem_cons_of_mem _ (List.mem_cons_of_mem _ (List.mem_cons_of_mem _ (List.mem_cons_of_mem _ (List.mem_cons_of_mem _ (List.mem_cons_of_mem _ (List.mem_cons_of_mem _ (List.mem_cons_of_mem _ (List.mem_cons_of_mem _ (List.mem_cons_of_mem _ (List.mem_cons_of_mem _ (List.mem_cons_of_mem _ (List.mem_cons_of_mem _ (List.mem_cons_of_mem _ (List.mem_cons_of_mem _ (List.mem_cons_of_mem _ (List.mem_cons_of_mem _ (List.mem_cons_of_mem _ (List.mem_cons_of_mem _ (List.mem_cons_of_mem _ (List.mem_cons_self))))))))))))))))))))))⟩
  · refine ⟨sp0o16, sp0N16, fun o ho => ?_⟩
    have ho : o ∈ ([(true, sp0_M)] : List (Bool × wE)) := ho
    simp only [List.mem_cons, List.not_mem_nil, or_false] at ho
    rcases ho with rfl
    · exact Or.inr ⟨rfl, List.mem_cons_of_mem _ (List.mem_cons_of_mem _ (List.mem_cons_of_mem _ (List.mem_cons_of_mem _ (List.mem_cons_of_mem _ (List.mem_cons_of_mem _ (List.mem_cons_of_mem _ (List.mem_cons_of_mem _ (List.mem_cons_of_mem _ (List.mem_cons_of_mem _ (List.mem_cons_of_mem _ (List.mem_cons_of_mem _ (List.mem_cons_of_mem _ (List.mem_cons_of_mem _ (List.mem_cons_of_mem _ (List.mem_cons_of_mem _ (List.mem_cons_of_mem _ (List.mem_cons_of_mem _ (List.mem_cons_of_mem _ (List.mem_cons_of_mem _ (List.mem_cons_of_mem _ (List.mem_cons_of_mem _ (List.mem_cons_self))))))))))))))))))))))⟩
  · refine ⟨sp0o19, sp0N19, fun o ho => ?_⟩
    have ho : o ∈ ([(true, sp0_M)] : List (Bool × wE)) := ho
    simp only [List.mem_cons, List.not_mem_nil, or_false] at ho
    rcases ho with rfl
    · exact Or.inr ⟨rfl, List.mem_cons_of_mem _ (List.mem_cons_of_mem _ (List.mem_cons_of_mem _ (List.mem_cons_of_mem _ (List.mem_cons_of_mem _ (List.mem_cons_of_mem _ (List.mem_cons_of_mem _ (List.mem_cons_of_mem _ (List.mem_cons_of_mem _ (List.mem_cons_of_mem _ (List.mem_cons_of_mem _ (List.mem_cons_of_mem _ (List.mem_cons_of_mem _ (List.mem_cons_of_mem _ (List.mem_cons_of_mem _ (List.mem_cons_of_mem _ (List.mem_cons_of_mem _ (List.mem_cons_of_mem _ (List.mem_cons_of_mem _ (List.mem_cons_of_mem _ (List.mem_cons_of_mem _ (List.mem_cons_of_mem _ (List.mem_cons_self))))))))))))))))))))))⟩
  · refine ⟨sp0o22, sp0N22, fun o ho => ?_⟩
    have ho : o ∈ ([(true, sp0_M)] : List (Bool × wE)) := ho
    simp only [List.mem_cons, List.not_mem_nil, or_false] at ho
    rcases ho with rfl
    · exact Or.inr ⟨rfl, List.mem_cons_of_mem _ (List.mem_cons_of_mem _ (List.mem_cons_of_mem _ (List.mem_cons_of_mem _ (List.mem_cons_of_mem _ (List.mem_cons_of_mem _ (List.mem_cons_of_mem _ (List.mem_cons_of_mem _ (List.mem_cons_of_mem _ (List.mem_cons_of_mem _ (List.mem_cons_of_mem _ (List.mem_cons_of_mem _ (List.mem_cons_of_mem _ (List.mem_cons_of_mem _ (List.mem_cons_of_mem _ (List.mem_cons_of_mem _ (List.mem_cons_of_mem _ (List.mem_cons_of_mem _ (List.mem_cons_of_mem _ (List.mem_cons_of_mem _ (List.mem_cons_of_mem _ (List.mem_cons_of_mem _ (List.mem_cons_self))))))))))))))))))))))⟩
  · refine ⟨sp0o30, sp0N30, fun o ho => ?_⟩
    have ho : o ∈ ([(true, sp0_c7b)] : List (Bool × wE)) := ho
    simp only [List.mem_cons, List.not_mem_nil, or_false] at ho
    rcases ho with rfl
    · exact Or.inr ⟨rfl, List.mem_cons_of_mem _ (List.mem_cons_of_mem _ (List.mem_cons_of_mem _ (List.mem_cons_of_mem _ (List.mem_cons_of_mem _ (List.mem_cons_of_mem _ (List.mem_cons_of_mem _ (List.mem_cons_of_mem _ (List.mem_cons_of_mem _ (List.mem_cons_of_mem _ (List.mem_cons_of_mem _ (List.mem_cons_of_mem _ (List.mem_cons_of_mem _ (List.mem_cons_of_mem _ (List.mem_cons_of_mem _ (List.mem_cons_of_mem _ (List.mem_cons_of_mem _ (List.mem_cons_of_mem _ (List.mem_cons_of_mem _ (List.mem_cons_of_mem _ (List.mem_cons_of_mem _ (List.mem_cons_of_mem _ (List.mem_cons_of_mem _ (List.mem_cons_of_mem _ (List.mem_cons_of_mem _ (List.mem_cons_of_mem _ (List.mem_cons_of_mem _ (List.mem_cons_of_mem _ (List.mem_cons_of_mem _ (List.mem_cons_of_mem _ (List.mem_cons_of_mem _ (List.mem_cons_of_mem _ (List.mem_cons_of_mem _ (List.mem_cons_of_mem _ (List.mem_cons_of_mem _ (List.mem_cons_of_mem _ (List.mem_cons_self))))))))))))))))))))))))))))))))))))⟩
  · refine ⟨sp0o39, sp0N39, fun o ho => ?_⟩
    have ho : o ∈ ([(true, sp0_M)] : List (Bool × wE)) := ho
    simp only [List.mem_cons, List.not_mem_nil, or_false] at ho
    rcases ho with rfl
    · exact Or.inr ⟨rfl, List.mem_cons_of_mem _ (List.mem_cons_of_mem _ (List.mem_cons_of_mem _ (List.mem_cons_of_mem _ (List.mem_cons_of_mem _ (List.mem_cons_of_mem _ (List.mem_cons_of_mem _ (List.mem_cons_of_mem _ (List.mem_cons_of_mem _ (List.mem_cons_of_mem _ (List.mem_cons_of_mem _ (List.mem_cons_of_mem _ (List.mem_cons_of_mem _ (List.mem_cons_of_mem _ (List.mem_cons_of_mem _ (List.mem_cons_of_mem _ (List.mem_cons_of_mem _ (List.mem_cons_of_mem _ (List.mem_cons_of_mem _ (List.mem_cons_of_mem _ (List.mem_cons_of_mem _ (List.mem_cons_of_mem _ (List.mem_cons_self))))))))))))))))))))))⟩
  · refine ⟨sp0o35, sp0N35, fun o ho => ?_⟩
    have ho : o ∈ ([(true, sp0_c11b)] : List (Bool × wE)) := ho
    simp only [List.mem_cons, List.not_mem_nil, or_false] at ho
    rcases ho with rfl
    · exact Or.inr ⟨rfl, List.mem_cons_of_mem _ (List.mem_cons_of_mem _ (List.mem_cons_of_mem _ (List.mem_cons_of_mem _ (List.mem_cons_of_mem _ (List.mem_cons_of_mem _ (List.mem_cons_of_mem _ (List.mem_cons_of_mem _ (List.mem_cons_of_mem _ (List.mem_cons_of_mem _ (List.mem_cons_of_mem _ (List.mem_cons_of_mem _ (List.mem_cons_of_mem _ (List.mem_cons_of_mem _ (List.mem_cons_of_mem _ (List.mem_cons_of_mem _ (List.mem_cons_of_mem _ (List.mem_cons_of_mem _ (List.mem_cons_of_mem _ (List.mem_cons_of_mem _ (List.mem_cons_of_mem _ (List.mem_cons_of_mem _ (List.mem_cons_of_mem _ (List.mem_cons_of_mem _ (List.mem_cons_of_mem _ (List.mem_cons_of_mem _ (List.mem_cons_of_mem _ (List.mem_cons_of_mem _ (List.mem_cons_of_mem _ (List.mem_cons_of_mem _ (List.mem_cons_of_mem _ (List.mem_cons_of_mem _ (List.mem_cons_of_mem _ (List.mem_cons_of_mem _ (List.mem_cons_of_mem _ (List.mem_cons_of_mem _ (List.mem_cons_of_mem _ (List.mem_cons_self)))))))))))))))))))))))))))))))))))))⟩
  · refine ⟨sp0o28, sp0N28, fun o ho => ?_⟩
    have ho : o ∈ ([(true, sp0_c7b_x)] : List (Bool × wE)) := ho
    simp only [List.mem_cons, List.not_mem_nil, or_false] at ho
    rcases ho with rfl
    · exact Or.inr ⟨rfl, List.mem_cons_of_mem _ (List.mem_cons_of_mem _ (List.mem_cons_of_mem _ (List.mem_cons_of_mem _ (List.mem_cons_of_mem _ (List.mem_cons_of_mem _ (List.mem_cons_of_mem _ (List.mem_cons_of_mem _ (List.mem_cons_of_mem _ (List.mem_cons_of_mem _ (List.mem_cons_of_mem _ (List.mem_cons_of_mem _ (List.mem_cons_of_mem _ (List.mem_cons_of_mem _ (List.mem_cons_of_mem _ (List.mem_cons_of_mem _ (List.mem_cons_of_mem _ (List.mem_cons_of_mem _ (List.mem_cons_of_mem _ (List.mem_cons_of_mem _ (List.mem_cons_of_mem _ (List.mem_cons_of_mem _ (List.mem_cons_of_mem _ (List.mem_cons_of_mem _ (List.mem_cons_of_mem _ (List.mem_cons_of_mem _ (List.mem_cons_of_mem _ (List.mem_cons_of_mem _ (List.mem_cons_of_mem _ (List.mem_cons_of_mem _ (List.mem_cons_of_mem _ (List.mem_cons_of_mem _ (List.mem_cons_of_mem _ (List.mem_cons_of_mem _ (List.mem_cons_of_mem _ (List.mem_cons_of_mem _ (List.mem_cons_of_mem _ (List.mem_cons_of_mem _ (List.mem_cons_self))))))))))))))))))))))))))))))))))))))⟩
  · refine ⟨sp0o33, sp0N33, fun o ho => ?_⟩
    have ho : o ∈ ([(true, sp0_c11b_x)] : List (Bool × wE)) := ho
    simp only [List.mem_cons, List.not_mem_nil, or_false] at ho
    rcases ho with rfl
    · exact Or.inr ⟨rfl, List.mem_cons_of_mem _ (List.mem_cons_of_mem _ (List.mem_cons_of_mem _ (List.mem_cons_of_mem _ (List.mem_cons_of_mem _ (List.mem_cons_of_mem _ (List.mem_cons_of_mem _ (List.mem_cons_of_mem _ (List.mem_cons_of_mem _ (List.mem_cons_of_mem _ (List.mem_cons_of_mem _ (List.mem_cons_of_mem _ (List.mem_cons_of_mem _ (List.mem_cons_of_mem _ (List.mem_cons_of_mem _ (List.mem_cons_of_mem _ (List.mem_cons_of_mem _ (List.mem_cons_of_mem _ (List.mem_cons_of_mem _ (List.mem_cons_of_mem _ (List.mem_cons_of_mem _ (List.mem_cons_of_mem _ (List.mem_cons_of_mem _ (List.mem_cons_of_mem _ (List.mem_cons_of_mem _ (List.mem_cons_of_mem _ (List.mem_cons_of_mem _ (List.mem_cons_of_mem _ (List.mem_cons_of_mem _ (List.mem_cons_of_mem _ (List.mem_cons_of_mem _ (List.mem_cons_of_mem _ (List.mem_cons_of_mem _ (List.mem_cons_of_mem _ (List.mem_cons_of_mem _ (List.mem_cons_of_mem _ (List.mem_cons_of_mem _ (List.mem_cons_of_mem _ (List.mem_cons_of_mem _ (List.mem_cons_self)))))))))))))))))))))))))))))))))))))))⟩
  · refine ⟨sp0o31, sp0N31, fun o ho => ?_⟩
    have ho : o ∈ ([(true, sp0_M)] : List (Bool × wE)) := ho
    simp only [List.mem_cons, List.not_mem_nil, or_false] at ho
    rcases ho with rfl
    · exact Or.inr ⟨rfl, List.mem_cons_of_mem _ (List.mem_cons_of_mem _ (List.mem_cons_of_mem _ (List.mem_cons_of_mem _ (List.mem_cons_of_mem _ (List.mem_cons_of_mem _ (List.mem_cons_of_mem _ (List.mem_cons_of_mem _ (List.mem_cons_of_mem _ (List.mem_cons_of_mem _ (List.mem_cons_of_mem _ (List.mem_cons_of_mem _ (List.mem_cons_of_mem _ (List.mem_cons_of_mem _ (List.mem_cons_of_mem _ (List.mem_cons_of_mem _ (List.mem_cons_of_mem _ (List.mem_cons_of_mem _ (List.mem_cons_of_mem _ (List.mem_cons_of_mem _ (List.mem_cons_of_mem _ (List.mem_cons_of_mem _ (List.mem_cons_self))))))))))))))))))))))⟩
  · refine ⟨sp0o36, sp0N36, fun o ho => ?_⟩
    have ho : o ∈ ([(true, sp0_M)] : List (Bool × wE)) := ho
    simp only [List.mem_cons, List.not_mem_nil, or_false] at ho
    rcases ho with rfl
    · exact Or.inr ⟨rfl, List.mem_cons_of_mem _ (List.mem_cons_of_mem _ (List.mem_cons_of_mem _ (List.mem_cons_of_mem _ (List.mem_cons_of_mem _ (List.mem_cons_of_mem _ (List.mem_cons_of_mem _ (List.mem_cons_of_mem _ (List.mem_cons_of_mem _ (List.mem_cons_of_mem _ (List.mem_cons_of_mem _ (List.mem_cons_of_mem _ (List.mem_cons_of_mem _ (List.mem_cons_of_mem _ (List.mem_cons_of_mem _ (List.mem_cons_of_mem _ (List.mem_cons_of_mem _ (List.mem_cons_of_mem _ (List.mem_cons_of_mem _ (List.mem_cons_of_mem _ (List.mem_cons_of_mem _ (List.mem_cons_of_mem _ (List.mem_cons_self))))))))))))))))))))))⟩)
theorem fb0N1 {xs : Nat → Int32} {n : Nat} {sf : Option Nat} : wGoes x_KT x_tb x_tyl (x_otS xs n sf) lwFR lwGA.length lwGB.length 29 35 45 fb0WA fb0WB 116 203 63 63 fb0_c0T fb0o1 :=
  wDp (wWk (wEqvB (wCallB (recv := 0) (pc := 73) (ix := 311) (nx := 3) (args := [.inl (lSy 6), .inl (lSy 5), .inl (lK 0)]) (rest := []) (LE := [(0, .inr (some 0)), (1, .inl (lSy 6)), (2, .inl (lSy 5)), (3, .inl (lK 1)), (4, .inl (lSy 31)), (5, .inl (lSy 38))]) (cE := (lK 0)) (sE := (lK 0)) (wCallA (recv := 4) (pc := 17) (ix := 70) (nx := 3) (args := []) (rest := []) (LE := [(0, .inr (some 4)), (1, .inl (lSy 33))]) (cE := (lK 0)) (sE := (lK 0)) (wReL (XA := fb0X1.2.1) (XB := fb0X1.2.2.1) (XC := fb0X1.2.2.2.1) (rk := fb0X1.2.2.2.2) (rA := fb0QA1) (rB := fb0QB1) (sp0_g0_G _ List.mem_cons_self) fb0L1) gq116 gq69 (by decide +kernel) (by decide +kernel) (by decide +kernel) (by decide +kernel) (by decide +kernel)) gq203 gq205 (by decide +kernel) (by decide +kernel) (by decide +kernel) (by decide +kernel) (by decide +kernel)) (by decide +kernel) (by decide +kernel)) (by decide) (by decide) (by decide) (by decide +kernel) (by decide +kernel)) (by decide) (by decide)
theorem fb0N2 {xs : Nat → Int32} {n : Nat} {sf : Option Nat} : wGoes x_KT x_tb x_tyl (x_otS xs n sf) lwFR lwGA.length lwGB.length 29 35 45 fb0WA fb0WB 116 203 63 63 fb0_T fb0o2 :=
  wDp (wWk (wEd_spec (x_ov0_le sf) u_ctS lwFRok fb0E2) (Nat.le_refl _) (Nat.le_refl _) (Nat.le_refl _) (by decide +kernel) (by decide +kernel)) (by decide) (by decide)
theorem fb0N3 {xs : Nat → Int32} {n : Nat} {sf : Option Nat} : wGoes x_KT x_tb x_tyl (x_otS xs n sf) lwFR lwGA.length lwGB.length 29 35 45 fb0WA fb0WB 116 203 63 63 fb0_c0RR fb0o3 :=
  wDp (wWk (wEqvB (wCallB (recv := 0) (pc := 212) (ix := 311) (nx := 3) (args := [.inl (lSy 6), .inl (lSy 5), .inl (lK 0)]) (rest := []) (LE := [(0, .inr (some 0)), (1, .inl (lSy 6)), (2, .inl (lSy 5)), (3, .inl (lK 0)), (4, .inl (lSy 31)), (5, .inl (lK 0))]) (cE := (lK 0)) (sE := (lK 0)) (wCallA (recv := 4) (pc := 17) (ix := 70) (nx := 3) (args := []) (rest := []) (LE := [(0, .inr (some 4)), (1, .inl (lSy 33))]) (cE := (lK 0)) (sE := (lK 0)) (wReL (XA := fb0X3.2.1) (XB := fb0X3.2.2.1) (XC := fb0X3.2.2.2.1) (rk := fb0X3.2.2.2.2) (rA := fb0QA3) (rB := fb0QB3) (sp0_g0_G _ List.mem_cons_self) fb0L3) gq116 gq69 (by decide +kernel) (by decide +kernel) (by decide +kernel) (by decide +kernel) (by decide +kernel)) gq203 gq205 (by decide +kernel) (by decide +kernel) (by decide +kernel) (by decide +kernel) (by decide +kernel)) (by decide +kernel) (by decide +kernel)) (by decide) (by decide) (by decide) (by decide +kernel) (by decide +kernel)) (by decide) (by decide)
theorem fb0N4 {xs : Nat → Int32} {n : Nat} {sf : Option Nat} : wGoes x_KT x_tb x_tyl (x_otS xs n sf) lwFR lwGA.length lwGB.length 29 35 45 fb0WA fb0WB 116 203 63 63 fb0_RR fb0o4 :=
  wDp (wWk (wEd_spec (x_ov0_le sf) u_ctS lwFRok fb0E4) (Nat.le_refl _) (Nat.le_refl _) (Nat.le_refl _) (by decide +kernel) (by decide +kernel)) (by decide) (by decide)
theorem fb0N5 {xs : Nat → Int32} {n : Nat} {sf : Option Nat} : wGoes x_KT x_tb x_tyl (x_otS xs n sf) lwFR lwGA.length lwGB.length 29 35 45 fb0WA fb0WB 116 203 63 63 fb0_c0RO fb0o5 :=
  wDp (wWk (wEqvB (wCallB (recv := 0) (pc := 212) (ix := 311) (nx := 3) (args := [.inl (lSy 6), .inl (lSy 5), .inl (lK 0)]) (rest := []) (LE := [(0, .inr (some 0)), (1, .inl (lSy 6)), (2, .inl (lSy 5)), (3, .inl (lK 0)), (4, .inl (lSy 31)), (5, .inl (lK 0))]) (cE := (lK 0)) (sE := (lK 0)) (wCallA (recv := 4) (pc := 17) (ix := 70) (nx := 3) (args := []) (rest := []) (LE := [(0, .inr (some 4)), (1, .inl (lSy 33))]) (cE := (lK 0)) (sE := (lK 0)) (wReL (XA := fb0X5.2.1) (XB := fb0X5.2.2.1) (XC := fb0X5.2.2.2.1) (rk := fb0X5.2.2.2.2) (rA := fb0QA5) (rB := fb0QB5) (sp0_g0_G _ List.mem_cons_self) fb0L5) gq116 gq69 (by decide +kernel) (by decide +kernel) (by decide +kernel) (by decide +kernel) (by decide +kernel)) gq203 gq205 (by decide +kernel) (by decide +kernel) (by decide +kernel) (by decide +kernel) (by decide +kernel)) (by decide +kernel) (by decide +kernel)) (by decide) (by decide) (by decide) (by decide +kernel) (by decide +kernel)) (by decide) (by decide)
theorem fb0N6 {xs : Nat → Int32} {n : Nat} {sf : Option Nat} : wGoes x_KT x_tb x_tyl (x_otS xs n sf) lwFR lwGA.length lwGB.length 29 35 45 fb0WA fb0WB 116 203 63 63 fb0_RO fb0o6 :=
  wDp (wWk (wEd_spec (x_ov0_le sf) u_ctS lwFRok fb0E6) (Nat.le_refl _) (Nat.le_refl _) (Nat.le_refl _) (by decide +kernel) (by decide +kernel)) (by decide) (by decide)
def sb0_g0_nd : List wE := [sb0_in, sb0_op0, sb0_op1, sb0_op2, sb0_op3, sb0_op4, sb0_op5, sb0_op6, sb0_op7, sb0_op8, sb0_op9, sb0_op10, sb0_op11]
theorem sb0_g0_G {xs : Nat → Int32} {n : Nat} {sf : Option Nat} : ∀ nd ∈ sb0_g0_nd, wGoes x_KT x_tb x_tyl (x_otS xs n sf) lwFR lwGA.length lwGB.length 43 35 45 sb0WA sb0WB 113 205 60 60 nd (sb0_g0_ex.map (fun x => (false, x))) := wGraph (fun nd hnd => by
  have hnd : nd ∈ ([sb0_in, sb0_op0, sb0_op1, sb0_op2, sb0_op3, sb0_op4, sb0_op5, sb0_op6, sb0_op7, sb0_op8, sb0_op9, sb0_op10, sb0_op11] : List wE) := hnd
  simp only [List.mem_cons, List.not_mem_nil, or_false] at hnd
  rcases hnd with rfl | rfl | rfl | rfl | rfl | rfl | rfl | rfl | rfl | rfl | rfl | rfl | rfl
  · refine ⟨sb0o0, sb0N0, fun o ho => ?_⟩
    have ho : o ∈ ([(true, sb0_op0), (true, sb0_op1), (true, sb0_op2), (true, sb0_op3), (true, sb0_op4), (true, sb0_op5), (true, sb0_op6), (true, sb0_op7), (true, sb0_op8), (true, sb0_op9), (true, sb0_op10), (true, sb0_op11)] : List (Bool × wE)) := ho
    simp only [List.mem_cons, List.not_mem_nil, or_false] at ho
    rcases ho with rfl | rfl | rfl | rfl | rfl | rfl | rfl | rfl | rfl | rfl | rfl | rfl
    · exact Or.inr ⟨rfl, List.mem_cons_of_mem _ (List.mem_cons_self)⟩
    · exact Or.inr ⟨rfl, List.mem_cons_of_mem _ (List.mem_cons_of_mem _ (List.mem_cons_self))⟩
    · exact Or.inr ⟨rfl, List.mem_cons_of_mem _ (List.mem_cons_of_mem _ (List.mem_cons_of_mem _ (List.mem_cons_self)))⟩
    · exact Or.inr ⟨rfl, List.mem_cons_of_mem _ (List.mem_cons_of_mem _ (List.mem_cons_of_mem _ (List.mem_cons_of_mem _ (List.mem_cons_self))))⟩
    · exact Or.inr ⟨rfl, List.mem_cons_of_mem _ (List.mem_cons_of_mem _ (List.mem_cons_of_mem _ (List.mem_cons_of_mem _ (List.mem_cons_of_mem _ (List.mem_cons_self)))))⟩
    · exact Or.inr ⟨rfl, List.mem_cons_of_mem _ (List.mem_cons_of_mem _ (List.mem_cons_of_mem _ (List.mem_cons_of_mem _ (List.mem_cons_of_mem _ (List.mem_cons_of_mem _ (List.mem_cons_self))))))⟩
    · exact Or.inr ⟨rfl, List.mem_cons_of_mem _ (List.mem_cons_of_mem _ (List.mem_cons_of_mem _ (List.mem_cons_of_mem _ (List.mem_cons_of_mem _ (List.mem_cons_of_mem _ (List.mem_cons_of_mem _ (List.mem_cons_self)))))))⟩
    · exact Or.inr ⟨rfl, List.mem_cons_of_mem _ (List.mem_cons_of_mem _ (List.mem_cons_of_mem _ (List.mem_cons_of_mem _ (List.mem_cons_of_mem _ (List.mem_cons_of_mem _ (List.mem_cons_of_mem _ (List.mem_cons_of_mem _ (List.mem_cons_self))))))))⟩
    · exact Or.inr ⟨rfl, List.mem_cons_of_mem _ (List.mem_cons_of_mem _ (List.mem_cons_of_mem _ (List.mem_cons_of_mem _ (List.mem_cons_of_mem _ (List.mem_cons_of_mem _ (List.mem_cons_of_mem _ (List.mem_cons_of_mem _ (List.mem_cons_of_mem _ (List.mem_cons_self)))))))))⟩
    · exact Or.inr ⟨rfl, List.mem_cons_of_mem _ (List.mem_cons_of_mem _ (List.mem_cons_of_mem _ (List.mem_cons_of_mem _ (List.mem_cons_of_mem _ (List.mem_cons_of_mem _ (List.mem_cons_of_mem _ (List.mem_cons_of_mem _ (List.mem_cons_of_mem _ (List.mem_cons_of_mem _ (List.mem_cons_self))))))))))⟩
    · exact Or.inr ⟨rfl, List.mem_cons_of_mem _ (List.mem_cons_of_mem _ (List.mem_cons_of_mem _ (List.mem_cons_of_mem _ (List.mem_cons_of_mem _ (List.mem_cons_of_mem _ (List.mem_cons_of_mem _ (List.mem_cons_of_mem _ (List.mem_cons_of_mem _ (List.mem_cons_of_mem _ (List.mem_cons_of_mem _ (List.mem_cons_self)))))))))))⟩
    · exact Or.inr ⟨rfl, List.mem_cons_of_mem _ (List.mem_cons_of_mem _ (List.mem_cons_of_mem _ (List.mem_cons_of_mem _ (List.mem_cons_of_mem _ (List.mem_cons_of_mem _ (List.mem_cons_of_mem _ (List.mem_cons_of_mem _ (List.mem_cons_of_mem _ (List.mem_cons_of_mem _ (List.mem_cons_of_mem _ (List.mem_cons_of_mem _ (List.mem_cons_self))))))))))))⟩
  · refine ⟨sb0o1, sb0N1, fun o ho => ?_⟩
    have ho : o ∈ ([(false, sb0_R), (false, sb0_O)] : List (Bool × wE)) := ho
    simp only [List.mem_cons, List.not_mem_nil, or_false] at ho
    rcases ho with rfl | rfl
    · exact Or.inl (List.mem_cons_self)
    · exact Or.inl (List.mem_cons_of_mem _ (List.mem_cons_self))
  · refine ⟨sb0o2, sb0N2, fun o ho => ?_⟩
    have ho : o ∈ ([(false, sb0_R), (false, sb0_O)] : List (Bool × wE)) := ho
    simp only [List.mem_cons, List.not_mem_nil, or_false] at ho
    rcases ho with rfl | rfl
    · exact Or.inl (List.mem_cons_self)
    · exact Or.inl (List.mem_cons_of_mem _ (List.mem_cons_self))
  · refine ⟨sb0o3, sb0N3, fun o ho => ?_⟩
    have ho : o ∈ ([(false, sb0_R), (false, sb0_O)] : List (Bool × wE)) := ho
    simp only [List.mem_cons, List.not_mem_nil, or_false] at ho
    rcases ho with rfl | rfl
    · exact Or.inl (List.mem_cons_self)
    · exact Or.inl (List.mem_cons_of_mem _ (List.mem_cons_self))
  · refine ⟨sb0o4, sb0N4, fun o ho => ?_⟩
    have ho : o ∈ ([(false, sb0_R), (false, sb0_O)] : List (Bool × wE)) := ho
    simp only [List.mem_cons, List.not_mem_nil, or_false] at ho
    rcases ho with rfl | rfl
    · exact Or.inl (List.mem_cons_self)
    · exact Or.inl (List.mem_cons_of_mem _ (List.mem_cons_self))
  · refine ⟨sb0o5, sb0N5, fun o ho => ?_⟩
    have ho : o ∈ ([(false, sb0_R), (false, sb0_O)] : List (Bool × wE)) := ho
    simp only [List.mem_cons, List.not_mem_nil, or_false] at ho
    rcases ho with rfl | rfl
    · exact Or.inl (List.mem_cons_self)
    · exact Or.inl (List.mem_cons_of_mem _ (List.mem_cons_self))
  · refine ⟨sb0o6, sb0N6, fun o ho => ?_⟩
    have ho : o ∈ ([(false, sb0_R), (false, sb0_O)] : List (Bool × wE)) := ho
    simp only [List.mem_cons, List.not_mem_nil, or_false] at ho
    rcases ho with rfl | rfl
    · exact Or.inl (List.mem_cons_self)
    · exact Or.inl (List.mem_cons_of_mem _ (List.mem_cons_self))
  · refine ⟨sb0o7, sb0N7, fun o ho => ?_⟩
    have ho : o ∈ ([(false, sb0_R), (false, sb0_O)] : List (Bool × wE)) := ho
    simp only [List.mem_cons, List.not_mem_nil, or_false] at ho
    rcases ho with rfl | rfl
    · exact Or.inl (List.mem_cons_self)
    · exact Or.inl (List.mem_cons_of_mem _ (List.mem_cons_self))
  · refine ⟨sb0o8, sb0N8, fun o ho => ?_⟩
    have ho : o ∈ ([(false, sb0_R), (false, sb0_O)] : List (Bool × wE)) := ho
    simp only [List.mem_cons, List.not_mem_nil, or_false] at ho
    rcases ho with rfl | rfl
    · exact Or.inl (List.mem_cons_self)
    · exact Or.inl (List.mem_cons_of_mem _ (List.mem_cons_self))
  · refine ⟨sb0o9, sb0N9, fun o ho => ?_⟩
    have ho : o ∈ ([(false, sb0_R), (false, sb0_O)] : List (Bool × wE)) := ho
    simp only [List.mem_cons, List.not_mem_nil, or_false] at ho
    rcases ho with rfl | rfl
    · exact Or.inl (List.mem_cons_self)
    · exact Or.inl (List.mem_cons_of_mem _ (List.mem_cons_self))
  · refine ⟨sb0o10, sb0N10, fun o ho => ?_⟩
    have ho : o ∈ ([(false, sb0_R), (false, sb0_O)] : List (Bool × wE)) := ho
    simp only [List.mem_cons, List.not_mem_nil, or_false] at ho
    rcases ho with rfl | rfl
    · exact Or.inl (List.mem_cons_self)
    · exact Or.inl (List.mem_cons_of_mem _ (List.mem_cons_self))
  · refine ⟨sb0o11, sb0N11, fun o ho => ?_⟩
    have ho : o ∈ ([(false, sb0_R), (false, sb0_O)] : List (Bool × wE)) := ho
    simp only [List.mem_cons, List.not_mem_nil, or_false] at ho
    rcases ho with rfl | rfl
    · exact Or.inl (List.mem_cons_self)
    · exact Or.inl (List.mem_cons_of_mem _ (List.mem_cons_self))
  · refine ⟨sb0o12, sb0N12, fun o ho => ?_⟩
    have ho : o ∈ ([(false, sb0_R), (false, sb0_O)] : List (Bool × wE)) := ho
    simp only [List.mem_cons, List.not_mem_nil, or_false] at ho
    rcases ho with rfl | rfl
    · exact Or.inl (List.mem_cons_self)
    · exact Or.inl (List.mem_cons_of_mem _ (List.mem_cons_self)))
theorem fb0N7 {xs : Nat → Int32} {n : Nat} {sf : Option Nat} : wGoes x_KT x_tb x_tyl (x_otS xs n sf) lwFR lwGA.length lwGB.length 29 35 45 fb0WA fb0WB 116 203 63 63 fb0_c1TR fb0o7 :=
  wDp (wWk (wEqvB (wCallB (recv := 0) (pc := 80) (ix := 311) (nx := 3) (args := [.inl (lSy 6), .inl (lSy 5), .inl (lK 1)]) (rest := []) (LE := [(0, .inr (some 0)), (1, .inl (lSy 6)), (2, .inl (lSy 5)), (3, .inl (lK 1)), (4, .inl (lSy 40)), (5, .inl (lSy 41))]) (cE := (lK 0)) (sE := (lK 0)) (wLiftA (dpA := 60) (pc := 20) (pcP := 22) (nx := 1) (LE := [(0, .inr (some 4)), (1, .inl (lAdd (lSy 33) (lK (-1))))]) (SE := []) (cE := (lK 0)) (sE := (lK 0)) (wReL (XA := fb0X7.2.1) (XB := fb0X7.2.2.1) (XC := fb0X7.2.2.2.1) (rk := fb0X7.2.2.2.2) (rA := fb0QA7) (rB := fb0QB7) (sb0_g0_G _ List.mem_cons_self) fb0L7) gq116 gq113 (by decide +kernel) (by decide +kernel) (by decide +kernel) (by decide +kernel)) gq203 gq205 (by decide +kernel) (by decide +kernel) (by decide +kernel) (by decide +kernel) (by decide +kernel)) (by decide +kernel) (by decide +kernel)) (by decide) (by decide) (by decide) (by decide +kernel) (by decide +kernel)) (by decide) (by decide)
theorem fb0N8 {xs : Nat → Int32} {n : Nat} {sf : Option Nat} : wGoes x_KT x_tb x_tyl (x_otS xs n sf) lwFR lwGA.length lwGB.length 29 35 45 fb0WA fb0WB 116 203 63 63 fb0_c1TO fb0o8 :=
  wDp (wWk (wEqvB (wCallB (recv := 0) (pc := 80) (ix := 311) (nx := 3) (args := [.inl (lSy 6), .inl (lSy 5), .inl (lK 1)]) (rest := []) (LE := [(0, .inr (some 0)), (1, .inl (lSy 6)), (2, .inl (lSy 5)), (3, .inl (lK 1)), (4, .inl (lSy 40)), (5, .inl (lSy 41))]) (cE := (lK 0)) (sE := (lK 0)) (wLiftA (dpA := 60) (pc := 20) (pcP := 22) (nx := 1) (LE := [(0, .inr (some 4)), (1, .inl (lAdd (lSy 33) (lK (-1))))]) (SE := []) (cE := (lK 0)) (sE := (lK 0)) (wReL (XA := fb0X8.2.1) (XB := fb0X8.2.2.1) (XC := fb0X8.2.2.2.1) (rk := fb0X8.2.2.2.2) (rA := fb0QA8) (rB := fb0QB8) (sb0_g0_G _ List.mem_cons_self) fb0L8) gq116 gq113 (by decide +kernel) (by decide +kernel) (by decide +kernel) (by decide +kernel)) gq203 gq205 (by decide +kernel) (by decide +kernel) (by decide +kernel) (by decide +kernel) (by decide +kernel)) (by decide +kernel) (by decide +kernel)) (by decide) (by decide) (by decide) (by decide +kernel) (by decide +kernel)) (by decide) (by decide)
theorem fb0N9 {xs : Nat → Int32} {n : Nat} {sf : Option Nat} : wGoes x_KT x_tb x_tyl (x_otS xs n sf) lwFR lwGA.length lwGB.length 29 35 45 fb0WA fb0WB 116 203 63 63 fb0_c1RR fb0o9 :=
  wDp (wWk (wEqvB (wCallB (recv := 0) (pc := 212) (ix := 311) (nx := 3) (args := [.inl (lSy 6), .inl (lSy 5), .inl (lK 1)]) (rest := []) (LE := [(0, .inr (some 0)), (1, .inl (lSy 6)), (2, .inl (lSy 5)), (3, .inl (lK 0)), (5, .inl (lK 1))]) (cE := (lK 0)) (sE := (lK 0)) (wLiftA (dpA := 60) (pc := 20) (pcP := 22) (nx := 1) (LE := [(0, .inr (some 4)), (1, .inl (lAdd (lSy 33) (lK (-1))))]) (SE := []) (cE := (lK 0)) (sE := (lK 0)) (wReL (XA := fb0X9.2.1) (XB := fb0X9.2.2.1) (XC := fb0X9.2.2.2.1) (rk := fb0X9.2.2.2.2) (rA := fb0QA9) (rB := fb0QB9) (sb0_g0_G _ List.mem_cons_self) fb0L9) gq116 gq113 (by decide +kernel) (by decide +kernel) (by decide +kernel) (by decide +kernel)) gq203 gq205 (by decide +kernel) (by decide +kernel) (by decide +kernel) (by decide +kernel) (by decide +kernel)) (by decide +kernel) (by decide +kernel)) (by decide) (by decide) (by decide) (by decide +kernel) (by decide +kernel)) (by decide) (by decide)
end XRuG5
