/-! Runs: graphs, blocks, 5. -/
noncomputable section XRuG5
theorem rrN0 {xs : Nat → Int32} {n : Nat} {sf : Option Nat} : wGoes x_KT x_tb x_tyl (x_otS xs n sf) lwFR lwGA.length lwGB.length 11 26 43 rrWA rrWB 64 202 63 64 rr_cb rro0 :=
  wDp (wWk (wEqvB (wCallB (recv := 0) (pc := 3) (ix := 315) (nx := 3) (args := [.inl (lSy 6), .inl (lSy 5)]) (rest := []) (LE := [(0, .inr (some 0)), (1, .inl (lSy 6)), (2, .inl (lSy 5))]) (cE := (lK 0)) (sE := (lK 0)) (wReL (XA := rrX0.2.1) (XB := rrX0.2.2.1) (XC := rrX0.2.2.2.1) (rk := rrX0.2.2.2.2) (rA := rrQA0) (rB := rrQB0) (mr_g0_G _ List.mem_cons_self) rrL0) gq202 gq203 (by decide +kernel) (by decide +kernel) (by decide +kernel) (by decide +kernel) (by decide +kernel)) (by decide +kernel) (by decide +kernel)) (by decide) (by decide) (by decide) (by decide +kernel) (by decide +kernel)) (by decide) (by decide)
theorem rrN1 {xs : Nat → Int32} {n : Nat} {sf : Option Nat} : wGoes x_KT x_tb x_tyl (x_otS xs n sf) lwFR lwGA.length lwGB.length 11 26 43 rrWA rrWB 64 202 63 64 rr_in rro1 :=
  wDp (wWk (wEd_spec (x_ov0_le sf) u_ctS lwFRok rrE1) (Nat.le_refl _) (Nat.le_refl _) (Nat.le_refl _) (by decide +kernel) (by decide +kernel)) (by decide) (by decide)
def lk_g0_nd : List wE := [lk_in, lk_lp]
theorem lk_g0_G {xs : Nat → Int32} {n : Nat} {sf : Option Nat} : ∀ nd ∈ lk_g0_nd, wGoes x_KT x_tb x_tyl (x_otS xs n sf) lwFR lwGA.length lwGB.length 18 30 45 lkWA lkWB 83 211 60 60 nd (lk_g0_ex.map (fun x => (false, x))) := wGraph (fun nd hnd => by
  have hnd : nd ∈ ([lk_in, lk_lp] : List wE) := hnd
  simp only [List.mem_cons, List.not_mem_nil, or_false] at hnd
  rcases hnd with rfl | rfl
  · refine ⟨lko0, lkN0, fun o ho => ?_⟩
    have ho : o ∈ ([(true, lk_lp), (false, lk_e0), (false, lk_e1)] : List (Bool × wE)) := ho
    simp only [List.mem_cons, List.not_mem_nil, or_false] at ho
    rcases ho with rfl | rfl | rfl
    · exact Or.inr ⟨rfl, List.mem_cons_of_mem _ (List.mem_cons_self)⟩
    · exact Or.inl (List.mem_cons_self)
    · exact Or.inl (List.mem_cons_of_mem _ (List.mem_cons_self))
  · refine ⟨lko1, lkN1, fun o ho => ?_⟩
    have ho : o ∈ ([(true, lk_lp), (false, lk_e0), (false, lk_e1)] : List (Bool × wE)) := ho
    simp only [List.mem_cons, List.not_mem_nil, or_false] at ho
    rcases ho with rfl | rfl | rfl
    · exact Or.inr ⟨rfl, List.mem_cons_of_mem _ (List.mem_cons_self)⟩
    · exact Or.inl (List.mem_cons_self)
    · exact Or.inl (List.mem_cons_of_mem _ (List.mem_cons_self)))
theorem rrN2 {xs : Nat → Int32} {n : Nat} {sf : Option Nat} : wGoes x_KT x_tb x_tyl (x_otS xs n sf) lwFR lwGA.length lwGB.length 11 26 43 rrWA rrWB 64 202 63 64 rr_cl rro2 :=
  wDp (wWk (wEqvB (wCallBs (pc := 107) (ix := 319) (nx := 3) (so := 2) (args := [.inr (some 43), .inl (lSy 16), .inr (some 44), .inl (lSy 17)]) (rest := []) (LE := [(0, .inr (some 0)), (1, .inl (lSy 6)), (2, .inl (lSy 5))]) (cE := (lK 0)) (sE := (lK 0)) (wCallA (recv := 26) (pc := 212) (ix := 324) (nx := 3) (args := [.inr (some 28)]) (rest := [.inr (some 25)]) (LE := [(0, .inr (some 0)), (1, .inr (some 25)), (2, .inl (lSy 5))]) (cE := (lK 0)) (sE := (lK 0)) (wReL (XA := rrX2.2.1) (XB := rrX2.2.2.1) (XC := rrX2.2.2.2.1) (rk := rrX2.2.2.2.2) (rA := rrQA2) (rB := rrQB2) (lk_g0_G _ List.mem_cons_self) rrL2) gq64 gq83 (by decide +kernel) (by decide +kernel) (by decide +kernel) (by decide +kernel) (by decide +kernel)) gq202 gq211 (by decide +kernel) (by decide +kernel) (by decide +kernel) (by decide +kernel) (by decide +kernel)) (by decide +kernel) (by decide +kernel)) (by decide) (by decide) (by decide) (by decide +kernel) (by decide +kernel)) (by decide) (by decide)
theorem rrN3 {xs : Nat → Int32} {n : Nat} {sf : Option Nat} : wGoes x_KT x_tb x_tyl (x_otS xs n sf) lwFR lwGA.length lwGB.length 11 26 43 rrWA rrWB 64 202 63 64 rr_cb_X rro3 :=
  wDp (wWk (wFamE2 (V := [5, 9, 6, 10, 7, 8, 20]) (x_ov0_le sf) u_ctS lwFRok rrE3 (by decide) (by decide) (fun i hi u hu => by
      have hi : i ∈ ([5, 9, 6, 10, 7, 8, 20] : List Nat) := hi
      simp only [List.mem_cons, List.not_mem_nil, or_false] at hi
      rcases hi with rfl | rfl | rfl | rfl | rfl | rfl | rfl
      · exact gRk_spec (x_ov0_le sf) u_ctS lwFRok rrE3 (by decide) (by decide) rrE3G0 (by decide +kernel) _ (List.mem_cons_self) u hu
      · exact gRk_spec (x_ov0_le sf) u_ctS lwFRok rrE3 (by decide) (by decide) rrE3G0 (by decide +kernel) _ (List.mem_cons_of_mem _ (List.mem_cons_self)) u hu
      · exact gRk_spec (x_ov0_le sf) u_ctS lwFRok rrE3 (by decide) (by decide) rrE3G0 (by decide +kernel) _ (List.mem_cons_of_mem _ (List.mem_cons_of_mem _ (List.mem_cons_self))) u hu
      · exact gRk_spec (x_ov0_le sf) u_ctS lwFRok rrE3 (by decide) (by decide) rrE3G0 (by decide +kernel) _ (List.mem_cons_of_mem _ (List.mem_cons_of_mem _ (List.mem_cons_of_mem _ (List.mem_cons_self)))) u hu
      · exact gRk_spec (x_ov0_le sf) u_ctS lwFRok rrE3 (by decide) (by decide) rrE3G0 (by decide +kernel) _ (List.mem_cons_of_mem _ (List.mem_cons_of_mem _ (List.mem_cons_of_mem _ (List.mem_cons_of_mem _ (List.mem_cons_self))))) u hu
      · exact gRk_spec (x_ov0_le sf) u_ctS lwFRok rrE3 (by decide) (by decide) rrE3G0 (by decide +kernel) _ (List.mem_cons_of_mem _ (List.mem_cons_of_mem _ (List.mem_cons_of_mem _ (List.mem_cons_of_mem _ (List.mem_cons_of_mem _ (List.mem_cons_self)))))) u hu
      · cases hu
        exact wRkE_spec (x_ov0_le sf) u_ctS lwFRok rrE3R20)) (Nat.le_refl _) (Nat.le_refl _) (Nat.le_refl _) (by decide +kernel) (by decide +kernel)) (by decide) (by decide)
theorem rrN4 {xs : Nat → Int32} {n : Nat} {sf : Option Nat} : wGoes x_KT x_tb x_tyl (x_otS xs n sf) lwFR lwGA.length lwGB.length 11 26 43 rrWA rrWB 64 202 63 64 rr_cl_e0 rro4 :=
  wDp (wWk (wEd_spec (x_ov0_le sf) u_ctS lwFRok rrE4) (Nat.le_refl _) (Nat.le_refl _) (Nat.le_refl _) (by decide +kernel) (by decide +kernel)) (by decide) (by decide)
theorem rrN5 {xs : Nat → Int32} {n : Nat} {sf : Option Nat} : wGoes x_KT x_tb x_tyl (x_otS xs n sf) lwFR lwGA.length lwGB.length 11 26 43 rrWA rrWB 64 202 63 64 rr_cl_e1 rro5 :=
  wDp (wWk (wEd_spec (x_ov0_le sf) u_ctS lwFRok rrE5) (Nat.le_refl _) (Nat.le_refl _) (Nat.le_refl _) (by decide +kernel) (by decide +kernel)) (by decide) (by decide)
set_option maxRecDepth 1000000 in
theorem gq62 : tMth x_tb 62 = some xm62 := rfl
set_option maxRecDepth 1000000 in
theorem gq200 : tMth x_tb 200 = some xm200 := rfl
def rr_g0_nd : List wE := [rr_in, rr_cb, rr_cb_X, rr_cl, rr_cl_e0, rr_cl_e1]
theorem rr_g0_G {xs : Nat → Int32} {n : Nat} {sf : Option Nat} : ∀ nd ∈ rr_g0_nd, wGoes x_KT x_tb x_tyl (x_otS xs n sf) lwFR lwGA.length lwGB.length 11 26 43 rrWA rrWB 64 202 63 64 nd (rr_g0_ex.map (fun x => (false, x))) := wGraph (fun nd hnd => by
  have hnd : nd ∈ ([rr_in, rr_cb, rr_cb_X, rr_cl, rr_cl_e0, rr_cl_e1] : List wE) := hnd
  simp only [List.mem_cons, List.not_mem_nil, or_false] at hnd
  rcases hnd with rfl | rfl | rfl | rfl | rfl | rfl
  · refine ⟨rro1, rrN1, fun o ho => ?_⟩
    have ho : o ∈ ([(true, rr_cb)] : List (Bool × wE)) := ho
    simp only [List.mem_cons, List.not_mem_nil, or_false] at ho
    rcases ho with rfl
    · exact Or.inr ⟨rfl, List.mem_cons_of_mem _ (List.mem_cons_self)⟩
  · refine ⟨rro0, rrN0, fun o ho => ?_⟩
    have ho : o ∈ ([(true, rr_cb_X)] : List (Bool × wE)) := ho
    simp only [List.mem_cons, List.not_mem_nil, or_false] at ho
    rcases ho with rfl
    · exact Or.inr ⟨rfl, List.mem_cons_of_mem _ (List.mem_cons_of_mem _ (List.mem_cons_self))⟩
  · refine ⟨rro3, rrN3, fun o ho => ?_⟩
    have ho : o ∈ ([(true, rr_cl), (false, rr_x1)] : List (Bool × wE)) := ho
    simp only [List.mem_cons, List.not_mem_nil, or_false] at ho
    rcases ho with rfl | rfl
    · exact Or.inr ⟨rfl, List.mem_cons_of_mem _ (List.mem_cons_of_mem _ (List.mem_cons_of_mem _ (List.mem_cons_self)))⟩
    · exact Or.inl (List.mem_cons_of_mem _ (List.mem_cons_self))
  · refine ⟨rro2, rrN2, fun o ho => ?_⟩
    have ho : o ∈ ([(true, rr_cl_e0), (true, rr_cl_e1)] : List (Bool × wE)) := ho
    simp only [List.mem_cons, List.not_mem_nil, or_false] at ho
    rcases ho with rfl | rfl
    · exact Or.inr ⟨rfl, List.mem_cons_of_mem _ (List.mem_cons_of_mem _ (List.mem_cons_of_mem _ (List.mem_cons_of_mem _ (List.mem_cons_self))))⟩
    · exact Or.inr ⟨rfl, List.mem_cons_of_mem _ (List.mem_cons_of_mem _ (List.mem_cons_of_mem _ (List.mem_cons_of_mem _ (List.mem_cons_of_mem _ (List.mem_cons_self)))))⟩
  · refine ⟨rro4, rrN4, fun o ho => ?_⟩
    have ho : o ∈ ([(false, rr_x1)] : List (Bool × wE)) := ho
    simp only [List.mem_cons, List.not_mem_nil, or_false] at ho
    rcases ho with rfl
    · exact Or.inl (List.mem_cons_of_mem _ (List.mem_cons_self))
  · refine ⟨rro5, rrN5, fun o ho => ?_⟩
    have ho : o ∈ ([(false, rr_x0)] : List (Bool × wE)) := ho
    simp only [List.mem_cons, List.not_mem_nil, or_false] at ho
    rcases ho with rfl
    · exact Or.inl (List.mem_cons_self))
theorem runN0 {xs : Nat → Int32} {n : Nat} {sf : Option Nat} : wGoes x_KT x_tb x_tyl (x_otS xs n sf) lwFR lwGA.length lwGB.length 5 25 43 runWA runWB 62 200 64 65 run_cl runo0 :=
  wDp (wWk (wEqvB (wCallB (recv := 0) (pc := 25) (ix := 329) (nx := 3) (args := [.inl (lSy 6), .inl (lSy 5)]) (rest := [.inl (lSy 6), .inr (some 0)]) (LE := [(0, .inr (some 0)), (1, .inl (lSy 6)), (2, .inl (lSy 5))]) (cE := (lK 0)) (sE := (lK 0)) (wCallA (recv := 0) (pc := 25) (ix := 215) (nx := 3) (args := [.inr (some 25), .inl (lSy 5)]) (rest := []) (LE := [(0, .inr (some 0)), (1, .inl (lSy 6)), (2, .inl (lSy 5)), (3, .inr (some 25))]) (cE := (lK 0)) (sE := (lK 0)) (wReL (XA := runX0.2.1) (XB := runX0.2.2.1) (XC := runX0.2.2.2.1) (rk := runX0.2.2.2.2) (rA := runQA0) (rB := runQB0) (rr_g0_G _ List.mem_cons_self) runL0) gq62 gq64 (by decide +kernel) (by decide +kernel) (by decide +kernel) (by decide +kernel) (by decide +kernel)) gq200 gq202 (by decide +kernel) (by decide +kernel) (by decide +kernel) (by decide +kernel) (by decide +kernel)) (by decide +kernel) (by decide +kernel)) (by decide) (by decide) (by decide) (by decide +kernel) (by decide +kernel)) (by decide) (by decide)
theorem runN1 {xs : Nat → Int32} {n : Nat} {sf : Option Nat} : wGoes x_KT x_tb x_tyl (x_otS xs n sf) lwFR lwGA.length lwGB.length 5 25 43 runWA runWB 62 200 64 65 run_in runo1 :=
  wDp (wWk (wEd_spec (x_ov0_le sf) u_ctS lwFRok runE1) (Nat.le_refl _) (Nat.le_refl _) (Nat.le_refl _) (by decide +kernel) (by decide +kernel)) (by decide) (by decide)
theorem runN2 {xs : Nat → Int32} {n : Nat} {sf : Option Nat} : wGoes x_KT x_tb x_tyl (x_otS xs n sf) lwFR lwGA.length lwGB.length 5 25 43 runWA runWB 62 200 64 65 run_cl_x0 runo2 :=
  wDp (wWk (wEd_spec (x_ov0_le sf) u_ctS lwFRok runE2) (Nat.le_refl _) (Nat.le_refl _) (Nat.le_refl _) (by decide +kernel) (by decide +kernel)) (by decide) (by decide)
theorem runN3 {xs : Nat → Int32} {n : Nat} {sf : Option Nat} : wGoes x_KT x_tb x_tyl (x_otS xs n sf) lwFR lwGA.length lwGB.length 5 25 43 runWA runWB 62 200 64 65 run_cl_x1 runo3 :=
  wDp (wWk (wEd_spec (x_ov0_le sf) u_ctS lwFRok runE3) (Nat.le_refl _) (Nat.le_refl _) (Nat.le_refl _) (by decide +kernel) (by decide +kernel)) (by decide) (by decide)
def run_g0_nd : List wE := [run_in, run_cl, run_cl_x0, run_cl_x1]
theorem run_g0_G {xs : Nat → Int32} {n : Nat} {sf : Option Nat} : ∀ nd ∈ run_g0_nd, wGoes x_KT x_tb x_tyl (x_otS xs n sf) lwFR lwGA.length lwGB.length 5 25 43 runWA runWB 62 200 64 65 nd (run_g0_ex.map (fun x => (false, x))) := wGraph (fun nd hnd => by
  have hnd : nd ∈ ([run_in, run_cl, run_cl_x0, run_cl_x1] : List wE) := hnd
  simp only [List.mem_cons, List.not_mem_nil, or_false] at hnd
  rcases hnd with rfl | rfl | rfl | rfl
  · refine ⟨runo1, runN1, fun o ho => ?_⟩
    have ho : o ∈ ([(true, run_cl), (false, run_out)] : List (Bool × wE)) := ho
    simp only [List.mem_cons, List.not_mem_nil, or_false] at ho
    rcases ho with rfl | rfl
    · exact Or.inr ⟨rfl, List.mem_cons_of_mem _ (List.mem_cons_self)⟩
    · exact Or.inl (List.mem_cons_self)
  · refine ⟨runo0, runN0, fun o ho => ?_⟩
    have ho : o ∈ ([(true, run_cl_x0), (true, run_cl_x1)] : List (Bool × wE)) := ho
    simp only [List.mem_cons, List.not_mem_nil, or_false] at ho
    rcases ho with rfl | rfl
    · exact Or.inr ⟨rfl, List.mem_cons_of_mem _ (List.mem_cons_of_mem _ (List.mem_cons_self))⟩
    · exact Or.inr ⟨rfl, List.mem_cons_of_mem _ (List.mem_cons_of_mem _ (List.mem_cons_of_mem _ (List.mem_cons_self)))⟩
  · refine ⟨runo2, runN2, fun o ho => ?_⟩
    have ho : o ∈ ([(false, run_out)] : List (Bool × wE)) := ho
    simp only [List.mem_cons, List.not_mem_nil, or_false] at ho
    rcases ho with rfl
    · exact Or.inl (List.mem_cons_self)
  · refine ⟨runo3, runN3, fun o ho => ?_⟩
    have ho : o ∈ ([(false, run_out)] : List (Bool × wE)) := ho
    simp only [List.mem_cons, List.not_mem_nil, or_false] at ho
    rcases ho with rfl
    · exact Or.inl (List.mem_cons_self))
theorem runH {xs : Nat → Int32} {n : Nat} {sf : Option Nat} : wGoes x_KT x_tb x_tyl (x_otS xs n sf) lwFS lwGA.length lwGB.length 5 25 43 runWA runWB 62 200 64 65 run_in (runOX.map (fun x => x.1)) :=
  wFSr (FS := lwFR) (nh := 33) (wFam (V := []) lwFRok (by decide +kernel) (by decide +kernel) (run_g0_G run_in List.mem_cons_self) (by decide) (by decide) (fun i hi u hu => by
  have hi : i ∈ ([] : List Nat) := hi
  simp only [List.mem_cons, List.not_mem_nil, or_false] at hi)) lwFRp (by decide) (by decide +kernel)
theorem runPP {xs : Nat → Int32} {n : Nat} {sf : Option Nat} : bPP x_KT x_tb x_tyl (x_otS xs n sf) lwN lwP 1299 62 200 2 (mMc xm62 + mMc xm200) (mRc xm62) (mRc xm200) True :=
  wBlk lwFok lwFB uKa uKb (by decide +kernel) (by decide +kernel) uKdj uKj runbc runH gq62 gq200 (by decide) (by decide) (uKeep (by decide +kernel)) (by decide +kernel) (by decide +kernel) (by decide +kernel)
set_option maxRecDepth 1000000 in
theorem gq89 : tMth x_tb 89 = some xm89 := rfl
set_option maxRecDepth 1000000 in
theorem gq220 : tMth x_tb 220 = some xm220 := rfl
theorem nightNN0 {xs : Nat → Int32} {n : Nat} {sf : Option Nat} : wGoes x_KT x_tb x_tyl (x_otS xs n sf) lwFR lwGA.length lwGB.length 6 25 43 nightNWA nightNWB 89 220 64 65 nightN_cl nightNo0 :=
  wDp (wWk (wEqvB (wCallB (recv := 0) (pc := 86) (ix := 329) (nx := 3) (args := [.inl (lSy 6), .inl (lSy 5)]) (rest := []) (LE := [(0, .inr (some 0)), (1, .inl (lSy 5)), (2, .inl (lK 0)), (3, .inl (lK 1)), (4, .inl (lK 1)), (5, .inl (lSy 7)), (6, .inl (lSy 6))]) (cE := (lK 0)) (sE := (lK 0)) (wCallA (recv := 0) (pc := 67) (ix := 215) (nx := 3) (args := [.inr (some 25), .inl (lSy 5)]) (rest := []) (LE := [(0, .inr (some 0)), (1, .inl (lSy 5)), (2, .inl (lSy 7)), (3, .inl (lSy 6)), (4, .inr (some 25))]) (cE := (lK 0)) (sE := (lK 0)) (wReL (XA := nightNX0.2.1) (XB := nightNX0.2.2.1) (XC := nightNX0.2.2.2.1) (rk := nightNX0.2.2.2.2) (rA := nightNQA0) (rB := nightNQB0) (rr_g0_G _ List.mem_cons_self) nightNL0) gq89 gq64 (by decide +kernel) (by decide +kernel) (by decide +kernel) (by decide +kernel) (by decide +kernel)) gq220 gq202 (by decide +kernel) (by decide +kernel) (by decide +kernel) (by decide +kernel) (by decide +kernel)) (by decide +kernel) (by decide +kernel)) (by decide) (by decide) (by decide) (by decide +kernel) (by decide +kernel)) (by decide) (by decide)
theorem nightNN1 {xs : Nat → Int32} {n : Nat} {sf : Option Nat} : wGoes x_KT x_tb x_tyl (x_otS xs n sf) lwFR lwGA.length lwGB.length 6 25 43 nightNWA nightNWB 89 220 64 65 nightN_in nightNo1 :=
  wDp (wWk (wEd_spec (x_ov0_le sf) u_ctS lwFRok nightNE1) (Nat.le_refl _) (Nat.le_refl _) (Nat.le_refl _) (by decide +kernel) (by decide +kernel)) (by decide) (by decide)
theorem nightNN2 {xs : Nat → Int32} {n : Nat} {sf : Option Nat} : wGoes x_KT x_tb x_tyl (x_otS xs n sf) lwFR lwGA.length lwGB.length 6 25 43 nightNWA nightNWB 89 220 64 65 nightN_lp nightNo2 :=
  wDp (wWk (wFamE2 (V := [5, 6, 7, 9, 10, 8, 20]) (x_ov0_le sf) u_ctS lwFRok nightNE2 (by decide) (by decide) (fun i hi u hu => by
      have hi : i ∈ ([5, 6, 7, 9, 10, 8, 20] : List Nat) := hi
      simp only [List.mem_cons, List.not_mem_nil, or_false] at hi
      rcases hi with rfl | rfl | rfl | rfl | rfl | rfl | rfl
      · exact gRk_spec (x_ov0_le sf) u_ctS lwFRok nightNE2 (by decide) (by decide) nightNE2G0 (by decide +kernel) _ (List.mem_cons_self) u hu
      · exact gRk_spec (x_ov0_le sf) u_ctS lwFRok nightNE2 (by decide) (by decide) nightNE2G0 (by decide +kernel) _ (List.mem_cons_of_mem _ (List.mem_cons_self)) u hu
      · exact gRk_spec (x_ov0_le sf) u_ctS lwFRok nightNE2 (by decide) (by decide) nightNE2G0 (by decide +kernel) _ (List.mem_cons_of_mem _ (List.mem_cons_of_mem _ (List.mem_cons_self))) u hu
      · exact gRk_spec (x_ov0_le sf) u_ctS lwFRok nightNE2 (by decide) (by decide) nightNE2G0 (by decide +kernel) _ (List.mem_cons_of_mem _ (List.mem_cons_of_mem _ (List.mem_cons_of_mem _ (List.mem_cons_self)))) u hu
      · exact gRk_spec (x_ov0_le sf) u_ctS lwFRok nightNE2 (by decide) (by decide) nightNE2G0 (by decide +kernel) _ (List.mem_cons_of_mem _ (List.mem_cons_of_mem _ (List.mem_cons_of_mem _ (List.mem_cons_of_mem _ (List.mem_cons_self))))) u hu
      · exact gRk_spec (x_ov0_le sf) u_ctS lwFRok nightNE2 (by decide) (by decide) nightNE2G0 (by decide +kernel) _ (List.mem_cons_of_mem _ (List.mem_cons_of_mem _ (List.mem_cons_of_mem _ (List.mem_cons_of_mem _ (List.mem_cons_of_mem _ (List.mem_cons_self)))))) u hu
      · cases hu
        exact wRkE_spec (x_ov0_le sf) u_ctS lwFRok nightNE2R20)) (Nat.le_refl _) (Nat.le_refl _) (Nat.le_refl _) (by decide +kernel) (by decide +kernel)) (by decide) (by decide)
theorem nightNN3 {xs : Nat → Int32} {n : Nat} {sf : Option Nat} : wGoes x_KT x_tb x_tyl (x_otS xs n sf) lwFR lwGA.length lwGB.length 6 25 43 nightNWA nightNWB 89 220 64 65 nightN_cl_x0 nightNo3 :=
  wDp (wWk (wEd_spec (x_ov0_le sf) u_ctS lwFRok nightNE3) (Nat.le_refl _) (Nat.le_refl _) (Nat.le_refl _) (by decide +kernel) (by decide +kernel)) (by decide) (by decide)
theorem nightNN4 {xs : Nat → Int32} {n : Nat} {sf : Option Nat} : wGoes x_KT x_tb x_tyl (x_otS xs n sf) lwFR lwGA.length lwGB.length 6 25 43 nightNWA nightNWB 89 220 64 65 nightN_cl_x1 nightNo4 :=
  wDp (wWk (wEd_spec (x_ov0_le sf) u_ctS lwFRok nightNE4) (Nat.le_refl _) (Nat.le_refl _) (Nat.le_refl _) (by decide +kernel) (by decide +kernel)) (by decide) (by decide)
set_option maxRecDepth 1000000 in
theorem gq219 : tMth x_tb 219 = some xm219 := rfl
def nightN_g0_nd : List wE := [nightN_in, nightN_lp, nightN_cl, nightN_cl_x0, nightN_cl_x1]
theorem nightN_g0_G {xs : Nat → Int32} {n : Nat} {sf : Option Nat} : ∀ nd ∈ nightN_g0_nd, wGoes x_KT x_tb x_tyl (x_otS xs n sf) lwFR lwGA.length lwGB.length 6 25 43 nightNWA nightNWB 89 220 64 65 nd (nightN_g0_ex.map (fun x => (false, x))) := wGraph (fun nd hnd => by
  have hnd : nd ∈ ([nightN_in, nightN_lp, nightN_cl, nightN_cl_x0, nightN_cl_x1] : List wE) := hnd
  simp only [List.mem_cons, List.not_mem_nil, or_false] at hnd
  rcases hnd with rfl | rfl | rfl | rfl | rfl
  · refine ⟨nightNo1, nightNN1, fun o ho => ?_⟩
    have ho : o ∈ ([(true, nightN_lp)] : List (Bool × wE)) := ho
    simp only [List.mem_cons, List.not_mem_nil, or_false] at ho
    rcases ho with rfl
    · exact Or.inr ⟨rfl, List.mem_cons_of_mem _ (List.mem_cons_self)⟩
  · refine ⟨nightNo2, nightNN2, fun o ho => ?_⟩
    have ho : o ∈ ([(true, nightN_cl), (true, nightN_lp), (false, nightN_out)] : List (Bool × wE)) := ho
    simp only [List.mem_cons, List.not_mem_nil, or_false] at ho
    rcases ho with rfl | rfl | rfl
    · exact Or.inr ⟨rfl, List.mem_cons_of_mem _ (List.mem_cons_of_mem _ (List.mem_cons_self))⟩
    · exact Or.inr ⟨rfl, List.mem_cons_of_mem _ (List.mem_cons_self)⟩
    · exact Or.inl (List.mem_cons_self)
  · refine ⟨nightNo0, nightNN0, fun o ho => ?_⟩
    have ho : o ∈ ([(true, nightN_cl_x0), (true, nightN_cl_x1)] : List (Bool × wE)) := ho
    simp only [List.mem_cons, List.not_mem_nil, or_false] at ho
    rcases ho with rfl | rfl
    · exact Or.inr ⟨rfl, List.mem_cons_of_mem _ (List.mem_cons_of_mem _ (List.mem_cons_of_mem _ (List.mem_cons_self)))⟩
    · exact Or.inr ⟨rfl, List.mem_cons_of_mem _ (List.mem_cons_of_mem _ (List.mem_cons_of_mem _ (List.mem_cons_of_mem _ (List.mem_cons_self))))⟩
  · refine ⟨nightNo3, nightNN3, fun o ho => ?_⟩
    have ho : o ∈ ([(true, nightN_lp)] : List (Bool × wE)) := ho
    simp only [List.mem_cons, List.not_mem_nil, or_false] at ho
    rcases ho with rfl
    · exact Or.inr ⟨rfl, List.mem_cons_of_mem _ (List.mem_cons_self)⟩
  · refine ⟨nightNo4, nightNN4, fun o ho => ?_⟩
    have ho : o ∈ ([(true, nightN_lp)] : List (Bool × wE)) := ho
    simp only [List.mem_cons, List.not_mem_nil, or_false] at ho
    rcases ho with rfl
    · exact Or.inr ⟨rfl, List.mem_cons_of_mem _ (List.mem_cons_self)⟩)
theorem nightN0 {xs : Nat → Int32} {n : Nat} {sf : Option Nat} : wGoes x_KT x_tb x_tyl (x_otS xs n sf) lwFR lwGA.length lwGB.length 5 25 43 nightWA nightWB 89 219 64 66 night_cb nighto0 :=
  wDp (wWk (wEqvB (wCallB (recv := 0) (pc := 12) (ix := 335) (nx := 3) (args := [.inl (lSy 5), .inl (lK 0), .inl (lK 1), .inl (lK 1)]) (rest := []) (LE := [(0, .inr (some 0)), (1, .inl (lSy 5))]) (cE := (lK 0)) (sE := (lK 0)) (wReL (XA := nightX0.2.1) (XB := nightX0.2.2.1) (XC := nightX0.2.2.2.1) (rk := nightX0.2.2.2.2) (rA := nightQA0) (rB := nightQB0) (nightN_g0_G _ List.mem_cons_self) nightL0) gq219 gq220 (by decide +kernel) (by decide +kernel) (by decide +kernel) (by decide +kernel) (by decide +kernel)) (by decide +kernel) (by decide +kernel)) (by decide) (by decide) (by decide) (by decide +kernel) (by decide +kernel)) (by decide) (by decide)
theorem nightN1 {xs : Nat → Int32} {n : Nat} {sf : Option Nat} : wGoes x_KT x_tb x_tyl (x_otS xs n sf) lwFR lwGA.length lwGB.length 5 25 43 nightWA nightWB 89 219 64 66 night_in nighto1 :=
  wDp (wWk (wEd_spec (x_ov0_le sf) u_ctS lwFRok nightE1) (Nat.le_refl _) (Nat.le_refl _) (Nat.le_refl _) (by decide +kernel) (by decide +kernel)) (by decide) (by decide)
theorem nightN2 {xs : Nat → Int32} {n : Nat} {sf : Option Nat} : wGoes x_KT x_tb x_tyl (x_otS xs n sf) lwFR lwGA.length lwGB.length 5 25 43 nightWA nightWB 89 219 64 66 night_cb_out nighto2 :=
  wDp (wWk (wEd_spec (x_ov0_le sf) u_ctS lwFRok nightE2) (Nat.le_refl _) (Nat.le_refl _) (Nat.le_refl _) (by decide +kernel) (by decide +kernel)) (by decide) (by decide)
def night_g0_nd : List wE := [night_in, night_cb, night_cb_out]
theorem night_g0_G {xs : Nat → Int32} {n : Nat} {sf : Option Nat} : ∀ nd ∈ night_g0_nd, wGoes x_KT x_tb x_tyl (x_otS xs n sf) lwFR lwGA.length lwGB.length 5 25 43 nightWA nightWB 89 219 64 66 nd (night_g0_ex.map (fun x => (false, x))) := wGraph (fun nd hnd => by
  have hnd : nd ∈ ([night_in, night_cb, night_cb_out] : List wE) := hnd
  simp only [List.mem_cons, List.not_mem_nil, or_false] at hnd
  rcases hnd with rfl | rfl | rfl
  · refine ⟨nighto1, nightN1, fun o ho => ?_⟩
    have ho : o ∈ ([(true, night_cb), (false, night_out)] : List (Bool × wE)) := ho
    simp only [List.mem_cons, List.not_mem_nil, or_false] at ho
    rcases ho with rfl | rfl
    · exact Or.inr ⟨rfl, List.mem_cons_of_mem _ (List.mem_cons_self)⟩
    · exact Or.inl (List.mem_cons_self)
  · refine ⟨nighto0, nightN0, fun o ho => ?_⟩
    have ho : o ∈ ([(true, night_cb_out)] : List (Bool × wE)) := ho
    simp only [List.mem_cons, List.not_mem_nil, or_false] at ho
    rcases ho with rfl
    · exact Or.inr ⟨rfl, List.mem_cons_of_mem _ (List.mem_cons_of_mem _ (List.mem_cons_self))⟩
  · refine ⟨nighto2, nightN2, fun o ho => ?_⟩
    have ho : o ∈ ([(false, night_out)] : List (Bool × wE)) := ho
    simp only [List.mem_cons, List.not_mem_nil, or_false] at ho
    rcases ho with rfl
    · exact Or.inl (List.mem_cons_self))
theorem nightH {xs : Nat → Int32} {n : Nat} {sf : Option Nat} : wGoes x_KT x_tb x_tyl (x_otS xs n sf) lwFS lwGA.length lwGB.length 5 25 43 nightWA nightWB 89 219 64 66 night_in (nightOX.map (fun x => x.1)) :=
  wFSr (FS := lwFR) (nh := 33) (wFam (V := []) lwFRok (by decide +kernel) (by decide +kernel) (night_g0_G night_in List.mem_cons_self) (by decide) (by decide) (fun i hi u hu => by
  have hi : i ∈ ([] : List Nat) := hi
  simp only [List.mem_cons, List.not_mem_nil, or_false] at hi)) lwFRp (by decide) (by decide +kernel)
theorem nightPP {xs : Nat → Int32} {n : Nat} {sf : Option Nat} : bPP x_KT x_tb x_tyl (x_otS xs n sf) lwN lwP 1299 89 219 1 (mMc xm89 + mMc xm219) (mRc xm89) (mRc xm219) True :=
  wBlk lwFok lwFB uKa uKb (by decide +kernel) (by decide +kernel) uKdj uKj nightbc nightH gq89 gq219 (by decide) (by decide) (uKeep (by decide +kernel)) (by decide +kernel) (by decide +kernel) (by decide +kernel)
set_option maxRecDepth 1000000 in
theorem gq96 : tMth x_tb 96 = some xm96 := rfl
set_option maxRecDepth 1000000 in
theorem gq233 : tMth x_tb 233 = some xm233 := rfl
theorem doesN0 {xs : Nat → Int32} {n : Nat} {sf : Option Nat} : wGoes x_KT x_tb x_tyl (x_otS xs n sf) lwFR lwGA.length lwGB.length 5 25 43 doesWA doesWB 96 233 60 60 does_in doeso0 :=
  wDp (wWk (wEd_spec (x_ov0_le sf) u_ctS lwFRok doesE0) (Nat.le_refl _) (Nat.le_refl _) (Nat.le_refl _) (by decide +kernel) (by decide +kernel)) (by decide) (by decide)
theorem doesN1 {xs : Nat → Int32} {n : Nat} {sf : Option Nat} : wGoes x_KT x_tb x_tyl (x_otS xs n sf) lwFR lwGA.length lwGB.length 5 25 43 doesWA doesWB 96 233 60 60 does_m0 doeso1 :=
  wDp (wWk (wFamE2 (V := [0, 20]) (x_ov0_le sf) u_ctS lwFRok doesE1 (by decide) (by decide) (fun i hi u hu => by
      have hi : i ∈ ([0, 20] : List Nat) := hi
      simp only [List.mem_cons, List.not_mem_nil, or_false] at hi
      rcases hi with rfl | rfl
      · cases hu
        exact wRkE_spec (x_ov0_le sf) u_ctS lwFRok doesE1R0
      · cases hu
        exact wRkE_spec (x_ov0_le sf) u_ctS lwFRok doesE1R20)) (Nat.le_refl _) (Nat.le_refl _) (Nat.le_refl _) (by decide +kernel) (by decide +kernel)) (by decide) (by decide)
theorem doesN2 {xs : Nat → Int32} {n : Nat} {sf : Option Nat} : wGoes x_KT x_tb x_tyl (x_otS xs n sf) lwFR lwGA.length lwGB.length 5 25 43 doesWA doesWB 96 233 60 60 does_m1 doeso2 :=
  wDp (wWk (wFamE2 (V := [0, 20]) (x_ov0_le sf) u_ctS lwFRok doesE2 (by decide) (by decide) (fun i hi u hu => by
      have hi : i ∈ ([0, 20] : List Nat) := hi
      simp only [List.mem_cons, List.not_mem_nil, or_false] at hi
      rcases hi with rfl | rfl
      · cases hu
        exact wRkE_spec (x_ov0_le sf) u_ctS lwFRok doesE2R0
      · cases hu
        exact wRkE_spec (x_ov0_le sf) u_ctS lwFRok doesE2R20)) (Nat.le_refl _) (Nat.le_refl _) (Nat.le_refl _) (by decide +kernel) (by decide +kernel)) (by decide) (by decide)
theorem doesN3 {xs : Nat → Int32} {n : Nat} {sf : Option Nat} : wGoes x_KT x_tb x_tyl (x_otS xs n sf) lwFR lwGA.length lwGB.length 5 25 43 doesWA doesWB 96 233 60 60 does_m2 doeso3 :=
  wDp (wWk (wFamE2 (V := [0, 20]) (x_ov0_le sf) u_ctS lwFRok doesE3 (by decide) (by decide) (fun i hi u hu => by
      have hi : i ∈ ([0, 20] : List Nat) := hi
      simp only [List.mem_cons, List.not_mem_nil, or_false] at hi
      rcases hi with rfl | rfl
      · cases hu
        exact wRkE_spec (x_ov0_le sf) u_ctS lwFRok doesE3R0
      · cases hu
        exact wRkE_spec (x_ov0_le sf) u_ctS lwFRok doesE3R20)) (Nat.le_refl _) (Nat.le_refl _) (Nat.le_refl _) (by decide +kernel) (by decide +kernel)) (by decide) (by decide)
theorem doesN4 {xs : Nat → Int32} {n : Nat} {sf : Option Nat} : wGoes x_KT x_tb x_tyl (x_otS xs n sf) lwFR lwGA.length lwGB.length 5 25 43 doesWA doesWB 96 233 60 60 does_m3 doeso4 :=
  wDp (wWk (wFamE2 (V := [0, 20]) (x_ov0_le sf) u_ctS lwFRok doesE4 (by decide) (by decide) (fun i hi u hu => by
      have hi : i ∈ ([0, 20] : List Nat) := hi
      simp only [List.mem_cons, List.not_mem_nil, or_false] at hi
      rcases hi with rfl | rfl
      · cases hu
        exact wRkE_spec (x_ov0_le sf) u_ctS lwFRok doesE4R0
      · cases hu
        exact wRkE_spec (x_ov0_le sf) u_ctS lwFRok doesE4R20)) (Nat.le_refl _) (Nat.le_refl _) (Nat.le_refl _) (by decide +kernel) (by decide +kernel)) (by decide) (by decide)
theorem doesN5 {xs : Nat → Int32} {n : Nat} {sf : Option Nat} : wGoes x_KT x_tb x_tyl (x_otS xs n sf) lwFR lwGA.length lwGB.length 5 25 43 doesWA doesWB 96 233 60 60 does_bk doeso5 :=
  wDp (wWk (wFamE2 (V := [29, 30]) (x_ov0_le sf) u_ctS lwFRok doesE5 (by decide) (by decide) (fun i hi u hu => by
      have hi : i ∈ ([29, 30] : List Nat) := hi
      simp only [List.mem_cons, List.not_mem_nil, or_false] at hi
      rcases hi with rfl | rfl
      · cases hu
        exact wRkE_spec (x_ov0_le sf) u_ctS lwFRok doesE5R29
      · cases hu
        exact wRkE_spec (x_ov0_le sf) u_ctS lwFRok doesE5R30)) (Nat.le_refl _) (Nat.le_refl _) (Nat.le_refl _) (by decide +kernel) (by decide +kernel)) (by decide) (by decide)
def does_g0_nd : List wE := [does_in, does_m0, does_m1, does_m2, does_m3, does_bk]
theorem does_g0_G {xs : Nat → Int32} {n : Nat} {sf : Option Nat} : ∀ nd ∈ does_g0_nd, wGoes x_KT x_tb x_tyl (x_otS xs n sf) lwFR lwGA.length lwGB.length 5 25 43 doesWA doesWB 96 233 60 60 nd (does_g0_ex.map (fun x => (false, x))) := wGraph (fun nd hnd => by
  have hnd : nd ∈ ([does_in, does_m0, does_m1, does_m2, does_m3, does_bk] : List wE) := hnd
  simp only [List.mem_cons, List.not_mem_nil, or_false] at hnd
  rcases hnd with rfl | rfl | rfl | rfl | rfl | rfl
  · refine ⟨doeso0, doesN0, fun o ho => ?_⟩
    have ho : o ∈ ([(true, does_m0), (true, does_m1), (true, does_m2), (true, does_m3), (false, does_out)] : List (Bool × wE)) := ho
    simp only [List.mem_cons, List.not_mem_nil, or_false] at ho
    rcases ho with rfl | rfl | rfl | rfl | rfl
    · exact Or.inr ⟨rfl, List.mem_cons_of_mem _ (List.mem_cons_self)⟩
    · exact Or.inr ⟨rfl, List.mem_cons_of_mem _ (List.mem_cons_of_mem _ (List.mem_cons_self))⟩
    · exact Or.inr ⟨rfl, List.mem_cons_of_mem _ (List.mem_cons_of_mem _ (List.mem_cons_of_mem _ (List.mem_cons_self)))⟩
    · exact Or.inr ⟨rfl, List.mem_cons_of_mem _ (List.mem_cons_of_mem _ (List.mem_cons_of_mem _ (List.mem_cons_of_mem _ (List.mem_cons_self))))⟩
    · exact Or.inl (List.mem_cons_self)
  · refine ⟨doeso1, doesN1, fun o ho => ?_⟩
    have ho : o ∈ ([(true, does_bk)] : List (Bool × wE)) := ho
    simp only [List.mem_cons, List.not_mem_nil, or_false] at ho
    rcases ho with rfl
    · exact Or.inr ⟨rfl, List.mem_cons_of_mem _ (List.mem_cons_of_mem _ (List.mem_cons_of_mem _ (List.mem_cons_of_mem _ (List.mem_cons_of_mem _ (List.mem_cons_self)))))⟩
  · refine ⟨doeso2, doesN2, fun o ho => ?_⟩
    have ho : o ∈ ([(true, does_bk)] : List (Bool × wE)) := ho
    simp only [List.mem_cons, List.not_mem_nil, or_false] at ho
    rcases ho with rfl
    · exact Or.inr ⟨rfl, List.mem_cons_of_mem _ (List.mem_cons_of_mem _ (List.mem_cons_of_mem _ (List.mem_cons_of_mem _ (List.mem_cons_of_mem _ (List.mem_cons_self)))))⟩
  · refine ⟨doeso3, doesN3, fun o ho => ?_⟩
    have ho : o ∈ ([(true, does_bk)] : List (Bool × wE)) := ho
    simp only [List.mem_cons, List.not_mem_nil, or_false] at ho
    rcases ho with rfl
    · exact Or.inr ⟨rfl, List.mem_cons_of_mem _ (List.mem_cons_of_mem _ (List.mem_cons_of_mem _ (List.mem_cons_of_mem _ (List.mem_cons_of_mem _ (List.mem_cons_self)))))⟩
  · refine ⟨doeso4, doesN4, fun o ho => ?_⟩
    have ho : o ∈ ([(true, does_bk)] : List (Bool × wE)) := ho
    simp only [List.mem_cons, List.not_mem_nil, or_false] at ho
    rcases ho with rfl
    · exact Or.inr ⟨rfl, List.mem_cons_of_mem _ (List.mem_cons_of_mem _ (List.mem_cons_of_mem _ (List.mem_cons_of_mem _ (List.mem_cons_of_mem _ (List.mem_cons_self)))))⟩
  · refine ⟨doeso5, doesN5, fun o ho => ?_⟩
    have ho : o ∈ ([(false, does_outb)] : List (Bool × wE)) := ho
    simp only [List.mem_cons, List.not_mem_nil, or_false] at ho
    rcases ho with rfl
    · exact Or.inl (List.mem_cons_of_mem _ (List.mem_cons_self)))
theorem doesH {xs : Nat → Int32} {n : Nat} {sf : Option Nat} : wGoes x_KT x_tb x_tyl (x_otS xs n sf) lwFS lwGA.length lwGB.length 5 25 43 doesWA doesWB 96 233 60 60 does_in (doesOX.map (fun x => x.1)) :=
  wFSr (FS := lwFR) (nh := 33) (wFam (V := []) lwFRok (by decide +kernel) (by decide +kernel) (does_g0_G does_in List.mem_cons_self) (by decide) (by decide) (fun i hi u hu => by
  have hi : i ∈ ([] : List Nat) := hi
  simp only [List.mem_cons, List.not_mem_nil, or_false] at hi)) lwFRp (by decide) (by decide +kernel)
theorem doesPP {xs : Nat → Int32} {n : Nat} {sf : Option Nat} : bPP x_KT x_tb x_tyl (x_otS xs n sf) lwN lwP 1299 96 233 4 (mMc xm96 + mMc xm233) (mRc xm96) (mRc xm233) True :=
  wBlk lwFok lwFB uKa uKb (by decide +kernel) (by decide +kernel) uKdj uKj doesbc doesH gq96 gq233 (by decide) (by decide) (uKeep (by decide +kernel)) (by decide +kernel) (by decide +kernel) (by decide +kernel)
set_option maxRecDepth 1000000 in
theorem gq103 : tMth x_tb 103 = some xm103 := rfl
set_option maxRecDepth 1000000 in
theorem gq236 : tMth x_tb 236 = some xm236 := rfl
theorem mendN0 {xs : Nat → Int32} {n : Nat} {sf : Option Nat} : wGoes x_KT x_tb x_tyl (x_otS xs n sf) lwFR lwGA.length lwGB.length 5 25 43 mendWA mendWB 103 236 60 60 mend_in mendo0 :=
  wDp (wWk (wEd_spec (x_ov0_le sf) u_ctS lwFRok mendE0) (Nat.le_refl _) (Nat.le_refl _) (Nat.le_refl _) (by decide +kernel) (by decide +kernel)) (by decide) (by decide)
theorem mendN1 {xs : Nat → Int32} {n : Nat} {sf : Option Nat} : wGoes x_KT x_tb x_tyl (x_otS xs n sf) lwFR lwGA.length lwGB.length 5 25 43 mendWA mendWB 103 236 60 60 mend_m2 mendo1 :=
  wDp (wWk (wFamE2 (V := [0, 20, 2]) (x_ov0_le sf) u_ctS lwFRok mendE1 (by decide) (by decide) (fun i hi u hu => by
      have hi : i ∈ ([0, 20, 2] : List Nat) := hi
      simp only [List.mem_cons, List.not_mem_nil, or_false] at hi
      rcases hi with rfl | rfl | rfl
      · cases hu
        exact wRkE_spec (x_ov0_le sf) u_ctS lwFRok mendE1R0
      · cases hu
        exact wRkE_spec (x_ov0_le sf) u_ctS lwFRok mendE1R20
      · cases hu
        exact wRkE_spec (x_ov0_le sf) u_ctS lwFRok mendE1R2)) (Nat.le_refl _) (Nat.le_refl _) (Nat.le_refl _) (by decide +kernel) (by decide +kernel)) (by decide) (by decide)
theorem mendN2 {xs : Nat → Int32} {n : Nat} {sf : Option Nat} : wGoes x_KT x_tb x_tyl (x_otS xs n sf) lwFR lwGA.length lwGB.length 5 25 43 mendWA mendWB 103 236 60 60 mend_m4 mendo2 :=
  wDp (wWk (wFamE2 (V := [0, 20, 2]) (x_ov0_le sf) u_ctS lwFRok mendE2 (by decide) (by decide) (fun i hi u hu => by
      have hi : i ∈ ([0, 20, 2] : List Nat) := hi
      simp only [List.mem_cons, List.not_mem_nil, or_false] at hi
      rcases hi with rfl | rfl | rfl
      · cases hu
        exact wRkE_spec (x_ov0_le sf) u_ctS lwFRok mendE2R0
      · cases hu
        exact wRkE_spec (x_ov0_le sf) u_ctS lwFRok mendE2R20
      · cases hu
        exact wRkE_spec (x_ov0_le sf) u_ctS lwFRok mendE2R2)) (Nat.le_refl _) (Nat.le_refl _) (Nat.le_refl _) (by decide +kernel) (by decide +kernel)) (by decide) (by decide)
theorem mendN3 {xs : Nat → Int32} {n : Nat} {sf : Option Nat} : wGoes x_KT x_tb x_tyl (x_otS xs n sf) lwFR lwGA.length lwGB.length 5 25 43 mendWA mendWB 103 236 60 60 mend_bk mendo3 :=
  wDp (wWk (wFamE2 (V := [29, 30]) (x_ov0_le sf) u_ctS lwFRok mendE3 (by decide) (by decide) (fun i hi u hu => by
      have hi : i ∈ ([29, 30] : List Nat) := hi
      simp only [List.mem_cons, List.not_mem_nil, or_false] at hi
      rcases hi with rfl | rfl
      · cases hu
        exact wRkE_spec (x_ov0_le sf) u_ctS lwFRok mendE3R29
      · cases hu
        exact wRkE_spec (x_ov0_le sf) u_ctS lwFRok mendE3R30)) (Nat.le_refl _) (Nat.le_refl _) (Nat.le_refl _) (by decide +kernel) (by decide +kernel)) (by decide) (by decide)
def mend_g0_nd : List wE := [mend_in, mend_m2, mend_m4, mend_bk]
theorem mend_g0_G {xs : Nat → Int32} {n : Nat} {sf : Option Nat} : ∀ nd ∈ mend_g0_nd, wGoes x_KT x_tb x_tyl (x_otS xs n sf) lwFR lwGA.length lwGB.length 5 25 43 mendWA mendWB 103 236 60 60 nd (mend_g0_ex.map (fun x => (false, x))) := wGraph (fun nd hnd => by
  have hnd : nd ∈ ([mend_in, mend_m2, mend_m4, mend_bk] : List wE) := hnd
  simp only [List.mem_cons, List.not_mem_nil, or_false] at hnd
  rcases hnd with rfl | rfl | rfl | rfl
  · refine ⟨mendo0, mendN0, fun o ho => ?_⟩
    have ho : o ∈ ([(true, mend_m2), (true, mend_m4), (false, mend_out)] : List (Bool × wE)) := ho
    simp only [List.mem_cons, List.not_mem_nil, or_false] at ho
    rcases ho with rfl | rfl | rfl
    · exact Or.inr ⟨rfl, List.mem_cons_of_mem _ (List.mem_cons_self)⟩
    · exact Or.inr ⟨rfl, List.mem_cons_of_mem _ (List.mem_cons_of_mem _ (List.mem_cons_self))⟩
    · exact Or.inl (List.mem_cons_self)
  · refine ⟨mendo1, mendN1, fun o ho => ?_⟩
    have ho : o ∈ ([(true, mend_bk)] : List (Bool × wE)) := ho
    simp only [List.mem_cons, List.not_mem_nil, or_false] at ho
    rcases ho with rfl
    · exact Or.inr ⟨rfl, List.mem_cons_of_mem _ (List.mem_cons_of_mem _ (List.mem_cons_of_mem _ (List.mem_cons_self)))⟩
  · refine ⟨mendo2, mendN2, fun o ho => ?_⟩
    have ho : o ∈ ([(true, mend_bk)] : List (Bool × wE)) := ho
    simp only [List.mem_cons, List.not_mem_nil, or_false] at ho
    rcases ho with rfl
    · exact Or.inr ⟨rfl, List.mem_cons_of_mem _ (List.mem_cons_of_mem _ (List.mem_cons_of_mem _ (List.mem_cons_self)))⟩
  · refine ⟨mendo3, mendN3, fun o ho => ?_⟩
    have ho : o ∈ ([(false, mend_outb)] : List (Bool × wE)) := ho
    simp only [List.mem_cons, List.not_mem_nil, or_false] at ho
    rcases ho with rfl
    · exact Or.inl (List.mem_cons_of_mem _ (List.mem_cons_self)))
theorem mendH {xs : Nat → Int32} {n : Nat} {sf : Option Nat} : wGoes x_KT x_tb x_tyl (x_otS xs n sf) lwFS lwGA.length lwGB.length 5 25 43 mendWA mendWB 103 236 60 60 mend_in (mendOX.map (fun x => x.1)) :=
  wFSr (FS := lwFR) (nh := 33) (wFam (V := []) lwFRok (by decide +kernel) (by decide +kernel) (mend_g0_G mend_in List.mem_cons_self) (by decide) (by decide) (fun i hi u hu => by
  have hi : i ∈ ([] : List Nat) := hi
  simp only [List.mem_cons, List.not_mem_nil, or_false] at hi)) lwFRp (by decide) (by decide +kernel)
theorem mendPP {xs : Nat → Int32} {n : Nat} {sf : Option Nat} : bPP x_KT x_tb x_tyl (x_otS xs n sf) lwN lwP 1299 103 236 6 (mMc xm103 + mMc xm236) (mRc xm103) (mRc xm236) True :=
  wBlk lwFok lwFB uKa uKb (by decide +kernel) (by decide +kernel) uKdj uKj mendbc mendH gq103 gq236 (by decide) (by decide) (uKeep (by decide +kernel)) (by decide +kernel) (by decide +kernel) (by decide +kernel)
set_option maxRecDepth 1000000 in
theorem gq107 : tMth x_tb 107 = some xm107 := rfl
set_option maxRecDepth 1000000 in
theorem gq239 : tMth x_tb 239 = some xm239 := rfl
theorem mendRuleN0 {xs : Nat → Int32} {n : Nat} {sf : Option Nat} : wGoes x_KT x_tb x_tyl (x_otS xs n sf) lwFR lwGA.length lwGB.length 5 25 43 mendRuleWA mendRuleWB 107 239 60 60 mendRule_in mendRuleo0 :=
  wDp (wWk (wEd_spec (x_ov0_le sf) u_ctS lwFRok mendRuleE0) (Nat.le_refl _) (Nat.le_refl _) (Nat.le_refl _) (by decide +kernel) (by decide +kernel)) (by decide) (by decide)
theorem mendRuleN1 {xs : Nat → Int32} {n : Nat} {sf : Option Nat} : wGoes x_KT x_tb x_tyl (x_otS xs n sf) lwFR lwGA.length lwGB.length 5 25 43 mendRuleWA mendRuleWB 107 239 60 60 mendRule_m mendRuleo1 :=
  wDp (wWk (wFamE2 (V := [0, 20, 3]) (x_ov0_le sf) u_ctS lwFRok mendRuleE1 (by decide) (by decide) (fun i hi u hu => by
      have hi : i ∈ ([0, 20, 3] : List Nat) := hi
      simp only [List.mem_cons, List.not_mem_nil, or_false] at hi
      rcases hi with rfl | rfl | rfl
      · cases hu
        exact wRkE_spec (x_ov0_le sf) u_ctS lwFRok mendRuleE1R0
      · cases hu
        exact wRkE_spec (x_ov0_le sf) u_ctS lwFRok mendRuleE1R20
      · cases hu
        exact wRkE_spec (x_ov0_le sf) u_ctS lwFRok mendRuleE1R3)) (Nat.le_refl _) (Nat.le_refl _) (Nat.le_refl _) (by decide +kernel) (by decide +kernel)) (by decide) (by decide)
theorem mendRuleN2 {xs : Nat → Int32} {n : Nat} {sf : Option Nat} : wGoes x_KT x_tb x_tyl (x_otS xs n sf) lwFR lwGA.length lwGB.length 5 25 43 mendRuleWA mendRuleWB 107 239 60 60 mendRule_bk mendRuleo2 :=
  wDp (wWk (wFamE2 (V := [29, 30]) (x_ov0_le sf) u_ctS lwFRok mendRuleE2 (by decide) (by decide) (fun i hi u hu => by
      have hi : i ∈ ([29, 30] : List Nat) := hi
      simp only [List.mem_cons, List.not_mem_nil, or_false] at hi
      rcases hi with rfl | rfl
      · cases hu
        exact wRkE_spec (x_ov0_le sf) u_ctS lwFRok mendRuleE2R29
      · cases hu
        exact wRkE_spec (x_ov0_le sf) u_ctS lwFRok mendRuleE2R30)) (Nat.le_refl _) (Nat.le_refl _) (Nat.le_refl _) (by decide +kernel) (by decide +kernel)) (by decide) (by decide)
def mendRule_g0_nd : List wE := [mendRule_in, mendRule_m, mendRule_bk]
theorem mendRule_g0_G {xs : Nat → Int32} {n : Nat} {sf : Option Nat} : ∀ nd ∈ mendRule_g0_nd, wGoes x_KT x_tb x_tyl (x_otS xs n sf) lwFR lwGA.length lwGB.length 5 25 43 mendRuleWA mendRuleWB 107 239 60 60 nd (mendRule_g0_ex.map (fun x => (false, x))) := wGraph (fun nd hnd => by
  have hnd : nd ∈ ([mendRule_in, mendRule_m, mendRule_bk] : List wE) := hnd
  simp only [List.mem_cons, List.not_mem_nil, or_false] at hnd
  rcases hnd with rfl | rfl | rfl
  · refine ⟨mendRuleo0, mendRuleN0, fun o ho => ?_⟩
    have ho : o ∈ ([(true, mendRule_m), (false, mendRule_out)] : List (Bool × wE)) := ho
    simp only [List.mem_cons, List.not_mem_nil, or_false] at ho
    rcases ho with rfl | rfl
    · exact Or.inr ⟨rfl, List.mem_cons_of_mem _ (List.mem_cons_self)⟩
    · exact Or.inl (List.mem_cons_self)
  · refine ⟨mendRuleo1, mendRuleN1, fun o ho => ?_⟩
    have ho : o ∈ ([(true, mendRule_bk)] : List (Bool × wE)) := ho
    simp only [List.mem_cons, List.not_mem_nil, or_false] at ho
    rcases ho with rfl
    · exact Or.inr ⟨rfl, List.mem_cons_of_mem _ (List.mem_cons_of_mem _ (List.mem_cons_self))⟩
  · refine ⟨mendRuleo2, mendRuleN2, fun o ho => ?_⟩
    have ho : o ∈ ([(false, mendRule_outb)] : List (Bool × wE)) := ho
    simp only [List.mem_cons, List.not_mem_nil, or_false] at ho
    rcases ho with rfl
    · exact Or.inl (List.mem_cons_of_mem _ (List.mem_cons_self)))
theorem mendRuleH {xs : Nat → Int32} {n : Nat} {sf : Option Nat} : wGoes x_KT x_tb x_tyl (x_otS xs n sf) lwFS lwGA.length lwGB.length 5 25 43 mendRuleWA mendRuleWB 107 239 60 60 mendRule_in (mendRuleOX.map (fun x => x.1)) :=
  wFSr (FS := lwFR) (nh := 33) (wFam (V := []) lwFRok (by decide +kernel) (by decide +kernel) (mendRule_g0_G mendRule_in List.mem_cons_self) (by decide) (by decide) (fun i hi u hu => by
  have hi : i ∈ ([] : List Nat) := hi
  simp only [List.mem_cons, List.not_mem_nil, or_false] at hi)) lwFRp (by decide) (by decide +kernel)
theorem mendRulePP {xs : Nat → Int32} {n : Nat} {sf : Option Nat} : bPP x_KT x_tb x_tyl (x_otS xs n sf) lwN lwP 1299 107 239 4 (mMc xm107 + mMc xm239) (mRc xm107) (mRc xm239) True :=
  wBlk lwFok lwFB uKa uKb (by decide +kernel) (by decide +kernel) uKdj uKj mendRulebc mendRuleH gq107 gq239 (by decide) (by decide) (uKeep (by decide +kernel)) (by decide +kernel) (by decide +kernel) (by decide +kernel)
set_option maxRecDepth 1000000 in
theorem gq108 : tMth x_tb 108 = some xm108 := rfl
set_option maxRecDepth 1000000 in
theorem gq240 : tMth x_tb 240 = some xm240 := rfl
theorem testN0 {xs : Nat → Int32} {n : Nat} {sf : Option Nat} : wGoes x_KT x_tb x_tyl (x_otS xs n sf) lwFR lwGA.length lwGB.length 5 25 43 testWA testWB 108 240 64 65 test_cl testo0 :=
  wDp (wWk (wEqvB (wCallB (recv := 0) (pc := 57) (ix := 329) (nx := 3) (args := [.inl (lSy 6), .inl (lSy 5)]) (rest := [.inl (lSy 6), .inr (some 0)]) (LE := [(0, .inr (some 0)), (1, .inl (lSy 6)), (2, .inl (lSy 7)), (3, .inl (lSy 8)), (4, .inl (lSy 5))]) (cE := (lK 0)) (sE := (lK 0)) (wCallA (recv := 0) (pc := 56) (ix := 215) (nx := 3) (args := [.inr (some 25), .inl (lSy 5)]) (rest := []) (LE := [(0, .inr (some 0)), (1, .inl (lSy 6)), (2, .inl (lSy 7)), (3, .inl (lSy 8)), (4, .inl (lSy 5)), (5, .inr (some 25))]) (cE := (lK 0)) (sE := (lK 0)) (wReL (XA := testX0.2.1) (XB := testX0.2.2.1) (XC := testX0.2.2.2.1) (rk := testX0.2.2.2.2) (rA := testQA0) (rB := testQB0) (rr_g0_G _ List.mem_cons_self) testL0) gq108 gq64 (by decide +kernel) (by decide +kernel) (by decide +kernel) (by decide +kernel) (by decide +kernel)) gq240 gq202 (by decide +kernel) (by decide +kernel) (by decide +kernel) (by decide +kernel) (by decide +kernel)) (by decide +kernel) (by decide +kernel)) (by decide) (by decide) (by decide) (by decide +kernel) (by decide +kernel)) (by decide) (by decide)
theorem testN1 {xs : Nat → Int32} {n : Nat} {sf : Option Nat} : wGoes x_KT x_tb x_tyl (x_otS xs n sf) lwFR lwGA.length lwGB.length 5 25 43 testWA testWB 108 240 64 65 test_in testo1 :=
  wDp (wWk (wEd_spec (x_ov0_le sf) u_ctS lwFRok testE1) (Nat.le_refl _) (Nat.le_refl _) (Nat.le_refl _) (by decide +kernel) (by decide +kernel)) (by decide) (by decide)
theorem testN2 {xs : Nat → Int32} {n : Nat} {sf : Option Nat} : wGoes x_KT x_tb x_tyl (x_otS xs n sf) lwFR lwGA.length lwGB.length 5 25 43 testWA testWB 108 240 64 65 test_cl_x0 testo2 :=
  wDp (wWk (wFamE2 (V := [0, 20]) (x_ov0_le sf) u_ctS lwFRok testE2 (by decide) (by decide) (fun i hi u hu => by
      have hi : i ∈ ([0, 20] : List Nat) := hi
      simp only [List.mem_cons, List.not_mem_nil, or_false] at hi
      rcases hi with rfl | rfl
      · cases hu
        exact wRkE_spec (x_ov0_le sf) u_ctS lwFRok testE2R0
      · cases hu
        exact wRkE_spec (x_ov0_le sf) u_ctS lwFRok testE2R20)) (Nat.le_refl _) (Nat.le_refl _) (Nat.le_refl _) (by decide +kernel) (by decide +kernel)) (by decide) (by decide)
theorem testN3 {xs : Nat → Int32} {n : Nat} {sf : Option Nat} : wGoes x_KT x_tb x_tyl (x_otS xs n sf) lwFR lwGA.length lwGB.length 5 25 43 testWA testWB 108 240 64 65 test_cl_x1 testo3 :=
  wDp (wWk (wFamE2 (V := [0, 20]) (x_ov0_le sf) u_ctS lwFRok testE3 (by decide) (by decide) (fun i hi u hu => by
      have hi : i ∈ ([0, 20] : List Nat) := hi
      simp only [List.mem_cons, List.not_mem_nil, or_false] at hi
      rcases hi with rfl | rfl
      · cases hu
        exact wRkE_spec (x_ov0_le sf) u_ctS lwFRok testE3R0
      · cases hu
        exact wRkE_spec (x_ov0_le sf) u_ctS lwFRok testE3R20)) (Nat.le_refl _) (Nat.le_refl _) (Nat.le_refl _) (by decide +kernel) (by decide +kernel)) (by decide) (by decide)
theorem testN4 {xs : Nat → Int32} {n : Nat} {sf : Option Nat} : wGoes x_KT x_tb x_tyl (x_otS xs n sf) lwFR lwGA.length lwGB.length 5 25 43 testWA testWB 108 240 64 65 test_bk testo4 :=
  wDp (wWk (wFamE2 (V := [29, 30]) (x_ov0_le sf) u_ctS lwFRok testE4 (by decide) (by decide) (fun i hi u hu => by
      have hi : i ∈ ([29, 30] : List Nat) := hi
      simp only [List.mem_cons, List.not_mem_nil, or_false] at hi
      rcases hi with rfl | rfl
      · cases hu
        exact wRkE_spec (x_ov0_le sf) u_ctS lwFRok testE4R29
      · cases hu
        exact wRkE_spec (x_ov0_le sf) u_ctS lwFRok testE4R30)) (Nat.le_refl _) (Nat.le_refl _) (Nat.le_refl _) (by decide +kernel) (by decide +kernel)) (by decide) (by decide)
def test_g0_nd : List wE := [test_in, test_cl, test_cl_x0, test_cl_x1, test_bk]
theorem test_g0_G {xs : Nat → Int32} {n : Nat} {sf : Option Nat} : ∀ nd ∈ test_g0_nd, wGoes x_KT x_tb x_tyl (x_otS xs n sf) lwFR lwGA.length lwGB.length 5 25 43 testWA testWB 108 240 64 65 nd (test_g0_ex.map (fun x => (false, x))) := wGraph (fun nd hnd => by
  have hnd : nd ∈ ([test_in, test_cl, test_cl_x0, test_cl_x1, test_bk] : List wE) := hnd
  simp only [List.mem_cons, List.not_mem_nil, or_false] at hnd
  rcases hnd with rfl | rfl | rfl | rfl | rfl
  · refine ⟨testo1, testN1, fun o ho => ?_⟩
    have ho : o ∈ ([(true, test_cl), (false, test_out)] : List (Bool × wE)) := ho
    simp only [List.mem_cons, List.not_mem_nil, or_false] at ho
    rcases ho with rfl | rfl
    · exact Or.inr ⟨rfl, List.mem_cons_of_mem _ (List.mem_cons_self)⟩
    · exact Or.inl (List.mem_cons_self)
  · refine ⟨testo0, testN0, fun o ho => ?_⟩
    have ho : o ∈ ([(true, test_cl_x0), (true, test_cl_x1)] : List (Bool × wE)) := ho
    simp only [List.mem_cons, List.not_mem_nil, or_false] at ho
    rcases ho with rfl | rfl
    · exact Or.inr ⟨rfl, List.mem_cons_of_mem _ (List.mem_cons_of_mem _ (List.mem_cons_self))⟩
    · exact Or.inr ⟨rfl, List.mem_cons_of_mem _ (List.mem_cons_of_mem _ (List.mem_cons_of_mem _ (List.mem_cons_self)))⟩
  · refine ⟨testo2, testN2, fun o ho => ?_⟩
    have ho : o ∈ ([(true, test_bk)] : List (Bool × wE)) := ho
    simp only [List.mem_cons, List.not_mem_nil, or_false] at ho
    rcases ho with rfl
    · exact Or.inr ⟨rfl, List.mem_cons_of_mem _ (List.mem_cons_of_mem _ (List.mem_cons_of_mem _ (List.mem_cons_of_mem _ (List.mem_cons_self))))⟩
  · refine ⟨testo3, testN3, fun o ho => ?_⟩
    have ho : o ∈ ([(true, test_bk)] : List (Bool × wE)) := ho
    simp only [List.mem_cons, List.not_mem_nil, or_false] at ho
    rcases ho with rfl
    · exact Or.inr ⟨rfl, List.mem_cons_of_mem _ (List.mem_cons_of_mem _ (List.mem_cons_of_mem _ (List.mem_cons_of_mem _ (List.mem_cons_self))))⟩
  · refine ⟨testo4, testN4, fun o ho => ?_⟩
    have ho : o ∈ ([(false, test_outb)] : List (Bool × wE)) := ho
    simp only [List.mem_cons, List.not_mem_nil, or_false] at ho
    rcases ho with rfl
    · exact Or.inl (List.mem_cons_of_mem _ (List.mem_cons_self)))
theorem testH {xs : Nat → Int32} {n : Nat} {sf : Option Nat} : wGoes x_KT x_tb x_tyl (x_otS xs n sf) lwFS lwGA.length lwGB.length 5 25 43 testWA testWB 108 240 64 65 test_in (testOX.map (fun x => x.1)) :=
  wFSr (FS := lwFR) (nh := 33) (wFam (V := []) lwFRok (by decide +kernel) (by decide +kernel) (test_g0_G test_in List.mem_cons_self) (by decide) (by decide) (fun i hi u hu => by
  have hi : i ∈ ([] : List Nat) := hi
  simp only [List.mem_cons, List.not_mem_nil, or_false] at hi)) lwFRp (by decide) (by decide +kernel)
theorem testPP {xs : Nat → Int32} {n : Nat} {sf : Option Nat} : bPP x_KT x_tb x_tyl (x_otS xs n sf) lwN lwP 1299 108 240 4 (mMc xm108 + mMc xm240) (mRc xm108) (mRc xm240) True :=
  wBlk lwFok lwFB uKa uKb (by decide +kernel) (by decide +kernel) uKdj uKj testbc testH gq108 gq240 (by decide) (by decide) (uKeep (by decide +kernel)) (by decide +kernel) (by decide +kernel) (by decide +kernel)
theorem u_ctKS0 {xs : Nat → Int32} {n : Nat} {sf : Option Nat} (hsf : sf = none ∨ sf = some 1200000) : ∀ j c, c ∈ u_ctK0 j → vCtSem x_KT x_tb x_tyl (x_otS xs n sf) j c := fun j c h => by
  unfold u_ctK0 at h
  cases hb : (Nat.beq j 70 || Nat.beq j 76 || Nat.beq j 79) with
  | true =>
    rw [hb] at h
    exact x_allS xs n hsf j c h
  | false =>
    rw [hb] at h
    exact absurd h List.not_mem_nil
set_option maxRecDepth 1000000 in
theorem gq116 : tMth x_tb 116 = some xm116 := rfl
set_option maxRecDepth 1000000 in
theorem gq244 : tMth x_tb 244 = some xm244 := rfl
theorem fin0N0 {xs : Nat → Int32} {n : Nat} {sf : Option Nat} (hsf : sf = none ∨ sf = some 1200000) : wGoes x_KT x_tb x_tyl (x_otS xs n sf) lwFR lwGA.length lwGB.length 27 26 43 fin0WA fin0WB 116 244 60 60 fin0_in fin0o0 :=
  wDp (wWk (wEd_spec (x_ov0_le sf) (u_ctKS0 hsf) lwFRok fin0E0) (Nat.le_refl _) (Nat.le_refl _) (Nat.le_refl _) (by decide +kernel) (by decide +kernel)) (by decide) (by decide)
theorem fin0N1 {xs : Nat → Int32} {n : Nat} {sf : Option Nat} (hsf : sf = none ∨ sf = some 1200000) : wGoes x_KT x_tb x_tyl (x_otS xs n sf) lwFR lwGA.length lwGB.length 27 26 43 fin0WA fin0WB 116 244 60 60 fin0_lr fin0o1 :=
  wDp (wWk (wFamE2 (V := [5, 6, 7, 9, 10, 8]) (x_ov0_le sf) (u_ctKS0 hsf) lwFRok fin0E1 (by decide) (by decide) (fun i hi u hu => by
      have hi : i ∈ ([5, 6, 7, 9, 10, 8] : List Nat) := hi
      simp only [List.mem_cons, List.not_mem_nil, or_false] at hi
      rcases hi with rfl | rfl | rfl | rfl | rfl | rfl
      · exact gRk_spec (x_ov0_le sf) (u_ctKS0 hsf) lwFRok fin0E1 (by decide) (by decide) fin0E1G0 (by decide +kernel) _ (List.mem_cons_self) u hu
      · exact gRk_spec (x_ov0_le sf) (u_ctKS0 hsf) lwFRok fin0E1 (by decide) (by decide) fin0E1G0 (by decide +kernel) _ (List.mem_cons_of_mem _ (List.mem_cons_self)) u hu
      · exact gRk_spec (x_ov0_le sf) (u_ctKS0 hsf) lwFRok fin0E1 (by decide) (by decide) fin0E1G0 (by decide +kernel) _ (List.mem_cons_of_mem _ (List.mem_cons_of_mem _ (List.mem_cons_self))) u hu
      · exact gRk_spec (x_ov0_le sf) (u_ctKS0 hsf) lwFRok fin0E1 (by decide) (by decide) fin0E1G0 (by decide +kernel) _ (List.mem_cons_of_mem _ (List.mem_cons_of_mem _ (List.mem_cons_of_mem _ (List.mem_cons_self)))) u hu
      · exact gRk_spec (x_ov0_le sf) (u_ctKS0 hsf) lwFRok fin0E1 (by decide) (by decide) fin0E1G0 (by decide +kernel) _ (List.mem_cons_of_mem _ (List.mem_cons_of_mem _ (List.mem_cons_of_mem _ (List.mem_cons_of_mem _ (List.mem_cons_self))))) u hu
      · exact gRk_spec (x_ov0_le sf) (u_ctKS0 hsf) lwFRok fin0E1 (by decide) (by decide) fin0E1G0 (by decide +kernel) _ (List.mem_cons_of_mem _ (List.mem_cons_of_mem _ (List.mem_cons_of_mem _ (List.mem_cons_of_mem _ (List.mem_cons_of_mem _ (List.mem_cons_self)))))) u hu)) (Nat.le_refl _) (Nat.le_refl _) (Nat.le_refl _) (by decide +kernel) (by decide +kernel)) (by decide) (by decide)
theorem fin0N2 {xs : Nat → Int32} {n : Nat} {sf : Option Nat} (hsf : sf = none ∨ sf = some 1200000) : wGoes x_KT x_tb x_tyl (x_otS xs n sf) lwFR lwGA.length lwGB.length 27 26 43 fin0WA fin0WB 116 244 60 60 fin0_lo fin0o2 :=
  wDp (wWk (wEd_spec (x_ov0_le sf) (u_ctKS0 hsf) lwFRok fin0E2) (Nat.le_refl _) (Nat.le_refl _) (Nat.le_refl _) (by decide +kernel) (by decide +kernel)) (by decide) (by decide)
theorem fin1N0 {xs : Nat → Int32} {n : Nat} {sf : Option Nat} (hsf : sf = none ∨ sf = some 1200000) : wGoes x_KT x_tb x_tyl (x_otS xs n sf) lwFR lwGA.length lwGB.length 27 26 43 fin1WA fin1WB 116 244 60 60 fin1_in fin1o0 :=
  wDp (wWk (wEd_spec (x_ov0_le sf) (u_ctKS0 hsf) lwFRok fin1E0) (Nat.le_refl _) (Nat.le_refl _) (Nat.le_refl _) (by decide +kernel) (by decide +kernel)) (by decide) (by decide)
theorem fin1N1 {xs : Nat → Int32} {n : Nat} {sf : Option Nat} (hsf : sf = none ∨ sf = some 1200000) : wGoes x_KT x_tb x_tyl (x_otS xs n sf) lwFR lwGA.length lwGB.length 27 26 43 fin1WA fin1WB 116 244 60 60 fin1_lr fin1o1 :=
  wDp (wWk (wFamE2 (V := [5, 6, 7, 9, 10, 8]) (x_ov0_le sf) (u_ctKS0 hsf) lwFRok fin1E1 (by decide) (by decide) (fun i hi u hu => by
      have hi : i ∈ ([5, 6, 7, 9, 10, 8] : List Nat) := hi
      simp only [List.mem_cons, List.not_mem_nil, or_false] at hi
      rcases hi with rfl | rfl | rfl | rfl | rfl | rfl
      · exact gRk_spec (x_ov0_le sf) (u_ctKS0 hsf) lwFRok fin1E1 (by decide) (by decide) fin1E1G0 (by decide +kernel) _ (List.mem_cons_self) u hu
      · exact gRk_spec (x_ov0_le sf) (u_ctKS0 hsf) lwFRok fin1E1 (by decide) (by decide) fin1E1G0 (by decide +kernel) _ (List.mem_cons_of_mem _ (List.mem_cons_self)) u hu
      · exact gRk_spec (x_ov0_le sf) (u_ctKS0 hsf) lwFRok fin1E1 (by decide) (by decide) fin1E1G0 (by decide +kernel) _ (List.mem_cons_of_mem _ (List.mem_cons_of_mem _ (List.mem_cons_self))) u hu
      · exact gRk_spec (x_ov0_le sf) (u_ctKS0 hsf) lwFRok fin1E1 (by decide) (by decide) fin1E1G0 (by decide +kernel) _ (List.mem_cons_of_mem _ (List.mem_cons_of_mem _ (List.mem_cons_of_mem _ (List.mem_cons_self)))) u hu
      · exact gRk_spec (x_ov0_le sf) (u_ctKS0 hsf) lwFRok fin1E1 (by decide) (by decide) fin1E1G0 (by decide +kernel) _ (List.mem_cons_of_mem _ (List.mem_cons_of_mem _ (List.mem_cons_of_mem _ (List.mem_cons_of_mem _ (List.mem_cons_self))))) u hu
      · exact gRk_spec (x_ov0_le sf) (u_ctKS0 hsf) lwFRok fin1E1 (by decide) (by decide) fin1E1G0 (by decide +kernel) _ (List.mem_cons_of_mem _ (List.mem_cons_of_mem _ (List.mem_cons_of_mem _ (List.mem_cons_of_mem _ (List.mem_cons_of_mem _ (List.mem_cons_self)))))) u hu)) (Nat.le_refl _) (Nat.le_refl _) (Nat.le_refl _) (by decide +kernel) (by decide +kernel)) (by decide) (by decide)
theorem fin1N2 {xs : Nat → Int32} {n : Nat} {sf : Option Nat} (hsf : sf = none ∨ sf = some 1200000) : wGoes x_KT x_tb x_tyl (x_otS xs n sf) lwFR lwGA.length lwGB.length 27 26 43 fin1WA fin1WB 116 244 60 60 fin1_lo fin1o2 :=
  wDp (wWk (wEd_spec (x_ov0_le sf) (u_ctKS0 hsf) lwFRok fin1E2) (Nat.le_refl _) (Nat.le_refl _) (Nat.le_refl _) (by decide +kernel) (by decide +kernel)) (by decide) (by decide)
theorem u_ctKS1 {xs : Nat → Int32} {n : Nat} {sf : Option Nat} (hsf : sf = none ∨ sf = some 1200000) : ∀ j c, c ∈ u_ctK1 j → vCtSem x_KT x_tb x_tyl (x_otS xs n sf) j c := fun j c h => by
  unfold u_ctK1 at h
  cases hb : (Nat.beq j 83) with
  | true =>
    rw [hb] at h
    exact x_allS xs n hsf j c h
  | false =>
    rw [hb] at h
    exact absurd h List.not_mem_nil
set_option maxRecDepth 1000000 in
theorem gq115 : tMth x_tb 115 = some xm115 := rfl
def fin0_g0_nd : List wE := [fin0_in, fin0_lr, fin0_lo]
theorem fin0_g0_G {xs : Nat → Int32} {n : Nat} {sf : Option Nat} (hsf : sf = none ∨ sf = some 1200000) : ∀ nd ∈ fin0_g0_nd, wGoes x_KT x_tb x_tyl (x_otS xs n sf) lwFR lwGA.length lwGB.length 27 26 43 fin0WA fin0WB 116 244 60 60 nd (fin0_g0_ex.map (fun x => (false, x))) := wGraph (fun nd hnd => by
  have hnd : nd ∈ ([fin0_in, fin0_lr, fin0_lo] : List wE) := hnd
  simp only [List.mem_cons, List.not_mem_nil, or_false] at hnd
  rcases hnd with rfl | rfl | rfl
  · refine ⟨fin0o0, fin0N0 hsf, fun o ho => ?_⟩
    have ho : o ∈ ([(true, fin0_lr), (true, fin0_lo)] : List (Bool × wE)) := ho
    simp only [List.mem_cons, List.not_mem_nil, or_false] at ho
    rcases ho with rfl | rfl
    · exact Or.inr ⟨rfl, List.mem_cons_of_mem _ (List.mem_cons_self)⟩
    · exact Or.inr ⟨rfl, List.mem_cons_of_mem _ (List.mem_cons_of_mem _ (List.mem_cons_self))⟩
  · refine ⟨fin0o1, fin0N1 hsf, fun o ho => ?_⟩
    have ho : o ∈ ([(true, fin0_lr), (true, fin0_lo), (false, fin0_out)] : List (Bool × wE)) := ho
    simp only [List.mem_cons, List.not_mem_nil, or_false] at ho
    rcases ho with rfl | rfl | rfl
    · exact Or.inr ⟨rfl, List.mem_cons_of_mem _ (List.mem_cons_self)⟩
    · exact Or.inr ⟨rfl, List.mem_cons_of_mem _ (List.mem_cons_of_mem _ (List.mem_cons_self))⟩
    · exact Or.inl (List.mem_cons_self)
  · refine ⟨fin0o2, fin0N2 hsf, fun o ho => ?_⟩
    have ho : o ∈ ([(false, fin0_out)] : List (Bool × wE)) := ho
    simp only [List.mem_cons, List.not_mem_nil, or_false] at ho
    rcases ho with rfl
    · exact Or.inl (List.mem_cons_self))
theorem cbaN0 {xs : Nat → Int32} {n : Nat} {sf : Option Nat} (hsf : sf = none ∨ sf = some 1200000) : wGoes x_KT x_tb x_tyl (x_otS xs n sf) lwFR lwGA.length lwGB.length 26 26 43 cbaWA cbaWB 115 244 61 60 cba_c0 cbao0 :=
  wDp (wWk (wEqvB (wCallA (recv := 4) (pc := 60) (ix := 320) (nx := 3) (args := []) (rest := []) (LE := [(0, .inr (some 0)), (1, .inr (some 25)), (2, .inl (lSy 25))]) (cE := (lK 0)) (sE := (lK 0)) (wReL (XA := cbaX0.2.1) (XB := cbaX0.2.2.1) (XC := cbaX0.2.2.2.1) (rk := cbaX0.2.2.2.2) (rA := cbaQA0) (rB := cbaQB0) (fin0_g0_G hsf _ List.mem_cons_self) cbaL0) gq115 gq116 (by decide +kernel) (by decide +kernel) (by decide +kernel) (by decide +kernel) (by decide +kernel)) (by decide +kernel) (by decide +kernel)) (by decide) (by decide) (by decide) (by decide +kernel) (by decide +kernel)) (by decide) (by decide)
theorem cbaN1 {xs : Nat → Int32} {n : Nat} {sf : Option Nat} (hsf : sf = none ∨ sf = some 1200000) : wGoes x_KT x_tb x_tyl (x_otS xs n sf) lwFR lwGA.length lwGB.length 26 26 43 cbaWA cbaWB 115 244 61 60 cba_in cbao1 :=
  wDp (wWk (wFamE2 (V := [5, 6, 7, 9, 10, 8]) (x_ov0_le sf) (u_ctKS1 hsf) lwFRok cbaE1 (by decide) (by decide) (fun i hi u hu => by
      have hi : i ∈ ([5, 6, 7, 9, 10, 8] : List Nat) := hi
      simp only [List.mem_cons, List.not_mem_nil, or_false] at hi
      rcases hi with rfl | rfl | rfl | rfl | rfl | rfl
      · exact gRk_spec (x_ov0_le sf) (u_ctKS1 hsf) lwFRok cbaE1 (by decide) (by decide) cbaE1G0 (by decide +kernel) _ (List.mem_cons_self) u hu
      · exact gRk_spec (x_ov0_le sf) (u_ctKS1 hsf) lwFRok cbaE1 (by decide) (by decide) cbaE1G0 (by decide +kernel) _ (List.mem_cons_of_mem _ (List.mem_cons_self)) u hu
      · exact gRk_spec (x_ov0_le sf) (u_ctKS1 hsf) lwFRok cbaE1 (by decide) (by decide) cbaE1G0 (by decide +kernel) _ (List.mem_cons_of_mem _ (List.mem_cons_of_mem _ (List.mem_cons_self))) u hu
      · exact gRk_spec (x_ov0_le sf) (u_ctKS1 hsf) lwFRok cbaE1 (by decide) (by decide) cbaE1G0 (by decide +kernel) _ (List.mem_cons_of_mem _ (List.mem_cons_of_mem _ (List.mem_cons_of_mem _ (List.mem_cons_self)))) u hu
      · exact gRk_spec (x_ov0_le sf) (u_ctKS1 hsf) lwFRok cbaE1 (by decide) (by decide) cbaE1G0 (by decide +kernel) _ (List.mem_cons_of_mem _ (List.mem_cons_of_mem _ (List.mem_cons_of_mem _ (List.mem_cons_of_mem _ (List.mem_cons_self))))) u hu
      · exact gRk_spec (x_ov0_le sf) (u_ctKS1 hsf) lwFRok cbaE1 (by decide) (by decide) cbaE1G0 (by decide +kernel) _ (List.mem_cons_of_mem _ (List.mem_cons_of_mem _ (List.mem_cons_of_mem _ (List.mem_cons_of_mem _ (List.mem_cons_of_mem _ (List.mem_cons_self)))))) u hu)) (Nat.le_refl _) (Nat.le_refl _) (Nat.le_refl _) (by decide +kernel) (by decide +kernel)) (by decide) (by decide)
def fin1_g0_nd : List wE := [fin1_in, fin1_lr, fin1_lo]
theorem fin1_g0_G {xs : Nat → Int32} {n : Nat} {sf : Option Nat} (hsf : sf = none ∨ sf = some 1200000) : ∀ nd ∈ fin1_g0_nd, wGoes x_KT x_tb x_tyl (x_otS xs n sf) lwFR lwGA.length lwGB.length 27 26 43 fin1WA fin1WB 116 244 60 60 nd (fin1_g0_ex.map (fun x => (false, x))) := wGraph (fun nd hnd => by
  have hnd : nd ∈ ([fin1_in, fin1_lr, fin1_lo] : List wE) := hnd
  simp only [List.mem_cons, List.not_mem_nil, or_false] at hnd
  rcases hnd with rfl | rfl | rfl
  · refine ⟨fin1o0, fin1N0 hsf, fun o ho => ?_⟩
    have ho : o ∈ ([(true, fin1_lr), (true, fin1_lo)] : List (Bool × wE)) := ho
    simp only [List.mem_cons, List.not_mem_nil, or_false] at ho
    rcases ho with rfl | rfl
    · exact Or.inr ⟨rfl, List.mem_cons_of_mem _ (List.mem_cons_self)⟩
    · exact Or.inr ⟨rfl, List.mem_cons_of_mem _ (List.mem_cons_of_mem _ (List.mem_cons_self))⟩
  · refine ⟨fin1o1, fin1N1 hsf, fun o ho => ?_⟩
    have ho : o ∈ ([(true, fin1_lr), (true, fin1_lo), (false, fin1_out)] : List (Bool × wE)) := ho
    simp only [List.mem_cons, List.not_mem_nil, or_false] at ho
    rcases ho with rfl | rfl | rfl
    · exact Or.inr ⟨rfl, List.mem_cons_of_mem _ (List.mem_cons_self)⟩
    · exact Or.inr ⟨rfl, List.mem_cons_of_mem _ (List.mem_cons_of_mem _ (List.mem_cons_self))⟩
    · exact Or.inl (List.mem_cons_self)
  · refine ⟨fin1o2, fin1N2 hsf, fun o ho => ?_⟩
    have ho : o ∈ ([(false, fin1_out)] : List (Bool × wE)) := ho
    simp only [List.mem_cons, List.not_mem_nil, or_false] at ho
    rcases ho with rfl
    · exact Or.inl (List.mem_cons_self))
theorem cbaN2 {xs : Nat → Int32} {n : Nat} {sf : Option Nat} (hsf : sf = none ∨ sf = some 1200000) : wGoes x_KT x_tb x_tyl (x_otS xs n sf) lwFR lwGA.length lwGB.length 26 26 43 cbaWA cbaWB 115 244 61 60 cba_c1 cbao2 :=
  wDp (wWk (wEqvB (wCallA (recv := 8) (pc := 68) (ix := 320) (nx := 3) (args := []) (rest := []) (LE := [(0, .inr (some 0)), (1, .inr (some 25)), (2, .inl (lSy 25)), (3, .inl (lSy 26))]) (cE := (lK 0)) (sE := (lK 0)) (wReL (XA := cbaX2.2.1) (XB := cbaX2.2.2.1) (XC := cbaX2.2.2.2.1) (rk := cbaX2.2.2.2.2) (rA := cbaQA2) (rB := cbaQB2) (fin1_g0_G hsf _ List.mem_cons_self) cbaL2) gq115 gq116 (by decide +kernel) (by decide +kernel) (by decide +kernel) (by decide +kernel) (by decide +kernel)) (by decide +kernel) (by decide +kernel)) (by decide) (by decide) (by decide) (by decide +kernel) (by decide +kernel)) (by decide) (by decide)
theorem cbaN3 {xs : Nat → Int32} {n : Nat} {sf : Option Nat} (hsf : sf = none ∨ sf = some 1200000) : wGoes x_KT x_tb x_tyl (x_otS xs n sf) lwFR lwGA.length lwGB.length 26 26 43 cbaWA cbaWB 115 244 61 60 cba_c0_out cbao3 :=
  wDp (wWk (wEd_spec (x_ov0_le sf) (u_ctKS1 hsf) lwFRok cbaE3) (Nat.le_refl _) (Nat.le_refl _) (Nat.le_refl _) (by decide +kernel) (by decide +kernel)) (by decide) (by decide)
theorem cbaN4 {xs : Nat → Int32} {n : Nat} {sf : Option Nat} (hsf : sf = none ∨ sf = some 1200000) : wGoes x_KT x_tb x_tyl (x_otS xs n sf) lwFR lwGA.length lwGB.length 26 26 43 cbaWA cbaWB 115 244 61 60 cba_c1_out cbao4 :=
  wDp (wWk (wEd_spec (x_ov0_le sf) (u_ctKS1 hsf) lwFRok cbaE4) (Nat.le_refl _) (Nat.le_refl _) (Nat.le_refl _) (by decide +kernel) (by decide +kernel)) (by decide) (by decide)
theorem u_ctKS2 {xs : Nat → Int32} {n : Nat} {sf : Option Nat} (hsf : sf = none ∨ sf = some 1200000) : ∀ j c, c ∈ u_ctK2 j → vCtSem x_KT x_tb x_tyl (x_otS xs n sf) j c := fun j c h => by
  unfold u_ctK2 at h
  cases hb : (Nat.beq j 203 || Nat.beq j 211) with
  | true =>
    rw [hb] at h
    exact x_allS xs n hsf j c h
  | false =>
    rw [hb] at h
    exact absurd h List.not_mem_nil
set_option maxRecDepth 1000000 in
theorem gq112 : tMth x_tb 112 = some xm112 := rfl
set_option maxRecDepth 1000000 in
theorem gq242 : tMth x_tb 242 = some xm242 := rfl
theorem breaksN0 {xs : Nat → Int32} {n : Nat} {sf : Option Nat} (hsf : sf = none ∨ sf = some 1200000) : wGoes x_KT x_tb x_tyl (x_otS xs n sf) lwFR lwGA.length lwGB.length 5 25 43 breaksWA breaksWB 112 242 62 60 breaks_in breakso0 :=
  wDp (wWk (wEd_spec (x_ov0_le sf) (u_ctKS2 hsf) lwFRok breaksE0) (Nat.le_refl _) (Nat.le_refl _) (Nat.le_refl _) (by decide +kernel) (by decide +kernel)) (by decide) (by decide)
theorem breaksN1 {xs : Nat → Int32} {n : Nat} {sf : Option Nat} (hsf : sf = none ∨ sf = some 1200000) : wGoes x_KT x_tb x_tyl (x_otS xs n sf) lwFR lwGA.length lwGB.length 5 25 43 breaksWA breaksWB 112 242 62 60 breaks_m breakso1 :=
  wDp (wWk (wFamE2 (V := [0, 2, 3]) (x_ov0_le sf) (u_ctKS2 hsf) lwFRok breaksE1 (by decide) (by decide) (fun i hi u hu => by
      have hi : i ∈ ([0, 2, 3] : List Nat) := hi
      simp only [List.mem_cons, List.not_mem_nil, or_false] at hi
      rcases hi with rfl | rfl | rfl
      · cases hu
        exact wRkE_spec (x_ov0_le sf) (u_ctKS2 hsf) lwFRok breaksE1R0
      · cases hu
        exact wRkE_spec (x_ov0_le sf) (u_ctKS2 hsf) lwFRok breaksE1R2
      · cases hu
        exact wRkE_spec (x_ov0_le sf) (u_ctKS2 hsf) lwFRok breaksE1R3)) (Nat.le_refl _) (Nat.le_refl _) (Nat.le_refl _) (by decide +kernel) (by decide +kernel)) (by decide) (by decide)
def cba_g0_nd : List wE := [cba_in, cba_c0, cba_c0_out, cba_c1, cba_c1_out]
theorem cba_g0_G {xs : Nat → Int32} {n : Nat} {sf : Option Nat} (hsf : sf = none ∨ sf = some 1200000) : ∀ nd ∈ cba_g0_nd, wGoes x_KT x_tb x_tyl (x_otS xs n sf) lwFR lwGA.length lwGB.length 26 26 43 cbaWA cbaWB 115 244 61 60 nd (cba_g0_ex.map (fun x => (false, x))) := wGraph (fun nd hnd => by
  have hnd : nd ∈ ([cba_in, cba_c0, cba_c0_out, cba_c1, cba_c1_out] : List wE) := hnd
  simp only [List.mem_cons, List.not_mem_nil, or_false] at hnd
  rcases hnd with rfl | rfl | rfl | rfl | rfl
  · refine ⟨cbao1, cbaN1 hsf, fun o ho => ?_⟩
    have ho : o ∈ ([(true, cba_c0)] : List (Bool × wE)) := ho
    simp only [List.mem_cons, List.not_mem_nil, or_false] at ho
    rcases ho with rfl
    · exact Or.inr ⟨rfl, List.mem_cons_of_mem _ (List.mem_cons_self)⟩
  · refine ⟨cbao0, cbaN0 hsf, fun o ho => ?_⟩
    have ho : o ∈ ([(true, cba_c0_out)] : List (Bool × wE)) := ho
    simp only [List.mem_cons, List.not_mem_nil, or_false] at ho
    rcases ho with rfl
    · exact Or.inr ⟨rfl, List.mem_cons_of_mem _ (List.mem_cons_of_mem _ (List.mem_cons_self))⟩
  · refine ⟨cbao3, cbaN3 hsf, fun o ho => ?_⟩
    have ho : o ∈ ([(true, cba_c1)] : List (Bool × wE)) := ho
    simp only [List.mem_cons, List.not_mem_nil, or_false] at ho
    rcases ho with rfl
    · exact Or.inr ⟨rfl, List.mem_cons_of_mem _ (List.mem_cons_of_mem _ (List.mem_cons_of_mem _ (List.mem_cons_self)))⟩
  · refine ⟨cbao2, cbaN2 hsf, fun o ho => ?_⟩
    have ho : o ∈ ([(true, cba_c1_out)] : List (Bool × wE)) := ho
    simp only [List.mem_cons, List.not_mem_nil, or_false] at ho
    rcases ho with rfl
    · exact Or.inr ⟨rfl, List.mem_cons_of_mem _ (List.mem_cons_of_mem _ (List.mem_cons_of_mem _ (List.mem_cons_of_mem _ (List.mem_cons_self))))⟩
  · refine ⟨cbao4, cbaN4 hsf, fun o ho => ?_⟩
    have ho : o ∈ ([(false, cba_out)] : List (Bool × wE)) := ho
    simp only [List.mem_cons, List.not_mem_nil, or_false] at ho
    rcases ho with rfl
    · exact Or.inl (List.mem_cons_self))
theorem breaksN2 {xs : Nat → Int32} {n : Nat} {sf : Option Nat} (hsf : sf = none ∨ sf = some 1200000) : wGoes x_KT x_tb x_tyl (x_otS xs n sf) lwFR lwGA.length lwGB.length 5 25 43 breaksWA breaksWB 112 242 62 60 breaks_c breakso2 :=
  wDp (wWk (wEqvB (wCallA (recv := 0) (pc := 78) (ix := 302) (nx := 3) (args := [.inr (some 25), .inl (lSy 25)]) (rest := []) (LE := [(0, .inr (some 0)), (1, .inl (lSy 11)), (2, .inl (lSy 5)), (3, .inl (lSy 6)), (4, .inl (lSy 7)), (5, .inl (lSy 8)), (6, .inr (some 25)), (7, .inl (lSy 9)), (8, .inl (lSy 10)), (9, .inl (lSy 25))]) (cE := (lK 0)) (sE := (lK 0)) (wLift (dpB := 60) (pc := 41) (pcP := 43) (nx := 1) (LE := [(0, .inr (some 0)), (1, .inl (lSy 11)), (2, .inl (lSy 5)), (3, .inl (lSy 6)), (4, .inl (lSy 7)), (5, .inl (lSy 8))]) (SE := []) (cE := (lK 0)) (sE := (lK 0)) (wReL (XA := breaksX2.2.1) (XB := breaksX2.2.2.1) (XC := breaksX2.2.2.2.1) (rk := breaksX2.2.2.2.2) (rA := breaksQA2) (rB := breaksQB2) (cba_g0_G hsf _ List.mem_cons_self) breaksL2) gq242 gq244 (by decide +kernel) (by decide +kernel) (by decide +kernel) (by decide +kernel)) gq112 gq115 (by decide +kernel) (by decide +kernel) (by decide +kernel) (by decide +kernel) (by decide +kernel)) (by decide +kernel) (by decide +kernel)) (by decide) (by decide) (by decide) (by decide +kernel) (by decide +kernel)) (by decide) (by decide)
theorem breaksN3 {xs : Nat → Int32} {n : Nat} {sf : Option Nat} (hsf : sf = none ∨ sf = some 1200000) : wGoes x_KT x_tb x_tyl (x_otS xs n sf) lwFR lwGA.length lwGB.length 5 25 43 breaksWA breaksWB 112 242 62 60 breaks_la breakso3 :=
  wDp (wWk (wEd_spec (x_ov0_le sf) (u_ctKS2 hsf) lwFRok breaksE3) (Nat.le_refl _) (Nat.le_refl _) (Nat.le_refl _) (by decide +kernel) (by decide +kernel)) (by decide) (by decide)
theorem breaksN4 {xs : Nat → Int32} {n : Nat} {sf : Option Nat} (hsf : sf = none ∨ sf = some 1200000) : wGoes x_KT x_tb x_tyl (x_otS xs n sf) lwFR lwGA.length lwGB.length 5 25 43 breaksWA breaksWB 112 242 62 60 breaks_c_out breakso4 :=
  wDp (wWk (wEd_spec (x_ov0_le sf) (u_ctKS2 hsf) lwFRok breaksE4) (Nat.le_refl _) (Nat.le_refl _) (Nat.le_refl _) (by decide +kernel) (by decide +kernel)) (by decide) (by decide)
theorem breaksN5 {xs : Nat → Int32} {n : Nat} {sf : Option Nat} (hsf : sf = none ∨ sf = some 1200000) : wGoes x_KT x_tb x_tyl (x_otS xs n sf) lwFR lwGA.length lwGB.length 5 25 43 breaksWA breaksWB 112 242 62 60 breaks_fa breakso5 :=
  wDp (wWk (wEd_spec (x_ov0_le sf) (u_ctKS2 hsf) lwFRok breaksE5) (Nat.le_refl _) (Nat.le_refl _) (Nat.le_refl _) (by decide +kernel) (by decide +kernel)) (by decide) (by decide)
theorem breaksN6 {xs : Nat → Int32} {n : Nat} {sf : Option Nat} (hsf : sf = none ∨ sf = some 1200000) : wGoes x_KT x_tb x_tyl (x_otS xs n sf) lwFR lwGA.length lwGB.length 5 25 43 breaksWA breaksWB 112 242 62 60 breaks_lb breakso6 :=
  wDp (wWk (wFamE2 (V := [2]) (x_ov0_le sf) (u_ctKS2 hsf) lwFRok breaksE6 (by decide) (by decide) (fun i hi u hu => by
      have hi : i ∈ ([2] : List Nat) := hi
      simp only [List.mem_cons, List.not_mem_nil, or_false] at hi
      rcases hi with rfl
      · cases hu
        exact wRkE_spec (x_ov0_le sf) (u_ctKS2 hsf) lwFRok breaksE6R2)) (Nat.le_refl _) (Nat.le_refl _) (Nat.le_refl _) (by decide +kernel) (by decide +kernel)) (by decide) (by decide)
theorem breaksN7 {xs : Nat → Int32} {n : Nat} {sf : Option Nat} (hsf : sf = none ∨ sf = some 1200000) : wGoes x_KT x_tb x_tyl (x_otS xs n sf) lwFR lwGA.length lwGB.length 5 25 43 breaksWA breaksWB 112 242 62 60 breaks_fb breakso7 :=
  wDp (wWk (wEd_spec (x_ov0_le sf) (u_ctKS2 hsf) lwFRok breaksE7) (Nat.le_refl _) (Nat.le_refl _) (Nat.le_refl _) (by decide +kernel) (by decide +kernel)) (by decide) (by decide)
def breaks_g0_nd : List wE := [breaks_in, breaks_m, breaks_la, breaks_c, breaks_fa, breaks_c_out, breaks_lb, breaks_fb]
theorem breaks_g0_G {xs : Nat → Int32} {n : Nat} {sf : Option Nat} (hsf : sf = none ∨ sf = some 1200000) : ∀ nd ∈ breaks_g0_nd, wGoes x_KT x_tb x_tyl (x_otS xs n sf) lwFR lwGA.length lwGB.length 5 25 43 breaksWA breaksWB 112 242 62 60 nd (breaks_g0_ex.map (fun x => (false, x))) := wGraph (fun nd hnd => by
  have hnd : nd ∈ ([breaks_in, breaks_m, breaks_la, breaks_c, breaks_fa, breaks_c_out, breaks_lb, breaks_fb] : List wE) := hnd
  simp only [List.mem_cons, List.not_mem_nil, or_false] at hnd
  rcases hnd with rfl | rfl | rfl | rfl | rfl | rfl | rfl | rfl
  · refine ⟨breakso0, breaksN0 hsf, fun o ho => ?_⟩
    have ho : o ∈ ([(true, breaks_m), (false, breaks_out)] : List (Bool × wE)) := ho
    simp only [List.mem_cons, List.not_mem_nil, or_false] at ho
    rcases ho with rfl | rfl
    · exact Or.inr ⟨rfl, List.mem_cons_of_mem _ (List.mem_cons_self)⟩
    · exact Or.inl (List.mem_cons_self)
  · refine ⟨breakso1, breaksN1 hsf, fun o ho => ?_⟩
    have ho : o ∈ ([(true, breaks_la)] : List (Bool × wE)) := ho
    simp only [List.mem_cons, List.not_mem_nil, or_false] at ho
    rcases ho with rfl
    · exact Or.inr ⟨rfl, List.mem_cons_of_mem _ (List.mem_cons_of_mem _ (List.mem_cons_self))⟩
  · refine ⟨breakso3, breaksN3 hsf, fun o ho => ?_⟩
    have ho : o ∈ ([(true, breaks_c), (true, breaks_fa)] : List (Bool × wE)) := ho
    simp only [List.mem_cons, List.not_mem_nil, or_false] at ho
    rcases ho with rfl | rfl
    · exact Or.inr ⟨rfl, List.mem_cons_of_mem _ (List.mem_cons_of_mem _ (List.mem_cons_of_mem _ (List.mem_cons_self)))⟩
    · exact Or.inr ⟨rfl, List.mem_cons_of_mem _ (List.mem_cons_of_mem _ (List.mem_cons_of_mem _ (List.mem_cons_of_mem _ (List.mem_cons_self))))⟩
  · refine ⟨breakso2, breaksN2 hsf, fun o ho => ?_⟩
    have ho : o ∈ ([(true, breaks_c_out)] : List (Bool × wE)) := ho
    simp only [List.mem_cons, List.not_mem_nil, or_false] at ho
    rcases ho with rfl
    · exact Or.inr ⟨rfl, List.mem_cons_of_mem _ (List.mem_cons_of_mem _ (List.mem_cons_of_mem _ (List.mem_cons_of_mem _ (List.mem_cons_of_mem _ (List.mem_cons_self)))))⟩
  · refine ⟨breakso5, breaksN5 hsf, fun o ho => ?_⟩
    have ho : o ∈ ([(true, breaks_lb)] : List (Bool × wE)) := ho
    simp only [List.mem_cons, List.not_mem_nil, or_false] at ho
    rcases ho with rfl
    · exact Or.inr ⟨rfl, List.mem_cons_of_mem _ (List.mem_cons_of_mem _ (List.mem_cons_of_mem _ (List.mem_cons_of_mem _ (List.mem_cons_of_mem _ (List.mem_cons_of_mem _ (List.mem_cons_self))))))⟩
  · refine ⟨breakso4, breaksN4 hsf, fun o ho => ?_⟩
    have ho : o ∈ ([(true, breaks_la)] : List (Bool × wE)) := ho
    simp only [List.mem_cons, List.not_mem_nil, or_false] at ho
    rcases ho with rfl
    · exact Or.inr ⟨rfl, List.mem_cons_of_mem _ (List.mem_cons_of_mem _ (List.mem_cons_self))⟩
  · refine ⟨breakso6, breaksN6 hsf, fun o ho => ?_⟩
    have ho : o ∈ ([(true, breaks_lb), (true, breaks_fb)] : List (Bool × wE)) := ho
    simp only [List.mem_cons, List.not_mem_nil, or_false] at ho
    rcases ho with rfl | rfl
    · exact Or.inr ⟨rfl, List.mem_cons_of_mem _ (List.mem_cons_of_mem _ (List.mem_cons_of_mem _ (List.mem_cons_of_mem _ (List.mem_cons_of_mem _ (List.mem_cons_of_mem _ (List.mem_cons_self))))))⟩
    · exact Or.inr ⟨rfl, List.mem_cons_of_mem _ (List.mem_cons_of_mem _ (List.mem_cons_of_mem _ (List.mem_cons_of_mem _ (List.mem_cons_of_mem _ (List.mem_cons_of_mem _ (List.mem_cons_of_mem _ (List.mem_cons_self)))))))⟩
  · refine ⟨breakso7, breaksN7 hsf, fun o ho => ?_⟩
    have ho : o ∈ ([(false, breaks_out)] : List (Bool × wE)) := ho
    simp only [List.mem_cons, List.not_mem_nil, or_false] at ho
    rcases ho with rfl
    · exact Or.inl (List.mem_cons_self))
theorem breaksH {xs : Nat → Int32} {n : Nat} {sf : Option Nat} (hsf : sf = none ∨ sf = some 1200000) : wGoes x_KT x_tb x_tyl (x_otS xs n sf) lwFS lwGA.length lwGB.length 5 25 43 breaksWA breaksWB 112 242 62 60 breaks_in (breaksOX.map (fun x => x.1)) :=
  wFSr (FS := lwFR) (nh := 33) (wFam (V := []) lwFRok (by decide +kernel) (by decide +kernel) (breaks_g0_G hsf breaks_in List.mem_cons_self) (by decide) (by decide) (fun i hi u hu => by
  have hi : i ∈ ([] : List Nat) := hi
  simp only [List.mem_cons, List.not_mem_nil, or_false] at hi)) lwFRp (by decide) (by decide +kernel)
theorem breaksPP {xs : Nat → Int32} {n : Nat} {sf : Option Nat} (hsf : sf = none ∨ sf = some 1200000) : bPP x_KT x_tb x_tyl (x_otS xs n sf) lwN lwP 1299 112 242 5 (mMc xm112 + mMc xm242) (mRc xm112) (mRc xm242) False :=
  wBlkN lwFok lwFB uKa uKb (by decide +kernel) (by decide +kernel) uKdj uKj breaksbc (breaksH hsf) gq112 gq242 (by decide) (by decide) (uKeep (by decide +kernel)) (by decide +kernel) (by decide +kernel) (by decide +kernel)
set_option maxRecDepth 1000000 in
theorem gq136 : tMth x_tb 136 = some xm136 := rfl
theorem ishN0 {xs : Nat → Int32} {n : Nat} {sf : Option Nat} (hsf : sf = none ∨ sf = some 1200000) : wGoes x_KT x_tb x_tyl (x_otS xs n sf) lwFR lwGA.length lwGB.length 13 25 43 ishWA ishWB 136 244 62 60 ish_c isho0 :=
  wDp (wWk (wEqvB (wCallA (recv := 0) (pc := 75) (ix := 302) (nx := 3) (args := [.inr (some 25), .inl (lSy 25)]) (rest := []) (LE := [(0, .inr (some 0)), (1, .inl (lSy 13)), (2, .inl (lSy 14)), (3, .inr (some 25))]) (cE := (lK 0)) (sE := (lK 0)) (wReL (XA := ishX0.2.1) (XB := ishX0.2.2.1) (XC := ishX0.2.2.2.1) (rk := ishX0.2.2.2.2) (rA := ishQA0) (rB := ishQB0) (cba_g0_G hsf _ List.mem_cons_self) ishL0) gq136 gq115 (by decide +kernel) (by decide +kernel) (by decide +kernel) (by decide +kernel) (by decide +kernel)) (by decide +kernel) (by decide +kernel)) (by decide) (by decide) (by decide) (by decide +kernel) (by decide +kernel)) (by decide) (by decide)
theorem ishN1 {xs : Nat → Int32} {n : Nat} {sf : Option Nat} (hsf : sf = none ∨ sf = some 1200000) : wGoes x_KT x_tb x_tyl (x_otS xs n sf) lwFR lwGA.length lwGB.length 13 25 43 ishWA ishWB 136 244 62 60 ish_in isho1 :=
  wDp (wWk (wFamE2 (V := [0, 2, 3]) (x_ov0_le sf) u_ctS lwFRok ishE1 (by decide) (by decide) (fun i hi u hu => by
      have hi : i ∈ ([0, 2, 3] : List Nat) := hi
      simp only [List.mem_cons, List.not_mem_nil, or_false] at hi
      rcases hi with rfl | rfl | rfl
      · cases hu
        exact wRkE_spec (x_ov0_le sf) u_ctS lwFRok ishE1R0
      · cases hu
        exact wRkE_spec (x_ov0_le sf) u_ctS lwFRok ishE1R2
      · cases hu
        exact wRkE_spec (x_ov0_le sf) u_ctS lwFRok ishE1R3)) (Nat.le_refl _) (Nat.le_refl _) (Nat.le_refl _) (by decide +kernel) (by decide +kernel)) (by decide) (by decide)
theorem ishN2 {xs : Nat → Int32} {n : Nat} {sf : Option Nat} (hsf : sf = none ∨ sf = some 1200000) : wGoes x_KT x_tb x_tyl (x_otS xs n sf) lwFR lwGA.length lwGB.length 13 25 43 ishWA ishWB 136 244 62 60 ish_c_out isho2 :=
  wDp (wWk (wEd_spec (x_ov0_le sf) u_ctS lwFRok ishE2) (Nat.le_refl _) (Nat.le_refl _) (Nat.le_refl _) (by decide +kernel) (by decide +kernel)) (by decide) (by decide)
set_option maxRecDepth 1000000 in
theorem gq113 : tMth x_tb 113 = some xm113 := rfl
set_option maxRecDepth 1000000 in
theorem gq243 : tMth x_tb 243 = some xm243 := rfl
theorem chbN0 {xs : Nat → Int32} {n : Nat} {sf : Option Nat} (hsf : sf = none ∨ sf = some 1200000) : wGoes x_KT x_tb x_tyl (x_otS xs n sf) lwFR lwGA.length lwGB.length 25 25 43 chbWA chbWB 113 243 60 60 chb_in chbo0 :=
  wDp (wWk (wFamE2 (V := [2]) (x_ov0_le sf) (u_ctKS2 hsf) lwFRok chbE0 (by decide) (by decide) (fun i hi u hu => by
      have hi : i ∈ ([2] : List Nat) := hi
      simp only [List.mem_cons, List.not_mem_nil, or_false] at hi
      rcases hi with rfl
      · cases hu
        exact wRkE_spec (x_ov0_le sf) (u_ctKS2 hsf) lwFRok chbE0R2)) (Nat.le_refl _) (Nat.le_refl _) (Nat.le_refl _) (by decide +kernel) (by decide +kernel)) (by decide) (by decide)
set_option maxRecDepth 1000000 in
theorem gq248 : tMth x_tb 248 = some xm248 := rfl
def chb_g0_nd : List wE := [chb_in]
theorem chb_g0_G {xs : Nat → Int32} {n : Nat} {sf : Option Nat} (hsf : sf = none ∨ sf = some 1200000) : ∀ nd ∈ chb_g0_nd, wGoes x_KT x_tb x_tyl (x_otS xs n sf) lwFR lwGA.length lwGB.length 25 25 43 chbWA chbWB 113 243 60 60 nd (chb_g0_ex.map (fun x => (false, x))) := wGraph (fun nd hnd => by
  have hnd : nd ∈ ([chb_in] : List wE) := hnd
  simp only [List.mem_cons, List.not_mem_nil, or_false] at hnd
  rcases hnd with rfl
  · refine ⟨chbo0, chbN0 hsf, fun o ho => ?_⟩
    have ho : o ∈ ([(false, chb_out)] : List (Bool × wE)) := ho
    simp only [List.mem_cons, List.not_mem_nil, or_false] at ho
    rcases ho with rfl
    · exact Or.inl (List.mem_cons_self))
theorem isbN0 {xs : Nat → Int32} {n : Nat} {sf : Option Nat} (hsf : sf = none ∨ sf = some 1200000) : wGoes x_KT x_tb x_tyl (x_otS xs n sf) lwFR lwGA.length lwGB.length 13 25 43 isbWA isbWB 113 248 60 61 isb_c isbo0 :=
  wDp (wWk (wEqvB (wCallB (recv := 0) (pc := 27) (ix := 395) (nx := 3) (args := [.inl (lSy 25), .inl (lSy 26), .inl (lSy 27), .inl (lSy 28), .inl (lSy 29), .inl (lSy 30)]) (rest := []) (LE := [(0, .inr (some 0)), (1, .inl (lSy 13)), (2, .inl (lSy 14))]) (cE := (lK 0)) (sE := (lK 0)) (wReL (XA := isbX0.2.1) (XB := isbX0.2.2.1) (XC := isbX0.2.2.2.1) (rk := isbX0.2.2.2.2) (rA := isbQA0) (rB := isbQB0) (chb_g0_G hsf _ List.mem_cons_self) isbL0) gq248 gq243 (by decide +kernel) (by decide +kernel) (by decide +kernel) (by decide +kernel) (by decide +kernel)) (by decide +kernel) (by decide +kernel)) (by decide) (by decide) (by decide) (by decide +kernel) (by decide +kernel)) (by decide) (by decide)
theorem isbN1 {xs : Nat → Int32} {n : Nat} {sf : Option Nat} (hsf : sf = none ∨ sf = some 1200000) : wGoes x_KT x_tb x_tyl (x_otS xs n sf) lwFR lwGA.length lwGB.length 13 25 43 isbWA isbWB 113 248 60 61 isb_in isbo1 :=
  wDp (wWk (wEd_spec (x_ov0_le sf) u_ctS lwFRok isbE1) (Nat.le_refl _) (Nat.le_refl _) (Nat.le_refl _) (by decide +kernel) (by decide +kernel)) (by decide) (by decide)
theorem isbN2 {xs : Nat → Int32} {n : Nat} {sf : Option Nat} (hsf : sf = none ∨ sf = some 1200000) : wGoes x_KT x_tb x_tyl (x_otS xs n sf) lwFR lwGA.length lwGB.length 13 25 43 isbWA isbWB 113 248 60 61 isb_c_out isbo2 :=
  wDp (wWk (wEd_spec (x_ov0_le sf) u_ctS lwFRok isbE2) (Nat.le_refl _) (Nat.le_refl _) (Nat.le_refl _) (by decide +kernel) (by decide +kernel)) (by decide) (by decide)
set_option maxRecDepth 1000000 in
theorem gq135 : tMth x_tb 135 = some xm135 := rfl
set_option maxRecDepth 1000000 in
theorem gq247 : tMth x_tb 247 = some xm247 := rfl
def ish_g0_nd : List wE := [ish_in, ish_c, ish_c_out]
theorem ish_g0_G {xs : Nat → Int32} {n : Nat} {sf : Option Nat} (hsf : sf = none ∨ sf = some 1200000) : ∀ nd ∈ ish_g0_nd, wGoes x_KT x_tb x_tyl (x_otS xs n sf) lwFR lwGA.length lwGB.length 13 25 43 ishWA ishWB 136 244 62 60 nd (ish_g0_ex.map (fun x => (false, x))) := wGraph (fun nd hnd => by
  have hnd : nd ∈ ([ish_in, ish_c, ish_c_out] : List wE) := hnd
  simp only [List.mem_cons, List.not_mem_nil, or_false] at hnd
  rcases hnd with rfl | rfl | rfl
  · refine ⟨isho1, ishN1 hsf, fun o ho => ?_⟩
    have ho : o ∈ ([(true, ish_c), (false, ish_out)] : List (Bool × wE)) := ho
    simp only [List.mem_cons, List.not_mem_nil, or_false] at ho
    rcases ho with rfl | rfl
    · exact Or.inr ⟨rfl, List.mem_cons_of_mem _ (List.mem_cons_self)⟩
    · exact Or.inl (List.mem_cons_self)
  · refine ⟨isho0, ishN0 hsf, fun o ho => ?_⟩
    have ho : o ∈ ([(true, ish_c_out)] : List (Bool × wE)) := ho
    simp only [List.mem_cons, List.not_mem_nil, or_false] at ho
    rcases ho with rfl
    · exact Or.inr ⟨rfl, List.mem_cons_of_mem _ (List.mem_cons_of_mem _ (List.mem_cons_self))⟩
  · refine ⟨isho2, ishN2 hsf, fun o ho => ?_⟩
    have ho : o ∈ ([(false, ish_out)] : List (Bool × wE)) := ho
    simp only [List.mem_cons, List.not_mem_nil, or_false] at ho
    rcases ho with rfl
    · exact Or.inl (List.mem_cons_self))
theorem showsN0 {xs : Nat → Int32} {n : Nat} {sf : Option Nat} (hsf : sf = none ∨ sf = some 1200000) : wGoes x_KT x_tb x_tyl (x_otS xs n sf) lwFR lwGA.length lwGB.length 5 25 43 showsWA showsWB 135 247 63 62 shows_c showso0 :=
  wDp (wWk (wEqvB (wCallA (recv := 0) (pc := 29) (ix := 355) (nx := 3) (args := [.inl (lSy 13), .inl (lSy 14)]) (rest := []) (LE := [(0, .inr (some 0)), (1, .inl (lSy 5)), (2, .inl (lSy 6))]) (cE := (lK 0)) (sE := (lK 0)) (wLift (dpB := 60) (pc := 0) (pcP := 43) (nx := 1) (LE := [(0, .inr (some 0)), (1, .inl (lSy 5)), (2, .inl (lSy 6))]) (SE := []) (cE := (lK 0)) (sE := (lK 0)) (wReL (XA := showsX0.2.1) (XB := showsX0.2.2.1) (XC := showsX0.2.2.2.1) (rk := showsX0.2.2.2.2) (rA := showsQA0) (rB := showsQB0) (ish_g0_G hsf _ List.mem_cons_self) showsL0) gq247 gq244 (by decide +kernel) (by decide +kernel) (by decide +kernel) (by decide +kernel)) gq135 gq136 (by decide +kernel) (by decide +kernel) (by decide +kernel) (by decide +kernel) (by decide +kernel)) (by decide +kernel) (by decide +kernel)) (by decide) (by decide) (by decide) (by decide +kernel) (by decide +kernel)) (by decide) (by decide)
theorem showsN1 {xs : Nat → Int32} {n : Nat} {sf : Option Nat} (hsf : sf = none ∨ sf = some 1200000) : wGoes x_KT x_tb x_tyl (x_otS xs n sf) lwFR lwGA.length lwGB.length 5 25 43 showsWA showsWB 135 247 63 62 shows_in showso1 :=
  wDp (wWk (wEd_spec (x_ov0_le sf) u_ctS lwFRok showsE1) (Nat.le_refl _) (Nat.le_refl _) (Nat.le_refl _) (by decide +kernel) (by decide +kernel)) (by decide) (by decide)
theorem showsN2 {xs : Nat → Int32} {n : Nat} {sf : Option Nat} (hsf : sf = none ∨ sf = some 1200000) : wGoes x_KT x_tb x_tyl (x_otS xs n sf) lwFR lwGA.length lwGB.length 5 25 43 showsWA showsWB 135 247 63 62 shows_c_out showso2 :=
  wDp (wWk (wEd_spec (x_ov0_le sf) u_ctS lwFRok showsE2) (Nat.le_refl _) (Nat.le_refl _) (Nat.le_refl _) (by decide +kernel) (by decide +kernel)) (by decide) (by decide)
def isb_g0_nd : List wE := [isb_in, isb_c, isb_c_out]
theorem isb_g0_G {xs : Nat → Int32} {n : Nat} {sf : Option Nat} (hsf : sf = none ∨ sf = some 1200000) : ∀ nd ∈ isb_g0_nd, wGoes x_KT x_tb x_tyl (x_otS xs n sf) lwFR lwGA.length lwGB.length 13 25 43 isbWA isbWB 113 248 60 61 nd (isb_g0_ex.map (fun x => (false, x))) := wGraph (fun nd hnd => by
  have hnd : nd ∈ ([isb_in, isb_c, isb_c_out] : List wE) := hnd
  simp only [List.mem_cons, List.not_mem_nil, or_false] at hnd
  rcases hnd with rfl | rfl | rfl
  · refine ⟨isbo1, isbN1 hsf, fun o ho => ?_⟩
    have ho : o ∈ ([(true, isb_c)] : List (Bool × wE)) := ho
    simp only [List.mem_cons, List.not_mem_nil, or_false] at ho
    rcases ho with rfl
    · exact Or.inr ⟨rfl, List.mem_cons_of_mem _ (List.mem_cons_self)⟩
  · refine ⟨isbo0, isbN0 hsf, fun o ho => ?_⟩
    have ho : o ∈ ([(true, isb_c_out)] : List (Bool × wE)) := ho
    simp only [List.mem_cons, List.not_mem_nil, or_false] at ho
    rcases ho with rfl
    · exact Or.inr ⟨rfl, List.mem_cons_of_mem _ (List.mem_cons_of_mem _ (List.mem_cons_self))⟩
  · refine ⟨isbo2, isbN2 hsf, fun o ho => ?_⟩
    have ho : o ∈ ([(false, isb_out)] : List (Bool × wE)) := ho
    simp only [List.mem_cons, List.not_mem_nil, or_false] at ho
    rcases ho with rfl
    · exact Or.inl (List.mem_cons_self))
theorem showsN3 {xs : Nat → Int32} {n : Nat} {sf : Option Nat} (hsf : sf = none ∨ sf = some 1200000) : wGoes x_KT x_tb x_tyl (x_otS xs n sf) lwFR lwGA.length lwGB.length 5 25 43 showsWA showsWB 135 247 63 62 shows_cb1 showso3 :=
  wDp (wWk (wEqvB (wCallB (recv := 0) (pc := 31) (ix := 405) (nx := 3) (args := [.inl (lSy 13), .inl (lSy 14)]) (rest := []) (LE := [(0, .inr (some 0)), (1, .inl (lSy 5)), (2, .inl (lSy 6))]) (cE := (lK 0)) (sE := (lK 0)) (wLiftA (dpA := 60) (pc := 25) (pcP := 22) (nx := 1) (LE := []) (SE := [.inl (lK (-1))]) (cE := (lK 0)) (sE := (lK 0)) (wReL (XA := showsX3.2.1) (XB := showsX3.2.2.1) (XC := showsX3.2.2.2.1) (rk := showsX3.2.2.2.2) (rA := showsQA3) (rB := showsQB3) (isb_g0_G hsf _ List.mem_cons_self) showsL3) gq135 gq113 (by decide +kernel) (by decide +kernel) (by decide +kernel) (by decide +kernel)) gq247 gq248 (by decide +kernel) (by decide +kernel) (by decide +kernel) (by decide +kernel) (by decide +kernel)) (by decide +kernel) (by decide +kernel)) (by decide) (by decide) (by decide) (by decide +kernel) (by decide +kernel)) (by decide) (by decide)
theorem showsN4 {xs : Nat → Int32} {n : Nat} {sf : Option Nat} (hsf : sf = none ∨ sf = some 1200000) : wGoes x_KT x_tb x_tyl (x_otS xs n sf) lwFR lwGA.length lwGB.length 5 25 43 showsWA showsWB 135 247 63 62 shows_a1 showso4 :=
  wDp (wWk (wEd_spec (x_ov0_le sf) u_ctS lwFRok showsE4) (Nat.le_refl _) (Nat.le_refl _) (Nat.le_refl _) (by decide +kernel) (by decide +kernel)) (by decide) (by decide)
theorem showsN5 {xs : Nat → Int32} {n : Nat} {sf : Option Nat} (hsf : sf = none ∨ sf = some 1200000) : wGoes x_KT x_tb x_tyl (x_otS xs n sf) lwFR lwGA.length lwGB.length 5 25 43 showsWA showsWB 135 247 63 62 shows_cb1_out showso5 :=
  wDp (wWk (wEd_spec (x_ov0_le sf) u_ctS lwFRok showsE5) (Nat.le_refl _) (Nat.le_refl _) (Nat.le_refl _) (by decide +kernel) (by decide +kernel)) (by decide) (by decide)
theorem showsN6 {xs : Nat → Int32} {n : Nat} {sf : Option Nat} (hsf : sf = none ∨ sf = some 1200000) : wGoes x_KT x_tb x_tyl (x_otS xs n sf) lwFR lwGA.length lwGB.length 5 25 43 showsWA showsWB 135 247 63 62 shows_fb1 showso6 :=
  wDp (wWk (wEd_spec (x_ov0_le sf) u_ctS lwFRok showsE6) (Nat.le_refl _) (Nat.le_refl _) (Nat.le_refl _) (by decide +kernel) (by decide +kernel)) (by decide) (by decide)
theorem showsN7 {xs : Nat → Int32} {n : Nat} {sf : Option Nat} (hsf : sf = none ∨ sf = some 1200000) : wGoes x_KT x_tb x_tyl (x_otS xs n sf) lwFR lwGA.length lwGB.length 5 25 43 showsWA showsWB 135 247 63 62 shows_cb2 showso7 :=
  wDp (wWk (wEqvB (wCallB (recv := 0) (pc := 31) (ix := 405) (nx := 3) (args := [.inl (lSy 13), .inl (lSy 14)]) (rest := []) (LE := [(0, .inr (some 0)), (1, .inl (lSy 6)), (2, .inl (lSy 7))]) (cE := (lK 0)) (sE := (lK 0)) (wLiftA (dpA := 60) (pc := 40) (pcP := 22) (nx := 1) (LE := []) (SE := [.inl (lSy 5)]) (cE := (lK 0)) (sE := (lK 0)) (wReL (XA := showsX7.2.1) (XB := showsX7.2.2.1) (XC := showsX7.2.2.2.1) (rk := showsX7.2.2.2.2) (rA := showsQA7) (rB := showsQB7) (isb_g0_G hsf _ List.mem_cons_self) showsL7) gq135 gq113 (by decide +kernel) (by decide +kernel) (by decide +kernel) (by decide +kernel)) gq247 gq248 (by decide +kernel) (by decide +kernel) (by decide +kernel) (by decide +kernel) (by decide +kernel)) (by decide +kernel) (by decide +kernel)) (by decide) (by decide) (by decide) (by decide +kernel) (by decide +kernel)) (by decide) (by decide)
theorem showsN8 {xs : Nat → Int32} {n : Nat} {sf : Option Nat} (hsf : sf = none ∨ sf = some 1200000) : wGoes x_KT x_tb x_tyl (x_otS xs n sf) lwFR lwGA.length lwGB.length 5 25 43 showsWA showsWB 135 247 63 62 shows_a2 showso8 :=
  wDp (wWk (wEd_spec (x_ov0_le sf) u_ctS lwFRok showsE8) (Nat.le_refl _) (Nat.le_refl _) (Nat.le_refl _) (by decide +kernel) (by decide +kernel)) (by decide) (by decide)
theorem showsN9 {xs : Nat → Int32} {n : Nat} {sf : Option Nat} (hsf : sf = none ∨ sf = some 1200000) : wGoes x_KT x_tb x_tyl (x_otS xs n sf) lwFR lwGA.length lwGB.length 5 25 43 showsWA showsWB 135 247 63 62 shows_cb2_out showso9 :=
  wDp (wWk (wEd_spec (x_ov0_le sf) u_ctS lwFRok showsE9) (Nat.le_refl _) (Nat.le_refl _) (Nat.le_refl _) (by decide +kernel) (by decide +kernel)) (by decide) (by decide)
theorem showsN10 {xs : Nat → Int32} {n : Nat} {sf : Option Nat} (hsf : sf = none ∨ sf = some 1200000) : wGoes x_KT x_tb x_tyl (x_otS xs n sf) lwFR lwGA.length lwGB.length 5 25 43 showsWA showsWB 135 247 63 62 shows_fb2 showso10 :=
  wDp (wWk (wEd_spec (x_ov0_le sf) u_ctS lwFRok showsE10) (Nat.le_refl _) (Nat.le_refl _) (Nat.le_refl _) (by decide +kernel) (by decide +kernel)) (by decide) (by decide)
def shows_g0_nd : List wE := [shows_in, shows_c, shows_a1, shows_c_out, shows_cb1, shows_fb1, shows_a2, shows_cb1_out, shows_cb2, shows_fb2, shows_cb2_out]
theorem shows_g0_G {xs : Nat → Int32} {n : Nat} {sf : Option Nat} (hsf : sf = none ∨ sf = some 1200000) : ∀ nd ∈ shows_g0_nd, wGoes x_KT x_tb x_tyl (x_otS xs n sf) lwFR lwGA.length lwGB.length 5 25 43 showsWA showsWB 135 247 63 62 nd (shows_g0_ex.map (fun x => (false, x))) := wGraph (fun nd hnd => by
  have hnd : nd ∈ ([shows_in, shows_c, shows_a1, shows_c_out, shows_cb1, shows_fb1, shows_a2, shows_cb1_out, shows_cb2, shows_fb2, shows_cb2_out] : List wE) := hnd
  simp only [List.mem_cons, List.not_mem_nil, or_false] at hnd
  rcases hnd with rfl | rfl | rfl | rfl | rfl | rfl | rfl | rfl | rfl | rfl | rfl
  · refine ⟨showso1, showsN1 hsf, fun o ho => ?_⟩
    have ho : o ∈ ([(true, shows_c), (true, shows_a1)] : List (Bool × wE)) := ho
    simp only [List.mem_cons, List.not_mem_nil, or_false] at ho
    rcases ho with rfl | rfl
    · exact Or.inr ⟨rfl, List.mem_cons_of_mem _ (List.mem_cons_self)⟩
    · exact Or.inr ⟨rfl, List.mem_cons_of_mem _ (List.mem_cons_of_mem _ (List.mem_cons_self))⟩
  · refine ⟨showso0, showsN0 hsf, fun o ho => ?_⟩
    have ho : o ∈ ([(true, shows_c_out)] : List (Bool × wE)) := ho
    simp only [List.mem_cons, List.not_mem_nil, or_false] at ho
    rcases ho with rfl
    · exact Or.inr ⟨rfl, List.mem_cons_of_mem _ (List.mem_cons_of_mem _ (List.mem_cons_of_mem _ (List.mem_cons_self)))⟩
  · refine ⟨showso4, showsN4 hsf, fun o ho => ?_⟩
    have ho : o ∈ ([(true, shows_cb1), (true, shows_fb1)] : List (Bool × wE)) := ho
    simp only [List.mem_cons, List.not_mem_nil, or_false] at ho
    rcases ho with rfl | rfl
    · exact Or.inr ⟨rfl, List.mem_cons_of_mem _ (List.mem_cons_of_mem _ (List.mem_cons_of_mem _ (List.mem_cons_of_mem _ (List.mem_cons_self))))⟩
    · exact Or.inr ⟨rfl, List.mem_cons_of_mem _ (List.mem_cons_of_mem _ (List.mem_cons_of_mem _ (List.mem_cons_of_mem _ (List.mem_cons_of_mem _ (List.mem_cons_self)))))⟩
  · refine ⟨showso2, showsN2 hsf, fun o ho => ?_⟩
    have ho : o ∈ ([(true, shows_a2)] : List (Bool × wE)) := ho
    simp only [List.mem_cons, List.not_mem_nil, or_false] at ho
    rcases ho with rfl
    · exact Or.inr ⟨rfl, List.mem_cons_of_mem _ (List.mem_cons_of_mem _ (List.mem_cons_of_mem _ (List.mem_cons_of_mem _ (List.mem_cons_of_mem _ (List.mem_cons_of_mem _ (List.mem_cons_self))))))⟩
  · refine ⟨showso3, showsN3 hsf, fun o ho => ?_⟩
    have ho : o ∈ ([(true, shows_cb1_out)] : List (Bool × wE)) := ho
    simp only [List.mem_cons, List.not_mem_nil, or_false] at ho
    rcases ho with rfl
    · exact Or.inr ⟨rfl, List.mem_cons_of_mem _ (List.mem_cons_of_mem _ (List.mem_cons_of_mem _ (List.mem_cons_of_mem _ (List.mem_cons_of_mem _ (List.mem_cons_of_mem _ (List.mem_cons_of_mem _ (List.mem_cons_self)))))))⟩
  · refine ⟨showso6, showsN6 hsf, fun o ho => ?_⟩
    have ho : o ∈ ([(false, shows_out)] : List (Bool × wE)) := ho
    simp only [List.mem_cons, List.not_mem_nil, or_false] at ho
    rcases ho with rfl
    · exact Or.inl (List.mem_cons_self)
  · refine ⟨showso8, showsN8 hsf, fun o ho => ?_⟩
    have ho : o ∈ ([(true, shows_cb2), (true, shows_fb2)] : List (Bool × wE)) := ho
    simp only [List.mem_cons, List.not_mem_nil, or_false] at ho
    rcases ho with rfl | rfl
    · exact Or.inr ⟨rfl, List.mem_cons_of_mem _ (List.mem_cons_of_mem _ (List.mem_cons_of_mem _ (List.mem_cons_of_mem _ (List.mem_cons_of_mem _ (List.mem_cons_of_mem _ (List.mem_cons_of_mem _ (List.mem_cons_of_mem _ (List.mem_cons_self))))))))⟩
    · exact Or.inr ⟨rfl, List.mem_cons_of_mem _ (List.mem_cons_of_mem _ (List.mem_cons_of_mem _ (List.mem_cons_of_mem _ (List.mem_cons_of_mem _ (List.mem_cons_of_mem _ (List.mem_cons_of_mem _ (List.mem_cons_of_mem _ (List.mem_cons_of_mem _ (List.mem_cons_self)))))))))⟩
  · refine ⟨showso5, showsN5 hsf, fun o ho => ?_⟩
    have ho : o ∈ ([(true, shows_fb1)] : List (Bool × wE)) := ho
    simp only [List.mem_cons, List.not_mem_nil, or_false] at ho
    rcases ho with rfl
    · exact Or.inr ⟨rfl, List.mem_cons_of_mem _ (List.mem_cons_of_mem _ (List.mem_cons_of_mem _ (List.mem_cons_of_mem _ (List.mem_cons_of_mem _ (List.mem_cons_self)))))⟩
  · refine ⟨showso7, showsN7 hsf, fun o ho => ?_⟩
    have ho : o ∈ ([(true, shows_cb2_out)] : List (Bool × wE)) := ho
    simp only [List.mem_cons, List.not_mem_nil, or_false] at ho
    rcases ho with rfl
    · exact Or.inr ⟨rfl, List.mem_cons_of_mem _ (List.mem_cons_of_mem _ (List.mem_cons_of_mem _ (List.mem_cons_of_mem _ (List.mem_cons_of_mem _ (List.mem_cons_of_mem _ (List.mem_cons_of_mem _ (List.mem_cons_of_mem _ (List.mem_cons_of_mem _ (List.mem_cons_of_mem _ (List.mem_cons_self))))))))))⟩
  · refine ⟨showso10, showsN10 hsf, fun o ho => ?_⟩
    have ho : o ∈ ([(false, shows_out)] : List (Bool × wE)) := ho
    simp only [List.mem_cons, List.not_mem_nil, or_false] at ho
    rcases ho with rfl
    · exact Or.inl (List.mem_cons_self)
  · refine ⟨showso9, showsN9 hsf, fun o ho => ?_⟩
    have ho : o ∈ ([(true, shows_fb2)] : List (Bool × wE)) := ho
    simp only [List.mem_cons, List.not_mem_nil, or_false] at ho
    rcases ho with rfl
    · exact Or.inr ⟨rfl, List.mem_cons_of_mem _ (List.mem_cons_of_mem _ (List.mem_cons_of_mem _ (List.mem_cons_of_mem _ (List.mem_cons_of_mem _ (List.mem_cons_of_mem _ (List.mem_cons_of_mem _ (List.mem_cons_of_mem _ (List.mem_cons_of_mem _ (List.mem_cons_self)))))))))⟩)
theorem showsH {xs : Nat → Int32} {n : Nat} {sf : Option Nat} (hsf : sf = none ∨ sf = some 1200000) : wGoes x_KT x_tb x_tyl (x_otS xs n sf) lwFS lwGA.length lwGB.length 5 25 43 showsWA showsWB 135 247 63 62 shows_in (showsOX.map (fun x => x.1)) :=
  wFSr (FS := lwFR) (nh := 33) (wFam (V := []) lwFRok (by decide +kernel) (by decide +kernel) (shows_g0_G hsf shows_in List.mem_cons_self) (by decide) (by decide) (fun i hi u hu => by
  have hi : i ∈ ([] : List Nat) := hi
  simp only [List.mem_cons, List.not_mem_nil, or_false] at hi)) lwFRp (by decide) (by decide +kernel)
theorem showsPP {xs : Nat → Int32} {n : Nat} {sf : Option Nat} (hsf : sf = none ∨ sf = some 1200000) : bPP x_KT x_tb x_tyl (x_otS xs n sf) lwN lwP 1299 135 247 2 (mMc xm135 + mMc xm247) (mRc xm135) (mRc xm247) False :=
  wBlkN lwFok lwFB uKa uKb (by decide +kernel) (by decide +kernel) uKdj uKj showsbc (showsH hsf) gq135 gq247 (by decide) (by decide) (uKeep (by decide +kernel)) (by decide +kernel) (by decide +kernel) (by decide +kernel)
theorem chbcN0 {xs : Nat → Int32} {n : Nat} {sf : Option Nat} (hsf : sf = none ∨ sf = some 1200000) : wGoes x_KT x_tb x_tyl (x_otS xs n sf) lwFR lwGA.length lwGB.length 25 25 44 chbcWA chbcWB 113 243 60 60 chbc_in chbco0 :=
  wDp (wWk (wFamE2 (V := [2]) (x_ov0_le sf) (u_ctKS2 hsf) lwFRok chbcE0 (by decide) (by decide) (fun i hi u hu => by
      have hi : i ∈ ([2] : List Nat) := hi
      simp only [List.mem_cons, List.not_mem_nil, or_false] at hi
      rcases hi with rfl
      · cases hu
        exact wRkE_spec (x_ov0_le sf) (u_ctKS2 hsf) lwFRok chbcE0R2)) (Nat.le_refl _) (Nat.le_refl _) (Nat.le_refl _) (by decide +kernel) (by decide +kernel)) (by decide) (by decide)
def chbc_g0_nd : List wE := [chbc_in]
theorem chbc_g0_G {xs : Nat → Int32} {n : Nat} {sf : Option Nat} (hsf : sf = none ∨ sf = some 1200000) : ∀ nd ∈ chbc_g0_nd, wGoes x_KT x_tb x_tyl (x_otS xs n sf) lwFR lwGA.length lwGB.length 25 25 44 chbcWA chbcWB 113 243 60 60 nd (chbc_g0_ex.map (fun x => (false, x))) := wGraph (fun nd hnd => by
  have hnd : nd ∈ ([chbc_in] : List wE) := hnd
  simp only [List.mem_cons, List.not_mem_nil, or_false] at hnd
  rcases hnd with rfl
  · refine ⟨chbco0, chbcN0 hsf, fun o ho => ?_⟩
    have ho : o ∈ ([(false, chbc_out)] : List (Bool × wE)) := ho
    simp only [List.mem_cons, List.not_mem_nil, or_false] at ho
    rcases ho with rfl
    · exact Or.inl (List.mem_cons_self))
theorem isbcN0 {xs : Nat → Int32} {n : Nat} {sf : Option Nat} (hsf : sf = none ∨ sf = some 1200000) : wGoes x_KT x_tb x_tyl (x_otS xs n sf) lwFR lwGA.length lwGB.length 13 25 44 isbcWA isbcWB 113 248 60 61 isbc_c isbco0 :=
  wDp (wWk (wEqvB (wCallB (recv := 0) (pc := 27) (ix := 395) (nx := 3) (args := [.inl (lSy 25), .inl (lSy 26), .inl (lSy 27), .inl (lSy 28), .inl (lSy 29), .inl (lSy 30)]) (rest := []) (LE := [(0, .inr (some 0)), (1, .inl (lSy 13)), (2, .inl (lSy 14))]) (cE := (lK 0)) (sE := (lK 0)) (wReL (XA := isbcX0.2.1) (XB := isbcX0.2.2.1) (XC := isbcX0.2.2.2.1) (rk := isbcX0.2.2.2.2) (rA := isbcQA0) (rB := isbcQB0) (chbc_g0_G hsf _ List.mem_cons_self) isbcL0) gq248 gq243 (by decide +kernel) (by decide +kernel) (by decide +kernel) (by decide +kernel) (by decide +kernel)) (by decide +kernel) (by decide +kernel)) (by decide) (by decide) (by decide) (by decide +kernel) (by decide +kernel)) (by decide) (by decide)
theorem isbcN1 {xs : Nat → Int32} {n : Nat} {sf : Option Nat} (hsf : sf = none ∨ sf = some 1200000) : wGoes x_KT x_tb x_tyl (x_otS xs n sf) lwFR lwGA.length lwGB.length 13 25 44 isbcWA isbcWB 113 248 60 61 isbc_in isbco1 :=
  wDp (wWk (wEd_spec (x_ov0_le sf) u_ctS lwFRok isbcE1) (Nat.le_refl _) (Nat.le_refl _) (Nat.le_refl _) (by decide +kernel) (by decide +kernel)) (by decide) (by decide)
theorem isbcN2 {xs : Nat → Int32} {n : Nat} {sf : Option Nat} (hsf : sf = none ∨ sf = some 1200000) : wGoes x_KT x_tb x_tyl (x_otS xs n sf) lwFR lwGA.length lwGB.length 13 25 44 isbcWA isbcWB 113 248 60 61 isbc_c_out isbco2 :=
  wDp (wWk (wEd_spec (x_ov0_le sf) u_ctS lwFRok isbcE2) (Nat.le_refl _) (Nat.le_refl _) (Nat.le_refl _) (by decide +kernel) (by decide +kernel)) (by decide) (by decide)
theorem u_ctKS3 {xs : Nat → Int32} {n : Nat} {sf : Option Nat} (hsf : sf = none ∨ sf = some 1200000) : ∀ j c, c ∈ u_ctK3 j → vCtSem x_KT x_tb x_tyl (x_otS xs n sf) j c := fun j c h => by
  unfold u_ctK3 at h
  cases hb : (Nat.beq j 138 || Nat.beq j 139) with
  | true =>
    rw [hb] at h
    exact x_allS xs n hsf j c h
  | false =>
    rw [hb] at h
    exact absurd h List.not_mem_nil
set_option maxRecDepth 1000000 in
theorem gq137 : tMth x_tb 137 = some xm137 := rfl
set_option maxRecDepth 1000000 in
theorem gq249 : tMth x_tb 249 = some xm249 := rfl
theorem coverN0 {xs : Nat → Int32} {n : Nat} {sf : Option Nat} (hsf : sf = none ∨ sf = some 1200000) : wGoes x_KT x_tb x_tyl (x_otS xs n sf) lwFR lwGA.length lwGB.length 5 25 43 coverWA coverWB 137 249 63 62 cover_in covero0 :=
  wDp (wWk (wEd_spec (x_ov0_le sf) (u_ctKS3 hsf) lwFRok coverE0) (Nat.le_refl _) (Nat.le_refl _) (Nat.le_refl _) (by decide +kernel) (by decide +kernel)) (by decide) (by decide)
theorem coverN1 {xs : Nat → Int32} {n : Nat} {sf : Option Nat} (hsf : sf = none ∨ sf = some 1200000) : wGoes x_KT x_tb x_tyl (x_otS xs n sf) lwFR lwGA.length lwGB.length 5 25 43 coverWA coverWB 137 249 63 62 cover_lo covero1 :=
  wDp (wWk (wEd_spec (x_ov0_le sf) (u_ctKS3 hsf) lwFRok coverE1) (Nat.le_refl _) (Nat.le_refl _) (Nat.le_refl _) (by decide +kernel) (by decide +kernel)) (by decide) (by decide)
theorem coverN2 {xs : Nat → Int32} {n : Nat} {sf : Option Nat} (hsf : sf = none ∨ sf = some 1200000) : wGoes x_KT x_tb x_tyl (x_otS xs n sf) lwFR lwGA.length lwGB.length 5 25 43 coverWA coverWB 137 249 63 62 cover_hi covero2 :=
  wDp (wWk (wEd_spec (x_ov0_le sf) (u_ctKS3 hsf) lwFRok coverE2) (Nat.le_refl _) (Nat.le_refl _) (Nat.le_refl _) (by decide +kernel) (by decide +kernel)) (by decide) (by decide)
theorem coverN3 {xs : Nat → Int32} {n : Nat} {sf : Option Nat} (hsf : sf = none ∨ sf = some 1200000) : wGoes x_KT x_tb x_tyl (x_otS xs n sf) lwFR lwGA.length lwGB.length 5 25 43 coverWA coverWB 137 249 63 62 cover_c13 covero3 :=
  wDp (wWk (wEd_spec (x_ov0_le sf) (u_ctKS3 hsf) lwFRok coverE3) (Nat.le_refl _) (Nat.le_refl _) (Nat.le_refl _) (by decide +kernel) (by decide +kernel)) (by decide) (by decide)
theorem coverN4 {xs : Nat → Int32} {n : Nat} {sf : Option Nat} (hsf : sf = none ∨ sf = some 1200000) : wGoes x_KT x_tb x_tyl (x_otS xs n sf) lwFR lwGA.length lwGB.length 5 25 43 coverWA coverWB 137 249 63 62 cover_c covero4 :=
  wDp (wWk (wEqvB (wCallA (recv := 0) (pc := 46) (ix := 355) (nx := 3) (args := [.inl (lSy 13), .inl (lSy 14)]) (rest := [.inl (lSy 7)]) (LE := [(0, .inr (some 0)), (1, .inl (lSy 5)), (2, .inl (lSy 6)), (3, .inl (lSy 7)), (4, .inl (lSy 8))]) (cE := (lK 0)) (sE := (lK 0)) (wLift (dpB := 60) (pc := 0) (pcP := 43) (nx := 1) (LE := [(0, .inr (some 0)), (1, .inl (lSy 5))]) (SE := []) (cE := (lK 0)) (sE := (lK 0)) (wReL (XA := coverX4.2.1) (XB := coverX4.2.2.1) (XC := coverX4.2.2.2.1) (rk := coverX4.2.2.2.2) (rA := coverQA4) (rB := coverQB4) (ish_g0_G hsf _ List.mem_cons_self) coverL4) gq249 gq244 (by decide +kernel) (by decide +kernel) (by decide +kernel) (by decide +kernel)) gq137 gq136 (by decide +kernel) (by decide +kernel) (by decide +kernel) (by decide +kernel) (by decide +kernel)) (by decide +kernel) (by decide +kernel)) (by decide) (by decide) (by decide) (by decide +kernel) (by decide +kernel)) (by decide) (by decide)
theorem coverN5 {xs : Nat → Int32} {n : Nat} {sf : Option Nat} (hsf : sf = none ∨ sf = some 1200000) : wGoes x_KT x_tb x_tyl (x_otS xs n sf) lwFR lwGA.length lwGB.length 5 25 43 coverWA coverWB 137 249 63 62 cover_c29 covero5 :=
  wDp (wWk (wEd_spec (x_ov0_le sf) (u_ctKS3 hsf) lwFRok coverE5) (Nat.le_refl _) (Nat.le_refl _) (Nat.le_refl _) (by decide +kernel) (by decide +kernel)) (by decide) (by decide)
theorem coverN6 {xs : Nat → Int32} {n : Nat} {sf : Option Nat} (hsf : sf = none ∨ sf = some 1200000) : wGoes x_KT x_tb x_tyl (x_otS xs n sf) lwFR lwGA.length lwGB.length 5 25 43 coverWA coverWB 137 249 63 62 cover_c_out covero6 :=
  wDp (wWk (wEd_spec (x_ov0_le sf) (u_ctKS3 hsf) lwFRok coverE6) (Nat.le_refl _) (Nat.le_refl _) (Nat.le_refl _) (by decide +kernel) (by decide +kernel)) (by decide) (by decide)
theorem coverN7 {xs : Nat → Int32} {n : Nat} {sf : Option Nat} (hsf : sf = none ∨ sf = some 1200000) : wGoes x_KT x_tb x_tyl (x_otS xs n sf) lwFR lwGA.length lwGB.length 5 25 43 coverWA coverWB 137 249 63 62 cover_a2 covero7 :=
  wDp (wWk (wEd_spec (x_ov0_le sf) (u_ctKS3 hsf) lwFRok coverE7) (Nat.le_refl _) (Nat.le_refl _) (Nat.le_refl _) (by decide +kernel) (by decide +kernel)) (by decide) (by decide)
theorem coverN8 {xs : Nat → Int32} {n : Nat} {sf : Option Nat} (hsf : sf = none ∨ sf = some 1200000) : wGoes x_KT x_tb x_tyl (x_otS xs n sf) lwFR lwGA.length lwGB.length 5 25 43 coverWA coverWB 137 249 63 62 cover_b21 covero8 :=
  wDp (wWk (wEd_spec (x_ov0_le sf) (u_ctKS3 hsf) lwFRok coverE8) (Nat.le_refl _) (Nat.le_refl _) (Nat.le_refl _) (by decide +kernel) (by decide +kernel)) (by decide) (by decide)
def isbc_g0_nd : List wE := [isbc_in, isbc_c, isbc_c_out]
theorem isbc_g0_G {xs : Nat → Int32} {n : Nat} {sf : Option Nat} (hsf : sf = none ∨ sf = some 1200000) : ∀ nd ∈ isbc_g0_nd, wGoes x_KT x_tb x_tyl (x_otS xs n sf) lwFR lwGA.length lwGB.length 13 25 44 isbcWA isbcWB 113 248 60 61 nd (isbc_g0_ex.map (fun x => (false, x))) := wGraph (fun nd hnd => by
  have hnd : nd ∈ ([isbc_in, isbc_c, isbc_c_out] : List wE) := hnd
  simp only [List.mem_cons, List.not_mem_nil, or_false] at hnd
  rcases hnd with rfl | rfl | rfl
  · refine ⟨isbco1, isbcN1 hsf, fun o ho => ?_⟩
    have ho : o ∈ ([(true, isbc_c)] : List (Bool × wE)) := ho
    simp only [List.mem_cons, List.not_mem_nil, or_false] at ho
    rcases ho with rfl
    · exact Or.inr ⟨rfl, List.mem_cons_of_mem _ (List.mem_cons_self)⟩
  · refine ⟨isbco0, isbcN0 hsf, fun o ho => ?_⟩
    have ho : o ∈ ([(true, isbc_c_out)] : List (Bool × wE)) := ho
    simp only [List.mem_cons, List.not_mem_nil, or_false] at ho
    rcases ho with rfl
    · exact Or.inr ⟨rfl, List.mem_cons_of_mem _ (List.mem_cons_of_mem _ (List.mem_cons_self))⟩
  · refine ⟨isbco2, isbcN2 hsf, fun o ho => ?_⟩
    have ho : o ∈ ([(false, isbc_out)] : List (Bool × wE)) := ho
    simp only [List.mem_cons, List.not_mem_nil, or_false] at ho
    rcases ho with rfl
    · exact Or.inl (List.mem_cons_self))
theorem coverN9 {xs : Nat → Int32} {n : Nat} {sf : Option Nat} (hsf : sf = none ∨ sf = some 1200000) : wGoes x_KT x_tb x_tyl (x_otS xs n sf) lwFR lwGA.length lwGB.length 5 25 43 coverWA coverWB 137 249 63 62 cover_c2 covero9 :=
  wDp (wWk (wEqvB (wCallB (recv := 0) (pc := 52) (ix := 405) (nx := 3) (args := [.inl (lSy 13), .inl (lSy 14)]) (rest := [.inl (lSy 10), .inl (lSy 8), .inr (some 43)]) (LE := [(0, .inr (some 0)), (1, .inl (lSy 6)), (2, .inr (some 43)), (3, .inl (lSy 7)), (4, .inl (lSy 8)), (5, .inl (lSy 9))]) (cE := (lK 1)) (sE := (lK 8)) (wLiftA (dpA := 60) (pc := 106) (pcP := 22) (nx := 1) (LE := []) (SE := [.inl (lSy 5)]) (cE := (lK 0)) (sE := (lK 0)) (wReL (XA := coverX9.2.1) (XB := coverX9.2.2.1) (XC := coverX9.2.2.2.1) (rk := coverX9.2.2.2.2) (rA := coverQA9) (rB := coverQB9) (isbc_g0_G hsf _ List.mem_cons_self) coverL9) gq137 gq113 (by decide +kernel) (by decide +kernel) (by decide +kernel) (by decide +kernel)) gq249 gq248 (by decide +kernel) (by decide +kernel) (by decide +kernel) (by decide +kernel) (by decide +kernel)) (by decide +kernel) (by decide +kernel)) (by decide) (by decide) (by decide) (by decide +kernel) (by decide +kernel)) (by decide) (by decide)
theorem coverN10 {xs : Nat → Int32} {n : Nat} {sf : Option Nat} (hsf : sf = none ∨ sf = some 1200000) : wGoes x_KT x_tb x_tyl (x_otS xs n sf) lwFR lwGA.length lwGB.length 5 25 43 coverWA coverWB 137 249 63 62 cover_b33 covero10 :=
  wDp (wWk (wEd_spec (x_ov0_le sf) (u_ctKS3 hsf) lwFRok coverE10) (Nat.le_refl _) (Nat.le_refl _) (Nat.le_refl _) (by decide +kernel) (by decide +kernel)) (by decide) (by decide)
theorem coverN11 {xs : Nat → Int32} {n : Nat} {sf : Option Nat} (hsf : sf = none ∨ sf = some 1200000) : wGoes x_KT x_tb x_tyl (x_otS xs n sf) lwFR lwGA.length lwGB.length 5 25 43 coverWA coverWB 137 249 63 62 cover_c2_out covero11 :=
  wDp (wWk (wEd_spec (x_ov0_le sf) (u_ctKS3 hsf) lwFRok coverE11) (Nat.le_refl _) (Nat.le_refl _) (Nat.le_refl _) (by decide +kernel) (by decide +kernel)) (by decide) (by decide)
theorem coverN12 {xs : Nat → Int32} {n : Nat} {sf : Option Nat} (hsf : sf = none ∨ sf = some 1200000) : wGoes x_KT x_tb x_tyl (x_otS xs n sf) lwFR lwGA.length lwGB.length 5 25 43 coverWA coverWB 137 249 63 62 cover_b100 covero12 :=
  wDp (wWk (wEd_spec (x_ov0_le sf) (u_ctKS3 hsf) lwFRok coverE12) (Nat.le_refl _) (Nat.le_refl _) (Nat.le_refl _) (by decide +kernel) (by decide +kernel)) (by decide) (by decide)
theorem coverN13 {xs : Nat → Int32} {n : Nat} {sf : Option Nat} (hsf : sf = none ∨ sf = some 1200000) : wGoes x_KT x_tb x_tyl (x_otS xs n sf) lwFR lwGA.length lwGB.length 5 25 43 coverWA coverWB 137 249 63 62 cover_b117 covero13 :=
  wDp (wWk (wEd_spec (x_ov0_le sf) (u_ctKS3 hsf) lwFRok coverE13) (Nat.le_refl _) (Nat.le_refl _) (Nat.le_refl _) (by decide +kernel) (by decide +kernel)) (by decide) (by decide)
theorem coverN14 {xs : Nat → Int32} {n : Nat} {sf : Option Nat} (hsf : sf = none ∨ sf = some 1200000) : wGoes x_KT x_tb x_tyl (x_otS xs n sf) lwFR lwGA.length lwGB.length 5 25 43 coverWA coverWB 137 249 63 62 cover_fb covero14 :=
  wDp (wWk (wEd_spec (x_ov0_le sf) (u_ctKS3 hsf) lwFRok coverE14) (Nat.le_refl _) (Nat.le_refl _) (Nat.le_refl _) (by decide +kernel) (by decide +kernel)) (by decide) (by decide)
def cover_g0_nd : List wE := [cover_in, cover_lo, cover_hi, cover_c13, cover_c29, cover_a2, cover_c, cover_b21, cover_c_out, cover_b33, cover_b100, cover_c2, cover_b117, cover_fb, cover_c2_out]
theorem cover_g0_G {xs : Nat → Int32} {n : Nat} {sf : Option Nat} (hsf : sf = none ∨ sf = some 1200000) : ∀ nd ∈ cover_g0_nd, wGoes x_KT x_tb x_tyl (x_otS xs n sf) lwFR lwGA.length lwGB.length 5 25 43 coverWA coverWB 137 249 63 62 nd (cover_g0_ex.map (fun x => (false, x))) := wGraph (fun nd hnd => by
  have hnd : nd ∈ ([cover_in, cover_lo, cover_hi, cover_c13, cover_c29, cover_a2, cover_c, cover_b21, cover_c_out, cover_b33, cover_b100, cover_c2, cover_b117, cover_fb, cover_c2_out] : List wE) := hnd
  simp only [List.mem_cons, List.not_mem_nil, or_false] at hnd
  rcases hnd with rfl | rfl | rfl | rfl | rfl | rfl | rfl | rfl | rfl | rfl | rfl | rfl | rfl | rfl | rfl
  · refine ⟨covero0, coverN0 hsf, fun o ho => ?_⟩
    have ho : o ∈ ([(true, cover_lo), (true, cover_hi), (true, cover_c13)] : List (Bool × wE)) := ho
    simp only [List.mem_cons, List.not_mem_nil, or_false] at ho
    rcases ho with rfl | rfl | rfl
    · exact Or.inr ⟨rfl, List.mem_cons_of_mem _ (List.mem_cons_self)⟩
    · exact Or.inr ⟨rfl, List.mem_cons_of_mem _ (List.mem_cons_of_mem _ (List.mem_cons_self))⟩
    · exact Or.inr ⟨rfl, List.mem_cons_of_mem _ (List.mem_cons_of_mem _ (List.mem_cons_of_mem _ (List.mem_cons_self)))⟩
  · refine ⟨covero1, coverN1 hsf, fun o ho => ?_⟩
    have ho : o ∈ ([(false, cover_out)] : List (Bool × wE)) := ho
    simp only [List.mem_cons, List.not_mem_nil, or_false] at ho
    rcases ho with rfl
    · exact Or.inl (List.mem_cons_self)
  · refine ⟨covero2, coverN2 hsf, fun o ho => ?_⟩
    have ho : o ∈ ([(false, cover_out)] : List (Bool × wE)) := ho
    simp only [List.mem_cons, List.not_mem_nil, or_false] at ho
    rcases ho with rfl
    · exact Or.inl (List.mem_cons_self)
  · refine ⟨covero3, coverN3 hsf, fun o ho => ?_⟩
    have ho : o ∈ ([(true, cover_c29), (true, cover_a2)] : List (Bool × wE)) := ho
    simp only [List.mem_cons, List.not_mem_nil, or_false] at ho
    rcases ho with rfl | rfl
    · exact Or.inr ⟨rfl, List.mem_cons_of_mem _ (List.mem_cons_of_mem _ (List.mem_cons_of_mem _ (List.mem_cons_of_mem _ (List.mem_cons_self))))⟩
    · exact Or.inr ⟨rfl, List.mem_cons_of_mem _ (List.mem_cons_of_mem _ (List.mem_cons_of_mem _ (List.mem_cons_of_mem _ (List.mem_cons_of_mem _ (List.mem_cons_self)))))⟩
  · refine ⟨covero5, coverN5 hsf, fun o ho => ?_⟩
    have ho : o ∈ ([(true, cover_c), (true, cover_c13)] : List (Bool × wE)) := ho
    simp only [List.mem_cons, List.not_mem_nil, or_false] at ho
    rcases ho with rfl | rfl
    · exact Or.inr ⟨rfl, List.mem_cons_of_mem _ (List.mem_cons_of_mem _ (List.mem_cons_of_mem _ (List.mem_cons_of_mem _ (List.mem_cons_of_mem _ (List.mem_cons_of_mem _ (List.mem_cons_self))))))⟩
    · exact Or.inr ⟨rfl, List.mem_cons_of_mem _ (List.mem_cons_of_mem _ (List.mem_cons_of_mem _ (List.mem_cons_self)))⟩
  · refine ⟨covero7, coverN7 hsf, fun o ho => ?_⟩
    have ho : o ∈ ([(true, cover_b21)] : List (Bool × wE)) := ho
    simp only [List.mem_cons, List.not_mem_nil, or_false] at ho
    rcases ho with rfl
    · exact Or.inr ⟨rfl, List.mem_cons_of_mem _ (List.mem_cons_of_mem _ (List.mem_cons_of_mem _ (List.mem_cons_of_mem _ (List.mem_cons_of_mem _ (List.mem_cons_of_mem _ (List.mem_cons_of_mem _ (List.mem_cons_self)))))))⟩
  · refine ⟨covero4, coverN4 hsf, fun o ho => ?_⟩
    have ho : o ∈ ([(true, cover_c_out)] : List (Bool × wE)) := ho
    simp only [List.mem_cons, List.not_mem_nil, or_false] at ho
    rcases ho with rfl
    · exact Or.inr ⟨rfl, List.mem_cons_of_mem _ (List.mem_cons_of_mem _ (List.mem_cons_of_mem _ (List.mem_cons_of_mem _ (List.mem_cons_of_mem _ (List.mem_cons_of_mem _ (List.mem_cons_of_mem _ (List.mem_cons_of_mem _ (List.mem_cons_self))))))))⟩
  · refine ⟨covero8, coverN8 hsf, fun o ho => ?_⟩
    have ho : o ∈ ([(true, cover_b33), (true, cover_b100)] : List (Bool × wE)) := ho
    simp only [List.mem_cons, List.not_mem_nil, or_false] at ho
    rcases ho with rfl | rfl
    · exact Or.inr ⟨rfl, List.mem_cons_of_mem _ (List.mem_cons_of_mem _ (List.mem_cons_of_mem _ (List.mem_cons_of_mem _ (List.mem_cons_of_mem _ (List.mem_cons_of_mem _ (List.mem_cons_of_mem _ (List.mem_cons_of_mem _ (List.mem_cons_of_mem _ (List.mem_cons_self)))))))))⟩
    · exact Or.inr ⟨rfl, List.mem_cons_of_mem _ (List.mem_cons_of_mem _ (List.mem_cons_of_mem _ (List.mem_cons_of_mem _ (List.mem_cons_of_mem _ (List.mem_cons_of_mem _ (List.mem_cons_of_mem _ (List.mem_cons_of_mem _ (List.mem_cons_of_mem _ (List.mem_cons_of_mem _ (List.mem_cons_self))))))))))⟩
  · refine ⟨covero6, coverN6 hsf, fun o ho => ?_⟩
    have ho : o ∈ ([(true, cover_c29)] : List (Bool × wE)) := ho
    simp only [List.mem_cons, List.not_mem_nil, or_false] at ho
    rcases ho with rfl
    · exact Or.inr ⟨rfl, List.mem_cons_of_mem _ (List.mem_cons_of_mem _ (List.mem_cons_of_mem _ (List.mem_cons_of_mem _ (List.mem_cons_self))))⟩
  · refine ⟨covero10, coverN10 hsf, fun o ho => ?_⟩
    have ho : o ∈ ([(true, cover_c2), (true, cover_b21)] : List (Bool × wE)) := ho
    simp only [List.mem_cons, List.not_mem_nil, or_false] at ho
    rcases ho with rfl | rfl
    · exact Or.inr ⟨rfl, List.mem_cons_of_mem _ (List.mem_cons_of_mem _ (List.mem_cons_of_mem _ (List.mem_cons_of_mem _ (List.mem_cons_of_mem _ (List.mem_cons_of_mem _ (List.mem_cons_of_mem _ (List.mem_cons_of_mem _ (List.mem_cons_of_mem _ (List.mem_cons_of_mem _ (List.mem_cons_of_mem _ (List.mem_cons_self)))))))))))⟩
    · exact Or.inr ⟨rfl, List.mem_cons_of_mem _ (List.mem_cons_of_mem _ (List.mem_cons_of_mem _ (List.mem_cons_of_mem _ (List.mem_cons_of_mem _ (List.mem_cons_of_mem _ (List.mem_cons_of_mem _ (List.mem_cons_self)))))))⟩
  · refine ⟨covero12, coverN12 hsf, fun o ho => ?_⟩
    have ho : o ∈ ([(true, cover_b117), (true, cover_fb)] : List (Bool × wE)) := ho
    simp only [List.mem_cons, List.not_mem_nil, or_false] at ho
    rcases ho with rfl | rfl
    · exact Or.inr ⟨rfl, List.mem_cons_of_mem _ (List.mem_cons_of_mem _ (List.mem_cons_of_mem _ (List.mem_cons_of_mem _ (List.mem_cons_of_mem _ (List.mem_cons_of_mem _ (List.mem_cons_of_mem _ (List.mem_cons_of_mem _ (List.mem_cons_of_mem _ (List.mem_cons_of_mem _ (List.mem_cons_of_mem _ (List.mem_cons_of_mem _ (List.mem_cons_self))))))))))))⟩
    · exact Or.inr ⟨rfl, List.mem_cons_of_mem _ (List.mem_cons_of_mem _ (List.mem_cons_of_mem _ (List.mem_cons_of_mem _ (List.mem_cons_of_mem _ (List.mem_cons_of_mem _ (List.mem_cons_of_mem _ (List.mem_cons_of_mem _ (List.mem_cons_of_mem _ (List.mem_cons_of_mem _ (List.mem_cons_of_mem _ (List.mem_cons_of_mem _ (List.mem_cons_of_mem _ (List.mem_cons_self)))))))))))))⟩
  · refine ⟨covero9, coverN9 hsf, fun o ho => ?_⟩
    have ho : o ∈ ([(true, cover_c2_out)] : List (Bool × wE)) := ho
    simp only [List.mem_cons, List.not_mem_nil, or_false] at ho
    rcases ho with rfl
    · exact Or.inr ⟨rfl, List.mem_cons_of_mem _ (List.mem_cons_of_mem _ (List.mem_cons_of_mem _ (List.mem_cons_of_mem _ (List.mem_cons_of_mem _ (List.mem_cons_of_mem _ (List.mem_cons_of_mem _ (List.mem_cons_of_mem _ (List.mem_cons_of_mem _ (List.mem_cons_of_mem _ (List.mem_cons_of_mem _ (List.mem_cons_of_mem _ (List.mem_cons_of_mem _ (List.mem_cons_of_mem _ (List.mem_cons_self))))))))))))))⟩
  · refine ⟨covero13, coverN13 hsf, fun o ho => ?_⟩
    have ho : o ∈ ([(true, cover_b117), (true, cover_b100)] : List (Bool × wE)) := ho
    simp only [List.mem_cons, List.not_mem_nil, or_false] at ho
    rcases ho with rfl | rfl
    · exact Or.inr ⟨rfl, List.mem_cons_of_mem _ (List.mem_cons_of_mem _ (List.mem_cons_of_mem _ (List.mem_cons_of_mem _ (List.mem_cons_of_mem _ (List.mem_cons_of_mem _ (List.mem_cons_of_mem _ (List.mem_cons_of_mem _ (List.mem_cons_of_mem _ (List.mem_cons_of_mem _ (List.mem_cons_of_mem _ (List.mem_cons_of_mem _ (List.mem_cons_self))))))))))))⟩
    · exact Or.inr ⟨rfl, List.mem_cons_of_mem _ (List.mem_cons_of_mem _ (List.mem_cons_of_mem _ (List.mem_cons_of_mem _ (List.mem_cons_of_mem _ (List.mem_cons_of_mem _ (List.mem_cons_of_mem _ (List.mem_cons_of_mem _ (List.mem_cons_of_mem _ (List.mem_cons_of_mem _ (List.mem_cons_self))))))))))⟩
  · refine ⟨covero14, coverN14 hsf, fun o ho => ?_⟩
    have ho : o ∈ ([(false, cover_out)] : List (Bool × wE)) := ho
    simp only [List.mem_cons, List.not_mem_nil, or_false] at ho
    rcases ho with rfl
    · exact Or.inl (List.mem_cons_self)
  · refine ⟨covero11, coverN11 hsf, fun o ho => ?_⟩
    have ho : o ∈ ([(true, cover_b33)] : List (Bool × wE)) := ho
    simp only [List.mem_cons, List.not_mem_nil, or_false] at ho
    rcases ho with rfl
    · exact Or.inr ⟨rfl, List.mem_cons_of_mem _ (List.mem_cons_of_mem _ (List.mem_cons_of_mem _ (List.mem_cons_of_mem _ (List.mem_cons_of_mem _ (List.mem_cons_of_mem _ (List.mem_cons_of_mem _ (List.mem_cons_of_mem _ (List.mem_cons_of_mem _ (List.mem_cons_self)))))))))⟩)
theorem coverH {xs : Nat → Int32} {n : Nat} {sf : Option Nat} (hsf : sf = none ∨ sf = some 1200000) : wGoes x_KT x_tb x_tyl (x_otS xs n sf) lwFS lwGA.length lwGB.length 5 25 43 coverWA coverWB 137 249 63 62 cover_in (coverOX.map (fun x => x.1)) :=
  wFSr (FS := lwFR) (nh := 33) (wFam (V := []) lwFRok (by decide +kernel) (by decide +kernel) (cover_g0_G hsf cover_in List.mem_cons_self) (by decide) (by decide) (fun i hi u hu => by
  have hi : i ∈ ([] : List Nat) := hi
  simp only [List.mem_cons, List.not_mem_nil, or_false] at hi)) lwFRp (by decide) (by decide +kernel)
theorem coverPP {xs : Nat → Int32} {n : Nat} {sf : Option Nat} (hsf : sf = none ∨ sf = some 1200000) : bPP x_KT x_tb x_tyl (x_otS xs n sf) lwN lwP 1299 137 249 1 (mMc xm137 + mMc xm249) (mRc xm137) (mRc xm249) False :=
  wBlkN lwFok lwFB uKa uKb (by decide +kernel) (by decide +kernel) uKdj uKj coverbc (coverH hsf) gq137 gq249 (by decide) (by decide) (uKeep (by decide +kernel)) (by decide +kernel) (by decide +kernel) (by decide +kernel)
theorem fin1tN0 {xs : Nat → Int32} {n : Nat} {sf : Option Nat} (hsf : sf = none ∨ sf = some 1200000) : wGoes x_KT x_tb x_tyl (x_otS xs n sf) lwFR lwGA.length lwGB.length 27 27 43 fin1tWA fin1tWB 116 244 60 60 fin1t_in fin1to0 :=
  wDp (wWk (wEd_spec (x_ov0_le sf) (u_ctKS0 hsf) lwFRok fin1tE0) (Nat.le_refl _) (Nat.le_refl _) (Nat.le_refl _) (by decide +kernel) (by decide +kernel)) (by decide) (by decide)
theorem fin1tN1 {xs : Nat → Int32} {n : Nat} {sf : Option Nat} (hsf : sf = none ∨ sf = some 1200000) : wGoes x_KT x_tb x_tyl (x_otS xs n sf) lwFR lwGA.length lwGB.length 27 27 43 fin1tWA fin1tWB 116 244 60 60 fin1t_lr fin1to1 :=
  wDp (wWk (wFamE2 (V := [5, 6, 7, 9, 10, 8]) (x_ov0_le sf) (u_ctKS0 hsf) lwFRok fin1tE1 (by decide) (by decide) (fun i hi u hu => by
      have hi : i ∈ ([5, 6, 7, 9, 10, 8] : List Nat) := hi
      simp only [List.mem_cons, List.not_mem_nil, or_false] at hi
      rcases hi with rfl | rfl | rfl | rfl | rfl | rfl
      · exact gRk_spec (x_ov0_le sf) (u_ctKS0 hsf) lwFRok fin1tE1 (by decide) (by decide) fin1tE1G0 (by decide +kernel) _ (List.mem_cons_self) u hu
      · exact gRk_spec (x_ov0_le sf) (u_ctKS0 hsf) lwFRok fin1tE1 (by decide) (by decide) fin1tE1G0 (by decide +kernel) _ (List.mem_cons_of_mem _ (List.mem_cons_self)) u hu
      · exact gRk_spec (x_ov0_le sf) (u_ctKS0 hsf) lwFRok fin1tE1 (by decide) (by decide) fin1tE1G0 (by decide +kernel) _ (List.mem_cons_of_mem _ (List.mem_cons_of_mem _ (List.mem_cons_self))) u hu
      · exact gRk_spec (x_ov0_le sf) (u_ctKS0 hsf) lwFRok fin1tE1 (by decide) (by decide) fin1tE1G0 (by decide +kernel) _ (List.mem_cons_of_mem _ (List.mem_cons_of_mem _ (List.mem_cons_of_mem _ (List.mem_cons_self)))) u hu
      · exact gRk_spec (x_ov0_le sf) (u_ctKS0 hsf) lwFRok fin1tE1 (by decide) (by decide) fin1tE1G0 (by decide +kernel) _ (List.mem_cons_of_mem _ (List.mem_cons_of_mem _ (List.mem_cons_of_mem _ (List.mem_cons_of_mem _ (List.mem_cons_self))))) u hu
      · exact gRk_spec (x_ov0_le sf) (u_ctKS0 hsf) lwFRok fin1tE1 (by decide) (by decide) fin1tE1G0 (by decide +kernel) _ (List.mem_cons_of_mem _ (List.mem_cons_of_mem _ (List.mem_cons_of_mem _ (List.mem_cons_of_mem _ (List.mem_cons_of_mem _ (List.mem_cons_self)))))) u hu)) (Nat.le_refl _) (Nat.le_refl _) (Nat.le_refl _) (by decide +kernel) (by decide +kernel)) (by decide) (by decide)
theorem fin1tN2 {xs : Nat → Int32} {n : Nat} {sf : Option Nat} (hsf : sf = none ∨ sf = some 1200000) : wGoes x_KT x_tb x_tyl (x_otS xs n sf) lwFR lwGA.length lwGB.length 27 27 43 fin1tWA fin1tWB 116 244 60 60 fin1t_lo fin1to2 :=
  wDp (wWk (wEd_spec (x_ov0_le sf) (u_ctKS0 hsf) lwFRok fin1tE2) (Nat.le_refl _) (Nat.le_refl _) (Nat.le_refl _) (by decide +kernel) (by decide +kernel)) (by decide) (by decide)
set_option maxRecDepth 1000000 in
theorem gq141 : tMth x_tb 141 = some xm141 := rfl
def fin1t_g0_nd : List wE := [fin1t_in, fin1t_lr, fin1t_lo]
theorem fin1t_g0_G {xs : Nat → Int32} {n : Nat} {sf : Option Nat} (hsf : sf = none ∨ sf = some 1200000) : ∀ nd ∈ fin1t_g0_nd, wGoes x_KT x_tb x_tyl (x_otS xs n sf) lwFR lwGA.length lwGB.length 27 27 43 fin1tWA fin1tWB 116 244 60 60 nd (fin1t_g0_ex.map (fun x => (false, x))) := wGraph (fun nd hnd => by
  have hnd : nd ∈ ([fin1t_in, fin1t_lr, fin1t_lo] : List wE) := hnd
  simp only [List.mem_cons, List.not_mem_nil, or_false] at hnd
  rcases hnd with rfl | rfl | rfl
  · refine ⟨fin1to0, fin1tN0 hsf, fun o ho => ?_⟩
    have ho : o ∈ ([(true, fin1t_lr), (true, fin1t_lo)] : List (Bool × wE)) := ho
    simp only [List.mem_cons, List.not_mem_nil, or_false] at ho
    rcases ho with rfl | rfl
    · exact Or.inr ⟨rfl, List.mem_cons_of_mem _ (List.mem_cons_self)⟩
    · exact Or.inr ⟨rfl, List.mem_cons_of_mem _ (List.mem_cons_of_mem _ (List.mem_cons_self))⟩
  · refine ⟨fin1to1, fin1tN1 hsf, fun o ho => ?_⟩
    have ho : o ∈ ([(true, fin1t_lr), (true, fin1t_lo), (false, fin1t_out)] : List (Bool × wE)) := ho
    simp only [List.mem_cons, List.not_mem_nil, or_false] at ho
    rcases ho with rfl | rfl | rfl
    · exact Or.inr ⟨rfl, List.mem_cons_of_mem _ (List.mem_cons_self)⟩
    · exact Or.inr ⟨rfl, List.mem_cons_of_mem _ (List.mem_cons_of_mem _ (List.mem_cons_self))⟩
    · exact Or.inl (List.mem_cons_self)
  · refine ⟨fin1to2, fin1tN2 hsf, fun o ho => ?_⟩
    have ho : o ∈ ([(false, fin1t_out)] : List (Bool × wE)) := ho
    simp only [List.mem_cons, List.not_mem_nil, or_false] at ho
    rcases ho with rfl
    · exact Or.inl (List.mem_cons_self))
theorem rtN0 {xs : Nat → Int32} {n : Nat} {sf : Option Nat} (hsf : sf = none ∨ sf = some 1200000) : wGoes x_KT x_tb x_tyl (x_otS xs n sf) lwFR lwGA.length lwGB.length 11 25 43 rtWA rtWB 141 244 61 60 rt_c rto0 :=
  wDp (wWk (wEqvB (wCallA (recv := 8) (pc := 76) (ix := 320) (nx := 3) (args := []) (rest := [.inr (some 25)]) (LE := [(0, .inr (some 0)), (1, .inl (lSy 11)), (2, .inl (lSy 12)), (3, .inl (lSy 24)), (4, .inr (some 25))]) (cE := (lK 0)) (sE := (lK 0)) (wReL (XA := rtX0.2.1) (XB := rtX0.2.2.1) (XC := rtX0.2.2.2.1) (rk := rtX0.2.2.2.2) (rA := rtQA0) (rB := rtQB0) (fin1t_g0_G hsf _ List.mem_cons_self) rtL0) gq141 gq116 (by decide +kernel) (by decide +kernel) (by decide +kernel) (by decide +kernel) (by decide +kernel)) (by decide +kernel) (by decide +kernel)) (by decide) (by decide) (by decide) (by decide +kernel) (by decide +kernel)) (by decide) (by decide)
theorem rtN1 {xs : Nat → Int32} {n : Nat} {sf : Option Nat} (hsf : sf = none ∨ sf = some 1200000) : wGoes x_KT x_tb x_tyl (x_otS xs n sf) lwFR lwGA.length lwGB.length 11 25 43 rtWA rtWB 141 244 61 60 rt_in rto1 :=
  wDp (wWk (wEd_spec (x_ov0_le sf) u_ctS lwFRok rtE1) (Nat.le_refl _) (Nat.le_refl _) (Nat.le_refl _) (by decide +kernel) (by decide +kernel)) (by decide) (by decide)
theorem rtN2 {xs : Nat → Int32} {n : Nat} {sf : Option Nat} (hsf : sf = none ∨ sf = some 1200000) : wGoes x_KT x_tb x_tyl (x_otS xs n sf) lwFR lwGA.length lwGB.length 11 25 43 rtWA rtWB 141 244 61 60 rt_lp rto2 :=
  wDp (wWk (wFamE2 (V := [5, 6, 7, 9, 10, 8]) (x_ov0_le sf) u_ctS lwFRok rtE2 (by decide) (by decide) (fun i hi u hu => by
      have hi : i ∈ ([5, 6, 7, 9, 10, 8] : List Nat) := hi
      simp only [List.mem_cons, List.not_mem_nil, or_false] at hi
      rcases hi with rfl | rfl | rfl | rfl | rfl | rfl
      · exact gRk_spec (x_ov0_le sf) u_ctS lwFRok rtE2 (by decide) (by decide) rtE2G0 (by decide +kernel) _ (List.mem_cons_self) u hu
      · exact gRk_spec (x_ov0_le sf) u_ctS lwFRok rtE2 (by decide) (by decide) rtE2G0 (by decide +kernel) _ (List.mem_cons_of_mem _ (List.mem_cons_self)) u hu
      · exact gRk_spec (x_ov0_le sf) u_ctS lwFRok rtE2 (by decide) (by decide) rtE2G0 (by decide +kernel) _ (List.mem_cons_of_mem _ (List.mem_cons_of_mem _ (List.mem_cons_self))) u hu
      · exact gRk_spec (x_ov0_le sf) u_ctS lwFRok rtE2 (by decide) (by decide) rtE2G0 (by decide +kernel) _ (List.mem_cons_of_mem _ (List.mem_cons_of_mem _ (List.mem_cons_of_mem _ (List.mem_cons_self)))) u hu
      · exact gRk_spec (x_ov0_le sf) u_ctS lwFRok rtE2 (by decide) (by decide) rtE2G0 (by decide +kernel) _ (List.mem_cons_of_mem _ (List.mem_cons_of_mem _ (List.mem_cons_of_mem _ (List.mem_cons_of_mem _ (List.mem_cons_self))))) u hu
      · exact gRk_spec (x_ov0_le sf) u_ctS lwFRok rtE2 (by decide) (by decide) rtE2G0 (by decide +kernel) _ (List.mem_cons_of_mem _ (List.mem_cons_of_mem _ (List.mem_cons_of_mem _ (List.mem_cons_of_mem _ (List.mem_cons_of_mem _ (List.mem_cons_self)))))) u hu)) (Nat.le_refl _) (Nat.le_refl _) (Nat.le_refl _) (by decide +kernel) (by decide +kernel)) (by decide) (by decide)
theorem rtN3 {xs : Nat → Int32} {n : Nat} {sf : Option Nat} (hsf : sf = none ∨ sf = some 1200000) : wGoes x_KT x_tb x_tyl (x_otS xs n sf) lwFR lwGA.length lwGB.length 11 25 43 rtWA rtWB 141 244 61 60 rt_c_out rto3 :=
  wDp (wWk (wEd_spec (x_ov0_le sf) u_ctS lwFRok rtE3) (Nat.le_refl _) (Nat.le_refl _) (Nat.le_refl _) (by decide +kernel) (by decide +kernel)) (by decide) (by decide)
theorem fin0tN0 {xs : Nat → Int32} {n : Nat} {sf : Option Nat} (hsf : sf = none ∨ sf = some 1200000) : wGoes x_KT x_tb x_tyl (x_otS xs n sf) lwFR lwGA.length lwGB.length 27 27 43 fin0tWA fin0tWB 116 244 60 60 fin0t_in fin0to0 :=
  wDp (wWk (wEd_spec (x_ov0_le sf) (u_ctKS0 hsf) lwFRok fin0tE0) (Nat.le_refl _) (Nat.le_refl _) (Nat.le_refl _) (by decide +kernel) (by decide +kernel)) (by decide) (by decide)
theorem fin0tN1 {xs : Nat → Int32} {n : Nat} {sf : Option Nat} (hsf : sf = none ∨ sf = some 1200000) : wGoes x_KT x_tb x_tyl (x_otS xs n sf) lwFR lwGA.length lwGB.length 27 27 43 fin0tWA fin0tWB 116 244 60 60 fin0t_lr fin0to1 :=
  wDp (wWk (wFamE2 (V := [5, 6, 7, 9, 10, 8]) (x_ov0_le sf) (u_ctKS0 hsf) lwFRok fin0tE1 (by decide) (by decide) (fun i hi u hu => by
      have hi : i ∈ ([5, 6, 7, 9, 10, 8] : List Nat) := hi
      simp only [List.mem_cons, List.not_mem_nil, or_false] at hi
      rcases hi with rfl | rfl | rfl | rfl | rfl | rfl
      · exact gRk_spec (x_ov0_le sf) (u_ctKS0 hsf) lwFRok fin0tE1 (by decide) (by decide) fin0tE1G0 (by decide +kernel) _ (List.mem_cons_self) u hu
      · exact gRk_spec (x_ov0_le sf) (u_ctKS0 hsf) lwFRok fin0tE1 (by decide) (by decide) fin0tE1G0 (by decide +kernel) _ (List.mem_cons_of_mem _ (List.mem_cons_self)) u hu
      · exact gRk_spec (x_ov0_le sf) (u_ctKS0 hsf) lwFRok fin0tE1 (by decide) (by decide) fin0tE1G0 (by decide +kernel) _ (List.mem_cons_of_mem _ (List.mem_cons_of_mem _ (List.mem_cons_self))) u hu
      · exact gRk_spec (x_ov0_le sf) (u_ctKS0 hsf) lwFRok fin0tE1 (by decide) (by decide) fin0tE1G0 (by decide +kernel) _ (List.mem_cons_of_mem _ (List.mem_cons_of_mem _ (List.mem_cons_of_mem _ (List.mem_cons_self)))) u hu
      · exact gRk_spec (x_ov0_le sf) (u_ctKS0 hsf) lwFRok fin0tE1 (by decide) (by decide) fin0tE1G0 (by decide +kernel) _ (List.mem_cons_of_mem _ (List.mem_cons_of_mem _ (List.mem_cons_of_mem _ (List.mem_cons_of_mem _ (List.mem_cons_self))))) u hu
      · exact gRk_spec (x_ov0_le sf) (u_ctKS0 hsf) lwFRok fin0tE1 (by decide) (by decide) fin0tE1G0 (by decide +kernel) _ (List.mem_cons_of_mem _ (List.mem_cons_of_mem _ (List.mem_cons_of_mem _ (List.mem_cons_of_mem _ (List.mem_cons_of_mem _ (List.mem_cons_self)))))) u hu)) (Nat.le_refl _) (Nat.le_refl _) (Nat.le_refl _) (by decide +kernel) (by decide +kernel)) (by decide) (by decide)
theorem fin0tN2 {xs : Nat → Int32} {n : Nat} {sf : Option Nat} (hsf : sf = none ∨ sf = some 1200000) : wGoes x_KT x_tb x_tyl (x_otS xs n sf) lwFR lwGA.length lwGB.length 27 27 43 fin0tWA fin0tWB 116 244 60 60 fin0t_lo fin0to2 :=
  wDp (wWk (wEd_spec (x_ov0_le sf) (u_ctKS0 hsf) lwFRok fin0tE2) (Nat.le_refl _) (Nat.le_refl _) (Nat.le_refl _) (by decide +kernel) (by decide +kernel)) (by decide) (by decide)
set_option maxRecDepth 1000000 in
theorem gq144 : tMth x_tb 144 = some xm144 := rfl
def fin0t_g0_nd : List wE := [fin0t_in, fin0t_lr, fin0t_lo]
theorem fin0t_g0_G {xs : Nat → Int32} {n : Nat} {sf : Option Nat} (hsf : sf = none ∨ sf = some 1200000) : ∀ nd ∈ fin0t_g0_nd, wGoes x_KT x_tb x_tyl (x_otS xs n sf) lwFR lwGA.length lwGB.length 27 27 43 fin0tWA fin0tWB 116 244 60 60 nd (fin0t_g0_ex.map (fun x => (false, x))) := wGraph (fun nd hnd => by
  have hnd : nd ∈ ([fin0t_in, fin0t_lr, fin0t_lo] : List wE) := hnd
  simp only [List.mem_cons, List.not_mem_nil, or_false] at hnd
  rcases hnd with rfl | rfl | rfl
  · refine ⟨fin0to0, fin0tN0 hsf, fun o ho => ?_⟩
    have ho : o ∈ ([(true, fin0t_lr), (true, fin0t_lo)] : List (Bool × wE)) := ho
    simp only [List.mem_cons, List.not_mem_nil, or_false] at ho
    rcases ho with rfl | rfl
    · exact Or.inr ⟨rfl, List.mem_cons_of_mem _ (List.mem_cons_self)⟩
    · exact Or.inr ⟨rfl, List.mem_cons_of_mem _ (List.mem_cons_of_mem _ (List.mem_cons_self))⟩
  · refine ⟨fin0to1, fin0tN1 hsf, fun o ho => ?_⟩
    have ho : o ∈ ([(true, fin0t_lr), (true, fin0t_lo), (false, fin0t_out)] : List (Bool × wE)) := ho
    simp only [List.mem_cons, List.not_mem_nil, or_false] at ho
    rcases ho with rfl | rfl | rfl
    · exact Or.inr ⟨rfl, List.mem_cons_of_mem _ (List.mem_cons_self)⟩
    · exact Or.inr ⟨rfl, List.mem_cons_of_mem _ (List.mem_cons_of_mem _ (List.mem_cons_self))⟩
    · exact Or.inl (List.mem_cons_self)
  · refine ⟨fin0to2, fin0tN2 hsf, fun o ho => ?_⟩
    have ho : o ∈ ([(false, fin0t_out)] : List (Bool × wE)) := ho
    simp only [List.mem_cons, List.not_mem_nil, or_false] at ho
    rcases ho with rfl
    · exact Or.inl (List.mem_cons_self))
theorem rhN0 {xs : Nat → Int32} {n : Nat} {sf : Option Nat} (hsf : sf = none ∨ sf = some 1200000) : wGoes x_KT x_tb x_tyl (x_otS xs n sf) lwFR lwGA.length lwGB.length 16 25 43 rhWA rhWB 144 244 61 60 rh_c rho0 :=
  wDp (wWk (wEqvB (wCallA (recv := 4) (pc := 112) (ix := 320) (nx := 3) (args := []) (rest := []) (LE := [(0, .inr (some 0)), (1, .inl (lSy 16)), (2, .inl (lSy 17)), (3, .inl (lSy 18)), (4, .inl (lSy 19)), (5, .inl (lSy 24)), (6, .inr (some 25))]) (cE := (lK 0)) (sE := (lK 0)) (wReL (XA := rhX0.2.1) (XB := rhX0.2.2.1) (XC := rhX0.2.2.2.1) (rk := rhX0.2.2.2.2) (rA := rhQA0) (rB := rhQB0) (fin0t_g0_G hsf _ List.mem_cons_self) rhL0) gq144 gq116 (by decide +kernel) (by decide +kernel) (by decide +kernel) (by decide +kernel) (by decide +kernel)) (by decide +kernel) (by decide +kernel)) (by decide) (by decide) (by decide) (by decide +kernel) (by decide +kernel)) (by decide) (by decide)
theorem rhN1 {xs : Nat → Int32} {n : Nat} {sf : Option Nat} (hsf : sf = none ∨ sf = some 1200000) : wGoes x_KT x_tb x_tyl (x_otS xs n sf) lwFR lwGA.length lwGB.length 16 25 43 rhWA rhWB 144 244 61 60 rh_in rho1 :=
  wDp (wWk (wEd_spec (x_ov0_le sf) (u_ctKS1 hsf) lwFRok rhE1) (Nat.le_refl _) (Nat.le_refl _) (Nat.le_refl _) (by decide +kernel) (by decide +kernel)) (by decide) (by decide)
theorem rhN2 {xs : Nat → Int32} {n : Nat} {sf : Option Nat} (hsf : sf = none ∨ sf = some 1200000) : wGoes x_KT x_tb x_tyl (x_otS xs n sf) lwFR lwGA.length lwGB.length 16 25 43 rhWA rhWB 144 244 61 60 rh_lp rho2 :=
  wDp (wWk (wFamE2 (V := [5, 6, 7, 9, 10, 8]) (x_ov0_le sf) (u_ctKS1 hsf) lwFRok rhE2 (by decide) (by decide) (fun i hi u hu => by
      have hi : i ∈ ([5, 6, 7, 9, 10, 8] : List Nat) := hi
      simp only [List.mem_cons, List.not_mem_nil, or_false] at hi
      rcases hi with rfl | rfl | rfl | rfl | rfl | rfl
      · exact gRk_spec (x_ov0_le sf) (u_ctKS1 hsf) lwFRok rhE2 (by decide) (by decide) rhE2G0 (by decide +kernel) _ (List.mem_cons_self) u hu
      · exact gRk_spec (x_ov0_le sf) (u_ctKS1 hsf) lwFRok rhE2 (by decide) (by decide) rhE2G0 (by decide +kernel) _ (List.mem_cons_of_mem _ (List.mem_cons_self)) u hu
      · exact gRk_spec (x_ov0_le sf) (u_ctKS1 hsf) lwFRok rhE2 (by decide) (by decide) rhE2G1 (by decide +kernel) _ (List.mem_cons_self) u hu
      · exact gRk_spec (x_ov0_le sf) (u_ctKS1 hsf) lwFRok rhE2 (by decide) (by decide) rhE2G2 (by decide +kernel) _ (List.mem_cons_self) u hu
      · exact gRk_spec (x_ov0_le sf) (u_ctKS1 hsf) lwFRok rhE2 (by decide) (by decide) rhE2G2 (by decide +kernel) _ (List.mem_cons_of_mem _ (List.mem_cons_self)) u hu
      · exact gRk_spec (x_ov0_le sf) (u_ctKS1 hsf) lwFRok rhE2 (by decide) (by decide) rhE2G2 (by decide +kernel) _ (List.mem_cons_of_mem _ (List.mem_cons_of_mem _ (List.mem_cons_self))) u hu)) (Nat.le_refl _) (Nat.le_refl _) (Nat.le_refl _) (by decide +kernel) (by decide +kernel)) (by decide) (by decide)
theorem rhN3 {xs : Nat → Int32} {n : Nat} {sf : Option Nat} (hsf : sf = none ∨ sf = some 1200000) : wGoes x_KT x_tb x_tyl (x_otS xs n sf) lwFR lwGA.length lwGB.length 16 25 43 rhWA rhWB 144 244 61 60 rh_c_out rho3 :=
  wDp (wWk (wEd_spec (x_ov0_le sf) (u_ctKS1 hsf) lwFRok rhE3) (Nat.le_refl _) (Nat.le_refl _) (Nat.le_refl _) (by decide +kernel) (by decide +kernel)) (by decide) (by decide)
theorem u_ctKS4 {xs : Nat → Int32} {n : Nat} {sf : Option Nat} (hsf : sf = none ∨ sf = some 1200000) : ∀ j c, c ∈ u_ctK4 j → vCtSem x_KT x_tb x_tyl (x_otS xs n sf) j c := fun j c h => by
  unfold u_ctK4 at h
  cases hb : (Nat.beq j 145) with
  | true =>
    rw [hb] at h
    exact x_allS xs n hsf j c h
  | false =>
    rw [hb] at h
    exact absurd h List.not_mem_nil
set_option maxRecDepth 1000000 in
theorem gq143 : tMth x_tb 143 = some xm143 := rfl
def rh_g0_nd : List wE := [rh_in, rh_lp, rh_c, rh_c_out]
theorem rh_g0_G {xs : Nat → Int32} {n : Nat} {sf : Option Nat} (hsf : sf = none ∨ sf = some 1200000) : ∀ nd ∈ rh_g0_nd, wGoes x_KT x_tb x_tyl (x_otS xs n sf) lwFR lwGA.length lwGB.length 16 25 43 rhWA rhWB 144 244 61 60 nd (rh_g0_ex.map (fun x => (false, x))) := wGraph (fun nd hnd => by
  have hnd : nd ∈ ([rh_in, rh_lp, rh_c, rh_c_out] : List wE) := hnd
  simp only [List.mem_cons, List.not_mem_nil, or_false] at hnd
  rcases hnd with rfl | rfl | rfl | rfl
  · refine ⟨rho1, rhN1 hsf, fun o ho => ?_⟩
    have ho : o ∈ ([(true, rh_lp)] : List (Bool × wE)) := ho
    simp only [List.mem_cons, List.not_mem_nil, or_false] at ho
    rcases ho with rfl
    · exact Or.inr ⟨rfl, List.mem_cons_of_mem _ (List.mem_cons_self)⟩
  · refine ⟨rho2, rhN2 hsf, fun o ho => ?_⟩
    have ho : o ∈ ([(true, rh_c), (true, rh_lp), (false, rh_out)] : List (Bool × wE)) := ho
    simp only [List.mem_cons, List.not_mem_nil, or_false] at ho
    rcases ho with rfl | rfl | rfl
    · exact Or.inr ⟨rfl, List.mem_cons_of_mem _ (List.mem_cons_of_mem _ (List.mem_cons_self))⟩
    · exact Or.inr ⟨rfl, List.mem_cons_of_mem _ (List.mem_cons_self)⟩
    · exact Or.inl (List.mem_cons_self)
  · refine ⟨rho0, rhN0 hsf, fun o ho => ?_⟩
    have ho : o ∈ ([(true, rh_c_out)] : List (Bool × wE)) := ho
    simp only [List.mem_cons, List.not_mem_nil, or_false] at ho
    rcases ho with rfl
    · exact Or.inr ⟨rfl, List.mem_cons_of_mem _ (List.mem_cons_of_mem _ (List.mem_cons_of_mem _ (List.mem_cons_self)))⟩
  · refine ⟨rho3, rhN3 hsf, fun o ho => ?_⟩
    have ho : o ∈ ([(true, rh_lp)] : List (Bool × wE)) := ho
    simp only [List.mem_cons, List.not_mem_nil, or_false] at ho
    rcases ho with rfl
    · exact Or.inr ⟨rfl, List.mem_cons_of_mem _ (List.mem_cons_self)⟩)
theorem bmN0 {xs : Nat → Int32} {n : Nat} {sf : Option Nat} (hsf : sf = none ∨ sf = some 1200000) : wGoes x_KT x_tb x_tyl (x_otS xs n sf) lwFR lwGA.length lwGB.length 9 25 43 bmWA bmWB 143 244 62 60 bm_c0 bmo0 :=
  wDp (wWk (wEqvB (wCallA (recv := 0) (pc := 7) (ix := 380) (nx := 3) (args := [.inl (lSy 16), .inl (lSy 17), .inl (lSy 18)]) (rest := []) (LE := [(0, .inr (some 0)), (1, .inl (lSy 9)), (2, .inl (lSy 10)), (3, .inl (lSy 11)), (4, .inl (lK 0))]) (cE := (lK 0)) (sE := (lK 0)) (wReL (XA := bmX0.2.1) (XB := bmX0.2.2.1) (XC := bmX0.2.2.2.1) (rk := bmX0.2.2.2.2) (rA := bmQA0) (rB := bmQB0) (rh_g0_G hsf _ List.mem_cons_self) bmL0) gq143 gq144 (by decide +kernel) (by decide +kernel) (by decide +kernel) (by decide +kernel) (by decide +kernel)) (by decide +kernel) (by decide +kernel)) (by decide) (by decide) (by decide) (by decide +kernel) (by decide +kernel)) (by decide) (by decide)
theorem bmN1 {xs : Nat → Int32} {n : Nat} {sf : Option Nat} (hsf : sf = none ∨ sf = some 1200000) : wGoes x_KT x_tb x_tyl (x_otS xs n sf) lwFR lwGA.length lwGB.length 9 25 43 bmWA bmWB 143 244 62 60 bm_in bmo1 :=
  wDp (wWk (wEd_spec (x_ov0_le sf) (u_ctKS4 hsf) lwFRok bmE1) (Nat.le_refl _) (Nat.le_refl _) (Nat.le_refl _) (by decide +kernel) (by decide +kernel)) (by decide) (by decide)
theorem bmN2 {xs : Nat → Int32} {n : Nat} {sf : Option Nat} (hsf : sf = none ∨ sf = some 1200000) : wGoes x_KT x_tb x_tyl (x_otS xs n sf) lwFR lwGA.length lwGB.length 9 25 43 bmWA bmWB 143 244 62 60 bm_c0_out bmo2 :=
  wDp (wWk (wEd_spec (x_ov0_le sf) (u_ctKS4 hsf) lwFRok bmE2) (Nat.le_refl _) (Nat.le_refl _) (Nat.le_refl _) (by decide +kernel) (by decide +kernel)) (by decide) (by decide)
theorem bmN3 {xs : Nat → Int32} {n : Nat} {sf : Option Nat} (hsf : sf = none ∨ sf = some 1200000) : wGoes x_KT x_tb x_tyl (x_otS xs n sf) lwFR lwGA.length lwGB.length 9 25 43 bmWA bmWB 143 244 62 60 bm_c1 bmo3 :=
  wDp (wWk (wEqvB (wCallA (recv := 0) (pc := 51) (ix := 380) (nx := 3) (args := [.inl (lSy 16), .inl (lSy 17), .inl (lSy 18)]) (rest := []) (LE := [(0, .inr (some 0)), (1, .inl (lSy 9)), (2, .inl (lSy 10)), (3, .inl (lSy 11)), (4, .inl (lSy 12)), (5, .inl (lSy 13)), (6, .inl (lSy 14)), (7, .inl (lSy 15))]) (cE := (lK 0)) (sE := (lK 0)) (wReL (XA := bmX3.2.1) (XB := bmX3.2.2.1) (XC := bmX3.2.2.2.1) (rk := bmX3.2.2.2.2) (rA := bmQA3) (rB := bmQB3) (rh_g0_G hsf _ List.mem_cons_self) bmL3) gq143 gq144 (by decide +kernel) (by decide +kernel) (by decide +kernel) (by decide +kernel) (by decide +kernel)) (by decide +kernel) (by decide +kernel)) (by decide) (by decide) (by decide) (by decide +kernel) (by decide +kernel)) (by decide) (by decide)
theorem bmN4 {xs : Nat → Int32} {n : Nat} {sf : Option Nat} (hsf : sf = none ∨ sf = some 1200000) : wGoes x_KT x_tb x_tyl (x_otS xs n sf) lwFR lwGA.length lwGB.length 9 25 43 bmWA bmWB 143 244 62 60 bm_lp bmo4 :=
  wDp (wWk (wEd_spec (x_ov0_le sf) (u_ctKS4 hsf) lwFRok bmE4) (Nat.le_refl _) (Nat.le_refl _) (Nat.le_refl _) (by decide +kernel) (by decide +kernel)) (by decide) (by decide)
theorem bmN5 {xs : Nat → Int32} {n : Nat} {sf : Option Nat} (hsf : sf = none ∨ sf = some 1200000) : wGoes x_KT x_tb x_tyl (x_otS xs n sf) lwFR lwGA.length lwGB.length 9 25 43 bmWA bmWB 143 244 62 60 bm_c1_out bmo5 :=
  wDp (wWk (wEd_spec (x_ov0_le sf) (u_ctKS4 hsf) lwFRok bmE5) (Nat.le_refl _) (Nat.le_refl _) (Nat.le_refl _) (by decide +kernel) (by decide +kernel)) (by decide) (by decide)
theorem niN0 {xs : Nat → Int32} {n : Nat} {sf : Option Nat} (hsf : sf = none ∨ sf = some 1200000) : wGoes x_KT x_tb x_tyl (x_otS xs n sf) lwFR lwGA.length lwGB.length 25 25 43 niWA niWB 113 220 60 60 ni_in nio0 :=
  wDp (wWk (wEd_spec (x_ov0_le sf) (u_ctKS2 hsf) lwFRok niE0) (Nat.le_refl _) (Nat.le_refl _) (Nat.le_refl _) (by decide +kernel) (by decide +kernel)) (by decide) (by decide)
theorem niN1 {xs : Nat → Int32} {n : Nat} {sf : Option Nat} (hsf : sf = none ∨ sf = some 1200000) : wGoes x_KT x_tb x_tyl (x_otS xs n sf) lwFR lwGA.length lwGB.length 25 25 43 niWA niWB 113 220 60 60 ni_lp nio1 :=
  wDp (wWk (wFamE2 (V := [5, 6, 9, 10, 20]) (x_ov0_le sf) (u_ctKS2 hsf) lwFRok niE1 (by decide) (by decide) (fun i hi u hu => by
      have hi : i ∈ ([5, 6, 9, 10, 20] : List Nat) := hi
      simp only [List.mem_cons, List.not_mem_nil, or_false] at hi
      rcases hi with rfl | rfl | rfl | rfl | rfl
      · cases hu
        exact wRkE_spec (x_ov0_le sf) (u_ctKS2 hsf) lwFRok niE1R5
      · cases hu
        exact wRkE_spec (x_ov0_le sf) (u_ctKS2 hsf) lwFRok niE1R6
      · cases hu
        exact wRkE_spec (x_ov0_le sf) (u_ctKS2 hsf) lwFRok niE1R9
      · cases hu
        exact wRkE_spec (x_ov0_le sf) (u_ctKS2 hsf) lwFRok niE1R10
      · cases hu
        exact wRkE_spec (x_ov0_le sf) (u_ctKS2 hsf) lwFRok niE1R20)) (Nat.le_refl _) (Nat.le_refl _) (Nat.le_refl _) (by decide +kernel) (by decide +kernel)) (by decide) (by decide)
set_option maxRecDepth 1000000 in
theorem gq222 : tMth x_tb 222 = some xm222 := rfl
def ni_g0_nd : List wE := [ni_in, ni_lp]
theorem ni_g0_G {xs : Nat → Int32} {n : Nat} {sf : Option Nat} (hsf : sf = none ∨ sf = some 1200000) : ∀ nd ∈ ni_g0_nd, wGoes x_KT x_tb x_tyl (x_otS xs n sf) lwFR lwGA.length lwGB.length 25 25 43 niWA niWB 113 220 60 60 nd (ni_g0_ex.map (fun x => (false, x))) := wGraph (fun nd hnd => by
  have hnd : nd ∈ ([ni_in, ni_lp] : List wE) := hnd
  simp only [List.mem_cons, List.not_mem_nil, or_false] at hnd
  rcases hnd with rfl | rfl
  · refine ⟨nio0, niN0 hsf, fun o ho => ?_⟩
    have ho : o ∈ ([(true, ni_lp)] : List (Bool × wE)) := ho
    simp only [List.mem_cons, List.not_mem_nil, or_false] at ho
    rcases ho with rfl
    · exact Or.inr ⟨rfl, List.mem_cons_of_mem _ (List.mem_cons_self)⟩
  · refine ⟨nio1, niN1 hsf, fun o ho => ?_⟩
    have ho : o ∈ ([(true, ni_lp), (false, ni_out)] : List (Bool × wE)) := ho
    simp only [List.mem_cons, List.not_mem_nil, or_false] at ho
    rcases ho with rfl | rfl
    · exact Or.inr ⟨rfl, List.mem_cons_of_mem _ (List.mem_cons_self)⟩
    · exact Or.inl (List.mem_cons_self))
theorem trN0 {xs : Nat → Int32} {n : Nat} {sf : Option Nat} (hsf : sf = none ∨ sf = some 1200000) : wGoes x_KT x_tb x_tyl (x_otS xs n sf) lwFR lwGA.length lwGB.length 19 25 43 trWA trWB 113 222 60 61 tr_c tro0 :=
  wDp (wWk (wEqvB (wCallB (recv := 0) (pc := 141) (ix := 335) (nx := 3) (args := [.inl (lSy 25), .inl (lSy 26), .inl (lSy 27), .inl (lK 0)]) (rest := []) (LE := [(0, .inr (some 0)), (4, .inr (some 31)), (5, .inr (some 33)), (6, .inr (some 32)), (7, .inr (some 34))]) (cE := (lK 0)) (sE := (lK 0)) (wReL (XA := trX0.2.1) (XB := trX0.2.2.1) (XC := trX0.2.2.2.1) (rk := trX0.2.2.2.2) (rA := trQA0) (rB := trQB0) (ni_g0_G hsf _ List.mem_cons_self) trL0) gq222 gq220 (by decide +kernel) (by decide +kernel) (by decide +kernel) (by decide +kernel) (by decide +kernel)) (by decide +kernel) (by decide +kernel)) (by decide) (by decide) (by decide) (by decide +kernel) (by decide +kernel)) (by decide) (by decide)
theorem trN1 {xs : Nat → Int32} {n : Nat} {sf : Option Nat} (hsf : sf = none ∨ sf = some 1200000) : wGoes x_KT x_tb x_tyl (x_otS xs n sf) lwFR lwGA.length lwGB.length 19 25 43 trWA trWB 113 222 60 61 tr_in tro1 :=
  wDp (wWk (wEd_spec (x_ov0_le sf) u_ctS lwFRok trE1) (Nat.le_refl _) (Nat.le_refl _) (Nat.le_refl _) (by decide +kernel) (by decide +kernel)) (by decide) (by decide)
theorem trN2 {xs : Nat → Int32} {n : Nat} {sf : Option Nat} (hsf : sf = none ∨ sf = some 1200000) : wGoes x_KT x_tb x_tyl (x_otS xs n sf) lwFR lwGA.length lwGB.length 19 25 43 trWA trWB 113 222 60 61 tr_lp tro2 :=
  wDp (wWk (wFamE2 (V := [5, 6, 9, 10, 20]) (x_ov0_le sf) u_ctS lwFRok trE2 (by decide) (by decide) (fun i hi u hu => by
      have hi : i ∈ ([5, 6, 9, 10, 20] : List Nat) := hi
      simp only [List.mem_cons, List.not_mem_nil, or_false] at hi
      rcases hi with rfl | rfl | rfl | rfl | rfl
      · cases hu
        exact wRkE_spec (x_ov0_le sf) u_ctS lwFRok trE2R5
      · cases hu
        exact wRkE_spec (x_ov0_le sf) u_ctS lwFRok trE2R6
      · cases hu
        exact wRkE_spec (x_ov0_le sf) u_ctS lwFRok trE2R9
      · cases hu
        exact wRkE_spec (x_ov0_le sf) u_ctS lwFRok trE2R10
      · cases hu
        exact wRkE_spec (x_ov0_le sf) u_ctS lwFRok trE2R20)) (Nat.le_refl _) (Nat.le_refl _) (Nat.le_refl _) (by decide +kernel) (by decide +kernel)) (by decide) (by decide)
theorem trN3 {xs : Nat → Int32} {n : Nat} {sf : Option Nat} (hsf : sf = none ∨ sf = some 1200000) : wGoes x_KT x_tb x_tyl (x_otS xs n sf) lwFR lwGA.length lwGB.length 19 25 43 trWA trWB 113 222 60 61 tr_c_out tro3 :=
  wDp (wWk (wEd_spec (x_ov0_le sf) u_ctS lwFRok trE3) (Nat.le_refl _) (Nat.le_refl _) (Nat.le_refl _) (by decide +kernel) (by decide +kernel)) (by decide) (by decide)
set_option maxRecDepth 1000000 in
theorem gq223 : tMth x_tb 223 = some xm223 := rfl
theorem bfN0 {xs : Nat → Int32} {n : Nat} {sf : Option Nat} (hsf : sf = none ∨ sf = some 1200000) : wGoes x_KT x_tb x_tyl (x_otS xs n sf) lwFR lwGA.length lwGB.length 6 25 43 bfWA bfWB 113 223 60 62 bf_in bfo0 :=
  wDp (wWk (wEd_spec (x_ov0_le sf) u_ctS lwFRok bfE0) (Nat.le_refl _) (Nat.le_refl _) (Nat.le_refl _) (by decide +kernel) (by decide +kernel)) (by decide) (by decide)
theorem bfN1 {xs : Nat → Int32} {n : Nat} {sf : Option Nat} (hsf : sf = none ∨ sf = some 1200000) : wGoes x_KT x_tb x_tyl (x_otS xs n sf) lwFR lwGA.length lwGB.length 6 25 43 bfWA bfWB 113 223 60 62 bf_h0 bfo1 :=
  wDp (wWk (wEd_spec (x_ov0_le sf) u_ctS lwFRok bfE1) (Nat.le_refl _) (Nat.le_refl _) (Nat.le_refl _) (by decide +kernel) (by decide +kernel)) (by decide) (by decide)
theorem bfN2 {xs : Nat → Int32} {n : Nat} {sf : Option Nat} (hsf : sf = none ∨ sf = some 1200000) : wGoes x_KT x_tb x_tyl (x_otS xs n sf) lwFR lwGA.length lwGB.length 6 25 43 bfWA bfWB 113 223 60 62 bf_h1 bfo2 :=
  wDp (wWk (wEd_spec (x_ov0_le sf) u_ctS lwFRok bfE2) (Nat.le_refl _) (Nat.le_refl _) (Nat.le_refl _) (by decide +kernel) (by decide +kernel)) (by decide) (by decide)
def tr_g0_nd : List wE := [tr_in, tr_lp, tr_c, tr_c_out]
theorem tr_g0_G {xs : Nat → Int32} {n : Nat} {sf : Option Nat} (hsf : sf = none ∨ sf = some 1200000) : ∀ nd ∈ tr_g0_nd, wGoes x_KT x_tb x_tyl (x_otS xs n sf) lwFR lwGA.length lwGB.length 19 25 43 trWA trWB 113 222 60 61 nd (tr_g0_ex.map (fun x => (false, x))) := wGraph (fun nd hnd => by
  have hnd : nd ∈ ([tr_in, tr_lp, tr_c, tr_c_out] : List wE) := hnd
  simp only [List.mem_cons, List.not_mem_nil, or_false] at hnd
  rcases hnd with rfl | rfl | rfl | rfl
  · refine ⟨tro1, trN1 hsf, fun o ho => ?_⟩
    have ho : o ∈ ([(true, tr_lp)] : List (Bool × wE)) := ho
    simp only [List.mem_cons, List.not_mem_nil, or_false] at ho
    rcases ho with rfl
    · exact Or.inr ⟨rfl, List.mem_cons_of_mem _ (List.mem_cons_self)⟩
  · refine ⟨tro2, trN2 hsf, fun o ho => ?_⟩
    have ho : o ∈ ([(true, tr_lp), (true, tr_c)] : List (Bool × wE)) := ho
    simp only [List.mem_cons, List.not_mem_nil, or_false] at ho
    rcases ho with rfl | rfl
    · exact Or.inr ⟨rfl, List.mem_cons_of_mem _ (List.mem_cons_self)⟩
    · exact Or.inr ⟨rfl, List.mem_cons_of_mem _ (List.mem_cons_of_mem _ (List.mem_cons_self))⟩
  · refine ⟨tro0, trN0 hsf, fun o ho => ?_⟩
    have ho : o ∈ ([(true, tr_c_out)] : List (Bool × wE)) := ho
    simp only [List.mem_cons, List.not_mem_nil, or_false] at ho
    rcases ho with rfl
    · exact Or.inr ⟨rfl, List.mem_cons_of_mem _ (List.mem_cons_of_mem _ (List.mem_cons_of_mem _ (List.mem_cons_self)))⟩
  · refine ⟨tro3, trN3 hsf, fun o ho => ?_⟩
    have ho : o ∈ ([(false, tr_out)] : List (Bool × wE)) := ho
    simp only [List.mem_cons, List.not_mem_nil, or_false] at ho
    rcases ho with rfl
    · exact Or.inl (List.mem_cons_self))
theorem bfN3 {xs : Nat → Int32} {n : Nat} {sf : Option Nat} (hsf : sf = none ∨ sf = some 1200000) : wGoes x_KT x_tb x_tyl (x_otS xs n sf) lwFR lwGA.length lwGB.length 6 25 43 bfWA bfWB 113 223 60 62 bf_c0 bfo3 :=
  wDp (wWk (wEqvB (wCallB (recv := 0) (pc := 154) (ix := 339) (nx := 3) (args := [.inl (lSy 19), .inl (lSy 20), .inl (lSy 21)]) (rest := []) (LE := [(0, .inr (some 0)), (1, .inl (lSy 6)), (2, .inl (lSy 7)), (3, .inl (lSy 8)), (4, .inl (lSy 9)), (5, .inl (lSy 10)), (6, .inl (lSy 11)), (7, .inl (lSy 12)), (8, .inl (lK 0)), (9, .inl (lSy 13)), (10, .inl (lSy 14))]) (cE := (lK 0)) (sE := (lK 0)) (wReL (XA := bfX3.2.1) (XB := bfX3.2.2.1) (XC := bfX3.2.2.2.1) (rk := bfX3.2.2.2.2) (rA := bfQA3) (rB := bfQB3) (tr_g0_G hsf _ List.mem_cons_self) bfL3) gq223 gq222 (by decide +kernel) (by decide +kernel) (by decide +kernel) (by decide +kernel) (by decide +kernel)) (by decide +kernel) (by decide +kernel)) (by decide) (by decide) (by decide) (by decide +kernel) (by decide +kernel)) (by decide) (by decide)
theorem bfN4 {xs : Nat → Int32} {n : Nat} {sf : Option Nat} (hsf : sf = none ∨ sf = some 1200000) : wGoes x_KT x_tb x_tyl (x_otS xs n sf) lwFR lwGA.length lwGB.length 6 25 43 bfWA bfWB 113 223 60 62 bf_c1 bfo4 :=
  wDp (wWk (wEqvB (wCallB (recv := 0) (pc := 154) (ix := 339) (nx := 3) (args := [.inl (lSy 19), .inl (lSy 20), .inl (lSy 21)]) (rest := []) (LE := [(0, .inr (some 0)), (1, .inl (lSy 6)), (2, .inl (lSy 7)), (3, .inl (lSy 8)), (4, .inl (lSy 9)), (5, .inl (lSy 10)), (6, .inl (lSy 11)), (7, .inl (lSy 12)), (8, .inl (lK 1)), (9, .inl (lSy 13)), (10, .inl (lSy 14))]) (cE := (lK 0)) (sE := (lK 0)) (wReL (XA := bfX4.2.1) (XB := bfX4.2.2.1) (XC := bfX4.2.2.2.1) (rk := bfX4.2.2.2.2) (rA := bfQA4) (rB := bfQB4) (tr_g0_G hsf _ List.mem_cons_self) bfL4) gq223 gq222 (by decide +kernel) (by decide +kernel) (by decide +kernel) (by decide +kernel) (by decide +kernel)) (by decide +kernel) (by decide +kernel)) (by decide) (by decide) (by decide) (by decide +kernel) (by decide +kernel)) (by decide) (by decide)
theorem bfN5 {xs : Nat → Int32} {n : Nat} {sf : Option Nat} (hsf : sf = none ∨ sf = some 1200000) : wGoes x_KT x_tb x_tyl (x_otS xs n sf) lwFR lwGA.length lwGB.length 6 25 43 bfWA bfWB 113 223 60 62 bf_l0 bfo5 :=
  wDp (wWk (wEd_spec (x_ov0_le sf) u_ctS lwFRok bfE5) (Nat.le_refl _) (Nat.le_refl _) (Nat.le_refl _) (by decide +kernel) (by decide +kernel)) (by decide) (by decide)
theorem bfN6 {xs : Nat → Int32} {n : Nat} {sf : Option Nat} (hsf : sf = none ∨ sf = some 1200000) : wGoes x_KT x_tb x_tyl (x_otS xs n sf) lwFR lwGA.length lwGB.length 6 25 43 bfWA bfWB 113 223 60 62 bf_l1 bfo6 :=
  wDp (wWk (wEd_spec (x_ov0_le sf) u_ctS lwFRok bfE6) (Nat.le_refl _) (Nat.le_refl _) (Nat.le_refl _) (by decide +kernel) (by decide +kernel)) (by decide) (by decide)
theorem bfN7 {xs : Nat → Int32} {n : Nat} {sf : Option Nat} (hsf : sf = none ∨ sf = some 1200000) : wGoes x_KT x_tb x_tyl (x_otS xs n sf) lwFR lwGA.length lwGB.length 6 25 43 bfWA bfWB 113 223 60 62 bf_c0_out bfo7 :=
  wDp (wWk (wEd_spec (x_ov0_le sf) u_ctS lwFRok bfE7) (Nat.le_refl _) (Nat.le_refl _) (Nat.le_refl _) (by decide +kernel) (by decide +kernel)) (by decide) (by decide)
theorem bfN8 {xs : Nat → Int32} {n : Nat} {sf : Option Nat} (hsf : sf = none ∨ sf = some 1200000) : wGoes x_KT x_tb x_tyl (x_otS xs n sf) lwFR lwGA.length lwGB.length 6 25 43 bfWA bfWB 113 223 60 62 bf_c1_out bfo8 :=
  wDp (wWk (wEd_spec (x_ov0_le sf) u_ctS lwFRok bfE8) (Nat.le_refl _) (Nat.le_refl _) (Nat.le_refl _) (by decide +kernel) (by decide +kernel)) (by decide) (by decide)
set_option maxRecDepth 1000000 in
theorem gq140 : tMth x_tb 140 = some xm140 := rfl
def rt_g0_nd : List wE := [rt_in, rt_lp, rt_c, rt_c_out]
theorem rt_g0_G {xs : Nat → Int32} {n : Nat} {sf : Option Nat} (hsf : sf = none ∨ sf = some 1200000) : ∀ nd ∈ rt_g0_nd, wGoes x_KT x_tb x_tyl (x_otS xs n sf) lwFR lwGA.length lwGB.length 11 25 43 rtWA rtWB 141 244 61 60 nd (rt_g0_ex.map (fun x => (false, x))) := wGraph (fun nd hnd => by
  have hnd : nd ∈ ([rt_in, rt_lp, rt_c, rt_c_out] : List wE) := hnd
  simp only [List.mem_cons, List.not_mem_nil, or_false] at hnd
  rcases hnd with rfl | rfl | rfl | rfl
  · refine ⟨rto1, rtN1 hsf, fun o ho => ?_⟩
    have ho : o ∈ ([(true, rt_lp)] : List (Bool × wE)) := ho
    simp only [List.mem_cons, List.not_mem_nil, or_false] at ho
    rcases ho with rfl
    · exact Or.inr ⟨rfl, List.mem_cons_of_mem _ (List.mem_cons_self)⟩
  · refine ⟨rto2, rtN2 hsf, fun o ho => ?_⟩
    have ho : o ∈ ([(true, rt_c), (true, rt_lp), (false, rt_out)] : List (Bool × wE)) := ho
    simp only [List.mem_cons, List.not_mem_nil, or_false] at ho
    rcases ho with rfl | rfl | rfl
    · exact Or.inr ⟨rfl, List.mem_cons_of_mem _ (List.mem_cons_of_mem _ (List.mem_cons_self))⟩
    · exact Or.inr ⟨rfl, List.mem_cons_of_mem _ (List.mem_cons_self)⟩
    · exact Or.inl (List.mem_cons_self)
  · refine ⟨rto0, rtN0 hsf, fun o ho => ?_⟩
    have ho : o ∈ ([(true, rt_c_out)] : List (Bool × wE)) := ho
    simp only [List.mem_cons, List.not_mem_nil, or_false] at ho
    rcases ho with rfl
    · exact Or.inr ⟨rfl, List.mem_cons_of_mem _ (List.mem_cons_of_mem _ (List.mem_cons_of_mem _ (List.mem_cons_self)))⟩
  · refine ⟨rto3, rtN3 hsf, fun o ho => ?_⟩
    have ho : o ∈ ([(true, rt_lp)] : List (Bool × wE)) := ho
    simp only [List.mem_cons, List.not_mem_nil, or_false] at ho
    rcases ho with rfl
    · exact Or.inr ⟨rfl, List.mem_cons_of_mem _ (List.mem_cons_self)⟩)
theorem firstN0 {xs : Nat → Int32} {n : Nat} {sf : Option Nat} (hsf : sf = none ∨ sf = some 1200000) : wGoes x_KT x_tb x_tyl (x_otS xs n sf) lwFR lwGA.length lwGB.length 5 25 43 firstWA firstWB 140 223 63 62 first_c1 firsto0 :=
  wDp (wWk (wEqvB (wCallA (recv := 0) (pc := 68) (ix := 372) (nx := 3) (args := [.inl (lSy 11), .inl (lSy 12)]) (rest := []) (LE := [(0, .inr (some 0)), (1, .inl (lSy 5)), (2, .inl (lSy 6)), (3, .inl (lSy 7)), (4, .inl (lSy 8))]) (cE := (lK 0)) (sE := (lK 0)) (wLift (dpB := 60) (pc := 0) (pcP := 43) (nx := 1) (LE := [(0, .inr (some 0)), (1, .inl (lSy 5)), (2, .inl (lSy 6)), (3, .inl (lSy 7)), (4, .inl (lSy 8))]) (SE := []) (cE := (lK 0)) (sE := (lK 0)) (wReL (XA := firstX0.2.1) (XB := firstX0.2.2.1) (XC := firstX0.2.2.2.1) (rk := firstX0.2.2.2.2) (rA := firstQA0) (rB := firstQB0) (rt_g0_G hsf _ List.mem_cons_self) firstL0) gq223 gq244 (by decide +kernel) (by decide +kernel) (by decide +kernel) (by decide +kernel)) gq140 gq141 (by decide +kernel) (by decide +kernel) (by decide +kernel) (by decide +kernel) (by decide +kernel)) (by decide +kernel) (by decide +kernel)) (by decide) (by decide) (by decide) (by decide +kernel) (by decide +kernel)) (by decide) (by decide)
theorem firstN1 {xs : Nat → Int32} {n : Nat} {sf : Option Nat} (hsf : sf = none ∨ sf = some 1200000) : wGoes x_KT x_tb x_tyl (x_otS xs n sf) lwFR lwGA.length lwGB.length 5 25 43 firstWA firstWB 140 223 63 62 first_in firsto1 :=
  wDp (wWk (wEd_spec (x_ov0_le sf) (u_ctKS4 hsf) lwFRok firstE1) (Nat.le_refl _) (Nat.le_refl _) (Nat.le_refl _) (by decide +kernel) (by decide +kernel)) (by decide) (by decide)
def bm_g0_nd : List wE := [bm_in, bm_c0, bm_c0_out, bm_lp, bm_c1, bm_c1_out]
theorem bm_g0_G {xs : Nat → Int32} {n : Nat} {sf : Option Nat} (hsf : sf = none ∨ sf = some 1200000) : ∀ nd ∈ bm_g0_nd, wGoes x_KT x_tb x_tyl (x_otS xs n sf) lwFR lwGA.length lwGB.length 9 25 43 bmWA bmWB 143 244 62 60 nd (bm_g0_ex.map (fun x => (false, x))) := wGraph (fun nd hnd => by
  have hnd : nd ∈ ([bm_in, bm_c0, bm_c0_out, bm_lp, bm_c1, bm_c1_out] : List wE) := hnd
  simp only [List.mem_cons, List.not_mem_nil, or_false] at hnd
  rcases hnd with rfl | rfl | rfl | rfl | rfl | rfl
  · refine ⟨bmo1, bmN1 hsf, fun o ho => ?_⟩
    have ho : o ∈ ([(true, bm_c0)] : List (Bool × wE)) := ho
    simp only [List.mem_cons, List.not_mem_nil, or_false] at ho
    rcases ho with rfl
    · exact Or.inr ⟨rfl, List.mem_cons_of_mem _ (List.mem_cons_self)⟩
  · refine ⟨bmo0, bmN0 hsf, fun o ho => ?_⟩
    have ho : o ∈ ([(true, bm_c0_out)] : List (Bool × wE)) := ho
    simp only [List.mem_cons, List.not_mem_nil, or_false] at ho
    rcases ho with rfl
    · exact Or.inr ⟨rfl, List.mem_cons_of_mem _ (List.mem_cons_of_mem _ (List.mem_cons_self))⟩
  · refine ⟨bmo2, bmN2 hsf, fun o ho => ?_⟩
    have ho : o ∈ ([(true, bm_lp)] : List (Bool × wE)) := ho
    simp only [List.mem_cons, List.not_mem_nil, or_false] at ho
    rcases ho with rfl
    · exact Or.inr ⟨rfl, List.mem_cons_of_mem _ (List.mem_cons_of_mem _ (List.mem_cons_of_mem _ (List.mem_cons_self)))⟩
  · refine ⟨bmo4, bmN4 hsf, fun o ho => ?_⟩
    have ho : o ∈ ([(true, bm_c1), (true, bm_lp), (false, bm_out)] : List (Bool × wE)) := ho
    simp only [List.mem_cons, List.not_mem_nil, or_false] at ho
    rcases ho with rfl | rfl | rfl
    · exact Or.inr ⟨rfl, List.mem_cons_of_mem _ (List.mem_cons_of_mem _ (List.mem_cons_of_mem _ (List.mem_cons_of_mem _ (List.mem_cons_self))))⟩
    · exact Or.inr ⟨rfl, List.mem_cons_of_mem _ (List.mem_cons_of_mem _ (List.mem_cons_of_mem _ (List.mem_cons_self)))⟩
    · exact Or.inl (List.mem_cons_self)
  · refine ⟨bmo3, bmN3 hsf, fun o ho => ?_⟩
    have ho : o ∈ ([(true, bm_c1_out)] : List (Bool × wE)) := ho
    simp only [List.mem_cons, List.not_mem_nil, or_false] at ho
    rcases ho with rfl
    · exact Or.inr ⟨rfl, List.mem_cons_of_mem _ (List.mem_cons_of_mem _ (List.mem_cons_of_mem _ (List.mem_cons_of_mem _ (List.mem_cons_of_mem _ (List.mem_cons_self)))))⟩
  · refine ⟨bmo5, bmN5 hsf, fun o ho => ?_⟩
    have ho : o ∈ ([(true, bm_lp)] : List (Bool × wE)) := ho
    simp only [List.mem_cons, List.not_mem_nil, or_false] at ho
    rcases ho with rfl
    · exact Or.inr ⟨rfl, List.mem_cons_of_mem _ (List.mem_cons_of_mem _ (List.mem_cons_of_mem _ (List.mem_cons_self)))⟩)
theorem firstN2 {xs : Nat → Int32} {n : Nat} {sf : Option Nat} (hsf : sf = none ∨ sf = some 1200000) : wGoes x_KT x_tb x_tyl (x_otS xs n sf) lwFR lwGA.length lwGB.length 5 25 43 firstWA firstWB 140 223 63 62 first_c2 firsto2 :=
  wDp (wWk (wEqvB (wCallA (recv := 0) (pc := 75) (ix := 376) (nx := 3) (args := [.inl (lSy 9), .inl (lSy 10), .inl (lSy 11)]) (rest := []) (LE := [(0, .inr (some 0)), (1, .inl (lSy 5)), (2, .inl (lSy 6)), (3, .inl (lSy 7)), (4, .inl (lSy 8))]) (cE := (lK 0)) (sE := (lK 0)) (wLift (dpB := 60) (pc := 0) (pcP := 43) (nx := 1) (LE := [(0, .inr (some 0)), (1, .inl (lSy 5)), (2, .inl (lSy 6)), (3, .inl (lSy 7)), (4, .inl (lSy 8))]) (SE := []) (cE := (lK 0)) (sE := (lK 0)) (wReL (XA := firstX2.2.1) (XB := firstX2.2.2.1) (XC := firstX2.2.2.2.1) (rk := firstX2.2.2.2.2) (rA := firstQA2) (rB := firstQB2) (bm_g0_G hsf _ List.mem_cons_self) firstL2) gq223 gq244 (by decide +kernel) (by decide +kernel) (by decide +kernel) (by decide +kernel)) gq140 gq143 (by decide +kernel) (by decide +kernel) (by decide +kernel) (by decide +kernel) (by decide +kernel)) (by decide +kernel) (by decide +kernel)) (by decide) (by decide) (by decide) (by decide +kernel) (by decide +kernel)) (by decide) (by decide)
theorem firstN3 {xs : Nat → Int32} {n : Nat} {sf : Option Nat} (hsf : sf = none ∨ sf = some 1200000) : wGoes x_KT x_tb x_tyl (x_otS xs n sf) lwFR lwGA.length lwGB.length 5 25 43 firstWA firstWB 140 223 63 62 first_c1_out firsto3 :=
  wDp (wWk (wEd_spec (x_ov0_le sf) (u_ctKS4 hsf) lwFRok firstE3) (Nat.le_refl _) (Nat.le_refl _) (Nat.le_refl _) (by decide +kernel) (by decide +kernel)) (by decide) (by decide)
theorem firstN4 {xs : Nat → Int32} {n : Nat} {sf : Option Nat} (hsf : sf = none ∨ sf = some 1200000) : wGoes x_KT x_tb x_tyl (x_otS xs n sf) lwFR lwGA.length lwGB.length 5 25 43 firstWA firstWB 140 223 63 62 first_c3 firsto4 :=
  wDp (wWk (wEqvB (wCallA (recv := 0) (pc := 113) (ix := 380) (nx := 3) (args := [.inl (lSy 16), .inl (lSy 17), .inl (lSy 18)]) (rest := []) (LE := [(0, .inr (some 0)), (1, .inl (lSy 5)), (2, .inl (lSy 6)), (3, .inl (lSy 7)), (4, .inl (lSy 8))]) (cE := (lK 0)) (sE := (lK 0)) (wLift (dpB := 60) (pc := 0) (pcP := 43) (nx := 1) (LE := [(0, .inr (some 0)), (1, .inl (lSy 5)), (2, .inl (lSy 6)), (3, .inl (lSy 7)), (4, .inl (lSy 8))]) (SE := []) (cE := (lK 0)) (sE := (lK 0)) (wReL (XA := firstX4.2.1) (XB := firstX4.2.2.1) (XC := firstX4.2.2.2.1) (rk := firstX4.2.2.2.2) (rA := firstQA4) (rB := firstQB4) (rh_g0_G hsf _ List.mem_cons_self) firstL4) gq223 gq244 (by decide +kernel) (by decide +kernel) (by decide +kernel) (by decide +kernel)) gq140 gq144 (by decide +kernel) (by decide +kernel) (by decide +kernel) (by decide +kernel) (by decide +kernel)) (by decide +kernel) (by decide +kernel)) (by decide) (by decide) (by decide) (by decide +kernel) (by decide +kernel)) (by decide) (by decide)
theorem firstN5 {xs : Nat → Int32} {n : Nat} {sf : Option Nat} (hsf : sf = none ∨ sf = some 1200000) : wGoes x_KT x_tb x_tyl (x_otS xs n sf) lwFR lwGA.length lwGB.length 5 25 43 firstWA firstWB 140 223 63 62 first_c2_out firsto5 :=
  wDp (wWk (wEd_spec (x_ov0_le sf) (u_ctKS4 hsf) lwFRok firstE5) (Nat.le_refl _) (Nat.le_refl _) (Nat.le_refl _) (by decide +kernel) (by decide +kernel)) (by decide) (by decide)
def bf_g0_nd : List wE := [bf_in, bf_h1, bf_l0, bf_l1, bf_c0, bf_h0, bf_c1, bf_c0_out, bf_c1_out]
theorem bf_g0_G {xs : Nat → Int32} {n : Nat} {sf : Option Nat} (hsf : sf = none ∨ sf = some 1200000) : ∀ nd ∈ bf_g0_nd, wGoes x_KT x_tb x_tyl (x_otS xs n sf) lwFR lwGA.length lwGB.length 6 25 43 bfWA bfWB 113 223 60 62 nd (bf_g0_ex.map (fun x => (false, x))) := wGraph (fun nd hnd => by
  have hnd : nd ∈ ([bf_in, bf_h1, bf_l0, bf_l1, bf_c0, bf_h0, bf_c1, bf_c0_out, bf_c1_out] : List wE) := hnd
  simp only [List.mem_cons, List.not_mem_nil, or_false] at hnd
  rcases hnd with rfl | rfl | rfl | rfl | rfl | rfl | rfl | rfl | rfl
  · refine ⟨bfo0, bfN0 hsf, fun o ho => ?_⟩
    have ho : o ∈ ([(true, bf_h1), (false, bf_e226), (false, bf_e26), (false, bf_e56)] : List (Bool × wE)) := ho
    simp only [List.mem_cons, List.not_mem_nil, or_false] at ho
    rcases ho with rfl | rfl | rfl | rfl
    · exact Or.inr ⟨rfl, List.mem_cons_of_mem _ (List.mem_cons_self)⟩
    · exact Or.inl (List.mem_cons_self)
    · exact Or.inl (List.mem_cons_of_mem _ (List.mem_cons_self))
    · exact Or.inl (List.mem_cons_of_mem _ (List.mem_cons_of_mem _ (List.mem_cons_self)))
  · refine ⟨bfo2, bfN2 hsf, fun o ho => ?_⟩
    have ho : o ∈ ([(true, bf_l0), (true, bf_l1), (false, bf_e226)] : List (Bool × wE)) := ho
    simp only [List.mem_cons, List.not_mem_nil, or_false] at ho
    rcases ho with rfl | rfl | rfl
    · exact Or.inr ⟨rfl, List.mem_cons_of_mem _ (List.mem_cons_of_mem _ (List.mem_cons_self))⟩
    · exact Or.inr ⟨rfl, List.mem_cons_of_mem _ (List.mem_cons_of_mem _ (List.mem_cons_of_mem _ (List.mem_cons_self)))⟩
    · exact Or.inl (List.mem_cons_self)
  · refine ⟨bfo5, bfN5 hsf, fun o ho => ?_⟩
    have ho : o ∈ ([(true, bf_l0), (true, bf_c0), (true, bf_h0)] : List (Bool × wE)) := ho
    simp only [List.mem_cons, List.not_mem_nil, or_false] at ho
    rcases ho with rfl | rfl | rfl
    · exact Or.inr ⟨rfl, List.mem_cons_of_mem _ (List.mem_cons_of_mem _ (List.mem_cons_self))⟩
    · exact Or.inr ⟨rfl, List.mem_cons_of_mem _ (List.mem_cons_of_mem _ (List.mem_cons_of_mem _ (List.mem_cons_of_mem _ (List.mem_cons_self))))⟩
    · exact Or.inr ⟨rfl, List.mem_cons_of_mem _ (List.mem_cons_of_mem _ (List.mem_cons_of_mem _ (List.mem_cons_of_mem _ (List.mem_cons_of_mem _ (List.mem_cons_self)))))⟩
  · refine ⟨bfo6, bfN6 hsf, fun o ho => ?_⟩
    have ho : o ∈ ([(true, bf_l1), (true, bf_c1), (true, bf_h1)] : List (Bool × wE)) := ho
    simp only [List.mem_cons, List.not_mem_nil, or_false] at ho
    rcases ho with rfl | rfl | rfl
    · exact Or.inr ⟨rfl, List.mem_cons_of_mem _ (List.mem_cons_of_mem _ (List.mem_cons_of_mem _ (List.mem_cons_self)))⟩
    · exact Or.inr ⟨rfl, List.mem_cons_of_mem _ (List.mem_cons_of_mem _ (List.mem_cons_of_mem _ (List.mem_cons_of_mem _ (List.mem_cons_of_mem _ (List.mem_cons_of_mem _ (List.mem_cons_self))))))⟩
    · exact Or.inr ⟨rfl, List.mem_cons_of_mem _ (List.mem_cons_self)⟩
  · refine ⟨bfo3, bfN3 hsf, fun o ho => ?_⟩
    have ho : o ∈ ([(true, bf_c0_out)] : List (Bool × wE)) := ho
    simp only [List.mem_cons, List.not_mem_nil, or_false] at ho
    rcases ho with rfl
    · exact Or.inr ⟨rfl, List.mem_cons_of_mem _ (List.mem_cons_of_mem _ (List.mem_cons_of_mem _ (List.mem_cons_of_mem _ (List.mem_cons_of_mem _ (List.mem_cons_of_mem _ (List.mem_cons_of_mem _ (List.mem_cons_self)))))))⟩
  · refine ⟨bfo1, bfN1 hsf, fun o ho => ?_⟩
    have ho : o ∈ ([(true, bf_l0), (true, bf_l1), (false, bf_e226)] : List (Bool × wE)) := ho
    simp only [List.mem_cons, List.not_mem_nil, or_false] at ho
    rcases ho with rfl | rfl | rfl
    · exact Or.inr ⟨rfl, List.mem_cons_of_mem _ (List.mem_cons_of_mem _ (List.mem_cons_self))⟩
    · exact Or.inr ⟨rfl, List.mem_cons_of_mem _ (List.mem_cons_of_mem _ (List.mem_cons_of_mem _ (List.mem_cons_self)))⟩
    · exact Or.inl (List.mem_cons_self)
  · refine ⟨bfo4, bfN4 hsf, fun o ho => ?_⟩
    have ho : o ∈ ([(true, bf_c1_out)] : List (Bool × wE)) := ho
    simp only [List.mem_cons, List.not_mem_nil, or_false] at ho
    rcases ho with rfl
    · exact Or.inr ⟨rfl, List.mem_cons_of_mem _ (List.mem_cons_of_mem _ (List.mem_cons_of_mem _ (List.mem_cons_of_mem _ (List.mem_cons_of_mem _ (List.mem_cons_of_mem _ (List.mem_cons_of_mem _ (List.mem_cons_of_mem _ (List.mem_cons_self))))))))⟩
  · refine ⟨bfo7, bfN7 hsf, fun o ho => ?_⟩
    have ho : o ∈ ([(true, bf_h0)] : List (Bool × wE)) := ho
    simp only [List.mem_cons, List.not_mem_nil, or_false] at ho
    rcases ho with rfl
    · exact Or.inr ⟨rfl, List.mem_cons_of_mem _ (List.mem_cons_of_mem _ (List.mem_cons_of_mem _ (List.mem_cons_of_mem _ (List.mem_cons_of_mem _ (List.mem_cons_self)))))⟩
  · refine ⟨bfo8, bfN8 hsf, fun o ho => ?_⟩
    have ho : o ∈ ([(true, bf_h1)] : List (Bool × wE)) := ho
    simp only [List.mem_cons, List.not_mem_nil, or_false] at ho
    rcases ho with rfl
    · exact Or.inr ⟨rfl, List.mem_cons_of_mem _ (List.mem_cons_self)⟩)
theorem firstN6 {xs : Nat → Int32} {n : Nat} {sf : Option Nat} (hsf : sf = none ∨ sf = some 1200000) : wGoes x_KT x_tb x_tyl (x_otS xs n sf) lwFR lwGA.length lwGB.length 5 25 43 firstWA firstWB 140 223 63 62 first_f38 firsto6 :=
  wDp (wWk (wEqvB (wLiftA (dpA := 60) (pc := 38) (pcP := 22) (nx := 1) (LE := []) (SE := [.inl (lK (-1))]) (cE := (lK 0)) (sE := (lK 0)) (wReL (XA := firstX6.2.1) (XB := firstX6.2.2.1) (XC := firstX6.2.2.2.1) (rk := firstX6.2.2.2.2) (rA := firstQA6) (rB := firstQB6) (bf_g0_G hsf _ List.mem_cons_self) firstL6) gq140 gq113 (by decide +kernel) (by decide +kernel) (by decide +kernel) (by decide +kernel)) (by decide +kernel) (by decide +kernel)) (by decide) (by decide) (by decide) (by decide +kernel) (by decide +kernel)) (by decide) (by decide)
theorem firstN7 {xs : Nat → Int32} {n : Nat} {sf : Option Nat} (hsf : sf = none ∨ sf = some 1200000) : wGoes x_KT x_tb x_tyl (x_otS xs n sf) lwFR lwGA.length lwGB.length 5 25 43 firstWA firstWB 140 223 63 62 first_r1 firsto7 :=
  wDp (wWk (wEd_spec (x_ov0_le sf) (u_ctKS4 hsf) lwFRok firstE7) (Nat.le_refl _) (Nat.le_refl _) (Nat.le_refl _) (by decide +kernel) (by decide +kernel)) (by decide) (by decide)
theorem firstN8 {xs : Nat → Int32} {n : Nat} {sf : Option Nat} (hsf : sf = none ∨ sf = some 1200000) : wGoes x_KT x_tb x_tyl (x_otS xs n sf) lwFR lwGA.length lwGB.length 5 25 43 firstWA firstWB 140 223 63 62 first_f38_e226 firsto8 :=
  wDp (wWk (wEd_spec (x_ov0_le sf) (u_ctKS4 hsf) lwFRok firstE8) (Nat.le_refl _) (Nat.le_refl _) (Nat.le_refl _) (by decide +kernel) (by decide +kernel)) (by decide) (by decide)
theorem firstN9 {xs : Nat → Int32} {n : Nat} {sf : Option Nat} (hsf : sf = none ∨ sf = some 1200000) : wGoes x_KT x_tb x_tyl (x_otS xs n sf) lwFR lwGA.length lwGB.length 5 25 43 firstWA firstWB 140 223 63 62 first_f38_e26 firsto9 :=
  wDp (wWk (wEd_spec (x_ov0_le sf) (u_ctKS4 hsf) lwFRok firstE9) (Nat.le_refl _) (Nat.le_refl _) (Nat.le_refl _) (by decide +kernel) (by decide +kernel)) (by decide) (by decide)
theorem firstN10 {xs : Nat → Int32} {n : Nat} {sf : Option Nat} (hsf : sf = none ∨ sf = some 1200000) : wGoes x_KT x_tb x_tyl (x_otS xs n sf) lwFR lwGA.length lwGB.length 5 25 43 firstWA firstWB 140 223 63 62 first_f38_e56 firsto10 :=
  wDp (wWk (wEd_spec (x_ov0_le sf) (u_ctKS4 hsf) lwFRok firstE10) (Nat.le_refl _) (Nat.le_refl _) (Nat.le_refl _) (by decide +kernel) (by decide +kernel)) (by decide) (by decide)
theorem firstN11 {xs : Nat → Int32} {n : Nat} {sf : Option Nat} (hsf : sf = none ∨ sf = some 1200000) : wGoes x_KT x_tb x_tyl (x_otS xs n sf) lwFR lwGA.length lwGB.length 5 25 43 firstWA firstWB 140 223 63 62 first_f64 firsto11 :=
  wDp (wWk (wEqvB (wLiftA (dpA := 60) (pc := 64) (pcP := 22) (nx := 1) (LE := []) (SE := [.inl (lK (-2))]) (cE := (lK 0)) (sE := (lK 0)) (wReL (XA := firstX11.2.1) (XB := firstX11.2.2.1) (XC := firstX11.2.2.2.1) (rk := firstX11.2.2.2.2) (rA := firstQA11) (rB := firstQB11) (bf_g0_G hsf _ List.mem_cons_self) firstL11) gq140 gq113 (by decide +kernel) (by decide +kernel) (by decide +kernel) (by decide +kernel)) (by decide +kernel) (by decide +kernel)) (by decide) (by decide) (by decide) (by decide +kernel) (by decide +kernel)) (by decide) (by decide)
theorem firstN12 {xs : Nat → Int32} {n : Nat} {sf : Option Nat} (hsf : sf = none ∨ sf = some 1200000) : wGoes x_KT x_tb x_tyl (x_otS xs n sf) lwFR lwGA.length lwGB.length 5 25 43 firstWA firstWB 140 223 63 62 first_r2 firsto12 :=
  wDp (wWk (wEd_spec (x_ov0_le sf) (u_ctKS4 hsf) lwFRok firstE12) (Nat.le_refl _) (Nat.le_refl _) (Nat.le_refl _) (by decide +kernel) (by decide +kernel)) (by decide) (by decide)
theorem firstN13 {xs : Nat → Int32} {n : Nat} {sf : Option Nat} (hsf : sf = none ∨ sf = some 1200000) : wGoes x_KT x_tb x_tyl (x_otS xs n sf) lwFR lwGA.length lwGB.length 5 25 43 firstWA firstWB 140 223 63 62 first_f64_e226 firsto13 :=
  wDp (wWk (wEd_spec (x_ov0_le sf) (u_ctKS4 hsf) lwFRok firstE13) (Nat.le_refl _) (Nat.le_refl _) (Nat.le_refl _) (by decide +kernel) (by decide +kernel)) (by decide) (by decide)
theorem firstN14 {xs : Nat → Int32} {n : Nat} {sf : Option Nat} (hsf : sf = none ∨ sf = some 1200000) : wGoes x_KT x_tb x_tyl (x_otS xs n sf) lwFR lwGA.length lwGB.length 5 25 43 firstWA firstWB 140 223 63 62 first_f64_e26 firsto14 :=
  wDp (wWk (wEd_spec (x_ov0_le sf) (u_ctKS4 hsf) lwFRok firstE14) (Nat.le_refl _) (Nat.le_refl _) (Nat.le_refl _) (by decide +kernel) (by decide +kernel)) (by decide) (by decide)
theorem firstN15 {xs : Nat → Int32} {n : Nat} {sf : Option Nat} (hsf : sf = none ∨ sf = some 1200000) : wGoes x_KT x_tb x_tyl (x_otS xs n sf) lwFR lwGA.length lwGB.length 5 25 43 firstWA firstWB 140 223 63 62 first_f64_e56 firsto15 :=
  wDp (wWk (wEd_spec (x_ov0_le sf) (u_ctKS4 hsf) lwFRok firstE15) (Nat.le_refl _) (Nat.le_refl _) (Nat.le_refl _) (by decide +kernel) (by decide +kernel)) (by decide) (by decide)
theorem firstN16 {xs : Nat → Int32} {n : Nat} {sf : Option Nat} (hsf : sf = none ∨ sf = some 1200000) : wGoes x_KT x_tb x_tyl (x_otS xs n sf) lwFR lwGA.length lwGB.length 5 25 43 firstWA firstWB 140 223 63 62 first_f116 firsto16 :=
  wDp (wWk (wEqvB (wLiftA (dpA := 60) (pc := 116) (pcP := 22) (nx := 1) (LE := []) (SE := [.inl (lSy 5)]) (cE := (lK 0)) (sE := (lK 0)) (wReL (XA := firstX16.2.1) (XB := firstX16.2.2.1) (XC := firstX16.2.2.2.1) (rk := firstX16.2.2.2.2) (rA := firstQA16) (rB := firstQB16) (bf_g0_G hsf _ List.mem_cons_self) firstL16) gq140 gq113 (by decide +kernel) (by decide +kernel) (by decide +kernel) (by decide +kernel)) (by decide +kernel) (by decide +kernel)) (by decide) (by decide) (by decide) (by decide +kernel) (by decide +kernel)) (by decide) (by decide)
theorem firstN17 {xs : Nat → Int32} {n : Nat} {sf : Option Nat} (hsf : sf = none ∨ sf = some 1200000) : wGoes x_KT x_tb x_tyl (x_otS xs n sf) lwFR lwGA.length lwGB.length 5 25 43 firstWA firstWB 140 223 63 62 first_c3_out firsto17 :=
  wDp (wWk (wEd_spec (x_ov0_le sf) (u_ctKS4 hsf) lwFRok firstE17) (Nat.le_refl _) (Nat.le_refl _) (Nat.le_refl _) (by decide +kernel) (by decide +kernel)) (by decide) (by decide)
theorem firstN18 {xs : Nat → Int32} {n : Nat} {sf : Option Nat} (hsf : sf = none ∨ sf = some 1200000) : wGoes x_KT x_tb x_tyl (x_otS xs n sf) lwFR lwGA.length lwGB.length 5 25 43 firstWA firstWB 140 223 63 62 first_f116_e226 firsto18 :=
  wDp (wWk (wEd_spec (x_ov0_le sf) (u_ctKS4 hsf) lwFRok firstE18) (Nat.le_refl _) (Nat.le_refl _) (Nat.le_refl _) (by decide +kernel) (by decide +kernel)) (by decide) (by decide)
theorem firstN19 {xs : Nat → Int32} {n : Nat} {sf : Option Nat} (hsf : sf = none ∨ sf = some 1200000) : wGoes x_KT x_tb x_tyl (x_otS xs n sf) lwFR lwGA.length lwGB.length 5 25 43 firstWA firstWB 140 223 63 62 first_f116_e26 firsto19 :=
  wDp (wWk (wEd_spec (x_ov0_le sf) (u_ctKS4 hsf) lwFRok firstE19) (Nat.le_refl _) (Nat.le_refl _) (Nat.le_refl _) (by decide +kernel) (by decide +kernel)) (by decide) (by decide)
theorem firstN20 {xs : Nat → Int32} {n : Nat} {sf : Option Nat} (hsf : sf = none ∨ sf = some 1200000) : wGoes x_KT x_tb x_tyl (x_otS xs n sf) lwFR lwGA.length lwGB.length 5 25 43 firstWA firstWB 140 223 63 62 first_f116_e56 firsto20 :=
  wDp (wWk (wEd_spec (x_ov0_le sf) (u_ctKS4 hsf) lwFRok firstE20) (Nat.le_refl _) (Nat.le_refl _) (Nat.le_refl _) (by decide +kernel) (by decide +kernel)) (by decide) (by decide)
theorem firstN21 {xs : Nat → Int32} {n : Nat} {sf : Option Nat} (hsf : sf = none ∨ sf = some 1200000) : wGoes x_KT x_tb x_tyl (x_otS xs n sf) lwFR lwGA.length lwGB.length 5 25 43 firstWA firstWB 140 223 63 62 first_f119 firsto21 :=
  wDp (wWk (wEqvB (wLiftA (dpA := 60) (pc := 119) (pcP := 22) (nx := 1) (LE := []) (SE := [.inl (lSy 5)]) (cE := (lK 0)) (sE := (lK 0)) (wReL (XA := firstX21.2.1) (XB := firstX21.2.2.1) (XC := firstX21.2.2.2.1) (rk := firstX21.2.2.2.2) (rA := firstQA21) (rB := firstQB21) (bf_g0_G hsf _ List.mem_cons_self) firstL21) gq140 gq113 (by decide +kernel) (by decide +kernel) (by decide +kernel) (by decide +kernel)) (by decide +kernel) (by decide +kernel)) (by decide) (by decide) (by decide) (by decide +kernel) (by decide +kernel)) (by decide) (by decide)
theorem firstN22 {xs : Nat → Int32} {n : Nat} {sf : Option Nat} (hsf : sf = none ∨ sf = some 1200000) : wGoes x_KT x_tb x_tyl (x_otS xs n sf) lwFR lwGA.length lwGB.length 5 25 43 firstWA firstWB 140 223 63 62 first_a119 firsto22 :=
  wDp (wWk (wEd_spec (x_ov0_le sf) (u_ctKS4 hsf) lwFRok firstE22) (Nat.le_refl _) (Nat.le_refl _) (Nat.le_refl _) (by decide +kernel) (by decide +kernel)) (by decide) (by decide)
theorem firstN23 {xs : Nat → Int32} {n : Nat} {sf : Option Nat} (hsf : sf = none ∨ sf = some 1200000) : wGoes x_KT x_tb x_tyl (x_otS xs n sf) lwFR lwGA.length lwGB.length 5 25 43 firstWA firstWB 140 223 63 62 first_f119_e226 firsto23 :=
  wDp (wWk (wEd_spec (x_ov0_le sf) (u_ctKS4 hsf) lwFRok firstE23) (Nat.le_refl _) (Nat.le_refl _) (Nat.le_refl _) (by decide +kernel) (by decide +kernel)) (by decide) (by decide)
theorem firstN24 {xs : Nat → Int32} {n : Nat} {sf : Option Nat} (hsf : sf = none ∨ sf = some 1200000) : wGoes x_KT x_tb x_tyl (x_otS xs n sf) lwFR lwGA.length lwGB.length 5 25 43 firstWA firstWB 140 223 63 62 first_f119_e26 firsto24 :=
  wDp (wWk (wEd_spec (x_ov0_le sf) (u_ctKS4 hsf) lwFRok firstE24) (Nat.le_refl _) (Nat.le_refl _) (Nat.le_refl _) (by decide +kernel) (by decide +kernel)) (by decide) (by decide)
theorem firstN25 {xs : Nat → Int32} {n : Nat} {sf : Option Nat} (hsf : sf = none ∨ sf = some 1200000) : wGoes x_KT x_tb x_tyl (x_otS xs n sf) lwFR lwGA.length lwGB.length 5 25 43 firstWA firstWB 140 223 63 62 first_f119_e56 firsto25 :=
  wDp (wWk (wEd_spec (x_ov0_le sf) (u_ctKS4 hsf) lwFRok firstE25) (Nat.le_refl _) (Nat.le_refl _) (Nat.le_refl _) (by decide +kernel) (by decide +kernel)) (by decide) (by decide)
theorem firstN26 {xs : Nat → Int32} {n : Nat} {sf : Option Nat} (hsf : sf = none ∨ sf = some 1200000) : wGoes x_KT x_tb x_tyl (x_otS xs n sf) lwFR lwGA.length lwGB.length 5 25 43 firstWA firstWB 140 223 63 62 first_f126 firsto26 :=
  wDp (wWk (wEqvB (wLiftA (dpA := 60) (pc := 126) (pcP := 22) (nx := 1) (LE := []) (SE := [.inl (lSy 5)]) (cE := (lK 0)) (sE := (lK 0)) (wReL (XA := firstX26.2.1) (XB := firstX26.2.2.1) (XC := firstX26.2.2.2.1) (rk := firstX26.2.2.2.2) (rA := firstQA26) (rB := firstQB26) (bf_g0_G hsf _ List.mem_cons_self) firstL26) gq140 gq113 (by decide +kernel) (by decide +kernel) (by decide +kernel) (by decide +kernel)) (by decide +kernel) (by decide +kernel)) (by decide) (by decide) (by decide) (by decide +kernel) (by decide +kernel)) (by decide) (by decide)
theorem firstN27 {xs : Nat → Int32} {n : Nat} {sf : Option Nat} (hsf : sf = none ∨ sf = some 1200000) : wGoes x_KT x_tb x_tyl (x_otS xs n sf) lwFR lwGA.length lwGB.length 5 25 43 firstWA firstWB 140 223 63 62 first_a126 firsto27 :=
  wDp (wWk (wEd_spec (x_ov0_le sf) (u_ctKS4 hsf) lwFRok firstE27) (Nat.le_refl _) (Nat.le_refl _) (Nat.le_refl _) (by decide +kernel) (by decide +kernel)) (by decide) (by decide)
theorem firstN28 {xs : Nat → Int32} {n : Nat} {sf : Option Nat} (hsf : sf = none ∨ sf = some 1200000) : wGoes x_KT x_tb x_tyl (x_otS xs n sf) lwFR lwGA.length lwGB.length 5 25 43 firstWA firstWB 140 223 63 62 first_f126_e226 firsto28 :=
  wDp (wWk (wEd_spec (x_ov0_le sf) (u_ctKS4 hsf) lwFRok firstE28) (Nat.le_refl _) (Nat.le_refl _) (Nat.le_refl _) (by decide +kernel) (by decide +kernel)) (by decide) (by decide)
theorem firstN29 {xs : Nat → Int32} {n : Nat} {sf : Option Nat} (hsf : sf = none ∨ sf = some 1200000) : wGoes x_KT x_tb x_tyl (x_otS xs n sf) lwFR lwGA.length lwGB.length 5 25 43 firstWA firstWB 140 223 63 62 first_f126_e26 firsto29 :=
  wDp (wWk (wEd_spec (x_ov0_le sf) (u_ctKS4 hsf) lwFRok firstE29) (Nat.le_refl _) (Nat.le_refl _) (Nat.le_refl _) (by decide +kernel) (by decide +kernel)) (by decide) (by decide)
theorem firstN30 {xs : Nat → Int32} {n : Nat} {sf : Option Nat} (hsf : sf = none ∨ sf = some 1200000) : wGoes x_KT x_tb x_tyl (x_otS xs n sf) lwFR lwGA.length lwGB.length 5 25 43 firstWA firstWB 140 223 63 62 first_f126_e56 firsto30 :=
  wDp (wWk (wEd_spec (x_ov0_le sf) (u_ctKS4 hsf) lwFRok firstE30) (Nat.le_refl _) (Nat.le_refl _) (Nat.le_refl _) (by decide +kernel) (by decide +kernel)) (by decide) (by decide)
def first_g0_nd : List wE := [first_in, first_c1, first_r1, first_r2, first_c1_out, first_f38, first_f64, first_c2, first_f38_e226, first_f38_e26, first_f38_e56, first_f64_e226, first_f64_e26, first_f64_e56, first_c2_out, first_c3, first_a119, first_a126, first_c3_out, first_f119, first_f126, first_f116, first_f119_e226, first_f119_e26, first_f119_e56, first_f126_e226, first_f126_e26, first_f126_e56, first_f116_e226, first_f116_e26, first_f116_e56]
theorem first_g0_G {xs : Nat → Int32} {n : Nat} {sf : Option Nat} (hsf : sf = none ∨ sf = some 1200000) : ∀ nd ∈ first_g0_nd, wGoes x_KT x_tb x_tyl (x_otS xs n sf) lwFR lwGA.length lwGB.length 5 25 43 firstWA firstWB 140 223 63 62 nd (first_g0_ex.map (fun x => (false, x))) := wGraph (fun nd hnd => by
  have hnd : nd ∈ ([first_in, first_c1, first_r1, first_r2, first_c1_out, first_f38, first_f64, first_c2, first_f38_e226, first_f38_e26, first_f38_e56, first_f64_e226, first_f64_e26, first_f64_e56, first_c2_out, first_c3, first_a119, first_a126, first_c3_out, first_f119, first_f126, first_f116, first_f119_e226, first_f119_e26, first_f119_e56, first_f126_e226, first_f126_e26, first_f126_e56, first_f116_e226, first_f116_e26, first_f116_e56] : List wE) := hnd
  simp only [List.mem_cons, List.not_mem_nil, or_false] at hnd
  rcases hnd with rfl | rfl | rfl | rfl | rfl | rfl | rfl | rfl | rfl | rfl | rfl | rfl | rfl | rfl | rfl | rfl | rfl | rfl | rfl | rfl | rfl | rfl | rfl | rfl | rfl | rfl | rfl | rfl | rfl | rfl | rfl
  · refine ⟨firsto1, firstN1 hsf, fun o ho => ?_⟩
    have ho : o ∈ ([(true, first_c1), (true, first_r1), (true, first_r2)] : List (Bool × wE)) := ho
    simp only [List.mem_cons, List.not_mem_nil, or_false] at ho
    rcases ho with rfl | rfl | rfl
    · exact Or.inr ⟨rfl, List.mem_cons_of_mem _ (List.mem_cons_self)⟩
    · exact Or.inr ⟨rfl, List.mem_cons_of_mem _ (List.mem_cons_of_mem _ (List.mem_cons_self))⟩
    · exact Or.inr ⟨rfl, List.mem_cons_of_mem _ (List.mem_cons_of_mem _ (List.mem_cons_of_mem _ (List.mem_cons_self)))⟩
  · refine ⟨firsto0, firstN0 hsf, fun o ho => ?_⟩
    have ho : o ∈ ([(true, first_c1_out)] : List (Bool × wE)) := ho
    simp only [List.mem_cons, List.not_mem_nil, or_false] at ho
    rcases ho with rfl
    · exact Or.inr ⟨rfl, List.mem_cons_of_mem _ (List.mem_cons_of_mem _ (List.mem_cons_of_mem _ (List.mem_cons_of_mem _ (List.mem_cons_self))))⟩
  · refine ⟨firsto7, firstN7 hsf, fun o ho => ?_⟩
    have ho : o ∈ ([(true, first_f38)] : List (Bool × wE)) := ho
    simp only [List.mem_cons, List.not_mem_nil, or_false] at ho
    rcases ho with rfl
    · exact Or.inr ⟨rfl, List.mem_cons_of_mem _ (List.mem_cons_of_mem _ (List.mem_cons_of_mem _ (List.mem_cons_of_mem _ (List.mem_cons_of_mem _ (List.mem_cons_self)))))⟩
  · refine ⟨firsto12, firstN12 hsf, fun o ho => ?_⟩
    have ho : o ∈ ([(true, first_f64)] : List (Bool × wE)) := ho
    simp only [List.mem_cons, List.not_mem_nil, or_false] at ho
    rcases ho with rfl
    · exact Or.inr ⟨rfl, List.mem_cons_of_mem _ (List.mem_cons_of_mem _ (List.mem_cons_of_mem _ (List.mem_cons_of_mem _ (List.mem_cons_of_mem _ (List.mem_cons_of_mem _ (List.mem_cons_self))))))⟩
  · refine ⟨firsto3, firstN3 hsf, fun o ho => ?_⟩
    have ho : o ∈ ([(true, first_c2)] : List (Bool × wE)) := ho
    simp only [List.mem_cons, List.not_mem_nil, or_false] at ho
    rcases ho with rfl
    · exact Or.inr ⟨rfl, List.mem_cons_of_mem _ (List.mem_cons_of_mem _ (List.mem_cons_of_mem _ (List.mem_cons_of_mem _ (List.mem_cons_of_mem _ (List.mem_cons_of_mem _ (List.mem_cons_of_mem _ (List.mem_cons_self)))))))⟩
  · refine ⟨firsto6, firstN6 hsf, fun o ho => ?_⟩
    have ho : o ∈ ([(true, first_f38_e226), (true, first_f38_e26), (true, first_f38_e56)] : List (Bool × wE)) := ho
    simp only [List.mem_cons, List.not_mem_nil, or_false] at ho
    rcases ho with rfl | rfl | rfl
    · exact Or.inr ⟨rfl, List.mem_cons_of_mem _ (List.mem_cons_of_mem _ (List.mem_cons_of_mem _ (List.mem_cons_of_mem _ (List.mem_cons_of_mem _ (List.mem_cons_of_mem _ (List.mem_cons_of_mem _ (List.mem_cons_of_mem _ (List.mem_cons_self))))))))⟩
    · exact Or.inr ⟨rfl, List.mem_cons_of_mem _ (List.mem_cons_of_mem _ (List.mem_cons_of_mem _ (List.mem_cons_of_mem _ (List.mem_cons_of_mem _ (List.mem_cons_of_mem _ (List.mem_cons_of_mem _ (List.mem_cons_of_mem _ (List.mem_cons_of_mem _ (List.mem_cons_self)))))))))⟩
    · exact Or.inr ⟨rfl, List.mem_cons_of_mem _ (List.mem_cons_of_mem _ (List.mem_cons_of_mem _ (List.mem_cons_of_mem _ (List.mem_cons_of_mem _ (List.mem_cons_of_mem _ (List.mem_cons_of_mem _ (List.mem_cons_of_mem _ (List.mem_cons_of_mem _ (List.mem_cons_of_mem _ (List.mem_cons_self))))))))))⟩
  · refine ⟨firsto11, firstN11 hsf, fun o ho => ?_⟩
    have ho : o ∈ ([(true, first_f64_e226), (true, first_f64_e26), (true, first_f64_e56)] : List (Bool × wE)) := ho
    simp only [List.mem_cons, List.not_mem_nil, or_false] at ho
    rcases ho with rfl | rfl | rfl
    · exact Or.inr ⟨rfl, List.mem_cons_of_mem _ (List.mem_cons_of_mem _ (List.mem_cons_of_mem _ (List.mem_cons_of_mem _ (List.mem_cons_of_mem _ (List.mem_cons_of_mem _ (List.mem_cons_of_mem _ (List.mem_cons_of_mem _ (List.mem_cons_of_mem _ (List.mem_cons_of_mem _ (List.mem_cons_of_mem _ (List.mem_cons_self)))))))))))⟩
    · exact Or.inr ⟨rfl, List.mem_cons_of_mem _ (List.mem_cons_of_mem _ (List.mem_cons_of_mem _ (List.mem_cons_of_mem _ (List.mem_cons_of_mem _ (List.mem_cons_of_mem _ (List.mem_cons_of_mem _ (List.mem_cons_of_mem _ (List.mem_cons_of_mem _ (List.mem_cons_of_mem _ (List.mem_cons_of_mem _ (List.mem_cons_of_mem _ (List.mem_cons_self))))))))))))⟩
    · exact Or.inr ⟨rfl, List.mem_cons_of_mem _ (List.mem_cons_of_mem _ (List.mem_cons_of_mem _ (List.mem_cons_of_mem _ (List.mem_cons_of_mem _ (List.mem_cons_of_mem _ (List.mem_cons_of_mem _ (List.mem_cons_of_mem _ (List.mem_cons_of_mem _ (List.mem_cons_of_mem _ (List.mem_cons_of_mem _ (List.mem_cons_of_mem _ (List.mem_cons_of_mem _ (List.mem_cons_self)))))))))))))⟩
  · refine ⟨firsto2, firstN2 hsf, fun o ho => ?_⟩
    have ho : o ∈ ([(true, first_c2_out)] : List (Bool × wE)) := ho
    simp only [List.mem_cons, List.not_mem_nil, or_false] at ho
    rcases ho with rfl
    · exact Or.inr ⟨rfl, List.mem_cons_of_mem _ (List.mem_cons_of_mem _ (List.mem_cons_of_mem _ (List.mem_cons_of_mem _ (List.mem_cons_of_mem _ (List.mem_cons_of_mem _ (List.mem_cons_of_mem _ (List.mem_cons_of_mem _ (List.mem_cons_of_mem _ (List.mem_cons_of_mem _ (List.mem_cons_of_mem _ (List.mem_cons_of_mem _ (List.mem_cons_of_mem _ (List.mem_cons_of_mem _ (List.mem_cons_self))))))))))))))⟩
  · refine ⟨firsto8, firstN8 hsf, fun o ho => ?_⟩
    have ho : o ∈ ([(false, first_out)] : List (Bool × wE)) := ho
    simp only [List.mem_cons, List.not_mem_nil, or_false] at ho
    rcases ho with rfl
    · exact Or.inl (List.mem_cons_self)
  · refine ⟨firsto9, firstN9 hsf, fun o ho => ?_⟩
    have ho : o ∈ ([(false, first_out)] : List (Bool × wE)) := ho
    simp only [List.mem_cons, List.not_mem_nil, or_false] at ho
    rcases ho with rfl
    · exact Or.inl (List.mem_cons_self)
  · refine ⟨firsto10, firstN10 hsf, fun o ho => ?_⟩
    have ho : o ∈ ([(false, first_out)] : List (Bool × wE)) := ho
    simp only [List.mem_cons, List.not_mem_nil, or_false] at ho
    rcases ho with rfl
    · exact Or.inl (List.mem_cons_self)
  · refine ⟨firsto13, firstN13 hsf, fun o ho => ?_⟩
    have ho : o ∈ ([(false, first_out)] : List (Bool × wE)) := ho
    simp only [List.mem_cons, List.not_mem_nil, or_false] at ho
    rcases ho with rfl
    · exact Or.inl (List.mem_cons_self)
  · refine ⟨firsto14, firstN14 hsf, fun o ho => ?_⟩
    have ho : o ∈ ([(false, first_out)] : List (Bool × wE)) := ho
    simp only [List.mem_cons, List.not_mem_nil, or_false] at ho
    rcases ho with rfl
    · exact Or.inl (List.mem_cons_self)
  · refine ⟨firsto15, firstN15 hsf, fun o ho => ?_⟩
    have ho : o ∈ ([(false, first_out)] : List (Bool × wE)) := ho
    simp only [List.mem_cons, List.not_mem_nil, or_false] at ho
    rcases ho with rfl
    · exact Or.inl (List.mem_cons_self)
  · refine ⟨firsto5, firstN5 hsf, fun o ho => ?_⟩
    have ho : o ∈ ([(true, first_c3), (true, first_a119), (true, first_a126)] : List (Bool × wE)) := ho
    simp only [List.mem_cons, List.not_mem_nil, or_false] at ho
    rcases ho with rfl | rfl | rfl
    · exact Or.inr ⟨rfl, List.mem_cons_of_mem _ (List.mem_cons_of_mem _ (List.mem_cons_of_mem _ (List.mem_cons_of_mem _ (List.mem_cons_of_mem _ (List.mem_cons_of_mem _ (List.mem_cons_of_mem _ (List.mem_cons_of_mem _ (List.mem_cons_of_mem _ (List.mem_cons_of_mem _ (List.mem_cons_of_mem _ (List.mem_cons_of_mem _ (List.mem_cons_of_mem _ (List.mem_cons_of_mem _ (List.mem_cons_of_mem _ (List.mem_cons_self)))))))))))))))⟩
    · exact Or.inr ⟨rfl, List.mem_cons_of_mem _ (List.mem_cons_of_mem _ (List.mem_cons_of_mem _ (List.mem_cons_of_mem _ (List.mem_cons_of_mem _ (List.mem_cons_of_mem _ (List.mem_cons_of_mem _ (List.mem_cons_of_mem _ (List.mem_cons_of_mem _ (List.mem_cons_of_mem _ (List.mem_cons_of_mem _ (List.mem_cons_of_mem _ (List.mem_cons_of_mem _ (List.mem_cons_of_mem _ (List.mem_cons_of_mem _ (List.mem_cons_of_mem _ (List.mem_cons_self))))))))))))))))⟩
    · exact Or.inr ⟨rfl, List.mem_cons_of_mem _ (List.mem_cons_of_mem _ (List.mem_cons_of_mem _ (List.mem_cons_of_mem _ (List.mem_cons_of_mem _ (List.mem_cons_of_mem _ (List.mem_cons_of_mem _ (List.mem_cons_of_mem _ (List.mem_cons_of_mem _ (List.mem_cons_of_mem _ (List.mem_cons_of_mem _ (List.mem_cons_of_mem _ (List.mem_cons_of_mem _ (List.mem_cons_of_mem _ (List.mem_cons_of_mem _ (List.mem_cons_of_mem _ (List.mem_cons_of_mem _ (List.mem_cons_self)))))))))))))))))⟩
  · refine ⟨firsto4, firstN4 hsf, fun o ho => ?_⟩
    have ho : o ∈ ([(true, first_c3_out)] : List (Bool × wE)) := ho
    simp only [List.mem_cons, List.not_mem_nil, or_false] at ho
    rcases ho with rfl
    · exact Or.inr ⟨rfl, List.mem_cons_of_mem _ (List.mem_cons_of_mem _ (List.mem_cons_of_mem _ (List.mem_cons_of_mem _ (List.mem_cons_of_mem _ (List.mem_cons_of_mem _ (List.mem_cons_of_mem _ (List.mem_cons_of_mem _ (List.mem_cons_of_mem _ (List.mem_cons_of_mem _ (List.mem_cons_of_mem _ (List.mem_cons_of_mem _ (List.mem_cons_of_mem _ (List.mem_cons_of_mem _ (List.mem_cons_of_mem _ (List.mem_cons_of_mem _ (List.mem_cons_of_mem _ (List.mem_cons_of_mem _ (List.mem_cons_self))))))))))))))))))⟩
  · refine ⟨firsto22, firstN22 hsf, fun o ho => ?_⟩
    have ho : o ∈ ([(true, first_f119)] : List (Bool × wE)) := ho
    simp only [List.mem_cons, List.not_mem_nil, or_false] at ho
    rcases ho with rfl
    · exact Or.inr ⟨rfl, List.mem_cons_of_mem _ (List.mem_cons_of_mem _ (List.mem_cons_of_mem _ (List.mem_cons_of_mem _ (List.mem_cons_of_mem _ (List.mem_cons_of_mem _ (List.mem_cons_of_mem _ (List.mem_cons_of_mem _ (List.mem_cons_of_mem _ (List.mem_cons_of_mem _ (List.mem_cons_of_mem _ (List.mem_cons_of_mem _ (List.mem_cons_of_mem _ (List.mem_cons_of_mem _ (List.mem_cons_of_mem _ (List.mem_cons_of_mem _ (List.mem_cons_of_mem _ (List.mem_cons_of_mem _ (List.mem_cons_of_mem _ (List.mem_cons_self)))))))))))))))))))⟩
  · refine ⟨firsto27, firstN27 hsf, fun o ho => ?_⟩
    have ho : o ∈ ([(true, first_f126)] : List (Bool × wE)) := ho
    simp only [List.mem_cons, List.not_mem_nil, or_false] at ho
    rcases ho with rfl
    · exact Or.inr ⟨rfl, List.mem_cons_of_mem _ (List.mem_cons_of_mem _ (List.mem_cons_of_mem _ (List.mem_cons_of_mem _ (List.mem_cons_of_mem _ (List.mem_cons_of_mem _ (List.mem_cons_of_mem _ (List.mem_cons_of_mem _ (List.mem_cons_of_mem _ (List.mem_cons_of_mem _ (List.mem_cons_of_mem _ (List.mem_cons_of_mem _ (List.mem_cons_of_mem _ (List.mem_cons_of_mem _ (List.mem_cons_of_mem _ (List.mem_cons_of_mem _ (List.mem_cons_of_mem _ (List.mem_cons_of_mem _ (List.mem_cons_of_mem _ (List.mem_cons_of_mem _ (List.mem_cons_self))))))))))))))))))))⟩
  · refine ⟨firsto17, firstN17 hsf, fun o ho => ?_⟩
    have ho : o ∈ ([(true, first_f116)] : List (Bool × wE)) := ho
    simp only [List.mem_cons, List.not_mem_nil, or_false] at ho
    rcases ho with rfl
    · exact Or.inr ⟨rfl, List.mem_cons_of_mem _ (List.mem_cons_of_mem _ (List.mem_cons_of_mem _ (List.mem_cons_of_mem _ (List.mem_cons_of_mem _ (List.mem_cons_of_mem _ (List.mem_cons_of_mem _ (List.mem_cons_of_mem _ (List.mem_cons_of_mem _ (List.mem_cons_of_mem _ (List.mem_cons_of_mem _ (List.mem_cons_of_mem _ (List.mem_cons_of_mem _ (List.mem_cons_of_mem _ (List.mem_cons_of_mem _ (List.mem_cons_of_mem _ (List.mem_cons_of_mem _ (List.mem_cons_of_mem _ (List.mem_cons_of_mem _ (List.mem_cons_of_mem _ (List.mem_cons_of_mem _ (List.mem_cons_self)))))))))))))))))))))⟩
  · refine ⟨firsto21, firstN21 hsf, fun o ho => ?_⟩
    have ho : o ∈ ([(true, first_f119_e226), (true, first_f119_e26), (true, first_f119_e56)] : List (Bool × wE)) := ho
    simp only [List.mem_cons, List.not_mem_nil, or_false] at ho
    rcases ho with rfl | rfl | rfl
    · exact Or.inr ⟨rfl, List.mem_cons_of_mem _ (List.mem_cons_of_mem _ (List.mem_cons_of_mem _ (List.mem_cons_of_mem _ (List.mem_cons_of_mem _ (List.mem_cons_of_mem _ (List.mem_cons_of_mem _ (List.mem_cons_of_mem _ (List.mem_cons_of_mem _ (List.mem_cons_of_mem _ (List.mem_cons_of_mem _ (List.mem_cons_of_mem _ (List.mem_cons_of_mem _ (List.mem_cons_of_mem _ (List.mem_cons_of_mem _ (List.mem_cons_of_mem _ (List.mem_cons_of_mem _ (List.mem_cons_of_mem _ (List.mem_cons_of_mem _ (List.mem_cons_of_mem _ (List.mem_cons_of_mem _ (List.mem_cons_of_mem _ (List.mem_cons_self))))))))))))))))))))))⟩
    · exact Or.inr ⟨rfl, List.mem_cons_of_mem _ (List.mem_cons_of_mem _ (List.mem_cons_of_mem _ (List.mem_cons_of_mem _ (List.mem_cons_of_mem _ (List.mem_cons_of_mem _ (List.mem_cons_of_mem _ (List.mem_cons_of_mem _ (List.mem_cons_of_mem _ (List.mem_cons_of_mem _ (List.mem_cons_of_mem _ (List.mem_cons_of_mem _ (List.mem_cons_of_mem _ (List.mem_cons_of_mem _ (List.mem_cons_of_mem _ (List.mem_cons_of_mem _ (List.mem_cons_of_mem _ (List.mem_cons_of_mem _ (List.mem_cons_of_mem _ (List.mem_cons_of_mem _ (List.mem_cons_of_mem _ (List.mem_cons_of_mem _ (List.mem_cons_of_mem _ (List.mem_cons_self)))))))))))))))))))))))⟩
    · exact Or.inr ⟨rfl, List.mem_cons_of_mem _ (List.mem_cons_of_mem _ (List.mem_cons_of_mem _ (List.mem_cons_of_mem _ (List.mem_cons_of_mem _ (List.mem_cons_of_mem _ (List.mem_cons_of_mem _ (List.mem_cons_of_mem _ (List.mem_cons_of_mem _ (List.mem_cons_of_mem _ (List.mem_cons_of_mem _ (List.mem_cons_of_mem _ (List.mem_cons_of_mem _ (List.mem_cons_of_mem _ (List.mem_cons_of_mem _ (List.mem_cons_of_mem _ (List.mem_cons_of_mem _ (List.mem_cons_of_mem _ (List.mem_cons_of_mem _ (List.mem_cons_of_mem _ (List.mem_cons_of_mem _ (List.mem_cons_of_mem _ (List.mem_cons_of_mem _ (List.mem_cons_of_mem _ (List.mem_cons_self))))))))))))))))))))))))⟩
  · refine ⟨firsto26, firstN26 hsf, fun o ho => ?_⟩
    have ho : o ∈ ([(true, first_f126_e226), (true, first_f126_e26), (true, first_f126_e56)] : List (Bool × wE)) := ho
    simp only [List.mem_cons, List.not_mem_nil, or_false] at ho
    rcases ho with rfl | rfl | rfl
    · exact Or.inr ⟨rfl, List.mem_cons_of_mem _ (List.mem_cons_of_mem _ (List.mem_cons_of_mem _ (List.mem_cons_of_mem _ (List.mem_cons_of_mem _ (List.mem_cons_of_mem _ (List.mem_cons_of_mem _ (List.mem_cons_of_mem _ (List.mem_cons_of_mem _ (List.mem_cons_of_mem _ (List.mem_cons_of_mem _ (List.mem_cons_of_mem _ (List.mem_cons_of_mem _ (List.mem_cons_of_mem _ (List.mem_cons_of_mem _ (List.mem_cons_of_mem _ (List.mem_cons_of_mem _ (List.mem_cons_of_mem _ (List.mem_cons_of_mem _ (List.mem_cons_of_mem _ (List.mem_cons_of_mem _ (List.mem_cons_of_mem _ (List.mem_cons_of_mem _ (List.mem_cons_of_mem _ (List.mem_cons_of_mem _ (List.mem_cons_self)))))))))))))))))))))))))⟩
    · exact Or.inr ⟨rfl, List.mem_cons_of_mem _ (List.mem_cons_of_mem _ (List.mem_cons_of_mem _ (List.mem_cons_of_mem _ (List.mem_cons_of_mem _ (List.mem_cons_of_mem _ (List.mem_cons_of_mem _ (List.mem_cons_of_mem _ (List.mem_cons_of_mem _ (List.mem_cons_of_mem _ (List.mem_cons_of_mem _ (List.mem_cons_of_mem _ (List.mem_cons_of_mem _ (List.mem_cons_of_mem _ (List.mem_cons_of_mem _ (List.mem_cons_of_mem _ (List.mem_cons_of_mem _ (List.mem_cons_of_mem _ (List.mem_cons_of_mem _ (List.mem_cons_of_mem _ (List.mem_cons_of_mem _ (List.mem_cons_of_mem _ (List.mem_cons_of_mem _ (List.mem_cons_of_mem _ (List.mem_cons_of_mem _ (List.mem_cons_of_mem _ (List.mem_cons_self))))))))))))))))))))))))))⟩
    · exact Or.inr ⟨rfl, List.mem_cons_of_mem _ (List.mem_cons_of_mem _ (List.mem_cons_of_mem _ (List.mem_cons_of_mem _ (List.mem_cons_of_mem _ (List.mem_cons_of_mem _ (List.mem_cons_of_mem _ (List.mem_cons_of_mem _ (List.mem_cons_of_mem _ (List.mem_cons_of_mem _ (List.mem_cons_of_mem _ (List.mem_cons_of_mem _ (List.mem_cons_of_mem _ (List.mem_cons_of_mem _ (List.mem_cons_of_mem _ (List.mem_cons_of_mem _ (List.mem_cons_of_mem _ (List.mem_cons_of_mem _ (List.mem_cons_of_mem _ (List.mem_cons_of_mem _ (List.mem_cons_of_mem _ (List.mem_cons_of_mem _ (List.mem_cons_of_mem _ (List.mem_cons_of_mem _ (List.mem_cons_of_mem _ (List.mem_cons_of_mem _ (List.mem_cons_of_mem _ (List.mem_cons_self)))))))))))))))))))))))))))⟩
  · refine ⟨firsto16, firstN16 hsf, fun o ho => ?_⟩
    have ho : o ∈ ([(true, first_f116_e226), (true, first_f116_e26), (true, first_f116_e56)] : List (Bool × wE)) := ho
    simp only [List.mem_cons, List.not_mem_nil, or_false] at ho
    rcases ho with rfl | rfl | rfl
    · exact Or.inr ⟨rfl, List.mem_cons_of_mem _ (List.mem_cons_of_mem _ (List.mem_cons_of_mem _ (List.mem_cons_of_mem _ (List.mem_cons_of_mem _ (List.mem_cons_of_mem _ (List.mem_cons_of_mem _ (List.mem_cons_of_mem _ (List.mem_cons_of_mem _ (List.mem_cons_of_mem _ (List.mem_cons_of_mem _ (List.mem_cons_of_mem _ (List.mem_cons_of_mem _ (List.mem_cons_of_mem _ (List.mem_cons_of_mem _ (List.mem_cons_of_mem _ (List.mem_cons_of_mem _ (List.mem_cons_of_mem _ (List.mem_cons_of_mem _ (List.mem_cons_of_mem _ (List.mem_cons_of_mem _ (List.mem_cons_of_mem _ (List.mem_cons_of_mem _ (List.mem_cons_of_mem _ (List.mem_cons_of_mem _ (List.mem_cons_of_mem _ (List.mem_cons_of_mem _ (List.mem_cons_of_mem _ (List.mem_cons_self))))))))))))))))))))))))))))⟩
    · exact Or.inr ⟨rfl, List.mem_cons_of_mem _ (List.mem_cons_of_mem _ (List.mem_cons_of_mem _ (List.mem_cons_of_mem _ (List.mem_cons_of_mem _ (List.mem_cons_of_mem _ (List.mem_cons_of_mem _ (List.mem_cons_of_mem _ (List.mem_cons_of_mem _ (List.mem_cons_of_mem _ (List.mem_cons_of_mem _ (List.mem_cons_of_mem _ (List.mem_cons_of_mem _ (List.mem_cons_of_mem _ (List.mem_cons_of_mem _ (List.mem_cons_of_mem _ (List.mem_cons_of_mem _ (List.mem_cons_of_mem _ (List.mem_cons_of_mem _ (List.mem_cons_of_mem _ (List.mem_cons_of_mem _ (List.mem_cons_of_mem _ (List.mem_cons_of_mem _ (List.mem_cons_of_mem _ (List.mem_cons_of_mem _ (List.mem_cons_of_mem _ (List.mem_cons_of_mem _ (List.mem_cons_of_mem _ (List.mem_cons_of_mem _ (List.mem_cons_self)))))))))))))))))))))))))))))⟩
    · exact Or.inr ⟨rfl, List.mem_cons_of_mem _ (List.mem_cons_of_mem _ (List.mem_cons_of_mem _ (List.mem_cons_of_mem _ (List.mem_cons_of_mem _ (List.mem_cons_of_mem _ (List.mem_cons_of_mem _ (List.mem_cons_of_mem _ (List.mem_cons_of_mem _ (List.mem_cons_of_mem _ (List.mem_cons_of_mem _ (List.mem_cons_of_mem _ (List.mem_cons_of_mem _ (List.mem_cons_of_mem _ (List.mem_cons_of_mem _ (List.mem_cons_of_mem _ (List.mem_cons_of_mem _ (List.mem_cons_of_mem _ (List.mem_cons_of_mem _ (List.mem_cons_of_mem _ (List.mem_cons_of_mem _ (List.mem_cons_of_mem _ (List.mem_cons_of_mem _ (List.mem_cons_of_mem _ (List.mem_cons_of_mem _ (List.mem_cons_of_mem _ (List.mem_cons_of_mem _ (List.mem_cons_of_mem _ (List.mem_cons_of_mem _ (List.mem_cons_of_mem _ (List.mem_cons_self))))))))))))))))))))))))))))))⟩
  · refine ⟨firsto23, firstN23 hsf, fun o ho => ?_⟩
    have ho : o ∈ ([(false, first_out)] : List (Bool × wE)) := ho
    simp only [List.mem_cons, List.not_mem_nil, or_false] at ho
    rcases ho with rfl
    · exact Or.inl (List.mem_cons_self)
  · refine ⟨firsto24, firstN24 hsf, fun o ho => ?_⟩
    have ho : o ∈ ([(false, first_out)] : List (Bool × wE)) := ho
    simp only [List.mem_cons, List.not_mem_nil, or_false] at ho
    rcases ho with rfl
    · exact Or.inl (List.mem_cons_self)
  · refine ⟨firsto25, firstN25 hsf, fun o ho => ?_⟩
    have ho : o ∈ ([(false, first_out)] : List (Bool × wE)) := ho
    simp only [List.mem_cons, List.not_mem_nil, or_false] at ho
    rcases ho with rfl
    · exact Or.inl (List.mem_cons_self)
  · refine ⟨firsto28, firstN28 hsf, fun o ho => ?_⟩
    have ho : o ∈ ([(false, first_out)] : List (Bool × wE)) := ho
    simp only [List.mem_cons, List.not_mem_nil, or_false] at ho
    rcases ho with rfl
    · exact Or.inl (List.mem_cons_self)
  · refine ⟨firsto29, firstN29 hsf, fun o ho => ?_⟩
    have ho : o ∈ ([(false, first_out)] : List (Bool × wE)) := ho
    simp only [List.mem_cons, List.not_mem_nil, or_false] at ho
    rcases ho with rfl
    · exact Or.inl (List.mem_cons_self)
  · refine ⟨firsto30, firstN30 hsf, fun o ho => ?_⟩
    have ho : o ∈ ([(false, first_out)] : List (Bool × wE)) := ho
    simp only [List.mem_cons, List.not_mem_nil, or_false] at ho
    rcases ho with rfl
    · exact Or.inl (List.mem_cons_self)
  · refine ⟨firsto18, firstN18 hsf, fun o ho => ?_⟩
    have ho : o ∈ ([(false, first_out)] : List (Bool × wE)) := ho
    simp only [List.mem_cons, List.not_mem_nil, or_false] at ho
    rcases ho with rfl
    · exact Or.inl (List.mem_cons_self)
  · refine ⟨firsto19, firstN19 hsf, fun o ho => ?_⟩
    have ho : o ∈ ([(false, first_out)] : List (Bool × wE)) := ho
    simp only [List.mem_cons, List.not_mem_nil, or_false] at ho
    rcases ho with rfl
    · exact Or.inl (List.mem_cons_self)
  · refine ⟨firsto20, firstN20 hsf, fun o ho => ?_⟩
    have ho : o ∈ ([(false, first_out)] : List (Bool × wE)) := ho
    simp only [List.mem_cons, List.not_mem_nil, or_false] at ho
    rcases ho with rfl
    · exact Or.inl (List.mem_cons_self))
theorem firstH {xs : Nat → Int32} {n : Nat} {sf : Option Nat} (hsf : sf = none ∨ sf = some 1200000) : wGoes x_KT x_tb x_tyl (x_otS xs n sf) lwFS lwGA.length lwGB.length 5 25 43 firstWA firstWB 140 223 63 62 first_in (firstOX.map (fun x => x.1)) :=
  wFSr (FS := lwFR) (nh := 33) (wFam (V := []) lwFRok (by decide +kernel) (by decide +kernel) (first_g0_G hsf first_in List.mem_cons_self) (by decide) (by decide) (fun i hi u hu => by
  have hi : i ∈ ([] : List Nat) := hi
  simp only [List.mem_cons, List.not_mem_nil, or_false] at hi)) lwFRp (by decide) (by decide +kernel)
theorem firstPP {xs : Nat → Int32} {n : Nat} {sf : Option Nat} (hsf : sf = none ∨ sf = some 1200000) : bPP x_KT x_tb x_tyl (x_otS xs n sf) lwN lwP 1299 140 223 4 (mMc xm140 + mMc xm223) (mRc xm140) (mRc xm223) False :=
  wBlkN lwFok lwFB uKa uKb (by decide +kernel) (by decide +kernel) uKdj uKj firstbc (firstH hsf) gq140 gq223 (by decide) (by decide) (uKeep (by decide +kernel)) (by decide +kernel) (by decide +kernel) (by decide +kernel)
set_option maxRecDepth 1000000 in
theorem gq221 : tMth x_tb 221 = some xm221 := rfl
theorem bbN0 {xs : Nat → Int32} {n : Nat} {sf : Option Nat} (hsf : sf = none ∨ sf = some 1200000) : wGoes x_KT x_tb x_tyl (x_otS xs n sf) lwFR lwGA.length lwGB.length 6 25 43 bbWA bbWB 113 221 60 62 bb_c bbo0 :=
  wDp (wWk (wEqvB (wCallB (recv := 0) (pc := 116) (ix := 339) (nx := 3) (args := [.inl (lSy 19), .inl (lSy 20), .inl (lSy 21)]) (rest := []) (LE := [(0, .inr (some 0)), (2, .inr (some 21)), (3, .inr (some 22)), (4, .inr (some 23))]) (cE := (lK 27)) (sE := (lK 180)) (wReL (XA := bbX0.2.1) (XB := bbX0.2.2.1) (XC := bbX0.2.2.2.1) (rk := bbX0.2.2.2.2) (rA := bbQA0) (rB := bbQB0) (tr_g0_G hsf _ List.mem_cons_self) bbL0) gq221 gq222 (by decide +kernel) (by decide +kernel) (by decide +kernel) (by decide +kernel) (by decide +kernel)) (by decide +kernel) (by decide +kernel)) (by decide) (by decide) (by decide) (by decide +kernel) (by decide +kernel)) (by decide) (by decide)
theorem bbN1 {xs : Nat → Int32} {n : Nat} {sf : Option Nat} (hsf : sf = none ∨ sf = some 1200000) : wGoes x_KT x_tb x_tyl (x_otS xs n sf) lwFR lwGA.length lwGB.length 6 25 43 bbWA bbWB 113 221 60 62 bb_in bbo1 :=
  wDp (wWk (wFamE2 (V := [2]) (x_ov0_le sf) u_ctS lwFRok bbE1 (by decide) (by decide) (fun i hi u hu => by
      have hi : i ∈ ([2] : List Nat) := hi
      simp only [List.mem_cons, List.not_mem_nil, or_false] at hi
      rcases hi with rfl
      · cases hu
        exact wRkE_spec (x_ov0_le sf) u_ctS lwFRok bbE1R2)) (Nat.le_refl _) (Nat.le_refl _) (Nat.le_refl _) (by decide +kernel) (by decide +kernel)) (by decide) (by decide)
theorem bbN2 {xs : Nat → Int32} {n : Nat} {sf : Option Nat} (hsf : sf = none ∨ sf = some 1200000) : wGoes x_KT x_tb x_tyl (x_otS xs n sf) lwFR lwGA.length lwGB.length 6 25 43 bbWA bbWB 113 221 60 62 bb_c_out bbo2 :=
  wDp (wWk (wEd_spec (x_ov0_le sf) u_ctS lwFRok bbE2) (Nat.le_refl _) (Nat.le_refl _) (Nat.le_refl _) (by decide +kernel) (by decide +kernel)) (by decide) (by decide)
set_option maxRecDepth 1000000 in
theorem gq146 : tMth x_tb 146 = some xm146 := rfl
theorem besideN0 {xs : Nat → Int32} {n : Nat} {sf : Option Nat} (hsf : sf = none ∨ sf = some 1200000) : wGoes x_KT x_tb x_tyl (x_otS xs n sf) lwFR lwGA.length lwGB.length 5 25 43 besideWA besideWB 146 221 62 62 beside_c1 besideo0 :=
  wDp (wWk (wEqvB (wCallA (recv := 0) (pc := 13) (ix := 372) (nx := 3) (args := [.inl (lSy 11), .inl (lSy 12)]) (rest := []) (LE := [(0, .inr (some 0)), (1, .inl (lSy 5))]) (cE := (lK 0)) (sE := (lK 0)) (wLift (dpB := 60) (pc := 0) (pcP := 43) (nx := 1) (LE := [(0, .inr (some 0)), (1, .inl (lSy 5))]) (SE := []) (cE := (lK 0)) (sE := (lK 0)) (wReL (XA := besideX0.2.1) (XB := besideX0.2.2.1) (XC := besideX0.2.2.2.1) (rk := besideX0.2.2.2.2) (rA := besideQA0) (rB := besideQB0) (rt_g0_G hsf _ List.mem_cons_self) besideL0) gq221 gq244 (by decide +kernel) (by decide +kernel) (by decide +kernel) (by decide +kernel)) gq146 gq141 (by decide +kernel) (by decide +kernel) (by decide +kernel) (by decide +kernel) (by decide +kernel)) (by decide +kernel) (by decide +kernel)) (by decide) (by decide) (by decide) (by decide +kernel) (by decide +kernel)) (by decide) (by decide)
theorem besideN1 {xs : Nat → Int32} {n : Nat} {sf : Option Nat} (hsf : sf = none ∨ sf = some 1200000) : wGoes x_KT x_tb x_tyl (x_otS xs n sf) lwFR lwGA.length lwGB.length 5 25 43 besideWA besideWB 146 221 62 62 beside_in besideo1 :=
  wDp (wWk (wEd_spec (x_ov0_le sf) u_ctS lwFRok besideE1) (Nat.le_refl _) (Nat.le_refl _) (Nat.le_refl _) (by decide +kernel) (by decide +kernel)) (by decide) (by decide)
theorem besideN2 {xs : Nat → Int32} {n : Nat} {sf : Option Nat} (hsf : sf = none ∨ sf = some 1200000) : wGoes x_KT x_tb x_tyl (x_otS xs n sf) lwFR lwGA.length lwGB.length 5 25 43 besideWA besideWB 146 221 62 62 beside_c3 besideo2 :=
  wDp (wWk (wEqvB (wCallA (recv := 0) (pc := 20) (ix := 380) (nx := 3) (args := [.inl (lSy 16), .inl (lSy 17), .inl (lSy 18)]) (rest := []) (LE := [(0, .inr (some 0)), (1, .inl (lSy 5))]) (cE := (lK 0)) (sE := (lK 0)) (wLift (dpB := 60) (pc := 0) (pcP := 43) (nx := 1) (LE := [(0, .inr (some 0)), (1, .inl (lSy 5))]) (SE := []) (cE := (lK 0)) (sE := (lK 0)) (wReL (XA := besideX2.2.1) (XB := besideX2.2.2.1) (XC := besideX2.2.2.2.1) (rk := besideX2.2.2.2.2) (rA := besideQA2) (rB := besideQB2) (rh_g0_G hsf _ List.mem_cons_self) besideL2) gq221 gq244 (by decide +kernel) (by decide +kernel) (by decide +kernel) (by decide +kernel)) gq146 gq144 (by decide +kernel) (by decide +kernel) (by decide +kernel) (by decide +kernel) (by decide +kernel)) (by decide +kernel) (by decide +kernel)) (by decide) (by decide) (by decide) (by decide +kernel) (by decide +kernel)) (by decide) (by decide)
theorem besideN3 {xs : Nat → Int32} {n : Nat} {sf : Option Nat} (hsf : sf = none ∨ sf = some 1200000) : wGoes x_KT x_tb x_tyl (x_otS xs n sf) lwFR lwGA.length lwGB.length 5 25 43 besideWA besideWB 146 221 62 62 beside_c1_out besideo3 :=
  wDp (wWk (wEd_spec (x_ov0_le sf) u_ctS lwFRok besideE3) (Nat.le_refl _) (Nat.le_refl _) (Nat.le_refl _) (by decide +kernel) (by decide +kernel)) (by decide) (by decide)
def bb_g0_nd : List wE := [bb_in, bb_c, bb_c_out]
theorem bb_g0_G {xs : Nat → Int32} {n : Nat} {sf : Option Nat} (hsf : sf = none ∨ sf = some 1200000) : ∀ nd ∈ bb_g0_nd, wGoes x_KT x_tb x_tyl (x_otS xs n sf) lwFR lwGA.length lwGB.length 6 25 43 bbWA bbWB 113 221 60 62 nd (bb_g0_ex.map (fun x => (false, x))) := wGraph (fun nd hnd => by
  have hnd : nd ∈ ([bb_in, bb_c, bb_c_out] : List wE) := hnd
  simp only [List.mem_cons, List.not_mem_nil, or_false] at hnd
  rcases hnd with rfl | rfl | rfl
  · refine ⟨bbo1, bbN1 hsf, fun o ho => ?_⟩
    have ho : o ∈ ([(true, bb_c), (false, bb_e9)] : List (Bool × wE)) := ho
    simp only [List.mem_cons, List.not_mem_nil, or_false] at ho
    rcases ho with rfl | rfl
    · exact Or.inr ⟨rfl, List.mem_cons_of_mem _ (List.mem_cons_self)⟩
    · exact Or.inl (List.mem_cons_of_mem _ (List.mem_cons_self))
  · refine ⟨bbo0, bbN0 hsf, fun o ho => ?_⟩
    have ho : o ∈ ([(true, bb_c_out)] : List (Bool × wE)) := ho
    simp only [List.mem_cons, List.not_mem_nil, or_false] at ho
    rcases ho with rfl
    · exact Or.inr ⟨rfl, List.mem_cons_of_mem _ (List.mem_cons_of_mem _ (List.mem_cons_self))⟩
  · refine ⟨bbo2, bbN2 hsf, fun o ho => ?_⟩
    have ho : o ∈ ([(false, bb_e139)] : List (Bool × wE)) := ho
    simp only [List.mem_cons, List.not_mem_nil, or_false] at ho
    rcases ho with rfl
    · exact Or.inl (List.mem_cons_self))
theorem besideN4 {xs : Nat → Int32} {n : Nat} {sf : Option Nat} (hsf : sf = none ∨ sf = some 1200000) : wGoes x_KT x_tb x_tyl (x_otS xs n sf) lwFR lwGA.length lwGB.length 5 25 43 besideWA besideWB 146 221 62 62 beside_f9 besideo4 :=
  wDp (wWk (wEqvB (wLiftA (dpA := 60) (pc := 9) (pcP := 22) (nx := 1) (LE := []) (SE := [.inl (lK (-2))]) (cE := (lK 0)) (sE := (lK 0)) (wReL (XA := besideX4.2.1) (XB := besideX4.2.2.1) (XC := besideX4.2.2.2.1) (rk := besideX4.2.2.2.2) (rA := besideQA4) (rB := besideQB4) (bb_g0_G hsf _ List.mem_cons_self) besideL4) gq146 gq113 (by decide +kernel) (by decide +kernel) (by decide +kernel) (by decide +kernel)) (by decide +kernel) (by decide +kernel)) (by decide) (by decide) (by decide) (by decide +kernel) (by decide +kernel)) (by decide) (by decide)
theorem besideN5 {xs : Nat → Int32} {n : Nat} {sf : Option Nat} (hsf : sf = none ∨ sf = some 1200000) : wGoes x_KT x_tb x_tyl (x_otS xs n sf) lwFR lwGA.length lwGB.length 5 25 43 besideWA besideWB 146 221 62 62 beside_r1 besideo5 :=
  wDp (wWk (wEd_spec (x_ov0_le sf) u_ctS lwFRok besideE5) (Nat.le_refl _) (Nat.le_refl _) (Nat.le_refl _) (by decide +kernel) (by decide +kernel)) (by decide) (by decide)
theorem besideN6 {xs : Nat → Int32} {n : Nat} {sf : Option Nat} (hsf : sf = none ∨ sf = some 1200000) : wGoes x_KT x_tb x_tyl (x_otS xs n sf) lwFR lwGA.length lwGB.length 5 25 43 besideWA besideWB 146 221 62 62 beside_f9_e139 besideo6 :=
  wDp (wWk (wEd_spec (x_ov0_le sf) u_ctS lwFRok besideE6) (Nat.le_refl _) (Nat.le_refl _) (Nat.le_refl _) (by decide +kernel) (by decide +kernel)) (by decide) (by decide)
theorem besideN7 {xs : Nat → Int32} {n : Nat} {sf : Option Nat} (hsf : sf = none ∨ sf = some 1200000) : wGoes x_KT x_tb x_tyl (x_otS xs n sf) lwFR lwGA.length lwGB.length 5 25 43 besideWA besideWB 146 221 62 62 beside_f9_e9 besideo7 :=
  wDp (wWk (wEd_spec (x_ov0_le sf) u_ctS lwFRok besideE7) (Nat.le_refl _) (Nat.le_refl _) (Nat.le_refl _) (by decide +kernel) (by decide +kernel)) (by decide) (by decide)
theorem besideN8 {xs : Nat → Int32} {n : Nat} {sf : Option Nat} (hsf : sf = none ∨ sf = some 1200000) : wGoes x_KT x_tb x_tyl (x_otS xs n sf) lwFR lwGA.length lwGB.length 5 25 43 besideWA besideWB 146 221 62 62 beside_f23 besideo8 :=
  wDp (wWk (wEqvB (wLiftA (dpA := 60) (pc := 23) (pcP := 22) (nx := 1) (LE := []) (SE := [.inl (lSy 5)]) (cE := (lK 0)) (sE := (lK 0)) (wReL (XA := besideX8.2.1) (XB := besideX8.2.2.1) (XC := besideX8.2.2.2.1) (rk := besideX8.2.2.2.2) (rA := besideQA8) (rB := besideQB8) (bb_g0_G hsf _ List.mem_cons_self) besideL8) gq146 gq113 (by decide +kernel) (by decide +kernel) (by decide +kernel) (by decide +kernel)) (by decide +kernel) (by decide +kernel)) (by decide) (by decide) (by decide) (by decide +kernel) (by decide +kernel)) (by decide) (by decide)
theorem besideN9 {xs : Nat → Int32} {n : Nat} {sf : Option Nat} (hsf : sf = none ∨ sf = some 1200000) : wGoes x_KT x_tb x_tyl (x_otS xs n sf) lwFR lwGA.length lwGB.length 5 25 43 besideWA besideWB 146 221 62 62 beside_c3_out besideo9 :=
  wDp (wWk (wEd_spec (x_ov0_le sf) u_ctS lwFRok besideE9) (Nat.le_refl _) (Nat.le_refl _) (Nat.le_refl _) (by decide +kernel) (by decide +kernel)) (by decide) (by decide)
theorem besideN10 {xs : Nat → Int32} {n : Nat} {sf : Option Nat} (hsf : sf = none ∨ sf = some 1200000) : wGoes x_KT x_tb x_tyl (x_otS xs n sf) lwFR lwGA.length lwGB.length 5 25 43 besideWA besideWB 146 221 62 62 beside_f23_e139 besideo10 :=
  wDp (wWk (wEd_spec (x_ov0_le sf) u_ctS lwFRok besideE10) (Nat.le_refl _) (Nat.le_refl _) (Nat.le_refl _) (by decide +kernel) (by decide +kernel)) (by decide) (by decide)
theorem besideN11 {xs : Nat → Int32} {n : Nat} {sf : Option Nat} (hsf : sf = none ∨ sf = some 1200000) : wGoes x_KT x_tb x_tyl (x_otS xs n sf) lwFR lwGA.length lwGB.length 5 25 43 besideWA besideWB 146 221 62 62 beside_f23_e9 besideo11 :=
  wDp (wWk (wEd_spec (x_ov0_le sf) u_ctS lwFRok besideE11) (Nat.le_refl _) (Nat.le_refl _) (Nat.le_refl _) (by decide +kernel) (by decide +kernel)) (by decide) (by decide)
def beside_g0_nd : List wE := [beside_in, beside_c1, beside_r1, beside_c1_out, beside_f9, beside_c3, beside_f9_e139, beside_f9_e9, beside_c3_out, beside_f23, beside_f23_e139, beside_f23_e9]
theorem beside_g0_G {xs : Nat → Int32} {n : Nat} {sf : Option Nat} (hsf : sf = none ∨ sf = some 1200000) : ∀ nd ∈ beside_g0_nd, wGoes x_KT x_tb x_tyl (x_otS xs n sf) lwFR lwGA.length lwGB.length 5 25 43 besideWA besideWB 146 221 62 62 nd (beside_g0_ex.map (fun x => (false, x))) := wGraph (fun nd hnd => by
  have hnd : nd ∈ ([beside_in, beside_c1, beside_r1, beside_c1_out, beside_f9, beside_c3, beside_f9_e139, beside_f9_e9, beside_c3_out, beside_f23, beside_f23_e139, beside_f23_e9] : List wE) := hnd
  simp only [List.mem_cons, List.not_mem_nil, or_false] at hnd
  rcases hnd with rfl | rfl | rfl | rfl | rfl | rfl | rfl | rfl | rfl | rfl | rfl | rfl
  · refine ⟨besideo1, besideN1 hsf, fun o ho => ?_⟩
    have ho : o ∈ ([(true, beside_c1), (true, beside_r1)] : List (Bool × wE)) := ho
    simp only [List.mem_cons, List.not_mem_nil, or_false] at ho
    rcases ho with rfl | rfl
    · exact Or.inr ⟨rfl, List.mem_cons_of_mem _ (List.mem_cons_self)⟩
    · exact Or.inr ⟨rfl, List.mem_cons_of_mem _ (List.mem_cons_of_mem _ (List.mem_cons_self))⟩
  · refine ⟨besideo0, besideN0 hsf, fun o ho => ?_⟩
    have ho : o ∈ ([(true, beside_c1_out)] : List (Bool × wE)) := ho
    simp only [List.mem_cons, List.not_mem_nil, or_false] at ho
    rcases ho with rfl
    · exact Or.inr ⟨rfl, List.mem_cons_of_mem _ (List.mem_cons_of_mem _ (List.mem_cons_of_mem _ (List.mem_cons_self)))⟩
  · refine ⟨besideo5, besideN5 hsf, fun o ho => ?_⟩
    have ho : o ∈ ([(true, beside_f9)] : List (Bool × wE)) := ho
    simp only [List.mem_cons, List.not_mem_nil, or_false] at ho
    rcases ho with rfl
    · exact Or.inr ⟨rfl, List.mem_cons_of_mem _ (List.mem_cons_of_mem _ (List.mem_cons_of_mem _ (List.mem_cons_of_mem _ (List.mem_cons_self))))⟩
  · refine ⟨besideo3, besideN3 hsf, fun o ho => ?_⟩
    have ho : o ∈ ([(true, beside_c3)] : List (Bool × wE)) := ho
    simp only [List.mem_cons, List.not_mem_nil, or_false] at ho
    rcases ho with rfl
    · exact Or.inr ⟨rfl, List.mem_cons_of_mem _ (List.mem_cons_of_mem _ (List.mem_cons_of_mem _ (List.mem_cons_of_mem _ (List.mem_cons_of_mem _ (List.mem_cons_self)))))⟩
  · refine ⟨besideo4, besideN4 hsf, fun o ho => ?_⟩
    have ho : o ∈ ([(true, beside_f9_e139), (true, beside_f9_e9)] : List (Bool × wE)) := ho
    simp only [List.mem_cons, List.not_mem_nil, or_false] at ho
    rcases ho with rfl | rfl
    · exact Or.inr ⟨rfl, List.mem_cons_of_mem _ (List.mem_cons_of_mem _ (List.mem_cons_of_mem _ (List.mem_cons_of_mem _ (List.mem_cons_of_mem _ (List.mem_cons_of_mem _ (List.mem_cons_self))))))⟩
    · exact Or.inr ⟨rfl, List.mem_cons_of_mem _ (List.mem_cons_of_mem _ (List.mem_cons_of_mem _ (List.mem_cons_of_mem _ (List.mem_cons_of_mem _ (List.mem_cons_of_mem _ (List.mem_cons_of_mem _ (List.mem_cons_self)))))))⟩
  · refine ⟨besideo2, besideN2 hsf, fun o ho => ?_⟩
    have ho : o ∈ ([(true, beside_c3_out)] : List (Bool × wE)) := ho
    simp only [List.mem_cons, List.not_mem_nil, or_false] at ho
    rcases ho with rfl
    · exact Or.inr ⟨rfl, List.mem_cons_of_mem _ (List.mem_cons_of_mem _ (List.mem_cons_of_mem _ (List.mem_cons_of_mem _ (List.mem_cons_of_mem _ (List.mem_cons_of_mem _ (List.mem_cons_of_mem _ (List.mem_cons_of_mem _ (List.mem_cons_self))))))))⟩
  · refine ⟨besideo6, besideN6 hsf, fun o ho => ?_⟩
    have ho : o ∈ ([(false, beside_out)] : List (Bool × wE)) := ho
    simp only [List.mem_cons, List.not_mem_nil, or_false] at ho
    rcases ho with rfl
    · exact Or.inl (List.mem_cons_self)
  · refine ⟨besideo7, besideN7 hsf, fun o ho => ?_⟩
    have ho : o ∈ ([(false, beside_out)] : List (Bool × wE)) := ho
    simp only [List.mem_cons, List.not_mem_nil, or_false] at ho
    rcases ho with rfl
    · exact Or.inl (List.mem_cons_self)
  · refine ⟨besideo9, besideN9 hsf, fun o ho => ?_⟩
    have ho : o ∈ ([(true, beside_f23)] : List (Bool × wE)) := ho
    simp only [List.mem_cons, List.not_mem_nil, or_false] at ho
    rcases ho with rfl
    · exact Or.inr ⟨rfl, List.mem_cons_of_mem _ (List.mem_cons_of_mem _ (List.mem_cons_of_mem _ (List.mem_cons_of_mem _ (List.mem_cons_of_mem _ (List.mem_cons_of_mem _ (List.mem_cons_of_mem _ (List.mem_cons_of_mem _ (List.mem_cons_of_mem _ (List.mem_cons_self)))))))))⟩
  · refine ⟨besideo8, besideN8 hsf, fun o ho => ?_⟩
    have ho : o ∈ ([(true, beside_f23_e139), (true, beside_f23_e9)] : List (Bool × wE)) := ho
    simp only [List.mem_cons, List.not_mem_nil, or_false] at ho
    rcases ho with rfl | rfl
    · exact Or.inr ⟨rfl, List.mem_cons_of_mem _ (List.mem_cons_of_mem _ (List.mem_cons_of_mem _ (List.mem_cons_of_mem _ (List.mem_cons_of_mem _ (List.mem_cons_of_mem _ (List.mem_cons_of_mem _ (List.mem_cons_of_mem _ (List.mem_cons_of_mem _ (List.mem_cons_of_mem _ (List.mem_cons_self))))))))))⟩
    · exact Or.inr ⟨rfl, List.mem_cons_of_mem _ (List.mem_cons_of_mem _ (List.mem_cons_of_mem _ (List.mem_cons_of_mem _ (List.mem_cons_of_mem _ (List.mem_cons_of_mem _ (List.mem_cons_of_mem _ (List.mem_cons_of_mem _ (List.mem_cons_of_mem _ (List.mem_cons_of_mem _ (List.mem_cons_of_mem _ (List.mem_cons_self)))))))))))⟩
  · refine ⟨besideo10, besideN10 hsf, fun o ho => ?_⟩
    have ho : o ∈ ([(false, beside_out)] : List (Bool × wE)) := ho
    simp only [List.mem_cons, List.not_mem_nil, or_false] at ho
    rcases ho with rfl
    · exact Or.inl (List.mem_cons_self)
  · refine ⟨besideo11, besideN11 hsf, fun o ho => ?_⟩
    have ho : o ∈ ([(false, beside_out)] : List (Bool × wE)) := ho
    simp only [List.mem_cons, List.not_mem_nil, or_false] at ho
    rcases ho with rfl
    · exact Or.inl (List.mem_cons_self))
theorem besideH {xs : Nat → Int32} {n : Nat} {sf : Option Nat} (hsf : sf = none ∨ sf = some 1200000) : wGoes x_KT x_tb x_tyl (x_otS xs n sf) lwFS lwGA.length lwGB.length 5 25 43 besideWA besideWB 146 221 62 62 beside_in (besideOX.map (fun x => x.1)) :=
  wFSr (FS := lwFR) (nh := 33) (wFam (V := []) lwFRok (by decide +kernel) (by decide +kernel) (beside_g0_G hsf beside_in List.mem_cons_self) (by decide) (by decide) (fun i hi u hu => by
  have hi : i ∈ ([] : List Nat) := hi
  simp only [List.mem_cons, List.not_mem_nil, or_false] at hi)) lwFRp (by decide) (by decide +kernel)
theorem besidePP {xs : Nat → Int32} {n : Nat} {sf : Option Nat} (hsf : sf = none ∨ sf = some 1200000) : bPP x_KT x_tb x_tyl (x_otS xs n sf) lwN lwP 1299 146 221 1 (mMc xm146 + mMc xm221) (mRc xm146) (mRc xm221) False :=
  wBlkN lwFok lwFB uKa uKb (by decide +kernel) (by decide +kernel) uKdj uKj besidebc (besideH hsf) gq146 gq221 (by decide) (by decide) (uKeep (by decide +kernel)) (by decide +kernel) (by decide +kernel) (by decide +kernel)
set_option maxRecDepth 1000000 in
theorem gq174 : tMth x_tb 174 = some xm174 := rfl
set_option maxRecDepth 1000000 in
theorem gq272 : tMth x_tb 272 = some xm272 := rfl
theorem sheetN0 {xs : Nat → Int32} {n : Nat} {sf : Option Nat} : wGoes x_KT x_tb x_tyl (x_otS xs n sf) lwFR lwGA.length lwGB.length 5 25 43 sheetWA sheetWB 174 272 60 60 sheet_in sheeto0 :=
  wDp (wWk (wEd_spec (x_ov0_le sf) u_ctS lwFRok sheetE0) (Nat.le_refl _) (Nat.le_refl _) (Nat.le_refl _) (by decide +kernel) (by decide +kernel)) (by decide) (by decide)
theorem sheetN1 {xs : Nat → Int32} {n : Nat} {sf : Option Nat} : wGoes x_KT x_tb x_tyl (x_otS xs n sf) lwFR lwGA.length lwGB.length 5 25 43 sheetWA sheetWB 174 272 60 60 sheet_c0 sheeto1 :=
  wDp (wWk (wFamE2 (V := [22, 23, 21]) (x_ov0_le sf) u_ctS lwFRok sheetE1 (by decide) (by decide) (fun i hi u hu => by
      have hi : i ∈ ([22, 23, 21] : List Nat) := hi
      simp only [List.mem_cons, List.not_mem_nil, or_false] at hi
      rcases hi with rfl | rfl | rfl
      · cases hu
        exact wRkE_spec (x_ov0_le sf) u_ctS lwFRok sheetE1R22
      · cases hu
        exact wRkE_spec (x_ov0_le sf) u_ctS lwFRok sheetE1R23
      · cases hu
        exact wRkE_spec (x_ov0_le sf) u_ctS lwFRok sheetE1R21)) (Nat.le_refl _) (Nat.le_refl _) (Nat.le_refl _) (by decide +kernel) (by decide +kernel)) (by decide) (by decide)
theorem sheetN2 {xs : Nat → Int32} {n : Nat} {sf : Option Nat} : wGoes x_KT x_tb x_tyl (x_otS xs n sf) lwFR lwGA.length lwGB.length 5 25 43 sheetWA sheetWB 174 272 60 60 sheet_o0 sheeto2 :=
  wDp (wWk (wFamE2 (V := [22, 23]) (x_ov0_le sf) u_ctS lwFRok sheetE2 (by decide) (by decide) (fun i hi u hu => by
      have hi : i ∈ ([22, 23] : List Nat) := hi
      simp only [List.mem_cons, List.not_mem_nil, or_false] at hi
      rcases hi with rfl | rfl
      · cases hu
        exact wRkE_spec (x_ov0_le sf) u_ctS lwFRok sheetE2R22
      · cases hu
        exact wRkE_spec (x_ov0_le sf) u_ctS lwFRok sheetE2R23)) (Nat.le_refl _) (Nat.le_refl _) (Nat.le_refl _) (by decide +kernel) (by decide +kernel)) (by decide) (by decide)
theorem sheetN3 {xs : Nat → Int32} {n : Nat} {sf : Option Nat} : wGoes x_KT x_tb x_tyl (x_otS xs n sf) lwFR lwGA.length lwGB.length 5 25 43 sheetWA sheetWB 174 272 60 60 sheet_z0 sheeto3 :=
  wDp (wWk (wFamE2 (V := [21]) (x_ov0_le sf) u_ctS lwFRok sheetE3 (by decide) (by decide) (fun i hi u hu => by
      have hi : i ∈ ([21] : List Nat) := hi
      simp only [List.mem_cons, List.not_mem_nil, or_false] at hi
      rcases hi with rfl
      · cases hu
        exact wRkE_spec (x_ov0_le sf) u_ctS lwFRok sheetE3R21)) (Nat.le_refl _) (Nat.le_refl _) (Nat.le_refl _) (by decide +kernel) (by decide +kernel)) (by decide) (by decide)
theorem sheetN4 {xs : Nat → Int32} {n : Nat} {sf : Option Nat} : wGoes x_KT x_tb x_tyl (x_otS xs n sf) lwFR lwGA.length lwGB.length 5 25 43 sheetWA sheetWB 174 272 60 60 sheet_c1 sheeto4 :=
  wDp (wWk (wFamE2 (V := [21, 23, 22]) (x_ov0_le sf) u_ctS lwFRok sheetE4 (by decide) (by decide) (fun i hi u hu => by
      have hi : i ∈ ([21, 23, 22] : List Nat) := hi
      simp only [List.mem_cons, List.not_mem_nil, or_false] at hi
      rcases hi with rfl | rfl | rfl
      · cases hu
        exact wRkE_spec (x_ov0_le sf) u_ctS lwFRok sheetE4R21
      · cases hu
        exact wRkE_spec (x_ov0_le sf) u_ctS lwFRok sheetE4R23
      · cases hu
        exact wRkE_spec (x_ov0_le sf) u_ctS lwFRok sheetE4R22)) (Nat.le_refl _) (Nat.le_refl _) (Nat.le_refl _) (by decide +kernel) (by decide +kernel)) (by decide) (by decide)
theorem sheetN5 {xs : Nat → Int32} {n : Nat} {sf : Option Nat} : wGoes x_KT x_tb x_tyl (x_otS xs n sf) lwFR lwGA.length lwGB.length 5 25 43 sheetWA sheetWB 174 272 60 60 sheet_o1 sheeto5 :=
  wDp (wWk (wFamE2 (V := [21, 23]) (x_ov0_le sf) u_ctS lwFRok sheetE5 (by decide) (by decide) (fun i hi u hu => by
      have hi : i ∈ ([21, 23] : List Nat) := hi
      simp only [List.mem_cons, List.not_mem_nil, or_false] at hi
      rcases hi with rfl | rfl
      · cases hu
        exact wRkE_spec (x_ov0_le sf) u_ctS lwFRok sheetE5R21
      · cases hu
        exact wRkE_spec (x_ov0_le sf) u_ctS lwFRok sheetE5R23)) (Nat.le_refl _) (Nat.le_refl _) (Nat.le_refl _) (by decide +kernel) (by decide +kernel)) (by decide) (by decide)
theorem sheetN6 {xs : Nat → Int32} {n : Nat} {sf : Option Nat} : wGoes x_KT x_tb x_tyl (x_otS xs n sf) lwFR lwGA.length lwGB.length 5 25 43 sheetWA sheetWB 174 272 60 60 sheet_z1 sheeto6 :=
  wDp (wWk (wFamE2 (V := [22]) (x_ov0_le sf) u_ctS lwFRok sheetE6 (by decide) (by decide) (fun i hi u hu => by
      have hi : i ∈ ([22] : List Nat) := hi
      simp only [List.mem_cons, List.not_mem_nil, or_false] at hi
      rcases hi with rfl
      · cases hu
        exact wRkE_spec (x_ov0_le sf) u_ctS lwFRok sheetE6R22)) (Nat.le_refl _) (Nat.le_refl _) (Nat.le_refl _) (by decide +kernel) (by decide +kernel)) (by decide) (by decide)
theorem sheetN7 {xs : Nat → Int32} {n : Nat} {sf : Option Nat} : wGoes x_KT x_tb x_tyl (x_otS xs n sf) lwFR lwGA.length lwGB.length 5 25 43 sheetWA sheetWB 174 272 60 60 sheet_c2 sheeto7 :=
  wDp (wWk (wFamE2 (V := [21, 22, 23]) (x_ov0_le sf) u_ctS lwFRok sheetE7 (by decide) (by decide) (fun i hi u hu => by
      have hi : i ∈ ([21, 22, 23] : List Nat) := hi
      simp only [List.mem_cons, List.not_mem_nil, or_false] at hi
      rcases hi with rfl | rfl | rfl
      · cases hu
        exact wRkE_spec (x_ov0_le sf) u_ctS lwFRok sheetE7R21
      · cases hu
        exact wRkE_spec (x_ov0_le sf) u_ctS lwFRok sheetE7R22
      · cases hu
        exact wRkE_spec (x_ov0_le sf) u_ctS lwFRok sheetE7R23)) (Nat.le_refl _) (Nat.le_refl _) (Nat.le_refl _) (by decide +kernel) (by decide +kernel)) (by decide) (by decide)
theorem sheetN8 {xs : Nat → Int32} {n : Nat} {sf : Option Nat} : wGoes x_KT x_tb x_tyl (x_otS xs n sf) lwFR lwGA.length lwGB.length 5 25 43 sheetWA sheetWB 174 272 60 60 sheet_o2 sheeto8 :=
  wDp (wWk (wFamE2 (V := [21, 22]) (x_ov0_le sf) u_ctS lwFRok sheetE8 (by decide) (by decide) (fun i hi u hu => by
      have hi : i ∈ ([21, 22] : List Nat) := hi
      simp only [List.mem_cons, List.not_mem_nil, or_false] at hi
      rcases hi with rfl | rfl
      · cases hu
        exact wRkE_spec (x_ov0_le sf) u_ctS lwFRok sheetE8R21
      · cases hu
        exact wRkE_spec (x_ov0_le sf) u_ctS lwFRok sheetE8R22)) (Nat.le_refl _) (Nat.le_refl _) (Nat.le_refl _) (by decide +kernel) (by decide +kernel)) (by decide) (by decide)
theorem sheetN9 {xs : Nat → Int32} {n : Nat} {sf : Option Nat} : wGoes x_KT x_tb x_tyl (x_otS xs n sf) lwFR lwGA.length lwGB.length 5 25 43 sheetWA sheetWB 174 272 60 60 sheet_z2 sheeto9 :=
  wDp (wWk (wFamE2 (V := [23]) (x_ov0_le sf) u_ctS lwFRok sheetE9 (by decide) (by decide) (fun i hi u hu => by
      have hi : i ∈ ([23] : List Nat) := hi
      simp only [List.mem_cons, List.not_mem_nil, or_false] at hi
      rcases hi with rfl
      · cases hu
        exact wRkE_spec (x_ov0_le sf) u_ctS lwFRok sheetE9R23)) (Nat.le_refl _) (Nat.le_refl _) (Nat.le_refl _) (by decide +kernel) (by decide +kernel)) (by decide) (by decide)
def sheet_g0_nd : List wE := [sheet_in, sheet_c0, sheet_o0, sheet_c1, sheet_o1, sheet_c2, sheet_o2, sheet_z0, sheet_z1, sheet_z2]
theorem sheet_g0_G {xs : Nat → Int32} {n : Nat} {sf : Option Nat} : ∀ nd ∈ sheet_g0_nd, wGoes x_KT x_tb x_tyl (x_otS xs n sf) lwFR lwGA.length lwGB.length 5 25 43 sheetWA sheetWB 174 272 60 60 nd (sheet_g0_ex.map (fun x => (false, x))) := wGraph (fun nd hnd => by
  have hnd : nd ∈ ([sheet_in, sheet_c0, sheet_o0, sheet_c1, sheet_o1, sheet_c2, sheet_o2, sheet_z0, sheet_z1, sheet_z2] : List wE) := hnd
  simp only [List.mem_cons, List.not_mem_nil, or_false] at hnd
  rcases hnd with rfl | rfl | rfl | rfl | rfl | rfl | rfl | rfl | rfl | rfl
  · refine ⟨sheeto0, sheetN0, fun o ho => ?_⟩
    have ho : o ∈ ([(true, sheet_c0), (true, sheet_o0), (true, sheet_c1), (true, sheet_o1), (true, sheet_c2), (true, sheet_o2), (false, sheet_out)] : List (Bool × wE)) := ho
    simp only [List.mem_cons, List.not_mem_nil, or_false] at ho
    rcases ho with rfl | rfl | rfl | rfl | rfl | rfl | rfl
    · exact Or.inr ⟨rfl, List.mem_cons_of_mem _ (List.mem_cons_self)⟩
    · exact Or.inr ⟨rfl, List.mem_cons_of_mem _ (List.mem_cons_of_mem _ (List.mem_cons_self))⟩
    · exact Or.inr ⟨rfl, List.mem_cons_of_mem _ (List.mem_cons_of_mem _ (List.mem_cons_of_mem _ (List.mem_cons_self)))⟩
    · exact Or.inr ⟨rfl, List.mem_cons_of_mem _ (List.mem_cons_of_mem _ (List.mem_cons_of_mem _ (List.mem_cons_of_mem _ (List.mem_cons_self))))⟩
    · exact Or.inr ⟨rfl, List.mem_cons_of_mem _ (List.mem_cons_of_mem _ (List.mem_cons_of_mem _ (List.mem_cons_of_mem _ (List.mem_cons_of_mem _ (List.mem_cons_self)))))⟩
    · exact Or.inr ⟨rfl, List.mem_cons_of_mem _ (List.mem_cons_of_mem _ (List.mem_cons_of_mem _ (List.mem_cons_of_mem _ (List.mem_cons_of_mem _ (List.mem_cons_of_mem _ (List.mem_cons_self))))))⟩
    · exact Or.inl (List.mem_cons_self)
  · refine ⟨sheeto1, sheetN1, fun o ho => ?_⟩
    have ho : o ∈ ([(false, sheet_out)] : List (Bool × wE)) := ho
    simp only [List.mem_cons, List.not_mem_nil, or_false] at ho
    rcases ho with rfl
    · exact Or.inl (List.mem_cons_self)
  · refine ⟨sheeto2, sheetN2, fun o ho => ?_⟩
    have ho : o ∈ ([(true, sheet_z0)] : List (Bool × wE)) := ho
    simp only [List.mem_cons, List.not_mem_nil, or_false] at ho
    rcases ho with rfl
    · exact Or.inr ⟨rfl, List.mem_cons_of_mem _ (List.mem_cons_of_mem _ (List.mem_cons_of_mem _ (List.mem_cons_of_mem _ (List.mem_cons_of_mem _ (List.mem_cons_of_mem _ (List.mem_cons_of_mem _ (List.mem_cons_self)))))))⟩
  · refine ⟨sheeto4, sheetN4, fun o ho => ?_⟩
    have ho : o ∈ ([(false, sheet_out)] : List (Bool × wE)) := ho
    simp only [List.mem_cons, List.not_mem_nil, or_false] at ho
    rcases ho with rfl
    · exact Or.inl (List.mem_cons_self)
  · refine ⟨sheeto5, sheetN5, fun o ho => ?_⟩
    have ho : o ∈ ([(true, sheet_z1)] : List (Bool × wE)) := ho
    simp only [List.mem_cons, List.not_mem_nil, or_false] at ho
    rcases ho with rfl
    · exact Or.inr ⟨rfl, List.mem_cons_of_mem _ (List.mem_cons_of_mem _ (List.mem_cons_of_mem _ (List.mem_cons_of_mem _ (List.mem_cons_of_mem _ (List.mem_cons_of_mem _ (List.mem_cons_of_mem _ (List.mem_cons_of_mem _ (List.mem_cons_self))))))))⟩
  · refine ⟨sheeto7, sheetN7, fun o ho => ?_⟩
    have ho : o ∈ ([(false, sheet_out)] : List (Bool × wE)) := ho
    simp only [List.mem_cons, List.not_mem_nil, or_false] at ho
    rcases ho with rfl
    · exact Or.inl (List.mem_cons_self)
  · refine ⟨sheeto8, sheetN8, fun o ho => ?_⟩
    have ho : o ∈ ([(true, sheet_z2)] : List (Bool × wE)) := ho
    simp only [List.mem_cons, List.not_mem_nil, or_false] at ho
    rcases ho with rfl
    · exact Or.inr ⟨rfl, List.mem_cons_of_mem _ (List.mem_cons_of_mem _ (List.mem_cons_of_mem _ (List.mem_cons_of_mem _ (List.mem_cons_of_mem _ (List.mem_cons_of_mem _ (List.mem_cons_of_mem _ (List.mem_cons_of_mem _ (List.mem_cons_of_mem _ (List.mem_cons_self)))))))))⟩
  · refine ⟨sheeto3, sheetN3, fun o ho => ?_⟩
    have ho : o ∈ ([(false, sheet_out)] : List (Bool × wE)) := ho
    simp only [List.mem_cons, List.not_mem_nil, or_false] at ho
    rcases ho with rfl
    · exact Or.inl (List.mem_cons_self)
  · refine ⟨sheeto6, sheetN6, fun o ho => ?_⟩
    have ho : o ∈ ([(false, sheet_out)] : List (Bool × wE)) := ho
    simp only [List.mem_cons, List.not_mem_nil, or_false] at ho
    rcases ho with rfl
    · exact Or.inl (List.mem_cons_self)
  · refine ⟨sheeto9, sheetN9, fun o ho => ?_⟩
    have ho : o ∈ ([(false, sheet_out)] : List (Bool × wE)) := ho
    simp only [List.mem_cons, List.not_mem_nil, or_false] at ho
    rcases ho with rfl
    · exact Or.inl (List.mem_cons_self))
theorem sheetH {xs : Nat → Int32} {n : Nat} {sf : Option Nat} : wGoes x_KT x_tb x_tyl (x_otS xs n sf) lwFS lwGA.length lwGB.length 5 25 43 sheetWA sheetWB 174 272 60 60 sheet_in (sheetOX.map (fun x => x.1)) :=
  wFSr (FS := lwFR) (nh := 33) (wFam (V := []) lwFRok (by decide +kernel) (by decide +kernel) (sheet_g0_G sheet_in List.mem_cons_self) (by decide) (by decide) (fun i hi u hu => by
  have hi : i ∈ ([] : List Nat) := hi
  simp only [List.mem_cons, List.not_mem_nil, or_false] at hi)) lwFRp (by decide) (by decide +kernel)
theorem sheetPP {xs : Nat → Int32} {n : Nat} {sf : Option Nat} : bPP x_KT x_tb x_tyl (x_otS xs n sf) lwN lwP 1299 174 272 3 (mMc xm174 + mMc xm272) (mRc xm174) (mRc xm272) True :=
  wBlk lwFok lwFB uKa uKb (by decide +kernel) (by decide +kernel) uKdj uKj sheetbc sheetH gq174 gq272 (by decide) (by decide) (uKeep (by decide +kernel)) (by decide +kernel) (by decide +kernel) (by decide +kernel)
set_option maxRecDepth 1000000 in
theorem gq176 : tMth x_tb 176 = some xm176 := rfl
set_option maxRecDepth 1000000 in
theorem gq273 : tMth x_tb 273 = some xm273 := rfl
theorem cellN0 {xs : Nat → Int32} {n : Nat} {sf : Option Nat} : wGoes x_KT x_tb x_tyl (x_otS xs n sf) lwFR lwGA.length lwGB.length 5 25 43 cellWA cellWB 176 273 60 60 cell_in cello0 :=
  wDp (wWk (wEd_spec (x_ov0_le sf) u_ctS lwFRok cellE0) (Nat.le_refl _) (Nat.le_refl _) (Nat.le_refl _) (by decide +kernel) (by decide +kernel)) (by decide) (by decide)
theorem cellN1 {xs : Nat → Int32} {n : Nat} {sf : Option Nat} : wGoes x_KT x_tb x_tyl (x_otS xs n sf) lwFR lwGA.length lwGB.length 5 25 43 cellWA cellWB 176 273 60 60 cell_s0 cello1 :=
  wDp (wWk (wEd_spec (x_ov0_le sf) u_ctS lwFRok cellE1) (Nat.le_refl _) (Nat.le_refl _) (Nat.le_refl _) (by decide +kernel) (by decide +kernel)) (by decide) (by decide)
theorem cellN2 {xs : Nat → Int32} {n : Nat} {sf : Option Nat} : wGoes x_KT x_tb x_tyl (x_otS xs n sf) lwFR lwGA.length lwGB.length 5 25 43 cellWA cellWB 176 273 60 60 cell_s1 cello2 :=
  wDp (wWk (wEd_spec (x_ov0_le sf) u_ctS lwFRok cellE2) (Nat.le_refl _) (Nat.le_refl _) (Nat.le_refl _) (by decide +kernel) (by decide +kernel)) (by decide) (by decide)
theorem cellN3 {xs : Nat → Int32} {n : Nat} {sf : Option Nat} : wGoes x_KT x_tb x_tyl (x_otS xs n sf) lwFR lwGA.length lwGB.length 5 25 43 cellWA cellWB 176 273 60 60 cell_s2 cello3 :=
  wDp (wWk (wEd_spec (x_ov0_le sf) u_ctS lwFRok cellE3) (Nat.le_refl _) (Nat.le_refl _) (Nat.le_refl _) (by decide +kernel) (by decide +kernel)) (by decide) (by decide)
theorem cellN4 {xs : Nat → Int32} {n : Nat} {sf : Option Nat} : wGoes x_KT x_tb x_tyl (x_otS xs n sf) lwFR lwGA.length lwGB.length 5 25 43 cellWA cellWB 176 273 60 60 cell_m0 cello4 :=
  wDp (wWk (wFamE2 (V := [21, 22, 23]) (x_ov0_le sf) u_ctS lwFRok cellE4 (by decide) (by decide) (fun i hi u hu => by
      have hi : i ∈ ([21, 22, 23] : List Nat) := hi
      simp only [List.mem_cons, List.not_mem_nil, or_false] at hi
      rcases hi with rfl | rfl | rfl
      · cases hu
        exact wRkE_spec (x_ov0_le sf) u_ctS lwFRok cellE4R21
      · cases hu
        exact wRkE_spec (x_ov0_le sf) u_ctS lwFRok cellE4R22
      · cases hu
        exact wRkE_spec (x_ov0_le sf) u_ctS lwFRok cellE4R23)) (Nat.le_refl _) (Nat.le_refl _) (Nat.le_refl _) (by decide +kernel) (by decide +kernel)) (by decide) (by decide)
theorem cellN5 {xs : Nat → Int32} {n : Nat} {sf : Option Nat} : wGoes x_KT x_tb x_tyl (x_otS xs n sf) lwFR lwGA.length lwGB.length 5 25 43 cellWA cellWB 176 273 60 60 cell_m1 cello5 :=
  wDp (wWk (wFamE2 (V := [21, 22, 23]) (x_ov0_le sf) u_ctS lwFRok cellE5 (by decide) (by decide) (fun i hi u hu => by
      have hi : i ∈ ([21, 22, 23] : List Nat) := hi
      simp only [List.mem_cons, List.not_mem_nil, or_false] at hi
      rcases hi with rfl | rfl | rfl
      · cases hu
        exact wRkE_spec (x_ov0_le sf) u_ctS lwFRok cellE5R21
      · cases hu
        exact wRkE_spec (x_ov0_le sf) u_ctS lwFRok cellE5R22
      · cases hu
        exact wRkE_spec (x_ov0_le sf) u_ctS lwFRok cellE5R23)) (Nat.le_refl _) (Nat.le_refl _) (Nat.le_refl _) (by decide +kernel) (by decide +kernel)) (by decide) (by decide)
theorem cellN6 {xs : Nat → Int32} {n : Nat} {sf : Option Nat} : wGoes x_KT x_tb x_tyl (x_otS xs n sf) lwFR lwGA.length lwGB.length 5 25 43 cellWA cellWB 176 273 60 60 cell_m2 cello6 :=
  wDp (wWk (wFamE2 (V := [21, 22, 23]) (x_ov0_le sf) u_ctS lwFRok cellE6 (by decide) (by decide) (fun i hi u hu => by
      have hi : i ∈ ([21, 22, 23] : List Nat) := hi
      simp only [List.mem_cons, List.not_mem_nil, or_false] at hi
      rcases hi with rfl | rfl | rfl
      · cases hu
        exact wRkE_spec (x_ov0_le sf) u_ctS lwFRok cellE6R21
      · cases hu
        exact wRkE_spec (x_ov0_le sf) u_ctS lwFRok cellE6R22
      · cases hu
        exact wRkE_spec (x_ov0_le sf) u_ctS lwFRok cellE6R23)) (Nat.le_refl _) (Nat.le_refl _) (Nat.le_refl _) (by decide +kernel) (by decide +kernel)) (by decide) (by decide)
def cell_g0_nd : List wE := [cell_in, cell_s0, cell_s1, cell_s2, cell_m0, cell_m1, cell_m2]
theorem cell_g0_G {xs : Nat → Int32} {n : Nat} {sf : Option Nat} : ∀ nd ∈ cell_g0_nd, wGoes x_KT x_tb x_tyl (x_otS xs n sf) lwFR lwGA.length lwGB.length 5 25 43 cellWA cellWB 176 273 60 60 nd (cell_g0_ex.map (fun x => (false, x))) := wGraph (fun nd hnd => by
  have hnd : nd ∈ ([cell_in, cell_s0, cell_s1, cell_s2, cell_m0, cell_m1, cell_m2] : List wE) := hnd
  simp only [List.mem_cons, List.not_mem_nil, or_false] at hnd
  rcases hnd with rfl | rfl | rfl | rfl | rfl | rfl | rfl
  · refine ⟨cello0, cellN0, fun o ho => ?_⟩
    have ho : o ∈ ([(true, cell_s0), (true, cell_s1), (true, cell_s2), (false, cell_out)] : List (Bool × wE)) := ho
    simp only [List.mem_cons, List.not_mem_nil, or_false] at ho
    rcases ho with rfl | rfl | rfl | rfl
    · exact Or.inr ⟨rfl, List.mem_cons_of_mem _ (List.mem_cons_self)⟩
    · exact Or.inr ⟨rfl, List.mem_cons_of_mem _ (List.mem_cons_of_mem _ (List.mem_cons_self))⟩
    · exact Or.inr ⟨rfl, List.mem_cons_of_mem _ (List.mem_cons_of_mem _ (List.mem_cons_of_mem _ (List.mem_cons_self)))⟩
    · exact Or.inl (List.mem_cons_self)
  · refine ⟨cello1, cellN1, fun o ho => ?_⟩
    have ho : o ∈ ([(true, cell_m0), (false, cell_out)] : List (Bool × wE)) := ho
    simp only [List.mem_cons, List.not_mem_nil, or_false] at ho
    rcases ho with rfl | rfl
    · exact Or.inr ⟨rfl, List.mem_cons_of_mem _ (List.mem_cons_of_mem _ (List.mem_cons_of_mem _ (List.mem_cons_of_mem _ (List.mem_cons_self))))⟩
    · exact Or.inl (List.mem_cons_self)
  · refine ⟨cello2, cellN2, fun o ho => ?_⟩
    have ho : o ∈ ([(true, cell_m1), (false, cell_out)] : List (Bool × wE)) := ho
    simp only [List.mem_cons, List.not_mem_nil, or_false] at ho
    rcases ho with rfl | rfl
    · exact Or.inr ⟨rfl, List.mem_cons_of_mem _ (List.mem_cons_of_mem _ (List.mem_cons_of_mem _ (List.mem_cons_of_mem _ (List.mem_cons_of_mem _ (List.mem_cons_self)))))⟩
    · exact Or.inl (List.mem_cons_self)
  · refine ⟨cello3, cellN3, fun o ho => ?_⟩
    have ho : o ∈ ([(true, cell_m2), (false, cell_out)] : List (Bool × wE)) := ho
    simp only [List.mem_cons, List.not_mem_nil, or_false] at ho
    rcases ho with rfl | rfl
    · exact Or.inr ⟨rfl, List.mem_cons_of_mem _ (List.mem_cons_of_mem _ (List.mem_cons_of_mem _ (List.mem_cons_of_mem _ (List.mem_cons_of_mem _ (List.mem_cons_of_mem _ (List.mem_cons_self))))))⟩
    · exact Or.inl (List.mem_cons_self)
  · refine ⟨cello4, cellN4, fun o ho => ?_⟩
    have ho : o ∈ ([(false, cell_out)] : List (Bool × wE)) := ho
    simp only [List.mem_cons, List.not_mem_nil, or_false] at ho
    rcases ho with rfl
    · exact Or.inl (List.mem_cons_self)
  · refine ⟨cello5, cellN5, fun o ho => ?_⟩
    have ho : o ∈ ([(false, cell_out)] : List (Bool × wE)) := ho
    simp only [List.mem_cons, List.not_mem_nil, or_false] at ho
    rcases ho with rfl
    · exact Or.inl (List.mem_cons_self)
  · refine ⟨cello6, cellN6, fun o ho => ?_⟩
    have ho : o ∈ ([(false, cell_out)] : List (Bool × wE)) := ho
    simp only [List.mem_cons, List.not_mem_nil, or_false] at ho
    rcases ho with rfl
    · exact Or.inl (List.mem_cons_self))
theorem cellH {xs : Nat → Int32} {n : Nat} {sf : Option Nat} : wGoes x_KT x_tb x_tyl (x_otS xs n sf) lwFS lwGA.length lwGB.length 5 25 43 cellWA cellWB 176 273 60 60 cell_in (cellOX.map (fun x => x.1)) :=
  wFSr (FS := lwFR) (nh := 33) (wFam (V := []) lwFRok (by decide +kernel) (by decide +kernel) (cell_g0_G cell_in List.mem_cons_self) (by decide) (by decide) (fun i hi u hu => by
  have hi : i ∈ ([] : List Nat) := hi
  simp only [List.mem_cons, List.not_mem_nil, or_false] at hi)) lwFRp (by decide) (by decide +kernel)
theorem cellPP {xs : Nat → Int32} {n : Nat} {sf : Option Nat} : bPP x_KT x_tb x_tyl (x_otS xs n sf) lwN lwP 1299 176 273 3 (mMc xm176 + mMc xm273) (mRc xm176) (mRc xm273) True :=
  wBlk lwFok lwFB uKa uKb (by decide +kernel) (by decide +kernel) uKdj uKj cellbc cellH gq176 gq273 (by decide) (by decide) (uKeep (by decide +kernel)) (by decide +kernel) (by decide +kernel) (by decide +kernel)
set_option maxRecDepth 1000000 in
theorem gq178 : tMth x_tb 178 = some xm178 := rfl
set_option maxRecDepth 1000000 in
theorem gq274 : tMth x_tb 274 = some xm274 := rfl
theorem copyN0 {xs : Nat → Int32} {n : Nat} {sf : Option Nat} : wGoes x_KT x_tb x_tyl (x_otS xs n sf) lwFR lwGA.length lwGB.length 5 25 43 copyWA copyWB 178 274 60 60 copy_in copyo0 :=
  wDp (wWk (wEd_spec (x_ov0_le sf) u_ctS lwFRok copyE0) (Nat.le_refl _) (Nat.le_refl _) (Nat.le_refl _) (by decide +kernel) (by decide +kernel)) (by decide) (by decide)
theorem copyN1 {xs : Nat → Int32} {n : Nat} {sf : Option Nat} : wGoes x_KT x_tb x_tyl (x_otS xs n sf) lwFR lwGA.length lwGB.length 5 25 43 copyWA copyWB 178 274 60 60 copy_s00 copyo1 :=
  wDp (wWk (wEd_spec (x_ov0_le sf) u_ctS lwFRok copyE1) (Nat.le_refl _) (Nat.le_refl _) (Nat.le_refl _) (by decide +kernel) (by decide +kernel)) (by decide) (by decide)
theorem copyN2 {xs : Nat → Int32} {n : Nat} {sf : Option Nat} : wGoes x_KT x_tb x_tyl (x_otS xs n sf) lwFR lwGA.length lwGB.length 5 25 43 copyWA copyWB 178 274 60 60 copy_s01 copyo2 :=
  wDp (wWk (wEd_spec (x_ov0_le sf) u_ctS lwFRok copyE2) (Nat.le_refl _) (Nat.le_refl _) (Nat.le_refl _) (by decide +kernel) (by decide +kernel)) (by decide) (by decide)
theorem copyN3 {xs : Nat → Int32} {n : Nat} {sf : Option Nat} : wGoes x_KT x_tb x_tyl (x_otS xs n sf) lwFR lwGA.length lwGB.length 5 25 43 copyWA copyWB 178 274 60 60 copy_s02 copyo3 :=
  wDp (wWk (wEd_spec (x_ov0_le sf) u_ctS lwFRok copyE3) (Nat.le_refl _) (Nat.le_refl _) (Nat.le_refl _) (by decide +kernel) (by decide +kernel)) (by decide) (by decide)
theorem copyN4 {xs : Nat → Int32} {n : Nat} {sf : Option Nat} : wGoes x_KT x_tb x_tyl (x_otS xs n sf) lwFR lwGA.length lwGB.length 5 25 43 copyWA copyWB 178 274 60 60 copy_s10 copyo4 :=
  wDp (wWk (wEd_spec (x_ov0_le sf) u_ctS lwFRok copyE4) (Nat.le_refl _) (Nat.le_refl _) (Nat.le_refl _) (by decide +kernel) (by decide +kernel)) (by decide) (by decide)
theorem copyN5 {xs : Nat → Int32} {n : Nat} {sf : Option Nat} : wGoes x_KT x_tb x_tyl (x_otS xs n sf) lwFR lwGA.length lwGB.length 5 25 43 copyWA copyWB 178 274 60 60 copy_s11 copyo5 :=
  wDp (wWk (wEd_spec (x_ov0_le sf) u_ctS lwFRok copyE5) (Nat.le_refl _) (Nat.le_refl _) (Nat.le_refl _) (by decide +kernel) (by decide +kernel)) (by decide) (by decide)
theorem copyN6 {xs : Nat → Int32} {n : Nat} {sf : Option Nat} : wGoes x_KT x_tb x_tyl (x_otS xs n sf) lwFR lwGA.length lwGB.length 5 25 43 copyWA copyWB 178 274 60 60 copy_s12 copyo6 :=
  wDp (wWk (wEd_spec (x_ov0_le sf) u_ctS lwFRok copyE6) (Nat.le_refl _) (Nat.le_refl _) (Nat.le_refl _) (by decide +kernel) (by decide +kernel)) (by decide) (by decide)
theorem copyN7 {xs : Nat → Int32} {n : Nat} {sf : Option Nat} : wGoes x_KT x_tb x_tyl (x_otS xs n sf) lwFR lwGA.length lwGB.length 5 25 43 copyWA copyWB 178 274 60 60 copy_s20 copyo7 :=
  wDp (wWk (wEd_spec (x_ov0_le sf) u_ctS lwFRok copyE7) (Nat.le_refl _) (Nat.le_refl _) (Nat.le_refl _) (by decide +kernel) (by decide +kernel)) (by decide) (by decide)
theorem copyN8 {xs : Nat → Int32} {n : Nat} {sf : Option Nat} : wGoes x_KT x_tb x_tyl (x_otS xs n sf) lwFR lwGA.length lwGB.length 5 25 43 copyWA copyWB 178 274 60 60 copy_s21 copyo8 :=
  wDp (wWk (wEd_spec (x_ov0_le sf) u_ctS lwFRok copyE8) (Nat.le_refl _) (Nat.le_refl _) (Nat.le_refl _) (by decide +kernel) (by decide +kernel)) (by decide) (by decide)
theorem copyN9 {xs : Nat → Int32} {n : Nat} {sf : Option Nat} : wGoes x_KT x_tb x_tyl (x_otS xs n sf) lwFR lwGA.length lwGB.length 5 25 43 copyWA copyWB 178 274 60 60 copy_s22 copyo9 :=
  wDp (wWk (wEd_spec (x_ov0_le sf) u_ctS lwFRok copyE9) (Nat.le_refl _) (Nat.le_refl _) (Nat.le_refl _) (by decide +kernel) (by decide +kernel)) (by decide) (by decide)
theorem copyN10 {xs : Nat → Int32} {n : Nat} {sf : Option Nat} : wGoes x_KT x_tb x_tyl (x_otS xs n sf) lwFR lwGA.length lwGB.length 5 25 43 copyWA copyWB 178 274 60 60 copy_m00 copyo10 :=
  wDp (wWk (wFamE2 (V := [21, 22, 23]) (x_ov0_le sf) u_ctS lwFRok copyE10 (by decide) (by decide) (fun i hi u hu => by
      have hi : i ∈ ([21, 22, 23] : List Nat) := hi
      simp only [List.mem_cons, List.not_mem_nil, or_false] at hi
      rcases hi with rfl | rfl | rfl
      · cases hu
        exact wRkE_spec (x_ov0_le sf) u_ctS lwFRok copyE10R21
      · cases hu
        exact wRkE_spec (x_ov0_le sf) u_ctS lwFRok copyE10R22
      · cases hu
        exact wRkE_spec (x_ov0_le sf) u_ctS lwFRok copyE10R23)) (Nat.le_refl _) (Nat.le_refl _) (Nat.le_refl _) (by decide +kernel) (by decide +kernel)) (by decide) (by decide)
theorem copyN11 {xs : Nat → Int32} {n : Nat} {sf : Option Nat} : wGoes x_KT x_tb x_tyl (x_otS xs n sf) lwFR lwGA.length lwGB.length 5 25 43 copyWA copyWB 178 274 60 60 copy_m01 copyo11 :=
  wDp (wWk (wFamE2 (V := [21, 22, 23]) (x_ov0_le sf) u_ctS lwFRok copyE11 (by decide) (by decide) (fun i hi u hu => by
      have hi : i ∈ ([21, 22, 23] : List Nat) := hi
      simp only [List.mem_cons, List.not_mem_nil, or_false] at hi
      rcases hi with rfl | rfl | rfl
      · cases hu
        exact wRkE_spec (x_ov0_le sf) u_ctS lwFRok copyE11R21
      · cases hu
        exact wRkE_spec (x_ov0_le sf) u_ctS lwFRok copyE11R22
      · cases hu
        exact wRkE_spec (x_ov0_le sf) u_ctS lwFRok copyE11R23)) (Nat.le_refl _) (Nat.le_refl _) (Nat.le_refl _) (by decide +kernel) (by decide +kernel)) (by decide) (by decide)
theorem copyN12 {xs : Nat → Int32} {n : Nat} {sf : Option Nat} : wGoes x_KT x_tb x_tyl (x_otS xs n sf) lwFR lwGA.length lwGB.length 5 25 43 copyWA copyWB 178 274 60 60 copy_m02 copyo12 :=
  wDp (wWk (wFamE2 (V := [21, 22, 23]) (x_ov0_le sf) u_ctS lwFRok copyE12 (by decide) (by decide) (fun i hi u hu => by
      have hi : i ∈ ([21, 22, 23] : List Nat) := hi
      simp only [List.mem_cons, List.not_mem_nil, or_false] at hi
      rcases hi with rfl | rfl | rfl
      · cases hu
        exact wRkE_spec (x_ov0_le sf) u_ctS lwFRok copyE12R21
      · cases hu
        exact wRkE_spec (x_ov0_le sf) u_ctS lwFRok copyE12R22
      · cases hu
        exact wRkE_spec (x_ov0_le sf) u_ctS lwFRok copyE12R23)) (Nat.le_refl _) (Nat.le_refl _) (Nat.le_refl _) (by decide +kernel) (by decide +kernel)) (by decide) (by decide)
theorem copyN13 {xs : Nat → Int32} {n : Nat} {sf : Option Nat} : wGoes x_KT x_tb x_tyl (x_otS xs n sf) lwFR lwGA.length lwGB.length 5 25 43 copyWA copyWB 178 274 60 60 copy_m10 copyo13 :=
  wDp (wWk (wFamE2 (V := [21, 22, 23]) (x_ov0_le sf) u_ctS lwFRok copyE13 (by decide) (by decide) (fun i hi u hu => by
      have hi : i ∈ ([21, 22, 23] : List Nat) := hi
      simp only [List.mem_cons, List.not_mem_nil, or_false] at hi
      rcases hi with rfl | rfl | rfl
      · cases hu
        exact wRkE_spec (x_ov0_le sf) u_ctS lwFRok copyE13R21
      · cases hu
        exact wRkE_spec (x_ov0_le sf) u_ctS lwFRok copyE13R22
      · cases hu
        exact wRkE_spec (x_ov0_le sf) u_ctS lwFRok copyE13R23)) (Nat.le_refl _) (Nat.le_refl _) (Nat.le_refl _) (by decide +kernel) (by decide +kernel)) (by decide) (by decide)
theorem copyN14 {xs : Nat → Int32} {n : Nat} {sf : Option Nat} : wGoes x_KT x_tb x_tyl (x_otS xs n sf) lwFR lwGA.length lwGB.length 5 25 43 copyWA copyWB 178 274 60 60 copy_m11 copyo14 :=
  wDp (wWk (wFamE2 (V := [21, 22, 23]) (x_ov0_le sf) u_ctS lwFRok copyE14 (by decide) (by decide) (fun i hi u hu => by
      have hi : i ∈ ([21, 22, 23] : List Nat) := hi
      simp only [List.mem_cons, List.not_mem_nil, or_false] at hi
      rcases hi with rfl | rfl | rfl
      · cases hu
        exact wRkE_spec (x_ov0_le sf) u_ctS lwFRok copyE14R21
      · cases hu
        exact wRkE_spec (x_ov0_le sf) u_ctS lwFRok copyE14R22
      · cases hu
        exact wRkE_spec (x_ov0_le sf) u_ctS lwFRok copyE14R23)) (Nat.le_refl _) (Nat.le_refl _) (Nat.le_refl _) (by decide +kernel) (by decide +kernel)) (by decide) (by decide)
theorem copyN15 {xs : Nat → Int32} {n : Nat} {sf : Option Nat} : wGoes x_KT x_tb x_tyl (x_otS xs n sf) lwFR lwGA.length lwGB.length 5 25 43 copyWA copyWB 178 274 60 60 copy_m12 copyo15 :=
  wDp (wWk (wFamE2 (V := [21, 22, 23]) (x_ov0_le sf) u_ctS lwFRok copyE15 (by decide) (by decide) (fun i hi u hu => by
      have hi : i ∈ ([21, 22, 23] : List Nat) := hi
      simp only [List.mem_cons, List.not_mem_nil, or_false] at hi
      rcases hi with rfl | rfl | rfl
      · cases hu
        exact wRkE_spec (x_ov0_le sf) u_ctS lwFRok copyE15R21
      · cases hu
        exact wRkE_spec (x_ov0_le sf) u_ctS lwFRok copyE15R22
      · cases hu
        exact wRkE_spec (x_ov0_le sf) u_ctS lwFRok copyE15R23)) (Nat.le_refl _) (Nat.le_refl _) (Nat.le_refl _) (by decide +kernel) (by decide +kernel)) (by decide) (by decide)
theorem copyN16 {xs : Nat → Int32} {n : Nat} {sf : Option Nat} : wGoes x_KT x_tb x_tyl (x_otS xs n sf) lwFR lwGA.length lwGB.length 5 25 43 copyWA copyWB 178 274 60 60 copy_m20 copyo16 :=
  wDp (wWk (wFamE2 (V := [21, 22, 23]) (x_ov0_le sf) u_ctS lwFRok copyE16 (by decide) (by decide) (fun i hi u hu => by
      have hi : i ∈ ([21, 22, 23] : List Nat) := hi
      simp only [List.mem_cons, List.not_mem_nil, or_false] at hi
      rcases hi with rfl | rfl | rfl
      · cases hu
        exact wRkE_spec (x_ov0_le sf) u_ctS lwFRok copyE16R21
      · cases hu
        exact wRkE_spec (x_ov0_le sf) u_ctS lwFRok copyE16R22
      · cases hu
        exact wRkE_spec (x_ov0_le sf) u_ctS lwFRok copyE16R23)) (Nat.le_refl _) (Nat.le_refl _) (Nat.le_refl _) (by decide +kernel) (by decide +kernel)) (by decide) (by decide)
theorem copyN17 {xs : Nat → Int32} {n : Nat} {sf : Option Nat} : wGoes x_KT x_tb x_tyl (x_otS xs n sf) lwFR lwGA.length lwGB.length 5 25 43 copyWA copyWB 178 274 60 60 copy_m21 copyo17 :=
  wDp (wWk (wFamE2 (V := [21, 22, 23]) (x_ov0_le sf) u_ctS lwFRok copyE17 (by decide) (by decide) (fun i hi u hu => by
      have hi : i ∈ ([21, 22, 23] : List Nat) := hi
      simp only [List.mem_cons, List.not_mem_nil, or_false] at hi
      rcases hi with rfl | rfl | rfl
      · cases hu
        exact wRkE_spec (x_ov0_le sf) u_ctS lwFRok copyE17R21
      · cases hu
        exact wRkE_spec (x_ov0_le sf) u_ctS lwFRok copyE17R22
      · cases hu
        exact wRkE_spec (x_ov0_le sf) u_ctS lwFRok copyE17R23)) (Nat.le_refl _) (Nat.le_refl _) (Nat.le_refl _) (by decide +kernel) (by decide +kernel)) (by decide) (by decide)
theorem copyN18 {xs : Nat → Int32} {n : Nat} {sf : Option Nat} : wGoes x_KT x_tb x_tyl (x_otS xs n sf) lwFR lwGA.length lwGB.length 5 25 43 copyWA copyWB 178 274 60 60 copy_m22 copyo18 :=
  wDp (wWk (wFamE2 (V := [21, 22, 23]) (x_ov0_le sf) u_ctS lwFRok copyE18 (by decide) (by decide) (fun i hi u hu => by
      have hi : i ∈ ([21, 22, 23] : List Nat) := hi
      simp only [List.mem_cons, List.not_mem_nil, or_false] at hi
      rcases hi with rfl | rfl | rfl
      · cases hu
        exact wRkE_spec (x_ov0_le sf) u_ctS lwFRok copyE18R21
      · cases hu
        exact wRkE_spec (x_ov0_le sf) u_ctS lwFRok copyE18R22
      · cases hu
        exact wRkE_spec (x_ov0_le sf) u_ctS lwFRok copyE18R23)) (Nat.le_refl _) (Nat.le_refl _) (Nat.le_refl _) (by decide +kernel) (by decide +kernel)) (by decide) (by decide)
def copy_g0_nd : List wE := [copy_in, copy_s00, copy_s01, copy_s02, copy_s10, copy_s11, copy_s12, copy_s20, copy_s21, copy_s22, copy_m00, copy_m01, copy_m02, copy_m10, copy_m11, copy_m12, copy_m20, copy_m21, copy_m22]
theorem copy_g0_G {xs : Nat → Int32} {n : Nat} {sf : Option Nat} : ∀ nd ∈ copy_g0_nd, wGoes x_KT x_tb x_tyl (x_otS xs n sf) lwFR lwGA.length lwGB.length 5 25 43 copyWA copyWB 178 274 60 60 nd (copy_g0_ex.map (fun x => (false, x))) := wGraph (fun nd hnd => by
  have hnd : nd ∈ ([copy_in, copy_s00, copy_s01, copy_s02, copy_s10, copy_s11, copy_s12, copy_s20, copy_s21, copy_s22, copy_m00, copy_m01, copy_m02, copy_m10, copy_m11, copy_m12, copy_m20, copy_m21, copy_m22] : List wE) := hnd
  simp only [List.mem_cons, List.not_mem_nil, or_false] at hnd
  rcases hnd with rfl | rfl | rfl | rfl | rfl | rfl | rfl | rfl | rfl | rfl | rfl | rfl | rfl | rfl | rfl | rfl | rfl | rfl | rfl
  · refine ⟨copyo0, copyN0, fun o ho => ?_⟩
    have ho : o ∈ ([(true, copy_s00), (true, copy_s01), (true, copy_s02), (true, copy_s10), (true, copy_s11), (true, copy_s12), (true, copy_s20), (true, copy_s21), (true, copy_s22), (false, copy_out)] : List (Bool × wE)) := ho
    simp only [List.mem_cons, List.not_mem_nil, or_false] at ho
    rcases ho with rfl | rfl | rfl | rfl | rfl | rfl | rfl | rfl | rfl | rfl
    · exact Or.inr ⟨rfl, List.mem_cons_of_mem _ (List.mem_cons_self)⟩
    · exact Or.inr ⟨rfl, List.mem_cons_of_mem _ (List.mem_cons_of_mem _ (List.mem_cons_self))⟩
    · exact Or.inr ⟨rfl, List.mem_cons_of_mem _ (List.mem_cons_of_mem _ (List.mem_cons_of_mem _ (List.mem_cons_self)))⟩
    · exact Or.inr ⟨rfl, List.mem_cons_of_mem _ (List.mem_cons_of_mem _ (List.mem_cons_of_mem _ (List.mem_cons_of_mem _ (List.mem_cons_self))))⟩
    · exact Or.inr ⟨rfl, List.mem_cons_of_mem _ (List.mem_cons_of_mem _ (List.mem_cons_of_mem _ (List.mem_cons_of_mem _ (List.mem_cons_of_mem _ (List.mem_cons_self)))))⟩
    · exact Or.inr ⟨rfl, List.mem_cons_of_mem _ (List.mem_cons_of_mem _ (List.mem_cons_of_mem _ (List.mem_cons_of_mem _ (List.mem_cons_of_mem _ (List.mem_cons_of_mem _ (List.mem_cons_self))))))⟩
    · exact Or.inr ⟨rfl, List.mem_cons_of_mem _ (List.mem_cons_of_mem _ (List.mem_cons_of_mem _ (List.mem_cons_of_mem _ (List.mem_cons_of_mem _ (List.mem_cons_of_mem _ (List.mem_cons_of_mem _ (List.mem_cons_self)))))))⟩
    · exact Or.inr ⟨rfl, List.mem_cons_of_mem _ (List.mem_cons_of_mem _ (List.mem_cons_of_mem _ (List.mem_cons_of_mem _ (List.mem_cons_of_mem _ (List.mem_cons_of_mem _ (List.mem_cons_of_mem _ (List.mem_cons_of_mem _ (List.mem_cons_self))))))))⟩
    · exact Or.inr ⟨rfl, List.mem_cons_of_mem _ (List.mem_cons_of_mem _ (List.mem_cons_of_mem _ (List.mem_cons_of_mem _ (List.mem_cons_of_mem _ (List.mem_cons_of_mem _ (List.mem_cons_of_mem _ (List.mem_cons_of_mem _ (List.mem_cons_of_mem _ (List.mem_cons_self)))))))))⟩
    · exact Or.inl (List.mem_cons_self)
  · refine ⟨copyo1, copyN1, fun o ho => ?_⟩
    have ho : o ∈ ([(true, copy_m00), (false, copy_out)] : List (Bool × wE)) := ho
    simp only [List.mem_cons, List.not_mem_nil, or_false] at ho
    rcases ho with rfl | rfl
    · exact Or.inr ⟨rfl, List.mem_cons_of_mem _ (List.mem_cons_of_mem _ (List.mem_cons_of_mem _ (List.mem_cons_of_mem _ (List.mem_cons_of_mem _ (List.mem_cons_of_mem _ (List.mem_cons_of_mem _ (List.mem_cons_of_mem _ (List.mem_cons_of_mem _ (List.mem_cons_of_mem _ (List.mem_cons_self))))))))))⟩
    · exact Or.inl (List.mem_cons_self)
  · refine ⟨copyo2, copyN2, fun o ho => ?_⟩
    have ho : o ∈ ([(true, copy_m01), (false, copy_out)] : List (Bool × wE)) := ho
    simp only [List.mem_cons, List.not_mem_nil, or_false] at ho
    rcases ho with rfl | rfl
    · exact Or.inr ⟨rfl, List.mem_cons_of_mem _ (List.mem_cons_of_mem _ (List.mem_cons_of_mem _ (List.mem_cons_of_mem _ (List.mem_cons_of_mem _ (List.mem_cons_of_mem _ (List.mem_cons_of_mem _ (List.mem_cons_of_mem _ (List.mem_cons_of_mem _ (List.mem_cons_of_mem _ (List.mem_cons_of_mem _ (List.mem_cons_self)))))))))))⟩
    · exact Or.inl (List.mem_cons_self)
  · refine ⟨copyo3, copyN3, fun o ho => ?_⟩
    have ho : o ∈ ([(true, copy_m02), (false, copy_out)] : List (Bool × wE)) := ho
    simp only [List.mem_cons, List.not_mem_nil, or_false] at ho
    rcases ho with rfl | rfl
    · exact Or.inr ⟨rfl, List.mem_cons_of_mem _ (List.mem_cons_of_mem _ (List.mem_cons_of_mem _ (List.mem_cons_of_mem _ (List.mem_cons_of_mem _ (List.mem_cons_of_mem _ (List.mem_cons_of_mem _ (List.mem_cons_of_mem _ (List.mem_cons_of_mem _ (List.mem_cons_of_mem _ (List.mem_cons_of_mem _ (List.mem_cons_of_mem _ (List.mem_cons_self))))))))))))⟩
    · exact Or.inl (List.mem_cons_self)
  · refine ⟨copyo4, copyN4, fun o ho => ?_⟩
    have ho : o ∈ ([(true, copy_m10), (false, copy_out)] : List (Bool × wE)) := ho
    simp only [List.mem_cons, List.not_mem_nil, or_false] at ho
    rcases ho with rfl | rfl
    · exact Or.inr ⟨rfl, List.mem_cons_of_mem _ (List.mem_cons_of_mem _ (List.mem_cons_of_mem _ (List.mem_cons_of_mem _ (List.mem_cons_of_mem _ (List.mem_cons_of_mem _ (List.mem_cons_of_mem _ (List.mem_cons_of_mem _ (List.mem_cons_of_mem _ (List.mem_cons_of_mem _ (List.mem_cons_of_mem _ (List.mem_cons_of_mem _ (List.mem_cons_of_mem _ (List.mem_cons_self)))))))))))))⟩
    · exact Or.inl (List.mem_cons_self)
  · refine ⟨copyo5, copyN5, fun o ho => ?_⟩
    have ho : o ∈ ([(true, copy_m11), (false, copy_out)] : List (Bool × wE)) := ho
    simp only [List.mem_cons, List.not_mem_nil, or_false] at ho
    rcases ho with rfl | rfl
    · exact Or.inr ⟨rfl, List.mem_cons_of_mem _ (List.mem_cons_of_mem _ (List.mem_cons_of_mem _ (List.mem_cons_of_mem _ (List.mem_cons_of_mem _ (List.mem_cons_of_mem _ (List.mem_cons_of_mem _ (List.mem_cons_of_mem _ (List.mem_cons_of_mem _ (List.mem_cons_of_mem _ (List.mem_cons_of_mem _ (List.mem_cons_of_mem _ (List.mem_cons_of_mem _ (List.mem_cons_of_mem _ (List.mem_cons_self))))))))))))))⟩
    · exact Or.inl (List.mem_cons_self)
  · refine ⟨copyo6, copyN6, fun o ho => ?_⟩
    have ho : o ∈ ([(true, copy_m12), (false, copy_out)] : List (Bool × wE)) := ho
    simp only [List.mem_cons, List.not_mem_nil, or_false] at ho
    rcases ho with rfl | rfl
    · exact Or.inr ⟨rfl, List.mem_cons_of_mem _ (List.mem_cons_of_mem _ (List.mem_cons_of_mem _ (List.mem_cons_of_mem _ (List.mem_cons_of_mem _ (List.mem_cons_of_mem _ (List.mem_cons_of_mem _ (List.mem_cons_of_mem _ (List.mem_cons_of_mem _ (List.mem_cons_of_mem _ (List.mem_cons_of_mem _ (List.mem_cons_of_mem _ (List.mem_cons_of_mem _ (List.mem_cons_of_mem _ (List.mem_cons_of_mem _ (List.mem_cons_self)))))))))))))))⟩
    · exact Or.inl (List.mem_cons_self)
  · refine ⟨copyo7, copyN7, fun o ho => ?_⟩
    have ho : o ∈ ([(true, copy_m20), (false, copy_out)] : List (Bool × wE)) := ho
    simp only [List.mem_cons, List.not_mem_nil, or_false] at ho
    rcases ho with rfl | rfl
    · exact Or.inr ⟨rfl, List.mem_cons_of_mem _ (List.mem_cons_of_mem _ (List.mem_cons_of_mem _ (List.mem_cons_of_mem _ (List.mem_cons_of_mem _ (List.mem_cons_of_mem _ (List.mem_cons_of_mem _ (List.mem_cons_of_mem _ (List.mem_cons_of_mem _ (List.mem_cons_of_mem _ (List.mem_cons_of_mem _ (List.mem_cons_of_mem _ (List.mem_cons_of_mem _ (List.mem_cons_of_mem _ (List.mem_cons_of_mem _ (List.mem_cons_of_mem _ (List.mem_cons_self))))))))))))))))⟩
    · exact Or.inl (List.mem_cons_self)
  · refine ⟨copyo8, copyN8, fun o ho => ?_⟩
    have ho : o ∈ ([(true, copy_m21), (false, copy_out)] : List (Bool × wE)) := ho
    simp only [List.mem_cons, List.not_mem_nil, or_false] at ho
    rcases ho with rfl | rfl
    · exact Or.inr ⟨rfl, List.mem_cons_of_mem _ (List.mem_cons_of_mem _ (List.mem_cons_of_mem _ (List.mem_cons_of_mem _ (List.mem_cons_of_mem _ (List.mem_cons_of_mem _ (List.mem_cons_of_mem _ (List.mem_cons_of_mem _ (List.mem_cons_of_mem _ (List.mem_cons_of_mem _ (List.mem_cons_of_mem _ (List.mem_cons_of_mem _ (List.mem_cons_of_mem _ (List.mem_cons_of_mem _ (List.mem_cons_of_mem _ (List.mem_cons_of_mem _ (List.mem_cons_of_mem _ (List.mem_cons_self)))))))))))))))))⟩
    · exact Or.inl (List.mem_cons_self)
  · refine ⟨copyo9, copyN9, fun o ho => ?_⟩
    have ho : o ∈ ([(true, copy_m22), (false, copy_out)] : List (Bool × wE)) := ho
    simp only [List.mem_cons, List.not_mem_nil, or_false] at ho
    rcases ho with rfl | rfl
    · exact Or.inr ⟨rfl, List.mem_cons_of_mem _ (List.mem_cons_of_mem _ (List.mem_cons_of_mem _ (List.mem_cons_of_mem _ (List.mem_cons_of_mem _ (List.mem_cons_of_mem _ (List.mem_cons_of_mem _ (List.mem_cons_of_mem _ (List.mem_cons_of_mem _ (List.mem_cons_of_mem _ (List.mem_cons_of_mem _ (List.mem_cons_of_mem _ (List.mem_cons_of_mem _ (List.mem_cons_of_mem _ (List.mem_cons_of_mem _ (List.mem_cons_of_mem _ (List.mem_cons_of_mem _ (List.mem_cons_of_mem _ (List.mem_cons_self))))))))))))))))))⟩
    · exact Or.inl (List.mem_cons_self)
  · refine ⟨copyo10, copyN10, fun o ho => ?_⟩
    have ho : o ∈ ([(false, copy_out)] : List (Bool × wE)) := ho
    simp only [List.mem_cons, List.not_mem_nil, or_false] at ho
    rcases ho with rfl
    · exact Or.inl (List.mem_cons_self)
  · refine ⟨copyo11, copyN11, fun o ho => ?_⟩
    have ho : o ∈ ([(false, copy_out)] : List (Bool × wE)) := ho
    simp only [List.mem_cons, List.not_mem_nil, or_false] at ho
    rcases ho with rfl
    · exact Or.inl (List.mem_cons_self)
  · refine ⟨copyo12, copyN12, fun o ho => ?_⟩
    have ho : o ∈ ([(false, copy_out)] : List (Bool × wE)) := ho
    simp only [List.mem_cons, List.not_mem_nil, or_false] at ho
    rcases ho with rfl
    · exact Or.inl (List.mem_cons_self)
  · refine ⟨copyo13, copyN13, fun o ho => ?_⟩
    have ho : o ∈ ([(false, copy_out)] : List (Bool × wE)) := ho
    simp only [List.mem_cons, List.not_mem_nil, or_false] at ho
    rcases ho with rfl
    · exact Or.inl (List.mem_cons_self)
  · refine ⟨copyo14, copyN14, fun o ho => ?_⟩
    have ho : o ∈ ([(false, copy_out)] : List (Bool × wE)) := ho
    simp only [List.mem_cons, List.not_mem_nil, or_false] at ho
    rcases ho with rfl
    · exact Or.inl (List.mem_cons_self)
  · refine ⟨copyo15, copyN15, fun o ho => ?_⟩
    have ho : o ∈ ([(false, copy_out)] : List (Bool × wE)) := ho
    simp only [List.mem_cons, List.not_mem_nil, or_false] at ho
    rcases ho with rfl
    · exact Or.inl (List.mem_cons_self)
  · refine ⟨copyo16, copyN16, fun o ho => ?_⟩
    have ho : o ∈ ([(false, copy_out)] : List (Bool × wE)) := ho
    simp only [List.mem_cons, List.not_mem_nil, or_false] at ho
    rcases ho with rfl
    · exact Or.inl (List.mem_cons_self)
  · refine ⟨copyo17, copyN17, fun o ho => ?_⟩
    have ho : o ∈ ([(false, copy_out)] : List (Bool × wE)) := ho
    simp only [List.mem_cons, List.not_mem_nil, or_false] at ho
    rcases ho with rfl
    · exact Or.inl (List.mem_cons_self)
  · refine ⟨copyo18, copyN18, fun o ho => ?_⟩
    have ho : o ∈ ([(false, copy_out)] : List (Bool × wE)) := ho
    simp only [List.mem_cons, List.not_mem_nil, or_false] at ho
    rcases ho with rfl
    · exact Or.inl (List.mem_cons_self))
theorem copyH {xs : Nat → Int32} {n : Nat} {sf : Option Nat} : wGoes x_KT x_tb x_tyl (x_otS xs n sf) lwFS lwGA.length lwGB.length 5 25 43 copyWA copyWB 178 274 60 60 copy_in (copyOX.map (fun x => x.1)) :=
  wFSr (FS := lwFR) (nh := 33) (wFam (V := []) lwFRok (by decide +kernel) (by decide +kernel) (copy_g0_G copy_in List.mem_cons_self) (by decide) (by decide) (fun i hi u hu => by
  have hi : i ∈ ([] : List Nat) := hi
  simp only [List.mem_cons, List.not_mem_nil, or_false] at hi)) lwFRp (by decide) (by decide +kernel)
theorem copyPP {xs : Nat → Int32} {n : Nat} {sf : Option Nat} : bPP x_KT x_tb x_tyl (x_otS xs n sf) lwN lwP 1299 178 274 5 (mMc xm178 + mMc xm274) (mRc xm178) (mRc xm274) True :=
  wBlk lwFok lwFB uKa uKb (by decide +kernel) (by decide +kernel) uKdj uKj copybc copyH gq178 gq274 (by decide) (by decide) (uKeep (by decide +kernel)) (by decide +kernel) (by decide +kernel) (by decide +kernel)
set_option maxRecDepth 1000000 in
theorem gq109 : tMth x_tb 109 = some xm109 := rfl
set_option maxRecDepth 1000000 in
theorem gq241 : tMth x_tb 241 = some xm241 := rfl
theorem bookN0 {xs : Nat → Int32} {n : Nat} {sf : Option Nat} : wGoes x_KT x_tb x_tyl (x_otS xs n sf) lwFR lwGA.length lwGB.length 5 25 43 bookWA bookWB 109 241 60 60 book_in booko0 :=
  wDp (wWk (wEd_spec (x_ov0_le sf) u_ctS lwFRok bookE0) (Nat.le_refl _) (Nat.le_refl _) (Nat.le_refl _) (by decide +kernel) (by decide +kernel)) (by decide) (by decide)
def book_g0_nd : List wE := [book_in]
theorem book_g0_G {xs : Nat → Int32} {n : Nat} {sf : Option Nat} : ∀ nd ∈ book_g0_nd, wGoes x_KT x_tb x_tyl (x_otS xs n sf) lwFR lwGA.length lwGB.length 5 25 43 bookWA bookWB 109 241 60 60 nd (book_g0_ex.map (fun x => (false, x))) := wGraph (fun nd hnd => by
  have hnd : nd ∈ ([book_in] : List wE) := hnd
  simp only [List.mem_cons, List.not_mem_nil, or_false] at hnd
  rcases hnd with rfl
  · refine ⟨booko0, bookN0, fun o ho => ?_⟩
    have ho : o ∈ ([(false, book_out)] : List (Bool × wE)) := ho
    simp only [List.mem_cons, List.not_mem_nil, or_false] at ho
    rcases ho with rfl
    · exact Or.inl (List.mem_cons_self))
theorem bookH {xs : Nat → Int32} {n : Nat} {sf : Option Nat} : wGoes x_KT x_tb x_tyl (x_otS xs n sf) lwFS lwGA.length lwGB.length 5 25 43 bookWA bookWB 109 241 60 60 book_in (bookOX.map (fun x => x.1)) :=
  wFSr (FS := lwFR) (nh := 33) (wFam (V := []) lwFRok (by decide +kernel) (by decide +kernel) (book_g0_G book_in List.mem_cons_self) (by decide) (by decide) (fun i hi u hu => by
  have hi : i ∈ ([] : List Nat) := hi
  simp only [List.mem_cons, List.not_mem_nil, or_false] at hi)) lwFRp (by decide) (by decide +kernel)
theorem bookPP {xs : Nat → Int32} {n : Nat} {sf : Option Nat} : bPP x_KT x_tb x_tyl (x_otS xs n sf) lwN lwP 1299 109 241 2 (mMc xm109 + mMc xm241) (mRc xm109) (mRc xm241) True :=
  wBlk lwFok lwFB uKa uKb (by decide +kernel) (by decide +kernel) uKdj uKj bookbc bookH gq109 gq241 (by decide) (by decide) (uKeep (by decide +kernel)) (by decide +kernel) (by decide +kernel) (by decide +kernel)
theorem feedcn : ∀ ρ : Nat → Int, 0 ≤ ρ 1 → ρ 1 + 7 ≤ ρ 0 → ρ 0 ≤ 3584 → lEv ρ (aCn lwN) + ((mMc xm11 + mMc xm180 : Nat) : Int) ≤ ((mMc xm0 : Nat) : Int) ∧ lEv ρ (aSn lwN) + ((mMs xm11 + mMs xm180 : Nat) : Int) ≤ ((mMs xm0 : Nat) : Int) := fun ρ h1 h2 h3 => by
  have e1 : lEv ρ (aCn lwN) = 536 + 58 * ρ 1 := by
    show lEv ρ (lAdd (lK 536) (lSc 58 (lSy 1))) = _
    rw [lAdd_ev, lK_ev, lSc_ev, lSy_ev]
  have e2 : lEv ρ (aSn lwN) = 9690 + 229 * ρ 1 := by
    show lEv ρ (lAdd (lK 9690) (lSc 229 (lSy 1))) = _
    rw [lAdd_ev, lK_ev, lSc_ev, lSy_ev]
  have k : 536 + 58 * 3577 + (mMc xm11 + mMc xm180) ≤ mMc xm0 ∧ 9690 + 229 * 3577 + (mMs xm11 + mMs xm180) ≤ mMs xm0 := by decide +kernel
  rw [e1, e2]
  constructor <;> omega
theorem feedcd : ∀ ρ ρ2 : Nat → Int, ρ2 0 = ρ 0 → ρ2 1 = ρ 1 + 7 → lEv ρ (aCn lwN) + ((mMc xm11 + mMc xm180 : Nat) : Int) ≤ lEv ρ2 (aCn lwN) ∧ lEv ρ (aSn lwN) + ((mMs xm11 + mMs xm180 : Nat) : Int) ≤ lEv ρ2 (aSn lwN) := fun ρ ρ2 _ h => by
  have e1 : ∀ ρ : Nat → Int, lEv ρ (aCn lwN) = 536 + 58 * ρ 1 := fun ρ => by
    show lEv ρ (lAdd (lK 536) (lSc 58 (lSy 1))) = _
    rw [lAdd_ev, lK_ev, lSc_ev, lSy_ev]
  have e2 : ∀ ρ : Nat → Int, lEv ρ (aSn lwN) = 9690 + 229 * ρ 1 := fun ρ => by
    show lEv ρ (lAdd (lK 9690) (lSc 229 (lSy 1))) = _
    rw [lAdd_ev, lK_ev, lSc_ev, lSy_ev]
  have k : mMc xm11 + mMc xm180 ≤ 406 ∧ mMs xm11 + mMs xm180 ≤ 1603 := by decide +kernel
  rw [e1, e1, e2, e2, h]
  constructor <;> omega
theorem feed_blk {xs : Nat → Int32} {n : Nat} {sf : Option Nat} (hn : n ≤ 3584) : lwBk (x_otS xs n sf) 216 := fun ρ σ ty H Lc cn2 sn2 hat h0 h7 cont =>
  cBlkP (p1 := 227) (p2 := 242) (pi := 1906) (n := 2) (ixA := 13) (ixB := 17) (n1 := 1) (n2 := 3) (n3 := 1) (n4 := 1) (n5 := 3) (n6 := 1) (n7 := 3) (n8 := 3) (n9 := 3) (x6 := (1660)) (x7 := 7) (x8 := (-1891)) (dp := 1299) (hd := 18) (cmp := True) p_q0 rfl gq11 gq180 (show n < 1000000 by omega) (by decide) (by decide +kernel) (by decide +kernel) (by decide +kernel) (by decide +kernel) (by decide +kernel) (by decide +kernel) (by decide +kernel) (by decide +kernel) (by decide +kernel) (by decide +kernel) (by decide +kernel) (by decide +kernel) (by decide +kernel) (by decide +kernel) (by decide +kernel) (by decide +kernel) (by decide +kernel) rfl (by decide +kernel) rfl (by decide +kernel) feedcn (by decide +kernel) feedcd hn feedPP hat h0 h7 cont
theorem programcn : ∀ ρ : Nat → Int, 0 ≤ ρ 1 → ρ 1 + 7 ≤ ρ 0 → ρ 0 ≤ 3584 → lEv ρ (aCn lwN) + ((mMc xm13 + mMc xm182 : Nat) : Int) ≤ ((mMc xm0 : Nat) : Int) ∧ lEv ρ (aSn lwN) + ((mMs xm13 + mMs xm182 : Nat) : Int) ≤ ((mMs xm0 : Nat) : Int) := fun ρ h1 h2 h3 => by
  have e1 : lEv ρ (aCn lwN) = 536 + 58 * ρ 1 := by
    show lEv ρ (lAdd (lK 536) (lSc 58 (lSy 1))) = _
    rw [lAdd_ev, lK_ev, lSc_ev, lSy_ev]
  have e2 : lEv ρ (aSn lwN) = 9690 + 229 * ρ 1 := by
    show lEv ρ (lAdd (lK 9690) (lSc 229 (lSy 1))) = _
    rw [lAdd_ev, lK_ev, lSc_ev, lSy_ev]
  have k : 536 + 58 * 3577 + (mMc xm13 + mMc xm182) ≤ mMc xm0 ∧ 9690 + 229 * 3577 + (mMs xm13 + mMs xm182) ≤ mMs xm0 := by decide +kernel
  rw [e1, e2]
  constructor <;> omega
theorem programcd : ∀ ρ ρ2 : Nat → Int, ρ2 0 = ρ 0 → ρ2 1 = ρ 1 + 7 → lEv ρ (aCn lwN) + ((mMc xm13 + mMc xm182 : Nat) : Int) ≤ lEv ρ2 (aCn lwN) ∧ lEv ρ (aSn lwN) + ((mMs xm13 + mMs xm182 : Nat) : Int) ≤ lEv ρ2 (aSn lwN) := fun ρ ρ2 _ h => by
  have e1 : ∀ ρ : Nat → Int, lEv ρ (aCn lwN) = 536 + 58 * ρ 1 := fun ρ => by
    show lEv ρ (lAdd (lK 536) (lSc 58 (lSy 1))) = _
    rw [lAdd_ev, lK_ev, lSc_ev, lSy_ev]
  have e2 : ∀ ρ : Nat → Int, lEv ρ (aSn lwN) = 9690 + 229 * ρ 1 := fun ρ => by
    show lEv ρ (lAdd (lK 9690) (lSc 229 (lSy 1))) = _
    rw [lAdd_ev, lK_ev, lSc_ev, lSy_ev]
  have k : mMc xm13 + mMc xm182 ≤ 406 ∧ mMs xm13 + mMs xm182 ≤ 1603 := by decide +kernel
  rw [e1, e1, e2, e2, h]
  constructor <;> omega
theorem program_blk {xs : Nat → Int32} {n : Nat} {sf : Option Nat} (hsf : sf = none ∨ sf = some 1200000) (hn : n ≤ 3584) : lwBk (x_otS xs n sf) 249 := fun ρ σ ty H Lc cn2 sn2 hat h0 h7 cont =>
  cBlkP (p1 := 250) (p2 := 255) (pi := 1906) (n := 0) (ixA := 18) (ixB := 22) (n1 := 1) (n2 := 3) (n3 := 1) (n4 := 1) (n5 := 3) (n6 := 1) (n7 := 3) (n8 := 3) (n9 := 3) (x6 := (1647)) (x7 := 7) (x8 := (-1891)) (dp := 1299) (hd := 18) (cmp := True) p_q0 rfl gq13 gq182 (show n < 1000000 by omega) (by decide) (by decide +kernel) (by decide +kernel) (by decide +kernel) (by decide +kernel) (by decide +kernel) (by decide +kernel) (by decide +kernel) (by decide +kernel) (by decide +kernel) (by decide +kernel) (by decide +kernel) (by decide +kernel) (by decide +kernel) (by decide +kernel) (by decide +kernel) (by decide +kernel) (by decide +kernel) rfl (by decide +kernel) rfl (by decide +kernel) programcn (by decide +kernel) programcd hn (programPP hsf) hat h0 h7 cont
theorem setcn : ∀ ρ : Nat → Int, 0 ≤ ρ 1 → ρ 1 + 7 ≤ ρ 0 → ρ 0 ≤ 3584 → lEv ρ (aCn lwN) + ((mMc xm52 + mMc xm216 : Nat) : Int) ≤ ((mMc xm0 : Nat) : Int) ∧ lEv ρ (aSn lwN) + ((mMs xm52 + mMs xm216 : Nat) : Int) ≤ ((mMs xm0 : Nat) : Int) := fun ρ h1 h2 h3 => by
  have e1 : lEv ρ (aCn lwN) = 536 + 58 * ρ 1 := by
    show lEv ρ (lAdd (lK 536) (lSc 58 (lSy 1))) = _
    rw [lAdd_ev, lK_ev, lSc_ev, lSy_ev]
  have e2 : lEv ρ (aSn lwN) = 9690 + 229 * ρ 1 := by
    show lEv ρ (lAdd (lK 9690) (lSc 229 (lSy 1))) = _
    rw [lAdd_ev, lK_ev, lSc_ev, lSy_ev]
  have k : 536 + 58 * 3577 + (mMc xm52 + mMc xm216) ≤ mMc xm0 ∧ 9690 + 229 * 3577 + (mMs xm52 + mMs xm216) ≤ mMs xm0 := by decide +kernel
  rw [e1, e2]
  constructor <;> omega
theorem setcd : ∀ ρ ρ2 : Nat → Int, ρ2 0 = ρ 0 → ρ2 1 = ρ 1 + 7 → lEv ρ (aCn lwN) + ((mMc xm52 + mMc xm216 : Nat) : Int) ≤ lEv ρ2 (aCn lwN) ∧ lEv ρ (aSn lwN) + ((mMs xm52 + mMs xm216 : Nat) : Int) ≤ lEv ρ2 (aSn lwN) := fun ρ ρ2 _ h => by
  have e1 : ∀ ρ : Nat → Int, lEv ρ (aCn lwN) = 536 + 58 * ρ 1 := fun ρ => by
    show lEv ρ (lAdd (lK 536) (lSc 58 (lSy 1))) = _
    rw [lAdd_ev, lK_ev, lSc_ev, lSy_ev]
  have e2 : ∀ ρ : Nat → Int, lEv ρ (aSn lwN) = 9690 + 229 * ρ 1 := fun ρ => by
    show lEv ρ (lAdd (lK 9690) (lSc 229 (lSy 1))) = _
    rw [lAdd_ev, lK_ev, lSc_ev, lSy_ev]
  have k : mMc xm52 + mMc xm216 ≤ 406 ∧ mMs xm52 + mMs xm216 ≤ 1603 := by decide +kernel
  rw [e1, e1, e2, e2, h]
  constructor <;> omega
theorem set_blk {xs : Nat → Int32} {n : Nat} {sf : Option Nat} (hn : n ≤ 3584) : lwBk (x_otS xs n sf) 338 := fun ρ σ ty H Lc cn2 sn2 hat h0 h7 cont =>
  cBlkP (p1 := 354) (p2 := 374) (pi := 1906) (n := 3) (ixA := 32) (ixB := 35) (n1 := 1) (n2 := 3) (n3 := 1) (n4 := 1) (n5 := 3) (n6 := 1) (n7 := 3) (n8 := 3) (n9 := 3) (x6 := (1528)) (x7 := 7) (x8 := (-1891)) (dp := 1299) (hd := 18) (cmp := True) p_q0 rfl gq52 gq216 (show n < 1000000 by omega) (by decide) (by decide +kernel) (by decide +kernel) (by decide +kernel) (by decide +kernel) (by decide +kernel) (by decide +kernel) (by decide +kernel) (by decide +kernel) (by decide +kernel) (by decide +kernel) (by decide +kernel) (by decide +kernel) (by decide +kernel) (by decide +kernel) (by decide +kernel) (by decide +kernel) (by decide +kernel) rfl (by decide +kernel) rfl (by decide +kernel) setcn (by decide +kernel) setcd hn setPP hat h0 h7 cont
theorem inputcn : ∀ ρ : Nat → Int, 0 ≤ ρ 1 → ρ 1 + 7 ≤ ρ 0 → ρ 0 ≤ 3584 → lEv ρ (aCn lwN) + ((mMc xm53 + mMc xm217 : Nat) : Int) ≤ ((mMc xm0 : Nat) : Int) ∧ lEv ρ (aSn lwN) + ((mMs xm53 + mMs xm217 : Nat) : Int) ≤ ((mMs xm0 : Nat) : Int) := fun ρ h1 h2 h3 => by
  have e1 : lEv ρ (aCn lwN) = 536 + 58 * ρ 1 := by
    show lEv ρ (lAdd (lK 536) (lSc 58 (lSy 1))) = _
    rw [lAdd_ev, lK_ev, lSc_ev, lSy_ev]
  have e2 : lEv ρ (aSn lwN) = 9690 + 229 * ρ 1 := by
    show lEv ρ (lAdd (lK 9690) (lSc 229 (lSy 1))) = _
    rw [lAdd_ev, lK_ev, lSc_ev, lSy_ev]
  have k : 536 + 58 * 3577 + (mMc xm53 + mMc xm217) ≤ mMc xm0 ∧ 9690 + 229 * 3577 + (mMs xm53 + mMs xm217) ≤ mMs xm0 := by decide +kernel
  rw [e1, e2]
  constructor <;> omega
theorem inputcd : ∀ ρ ρ2 : Nat → Int, ρ2 0 = ρ 0 → ρ2 1 = ρ 1 + 7 → lEv ρ (aCn lwN) + ((mMc xm53 + mMc xm217 : Nat) : Int) ≤ lEv ρ2 (aCn lwN) ∧ lEv ρ (aSn lwN) + ((mMs xm53 + mMs xm217 : Nat) : Int) ≤ lEv ρ2 (aSn lwN) := fun ρ ρ2 _ h => by
  have e1 : ∀ ρ : Nat → Int, lEv ρ (aCn lwN) = 536 + 58 * ρ 1 := fun ρ => by
    show lEv ρ (lAdd (lK 536) (lSc 58 (lSy 1))) = _
    rw [lAdd_ev, lK_ev, lSc_ev, lSy_ev]
  have e2 : ∀ ρ : Nat → Int, lEv ρ (aSn lwN) = 9690 + 229 * ρ 1 := fun ρ => by
    show lEv ρ (lAdd (lK 9690) (lSc 229 (lSy 1))) = _
    rw [lAdd_ev, lK_ev, lSc_ev, lSy_ev]
  have k : mMc xm53 + mMc xm217 ≤ 406 ∧ mMs xm53 + mMs xm217 ≤ 1603 := by decide +kernel
  rw [e1, e1, e2, e2, h]
  constructor <;> omega
theorem input_blk {xs : Nat → Int32} {n : Nat} {sf : Option Nat} (hn : n ≤ 3584) : lwBk (x_otS xs n sf) 381 := fun ρ σ ty H Lc cn2 sn2 hat h0 h7 cont =>
  cBlkP (p1 := 392) (p2 := 407) (pi := 1906) (n := 2) (ixA := 36) (ixB := 39) (n1 := 1) (n2 := 3) (n3 := 1) (n4 := 1) (n5 := 3) (n6 := 1) (n7 := 3) (n8 := 3) (n9 := 3) (x6 := (1495)) (x7 := 7) (x8 := (-1891)) (dp := 1299) (hd := 18) (cmp := True) p_q0 rfl gq53 gq217 (show n < 1000000 by omega) (by decide) (by decide +kernel) (by decide +kernel) (by decide +kernel) (by decide +kernel) (by decide +kernel) (by decide +kernel) (by decide +kernel) (by decide +kernel) (by decide +kernel) (by decide +kernel) (by decide +kernel) (by decide +kernel) (by decide +kernel) (by decide +kernel) (by decide +kernel) (by decide +kernel) (by decide +kernel) rfl (by decide +kernel) rfl (by decide +kernel) inputcn (by decide +kernel) inputcd hn inputPP hat h0 h7 cont
theorem shelfcn : ∀ ρ : Nat → Int, 0 ≤ ρ 1 → ρ 1 + 7 ≤ ρ 0 → ρ 0 ≤ 3584 → lEv ρ (aCn lwN) + ((mMc xm54 + mMc xm218 : Nat) : Int) ≤ ((mMc xm0 : Nat) : Int) ∧ lEv ρ (aSn lwN) + ((mMs xm54 + mMs xm218 : Nat) : Int) ≤ ((mMs xm0 : Nat) : Int) := fun ρ h1 h2 h3 => by
  have e1 : lEv ρ (aCn lwN) = 536 + 58 * ρ 1 := by
    show lEv ρ (lAdd (lK 536) (lSc 58 (lSy 1))) = _
    rw [lAdd_ev, lK_ev, lSc_ev, lSy_ev]
  have e2 : lEv ρ (aSn lwN) = 9690 + 229 * ρ 1 := by
    show lEv ρ (lAdd (lK 9690) (lSc 229 (lSy 1))) = _
    rw [lAdd_ev, lK_ev, lSc_ev, lSy_ev]
  have k : 536 + 58 * 3577 + (mMc xm54 + mMc xm218) ≤ mMc xm0 ∧ 9690 + 229 * 3577 + (mMs xm54 + mMs xm218) ≤ mMs xm0 := by decide +kernel
  rw [e1, e2]
  constructor <;> omega
theorem shelfcd : ∀ ρ ρ2 : Nat → Int, ρ2 0 = ρ 0 → ρ2 1 = ρ 1 + 7 → lEv ρ (aCn lwN) + ((mMc xm54 + mMc xm218 : Nat) : Int) ≤ lEv ρ2 (aCn lwN) ∧ lEv ρ (aSn lwN) + ((mMs xm54 + mMs xm218 : Nat) : Int) ≤ lEv ρ2 (aSn lwN) := fun ρ ρ2 _ h => by
  have e1 : ∀ ρ : Nat → Int, lEv ρ (aCn lwN) = 536 + 58 * ρ 1 := fun ρ => by
    show lEv ρ (lAdd (lK 536) (lSc 58 (lSy 1))) = _
    rw [lAdd_ev, lK_ev, lSc_ev, lSy_ev]
  have e2 : ∀ ρ : Nat → Int, lEv ρ (aSn lwN) = 9690 + 229 * ρ 1 := fun ρ => by
    show lEv ρ (lAdd (lK 9690) (lSc 229 (lSy 1))) = _
    rw [lAdd_ev, lK_ev, lSc_ev, lSy_ev]
  have k : mMc xm54 + mMc xm218 ≤ 406 ∧ mMs xm54 + mMs xm218 ≤ 1603 := by decide +kernel
  rw [e1, e1, e2, e2, h]
  constructor <;> omega
theorem shelf_blk {xs : Nat → Int32} {n : Nat} {sf : Option Nat} (hn : n ≤ 3584) : lwBk (x_otS xs n sf) 414 := fun ρ σ ty H Lc cn2 sn2 hat h0 h7 cont =>
  cBlkP (p1 := 440) (p2 := 470) (pi := 1906) (n := 5) (ixA := 40) (ixB := 44) (n1 := 1) (n2 := 3) (n3 := 1) (n4 := 1) (n5 := 3) (n6 := 1) (n7 := 3) (n8 := 3) (n9 := 3) (x6 := (1432)) (x7 := 7) (x8 := (-1891)) (dp := 1299) (hd := 18) (cmp := True) p_q0 rfl gq54 gq218 (show n < 1000000 by omega) (by decide) (by decide +kernel) (by decide +kernel) (by decide +kernel) (by decide +kernel) (by decide +kernel) (by decide +kernel) (by decide +kernel) (by decide +kernel) (by decide +kernel) (by decide +kernel) (by decide +kernel) (by decide +kernel) (by decide +kernel) (by decide +kernel) (by decide +kernel) (by decide +kernel) (by decide +kernel) rfl (by decide +kernel) rfl (by decide +kernel) shelfcn (by decide +kernel) shelfcd hn shelfPP hat h0 h7 cont
theorem runcn : ∀ ρ : Nat → Int, 0 ≤ ρ 1 → ρ 1 + 7 ≤ ρ 0 → ρ 0 ≤ 3584 → lEv ρ (aCn lwN) + ((mMc xm62 + mMc xm200 : Nat) : Int) ≤ ((mMc xm0 : Nat) : Int) ∧ lEv ρ (aSn lwN) + ((mMs xm62 + mMs xm200 : Nat) : Int) ≤ ((mMs xm0 : Nat) : Int) := fun ρ h1 h2 h3 => by
  have e1 : lEv ρ (aCn lwN) = 536 + 58 * ρ 1 := by
    show lEv ρ (lAdd (lK 536) (lSc 58 (lSy 1))) = _
    rw [lAdd_ev, lK_ev, lSc_ev, lSy_ev]
  have e2 : lEv ρ (aSn lwN) = 9690 + 229 * ρ 1 := by
    show lEv ρ (lAdd (lK 9690) (lSc 229 (lSy 1))) = _
    rw [lAdd_ev, lK_ev, lSc_ev, lSy_ev]
  have k : 536 + 58 * 3577 + (mMc xm62 + mMc xm200) ≤ mMc xm0 ∧ 9690 + 229 * 3577 + (mMs xm62 + mMs xm200) ≤ mMs xm0 := by decide +kernel
  rw [e1, e2]
  constructor <;> omega
theorem runcd : ∀ ρ ρ2 : Nat → Int, ρ2 0 = ρ 0 → ρ2 1 = ρ 1 + 7 → lEv ρ (aCn lwN) + ((mMc xm62 + mMc xm200 : Nat) : Int) ≤ lEv ρ2 (aCn lwN) ∧ lEv ρ (aSn lwN) + ((mMs xm62 + mMs xm200 : Nat) : Int) ≤ lEv ρ2 (aSn lwN) := fun ρ ρ2 _ h => by
  have e1 : ∀ ρ : Nat → Int, lEv ρ (aCn lwN) = 536 + 58 * ρ 1 := fun ρ => by
    show lEv ρ (lAdd (lK 536) (lSc 58 (lSy 1))) = _
    rw [lAdd_ev, lK_ev, lSc_ev, lSy_ev]
  have e2 : ∀ ρ : Nat → Int, lEv ρ (aSn lwN) = 9690 + 229 * ρ 1 := fun ρ => by
    show lEv ρ (lAdd (lK 9690) (lSc 229 (lSy 1))) = _
    rw [lAdd_ev, lK_ev, lSc_ev, lSy_ev]
  have k : mMc xm62 + mMc xm200 ≤ 406 ∧ mMs xm62 + mMs xm200 ≤ 1603 := by decide +kernel
  rw [e1, e1, e2, e2, h]
  constructor <;> omega
theorem run_blk {xs : Nat → Int32} {n : Nat} {sf : Option Nat} (hn : n ≤ 3584) : lwBk (x_otS xs n sf) 477 := fun ρ σ ty H Lc cn2 sn2 hat h0 h7 cont =>
  cBlkP (p1 := 488) (p2 := 503) (pi := 1906) (n := 2) (ixA := 45) (ixB := 48) (n1 := 1) (n2 := 3) (n3 := 1) (n4 := 1) (n5 := 3) (n6 := 1) (n7 := 3) (n8 := 3) (n9 := 3) (x6 := (1399)) (x7 := 7) (x8 := (-1891)) (dp := 1299) (hd := 18) (cmp := True) p_q0 rfl gq62 gq200 (show n < 1000000 by omega) (by decide) (by decide +kernel) (by decide +kernel) (by decide +kernel) (by decide +kernel) (by decide +kernel) (by decide +kernel) (by decide +kernel) (by decide +kernel) (by decide +kernel) (by decide +kernel) (by decide +kernel) (by decide +kernel) (by decide +kernel) (by decide +kernel) (by decide +kernel) (by decide +kernel) (by decide +kernel) rfl (by decide +kernel) rfl (by decide +kernel) runcn (by decide +kernel) runcd hn runPP hat h0 h7 cont
theorem nightcn : ∀ ρ : Nat → Int, 0 ≤ ρ 1 → ρ 1 + 7 ≤ ρ 0 → ρ 0 ≤ 3584 → lEv ρ (aCn lwN) + ((mMc xm89 + mMc xm219 : Nat) : Int) ≤ ((mMc xm0 : Nat) : Int) ∧ lEv ρ (aSn lwN) + ((mMs xm89 + mMs xm219 : Nat) : Int) ≤ ((mMs xm0 : Nat) : Int) := fun ρ h1 h2 h3 => by
  have e1 : lEv ρ (aCn lwN) = 536 + 58 * ρ 1 := by
    show lEv ρ (lAdd (lK 536) (lSc 58 (lSy 1))) = _
    rw [lAdd_ev, lK_ev, lSc_ev, lSy_ev]
  have e2 : lEv ρ (aSn lwN) = 9690 + 229 * ρ 1 := by
    show lEv ρ (lAdd (lK 9690) (lSc 229 (lSy 1))) = _
    rw [lAdd_ev, lK_ev, lSc_ev, lSy_ev]
  have k : 536 + 58 * 3577 + (mMc xm89 + mMc xm219) ≤ mMc xm0 ∧ 9690 + 229 * 3577 + (mMs xm89 + mMs xm219) ≤ mMs xm0 := by decide +kernel
  rw [e1, e2]
  constructor <;> omega
theorem nightcd : ∀ ρ ρ2 : Nat → Int, ρ2 0 = ρ 0 → ρ2 1 = ρ 1 + 7 → lEv ρ (aCn lwN) + ((mMc xm89 + mMc xm219 : Nat) : Int) ≤ lEv ρ2 (aCn lwN) ∧ lEv ρ (aSn lwN) + ((mMs xm89 + mMs xm219 : Nat) : Int) ≤ lEv ρ2 (aSn lwN) := fun ρ ρ2 _ h => by
  have e1 : ∀ ρ : Nat → Int, lEv ρ (aCn lwN) = 536 + 58 * ρ 1 := fun ρ => by
    show lEv ρ (lAdd (lK 536) (lSc 58 (lSy 1))) = _
    rw [lAdd_ev, lK_ev, lSc_ev, lSy_ev]
  have e2 : ∀ ρ : Nat → Int, lEv ρ (aSn lwN) = 9690 + 229 * ρ 1 := fun ρ => by
    show lEv ρ (lAdd (lK 9690) (lSc 229 (lSy 1))) = _
    rw [lAdd_ev, lK_ev, lSc_ev, lSy_ev]
  have k : mMc xm89 + mMc xm219 ≤ 406 ∧ mMs xm89 + mMs xm219 ≤ 1603 := by decide +kernel
  rw [e1, e1, e2, e2, h]
  constructor <;> omega
theorem night_blk {xs : Nat → Int32} {n : Nat} {sf : Option Nat} (hn : n ≤ 3584) : lwBk (x_otS xs n sf) 668 := fun ρ σ ty H Lc cn2 sn2 hat h0 h7 cont =>
  cBlkP (p1 := 674) (p2 := 684) (pi := 1906) (n := 1) (ixA := 66) (ixB := 70) (n1 := 1) (n2 := 3) (n3 := 1) (n4 := 1) (n5 := 3) (n6 := 1) (n7 := 3) (n8 := 3) (n9 := 3) (x6 := (1218)) (x7 := 7) (x8 := (-1891)) (dp := 1299) (hd := 18) (cmp := True) p_q0 rfl gq89 gq219 (show n < 1000000 by omega) (by decide) (by decide +kernel) (by decide +kernel) (by decide +kernel) (by decide +kernel) (by decide +kernel) (by decide +kernel) (by decide +kernel) (by decide +kernel) (by decide +kernel) (by decide +kernel) (by decide +kernel) (by decide +kernel) (by decide +kernel) (by decide +kernel) (by decide +kernel) (by decide +kernel) (by decide +kernel) rfl (by decide +kernel) rfl (by decide +kernel) nightcn (by decide +kernel) nightcd hn nightPP hat h0 h7 cont
theorem doescn : ∀ ρ : Nat → Int, 0 ≤ ρ 1 → ρ 1 + 7 ≤ ρ 0 → ρ 0 ≤ 3584 → lEv ρ (aCn lwN) + ((mMc xm96 + mMc xm233 : Nat) : Int) ≤ ((mMc xm0 : Nat) : Int) ∧ lEv ρ (aSn lwN) + ((mMs xm96 + mMs xm233 : Nat) : Int) ≤ ((mMs xm0 : Nat) : Int) := fun ρ h1 h2 h3 => by
  have e1 : lEv ρ (aCn lwN) = 536 + 58 * ρ 1 := by
    show lEv ρ (lAdd (lK 536) (lSc 58 (lSy 1))) = _
    rw [lAdd_ev, lK_ev, lSc_ev, lSy_ev]
  have e2 : lEv ρ (aSn lwN) = 9690 + 229 * ρ 1 := by
    show lEv ρ (lAdd (lK 9690) (lSc 229 (lSy 1))) = _
    rw [lAdd_ev, lK_ev, lSc_ev, lSy_ev]
  have k : 536 + 58 * 3577 + (mMc xm96 + mMc xm233) ≤ mMc xm0 ∧ 9690 + 229 * 3577 + (mMs xm96 + mMs xm233) ≤ mMs xm0 := by decide +kernel
  rw [e1, e2]
  constructor <;> omega
theorem doescd : ∀ ρ ρ2 : Nat → Int, ρ2 0 = ρ 0 → ρ2 1 = ρ 1 + 7 → lEv ρ (aCn lwN) + ((mMc xm96 + mMc xm233 : Nat) : Int) ≤ lEv ρ2 (aCn lwN) ∧ lEv ρ (aSn lwN) + ((mMs xm96 + mMs xm233 : Nat) : Int) ≤ lEv ρ2 (aSn lwN) := fun ρ ρ2 _ h => by
  have e1 : ∀ ρ : Nat → Int, lEv ρ (aCn lwN) = 536 + 58 * ρ 1 := fun ρ => by
    show lEv ρ (lAdd (lK 536) (lSc 58 (lSy 1))) = _
    rw [lAdd_ev, lK_ev, lSc_ev, lSy_ev]
  have e2 : ∀ ρ : Nat → Int, lEv ρ (aSn lwN) = 9690 + 229 * ρ 1 := fun ρ => by
    show lEv ρ (lAdd (lK 9690) (lSc 229 (lSy 1))) = _
    rw [lAdd_ev, lK_ev, lSc_ev, lSy_ev]
  have k : mMc xm96 + mMc xm233 ≤ 406 ∧ mMs xm96 + mMs xm233 ≤ 1603 := by decide +kernel
  rw [e1, e1, e2, e2, h]
  constructor <;> omega
theorem does_blk {xs : Nat → Int32} {n : Nat} {sf : Option Nat} (hn : n ≤ 3584) : lwBk (x_otS xs n sf) 757 := fun ρ σ ty H Lc cn2 sn2 hat h0 h7 cont =>
  cBlkP (p1 := 778) (p2 := 803) (pi := 1906) (n := 4) (ixA := 79) (ixB := 83) (n1 := 1) (n2 := 3) (n3 := 1) (n4 := 1) (n5 := 3) (n6 := 1) (n7 := 3) (n8 := 3) (n9 := 3) (x6 := (1099)) (x7 := 7) (x8 := (-1891)) (dp := 1299) (hd := 18) (cmp := True) p_q0 rfl gq96 gq233 (show n < 1000000 by omega) (by decide) (by decide +kernel) (by decide +kernel) (by decide +kernel) (by decide +kernel) (by decide +kernel) (by decide +kernel) (by decide +kernel) (by decide +kernel) (by decide +kernel) (by decide +kernel) (by decide +kernel) (by decide +kernel) (by decide +kernel) (by decide +kernel) (by decide +kernel) (by decide +kernel) (by decide +kernel) rfl (by decide +kernel) rfl (by decide +kernel) doescn (by decide +kernel) doescd hn doesPP hat h0 h7 cont
theorem mendcn : ∀ ρ : Nat → Int, 0 ≤ ρ 1 → ρ 1 + 7 ≤ ρ 0 → ρ 0 ≤ 3584 → lEv ρ (aCn lwN) + ((mMc xm103 + mMc xm236 : Nat) : Int) ≤ ((mMc xm0 : Nat) : Int) ∧ lEv ρ (aSn lwN) + ((mMs xm103 + mMs xm236 : Nat) : Int) ≤ ((mMs xm0 : Nat) : Int) := fun ρ h1 h2 h3 => by
  have e1 : lEv ρ (aCn lwN) = 536 + 58 * ρ 1 := by
    show lEv ρ (lAdd (lK 536) (lSc 58 (lSy 1))) = _
    rw [lAdd_ev, lK_ev, lSc_ev, lSy_ev]
  have e2 : lEv ρ (aSn lwN) = 9690 + 229 * ρ 1 := by
    show lEv ρ (lAdd (lK 9690) (lSc 229 (lSy 1))) = _
    rw [lAdd_ev, lK_ev, lSc_ev, lSy_ev]
  have k : 536 + 58 * 3577 + (mMc xm103 + mMc xm236) ≤ mMc xm0 ∧ 9690 + 229 * 3577 + (mMs xm103 + mMs xm236) ≤ mMs xm0 := by decide +kernel
  rw [e1, e2]
  constructor <;> omega
theorem mendcd : ∀ ρ ρ2 : Nat → Int, ρ2 0 = ρ 0 → ρ2 1 = ρ 1 + 7 → lEv ρ (aCn lwN) + ((mMc xm103 + mMc xm236 : Nat) : Int) ≤ lEv ρ2 (aCn lwN) ∧ lEv ρ (aSn lwN) + ((mMs xm103 + mMs xm236 : Nat) : Int) ≤ lEv ρ2 (aSn lwN) := fun ρ ρ2 _ h => by
  have e1 : ∀ ρ : Nat → Int, lEv ρ (aCn lwN) = 536 + 58 * ρ 1 := fun ρ => by
    show lEv ρ (lAdd (lK 536) (lSc 58 (lSy 1))) = _
    rw [lAdd_ev, lK_ev, lSc_ev, lSy_ev]
  have e2 : ∀ ρ : Nat → Int, lEv ρ (aSn lwN) = 9690 + 229 * ρ 1 := fun ρ => by
    show lEv ρ (lAdd (lK 9690) (lSc 229 (lSy 1))) = _
    rw [lAdd_ev, lK_ev, lSc_ev, lSy_ev]
  have k : mMc xm103 + mMc xm236 ≤ 406 ∧ mMs xm103 + mMs xm236 ≤ 1603 := by decide +kernel
  rw [e1, e1, e2, e2, h]
  constructor <;> omega
theorem mend_blk {xs : Nat → Int32} {n : Nat} {sf : Option Nat} (hn : n ≤ 3584) : lwBk (x_otS xs n sf) 810 := fun ρ σ ty H Lc cn2 sn2 hat h0 h7 cont =>
  cBlkP (p1 := 842) (p2 := 878) (pi := 1906) (n := 6) (ixA := 84) (ixB := 88) (n1 := 1) (n2 := 3) (n3 := 1) (n4 := 1) (n5 := 3) (n6 := 1) (n7 := 3) (n8 := 3) (n9 := 3) (x6 := (1024)) (x7 := 7) (x8 := (-1891)) (dp := 1299) (hd := 18) (cmp := True) p_q0 rfl gq103 gq236 (show n < 1000000 by omega) (by decide) (by decide +kernel) (by decide +kernel) (by decide +kernel) (by decide +kernel) (by decide +kernel) (by decide +kernel) (by decide +kernel) (by decide +kernel) (by decide +kernel) (by decide +kernel) (by decide +kernel) (by decide +kernel) (by decide +kernel) (by decide +kernel) (by decide +kernel) (by decide +kernel) (by decide +kernel) rfl (by decide +kernel) rfl (by decide +kernel) mendcn (by decide +kernel) mendcd hn mendPP hat h0 h7 cont
theorem mendRulecn : ∀ ρ : Nat → Int, 0 ≤ ρ 1 → ρ 1 + 7 ≤ ρ 0 → ρ 0 ≤ 3584 → lEv ρ (aCn lwN) + ((mMc xm107 + mMc xm239 : Nat) : Int) ≤ ((mMc xm0 : Nat) : Int) ∧ lEv ρ (aSn lwN) + ((mMs xm107 + mMs xm239 : Nat) : Int) ≤ ((mMs xm0 : Nat) : Int) := fun ρ h1 h2 h3 => by
  have e1 : lEv ρ (aCn lwN) = 536 + 58 * ρ 1 := by
    show lEv ρ (lAdd (lK 536) (lSc 58 (lSy 1))) = _
    rw [lAdd_ev, lK_ev, lSc_ev, lSy_ev]
  have e2 : lEv ρ (aSn lwN) = 9690 + 229 * ρ 1 := by
    show lEv ρ (lAdd (lK 9690) (lSc 229 (lSy 1))) = _
    rw [lAdd_ev, lK_ev, lSc_ev, lSy_ev]
  have k : 536 + 58 * 3577 + (mMc xm107 + mMc xm239) ≤ mMc xm0 ∧ 9690 + 229 * 3577 + (mMs xm107 + mMs xm239) ≤ mMs xm0 := by decide +kernel
  rw [e1, e2]
  constructor <;> omega
theorem mendRulecd : ∀ ρ ρ2 : Nat → Int, ρ2 0 = ρ 0 → ρ2 1 = ρ 1 + 7 → lEv ρ (aCn lwN) + ((mMc xm107 + mMc xm239 : Nat) : Int) ≤ lEv ρ2 (aCn lwN) ∧ lEv ρ (aSn lwN) + ((mMs xm107 + mMs xm239 : Nat) : Int) ≤ lEv ρ2 (aSn lwN) := fun ρ ρ2 _ h => by
  have e1 : ∀ ρ : Nat → Int, lEv ρ (aCn lwN) = 536 + 58 * ρ 1 := fun ρ => by
    show lEv ρ (lAdd (lK 536) (lSc 58 (lSy 1))) = _
    rw [lAdd_ev, lK_ev, lSc_ev, lSy_ev]
  have e2 : ∀ ρ : Nat → Int, lEv ρ (aSn lwN) = 9690 + 229 * ρ 1 := fun ρ => by
    show lEv ρ (lAdd (lK 9690) (lSc 229 (lSy 1))) = _
    rw [lAdd_ev, lK_ev, lSc_ev, lSy_ev]
  have k : mMc xm107 + mMc xm239 ≤ 406 ∧ mMs xm107 + mMs xm239 ≤ 1603 := by decide +kernel
  rw [e1, e1, e2, e2, h]
  constructor <;> omega
theorem mendRule_blk {xs : Nat → Int32} {n : Nat} {sf : Option Nat} (hn : n ≤ 3584) : lwBk (x_otS xs n sf) 885 := fun ρ σ ty H Lc cn2 sn2 hat h0 h7 cont =>
  cBlkP (p1 := 906) (p2 := 931) (pi := 1906) (n := 4) (ixA := 89) (ixB := 92) (n1 := 1) (n2 := 3) (n3 := 1) (n4 := 1) (n5 := 3) (n6 := 1) (n7 := 3) (n8 := 3) (n9 := 3) (x6 := (971)) (x7 := 7) (x8 := (-1891)) (dp := 1299) (hd := 18) (cmp := True) p_q0 rfl gq107 gq239 (show n < 1000000 by omega) (by decide) (by decide +kernel) (by decide +kernel) (by decide +kernel) (by decide +kernel) (by decide +kernel) (by decide +kernel) (by decide +kernel) (by decide +kernel) (by decide +kernel) (by decide +kernel) (by decide +kernel) (by decide +kernel) (by decide +kernel) (by decide +kernel) (by decide +kernel) (by decide +kernel) (by decide +kernel) rfl (by decide +kernel) rfl (by decide +kernel) mendRulecn (by decide +kernel) mendRulecd hn mendRulePP hat h0 h7 cont
theorem testcn : ∀ ρ : Nat → Int, 0 ≤ ρ 1 → ρ 1 + 7 ≤ ρ 0 → ρ 0 ≤ 3584 → lEv ρ (aCn lwN) + ((mMc xm108 + mMc xm240 : Nat) : Int) ≤ ((mMc xm0 : Nat) : Int) ∧ lEv ρ (aSn lwN) + ((mMs xm108 + mMs xm240 : Nat) : Int) ≤ ((mMs xm0 : Nat) : Int) := fun ρ h1 h2 h3 => by
  have e1 : lEv ρ (aCn lwN) = 536 + 58 * ρ 1 := by
    show lEv ρ (lAdd (lK 536) (lSc 58 (lSy 1))) = _
    rw [lAdd_ev, lK_ev, lSc_ev, lSy_ev]
  have e2 : lEv ρ (aSn lwN) = 9690 + 229 * ρ 1 := by
    show lEv ρ (lAdd (lK 9690) (lSc 229 (lSy 1))) = _
    rw [lAdd_ev, lK_ev, lSc_ev, lSy_ev]
  have k : 536 + 58 * 3577 + (mMc xm108 + mMc xm240) ≤ mMc xm0 ∧ 9690 + 229 * 3577 + (mMs xm108 + mMs xm240) ≤ mMs xm0 := by decide +kernel
  rw [e1, e2]
  constructor <;> omega
theorem testcd : ∀ ρ ρ2 : Nat → Int, ρ2 0 = ρ 0 → ρ2 1 = ρ 1 + 7 → lEv ρ (aCn lwN) + ((mMc xm108 + mMc xm240 : Nat) : Int) ≤ lEv ρ2 (aCn lwN) ∧ lEv ρ (aSn lwN) + ((mMs xm108 + mMs xm240 : Nat) : Int) ≤ lEv ρ2 (aSn lwN) := fun ρ ρ2 _ h => by
  have e1 : ∀ ρ : Nat → Int, lEv ρ (aCn lwN) = 536 + 58 * ρ 1 := fun ρ => by
    show lEv ρ (lAdd (lK 536) (lSc 58 (lSy 1))) = _
    rw [lAdd_ev, lK_ev, lSc_ev, lSy_ev]
  have e2 : ∀ ρ : Nat → Int, lEv ρ (aSn lwN) = 9690 + 229 * ρ 1 := fun ρ => by
    show lEv ρ (lAdd (lK 9690) (lSc 229 (lSy 1))) = _
    rw [lAdd_ev, lK_ev, lSc_ev, lSy_ev]
  have k : mMc xm108 + mMc xm240 ≤ 406 ∧ mMs xm108 + mMs xm240 ≤ 1603 := by decide +kernel
  rw [e1, e1, e2, e2, h]
  constructor <;> omega
theorem test_blk {xs : Nat → Int32} {n : Nat} {sf : Option Nat} (hn : n ≤ 3584) : lwBk (x_otS xs n sf) 938 := fun ρ σ ty H Lc cn2 sn2 hat h0 h7 cont =>
  cBlkP (p1 := 959) (p2 := 984) (pi := 1906) (n := 4) (ixA := 93) (ixB := 96) (n1 := 1) (n2 := 3) (n3 := 1) (n4 := 1) (n5 := 3) (n6 := 1) (n7 := 3) (n8 := 3) (n9 := 3) (x6 := (918)) (x7 := 7) (x8 := (-1891)) (dp := 1299) (hd := 18) (cmp := True) p_q0 rfl gq108 gq240 (show n < 1000000 by omega) (by decide) (by decide +kernel) (by decide +kernel) (by decide +kernel) (by decide +kernel) (by decide +kernel) (by decide +kernel) (by decide +kernel) (by decide +kernel) (by decide +kernel) (by decide +kernel) (by decide +kernel) (by decide +kernel) (by decide +kernel) (by decide +kernel) (by decide +kernel) (by decide +kernel) (by decide +kernel) rfl (by decide +kernel) rfl (by decide +kernel) testcn (by decide +kernel) testcd hn testPP hat h0 h7 cont
theorem breakscn : ∀ ρ : Nat → Int, 0 ≤ ρ 1 → ρ 1 + 7 ≤ ρ 0 → ρ 0 ≤ 3584 → lEv ρ (aCn lwN) + ((mMc xm112 + mMc xm242 : Nat) : Int) ≤ ((mMc xm0 : Nat) : Int) ∧ lEv ρ (aSn lwN) + ((mMs xm112 + mMs xm242 : Nat) : Int) ≤ ((mMs xm0 : Nat) : Int) := fun ρ h1 h2 h3 => by
  have e1 : lEv ρ (aCn lwN) = 536 + 58 * ρ 1 := by
    show lEv ρ (lAdd (lK 536) (lSc 58 (lSy 1))) = _
    rw [lAdd_ev, lK_ev, lSc_ev, lSy_ev]
  have e2 : lEv ρ (aSn lwN) = 9690 + 229 * ρ 1 := by
    show lEv ρ (lAdd (lK 9690) (lSc 229 (lSy 1))) = _
    rw [lAdd_ev, lK_ev, lSc_ev, lSy_ev]
  have k : 536 + 58 * 3577 + (mMc xm112 + mMc xm242) ≤ mMc xm0 ∧ 9690 + 229 * 3577 + (mMs xm112 + mMs xm242) ≤ mMs xm0 := by decide +kernel
  rw [e1, e2]
  constructor <;> omega
theorem breakscd : ∀ ρ ρ2 : Nat → Int, ρ2 0 = ρ 0 → ρ2 1 = ρ 1 + 7 → lEv ρ (aCn lwN) + ((mMc xm112 + mMc xm242 : Nat) : Int) ≤ lEv ρ2 (aCn lwN) ∧ lEv ρ (aSn lwN) + ((mMs xm112 + mMs xm242 : Nat) : Int) ≤ lEv ρ2 (aSn lwN) := fun ρ ρ2 _ h => by
  have e1 : ∀ ρ : Nat → Int, lEv ρ (aCn lwN) = 536 + 58 * ρ 1 := fun ρ => by
    show lEv ρ (lAdd (lK 536) (lSc 58 (lSy 1))) = _
    rw [lAdd_ev, lK_ev, lSc_ev, lSy_ev]
  have e2 : ∀ ρ : Nat → Int, lEv ρ (aSn lwN) = 9690 + 229 * ρ 1 := fun ρ => by
    show lEv ρ (lAdd (lK 9690) (lSc 229 (lSy 1))) = _
    rw [lAdd_ev, lK_ev, lSc_ev, lSy_ev]
  have k : mMc xm112 + mMc xm242 ≤ 406 ∧ mMs xm112 + mMs xm242 ≤ 1603 := by decide +kernel
  rw [e1, e1, e2, e2, h]
  constructor <;> omega
theorem breaks_blk {xs : Nat → Int32} {n : Nat} {sf : Option Nat} (hsf : sf = none ∨ sf = some 1200000) (hn : n ≤ 3584) : lwBk (x_otS xs n sf) 1024 := fun ρ σ ty H Lc cn2 sn2 hat h0 h7 cont =>
  cBlkP (p1 := 1050) (p2 := 1080) (pi := 1906) (n := 5) (ixA := 101) (ixB := 104) (n1 := 1) (n2 := 3) (n3 := 1) (n4 := 1) (n5 := 3) (n6 := 1) (n7 := 3) (n8 := 3) (n9 := 3) (x6 := (822)) (x7 := 7) (x8 := (-1891)) (dp := 1299) (hd := 18) (cmp := False) p_q0 rfl gq112 gq242 (show n < 1000000 by omega) (by decide) (by decide +kernel) (by decide +kernel) (by decide +kernel) (by decide +kernel) (by decide +kernel) (by decide +kernel) (by decide +kernel) (by decide +kernel) (by decide +kernel) (by decide +kernel) (by decide +kernel) (by decide +kernel) (by decide +kernel) (by decide +kernel) (by decide +kernel) (by decide +kernel) (by decide +kernel) rfl (by decide +kernel) rfl (by decide +kernel) breakscn (by decide +kernel) breakscd hn (breaksPP hsf) hat h0 h7 cont
theorem showscn : ∀ ρ : Nat → Int, 0 ≤ ρ 1 → ρ 1 + 7 ≤ ρ 0 → ρ 0 ≤ 3584 → lEv ρ (aCn lwN) + ((mMc xm135 + mMc xm247 : Nat) : Int) ≤ ((mMc xm0 : Nat) : Int) ∧ lEv ρ (aSn lwN) + ((mMs xm135 + mMs xm247 : Nat) : Int) ≤ ((mMs xm0 : Nat) : Int) := fun ρ h1 h2 h3 => by
  have e1 : lEv ρ (aCn lwN) = 536 + 58 * ρ 1 := by
    show lEv ρ (lAdd (lK 536) (lSc 58 (lSy 1))) = _
    rw [lAdd_ev, lK_ev, lSc_ev, lSy_ev]
  have e2 : lEv ρ (aSn lwN) = 9690 + 229 * ρ 1 := by
    show lEv ρ (lAdd (lK 9690) (lSc 229 (lSy 1))) = _
    rw [lAdd_ev, lK_ev, lSc_ev, lSy_ev]
  have k : 536 + 58 * 3577 + (mMc xm135 + mMc xm247) ≤ mMc xm0 ∧ 9690 + 229 * 3577 + (mMs xm135 + mMs xm247) ≤ mMs xm0 := by decide +kernel
  rw [e1, e2]
  constructor <;> omega
theorem showscd : ∀ ρ ρ2 : Nat → Int, ρ2 0 = ρ 0 → ρ2 1 = ρ 1 + 7 → lEv ρ (aCn lwN) + ((mMc xm135 + mMc xm247 : Nat) : Int) ≤ lEv ρ2 (aCn lwN) ∧ lEv ρ (aSn lwN) + ((mMs xm135 + mMs xm247 : Nat) : Int) ≤ lEv ρ2 (aSn lwN) := fun ρ ρ2 _ h => by
  have e1 : ∀ ρ : Nat → Int, lEv ρ (aCn lwN) = 536 + 58 * ρ 1 := fun ρ => by
    show lEv ρ (lAdd (lK 536) (lSc 58 (lSy 1))) = _
    rw [lAdd_ev, lK_ev, lSc_ev, lSy_ev]
  have e2 : ∀ ρ : Nat → Int, lEv ρ (aSn lwN) = 9690 + 229 * ρ 1 := fun ρ => by
    show lEv ρ (lAdd (lK 9690) (lSc 229 (lSy 1))) = _
    rw [lAdd_ev, lK_ev, lSc_ev, lSy_ev]
  have k : mMc xm135 + mMc xm247 ≤ 406 ∧ mMs xm135 + mMs xm247 ≤ 1603 := by decide +kernel
  rw [e1, e1, e2, e2, h]
  constructor <;> omega
theorem shows_blk {xs : Nat → Int32} {n : Nat} {sf : Option Nat} (hsf : sf = none ∨ sf = some 1200000) (hn : n ≤ 3584) : lwBk (x_otS xs n sf) 1384 := fun ρ σ ty H Lc cn2 sn2 hat h0 h7 cont =>
  cBlkP (p1 := 1395) (p2 := 1410) (pi := 1906) (n := 2) (ixA := 134) (ixB := 137) (n1 := 1) (n2 := 3) (n3 := 1) (n4 := 1) (n5 := 3) (n6 := 1) (n7 := 3) (n8 := 3) (n9 := 3) (x6 := (492)) (x7 := 7) (x8 := (-1891)) (dp := 1299) (hd := 18) (cmp := False) p_q0 rfl gq135 gq247 (show n < 1000000 by omega) (by decide) (by decide +kernel) (by decide +kernel) (by decide +kernel) (by decide +kernel) (by decide +kernel) (by decide +kernel) (by decide +kernel) (by decide +kernel) (by decide +kernel) (by decide +kernel) (by decide +kernel) (by decide +kernel) (by decide +kernel) (by decide +kernel) (by decide +kernel) (by decide +kernel) (by decide +kernel) rfl (by decide +kernel) rfl (by decide +kernel) showscn (by decide +kernel) showscd hn (showsPP hsf) hat h0 h7 cont
theorem covercn : ∀ ρ : Nat → Int, 0 ≤ ρ 1 → ρ 1 + 7 ≤ ρ 0 → ρ 0 ≤ 3584 → lEv ρ (aCn lwN) + ((mMc xm137 + mMc xm249 : Nat) : Int) ≤ ((mMc xm0 : Nat) : Int) ∧ lEv ρ (aSn lwN) + ((mMs xm137 + mMs xm249 : Nat) : Int) ≤ ((mMs xm0 : Nat) : Int) := fun ρ h1 h2 h3 => by
  have e1 : lEv ρ (aCn lwN) = 536 + 58 * ρ 1 := by
    show lEv ρ (lAdd (lK 536) (lSc 58 (lSy 1))) = _
    rw [lAdd_ev, lK_ev, lSc_ev, lSy_ev]
  have e2 : lEv ρ (aSn lwN) = 9690 + 229 * ρ 1 := by
    show lEv ρ (lAdd (lK 9690) (lSc 229 (lSy 1))) = _
    rw [lAdd_ev, lK_ev, lSc_ev, lSy_ev]
  have k : 536 + 58 * 3577 + (mMc xm137 + mMc xm249) ≤ mMc xm0 ∧ 9690 + 229 * 3577 + (mMs xm137 + mMs xm249) ≤ mMs xm0 := by decide +kernel
  rw [e1, e2]
  constructor <;> omega
theorem covercd : ∀ ρ ρ2 : Nat → Int, ρ2 0 = ρ 0 → ρ2 1 = ρ 1 + 7 → lEv ρ (aCn lwN) + ((mMc xm137 + mMc xm249 : Nat) : Int) ≤ lEv ρ2 (aCn lwN) ∧ lEv ρ (aSn lwN) + ((mMs xm137 + mMs xm249 : Nat) : Int) ≤ lEv ρ2 (aSn lwN) := fun ρ ρ2 _ h => by
  have e1 : ∀ ρ : Nat → Int, lEv ρ (aCn lwN) = 536 + 58 * ρ 1 := fun ρ => by
    show lEv ρ (lAdd (lK 536) (lSc 58 (lSy 1))) = _
    rw [lAdd_ev, lK_ev, lSc_ev, lSy_ev]
  have e2 : ∀ ρ : Nat → Int, lEv ρ (aSn lwN) = 9690 + 229 * ρ 1 := fun ρ => by
    show lEv ρ (lAdd (lK 9690) (lSc 229 (lSy 1))) = _
    rw [lAdd_ev, lK_ev, lSc_ev, lSy_ev]
  have k : mMc xm137 + mMc xm249 ≤ 406 ∧ mMs xm137 + mMs xm249 ≤ 1603 := by decide +kernel
  rw [e1, e1, e2, e2, h]
  constructor <;> omega
theorem cover_blk {xs : Nat → Int32} {n : Nat} {sf : Option Nat} (hsf : sf = none ∨ sf = some 1200000) (hn : n ≤ 3584) : lwBk (x_otS xs n sf) 1417 := fun ρ σ ty H Lc cn2 sn2 hat h0 h7 cont =>
  cBlkP (p1 := 1423) (p2 := 1433) (pi := 1906) (n := 1) (ixA := 138) (ixB := 141) (n1 := 1) (n2 := 3) (n3 := 1) (n4 := 1) (n5 := 3) (n6 := 1) (n7 := 3) (n8 := 3) (n9 := 3) (x6 := (469)) (x7 := 7) (x8 := (-1891)) (dp := 1299) (hd := 18) (cmp := False) p_q0 rfl gq137 gq249 (show n < 1000000 by omega) (by decide) (by decide +kernel) (by decide +kernel) (by decide +kernel) (by decide +kernel) (by decide +kernel) (by decide +kernel) (by decide +kernel) (by decide +kernel) (by decide +kernel) (by decide +kernel) (by decide +kernel) (by decide +kernel) (by decide +kernel) (by decide +kernel) (by decide +kernel) (by decide +kernel) (by decide +kernel) rfl (by decide +kernel) rfl (by decide +kernel) covercn (by decide +kernel) covercd hn (coverPP hsf) hat h0 h7 cont
theorem firstcn : ∀ ρ : Nat → Int, 0 ≤ ρ 1 → ρ 1 + 7 ≤ ρ 0 → ρ 0 ≤ 3584 → lEv ρ (aCn lwN) + ((mMc xm140 + mMc xm223 : Nat) : Int) ≤ ((mMc xm0 : Nat) : Int) ∧ lEv ρ (aSn lwN) + ((mMs xm140 + mMs xm223 : Nat) : Int) ≤ ((mMs xm0 : Nat) : Int) := fun ρ h1 h2 h3 => by
  have e1 : lEv ρ (aCn lwN) = 536 + 58 * ρ 1 := by
    show lEv ρ (lAdd (lK 536) (lSc 58 (lSy 1))) = _
    rw [lAdd_ev, lK_ev, lSc_ev, lSy_ev]
  have e2 : lEv ρ (aSn lwN) = 9690 + 229 * ρ 1 := by
    show lEv ρ (lAdd (lK 9690) (lSc 229 (lSy 1))) = _
    rw [lAdd_ev, lK_ev, lSc_ev, lSy_ev]
  have k : 536 + 58 * 3577 + (mMc xm140 + mMc xm223) ≤ mMc xm0 ∧ 9690 + 229 * 3577 + (mMs xm140 + mMs xm223) ≤ mMs xm0 := by decide +kernel
  rw [e1, e2]
  constructor <;> omega
theorem firstcd : ∀ ρ ρ2 : Nat → Int, ρ2 0 = ρ 0 → ρ2 1 = ρ 1 + 7 → lEv ρ (aCn lwN) + ((mMc xm140 + mMc xm223 : Nat) : Int) ≤ lEv ρ2 (aCn lwN) ∧ lEv ρ (aSn lwN) + ((mMs xm140 + mMs xm223 : Nat) : Int) ≤ lEv ρ2 (aSn lwN) := fun ρ ρ2 _ h => by
  have e1 : ∀ ρ : Nat → Int, lEv ρ (aCn lwN) = 536 + 58 * ρ 1 := fun ρ => by
    show lEv ρ (lAdd (lK 536) (lSc 58 (lSy 1))) = _
    rw [lAdd_ev, lK_ev, lSc_ev, lSy_ev]
  have e2 : ∀ ρ : Nat → Int, lEv ρ (aSn lwN) = 9690 + 229 * ρ 1 := fun ρ => by
    show lEv ρ (lAdd (lK 9690) (lSc 229 (lSy 1))) = _
    rw [lAdd_ev, lK_ev, lSc_ev, lSy_ev]
  have k : mMc xm140 + mMc xm223 ≤ 406 ∧ mMs xm140 + mMs xm223 ≤ 1603 := by decide +kernel
  rw [e1, e1, e2, e2, h]
  constructor <;> omega
theorem first_blk {xs : Nat → Int32} {n : Nat} {sf : Option Nat} (hsf : sf = none ∨ sf = some 1200000) (hn : n ≤ 3584) : lwBk (x_otS xs n sf) 1440 := fun ρ σ ty H Lc cn2 sn2 hat h0 h7 cont =>
  cBlkP (p1 := 1461) (p2 := 1486) (pi := 1906) (n := 4) (ixA := 142) (ixB := 145) (n1 := 1) (n2 := 3) (n3 := 1) (n4 := 1) (n5 := 3) (n6 := 1) (n7 := 3) (n8 := 3) (n9 := 3) (x6 := (416)) (x7 := 7) (x8 := (-1891)) (dp := 1299) (hd := 18) (cmp := False) p_q0 rfl gq140 gq223 (show n < 1000000 by omega) (by decide) (by decide +kernel) (by decide +kernel) (by decide +kernel) (by decide +kernel) (by decide +kernel) (by decide +kernel) (by decide +kernel) (by decide +kernel) (by decide +kernel) (by decide +kernel) (by decide +kernel) (by decide +kernel) (by decide +kernel) (by decide +kernel) (by decide +kernel) (by decide +kernel) (by decide +kernel) rfl (by decide +kernel) rfl (by decide +kernel) firstcn (by decide +kernel) firstcd hn (firstPP hsf) hat h0 h7 cont
theorem besidecn : ∀ ρ : Nat → Int, 0 ≤ ρ 1 → ρ 1 + 7 ≤ ρ 0 → ρ 0 ≤ 3584 → lEv ρ (aCn lwN) + ((mMc xm146 + mMc xm221 : Nat) : Int) ≤ ((mMc xm0 : Nat) : Int) ∧ lEv ρ (aSn lwN) + ((mMs xm146 + mMs xm221 : Nat) : Int) ≤ ((mMs xm0 : Nat) : Int) := fun ρ h1 h2 h3 => by
  have e1 : lEv ρ (aCn lwN) = 536 + 58 * ρ 1 := by
    show lEv ρ (lAdd (lK 536) (lSc 58 (lSy 1))) = _
    rw [lAdd_ev, lK_ev, lSc_ev, lSy_ev]
  have e2 : lEv ρ (aSn lwN) = 9690 + 229 * ρ 1 := by
    show lEv ρ (lAdd (lK 9690) (lSc 229 (lSy 1))) = _
    rw [lAdd_ev, lK_ev, lSc_ev, lSy_ev]
  have k : 536 + 58 * 3577 + (mMc xm146 + mMc xm221) ≤ mMc xm0 ∧ 9690 + 229 * 3577 + (mMs xm146 + mMs xm221) ≤ mMs xm0 := by decide +kernel
  rw [e1, e2]
  constructor <;> omega
theorem besidecd : ∀ ρ ρ2 : Nat → Int, ρ2 0 = ρ 0 → ρ2 1 = ρ 1 + 7 → lEv ρ (aCn lwN) + ((mMc xm146 + mMc xm221 : Nat) : Int) ≤ lEv ρ2 (aCn lwN) ∧ lEv ρ (aSn lwN) + ((mMs xm146 + mMs xm221 : Nat) : Int) ≤ lEv ρ2 (aSn lwN) := fun ρ ρ2 _ h => by
  have e1 : ∀ ρ : Nat → Int, lEv ρ (aCn lwN) = 536 + 58 * ρ 1 := fun ρ => by
    show lEv ρ (lAdd (lK 536) (lSc 58 (lSy 1))) = _
    rw [lAdd_ev, lK_ev, lSc_ev, lSy_ev]
  have e2 : ∀ ρ : Nat → Int, lEv ρ (aSn lwN) = 9690 + 229 * ρ 1 := fun ρ => by
    show lEv ρ (lAdd (lK 9690) (lSc 229 (lSy 1))) = _
    rw [lAdd_ev, lK_ev, lSc_ev, lSy_ev]
  have k : mMc xm146 + mMc xm221 ≤ 406 ∧ mMs xm146 + mMs xm221 ≤ 1603 := by decide +kernel
  rw [e1, e1, e2, e2, h]
  constructor <;> omega
theorem beside_blk {xs : Nat → Int32} {n : Nat} {sf : Option Nat} (hsf : sf = none ∨ sf = some 1200000) (hn : n ≤ 3584) : lwBk (x_otS xs n sf) 1493 := fun ρ σ ty H Lc cn2 sn2 hat h0 h7 cont =>
  cBlkP (p1 := 1499) (p2 := 1509) (pi := 1906) (n := 1) (ixA := 146) (ixB := 149) (n1 := 1) (n2 := 3) (n3 := 1) (n4 := 1) (n5 := 3) (n6 := 1) (n7 := 3) (n8 := 3) (n9 := 3) (x6 := (393)) (x7 := 7) (x8 := (-1891)) (dp := 1299) (hd := 18) (cmp := False) p_q0 rfl gq146 gq221 (show n < 1000000 by omega) (by decide) (by decide +kernel) (by decide +kernel) (by decide +kernel) (by decide +kernel) (by decide +kernel) (by decide +kernel) (by decide +kernel) (by decide +kernel) (by decide +kernel) (by decide +kernel) (by decide +kernel) (by decide +kernel) (by decide +kernel) (by decide +kernel) (by decide +kernel) (by decide +kernel) (by decide +kernel) rfl (by decide +kernel) rfl (by decide +kernel) besidecn (by decide +kernel) besidecd hn (besidePP hsf) hat h0 h7 cont
theorem sheetcn : ∀ ρ : Nat → Int, 0 ≤ ρ 1 → ρ 1 + 7 ≤ ρ 0 → ρ 0 ≤ 3584 → lEv ρ (aCn lwN) + ((mMc xm174 + mMc xm272 : Nat) : Int) ≤ ((mMc xm0 : Nat) : Int) ∧ lEv ρ (aSn lwN) + ((mMs xm174 + mMs xm272 : Nat) : Int) ≤ ((mMs xm0 : Nat) : Int) := fun ρ h1 h2 h3 => by
  have e1 : lEv ρ (aCn lwN) = 536 + 58 * ρ 1 := by
    show lEv ρ (lAdd (lK 536) (lSc 58 (lSy 1))) = _
    rw [lAdd_ev, lK_ev, lSc_ev, lSy_ev]
  have e2 : lEv ρ (aSn lwN) = 9690 + 229 * ρ 1 := by
    show lEv ρ (lAdd (lK 9690) (lSc 229 (lSy 1))) = _
    rw [lAdd_ev, lK_ev, lSc_ev, lSy_ev]
  have k : 536 + 58 * 3577 + (mMc xm174 + mMc xm272) ≤ mMc xm0 ∧ 9690 + 229 * 3577 + (mMs xm174 + mMs xm272) ≤ mMs xm0 := by decide +kernel
  rw [e1, e2]
  constructor <;> omega
theorem sheetcd : ∀ ρ ρ2 : Nat → Int, ρ2 0 = ρ 0 → ρ2 1 = ρ 1 + 7 → lEv ρ (aCn lwN) + ((mMc xm174 + mMc xm272 : Nat) : Int) ≤ lEv ρ2 (aCn lwN) ∧ lEv ρ (aSn lwN) + ((mMs xm174 + mMs xm272 : Nat) : Int) ≤ lEv ρ2 (aSn lwN) := fun ρ ρ2 _ h => by
  have e1 : ∀ ρ : Nat → Int, lEv ρ (aCn lwN) = 536 + 58 * ρ 1 := fun ρ => by
    show lEv ρ (lAdd (lK 536) (lSc 58 (lSy 1))) = _
    rw [lAdd_ev, lK_ev, lSc_ev, lSy_ev]
  have e2 : ∀ ρ : Nat → Int, lEv ρ (aSn lwN) = 9690 + 229 * ρ 1 := fun ρ => by
    show lEv ρ (lAdd (lK 9690) (lSc 229 (lSy 1))) = _
    rw [lAdd_ev, lK_ev, lSc_ev, lSy_ev]
  have k : mMc xm174 + mMc xm272 ≤ 406 ∧ mMs xm174 + mMs xm272 ≤ 1603 := by decide +kernel
  rw [e1, e1, e2, e2, h]
  constructor <;> omega
theorem sheet_blk {xs : Nat → Int32} {n : Nat} {sf : Option Nat} (hn : n ≤ 3584) : lwBk (x_otS xs n sf) 1757 := fun ρ σ ty H Lc cn2 sn2 hat h0 h7 cont =>
  cBlkP (p1 := 1773) (p2 := 1793) (pi := 1906) (n := 3) (ixA := 178) (ixB := 181) (n1 := 1) (n2 := 3) (n3 := 1) (n4 := 1) (n5 := 3) (n6 := 1) (n7 := 3) (n8 := 3) (n9 := 3) (x6 := (109)) (x7 := 7) (x8 := (-1891)) (dp := 1299) (hd := 18) (cmp := True) p_q0 rfl gq174 gq272 (show n < 1000000 by omega) (by decide) (by decide +kernel) (by decide +kernel) (by decide +kernel) (by decide +kernel) (by decide +kernel) (by decide +kernel) (by decide +kernel) (by decide +kernel) (by decide +kernel) (by decide +kernel) (by decide +kernel) (by decide +kernel) (by decide +kernel) (by decide +kernel) (by decide +kernel) (by decide +kernel) (by decide +kernel) rfl (by decide +kernel) rfl (by decide +kernel) sheetcn (by decide +kernel) sheetcd hn sheetPP hat h0 h7 cont
theorem cellcn : ∀ ρ : Nat → Int, 0 ≤ ρ 1 → ρ 1 + 7 ≤ ρ 0 → ρ 0 ≤ 3584 → lEv ρ (aCn lwN) + ((mMc xm176 + mMc xm273 : Nat) : Int) ≤ ((mMc xm0 : Nat) : Int) ∧ lEv ρ (aSn lwN) + ((mMs xm176 + mMs xm273 : Nat) : Int) ≤ ((mMs xm0 : Nat) : Int) := fun ρ h1 h2 h3 => by
  have e1 : lEv ρ (aCn lwN) = 536 + 58 * ρ 1 := by
    show lEv ρ (lAdd (lK 536) (lSc 58 (lSy 1))) = _
    rw [lAdd_ev, lK_ev, lSc_ev, lSy_ev]
  have e2 : lEv ρ (aSn lwN) = 9690 + 229 * ρ 1 := by
    show lEv ρ (lAdd (lK 9690) (lSc 229 (lSy 1))) = _
    rw [lAdd_ev, lK_ev, lSc_ev, lSy_ev]
  have k : 536 + 58 * 3577 + (mMc xm176 + mMc xm273) ≤ mMc xm0 ∧ 9690 + 229 * 3577 + (mMs xm176 + mMs xm273) ≤ mMs xm0 := by decide +kernel
  rw [e1, e2]
  constructor <;> omega
theorem cellcd : ∀ ρ ρ2 : Nat → Int, ρ2 0 = ρ 0 → ρ2 1 = ρ 1 + 7 → lEv ρ (aCn lwN) + ((mMc xm176 + mMc xm273 : Nat) : Int) ≤ lEv ρ2 (aCn lwN) ∧ lEv ρ (aSn lwN) + ((mMs xm176 + mMs xm273 : Nat) : Int) ≤ lEv ρ2 (aSn lwN) := fun ρ ρ2 _ h => by
  have e1 : ∀ ρ : Nat → Int, lEv ρ (aCn lwN) = 536 + 58 * ρ 1 := fun ρ => by
    show lEv ρ (lAdd (lK 536) (lSc 58 (lSy 1))) = _
    rw [lAdd_ev, lK_ev, lSc_ev, lSy_ev]
  have e2 : ∀ ρ : Nat → Int, lEv ρ (aSn lwN) = 9690 + 229 * ρ 1 := fun ρ => by
    show lEv ρ (lAdd (lK 9690) (lSc 229 (lSy 1))) = _
    rw [lAdd_ev, lK_ev, lSc_ev, lSy_ev]
  have k : mMc xm176 + mMc xm273 ≤ 406 ∧ mMs xm176 + mMs xm273 ≤ 1603 := by decide +kernel
  rw [e1, e1, e2, e2, h]
  constructor <;> omega
theorem cell_blk {xs : Nat → Int32} {n : Nat} {sf : Option Nat} (hn : n ≤ 3584) : lwBk (x_otS xs n sf) 1800 := fun ρ σ ty H Lc cn2 sn2 hat h0 h7 cont =>
  cBlkP (p1 := 1816) (p2 := 1836) (pi := 1906) (n := 3) (ixA := 182) (ixB := 185) (n1 := 1) (n2 := 3) (n3 := 1) (n4 := 1) (n5 := 3) (n6 := 1) (n7 := 3) (n8 := 3) (n9 := 3) (x6 := (66)) (x7 := 7) (x8 := (-1891)) (dp := 1299) (hd := 18) (cmp := True) p_q0 rfl gq176 gq273 (show n < 1000000 by omega) (by decide) (by decide +kernel) (by decide +kernel) (by decide +kernel) (by decide +kernel) (by decide +kernel) (by decide +kernel) (by decide +kernel) (by decide +kernel) (by decide +kernel) (by decide +kernel) (by decide +kernel) (by decide +kernel) (by decide +kernel) (by decide +kernel) (by decide +kernel) (by decide +kernel) (by decide +kernel) rfl (by decide +kernel) rfl (by decide +kernel) cellcn (by decide +kernel) cellcd hn cellPP hat h0 h7 cont
theorem copycn : ∀ ρ : Nat → Int, 0 ≤ ρ 1 → ρ 1 + 7 ≤ ρ 0 → ρ 0 ≤ 3584 → lEv ρ (aCn lwN) + ((mMc xm178 + mMc xm274 : Nat) : Int) ≤ ((mMc xm0 : Nat) : Int) ∧ lEv ρ (aSn lwN) + ((mMs xm178 + mMs xm274 : Nat) : Int) ≤ ((mMs xm0 : Nat) : Int) := fun ρ h1 h2 h3 => by
  have e1 : lEv ρ (aCn lwN) = 536 + 58 * ρ 1 := by
    show lEv ρ (lAdd (lK 536) (lSc 58 (lSy 1))) = _
    rw [lAdd_ev, lK_ev, lSc_ev, lSy_ev]
  have e2 : lEv ρ (aSn lwN) = 9690 + 229 * ρ 1 := by
    show lEv ρ (lAdd (lK 9690) (lSc 229 (lSy 1))) = _
    rw [lAdd_ev, lK_ev, lSc_ev, lSy_ev]
  have k : 536 + 58 * 3577 + (mMc xm178 + mMc xm274) ≤ mMc xm0 ∧ 9690 + 229 * 3577 + (mMs xm178 + mMs xm274) ≤ mMs xm0 := by decide +kernel
  rw [e1, e2]
  constructor <;> omega
theorem copycd : ∀ ρ ρ2 : Nat → Int, ρ2 0 = ρ 0 → ρ2 1 = ρ 1 + 7 → lEv ρ (aCn lwN) + ((mMc xm178 + mMc xm274 : Nat) : Int) ≤ lEv ρ2 (aCn lwN) ∧ lEv ρ (aSn lwN) + ((mMs xm178 + mMs xm274 : Nat) : Int) ≤ lEv ρ2 (aSn lwN) := fun ρ ρ2 _ h => by
  have e1 : ∀ ρ : Nat → Int, lEv ρ (aCn lwN) = 536 + 58 * ρ 1 := fun ρ => by
    show lEv ρ (lAdd (lK 536) (lSc 58 (lSy 1))) = _
    rw [lAdd_ev, lK_ev, lSc_ev, lSy_ev]
  have e2 : ∀ ρ : Nat → Int, lEv ρ (aSn lwN) = 9690 + 229 * ρ 1 := fun ρ => by
    show lEv ρ (lAdd (lK 9690) (lSc 229 (lSy 1))) = _
    rw [lAdd_ev, lK_ev, lSc_ev, lSy_ev]
  have k : mMc xm178 + mMc xm274 ≤ 406 ∧ mMs xm178 + mMs xm274 ≤ 1603 := by decide +kernel
  rw [e1, e1, e2, e2, h]
  constructor <;> omega
theorem copy_blk {xs : Nat → Int32} {n : Nat} {sf : Option Nat} (hn : n ≤ 3584) : lwBk (x_otS xs n sf) 1843 := fun ρ σ ty H Lc cn2 sn2 hat h0 h7 cont =>
  cBlkP (p1 := 1869) (p2 := 1899) (pi := 1906) (n := 5) (ixA := 186) (ixB := 189) (n1 := 1) (n2 := 3) (n3 := 1) (n4 := 1) (n5 := 3) (n6 := 1) (n7 := 3) (n8 := 3) (n9 := 3) (x6 := (3)) (x7 := 7) (x8 := (-1891)) (dp := 1299) (hd := 18) (cmp := True) p_q0 rfl gq178 gq274 (show n < 1000000 by omega) (by decide) (by decide +kernel) (by decide +kernel) (by decide +kernel) (by decide +kernel) (by decide +kernel) (by decide +kernel) (by decide +kernel) (by decide +kernel) (by decide +kernel) (by decide +kernel) (by decide +kernel) (by decide +kernel) (by decide +kernel) (by decide +kernel) (by decide +kernel) (by decide +kernel) (by decide +kernel) rfl (by decide +kernel) rfl (by decide +kernel) copycn (by decide +kernel) copycd hn copyPP hat h0 h7 cont
theorem bookcn : ∀ ρ : Nat → Int, 0 ≤ ρ 1 → ρ 1 + 7 ≤ ρ 0 → ρ 0 ≤ 3584 → lEv ρ (aCn lwN) + ((mMc xm109 + mMc xm241 : Nat) : Int) ≤ ((mMc xm0 : Nat) : Int) ∧ lEv ρ (aSn lwN) + ((mMs xm109 + mMs xm241 : Nat) : Int) ≤ ((mMs xm0 : Nat) : Int) := fun ρ h1 h2 h3 => by
  have e1 : lEv ρ (aCn lwN) = 536 + 58 * ρ 1 := by
    show lEv ρ (lAdd (lK 536) (lSc 58 (lSy 1))) = _
    rw [lAdd_ev, lK_ev, lSc_ev, lSy_ev]
  have e2 : lEv ρ (aSn lwN) = 9690 + 229 * ρ 1 := by
    show lEv ρ (lAdd (lK 9690) (lSc 229 (lSy 1))) = _
    rw [lAdd_ev, lK_ev, lSc_ev, lSy_ev]
  have k : 536 + 58 * 3577 + (mMc xm109 + mMc xm241) ≤ mMc xm0 ∧ 9690 + 229 * 3577 + (mMs xm109 + mMs xm241) ≤ mMs xm0 := by decide +kernel
  rw [e1, e2]
  constructor <;> omega
theorem bookcd : ∀ ρ ρ2 : Nat → Int, ρ2 0 = ρ 0 → ρ2 1 = ρ 1 + 7 → lEv ρ (aCn lwN) + ((mMc xm109 + mMc xm241 : Nat) : Int) ≤ lEv ρ2 (aCn lwN) ∧ lEv ρ (aSn lwN) + ((mMs xm109 + mMs xm241 : Nat) : Int) ≤ lEv ρ2 (aSn lwN) := fun ρ ρ2 _ h => by
  have e1 : ∀ ρ : Nat → Int, lEv ρ (aCn lwN) = 536 + 58 * ρ 1 := fun ρ => by
    show lEv ρ (lAdd (lK 536) (lSc 58 (lSy 1))) = _
    rw [lAdd_ev, lK_ev, lSc_ev, lSy_ev]
  have e2 : ∀ ρ : Nat → Int, lEv ρ (aSn lwN) = 9690 + 229 * ρ 1 := fun ρ => by
    show lEv ρ (lAdd (lK 9690) (lSc 229 (lSy 1))) = _
    rw [lAdd_ev, lK_ev, lSc_ev, lSy_ev]
  have k : mMc xm109 + mMc xm241 ≤ 406 ∧ mMs xm109 + mMs xm241 ≤ 1603 := by decide +kernel
  rw [e1, e1, e2, e2, h]
  constructor <;> omega
theorem book_blk {xs : Nat → Int32} {n : Nat} {sf : Option Nat} (hn : n ≤ 3584) : lwBk (x_otS xs n sf) 991 := fun ρ σ ty H Lc cn2 sn2 hat h0 h7 cont =>
  cBlkD (p1 := 1002) (p2 := 1016) (pi := 1906) (n := 2) (ixA := 97) (ixB := 100) (n1 := 1) (n2 := 3) (n4 := 1) (n5 := 3) (n6 := 3) (n8 := 3) (n9 := 3) (x5 := (887)) (x7 := 7) (x8 := (-1891)) (dp := 1299) (hd := 18) (cmp := True) trivial p_q0 rfl gq109 gq241 (show n < 1000000 by omega) (by decide) (by decide +kernel) (by decide +kernel) (by decide +kernel) (by decide +kernel) (by decide +kernel) (by decide +kernel) (by decide +kernel) (by decide +kernel) (by decide +kernel) (by decide +kernel) (by decide +kernel) (by decide +kernel) (by decide +kernel) (by decide +kernel) (by decide +kernel) rfl (by decide +kernel) rfl (by decide +kernel) bookcn (by decide +kernel) bookcd hn bookPP hat h0 h7 cont
theorem p_blk (xs : Nat → Int32) (n : Nat) (hn : n ≤ 3584) {sf : Option Nat} (hsf : sf = none ∨ sf = some 1200000) : ∀ pc ∈ lwCb, lwBk (x_otS xs n sf) pc := by
  intro pc hpc
  have hpc : pc ∈ ([216, 249, 338, 381, 414, 477, 668, 757, 810, 885, 938, 991, 1024, 1384, 1417, 1440, 1493, 1757, 1800, 1843] : List Nat) := hpc
  simp only [List.mem_cons, List.not_mem_nil, or_false] at hpc
  rcases hpc with rfl | rfl | rfl | rfl | rfl | rfl | rfl | rfl | rfl | rfl | rfl | rfl | rfl | rfl | rfl | rfl | rfl | rfl | rfl | rfl
  · exact feed_blk hn
  · exact program_blk hsf hn
  · exact set_blk hn
  · exact input_blk hn
  · exact shelf_blk hn
  · exact run_blk hn
  · exact night_blk hn
  · exact does_blk hn
  · exact mend_blk hn
  · exact mendRule_blk hn
  · exact test_blk hn
  · exact book_blk hn
  · exact breaks_blk hsf hn
  · exact shows_blk hsf hn
  · exact cover_blk hsf hn
  · exact first_blk hsf hn
  · exact beside_blk hsf hn
  · exact sheet_blk hn
  · exact cell_blk hn
  · exact copy_blk hn
end XRuG5
