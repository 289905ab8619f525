/-! Runs: graphs, blocks, 0. -/
noncomputable section XRuG0
theorem uKa : kCl x_KT.1 uPA = true := by decide +kernel
theorem uKb : kCl x_KT.1 uPB = true := by decide +kernel
theorem uKj : x_KT.1.all (fun kd => match kd with | .inr o => decide (o.1 ≠ 77) | _ => true) = true := by decide +kernel
theorem uKdj : ∀ c, uPA c = true → uPB c = true → False := fun c h1 h2 => by
  have h1 := Nat.le_of_ble_eq_true h1
  have h2 := Nat.le_of_ble_eq_true h2
  omega
theorem uKt (c : Nat) : uPA c = true ∨ uPB c = true := by
  rcases Nat.lt_or_ge 47 c with h | h
  · exact Or.inr (Nat.ble_eq_true_of_le (by omega))
  · exact Or.inl (Nat.ble_eq_true_of_le (by omega))
/-- rows that stand in both alike stay so -/
theorem uKeep {WA WB : List (Nat × Nat)} (hk : lwPr.all (fun p => decide (p.1 < 66) && decide (p.2 < 66) && unW (WA ++ WB) (aG lwN) p.1 && unW (WA ++ WB) (aG lwN) p.2) = true) : ∀ (ρ : Nat → Int) (σ : Nat → Nat) (ty : Nat → Option Nat) (H : List (XC Int32)) (ρ2 : Nat → Int) (σ2 : Nat → Nat) (ty2 : Nat → Option Nat) (HH : List (XC Int32)), vRel x_KT ρ σ ty H (aSt lwN) → lwP1 σ ty H → (∀ i, i < u_ps.length → sR σ2 i = sR σ i) → vRel x_KT ρ2 σ2 ty2 HH (aSt lwN) → vFrm WA (tyP uPA ty) H HH → vFrm WB (tyP uPB ty) H HH → lwP1 σ2 ty2 HH := by
  intro ρ σ ty H ρ2 σ2 ty2 HH h hP hs h2 fA fB p hp
  obtain ⟨t, vs, h1, h2⟩ := hP p hp
  have k := List.all_eq_true.mp hk p hp
  simp only [Bool.and_eq_true] at k
  obtain ⟨⟨⟨k1, k2⟩, k3⟩, k4⟩ := k
  have k1 := of_decide_eq_true k1
  have k2 := of_decide_eq_true k2
  have hf := vFrm_two uKt fA fB
  have hl : u_ps.length = 66 := rfl
  obtain ⟨c, c1, c2, c3⟩ := unW_spec k3
  obtain ⟨d, d1, d2, d3⟩ := unW_spec k4
  exact ⟨t, vs, by rw [hs _ (by omega)]; exact vFrm_row hf (h.2.1 _ c c1) c2 c3 h1, by rw [hs _ (by omega)]; exact vFrm_row hf (h.2.1 _ d d1) d2 d3 h2⟩
theorem x_ckS {xs : Nat → Int32} {n : Nat} {sf : Option Nat} (hsf : sf = none ∨ sf = some 1200000) : ∀ j c, c ∈ x_cp j → vCtSem x_KT x_tb x_tyl (x_otS xs n sf) j c := by
  intro j c h
  unfold x_cp at h
  split at h
  · rename_i e
    subst e
    rcases List.mem_singleton.mp h with rfl
    refine vMeth_spec (ot := x_otS xs n sf) (ov := x_ovS sf) (vOvLe_rf (x_ovS sf)) (CT := fun _ => []) (fun _ _ h => absurd h List.not_mem_nil) (hs := x_hs) (kn := x_knd) (f := 400) ?_
    rcases hsf with rfl | rfl
    · exact x_ckA
    · exact x_ckB
  · exact absurd h List.not_mem_nil
set_option maxRecDepth 1000000 in
theorem gq11 : tMth x_tb 11 = some xm11 := rfl
set_option maxRecDepth 1000000 in
theorem gq180 : tMth x_tb 180 = some xm180 := rfl
theorem feedN0 {xs : Nat → Int32} {n : Nat} {sf : Option Nat} : wGoes x_KT x_tb x_tyl (x_otS xs n sf) lwFR lwGA.length lwGB.length 5 24 42 feedWA feedWB 11 180 60 60 feed_in feedo0 :=
  wDp (wWk (wEd_spec (x_ov0_le sf) u_ctS lwFRok feedE0) (Nat.le_refl _) (Nat.le_refl _) (Nat.le_refl _) (by decide +kernel) (by decide +kernel)) (by decide) (by decide)
theorem feedN1 {xs : Nat → Int32} {n : Nat} {sf : Option Nat} : wGoes x_KT x_tb x_tyl (x_otS xs n sf) lwFR lwGA.length lwGB.length 5 24 42 feedWA feedWB 11 180 60 60 feed_lo feedo1 :=
  wDp (wWk (wEd_spec (x_ov0_le sf) u_ctS lwFRok feedE1) (Nat.le_refl _) (Nat.le_refl _) (Nat.le_refl _) (by decide +kernel) (by decide +kernel)) (by decide) (by decide)
theorem feedN2 {xs : Nat → Int32} {n : Nat} {sf : Option Nat} : wGoes x_KT x_tb x_tyl (x_otS xs n sf) lwFR lwGA.length lwGB.length 5 24 42 feedWA feedWB 11 180 60 60 feed_hi feedo2 :=
  wDp (wWk (wEd_spec (x_ov0_le sf) u_ctS lwFRok feedE2) (Nat.le_refl _) (Nat.le_refl _) (Nat.le_refl _) (by decide +kernel) (by decide +kernel)) (by decide) (by decide)
theorem feedN3 {xs : Nat → Int32} {n : Nat} {sf : Option Nat} : wGoes x_KT x_tb x_tyl (x_otS xs n sf) lwFR lwGA.length lwGB.length 5 24 42 feedWA feedWB 11 180 60 60 feed_f1 feedo3 :=
  wDp (wWk (wEd_spec (x_ov0_le sf) u_ctS lwFRok feedE3) (Nat.le_refl _) (Nat.le_refl _) (Nat.le_refl _) (by decide +kernel) (by decide +kernel)) (by decide) (by decide)
theorem feedN4 {xs : Nat → Int32} {n : Nat} {sf : Option Nat} : wGoes x_KT x_tb x_tyl (x_otS xs n sf) lwFR lwGA.length lwGB.length 5 24 42 feedWA feedWB 11 180 60 60 feed_f2 feedo4 :=
  wDp (wWk (wEd_spec (x_ov0_le sf) u_ctS lwFRok feedE4) (Nat.le_refl _) (Nat.le_refl _) (Nat.le_refl _) (by decide +kernel) (by decide +kernel)) (by decide) (by decide)
theorem feedN5 {xs : Nat → Int32} {n : Nat} {sf : Option Nat} : wGoes x_KT x_tb x_tyl (x_otS xs n sf) lwFR lwGA.length lwGB.length 5 24 42 feedWA feedWB 11 180 60 60 feed_f3 feedo5 :=
  wDp (wWk (wEd_spec (x_ov0_le sf) u_ctS lwFRok feedE5) (Nat.le_refl _) (Nat.le_refl _) (Nat.le_refl _) (by decide +kernel) (by decide +kernel)) (by decide) (by decide)
theorem feedN6 {xs : Nat → Int32} {n : Nat} {sf : Option Nat} : wGoes x_KT x_tb x_tyl (x_otS xs n sf) lwFR lwGA.length lwGB.length 5 24 42 feedWA feedWB 11 180 60 60 feed_f4 feedo6 :=
  wDp (wWk (wEd_spec (x_ov0_le sf) u_ctS lwFRok feedE6) (Nat.le_refl _) (Nat.le_refl _) (Nat.le_refl _) (by decide +kernel) (by decide +kernel)) (by decide) (by decide)
theorem feedN7 {xs : Nat → Int32} {n : Nat} {sf : Option Nat} : wGoes x_KT x_tb x_tyl (x_otS xs n sf) lwFR lwGA.length lwGB.length 5 24 42 feedWA feedWB 11 180 60 60 feed_m0 feedo7 :=
  wDp (wWk (wEd_spec (x_ov0_le sf) u_ctS lwFRok feedE7) (Nat.le_refl _) (Nat.le_refl _) (Nat.le_refl _) (by decide +kernel) (by decide +kernel)) (by decide) (by decide)
theorem feedN8 {xs : Nat → Int32} {n : Nat} {sf : Option Nat} : wGoes x_KT x_tb x_tyl (x_otS xs n sf) lwFR lwGA.length lwGB.length 5 24 42 feedWA feedWB 11 180 60 60 feed_m1 feedo8 :=
  wDp (wWk (wFamE2 (V := [25]) (x_ov0_le sf) u_ctS lwFRok feedE8 (by decide) (by decide) (fun i hi u hu => by
      have hi : i ∈ ([25] : List Nat) := hi
      simp only [List.mem_cons, List.not_mem_nil, or_false] at hi
      rcases hi with rfl
      · cases hu
        exact wRkE_spec (x_ov0_le sf) u_ctS lwFRok feedE8R25)) (Nat.le_refl _) (Nat.le_refl _) (Nat.le_refl _) (by decide +kernel) (by decide +kernel)) (by decide) (by decide)
theorem feedN9 {xs : Nat → Int32} {n : Nat} {sf : Option Nat} : wGoes x_KT x_tb x_tyl (x_otS xs n sf) lwFR lwGA.length lwGB.length 5 24 42 feedWA feedWB 11 180 60 60 feed_m2 feedo9 :=
  wDp (wWk (wFamE2 (V := [25]) (x_ov0_le sf) u_ctS lwFRok feedE9 (by decide) (by decide) (fun i hi u hu => by
      have hi : i ∈ ([25] : List Nat) := hi
      simp only [List.mem_cons, List.not_mem_nil, or_false] at hi
      rcases hi with rfl
      · cases hu
        exact wRkE_spec (x_ov0_le sf) u_ctS lwFRok feedE9R25)) (Nat.le_refl _) (Nat.le_refl _) (Nat.le_refl _) (by decide +kernel) (by decide +kernel)) (by decide) (by decide)
theorem feedN10 {xs : Nat → Int32} {n : Nat} {sf : Option Nat} : wGoes x_KT x_tb x_tyl (x_otS xs n sf) lwFR lwGA.length lwGB.length 5 24 42 feedWA feedWB 11 180 60 60 feed_m3 feedo10 :=
  wDp (wWk (wFamE2 (V := [25]) (x_ov0_le sf) u_ctS lwFRok feedE10 (by decide) (by decide) (fun i hi u hu => by
      have hi : i ∈ ([25] : List Nat) := hi
      simp only [List.mem_cons, List.not_mem_nil, or_false] at hi
      rcases hi with rfl
      · cases hu
        exact wRkE_spec (x_ov0_le sf) u_ctS lwFRok feedE10R25)) (Nat.le_refl _) (Nat.le_refl _) (Nat.le_refl _) (by decide +kernel) (by decide +kernel)) (by decide) (by decide)
theorem feedN11 {xs : Nat → Int32} {n : Nat} {sf : Option Nat} : wGoes x_KT x_tb x_tyl (x_otS xs n sf) lwFR lwGA.length lwGB.length 5 24 42 feedWA feedWB 11 180 60 60 feed_m4 feedo11 :=
  wDp (wWk (wFamE2 (V := [25]) (x_ov0_le sf) u_ctS lwFRok feedE11 (by decide) (by decide) (fun i hi u hu => by
      have hi : i ∈ ([25] : List Nat) := hi
      simp only [List.mem_cons, List.not_mem_nil, or_false] at hi
      rcases hi with rfl
      · cases hu
        exact wRkE_spec (x_ov0_le sf) u_ctS lwFRok feedE11R25)) (Nat.le_refl _) (Nat.le_refl _) (Nat.le_refl _) (by decide +kernel) (by decide +kernel)) (by decide) (by decide)
def feed_g0_nd : List wE := [feed_in, feed_lo, feed_hi, feed_m0, feed_m1, feed_m2, feed_m3, feed_m4, feed_f1, feed_f2, feed_f3, feed_f4]
theorem feed_g0_G {xs : Nat → Int32} {n : Nat} {sf : Option Nat} : ∀ nd ∈ feed_g0_nd, wGoes x_KT x_tb x_tyl (x_otS xs n sf) lwFR lwGA.length lwGB.length 5 24 42 feedWA feedWB 11 180 60 60 nd (feed_g0_ex.map (fun x => (false, x))) := wGraph (fun nd hnd => by
  have hnd : nd ∈ ([feed_in, feed_lo, feed_hi, feed_m0, feed_m1, feed_m2, feed_m3, feed_m4, feed_f1, feed_f2, feed_f3, feed_f4] : List wE) := hnd
  simp only [List.mem_cons, List.not_mem_nil, or_false] at hnd
  rcases hnd with rfl | rfl | rfl | rfl | rfl | rfl | rfl | rfl | rfl | rfl | rfl | rfl
  · refine ⟨feedo0, feedN0, fun o ho => ?_⟩
    have ho : o ∈ ([(true, feed_lo), (true, feed_hi), (true, feed_m0), (true, feed_m1), (true, feed_m2), (true, feed_m3), (true, feed_m4), (true, feed_f1), (true, feed_f2), (true, feed_f3), (true, feed_f4)] : List (Bool × wE)) := ho
    simp only [List.mem_cons, List.not_mem_nil, or_false] at ho
    rcases ho with rfl | rfl | rfl | rfl | rfl | rfl | rfl | rfl | rfl | rfl | rfl
    · exact Or.inr ⟨rfl, List.mem_cons_of_mem _ (List.mem_cons_self)⟩
    · exact Or.inr ⟨rfl, List.mem_cons_of_mem _ (List.mem_cons_of_mem _ (List.mem_cons_self))⟩
    · exact Or.inr ⟨rfl, List.mem_cons_of_mem _ (List.mem_cons_of_mem _ (List.mem_cons_of_mem _ (List.mem_cons_self)))⟩
    · exact Or.inr ⟨rfl, List.mem_cons_of_mem _ (List.mem_cons_of_mem _ (List.mem_cons_of_mem _ (List.mem_cons_of_mem _ (List.mem_cons_self))))⟩
    · exact Or.inr ⟨rfl, List.mem_cons_of_mem _ (List.mem_cons_of_mem _ (List.mem_cons_of_mem _ (List.mem_cons_of_mem _ (List.mem_cons_of_mem _ (List.mem_cons_self)))))⟩
    · exact Or.inr ⟨rfl, List.mem_cons_of_mem _ (List.mem_cons_of_mem _ (List.mem_cons_of_mem _ (List.mem_cons_of_mem _ (List.mem_cons_of_mem _ (List.mem_cons_of_mem _ (List.mem_cons_self))))))⟩
    · exact Or.inr ⟨rfl, List.mem_cons_of_mem _ (List.mem_cons_of_mem _ (List.mem_cons_of_mem _ (List.mem_cons_of_mem _ (List.mem_cons_of_mem _ (List.mem_cons_of_mem _ (List.mem_cons_of_mem _ (List.mem_cons_self)))))))⟩
    · exact Or.inr ⟨rfl, List.mem_cons_of_mem _ (List.mem_cons_of_mem _ (List.mem_cons_of_mem _ (List.mem_cons_of_mem _ (List.mem_cons_of_mem _ (List.mem_cons_of_mem _ (List.mem_cons_of_mem _ (List.mem_cons_of_mem _ (List.mem_cons_self))))))))⟩
    · exact Or.inr ⟨rfl, List.mem_cons_of_mem _ (List.mem_cons_of_mem _ (List.mem_cons_of_mem _ (List.mem_cons_of_mem _ (List.mem_cons_of_mem _ (List.mem_cons_of_mem _ (List.mem_cons_of_mem _ (List.mem_cons_of_mem _ (List.mem_cons_of_mem _ (List.mem_cons_self)))))))))⟩
    · exact Or.inr ⟨rfl, List.mem_cons_of_mem _ (List.mem_cons_of_mem _ (List.mem_cons_of_mem _ (List.mem_cons_of_mem _ (List.mem_cons_of_mem _ (List.mem_cons_of_mem _ (List.mem_cons_of_mem _ (List.mem_cons_of_mem _ (List.mem_cons_of_mem _ (List.mem_cons_of_mem _ (List.mem_cons_self))))))))))⟩
    · exact Or.inr ⟨rfl, List.mem_cons_of_mem _ (List.mem_cons_of_mem _ (List.mem_cons_of_mem _ (List.mem_cons_of_mem _ (List.mem_cons_of_mem _ (List.mem_cons_of_mem _ (List.mem_cons_of_mem _ (List.mem_cons_of_mem _ (List.mem_cons_of_mem _ (List.mem_cons_of_mem _ (List.mem_cons_of_mem _ (List.mem_cons_self)))))))))))⟩
  · refine ⟨feedo1, feedN1, fun o ho => ?_⟩
    have ho : o ∈ ([(false, feed_out)] : List (Bool × wE)) := ho
    simp only [List.mem_cons, List.not_mem_nil, or_false] at ho
    rcases ho with rfl
    · exact Or.inl (List.mem_cons_self)
  · refine ⟨feedo2, feedN2, fun o ho => ?_⟩
    have ho : o ∈ ([(false, feed_out)] : List (Bool × wE)) := ho
    simp only [List.mem_cons, List.not_mem_nil, or_false] at ho
    rcases ho with rfl
    · exact Or.inl (List.mem_cons_self)
  · refine ⟨feedo7, feedN7, fun o ho => ?_⟩
    have ho : o ∈ ([(false, feed_x0)] : List (Bool × wE)) := ho
    simp only [List.mem_cons, List.not_mem_nil, or_false] at ho
    rcases ho with rfl
    · exact Or.inl (List.mem_cons_of_mem _ (List.mem_cons_self))
  · refine ⟨feedo8, feedN8, fun o ho => ?_⟩
    have ho : o ∈ ([(false, feed_x1)] : List (Bool × wE)) := ho
    simp only [List.mem_cons, List.not_mem_nil, or_false] at ho
    rcases ho with rfl
    · exact Or.inl (List.mem_cons_of_mem _ (List.mem_cons_of_mem _ (List.mem_cons_self)))
  · refine ⟨feedo9, feedN9, fun o ho => ?_⟩
    have ho : o ∈ ([(false, feed_x2)] : List (Bool × wE)) := ho
    simp only [List.mem_cons, List.not_mem_nil, or_false] at ho
    rcases ho with rfl
    · exact Or.inl (List.mem_cons_of_mem _ (List.mem_cons_of_mem _ (List.mem_cons_of_mem _ (List.mem_cons_self))))
  · refine ⟨feedo10, feedN10, fun o ho => ?_⟩
    have ho : o ∈ ([(false, feed_x3)] : List (Bool × wE)) := ho
    simp only [List.mem_cons, List.not_mem_nil, or_false] at ho
    rcases ho with rfl
    · exact Or.inl (List.mem_cons_of_mem _ (List.mem_cons_of_mem _ (List.mem_cons_of_mem _ (List.mem_cons_of_mem _ (List.mem_cons_self)))))
  · refine ⟨feedo11, feedN11, fun o ho => ?_⟩
    have ho : o ∈ ([(false, feed_x4)] : List (Bool × wE)) := ho
    simp only [List.mem_cons, List.not_mem_nil, or_false] at ho
    rcases ho with rfl
    · exact Or.inl (List.mem_cons_of_mem _ (List.mem_cons_of_mem _ (List.mem_cons_of_mem _ (List.mem_cons_of_mem _ (List.mem_cons_of_mem _ (List.mem_cons_self))))))
  · refine ⟨feedo3, feedN3, fun o ho => ?_⟩
    have ho : o ∈ ([(false, feed_out)] : List (Bool × wE)) := ho
    simp only [List.mem_cons, List.not_mem_nil, or_false] at ho
    rcases ho with rfl
    · exact Or.inl (List.mem_cons_self)
  · refine ⟨feedo4, feedN4, fun o ho => ?_⟩
    have ho : o ∈ ([(false, feed_out)] : List (Bool × wE)) := ho
    simp only [List.mem_cons, List.not_mem_nil, or_false] at ho
    rcases ho with rfl
    · exact Or.inl (List.mem_cons_self)
  · refine ⟨feedo5, feedN5, fun o ho => ?_⟩
    have ho : o ∈ ([(false, feed_out)] : List (Bool × wE)) := ho
    simp only [List.mem_cons, List.not_mem_nil, or_false] at ho
    rcases ho with rfl
    · exact Or.inl (List.mem_cons_self)
  · refine ⟨feedo6, feedN6, fun o ho => ?_⟩
    have ho : o ∈ ([(false, feed_out)] : List (Bool × wE)) := ho
    simp only [List.mem_cons, List.not_mem_nil, or_false] at ho
    rcases ho with rfl
    · exact Or.inl (List.mem_cons_self))
theorem feedH {xs : Nat → Int32} {n : Nat} {sf : Option Nat} : wGoes x_KT x_tb x_tyl (x_otS xs n sf) lwFS lwGA.length lwGB.length 5 24 42 feedWA feedWB 11 180 60 60 feed_in (feedOX.map (fun x => x.1)) :=
  wFSr (FS := lwFR) (nh := 29) (wFam (V := []) lwFRok (by decide +kernel) (by decide +kernel) (feed_g0_G feed_in List.mem_cons_self) (by decide) (by decide) (fun i hi u hu => by
  have hi : i ∈ ([] : List Nat) := hi
  simp only [List.mem_cons, List.not_mem_nil, or_false] at hi)) lwFRp (by decide) (by decide +kernel)
theorem feedPP {xs : Nat → Int32} {n : Nat} {sf : Option Nat} : bPP x_KT x_tb x_tyl (x_otS xs n sf) lwN lwP 1299 11 180 2 (mMc xm11 + mMc xm180) (mRc xm11) (mRc xm180) True :=
  wBlk lwFok lwFB uKa uKb (by decide +kernel) (by decide +kernel) uKdj uKj feedbc feedH gq11 gq180 (by decide) (by decide) (uKeep (by decide +kernel)) (by decide +kernel) (by decide +kernel) (by decide +kernel)
set_option maxRecDepth 1000000 in
theorem gq15 : tMth x_tb 15 = some xm15 := rfl
set_option maxRecDepth 1000000 in
theorem gq183 : tMth x_tb 183 = some xm183 := rfl
theorem rlN0 {xs : Nat → Int32} {n : Nat} {sf : Option Nat} (hsf : sf = none ∨ sf = some 1200000) : wGoes x_KT x_tb x_tyl (x_otS xs n sf) lwFR lwGA.length lwGB.length 6 29 43 rlWA rlWB 15 183 60 60 rl_in rlo0 :=
  wDp (wWk (wEd_spec (x_ov0_le sf) (x_ckS hsf) lwFRok rlE0) (Nat.le_refl _) (Nat.le_refl _) (Nat.le_refl _) (by decide +kernel) (by decide +kernel)) (by decide) (by decide)
theorem rlN1 {xs : Nat → Int32} {n : Nat} {sf : Option Nat} (hsf : sf = none ∨ sf = some 1200000) : wGoes x_KT x_tb x_tyl (x_otS xs n sf) lwFR lwGA.length lwGB.length 6 29 43 rlWA rlWB 15 183 60 60 rl_b8 rlo1 :=
  wDp (wWk (wEd_spec (x_ov0_le sf) (x_ckS hsf) lwFRok rlE1) (Nat.le_refl _) (Nat.le_refl _) (Nat.le_refl _) (by decide +kernel) (by decide +kernel)) (by decide) (by decide)
theorem rlN2 {xs : Nat → Int32} {n : Nat} {sf : Option Nat} (hsf : sf = none ∨ sf = some 1200000) : wGoes x_KT x_tb x_tyl (x_otS xs n sf) lwFR lwGA.length lwGB.length 6 29 43 rlWA rlWB 15 183 60 60 rl_b10 rlo2 :=
  wDp (wWk (wEd_spec (x_ov0_le sf) (x_ckS hsf) lwFRok rlE2) (Nat.le_refl _) (Nat.le_refl _) (Nat.le_refl _) (by decide +kernel) (by decide +kernel)) (by decide) (by decide)
theorem rlN3 {xs : Nat → Int32} {n : Nat} {sf : Option Nat} (hsf : sf = none ∨ sf = some 1200000) : wGoes x_KT x_tb x_tyl (x_otS xs n sf) lwFR lwGA.length lwGB.length 6 29 43 rlWA rlWB 15 183 60 60 rl_b15 rlo3 :=
  wDp (wWk (wEd_spec (x_ov0_le sf) (x_ckS hsf) lwFRok rlE3) (Nat.le_refl _) (Nat.le_refl _) (Nat.le_refl _) (by decide +kernel) (by decide +kernel)) (by decide) (by decide)
theorem rlN4 {xs : Nat → Int32} {n : Nat} {sf : Option Nat} (hsf : sf = none ∨ sf = some 1200000) : wGoes x_KT x_tb x_tyl (x_otS xs n sf) lwFR lwGA.length lwGB.length 6 29 43 rlWA rlWB 15 183 60 60 rl_b19 rlo4 :=
  wDp (wWk (wEd_spec (x_ov0_le sf) (x_ckS hsf) lwFRok rlE4) (Nat.le_refl _) (Nat.le_refl _) (Nat.le_refl _) (by decide +kernel) (by decide +kernel)) (by decide) (by decide)
theorem rlN5 {xs : Nat → Int32} {n : Nat} {sf : Option Nat} (hsf : sf = none ∨ sf = some 1200000) : wGoes x_KT x_tb x_tyl (x_otS xs n sf) lwFR lwGA.length lwGB.length 6 29 43 rlWA rlWB 15 183 60 60 rl_b29 rlo5 :=
  wDp (wWk (wEd_spec (x_ov0_le sf) (x_ckS hsf) lwFRok rlE5) (Nat.le_refl _) (Nat.le_refl _) (Nat.le_refl _) (by decide +kernel) (by decide +kernel)) (by decide) (by decide)
theorem rlN6 {xs : Nat → Int32} {n : Nat} {sf : Option Nat} (hsf : sf = none ∨ sf = some 1200000) : wGoes x_KT x_tb x_tyl (x_otS xs n sf) lwFR lwGA.length lwGB.length 6 29 43 rlWA rlWB 15 183 60 60 rl_b40 rlo6 :=
  wDp (wWk (wEd_spec (x_ov0_le sf) (x_ckS hsf) lwFRok rlE6) (Nat.le_refl _) (Nat.le_refl _) (Nat.le_refl _) (by decide +kernel) (by decide +kernel)) (by decide) (by decide)
theorem rlN7 {xs : Nat → Int32} {n : Nat} {sf : Option Nat} (hsf : sf = none ∨ sf = some 1200000) : wGoes x_KT x_tb x_tyl (x_otS xs n sf) lwFR lwGA.length lwGB.length 6 29 43 rlWA rlWB 15 183 60 60 rl_b17 rlo7 :=
  wDp (wWk (wEdT_spec (x_ov0_le sf) (x_ckS hsf) lwFRok (fun c pA pB bA bB h5 => wTp_hd rlT7 pA pB bA bB h5) rlE7) (Nat.le_refl _) (Nat.le_refl _) (Nat.le_refl _) (by decide +kernel) (by decide +kernel)) (by decide) (by decide)
theorem rlN8 {xs : Nat → Int32} {n : Nat} {sf : Option Nat} (hsf : sf = none ∨ sf = some 1200000) : wGoes x_KT x_tb x_tyl (x_otS xs n sf) lwFR lwGA.length lwGB.length 6 29 43 rlWA rlWB 15 183 60 60 rl_b1 rlo8 :=
  wDp (wWk (wEdT_spec (x_ov0_le sf) (x_ckS hsf) lwFRok (fun c pA pB bA bB h5 => wTp_hd rlT8 pA pB bA bB h5) rlE8) (Nat.le_refl _) (Nat.le_refl _) (Nat.le_refl _) (by decide +kernel) (by decide +kernel)) (by decide) (by decide)
theorem rlN9 {xs : Nat → Int32} {n : Nat} {sf : Option Nat} (hsf : sf = none ∨ sf = some 1200000) : wGoes x_KT x_tb x_tyl (x_otS xs n sf) lwFR lwGA.length lwGB.length 6 29 43 rlWA rlWB 15 183 60 60 rl_b2 rlo9 :=
  wDp (wWk (wEdT_spec (x_ov0_le sf) (x_ckS hsf) lwFRok (fun c pA pB bA bB h5 => wTp_hd rlT9 pA pB bA bB h5) rlE9) (Nat.le_refl _) (Nat.le_refl _) (Nat.le_refl _) (by decide +kernel) (by decide +kernel)) (by decide) (by decide)
theorem rlN10 {xs : Nat → Int32} {n : Nat} {sf : Option Nat} (hsf : sf = none ∨ sf = some 1200000) : wGoes x_KT x_tb x_tyl (x_otS xs n sf) lwFR lwGA.length lwGB.length 6 29 43 rlWA rlWB 15 183 60 60 rl_b3 rlo10 :=
  wDp (wWk (wEdT_spec (x_ov0_le sf) (x_ckS hsf) lwFRok (fun c pA pB bA bB h5 => wTp_hd rlT10 pA pB bA bB h5) rlE10) (Nat.le_refl _) (Nat.le_refl _) (Nat.le_refl _) (by decide +kernel) (by decide +kernel)) (by decide) (by decide)
theorem rlN11 {xs : Nat → Int32} {n : Nat} {sf : Option Nat} (hsf : sf = none ∨ sf = some 1200000) : wGoes x_KT x_tb x_tyl (x_otS xs n sf) lwFR lwGA.length lwGB.length 6 29 43 rlWA rlWB 15 183 60 60 rl_b4 rlo11 :=
  wDp (wWk (wEdT_spec (x_ov0_le sf) (x_ckS hsf) lwFRok (fun c pA pB bA bB h5 => wTp_hd rlT11 pA pB bA bB h5) rlE11) (Nat.le_refl _) (Nat.le_refl _) (Nat.le_refl _) (by decide +kernel) (by decide +kernel)) (by decide) (by decide)
theorem rlN12 {xs : Nat → Int32} {n : Nat} {sf : Option Nat} (hsf : sf = none ∨ sf = some 1200000) : wGoes x_KT x_tb x_tyl (x_otS xs n sf) lwFR lwGA.length lwGB.length 6 29 43 rlWA rlWB 15 183 60 60 rl_b5 rlo12 :=
  wDp (wWk (wEdT_spec (x_ov0_le sf) (x_ckS hsf) lwFRok (fun c pA pB bA bB h5 => wTp_hd rlT12 pA pB bA bB h5) rlE12) (Nat.le_refl _) (Nat.le_refl _) (Nat.le_refl _) (by decide +kernel) (by decide +kernel)) (by decide) (by decide)
theorem rlN13 {xs : Nat → Int32} {n : Nat} {sf : Option Nat} (hsf : sf = none ∨ sf = some 1200000) : wGoes x_KT x_tb x_tyl (x_otS xs n sf) lwFR lwGA.length lwGB.length 6 29 43 rlWA rlWB 15 183 60 60 rl_b6 rlo13 :=
  wDp (wWk (wEdT_spec (x_ov0_le sf) (x_ckS hsf) lwFRok (fun c pA pB bA bB h5 => wTp_hd rlT13 pA pB bA bB h5) rlE13) (Nat.le_refl _) (Nat.le_refl _) (Nat.le_refl _) (by decide +kernel) (by decide +kernel)) (by decide) (by decide)
theorem rlN14 {xs : Nat → Int32} {n : Nat} {sf : Option Nat} (hsf : sf = none ∨ sf = some 1200000) : wGoes x_KT x_tb x_tyl (x_otS xs n sf) lwFR lwGA.length lwGB.length 6 29 43 rlWA rlWB 15 183 60 60 rl_b7 rlo14 :=
  wDp (wWk (wEdT_spec (x_ov0_le sf) (x_ckS hsf) lwFRok (fun c pA pB bA bB h5 => wTp_hd rlT14 pA pB bA bB h5) rlE14) (Nat.le_refl _) (Nat.le_refl _) (Nat.le_refl _) (by decide +kernel) (by decide +kernel)) (by decide) (by decide)
theorem rlN15 {xs : Nat → Int32} {n : Nat} {sf : Option Nat} (hsf : sf = none ∨ sf = some 1200000) : wGoes x_KT x_tb x_tyl (x_otS xs n sf) lwFR lwGA.length lwGB.length 6 29 43 rlWA rlWB 15 183 60 60 rl_b23 rlo15 :=
  wDp (wWk (wEdT_spec (x_ov0_le sf) (x_ckS hsf) lwFRok (fun c pA pB bA bB h5 => wTp_hd rlT15 pA pB bA bB h5) rlE15) (Nat.le_refl _) (Nat.le_refl _) (Nat.le_refl _) (by decide +kernel) (by decide +kernel)) (by decide) (by decide)
theorem rlN16 {xs : Nat → Int32} {n : Nat} {sf : Option Nat} (hsf : sf = none ∨ sf = some 1200000) : wGoes x_KT x_tb x_tyl (x_otS xs n sf) lwFR lwGA.length lwGB.length 6 29 43 rlWA rlWB 15 183 60 60 rl_b9 rlo16 :=
  wDp (wWk (wEdT_spec (x_ov0_le sf) (x_ckS hsf) lwFRok (fun c pA pB bA bB h5 => wTp_hd rlT16 pA pB bA bB h5) rlE16) (Nat.le_refl _) (Nat.le_refl _) (Nat.le_refl _) (by decide +kernel) (by decide +kernel)) (by decide) (by decide)
theorem rlN17 {xs : Nat → Int32} {n : Nat} {sf : Option Nat} (hsf : sf = none ∨ sf = some 1200000) : wGoes x_KT x_tb x_tyl (x_otS xs n sf) lwFR lwGA.length lwGB.length 6 29 43 rlWA rlWB 15 183 60 60 rl_b27 rlo17 :=
  wDp (wWk (wEdT_spec (x_ov0_le sf) (x_ckS hsf) lwFRok (fun c pA pB bA bB h5 => wTp_hd rlT17 pA pB bA bB h5) rlE17) (Nat.le_refl _) (Nat.le_refl _) (Nat.le_refl _) (by decide +kernel) (by decide +kernel)) (by decide) (by decide)
theorem rlN18 {xs : Nat → Int32} {n : Nat} {sf : Option Nat} (hsf : sf = none ∨ sf = some 1200000) : wGoes x_KT x_tb x_tyl (x_otS xs n sf) lwFR lwGA.length lwGB.length 6 29 43 rlWA rlWB 15 183 60 60 rl_b11 rlo18 :=
  wDp (wWk (wEdT_spec (x_ov0_le sf) (x_ckS hsf) lwFRok (fun c pA pB bA bB h5 => wTp_hd rlT18 pA pB bA bB h5) rlE18) (Nat.le_refl _) (Nat.le_refl _) (Nat.le_refl _) (by decide +kernel) (by decide +kernel)) (by decide) (by decide)
theorem rlN19 {xs : Nat → Int32} {n : Nat} {sf : Option Nat} (hsf : sf = none ∨ sf = some 1200000) : wGoes x_KT x_tb x_tyl (x_otS xs n sf) lwFR lwGA.length lwGB.length 6 29 43 rlWA rlWB 15 183 60 60 rl_b12 rlo19 :=
  wDp (wWk (wEdT_spec (x_ov0_le sf) (x_ckS hsf) lwFRok (fun c pA pB bA bB h5 => wTp_hd rlT19 pA pB bA bB h5) rlE19) (Nat.le_refl _) (Nat.le_refl _) (Nat.le_refl _) (by decide +kernel) (by decide +kernel)) (by decide) (by decide)
theorem rlN20 {xs : Nat → Int32} {n : Nat} {sf : Option Nat} (hsf : sf = none ∨ sf = some 1200000) : wGoes x_KT x_tb x_tyl (x_otS xs n sf) lwFR lwGA.length lwGB.length 6 29 43 rlWA rlWB 15 183 60 60 rl_b13 rlo20 :=
  wDp (wWk (wEdT_spec (x_ov0_le sf) (x_ckS hsf) lwFRok (fun c pA pB bA bB h5 => wTp_hd rlT20 pA pB bA bB h5) rlE20) (Nat.le_refl _) (Nat.le_refl _) (Nat.le_refl _) (by decide +kernel) (by decide +kernel)) (by decide) (by decide)
theorem rlN21 {xs : Nat → Int32} {n : Nat} {sf : Option Nat} (hsf : sf = none ∨ sf = some 1200000) : wGoes x_KT x_tb x_tyl (x_otS xs n sf) lwFR lwGA.length lwGB.length 6 29 43 rlWA rlWB 15 183 60 60 rl_b14 rlo21 :=
  wDp (wWk (wEdT_spec (x_ov0_le sf) (x_ckS hsf) lwFRok (fun c pA pB bA bB h5 => wTp_hd rlT21 pA pB bA bB h5) rlE21) (Nat.le_refl _) (Nat.le_refl _) (Nat.le_refl _) (by decide +kernel) (by decide +kernel)) (by decide) (by decide)
theorem rlN22 {xs : Nat → Int32} {n : Nat} {sf : Option Nat} (hsf : sf = none ∨ sf = some 1200000) : wGoes x_KT x_tb x_tyl (x_otS xs n sf) lwFR lwGA.length lwGB.length 6 29 43 rlWA rlWB 15 183 60 60 rl_b33 rlo22 :=
  wDp (wWk (wEdT_spec (x_ov0_le sf) (x_ckS hsf) lwFRok (fun c pA pB bA bB h5 => wTp_hd rlT22 pA pB bA bB h5) rlE22) (Nat.le_refl _) (Nat.le_refl _) (Nat.le_refl _) (by decide +kernel) (by decide +kernel)) (by decide) (by decide)
theorem rlN23 {xs : Nat → Int32} {n : Nat} {sf : Option Nat} (hsf : sf = none ∨ sf = some 1200000) : wGoes x_KT x_tb x_tyl (x_otS xs n sf) lwFR lwGA.length lwGB.length 6 29 43 rlWA rlWB 15 183 60 60 rl_b16 rlo23 :=
  wDp (wWk (wEdT_spec (x_ov0_le sf) (x_ckS hsf) lwFRok (fun c pA pB bA bB h5 => wTp_hd rlT23 pA pB bA bB h5) rlE23) (Nat.le_refl _) (Nat.le_refl _) (Nat.le_refl _) (by decide +kernel) (by decide +kernel)) (by decide) (by decide)
theorem rlN24 {xs : Nat → Int32} {n : Nat} {sf : Option Nat} (hsf : sf = none ∨ sf = some 1200000) : wGoes x_KT x_tb x_tyl (x_otS xs n sf) lwFR lwGA.length lwGB.length 6 29 43 rlWA rlWB 15 183 60 60 rl_b18 rlo24 :=
  wDp (wWk (wEdT_spec (x_ov0_le sf) (x_ckS hsf) lwFRok (fun c pA pB bA bB h5 => wTp_hd rlT24 pA pB bA bB h5) rlE24) (Nat.le_refl _) (Nat.le_refl _) (Nat.le_refl _) (by decide +kernel) (by decide +kernel)) (by decide) (by decide)
theorem rlN25 {xs : Nat → Int32} {n : Nat} {sf : Option Nat} (hsf : sf = none ∨ sf = some 1200000) : wGoes x_KT x_tb x_tyl (x_otS xs n sf) lwFR lwGA.length lwGB.length 6 29 43 rlWA rlWB 15 183 60 60 rl_b38 rlo25 :=
  wDp (wWk (wEdT_spec (x_ov0_le sf) (x_ckS hsf) lwFRok (fun c pA pB bA bB h5 => wTp_hd rlT25 pA pB bA bB h5) rlE25) (Nat.le_refl _) (Nat.le_refl _) (Nat.le_refl _) (by decide +kernel) (by decide +kernel)) (by decide) (by decide)
theorem rlN26 {xs : Nat → Int32} {n : Nat} {sf : Option Nat} (hsf : sf = none ∨ sf = some 1200000) : wGoes x_KT x_tb x_tyl (x_otS xs n sf) lwFR lwGA.length lwGB.length 6 29 43 rlWA rlWB 15 183 60 60 rl_b20 rlo26 :=
  wDp (wWk (wEdT_spec (x_ov0_le sf) (x_ckS hsf) lwFRok (fun c pA pB bA bB h5 => wTp_hd rlT26 pA pB bA bB h5) rlE26) (Nat.le_refl _) (Nat.le_refl _) (Nat.le_refl _) (by decide +kernel) (by decide +kernel)) (by decide) (by decide)
theorem rlN27 {xs : Nat → Int32} {n : Nat} {sf : Option Nat} (hsf : sf = none ∨ sf = some 1200000) : wGoes x_KT x_tb x_tyl (x_otS xs n sf) lwFR lwGA.length lwGB.length 6 29 43 rlWA rlWB 15 183 60 60 rl_b21 rlo27 :=
  wDp (wWk (wEdT_spec (x_ov0_le sf) (x_ckS hsf) lwFRok (fun c pA pB bA bB h5 => wTp_hd rlT27 pA pB bA bB h5) rlE27) (Nat.le_refl _) (Nat.le_refl _) (Nat.le_refl _) (by decide +kernel) (by decide +kernel)) (by decide) (by decide)
theorem rlN28 {xs : Nat → Int32} {n : Nat} {sf : Option Nat} (hsf : sf = none ∨ sf = some 1200000) : wGoes x_KT x_tb x_tyl (x_otS xs n sf) lwFR lwGA.length lwGB.length 6 29 43 rlWA rlWB 15 183 60 60 rl_b22 rlo28 :=
  wDp (wWk (wEdT_spec (x_ov0_le sf) (x_ckS hsf) lwFRok (fun c pA pB bA bB h5 => wTp_hd rlT28 pA pB bA bB h5) rlE28) (Nat.le_refl _) (Nat.le_refl _) (Nat.le_refl _) (by decide +kernel) (by decide +kernel)) (by decide) (by decide)
theorem rlN29 {xs : Nat → Int32} {n : Nat} {sf : Option Nat} (hsf : sf = none ∨ sf = some 1200000) : wGoes x_KT x_tb x_tyl (x_otS xs n sf) lwFR lwGA.length lwGB.length 6 29 43 rlWA rlWB 15 183 60 60 rl_b24 rlo29 :=
  wDp (wWk (wEdT_spec (x_ov0_le sf) (x_ckS hsf) lwFRok (fun c pA pB bA bB h5 => wTp_hd rlT29 pA pB bA bB h5) rlE29) (Nat.le_refl _) (Nat.le_refl _) (Nat.le_refl _) (by decide +kernel) (by decide +kernel)) (by decide) (by decide)
theorem rlN30 {xs : Nat → Int32} {n : Nat} {sf : Option Nat} (hsf : sf = none ∨ sf = some 1200000) : wGoes x_KT x_tb x_tyl (x_otS xs n sf) lwFR lwGA.length lwGB.length 6 29 43 rlWA rlWB 15 183 60 60 rl_b25 rlo30 :=
  wDp (wWk (wEdT_spec (x_ov0_le sf) (x_ckS hsf) lwFRok (fun c pA pB bA bB h5 => wTp_hd rlT30 pA pB bA bB h5) rlE30) (Nat.le_refl _) (Nat.le_refl _) (Nat.le_refl _) (by decide +kernel) (by decide +kernel)) (by decide) (by decide)
theorem rlN31 {xs : Nat → Int32} {n : Nat} {sf : Option Nat} (hsf : sf = none ∨ sf = some 1200000) : wGoes x_KT x_tb x_tyl (x_otS xs n sf) lwFR lwGA.length lwGB.length 6 29 43 rlWA rlWB 15 183 60 60 rl_b26 rlo31 :=
  wDp (wWk (wEdT_spec (x_ov0_le sf) (x_ckS hsf) lwFRok (fun c pA pB bA bB h5 => wTp_hd rlT31 pA pB bA bB h5) rlE31) (Nat.le_refl _) (Nat.le_refl _) (Nat.le_refl _) (by decide +kernel) (by decide +kernel)) (by decide) (by decide)
theorem rlN32 {xs : Nat → Int32} {n : Nat} {sf : Option Nat} (hsf : sf = none ∨ sf = some 1200000) : wGoes x_KT x_tb x_tyl (x_otS xs n sf) lwFR lwGA.length lwGB.length 6 29 43 rlWA rlWB 15 183 60 60 rl_b28 rlo32 :=
  wDp (wWk (wEdT_spec (x_ov0_le sf) (x_ckS hsf) lwFRok (fun c pA pB bA bB h5 => wTp_hd rlT32 pA pB bA bB h5) rlE32) (Nat.le_refl _) (Nat.le_refl _) (Nat.le_refl _) (by decide +kernel) (by decide +kernel)) (by decide) (by decide)
theorem rlN33 {xs : Nat → Int32} {n : Nat} {sf : Option Nat} (hsf : sf = none ∨ sf = some 1200000) : wGoes x_KT x_tb x_tyl (x_otS xs n sf) lwFR lwGA.length lwGB.length 6 29 43 rlWA rlWB 15 183 60 60 rl_b42 rlo33 :=
  wDp (wWk (wEdT_spec (x_ov0_le sf) (x_ckS hsf) lwFRok (fun c pA pB bA bB h5 => wTp_hd rlT33 pA pB bA bB h5) rlE33) (Nat.le_refl _) (Nat.le_refl _) (Nat.le_refl _) (by decide +kernel) (by decide +kernel)) (by decide) (by decide)
theorem rlN34 {xs : Nat → Int32} {n : Nat} {sf : Option Nat} (hsf : sf = none ∨ sf = some 1200000) : wGoes x_KT x_tb x_tyl (x_otS xs n sf) lwFR lwGA.length lwGB.length 6 29 43 rlWA rlWB 15 183 60 60 rl_b30 rlo34 :=
  wDp (wWk (wEdT_spec (x_ov0_le sf) (x_ckS hsf) lwFRok (fun c pA pB bA bB h5 => wTp_hd rlT34 pA pB bA bB h5) rlE34) (Nat.le_refl _) (Nat.le_refl _) (Nat.le_refl _) (by decide +kernel) (by decide +kernel)) (by decide) (by decide)
theorem rlN35 {xs : Nat → Int32} {n : Nat} {sf : Option Nat} (hsf : sf = none ∨ sf = some 1200000) : wGoes x_KT x_tb x_tyl (x_otS xs n sf) lwFR lwGA.length lwGB.length 6 29 43 rlWA rlWB 15 183 60 60 rl_b31 rlo35 :=
  wDp (wWk (wEdT_spec (x_ov0_le sf) (x_ckS hsf) lwFRok (fun c pA pB bA bB h5 => wTp_hd rlT35 pA pB bA bB h5) rlE35) (Nat.le_refl _) (Nat.le_refl _) (Nat.le_refl _) (by decide +kernel) (by decide +kernel)) (by decide) (by decide)
theorem rlN36 {xs : Nat → Int32} {n : Nat} {sf : Option Nat} (hsf : sf = none ∨ sf = some 1200000) : wGoes x_KT x_tb x_tyl (x_otS xs n sf) lwFR lwGA.length lwGB.length 6 29 43 rlWA rlWB 15 183 60 60 rl_b32 rlo36 :=
  wDp (wWk (wEdT_spec (x_ov0_le sf) (x_ckS hsf) lwFRok (fun c pA pB bA bB h5 => wTp_hd rlT36 pA pB bA bB h5) rlE36) (Nat.le_refl _) (Nat.le_refl _) (Nat.le_refl _) (by decide +kernel) (by decide +kernel)) (by decide) (by decide)
theorem rlN37 {xs : Nat → Int32} {n : Nat} {sf : Option Nat} (hsf : sf = none ∨ sf = some 1200000) : wGoes x_KT x_tb x_tyl (x_otS xs n sf) lwFR lwGA.length lwGB.length 6 29 43 rlWA rlWB 15 183 60 60 rl_b34 rlo37 :=
  wDp (wWk (wEdT_spec (x_ov0_le sf) (x_ckS hsf) lwFRok (fun c pA pB bA bB h5 => wTp_hd rlT37 pA pB bA bB h5) rlE37) (Nat.le_refl _) (Nat.le_refl _) (Nat.le_refl _) (by decide +kernel) (by decide +kernel)) (by decide) (by decide)
theorem rlN38 {xs : Nat → Int32} {n : Nat} {sf : Option Nat} (hsf : sf = none ∨ sf = some 1200000) : wGoes x_KT x_tb x_tyl (x_otS xs n sf) lwFR lwGA.length lwGB.length 6 29 43 rlWA rlWB 15 183 60 60 rl_b35 rlo38 :=
  wDp (wWk (wEdT_spec (x_ov0_le sf) (x_ckS hsf) lwFRok (fun c pA pB bA bB h5 => wTp_hd rlT38 pA pB bA bB h5) rlE38) (Nat.le_refl _) (Nat.le_refl _) (Nat.le_refl _) (by decide +kernel) (by decide +kernel)) (by decide) (by decide)
theorem rlN39 {xs : Nat → Int32} {n : Nat} {sf : Option Nat} (hsf : sf = none ∨ sf = some 1200000) : wGoes x_KT x_tb x_tyl (x_otS xs n sf) lwFR lwGA.length lwGB.length 6 29 43 rlWA rlWB 15 183 60 60 rl_b36 rlo39 :=
  wDp (wWk (wEdT_spec (x_ov0_le sf) (x_ckS hsf) lwFRok (fun c pA pB bA bB h5 => wTp_hd rlT39 pA pB bA bB h5) rlE39) (Nat.le_refl _) (Nat.le_refl _) (Nat.le_refl _) (by decide +kernel) (by decide +kernel)) (by decide) (by decide)
theorem rlN40 {xs : Nat → Int32} {n : Nat} {sf : Option Nat} (hsf : sf = none ∨ sf = some 1200000) : wGoes x_KT x_tb x_tyl (x_otS xs n sf) lwFR lwGA.length lwGB.length 6 29 43 rlWA rlWB 15 183 60 60 rl_b37 rlo40 :=
  wDp (wWk (wEdT_spec (x_ov0_le sf) (x_ckS hsf) lwFRok (fun c pA pB bA bB h5 => wTp_hd rlT40 pA pB bA bB h5) rlE40) (Nat.le_refl _) (Nat.le_refl _) (Nat.le_refl _) (by decide +kernel) (by decide +kernel)) (by decide) (by decide)
theorem rlN41 {xs : Nat → Int32} {n : Nat} {sf : Option Nat} (hsf : sf = none ∨ sf = some 1200000) : wGoes x_KT x_tb x_tyl (x_otS xs n sf) lwFR lwGA.length lwGB.length 6 29 43 rlWA rlWB 15 183 60 60 rl_b39 rlo41 :=
  wDp (wWk (wEdT_spec (x_ov0_le sf) (x_ckS hsf) lwFRok (fun c pA pB bA bB h5 => wTp_hd rlT41 pA pB bA bB h5) rlE41) (Nat.le_refl _) (Nat.le_refl _) (Nat.le_refl _) (by decide +kernel) (by decide +kernel)) (by decide) (by decide)
theorem rlN42 {xs : Nat → Int32} {n : Nat} {sf : Option Nat} (hsf : sf = none ∨ sf = some 1200000) : wGoes x_KT x_tb x_tyl (x_otS xs n sf) lwFR lwGA.length lwGB.length 6 29 43 rlWA rlWB 15 183 60 60 rl_b46 rlo42 :=
  wDp (wWk (wEdT_spec (x_ov0_le sf) (x_ckS hsf) lwFRok (fun c pA pB bA bB h5 => wTp_hd rlT42 pA pB bA bB h5) rlE42) (Nat.le_refl _) (Nat.le_refl _) (Nat.le_refl _) (by decide +kernel) (by decide +kernel)) (by decide) (by decide)
theorem rlN43 {xs : Nat → Int32} {n : Nat} {sf : Option Nat} (hsf : sf = none ∨ sf = some 1200000) : wGoes x_KT x_tb x_tyl (x_otS xs n sf) lwFR lwGA.length lwGB.length 6 29 43 rlWA rlWB 15 183 60 60 rl_b41 rlo43 :=
  wDp (wWk (wEdT_spec (x_ov0_le sf) (x_ckS hsf) lwFRok (fun c pA pB bA bB h5 => wTp_hd rlT43 pA pB bA bB h5) rlE43) (Nat.le_refl _) (Nat.le_refl _) (Nat.le_refl _) (by decide +kernel) (by decide +kernel)) (by decide) (by decide)
theorem rlN44 {xs : Nat → Int32} {n : Nat} {sf : Option Nat} (hsf : sf = none ∨ sf = some 1200000) : wGoes x_KT x_tb x_tyl (x_otS xs n sf) lwFR lwGA.length lwGB.length 6 29 43 rlWA rlWB 15 183 60 60 rl_b43 rlo44 :=
  wDp (wWk (wEdT_spec (x_ov0_le sf) (x_ckS hsf) lwFRok (fun c pA pB bA bB h5 => wTp_hd rlT44 pA pB bA bB h5) rlE44) (Nat.le_refl _) (Nat.le_refl _) (Nat.le_refl _) (by decide +kernel) (by decide +kernel)) (by decide) (by decide)
theorem rlN45 {xs : Nat → Int32} {n : Nat} {sf : Option Nat} (hsf : sf = none ∨ sf = some 1200000) : wGoes x_KT x_tb x_tyl (x_otS xs n sf) lwFR lwGA.length lwGB.length 6 29 43 rlWA rlWB 15 183 60 60 rl_b44 rlo45 :=
  wDp (wWk (wEdT_spec (x_ov0_le sf) (x_ckS hsf) lwFRok (fun c pA pB bA bB h5 => wTp_hd rlT45 pA pB bA bB h5) rlE45) (Nat.le_refl _) (Nat.le_refl _) (Nat.le_refl _) (by decide +kernel) (by decide +kernel)) (by decide) (by decide)
theorem rlN46 {xs : Nat → Int32} {n : Nat} {sf : Option Nat} (hsf : sf = none ∨ sf = some 1200000) : wGoes x_KT x_tb x_tyl (x_otS xs n sf) lwFR lwGA.length lwGB.length 6 29 43 rlWA rlWB 15 183 60 60 rl_b45 rlo46 :=
  wDp (wWk (wEdT_spec (x_ov0_le sf) (x_ckS hsf) lwFRok (fun c pA pB bA bB h5 => wTp_hd rlT46 pA pB bA bB h5) rlE46) (Nat.le_refl _) (Nat.le_refl _) (Nat.le_refl _) (by decide +kernel) (by decide +kernel)) (by decide) (by decide)
theorem rlN47 {xs : Nat → Int32} {n : Nat} {sf : Option Nat} (hsf : sf = none ∨ sf = some 1200000) : wGoes x_KT x_tb x_tyl (x_otS xs n sf) lwFR lwGA.length lwGB.length 6 29 43 rlWA rlWB 15 183 60 60 rl_op0 rlo47 :=
  wDp (wWk (wFamE2 (V := [1, 0, 33]) (x_ov0_le sf) (x_ckS hsf) lwFRok rlE47 (by decide) (by decide) (fun i hi u hu => by
      have hi : i ∈ ([1, 0, 33] : List Nat) := hi
      simp only [List.mem_cons, List.not_mem_nil, or_false] at hi
      rcases hi with rfl | rfl | rfl
      · cases hu
        exact wRkE_spec (x_ov0_le sf) (x_ckS hsf) lwFRok rlE47R1
      · cases hu
        exact wRkE_spec (x_ov0_le sf) (x_ckS hsf) lwFRok rlE47R0
      · cases hu
        exact wRkE_spec (x_ov0_le sf) (x_ckS hsf) lwFRok rlE47R33)) (Nat.le_refl _) (Nat.le_refl _) (Nat.le_refl _) (by decide +kernel) (by decide +kernel)) (by decide) (by decide)
theorem rlN48 {xs : Nat → Int32} {n : Nat} {sf : Option Nat} (hsf : sf = none ∨ sf = some 1200000) : wGoes x_KT x_tb x_tyl (x_otS xs n sf) lwFR lwGA.length lwGB.length 6 29 43 rlWA rlWB 15 183 60 60 rl_op1 rlo48 :=
  wDp (wWk (wFamE2 (V := [1, 0, 33]) (x_ov0_le sf) (x_ckS hsf) lwFRok rlE48 (by decide) (by decide) (fun i hi u hu => by
      have hi : i ∈ ([1, 0, 33] : List Nat) := hi
      simp only [List.mem_cons, List.not_mem_nil, or_false] at hi
      rcases hi with rfl | rfl | rfl
      · cases hu
        exact wRkE_spec (x_ov0_le sf) (x_ckS hsf) lwFRok rlE48R1
      · cases hu
        exact wRkE_spec (x_ov0_le sf) (x_ckS hsf) lwFRok rlE48R0
      · cases hu
        exact wRkE_spec (x_ov0_le sf) (x_ckS hsf) lwFRok rlE48R33)) (Nat.le_refl _) (Nat.le_refl _) (Nat.le_refl _) (by decide +kernel) (by decide +kernel)) (by decide) (by decide)
theorem rlN49 {xs : Nat → Int32} {n : Nat} {sf : Option Nat} (hsf : sf = none ∨ sf = some 1200000) : wGoes x_KT x_tb x_tyl (x_otS xs n sf) lwFR lwGA.length lwGB.length 6 29 43 rlWA rlWB 15 183 60 60 rl_op2 rlo49 :=
  wDp (wWk (wFamE2 (V := [1, 0, 33]) (x_ov0_le sf) (x_ckS hsf) lwFRok rlE49 (by decide) (by decide) (fun i hi u hu => by
      have hi : i ∈ ([1, 0, 33] : List Nat) := hi
      simp only [List.mem_cons, List.not_mem_nil, or_false] at hi
      rcases hi with rfl | rfl | rfl
      · cases hu
        exact wRkE_spec (x_ov0_le sf) (x_ckS hsf) lwFRok rlE49R1
      · cases hu
        exact wRkE_spec (x_ov0_le sf) (x_ckS hsf) lwFRok rlE49R0
      · cases hu
        exact wRkE_spec (x_ov0_le sf) (x_ckS hsf) lwFRok rlE49R33)) (Nat.le_refl _) (Nat.le_refl _) (Nat.le_refl _) (by decide +kernel) (by decide +kernel)) (by decide) (by decide)
theorem rlN50 {xs : Nat → Int32} {n : Nat} {sf : Option Nat} (hsf : sf = none ∨ sf = some 1200000) : wGoes x_KT x_tb x_tyl (x_otS xs n sf) lwFR lwGA.length lwGB.length 6 29 43 rlWA rlWB 15 183 60 60 rl_op3 rlo50 :=
  wDp (wWk (wFamE2 (V := [1, 0, 33]) (x_ov0_le sf) (x_ckS hsf) lwFRok rlE50 (by decide) (by decide) (fun i hi u hu => by
      have hi : i ∈ ([1, 0, 33] : List Nat) := hi
      simp only [List.mem_cons, List.not_mem_nil, or_false] at hi
      rcases hi with rfl | rfl | rfl
      · cases hu
        exact wRkE_spec (x_ov0_le sf) (x_ckS hsf) lwFRok rlE50R1
      · cases hu
        exact wRkE_spec (x_ov0_le sf) (x_ckS hsf) lwFRok rlE50R0
      · cases hu
        exact wRkE_spec (x_ov0_le sf) (x_ckS hsf) lwFRok rlE50R33)) (Nat.le_refl _) (Nat.le_refl _) (Nat.le_refl _) (by decide +kernel) (by decide +kernel)) (by decide) (by decide)
theorem rlN51 {xs : Nat → Int32} {n : Nat} {sf : Option Nat} (hsf : sf = none ∨ sf = some 1200000) : wGoes x_KT x_tb x_tyl (x_otS xs n sf) lwFR lwGA.length lwGB.length 6 29 43 rlWA rlWB 15 183 60 60 rl_op4 rlo51 :=
  wDp (wWk (wFamE2 (V := [1, 0, 33]) (x_ov0_le sf) (x_ckS hsf) lwFRok rlE51 (by decide) (by decide) (fun i hi u hu => by
      have hi : i ∈ ([1, 0, 33] : List Nat) := hi
      simp only [List.mem_cons, List.not_mem_nil, or_false] at hi
      rcases hi with rfl | rfl | rfl
      · cases hu
        exact wRkE_spec (x_ov0_le sf) (x_ckS hsf) lwFRok rlE51R1
      · cases hu
        exact wRkE_spec (x_ov0_le sf) (x_ckS hsf) lwFRok rlE51R0
      · cases hu
        exact wRkE_spec (x_ov0_le sf) (x_ckS hsf) lwFRok rlE51R33)) (Nat.le_refl _) (Nat.le_refl _) (Nat.le_refl _) (by decide +kernel) (by decide +kernel)) (by decide) (by decide)
theorem rlN52 {xs : Nat → Int32} {n : Nat} {sf : Option Nat} (hsf : sf = none ∨ sf = some 1200000) : wGoes x_KT x_tb x_tyl (x_otS xs n sf) lwFR lwGA.length lwGB.length 6 29 43 rlWA rlWB 15 183 60 60 rl_op5 rlo52 :=
  wDp (wWk (wFamE2 (V := [1, 0, 33]) (x_ov0_le sf) (x_ckS hsf) lwFRok rlE52 (by decide) (by decide) (fun i hi u hu => by
      have hi : i ∈ ([1, 0, 33] : List Nat) := hi
      simp only [List.mem_cons, List.not_mem_nil, or_false] at hi
      rcases hi with rfl | rfl | rfl
      · cases hu
        exact wRkE_spec (x_ov0_le sf) (x_ckS hsf) lwFRok rlE52R1
      · cases hu
        exact wRkE_spec (x_ov0_le sf) (x_ckS hsf) lwFRok rlE52R0
      · cases hu
        exact wRkE_spec (x_ov0_le sf) (x_ckS hsf) lwFRok rlE52R33)) (Nat.le_refl _) (Nat.le_refl _) (Nat.le_refl _) (by decide +kernel) (by decide +kernel)) (by decide) (by decide)
theorem rlN53 {xs : Nat → Int32} {n : Nat} {sf : Option Nat} (hsf : sf = none ∨ sf = some 1200000) : wGoes x_KT x_tb x_tyl (x_otS xs n sf) lwFR lwGA.length lwGB.length 6 29 43 rlWA rlWB 15 183 60 60 rl_op6 rlo53 :=
  wDp (wWk (wFamE2 (V := [1, 0, 33]) (x_ov0_le sf) (x_ckS hsf) lwFRok rlE53 (by decide) (by decide) (fun i hi u hu => by
      have hi : i ∈ ([1, 0, 33] : List Nat) := hi
      simp only [List.mem_cons, List.not_mem_nil, or_false] at hi
      rcases hi with rfl | rfl | rfl
      · cases hu
        exact wRkE_spec (x_ov0_le sf) (x_ckS hsf) lwFRok rlE53R1
      · cases hu
        exact wRkE_spec (x_ov0_le sf) (x_ckS hsf) lwFRok rlE53R0
      · cases hu
        exact wRkE_spec (x_ov0_le sf) (x_ckS hsf) lwFRok rlE53R33)) (Nat.le_refl _) (Nat.le_refl _) (Nat.le_refl _) (by decide +kernel) (by decide +kernel)) (by decide) (by decide)
theorem rlN54 {xs : Nat → Int32} {n : Nat} {sf : Option Nat} (hsf : sf = none ∨ sf = some 1200000) : wGoes x_KT x_tb x_tyl (x_otS xs n sf) lwFR lwGA.length lwGB.length 6 29 43 rlWA rlWB 15 183 60 60 rl_op7 rlo54 :=
  wDp (wWk (wFamE2 (V := [1, 0, 33]) (x_ov0_le sf) (x_ckS hsf) lwFRok rlE54 (by decide) (by decide) (fun i hi u hu => by
      have hi : i ∈ ([1, 0, 33] : List Nat) := hi
      simp only [List.mem_cons, List.not_mem_nil, or_false] at hi
      rcases hi with rfl | rfl | rfl
      · cases hu
        exact wRkE_spec (x_ov0_le sf) (x_ckS hsf) lwFRok rlE54R1
      · cases hu
        exact wRkE_spec (x_ov0_le sf) (x_ckS hsf) lwFRok rlE54R0
      · cases hu
        exact wRkE_spec (x_ov0_le sf) (x_ckS hsf) lwFRok rlE54R33)) (Nat.le_refl _) (Nat.le_refl _) (Nat.le_refl _) (by decide +kernel) (by decide +kernel)) (by decide) (by decide)
theorem rlN55 {xs : Nat → Int32} {n : Nat} {sf : Option Nat} (hsf : sf = none ∨ sf = some 1200000) : wGoes x_KT x_tb x_tyl (x_otS xs n sf) lwFR lwGA.length lwGB.length 6 29 43 rlWA rlWB 15 183 60 60 rl_op8 rlo55 :=
  wDp (wWk (wFamE2 (V := [1, 0, 33]) (x_ov0_le sf) (x_ckS hsf) lwFRok rlE55 (by decide) (by decide) (fun i hi u hu => by
      have hi : i ∈ ([1, 0, 33] : List Nat) := hi
      simp only [List.mem_cons, List.not_mem_nil, or_false] at hi
      rcases hi with rfl | rfl | rfl
      · cases hu
        exact wRkE_spec (x_ov0_le sf) (x_ckS hsf) lwFRok rlE55R1
      · cases hu
        exact wRkE_spec (x_ov0_le sf) (x_ckS hsf) lwFRok rlE55R0
      · cases hu
        exact wRkE_spec (x_ov0_le sf) (x_ckS hsf) lwFRok rlE55R33)) (Nat.le_refl _) (Nat.le_refl _) (Nat.le_refl _) (by decide +kernel) (by decide +kernel)) (by decide) (by decide)
theorem rlN56 {xs : Nat → Int32} {n : Nat} {sf : Option Nat} (hsf : sf = none ∨ sf = some 1200000) : wGoes x_KT x_tb x_tyl (x_otS xs n sf) lwFR lwGA.length lwGB.length 6 29 43 rlWA rlWB 15 183 60 60 rl_op9 rlo56 :=
  wDp (wWk (wFamE2 (V := [1, 0, 33]) (x_ov0_le sf) (x_ckS hsf) lwFRok rlE56 (by decide) (by decide) (fun i hi u hu => by
      have hi : i ∈ ([1, 0, 33] : List Nat) := hi
      simp only [List.mem_cons, List.not_mem_nil, or_false] at hi
      rcases hi with rfl | rfl | rfl
      · cases hu
        exact wRkE_spec (x_ov0_le sf) (x_ckS hsf) lwFRok rlE56R1
      · cases hu
        exact wRkE_spec (x_ov0_le sf) (x_ckS hsf) lwFRok rlE56R0
      · cases hu
        exact wRkE_spec (x_ov0_le sf) (x_ckS hsf) lwFRok rlE56R33)) (Nat.le_refl _) (Nat.le_refl _) (Nat.le_refl _) (by decide +kernel) (by decide +kernel)) (by decide) (by decide)
theorem rlN57 {xs : Nat → Int32} {n : Nat} {sf : Option Nat} (hsf : sf = none ∨ sf = some 1200000) : wGoes x_KT x_tb x_tyl (x_otS xs n sf) lwFR lwGA.length lwGB.length 6 29 43 rlWA rlWB 15 183 60 60 rl_op10 rlo57 :=
  wDp (wWk (wFamE2 (V := [1, 0, 33]) (x_ov0_le sf) (x_ckS hsf) lwFRok rlE57 (by decide) (by decide) (fun i hi u hu => by
      have hi : i ∈ ([1, 0, 33] : List Nat) := hi
      simp only [List.mem_cons, List.not_mem_nil, or_false] at hi
      rcases hi with rfl | rfl | rfl
      · cases hu
        exact wRkE_spec (x_ov0_le sf) (x_ckS hsf) lwFRok rlE57R1
      · cases hu
        exact wRkE_spec (x_ov0_le sf) (x_ckS hsf) lwFRok rlE57R0
      · cases hu
        exact wRkE_spec (x_ov0_le sf) (x_ckS hsf) lwFRok rlE57R33)) (Nat.le_refl _) (Nat.le_refl _) (Nat.le_refl _) (by decide +kernel) (by decide +kernel)) (by decide) (by decide)
theorem rlN58 {xs : Nat → Int32} {n : Nat} {sf : Option Nat} (hsf : sf = none ∨ sf = some 1200000) : wGoes x_KT x_tb x_tyl (x_otS xs n sf) lwFR lwGA.length lwGB.length 6 29 43 rlWA rlWB 15 183 60 60 rl_op11 rlo58 :=
  wDp (wWk (wFamE2 (V := [1, 0, 33]) (x_ov0_le sf) (x_ckS hsf) lwFRok rlE58 (by decide) (by decide) (fun i hi u hu => by
      have hi : i ∈ ([1, 0, 33] : List Nat) := hi
      simp only [List.mem_cons, List.not_mem_nil, or_false] at hi
      rcases hi with rfl | rfl | rfl
      · cases hu
        exact wRkE_spec (x_ov0_le sf) (x_ckS hsf) lwFRok rlE58R1
      · cases hu
        exact wRkE_spec (x_ov0_le sf) (x_ckS hsf) lwFRok rlE58R0
      · cases hu
        exact wRkE_spec (x_ov0_le sf) (x_ckS hsf) lwFRok rlE58R33)) (Nat.le_refl _) (Nat.le_refl _) (Nat.le_refl _) (by decide +kernel) (by decide +kernel)) (by decide) (by decide)
theorem rlN59 {xs : Nat → Int32} {n : Nat} {sf : Option Nat} (hsf : sf = none ∨ sf = some 1200000) : wGoes x_KT x_tb x_tyl (x_otS xs n sf) lwFR lwGA.length lwGB.length 6 29 43 rlWA rlWB 15 183 60 60 rl_no rlo59 :=
  wDp (wWk (wEd_spec (x_ov0_le sf) (x_ckS hsf) lwFRok rlE59) (Nat.le_refl _) (Nat.le_refl _) (Nat.le_refl _) (by decide +kernel) (by decide +kernel)) (by decide) (by decide)
set_option maxRecDepth 1000000 in
theorem gq14 : tMth x_tb 14 = some xm14 := rfl
theorem rdN0 {xs : Nat → Int32} {n : Nat} {sf : Option Nat} (hsf : sf = none ∨ sf = some 1200000) : wGoes x_KT x_tb x_tyl (x_otS xs n sf) lwFR lwGA.length lwGB.length 5 29 43 rdWA rdWB 14 183 61 60 rd_in rdo0 :=
  wDp (wWk (wFamE2 (V := [1, 0, 33]) (x_ov0_le sf) u_ctS lwFRok rdE0 (by decide) (by decide) (fun i hi u hu => by
      have hi : i ∈ ([1, 0, 33] : List Nat) := hi
      simp only [List.mem_cons, List.not_mem_nil, or_false] at hi
      rcases hi with rfl | rfl | rfl
      · cases hu
        exact wRkE_spec (x_ov0_le sf) u_ctS lwFRok rdE0R1
      · cases hu
        exact wRkE_spec (x_ov0_le sf) u_ctS lwFRok rdE0R0
      · cases hu
        exact wRkE_spec (x_ov0_le sf) u_ctS lwFRok rdE0R33)) (Nat.le_refl _) (Nat.le_refl _) (Nat.le_refl _) (by decide +kernel) (by decide +kernel)) (by decide) (by decide)
end XRuG0
