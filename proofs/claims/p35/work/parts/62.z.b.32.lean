/-! p35 by hand, 31. -/
noncomputable section XH3531
variable {ot : XO Int32} {dp : Nat} {H : List (XC Int32)} {p n m : Nat} {r : Nat → Nat} {pl mi la we ord hf : Nat → Nat}
theorem t259_p {b g h q : Nat} {R : Nat → Nat} {w : Int32} {v : Option (XV Int32)} {H2 : List (XC Int32)} (hS : isSt H b n pl mi la we) (hC : isCn H b R (fun h i => (h ≤ 1 ∨ h ≤ g) ∧ i < 2 ^ n) (canN (fun s => mtD ord pl mi la s n 0 0 0))) (hh : hfOk (fun s => mtD ord pl mi la s n 0 0 0) hf (2 ^ n)) (hg : g ≤ 3) (hhg : h < g) (hq : q < 2 ^ n) (hqk : hf q ≤ g - h) (kk : ∀ L, x_lk L 0 = some (.inr (some b)) → x_lk L 1 = some (.inl (nI g)) → x_lk L 2 = some (.inl w) → x_lk L 5 = some (.inl (nI q)) → x_lk L 6 = some (.inl (nI h)) → x_lk L 7 = some (.inl (nI (gpN hf q (g - 1 - h) q))) → x_To x_tb x_tyl ot dp 259 214 L [] H 0 0 v H2) : ∀ (x : Nat) (L : List (Nat × XV Int32)), x ≤ q → gpN hf q (g - 1 - h) q = gpN hf q (g - 1 - h) x → x_lk L 0 = some (.inr (some b)) → x_lk L 1 = some (.inl (nI g)) → x_lk L 2 = some (.inl w) → x_lk L 5 = some (.inl (nI q)) → x_lk L 6 = some (.inl (nI h)) → x_lk L 7 = some (.inl (nI x)) → x_To x_tb x_tyl ot dp 259 164 L [] H 0 0 v H2 := by
  obtain ⟨fs, cr, cn, ⟨hbA, hb, h68, hcn, hcl⟩, hcr, hinj⟩ := id hC
  obtain ⟨fs9, -, -, -, ⟨-, hb9, h36, h8, -⟩, -⟩ := id hS
  obtain rfl : fs9 = fs := by
    rw [hb] at hb9
    cases hb9
    rfl
  obtain ⟨s1, s2, s3⟩ := b_shl n (by omega)
  have gh := gp_hf s2 hh hq (k := g - 1 - h) (by omega) (by omega)
  intro x
  induction x with
  | zero =>
    intro L hx e l0 l1 l2 l5 l6 l7
    have hq1 := gh.1 e
    obtain ⟨-, -, C1, c1, c2, c3⟩ := hcr 1 (by decide)
    obtain ⟨-, -, C2, k1, k2, k3⟩ := hcr (g - 1 - h) (by omega)
    have b1 := canN_b (M := fun s => mtD ord pl mi la s n 0 0 0) (fun s => mtD_b _ _ _ _) 1 (0)
    have b2 := canN_b (M := fun s => mtD ord pl mi la s n 0 0 0) (fun s => mtD_b _ _ _ _) (g - 1 - h) (q - (0))
    have i1 := can_hf s2 hh (mtD_0 _ _ _ _) 1 (by decide) (0) (by omega)
    have i2 := can_hf s2 hh (mtD_0 _ _ _ _) (g - 1 - h) (by omega) (q - (0)) (by omega)
    obtain ⟨u1, hv1⟩ : ∃ u1, u1 = (canN (fun s => mtD ord pl mi la s n 0 0 0)) 1 (0) := ⟨_, rfl⟩
    obtain ⟨u2, hv2⟩ : ∃ u2, u2 = (canN (fun s => mtD ord pl mi la s n 0 0 0)) (g - 1 - h) (q - (0)) := ⟨_, rfl⟩
    have d1 : C1[0]? = some (.inl (nI u1)) := by
      rw [hv1]
      exact c3 (0) (by omega) ⟨Or.inl (Nat.le_refl 1), by omega⟩
    have d2 : C2[q - (0)]? = some (.inl (nI u2)) := by
      rw [hv2]
      exact k3 (q - (0)) (by omega) ⟨Or.inr (by omega), by omega⟩
    rw [← hv1] at b1 i1
    rw [← hv2] at b2 i2
    have hz : andn 0 q = 0 := (b_self q (by omega)).2.1
    have h0 : hf 0 = 0 := hh.1
    have u1e : u1 = 1 := i1.mpr (by omega)
    have u2e : u2 = 1 := i2.mpr (by rw [Nat.sub_zero]; exact hq1)
    have hqx : x_bin 3 (nI q) (x_bin 5 (nI 0) (-1)) = nI (q - 0) := (b_andn (by omega) (by omega)).trans (congrArg nI (b_self q (by omega)).2.2)
    refine xT_iload g_q259 g259_164 (l7) ?_
    refine xT_iload g_q259 g259_166 (l5) ?_
    refine xT_icV (y := -1) g_q259 g259_168 (by decide) ?_
    refine xT_ixorV (y := x_bin 5 (nI q) (-1)) g_q259 g259_169 (rfl) ?_
    refine xT_iandV (y := nI (andn (0) q)) g_q259 g259_170 (b_andn (by omega) (by omega)) ?_
    refine xT_ifCondN g_q259 g259_171 (t := 208) (by decide) (c1N (b := 0) hz) ?_
    refine xT_aload_n g_q259 g259_174 (l0) ?_
    refine xT_getfield g_q259 g259_175 hbA rfl hb rfl h68 ?_
    refine xT_icV (y := nI (1)) g_q259 g259_178 (by decide) ?_
    refine xT_aaload g_q259 g259_179 (by decide +kernel) hcn (ixN (n := 4) (by omega) hcl) (ixG (by omega) (hcr _ (by omega)).1) ?_
    refine xT_iload g_q259 g259_180 (l7) ?_
    refine xT_baload g_q259 g259_182 (hcr 1 (by decide)).2.1 c1 (ixN (n := 256) (by omega) c2) (ixG (by omega) d1) ?_
    refine xT_ifCondN g_q259 g259_183 (t := 208) (by decide) (c0N (a := u1) (b := 0) (by omega) (by omega) (by omega)) ?_
    refine xT_aload_n g_q259 g259_186 (l0) ?_
    refine xT_getfield g_q259 g259_187 hbA rfl hb rfl h68 ?_
    refine xT_iload_n g_q259 g259_190 (l1) ?_
    refine xT_icV (y := nI (1)) g_q259 g259_191 (by decide) ?_
    refine xT_isubV (y := nI (g - 1)) g_q259 g259_192 (bSubN (by omega)) ?_
    refine xT_iload g_q259 g259_193 (l6) ?_
    refine xT_isubV (y := nI (g - 1 - h)) g_q259 g259_195 (bSubN (by omega)) ?_
    refine xT_aaload g_q259 g259_196 (by decide +kernel) hcn (ixN (n := 4) (by omega) hcl) (ixG (by omega) (hcr _ (by omega)).1) ?_
    refine xT_iload g_q259 g259_197 (l5) ?_
    refine xT_iload g_q259 g259_199 (l7) ?_
    refine xT_icV (y := -1) g_q259 g259_201 (by decide) ?_
    refine xT_ixorV (y := x_bin 5 (nI (0)) (-1)) g_q259 g259_202 (rfl) ?_
    refine xT_iandV (y := nI (q - (0))) g_q259 g259_203 (hqx) ?_
    refine xT_baload g_q259 g259_204 (hcr (g - 1 - h) (by omega)).2.1 k1 (ixN (n := 256) (by omega) k2) (ixG (by omega) d2) ?_
    refine xT_ifCondY g_q259 g259_205 (t := 214) (by decide) (c1Y (a := u2) (b := 0) (by omega) (by omega) (by omega)) ?_
    exact kk _ (l0) (l1) (l2) (l5) (l6) (by rw [e]; exact l7)
  | succ x ih =>
    intro L hx e l0 l1 l2 l5 l6 l7
    by_cases hz : andn (x + 1) q = 0
    rotate_left
    · have e2 : gpN hf q (g - 1 - h) q = gpN hf q (g - 1 - h) x := e.trans (if_neg (fun z => hz z.1))
      refine xT_iload g_q259 g259_164 (l7) ?_
      refine xT_iload g_q259 g259_166 (l5) ?_
      refine xT_icV (y := -1) g_q259 g259_168 (by decide) ?_
      refine xT_ixorV (y := x_bin 5 (nI q) (-1)) g_q259 g259_169 (rfl) ?_
      refine xT_iandV (y := nI (andn (x + 1) q)) g_q259 g259_170 (b_andn (by omega) (by omega)) ?_
      refine xT_ifCondY g_q259 g259_171 (t := 208) (by decide) (c1Y (a := andn (x + 1) q) (b := 0) hz (by have := andn_le (x + 1) q; omega) (by omega)) ?_
      refine xT_iincV (y := nI (x)) g_q259 g259_208 (l7) (by decide) (bDecN (by omega)) ?_
      refine xT_goto g_q259 g259_211 (t := 164) (by decide) ?_
      exact ih _ (by omega) e2 (lkN (by decide) (l0)) (lkN (by decide) (l1)) (lkN (by decide) (l2)) (lkN (by decide) (l5)) (lkN (by decide) (l6)) (lkY)
    obtain ⟨-, -, C1, c1, c2, c3⟩ := hcr 1 (by decide)
    obtain ⟨-, -, C2, k1, k2, k3⟩ := hcr (g - 1 - h) (by omega)
    have b1 := canN_b (M := fun s => mtD ord pl mi la s n 0 0 0) (fun s => mtD_b _ _ _ _) 1 (x + 1)
    have b2 := canN_b (M := fun s => mtD ord pl mi la s n 0 0 0) (fun s => mtD_b _ _ _ _) (g - 1 - h) (q - (x + 1))
    have i1 := can_hf s2 hh (mtD_0 _ _ _ _) 1 (by decide) (x + 1) (by omega)
    have i2 := can_hf s2 hh (mtD_0 _ _ _ _) (g - 1 - h) (by omega) (q - (x + 1)) (by omega)
    obtain ⟨u1, hv1⟩ : ∃ u1, u1 = (canN (fun s => mtD ord pl mi la s n 0 0 0)) 1 (x + 1) := ⟨_, rfl⟩
    obtain ⟨u2, hv2⟩ : ∃ u2, u2 = (canN (fun s => mtD ord pl mi la s n 0 0 0)) (g - 1 - h) (q - (x + 1)) := ⟨_, rfl⟩
    have d1 : C1[x + 1]? = some (.inl (nI u1)) := by
      rw [hv1]
      exact c3 (x + 1) (by omega) ⟨Or.inl (Nat.le_refl 1), by omega⟩
    have d2 : C2[q - (x + 1)]? = some (.inl (nI u2)) := by
      rw [hv2]
      exact k3 (q - (x + 1)) (by omega) ⟨Or.inr (by omega), by omega⟩
    rw [← hv1] at b1 i1
    rw [← hv2] at b2 i2
    have hqx : x_bin 3 (nI q) (x_bin 5 (nI (x + 1)) (-1)) = nI (q - (x + 1)) := (b_andn (by omega) (by omega)).trans (congrArg nI (b_sub (by omega) (by omega) hz).2.2)
    have j1 : hf (x + 1) = 1 ↔ u1 = 1 := by
      rw [i1]
      have := hf_pos s2 hh (x + 2) (x + 1) (Nat.lt_succ_self _) (by omega) (by omega)
      omega
    by_cases h1 : hf (x + 1) = 1
    rotate_left
    · have e2 : gpN hf q (g - 1 - h) q = gpN hf q (g - 1 - h) x := e.trans (if_neg (fun z => h1 z.2.1))
      have hu1 : u1 = 0 := b1.resolve_right (fun z => h1 (j1.mpr z))
      refine xT_iload g_q259 g259_164 (l7) ?_
      refine xT_iload g_q259 g259_166 (l5) ?_
      refine xT_icV (y := -1) g_q259 g259_168 (by decide) ?_
      refine xT_ixorV (y := x_bin 5 (nI q) (-1)) g_q259 g259_169 (rfl) ?_
      refine xT_iandV (y := nI (andn (x + 1) q)) g_q259 g259_170 (b_andn (by omega) (by omega)) ?_
      refine xT_ifCondN g_q259 g259_171 (t := 208) (by decide) (c1N (b := 0) hz) ?_
      refine xT_aload_n g_q259 g259_174 (l0) ?_
      refine xT_getfield g_q259 g259_175 hbA rfl hb rfl h68 ?_
      refine xT_icV (y := nI (1)) g_q259 g259_178 (by decide) ?_
      refine xT_aaload g_q259 g259_179 (by decide +kernel) hcn (ixN (n := 4) (by omega) hcl) (ixG (by omega) (hcr _ (by omega)).1) ?_
      refine xT_iload g_q259 g259_180 (l7) ?_
      refine xT_baload g_q259 g259_182 (hcr 1 (by decide)).2.1 c1 (ixN (n := 256) (by omega) c2) (ixG (by omega) d1) ?_
      refine xT_ifCondY g_q259 g259_183 (t := 208) (by decide) (c0Y (a := u1) (b := 0) hu1) ?_
      refine xT_iincV (y := nI (x)) g_q259 g259_208 (l7) (by decide) (bDecN (by omega)) ?_
      refine xT_goto g_q259 g259_211 (t := 164) (by decide) ?_
      exact ih _ (by omega) e2 (lkN (by decide) (l0)) (lkN (by decide) (l1)) (lkN (by decide) (l2)) (lkN (by decide) (l5)) (lkN (by decide) (l6)) (lkY)
    have u1e := j1.mp h1
    by_cases hg2 : hf (q - (x + 1)) ≤ g - 1 - h
    rotate_left
    · have e2 : gpN hf q (g - 1 - h) q = gpN hf q (g - 1 - h) x := e.trans (if_neg (fun z => hg2 z.2.2))
      have hu2 : u2 = 0 := b2.resolve_right (fun z => hg2 (i2.mp z))
      refine xT_iload g_q259 g259_164 (l7) ?_
      refine xT_iload g_q259 g259_166 (l5) ?_
      refine xT_icV (y := -1) g_q259 g259_168 (by decide) ?_
      refine xT_ixorV (y := x_bin 5 (nI q) (-1)) g_q259 g259_169 (rfl) ?_
      refine xT_iandV (y := nI (andn (x + 1) q)) g_q259 g259_170 (b_andn (by omega) (by omega)) ?_
      refine xT_ifCondN g_q259 g259_171 (t := 208) (by decide) (c1N (b := 0) hz) ?_
      refine xT_aload_n g_q259 g259_174 (l0) ?_
      refine xT_getfield g_q259 g259_175 hbA rfl hb rfl h68 ?_
      refine xT_icV (y := nI (1)) g_q259 g259_178 (by decide) ?_
      refine xT_aaload g_q259 g259_179 (by decide +kernel) hcn (ixN (n := 4) (by omega) hcl) (ixG (by omega) (hcr _ (by omega)).1) ?_
      refine xT_iload g_q259 g259_180 (l7) ?_
      refine xT_baload g_q259 g259_182 (hcr 1 (by decide)).2.1 c1 (ixN (n := 256) (by omega) c2) (ixG (by omega) d1) ?_
      refine xT_ifCondN g_q259 g259_183 (t := 208) (by decide) (c0N (a := u1) (b := 0) (by omega) (by omega) (by omega)) ?_
      refine xT_aload_n g_q259 g259_186 (l0) ?_
      refine xT_getfield g_q259 g259_187 hbA rfl hb rfl h68 ?_
      refine xT_iload_n g_q259 g259_190 (l1) ?_
      refine xT_icV (y := nI (1)) g_q259 g259_191 (by decide) ?_
      refine xT_isubV (y := nI (g - 1)) g_q259 g259_192 (bSubN (by omega)) ?_
      refine xT_iload g_q259 g259_193 (l6) ?_
      refine xT_isubV (y := nI (g - 1 - h)) g_q259 g259_195 (bSubN (by omega)) ?_
      refine xT_aaload g_q259 g259_196 (by decide +kernel) hcn (ixN (n := 4) (by omega) hcl) (ixG (by omega) (hcr _ (by omega)).1) ?_
      refine xT_iload g_q259 g259_197 (l5) ?_
      refine xT_iload g_q259 g259_199 (l7) ?_
      refine xT_icV (y := -1) g_q259 g259_201 (by decide) ?_
      refine xT_ixorV (y := x_bin 5 (nI (x + 1)) (-1)) g_q259 g259_202 (rfl) ?_
      refine xT_iandV (y := nI (q - (x + 1))) g_q259 g259_203 (hqx) ?_
      refine xT_baload g_q259 g259_204 (hcr (g - 1 - h) (by omega)).2.1 k1 (ixN (n := 256) (by omega) k2) (ixG (by omega) d2) ?_
      refine xT_ifCondN g_q259 g259_205 (t := 214) (by decide) (c1N (a := u2) (b := 0) hu2) ?_
      refine xT_iincV (y := nI (x)) g_q259 g259_208 (l7) (by decide) (bDecN (by omega)) ?_
      refine xT_goto g_q259 g259_211 (t := 164) (by decide) ?_
      exact ih _ (by omega) e2 (lkN (by decide) (l0)) (lkN (by decide) (l1)) (lkN (by decide) (l2)) (lkN (by decide) (l5)) (lkN (by decide) (l6)) (lkY)
    have u2e := i2.mpr hg2
    have e2 : gpN hf q (g - 1 - h) q = x + 1 := e.trans (if_pos ⟨hz, h1, hg2⟩)
    refine xT_iload g_q259 g259_164 (l7) ?_
    refine xT_iload g_q259 g259_166 (l5) ?_
    refine xT_icV (y := -1) g_q259 g259_168 (by decide) ?_
    refine xT_ixorV (y := x_bin 5 (nI q) (-1)) g_q259 g259_169 (rfl) ?_
    refine xT_iandV (y := nI (andn (x + 1) q)) g_q259 g259_170 (b_andn (by omega) (by omega)) ?_
    refine xT_ifCondN g_q259 g259_171 (t := 208) (by decide) (c1N (b := 0) hz) ?_
    refine xT_aload_n g_q259 g259_174 (l0) ?_
    refine xT_getfield g_q259 g259_175 hbA rfl hb rfl h68 ?_
    refine xT_icV (y := nI (1)) g_q259 g259_178 (by decide) ?_
    refine xT_aaload g_q259 g259_179 (by decide +kernel) hcn (ixN (n := 4) (by omega) hcl) (ixG (by omega) (hcr _ (by omega)).1) ?_
    refine xT_iload g_q259 g259_180 (l7) ?_
    refine xT_baload g_q259 g259_182 (hcr 1 (by decide)).2.1 c1 (ixN (n := 256) (by omega) c2) (ixG (by omega) d1) ?_
    refine xT_ifCondN g_q259 g259_183 (t := 208) (by decide) (c0N (a := u1) (b := 0) (by omega) (by omega) (by omega)) ?_
    refine xT_aload_n g_q259 g259_186 (l0) ?_
    refine xT_getfield g_q259 g259_187 hbA rfl hb rfl h68 ?_
    refine xT_iload_n g_q259 g259_190 (l1) ?_
    refine xT_icV (y := nI (1)) g_q259 g259_191 (by decide) ?_
    refine xT_isubV (y := nI (g - 1)) g_q259 g259_192 (bSubN (by omega)) ?_
    refine xT_iload g_q259 g259_193 (l6) ?_
    refine xT_isubV (y := nI (g - 1 - h)) g_q259 g259_195 (bSubN (by omega)) ?_
    refine xT_aaload g_q259 g259_196 (by decide +kernel) hcn (ixN (n := 4) (by omega) hcl) (ixG (by omega) (hcr _ (by omega)).1) ?_
    refine xT_iload g_q259 g259_197 (l5) ?_
    refine xT_iload g_q259 g259_199 (l7) ?_
    refine xT_icV (y := -1) g_q259 g259_201 (by decide) ?_
    refine xT_ixorV (y := x_bin 5 (nI (x + 1)) (-1)) g_q259 g259_202 (rfl) ?_
    refine xT_iandV (y := nI (q - (x + 1))) g_q259 g259_203 (hqx) ?_
    refine xT_baload g_q259 g259_204 (hcr (g - 1 - h) (by omega)).2.1 k1 (ixN (n := 256) (by omega) k2) (ixG (by omega) d2) ?_
    refine xT_ifCondY g_q259 g259_205 (t := 214) (by decide) (c1Y (a := u2) (b := 0) (by omega) (by omega) (by omega)) ?_
    exact kk _ (l0) (l1) (l2) (l5) (l6) (by rw [e2]; exact l7)
end XH3531
