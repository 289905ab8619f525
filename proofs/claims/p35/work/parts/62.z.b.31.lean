/-! p35 by hand, 30. -/
noncomputable section XH3530
variable {ot : XO Int32} {dp : Nat} {H : List (XC Int32)} {p n m : Nat} {r : Nat → Nat} {pl mi la we ord hf : Nat → Nat}
theorem t259_b {b g : Nat} {R : Nat → Nat} {w : Int32} (hS : isSt H b n pl mi la we) (hC : isCn H b R (fun h i => (h ≤ 1 ∨ h ≤ g) ∧ i < 2 ^ n) (canN (fun s => mtD ord pl mi la s n 0 0 0))) (hB : stB pl mi la we) (hh : hfOk (fun s => mtD ord pl mi la s n 0 0 0) hf (2 ^ n)) (hg : g ≤ 3) {v : Option (XV Int32)} {H2 : List (XC Int32)} (kk : ∀ L, x_lk L 0 = some (.inr (some b)) → x_lk L 1 = some (.inl (nI g)) → x_lk L 2 = some (.inl w) → x_lk L 3 = some (.inl (nI (bsN (fun j => decide (hf j ≤ g)) (fun j => wtD we j n) (2 ^ n)))) → x_lk L 4 = some (.inl (nI (wtD we (bsN (fun j => decide (hf j ≤ g)) (fun j => wtD we j n) (2 ^ n)) n))) → x_To x_tb x_tyl ot dp 259 138 L [] H 0 0 v H2) : ∀ (d j : Nat) (L : List (Nat × XV Int32)), j + d = 2 ^ n → x_lk L 0 = some (.inr (some b)) → x_lk L 1 = some (.inl (nI g)) → x_lk L 2 = some (.inl w) → x_lk L 3 = some (.inl (nI (bsN (fun j => decide (hf j ≤ g)) (fun j => wtD we j n) j))) → x_lk L 4 = some (.inl (nI (wtD we (bsN (fun j => decide (hf j ≤ g)) (fun j => wtD we j n) j) n))) → x_lk L 5 = some (.inl (nI j)) → x_To x_tb x_tyl ot dp 259 45 L [] H 0 0 v H2 := by
  obtain ⟨fs, cr, cn, ⟨hbA, hb, h68, hcn, hcl⟩, hcr, hinj⟩ := id hC
  obtain ⟨fs9, -, -, -, ⟨-, hb9, h36, h8, -⟩, -⟩ := id hS
  obtain rfl : fs9 = fs := by
    rw [hb] at hb9
    cases hb9
    rfl
  obtain ⟨s1, s2, s3⟩ := b_shl n (by omega)
  have hwe : ∀ k, we k ≤ 99 := fun k => (hB k).2.2.2
  intro d
  induction d with
  | zero =>
    intro j L hj l0 l1 l2 l3 l4 l5
    obtain rfl : j = 2 ^ n := by omega
    refine xT_iload g_q259 g259_45 (l5) ?_
    refine xT_icV (y := nI (1)) g_q259 g259_47 (by decide) ?_
    refine xT_aload_n g_q259 g259_48 (l0) ?_
    refine xT_getfield g_q259 g259_49 hbA rfl hb rfl h36 ?_
    refine xT_ishlV (y := nI (2 ^ n)) g_q259 g259_52 ((b_shl n (by omega)).1) ?_
    refine xT_if_icmpY g_q259 g259_53 (t := 138) (by decide) (c3Y (Nat.le_refl _) (by omega) (by omega)) ?_
    exact kk L l0 l1 l2 l3 l4
  | succ d ih =>
    intro j L hj l0 l1 l2 l3 l4 l5
    refine xT_iload g_q259 g259_45 (l5) ?_
    refine xT_icV (y := nI (1)) g_q259 g259_47 (by decide) ?_
    refine xT_aload_n g_q259 g259_48 (l0) ?_
    refine xT_getfield g_q259 g259_49 hbA rfl hb rfl h36 ?_
    refine xT_ishlV (y := nI (2 ^ n)) g_q259 g259_52 ((b_shl n (by omega)).1) ?_
    refine xT_if_icmpN g_q259 g259_53 (t := 138) (by decide) (c3N (a := j) (b := 2 ^ n) (by omega) (by omega) (by omega)) ?_
    refine xT_icV (y := nI (0)) g_q259 g259_56 (by decide) ?_
    refine xT_istore g_q259 g259_57 (by decide) ?_
    refine xT_icV (y := nI (0)) g_q259 g259_59 (by decide) ?_
    refine xT_istore g_q259 g259_60 (by decide) ?_
    refine t259_s hS (by omega) (fun L m0 m1 m2 m3 m4 m5 m6 => ?_) n 0 _ (by omega) (lkN (by decide) (lkN (by decide) (l0))) (lkN (by decide) (lkN (by decide) (l1))) (lkN (by decide) (lkN (by decide) (l2))) (lkN (by decide) (lkN (by decide) (l3))) (lkN (by decide) (lkN (by decide) (l4))) (lkN (by decide) (lkN (by decide) (l5))) (lkN (by decide) (lkY)) (lkY)
    obtain ⟨-, -, C, c1, c2, c3⟩ := hcr g (by omega)
    have hcb := canN_b (M := fun s => mtD ord pl mi la s n 0 0 0) (fun s => mtD_b _ _ _ _) g j
    have hch := can_hf s2 hh (mtD_0 _ _ _ _) g hg j (by omega)
    obtain ⟨cj, hcj⟩ : ∃ cj, cj = (canN (fun s => mtD ord pl mi la s n 0 0 0)) g j := ⟨_, rfl⟩
    have c3q : C[j]? = some (.inl (nI cj)) := by
      rw [hcj]
      exact c3 j (by omega) ⟨Or.inr (Nat.le_refl g), by omega⟩
    rw [← hcj] at hcb hch
    by_cases ho : hf j ≤ g
    rotate_left
    · have e : (bsN (fun j => decide (hf j ≤ g)) (fun j => wtD we j n) (j + 1)) = (bsN (fun j => decide (hf j ≤ g)) (fun j => wtD we j n) j) := if_neg (fun z => ho (of_decide_eq_true z.1))
      have hcj : cj = 0 := hcb.resolve_right (fun z => ho (hch.mp z))
      · skip
        refine xT_aload_n g_q259 g259_106 (m0) ?_
        refine xT_getfield g_q259 g259_107 hbA rfl hb rfl h68 ?_
        refine xT_iload_n g_q259 g259_110 (m1) ?_
        refine xT_aaload g_q259 g259_111 (by decide +kernel) hcn (ixN (n := 4) (by omega) hcl) (ixG (by omega) (hcr _ (by omega)).1) ?_
        refine xT_iload g_q259 g259_112 (m5) ?_
        refine xT_baload g_q259 g259_114 (hcr g (by omega)).2.1 c1 (ixN (n := 256) (by omega) c2) (ixG (by omega) c3q) ?_
        refine xT_ifCondY g_q259 g259_115 (t := 132) (by decide) (c0Y (a := cj) (b := 0) hcj) ?_
        refine xT_iincV (y := nI (j + 1)) g_q259 g259_132 (m5) (by decide) (bIncN _) ?_
        refine xT_goto g_q259 g259_135 (t := 45) (by decide) ?_
        exact ih (j + 1) _ (by omega) (lkN (by decide) (m0)) (lkN (by decide) (m1)) (lkN (by decide) (m2)) (by rw [e]; exact lkN (by decide) (m3)) (by rw [e]; exact lkN (by decide) (m4)) (lkY)
    have hc1 := hch.mpr ho
    by_cases hw : wtD we j n ≤ wtD we (bsN (fun j => decide (hf j ≤ g)) (fun j => wtD we j n) j) n
    · have e : (bsN (fun j => decide (hf j ≤ g)) (fun j => wtD we j n) (j + 1)) = (bsN (fun j => decide (hf j ≤ g)) (fun j => wtD we j n) j) := if_neg (fun z => absurd z.2 (Nat.not_lt.mpr hw))
      · skip
        refine xT_aload_n g_q259 g259_106 (m0) ?_
        refine xT_getfield g_q259 g259_107 hbA rfl hb rfl h68 ?_
        refine xT_iload_n g_q259 g259_110 (m1) ?_
        refine xT_aaload g_q259 g259_111 (by decide +kernel) hcn (ixN (n := 4) (by omega) hcl) (ixG (by omega) (hcr _ (by omega)).1) ?_
        refine xT_iload g_q259 g259_112 (m5) ?_
        refine xT_baload g_q259 g259_114 (hcr g (by omega)).2.1 c1 (ixN (n := 256) (by omega) c2) (ixG (by omega) c3q) ?_
        refine xT_ifCondN g_q259 g259_115 (t := 132) (by decide) (c0N (a := cj) (b := 0) (by omega) (by omega) (by omega)) ?_
        refine xT_iload g_q259 g259_118 (m6) ?_
        refine xT_iload g_q259 g259_120 (m4) ?_
        refine xT_if_icmpY g_q259 g259_122 (t := 132) (by decide) (c5Y (a := wtD we j n) (b := wtD we (bsN (fun j => decide (hf j ≤ g)) (fun j => wtD we j n) j) n) hw (by have := wtD_le (s := j) hwe n; omega) (by have := wtD_le (s := (bsN (fun j => decide (hf j ≤ g)) (fun j => wtD we j n) j)) hwe n; omega)) ?_
        refine xT_iincV (y := nI (j + 1)) g_q259 g259_132 (m5) (by decide) (bIncN _) ?_
        refine xT_goto g_q259 g259_135 (t := 45) (by decide) ?_
        exact ih (j + 1) _ (by omega) (lkN (by decide) (m0)) (lkN (by decide) (m1)) (lkN (by decide) (m2)) (by rw [e]; exact lkN (by decide) (m3)) (by rw [e]; exact lkN (by decide) (m4)) (lkY)
    · have hw := Nat.lt_of_not_le hw
      have e : (bsN (fun j => decide (hf j ≤ g)) (fun j => wtD we j n) (j + 1)) = j := if_pos ⟨decide_eq_true ho, hw⟩
      · skip
        refine xT_aload_n g_q259 g259_106 (m0) ?_
        refine xT_getfield g_q259 g259_107 hbA rfl hb rfl h68 ?_
        refine xT_iload_n g_q259 g259_110 (m1) ?_
        refine xT_aaload g_q259 g259_111 (by decide +kernel) hcn (ixN (n := 4) (by omega) hcl) (ixG (by omega) (hcr _ (by omega)).1) ?_
        refine xT_iload g_q259 g259_112 (m5) ?_
        refine xT_baload g_q259 g259_114 (hcr g (by omega)).2.1 c1 (ixN (n := 256) (by omega) c2) (ixG (by omega) c3q) ?_
        refine xT_ifCondN g_q259 g259_115 (t := 132) (by decide) (c0N (a := cj) (b := 0) (by omega) (by omega) (by omega)) ?_
        refine xT_iload g_q259 g259_118 (m6) ?_
        refine xT_iload g_q259 g259_120 (m4) ?_
        refine xT_if_icmpN g_q259 g259_122 (t := 132) (by decide) (c5N (a := wtD we j n) (b := wtD we (bsN (fun j => decide (hf j ≤ g)) (fun j => wtD we j n) j) n) hw (by have := wtD_le (s := j) hwe n; omega) (by have := wtD_le (s := (bsN (fun j => decide (hf j ≤ g)) (fun j => wtD we j n) j)) hwe n; omega)) ?_
        refine xT_iload g_q259 g259_125 (m6) ?_
        refine xT_istore g_q259 g259_127 (by decide) ?_
        refine xT_iload g_q259 g259_129 (lkN (by decide) (m5)) ?_
        refine xT_istore_n g_q259 g259_131 (by decide) ?_
        refine xT_iincV (y := nI (j + 1)) g_q259 g259_132 (lkN (by decide) (lkN (by decide) (m5))) (by decide) (bIncN _) ?_
        refine xT_goto g_q259 g259_135 (t := 45) (by decide) ?_
        exact ih (j + 1) _ (by omega) (lkN (by decide) (lkN (by decide) (lkN (by decide) (m0)))) (lkN (by decide) (lkN (by decide) (lkN (by decide) (m1)))) (lkN (by decide) (lkN (by decide) (lkN (by decide) (m2)))) (by rw [e]; exact lkN (by decide) (lkY)) (by rw [e]; exact lkN (by decide) (lkN (by decide) (lkY))) (lkY)
end XH3530
