/-! p35 by hand, 14. -/
noncomputable section XH3514
variable {ot : XO Int32} {dp : Nat} {H : List (XC Int32)} {p n m : Nat} {r : Nat → Nat} {pl mi la we ord hf : Nat → Nat}
theorem t260_set {b hn : Nat} {R : Nat → Nat} {Fin : Option (XV Int32) → List (XC Int32) → Prop} {g : Nat} (hg : g + 2 < 4) (hn8 : n ≤ 8) (kk : ∀ (L : List (Nat × XV Int32)) (H : List (XC Int32)), isSt H b n pl mi la we → isCn H b R (fun h i => h ≤ g + 2 ∧ i < 2 ^ n) (canN (fun s => mtD ord pl mi la s n 0 0 0)) → x_lk L 0 = some (.inr (some b)) → x_lk L 1 = some (.inl (nI hn)) → x_lk L 2 = some (.inl (nI (g + 2))) → ∃ v H2, x_To x_tb x_tyl ot (dp + 1) 260 159 L [] H 0 0 v H2 ∧ Fin v H2) : ∀ (d s : Nat) (L : List (Nat × XV Int32)) (H : List (XC Int32)), s + d = 2 ^ n → isSt H b n pl mi la we → isCn H b R (fun h i => (h ≤ g + 1 ∧ i < 2 ^ n) ∨ (h = g + 2 ∧ i < s)) (canN (fun s => mtD ord pl mi la s n 0 0 0)) → x_lk L 0 = some (.inr (some b)) → x_lk L 1 = some (.inl (nI hn)) → x_lk L 2 = some (.inl (nI (g + 2))) → x_lk L 3 = some (.inl (nI s)) → ∃ v H2, x_To x_tb x_tyl ot (dp + 1) 260 57 L [] H 0 0 v H2 ∧ Fin v H2 := by
  intro d
  induction d with
  | zero =>
    intro s L H hs hS hC l0 l1 l2 l3
    obtain ⟨fs, cr, cn, ⟨hbA, hb, h68, hcn, hcl⟩, hcr, hinj⟩ := id hC
    obtain ⟨fs9, -, -, -, ⟨-, hb9, h36, h8, -⟩, -⟩ := id hS
    obtain rfl : fs9 = fs := by
      rw [hb] at hb9
      cases hb9
      rfl
    obtain ⟨s1, s2, s3⟩ := b_shl n (by omega)
    obtain rfl : s = 2 ^ n := by omega
    obtain ⟨v, H2, x, f⟩ := kk L H hS (by
      obtain ⟨fs, cr, cn, z1, z2, z3⟩ := hC
      refine ⟨fs, cr, cn, z1, fun h hh => ?_, z3⟩
      obtain ⟨y1, y2, V, y3, y4, y5⟩ := z2 h hh
      exact ⟨y1, y2, V, y3, y4, fun i hi z => y5 i hi (by omega)⟩) l0 l1 l2
    refine ⟨v, H2, ?_, f⟩
    refine xT_iload_n g_q260 g260_57 (l3) ?_
    refine xT_icV (y := nI (1)) g_q260 g260_58 (by decide) ?_
    refine xT_aload_n g_q260 g260_59 (l0) ?_
    refine xT_getfield g_q260 g260_60 hbA rfl hb rfl h36 ?_
    refine xT_ishlV (y := nI (2 ^ n)) g_q260 g260_63 ((b_shl n (by omega)).1) ?_
    refine xT_if_icmpY g_q260 g260_64 (t := 159) (by decide) (c3Y (Nat.le_refl _) (by omega) (by omega)) ?_
    exact x
  | succ d ih =>
    intro s L H hs hS hC l0 l1 l2 l3
    obtain ⟨fs, cr, cn, ⟨hbA, hb, h68, hcn, hcl⟩, hcr, hinj⟩ := id hC
    obtain ⟨fs9, -, -, -, ⟨-, hb9, h36, h8, -⟩, -⟩ := id hS
    obtain rfl : fs9 = fs := by
      rw [hb] at hb9
      cases hb9
      rfl
    obtain ⟨s1, s2, s3⟩ := b_shl n (by omega)
    obtain ⟨-, -, V, f1, f2, -⟩ := hcr (g + 2) hg
    obtain ⟨v, H2, x, f⟩ := t260_own (ot := ot) (hn := hn) (Fin := Fin) (dp := dp) (we := we) hg hn8 (s := s) (by omega) (kn := fun h i => (h ≤ g + 1 ∧ i < 2 ^ n) ∨ (h = g + 2 ∧ i < s)) (fun o ho => ⟨Or.inl ⟨by omega, ho⟩, Or.inl ⟨by omega, ho⟩⟩) (fun z => by omega) (fun L H hS hC m0 m1 m2 m3 => by
      obtain ⟨fs, cr, cn, ⟨hbA, hb, h68, hcn, hcl⟩, hcr, hinj⟩ := id hC
      obtain ⟨v, H2, x, f⟩ := ih (s + 1) (x_st (L) 3 (.inl (nI (s + 1)))) H (by omega) hS (by
        obtain ⟨fs, cr, cn, z1, z2, z3⟩ := hC
        refine ⟨fs, cr, cn, z1, fun h hh => ?_, z3⟩
        obtain ⟨y1, y2, V, y3, y4, y5⟩ := z2 h hh
        exact ⟨y1, y2, V, y3, y4, fun i hi z => y5 i hi (by omega)⟩) (lkN (by decide) (m0)) (lkN (by decide) (m1)) (lkN (by decide) (m2)) (lkY)
      refine ⟨v, H2, ?_, f⟩
      refine xT_iincV (y := nI (s + 1)) g_q260 g260_153 (m3) (by decide) (bIncN _) ?_
      refine xT_goto g_q260 g260_156 (t := 57) (by decide) ?_
      exact x) (s + 1) 0 (V.set s (.inl (nI 0))) (x_st (L) 4 (.inl (nI (s)))) (H.set (R (g + 2)) (.inr (1, V.set s (.inl (nI 0))))) (Nat.le_refl _) (isSt_set hS f1) (isCn_put hC hg (by omega) f1 (fun h' i' z => Or.inr ⟨z, fun q => by omega⟩)) (gself f1) (by rw [List.length_set]; exact f2) (List.getElem?_set_self (by omega)) (Or.inl rfl) rfl (lkN (by decide) (l0)) (lkN (by decide) (l1)) (lkN (by decide) (l2)) (lkN (by decide) (l3)) (lkY)
    refine ⟨v, H2, ?_, f⟩
    refine xT_iload_n g_q260 g260_57 (l3) ?_
    refine xT_icV (y := nI (1)) g_q260 g260_58 (by decide) ?_
    refine xT_aload_n g_q260 g260_59 (l0) ?_
    refine xT_getfield g_q260 g260_60 hbA rfl hb rfl h36 ?_
    refine xT_ishlV (y := nI (2 ^ n)) g_q260 g260_63 ((b_shl n (by omega)).1) ?_
    refine xT_if_icmpN g_q260 g260_64 (t := 159) (by decide) (c3N (a := s) (b := 2 ^ n) (by omega) (by omega) (by omega)) ?_
    refine xT_aload_n g_q260 g260_67 (l0) ?_
    refine xT_getfield g_q260 g260_68 hbA rfl hb rfl h68 ?_
    refine xT_iload_n g_q260 g260_71 (l2) ?_
    refine xT_aaload g_q260 g260_72 (by decide +kernel) hcn (ixN (n := 4) (by omega) hcl) (ixG (by omega) (hcr _ (by omega)).1) ?_
    refine xT_iload_n g_q260 g260_73 (l3) ?_
    refine xT_icV (y := nI (0)) g_q260 g260_74 (by decide) ?_
    refine xT_b256 g_q260 g260_75 (Or.inl rfl) f1 f2 (by omega) ?_
    refine xT_iload_n g_q260 g260_76 (l3) ?_
    refine xT_istore g_q260 g260_77 (by decide) ?_
    exact x
end XH3514
