/-! p35 by hand, 15. -/
noncomputable section XH3515
variable {ot : XO Int32} {dp : Nat} {H : List (XC Int32)} {p n m : Nat} {r : Nat → Nat} {pl mi la we ord hf : Nat → Nat}
theorem t260_h {b hn : Nat} {R : Nat → Nat} {Fin : Option (XV Int32) → List (XC Int32) → Prop} (hh : hn < 4) (hn8 : n ≤ 8) (kk : ∀ (H : List (XC Int32)), isSt H b n pl mi la we → isCn H b R (fun h i => (h ≤ 1 ∨ h ≤ hn) ∧ i < 2 ^ n) (canN (fun s => mtD ord pl mi la s n 0 0 0)) → Fin none H) : ∀ (d g : Nat) (L : List (Nat × XV Int32)) (H : List (XC Int32)), (g + 2 + d = hn + 1 ∨ (d = 0 ∧ hn < g + 2)) → g + 1 ≤ hn ∨ g = 0 → isSt H b n pl mi la we → isCn H b R (fun h i => h ≤ g + 1 ∧ i < 2 ^ n) (canN (fun s => mtD ord pl mi la s n 0 0 0)) → x_lk L 0 = some (.inr (some b)) → x_lk L 1 = some (.inl (nI hn)) → x_lk L 2 = some (.inl (nI (g + 2))) → ∃ v H2, x_To x_tb x_tyl ot (dp + 1) 260 50 L [] H 0 0 v H2 ∧ Fin v H2 := by
  intro d
  induction d with
  | zero =>
    intro g L H hd hg hS hC l0 l1 l2
    refine ⟨none, H, ?_, kk H hS (by
      obtain ⟨fs, cr, cn, z1, z2, z3⟩ := hC
      refine ⟨fs, cr, cn, z1, fun h hh => ?_, z3⟩
      obtain ⟨y1, y2, V, y3, y4, y5⟩ := z2 h hh
      exact ⟨y1, y2, V, y3, y4, fun i hi z => y5 i hi (by omega)⟩)⟩
    refine xT_iload_n g_q260 g260_50 (l2) ?_
    refine xT_iload_n g_q260 g260_51 (l1) ?_
    refine xT_if_icmpY g_q260 g260_52 (t := 165) (by decide) (c4Y (a := g + 2) (b := hn) (by omega) (by omega) (by omega)) ?_
    exact xT_return_ g_q260 g260_165 (rfl)
  | succ d ih =>
    intro g L H hd hg hS hC l0 l1 l2
    have hd : g + 2 + (d + 1) = hn + 1 := by omega
    obtain ⟨v, H2, x, f⟩ := t260_set (ot := ot) (hn := hn) (Fin := Fin) (dp := dp) (g := g) (by omega) hn8 (fun L H hS hC m0 m1 m2 => by
      obtain ⟨v, H2, x, f⟩ := ih (g + 1) (x_st (L) 2 (.inl (nI (g + 1 + 2)))) H (by omega) (by omega) hS hC (lkN (by decide) (m0)) (lkN (by decide) (m1)) (lkY)
      refine ⟨v, H2, ?_, f⟩
      refine xT_iincV (y := nI (g + 1 + 2)) g_q260 g260_159 (m2) (by decide) ((bIncN _).trans (congrArg nI (by omega))) ?_
      refine xT_goto g_q260 g260_162 (t := 50) (by decide) ?_
      exact x) (2 ^ n) 0 (x_st (L) 3 (.inl (nI (0)))) H (by omega) hS (by
      obtain ⟨fs, cr, cn, z1, z2, z3⟩ := hC
      refine ⟨fs, cr, cn, z1, fun h hh => ?_, z3⟩
      obtain ⟨y1, y2, V, y3, y4, y5⟩ := z2 h hh
      exact ⟨y1, y2, V, y3, y4, fun i hi z => y5 i hi (by omega)⟩) (lkN (by decide) (l0)) (lkN (by decide) (l1)) (lkN (by decide) (l2)) (lkY)
    refine ⟨v, H2, ?_, f⟩
    refine xT_iload_n g_q260 g260_50 (l2) ?_
    refine xT_iload_n g_q260 g260_51 (l1) ?_
    refine xT_if_icmpN g_q260 g260_52 (t := 165) (by decide) (c4N (a := g + 2) (b := hn) (by omega) (by omega) (by omega)) ?_
    refine xT_icV (y := nI (0)) g_q260 g260_55 (by decide) ?_
    refine xT_istore_n g_q260 g260_56 (by decide) ?_
    exact x
/-- the table behind findPosts -/
theorem t260 {b hn : Nat} {R : Nat → Nat} (hS : isSt H b n pl mi la we) (hC : isCn H b R (fun _ _ => False) (canN (fun s => mtD ord pl mi la s n 0 0 0))) (hB : stB pl mi la we) (hO : ordOk n ord mi) (hh : hn < 4) : ∃ H2, x_To x_tb x_tyl ot (dp + 1) 260 0 (x_en 0 [.inr (some (b)), .inl (nI (hn))]) [] H 0 0 none H2 ∧ isSt H2 b n pl mi la we ∧ isCn H2 b R (fun h i => (h ≤ 1 ∨ h ≤ hn) ∧ i < 2 ^ n) (canN (fun s => mtD ord pl mi la s n 0 0 0)) := by
  obtain ⟨-, -, -, -, ⟨-, -, -, h8, -⟩, -⟩ := id hS
  obtain ⟨v, H2, x, rfl, f⟩ := t260_1 (ot := ot) (dp := dp) (R := R) (Fin := fun v H2 => v = none ∧ isSt H2 b n pl mi la we ∧ isCn H2 b R (fun h i => (h ≤ 1 ∨ h ≤ hn) ∧ i < 2 ^ n) (canN (fun s => mtD ord pl mi la s n 0 0 0))) hB hO hh (fun L H hS hC m0 m1 => by
    obtain ⟨v, H2, x, f⟩ := t260_h (ot := ot) (dp := dp) (Fin := fun v H2 => v = none ∧ isSt H2 b n pl mi la we ∧ isCn H2 b R (fun h i => (h ≤ 1 ∨ h ≤ hn) ∧ i < 2 ^ n) (canN (fun s => mtD ord pl mi la s n 0 0 0))) hh h8 (fun H h1 h2 => ⟨rfl, h1, h2⟩) (hn - 1) 0 (x_st (L) 2 (.inl (nI (2)))) H (by omega) (Or.inr rfl) hS hC (lkN (by decide) (m0)) (lkN (by decide) (m1)) (lkY)
    refine ⟨v, H2, ?_, f⟩
    refine xT_icV (y := nI (2)) g_q260 g260_48 (by decide) ?_
    refine xT_istore_n g_q260 g260_49 (by decide) ?_
    exact x) (2 ^ n) 0 (x_st ((x_en 0 [.inr (some (b)), .inl (nI (hn))])) 2 (.inl (nI (0)))) H (by omega) hS (by
    obtain ⟨fs, cr, cn, z1, z2, z3⟩ := hC
    refine ⟨fs, cr, cn, z1, fun h hh => ?_, z3⟩
    obtain ⟨y1, y2, V, y3, y4, y5⟩ := z2 h hh
    exact ⟨y1, y2, V, y3, y4, fun i hi z => by omega⟩) (lkN (by decide) (rfl)) (lkN (by decide) (rfl)) (lkY)
  refine ⟨H2, ?_, f⟩
  refine xT_icV (y := nI (0)) g_q260 g260_0 (by decide) ?_
  refine xT_istore_n g_q260 g260_1 (by decide) ?_
  exact x
end XH3515
