/-! p5 by hand, 17. -/
noncomputable section XH5_17
variable {ot : XO Int32} {dp : Nat} {H : List (XC Int32)} {a n m : Nat} {P C nl sv S : Nat → Nat} {op lf rt : Nat → Nat → Nat}
theorem t227_i {b : Nat} {D U : Nat → Nat} {Fin : Option (XV Int32) → List (XC Int32) → Prop} {p : Nat} (hp : p < n) (kk : ∀ (L : List (Nat × XV Int32)) (H : List (XC Int32)), kB H b n D U op lf rt nl sv (fun _ => 0) (fun q _ => q < p + 1) → x_lk L 0 = some (.inr (some (b))) → x_lk L 1 = some (.inl (nI (p + 1))) → ∃ v H2, x_To x_tb x_tyl ot (dp + 2) 227 2 L [] H 0 0 v H2 ∧ Fin v H2) : ∀ (d g : Nat) (L : List (Nat × XV Int32)) (H : List (XC Int32)), g + d = 6 → kB H b n D U op lf rt nl sv (fun _ => 0) (fun q f => q < p ∨ (q = p ∧ f < g)) → x_lk L 0 = some (.inr (some (b))) → x_lk L 1 = some (.inl (nI (p))) → x_lk L 2 = some (.inl (nI (g))) → ∃ v H2, x_To x_tb x_tyl ot (dp + 2) 227 12 L [] H 0 0 v H2 ∧ Fin v H2 := by
  intro d
  induction d with
  | zero =>
    intro g L H hg hB l0 l1 l2
    obtain rfl : g = 6 := by omega
    obtain ⟨v, H2, x, f⟩ := kk (x_st (L) 1 (.inl (nI (p + 1)))) H (kB_cg hB (fun q f _ hf z => ⟨by omega, rfl⟩)) (lkN (by decide) (l0)) (lkY)
    refine ⟨v, H2, ?_, f⟩
    refine xT_iload_n g_q227 g227_12 (l2) ?_
    refine xT_biV (y := nI (6)) g_q227 g227_13 (by decide) ?_
    refine xT_if_icmpY g_q227 g227_15 (t := 33) (by decide) (c3Y (a := 6) (b := 6) (Nat.le_refl _) (by omega) (by omega)) ?_
    refine xT_iincV (y := nI (p + 1)) g_q227 g227_33 (l1) (by decide) (bIncN _) ?_
    refine xT_goto g_q227 g227_36 (t := 2) (by decide) ?_
    exact x
  | succ d ih =>
    intro g L H hg hB l0 l1 l2
    obtain ⟨⟨hbA, hn12, gs, ln, cd, ip, su, vc, vi, vs, hb, g0, g1, g2, g6, g63, ⟨ln0, vl, ln1, ln2, ln3⟩, ⟨cd1, cd2, cd3⟩, ⟨ip0, ip1, ip2, ip3⟩, su1, su2, su3⟩, hD, hU, inj⟩ := id hB
    obtain ⟨u1, uw, u2, u3, -⟩ := hU p hp
    obtain ⟨v, H2, x, f⟩ := ih (g + 1) (x_st (L) 2 (.inl (nI (g + 1)))) (H.set (U p) (.inr (1, uw.set g (.inl (nI 0))))) (by omega) (kB_set hB hp (by omega) u2 (fun q f _ hf z => by
      by_cases e : q = p ∧ f = g
      · exact Or.inl ⟨e.1, e.2, (bit00 f hf).symm⟩
      · exact Or.inr ⟨by omega, e, rfl⟩)) (lkN (by decide) (l0)) (lkN (by decide) (l1)) (lkY)
    refine ⟨v, H2, ?_, f⟩
    refine xT_iload_n g_q227 g227_12 (l2) ?_
    refine xT_biV (y := nI (6)) g_q227 g227_13 (by decide) ?_
    refine xT_if_icmpN g_q227 g227_15 (t := 33) (by decide) (c3N (a := g) (b := 6) (by omega) (by omega) (by omega)) ?_
    refine xT_aload_n g_q227 g227_18 (l0) ?_
    refine xT_getfield g_q227 g227_19 hbA rfl hb rfl g63 ?_
    refine xT_iload_n g_q227 g227_22 (l1) ?_
    refine xT_aaload g_q227 g227_23 (by decide +kernel) su1 (ixN (n := 12) (by omega) su2) (ixG (by omega) (su3 _ (by omega))) ?_
    refine xT_iload_n g_q227 g227_24 (l2) ?_
    refine xT_icV (y := nI (0)) g_q227 g227_25 (by decide) ?_
    refine xT_b6 g_q227 g227_26 (Or.inl rfl) u2 u3 (by omega) ?_
    refine xT_iincV (y := nI (g + 1)) g_q227 g227_27 (l2) (by decide) (bIncN _) ?_
    refine xT_goto g_q227 g227_30 (t := 12) (by decide) ?_
    exact x
end XH5_17
