/-! p5 by hand, 18. -/
noncomputable section XH5_18
variable {ot : XO Int32} {dp : Nat} {H : List (XC Int32)} {a n m : Nat} {P C nl sv S : Nat → Nat} {op lf rt : Nat → Nat → Nat}
theorem t227_c {b : Nat} {D U : Nat → Nat} {Fin : Option (XV Int32) → List (XC Int32) → Prop} (kk : ∀ (L : List (Nat × XV Int32)) (H : List (XC Int32)), kB H b n D U op lf rt nl sv (fun _ => 0) (fun _ _ => True) → x_lk L 0 = some (.inr (some (b))) → ∃ v H2, x_To x_tb x_tyl ot (dp + 2) 227 39 L [] H 0 0 v H2 ∧ Fin v H2) : ∀ (d p : Nat) (L : List (Nat × XV Int32)) (H : List (XC Int32)), p + d = n → kB H b n D U op lf rt nl sv (fun _ => 0) (fun q _ => q < p) → x_lk L 0 = some (.inr (some (b))) → x_lk L 1 = some (.inl (nI (p))) → ∃ v H2, x_To x_tb x_tyl ot (dp + 2) 227 2 L [] H 0 0 v H2 ∧ Fin v H2 := by
  intro d
  induction d with
  | zero =>
    intro p L H hp hB l0 l1
    obtain ⟨⟨hbA, hn12, gs, ln, cd, ip, su, vc, vi, vs, hb, g0, g1, g2, g6, g63, ⟨ln0, vl, ln1, ln2, ln3⟩, ⟨cd1, cd2, cd3⟩, ⟨ip0, ip1, ip2, ip3⟩, su1, su2, su3⟩, hD, hU, inj⟩ := id hB
    obtain rfl : n = p := by omega
    obtain ⟨v, H2, x, f⟩ := kk L H (kB_cg hB (fun q f hq _ _ => ⟨hq, rfl⟩)) l0
    refine ⟨v, H2, ?_, f⟩
    refine xT_iload_n g_q227 g227_2 (l1) ?_
    refine xT_aload_n g_q227 g227_3 (l0) ?_
    refine xT_getfield g_q227 g227_4 hbA rfl hb rfl g0 ?_
    refine xT_if_icmpY g_q227 g227_7 (t := 39) (by decide) (c3Y (a := n) (b := n) (Nat.le_refl _) (by omega) (by omega)) ?_
    exact x
  | succ d ih =>
    intro p L H hp hB l0 l1
    obtain ⟨⟨hbA, hn12, gs, ln, cd, ip, su, vc, vi, vs, hb, g0, g1, g2, g6, g63, ⟨ln0, vl, ln1, ln2, ln3⟩, ⟨cd1, cd2, cd3⟩, ⟨ip0, ip1, ip2, ip3⟩, su1, su2, su3⟩, hD, hU, inj⟩ := id hB
    obtain ⟨v, H2, x, f⟩ := t227_i (ot := ot) (dp := dp) (Fin := Fin) (p := p) (by omega) (fun L H hB m0 m1 => ih (p + 1) L H (by omega) hB m0 m1) 6 0 (x_st (L) 2 (.inl (nI (0)))) H (by omega) (kB_cg hB (fun q f _ _ z => ⟨by omega, rfl⟩)) (lkN (by decide) (l0)) (lkN (by decide) (l1)) (lkY)
    refine ⟨v, H2, ?_, f⟩
    refine xT_iload_n g_q227 g227_2 (l1) ?_
    refine xT_aload_n g_q227 g227_3 (l0) ?_
    refine xT_getfield g_q227 g227_4 hbA rfl hb rfl g0 ?_
    refine xT_if_icmpN g_q227 g227_7 (t := 39) (by decide) (c3N (a := p) (b := n) (by omega) (by omega) (by omega)) ?_
    refine xT_icV (y := nI (0)) g_q227 g227_10 (by decide) ?_
    refine xT_istore_n g_q227 g227_11 (by decide) ?_
    exact x
end XH5_18
