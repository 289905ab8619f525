/-! p5 by hand, 20. -/
noncomputable section XH5_20
variable {ot : XO Int32} {dp : Nat} {H : List (XC Int32)} {a n m : Nat} {P C nl sv S : Nat → Nat} {op lf rt : Nat → Nat → Nat}
theorem t227_p {b : Nat} {D U : Nat → Nat} {Fin : Option (XV Int32) → List (XC Int32) → Prop} (ho : cdOk n op lf rt nl) (hsv : svOk n sv) (hS : ∀ q, q < n → S q < 64) (kk : ∀ (L : List (Nat × XV Int32)) (H : List (XC Int32)), kB H b n D U op lf rt nl sv (psN op lf rt nl sv S n) (fun _ _ => True) → x_lk L 0 = some (.inr (some (b))) → x_lk L 1 = some (.inl (nI (chN op lf rt nl sv S n))) → ∃ v H2, x_To x_tb x_tyl ot (dp + 2) 227 147 L [] H 0 0 v H2 ∧ Fin v H2) : ∀ (d p : Nat) (L : List (Nat × XV Int32)) (H : List (XC Int32)), p + d = n → kB H b n D U op lf rt nl sv (psN op lf rt nl sv S p) (fun _ _ => True) → x_lk L 0 = some (.inr (some (b))) → x_lk L 1 = some (.inl (nI (chN op lf rt nl sv S p))) → x_lk L 2 = some (.inl (nI (p))) → ∃ v H2, x_To x_tb x_tyl ot (dp + 2) 227 49 L [] H 0 0 v H2 ∧ Fin v H2 := by
  intro d
  induction d with
  | zero =>
    intro p L H hpd hB l0 l1 l2
    obtain ⟨⟨hbA, hn12, gs, ln, cd, ip, su, vc, vi, vs, hb, g0, g1, g2, g6, g63, ⟨ln0, vl, ln1, ln2, ln3⟩, ⟨cd1, cd2, cd3⟩, ⟨ip0, ip1, ip2, ip3⟩, su1, su2, su3⟩, hD, hU, inj⟩ := id hB
    obtain rfl : n = p := by omega
    obtain ⟨v, H2, x, f⟩ := kk L H hB l0 l1
    refine ⟨v, H2, ?_, f⟩
    refine xT_iload_n g_q227 g227_49 (l2) ?_
    refine xT_aload_n g_q227 g227_50 (l0) ?_
    refine xT_getfield g_q227 g227_51 hbA rfl hb rfl g0 ?_
    refine xT_if_icmpY g_q227 g227_54 (t := 147) (by decide) (c3Y (a := n) (b := n) (Nat.le_refl _) (by omega) (by omega)) ?_
    exact x
  | succ d ih =>
    intro p L H hpd hB l0 l1 l2
    have hp : p < n := by omega
    obtain ⟨⟨hbA, hn12, gs, ln, cd, ip, su, vc, vi, vs, hb, g0, g1, g2, g6, g63, ⟨ln0, vl, ln1, ln2, ln3⟩, ⟨cd1, cd2, cd3⟩, ⟨ip0, ip1, ip2, ip3⟩, su1, su2, su3⟩, hD, hU, inj⟩ := id hB
    obtain ⟨v, H2, x, f⟩ := t227_l (ot := ot) (dp := dp) (Fin := Fin) (T := (psN op lf rt nl sv S p)) (c0 := chN op lf rt nl sv S p) (ch_b _) ho hsv hp (fun mo L H hB hmo m0 m1 m2 => by
      have e : mo = chN op lf rt nl sv S (p + 1) := hmo
      rw [e] at m1
      obtain ⟨v, H2, x, f⟩ := ih (p + 1) (x_st (L) 2 (.inl (nI (p + 1)))) H (by omega) hB (lkN (by decide) (m0)) (lkN (by decide) (m1)) (lkY)
      refine ⟨v, H2, ?_, f⟩
      refine xT_iincV (y := nI (p + 1)) g_q227 g227_141 (m2) (by decide) (bIncN _) ?_
      refine xT_goto g_q227 g227_144 (t := 49) (by decide) ?_
      exact x) (nl p) 0 ((psN op lf rt nl sv S p) p) (chN op lf rt nl sv S p) (x_st (L) 3 (.inl (nI (0)))) H (by omega) (kB_cg hB (fun q f _ _ _ => ⟨trivial, by
      by_cases e : q = p
      · rw [e, upF_eq]
      · rw [upF_ne e]⟩)) (ps_64 (sv := sv) ho hS p (by omega) p hp) (Nat.le_refl _) (if_pos rfl).symm rfl (lkN (by decide) (l0)) (lkN (by decide) (l1)) (lkN (by decide) (l2)) (lkY)
    refine ⟨v, H2, ?_, f⟩
    refine xT_iload_n g_q227 g227_49 (l2) ?_
    refine xT_aload_n g_q227 g227_50 (l0) ?_
    refine xT_getfield g_q227 g227_51 hbA rfl hb rfl g0 ?_
    refine xT_if_icmpN g_q227 g227_54 (t := 147) (by decide) (c3N (a := p) (b := n) (by omega) (by omega) (by omega)) ?_
    refine xT_icV (y := nI (0)) g_q227 g227_57 (by decide) ?_
    refine xT_istore_n g_q227 g227_58 (by decide) ?_
    exact x
end XH5_20
