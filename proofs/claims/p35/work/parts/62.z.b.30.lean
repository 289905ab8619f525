/-! p35 by hand, 29. -/
noncomputable section XH3529
variable {ot : XO Int32} {dp : Nat} {H : List (XC Int32)} {p n m : Nat} {r : Nat → Nat} {pl mi la we ord hf : Nat → Nat}
theorem t259_s {b g B D j : Nat} {w : Int32} (hS : isSt H b n pl mi la we) (hj8 : j < 256) {v : Option (XV Int32)} {H2 : List (XC Int32)} (kk : ∀ L, x_lk L 0 = some (.inr (some b)) → x_lk L 1 = some (.inl (nI g)) → x_lk L 2 = some (.inl w) → x_lk L 3 = some (.inl (nI B)) → x_lk L 4 = some (.inl (nI D)) → x_lk L 5 = some (.inl (nI j)) → x_lk L 6 = some (.inl (nI (wtD we j n))) → x_To x_tb x_tyl ot dp 259 106 L [] H 0 0 v H2) : ∀ (d i : Nat) (L : List (Nat × XV Int32)), i + d = n → x_lk L 0 = some (.inr (some b)) → x_lk L 1 = some (.inl (nI g)) → x_lk L 2 = some (.inl w) → x_lk L 3 = some (.inl (nI B)) → x_lk L 4 = some (.inl (nI D)) → x_lk L 5 = some (.inl (nI j)) → x_lk L 6 = some (.inl (nI (wtD we j i))) → x_lk L 7 = some (.inl (nI i)) → x_To x_tb x_tyl ot dp 259 62 L [] H 0 0 v H2 := by
  obtain ⟨fs, sr, st, rr, ⟨hbA, hb, h36, h8, h37, hst, hsl⟩, hrr0, -⟩ := id hS
  have hrr : ∀ x, x < 8 → sr[x]? = some (.inr (some (rr x))) ∧ rr x < 1000000 := fun x hx => ⟨(hrr0 x hx).1, (hrr0 x hx).2.1⟩
  have hR : ∀ x, x < n → H[rr x]? = some (.inr (0, [.inl (nI (pl x)), .inl (nI (mi x)), .inl (nI (la x)), .inl (nI (we x))])) := fun x hx => by
    obtain ⟨-, -, w, w1, -, w3⟩ := hrr0 x (by omega)
    rw [w1, w3 hx]
  intro d
  induction d with
  | zero =>
    intro i L hi l0 l1 l2 l3 l4 l5 l6 l7
    obtain rfl : n = i := by omega
    refine xT_iload g_q259 g259_62 (l7) ?_
    refine xT_aload_n g_q259 g259_64 (l0) ?_
    refine xT_getfield g_q259 g259_65 hbA rfl hb rfl h36 ?_
    refine xT_if_icmpY g_q259 g259_68 (t := 106) (by decide) (c3Y (a := n) (b := n) (by omega) (by omega) (by omega)) ?_
    exact kk L l0 l1 l2 l3 l4 l5 l6
  | succ d ih =>
    intro i L hi l0 l1 l2 l3 l4 l5 l6 l7
    by_cases hbt : bitP j i = 1
    · have he : wtD we j i + we i = wtD we j (i + 1) := by
        show _ = wtD we j i + (if bitP j i = 1 then we i else 0)
        rw [if_pos hbt]
      refine xT_iload g_q259 g259_62 (l7) ?_
      refine xT_aload_n g_q259 g259_64 (l0) ?_
      refine xT_getfield g_q259 g259_65 hbA rfl hb rfl h36 ?_
      refine xT_if_icmpN g_q259 g259_68 (t := 106) (by decide) (c3N (a := i) (b := n) (by omega) (by omega) (by omega)) ?_
      refine xT_iload g_q259 g259_71 (l6) ?_
      refine xT_iload g_q259 g259_73 (l5) ?_
      refine xT_iload g_q259 g259_75 (l7) ?_
      refine xT_ishrV (y := x_bin 7 (nI (j)) (nI (i))) g_q259 g259_77 (rfl) ?_
      refine xT_icV (y := nI (1)) g_q259 g259_78 (by decide) ?_
      refine xT_iandV (y := x_bin 3 (x_bin 7 (nI (j)) (nI (i))) (nI (1))) g_q259 g259_79 (rfl) ?_
      refine xT_icV (y := nI (1)) g_q259 g259_80 (by decide) ?_
      refine xT_if_icmpN g_q259 g259_81 (t := 96) (by decide) (b_bitY hj8 (by omega) hbt) ?_
      refine xT_aload_n g_q259 g259_84 (l0) ?_
      refine xT_getfield g_q259 g259_85 hbA rfl hb rfl h37 ?_
      refine xT_iload g_q259 g259_88 (l7) ?_
      refine xT_aaload g_q259 g259_90 (by decide +kernel) hst (ixN (n := 8) (by omega) hsl) (ixG (by omega) (hrr _ (by omega)).1) ?_
      refine xT_icV (y := nI (3)) g_q259 g259_91 (by decide) ?_
      refine xT_iaload g_q259 g259_92 (by have := (hrr (i) (by omega)).2; omega) (hR (i) (by omega)) (ixN (n := 4) (by decide) rfl) (ixG (by decide) rfl) ?_
      refine xT_goto g_q259 g259_93 (t := 97) (by decide) ?_
      refine xT_iaddV (y := nI (wtD we j (i + 1))) g_q259 g259_97 ((bAddN _ _).trans (congrArg nI he)) ?_
      refine xT_istore g_q259 g259_98 (by decide) ?_
      refine xT_iincV (y := nI (i + 1)) g_q259 g259_100 (lkN (by decide) (l7)) (by decide) (bIncN _) ?_
      refine xT_goto g_q259 g259_103 (t := 62) (by decide) ?_
      exact ih (i + 1) _ (by omega) (lkN (by decide) (lkN (by decide) (l0))) (lkN (by decide) (lkN (by decide) (l1))) (lkN (by decide) (lkN (by decide) (l2))) (lkN (by decide) (lkN (by decide) (l3))) (lkN (by decide) (lkN (by decide) (l4))) (lkN (by decide) (lkN (by decide) (l5))) (lkN (by decide) (lkY)) (lkY)
    · have he : wtD we j i + 0 = wtD we j (i + 1) := by
        show _ = wtD we j i + (if bitP j i = 1 then we i else 0)
        rw [if_neg hbt]
      refine xT_iload g_q259 g259_62 (l7) ?_
      refine xT_aload_n g_q259 g259_64 (l0) ?_
      refine xT_getfield g_q259 g259_65 hbA rfl hb rfl h36 ?_
      refine xT_if_icmpN g_q259 g259_68 (t := 106) (by decide) (c3N (a := i) (b := n) (by omega) (by omega) (by omega)) ?_
      refine xT_iload g_q259 g259_71 (l6) ?_
      refine xT_iload g_q259 g259_73 (l5) ?_
      refine xT_iload g_q259 g259_75 (l7) ?_
      refine xT_ishrV (y := x_bin 7 (nI (j)) (nI (i))) g_q259 g259_77 (rfl) ?_
      refine xT_icV (y := nI (1)) g_q259 g259_78 (by decide) ?_
      refine xT_iandV (y := x_bin 3 (x_bin 7 (nI (j)) (nI (i))) (nI (1))) g_q259 g259_79 (rfl) ?_
      refine xT_icV (y := nI (1)) g_q259 g259_80 (by decide) ?_
      refine xT_if_icmpY g_q259 g259_81 (t := 96) (by decide) (b_bitN hj8 (by omega) hbt) ?_
      refine xT_icV (y := nI (0)) g_q259 g259_96 (by decide) ?_
      refine xT_iaddV (y := nI (wtD we j (i + 1))) g_q259 g259_97 ((bAddN _ _).trans (congrArg nI he)) ?_
      refine xT_istore g_q259 g259_98 (by decide) ?_
      refine xT_iincV (y := nI (i + 1)) g_q259 g259_100 (lkN (by decide) (l7)) (by decide) (bIncN _) ?_
      refine xT_goto g_q259 g259_103 (t := 62) (by decide) ?_
      exact ih (i + 1) _ (by omega) (lkN (by decide) (lkN (by decide) (l0))) (lkN (by decide) (lkN (by decide) (l1))) (lkN (by decide) (lkN (by decide) (l2))) (lkN (by decide) (lkN (by decide) (l3))) (lkN (by decide) (lkN (by decide) (l4))) (lkN (by decide) (lkN (by decide) (l5))) (lkN (by decide) (lkY)) (lkY)
end XH3529
