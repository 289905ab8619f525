/-! p35 by hand, 9. -/
noncomputable section XH359
variable {ot : XO Int32} {dp : Nat} {H : List (XC Int32)} {p n m : Nat} {r : Nat → Nat} {pl mi la we ord hf : Nat → Nat}
/-- which stop is seen as the next so far -/
def nxI (q k0 i : Nat) (nx : Int32) : Prop := (k0 < i ∧ nx = nI k0) ∨ (i ≤ k0 ∧ (nx = -1 ∨ ∃ x, x < i ∧ bitP q x = 1 ∧ nx = nI x))
theorem t261_in {b : Nat} (hS : isSt H b n pl mi la we) (hB : stB pl mi la we) {q k0 w f : Nat} (hq : q < 256) (hk0 : k0 < n) (hbk : bitP q k0 = 1) (hmin : ∀ x, x < n → bitP q x = 1 → x ≠ k0 → mi k0 < mi x ∨ (mi k0 = mi x ∧ k0 < x)) {v : Option (XV Int32)} {H2 : List (XC Int32)} (kk : ∀ L, x_lk L 0 = some (.inr (some b)) → x_lk L 2 = some (.inl (nI w)) → x_lk L 3 = some (.inl (nI f)) → x_lk L 4 = some (.inl (nI q)) → x_lk L 5 = some (.inl (nI k0)) → x_To x_tb x_tyl ot dp 261 91 L [] H 0 0 v H2) : ∀ (d i : Nat) (nx : Int32) (L : List (Nat × XV Int32)), i + d = n → nxI q k0 i nx → x_lk L 0 = some (.inr (some b)) → x_lk L 2 = some (.inl (nI w)) → x_lk L 3 = some (.inl (nI f)) → x_lk L 4 = some (.inl (nI q)) → x_lk L 5 = some (.inl nx) → x_lk L 6 = some (.inl (nI i)) → x_To x_tb x_tyl ot dp 261 18 L [] H 0 0 v H2 := by
  obtain ⟨fs, sr, st, rr, ⟨hbA, hb, h36, h8, h37, hst, hsl⟩, hrr0, -⟩ := id hS
  have hrr : ∀ x, x < 8 → sr[x]? = some (.inr (some (rr x))) ∧ rr x < 1000000 := fun x hx => ⟨(hrr0 x hx).1, (hrr0 x hx).2.1⟩
  have hR : ∀ x, x < n → H[rr x]? = some (.inr (0, [.inl (nI (pl x)), .inl (nI (mi x)), .inl (nI (la x)), .inl (nI (we x))])) := fun x hx => by
    obtain ⟨-, -, w, w1, -, w3⟩ := hrr0 x (by omega)
    rw [w1, w3 hx]
  have hmi : ∀ x, mi x ≤ 899 := fun x => (hB x).2.1
  intro d
  induction d with
  | zero =>
    intro i nx L hi hn l0 l2 l3 l4 l5 l6
    obtain rfl : n = i := by omega
    obtain rfl : nx = nI k0 := by
      rcases hn with h | h
      · exact h.2
      · omega
    refine xT_iload g_q261 g261_18 (l6) ?_
    refine xT_aload_n g_q261 g261_20 (l0) ?_
    refine xT_getfield g_q261 g261_21 hbA rfl hb rfl h36 ?_
    refine xT_if_icmpY g_q261 g261_24 (t := 91) (by decide) (c3Y (a := n) (b := n) (by omega) (by omega) (by omega)) ?_
    exact kk L l0 l2 l3 l4 l5
  | succ d ih =>
    intro i nx L hi hn l0 l2 l3 l4 l5 l6
    have hmi0 := hmi i
    by_cases hbi : bitP q i = 1
    rotate_left
    · have hn2 : nxI q k0 (i + 1) nx := by
        rcases hn with ⟨h1, h2⟩ | ⟨h1, h2⟩
        · exact Or.inl ⟨by omega, h2⟩
        · have : i ≠ k0 := fun e => hbi (by rw [e]; exact hbk)
          refine Or.inr ⟨by omega, h2.imp id fun ⟨x, x1, x2, x3⟩ => ⟨x, by omega, x2, x3⟩⟩
      refine xT_iload g_q261 g261_18 (l6) ?_
      refine xT_aload_n g_q261 g261_20 (l0) ?_
      refine xT_getfield g_q261 g261_21 hbA rfl hb rfl h36 ?_
      refine xT_if_icmpN g_q261 g261_24 (t := 91) (by decide) (c3N (a := i) (b := n) (by omega) (by omega) (by omega)) ?_
      refine xT_iload g_q261 g261_27 (l4) ?_
      refine xT_iload g_q261 g261_29 (l6) ?_
      refine xT_ishrV (y := x_bin 7 (nI (q)) (nI (i))) g_q261 g261_31 (rfl) ?_
      refine xT_icV (y := nI (1)) g_q261 g261_32 (by decide) ?_
      refine xT_iandV (y := x_bin 3 (x_bin 7 (nI (q)) (nI (i))) (nI (1))) g_q261 g261_33 (rfl) ?_
      refine xT_icV (y := nI (1)) g_q261 g261_34 (by decide) ?_
      refine xT_if_icmpY g_q261 g261_35 (t := 42) (by decide) (b_bitN hq (by omega) hbi) ?_
      refine xT_icV (y := nI (0)) g_q261 g261_42 (by decide) ?_
      refine xT_istore g_q261 g261_43 (by decide) ?_
      refine xT_iload g_q261 g261_45 (lkY) ?_
      refine xT_ifCondY g_q261 g261_47 (t := 81) (by decide) (c0Y (b := 0) rfl) ?_
      refine xT_iload g_q261 g261_81 (lkN (by decide) (l5)) ?_
      refine xT_istore g_q261 g261_83 (by decide) ?_
      refine xT_iincV (y := nI (i + 1)) g_q261 g261_85 (lkN (by decide) (lkN (by decide) (l6))) (by decide) (bIncN _) ?_
      refine xT_goto g_q261 g261_88 (t := 18) (by decide) ?_
      exact ih (i + 1) _ _ (by omega) (hn2) (lkN (by decide) (lkN (by decide) (lkN (by decide) (l0)))) (lkN (by decide) (lkN (by decide) (lkN (by decide) (l2)))) (lkN (by decide) (lkN (by decide) (lkN (by decide) (l3)))) (lkN (by decide) (lkN (by decide) (lkN (by decide) (l4)))) (lkN (by decide) (lkY)) (lkY)
    rcases hn with ⟨h1, rfl⟩ | ⟨h1, rfl | ⟨x, x1, x2, rfl⟩⟩
    · have hc : mi k0 ≤ mi i := by
        rcases hmin i (by omega) hbi (by omega) with z | z <;> omega
      have hmx := hmi k0
      refine xT_iload g_q261 g261_18 (l6) ?_
      refine xT_aload_n g_q261 g261_20 (l0) ?_
      refine xT_getfield g_q261 g261_21 hbA rfl hb rfl h36 ?_
      refine xT_if_icmpN g_q261 g261_24 (t := 91) (by decide) (c3N (a := i) (b := n) (by omega) (by omega) (by omega)) ?_
      refine xT_iload g_q261 g261_27 (l4) ?_
      refine xT_iload g_q261 g261_29 (l6) ?_
      refine xT_ishrV (y := x_bin 7 (nI (q)) (nI (i))) g_q261 g261_31 (rfl) ?_
      refine xT_icV (y := nI (1)) g_q261 g261_32 (by decide) ?_
      refine xT_iandV (y := x_bin 3 (x_bin 7 (nI (q)) (nI (i))) (nI (1))) g_q261 g261_33 (rfl) ?_
      refine xT_icV (y := nI (1)) g_q261 g261_34 (by decide) ?_
      refine xT_if_icmpN g_q261 g261_35 (t := 42) (by decide) (b_bitY hq (by omega) hbi) ?_
      refine xT_icV (y := nI (1)) g_q261 g261_38 (by decide) ?_
      refine xT_goto g_q261 g261_39 (t := 43) (by decide) ?_
      refine xT_istore g_q261 g261_43 (by decide) ?_
      refine xT_iload g_q261 g261_45 (lkY) ?_
      refine xT_ifCondN g_q261 g261_47 (t := 81) (by decide) (c0N (a := 1) (b := 0) (by omega) (by omega) (by omega)) ?_
      refine xT_iload g_q261 g261_50 (lkN (by decide) (l5)) ?_
      refine xT_ifCondN g_q261 g261_52 (t := 76) (by decide) (c2N (b := 0) (Nat.zero_le _) (by omega) (by omega)) ?_
      refine xT_aload_n g_q261 g261_55 (lkN (by decide) (l0)) ?_
      refine xT_getfield g_q261 g261_56 hbA rfl hb rfl h37 ?_
      refine xT_iload g_q261 g261_59 (lkN (by decide) (l6)) ?_
      refine xT_aaload g_q261 g261_61 (by decide +kernel) hst (ixN (n := 8) (by omega) hsl) (ixG (by omega) (hrr _ (by omega)).1) ?_
      refine xT_icV (y := nI (1)) g_q261 g261_62 (by decide) ?_
      refine xT_iaload g_q261 g261_63 (by have := (hrr (i) (by omega)).2; omega) (hR (i) (by omega)) (ixN (n := 4) (by decide) rfl) (ixG (by decide) rfl) ?_
      refine xT_aload_n g_q261 g261_64 (lkN (by decide) (l0)) ?_
      refine xT_getfield g_q261 g261_65 hbA rfl hb rfl h37 ?_
      refine xT_iload g_q261 g261_68 (lkN (by decide) (l5)) ?_
      refine xT_aaload g_q261 g261_70 (by decide +kernel) hst (ixN (n := 8) (by omega) hsl) (ixG (by omega) (hrr _ (by omega)).1) ?_
      refine xT_icV (y := nI (1)) g_q261 g261_71 (by decide) ?_
      refine xT_iaload g_q261 g261_72 (by have := (hrr (k0) (by omega)).2; omega) (hR (k0) (by omega)) (ixN (n := 4) (by decide) rfl) (ixG (by decide) rfl) ?_
      refine xT_if_icmpY g_q261 g261_73 (t := 81) (by decide) (c3Y (a := mi i) (b := mi k0) hc (by omega) (by omega)) ?_
      refine xT_iload g_q261 g261_81 (lkN (by decide) (l5)) ?_
      refine xT_istore g_q261 g261_83 (by decide) ?_
      refine xT_iincV (y := nI (i + 1)) g_q261 g261_85 (lkN (by decide) (lkN (by decide) (l6))) (by decide) (bIncN _) ?_
      refine xT_goto g_q261 g261_88 (t := 18) (by decide) ?_
      exact ih (i + 1) _ _ (by omega) (Or.inl ⟨by omega, rfl⟩) (lkN (by decide) (lkN (by decide) (lkN (by decide) (l0)))) (lkN (by decide) (lkN (by decide) (lkN (by decide) (l2)))) (lkN (by decide) (lkN (by decide) (lkN (by decide) (l3)))) (lkN (by decide) (lkN (by decide) (lkN (by decide) (l4)))) (lkN (by decide) (lkY)) (lkY)
    · have hn2 : nxI q k0 (i + 1) (nI i) := by
        by_cases e : i = k0
        · subst e
          exact Or.inl ⟨by omega, rfl⟩
        · exact Or.inr ⟨by omega, Or.inr ⟨i, by omega, hbi, rfl⟩⟩
      refine xT_iload g_q261 g261_18 (l6) ?_
      refine xT_aload_n g_q261 g261_20 (l0) ?_
      refine xT_getfield g_q261 g261_21 hbA rfl hb rfl h36 ?_
      refine xT_if_icmpN g_q261 g261_24 (t := 91) (by decide) (c3N (a := i) (b := n) (by omega) (by omega) (by omega)) ?_
      refine xT_iload g_q261 g261_27 (l4) ?_
      refine xT_iload g_q261 g261_29 (l6) ?_
      refine xT_ishrV (y := x_bin 7 (nI (q)) (nI (i))) g_q261 g261_31 (rfl) ?_
      refine xT_icV (y := nI (1)) g_q261 g261_32 (by decide) ?_
      refine xT_iandV (y := x_bin 3 (x_bin 7 (nI (q)) (nI (i))) (nI (1))) g_q261 g261_33 (rfl) ?_
      refine xT_icV (y := nI (1)) g_q261 g261_34 (by decide) ?_
      refine xT_if_icmpN g_q261 g261_35 (t := 42) (by decide) (b_bitY hq (by omega) hbi) ?_
      refine xT_icV (y := nI (1)) g_q261 g261_38 (by decide) ?_
      refine xT_goto g_q261 g261_39 (t := 43) (by decide) ?_
      refine xT_istore g_q261 g261_43 (by decide) ?_
      refine xT_iload g_q261 g261_45 (lkY) ?_
      refine xT_ifCondN g_q261 g261_47 (t := 81) (by decide) (c0N (a := 1) (b := 0) (by omega) (by omega) (by omega)) ?_
      refine xT_iload g_q261 g261_50 (lkN (by decide) (l5)) ?_
      refine xT_ifCondY g_q261 g261_52 (t := 76) (by decide) (by decide +kernel) ?_
      refine xT_iload g_q261 g261_76 (lkN (by decide) (l6)) ?_
      refine xT_goto g_q261 g261_78 (t := 83) (by decide) ?_
      refine xT_istore g_q261 g261_83 (by decide) ?_
      refine xT_iincV (y := nI (i + 1)) g_q261 g261_85 (lkN (by decide) (lkN (by decide) (l6))) (by decide) (bIncN _) ?_
      refine xT_goto g_q261 g261_88 (t := 18) (by decide) ?_
      exact ih (i + 1) _ _ (by omega) (hn2) (lkN (by decide) (lkN (by decide) (lkN (by decide) (l0)))) (lkN (by decide) (lkN (by decide) (lkN (by decide) (l2)))) (lkN (by decide) (lkN (by decide) (lkN (by decide) (l3)))) (lkN (by decide) (lkN (by decide) (lkN (by decide) (l4)))) (lkN (by decide) (lkY)) (lkY)
    · have hmx := hmi x
      by_cases hc : mi i < mi x
      · have hn2 : nxI q k0 (i + 1) (nI i) := by
          by_cases e : i = k0
          · subst e
            exact Or.inl ⟨by omega, rfl⟩
          · exact Or.inr ⟨by omega, Or.inr ⟨i, by omega, hbi, rfl⟩⟩
        refine xT_iload g_q261 g261_18 (l6) ?_
        refine xT_aload_n g_q261 g261_20 (l0) ?_
        refine xT_getfield g_q261 g261_21 hbA rfl hb rfl h36 ?_
        refine xT_if_icmpN g_q261 g261_24 (t := 91) (by decide) (c3N (a := i) (b := n) (by omega) (by omega) (by omega)) ?_
        refine xT_iload g_q261 g261_27 (l4) ?_
        refine xT_iload g_q261 g261_29 (l6) ?_
        refine xT_ishrV (y := x_bin 7 (nI (q)) (nI (i))) g_q261 g261_31 (rfl) ?_
        refine xT_icV (y := nI (1)) g_q261 g261_32 (by decide) ?_
        refine xT_iandV (y := x_bin 3 (x_bin 7 (nI (q)) (nI (i))) (nI (1))) g_q261 g261_33 (rfl) ?_
        refine xT_icV (y := nI (1)) g_q261 g261_34 (by decide) ?_
        refine xT_if_icmpN g_q261 g261_35 (t := 42) (by decide) (b_bitY hq (by omega) hbi) ?_
        refine xT_icV (y := nI (1)) g_q261 g261_38 (by decide) ?_
        refine xT_goto g_q261 g261_39 (t := 43) (by decide) ?_
        refine xT_istore g_q261 g261_43 (by decide) ?_
        refine xT_iload g_q261 g261_45 (lkY) ?_
        refine xT_ifCondN g_q261 g261_47 (t := 81) (by decide) (c0N (a := 1) (b := 0) (by omega) (by omega) (by omega)) ?_
        refine xT_iload g_q261 g261_50 (lkN (by decide) (l5)) ?_
        refine xT_ifCondN g_q261 g261_52 (t := 76) (by decide) (c2N (b := 0) (Nat.zero_le _) (by omega) (by omega)) ?_
        refine xT_aload_n g_q261 g261_55 (lkN (by decide) (l0)) ?_
        refine xT_getfield g_q261 g261_56 hbA rfl hb rfl h37 ?_
        refine xT_iload g_q261 g261_59 (lkN (by decide) (l6)) ?_
        refine xT_aaload g_q261 g261_61 (by decide +kernel) hst (ixN (n := 8) (by omega) hsl) (ixG (by omega) (hrr _ (by omega)).1) ?_
        refine xT_icV (y := nI (1)) g_q261 g261_62 (by decide) ?_
        refine xT_iaload g_q261 g261_63 (by have := (hrr (i) (by omega)).2; omega) (hR (i) (by omega)) (ixN (n := 4) (by decide) rfl) (ixG (by decide) rfl) ?_
        refine xT_aload_n g_q261 g261_64 (lkN (by decide) (l0)) ?_
        refine xT_getfield g_q261 g261_65 hbA rfl hb rfl h37 ?_
        refine xT_iload g_q261 g261_68 (lkN (by decide) (l5)) ?_
        refine xT_aaload g_q261 g261_70 (by decide +kernel) hst (ixN (n := 8) (by omega) hsl) (ixG (by omega) (hrr _ (by omega)).1) ?_
        refine xT_icV (y := nI (1)) g_q261 g261_71 (by decide) ?_
        refine xT_iaload g_q261 g261_72 (by have := (hrr (x) (by omega)).2; omega) (hR (x) (by omega)) (ixN (n := 4) (by decide) rfl) (ixG (by decide) rfl) ?_
        refine xT_if_icmpN g_q261 g261_73 (t := 81) (by decide) (c3N (a := mi i) (b := mi x) hc (by omega) (by omega)) ?_
        refine xT_iload g_q261 g261_76 (lkN (by decide) (l6)) ?_
        refine xT_goto g_q261 g261_78 (t := 83) (by decide) ?_
        refine xT_istore g_q261 g261_83 (by decide) ?_
        refine xT_iincV (y := nI (i + 1)) g_q261 g261_85 (lkN (by decide) (lkN (by decide) (l6))) (by decide) (bIncN _) ?_
        refine xT_goto g_q261 g261_88 (t := 18) (by decide) ?_
        exact ih (i + 1) _ _ (by omega) (hn2) (lkN (by decide) (lkN (by decide) (lkN (by decide) (l0)))) (lkN (by decide) (lkN (by decide) (lkN (by decide) (l2)))) (lkN (by decide) (lkN (by decide) (lkN (by decide) (l3)))) (lkN (by decide) (lkN (by decide) (lkN (by decide) (l4)))) (lkN (by decide) (lkY)) (lkY)
      · have hc := Nat.le_of_not_lt hc
        have hn2 : nxI q k0 (i + 1) (nI x) := by
          by_cases e : i = k0
          · subst e
            rcases hmin x (by omega) x2 (by omega) with z | z <;> omega
          · exact Or.inr ⟨by omega, Or.inr ⟨x, by omega, x2, rfl⟩⟩
        refine xT_iload g_q261 g261_18 (l6) ?_
        refine xT_aload_n g_q261 g261_20 (l0) ?_
        refine xT_getfield g_q261 g261_21 hbA rfl hb rfl h36 ?_
        refine xT_if_icmpN g_q261 g261_24 (t := 91) (by decide) (c3N (a := i) (b := n) (by omega) (by omega) (by omega)) ?_
        refine xT_iload g_q261 g261_27 (l4) ?_
        refine xT_iload g_q261 g261_29 (l6) ?_
        refine xT_ishrV (y := x_bin 7 (nI (q)) (nI (i))) g_q261 g261_31 (rfl) ?_
        refine xT_icV (y := nI (1)) g_q261 g261_32 (by decide) ?_
        refine xT_iandV (y := x_bin 3 (x_bin 7 (nI (q)) (nI (i))) (nI (1))) g_q261 g261_33 (rfl) ?_
        refine xT_icV (y := nI (1)) g_q261 g261_34 (by decide) ?_
        refine xT_if_icmpN g_q261 g261_35 (t := 42) (by decide) (b_bitY hq (by omega) hbi) ?_
        refine xT_icV (y := nI (1)) g_q261 g261_38 (by decide) ?_
        refine xT_goto g_q261 g261_39 (t := 43) (by decide) ?_
        refine xT_istore g_q261 g261_43 (by decide) ?_
        refine xT_iload g_q261 g261_45 (lkY) ?_
        refine xT_ifCondN g_q261 g261_47 (t := 81) (by decide) (c0N (a := 1) (b := 0) (by omega) (by omega) (by omega)) ?_
        refine xT_iload g_q261 g261_50 (lkN (by decide) (l5)) ?_
        refine xT_ifCondN g_q261 g261_52 (t := 76) (by decide) (c2N (b := 0) (Nat.zero_le _) (by omega) (by omega)) ?_
        refine xT_aload_n g_q261 g261_55 (lkN (by decide) (l0)) ?_
        refine xT_getfield g_q261 g261_56 hbA rfl hb rfl h37 ?_
        refine xT_iload g_q261 g261_59 (lkN (by decide) (l6)) ?_
        refine xT_aaload g_q261 g261_61 (by decide +kernel) hst (ixN (n := 8) (by omega) hsl) (ixG (by omega) (hrr _ (by omega)).1) ?_
        refine xT_icV (y := nI (1)) g_q261 g261_62 (by decide) ?_
        refine xT_iaload g_q261 g261_63 (by have := (hrr (i) (by omega)).2; omega) (hR (i) (by omega)) (ixN (n := 4) (by decide) rfl) (ixG (by decide) rfl) ?_
        refine xT_aload_n g_q261 g261_64 (lkN (by decide) (l0)) ?_
        refine xT_getfield g_q261 g261_65 hbA rfl hb rfl h37 ?_
        refine xT_iload g_q261 g261_68 (lkN (by decide) (l5)) ?_
        refine xT_aaload g_q261 g261_70 (by decide +kernel) hst (ixN (n := 8) (by omega) hsl) (ixG (by omega) (hrr _ (by omega)).1) ?_
        refine xT_icV (y := nI (1)) g_q261 g261_71 (by decide) ?_
        refine xT_iaload g_q261 g261_72 (by have := (hrr (x) (by omega)).2; omega) (hR (x) (by omega)) (ixN (n := 4) (by decide) rfl) (ixG (by decide) rfl) ?_
        refine xT_if_icmpY g_q261 g261_73 (t := 81) (by decide) (c3Y (a := mi i) (b := mi x) hc (by omega) (by omega)) ?_
        refine xT_iload g_q261 g261_81 (lkN (by decide) (l5)) ?_
        refine xT_istore g_q261 g261_83 (by decide) ?_
        refine xT_iincV (y := nI (i + 1)) g_q261 g261_85 (lkN (by decide) (lkN (by decide) (l6))) (by decide) (bIncN _) ?_
        refine xT_goto g_q261 g261_88 (t := 18) (by decide) ?_
        exact ih (i + 1) _ _ (by omega) (hn2) (lkN (by decide) (lkN (by decide) (lkN (by decide) (l0)))) (lkN (by decide) (lkN (by decide) (lkN (by decide) (l2)))) (lkN (by decide) (lkN (by decide) (lkN (by decide) (l3)))) (lkN (by decide) (lkN (by decide) (lkN (by decide) (l4)))) (lkN (by decide) (lkY)) (lkY)
end XH359
