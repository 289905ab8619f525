/-! p25 by hand, 5. -/
noncomputable section XH255
variable {ot : XO Int32} {dp : Nat} {H : List (XC Int32)} {c pv rl n lo hi hi_ R : Nat} {a cnt ca : Nat} {vs : List (XV Int32)} {b i : Nat} {y : Nat → Nat}
def M4 (m : Nat → Nat) : List (XV Int32) := [.inl (nI (m 0)), .inl (nI (m 1)), .inl (nI (m 2)), .inl (nI (m 3))]
theorem M4_get {m : Nat → Nat} : ∀ {k : Nat}, k < 4 → (M4 m)[k]? = some (.inl (nI (m k)))
  | 0, _ => rfl
  | 1, _ => rfl
  | 2, _ => rfl
  | 3, _ => rfl
  | n + 4, h => absurd h (by omega)
theorem M4_set {m m2 : Nat → Nat} : ∀ {k : Nat}, k < 4 → (∀ j, j ≠ k → m2 j = m j) → (M4 m).set k (.inl (nI (m2 k))) = M4 m2
  | 0, _, h => by
    unfold M4
    rw [h 1 (by decide), h 2 (by decide), h 3 (by decide)]
    rfl
  | 1, _, h => by
    unfold M4
    rw [h 0 (by decide), h 2 (by decide), h 3 (by decide)]
    rfl
  | 2, _, h => by
    unfold M4
    rw [h 0 (by decide), h 1 (by decide), h 3 (by decide)]
    rfl
  | 3, _, h => by
    unfold M4
    rw [h 0 (by decide), h 1 (by decide), h 2 (by decide)]
    rfl
  | n + 4, h, _ => absurd h (by omega)
theorem set_last {α : Type} (l : List α) (x z : α) : (l ++ [x]).set l.length z = l ++ [z] := by
  rw [List.set_append_right _ _ (Nat.le_refl _), Nat.sub_self]
  rfl
theorem get_last {α : Type} (l : List α) (x : α) : (l ++ [x])[l.length]? = some x := by
  rw [List.getElem?_append_right (Nat.le_refl _), Nat.sub_self]
  rfl
theorem get_old {α : Type} {l : List α} {x z : α} {i : Nat} (h : l[i]? = some z) : (l ++ [x])[i]? = some z := by
  rw [List.getElem?_append_left (List.getElem?_eq_some_iff.mp h).1]
  exact h
/-- the answer's sort of a guess in a year: before or behind 1999, leap or not -/
def clsN (Y g : Nat) : Nat := if ansN (g / 3) (g % 3) Y - 2 * (1900 + Y % 100) < 2 then ansN (g / 3) (g % 3) Y - 2 * (1900 + Y % 100) else 2 + (ansN (g / 3) (g % 3) Y - 2 * (1900 + Y % 100)) - 200
theorem clsN_a (Y g : Nat) : 2 * (1900 + Y % 100) ≤ ansN (g / 3) (g % 3) Y ∧ (ansN (g / 3) (g % 3) Y - 2 * (1900 + Y % 100) < 2 ∨ ansN (g / 3) (g % 3) Y - 2 * (1900 + Y % 100) = 200 ∨ ansN (g / 3) (g % 3) Y - 2 * (1900 + Y % 100) = 201) := by
  have h2 := leapN_le (meanN (Y % 100) (g / 3)) (g % 3)
  have h3 : meanN (Y % 100) (g / 3) = 1900 + Y % 100 ∨ meanN (Y % 100) (g / 3) = 2000 + Y % 100 := by
    unfold meanN
    split
    · exact Or.inl rfl
    · exact Or.inr rfl
  unfold ansN
  omega
theorem clsN_lt (Y g : Nat) : clsN Y g < 4 := by
  obtain ⟨h1, h2⟩ := clsN_a Y g
  unfold clsN
  split <;> omega
def cntN (fv cl : Nat → Nat) : Nat → Nat → Nat
  | 0, _ => 0
  | g + 1, j => if fv g = 1 ∧ cl g = j then cntN fv cl g j + 1 else cntN fv cl g j
theorem cntN_le {fv cl : Nat → Nat} : ∀ g j, cntN fv cl g j ≤ g
  | 0, _ => Nat.le_refl 0
  | g + 1, j => by
    have := cntN_le (fv := fv) (cl := cl) g j
    show (if fv g = 1 ∧ cl g = j then cntN fv cl g j + 1 else cntN fv cl g j) ≤ g + 1
    split <;> omega
def mstN (fv cl : Nat → Nat) : Nat → Nat
  | 0 => 0
  | g + 1 => if fv g = 1 then mxN (mstN fv cl g) (cntN fv cl (g + 1) (cl g)) else mstN fv cl g
theorem mstN_le {fv cl : Nat → Nat} : ∀ g, mstN fv cl g ≤ g
  | 0 => Nat.le_refl 0
  | g + 1 => by
    have h1 := mstN_le (fv := fv) (cl := cl) g
    have h2 := cntN_le (fv := fv) (cl := cl) (g + 1) (cl g)
    show (if fv g = 1 then mxN (mstN fv cl g) (cntN fv cl (g + 1) (cl g)) else mstN fv cl g) ≤ g + 1
    unfold mxN
    split
    · split <;> omega
    · omega
/-- the reference's row of what fits -/
def isFit (H : List (XC Int32)) (b : Nat) (fv : Nat → Nat) : Prop := ∃ (fs vf : List (XV Int32)) (fa : Nat), ¬ 1000000 < b ∧ H[b]? = some (.inl (12, fs)) ∧ fs[67]? = some (.inr (some fa)) ∧ ¬ 1000000 < fa ∧ H[fa]? = some (.inr (1, vf)) ∧ vf.length = 303 ∧ ∀ g, g < 303 → (fv g = 0 ∨ fv g = 1) ∧ vf[g]? = some (.inl (nI (fv g)))
theorem isFit_app {fv : Nat → Nat} (h : isFit H b fv) (z : XC Int32) : isFit (H ++ [z]) b fv := by
  obtain ⟨fs, vf, fa, h1, h2, h3, h4, h5, h6⟩ := h
  exact ⟨fs, vf, fa, h1, get_old h2, h3, h4, get_old h5, h6⟩
theorem xT_m4 {k pc n0 cn sn : Nat} {q : XM} {L : List (Nat × XV Int32)} {S : List (XV Int32)} {H2 : List (XC Int32)} {v : Option (XV Int32)} {m m2 : Nat → Nat} {j : Nat} (hq : tMth x_tb k = some q) (hi : mC q pc = some (.iastore, n0)) (hj : j < 4) (hm : ∀ i, i ≠ j → m2 i = m i) (h : x_To x_tb x_tyl ot dp k (pc + 1) L S (H ++ [.inr (0, M4 m2)]) cn sn v H2) : x_To x_tb x_tyl ot dp k pc L (.inl (nI (m2 j)) :: .inl (nI j) :: .inr (some H.length) :: S) (H ++ [.inr (0, M4 m)]) cn sn v H2 := xT_iastore hq hi (get_last _ _) (ixN (n := 4) (by omega) rfl) (by
  rw [nI_clamp (by omega), M4_set hj hm, set_last]
  exact h)
theorem t255_l {fv : Nat → Nat} (hF : isFit H b fv) {Y : Nat} (hY : Y < 2 ^ 31) (hl : H.length + 1 ≤ 1000000) : ∀ (d g : Nat) (L : List (Nat × XV Int32)), g + d = 303 → x_lk L 0 = some (.inr (some b)) → x_lk L 1 = some (.inl (nI Y)) → x_lk L 2 = some (.inl (nI (2 * (1900 + Y % 100)))) → x_lk L 3 = some (.inr (some H.length)) → x_lk L 4 = some (.inl (nI (mstN fv (clsN Y) g))) → x_lk L 5 = some (.inl (nI g)) → x_To x_tb x_tyl ot (dp + 2) 255 21 L [] (H ++ [.inr (0, M4 (cntN fv (clsN Y) g))]) 1 4 (some (.inl (nI (mstN fv (clsN Y) 303)))) (H ++ [.inr (0, M4 (cntN fv (clsN Y) 303))]) := by
  intro d
  induction d with
  | zero =>
    intro g L hg l0 l1 l2 l3 l4 l5
    obtain rfl : g = 303 := by omega
    refine xT_iload g_q255 g255_21 (l5) ?_
    refine xT_siV (y := nI (303)) g_q255 g255_23 (by decide) ?_
    refine xT_if_icmpY g_q255 g255_26 (t := 101) (by decide) (c3Y (a := 303) (b := 303) (by omega) (by omega) (by omega)) ?_
    refine xT_iload g_q255 g255_101 (l4) ?_
    exact xT_ireturn g_q255 g255_103 (rfl)
  | succ d ih =>
    intro g L hg l0 l1 l2 l3 l4 l5
    obtain ⟨fs, vf, fa, hbA, hb, h67, hfA, hf1, hf2, hf3⟩ := isFit_app hF (.inr (0, M4 (cntN fv (clsN Y) g)))
    rcases (hf3 g (by omega)).1 with h0 | h1
    · have e2 : cntN fv (clsN Y) (g + 1) = cntN fv (clsN Y) g := funext fun j => if_neg (fun z => by omega)
      have e4 : mstN fv (clsN Y) (g + 1) = mstN fv (clsN Y) g := if_neg (by omega)
      refine xT_iload g_q255 g255_21 (l5) ?_
      refine xT_siV (y := nI (303)) g_q255 g255_23 (by decide) ?_
      refine xT_if_icmpN g_q255 g255_26 (t := 101) (by decide) (c3N (a := g) (b := 303) (by omega) (by omega) (by omega)) ?_
      refine xT_aload_n g_q255 g255_29 (l0) ?_
      refine xT_getfield g_q255 g255_30 hbA rfl hb rfl h67 ?_
      refine xT_iload g_q255 g255_33 (l5) ?_
      refine xT_baload g_q255 g255_35 hfA hf1 (ixN (n := 303) (by omega) hf2) (ixG (by omega) (hf3 _ (by omega)).2) ?_
      refine xT_ifCondY g_q255 g255_36 (t := 95) (by decide) (c0Y (b := 0) h0) ?_
      refine xT_iincV (y := nI (g + 1)) g_q255 g255_95 (l5) (by decide) (bIncN _) ?_
      refine xT_goto g_q255 g255_98 (t := 21) (by decide) ?_
      rw [← e2]
      exact ih (g + 1) _ (by omega) (lkN (by decide) (l0)) (lkN (by decide) (l1)) (lkN (by decide) (l2)) (lkN (by decide) (l3)) (by
        rw [e4]
        exact lkN (by decide) (l4)) (lkY)
    · obtain ⟨ha1, ha2⟩ := clsN_a Y g
      have ha3 := ansN_lt (g := g / 3) (r := g % 3) (y := Y)
      have hk4 := clsN_lt Y g
      have e2 : cntN fv (clsN Y) g (clsN Y g) + 1 = cntN fv (clsN Y) (g + 1) (clsN Y g) := (if_pos ⟨h1, rfl⟩).symm
      have e3 : ∀ j, j ≠ clsN Y g → cntN fv (clsN Y) (g + 1) j = cntN fv (clsN Y) g j := fun j hj => if_neg (fun z => hj z.2.symm)
      by_cases hc : ansN (g / 3) (g % 3) Y - 2 * (1900 + Y % 100) < 2
      · have e1 : clsN Y g = ansN (g / 3) (g % 3) Y - 2 * (1900 + Y % 100) := if_pos hc
        by_cases hm : mstN fv (clsN Y) g < cntN fv (clsN Y) (g + 1) (clsN Y g)
        · have e4 : mstN fv (clsN Y) (g + 1) = cntN fv (clsN Y) (g + 1) (clsN Y g) := (if_pos h1).trans (if_pos hm)
          refine xT_iload g_q255 g255_21 (l5) ?_
          refine xT_siV (y := nI (303)) g_q255 g255_23 (by decide) ?_
          refine xT_if_icmpN g_q255 g255_26 (t := 101) (by decide) (c3N (a := g) (b := 303) (by omega) (by omega) (by omega)) ?_
          refine xT_aload_n g_q255 g255_29 (l0) ?_
          refine xT_getfield g_q255 g255_30 hbA rfl hb rfl h67 ?_
          refine xT_iload g_q255 g255_33 (l5) ?_
          refine xT_baload g_q255 g255_35 hfA hf1 (ixN (n := 303) (by omega) hf2) (ixG (by omega) (hf3 _ (by omega)).2) ?_
          refine xT_ifCondN g_q255 g255_36 (t := 95) (by decide) (c0N (b := 0) (by omega) (by omega) (by omega)) ?_
          refine xT_iload g_q255 g255_39 (l5) ?_
          refine xT_icV (y := nI (3)) g_q255 g255_41 (by decide) ?_
          refine xT_idivV (y := nI (g / 3)) g_q255 g255_42 (by decide) (bDivN (by omega) (by omega) (by omega)) ?_
          refine xT_iload g_q255 g255_43 (l5) ?_
          refine xT_icV (y := nI (3)) g_q255 g255_45 (by decide) ?_
          refine xT_iremV (y := nI (g % 3)) g_q255 g255_46 (by decide) (bRemN (by omega) (by omega) (by omega)) ?_
          refine xT_iload_n g_q255 g255_47 (l1) ?_
          refine xT_invokestatic (r := []) (u := some (.inl (nI (ansN (g / 3) (g % 3) Y)))) g_q255 g255_48 (j := 252) (so := 2) (by decide +kernel) g_q252 (rfl) (t252 (by omega) (by omega) hY) ?_
          refine xT_iload_n g_q255 g255_51 (l2) ?_
          refine xT_isubV (y := nI (ansN (g / 3) (g % 3) Y - 2 * (1900 + Y % 100))) g_q255 g255_52 (bSubN ha1) ?_
          refine xT_istore g_q255 g255_53 (by decide) ?_
          refine xT_iload g_q255 g255_55 (lkY) ?_
          refine xT_icV (y := nI (2)) g_q255 g255_57 (by decide) ?_
          refine xT_if_icmpN g_q255 g255_58 (t := 66) (by decide) (c3N hc (by omega) (by omega)) ?_
          refine xT_iload g_q255 g255_61 (lkY) ?_
          refine xT_goto g_q255 g255_63 (t := 74) (by decide) ?_
          rw [← e1]
          refine xT_istore g_q255 g255_74 (by decide) ?_
          refine xT_aload_n g_q255 g255_76 (lkN (by decide) (lkN (by decide) (l3))) ?_
          refine xT_iload g_q255 g255_77 (lkY) ?_
          refine xT_dup2 g_q255 g255_79 ?_
          refine xT_iaload g_q255 g255_80 (by omega) (get_last _ _) (ixN (n := 4) (by omega) rfl) (ixG (by omega) (M4_get (by omega))) ?_
          refine xT_icV (y := nI (1)) g_q255 g255_81 (by decide) ?_
          refine xT_iaddV (y := nI (cntN fv (clsN Y) (g + 1) (clsN Y g))) g_q255 g255_82 ((bAddN _ _).trans (congrArg nI e2)) ?_
          refine xT_m4 g_q255 g255_83 hk4 e3 ?_
          refine xT_iload g_q255 g255_84 (lkN (by decide) (lkN (by decide) (l4))) ?_
          refine xT_aload_n g_q255 g255_86 (lkN (by decide) (lkN (by decide) (l3))) ?_
          refine xT_iload g_q255 g255_87 (lkY) ?_
          refine xT_iaload g_q255 g255_89 (by omega) (get_last _ _) (ixN (n := 4) (by omega) rfl) (ixG (by omega) (M4_get (by omega))) ?_
          refine xT_maxY g_q255 g255_90 (by decide +kernel) (by decide +kernel) (rfl) (c2Y hm (by have := mstN_le (fv := fv) (cl := clsN Y) g; omega) (by have := cntN_le (fv := fv) (cl := clsN Y) (g + 1) (clsN Y g); omega)) ?_
          refine xT_istore g_q255 g255_93 (by decide) ?_
          refine xT_iincV (y := nI (g + 1)) g_q255 g255_95 (lkN (by decide) (lkN (by decide) (lkN (by decide) (l5)))) (by decide) (bIncN _) ?_
          refine xT_goto g_q255 g255_98 (t := 21) (by decide) ?_
          exact ih (g + 1) _ (by omega) (lkN (by decide) (lkN (by decide) (lkN (by decide) (lkN (by decide) (l0))))) (lkN (by decide) (lkN (by decide) (lkN (by decide) (lkN (by decide) (l1))))) (lkN (by decide) (lkN (by decide) (lkN (by decide) (lkN (by decide) (l2))))) (lkN (by decide) (lkN (by decide) (lkN (by decide) (lkN (by decide) (l3))))) (by
            rw [e4]
            exact lkN (by decide) (lkY)) (lkY)
        · have e4 : mstN fv (clsN Y) (g + 1) = mstN fv (clsN Y) g := (if_pos h1).trans (if_neg hm)
          have hm := Nat.le_of_not_lt hm
          refine xT_iload g_q255 g255_21 (l5) ?_
          refine xT_siV (y := nI (303)) g_q255 g255_23 (by decide) ?_
          refine xT_if_icmpN g_q255 g255_26 (t := 101) (by decide) (c3N (a := g) (b := 303) (by omega) (by omega) (by omega)) ?_
          refine xT_aload_n g_q255 g255_29 (l0) ?_
          refine xT_getfield g_q255 g255_30 hbA rfl hb rfl h67 ?_
          refine xT_iload g_q255 g255_33 (l5) ?_
          refine xT_baload g_q255 g255_35 hfA hf1 (ixN (n := 303) (by omega) hf2) (ixG (by omega) (hf3 _ (by omega)).2) ?_
          refine xT_ifCondN g_q255 g255_36 (t := 95) (by decide) (c0N (b := 0) (by omega) (by omega) (by omega)) ?_
          refine xT_iload g_q255 g255_39 (l5) ?_
          refine xT_icV (y := nI (3)) g_q255 g255_41 (by decide) ?_
          refine xT_idivV (y := nI (g / 3)) g_q255 g255_42 (by decide) (bDivN (by omega) (by omega) (by omega)) ?_
          refine xT_iload g_q255 g255_43 (l5) ?_
          refine xT_icV (y := nI (3)) g_q255 g255_45 (by decide) ?_
          refine xT_iremV (y := nI (g % 3)) g_q255 g255_46 (by decide) (bRemN (by omega) (by omega) (by omega)) ?_
          refine xT_iload_n g_q255 g255_47 (l1) ?_
          refine xT_invokestatic (r := []) (u := some (.inl (nI (ansN (g / 3) (g % 3) Y)))) g_q255 g255_48 (j := 252) (so := 2) (by decide +kernel) g_q252 (rfl) (t252 (by omega) (by omega) hY) ?_
          refine xT_iload_n g_q255 g255_51 (l2) ?_
          refine xT_isubV (y := nI (ansN (g / 3) (g % 3) Y - 2 * (1900 + Y % 100))) g_q255 g255_52 (bSubN ha1) ?_
          refine xT_istore g_q255 g255_53 (by decide) ?_
          refine xT_iload g_q255 g255_55 (lkY) ?_
          refine xT_icV (y := nI (2)) g_q255 g255_57 (by decide) ?_
          refine xT_if_icmpN g_q255 g255_58 (t := 66) (by decide) (c3N hc (by omega) (by omega)) ?_
          refine xT_iload g_q255 g255_61 (lkY) ?_
          refine xT_goto g_q255 g255_63 (t := 74) (by decide) ?_
          rw [← e1]
          refine xT_istore g_q255 g255_74 (by decide) ?_
          refine xT_aload_n g_q255 g255_76 (lkN (by decide) (lkN (by decide) (l3))) ?_
          refine xT_iload g_q255 g255_77 (lkY) ?_
          refine xT_dup2 g_q255 g255_79 ?_
          refine xT_iaload g_q255 g255_80 (by omega) (get_last _ _) (ixN (n := 4) (by omega) rfl) (ixG (by omega) (M4_get (by omega))) ?_
          refine xT_icV (y := nI (1)) g_q255 g255_81 (by decide) ?_
          refine xT_iaddV (y := nI (cntN fv (clsN Y) (g + 1) (clsN Y g))) g_q255 g255_82 ((bAddN _ _).trans (congrArg nI e2)) ?_
          refine xT_m4 g_q255 g255_83 hk4 e3 ?_
          refine xT_iload g_q255 g255_84 (lkN (by decide) (lkN (by decide) (l4))) ?_
          refine xT_aload_n g_q255 g255_86 (lkN (by decide) (lkN (by decide) (l3))) ?_
          refine xT_iload g_q255 g255_87 (lkY) ?_
          refine xT_iaload g_q255 g255_89 (by omega) (get_last _ _) (ixN (n := 4) (by omega) rfl) (ixG (by omega) (M4_get (by omega))) ?_
          refine xT_maxN g_q255 g255_90 (by decide +kernel) (by decide +kernel) (rfl) (c2N hm (by have := mstN_le (fv := fv) (cl := clsN Y) g; omega) (by have := cntN_le (fv := fv) (cl := clsN Y) (g + 1) (clsN Y g); omega)) ?_
          refine xT_istore g_q255 g255_93 (by decide) ?_
          refine xT_iincV (y := nI (g + 1)) g_q255 g255_95 (lkN (by decide) (lkN (by decide) (lkN (by decide) (l5)))) (by decide) (bIncN _) ?_
          refine xT_goto g_q255 g255_98 (t := 21) (by decide) ?_
          exact ih (g + 1) _ (by omega) (lkN (by decide) (lkN (by decide) (lkN (by decide) (lkN (by decide) (l0))))) (lkN (by decide) (lkN (by decide) (lkN (by decide) (lkN (by decide) (l1))))) (lkN (by decide) (lkN (by decide) (lkN (by decide) (lkN (by decide) (l2))))) (lkN (by decide) (lkN (by decide) (lkN (by decide) (lkN (by decide) (l3))))) (by
            rw [e4]
            exact lkN (by decide) (lkY)) (lkY)
      · have e1 : clsN Y g = 2 + (ansN (g / 3) (g % 3) Y - 2 * (1900 + Y % 100)) - 200 := if_neg hc
        have hc := Nat.le_of_not_lt hc
        by_cases hm : mstN fv (clsN Y) g < cntN fv (clsN Y) (g + 1) (clsN Y g)
        · have e4 : mstN fv (clsN Y) (g + 1) = cntN fv (clsN Y) (g + 1) (clsN Y g) := (if_pos h1).trans (if_pos hm)
          refine xT_iload g_q255 g255_21 (l5) ?_
          refine xT_siV (y := nI (303)) g_q255 g255_23 (by decide) ?_
          refine xT_if_icmpN g_q255 g255_26 (t := 101) (by decide) (c3N (a := g) (b := 303) (by omega) (by omega) (by omega)) ?_
          refine xT_aload_n g_q255 g255_29 (l0) ?_
          refine xT_getfield g_q255 g255_30 hbA rfl hb rfl h67 ?_
          refine xT_iload g_q255 g255_33 (l5) ?_
          refine xT_baload g_q255 g255_35 hfA hf1 (ixN (n := 303) (by omega) hf2) (ixG (by omega) (hf3 _ (by omega)).2) ?_
          refine xT_ifCondN g_q255 g255_36 (t := 95) (by decide) (c0N (b := 0) (by omega) (by omega) (by omega)) ?_
          refine xT_iload g_q255 g255_39 (l5) ?_
          refine xT_icV (y := nI (3)) g_q255 g255_41 (by decide) ?_
          refine xT_idivV (y := nI (g / 3)) g_q255 g255_42 (by decide) (bDivN (by omega) (by omega) (by omega)) ?_
          refine xT_iload g_q255 g255_43 (l5) ?_
          refine xT_icV (y := nI (3)) g_q255 g255_45 (by decide) ?_
          refine xT_iremV (y := nI (g % 3)) g_q255 g255_46 (by decide) (bRemN (by omega) (by omega) (by omega)) ?_
          refine xT_iload_n g_q255 g255_47 (l1) ?_
          refine xT_invokestatic (r := []) (u := some (.inl (nI (ansN (g / 3) (g % 3) Y)))) g_q255 g255_48 (j := 252) (so := 2) (by decide +kernel) g_q252 (rfl) (t252 (by omega) (by omega) hY) ?_
          refine xT_iload_n g_q255 g255_51 (l2) ?_
          refine xT_isubV (y := nI (ansN (g / 3) (g % 3) Y - 2 * (1900 + Y % 100))) g_q255 g255_52 (bSubN ha1) ?_
          refine xT_istore g_q255 g255_53 (by decide) ?_
          refine xT_iload g_q255 g255_55 (lkY) ?_
          refine xT_icV (y := nI (2)) g_q255 g255_57 (by decide) ?_
          refine xT_if_icmpY g_q255 g255_58 (t := 66) (by decide) (c3Y hc (by omega) (by omega)) ?_
          refine xT_icV (y := nI (2)) g_q255 g255_66 (by decide) ?_
          refine xT_iload g_q255 g255_67 (lkY) ?_
          refine xT_iaddV (y := nI (2 + (ansN (g / 3) (g % 3) Y - 2 * (1900 + Y % 100)))) g_q255 g255_69 (bAddN _ _) ?_
          refine xT_siV (y := nI (200)) g_q255 g255_70 (by decide) ?_
          refine xT_isubV (y := nI (2 + (ansN (g / 3) (g % 3) Y - 2 * (1900 + Y % 100)) - 200)) g_q255 g255_73 (bSubN (by omega)) ?_
          rw [← e1]
          refine xT_istore g_q255 g255_74 (by decide) ?_
          refine xT_aload_n g_q255 g255_76 (lkN (by decide) (lkN (by decide) (l3))) ?_
          refine xT_iload g_q255 g255_77 (lkY) ?_
          refine xT_dup2 g_q255 g255_79 ?_
          refine xT_iaload g_q255 g255_80 (by omega) (get_last _ _) (ixN (n := 4) (by omega) rfl) (ixG (by omega) (M4_get (by omega))) ?_
          refine xT_icV (y := nI (1)) g_q255 g255_81 (by decide) ?_
          refine xT_iaddV (y := nI (cntN fv (clsN Y) (g + 1) (clsN Y g))) g_q255 g255_82 ((bAddN _ _).trans (congrArg nI e2)) ?_
          refine xT_m4 g_q255 g255_83 hk4 e3 ?_
          refine xT_iload g_q255 g255_84 (lkN (by decide) (lkN (by decide) (l4))) ?_
          refine xT_aload_n g_q255 g255_86 (lkN (by decide) (lkN (by decide) (l3))) ?_
          refine xT_iload g_q255 g255_87 (lkY) ?_
          refine xT_iaload g_q255 g255_89 (by omega) (get_last _ _) (ixN (n := 4) (by omega) rfl) (ixG (by omega) (M4_get (by omega))) ?_
          refine xT_maxY g_q255 g255_90 (by decide +kernel) (by decide +kernel) (rfl) (c2Y hm (by have := mstN_le (fv := fv) (cl := clsN Y) g; omega) (by have := cntN_le (fv := fv) (cl := clsN Y) (g + 1) (clsN Y g); omega)) ?_
          refine xT_istore g_q255 g255_93 (by decide) ?_
          refine xT_iincV (y := nI (g + 1)) g_q255 g255_95 (lkN (by decide) (lkN (by decide) (lkN (by decide) (l5)))) (by decide) (bIncN _) ?_
          refine xT_goto g_q255 g255_98 (t := 21) (by decide) ?_
          exact ih (g + 1) _ (by omega) (lkN (by decide) (lkN (by decide) (lkN (by decide) (lkN (by decide) (l0))))) (lkN (by decide) (lkN (by decide) (lkN (by decide) (lkN (by decide) (l1))))) (lkN (by decide) (lkN (by decide) (lkN (by decide) (lkN (by decide) (l2))))) (lkN (by decide) (lkN (by decide) (lkN (by decide) (lkN (by decide) (l3))))) (by
            rw [e4]
            exact lkN (by decide) (lkY)) (lkY)
        · have e4 : mstN fv (clsN Y) (g + 1) = mstN fv (clsN Y) g := (if_pos h1).trans (if_neg hm)
          have hm := Nat.le_of_not_lt hm
          refine xT_iload g_q255 g255_21 (l5) ?_
          refine xT_siV (y := nI (303)) g_q255 g255_23 (by decide) ?_
          refine xT_if_icmpN g_q255 g255_26 (t := 101) (by decide) (c3N (a := g) (b := 303) (by omega) (by omega) (by omega)) ?_
          refine xT_aload_n g_q255 g255_29 (l0) ?_
          refine xT_getfield g_q255 g255_30 hbA rfl hb rfl h67 ?_
          refine xT_iload g_q255 g255_33 (l5) ?_
          refine xT_baload g_q255 g255_35 hfA hf1 (ixN (n := 303) (by omega) hf2) (ixG (by omega) (hf3 _ (by omega)).2) ?_
          refine xT_ifCondN g_q255 g255_36 (t := 95) (by decide) (c0N (b := 0) (by omega) (by omega) (by omega)) ?_
          refine xT_iload g_q255 g255_39 (l5) ?_
          refine xT_icV (y := nI (3)) g_q255 g255_41 (by decide) ?_
          refine xT_idivV (y := nI (g / 3)) g_q255 g255_42 (by decide) (bDivN (by omega) (by omega) (by omega)) ?_
          refine xT_iload g_q255 g255_43 (l5) ?_
          refine xT_icV (y := nI (3)) g_q255 g255_45 (by decide) ?_
          refine xT_iremV (y := nI (g % 3)) g_q255 g255_46 (by decide) (bRemN (by omega) (by omega) (by omega)) ?_
          refine xT_iload_n g_q255 g255_47 (l1) ?_
          refine xT_invokestatic (r := []) (u := some (.inl (nI (ansN (g / 3) (g % 3) Y)))) g_q255 g255_48 (j := 252) (so := 2) (by decide +kernel) g_q252 (rfl) (t252 (by omega) (by omega) hY) ?_
          refine xT_iload_n g_q255 g255_51 (l2) ?_
          refine xT_isubV (y := nI (ansN (g / 3) (g % 3) Y - 2 * (1900 + Y % 100))) g_q255 g255_52 (bSubN ha1) ?_
          refine xT_istore g_q255 g255_53 (by decide) ?_
          refine xT_iload g_q255 g255_55 (lkY) ?_
          refine xT_icV (y := nI (2)) g_q255 g255_57 (by decide) ?_
          refine xT_if_icmpY g_q255 g255_58 (t := 66) (by decide) (c3Y hc (by omega) (by omega)) ?_
          refine xT_icV (y := nI (2)) g_q255 g255_66 (by decide) ?_
          refine xT_iload g_q255 g255_67 (lkY) ?_
          refine xT_iaddV (y := nI (2 + (ansN (g / 3) (g % 3) Y - 2 * (1900 + Y % 100)))) g_q255 g255_69 (bAddN _ _) ?_
          refine xT_siV (y := nI (200)) g_q255 g255_70 (by decide) ?_
          refine xT_isubV (y := nI (2 + (ansN (g / 3) (g % 3) Y - 2 * (1900 + Y % 100)) - 200)) g_q255 g255_73 (bSubN (by omega)) ?_
          rw [← e1]
          refine xT_istore g_q255 g255_74 (by decide) ?_
          refine xT_aload_n g_q255 g255_76 (lkN (by decide) (lkN (by decide) (l3))) ?_
          refine xT_iload g_q255 g255_77 (lkY) ?_
          refine xT_dup2 g_q255 g255_79 ?_
          refine xT_iaload g_q255 g255_80 (by omega) (get_last _ _) (ixN (n := 4) (by omega) rfl) (ixG (by omega) (M4_get (by omega))) ?_
          refine xT_icV (y := nI (1)) g_q255 g255_81 (by decide) ?_
          refine xT_iaddV (y := nI (cntN fv (clsN Y) (g + 1) (clsN Y g))) g_q255 g255_82 ((bAddN _ _).trans (congrArg nI e2)) ?_
          refine xT_m4 g_q255 g255_83 hk4 e3 ?_
          refine xT_iload g_q255 g255_84 (lkN (by decide) (lkN (by decide) (l4))) ?_
          refine xT_aload_n g_q255 g255_86 (lkN (by decide) (lkN (by decide) (l3))) ?_
          refine xT_iload g_q255 g255_87 (lkY) ?_
          refine xT_iaload g_q255 g255_89 (by omega) (get_last _ _) (ixN (n := 4) (by omega) rfl) (ixG (by omega) (M4_get (by omega))) ?_
          refine xT_maxN g_q255 g255_90 (by decide +kernel) (by decide +kernel) (rfl) (c2N hm (by have := mstN_le (fv := fv) (cl := clsN Y) g; omega) (by have := cntN_le (fv := fv) (cl := clsN Y) (g + 1) (clsN Y g); omega)) ?_
          refine xT_istore g_q255 g255_93 (by decide) ?_
          refine xT_iincV (y := nI (g + 1)) g_q255 g255_95 (lkN (by decide) (lkN (by decide) (lkN (by decide) (l5)))) (by decide) (bIncN _) ?_
          refine xT_goto g_q255 g255_98 (t := 21) (by decide) ?_
          exact ih (g + 1) _ (by omega) (lkN (by decide) (lkN (by decide) (lkN (by decide) (lkN (by decide) (l0))))) (lkN (by decide) (lkN (by decide) (lkN (by decide) (lkN (by decide) (l1))))) (lkN (by decide) (lkN (by decide) (lkN (by decide) (lkN (by decide) (l2))))) (lkN (by decide) (lkN (by decide) (lkN (by decide) (lkN (by decide) (l3))))) (by
            rw [e4]
            exact lkN (by decide) (lkY)) (lkY)
theorem t255 {fv : Nat → Nat} (hF : isFit H b fv) {Y : Nat} (hY : Y < 2 ^ 31) (hl : H.length + 1 ≤ 1000000) : x_To x_tb x_tyl ot (dp + 2) 255 0 (x_en 0 [.inr (some (b)), .inl (nI (Y))]) [] H 0 0 (some (.inl (nI (mstN fv (clsN Y) 303)))) (H ++ [.inr (0, M4 (cntN fv (clsN Y) 303))]) := by
  refine xT_icV (y := nI (2)) g_q255 g255_0 (by decide) ?_
  refine xT_siV (y := nI (1900)) g_q255 g255_1 (by decide) ?_
  refine xT_iload_n g_q255 g255_4 (rfl) ?_
  refine xT_biV (y := nI (100)) g_q255 g255_5 (by decide) ?_
  refine xT_iremV (y := nI (Y % 100)) g_q255 g255_7 (by decide) (bRemN (by omega) (by omega) (by omega)) ?_
  refine xT_iaddV (y := nI (1900 + Y % 100)) g_q255 g255_8 (bAddN _ _) ?_
  refine xT_imulV (y := nI (2 * (1900 + Y % 100))) g_q255 g255_9 (bMulN _ _) ?_
  refine xT_istore_n g_q255 g255_10 (by decide) ?_
  refine xT_icV (y := nI (4)) g_q255 g255_11 (by decide) ?_
  refine xT_newarrayI (e := nI 4) g_q255 g255_12 (by rw [decide_eq_true hl]; rfl) ?_
  show x_To x_tb x_tyl ot (dp + 2) 255 14 _ _ (H ++ [.inr (0, M4 (cntN fv (clsN Y) 0))]) 1 4 _ _
  refine xT_astore_n g_q255 g255_14 (by decide) ?_
  refine xT_icV (y := nI (0)) g_q255 g255_15 (by decide) ?_
  refine xT_istore g_q255 g255_16 (by decide) ?_
  refine xT_icV (y := nI (0)) g_q255 g255_18 (by decide) ?_
  refine xT_istore g_q255 g255_19 (by decide) ?_
  exact t255_l hF hY hl 303 0 _ (by omega) (lkN (by decide) (lkN (by decide) (lkN (by decide) (lkN (by decide) (rfl))))) (lkN (by decide) (lkN (by decide) (lkN (by decide) (lkN (by decide) (rfl))))) (lkN (by decide) (lkN (by decide) (lkN (by decide) (lkY)))) (lkN (by decide) (lkN (by decide) (lkY))) (lkN (by decide) (lkY)) (lkY)
end XH255
