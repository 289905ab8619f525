/-! p31 by hand, 10. -/
noncomputable section XH31_10
variable {ot : XO Int32} {dp : Nat} {H : List (XC Int32)} {a b tr tc fr r n m : Nat} {vs wl : List (XV Int32)}
theorem t249_s (hM : kM H b n m) (hY : isBy H r wl) {B : Nat → Int32} (hB : ∀ t, t < n → wl[t]? = some (.inl (B t))) {w : Nat} {v : Option (XV Int32)} {H2 : List (XC Int32)} {Z : Nat} (kk : ∀ L, x_lk L 0 = some (.inr (some (b))) → x_lk L 1 = some (.inl (nI (w))) → x_lk L 2 = some (.inr (some (r))) → x_lk L 3 = some (.inl ((fA B n 0 0))) → x_lk L 4 = some (.inl (nI Z)) → x_To x_tb x_tyl ot (dp + 1) 249 207 L [] H 1 8 v H2) : ∀ (d s be : Nat) (L : List (Nat × XV Int32)), s + d = 2 ^ n → be ≤ 255 → mnU (pS B n) fC d s be = Z → x_lk L 0 = some (.inr (some (b))) → x_lk L 1 = some (.inl (nI (w))) → x_lk L 2 = some (.inr (some (r))) → x_lk L 3 = some (.inl ((fA B n 0 0))) → x_lk L 4 = some (.inl (nI (be))) → x_lk L 5 = some (.inl (nI (s))) → x_To x_tb x_tyl ot (dp + 1) 249 100 L [] H 1 8 v H2 := by
  obtain ⟨hbA, hn8, hm8, hs, hb0, h32, h34⟩ := id hM
  obtain ⟨hrA, hr0, hrl⟩ := id hY
  obtain ⟨-, h256, h0⟩ := b_sh n hn8
  intro d
  induction d with
  | zero =>
    intro s be L hs hbe hz l0 l1 l2 l3 l4 l5
    have hz : be = Z := hz
    subst hz
    obtain rfl : 2 ^ n = s := by omega
    refine xT_iload g_q249 g249_100 (l5) ?_
    refine xT_icV (y := nI (1)) g_q249 g249_102 (by decide) ?_
    refine xT_aload_n g_q249 g249_103 (l0) ?_
    refine xT_getfield g_q249 g249_104 hbA rfl hb0 rfl h32 ?_
    refine xT_ishlV (y := nI (2 ^ n)) g_q249 g249_107 ((b_sh n hn8).1) ?_
    refine xT_if_icmpY g_q249 g249_108 (t := 207) (by decide) (c3Y (a := 2 ^ n) (b := 2 ^ n) (Nat.le_refl _) (by omega) (by omega)) ?_
    exact kk _ l0 l1 l2 l3 l4
  | succ d ih =>
    intro s be L hs hbe hz l0 l1 l2 l3 l4 l5
    have step : ∀ L, x_lk L 0 = some (.inr (some (b))) → x_lk L 1 = some (.inl (nI (w))) → x_lk L 2 = some (.inr (some (r))) → x_lk L 3 = some (.inl ((fA B n 0 0))) → x_lk L 4 = some (.inl (nI (be))) → x_lk L 5 = some (.inl (nI (s))) → x_lk L 6 = some (.inl (fS B s n 0 0)) → x_To x_tb x_tyl ot (dp + 1) 249 156 L [] H 1 8 v H2 := by
      intro L m0 m1 m2 m3 m4 m5 m6
      by_cases hp : fS B s n 0 0 = fA B n 0 0
      rotate_left
      · rw [show mnU (pS B n) fC (d + 1) s be = mnU (pS B n) fC d (s + 1) be from congrArg (mnU (pS B n) fC d (s + 1)) (if_neg (fun z => hp (of_decide_eq_true z.1)))] at hz
        refine xT_iload g_q249 g249_156 (m5) ?_
        refine xT_invokestatic (r := []) (u := some (.inl (bcI (nI (s))))) g_q249 g249_158 (j := 126) (so := 2) (by decide +kernel) g_q126 (rfl) (t126 (x := nI (s))) ?_
        refine xT_istore g_q249 g249_161 (by decide) ?_
        refine xT_iload g_q249 g249_163 (lkN (by decide) (m4)) ?_
        refine xT_invokestatic (r := []) (u := some (.inl (bcI (nI (be))))) g_q249 g249_165 (j := 126) (so := 2) (by decide +kernel) g_q126 (rfl) (t126 (x := nI (be))) ?_
        refine xT_istore g_q249 g249_168 (by decide) ?_
        refine xT_iload g_q249 g249_170 (lkN (by decide) (lkN (by decide) (m6))) ?_
        refine xT_iload_n g_q249 g249_172 (lkN (by decide) (lkN (by decide) (m3))) ?_
        refine xT_if_icmpY g_q249 g249_173 (t := 201) (by decide) (decide_eq_true hp) ?_
        refine xT_iincV (y := nI (s + 1)) g_q249 g249_201 (lkN (by decide) (lkN (by decide) (m5))) (by decide) (bIncN _) ?_
        refine xT_goto g_q249 g249_204 (t := 100) (by decide) ?_
        exact ih (s + 1) be _ (by omega) (by omega) hz (lkN (by decide) (lkN (by decide) (lkN (by decide) (m0)))) (lkN (by decide) (lkN (by decide) (lkN (by decide) (m1)))) (lkN (by decide) (lkN (by decide) (lkN (by decide) (m2)))) (lkN (by decide) (lkN (by decide) (lkN (by decide) (m3)))) (lkN (by decide) (lkN (by decide) (lkN (by decide) (m4)))) (lkY)
      by_cases hl : bcI (nI s) < bcI (nI be)
      · have hl2 : fC s < fC be := Int32.lt_iff_toInt_lt.mp hl
        rw [show mnU (pS B n) fC (d + 1) s be = mnU (pS B n) fC d (s + 1) s from congrArg (mnU (pS B n) fC d (s + 1)) (if_pos ⟨decide_eq_true hp, Or.inl hl2⟩)] at hz
        refine xT_iload g_q249 g249_156 (m5) ?_
        refine xT_invokestatic (r := []) (u := some (.inl (bcI (nI (s))))) g_q249 g249_158 (j := 126) (so := 2) (by decide +kernel) g_q126 (rfl) (t126 (x := nI (s))) ?_
        refine xT_istore g_q249 g249_161 (by decide) ?_
        refine xT_iload g_q249 g249_163 (lkN (by decide) (m4)) ?_
        refine xT_invokestatic (r := []) (u := some (.inl (bcI (nI (be))))) g_q249 g249_165 (j := 126) (so := 2) (by decide +kernel) g_q126 (rfl) (t126 (x := nI (be))) ?_
        refine xT_istore g_q249 g249_168 (by decide) ?_
        refine xT_iload g_q249 g249_170 (lkN (by decide) (lkN (by decide) (m6))) ?_
        refine xT_iload_n g_q249 g249_172 (lkN (by decide) (lkN (by decide) (m3))) ?_
        refine xT_if_icmpN g_q249 g249_173 (t := 201) (by decide) (decide_eq_false (fun z => z hp)) ?_
        refine xT_iload g_q249 g249_176 (lkN (by decide) (lkY)) ?_
        refine xT_iload g_q249 g249_178 (lkY) ?_
        refine xT_if_icmpY g_q249 g249_180 (t := 197) (by decide) (decide_eq_true hl) ?_
        refine xT_iload g_q249 g249_197 (lkN (by decide) (lkN (by decide) (m5))) ?_
        refine xT_istore g_q249 g249_199 (by decide) ?_
        refine xT_iincV (y := nI (s + 1)) g_q249 g249_201 (lkN (by decide) (lkN (by decide) (lkN (by decide) (m5)))) (by decide) (bIncN _) ?_
        refine xT_goto g_q249 g249_204 (t := 100) (by decide) ?_
        exact ih (s + 1) s _ (by omega) (by omega) hz (lkN (by decide) (lkN (by decide) (lkN (by decide) (lkN (by decide) (m0))))) (lkN (by decide) (lkN (by decide) (lkN (by decide) (lkN (by decide) (m1))))) (lkN (by decide) (lkN (by decide) (lkN (by decide) (lkN (by decide) (m2))))) (lkN (by decide) (lkN (by decide) (lkN (by decide) (lkN (by decide) (m3))))) (lkN (by decide) (lkY)) (lkY)
      have hl2 : ¬ fC s < fC be := fun z => hl (Int32.lt_iff_toInt_lt.mpr z)
      by_cases he : bcI (nI s) = bcI (nI be)
      rotate_left
      · have he2 : ¬ fC s = fC be := fun z => he (Int32.toInt_inj.mp z)
        rw [show mnU (pS B n) fC (d + 1) s be = mnU (pS B n) fC d (s + 1) be from congrArg (mnU (pS B n) fC d (s + 1)) (if_neg (fun z => z.2.elim hl2 (fun y => he2 y.1)))] at hz
        refine xT_iload g_q249 g249_156 (m5) ?_
        refine xT_invokestatic (r := []) (u := some (.inl (bcI (nI (s))))) g_q249 g249_158 (j := 126) (so := 2) (by decide +kernel) g_q126 (rfl) (t126 (x := nI (s))) ?_
        refine xT_istore g_q249 g249_161 (by decide) ?_
        refine xT_iload g_q249 g249_163 (lkN (by decide) (m4)) ?_
        refine xT_invokestatic (r := []) (u := some (.inl (bcI (nI (be))))) g_q249 g249_165 (j := 126) (so := 2) (by decide +kernel) g_q126 (rfl) (t126 (x := nI (be))) ?_
        refine xT_istore g_q249 g249_168 (by decide) ?_
        refine xT_iload g_q249 g249_170 (lkN (by decide) (lkN (by decide) (m6))) ?_
        refine xT_iload_n g_q249 g249_172 (lkN (by decide) (lkN (by decide) (m3))) ?_
        refine xT_if_icmpN g_q249 g249_173 (t := 201) (by decide) (decide_eq_false (fun z => z hp)) ?_
        refine xT_iload g_q249 g249_176 (lkN (by decide) (lkY)) ?_
        refine xT_iload g_q249 g249_178 (lkY) ?_
        refine xT_if_icmpN g_q249 g249_180 (t := 197) (by decide) (decide_eq_false hl) ?_
        refine xT_iload g_q249 g249_183 (lkN (by decide) (lkY)) ?_
        refine xT_iload g_q249 g249_185 (lkY) ?_
        refine xT_if_icmpY g_q249 g249_187 (t := 201) (by decide) (decide_eq_true he) ?_
        refine xT_iincV (y := nI (s + 1)) g_q249 g249_201 (lkN (by decide) (lkN (by decide) (m5))) (by decide) (bIncN _) ?_
        refine xT_goto g_q249 g249_204 (t := 100) (by decide) ?_
        exact ih (s + 1) be _ (by omega) (by omega) hz (lkN (by decide) (lkN (by decide) (lkN (by decide) (m0)))) (lkN (by decide) (lkN (by decide) (lkN (by decide) (m1)))) (lkN (by decide) (lkN (by decide) (lkN (by decide) (m2)))) (lkN (by decide) (lkN (by decide) (lkN (by decide) (m3)))) (lkN (by decide) (lkN (by decide) (lkN (by decide) (m4)))) (lkY)
      have he2 : fC s = fC be := congrArg Int32.toInt he
      by_cases hb : s < be
      · rw [show mnU (pS B n) fC (d + 1) s be = mnU (pS B n) fC d (s + 1) s from congrArg (mnU (pS B n) fC d (s + 1)) (if_pos ⟨decide_eq_true hp, Or.inr ⟨he2, hb⟩⟩)] at hz
        refine xT_iload g_q249 g249_156 (m5) ?_
        refine xT_invokestatic (r := []) (u := some (.inl (bcI (nI (s))))) g_q249 g249_158 (j := 126) (so := 2) (by decide +kernel) g_q126 (rfl) (t126 (x := nI (s))) ?_
        refine xT_istore g_q249 g249_161 (by decide) ?_
        refine xT_iload g_q249 g249_163 (lkN (by decide) (m4)) ?_
        refine xT_invokestatic (r := []) (u := some (.inl (bcI (nI (be))))) g_q249 g249_165 (j := 126) (so := 2) (by decide +kernel) g_q126 (rfl) (t126 (x := nI (be))) ?_
        refine xT_istore g_q249 g249_168 (by decide) ?_
        refine xT_iload g_q249 g249_170 (lkN (by decide) (lkN (by decide) (m6))) ?_
        refine xT_iload_n g_q249 g249_172 (lkN (by decide) (lkN (by decide) (m3))) ?_
        refine xT_if_icmpN g_q249 g249_173 (t := 201) (by decide) (decide_eq_false (fun z => z hp)) ?_
        refine xT_iload g_q249 g249_176 (lkN (by decide) (lkY)) ?_
        refine xT_iload g_q249 g249_178 (lkY) ?_
        refine xT_if_icmpN g_q249 g249_180 (t := 197) (by decide) (decide_eq_false hl) ?_
        refine xT_iload g_q249 g249_183 (lkN (by decide) (lkY)) ?_
        refine xT_iload g_q249 g249_185 (lkY) ?_
        refine xT_if_icmpN g_q249 g249_187 (t := 201) (by decide) (decide_eq_false (fun z => z he)) ?_
        refine xT_iload g_q249 g249_190 (lkN (by decide) (lkN (by decide) (m5))) ?_
        refine xT_iload g_q249 g249_192 (lkN (by decide) (lkN (by decide) (m4))) ?_
        refine xT_if_icmpN g_q249 g249_194 (t := 201) (by decide) (c3N (a := s) (b := be) (by omega) (by omega) (by omega)) ?_
        refine xT_iload g_q249 g249_197 (lkN (by decide) (lkN (by decide) (m5))) ?_
        refine xT_istore g_q249 g249_199 (by decide) ?_
        refine xT_iincV (y := nI (s + 1)) g_q249 g249_201 (lkN (by decide) (lkN (by decide) (lkN (by decide) (m5)))) (by decide) (bIncN _) ?_
        refine xT_goto g_q249 g249_204 (t := 100) (by decide) ?_
        exact ih (s + 1) s _ (by omega) (by omega) hz (lkN (by decide) (lkN (by decide) (lkN (by decide) (lkN (by decide) (m0))))) (lkN (by decide) (lkN (by decide) (lkN (by decide) (lkN (by decide) (m1))))) (lkN (by decide) (lkN (by decide) (lkN (by decide) (lkN (by decide) (m2))))) (lkN (by decide) (lkN (by decide) (lkN (by decide) (lkN (by decide) (m3))))) (lkN (by decide) (lkY)) (lkY)
      · rw [show mnU (pS B n) fC (d + 1) s be = mnU (pS B n) fC d (s + 1) be from congrArg (mnU (pS B n) fC d (s + 1)) (if_neg (fun z => z.2.elim hl2 (fun y => hb y.2)))] at hz
        refine xT_iload g_q249 g249_156 (m5) ?_
        refine xT_invokestatic (r := []) (u := some (.inl (bcI (nI (s))))) g_q249 g249_158 (j := 126) (so := 2) (by decide +kernel) g_q126 (rfl) (t126 (x := nI (s))) ?_
        refine xT_istore g_q249 g249_161 (by decide) ?_
        refine xT_iload g_q249 g249_163 (lkN (by decide) (m4)) ?_
        refine xT_invokestatic (r := []) (u := some (.inl (bcI (nI (be))))) g_q249 g249_165 (j := 126) (so := 2) (by decide +kernel) g_q126 (rfl) (t126 (x := nI (be))) ?_
        refine xT_istore g_q249 g249_168 (by decide) ?_
        refine xT_iload g_q249 g249_170 (lkN (by decide) (lkN (by decide) (m6))) ?_
        refine xT_iload_n g_q249 g249_172 (lkN (by decide) (lkN (by decide) (m3))) ?_
        refine xT_if_icmpN g_q249 g249_173 (t := 201) (by decide) (decide_eq_false (fun z => z hp)) ?_
        refine xT_iload g_q249 g249_176 (lkN (by decide) (lkY)) ?_
        refine xT_iload g_q249 g249_178 (lkY) ?_
        refine xT_if_icmpN g_q249 g249_180 (t := 197) (by decide) (decide_eq_false hl) ?_
        refine xT_iload g_q249 g249_183 (lkN (by decide) (lkY)) ?_
        refine xT_iload g_q249 g249_185 (lkY) ?_
        refine xT_if_icmpN g_q249 g249_187 (t := 201) (by decide) (decide_eq_false (fun z => z he)) ?_
        refine xT_iload g_q249 g249_190 (lkN (by decide) (lkN (by decide) (m5))) ?_
        refine xT_iload g_q249 g249_192 (lkN (by decide) (lkN (by decide) (m4))) ?_
        refine xT_if_icmpY g_q249 g249_194 (t := 201) (by decide) (c3Y (a := s) (b := be) (by omega) (by omega) (by omega)) ?_
        refine xT_iincV (y := nI (s + 1)) g_q249 g249_201 (lkN (by decide) (lkN (by decide) (m5))) (by decide) (bIncN _) ?_
        refine xT_goto g_q249 g249_204 (t := 100) (by decide) ?_
        exact ih (s + 1) be _ (by omega) (by omega) hz (lkN (by decide) (lkN (by decide) (lkN (by decide) (m0)))) (lkN (by decide) (lkN (by decide) (lkN (by decide) (m1)))) (lkN (by decide) (lkN (by decide) (lkN (by decide) (m2)))) (lkN (by decide) (lkN (by decide) (lkN (by decide) (m3)))) (lkN (by decide) (lkN (by decide) (lkN (by decide) (m4)))) (lkY)
    have hs2 : s < 2 ^ n := by omega
    refine xT_iload g_q249 g249_100 (l5) ?_
    refine xT_icV (y := nI (1)) g_q249 g249_102 (by decide) ?_
    refine xT_aload_n g_q249 g249_103 (l0) ?_
    refine xT_getfield g_q249 g249_104 hbA rfl hb0 rfl h32 ?_
    refine xT_ishlV (y := nI (2 ^ n)) g_q249 g249_107 ((b_sh n hn8).1) ?_
    refine xT_if_icmpN g_q249 g249_108 (t := 207) (by decide) (c3N (a := s) (b := 2 ^ n) (by omega) (by omega) (by omega)) ?_
    refine xT_icV (y := nI (0)) g_q249 g249_111 (by decide) ?_
    refine xT_istore g_q249 g249_112 (by decide) ?_
    refine xT_icV (y := nI (0)) g_q249 g249_114 (by decide) ?_
    refine xT_istore g_q249 g249_115 (by decide) ?_
    exact t249_i hM hY hB (by omega) (fun L m0 m1 m2 m3 m4 m5 m6 => step L m0 m1 m2 m3 m4 m5 m6) n 0 _ _ (by omega) rfl (lkN (by decide) (lkN (by decide) (l0))) (lkN (by decide) (lkN (by decide) (l1))) (lkN (by decide) (lkN (by decide) (l2))) (lkN (by decide) (lkN (by decide) (l3))) (lkN (by decide) (lkN (by decide) (l4))) (lkN (by decide) (lkN (by decide) (l5))) (lkN (by decide) (lkY)) (lkY)
end XH31_10
