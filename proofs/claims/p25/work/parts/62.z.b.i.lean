/-! p25 by hand, 7. -/
noncomputable section XH257
variable {ot : XO Int32} {dp : Nat} {H : List (XC Int32)} {c pv rl n lo hi hi_ R : Nat} {a cnt ca : Nat} {vs : List (XV Int32)} {b i : Nat} {y : Nat → Nat}
def alkN (fv : Nat → Nat) (Y : Nat) : Nat := mstN fv (clsN Y) 303
def fewN (fv : Nat → Nat) : Nat → Nat
  | 0 => alkN fv 1900
  | t + 1 => if alkN fv (1901 + t) < fewN fv t then alkN fv (1901 + t) else fewN fv t
def besN (fv : Nat → Nat) : Nat → Nat
  | 0 => 1900
  | t + 1 => if alkN fv (1901 + t) < fewN fv t then 1901 + t else besN fv t
theorem alkN_le {fv : Nat → Nat} {Y : Nat} : alkN fv Y ≤ 303 := mstN_le 303
theorem fewN_le {fv : Nat → Nat} : ∀ t, fewN fv t ≤ 303
  | 0 => alkN_le
  | t + 1 => by
    show (if alkN fv (1901 + t) < fewN fv t then alkN fv (1901 + t) else fewN fv t) ≤ 303
    split
    · exact alkN_le
    · exact fewN_le t
theorem besN_le {fv : Nat → Nat} : ∀ t, besN fv t ≤ 1900 + t
  | 0 => Nat.le_refl _
  | t + 1 => by
    have := besN_le (fv := fv) t
    show (if alkN fv (1901 + t) < fewN fv t then 1901 + t else besN fv t) ≤ 1900 + (t + 1)
    split <;> omega
theorem isFit_b {H : List (XC Int32)} {b : Nat} {fv : Nat → Nat} (h : isFit H b fv) : ∃ fs, ¬ 1000000 < b ∧ H[b]? = some (.inl (12, fs)) := by
  obtain ⟨fs, vf, fa, h1, h2, -⟩ := h
  exact ⟨fs, h1, h2⟩
theorem t253_2_2 {fv : Nat → Nat} : ∀ (d t : Nat) (L : List (Nat × XV Int32)) (G : List (XC Int32)) (cn sn : Nat), t + d = 199 → cn ≤ t + 1 → sn ≤ 4 * t + 4 → isFit G b fv → G.length + d ≤ 1000000 → x_lk L 0 = some (.inr (some b)) → x_lk L 2 = some (.inl (nI 2)) → x_lk L 5 = some (.inl (nI (besN fv t))) → x_lk L 6 = some (.inl (nI (fewN fv t))) → x_lk L 7 = some (.inl (nI (1901 + t))) → ∃ G2, x_To x_tb x_tyl ot (dp + 3) 253 132 L [] G cn sn (some (.inl (nI (besN fv 199)))) G2 := by
  intro d
  induction d with
  | zero =>
    intro t L G cn sn ht hcn hsn hF hG l0 l2 l5 l6 l7
    obtain rfl : t = 199 := by omega
    refine ⟨G, ?_⟩
    refine xT_iload g_q253 g253_132 (l7) ?_
    refine xT_siV (y := nI (2100)) g_q253 g253_134 (by decide) ?_
    refine xT_if_icmpY g_q253 g253_137 (t := 169) (by decide) (c3Y (a := 2100) (b := 2100) (by omega) (by omega) (by omega)) ?_
    refine xT_iload_n g_q253 g253_169 (l2) ?_
    refine xT_icV (y := nI (2)) g_q253 g253_170 (by decide) ?_
    refine xT_if_icmpN g_q253 g253_171 (t := 179) (by decide) (c1N (a := 2) (b := 2) (by omega)) ?_
    refine xT_iload g_q253 g253_174 (l5) ?_
    refine xT_goto g_q253 g253_176 (t := 181) (by decide) ?_
    exact xT_ireturn g_q253 g253_181 (by rw [decide_eq_true (show cn ≤ mMc xm253 by have : mMc xm253 = 400 := rfl; omega), decide_eq_true (show sn ≤ mMs xm253 by have : mMs xm253 = 1600 := rfl; omega)]; rfl)
  | succ d ih =>
    intro t L G cn sn ht hcn hsn hF hG l0 l2 l5 l6 l7
    obtain ⟨fs, hbA, hb⟩ := isFit_b hF
    by_cases h : alkN fv (1901 + t) < fewN fv t
    · have e5 : besN fv (t + 1) = 1901 + t := if_pos h
      have e6 : fewN fv (t + 1) = alkN fv (1901 + t) := if_pos h
      obtain ⟨G2, x⟩ : ∃ G2, x_To x_tb x_tyl ot (dp + 3) 253 132 (x_st (x_st (x_st (x_st (L) 8 (.inl (nI (alkN fv (1901 + t))))) 6 (.inl (nI (alkN fv (1901 + t))))) 5 (.inl (nI (1901 + t)))) 7 (.inl (nI (1901 + (t + 1))))) [] (G ++ [.inr (0, M4 (cntN fv (clsN (1901 + t)) 303))]) (cn + 1) (sn + 4) (some (.inl (nI (besN fv 199)))) G2 := by
        exact ih (t + 1) _ (_ ++ [_]) (cn + 1) (sn + 4) (by omega) (by omega) (by omega) (isFit_app hF _) (by
          rw [List.length_append, List.length_singleton]
          omega) (lkN (by decide) (lkN (by decide) (lkN (by decide) (lkN (by decide) (l0))))) (lkN (by decide) (lkN (by decide) (lkN (by decide) (lkN (by decide) (l2))))) (by
          rw [e5]
          exact lkN (by decide) (lkY)) (by
          rw [e6]
          exact lkN (by decide) (lkN (by decide) (lkY))) (lkY)
      refine ⟨G2, ?_⟩
      refine xT_iload g_q253 g253_132 (l7) ?_
      refine xT_siV (y := nI (2100)) g_q253 g253_134 (by decide) ?_
      refine xT_if_icmpN g_q253 g253_137 (t := 169) (by decide) (c3N (a := 1901 + t) (b := 2100) (by omega) (by omega) (by omega)) ?_
      refine xT_aload_n g_q253 g253_140 (l0) ?_
      refine xT_iload g_q253 g253_141 (l7) ?_
      refine xT_invokevirtual (r := []) (u := some (.inl (nI (alkN fv (1901 + t))))) g_q253 g253_143 (j := 255) (so := 0) (by decide +kernel) g_q255 rfl (by rw [x_rcM hbA hb, decide_eq_true (show cn + mMc xm255 ≤ mMc xm253 by have : mMc xm255 = 1 := rfl; have : mMc xm253 = 400 := rfl; omega), decide_eq_true (show sn + mMs xm255 ≤ mMs xm253 by have : mMs xm255 = 4 := rfl; have : mMs xm253 = 1600 := rfl; omega)]; rfl) (t255 (dp := dp) hF (by omega) (by omega)) ?_
      refine xT_istore g_q253 g253_146 (by decide) ?_
      refine xT_iload g_q253 g253_148 (lkY) ?_
      refine xT_iload g_q253 g253_150 (lkN (by decide) (l6)) ?_
      refine xT_if_icmpN g_q253 g253_152 (t := 163) (by decide) (c3N h (by have := alkN_le (fv := fv) (Y := 1901 + t); omega) (by have := fewN_le (fv := fv) t; omega)) ?_
      refine xT_iload g_q253 g253_155 (lkY) ?_
      refine xT_istore g_q253 g253_157 (by decide) ?_
      refine xT_iload g_q253 g253_159 (lkN (by decide) (lkN (by decide) (l7))) ?_
      refine xT_istore g_q253 g253_161 (by decide) ?_
      refine xT_iincV (y := nI (1901 + (t + 1))) g_q253 g253_163 (lkN (by decide) (lkN (by decide) (lkN (by decide) (l7)))) (by decide) (bIncN _) ?_
      refine xT_goto g_q253 g253_166 (t := 132) (by decide) ?_
      exact x
    · have e5 : besN fv (t + 1) = besN fv t := if_neg h
      have e6 : fewN fv (t + 1) = fewN fv t := if_neg h
      have h := Nat.le_of_not_lt h
      obtain ⟨G2, x⟩ : ∃ G2, x_To x_tb x_tyl ot (dp + 3) 253 132 (x_st (x_st (L) 8 (.inl (nI (alkN fv (1901 + t))))) 7 (.inl (nI (1901 + (t + 1))))) [] (G ++ [.inr (0, M4 (cntN fv (clsN (1901 + t)) 303))]) (cn + 1) (sn + 4) (some (.inl (nI (besN fv 199)))) G2 := by
        exact ih (t + 1) _ (_ ++ [_]) (cn + 1) (sn + 4) (by omega) (by omega) (by omega) (isFit_app hF _) (by
          rw [List.length_append, List.length_singleton]
          omega) (lkN (by decide) (lkN (by decide) (l0))) (lkN (by decide) (lkN (by decide) (l2))) (by
          rw [e5]
          exact lkN (by decide) (lkN (by decide) (l5))) (by
          rw [e6]
          exact lkN (by decide) (lkN (by decide) (l6))) (lkY)
      refine ⟨G2, ?_⟩
      refine xT_iload g_q253 g253_132 (l7) ?_
      refine xT_siV (y := nI (2100)) g_q253 g253_134 (by decide) ?_
      refine xT_if_icmpN g_q253 g253_137 (t := 169) (by decide) (c3N (a := 1901 + t) (b := 2100) (by omega) (by omega) (by omega)) ?_
      refine xT_aload_n g_q253 g253_140 (l0) ?_
      refine xT_iload g_q253 g253_141 (l7) ?_
      refine xT_invokevirtual (r := []) (u := some (.inl (nI (alkN fv (1901 + t))))) g_q253 g253_143 (j := 255) (so := 0) (by decide +kernel) g_q255 rfl (by rw [x_rcM hbA hb, decide_eq_true (show cn + mMc xm255 ≤ mMc xm253 by have : mMc xm255 = 1 := rfl; have : mMc xm253 = 400 := rfl; omega), decide_eq_true (show sn + mMs xm255 ≤ mMs xm253 by have : mMs xm255 = 4 := rfl; have : mMs xm253 = 1600 := rfl; omega)]; rfl) (t255 (dp := dp) hF (by omega) (by omega)) ?_
      refine xT_istore g_q253 g253_146 (by decide) ?_
      refine xT_iload g_q253 g253_148 (lkY) ?_
      refine xT_iload g_q253 g253_150 (lkN (by decide) (l6)) ?_
      refine xT_if_icmpY g_q253 g253_152 (t := 163) (by decide) (c3Y h (by have := alkN_le (fv := fv) (Y := 1901 + t); omega) (by have := fewN_le (fv := fv) t; omega)) ?_
      refine xT_iincV (y := nI (1901 + (t + 1))) g_q253 g253_163 (lkN (by decide) (l7)) (by decide) (bIncN _) ?_
      refine xT_goto g_q253 g253_166 (t := 132) (by decide) ?_
      exact x
theorem t253_2_3 {fv : Nat → Nat} : ∀ (d t : Nat) (L : List (Nat × XV Int32)) (G : List (XC Int32)) (cn sn : Nat), t + d = 199 → cn ≤ t + 1 → sn ≤ 4 * t + 4 → isFit G b fv → G.length + d ≤ 1000000 → x_lk L 0 = some (.inr (some b)) → x_lk L 2 = some (.inl (nI 3)) → x_lk L 5 = some (.inl (nI (besN fv t))) → x_lk L 6 = some (.inl (nI (fewN fv t))) → x_lk L 7 = some (.inl (nI (1901 + t))) → ∃ G2, x_To x_tb x_tyl ot (dp + 3) 253 132 L [] G cn sn (some (.inl (nI (fewN fv 199)))) G2 := by
  intro d
  induction d with
  | zero =>
    intro t L G cn sn ht hcn hsn hF hG l0 l2 l5 l6 l7
    obtain rfl : t = 199 := by omega
    refine ⟨G, ?_⟩
    refine xT_iload g_q253 g253_132 (l7) ?_
    refine xT_siV (y := nI (2100)) g_q253 g253_134 (by decide) ?_
    refine xT_if_icmpY g_q253 g253_137 (t := 169) (by decide) (c3Y (a := 2100) (b := 2100) (by omega) (by omega) (by omega)) ?_
    refine xT_iload_n g_q253 g253_169 (l2) ?_
    refine xT_icV (y := nI (2)) g_q253 g253_170 (by decide) ?_
    refine xT_if_icmpY g_q253 g253_171 (t := 179) (by decide) (c1Y (a := 3) (b := 2) (by omega) (by omega) (by omega)) ?_
    refine xT_iload g_q253 g253_179 (l6) ?_
    exact xT_ireturn g_q253 g253_181 (by rw [decide_eq_true (show cn ≤ mMc xm253 by have : mMc xm253 = 400 := rfl; omega), decide_eq_true (show sn ≤ mMs xm253 by have : mMs xm253 = 1600 := rfl; omega)]; rfl)
  | succ d ih =>
    intro t L G cn sn ht hcn hsn hF hG l0 l2 l5 l6 l7
    obtain ⟨fs, hbA, hb⟩ := isFit_b hF
    by_cases h : alkN fv (1901 + t) < fewN fv t
    · have e5 : besN fv (t + 1) = 1901 + t := if_pos h
      have e6 : fewN fv (t + 1) = alkN fv (1901 + t) := if_pos h
      obtain ⟨G2, x⟩ : ∃ G2, x_To x_tb x_tyl ot (dp + 3) 253 132 (x_st (x_st (x_st (x_st (L) 8 (.inl (nI (alkN fv (1901 + t))))) 6 (.inl (nI (alkN fv (1901 + t))))) 5 (.inl (nI (1901 + t)))) 7 (.inl (nI (1901 + (t + 1))))) [] (G ++ [.inr (0, M4 (cntN fv (clsN (1901 + t)) 303))]) (cn + 1) (sn + 4) (some (.inl (nI (fewN fv 199)))) G2 := by
        exact ih (t + 1) _ (_ ++ [_]) (cn + 1) (sn + 4) (by omega) (by omega) (by omega) (isFit_app hF _) (by
          rw [List.length_append, List.length_singleton]
          omega) (lkN (by decide) (lkN (by decide) (lkN (by decide) (lkN (by decide) (l0))))) (lkN (by decide) (lkN (by decide) (lkN (by decide) (lkN (by decide) (l2))))) (by
          rw [e5]
          exact lkN (by decide) (lkY)) (by
          rw [e6]
          exact lkN (by decide) (lkN (by decide) (lkY))) (lkY)
      refine ⟨G2, ?_⟩
      refine xT_iload g_q253 g253_132 (l7) ?_
      refine xT_siV (y := nI (2100)) g_q253 g253_134 (by decide) ?_
      refine xT_if_icmpN g_q253 g253_137 (t := 169) (by decide) (c3N (a := 1901 + t) (b := 2100) (by omega) (by omega) (by omega)) ?_
      refine xT_aload_n g_q253 g253_140 (l0) ?_
      refine xT_iload g_q253 g253_141 (l7) ?_
      refine xT_invokevirtual (r := []) (u := some (.inl (nI (alkN fv (1901 + t))))) g_q253 g253_143 (j := 255) (so := 0) (by decide +kernel) g_q255 rfl (by rw [x_rcM hbA hb, decide_eq_true (show cn + mMc xm255 ≤ mMc xm253 by have : mMc xm255 = 1 := rfl; have : mMc xm253 = 400 := rfl; omega), decide_eq_true (show sn + mMs xm255 ≤ mMs xm253 by have : mMs xm255 = 4 := rfl; have : mMs xm253 = 1600 := rfl; omega)]; rfl) (t255 (dp := dp) hF (by omega) (by omega)) ?_
      refine xT_istore g_q253 g253_146 (by decide) ?_
      refine xT_iload g_q253 g253_148 (lkY) ?_
      refine xT_iload g_q253 g253_150 (lkN (by decide) (l6)) ?_
      refine xT_if_icmpN g_q253 g253_152 (t := 163) (by decide) (c3N h (by have := alkN_le (fv := fv) (Y := 1901 + t); omega) (by have := fewN_le (fv := fv) t; omega)) ?_
      refine xT_iload g_q253 g253_155 (lkY) ?_
      refine xT_istore g_q253 g253_157 (by decide) ?_
      refine xT_iload g_q253 g253_159 (lkN (by decide) (lkN (by decide) (l7))) ?_
      refine xT_istore g_q253 g253_161 (by decide) ?_
      refine xT_iincV (y := nI (1901 + (t + 1))) g_q253 g253_163 (lkN (by decide) (lkN (by decide) (lkN (by decide) (l7)))) (by decide) (bIncN _) ?_
      refine xT_goto g_q253 g253_166 (t := 132) (by decide) ?_
      exact x
    · have e5 : besN fv (t + 1) = besN fv t := if_neg h
      have e6 : fewN fv (t + 1) = fewN fv t := if_neg h
      have h := Nat.le_of_not_lt h
      obtain ⟨G2, x⟩ : ∃ G2, x_To x_tb x_tyl ot (dp + 3) 253 132 (x_st (x_st (L) 8 (.inl (nI (alkN fv (1901 + t))))) 7 (.inl (nI (1901 + (t + 1))))) [] (G ++ [.inr (0, M4 (cntN fv (clsN (1901 + t)) 303))]) (cn + 1) (sn + 4) (some (.inl (nI (fewN fv 199)))) G2 := by
        exact ih (t + 1) _ (_ ++ [_]) (cn + 1) (sn + 4) (by omega) (by omega) (by omega) (isFit_app hF _) (by
          rw [List.length_append, List.length_singleton]
          omega) (lkN (by decide) (lkN (by decide) (l0))) (lkN (by decide) (lkN (by decide) (l2))) (by
          rw [e5]
          exact lkN (by decide) (lkN (by decide) (l5))) (by
          rw [e6]
          exact lkN (by decide) (lkN (by decide) (l6))) (lkY)
      refine ⟨G2, ?_⟩
      refine xT_iload g_q253 g253_132 (l7) ?_
      refine xT_siV (y := nI (2100)) g_q253 g253_134 (by decide) ?_
      refine xT_if_icmpN g_q253 g253_137 (t := 169) (by decide) (c3N (a := 1901 + t) (b := 2100) (by omega) (by omega) (by omega)) ?_
      refine xT_aload_n g_q253 g253_140 (l0) ?_
      refine xT_iload g_q253 g253_141 (l7) ?_
      refine xT_invokevirtual (r := []) (u := some (.inl (nI (alkN fv (1901 + t))))) g_q253 g253_143 (j := 255) (so := 0) (by decide +kernel) g_q255 rfl (by rw [x_rcM hbA hb, decide_eq_true (show cn + mMc xm255 ≤ mMc xm253 by have : mMc xm255 = 1 := rfl; have : mMc xm253 = 400 := rfl; omega), decide_eq_true (show sn + mMs xm255 ≤ mMs xm253 by have : mMs xm255 = 4 := rfl; have : mMs xm253 = 1600 := rfl; omega)]; rfl) (t255 (dp := dp) hF (by omega) (by omega)) ?_
      refine xT_istore g_q253 g253_146 (by decide) ?_
      refine xT_iload g_q253 g253_148 (lkY) ?_
      refine xT_iload g_q253 g253_150 (lkN (by decide) (l6)) ?_
      refine xT_if_icmpY g_q253 g253_152 (t := 163) (by decide) (c3Y h (by have := alkN_le (fv := fv) (Y := 1901 + t); omega) (by have := fewN_le (fv := fv) t; omega)) ?_
      refine xT_iincV (y := nI (1901 + (t + 1))) g_q253 g253_163 (lkN (by decide) (l7)) (by decide) (bIncN _) ?_
      refine xT_goto g_q253 g253_166 (t := 132) (by decide) ?_
      exact x
theorem b_cnt {cnt i : Nat} (h6 : cnt ≤ 6) (hi : i < cnt) : ¬ x_bin 1 (nI cnt) (nI 1) < nI i := fun z => by
  rw [bSubN (by omega)] at z
  have := (nI_ltI (by omega) (by omega)).mp z
  omega
theorem t253_0 {b i pv rl n cnt fa : Nat} {y : Nat → Nat} {fv : Nat → Nat} (hM : isMod H b cnt fa) (hA : isAsk H b i pv rl n y) (hic : i < cnt) (hn : n ≤ 30) (hpv : pv < 2 ^ 31) (hrl : rl < 3) (hy : ∀ k, k < n → y k < 2 ^ 31) (hfe : ∀ g, fitV pv rl y g n = fv g) {V0 : List (XV Int32)} (hf0 : H[fa]? = some (.inr (1, V0))) (hV0 : V0.length = 303) (hl : H.length + 200 ≤ 1000000) : ∃ H2, x_To x_tb x_tyl ot (dp + 3) 253 0 (x_en 0 [.inr (some (b)), .inl (nI (i)), .inl (nI (0))]) [] H 0 0 (some (.inl (nI (nDn fv 303)))) H2 := by
  obtain ⟨fs, hbA, hb, h25, h67, hfA, h6⟩ := id hM
  have hin := b_cnt h6 hic
  have e0 : H.set fa (.inr (1, V0)) = H := set_same hf0
  have hfv : ∀ g, fv g = 0 ∨ fv g = 1 := fun g => by
    rw [← hfe g]
    exact fitV_b n
  have kk : ∀ (V : List (XV Int32)) (L : List (Nat × XV Int32)), V.length = 303 → (∀ g, g < 303 → V[g]? = some (.inl (nI (fv g)))) → x_lk L 0 = some (.inr (some b)) → x_lk L 2 = some (.inl (nI 0)) → x_lk L 3 = some (.inl (nI (nDn fv 303))) → x_lk L 4 = some (.inl (lDn fv 303)) → ∃ H2, x_To x_tb x_tyl ot (dp + 3) 253 97 L [] (H.set fa (.inr (1, V))) 0 0 (some (.inl (nI (nDn fv 303)))) H2 := by
    intro V L hV hg m0 m2 m3 m4
    have hF : isFit (H.set fa (.inr (1, V))) b fv := by
      obtain ⟨fs9, q1, q2, q3, q4, q5, -⟩ := isMod_set (V2 := V) hM hf0
      exact ⟨fs9, V, fa, q1, q2, q4, q5, List.getElem?_set_self (List.getElem?_eq_some_iff.mp hf0).1, hV, fun g h => ⟨hfv g, hg g h⟩⟩
    have hls : (H.set fa (.inr (1, V))).length = H.length := List.length_set
    refine ⟨H.set fa (.inr (1, V)), ?_⟩
    refine xT_iload_n g_q253 g253_97 (m2) ?_
    refine xT_icV (y := nI (2)) g_q253 g253_98 (by decide) ?_
    refine xT_if_icmpN g_q253 g253_99 (t := 113) (by decide) (c3N (a := 0) (b := 2) (by omega) (by omega) (by omega)) ?_
    refine xT_iload_n g_q253 g253_102 (m2) ?_
    refine xT_ifCondN g_q253 g253_103 (t := 110) (by decide) (c1N (a := 0) (b := 0) (by omega)) ?_
    refine xT_iload_n g_q253 g253_106 (m3) ?_
    refine xT_goto g_q253 g253_107 (t := 112) (by decide) ?_
    exact xT_ireturn g_q253 g253_112 (rfl)
  have main := t253_a (dp := dp) (w := 0) hM hA (by omega) hn hpv hrl hy hfe hf0 kk 303 0 V0
  rw [e0] at main
  obtain ⟨H2, x⟩ := main (x_st (x_st (x_st ((x_en 0 [.inr (some (b)), .inl (nI (i)), .inl (nI (0))])) 3 (.inl (nI (0)))) 4 (.inl (-1))) 5 (.inl (nI (302)))) (by omega) hV0 (fun g h1 h2 => by omega) (lkN (by decide) (lkN (by decide) (lkN (by decide) (rfl)))) (lkN (by decide) (lkN (by decide) (lkN (by decide) (rfl)))) (lkN (by decide) (lkN (by decide) (lkN (by decide) (rfl)))) (lkN (by decide) (lkN (by decide) (lkY))) (lkN (by decide) (lkY)) (by
    rw [show jIx 0 = nI 302 from rfl]
    exact lkY)
  refine ⟨H2, ?_⟩
  refine xT_iload_n g_q253 g253_0 (rfl) ?_
  refine xT_icV (y := nI (0)) g_q253 g253_1 (by decide) ?_
  refine xT_aload_n g_q253 g253_2 (rfl) ?_
  refine xT_getfield g_q253 g253_3 hbA rfl hb rfl h25 ?_
  refine xT_icV (y := nI (1)) g_q253 g253_6 (by decide) ?_
  refine xT_isubV (y := x_bin 1 (nI cnt) (nI 1)) g_q253 g253_7 (rfl) ?_
  refine xT_invokestatic (r := []) (u := some (.inl (nI (1)))) g_q253 g253_8 (j := 181) (so := 2) (by decide +kernel) g_q181 (rfl) (t181Y (nI_pos (by omega)) hin) ?_
  refine xT_ifCondN g_q253 g253_11 (t := 23) (by decide) (c0N (a := 1) (b := 0) (by omega) (by omega) (by omega)) ?_
  refine xT_iload_n g_q253 g253_14 (rfl) ?_
  refine xT_icV (y := nI (0)) g_q253 g253_15 (by decide) ?_
  refine xT_icV (y := nI (3)) g_q253 g253_16 (by decide) ?_
  refine xT_invokestatic (r := []) (u := some (.inl (nI (1)))) g_q253 g253_17 (j := 181) (so := 2) (by decide +kernel) g_q181 (rfl) (t181Y (nI_pos (by omega)) (fun z => by have := (nI_ltI (by omega) (by omega)).mp z; omega)) ?_
  refine xT_ifCondY g_q253 g253_20 (t := 25) (by decide) (c1Y (a := 1) (b := 0) (by omega) (by omega) (by omega)) ?_
  refine xT_icV (y := nI (0)) g_q253 g253_25 (by decide) ?_
  refine xT_istore_n g_q253 g253_26 (by decide) ?_
  refine xT_icV (y := -1) g_q253 g253_27 (by decide) ?_
  refine xT_istore g_q253 g253_28 (by decide) ?_
  refine xT_siV (y := nI (302)) g_q253 g253_30 (by decide) ?_
  refine xT_istore g_q253 g253_33 (by decide) ?_
  exact x
theorem t253_1 {b i pv rl n cnt fa : Nat} {y : Nat → Nat} {fv : Nat → Nat} (hM : isMod H b cnt fa) (hA : isAsk H b i pv rl n y) (hic : i < cnt) (hn : n ≤ 30) (hpv : pv < 2 ^ 31) (hrl : rl < 3) (hy : ∀ k, k < n → y k < 2 ^ 31) (hfe : ∀ g, fitV pv rl y g n = fv g) {V0 : List (XV Int32)} (hf0 : H[fa]? = some (.inr (1, V0))) (hV0 : V0.length = 303) (hl : H.length + 200 ≤ 1000000) : ∃ H2, x_To x_tb x_tyl ot (dp + 3) 253 0 (x_en 0 [.inr (some (b)), .inl (nI (i)), .inl (nI (1))]) [] H 0 0 (some (.inl (lDn fv 303))) H2 := by
  obtain ⟨fs, hbA, hb, h25, h67, hfA, h6⟩ := id hM
  have hin := b_cnt h6 hic
  have e0 : H.set fa (.inr (1, V0)) = H := set_same hf0
  have hfv : ∀ g, fv g = 0 ∨ fv g = 1 := fun g => by
    rw [← hfe g]
    exact fitV_b n
  have kk : ∀ (V : List (XV Int32)) (L : List (Nat × XV Int32)), V.length = 303 → (∀ g, g < 303 → V[g]? = some (.inl (nI (fv g)))) → x_lk L 0 = some (.inr (some b)) → x_lk L 2 = some (.inl (nI 1)) → x_lk L 3 = some (.inl (nI (nDn fv 303))) → x_lk L 4 = some (.inl (lDn fv 303)) → ∃ H2, x_To x_tb x_tyl ot (dp + 3) 253 97 L [] (H.set fa (.inr (1, V))) 0 0 (some (.inl (lDn fv 303))) H2 := by
    intro V L hV hg m0 m2 m3 m4
    have hF : isFit (H.set fa (.inr (1, V))) b fv := by
      obtain ⟨fs9, q1, q2, q3, q4, q5, -⟩ := isMod_set (V2 := V) hM hf0
      exact ⟨fs9, V, fa, q1, q2, q4, q5, List.getElem?_set_self (List.getElem?_eq_some_iff.mp hf0).1, hV, fun g h => ⟨hfv g, hg g h⟩⟩
    have hls : (H.set fa (.inr (1, V))).length = H.length := List.length_set
    refine ⟨H.set fa (.inr (1, V)), ?_⟩
    refine xT_iload_n g_q253 g253_97 (m2) ?_
    refine xT_icV (y := nI (2)) g_q253 g253_98 (by decide) ?_
    refine xT_if_icmpN g_q253 g253_99 (t := 113) (by decide) (c3N (a := 1) (b := 2) (by omega) (by omega) (by omega)) ?_
    refine xT_iload_n g_q253 g253_102 (m2) ?_
    refine xT_ifCondY g_q253 g253_103 (t := 110) (by decide) (c1Y (a := 1) (b := 0) (by omega) (by omega) (by omega)) ?_
    refine xT_iload g_q253 g253_110 (m4) ?_
    exact xT_ireturn g_q253 g253_112 (rfl)
  have main := t253_a (dp := dp) (w := 1) hM hA (by omega) hn hpv hrl hy hfe hf0 kk 303 0 V0
  rw [e0] at main
  obtain ⟨H2, x⟩ := main (x_st (x_st (x_st ((x_en 0 [.inr (some (b)), .inl (nI (i)), .inl (nI (1))])) 3 (.inl (nI (0)))) 4 (.inl (-1))) 5 (.inl (nI (302)))) (by omega) hV0 (fun g h1 h2 => by omega) (lkN (by decide) (lkN (by decide) (lkN (by decide) (rfl)))) (lkN (by decide) (lkN (by decide) (lkN (by decide) (rfl)))) (lkN (by decide) (lkN (by decide) (lkN (by decide) (rfl)))) (lkN (by decide) (lkN (by decide) (lkY))) (lkN (by decide) (lkY)) (by
    rw [show jIx 0 = nI 302 from rfl]
    exact lkY)
  refine ⟨H2, ?_⟩
  refine xT_iload_n g_q253 g253_0 (rfl) ?_
  refine xT_icV (y := nI (0)) g_q253 g253_1 (by decide) ?_
  refine xT_aload_n g_q253 g253_2 (rfl) ?_
  refine xT_getfield g_q253 g253_3 hbA rfl hb rfl h25 ?_
  refine xT_icV (y := nI (1)) g_q253 g253_6 (by decide) ?_
  refine xT_isubV (y := x_bin 1 (nI cnt) (nI 1)) g_q253 g253_7 (rfl) ?_
  refine xT_invokestatic (r := []) (u := some (.inl (nI (1)))) g_q253 g253_8 (j := 181) (so := 2) (by decide +kernel) g_q181 (rfl) (t181Y (nI_pos (by omega)) hin) ?_
  refine xT_ifCondN g_q253 g253_11 (t := 23) (by decide) (c0N (a := 1) (b := 0) (by omega) (by omega) (by omega)) ?_
  refine xT_iload_n g_q253 g253_14 (rfl) ?_
  refine xT_icV (y := nI (0)) g_q253 g253_15 (by decide) ?_
  refine xT_icV (y := nI (3)) g_q253 g253_16 (by decide) ?_
  refine xT_invokestatic (r := []) (u := some (.inl (nI (1)))) g_q253 g253_17 (j := 181) (so := 2) (by decide +kernel) g_q181 (rfl) (t181Y (nI_pos (by omega)) (fun z => by have := (nI_ltI (by omega) (by omega)).mp z; omega)) ?_
  refine xT_ifCondY g_q253 g253_20 (t := 25) (by decide) (c1Y (a := 1) (b := 0) (by omega) (by omega) (by omega)) ?_
  refine xT_icV (y := nI (0)) g_q253 g253_25 (by decide) ?_
  refine xT_istore_n g_q253 g253_26 (by decide) ?_
  refine xT_icV (y := -1) g_q253 g253_27 (by decide) ?_
  refine xT_istore g_q253 g253_28 (by decide) ?_
  refine xT_siV (y := nI (302)) g_q253 g253_30 (by decide) ?_
  refine xT_istore g_q253 g253_33 (by decide) ?_
  exact x
theorem t253_2 {b i pv rl n cnt fa : Nat} {y : Nat → Nat} {fv : Nat → Nat} (hM : isMod H b cnt fa) (hA : isAsk H b i pv rl n y) (hic : i < cnt) (hn : n ≤ 30) (hpv : pv < 2 ^ 31) (hrl : rl < 3) (hy : ∀ k, k < n → y k < 2 ^ 31) (hfe : ∀ g, fitV pv rl y g n = fv g) {V0 : List (XV Int32)} (hf0 : H[fa]? = some (.inr (1, V0))) (hV0 : V0.length = 303) (hl : H.length + 200 ≤ 1000000) : ∃ H2, x_To x_tb x_tyl ot (dp + 3) 253 0 (x_en 0 [.inr (some (b)), .inl (nI (i)), .inl (nI (2))]) [] H 0 0 (some (.inl (nI (besN fv 199)))) H2 := by
  obtain ⟨fs, hbA, hb, h25, h67, hfA, h6⟩ := id hM
  have hin := b_cnt h6 hic
  have e0 : H.set fa (.inr (1, V0)) = H := set_same hf0
  have hfv : ∀ g, fv g = 0 ∨ fv g = 1 := fun g => by
    rw [← hfe g]
    exact fitV_b n
  have kk : ∀ (V : List (XV Int32)) (L : List (Nat × XV Int32)), V.length = 303 → (∀ g, g < 303 → V[g]? = some (.inl (nI (fv g)))) → x_lk L 0 = some (.inr (some b)) → x_lk L 2 = some (.inl (nI 2)) → x_lk L 3 = some (.inl (nI (nDn fv 303))) → x_lk L 4 = some (.inl (lDn fv 303)) → ∃ H2, x_To x_tb x_tyl ot (dp + 3) 253 97 L [] (H.set fa (.inr (1, V))) 0 0 (some (.inl (nI (besN fv 199)))) H2 := by
    intro V L hV hg m0 m2 m3 m4
    have hF : isFit (H.set fa (.inr (1, V))) b fv := by
      obtain ⟨fs9, q1, q2, q3, q4, q5, -⟩ := isMod_set (V2 := V) hM hf0
      exact ⟨fs9, V, fa, q1, q2, q4, q5, List.getElem?_set_self (List.getElem?_eq_some_iff.mp hf0).1, hV, fun g h => ⟨hfv g, hg g h⟩⟩
    have hls : (H.set fa (.inr (1, V))).length = H.length := List.length_set
    obtain ⟨fs, hbA, hb⟩ := isFit_b hF
    obtain ⟨G2, x2⟩ := t253_2_2 (b := b) (dp := dp) (fv := fv) 199 0 (x_st (x_st (x_st (L) 5 (.inl (nI (1900)))) 6 (.inl (nI (alkN fv 1900)))) 7 (.inl (nI (1901)))) (_ ++ [_]) 1 4 (by omega) (by omega) (by omega) (isFit_app hF (.inr (0, M4 (cntN fv (clsN 1900) 303)))) (by
      rw [List.length_append, List.length_singleton, List.length_set]
      omega) (lkN (by decide) (lkN (by decide) (lkN (by decide) (m0)))) (lkN (by decide) (lkN (by decide) (lkN (by decide) (m2)))) (lkN (by decide) (lkN (by decide) (lkY))) (lkN (by decide) (lkY)) (lkY)
    refine ⟨G2, ?_⟩
    refine xT_iload_n g_q253 g253_97 (m2) ?_
    refine xT_icV (y := nI (2)) g_q253 g253_98 (by decide) ?_
    refine xT_if_icmpY g_q253 g253_99 (t := 113) (by decide) (c3Y (a := 2) (b := 2) (by omega) (by omega) (by omega)) ?_
    refine xT_siV (y := nI (1900)) g_q253 g253_113 (by decide) ?_
    refine xT_istore g_q253 g253_116 (by decide) ?_
    refine xT_aload_n g_q253 g253_118 (lkN (by decide) (m0)) ?_
    refine xT_siV (y := nI (1900)) g_q253 g253_119 (by decide) ?_
    refine xT_invokevirtual (r := []) (u := some (.inl (nI (alkN fv 1900)))) g_q253 g253_122 (j := 255) (so := 0) (by decide +kernel) g_q255 rfl (by rw [x_rcM hbA hb]; rfl) (t255 (dp := dp) hF (by omega) (by omega)) ?_
    refine xT_istore g_q253 g253_125 (by decide) ?_
    refine xT_siV (y := nI (1901)) g_q253 g253_127 (by decide) ?_
    refine xT_istore g_q253 g253_130 (by decide) ?_
    exact x2
  have main := t253_a (dp := dp) (w := 2) hM hA (by omega) hn hpv hrl hy hfe hf0 kk 303 0 V0
  rw [e0] at main
  obtain ⟨H2, x⟩ := main (x_st (x_st (x_st ((x_en 0 [.inr (some (b)), .inl (nI (i)), .inl (nI (2))])) 3 (.inl (nI (0)))) 4 (.inl (-1))) 5 (.inl (nI (302)))) (by omega) hV0 (fun g h1 h2 => by omega) (lkN (by decide) (lkN (by decide) (lkN (by decide) (rfl)))) (lkN (by decide) (lkN (by decide) (lkN (by decide) (rfl)))) (lkN (by decide) (lkN (by decide) (lkN (by decide) (rfl)))) (lkN (by decide) (lkN (by decide) (lkY))) (lkN (by decide) (lkY)) (by
    rw [show jIx 0 = nI 302 from rfl]
    exact lkY)
  refine ⟨H2, ?_⟩
  refine xT_iload_n g_q253 g253_0 (rfl) ?_
  refine xT_icV (y := nI (0)) g_q253 g253_1 (by decide) ?_
  refine xT_aload_n g_q253 g253_2 (rfl) ?_
  refine xT_getfield g_q253 g253_3 hbA rfl hb rfl h25 ?_
  refine xT_icV (y := nI (1)) g_q253 g253_6 (by decide) ?_
  refine xT_isubV (y := x_bin 1 (nI cnt) (nI 1)) g_q253 g253_7 (rfl) ?_
  refine xT_invokestatic (r := []) (u := some (.inl (nI (1)))) g_q253 g253_8 (j := 181) (so := 2) (by decide +kernel) g_q181 (rfl) (t181Y (nI_pos (by omega)) hin) ?_
  refine xT_ifCondN g_q253 g253_11 (t := 23) (by decide) (c0N (a := 1) (b := 0) (by omega) (by omega) (by omega)) ?_
  refine xT_iload_n g_q253 g253_14 (rfl) ?_
  refine xT_icV (y := nI (0)) g_q253 g253_15 (by decide) ?_
  refine xT_icV (y := nI (3)) g_q253 g253_16 (by decide) ?_
  refine xT_invokestatic (r := []) (u := some (.inl (nI (1)))) g_q253 g253_17 (j := 181) (so := 2) (by decide +kernel) g_q181 (rfl) (t181Y (nI_pos (by omega)) (fun z => by have := (nI_ltI (by omega) (by omega)).mp z; omega)) ?_
  refine xT_ifCondY g_q253 g253_20 (t := 25) (by decide) (c1Y (a := 1) (b := 0) (by omega) (by omega) (by omega)) ?_
  refine xT_icV (y := nI (0)) g_q253 g253_25 (by decide) ?_
  refine xT_istore_n g_q253 g253_26 (by decide) ?_
  refine xT_icV (y := -1) g_q253 g253_27 (by decide) ?_
  refine xT_istore g_q253 g253_28 (by decide) ?_
  refine xT_siV (y := nI (302)) g_q253 g253_30 (by decide) ?_
  refine xT_istore g_q253 g253_33 (by decide) ?_
  exact x
theorem t253_3 {b i pv rl n cnt fa : Nat} {y : Nat → Nat} {fv : Nat → Nat} (hM : isMod H b cnt fa) (hA : isAsk H b i pv rl n y) (hic : i < cnt) (hn : n ≤ 30) (hpv : pv < 2 ^ 31) (hrl : rl < 3) (hy : ∀ k, k < n → y k < 2 ^ 31) (hfe : ∀ g, fitV pv rl y g n = fv g) {V0 : List (XV Int32)} (hf0 : H[fa]? = some (.inr (1, V0))) (hV0 : V0.length = 303) (hl : H.length + 200 ≤ 1000000) : ∃ H2, x_To x_tb x_tyl ot (dp + 3) 253 0 (x_en 0 [.inr (some (b)), .inl (nI (i)), .inl (nI (3))]) [] H 0 0 (some (.inl (nI (fewN fv 199)))) H2 := by
  obtain ⟨fs, hbA, hb, h25, h67, hfA, h6⟩ := id hM
  have hin := b_cnt h6 hic
  have e0 : H.set fa (.inr (1, V0)) = H := set_same hf0
  have hfv : ∀ g, fv g = 0 ∨ fv g = 1 := fun g => by
    rw [← hfe g]
    exact fitV_b n
  have kk : ∀ (V : List (XV Int32)) (L : List (Nat × XV Int32)), V.length = 303 → (∀ g, g < 303 → V[g]? = some (.inl (nI (fv g)))) → x_lk L 0 = some (.inr (some b)) → x_lk L 2 = some (.inl (nI 3)) → x_lk L 3 = some (.inl (nI (nDn fv 303))) → x_lk L 4 = some (.inl (lDn fv 303)) → ∃ H2, x_To x_tb x_tyl ot (dp + 3) 253 97 L [] (H.set fa (.inr (1, V))) 0 0 (some (.inl (nI (fewN fv 199)))) H2 := by
    intro V L hV hg m0 m2 m3 m4
    have hF : isFit (H.set fa (.inr (1, V))) b fv := by
      obtain ⟨fs9, q1, q2, q3, q4, q5, -⟩ := isMod_set (V2 := V) hM hf0
      exact ⟨fs9, V, fa, q1, q2, q4, q5, List.getElem?_set_self (List.getElem?_eq_some_iff.mp hf0).1, hV, fun g h => ⟨hfv g, hg g h⟩⟩
    have hls : (H.set fa (.inr (1, V))).length = H.length := List.length_set
    obtain ⟨fs, hbA, hb⟩ := isFit_b hF
    obtain ⟨G2, x2⟩ := t253_2_3 (b := b) (dp := dp) (fv := fv) 199 0 (x_st (x_st (x_st (L) 5 (.inl (nI (1900)))) 6 (.inl (nI (alkN fv 1900)))) 7 (.inl (nI (1901)))) (_ ++ [_]) 1 4 (by omega) (by omega) (by omega) (isFit_app hF (.inr (0, M4 (cntN fv (clsN 1900) 303)))) (by
      rw [List.length_append, List.length_singleton, List.length_set]
      omega) (lkN (by decide) (lkN (by decide) (lkN (by decide) (m0)))) (lkN (by decide) (lkN (by decide) (lkN (by decide) (m2)))) (lkN (by decide) (lkN (by decide) (lkY))) (lkN (by decide) (lkY)) (lkY)
    refine ⟨G2, ?_⟩
    refine xT_iload_n g_q253 g253_97 (m2) ?_
    refine xT_icV (y := nI (2)) g_q253 g253_98 (by decide) ?_
    refine xT_if_icmpY g_q253 g253_99 (t := 113) (by decide) (c3Y (a := 3) (b := 2) (by omega) (by omega) (by omega)) ?_
    refine xT_siV (y := nI (1900)) g_q253 g253_113 (by decide) ?_
    refine xT_istore g_q253 g253_116 (by decide) ?_
    refine xT_aload_n g_q253 g253_118 (lkN (by decide) (m0)) ?_
    refine xT_siV (y := nI (1900)) g_q253 g253_119 (by decide) ?_
    refine xT_invokevirtual (r := []) (u := some (.inl (nI (alkN fv 1900)))) g_q253 g253_122 (j := 255) (so := 0) (by decide +kernel) g_q255 rfl (by rw [x_rcM hbA hb]; rfl) (t255 (dp := dp) hF (by omega) (by omega)) ?_
    refine xT_istore g_q253 g253_125 (by decide) ?_
    refine xT_siV (y := nI (1901)) g_q253 g253_127 (by decide) ?_
    refine xT_istore g_q253 g253_130 (by decide) ?_
    exact x2
  have main := t253_a (dp := dp) (w := 3) hM hA (by omega) hn hpv hrl hy hfe hf0 kk 303 0 V0
  rw [e0] at main
  obtain ⟨H2, x⟩ := main (x_st (x_st (x_st ((x_en 0 [.inr (some (b)), .inl (nI (i)), .inl (nI (3))])) 3 (.inl (nI (0)))) 4 (.inl (-1))) 5 (.inl (nI (302)))) (by omega) hV0 (fun g h1 h2 => by omega) (lkN (by decide) (lkN (by decide) (lkN (by decide) (rfl)))) (lkN (by decide) (lkN (by decide) (lkN (by decide) (rfl)))) (lkN (by decide) (lkN (by decide) (lkN (by decide) (rfl)))) (lkN (by decide) (lkN (by decide) (lkY))) (lkN (by decide) (lkY)) (by
    rw [show jIx 0 = nI 302 from rfl]
    exact lkY)
  refine ⟨H2, ?_⟩
  refine xT_iload_n g_q253 g253_0 (rfl) ?_
  refine xT_icV (y := nI (0)) g_q253 g253_1 (by decide) ?_
  refine xT_aload_n g_q253 g253_2 (rfl) ?_
  refine xT_getfield g_q253 g253_3 hbA rfl hb rfl h25 ?_
  refine xT_icV (y := nI (1)) g_q253 g253_6 (by decide) ?_
  refine xT_isubV (y := x_bin 1 (nI cnt) (nI 1)) g_q253 g253_7 (rfl) ?_
  refine xT_invokestatic (r := []) (u := some (.inl (nI (1)))) g_q253 g253_8 (j := 181) (so := 2) (by decide +kernel) g_q181 (rfl) (t181Y (nI_pos (by omega)) hin) ?_
  refine xT_ifCondN g_q253 g253_11 (t := 23) (by decide) (c0N (a := 1) (b := 0) (by omega) (by omega) (by omega)) ?_
  refine xT_iload_n g_q253 g253_14 (rfl) ?_
  refine xT_icV (y := nI (0)) g_q253 g253_15 (by decide) ?_
  refine xT_icV (y := nI (3)) g_q253 g253_16 (by decide) ?_
  refine xT_invokestatic (r := []) (u := some (.inl (nI (1)))) g_q253 g253_17 (j := 181) (so := 2) (by decide +kernel) g_q181 (rfl) (t181Y (nI_pos (by omega)) (fun z => by have := (nI_ltI (by omega) (by omega)).mp z; omega)) ?_
  refine xT_ifCondY g_q253 g253_20 (t := 25) (by decide) (c1Y (a := 1) (b := 0) (by omega) (by omega) (by omega)) ?_
  refine xT_icV (y := nI (0)) g_q253 g253_25 (by decide) ?_
  refine xT_istore_n g_q253 g253_26 (by decide) ?_
  refine xT_icV (y := -1) g_q253 g253_27 (by decide) ?_
  refine xT_istore g_q253 g253_28 (by decide) ?_
  refine xT_siV (y := nI (302)) g_q253 g253_30 (by decide) ?_
  refine xT_istore g_q253 g253_33 (by decide) ?_
  exact x
end XH257
