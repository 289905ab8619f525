/-! p25 by hand, 6. -/
noncomputable section XH256
variable {ot : XO Int32} {dp : Nat} {H : List (XC Int32)} {c pv rl n lo hi hi_ R : Nat} {a cnt ca : Nat} {vs : List (XV Int32)} {b i : Nat} {y : Nat → Nat}
/-- from the last guess down: how many fit, the least of them -/
def nDn (fv : Nat → Nat) : Nat → Nat
  | 0 => 0
  | j + 1 => nDn fv j + fv (302 - j)
def lDn (fv : Nat → Nat) : Nat → Int32
  | 0 => -1
  | j + 1 => if fv (302 - j) = 1 then nI (302 - j) else lDn fv j
theorem nDn_le {fv : Nat → Nat} (h : ∀ g, fv g = 0 ∨ fv g = 1) : ∀ j, nDn fv j ≤ j
  | 0 => Nat.le_refl 0
  | j + 1 => by
    have h1 := nDn_le h j
    have h2 := h (302 - j)
    show nDn fv j + fv (302 - j) ≤ j + 1
    omega
theorem ne_tag {H : List (XC Int32)} {fa x : Nat} {V V2 : List (XV Int32)} {z : XC Int32} (hf : H[fa]? = some (.inr (1, V))) (hx : H[x]? = some z) (hz : z ≠ .inr (1, V)) : (H.set fa (.inr (1, V2)))[x]? = some z := by
  rw [List.getElem?_set_ne (fun e => hz (by
    subst e
    rw [hf] at hx
    exact (Option.some.inj hx).symm))]
  exact hx
theorem isAsk_set {b i pv rl n : Nat} {y : Nat → Nat} (hA : isAsk H b i pv rl n y) {fa : Nat} {V V2 : List (XV Int32)} (hf : H[fa]? = some (.inr (1, V))) : isAsk (H.set fa (.inr (1, V2))) b i pv rl n y := by
  obtain ⟨fs, vp, vr, vs, vy, w, cp, cr, sa, ya, row, hbA, hb, h26, h27, h28, h29, hrf, ⟨hp1, hp2, hp3⟩, ⟨hr1, hr2, hr3⟩, ⟨hs1, hs2, hs3⟩, ⟨hy1, hy2, hy3⟩, hw1, hw2, hw3⟩ := id hA
  have ne : ∀ {x : Nat} {t : Nat} {u : List (XV Int32)}, t ≠ 1 → H[x]? = some (.inr (t, u)) → (H.set fa (.inr (1, V2)))[x]? = some (.inr (t, u)) := fun ht hx => ne_tag hf hx (fun e => ht (by
    injection e with e
    injection e))
  exact ⟨fs, vp, vr, vs, vy, w, cp, cr, sa, ya, row, hbA, ne_tag hf hb (fun e => by cases e), h26, h27, h28, h29, hrf, ⟨ne (by decide) hp1, hp2, hp3⟩, ⟨ne (by decide) hr1, hr2, hr3⟩, ⟨ne (by decide) hs1, hs2, hs3⟩, ⟨ne (by decide) hy1, hy2, hy3⟩, ne (by decide) hw1, hw2, hw3⟩
/-- the reference's object: its count of chips, its row of what fits -/
def isMod (H : List (XC Int32)) (b cnt fa : Nat) : Prop := ∃ fs, ¬ 1000000 < b ∧ H[b]? = some (.inl (12, fs)) ∧ fs[25]? = some (.inl (nI cnt)) ∧ fs[67]? = some (.inr (some fa)) ∧ ¬ 1000000 < fa ∧ cnt ≤ 6
theorem isMod_set {b cnt fa : Nat} (h : isMod H b cnt fa) {V V2 : List (XV Int32)} (hf : H[fa]? = some (.inr (1, V))) : isMod (H.set fa (.inr (1, V2))) b cnt fa := by
  obtain ⟨fs, h1, h2, h3, h4, h5⟩ := h
  exact ⟨fs, h1, ne_tag hf h2 (fun e => by cases e), h3, h4, h5⟩
theorem xT_bas3 {k pc n0 cn sn : Nat} {q : XM} {L : List (Nat × XV Int32)} {S : List (XV Int32)} {H2 : List (XC Int32)} {v : Option (XV Int32)} {fa g x : Nat} {V : List (XV Int32)} (hq : tMth x_tb k = some q) (hi : mC q pc = some (.bastore, n0)) (hx : x = 0 ∨ x = 1) (hf : H[fa]? = some (.inr (1, V))) (hV : V.length = 303) (hg : g < 303) (h : x_To x_tb x_tyl ot dp k (pc + 1) L S (H.set fa (.inr (1, V.set g (.inl (nI x))))) cn sn v H2) : x_To x_tb x_tyl ot dp k pc L (.inl (nI x) :: .inl (nI g) :: .inr (some fa) :: S) H cn sn v H2 := xT_bastore hq hi (by
  rcases hx with rfl | rfl
  · decide +kernel
  · decide +kernel) hf (ixN (n := 303) (by omega) hV) (by
  rw [nI_clamp (by omega)]
  exact h)
/-- the guess that is looked at -/
def jIx (j : Nat) : Int32 := if j < 303 then nI (302 - j) else -1
theorem jIx_dec {j : Nat} (h : j < 303) : x_bin 0 (nI (302 - j)) (Int32.ofInt (-1)) = jIx (j + 1) := by
  unfold jIx
  by_cases c : j + 1 < 303
  · rw [if_pos c, bDecN (by omega)]
    congr 1
  · obtain rfl : j = 302 := by omega
    rw [if_neg c]
    decide
set_option maxHeartbeats 2000000 in
theorem t253_a {b i pv rl n cnt fa w : Nat} {y : Nat → Nat} {fv : Nat → Nat} (hM : isMod H b cnt fa) (hA : isAsk H b i pv rl n y) (hi6 : i < 6) (hn : n ≤ 30) (hpv : pv < 2 ^ 31) (hrl : rl < 3) (hy : ∀ k, k < n → y k < 2 ^ 31) (hfe : ∀ g, fitV pv rl y g n = fv g) {V0 : List (XV Int32)} (hf0 : H[fa]? = some (.inr (1, V0))) {v : Option (XV Int32)}
    (kk : ∀ (V : List (XV Int32)) (L : List (Nat × XV Int32)), V.length = 303 → (∀ g, g < 303 → V[g]? = some (.inl (nI (fv g)))) → x_lk L 0 = some (.inr (some b)) → x_lk L 2 = some (.inl (nI w)) → x_lk L 3 = some (.inl (nI (nDn fv 303))) → x_lk L 4 = some (.inl (lDn fv 303)) → ∃ H2, x_To x_tb x_tyl ot (dp + 3) 253 97 L [] (H.set fa (.inr (1, V))) 0 0 v H2) :
    ∀ (d j : Nat) (V : List (XV Int32)) (L : List (Nat × XV Int32)), j + d = 303 → V.length = 303 → (∀ g, 303 - j ≤ g → g < 303 → V[g]? = some (.inl (nI (fv g)))) → x_lk L 0 = some (.inr (some b)) → x_lk L 1 = some (.inl (nI i)) → x_lk L 2 = some (.inl (nI w)) → x_lk L 3 = some (.inl (nI (nDn fv j))) → x_lk L 4 = some (.inl (lDn fv j)) → x_lk L 5 = some (.inl (jIx j)) → ∃ H2, x_To x_tb x_tyl ot (dp + 3) 253 35 L [] (H.set fa (.inr (1, V))) 0 0 v H2 := by
  have hfv : ∀ g, fv g = 0 ∨ fv g = 1 := fun g => by
    rw [← hfe g]
    exact fitV_b n
  have hV9 : ∀ V : List (XV Int32), (H.set fa (.inr (1, V)))[fa]? = some (.inr (1, V)) := fun V => List.getElem?_set_self (List.getElem?_eq_some_iff.mp hf0).1
  intro d
  induction d with
  | zero =>
    intro j V L hj hV2 hV3 l0 l1 l2 l3 l4 l5
    obtain rfl : j = 303 := by omega
    have l5 : x_lk L 5 = some (.inl (-1)) := l5
    obtain ⟨H2, x⟩ := kk V L hV2 (fun g hg => hV3 g (by omega) hg) l0 l2 l3 l4
    refine ⟨H2, ?_⟩
    refine xT_iload g_q253 g253_35 (l5) ?_
    refine xT_ifCondY g_q253 g253_37 (t := 97) (by decide) (by decide +kernel) ?_
    exact x
  | succ d ih =>
    intro j V L hj hV2 hV3 l0 l1 l2 l3 l4 l5
    have l5 : x_lk L 5 = some (.inl (nI (302 - j))) := by
      rw [l5]
      unfold jIx
      rw [if_pos (by omega)]
    have hA1 := isAsk_set (V2 := V) hA hf0
    have hV1 := hV9 V
    have hG1 := hV9 (V.set (302 - j) (.inl (nI (fv (302 - j)))))
    have hG2 : (V.set (302 - j) (.inl (nI (fv (302 - j))))).length = 303 := by rw [List.length_set]; exact hV2
    have hG3 : (V.set (302 - j) (.inl (nI (fv (302 - j)))))[302 - j]? = some (.inl (nI (fv (302 - j)))) := List.getElem?_set_self (by omega)
    have hG4 : ∀ g, 303 - (j + 1) ≤ g → g < 303 → (V.set (302 - j) (.inl (nI (fv (302 - j)))))[g]? = some (.inl (nI (fv g))) := fun g h1 h2 => by
      by_cases e : g = 302 - j
      · subst e
        exact hG3
      · rw [List.getElem?_set_ne (fun z => e z.symm)]
        exact hV3 g (by omega) h2
    obtain ⟨fs, hbA, hb, h25, h67, hfA, -⟩ := isMod_set (V2 := V) hM hf0
    obtain ⟨fs2, -, hb2, -, h67', -, -⟩ := isMod_set (V2 := V.set (302 - j) (.inl (nI (fv (302 - j))))) hM hf0
    have hnd : nDn fv (j + 1) = nDn fv j + fv (302 - j) := rfl
    rcases hfv (302 - j) with hz | h1
    · have hld : lDn fv (j + 1) = lDn fv j := if_neg (by omega)
      obtain ⟨H2, x⟩ := ih (j + 1) _ (x_st (x_st (x_st (L) 3 (.inl (nI (nDn fv (j + 1))))) 4 (.inl (lDn fv j))) 5 (.inl (jIx (j + 1)))) (by omega) hG2 hG4 (lkN (by decide) (lkN (by decide) (lkN (by decide) (l0)))) (lkN (by decide) (lkN (by decide) (lkN (by decide) (l1)))) (lkN (by decide) (lkN (by decide) (lkN (by decide) (l2)))) (lkN (by decide) (lkN (by decide) (lkY))) (by
        rw [hld]
        exact lkN (by decide) (lkY)) (lkY)
      refine ⟨H2, ?_⟩
      refine xT_iload g_q253 g253_35 (l5) ?_
      refine xT_ifCondN g_q253 g253_37 (t := 97) (by decide) (c2N (b := 0) (Nat.zero_le _) (by omega) (by omega)) ?_
      refine xT_aload_n g_q253 g253_40 (l0) ?_
      refine xT_getfield g_q253 g253_41 hbA rfl hb rfl h67 ?_
      refine xT_iload g_q253 g253_44 (l5) ?_
      refine xT_aload_n g_q253 g253_46 (l0) ?_
      refine xT_iload_n g_q253 g253_47 (l1) ?_
      refine xT_iload g_q253 g253_48 (l5) ?_
      refine xT_invokevirtual (r := [.inl (nI (302 - j)), .inr (some (fa))]) (u := some (.inl (nI (fv (302 - j))))) g_q253 g253_50 (j := 254) (so := 0) (by decide +kernel) g_q254 rfl (by rw [x_rcM hbA hb]; rfl) ((by rw [← hfe (302 - j)]; exact t254 hA1 hi6 hn hpv hrl hy (by omega))) ?_
      refine xT_bas3 g_q253 g253_53 (hfv _) hV1 hV2 (by omega) ?_
      rw [set_set]
      refine xT_iload_n g_q253 g253_54 (l3) ?_
      refine xT_aload_n g_q253 g253_55 (l0) ?_
      refine xT_getfield g_q253 g253_56 hbA rfl hb2 rfl h67' ?_
      refine xT_iload g_q253 g253_59 (l5) ?_
      refine xT_baload g_q253 g253_61 hfA hG1 (ixN (n := 303) (by omega) hG2) (ixG (by omega) hG3) ?_
      refine xT_ifCondY g_q253 g253_62 (t := 69) (by decide) (c0Y (b := 0) hz) ?_
      refine xT_icV (y := nI (0)) g_q253 g253_69 (by decide) ?_
      refine xT_iaddV (y := nI (nDn fv (j + 1))) g_q253 g253_70 ((bAddN _ _).trans (congrArg nI (by rw [hnd]; omega))) ?_
      refine xT_istore_n g_q253 g253_71 (by decide) ?_
      refine xT_aload_n g_q253 g253_72 (lkN (by decide) (l0)) ?_
      refine xT_getfield g_q253 g253_73 hbA rfl hb2 rfl h67' ?_
      refine xT_iload g_q253 g253_76 (lkN (by decide) (l5)) ?_
      refine xT_baload g_q253 g253_78 hfA hG1 (ixN (n := 303) (by omega) hG2) (ixG (by omega) hG3) ?_
      refine xT_ifCondY g_q253 g253_79 (t := 87) (by decide) (c0Y (b := 0) hz) ?_
      refine xT_iload g_q253 g253_87 (lkN (by decide) (l4)) ?_
      refine xT_istore g_q253 g253_89 (by decide) ?_
      refine xT_iincV (y := jIx (j + 1)) g_q253 g253_91 (lkN (by decide) (lkN (by decide) (l5))) (by decide) (jIx_dec (by omega)) ?_
      refine xT_goto g_q253 g253_94 (t := 35) (by decide) ?_
      exact x
    · have hld : lDn fv (j + 1) = nI (302 - j) := if_pos h1
      obtain ⟨H2, x⟩ := ih (j + 1) _ (x_st (x_st (x_st (L) 3 (.inl (nI (nDn fv (j + 1))))) 4 (.inl (nI (302 - j)))) 5 (.inl (jIx (j + 1)))) (by omega) hG2 hG4 (lkN (by decide) (lkN (by decide) (lkN (by decide) (l0)))) (lkN (by decide) (lkN (by decide) (lkN (by decide) (l1)))) (lkN (by decide) (lkN (by decide) (lkN (by decide) (l2)))) (lkN (by decide) (lkN (by decide) (lkY))) (by
        rw [hld]
        exact lkN (by decide) (lkY)) (lkY)
      refine ⟨H2, ?_⟩
      refine xT_iload g_q253 g253_35 (l5) ?_
      refine xT_ifCondN g_q253 g253_37 (t := 97) (by decide) (c2N (b := 0) (Nat.zero_le _) (by omega) (by omega)) ?_
      refine xT_aload_n g_q253 g253_40 (l0) ?_
      refine xT_getfield g_q253 g253_41 hbA rfl hb rfl h67 ?_
      refine xT_iload g_q253 g253_44 (l5) ?_
      refine xT_aload_n g_q253 g253_46 (l0) ?_
      refine xT_iload_n g_q253 g253_47 (l1) ?_
      refine xT_iload g_q253 g253_48 (l5) ?_
      refine xT_invokevirtual (r := [.inl (nI (302 - j)), .inr (some (fa))]) (u := some (.inl (nI (fv (302 - j))))) g_q253 g253_50 (j := 254) (so := 0) (by decide +kernel) g_q254 rfl (by rw [x_rcM hbA hb]; rfl) ((by rw [← hfe (302 - j)]; exact t254 hA1 hi6 hn hpv hrl hy (by omega))) ?_
      refine xT_bas3 g_q253 g253_53 (hfv _) hV1 hV2 (by omega) ?_
      rw [set_set]
      refine xT_iload_n g_q253 g253_54 (l3) ?_
      refine xT_aload_n g_q253 g253_55 (l0) ?_
      refine xT_getfield g_q253 g253_56 hbA rfl hb2 rfl h67' ?_
      refine xT_iload g_q253 g253_59 (l5) ?_
      refine xT_baload g_q253 g253_61 hfA hG1 (ixN (n := 303) (by omega) hG2) (ixG (by omega) hG3) ?_
      refine xT_ifCondN g_q253 g253_62 (t := 69) (by decide) (c0N (b := 0) (by omega) (by omega) (by omega)) ?_
      refine xT_icV (y := nI (1)) g_q253 g253_65 (by decide) ?_
      refine xT_goto g_q253 g253_66 (t := 70) (by decide) ?_
      refine xT_iaddV (y := nI (nDn fv (j + 1))) g_q253 g253_70 ((bAddN _ _).trans (congrArg nI (by rw [hnd]; omega))) ?_
      refine xT_istore_n g_q253 g253_71 (by decide) ?_
      refine xT_aload_n g_q253 g253_72 (lkN (by decide) (l0)) ?_
      refine xT_getfield g_q253 g253_73 hbA rfl hb2 rfl h67' ?_
      refine xT_iload g_q253 g253_76 (lkN (by decide) (l5)) ?_
      refine xT_baload g_q253 g253_78 hfA hG1 (ixN (n := 303) (by omega) hG2) (ixG (by omega) hG3) ?_
      refine xT_ifCondN g_q253 g253_79 (t := 87) (by decide) (c0N (b := 0) (by omega) (by omega) (by omega)) ?_
      refine xT_iload g_q253 g253_82 (lkN (by decide) (l5)) ?_
      refine xT_goto g_q253 g253_84 (t := 89) (by decide) ?_
      refine xT_istore g_q253 g253_89 (by decide) ?_
      refine xT_iincV (y := jIx (j + 1)) g_q253 g253_91 (lkN (by decide) (lkN (by decide) (l5))) (by decide) (jIx_dec (by omega)) ?_
      refine xT_goto g_q253 g253_94 (t := 35) (by decide) ?_
      exact x
end XH256
