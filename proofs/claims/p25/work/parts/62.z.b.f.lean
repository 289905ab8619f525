/-! p25 by hand, 4. -/
noncomputable section XH254
variable {ot : XO Int32} {dp : Nat} {H : List (XC Int32)} {c pv rl n lo hi hi_ R : Nat} {a cnt ca : Nat} {vs : List (XV Int32)} {b i : Nat} {y : Nat → Nat}
theorem t181Y {v l u : Int32} (h1 : ¬ v < l) (h2 : ¬ u < v) : x_To x_tb x_tyl ot dp 181 0 (x_en 0 [.inl v, .inl l, .inl u]) [] H 0 0 (some (.inl (nI 1))) H := by
  refine xT_iload_n g_q181 g181_0 (rfl) ?_
  refine xT_iload_n g_q181 g181_1 (rfl) ?_
  refine xT_if_icmpN g_q181 g181_2 (t := 14) (by decide) (decide_eq_false h1) ?_
  refine xT_iload_n g_q181 g181_5 (rfl) ?_
  refine xT_iload_n g_q181 g181_6 (rfl) ?_
  refine xT_if_icmpN g_q181 g181_7 (t := 14) (by decide) (decide_eq_false h2) ?_
  refine xT_icV (y := nI (1)) g_q181 g181_10 (by decide) ?_
  refine xT_goto g_q181 g181_11 (t := 15) (by decide) ?_
  exact xT_ireturn g_q181 g181_15 (by decide +kernel)
theorem t181N {v l u : Int32} (h : v < l ∨ u < v) : x_To x_tb x_tyl ot dp 181 0 (x_en 0 [.inl v, .inl l, .inl u]) [] H 0 0 (some (.inl (nI 0))) H := by
  by_cases h1 : v < l
  · skip
    refine xT_iload_n g_q181 g181_0 (rfl) ?_
    refine xT_iload_n g_q181 g181_1 (rfl) ?_
    refine xT_if_icmpY g_q181 g181_2 (t := 14) (by decide) (decide_eq_true h1) ?_
    refine xT_icV (y := nI (0)) g_q181 g181_14 (by decide) ?_
    exact xT_ireturn g_q181 g181_15 (by decide +kernel)
  · have h2 : u < v := h.resolve_left h1
    refine xT_iload_n g_q181 g181_0 (rfl) ?_
    refine xT_iload_n g_q181 g181_1 (rfl) ?_
    refine xT_if_icmpN g_q181 g181_2 (t := 14) (by decide) (decide_eq_false h1) ?_
    refine xT_iload_n g_q181 g181_5 (rfl) ?_
    refine xT_iload_n g_q181 g181_6 (rfl) ?_
    refine xT_if_icmpY g_q181 g181_7 (t := 14) (by decide) (decide_eq_true h2) ?_
    refine xT_icV (y := nI (0)) g_q181 g181_14 (by decide) ?_
    exact xT_ireturn g_q181 g181_15 (by decide +kernel)
/-- what the reference keeps of chip i -/
def isAsk (H : List (XC Int32)) (b i pv rl n : Nat) (y : Nat → Nat) : Prop := ∃ (fs vp vr vs vy w : List (XV Int32)) (cp cr sa ya row : Nat), ¬ 1000000 < b ∧ H[b]? = some (.inl (12, fs)) ∧ fs[26]? = some (.inr (some cp)) ∧ fs[27]? = some (.inr (some cr)) ∧ fs[28]? = some (.inr (some sa)) ∧ fs[29]? = some (.inr (some ya)) ∧ (cp < 1000000 ∧ cr < 1000000 ∧ sa < 1000000 ∧ row < 1000000) ∧ (H[cp]? = some (.inr (0, vp)) ∧ vp.length = 6 ∧ vp[i]? = some (.inl (nI pv))) ∧ (H[cr]? = some (.inr (0, vr)) ∧ vr.length = 6 ∧ vr[i]? = some (.inl (nI rl))) ∧ (H[sa]? = some (.inr (0, vs)) ∧ vs.length = 6 ∧ vs[i]? = some (.inl (nI n))) ∧ (H[ya]? = some (.inr (5, vy)) ∧ vy.length = 6 ∧ vy[i]? = some (.inr (some row))) ∧ H[row]? = some (.inr (0, w)) ∧ w.length = 30 ∧ ∀ k, k < n → w[k]? = some (.inl (nI (y k)))
def fitV (pv rl : Nat) (y : Nat → Nat) (g : Nat) : Nat → Nat
  | 0 => 1
  | n + 1 => if ansN (g / 3) (g % 3) (y n) = ansN pv rl (y n) then fitV pv rl y g n else 0
theorem fitV_1 {pv rl g : Nat} {y : Nat → Nat} : ∀ n, (∀ k, k < n → ansN (g / 3) (g % 3) (y k) = ansN pv rl (y k)) → fitV pv rl y g n = 1
  | 0, _ => rfl
  | n + 1, h => by
    show (if ansN (g / 3) (g % 3) (y n) = ansN pv rl (y n) then fitV pv rl y g n else 0) = 1
    rw [if_pos (h n (Nat.lt_succ_self n))]
    exact fitV_1 n (fun k hk => h k (Nat.lt_succ_of_lt hk))
theorem fitV_0 {pv rl g : Nat} {y : Nat → Nat} : ∀ n k, k < n → ¬ ansN (g / 3) (g % 3) (y k) = ansN pv rl (y k) → fitV pv rl y g n = 0
  | 0, k, hk, _ => absurd hk (Nat.not_lt_zero k)
  | n + 1, k, hk, h => by
    show (if ansN (g / 3) (g % 3) (y n) = ansN pv rl (y n) then fitV pv rl y g n else 0) = 0
    by_cases e : k = n
    · subst e
      rw [if_neg h]
    · split
      · exact fitV_0 n k (by omega) h
      · rfl
theorem fitV_b {pv rl g : Nat} {y : Nat → Nat} : ∀ n, fitV pv rl y g n = 0 ∨ fitV pv rl y g n = 1
  | 0 => Or.inr rfl
  | n + 1 => by
    show (if ansN (g / 3) (g % 3) (y n) = ansN pv rl (y n) then fitV pv rl y g n else 0) = 0 ∨ (if ansN (g / 3) (g % 3) (y n) = ansN pv rl (y n) then fitV pv rl y g n else 0) = 1
    split
    · exact fitV_b n
    · exact Or.inl rfl
theorem ansN_lt {g r y : Nat} : 3800 ≤ ansN g r y ∧ ansN g r y < 4200 := by
  have h := meanN_lt (p := g) (Nat.mod_lt y (show 0 < 100 by decide))
  have h2 := leapN_le (meanN (y % 100) g) r
  unfold ansN
  omega
theorem t254_l (hA : isAsk H b i pv rl n y) (hi : i < 6) (hn : n ≤ 30) (hpv : pv < 2 ^ 31) (hrl : rl < 3) (hy : ∀ k, k < n → y k < 2 ^ 31) {g : Nat} (hg : g < 303) : ∀ (d k : Nat) (L : List (Nat × XV Int32)), k + d = n → (∀ j, j < k → ansN (g / 3) (g % 3) (y j) = ansN pv rl (y j)) → x_lk L 0 = some (.inr (some b)) → x_lk L 1 = some (.inl (nI i)) → x_lk L 2 = some (.inl (nI g)) → x_lk L 3 = some (.inl (nI k)) → x_To x_tb x_tyl ot (dp + 2) 254 2 L [] H 0 0 (some (.inl (nI (fitV pv rl y g n)))) H := by
  obtain ⟨fs, vp, vr, vs, vy, w, cp, cr, sa, ya, row, hbA, hb, h26, h27, h28, h29, hrf, ⟨hp1, hp2, hp3⟩, ⟨hr1, hr2, hr3⟩, ⟨hs1, hs2, hs3⟩, ⟨hy1, hy2, hy3⟩, hw1, hw2, hw3⟩ := id hA
  intro d
  induction d with
  | zero =>
    intro k L hk hall l0 l1 l2 l3
    obtain rfl : n = k := by omega
    rw [fitV_1 _ hall]
    refine xT_iload_n g_q254 g254_2 (l3) ?_
    refine xT_aload_n g_q254 g254_3 (l0) ?_
    refine xT_getfield g_q254 g254_4 hbA rfl hb rfl h28 ?_
    refine xT_iload_n g_q254 g254_7 (l1) ?_
    refine xT_iaload g_q254 g254_8 (by omega) hs1 (ixN (n := 6) (by omega) hs2) (ixG (by omega) hs3) ?_
    refine xT_if_icmpY g_q254 g254_9 (t := 61) (by decide) (c3Y (a := n) (b := n) (by omega) (by omega) (by omega)) ?_
    refine xT_icV (y := nI (1)) g_q254 g254_61 (by decide) ?_
    exact xT_ireturn g_q254 g254_62 (by decide +kernel)
  | succ d ih =>
    intro k L hk hall l0 l1 l2 l3
    have hyk := hy k (by omega)
    by_cases he : ansN (g / 3) (g % 3) (y k) = ansN pv rl (y k)
    · skip
      refine xT_iload_n g_q254 g254_2 (l3) ?_
      refine xT_aload_n g_q254 g254_3 (l0) ?_
      refine xT_getfield g_q254 g254_4 hbA rfl hb rfl h28 ?_
      refine xT_iload_n g_q254 g254_7 (l1) ?_
      refine xT_iaload g_q254 g254_8 (by omega) hs1 (ixN (n := 6) (by omega) hs2) (ixG (by omega) hs3) ?_
      refine xT_if_icmpN g_q254 g254_9 (t := 61) (by decide) (c3N (a := k) (b := n) (by omega) (by omega) (by omega)) ?_
      refine xT_aload_n g_q254 g254_12 (l0) ?_
      refine xT_getfield g_q254 g254_13 hbA rfl hb rfl h29 ?_
      refine xT_iload_n g_q254 g254_16 (l1) ?_
      refine xT_aaload g_q254 g254_17 (by decide +kernel) hy1 (ixN (n := 6) (by omega) hy2) (ixG (by omega) hy3) ?_
      refine xT_iload_n g_q254 g254_18 (l3) ?_
      refine xT_iaload g_q254 g254_19 (by omega) hw1 (ixN (n := 30) (by omega) hw2) (ixG (by omega) (hw3 _ (by omega))) ?_
      refine xT_istore g_q254 g254_20 (by decide) ?_
      refine xT_iload_n g_q254 g254_22 (lkN (by decide) (l2)) ?_
      refine xT_icV (y := nI (3)) g_q254 g254_23 (by decide) ?_
      refine xT_idivV (y := nI (g / 3)) g_q254 g254_24 (by decide) (bDivN (by omega) (by omega) (by omega)) ?_
      refine xT_iload_n g_q254 g254_25 (lkN (by decide) (l2)) ?_
      refine xT_icV (y := nI (3)) g_q254 g254_26 (by decide) ?_
      refine xT_iremV (y := nI (g % 3)) g_q254 g254_27 (by decide) (bRemN (by omega) (by omega) (by omega)) ?_
      refine xT_iload g_q254 g254_28 (lkY) ?_
      refine xT_invokestatic (r := []) (u := some (.inl (nI (ansN (g / 3) (g % 3) (y k))))) g_q254 g254_30 (j := 252) (so := 2) (by decide +kernel) g_q252 (rfl) (t252 (by omega) (by omega) hyk) ?_
      refine xT_aload_n g_q254 g254_33 (lkN (by decide) (l0)) ?_
      refine xT_getfield g_q254 g254_34 hbA rfl hb rfl h26 ?_
      refine xT_iload_n g_q254 g254_37 (lkN (by decide) (l1)) ?_
      refine xT_iaload g_q254 g254_38 (by omega) hp1 (ixN (n := 6) (by omega) hp2) (ixG (by omega) hp3) ?_
      refine xT_aload_n g_q254 g254_39 (lkN (by decide) (l0)) ?_
      refine xT_getfield g_q254 g254_40 hbA rfl hb rfl h27 ?_
      refine xT_iload_n g_q254 g254_43 (lkN (by decide) (l1)) ?_
      refine xT_iaload g_q254 g254_44 (by omega) hr1 (ixN (n := 6) (by omega) hr2) (ixG (by omega) hr3) ?_
      refine xT_iload g_q254 g254_45 (lkY) ?_
      refine xT_invokestatic (r := []) (u := some (.inl (nI (ansN pv rl (y k))))) g_q254 g254_47 (j := 252) (so := 2) (by decide +kernel) g_q252 (rfl) (t252 hpv hrl hyk) ?_
      refine xT_if_icmpY g_q254 g254_50 (t := 55) (by decide) (c0Y he) ?_
      refine xT_iincV (y := nI (k + 1)) g_q254 g254_55 (lkN (by decide) (l3)) (by decide) (bIncN _) ?_
      refine xT_goto g_q254 g254_58 (t := 2) (by decide) ?_
      exact ih (k + 1) _ (by omega) (fun j hj => by
        by_cases e : j = k
        · subst e
          exact he
        · exact hall j (by omega)) (lkN (by decide) (lkN (by decide) (l0))) (lkN (by decide) (lkN (by decide) (l1))) (lkN (by decide) (lkN (by decide) (l2))) (lkY)
    · rw [fitV_0 n k (by omega) he]
      refine xT_iload_n g_q254 g254_2 (l3) ?_
      refine xT_aload_n g_q254 g254_3 (l0) ?_
      refine xT_getfield g_q254 g254_4 hbA rfl hb rfl h28 ?_
      refine xT_iload_n g_q254 g254_7 (l1) ?_
      refine xT_iaload g_q254 g254_8 (by omega) hs1 (ixN (n := 6) (by omega) hs2) (ixG (by omega) hs3) ?_
      refine xT_if_icmpN g_q254 g254_9 (t := 61) (by decide) (c3N (a := k) (b := n) (by omega) (by omega) (by omega)) ?_
      refine xT_aload_n g_q254 g254_12 (l0) ?_
      refine xT_getfield g_q254 g254_13 hbA rfl hb rfl h29 ?_
      refine xT_iload_n g_q254 g254_16 (l1) ?_
      refine xT_aaload g_q254 g254_17 (by decide +kernel) hy1 (ixN (n := 6) (by omega) hy2) (ixG (by omega) hy3) ?_
      refine xT_iload_n g_q254 g254_18 (l3) ?_
      refine xT_iaload g_q254 g254_19 (by omega) hw1 (ixN (n := 30) (by omega) hw2) (ixG (by omega) (hw3 _ (by omega))) ?_
      refine xT_istore g_q254 g254_20 (by decide) ?_
      refine xT_iload_n g_q254 g254_22 (lkN (by decide) (l2)) ?_
      refine xT_icV (y := nI (3)) g_q254 g254_23 (by decide) ?_
      refine xT_idivV (y := nI (g / 3)) g_q254 g254_24 (by decide) (bDivN (by omega) (by omega) (by omega)) ?_
      refine xT_iload_n g_q254 g254_25 (lkN (by decide) (l2)) ?_
      refine xT_icV (y := nI (3)) g_q254 g254_26 (by decide) ?_
      refine xT_iremV (y := nI (g % 3)) g_q254 g254_27 (by decide) (bRemN (by omega) (by omega) (by omega)) ?_
      refine xT_iload g_q254 g254_28 (lkY) ?_
      refine xT_invokestatic (r := []) (u := some (.inl (nI (ansN (g / 3) (g % 3) (y k))))) g_q254 g254_30 (j := 252) (so := 2) (by decide +kernel) g_q252 (rfl) (t252 (by omega) (by omega) hyk) ?_
      refine xT_aload_n g_q254 g254_33 (lkN (by decide) (l0)) ?_
      refine xT_getfield g_q254 g254_34 hbA rfl hb rfl h26 ?_
      refine xT_iload_n g_q254 g254_37 (lkN (by decide) (l1)) ?_
      refine xT_iaload g_q254 g254_38 (by omega) hp1 (ixN (n := 6) (by omega) hp2) (ixG (by omega) hp3) ?_
      refine xT_aload_n g_q254 g254_39 (lkN (by decide) (l0)) ?_
      refine xT_getfield g_q254 g254_40 hbA rfl hb rfl h27 ?_
      refine xT_iload_n g_q254 g254_43 (lkN (by decide) (l1)) ?_
      refine xT_iaload g_q254 g254_44 (by omega) hr1 (ixN (n := 6) (by omega) hr2) (ixG (by omega) hr3) ?_
      refine xT_iload g_q254 g254_45 (lkY) ?_
      refine xT_invokestatic (r := []) (u := some (.inl (nI (ansN pv rl (y k))))) g_q254 g254_47 (j := 252) (so := 2) (by decide +kernel) g_q252 (rfl) (t252 hpv hrl hyk) ?_
      refine xT_if_icmpN g_q254 g254_50 (t := 55) (by decide) (c0N he (by have := ansN_lt (g := g / 3) (r := g % 3) (y := y k); omega) (by have := ansN_lt (g := pv) (r := rl) (y := y k); omega)) ?_
      refine xT_icV (y := nI (0)) g_q254 g254_53 (by decide) ?_
      exact xT_ireturn g_q254 g254_54 (by decide +kernel)
theorem t254 (hA : isAsk H b i pv rl n y) (hi : i < 6) (hn : n ≤ 30) (hpv : pv < 2 ^ 31) (hrl : rl < 3) (hy : ∀ k, k < n → y k < 2 ^ 31) {g : Nat} (hg : g < 303) : x_To x_tb x_tyl ot (dp + 2) 254 0 (x_en 0 [.inr (some (b)), .inl (nI (i)), .inl (nI (g))]) [] H 0 0 (some (.inl (nI (fitV pv rl y g n)))) H := by
  refine xT_icV (y := nI (0)) g_q254 g254_0 (by decide) ?_
  refine xT_istore_n g_q254 g254_1 (by decide) ?_
  exact t254_l hA hi hn hpv hrl hy hg n 0 _ (by omega) (fun j hj => absurd hj (Nat.not_lt_zero j)) (lkN (by decide) (rfl)) (lkN (by decide) (rfl)) (lkN (by decide) (rfl)) (lkY)
end XH254
