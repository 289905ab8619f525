/-! chip, and the start. -/
noncomputable section XP25b
variable {H H2 : List (XC Int32)}
def newD (pv rl : Nat) : Nat → Nat
  | 0 => pv
  | 1 => rl
  | 4 => 100
  | 5 => 7
  | _ => 0
def upR (r : Nat → Nat) (m l : Nat) : Nat → Nat := fun j => if j = m then l else r j
theorem pA_chip {a m : Nat} {r : Nat → Nat} {d : Nat → Nat → Nat} (h : pA H a m r d) (hm : m < 6) {pv rl : Nat} (hl : H.length + 1 ≤ 1000000) (hpv : pv ≤ 100) (hrl : rl < 3) : ∃ ca vs fs, H[ca]? = some (.inr (3, vs)) ∧ H[a]? = some (.inl (0, fs)) ∧ (∀ dp (ot : XO Int32), ∃ v : Int32, x_To x_tb x_tyl ot (dp + 2) 117 0 (x_en 0 [.inr (some a), .inl (nI pv), .inl (nI rl)]) [] H 0 0 (some (.inl v)) (((H ++ [(.inl (11, chL pv rl 0 0 100 7) : XC Int32)]).set ca (.inr (3, vs.set m (.inr (some H.length))))).set a (.inl (0, fs.set 12 (.inl (nI (m + 1))))))) ∧ pA (((H ++ [(.inl (11, chL pv rl 0 0 100 7) : XC Int32)]).set ca (.inr (3, vs.set m (.inr (some H.length))))).set a (.inl (0, fs.set 12 (.inl (nI (m + 1)))))) a (m + 1) (upR r m H.length) (upC d m (newD pv rl)) := by
  obtain ⟨ca, vs, ⟨fs, a1, a2, a3, a4, a5, a6, a7⟩, hc, hr⟩ := h
  have g1 : ((H ++ [(.inl (11, chL pv rl 0 0 100 7) : XC Int32)]).set ca (.inr (3, vs.set m (.inr (some H.length)))))[a]? = some (.inl (0, fs)) := gtag (get_old a5) (get_old a2) (fun e => by cases e)
  refine ⟨ca, vs, fs, a5, a2, fun dp ot => t117 a1 a2 a3 a4 a5 a6 hm hpv hrl hl, ca, _, ⟨_, a1, gself g1, List.getElem?_set_self (List.getElem?_eq_some_iff.mp a3).1, by rw [List.getElem?_set_ne (by decide)]; exact a4, gtag g1 (gself (get_old a5)) (fun e => by cases e), by rw [List.length_set]; exact a6, by omega⟩, fun i hi => ?_, fun i j hi hj e => ?_⟩
  · by_cases e : i = m
    · subst e
      rw [show upR r i H.length i = H.length from if_pos rfl, show upC d i (newD pv rl) i = newD pv rl from if_pos rfl]
      refine ⟨List.getElem?_set_self (by omega), by omega, ?_⟩
      exact gtag g1 (gtag (get_old a5) (get_last H _) (fun e => by cases e)) (fun e => by cases e)
    · obtain ⟨h1, h2, h3⟩ := hc i (by omega)
      rw [show upR r m H.length i = r i from if_neg e, show upC d m (newD pv rl) i = d i from if_neg e]
      exact ⟨by rw [List.getElem?_set_ne (fun z => e z.symm)]; exact h1, h2, gtag g1 (gtag (get_old a5) (get_old h3) (fun e => by cases e)) (fun e => by cases e)⟩
  · have ne : ∀ k, k ≠ m → upR r m H.length k = r k := fun k hk => if_neg hk
    have eq : upR r m H.length m = H.length := if_pos rfl
    have lt : ∀ k, k < m → r k < H.length := fun k hk => (List.getElem?_eq_some_iff.mp (hc k hk).2.2).1
    by_cases ei : i = m <;> by_cases ej : j = m
    · omega
    · rw [ei, eq, ne j ej] at e
      have := lt j (by omega)
      omega
    · rw [ej, eq, ne i ei] at e
      have := lt i (by omega)
      omega
    · rw [ne i ei, ne j ej] at e
      exact hr i j (by omega) (by omega) e
theorem pB_chip {b m : Nat} {d : Nat → Nat → Nat} {y : Nat → Nat → Nat} (h : pB H b m d y) (hm : m < 6) {pv rl : Nat} (hpv : pv ≤ 100) (hrl : rl < 3) : ∃ cp vp cr vr gs, H[cp]? = some (.inr (0, vp)) ∧ H[cr]? = some (.inr (0, vr)) ∧ H[b]? = some (.inl (12, gs)) ∧ cp ≠ cr ∧ (∀ dp (ot : XO Int32), ∃ v : Int32, x_To x_tb x_tyl ot (dp + 2) 250 0 (x_en 0 [.inr (some b), .inl (nI pv), .inl (nI rl)]) [] H 0 0 (some (.inl v)) (((H.set cp (.inr (0, vp.set m (.inl (nI pv))))).set cr (.inr (0, vr.set m (.inl (nI rl))))).set b (.inl (12, gs.set 25 (.inl (nI (m + 1))))))) ∧ pB (((H.set cp (.inr (0, vp.set m (.inl (nI pv))))).set cr (.inr (0, vr.set m (.inl (nI rl))))).set b (.inl (12, gs.set 25 (.inl (nI (m + 1)))))) b (m + 1) (upC d m (newD pv rl)) y := by
  obtain ⟨gs, vp, vr, va, vy, cp, cr, sa, ya, row, ⟨b1, b2, b3, b4, b5, b6, b7⟩, bn, ⟨p1, p2⟩, ⟨r1, r2⟩, ⟨s1, s2⟩, ⟨y1, y2⟩, e1, e2, e3, e4⟩ := h
  have g1 : (H.set cp (.inr (0, vp.set m (.inl (nI pv)))))[cr]? = some (.inr (0, vr)) := gne r1 bn.2.2.2.1
  have g2 : ((H.set cp (.inr (0, vp.set m (.inl (nI pv))))).set cr (.inr (0, vr.set m (.inl (nI rl)))))[b]? = some (.inl (12, gs)) := gtag g1 (gtag p1 b2 (fun e => by cases e)) (fun e => by cases e)
  have ne3 : ∀ {x : Nat} {t : Nat} {w : List (XV Int32)}, cp ≠ x → cr ≠ x → H[x]? = some (.inr (t, w)) → (((H.set cp (.inr (0, vp.set m (.inl (nI pv))))).set cr (.inr (0, vr.set m (.inl (nI rl))))).set b (.inl (12, gs.set 25 (.inl (nI (m + 1))))))[x]? = some (.inr (t, w)) := fun n1 n2 hx => gtag g2 (gne (gne hx n1) n2) (fun e => by cases e)
  refine ⟨cp, vp, cr, vr, gs, p1, r1, b2, bn.2.2.2.1, fun dp ot => t250 b1 b2 b3 b4 b5 bn.2.2.2.1 p1 p2 r1 r2 hm hpv hrl, _, _, _, va, vy, cp, cr, sa, ya, row, ⟨b1, gself g2, List.getElem?_set_self (List.getElem?_eq_some_iff.mp b3).1, by rw [List.getElem?_set_ne (by decide)]; exact b4, by rw [List.getElem?_set_ne (by decide)]; exact b5, by rw [List.getElem?_set_ne (by decide)]; exact b6, by rw [List.getElem?_set_ne (by decide)]; exact b7⟩, bn, ⟨gtag g2 (gne (gself p1) (fun z => bn.2.2.2.1 z.symm)) (fun e => by cases e), by rw [List.length_set]; exact p2⟩, ⟨gtag g2 (gself g1) (fun e => by cases e), by rw [List.length_set]; exact r2⟩, ⟨ne3 (fun z => bn.2.2.2.2.1 z.symm) (fun z => bn.2.2.2.2.2 z.symm) s1, s2⟩, ⟨?_, y2⟩, fun i hi => ?_, fun i hi h6 => e2 i (by omega) h6, fun i hi => ?_, e4⟩
  · refine gtag g2 (gtag g1 (gtag p1 y1 (fun e => by cases e)) (fun e => by cases e)) (fun e => by cases e)
  · by_cases e : i = m
    · subst e
      rw [show upC d i (newD pv rl) i = (newD pv rl) from if_pos rfl]
      exact ⟨List.getElem?_set_self (by omega), List.getElem?_set_self (by omega), e2 i (Nat.le_refl _) hm⟩
    · obtain ⟨x1, x2, x3⟩ := e1 i (by omega)
      rw [show upC d m (newD pv rl) i = d i from if_neg e]
      exact ⟨by rw [List.getElem?_set_ne (fun z => e z.symm)]; exact x1, by rw [List.getElem?_set_ne (fun z => e z.symm)]; exact x2, x3⟩
  · obtain ⟨x1, x2, x3, w, w1, w2, w3⟩ := e3 i hi
    refine ⟨x1, x2, x3, w, ne3 (fun z => x3.2.1 z.symm) (fun z => x3.2.2 z.symm) w1, w2, fun k hk hk2 => ?_⟩
    by_cases e : i = m
    · subst e
      rw [show upC d i (newD pv rl) i = (newD pv rl) from if_pos rfl] at hk2
      exact absurd hk2 (Nat.not_lt_zero k)
    · rw [show upC d m (newD pv rl) i = d i from if_neg e] at hk2
      exact w3 k (by omega) hk2
theorem chD_new {pv rl : Nat} (hpv : pv ≤ 100) (hrl : rl < 3) (y : Nat → Nat) : chD (newD pv rl) y := ⟨hrl, Nat.zero_le _, hpv, Nat.le_refl _, Nat.zero_le _, fun k hk => absurd hk (Nat.not_lt_zero k), fun k hk => absurd hk (Nat.not_lt_zero k), Or.inl ⟨rfl, fun k hk => absurd hk (Nat.not_lt_zero k)⟩, Or.inl rfl, Or.inl rfl⟩
/-! the blocks: what both calls leave -/
theorem b_i32 {x : Int32} {m : Nat} (h6 : m ≤ 6) : (x < 0 ∨ nI m ≤ x) ∨ ∃ i, i < m ∧ x = nI i := by
  by_cases h : x < 0
  · exact Or.inl (Or.inl h)
  by_cases h2 : nI m ≤ x
  · exact Or.inl (Or.inr h2)
  · obtain ⟨j, hj, rfl⟩ := nI_of h
    refine Or.inr ⟨j, ?_, rfl⟩
    rcases Nat.lt_or_ge j m with c | c
    · exact c
    · exact absurd ((nI_leI (by omega) hj).mpr c) h2
theorem b_in {x : Int32} {m : Nat} (h6 : m ≤ 6) (h : x < 0 ∨ nI m ≤ x) : x < nI 0 ∨ x_bin 1 (nI m) (nI 1) < x := by
  rcases h with h | h
  · exact Or.inl h
  · refine Or.inr ?_
    have e : x_bin 1 (nI m) (nI 1) = nI m - 1 := rfl
    rw [e]
    refine Int32.lt_iff_toInt_lt.mpr ?_
    have h := Int32.le_iff_toInt_le.mp h
    rw [nI_toInt (by omega)] at h
    rcases (show m = 0 ∨ m = 1 ∨ m = 2 ∨ m = 3 ∨ m = 4 ∨ m = 5 ∨ m = 6 by omega) with rfl | rfl | rfl | rfl | rfl | rfl | rfl <;> (refine Int.lt_of_lt_of_le (?_ : _ < _) h; decide)
theorem b_yr {w : Int32} : (w < nI 1900 ∨ nI 2099 < w) ∨ ∃ Y, 1900 ≤ Y ∧ Y ≤ 2099 ∧ w = nI Y := by
  by_cases h : w < nI 1900
  · exact Or.inl (Or.inl h)
  by_cases h2 : nI 2099 < w
  · exact Or.inl (Or.inr h2)
  · have h0 : ¬ w < 0 := fun z => h (Int32.lt_trans z (by decide))
    obtain ⟨j, hj, rfl⟩ := nI_of h0
    refine Or.inr ⟨j, ?_, ?_, rfl⟩
    · rcases Nat.lt_or_ge j 1900 with c | c
      · exact absurd ((nI_ltI hj (by omega)).mpr c) h
      · exact c
    · rcases Nat.lt_or_ge 2099 j with c | c
      · exact absurd ((nI_ltI (by omega) hj).mpr c) h2
      · exact c
theorem b_pr {x w : Int32} : badPR x w ∨ ∃ pv rl, pv ≤ 100 ∧ rl < 3 ∧ x = nI pv ∧ w = nI rl := by
  by_cases h : badPR x w
  · exact Or.inl h
  · have h1 : ¬ (x < nI 0 ∨ nI 100 < x) := fun z => h (Or.inl z)
    have h2 : ¬ (w < nI 0 ∨ nI 2 < w) := fun z => h (Or.inr z)
    obtain ⟨i, hi, rfl⟩ := nI_of (x := x) (fun z => h1 (Or.inl z))
    obtain ⟨j, hj, rfl⟩ := nI_of (x := w) (fun z => h2 (Or.inl z))
    refine Or.inr ⟨i, j, ?_, ?_, rfl, rfl⟩
    · rcases Nat.lt_or_ge 100 i with c | c
      · exact absurd (Or.inr ((nI_ltI (by omega) hi).mpr c)) h1
      · exact c
    · rcases Nat.lt_or_ge 2 j with c | c
      · exact absurd (Or.inr ((nI_ltI (by omega) hj).mpr c)) h2
      · omega
theorem pB_m0 {b m : Nat} {d : Nat → Nat → Nat} {y : Nat → Nat → Nat} (h : pB H b m d y) : isM0 H b m := by
  obtain ⟨gs, vp, vr, va, vy, cp, cr, sa, ya, row, ⟨b1, b2, b3, -⟩, -⟩ := h
  exact ⟨gs, b1, b2, b3⟩
theorem pA_6 {a m : Nat} {r : Nat → Nat} {d : Nat → Nat → Nat} (h : pA H a m r d) : m ≤ 6 := by
  obtain ⟨ca, vs, ⟨fs, -, -, -, -, -, -, h6⟩, -⟩ := h
  exact h6
theorem pB_ak {b m : Nat} {d : Nat → Nat → Nat} {y : Nat → Nat → Nat} (h : pB H b m d y) {i : Nat} (hi : i < m) (h6 : m ≤ 6) : isAsk H b i (d i 0) (d i 1) (d i 2) (y i) := by
  obtain ⟨gs, vp, vr, va, vy, cp, cr, sa, ya, row, ⟨b1, b2, b3, b4, b5, b6, b7⟩, bn, ⟨p1, p2⟩, ⟨r1, r2⟩, ⟨s1, s2⟩, ⟨y1, y2⟩, e1, e2, e3, e4⟩ := h
  obtain ⟨q1, q2, q3, w, w1, w2, w3⟩ := e3 i (by omega)
  obtain ⟨v1, v2, v3⟩ := e1 i hi
  exact ⟨gs, vp, vr, va, vy, w, cp, cr, sa, ya, row i, b1, b2, b4, b5, b6, b7, ⟨bn.1, bn.2.1, bn.2.2.1, q2⟩, ⟨p1, p2, v1⟩, ⟨r1, r2, v2⟩, ⟨s1, s2, v3⟩, ⟨y1, y2, q1⟩, w1, w2, fun k hk => w3 k hi hk⟩
variable {ot : XO Int32} {dp a b : Nat} {x w : Int32} {vA vB : Int32} {HA HH : List (XC Int32)}
theorem hP_ask (h : hP a b H) (z1 : x_To x_tb x_tyl ot (dp + 3) 119 0 (x_en 0 [.inr (some a), .inl x, .inl w]) [] H 0 0 (some (.inl vA)) HA) (z2 : x_To x_tb x_tyl ot (dp + 3) 251 0 (x_en 0 [.inr (some b), .inl x, .inl w]) [] HA 0 0 (some (.inl vB)) HH) : hP a b HH := by
  obtain ⟨m, r, d, y, hA, hB, ok⟩ := h
  have h6 := pA_6 hA
  have same : ∀ {v1 v2 : Int32}, x_To x_tb x_tyl ot (dp + 3) 119 0 (x_en 0 [.inr (some a), .inl x, .inl w]) [] H 0 0 (some (.inl v1)) H → x_To x_tb x_tyl ot (dp + 3) 251 0 (x_en 0 [.inr (some b), .inl x, .inl w]) [] H 0 0 (some (.inl v2)) H → hP a b HH := fun q1 q2 => by
    obtain ⟨-, rfl⟩ := x_To_one z1 q1
    obtain ⟨-, rfl⟩ := x_To_one z2 q2
    exact ⟨m, r, d, y, hA, hB, ok⟩
  obtain ⟨ca, vs, hT, hc, hr⟩ := id hA
  rcases b_i32 (x := x) h6 with hx | ⟨i, hi, rfl⟩
  · obtain ⟨v1, q1⟩ := t119x (dp := dp + 2) hT (w := w) hx
    obtain ⟨v2, q2⟩ := t251x (dp := dp + 2) (pB_m0 hB) (w := w) (b_in h6 hx)
    exact same q1 q2
  obtain ⟨hci, hC⟩ := hc i hi
  have ki := ok i hi
  rcases b_yr (w := w) with hw | ⟨Y, hY, hY2, rfl⟩
  · obtain ⟨v1, q1⟩ := t119y (dp := dp + 1) hT hi hci hw
    obtain ⟨v2, q2⟩ := t251y (dp := dp + 1) (pB_m0 hB) h6 hi hw
    exact same q1 q2
  have n3 := ki.n3
  have lp := ki.lp
  have ph := ki.ph
  have h1 := ki.h1
  by_cases hn : d i 2 < 30
  rotate_left
  · obtain ⟨v1, q1⟩ := t119n (dp := dp + 1) hT hi hci hC (by omega) (by omega) hY hY2
    obtain ⟨v2, q2⟩ := t251n (dp := dp + 1) (pB_m0 hB) h6 hi (pB_ak hB hi h6) (by omega) hY hY2
    exact same q1 q2
  obtain ⟨v1, q1⟩ := t119 (dp := dp) hT hi hci hC ki.R8.1 ki.r3 (by omega) (by omega) (by omega) hn hY hY2
  obtain ⟨-, rfl⟩ := x_To_one z1 q1
  have hA2 := pA_ask hA hi (Y % 100)
  have hB2 := pB_tag (H2 := H.set (r i) (.inl (11, chL (d i 0) (d i 1) (d i 2 + 1) (lo2 (d i 0) (d i 3) (Y % 100)) (hi2 (d i 0) (d i 4) (Y % 100)) (R2 (d i 0) (d i 1) (d i 5) (Y % 100))))) (tag_set hC.2 rfl) hB
  obtain ⟨row, wr, sa, va, g1, g2, g3, g4, g5⟩ := pB_ask hB2 hi h6 hn (Y % 100) Y
  obtain ⟨-, rfl⟩ := x_To_one z2 (g4 (dp + 1) ot (by omega) ki.r3 hY hY2)
  refine ⟨m, r, _, _, pA_tag (fun j z hj hz => tag_set (gne g2 g3) rfl j z (tag_set g1 rfl j z hj hz) hz) hA2, g5, fun j hj => ?_⟩
  by_cases e : j = i
  · subst e
    rw [show upC d j (askD (d j) (Y % 100)) j = askD (d j) (Y % 100) from if_pos rfl]
    have := chD_ask ki hn hY hY2
    rw [show upY y j (d j 2) Y j = fun k => if k = d j 2 then Y else y j k from funext fun k => by
      unfold upY
      by_cases c : k = d j 2
      · rw [if_pos ⟨rfl, c⟩, if_pos c]
      · rw [if_neg (fun z => c z.2), if_neg c]]
    exact this
  · rw [show upC d i (askD (d i) (Y % 100)) j = d j from if_neg e, show upY y i (d i 2) Y j = y j from funext fun k => if_neg (fun z => e z.1)]
    exact ok j hj
theorem hP_chip (h : hP a b H) (hl : H.length + 1 ≤ 1000000) (z1 : x_To x_tb x_tyl ot (dp + 2) 117 0 (x_en 0 [.inr (some a), .inl x, .inl w]) [] H 0 0 (some (.inl vA)) HA) (z2 : x_To x_tb x_tyl ot (dp + 2) 250 0 (x_en 0 [.inr (some b), .inl x, .inl w]) [] HA 0 0 (some (.inl vB)) HH) : hP a b HH := by
  obtain ⟨m, r, d, y, hA, hB, ok⟩ := h
  have h6 := pA_6 hA
  have same : ∀ {v1 v2 : Int32}, x_To x_tb x_tyl ot (dp + 2) 117 0 (x_en 0 [.inr (some a), .inl x, .inl w]) [] H 0 0 (some (.inl v1)) H → x_To x_tb x_tyl ot (dp + 2) 250 0 (x_en 0 [.inr (some b), .inl x, .inl w]) [] H 0 0 (some (.inl v2)) H → hP a b HH := fun q1 q2 => by
    obtain ⟨-, rfl⟩ := x_To_one z1 q1
    obtain ⟨-, rfl⟩ := x_To_one z2 q2
    exact ⟨m, r, d, y, hA, hB, ok⟩
  obtain ⟨ca, vs, hT, hc, hr⟩ := id hA
  rcases b_pr (x := x) (w := w) with hx | ⟨pv, rl, hpv, hrl, rfl, rfl⟩
  · obtain ⟨v1, q1⟩ := t117_bad (dp := dp) hT hx
    obtain ⟨v2, q2⟩ := t250_bad (dp := dp) (pB_m0 hB) hx
    exact same q1 q2
  by_cases hm : m < 6
  rotate_left
  · obtain ⟨v1, q1⟩ := t117_full (dp := dp) hT (by omega) hpv hrl
    obtain ⟨v2, q2⟩ := t250_full (dp := dp) (pB_m0 hB) (by omega) hpv hrl
    exact same q1 q2
  obtain ⟨ca, vs, fs, f1, f2, f3, f4⟩ := pA_chip hA hm hl hpv hrl
  obtain ⟨v1, q1⟩ := f3 dp ot
  obtain ⟨-, rfl⟩ := x_To_one z1 q1
  have hB2 : pB (((H ++ [(.inl (11, chL pv rl 0 0 100 7) : XC Int32)]).set ca (.inr (3, vs.set m (.inr (some H.length))))).set a (.inl (0, fs.set 12 (.inl (nI (m + 1)))))) b m d y := pB_tag (fun j z hj hz => tag_set (gtag (get_old f1) (get_old f2) (fun e => by cases e)) rfl j z (tag_set (get_old f1) rfl j z (get_old hj) hz) hz) hB
  obtain ⟨cp, vp, cr, vr, gs, g1, g2, g3, g4, g5, g6⟩ := pB_chip hB2 hm hpv hrl
  obtain ⟨v2, q2⟩ := g5 dp ot
  obtain ⟨-, rfl⟩ := x_To_one z2 q2
  refine ⟨m + 1, _, _, y, pA_tag (fun j z hj hz => tag_set (gtag (gne g2 g4) (gtag g1 g3 (fun e => by cases e)) (fun e => by cases e)) rfl j z (tag_set (gne g2 g4) rfl j z (tag_set g1 rfl j z hj hz) hz) hz) f4, g6, fun j hj => ?_⟩
  by_cases e : j = m
  · subst e
    rw [show upC d j (newD pv rl) j = (newD pv rl) from if_pos rfl]
    exact chD_new hpv hrl _
  · rw [show upC d m (newD pv rl) j = d j from if_neg e]
    exact ok j (by omega)
/-- fit answers alike -/
theorem hP_fit (h : hP a b H) (hl : H.length + 200 ≤ 1000000) {fa : Nat} {gs vf : List (XV Int32)} (hg : H[b]? = some (.inl (12, gs))) (h67 : gs[67]? = some (.inr (some fa))) (hfa : ¬ 1000000 < fa) (hvf : H[fa]? = some (.inr (1, vf))) (hvl : vf.length = 303) (z1 : x_To x_tb x_tyl ot (dp + 7) 124 0 (x_en 0 [.inr (some a), .inl x, .inl w]) [] H 0 0 (some (.inl vA)) HA) (z2 : x_To x_tb x_tyl ot (dp + 7) 253 0 (x_en 0 [.inr (some b), .inl x, .inl w]) [] HA 0 0 (some (.inl vB)) HH) : vA = vB := by
  obtain ⟨m, r, d, y, hA, hB, ok⟩ := h
  have h6 := pA_6 hA
  obtain ⟨ca, vs, hT, hc, hr⟩ := id hA
  have fin : ∀ {v1 v2 : Int32} {G : List (XC Int32)}, x_To x_tb x_tyl ot (dp + 7) 124 0 (x_en 0 [.inr (some a), .inl x, .inl w]) [] H 0 0 (some (.inl v1)) H → x_To x_tb x_tyl ot (dp + 7) 253 0 (x_en 0 [.inr (some b), .inl x, .inl w]) [] H 0 0 (some (.inl v2)) G → v1 = v2 → vA = vB := fun q1 q2 e => by
    obtain ⟨e1, rfl⟩ := x_To_one z1 q1
    obtain ⟨e2, -⟩ := x_To_one z2 q2
    cases e1
    cases e2
    exact e
  have hM0 := pB_m0 hB
  rcases b_i32 (x := x) h6 with hx | ⟨i, hi, rfl⟩
  · exact fin (t124N (dp := dp + 6) hT hx) (t253x (dp := dp + 6) hM0 (b_in h6 hx)) rfl
  obtain ⟨hci, hC⟩ := hc i hi
  have ki := ok i hi
  have n3 := ki.n3
  have lp := ki.lp
  have ph := ki.ph
  have h1 := ki.h1
  have hM : isMod H b m fa := by
    obtain ⟨gs2, b1, b2, b3⟩ := hM0
    rw [hg] at b2
    cases b2
    exact ⟨gs, b1, hg, b3, h67, hfa, h6⟩
  have hy : ∀ k, k < d i 2 → y i k < 2 ^ 31 := fun k hk => by
    have := ki.yr k hk
    omega
  have hk := pB_ak hB hi h6
  by_cases w0 : w = 0
  · subst w0
    obtain ⟨G, q⟩ := t253_0 (dp := dp + 4) hM hk hi n3 (by omega) ki.r3 hy (fun _ => rfl) hvf hvl hl
    exact fin (t124_0 hT hi hci hC ki.R8.1 ki.R8.2 (by omega) h1) q (congrArg nI (m25_0 ki).symm)
  by_cases w1 : w = 1
  · subst w1
    obtain ⟨G, q⟩ := t253_1 (dp := dp + 4) hM hk hi n3 (by omega) ki.r3 hy (fun _ => rfl) hvf hvl hl
    exact fin (t124_1 hT hi hci hC ki.R8.1 ki.R8.2 (by omega) h1) q (m25_1 ki).symm
  by_cases w2 : w = 2
  · subst w2
    obtain ⟨G, q⟩ := t253_2 (dp := dp + 4) hM hk hi n3 (by omega) ki.r3 hy (fun _ => rfl) hvf hvl hl
    exact fin (t124_2 hT hi hci hC ki.R8.1 ki.R8.2 (by omega) h1) q (congrArg nI (m25_2 ki).symm)
  by_cases w3 : w = 3
  · subst w3
    obtain ⟨G, q⟩ := t253_3 (dp := dp + 4) hM hk hi n3 (by omega) ki.r3 hy (fun _ => rfl) hvf hvl hl
    exact fin (t124_3 hT hi hci hC ki.R8.1 ki.R8.2 (by omega) h1) q (congrArg nI (m25_3 ki).symm)
  · exact fin (t124W (dp := dp + 6) hT hi hci ⟨w0, w1, w2, w3⟩) (t253w (dp := dp + 6) hM0 h6 hi (by
      by_cases c : w < 0
      · exact Or.inl c
      · obtain ⟨j, hj, rfl⟩ := nI_of c
        refine Or.inr ((nI_ltI (by omega) hj).mpr ?_)
        rcases Nat.lt_or_ge 3 j with q | q
        · exact q
        · rcases (show j = 0 ∨ j = 1 ∨ j = 2 ∨ j = 3 by omega) with rfl | rfl | rfl | rfl
          · exact absurd rfl w0
          · exact absurd rfl w1
          · exact absurd rfl w2
          · exact absurd rfl w3)) rfl
end XP25b
