/-! p35 by hand, 16. -/
noncomputable section XH3516
variable {ot : XO Int32} {dp : Nat} {H : List (XC Int32)} {p n m : Nat} {r : Nat → Nat} {pl mi la we ord hf : Nat → Nat}
/-! Stops: what an order with one more keeps; hands: what is left. -/
def upF (f : Nat → Nat) (i v : Nat) : Nat → Nat := fun j => if j = i then v else f j
theorem upF_eq {f : Nat → Nat} {i v : Nat} : upF f i v i = v := if_pos rfl
theorem upF_ne {f : Nat → Nat} {i v j : Nat} (h : j ≠ i) : upF f i v j = f j := if_neg h
theorem few_cg {hf hf2 : Nat → Nat} {s : Nat} (h : ∀ j, j < s → hf2 j = hf j) : ∀ b, b ≤ s → fewL hf2 s b = fewL hf s b
  | 0, _ => rfl
  | b + 1, hb => by
    have ih := few_cg h b (by omega)
    show (if b ≠ 0 ∧ andn b s = 0 ∧ hf2 b = 1 then mnP (fewL hf2 s b) (1 + hf2 (s - b)) else fewL hf2 s b) = (if b ≠ 0 ∧ andn b s = 0 ∧ hf b = 1 then mnP (fewL hf s b) (1 + hf (s - b)) else fewL hf s b)
    rw [ih, h b (by omega)]
    by_cases c : b = 0
    · rw [if_neg (fun z => z.1 c), if_neg (fun z => z.1 c)]
    · rw [h (s - b) (by omega)]
theorem hfOk_cg {M M2 hf : Nat → Nat} {m : Nat} (h : hfOk M hf m) (e : ∀ s, s < m → M2 s = M s) : hfOk M2 hf m := ⟨h.1, fun s h1 h2 => by
  rw [e s h2]
  exact h.2 s h1 h2⟩
theorem hfOk_up {M hf : Nat → Nat} {m : Nat} (h : hfOk M hf m) (hm : 1 ≤ m) : hfOk M (upF hf m (if M m = 1 then 1 else fewL hf m m)) (m + 1) := by
  refine ⟨(upF_ne (by omega)).trans h.1, fun s h1 h2 => ?_⟩
  have e := few_cg (hf := hf) (hf2 := upF hf m (if M m = 1 then 1 else fewL hf m m)) (s := s) (fun j hj => upF_ne (by omega)) s (Nat.le_refl s)
  rw [e]
  by_cases c : s = m
  · subst c
    exact upF_eq
  · rw [upF_ne c]
    exact h.2 s h1 (by omega)
theorem ord_ins {n q : Nat} {ord mi mi2 : Nat → Nat} (h : ordOk n ord mi) (hq : q ≤ n) (he : ∀ k, k < n → mi2 k = mi k) (lo : ∀ j, q ≤ j → j < n → mi2 n < mi (ord j)) (hi : q = 0 ∨ mi (ord (q - 1)) ≤ mi2 n) : ordOk (n + 1) (insO ord q n) mi2 := by
  have i1 : ∀ j, j < q → insO ord q n j = ord j := fun j hj => if_pos hj
  have i2 : insO ord q n q = n := (if_neg (Nat.lt_irrefl q)).trans (if_pos rfl)
  have i3 : ∀ j, q < j → insO ord q n j = ord (j - 1) := fun j hj => (if_neg (by omega)).trans (if_neg (by omega))
  have below : ∀ j, j < q → mi (ord j) ≤ mi2 n := fun j hj => by
    rcases hi with e | e
    · omega
    · by_cases c : j = q - 1
      · rw [c]
        exact e
      · rcases h.2.1 j (q - 1) (by omega) (by omega) with z | z <;> omega
  refine ⟨fun k hk => ?_, fun j k hjk hk => ?_, fun x hx => ?_⟩
  · rcases Nat.lt_trichotomy k q with c | c | c
    · have := h.1 k (by omega)
      rw [i1 k c]
      omega
    · rw [c, i2]
      omega
    · have := h.1 (k - 1) (by omega)
      rw [i3 k c]
      omega
  · have o : ∀ j k, j < k → k < n → mi2 (ord j) < mi2 (ord k) ∨ (mi2 (ord j) = mi2 (ord k) ∧ ord j < ord k) := fun j k a b => by
      rw [he _ (h.1 j (by omega)), he _ (h.1 k b)]
      exact h.2.1 j k a b
    rcases Nat.lt_trichotomy k q with c | c | c
    · rw [i1 j (by omega), i1 k c]
      exact o j k hjk (by omega)
    · subst c
      have h1 := below j hjk
      have h2 := h.1 j (by omega)
      rw [i1 j hjk, i2, he _ h2]
      omega
    · rw [i3 k c]
      rcases Nat.lt_trichotomy j q with a | a | a
      · rw [i1 j a]
        exact o j (k - 1) (by omega) (by omega)
      · subst a
        rw [i2, he _ (h.1 (k - 1) (by omega))]
        exact Or.inl (lo (k - 1) (by omega) (by omega))
      · rw [i3 j a]
        exact o (j - 1) (k - 1) (by omega) (by omega)
  · by_cases c : x = n
    · exact ⟨q, by omega, by rw [i2, c]⟩
    · obtain ⟨j, j1, j2⟩ := h.2.2 x (by omega)
      by_cases a : j < q
      · exact ⟨j, by omega, by rw [i1 j a, j2]⟩
      · exact ⟨j + 1, by omega, by rw [i3 (j + 1) (by omega), Nat.add_sub_cancel, j2]⟩
theorem mtD_ins {n q s : Nat} {ord pl mi la pl2 mi2 la2 : Nat → Nat} (hn : n < 8) (hq : q ≤ n) (ho : ∀ k, k < n → ord k < n) (e : ∀ k, k < n → pl2 k = pl k ∧ mi2 k = mi k ∧ la2 k = la k) (hs : s < 2 ^ n) : mtD (insO ord q n) pl2 mi2 la2 s (n + 1) 0 0 0 = mtD ord pl mi la s n 0 0 0 := by
  rw [mtD_lo (b_big n (by omega) s hs n (by omega) (Nat.le_refl n)) n 0 0 0 (Nat.zero_le _) (by omega)]
  exact mtD_cg (fun k hk => rfl) (fun k hk => e (ord k) (ho k hk)) n 0 0 0 (by omega)
theorem gp_eq {hf : Nat → Nat} {q k p : Nat} : gpN hf q k (p + 1) = if andn (p + 1) q = 0 ∧ hf (p + 1) = 1 ∧ hf (q - (p + 1)) ≤ k then p + 1 else gpN hf q k p := rfl
theorem gp_ok {hf : Nat → Nat} {q k : Nat} : ∀ p, gpN hf q k p ≠ 0 → andn (gpN hf q k p) q = 0 ∧ hf (gpN hf q k p) = 1 ∧ hf (q - gpN hf q k p) ≤ k
  | 0, h => absurd rfl h
  | p + 1, h => by
    by_cases c : andn (p + 1) q = 0 ∧ hf (p + 1) = 1 ∧ hf (q - (p + 1)) ≤ k
    · rw [gp_eq, if_pos c]
      exact c
    · rw [gp_eq, if_neg c] at h ⊢
      exact gp_ok p h
theorem gp_no {hf : Nat → Nat} {q k : Nat} : ∀ p, gpN hf q k p = 0 → ∀ b, 1 ≤ b → b ≤ p → ¬ (andn b q = 0 ∧ hf b = 1 ∧ hf (q - b) ≤ k)
  | 0, _, b, h1, h2 => by omega
  | p + 1, h, b, h1, h2 => by
    intro c
    by_cases d : andn (p + 1) q = 0 ∧ hf (p + 1) = 1 ∧ hf (q - (p + 1)) ≤ k
    · rw [gp_eq, if_pos d] at h
      omega
    · rw [gp_eq, if_neg d] at h
      by_cases z : b = p + 1
      · subst z
        exact d c
      · exact gp_no p h b h1 (by omega) c
theorem gp_hf {M hf : Nat → Nat} {m : Nat} (hm : m ≤ 256) (h : hfOk M hf m) {q k : Nat} (hq : q < m) (hk : hf q ≤ k + 1) (k8 : k + 1 < 9) : (gpN hf q k q = 0 → hf q ≤ k) ∧ hf (q - gpN hf q k q) ≤ k := by
  have a : gpN hf q k q = 0 → hf q ≤ k := fun z => by
    rcases Nat.lt_or_ge k (hf q) with c | c
    · exfalso
      have no := gp_no q z
      have q1 : 1 ≤ q := by
        rcases Nat.eq_zero_or_pos q with e | e
        · rw [e, h.1] at c
          omega
        · exact e
      by_cases m1 : M q = 1
      · have e := (hf_1 hm h q1 hq).mpr m1
        exact no q q1 (Nat.le_refl q) ⟨(b_self q (by omega)).1, e, by
          rw [Nat.sub_self, h.1]
          exact Nat.zero_le k⟩
      · have e := h.2 q q1 hq
        rw [if_neg m1] at e
        obtain ⟨b, b1, b2, b3, b4, b5⟩ := (few_le (hf := hf) (s := q) (v := k + 1) (by omega) q).mp (by omega)
        exact no b (by omega) (by omega) ⟨b3, b4, by omega⟩
    · exact c
  refine ⟨a, ?_⟩
  by_cases z : gpN hf q k q = 0
  · rw [z, Nat.sub_zero]
    exact a z
  · exact (gp_ok q z).2.2
theorem rs_hf {M hf : Nat → Nat} {m : Nat} (hm : m ≤ 256) (h : hfOk M hf m) {g q : Nat} (hg : g ≤ 3) (hq : q < m) (hh : hf q ≤ g) : ∀ i, i ≤ g → hf (rsN hf g q i) ≤ g - i
  | 0, _ => hh
  | i + 1, hi => by
    have ih := rs_hf hm h hg hq hh i (by omega)
    have l := rsN_le (hf := hf) (hands := g) (met := q) i
    have := (gp_hf hm h (q := rsN hf g q i) (k := g - 1 - i) (by omega) (by omega) (by omega)).2
    show hf (rsN hf g q i - gpN hf (rsN hf g q i) (g - 1 - i) (rsN hf g q i)) ≤ g - (i + 1)
    omega
theorem b_shl2 : ∀ s, s < 8 → x_bin 6 (nI 2) (nI s) = nI (2 ^ (s + 1)) ∧ 2 ^ (s + 1) ≤ 256 ∧ 2 ^ s < 2 ^ (s + 1) ∧ 0 < 2 ^ s := by decide +kernel
end XH3516
