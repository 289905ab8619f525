/-! p35 by hand, 11. -/
noncomputable section XH3511
variable {ot : XO Int32} {dp : Nat} {H : List (XC Int32)} {p n m : Nat} {r : Nat → Nat} {pl mi la we ord hf : Nat → Nat}
/-- the reference's table: what is known of its rows -/
def isCn (H : List (XC Int32)) (b : Nat) (R : Nat → Nat) (kn : Nat → Nat → Prop) (cv : Nat → Nat → Nat) : Prop := ∃ (fs cr : List (XV Int32)) (cn : Nat), (¬ 1000000 < b ∧ H[b]? = some (.inl (12, fs)) ∧ fs[68]? = some (.inr (some cn)) ∧ H[cn]? = some (.inr (6, cr)) ∧ cr.length = 4) ∧ (∀ h, h < 4 → cr[h]? = some (.inr (some (R h))) ∧ ¬ 1000000 < R h ∧ ∃ V, H[R h]? = some (.inr (1, V)) ∧ V.length = 256 ∧ ∀ i, i < 256 → kn h i → V[i]? = some (.inl (nI (cv h i)))) ∧ ∀ h k, h < 4 → k < 4 → R h = R k → h = k
theorem isCn_put {H : List (XC Int32)} {b : Nat} {R : Nat → Nat} {kn kn2 : Nat → Nat → Prop} {cv : Nat → Nat → Nat} (hC : isCn H b R kn cv) {h i x : Nat} (hh : h < 4) (hi : i < 256) {V : List (XV Int32)} (hV : H[R h]? = some (.inr (1, V))) (hk : ∀ h' i', kn2 h' i' → (h' = h ∧ i' = i ∧ x = cv h i) ∨ (kn h' i' ∧ ¬ (h' = h ∧ i' = i))) : isCn (H.set (R h) (.inr (1, V.set i (.inl (nI x))))) b R kn2 cv := by
  obtain ⟨fs, cr, cn, ⟨hbA, hb, h68, hcn, hcl⟩, hcr, hinj⟩ := hC
  refine ⟨fs, cr, cn, ⟨hbA, gtag hV hb (fun e => by cases e), h68, gtag hV hcn (fun e => by cases e), hcl⟩, fun h' hh' => ?_, hinj⟩
  obtain ⟨c1, c2, W, w1, w2, w3⟩ := hcr h' hh'
  refine ⟨c1, c2, ?_⟩
  by_cases e : h' = h
  · subst e
    rw [hV] at w1
    cases w1
    refine ⟨_, gself hV, by rw [List.length_set]; exact w2, fun i' hi' z => ?_⟩
    rcases hk h' i' z with ⟨-, z2, z3⟩ | ⟨z1, z2⟩
    · subst z2
      rw [z3]
      exact List.getElem?_set_self (by omega)
    · rw [List.getElem?_set_ne (fun q => z2 ⟨rfl, q.symm⟩)]
      exact w3 i' hi' z1
  · refine ⟨W, gne w1 (fun q => e (hinj h' h hh' hh q.symm)), w2, fun i' hi' z => ?_⟩
    rcases hk h' i' z with ⟨z1, -⟩ | ⟨z1, -⟩
    · exact absurd z1 e
    · exact w3 i' hi' z1
theorem isCn_kn {H : List (XC Int32)} {b : Nat} {R : Nat → Nat} {kn kn2 : Nat → Nat → Prop} {cv : Nat → Nat → Nat} (hC : isCn H b R kn cv) {h i : Nat} (hh : h < 4) {V : List (XV Int32)} (hV : H[R h]? = some (.inr (1, V))) (hx : V[i]? = some (.inl (nI (cv h i)))) (hk : ∀ h' i', kn2 h' i' → (h' = h ∧ i' = i) ∨ kn h' i') : isCn H b R kn2 cv := by
  obtain ⟨fs, cr, cn, ⟨hbA, hb, h68, hcn, hcl⟩, hcr, hinj⟩ := hC
  refine ⟨fs, cr, cn, ⟨hbA, hb, h68, hcn, hcl⟩, fun h' hh' => ?_, hinj⟩
  obtain ⟨c1, c2, W, w1, w2, w3⟩ := hcr h' hh'
  refine ⟨c1, c2, W, w1, w2, fun i' hi' z => ?_⟩
  rcases hk h' i' z with ⟨z1, z2⟩ | z1
  · subst z1
    subst z2
    rw [hV] at w1
    cases w1
    exact hx
  · exact w3 i' hi' z1
theorem isSt_set {H : List (XC Int32)} {b n : Nat} {pl mi la we : Nat → Nat} (hS : isSt H b n pl mi la we) {a : Nat} {V W : List (XV Int32)} (ha : H[a]? = some (.inr (1, V))) : isSt (H.set a (.inr (1, W))) b n pl mi la we := by
  obtain ⟨fs, sr, st, rr, ⟨hbA, hb, h36, h8, h37, hst, hsl⟩, hrr, hinj⟩ := hS
  refine ⟨fs, sr, st, rr, ⟨hbA, gtag ha hb (fun e => by cases e), h36, h8, h37, gtag ha hst (fun e => by cases e), hsl⟩, fun x hx => ?_, hinj⟩
  obtain ⟨q1, q2, w, w1, w2, w3⟩ := hrr x hx
  exact ⟨q1, q2, w, gtag ha w1 (fun e => by cases e), w2, w3⟩
theorem xT_b256 {k pc n0 cn sn : Nat} {q : XM} {L : List (Nat × XV Int32)} {S : List (XV Int32)} {H H2 : List (XC Int32)} {v : Option (XV Int32)} {fa g x : Nat} {V : List (XV Int32)} (hq : tMth x_tb k = some q) (hi : mC q pc = some (.bastore, n0)) (hx : x = 0 ∨ x = 1) (hf : H[fa]? = some (.inr (1, V))) (hV : V.length = 256) (hg : g < 256) (h : x_To x_tb x_tyl ot dp k (pc + 1) L S (H.set fa (.inr (1, V.set g (.inl (nI x))))) cn sn v H2) : x_To x_tb x_tyl ot dp k pc L (.inl (nI x) :: .inl (nI g) :: .inr (some fa) :: S) H cn sn v H2 := xT_bastore hq hi (by
  rcases hx with rfl | rfl
  · decide +kernel
  · decide +kernel) hf (ixN (n := 256) (by omega) hV) (by
  rw [nI_clamp (by omega)]
  exact h)
end XH3511
