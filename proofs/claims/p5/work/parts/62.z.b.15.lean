/-! p5 by hand, 14. -/
noncomputable section XH5_14
variable {ot : XO Int32} {dp : Nat} {H : List (XC Int32)} {a n m : Nat} {P C nl sv S : Nat → Nat} {op lf rt : Nat → Nat → Nat}
theorem opR_2 : ∀ x, x < 12 → opR x = 2 → x = 2 := by decide
theorem opR_10 : ∀ x, x < 12 → ((x = 9 ∨ x = 10) → 10 ≤ opR x) ∧ (x ≠ 9 → x ≠ 10 → opR x < 10) ∧ opR x < 12 := by decide
theorem opR_a : ∀ x, x < 12 → (opR x = 7 ↔ x = 7) ∧ (opR x = 8 ↔ x = 11) := by decide
/-- code of a program of the reference -/
def kD (H : List (XC Int32)) (d : Nat) (op lf rt : Nat → Nat) (nl : Nat) : Prop := d < 1000000 ∧ ∃ w, H[d]? = some (.inr (0, w)) ∧ w.length = 48 ∧ (∀ j, j < 48 → ∃ x : Int32, w[j]? = some (.inl x)) ∧ ∀ l, l < nl → w[4 * l]? = some (.inl (nI (opR (op l)))) ∧ (op l ≠ 9 → op l ≠ 10 → w[4 * l + 1]? = some (.inl (nI (lf l)))) ∧ ((op l = 4 ∨ op l = 5 ∨ op l = 6 ∨ op l = 7 ∨ op l = 11) → w[4 * l + 2]? = some (.inl (nI (rt l))))
/-- its sure fields, known where kn holds -/
def kU (H : List (XC Int32)) (u : Nat) (s : Nat) (kn : Nat → Prop) : Prop := ¬ 1000000 < u ∧ ∃ w, H[u]? = some (.inr (1, w)) ∧ w.length = 6 ∧ ∀ f, f < 6 → kn f → w[f]? = some (.inl (nI (bitP s f)))
def kB (H : List (XC Int32)) (b n : Nat) (D U : Nat → Nat) (op lf rt : Nat → Nat → Nat) (nl sv S : Nat → Nat) (kn : Nat → Nat → Prop) : Prop := (¬ 1000000 < b ∧ n ≤ 12 ∧ ∃ gs ln cd ip su vc vi vs, H[b]? = some (.inl (12, gs)) ∧ gs[0]? = some (.inl (nI n)) ∧ gs[1]? = some (.inr (some ln)) ∧ gs[2]? = some (.inr (some cd)) ∧ gs[6]? = some (.inr (some ip)) ∧ gs[63]? = some (.inr (some su)) ∧ isRw H ln 13 nl n ∧ (H[cd]? = some (.inr (5, vc)) ∧ vc.length = 13 ∧ ∀ q, q < n → vc[q]? = some (.inr (some (D q)))) ∧ (ip < 1000000 ∧ H[ip]? = some (.inr (0, vi)) ∧ vi.length = 12 ∧ ∀ q, q < n → vi[q]? = some (.inl (svI (sv q)))) ∧ H[su]? = some (.inr (6, vs)) ∧ vs.length = 12 ∧ ∀ q, q < n → vs[q]? = some (.inr (some (U q)))) ∧ (∀ q, q < n → kD H (D q) (op q) (lf q) (rt q) (nl q)) ∧ (∀ q, q < n → kU H (U q) (S q) (kn q)) ∧ ∀ q k, q < n → k < n → U q = U k → q = k
theorem isRw_b {len r1 c u : Nat} {f : Nat → Nat} {w : List (XV Int32)} {z : XC Int32} (h : isRw H r1 len f c) (hp : H[u]? = some (.inr (1, w))) : isRw (H.set u z) r1 len f c := by
  obtain ⟨h1, l, h2, h3, h4⟩ := h
  exact ⟨h1, l, gtag hp h2 (fun e => by cases e), h3, h4⟩
theorem kB_set {b p g x : Nat} {D U S2 : Nat → Nat} {kn kn2 : Nat → Nat → Prop} (h : kB H b n D U op lf rt nl sv S kn) (hp : p < n) (hg : g < 6) {w : List (XV Int32)} (hw : H[U p]? = some (.inr (1, w))) (hk : ∀ q f, q < n → f < 6 → kn2 q f → (q = p ∧ f = g ∧ x = bitP (S2 q) f) ∨ (kn q f ∧ ¬ (q = p ∧ f = g) ∧ bitP (S2 q) f = bitP (S q) f)) : kB (H.set (U p) (.inr (1, w.set g (.inl (nI x))))) b n D U op lf rt nl sv S2 kn2 := by
  obtain ⟨⟨h1, h2, gs, ln, cd, ip, su, vc, vi, vs, g1, g2, g3, g4, g5, g6, g7, ⟨g8, g9, g10⟩, ⟨g11, g12, g13, g14⟩, g15, g16, g17⟩, hD, hU, inj⟩ := h
  refine ⟨⟨h1, h2, gs, ln, cd, ip, su, vc, vi, vs, gtag hw g1 (fun e => by cases e), g2, g3, g4, g5, g6, isRw_b g7 hw, ⟨gtag hw g8 (fun e => by cases e), g9, g10⟩, ⟨g11, gtag hw g12 (fun e => by cases e), g13, g14⟩, gtag hw g15 (fun e => by cases e), g16, g17⟩, fun q hq => ?_, fun q hq => ?_, inj⟩
  · obtain ⟨d1, w2, d2, d3, d4, d5⟩ := hD q hq
    exact ⟨d1, w2, gtag hw d2 (fun e => by cases e), d3, d4, d5⟩
  · obtain ⟨u1, w2, u2, u3, u4⟩ := hU q hq
    by_cases e : q = p
    · subst e
      rw [hw] at u2
      cases u2
      refine ⟨u1, _, gself hw, by rw [List.length_set]; exact u3, fun f hf z => ?_⟩
      rcases hk q f hq hf z with ⟨-, k2, k3⟩ | ⟨k1, k2, k3⟩
      · subst k2
        rw [← k3]
        exact List.getElem?_set_self (by omega)
      · rw [List.getElem?_set_ne (fun y => k2 ⟨rfl, y.symm⟩), k3]
        exact u4 f hf k1
    · refine ⟨u1, w2, gne u2 (fun z => e (inj q p hq hp z.symm)), u3, fun f hf z => ?_⟩
      rcases hk q f hq hf z with ⟨k1, -, -⟩ | ⟨k1, k2, k3⟩
      · exact absurd k1 e
      · rw [k3]
        exact u4 f hf k1
theorem kB_cg {b : Nat} {D U S2 : Nat → Nat} {kn kn2 : Nat → Nat → Prop} (h : kB H b n D U op lf rt nl sv S kn) (e : ∀ q f, q < n → f < 6 → kn2 q f → kn q f ∧ bitP (S2 q) f = bitP (S q) f) : kB H b n D U op lf rt nl sv S2 kn2 := ⟨h.1, h.2.1, fun q hq => by
  obtain ⟨u1, w2, u2, u3, u4⟩ := h.2.2.1 q hq
  refine ⟨u1, w2, u2, u3, fun f hf z => ?_⟩
  obtain ⟨e1, e2⟩ := e q f hq hf z
  rw [e2]
  exact u4 f hf e1, h.2.2.2⟩
theorem xT_b6 {k pc n0 cn sn : Nat} {q : XM} {L : List (Nat × XV Int32)} {Q : List (XV Int32)} {H2 : List (XC Int32)} {v : Option (XV Int32)} {fa g x : Nat} {w : List (XV Int32)} (hq : tMth x_tb k = some q) (hi : mC q pc = some (.bastore, n0)) (hx : x = 0 ∨ x = 1) (hf : H[fa]? = some (.inr (1, w))) (hV : w.length = 6) (hg : g < 6) (h : x_To x_tb x_tyl ot dp k (pc + 1) L Q (H.set fa (.inr (1, w.set g (.inl (nI x))))) cn sn v H2) : x_To x_tb x_tyl ot dp k pc L (.inl (nI x) :: .inl (nI g) :: .inr (some fa) :: Q) H cn sn v H2 := xT_bastore hq hi (by
  rcases hx with rfl | rfl
  · decide +kernel
  · decide +kernel) hf (ixN (n := 6) (by omega) hV) (by
  rw [nI_clamp (by omega)]
  exact h)
end XH5_14
