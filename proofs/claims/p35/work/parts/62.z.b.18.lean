/-! p35 by hand, 17. -/
noncomputable section XH3517
variable {ot : XO Int32} {dp : Nat} {H : List (XC Int32)} {p n m : Nat} {r : Nat → Nat} {pl mi la we ord hf : Nat → Nat}
theorem xT_iaN {k pc n0 cn sn : Nat} {q : XM} {L : List (Nat × XV Int32)} {S : List (XV Int32)} {H H2 : List (XC Int32)} {v : Option (XV Int32)} {ra j len : Nat} {x : Int32} {w : List (XV Int32)} (hq : tMth x_tb k = some q) (hi : mC q pc = some (.iastore, n0)) (hw : H[ra]? = some (.inr (0, w))) (hl : w.length = len) (hj : j < len ∧ len < 2 ^ 31) (h : x_To x_tb x_tyl ot dp k (pc + 1) L S (H.set ra (.inr (0, w.set j (.inl x)))) cn sn v H2) : x_To x_tb x_tyl ot dp k pc L (.inl x :: .inl (nI j) :: .inr (some ra) :: S) H cn sn v H2 := xT_iastore hq hi hw (ixN hj hl) (by
  rw [nI_clamp (by omega)]
  exact h)
theorem isRw_ne {x len : Nat} {f : Nat → Nat} {r1 c : Nat} {w : XC Int32} (h : isRw H r1 len f c) (e : r1 ≠ x) : isRw (H.set x w) r1 len f c := by
  obtain ⟨h1, l, h2, h3, h4⟩ := h
  exact ⟨h1, l, gne h2 (fun q => e q.symm), h3, h4⟩
theorem isRw_put {len r1 c c2 i v : Nat} {f f2 : Nat → Nat} (h : isRw H r1 len f c) {l : List (XV Int32)} (hl : H[r1]? = some (.inr (0, l))) (hi : i < len) (e : ∀ k, k < c2 → (k = i ∧ f2 k = v) ∨ (k ≠ i ∧ k < c ∧ f2 k = f k)) : isRw (H.set r1 (.inr (0, l.set i (.inl (nI v))))) r1 len f2 c2 := by
  obtain ⟨h1, l', h2, h3, h4⟩ := h
  rw [hl] at h2
  cases h2
  refine ⟨h1, _, gself hl, by rw [List.length_set]; exact h3, fun k hk => ?_⟩
  rcases e k hk with ⟨e1, e2⟩ | ⟨e1, e2, e3⟩
  · subst e1
    rw [e2]
    exact List.getElem?_set_self (by omega)
  · rw [List.getElem?_set_ne (fun q => e1 q.symm), e3]
    exact h4 k e2
theorem isRw_up {len r1 c v : Nat} {f : Nat → Nat} (h : isRw H r1 len f c) {l : List (XV Int32)} (hl : H[r1]? = some (.inr (0, l))) (hi : c < len) : isRw (H.set r1 (.inr (0, l.set c (.inl (nI v))))) r1 len (upF f c v) (c + 1) := isRw_put h hl hi (fun k hk => by
  by_cases e : k = c
  · subst e
    exact Or.inl ⟨rfl, upF_eq⟩
  · exact Or.inr ⟨e, by omega, upF_ne e⟩)
theorem isRw_obj {len r1 c a ci : Nat} {f : Nat → Nat} {os : List (XV Int32)} {w : XC Int32} (h : isRw H r1 len f c) (hp : H[a]? = some (.inl (ci, os))) : isRw (H.set a w) r1 len f c := by
  obtain ⟨h1, l, h2, h3, h4⟩ := h
  exact ⟨h1, l, gtag hp h2 (fun e => by cases e), h3, h4⟩
/-- cells that the class's stops leave alone -/
def tgS : XC Int32 → Bool
  | .inl z => z.1 == 0 || z.1 == 12
  | .inr z => z.1 == 5 || z.1 == 6 || z.1 == 1 || (z.1 == 0 && z.2.length == 4)
def kp (q : XC Int32 → Bool) (H H2 : List (XC Int32)) : Prop := ∀ (x : Nat) (z : XC Int32), H[x]? = some z → q z = true → H2[x]? = some z
theorem kp_rf {q : XC Int32 → Bool} : kp q H H := fun _ _ h _ => h
theorem kp_set {q : XC Int32 → Bool} {G : List (XC Int32)} {i : Nat} {x w : XC Int32} (h : kp q H G) (hi : G[i]? = some x) (hx : q x = false) : kp q H (G.set i w) := fun j z hj hz => gtag hi (h j z hj hz) (fun e => by
  subst e
  rw [hx] at hz
  cases hz)
theorem kp_tr {q : XC Int32 → Bool} {G G2 : List (XC Int32)} (h1 : kp q H G) (h2 : kp q G G2) : kp q H G2 := fun x z hz hq => h2 x z (h1 x z hz hq) hq
theorem tgS_r {l : List (XV Int32)} {len : Nat} (h : l.length = len) (h4 : len ≠ 4) : tgS (.inr (0, l)) = false := by
  show (l.length == 4) = false
  rw [h]
  exact beq_eq_false_iff_ne.mpr h4
theorem isPo_5 {s X : Nat} (hP : isPo H p n r pl mi la we ord hf s) (inj : ∀ i j, i < 6 → j < 6 → r i = r j → i = j) (hs : s < 256) {l : List (XV Int32)} (hl : H[r 5]? = some (.inr (0, l))) : isPo (H.set (r 5) (.inr (0, l.set s (.inl (nI X))))) p n r pl mi la we ord (upF hf s X) (s + 1) := by
  obtain ⟨⟨hpA, hp, h8⟩, R0, R1, R2, R3, R4, R5⟩ := hP
  have ne : ∀ i, i < 5 → r i ≠ r 5 := fun i hi e => by
    have := inj i 5 (by omega) (by omega) e
    omega
  exact ⟨⟨hpA, gtag hl hp (fun e => by cases e), h8⟩, isRw_ne R0 (ne 0 (by omega)), isRw_ne R1 (ne 1 (by omega)), isRw_ne R2 (ne 2 (by omega)), isRw_ne R3 (ne 3 (by omega)), isRw_ne R4 (ne 4 (by omega)), isRw_up R5 hl hs⟩
end XH3517
