/-! p33 by hand, 32. -/
noncomputable section XH33_32
variable {ot : XO Int32} {dp : Nat} {H H0 : List (XC Int32)}
/-- the same fields but for the place where runs part -/
def rS9 (gs gz : List (XV Int32)) : Prop := gs.length = gz.length ∧ ∀ j, j ≠ 58 → gs[j]? = gz[j]?
theorem rS9_set {gs gz : List (XV Int32)} {x : XV Int32} (h : rS9 gs gz) : rS9 (gs.set 58 x) gz := ⟨by rw [List.length_set]; exact h.1, fun j hj => by
  rw [List.getElem?_set_ne (fun z => hj z.symm)]
  exact h.2 j hj⟩
theorem rG_9 {gs gz : List (XV Int32)} {ln cd ip sh shs fi fz tw tz fo pc tk dn en wo ws la : Nat} (h : rS9 gs gz) (hG : rG gz ln cd ip sh shs fi fz tw tz fo pc tk dn en wo ws la) : rG gs ln cd ip sh shs fi fz tw tz fo pc tk dn en wo ws la := by
  obtain ⟨g1, g2, g6, g11, g12, g13, g14, g15, g16, g50, g51, g52, g53, g54, g55, g56, g57, g58⟩ := hG
  refine ⟨?_, ?_, ?_, ?_, ?_, ?_, ?_, ?_, ?_, ?_, ?_, ?_, ?_, ?_, ?_, ?_, ?_, by rw [h.1]; exact g58⟩
  all_goals (rw [h.2 _ (by decide)]; assumption)
theorem rT_9 {H0 : List (XC Int32)} {As : List Nat} {gs gz : List (XV Int32)} {q t : Nat} {p : rP} (h : rS9 gs gz) (hT : rT H0 As gz q t p) : rT H0 As gs q t p := by
  rcases hT with hT | ⟨z1, z2, z3, dg, pv, ru, dr, pr, g3, g4, g5, z4⟩
  · exact Or.inl hT
  · exact Or.inr ⟨z1, z2, z3, dg, pv, ru, dr, pr, by rw [h.2 _ (by decide)]; exact g3, by rw [h.2 _ (by decide)]; exact g4, by rw [h.2 _ (by decide)]; exact g5, z4⟩
end XH33_32
