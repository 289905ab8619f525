/-! p33 by hand, 28. -/
noncomputable section XH33_28
variable {ot : XO Int32} {dp : Nat} {H H0 : List (XC Int32)}
theorem six_0 {nf : List (XV Int32)} (hnl : nf.length = 6) : ∀ k, k < 6 → ((((((nf.set (0) (.inl (nI (0)))).set (0 + 1) (.inl (nI (0)))).set (0 + 1 + 1) (.inl (nI (0)))).set (0 + 1 + 1 + 1) (.inl (nI (0)))).set (0 + 1 + 1 + 1 + 1) (.inl (nI (0)))).set (0 + 1 + 1 + 1 + 1 + 1) (.inl (nI (0))))[k]? = some (.inl (0 : Int32)) := fun k hk => by
  rcases nf with _ | ⟨a0, _ | ⟨a1, _ | ⟨a2, _ | ⟨a3, _ | ⟨a4, _ | ⟨a5, _ | ⟨a6, nf⟩⟩⟩⟩⟩⟩⟩
  rotate_left 6
  · rcases (show k = 0 ∨ k = 1 ∨ k = 2 ∨ k = 3 ∨ k = 4 ∨ k = 5 by omega) with rfl | rfl | rfl | rfl | rfl | rfl
    all_goals rfl
  all_goals exact absurd hnl (by simp)
end XH33_28
