/-! What the checker finds right: part 12. -/
noncomputable section XM12
theorem all_split {α : Type} (f : α → Bool) (l : List α) (n : Nat) (h1 : (l.take n).all f = true) (h2 : (l.drop n).all f = true) : l.all f = true := by
  rw [← List.take_append_drop n l, List.all_append, h1, h2]
  rfl
set_option maxRecDepth 1000000 in
theorem x_m2050_0 : ((x_CT 205).take 3).all (vMeth x_KT x_tb x_tyl x_ov0 (x_CTb 205) x_hs x_knd 20000 205) = true := by decide +kernel
end XM12
