/-! What the checker finds right: part 2. -/
noncomputable section XM2
set_option maxRecDepth 1000000 in
theorem x_m16a : (x_CT 16).all (vMeth x_KT x_tb x_tyl (x_ovS none) (x_CTb 16) x_hs x_knd 20000 16) = true := by decide +kernel
end XM2
