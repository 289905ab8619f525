/-! What the checker finds right: part 3. -/
noncomputable section XM3
set_option maxRecDepth 1000000 in
theorem x_m16b : (x_CT 16).all (vMeth x_KT x_tb x_tyl (x_ovS (some 1200000)) (x_CTb 16) x_hs x_knd 20000 16) = true := by decide +kernel
end XM3
