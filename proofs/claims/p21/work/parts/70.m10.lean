/-! What the checker finds right: part 10. -/
noncomputable section XM10
set_option maxRecDepth 1000000 in
theorem x_m183b : (x_CT 183).all (vMeth x_KT x_tb x_tyl (x_ovS (some 1200000)) (x_CTb 183) x_hs x_knd 20000 183) = true := by decide +kernel
end XM10
