/-! What the checker finds right: part 29. -/
section XM29
set_option maxRecDepth 1000000 in
theorem x_m263b : (x_CT 263).all (vMeth x_KT x_tb x_tyl (x_ovS (some 1200000)) (x_CTb 263) x_hs x_knd 20000 263) = true := by decide +kernel
end XM29
