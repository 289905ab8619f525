/-! What the checker finds right: part 2. -/
section XM2
set_option maxRecDepth 1000000 in
theorem x_m14b : (x_CT 14).all (vMeth x_KT x_tb x_tyl (x_ovS (some 1200000)) (x_CTb 14) x_hs x_knd 20000 14) = true := by decide +kernel
end XM2
