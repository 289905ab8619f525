/-! What the checker finds right: part 1. -/
section XM1
set_option maxRecDepth 1000000 in
theorem x_m66a : (x_CT 66).all (vMeth x_KT x_tb x_tyl (x_ovS none) (x_CTb 66) x_hs x_knd 20000 66) = true := by decide +kernel
set_option maxRecDepth 1000000 in
theorem x_m66b : (x_CT 66).all (vMeth x_KT x_tb x_tyl (x_ovS (some 1200000)) (x_CTb 66) x_hs x_knd 20000 66) = true := by decide +kernel
set_option maxRecDepth 1000000 in
theorem x_m69a : (x_CT 69).all (vMeth x_KT x_tb x_tyl (x_ovS none) (x_CTb 69) x_hs x_knd 20000 69) = true := by decide +kernel
set_option maxRecDepth 1000000 in
theorem x_m69b : (x_CT 69).all (vMeth x_KT x_tb x_tyl (x_ovS (some 1200000)) (x_CTb 69) x_hs x_knd 20000 69) = true := by decide +kernel
end XM1
