/-! What the checker finds right: part 6. -/
section XM6
set_option maxRecDepth 1000000 in
theorem x_m64b : (x_CT 64).all (vMeth x_KT x_tb x_tyl (x_ovS (some 1200000)) (x_CTb 64) x_hs x_knd 20000 64) = true := by decide +kernel
set_option maxRecDepth 1000000 in
theorem x_m66a : (x_CT 66).all (vMeth x_KT x_tb x_tyl (x_ovS none) (x_CTb 66) x_hs x_knd 20000 66) = true := by decide +kernel
set_option maxRecDepth 1000000 in
theorem x_m66b : (x_CT 66).all (vMeth x_KT x_tb x_tyl (x_ovS (some 1200000)) (x_CTb 66) x_hs x_knd 20000 66) = true := by decide +kernel
set_option maxRecDepth 1000000 in
theorem x_m69a : (x_CT 69).all (vMeth x_KT x_tb x_tyl (x_ovS none) (x_CTb 69) x_hs x_knd 20000 69) = true := by decide +kernel
set_option maxRecDepth 1000000 in
theorem x_m69b : (x_CT 69).all (vMeth x_KT x_tb x_tyl (x_ovS (some 1200000)) (x_CTb 69) x_hs x_knd 20000 69) = true := by decide +kernel
set_option maxRecDepth 1000000 in
theorem x_m70a : (x_CT 70).all (vMeth x_KT x_tb x_tyl (x_ovS none) (x_CTb 70) x_hs x_knd 20000 70) = true := by decide +kernel
set_option maxRecDepth 1000000 in
theorem x_m70b : (x_CT 70).all (vMeth x_KT x_tb x_tyl (x_ovS (some 1200000)) (x_CTb 70) x_hs x_knd 20000 70) = true := by decide +kernel
set_option maxRecDepth 1000000 in
theorem x_m71a : (x_CT 71).all (vMeth x_KT x_tb x_tyl (x_ovS none) (x_CTb 71) x_hs x_knd 20000 71) = true := by decide +kernel
set_option maxRecDepth 1000000 in
theorem x_m71b : (x_CT 71).all (vMeth x_KT x_tb x_tyl (x_ovS (some 1200000)) (x_CTb 71) x_hs x_knd 20000 71) = true := by decide +kernel
set_option maxRecDepth 1000000 in
theorem x_m76a : (x_CT 76).all (vMeth x_KT x_tb x_tyl (x_ovS none) (x_CTb 76) x_hs x_knd 20000 76) = true := by decide +kernel
set_option maxRecDepth 1000000 in
theorem x_m76b : (x_CT 76).all (vMeth x_KT x_tb x_tyl (x_ovS (some 1200000)) (x_CTb 76) x_hs x_knd 20000 76) = true := by decide +kernel
set_option maxRecDepth 1000000 in
theorem x_m77a : (x_CT 77).all (vMeth x_KT x_tb x_tyl (x_ovS none) (x_CTb 77) x_hs x_knd 20000 77) = true := by decide +kernel
end XM6
