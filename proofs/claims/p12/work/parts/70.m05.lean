/-! What the checker finds right: part 5. -/
section XM5
set_option maxRecDepth 1000000 in
theorem x_m37a : (x_CT 37).all (vMeth x_KT x_tb x_tyl (x_ovS none) (x_CTb 37) x_hs x_knd 20000 37) = true := by decide +kernel
set_option maxRecDepth 1000000 in
theorem x_m37b : (x_CT 37).all (vMeth x_KT x_tb x_tyl (x_ovS (some 1200000)) (x_CTb 37) x_hs x_knd 20000 37) = true := by decide +kernel
set_option maxRecDepth 1000000 in
theorem x_m41a : (x_CT 41).all (vMeth x_KT x_tb x_tyl (x_ovS none) (x_CTb 41) x_hs x_knd 20000 41) = true := by decide +kernel
set_option maxRecDepth 1000000 in
theorem x_m41b : (x_CT 41).all (vMeth x_KT x_tb x_tyl (x_ovS (some 1200000)) (x_CTb 41) x_hs x_knd 20000 41) = true := by decide +kernel
set_option maxRecDepth 1000000 in
theorem x_m43a : (x_CT 43).all (vMeth x_KT x_tb x_tyl (x_ovS none) (x_CTb 43) x_hs x_knd 20000 43) = true := by decide +kernel
set_option maxRecDepth 1000000 in
theorem x_m43b : (x_CT 43).all (vMeth x_KT x_tb x_tyl (x_ovS (some 1200000)) (x_CTb 43) x_hs x_knd 20000 43) = true := by decide +kernel
set_option maxRecDepth 1000000 in
theorem x_m46a : (x_CT 46).all (vMeth x_KT x_tb x_tyl (x_ovS none) (x_CTb 46) x_hs x_knd 20000 46) = true := by decide +kernel
set_option maxRecDepth 1000000 in
theorem x_m46b : (x_CT 46).all (vMeth x_KT x_tb x_tyl (x_ovS (some 1200000)) (x_CTb 46) x_hs x_knd 20000 46) = true := by decide +kernel
set_option maxRecDepth 1000000 in
theorem x_m47a : (x_CT 47).all (vMeth x_KT x_tb x_tyl (x_ovS none) (x_CTb 47) x_hs x_knd 20000 47) = true := by decide +kernel
set_option maxRecDepth 1000000 in
theorem x_m47b : (x_CT 47).all (vMeth x_KT x_tb x_tyl (x_ovS (some 1200000)) (x_CTb 47) x_hs x_knd 20000 47) = true := by decide +kernel
set_option maxRecDepth 1000000 in
theorem x_m49a : (x_CT 49).all (vMeth x_KT x_tb x_tyl (x_ovS none) (x_CTb 49) x_hs x_knd 20000 49) = true := by decide +kernel
set_option maxRecDepth 1000000 in
theorem x_m49b : (x_CT 49).all (vMeth x_KT x_tb x_tyl (x_ovS (some 1200000)) (x_CTb 49) x_hs x_knd 20000 49) = true := by decide +kernel
set_option maxRecDepth 1000000 in
theorem x_m51a : (x_CT 51).all (vMeth x_KT x_tb x_tyl (x_ovS none) (x_CTb 51) x_hs x_knd 20000 51) = true := by decide +kernel
set_option maxRecDepth 1000000 in
theorem x_m51b : (x_CT 51).all (vMeth x_KT x_tb x_tyl (x_ovS (some 1200000)) (x_CTb 51) x_hs x_knd 20000 51) = true := by decide +kernel
set_option maxRecDepth 1000000 in
theorem x_m52a : (x_CT 52).all (vMeth x_KT x_tb x_tyl (x_ovS none) (x_CTb 52) x_hs x_knd 20000 52) = true := by decide +kernel
set_option maxRecDepth 1000000 in
theorem x_m52b : (x_CT 52).all (vMeth x_KT x_tb x_tyl (x_ovS (some 1200000)) (x_CTb 52) x_hs x_knd 20000 52) = true := by decide +kernel
set_option maxRecDepth 1000000 in
theorem x_m53a : (x_CT 53).all (vMeth x_KT x_tb x_tyl (x_ovS none) (x_CTb 53) x_hs x_knd 20000 53) = true := by decide +kernel
set_option maxRecDepth 1000000 in
theorem x_m53b : (x_CT 53).all (vMeth x_KT x_tb x_tyl (x_ovS (some 1200000)) (x_CTb 53) x_hs x_knd 20000 53) = true := by decide +kernel
set_option maxRecDepth 1000000 in
theorem x_m54a : (x_CT 54).all (vMeth x_KT x_tb x_tyl (x_ovS none) (x_CTb 54) x_hs x_knd 20000 54) = true := by decide +kernel
set_option maxRecDepth 1000000 in
theorem x_m54b : (x_CT 54).all (vMeth x_KT x_tb x_tyl (x_ovS (some 1200000)) (x_CTb 54) x_hs x_knd 20000 54) = true := by decide +kernel
set_option maxRecDepth 1000000 in
theorem x_m62a : (x_CT 62).all (vMeth x_KT x_tb x_tyl (x_ovS none) (x_CTb 62) x_hs x_knd 20000 62) = true := by decide +kernel
set_option maxRecDepth 1000000 in
theorem x_m62b : (x_CT 62).all (vMeth x_KT x_tb x_tyl (x_ovS (some 1200000)) (x_CTb 62) x_hs x_knd 20000 62) = true := by decide +kernel
set_option maxRecDepth 1000000 in
theorem x_m64a : (x_CT 64).all (vMeth x_KT x_tb x_tyl (x_ovS none) (x_CTb 64) x_hs x_knd 20000 64) = true := by decide +kernel
end XM5
