/-! What the checker finds right: part 26. -/
section XM26
set_option maxRecDepth 1000000 in
theorem x_m254b : (x_CT 254).all (vMeth x_KT x_tb x_tyl (x_ovS (some 1200000)) (x_CTb 254) x_hs x_knd 20000 254) = true := by decide +kernel
set_option maxRecDepth 1000000 in
theorem x_m255a : (x_CT 255).all (vMeth x_KT x_tb x_tyl (x_ovS none) (x_CTb 255) x_hs x_knd 20000 255) = true := by decide +kernel
set_option maxRecDepth 1000000 in
theorem x_m255b : (x_CT 255).all (vMeth x_KT x_tb x_tyl (x_ovS (some 1200000)) (x_CTb 255) x_hs x_knd 20000 255) = true := by decide +kernel
set_option maxRecDepth 1000000 in
theorem x_m256a : (x_CT 256).all (vMeth x_KT x_tb x_tyl (x_ovS none) (x_CTb 256) x_hs x_knd 20000 256) = true := by decide +kernel
set_option maxRecDepth 1000000 in
theorem x_m256b : (x_CT 256).all (vMeth x_KT x_tb x_tyl (x_ovS (some 1200000)) (x_CTb 256) x_hs x_knd 20000 256) = true := by decide +kernel
set_option maxRecDepth 1000000 in
theorem x_m257a : (x_CT 257).all (vMeth x_KT x_tb x_tyl (x_ovS none) (x_CTb 257) x_hs x_knd 20000 257) = true := by decide +kernel
end XM26
