/-! What the checker finds right: part 30. -/
section XM30
set_option maxRecDepth 1000000 in
theorem x_m268a : (x_CT 268).all (vMeth x_KT x_tb x_tyl (x_ovS none) (x_CTb 268) x_hs x_knd 20000 268) = true := by decide +kernel
set_option maxRecDepth 1000000 in
theorem x_m268b : (x_CT 268).all (vMeth x_KT x_tb x_tyl (x_ovS (some 1200000)) (x_CTb 268) x_hs x_knd 20000 268) = true := by decide +kernel
set_option maxRecDepth 1000000 in
theorem x_m269a : (x_CT 269).all (vMeth x_KT x_tb x_tyl (x_ovS none) (x_CTb 269) x_hs x_knd 20000 269) = true := by decide +kernel
set_option maxRecDepth 1000000 in
theorem x_m269b : (x_CT 269).all (vMeth x_KT x_tb x_tyl (x_ovS (some 1200000)) (x_CTb 269) x_hs x_knd 20000 269) = true := by decide +kernel
set_option maxRecDepth 1000000 in
theorem x_m270a : (x_CT 270).all (vMeth x_KT x_tb x_tyl (x_ovS none) (x_CTb 270) x_hs x_knd 20000 270) = true := by decide +kernel
set_option maxRecDepth 1000000 in
theorem x_m270b : (x_CT 270).all (vMeth x_KT x_tb x_tyl (x_ovS (some 1200000)) (x_CTb 270) x_hs x_knd 20000 270) = true := by decide +kernel
set_option maxRecDepth 1000000 in
theorem x_m271a : (x_CT 271).all (vMeth x_KT x_tb x_tyl (x_ovS none) (x_CTb 271) x_hs x_knd 20000 271) = true := by decide +kernel
set_option maxRecDepth 1000000 in
theorem x_m271b : (x_CT 271).all (vMeth x_KT x_tb x_tyl (x_ovS (some 1200000)) (x_CTb 271) x_hs x_knd 20000 271) = true := by decide +kernel
set_option maxRecDepth 1000000 in
theorem x_m272a : (x_CT 272).all (vMeth x_KT x_tb x_tyl (x_ovS none) (x_CTb 272) x_hs x_knd 20000 272) = true := by decide +kernel
set_option maxRecDepth 1000000 in
theorem x_m272b : (x_CT 272).all (vMeth x_KT x_tb x_tyl (x_ovS (some 1200000)) (x_CTb 272) x_hs x_knd 20000 272) = true := by decide +kernel
set_option maxRecDepth 1000000 in
theorem x_m273a : (x_CT 273).all (vMeth x_KT x_tb x_tyl (x_ovS none) (x_CTb 273) x_hs x_knd 20000 273) = true := by decide +kernel
set_option maxRecDepth 1000000 in
theorem x_m273b : (x_CT 273).all (vMeth x_KT x_tb x_tyl (x_ovS (some 1200000)) (x_CTb 273) x_hs x_knd 20000 273) = true := by decide +kernel
set_option maxRecDepth 1000000 in
theorem x_m274a : (x_CT 274).all (vMeth x_KT x_tb x_tyl (x_ovS none) (x_CTb 274) x_hs x_knd 20000 274) = true := by decide +kernel
set_option maxRecDepth 1000000 in
theorem x_m274b : (x_CT 274).all (vMeth x_KT x_tb x_tyl (x_ovS (some 1200000)) (x_CTb 274) x_hs x_knd 20000 274) = true := by decide +kernel
end XM30
