/-! What the checker finds right: part 19. -/
noncomputable section XM19
set_option maxRecDepth 1000000 in
theorem x_m2680 : (x_CT 268).all (vMeth x_KT x_tb x_tyl x_ov0 (x_CTb 268) x_hs x_knd 20000 268) = true := by decide +kernel
set_option maxRecDepth 1000000 in
theorem x_m2690 : (x_CT 269).all (vMeth x_KT x_tb x_tyl x_ov0 (x_CTb 269) x_hs x_knd 20000 269) = true := by decide +kernel
set_option maxRecDepth 1000000 in
theorem x_m2700 : (x_CT 270).all (vMeth x_KT x_tb x_tyl x_ov0 (x_CTb 270) x_hs x_knd 20000 270) = true := by decide +kernel
set_option maxRecDepth 1000000 in
theorem x_m2710 : (x_CT 271).all (vMeth x_KT x_tb x_tyl x_ov0 (x_CTb 271) x_hs x_knd 20000 271) = true := by decide +kernel
set_option maxRecDepth 1000000 in
theorem x_m2720 : (x_CT 272).all (vMeth x_KT x_tb x_tyl x_ov0 (x_CTb 272) x_hs x_knd 20000 272) = true := by decide +kernel
set_option maxRecDepth 1000000 in
theorem x_m2730 : (x_CT 273).all (vMeth x_KT x_tb x_tyl x_ov0 (x_CTb 273) x_hs x_knd 20000 273) = true := by decide +kernel
set_option maxRecDepth 1000000 in
theorem x_m2740 : (x_CT 274).all (vMeth x_KT x_tb x_tyl x_ov0 (x_CTb 274) x_hs x_knd 20000 274) = true := by decide +kernel
end XM19
