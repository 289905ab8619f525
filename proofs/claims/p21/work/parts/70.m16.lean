/-! What the checker finds right: part 16. -/
noncomputable section XM16
set_option maxRecDepth 1000000 in
theorem x_m2450 : (x_CT 245).all (vMeth x_KT x_tb x_tyl x_ov0 (x_CTb 245) x_hs x_knd 20000 245) = true := by decide +kernel
set_option maxRecDepth 1000000 in
theorem x_m2460 : (x_CT 246).all (vMeth x_KT x_tb x_tyl x_ov0 (x_CTb 246) x_hs x_knd 20000 246) = true := by decide +kernel
set_option maxRecDepth 1000000 in
theorem x_m2470 : (x_CT 247).all (vMeth x_KT x_tb x_tyl x_ov0 (x_CTb 247) x_hs x_knd 20000 247) = true := by decide +kernel
set_option maxRecDepth 1000000 in
theorem x_m2490 : (x_CT 249).all (vMeth x_KT x_tb x_tyl x_ov0 (x_CTb 249) x_hs x_knd 20000 249) = true := by decide +kernel
set_option maxRecDepth 1000000 in
theorem x_m2500 : (x_CT 250).all (vMeth x_KT x_tb x_tyl x_ov0 (x_CTb 250) x_hs x_knd 20000 250) = true := by decide +kernel
set_option maxRecDepth 1000000 in
theorem x_m2510 : (x_CT 251).all (vMeth x_KT x_tb x_tyl x_ov0 (x_CTb 251) x_hs x_knd 20000 251) = true := by decide +kernel
set_option maxRecDepth 1000000 in
theorem x_m2530 : (x_CT 253).all (vMeth x_KT x_tb x_tyl x_ov0 (x_CTb 253) x_hs x_knd 20000 253) = true := by decide +kernel
set_option maxRecDepth 1000000 in
theorem x_m2540 : (x_CT 254).all (vMeth x_KT x_tb x_tyl x_ov0 (x_CTb 254) x_hs x_knd 20000 254) = true := by decide +kernel
end XM16
