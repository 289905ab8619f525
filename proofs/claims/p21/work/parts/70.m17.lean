/-! What the checker finds right: part 17. -/
noncomputable section XM17
set_option maxRecDepth 1000000 in
theorem x_m2550 : (x_CT 255).all (vMeth x_KT x_tb x_tyl x_ov0 (x_CTb 255) x_hs x_knd 20000 255) = true := by decide +kernel
set_option maxRecDepth 1000000 in
theorem x_m2560 : (x_CT 256).all (vMeth x_KT x_tb x_tyl x_ov0 (x_CTb 256) x_hs x_knd 20000 256) = true := by decide +kernel
set_option maxRecDepth 1000000 in
theorem x_m2570 : (x_CT 257).all (vMeth x_KT x_tb x_tyl x_ov0 (x_CTb 257) x_hs x_knd 20000 257) = true := by decide +kernel
set_option maxRecDepth 1000000 in
theorem x_m2580 : (x_CT 258).all (vMeth x_KT x_tb x_tyl x_ov0 (x_CTb 258) x_hs x_knd 20000 258) = true := by decide +kernel
set_option maxRecDepth 1000000 in
theorem x_m2620 : (x_CT 262).all (vMeth x_KT x_tb x_tyl x_ov0 (x_CTb 262) x_hs x_knd 20000 262) = true := by decide +kernel
end XM17
