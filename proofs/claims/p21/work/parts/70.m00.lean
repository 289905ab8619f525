/-! What the checker finds right: part 0. -/
noncomputable section XM0
set_option maxRecDepth 1000000 in
theorem x_m110 : (x_CT 11).all (vMeth x_KT x_tb x_tyl x_ov0 (x_CTb 11) x_hs x_knd 20000 11) = true := by decide +kernel
set_option maxRecDepth 1000000 in
theorem x_m120 : (x_CT 12).all (vMeth x_KT x_tb x_tyl x_ov0 (x_CTb 12) x_hs x_knd 20000 12) = true := by decide +kernel
set_option maxRecDepth 1000000 in
theorem x_m130 : (x_CT 13).all (vMeth x_KT x_tb x_tyl x_ov0 (x_CTb 13) x_hs x_knd 20000 13) = true := by decide +kernel
end XM0
