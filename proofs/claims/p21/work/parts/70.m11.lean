/-! What the checker finds right: part 11. -/
noncomputable section XM11
set_option maxRecDepth 1000000 in
theorem x_m1930 : (x_CT 193).all (vMeth x_KT x_tb x_tyl x_ov0 (x_CTb 193) x_hs x_knd 20000 193) = true := by decide +kernel
set_option maxRecDepth 1000000 in
theorem x_m1950 : (x_CT 195).all (vMeth x_KT x_tb x_tyl x_ov0 (x_CTb 195) x_hs x_knd 20000 195) = true := by decide +kernel
set_option maxRecDepth 1000000 in
theorem x_m1980 : (x_CT 198).all (vMeth x_KT x_tb x_tyl x_ov0 (x_CTb 198) x_hs x_knd 20000 198) = true := by decide +kernel
set_option maxRecDepth 1000000 in
theorem x_m2000 : (x_CT 200).all (vMeth x_KT x_tb x_tyl x_ov0 (x_CTb 200) x_hs x_knd 20000 200) = true := by decide +kernel
set_option maxRecDepth 1000000 in
theorem x_m2020 : (x_CT 202).all (vMeth x_KT x_tb x_tyl x_ov0 (x_CTb 202) x_hs x_knd 20000 202) = true := by decide +kernel
set_option maxRecDepth 1000000 in
theorem x_m2030 : (x_CT 203).all (vMeth x_KT x_tb x_tyl x_ov0 (x_CTb 203) x_hs x_knd 20000 203) = true := by decide +kernel
end XM11
