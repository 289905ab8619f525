/-! What the checker finds right: part 15. -/
section XM15
set_option maxRecDepth 1000000 in
theorem x_m193a : (x_CT 193).all (vMeth x_KT x_tb x_tyl (x_ovS none) (x_CTb 193) x_hs x_knd 20000 193) = true := by decide +kernel
set_option maxRecDepth 1000000 in
theorem x_m193b : (x_CT 193).all (vMeth x_KT x_tb x_tyl (x_ovS (some 1200000)) (x_CTb 193) x_hs x_knd 20000 193) = true := by decide +kernel
set_option maxRecDepth 1000000 in
theorem x_m195a : (x_CT 195).all (vMeth x_KT x_tb x_tyl (x_ovS none) (x_CTb 195) x_hs x_knd 20000 195) = true := by decide +kernel
set_option maxRecDepth 1000000 in
theorem x_m195b : (x_CT 195).all (vMeth x_KT x_tb x_tyl (x_ovS (some 1200000)) (x_CTb 195) x_hs x_knd 20000 195) = true := by decide +kernel
set_option maxRecDepth 1000000 in
theorem x_m198a : (x_CT 198).all (vMeth x_KT x_tb x_tyl (x_ovS none) (x_CTb 198) x_hs x_knd 20000 198) = true := by decide +kernel
set_option maxRecDepth 1000000 in
theorem x_m198b : (x_CT 198).all (vMeth x_KT x_tb x_tyl (x_ovS (some 1200000)) (x_CTb 198) x_hs x_knd 20000 198) = true := by decide +kernel
set_option maxRecDepth 1000000 in
theorem x_m200a : (x_CT 200).all (vMeth x_KT x_tb x_tyl (x_ovS none) (x_CTb 200) x_hs x_knd 20000 200) = true := by decide +kernel
set_option maxRecDepth 1000000 in
theorem x_m200b : (x_CT 200).all (vMeth x_KT x_tb x_tyl (x_ovS (some 1200000)) (x_CTb 200) x_hs x_knd 20000 200) = true := by decide +kernel
set_option maxRecDepth 1000000 in
theorem x_m202a : (x_CT 202).all (vMeth x_KT x_tb x_tyl (x_ovS none) (x_CTb 202) x_hs x_knd 20000 202) = true := by decide +kernel
set_option maxRecDepth 1000000 in
theorem x_m202b : (x_CT 202).all (vMeth x_KT x_tb x_tyl (x_ovS (some 1200000)) (x_CTb 202) x_hs x_knd 20000 202) = true := by decide +kernel
set_option maxRecDepth 1000000 in
theorem x_m203a : (x_CT 203).all (vMeth x_KT x_tb x_tyl (x_ovS none) (x_CTb 203) x_hs x_knd 20000 203) = true := by decide +kernel
set_option maxRecDepth 1000000 in
theorem x_m203b : (x_CT 203).all (vMeth x_KT x_tb x_tyl (x_ovS (some 1200000)) (x_CTb 203) x_hs x_knd 20000 203) = true := by decide +kernel
end XM15
