/-! What the checker finds right: part 12. -/
section XM12
set_option maxRecDepth 1000000 in
theorem x_m160b : (x_CT 160).all (vMeth x_KT x_tb x_tyl (x_ovS (some 1200000)) (x_CTb 160) x_hs x_knd 20000 160) = true := by decide +kernel
set_option maxRecDepth 1000000 in
theorem x_m166a : (x_CT 166).all (vMeth x_KT x_tb x_tyl (x_ovS none) (x_CTb 166) x_hs x_knd 20000 166) = true := by decide +kernel
set_option maxRecDepth 1000000 in
theorem x_m166b : (x_CT 166).all (vMeth x_KT x_tb x_tyl (x_ovS (some 1200000)) (x_CTb 166) x_hs x_knd 20000 166) = true := by decide +kernel
set_option maxRecDepth 1000000 in
theorem x_m168a : (x_CT 168).all (vMeth x_KT x_tb x_tyl (x_ovS none) (x_CTb 168) x_hs x_knd 20000 168) = true := by decide +kernel
set_option maxRecDepth 1000000 in
theorem x_m168b : (x_CT 168).all (vMeth x_KT x_tb x_tyl (x_ovS (some 1200000)) (x_CTb 168) x_hs x_knd 20000 168) = true := by decide +kernel
set_option maxRecDepth 1000000 in
theorem x_m169a : (x_CT 169).all (vMeth x_KT x_tb x_tyl (x_ovS none) (x_CTb 169) x_hs x_knd 20000 169) = true := by decide +kernel
set_option maxRecDepth 1000000 in
theorem x_m169b : (x_CT 169).all (vMeth x_KT x_tb x_tyl (x_ovS (some 1200000)) (x_CTb 169) x_hs x_knd 20000 169) = true := by decide +kernel
set_option maxRecDepth 1000000 in
theorem x_m171a : (x_CT 171).all (vMeth x_KT x_tb x_tyl (x_ovS none) (x_CTb 171) x_hs x_knd 20000 171) = true := by decide +kernel
set_option maxRecDepth 1000000 in
theorem x_m171b : (x_CT 171).all (vMeth x_KT x_tb x_tyl (x_ovS (some 1200000)) (x_CTb 171) x_hs x_knd 20000 171) = true := by decide +kernel
set_option maxRecDepth 1000000 in
theorem x_m172a : (x_CT 172).all (vMeth x_KT x_tb x_tyl (x_ovS none) (x_CTb 172) x_hs x_knd 20000 172) = true := by decide +kernel
set_option maxRecDepth 1000000 in
theorem x_m172b : (x_CT 172).all (vMeth x_KT x_tb x_tyl (x_ovS (some 1200000)) (x_CTb 172) x_hs x_knd 20000 172) = true := by decide +kernel
set_option maxRecDepth 1000000 in
theorem x_m173a : (x_CT 173).all (vMeth x_KT x_tb x_tyl (x_ovS none) (x_CTb 173) x_hs x_knd 20000 173) = true := by decide +kernel
set_option maxRecDepth 1000000 in
theorem x_m173b : (x_CT 173).all (vMeth x_KT x_tb x_tyl (x_ovS (some 1200000)) (x_CTb 173) x_hs x_knd 20000 173) = true := by decide +kernel
set_option maxRecDepth 1000000 in
theorem x_m174a : (x_CT 174).all (vMeth x_KT x_tb x_tyl (x_ovS none) (x_CTb 174) x_hs x_knd 20000 174) = true := by decide +kernel
set_option maxRecDepth 1000000 in
theorem x_m174b : (x_CT 174).all (vMeth x_KT x_tb x_tyl (x_ovS (some 1200000)) (x_CTb 174) x_hs x_knd 20000 174) = true := by decide +kernel
set_option maxRecDepth 1000000 in
theorem x_m175a : (x_CT 175).all (vMeth x_KT x_tb x_tyl (x_ovS none) (x_CTb 175) x_hs x_knd 20000 175) = true := by decide +kernel
set_option maxRecDepth 1000000 in
theorem x_m175b : (x_CT 175).all (vMeth x_KT x_tb x_tyl (x_ovS (some 1200000)) (x_CTb 175) x_hs x_knd 20000 175) = true := by decide +kernel
set_option maxRecDepth 1000000 in
theorem x_m176a : (x_CT 176).all (vMeth x_KT x_tb x_tyl (x_ovS none) (x_CTb 176) x_hs x_knd 20000 176) = true := by decide +kernel
set_option maxRecDepth 1000000 in
theorem x_m176b : (x_CT 176).all (vMeth x_KT x_tb x_tyl (x_ovS (some 1200000)) (x_CTb 176) x_hs x_knd 20000 176) = true := by decide +kernel
set_option maxRecDepth 1000000 in
theorem x_m178a : (x_CT 178).all (vMeth x_KT x_tb x_tyl (x_ovS none) (x_CTb 178) x_hs x_knd 20000 178) = true := by decide +kernel
set_option maxRecDepth 1000000 in
theorem x_m178b : (x_CT 178).all (vMeth x_KT x_tb x_tyl (x_ovS (some 1200000)) (x_CTb 178) x_hs x_knd 20000 178) = true := by decide +kernel
set_option maxRecDepth 1000000 in
theorem x_m180a : (x_CT 180).all (vMeth x_KT x_tb x_tyl (x_ovS none) (x_CTb 180) x_hs x_knd 20000 180) = true := by decide +kernel
set_option maxRecDepth 1000000 in
theorem x_m180b : (x_CT 180).all (vMeth x_KT x_tb x_tyl (x_ovS (some 1200000)) (x_CTb 180) x_hs x_knd 20000 180) = true := by decide +kernel
set_option maxRecDepth 1000000 in
theorem x_m182a : (x_CT 182).all (vMeth x_KT x_tb x_tyl (x_ovS none) (x_CTb 182) x_hs x_knd 20000 182) = true := by decide +kernel
set_option maxRecDepth 1000000 in
theorem x_m182b : (x_CT 182).all (vMeth x_KT x_tb x_tyl (x_ovS (some 1200000)) (x_CTb 182) x_hs x_knd 20000 182) = true := by decide +kernel
end XM12
