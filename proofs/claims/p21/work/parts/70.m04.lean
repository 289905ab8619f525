/-! What the checker finds right: part 4. -/
noncomputable section XM4
set_option maxRecDepth 1000000 in
theorem x_m370 : (x_CT 37).all (vMeth x_KT x_tb x_tyl x_ov0 (x_CTb 37) x_hs x_knd 20000 37) = true := by decide +kernel
set_option maxRecDepth 1000000 in
theorem x_m410 : (x_CT 41).all (vMeth x_KT x_tb x_tyl x_ov0 (x_CTb 41) x_hs x_knd 20000 41) = true := by decide +kernel
set_option maxRecDepth 1000000 in
theorem x_m430 : (x_CT 43).all (vMeth x_KT x_tb x_tyl x_ov0 (x_CTb 43) x_hs x_knd 20000 43) = true := by decide +kernel
set_option maxRecDepth 1000000 in
theorem x_m460 : (x_CT 46).all (vMeth x_KT x_tb x_tyl x_ov0 (x_CTb 46) x_hs x_knd 20000 46) = true := by decide +kernel
set_option maxRecDepth 1000000 in
theorem x_m470 : (x_CT 47).all (vMeth x_KT x_tb x_tyl x_ov0 (x_CTb 47) x_hs x_knd 20000 47) = true := by decide +kernel
set_option maxRecDepth 1000000 in
theorem x_m490 : (x_CT 49).all (vMeth x_KT x_tb x_tyl x_ov0 (x_CTb 49) x_hs x_knd 20000 49) = true := by decide +kernel
set_option maxRecDepth 1000000 in
theorem x_m510 : (x_CT 51).all (vMeth x_KT x_tb x_tyl x_ov0 (x_CTb 51) x_hs x_knd 20000 51) = true := by decide +kernel
set_option maxRecDepth 1000000 in
theorem x_m520 : (x_CT 52).all (vMeth x_KT x_tb x_tyl x_ov0 (x_CTb 52) x_hs x_knd 20000 52) = true := by decide +kernel
set_option maxRecDepth 1000000 in
theorem x_m530 : (x_CT 53).all (vMeth x_KT x_tb x_tyl x_ov0 (x_CTb 53) x_hs x_knd 20000 53) = true := by decide +kernel
set_option maxRecDepth 1000000 in
theorem x_m540 : (x_CT 54).all (vMeth x_KT x_tb x_tyl x_ov0 (x_CTb 54) x_hs x_knd 20000 54) = true := by decide +kernel
set_option maxRecDepth 1000000 in
theorem x_m620 : (x_CT 62).all (vMeth x_KT x_tb x_tyl x_ov0 (x_CTb 62) x_hs x_knd 20000 62) = true := by decide +kernel
set_option maxRecDepth 1000000 in
theorem x_m640 : (x_CT 64).all (vMeth x_KT x_tb x_tyl x_ov0 (x_CTb 64) x_hs x_knd 20000 64) = true := by decide +kernel
set_option maxRecDepth 1000000 in
theorem x_m660 : (x_CT 66).all (vMeth x_KT x_tb x_tyl x_ov0 (x_CTb 66) x_hs x_knd 20000 66) = true := by decide +kernel
end XM4
