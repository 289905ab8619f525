/-! What the checker finds right: part 8. -/
noncomputable section XM8
set_option maxRecDepth 1000000 in
theorem x_m1710 : (x_CT 171).all (vMeth x_KT x_tb x_tyl x_ov0 (x_CTb 171) x_hs x_knd 20000 171) = true := by decide +kernel
set_option maxRecDepth 1000000 in
theorem x_m1720 : (x_CT 172).all (vMeth x_KT x_tb x_tyl x_ov0 (x_CTb 172) x_hs x_knd 20000 172) = true := by decide +kernel
set_option maxRecDepth 1000000 in
theorem x_m1730 : (x_CT 173).all (vMeth x_KT x_tb x_tyl x_ov0 (x_CTb 173) x_hs x_knd 20000 173) = true := by decide +kernel
set_option maxRecDepth 1000000 in
theorem x_m1740 : (x_CT 174).all (vMeth x_KT x_tb x_tyl x_ov0 (x_CTb 174) x_hs x_knd 20000 174) = true := by decide +kernel
set_option maxRecDepth 1000000 in
theorem x_m1750 : (x_CT 175).all (vMeth x_KT x_tb x_tyl x_ov0 (x_CTb 175) x_hs x_knd 20000 175) = true := by decide +kernel
set_option maxRecDepth 1000000 in
theorem x_m1760 : (x_CT 176).all (vMeth x_KT x_tb x_tyl x_ov0 (x_CTb 176) x_hs x_knd 20000 176) = true := by decide +kernel
set_option maxRecDepth 1000000 in
theorem x_m1780 : (x_CT 178).all (vMeth x_KT x_tb x_tyl x_ov0 (x_CTb 178) x_hs x_knd 20000 178) = true := by decide +kernel
set_option maxRecDepth 1000000 in
theorem x_m1800 : (x_CT 180).all (vMeth x_KT x_tb x_tyl x_ov0 (x_CTb 180) x_hs x_knd 20000 180) = true := by decide +kernel
set_option maxRecDepth 1000000 in
theorem x_m1820 : (x_CT 182).all (vMeth x_KT x_tb x_tyl x_ov0 (x_CTb 182) x_hs x_knd 20000 182) = true := by decide +kernel
end XM8
