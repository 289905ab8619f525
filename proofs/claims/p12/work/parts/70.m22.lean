/-! What the checker finds right: part 22. -/
section XM22
set_option maxRecDepth 1000000 in
theorem x_m206a : (x_CT 206).all (vMeth x_KT x_tb x_tyl (x_ovS none) (x_CTb 206) x_hs x_knd 20000 206) = true := by decide +kernel
set_option maxRecDepth 1000000 in
theorem x_m206b : (x_CT 206).all (vMeth x_KT x_tb x_tyl (x_ovS (some 1200000)) (x_CTb 206) x_hs x_knd 20000 206) = true := by decide +kernel
set_option maxRecDepth 1000000 in
theorem x_m209a : (x_CT 209).all (vMeth x_KT x_tb x_tyl (x_ovS none) (x_CTb 209) x_hs x_knd 20000 209) = true := by decide +kernel
set_option maxRecDepth 1000000 in
theorem x_m209b : (x_CT 209).all (vMeth x_KT x_tb x_tyl (x_ovS (some 1200000)) (x_CTb 209) x_hs x_knd 20000 209) = true := by decide +kernel
set_option maxRecDepth 1000000 in
theorem x_m210a : (x_CT 210).all (vMeth x_KT x_tb x_tyl (x_ovS none) (x_CTb 210) x_hs x_knd 20000 210) = true := by decide +kernel
set_option maxRecDepth 1000000 in
theorem x_m210b : (x_CT 210).all (vMeth x_KT x_tb x_tyl (x_ovS (some 1200000)) (x_CTb 210) x_hs x_knd 20000 210) = true := by decide +kernel
set_option maxRecDepth 1000000 in
theorem x_m211a : (x_CT 211).all (vMeth x_KT x_tb x_tyl (x_ovS none) (x_CTb 211) x_hs x_knd 20000 211) = true := by decide +kernel
set_option maxRecDepth 1000000 in
theorem x_m211b : (x_CT 211).all (vMeth x_KT x_tb x_tyl (x_ovS (some 1200000)) (x_CTb 211) x_hs x_knd 20000 211) = true := by decide +kernel
set_option maxRecDepth 1000000 in
theorem x_m213a : (x_CT 213).all (vMeth x_KT x_tb x_tyl (x_ovS none) (x_CTb 213) x_hs x_knd 20000 213) = true := by decide +kernel
set_option maxRecDepth 1000000 in
theorem x_m213b : (x_CT 213).all (vMeth x_KT x_tb x_tyl (x_ovS (some 1200000)) (x_CTb 213) x_hs x_knd 20000 213) = true := by decide +kernel
set_option maxRecDepth 1000000 in
theorem x_m214a : (x_CT 214).all (vMeth x_KT x_tb x_tyl (x_ovS none) (x_CTb 214) x_hs x_knd 20000 214) = true := by decide +kernel
set_option maxRecDepth 1000000 in
theorem x_m214b : (x_CT 214).all (vMeth x_KT x_tb x_tyl (x_ovS (some 1200000)) (x_CTb 214) x_hs x_knd 20000 214) = true := by decide +kernel
set_option maxRecDepth 1000000 in
theorem x_m215a : (x_CT 215).all (vMeth x_KT x_tb x_tyl (x_ovS none) (x_CTb 215) x_hs x_knd 20000 215) = true := by decide +kernel
set_option maxRecDepth 1000000 in
theorem x_m215b : (x_CT 215).all (vMeth x_KT x_tb x_tyl (x_ovS (some 1200000)) (x_CTb 215) x_hs x_knd 20000 215) = true := by decide +kernel
set_option maxRecDepth 1000000 in
theorem x_m216a : (x_CT 216).all (vMeth x_KT x_tb x_tyl (x_ovS none) (x_CTb 216) x_hs x_knd 20000 216) = true := by decide +kernel
set_option maxRecDepth 1000000 in
theorem x_m216b : (x_CT 216).all (vMeth x_KT x_tb x_tyl (x_ovS (some 1200000)) (x_CTb 216) x_hs x_knd 20000 216) = true := by decide +kernel
set_option maxRecDepth 1000000 in
theorem x_m217a : (x_CT 217).all (vMeth x_KT x_tb x_tyl (x_ovS none) (x_CTb 217) x_hs x_knd 20000 217) = true := by decide +kernel
set_option maxRecDepth 1000000 in
theorem x_m217b : (x_CT 217).all (vMeth x_KT x_tb x_tyl (x_ovS (some 1200000)) (x_CTb 217) x_hs x_knd 20000 217) = true := by decide +kernel
set_option maxRecDepth 1000000 in
theorem x_m218a : (x_CT 218).all (vMeth x_KT x_tb x_tyl (x_ovS none) (x_CTb 218) x_hs x_knd 20000 218) = true := by decide +kernel
set_option maxRecDepth 1000000 in
theorem x_m218b : (x_CT 218).all (vMeth x_KT x_tb x_tyl (x_ovS (some 1200000)) (x_CTb 218) x_hs x_knd 20000 218) = true := by decide +kernel
set_option maxRecDepth 1000000 in
theorem x_m219a : (x_CT 219).all (vMeth x_KT x_tb x_tyl (x_ovS none) (x_CTb 219) x_hs x_knd 20000 219) = true := by decide +kernel
set_option maxRecDepth 1000000 in
theorem x_m219b : (x_CT 219).all (vMeth x_KT x_tb x_tyl (x_ovS (some 1200000)) (x_CTb 219) x_hs x_knd 20000 219) = true := by decide +kernel
set_option maxRecDepth 1000000 in
theorem x_m220a : (x_CT 220).all (vMeth x_KT x_tb x_tyl (x_ovS none) (x_CTb 220) x_hs x_knd 20000 220) = true := by decide +kernel
set_option maxRecDepth 1000000 in
theorem x_m220b : (x_CT 220).all (vMeth x_KT x_tb x_tyl (x_ovS (some 1200000)) (x_CTb 220) x_hs x_knd 20000 220) = true := by decide +kernel
set_option maxRecDepth 1000000 in
theorem x_m221a : (x_CT 221).all (vMeth x_KT x_tb x_tyl (x_ovS none) (x_CTb 221) x_hs x_knd 20000 221) = true := by decide +kernel
set_option maxRecDepth 1000000 in
theorem x_m221b : (x_CT 221).all (vMeth x_KT x_tb x_tyl (x_ovS (some 1200000)) (x_CTb 221) x_hs x_knd 20000 221) = true := by decide +kernel
set_option maxRecDepth 1000000 in
theorem x_m222a : (x_CT 222).all (vMeth x_KT x_tb x_tyl (x_ovS none) (x_CTb 222) x_hs x_knd 20000 222) = true := by decide +kernel
set_option maxRecDepth 1000000 in
theorem x_m222b : (x_CT 222).all (vMeth x_KT x_tb x_tyl (x_ovS (some 1200000)) (x_CTb 222) x_hs x_knd 20000 222) = true := by decide +kernel
set_option maxRecDepth 1000000 in
theorem x_m223a : (x_CT 223).all (vMeth x_KT x_tb x_tyl (x_ovS none) (x_CTb 223) x_hs x_knd 20000 223) = true := by decide +kernel
set_option maxRecDepth 1000000 in
theorem x_m223b : (x_CT 223).all (vMeth x_KT x_tb x_tyl (x_ovS (some 1200000)) (x_CTb 223) x_hs x_knd 20000 223) = true := by decide +kernel
set_option maxRecDepth 1000000 in
theorem x_m224a : (x_CT 224).all (vMeth x_KT x_tb x_tyl (x_ovS none) (x_CTb 224) x_hs x_knd 20000 224) = true := by decide +kernel
set_option maxRecDepth 1000000 in
theorem x_m224b : (x_CT 224).all (vMeth x_KT x_tb x_tyl (x_ovS (some 1200000)) (x_CTb 224) x_hs x_knd 20000 224) = true := by decide +kernel
set_option maxRecDepth 1000000 in
theorem x_m225a : (x_CT 225).all (vMeth x_KT x_tb x_tyl (x_ovS none) (x_CTb 225) x_hs x_knd 20000 225) = true := by decide +kernel
set_option maxRecDepth 1000000 in
theorem x_m225b : (x_CT 225).all (vMeth x_KT x_tb x_tyl (x_ovS (some 1200000)) (x_CTb 225) x_hs x_knd 20000 225) = true := by decide +kernel
set_option maxRecDepth 1000000 in
theorem x_m226a : (x_CT 226).all (vMeth x_KT x_tb x_tyl (x_ovS none) (x_CTb 226) x_hs x_knd 20000 226) = true := by decide +kernel
set_option maxRecDepth 1000000 in
theorem x_m226b : (x_CT 226).all (vMeth x_KT x_tb x_tyl (x_ovS (some 1200000)) (x_CTb 226) x_hs x_knd 20000 226) = true := by decide +kernel
end XM22
