/-! What the checker finds right: part 15. -/
noncomputable section XM15
set_option maxRecDepth 1000000 in
theorem x_m2060 : (x_CT 206).all (vMeth x_KT x_tb x_tyl x_ov0 (x_CTb 206) x_hs x_knd 20000 206) = true := by decide +kernel
set_option maxRecDepth 1000000 in
theorem x_m2090 : (x_CT 209).all (vMeth x_KT x_tb x_tyl x_ov0 (x_CTb 209) x_hs x_knd 20000 209) = true := by decide +kernel
set_option maxRecDepth 1000000 in
theorem x_m2100 : (x_CT 210).all (vMeth x_KT x_tb x_tyl x_ov0 (x_CTb 210) x_hs x_knd 20000 210) = true := by decide +kernel
set_option maxRecDepth 1000000 in
theorem x_m2110 : (x_CT 211).all (vMeth x_KT x_tb x_tyl x_ov0 (x_CTb 211) x_hs x_knd 20000 211) = true := by decide +kernel
set_option maxRecDepth 1000000 in
theorem x_m2130 : (x_CT 213).all (vMeth x_KT x_tb x_tyl x_ov0 (x_CTb 213) x_hs x_knd 20000 213) = true := by decide +kernel
set_option maxRecDepth 1000000 in
theorem x_m2140 : (x_CT 214).all (vMeth x_KT x_tb x_tyl x_ov0 (x_CTb 214) x_hs x_knd 20000 214) = true := by decide +kernel
set_option maxRecDepth 1000000 in
theorem x_m2150 : (x_CT 215).all (vMeth x_KT x_tb x_tyl x_ov0 (x_CTb 215) x_hs x_knd 20000 215) = true := by decide +kernel
set_option maxRecDepth 1000000 in
theorem x_m2160 : (x_CT 216).all (vMeth x_KT x_tb x_tyl x_ov0 (x_CTb 216) x_hs x_knd 20000 216) = true := by decide +kernel
set_option maxRecDepth 1000000 in
theorem x_m2170 : (x_CT 217).all (vMeth x_KT x_tb x_tyl x_ov0 (x_CTb 217) x_hs x_knd 20000 217) = true := by decide +kernel
set_option maxRecDepth 1000000 in
theorem x_m2180 : (x_CT 218).all (vMeth x_KT x_tb x_tyl x_ov0 (x_CTb 218) x_hs x_knd 20000 218) = true := by decide +kernel
set_option maxRecDepth 1000000 in
theorem x_m2190 : (x_CT 219).all (vMeth x_KT x_tb x_tyl x_ov0 (x_CTb 219) x_hs x_knd 20000 219) = true := by decide +kernel
set_option maxRecDepth 1000000 in
theorem x_m2200 : (x_CT 220).all (vMeth x_KT x_tb x_tyl x_ov0 (x_CTb 220) x_hs x_knd 20000 220) = true := by decide +kernel
set_option maxRecDepth 1000000 in
theorem x_m2210 : (x_CT 221).all (vMeth x_KT x_tb x_tyl x_ov0 (x_CTb 221) x_hs x_knd 20000 221) = true := by decide +kernel
set_option maxRecDepth 1000000 in
theorem x_m2220 : (x_CT 222).all (vMeth x_KT x_tb x_tyl x_ov0 (x_CTb 222) x_hs x_knd 20000 222) = true := by decide +kernel
set_option maxRecDepth 1000000 in
theorem x_m2230 : (x_CT 223).all (vMeth x_KT x_tb x_tyl x_ov0 (x_CTb 223) x_hs x_knd 20000 223) = true := by decide +kernel
set_option maxRecDepth 1000000 in
theorem x_m2240 : (x_CT 224).all (vMeth x_KT x_tb x_tyl x_ov0 (x_CTb 224) x_hs x_knd 20000 224) = true := by decide +kernel
set_option maxRecDepth 1000000 in
theorem x_m2250 : (x_CT 225).all (vMeth x_KT x_tb x_tyl x_ov0 (x_CTb 225) x_hs x_knd 20000 225) = true := by decide +kernel
set_option maxRecDepth 1000000 in
theorem x_m2260 : (x_CT 226).all (vMeth x_KT x_tb x_tyl x_ov0 (x_CTb 226) x_hs x_knd 20000 226) = true := by decide +kernel
set_option maxRecDepth 1000000 in
theorem x_m2270 : (x_CT 227).all (vMeth x_KT x_tb x_tyl x_ov0 (x_CTb 227) x_hs x_knd 20000 227) = true := by decide +kernel
set_option maxRecDepth 1000000 in
theorem x_m2280 : (x_CT 228).all (vMeth x_KT x_tb x_tyl x_ov0 (x_CTb 228) x_hs x_knd 20000 228) = true := by decide +kernel
set_option maxRecDepth 1000000 in
theorem x_m2290 : (x_CT 229).all (vMeth x_KT x_tb x_tyl x_ov0 (x_CTb 229) x_hs x_knd 20000 229) = true := by decide +kernel
set_option maxRecDepth 1000000 in
theorem x_m2300 : (x_CT 230).all (vMeth x_KT x_tb x_tyl x_ov0 (x_CTb 230) x_hs x_knd 20000 230) = true := by decide +kernel
set_option maxRecDepth 1000000 in
theorem x_m2310 : (x_CT 231).all (vMeth x_KT x_tb x_tyl x_ov0 (x_CTb 231) x_hs x_knd 20000 231) = true := by decide +kernel
set_option maxRecDepth 1000000 in
theorem x_m2320 : (x_CT 232).all (vMeth x_KT x_tb x_tyl x_ov0 (x_CTb 232) x_hs x_knd 20000 232) = true := by decide +kernel
set_option maxRecDepth 1000000 in
theorem x_m2330 : (x_CT 233).all (vMeth x_KT x_tb x_tyl x_ov0 (x_CTb 233) x_hs x_knd 20000 233) = true := by decide +kernel
set_option maxRecDepth 1000000 in
theorem x_m2350 : (x_CT 235).all (vMeth x_KT x_tb x_tyl x_ov0 (x_CTb 235) x_hs x_knd 20000 235) = true := by decide +kernel
set_option maxRecDepth 1000000 in
theorem x_m2360 : (x_CT 236).all (vMeth x_KT x_tb x_tyl x_ov0 (x_CTb 236) x_hs x_knd 20000 236) = true := by decide +kernel
set_option maxRecDepth 1000000 in
theorem x_m2390 : (x_CT 239).all (vMeth x_KT x_tb x_tyl x_ov0 (x_CTb 239) x_hs x_knd 20000 239) = true := by decide +kernel
set_option maxRecDepth 1000000 in
theorem x_m2400 : (x_CT 240).all (vMeth x_KT x_tb x_tyl x_ov0 (x_CTb 240) x_hs x_knd 20000 240) = true := by decide +kernel
set_option maxRecDepth 1000000 in
theorem x_m2410 : (x_CT 241).all (vMeth x_KT x_tb x_tyl x_ov0 (x_CTb 241) x_hs x_knd 20000 241) = true := by decide +kernel
set_option maxRecDepth 1000000 in
theorem x_m2420 : (x_CT 242).all (vMeth x_KT x_tb x_tyl x_ov0 (x_CTb 242) x_hs x_knd 20000 242) = true := by decide +kernel
set_option maxRecDepth 1000000 in
theorem x_m2430 : (x_CT 243).all (vMeth x_KT x_tb x_tyl x_ov0 (x_CTb 243) x_hs x_knd 20000 243) = true := by decide +kernel
end XM15
