/-! What the checker finds right: part 5. -/
section XM5
set_option maxRecDepth 1000000 in
theorem x_m206a : (x_CT 206).all (vMeth x_KT x_tb x_tyl (x_ovS none) (x_CTb 206) x_hs x_knd 20000 206) = true := by decide +kernel
set_option maxRecDepth 1000000 in
theorem x_m206b : (x_CT 206).all (vMeth x_KT x_tb x_tyl (x_ovS (some 1200000)) (x_CTb 206) x_hs x_knd 20000 206) = true := by decide +kernel
set_option maxRecDepth 1000000 in
theorem x_m210a : (x_CT 210).all (vMeth x_KT x_tb x_tyl (x_ovS none) (x_CTb 210) x_hs x_knd 20000 210) = true := by decide +kernel
set_option maxRecDepth 1000000 in
theorem x_m210b : (x_CT 210).all (vMeth x_KT x_tb x_tyl (x_ovS (some 1200000)) (x_CTb 210) x_hs x_knd 20000 210) = true := by decide +kernel
set_option maxRecDepth 1000000 in
theorem x_m211a : (x_CT 211).all (vMeth x_KT x_tb x_tyl (x_ovS none) (x_CTb 211) x_hs x_knd 20000 211) = true := by decide +kernel
set_option maxRecDepth 1000000 in
theorem x_m211b : (x_CT 211).all (vMeth x_KT x_tb x_tyl (x_ovS (some 1200000)) (x_CTb 211) x_hs x_knd 20000 211) = true := by decide +kernel
set_option maxRecDepth 1000000 in
theorem x_m213a : (x_CT 213).all (vMeth x_KT x_tb x_tyl (x_ovS none) (x_CTb 213) x_hs x_knd 20000 213) = true := by decide +kernel
set_option maxRecDepth 1000000 in
theorem x_m213b : (x_CT 213).all (vMeth x_KT x_tb x_tyl (x_ovS (some 1200000)) (x_CTb 213) x_hs x_knd 20000 213) = true := by decide +kernel
set_option maxRecDepth 1000000 in
theorem x_m214a : (x_CT 214).all (vMeth x_KT x_tb x_tyl (x_ovS none) (x_CTb 214) x_hs x_knd 20000 214) = true := by decide +kernel
set_option maxRecDepth 1000000 in
theorem x_m214b : (x_CT 214).all (vMeth x_KT x_tb x_tyl (x_ovS (some 1200000)) (x_CTb 214) x_hs x_knd 20000 214) = true := by decide +kernel
set_option maxRecDepth 1000000 in
theorem x_m215a : (x_CT 215).all (vMeth x_KT x_tb x_tyl (x_ovS none) (x_CTb 215) x_hs x_knd 20000 215) = true := by decide +kernel
set_option maxRecDepth 1000000 in
theorem x_m215b : (x_CT 215).all (vMeth x_KT x_tb x_tyl (x_ovS (some 1200000)) (x_CTb 215) x_hs x_knd 20000 215) = true := by decide +kernel
set_option maxRecDepth 1000000 in
theorem x_m216a : (x_CT 216).all (vMeth x_KT x_tb x_tyl (x_ovS none) (x_CTb 216) x_hs x_knd 20000 216) = true := by decide +kernel
set_option maxRecDepth 1000000 in
theorem x_m216b : (x_CT 216).all (vMeth x_KT x_tb x_tyl (x_ovS (some 1200000)) (x_CTb 216) x_hs x_knd 20000 216) = true := by decide +kernel
set_option maxRecDepth 1000000 in
theorem x_m217a : (x_CT 217).all (vMeth x_KT x_tb x_tyl (x_ovS none) (x_CTb 217) x_hs x_knd 20000 217) = true := by decide +kernel
set_option maxRecDepth 1000000 in
theorem x_m217b : (x_CT 217).all (vMeth x_KT x_tb x_tyl (x_ovS (some 1200000)) (x_CTb 217) x_hs x_knd 20000 217) = true := by decide +kernel
set_option maxRecDepth 1000000 in
theorem x_m218a : (x_CT 218).all (vMeth x_KT x_tb x_tyl (x_ovS none) (x_CTb 218) x_hs x_knd 20000 218) = true := by decide +kernel
set_option maxRecDepth 1000000 in
theorem x_m218b : (x_CT 218).all (vMeth x_KT x_tb x_tyl (x_ovS (some 1200000)) (x_CTb 218) x_hs x_knd 20000 218) = true := by decide +kernel
set_option maxRecDepth 1000000 in
theorem x_m219a : (x_CT 219).all (vMeth x_KT x_tb x_tyl (x_ovS none) (x_CTb 219) x_hs x_knd 20000 219) = true := by decide +kernel
set_option maxRecDepth 1000000 in
theorem x_m219b : (x_CT 219).all (vMeth x_KT x_tb x_tyl (x_ovS (some 1200000)) (x_CTb 219) x_hs x_knd 20000 219) = true := by decide +kernel
set_option maxRecDepth 1000000 in
theorem x_m220a : (x_CT 220).all (vMeth x_KT x_tb x_tyl (x_ovS none) (x_CTb 220) x_hs x_knd 20000 220) = true := by decide +kernel
set_option maxRecDepth 1000000 in
theorem x_m220b : (x_CT 220).all (vMeth x_KT x_tb x_tyl (x_ovS (some 1200000)) (x_CTb 220) x_hs x_knd 20000 220) = true := by decide +kernel
set_option maxRecDepth 1000000 in
theorem x_m221a : (x_CT 221).all (vMeth x_KT x_tb x_tyl (x_ovS none) (x_CTb 221) x_hs x_knd 20000 221) = true := by decide +kernel
set_option maxRecDepth 1000000 in
theorem x_m221b : (x_CT 221).all (vMeth x_KT x_tb x_tyl (x_ovS (some 1200000)) (x_CTb 221) x_hs x_knd 20000 221) = true := by decide +kernel
set_option maxRecDepth 1000000 in
theorem x_m222a : (x_CT 222).all (vMeth x_KT x_tb x_tyl (x_ovS none) (x_CTb 222) x_hs x_knd 20000 222) = true := by decide +kernel
set_option maxRecDepth 1000000 in
theorem x_m222b : (x_CT 222).all (vMeth x_KT x_tb x_tyl (x_ovS (some 1200000)) (x_CTb 222) x_hs x_knd 20000 222) = true := by decide +kernel
set_option maxRecDepth 1000000 in
theorem x_m223a : (x_CT 223).all (vMeth x_KT x_tb x_tyl (x_ovS none) (x_CTb 223) x_hs x_knd 20000 223) = true := by decide +kernel
set_option maxRecDepth 1000000 in
theorem x_m223b : (x_CT 223).all (vMeth x_KT x_tb x_tyl (x_ovS (some 1200000)) (x_CTb 223) x_hs x_knd 20000 223) = true := by decide +kernel
set_option maxRecDepth 1000000 in
theorem x_m224a : (x_CT 224).all (vMeth x_KT x_tb x_tyl (x_ovS none) (x_CTb 224) x_hs x_knd 20000 224) = true := by decide +kernel
set_option maxRecDepth 1000000 in
theorem x_m224b : (x_CT 224).all (vMeth x_KT x_tb x_tyl (x_ovS (some 1200000)) (x_CTb 224) x_hs x_knd 20000 224) = true := by decide +kernel
set_option maxRecDepth 1000000 in
theorem x_m225a : (x_CT 225).all (vMeth x_KT x_tb x_tyl (x_ovS none) (x_CTb 225) x_hs x_knd 20000 225) = true := by decide +kernel
set_option maxRecDepth 1000000 in
theorem x_m225b : (x_CT 225).all (vMeth x_KT x_tb x_tyl (x_ovS (some 1200000)) (x_CTb 225) x_hs x_knd 20000 225) = true := by decide +kernel
set_option maxRecDepth 1000000 in
theorem x_m226a : (x_CT 226).all (vMeth x_KT x_tb x_tyl (x_ovS none) (x_CTb 226) x_hs x_knd 20000 226) = true := by decide +kernel
set_option maxRecDepth 1000000 in
theorem x_m226b : (x_CT 226).all (vMeth x_KT x_tb x_tyl (x_ovS (some 1200000)) (x_CTb 226) x_hs x_knd 20000 226) = true := by decide +kernel
set_option maxRecDepth 1000000 in
theorem x_m227a : (x_CT 227).all (vMeth x_KT x_tb x_tyl (x_ovS none) (x_CTb 227) x_hs x_knd 20000 227) = true := by decide +kernel
set_option maxRecDepth 1000000 in
theorem x_m227b : (x_CT 227).all (vMeth x_KT x_tb x_tyl (x_ovS (some 1200000)) (x_CTb 227) x_hs x_knd 20000 227) = true := by decide +kernel
set_option maxRecDepth 1000000 in
theorem x_m228a : (x_CT 228).all (vMeth x_KT x_tb x_tyl (x_ovS none) (x_CTb 228) x_hs x_knd 20000 228) = true := by decide +kernel
set_option maxRecDepth 1000000 in
theorem x_m228b : (x_CT 228).all (vMeth x_KT x_tb x_tyl (x_ovS (some 1200000)) (x_CTb 228) x_hs x_knd 20000 228) = true := by decide +kernel
set_option maxRecDepth 1000000 in
theorem x_m229a : (x_CT 229).all (vMeth x_KT x_tb x_tyl (x_ovS none) (x_CTb 229) x_hs x_knd 20000 229) = true := by decide +kernel
set_option maxRecDepth 1000000 in
theorem x_m229b : (x_CT 229).all (vMeth x_KT x_tb x_tyl (x_ovS (some 1200000)) (x_CTb 229) x_hs x_knd 20000 229) = true := by decide +kernel
set_option maxRecDepth 1000000 in
theorem x_m230a : (x_CT 230).all (vMeth x_KT x_tb x_tyl (x_ovS none) (x_CTb 230) x_hs x_knd 20000 230) = true := by decide +kernel
set_option maxRecDepth 1000000 in
theorem x_m230b : (x_CT 230).all (vMeth x_KT x_tb x_tyl (x_ovS (some 1200000)) (x_CTb 230) x_hs x_knd 20000 230) = true := by decide +kernel
set_option maxRecDepth 1000000 in
theorem x_m231a : (x_CT 231).all (vMeth x_KT x_tb x_tyl (x_ovS none) (x_CTb 231) x_hs x_knd 20000 231) = true := by decide +kernel
set_option maxRecDepth 1000000 in
theorem x_m231b : (x_CT 231).all (vMeth x_KT x_tb x_tyl (x_ovS (some 1200000)) (x_CTb 231) x_hs x_knd 20000 231) = true := by decide +kernel
set_option maxRecDepth 1000000 in
theorem x_m232a : (x_CT 232).all (vMeth x_KT x_tb x_tyl (x_ovS none) (x_CTb 232) x_hs x_knd 20000 232) = true := by decide +kernel
set_option maxRecDepth 1000000 in
theorem x_m232b : (x_CT 232).all (vMeth x_KT x_tb x_tyl (x_ovS (some 1200000)) (x_CTb 232) x_hs x_knd 20000 232) = true := by decide +kernel
set_option maxRecDepth 1000000 in
theorem x_m233a : (x_CT 233).all (vMeth x_KT x_tb x_tyl (x_ovS none) (x_CTb 233) x_hs x_knd 20000 233) = true := by decide +kernel
set_option maxRecDepth 1000000 in
theorem x_m233b : (x_CT 233).all (vMeth x_KT x_tb x_tyl (x_ovS (some 1200000)) (x_CTb 233) x_hs x_knd 20000 233) = true := by decide +kernel
set_option maxRecDepth 1000000 in
theorem x_m235a : (x_CT 235).all (vMeth x_KT x_tb x_tyl (x_ovS none) (x_CTb 235) x_hs x_knd 20000 235) = true := by decide +kernel
set_option maxRecDepth 1000000 in
theorem x_m235b : (x_CT 235).all (vMeth x_KT x_tb x_tyl (x_ovS (some 1200000)) (x_CTb 235) x_hs x_knd 20000 235) = true := by decide +kernel
set_option maxRecDepth 1000000 in
theorem x_m236a : (x_CT 236).all (vMeth x_KT x_tb x_tyl (x_ovS none) (x_CTb 236) x_hs x_knd 20000 236) = true := by decide +kernel
set_option maxRecDepth 1000000 in
theorem x_m236b : (x_CT 236).all (vMeth x_KT x_tb x_tyl (x_ovS (some 1200000)) (x_CTb 236) x_hs x_knd 20000 236) = true := by decide +kernel
set_option maxRecDepth 1000000 in
theorem x_m239a : (x_CT 239).all (vMeth x_KT x_tb x_tyl (x_ovS none) (x_CTb 239) x_hs x_knd 20000 239) = true := by decide +kernel
set_option maxRecDepth 1000000 in
theorem x_m239b : (x_CT 239).all (vMeth x_KT x_tb x_tyl (x_ovS (some 1200000)) (x_CTb 239) x_hs x_knd 20000 239) = true := by decide +kernel
set_option maxRecDepth 1000000 in
theorem x_m240a : (x_CT 240).all (vMeth x_KT x_tb x_tyl (x_ovS none) (x_CTb 240) x_hs x_knd 20000 240) = true := by decide +kernel
set_option maxRecDepth 1000000 in
theorem x_m240b : (x_CT 240).all (vMeth x_KT x_tb x_tyl (x_ovS (some 1200000)) (x_CTb 240) x_hs x_knd 20000 240) = true := by decide +kernel
set_option maxRecDepth 1000000 in
theorem x_m241a : (x_CT 241).all (vMeth x_KT x_tb x_tyl (x_ovS none) (x_CTb 241) x_hs x_knd 20000 241) = true := by decide +kernel
set_option maxRecDepth 1000000 in
theorem x_m241b : (x_CT 241).all (vMeth x_KT x_tb x_tyl (x_ovS (some 1200000)) (x_CTb 241) x_hs x_knd 20000 241) = true := by decide +kernel
set_option maxRecDepth 1000000 in
theorem x_m242a : (x_CT 242).all (vMeth x_KT x_tb x_tyl (x_ovS none) (x_CTb 242) x_hs x_knd 20000 242) = true := by decide +kernel
set_option maxRecDepth 1000000 in
theorem x_m242b : (x_CT 242).all (vMeth x_KT x_tb x_tyl (x_ovS (some 1200000)) (x_CTb 242) x_hs x_knd 20000 242) = true := by decide +kernel
set_option maxRecDepth 1000000 in
theorem x_m243a : (x_CT 243).all (vMeth x_KT x_tb x_tyl (x_ovS none) (x_CTb 243) x_hs x_knd 20000 243) = true := by decide +kernel
set_option maxRecDepth 1000000 in
theorem x_m243b : (x_CT 243).all (vMeth x_KT x_tb x_tyl (x_ovS (some 1200000)) (x_CTb 243) x_hs x_knd 20000 243) = true := by decide +kernel
set_option maxRecDepth 1000000 in
theorem x_m245a : (x_CT 245).all (vMeth x_KT x_tb x_tyl (x_ovS none) (x_CTb 245) x_hs x_knd 20000 245) = true := by decide +kernel
set_option maxRecDepth 1000000 in
theorem x_m245b : (x_CT 245).all (vMeth x_KT x_tb x_tyl (x_ovS (some 1200000)) (x_CTb 245) x_hs x_knd 20000 245) = true := by decide +kernel
set_option maxRecDepth 1000000 in
theorem x_m246a : (x_CT 246).all (vMeth x_KT x_tb x_tyl (x_ovS none) (x_CTb 246) x_hs x_knd 20000 246) = true := by decide +kernel
set_option maxRecDepth 1000000 in
theorem x_m246b : (x_CT 246).all (vMeth x_KT x_tb x_tyl (x_ovS (some 1200000)) (x_CTb 246) x_hs x_knd 20000 246) = true := by decide +kernel
set_option maxRecDepth 1000000 in
theorem x_m247a : (x_CT 247).all (vMeth x_KT x_tb x_tyl (x_ovS none) (x_CTb 247) x_hs x_knd 20000 247) = true := by decide +kernel
set_option maxRecDepth 1000000 in
theorem x_m247b : (x_CT 247).all (vMeth x_KT x_tb x_tyl (x_ovS (some 1200000)) (x_CTb 247) x_hs x_knd 20000 247) = true := by decide +kernel
set_option maxRecDepth 1000000 in
theorem x_m249a : (x_CT 249).all (vMeth x_KT x_tb x_tyl (x_ovS none) (x_CTb 249) x_hs x_knd 20000 249) = true := by decide +kernel
set_option maxRecDepth 1000000 in
theorem x_m249b : (x_CT 249).all (vMeth x_KT x_tb x_tyl (x_ovS (some 1200000)) (x_CTb 249) x_hs x_knd 20000 249) = true := by decide +kernel
set_option maxRecDepth 1000000 in
theorem x_m250a : (x_CT 250).all (vMeth x_KT x_tb x_tyl (x_ovS none) (x_CTb 250) x_hs x_knd 20000 250) = true := by decide +kernel
set_option maxRecDepth 1000000 in
theorem x_m250b : (x_CT 250).all (vMeth x_KT x_tb x_tyl (x_ovS (some 1200000)) (x_CTb 250) x_hs x_knd 20000 250) = true := by decide +kernel
set_option maxRecDepth 1000000 in
theorem x_m251a : (x_CT 251).all (vMeth x_KT x_tb x_tyl (x_ovS none) (x_CTb 251) x_hs x_knd 20000 251) = true := by decide +kernel
set_option maxRecDepth 1000000 in
theorem x_m251b : (x_CT 251).all (vMeth x_KT x_tb x_tyl (x_ovS (some 1200000)) (x_CTb 251) x_hs x_knd 20000 251) = true := by decide +kernel
set_option maxRecDepth 1000000 in
theorem x_m253a : (x_CT 253).all (vMeth x_KT x_tb x_tyl (x_ovS none) (x_CTb 253) x_hs x_knd 20000 253) = true := by decide +kernel
set_option maxRecDepth 1000000 in
theorem x_m253b : (x_CT 253).all (vMeth x_KT x_tb x_tyl (x_ovS (some 1200000)) (x_CTb 253) x_hs x_knd 20000 253) = true := by decide +kernel
set_option maxRecDepth 1000000 in
theorem x_m254a : (x_CT 254).all (vMeth x_KT x_tb x_tyl (x_ovS none) (x_CTb 254) x_hs x_knd 20000 254) = true := by decide +kernel
set_option maxRecDepth 1000000 in
theorem x_m254b : (x_CT 254).all (vMeth x_KT x_tb x_tyl (x_ovS (some 1200000)) (x_CTb 254) x_hs x_knd 20000 254) = true := by decide +kernel
set_option maxRecDepth 1000000 in
theorem x_m255a : (x_CT 255).all (vMeth x_KT x_tb x_tyl (x_ovS none) (x_CTb 255) x_hs x_knd 20000 255) = true := by decide +kernel
set_option maxRecDepth 1000000 in
theorem x_m255b : (x_CT 255).all (vMeth x_KT x_tb x_tyl (x_ovS (some 1200000)) (x_CTb 255) x_hs x_knd 20000 255) = true := by decide +kernel
set_option maxRecDepth 1000000 in
theorem x_m256a : (x_CT 256).all (vMeth x_KT x_tb x_tyl (x_ovS none) (x_CTb 256) x_hs x_knd 20000 256) = true := by decide +kernel
set_option maxRecDepth 1000000 in
theorem x_m256b : (x_CT 256).all (vMeth x_KT x_tb x_tyl (x_ovS (some 1200000)) (x_CTb 256) x_hs x_knd 20000 256) = true := by decide +kernel
set_option maxRecDepth 1000000 in
theorem x_m257a : (x_CT 257).all (vMeth x_KT x_tb x_tyl (x_ovS none) (x_CTb 257) x_hs x_knd 20000 257) = true := by decide +kernel
set_option maxRecDepth 1000000 in
theorem x_m257b : (x_CT 257).all (vMeth x_KT x_tb x_tyl (x_ovS (some 1200000)) (x_CTb 257) x_hs x_knd 20000 257) = true := by decide +kernel
set_option maxRecDepth 1000000 in
theorem x_m258a : (x_CT 258).all (vMeth x_KT x_tb x_tyl (x_ovS none) (x_CTb 258) x_hs x_knd 20000 258) = true := by decide +kernel
set_option maxRecDepth 1000000 in
theorem x_m258b : (x_CT 258).all (vMeth x_KT x_tb x_tyl (x_ovS (some 1200000)) (x_CTb 258) x_hs x_knd 20000 258) = true := by decide +kernel
set_option maxRecDepth 1000000 in
theorem x_m262a : (x_CT 262).all (vMeth x_KT x_tb x_tyl (x_ovS none) (x_CTb 262) x_hs x_knd 20000 262) = true := by decide +kernel
set_option maxRecDepth 1000000 in
theorem x_m262b : (x_CT 262).all (vMeth x_KT x_tb x_tyl (x_ovS (some 1200000)) (x_CTb 262) x_hs x_knd 20000 262) = true := by decide +kernel
set_option maxRecDepth 1000000 in
theorem x_m263a : (x_CT 263).all (vMeth x_KT x_tb x_tyl (x_ovS none) (x_CTb 263) x_hs x_knd 20000 263) = true := by decide +kernel
set_option maxRecDepth 1000000 in
theorem x_m263b : (x_CT 263).all (vMeth x_KT x_tb x_tyl (x_ovS (some 1200000)) (x_CTb 263) x_hs x_knd 20000 263) = true := by decide +kernel
end XM5
