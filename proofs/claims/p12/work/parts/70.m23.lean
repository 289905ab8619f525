/-! What the checker finds right: part 23. -/
section XM23
set_option maxRecDepth 1000000 in
theorem x_m227a : (x_CT 227).all (vMeth x_KT x_tb x_tyl (x_ovS none) (x_CTb 227) x_hs x_knd 20000 227) = true := by decide +kernel
set_option maxRecDepth 1000000 in
theorem x_m227b : (x_CT 227).all (vMeth x_KT x_tb x_tyl (x_ovS (some 1200000)) (x_CTb 227) x_hs x_knd 20000 227) = true := by decide +kernel
set_option maxRecDepth 1000000 in
theorem x_m228a : (x_CT 228).all (vMeth x_KT x_tb x_tyl (x_ovS none) (x_CTb 228) x_hs x_knd 20000 228) = true := by decide +kernel
set_option maxRecDepth 1000000 in
theorem x_m228b : (x_CT 228).all (vMeth x_KT x_tb x_tyl (x_ovS (some 1200000)) (x_CTb 228) x_hs x_knd 20000 228) = true := by decide +kernel
set_option maxRecDepth 1000000 in
theorem x_m229a : (x_CT 229).all (vMeth x_KT x_tb x_tyl (x_ovS none) (x_CTb 229) x_hs x_knd 20000 229) = true := by decide +kernel
set_option maxRecDepth 1000000 in
theorem x_m229b : (x_CT 229).all (vMeth x_KT x_tb x_tyl (x_ovS (some 1200000)) (x_CTb 229) x_hs x_knd 20000 229) = true := by decide +kernel
set_option maxRecDepth 1000000 in
theorem x_m230a : (x_CT 230).all (vMeth x_KT x_tb x_tyl (x_ovS none) (x_CTb 230) x_hs x_knd 20000 230) = true := by decide +kernel
set_option maxRecDepth 1000000 in
theorem x_m230b : (x_CT 230).all (vMeth x_KT x_tb x_tyl (x_ovS (some 1200000)) (x_CTb 230) x_hs x_knd 20000 230) = true := by decide +kernel
set_option maxRecDepth 1000000 in
theorem x_m231a : (x_CT 231).all (vMeth x_KT x_tb x_tyl (x_ovS none) (x_CTb 231) x_hs x_knd 20000 231) = true := by decide +kernel
set_option maxRecDepth 1000000 in
theorem x_m231b : (x_CT 231).all (vMeth x_KT x_tb x_tyl (x_ovS (some 1200000)) (x_CTb 231) x_hs x_knd 20000 231) = true := by decide +kernel
set_option maxRecDepth 1000000 in
theorem x_m232a : (x_CT 232).all (vMeth x_KT x_tb x_tyl (x_ovS none) (x_CTb 232) x_hs x_knd 20000 232) = true := by decide +kernel
set_option maxRecDepth 1000000 in
theorem x_m232b : (x_CT 232).all (vMeth x_KT x_tb x_tyl (x_ovS (some 1200000)) (x_CTb 232) x_hs x_knd 20000 232) = true := by decide +kernel
set_option maxRecDepth 1000000 in
theorem x_m233a : (x_CT 233).all (vMeth x_KT x_tb x_tyl (x_ovS none) (x_CTb 233) x_hs x_knd 20000 233) = true := by decide +kernel
set_option maxRecDepth 1000000 in
theorem x_m233b : (x_CT 233).all (vMeth x_KT x_tb x_tyl (x_ovS (some 1200000)) (x_CTb 233) x_hs x_knd 20000 233) = true := by decide +kernel
set_option maxRecDepth 1000000 in
theorem x_m235a : (x_CT 235).all (vMeth x_KT x_tb x_tyl (x_ovS none) (x_CTb 235) x_hs x_knd 20000 235) = true := by decide +kernel
set_option maxRecDepth 1000000 in
theorem x_m235b : (x_CT 235).all (vMeth x_KT x_tb x_tyl (x_ovS (some 1200000)) (x_CTb 235) x_hs x_knd 20000 235) = true := by decide +kernel
set_option maxRecDepth 1000000 in
theorem x_m236a : (x_CT 236).all (vMeth x_KT x_tb x_tyl (x_ovS none) (x_CTb 236) x_hs x_knd 20000 236) = true := by decide +kernel
set_option maxRecDepth 1000000 in
theorem x_m236b : (x_CT 236).all (vMeth x_KT x_tb x_tyl (x_ovS (some 1200000)) (x_CTb 236) x_hs x_knd 20000 236) = true := by decide +kernel
set_option maxRecDepth 1000000 in
theorem x_m239a : (x_CT 239).all (vMeth x_KT x_tb x_tyl (x_ovS none) (x_CTb 239) x_hs x_knd 20000 239) = true := by decide +kernel
set_option maxRecDepth 1000000 in
theorem x_m239b : (x_CT 239).all (vMeth x_KT x_tb x_tyl (x_ovS (some 1200000)) (x_CTb 239) x_hs x_knd 20000 239) = true := by decide +kernel
set_option maxRecDepth 1000000 in
theorem x_m240a : (x_CT 240).all (vMeth x_KT x_tb x_tyl (x_ovS none) (x_CTb 240) x_hs x_knd 20000 240) = true := by decide +kernel
set_option maxRecDepth 1000000 in
theorem x_m240b : (x_CT 240).all (vMeth x_KT x_tb x_tyl (x_ovS (some 1200000)) (x_CTb 240) x_hs x_knd 20000 240) = true := by decide +kernel
set_option maxRecDepth 1000000 in
theorem x_m241a : (x_CT 241).all (vMeth x_KT x_tb x_tyl (x_ovS none) (x_CTb 241) x_hs x_knd 20000 241) = true := by decide +kernel
set_option maxRecDepth 1000000 in
theorem x_m241b : (x_CT 241).all (vMeth x_KT x_tb x_tyl (x_ovS (some 1200000)) (x_CTb 241) x_hs x_knd 20000 241) = true := by decide +kernel
set_option maxRecDepth 1000000 in
theorem x_m242a : (x_CT 242).all (vMeth x_KT x_tb x_tyl (x_ovS none) (x_CTb 242) x_hs x_knd 20000 242) = true := by decide +kernel
set_option maxRecDepth 1000000 in
theorem x_m242b : (x_CT 242).all (vMeth x_KT x_tb x_tyl (x_ovS (some 1200000)) (x_CTb 242) x_hs x_knd 20000 242) = true := by decide +kernel
set_option maxRecDepth 1000000 in
theorem x_m243a : (x_CT 243).all (vMeth x_KT x_tb x_tyl (x_ovS none) (x_CTb 243) x_hs x_knd 20000 243) = true := by decide +kernel
end XM23
