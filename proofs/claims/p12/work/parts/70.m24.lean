/-! What the checker finds right: part 24. -/
section XM24
set_option maxRecDepth 1000000 in
theorem x_m243b : (x_CT 243).all (vMeth x_KT x_tb x_tyl (x_ovS (some 1200000)) (x_CTb 243) x_hs x_knd 20000 243) = true := by decide +kernel
set_option maxRecDepth 1000000 in
theorem x_m245a : (x_CT 245).all (vMeth x_KT x_tb x_tyl (x_ovS none) (x_CTb 245) x_hs x_knd 20000 245) = true := by decide +kernel
set_option maxRecDepth 1000000 in
theorem x_m245b : (x_CT 245).all (vMeth x_KT x_tb x_tyl (x_ovS (some 1200000)) (x_CTb 245) x_hs x_knd 20000 245) = true := by decide +kernel
set_option maxRecDepth 1000000 in
theorem x_m246a : (x_CT 246).all (vMeth x_KT x_tb x_tyl (x_ovS none) (x_CTb 246) x_hs x_knd 20000 246) = true := by decide +kernel
set_option maxRecDepth 1000000 in
theorem x_m246b : (x_CT 246).all (vMeth x_KT x_tb x_tyl (x_ovS (some 1200000)) (x_CTb 246) x_hs x_knd 20000 246) = true := by decide +kernel
set_option maxRecDepth 1000000 in
theorem x_m247a : (x_CT 247).all (vMeth x_KT x_tb x_tyl (x_ovS none) (x_CTb 247) x_hs x_knd 20000 247) = true := by decide +kernel
set_option maxRecDepth 1000000 in
theorem x_m247b : (x_CT 247).all (vMeth x_KT x_tb x_tyl (x_ovS (some 1200000)) (x_CTb 247) x_hs x_knd 20000 247) = true := by decide +kernel
set_option maxRecDepth 1000000 in
theorem x_m249a : (x_CT 249).all (vMeth x_KT x_tb x_tyl (x_ovS none) (x_CTb 249) x_hs x_knd 20000 249) = true := by decide +kernel
set_option maxRecDepth 1000000 in
theorem x_m249b : (x_CT 249).all (vMeth x_KT x_tb x_tyl (x_ovS (some 1200000)) (x_CTb 249) x_hs x_knd 20000 249) = true := by decide +kernel
set_option maxRecDepth 1000000 in
theorem x_m250a : (x_CT 250).all (vMeth x_KT x_tb x_tyl (x_ovS none) (x_CTb 250) x_hs x_knd 20000 250) = true := by decide +kernel
set_option maxRecDepth 1000000 in
theorem x_m250b : (x_CT 250).all (vMeth x_KT x_tb x_tyl (x_ovS (some 1200000)) (x_CTb 250) x_hs x_knd 20000 250) = true := by decide +kernel
set_option maxRecDepth 1000000 in
theorem x_m251a : (x_CT 251).all (vMeth x_KT x_tb x_tyl (x_ovS none) (x_CTb 251) x_hs x_knd 20000 251) = true := by decide +kernel
set_option maxRecDepth 1000000 in
theorem x_m251b : (x_CT 251).all (vMeth x_KT x_tb x_tyl (x_ovS (some 1200000)) (x_CTb 251) x_hs x_knd 20000 251) = true := by decide +kernel
set_option maxRecDepth 1000000 in
theorem x_m253a : (x_CT 253).all (vMeth x_KT x_tb x_tyl (x_ovS none) (x_CTb 253) x_hs x_knd 20000 253) = true := by decide +kernel
set_option maxRecDepth 1000000 in
theorem x_m253b : (x_CT 253).all (vMeth x_KT x_tb x_tyl (x_ovS (some 1200000)) (x_CTb 253) x_hs x_knd 20000 253) = true := by decide +kernel
end XM24
