/-! What the checker finds right: part 8. -/
section XM8
set_option maxRecDepth 1000000 in
theorem x_m107b : (x_CT 107).all (vMeth x_KT x_tb x_tyl (x_ovS (some 1200000)) (x_CTb 107) x_hs x_knd 20000 107) = true := by decide +kernel
set_option maxRecDepth 1000000 in
theorem x_m108a : (x_CT 108).all (vMeth x_KT x_tb x_tyl (x_ovS none) (x_CTb 108) x_hs x_knd 20000 108) = true := by decide +kernel
set_option maxRecDepth 1000000 in
theorem x_m108b : (x_CT 108).all (vMeth x_KT x_tb x_tyl (x_ovS (some 1200000)) (x_CTb 108) x_hs x_knd 20000 108) = true := by decide +kernel
set_option maxRecDepth 1000000 in
theorem x_m109a : (x_CT 109).all (vMeth x_KT x_tb x_tyl (x_ovS none) (x_CTb 109) x_hs x_knd 20000 109) = true := by decide +kernel
set_option maxRecDepth 1000000 in
theorem x_m109b : (x_CT 109).all (vMeth x_KT x_tb x_tyl (x_ovS (some 1200000)) (x_CTb 109) x_hs x_knd 20000 109) = true := by decide +kernel
set_option maxRecDepth 1000000 in
theorem x_m112a : (x_CT 112).all (vMeth x_KT x_tb x_tyl (x_ovS none) (x_CTb 112) x_hs x_knd 20000 112) = true := by decide +kernel
set_option maxRecDepth 1000000 in
theorem x_m112b : (x_CT 112).all (vMeth x_KT x_tb x_tyl (x_ovS (some 1200000)) (x_CTb 112) x_hs x_knd 20000 112) = true := by decide +kernel
set_option maxRecDepth 1000000 in
theorem x_m115a : (x_CT 115).all (vMeth x_KT x_tb x_tyl (x_ovS none) (x_CTb 115) x_hs x_knd 20000 115) = true := by decide +kernel
set_option maxRecDepth 1000000 in
theorem x_m115b : (x_CT 115).all (vMeth x_KT x_tb x_tyl (x_ovS (some 1200000)) (x_CTb 115) x_hs x_knd 20000 115) = true := by decide +kernel
set_option maxRecDepth 1000000 in
theorem x_m116a : (x_CT 116).all (vMeth x_KT x_tb x_tyl (x_ovS none) (x_CTb 116) x_hs x_knd 20000 116) = true := by decide +kernel
set_option maxRecDepth 1000000 in
theorem x_m116b : (x_CT 116).all (vMeth x_KT x_tb x_tyl (x_ovS (some 1200000)) (x_CTb 116) x_hs x_knd 20000 116) = true := by decide +kernel
set_option maxRecDepth 1000000 in
theorem x_m117a : (x_CT 117).all (vMeth x_KT x_tb x_tyl (x_ovS none) (x_CTb 117) x_hs x_knd 20000 117) = true := by decide +kernel
set_option maxRecDepth 1000000 in
theorem x_m117b : (x_CT 117).all (vMeth x_KT x_tb x_tyl (x_ovS (some 1200000)) (x_CTb 117) x_hs x_knd 20000 117) = true := by decide +kernel
set_option maxRecDepth 1000000 in
theorem x_m119a : (x_CT 119).all (vMeth x_KT x_tb x_tyl (x_ovS none) (x_CTb 119) x_hs x_knd 20000 119) = true := by decide +kernel
set_option maxRecDepth 1000000 in
theorem x_m119b : (x_CT 119).all (vMeth x_KT x_tb x_tyl (x_ovS (some 1200000)) (x_CTb 119) x_hs x_knd 20000 119) = true := by decide +kernel
set_option maxRecDepth 1000000 in
theorem x_m121a : (x_CT 121).all (vMeth x_KT x_tb x_tyl (x_ovS none) (x_CTb 121) x_hs x_knd 20000 121) = true := by decide +kernel
end XM8
