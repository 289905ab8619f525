/-! What the checker finds right: part 10. -/
section XM10
set_option maxRecDepth 1000000 in
theorem x_m137b : (x_CT 137).all (vMeth x_KT x_tb x_tyl (x_ovS (some 1200000)) (x_CTb 137) x_hs x_knd 20000 137) = true := by decide +kernel
set_option maxRecDepth 1000000 in
theorem x_m138a : (x_CT 138).all (vMeth x_KT x_tb x_tyl (x_ovS none) (x_CTb 138) x_hs x_knd 20000 138) = true := by decide +kernel
set_option maxRecDepth 1000000 in
theorem x_m138b : (x_CT 138).all (vMeth x_KT x_tb x_tyl (x_ovS (some 1200000)) (x_CTb 138) x_hs x_knd 20000 138) = true := by decide +kernel
set_option maxRecDepth 1000000 in
theorem x_m139a : (x_CT 139).all (vMeth x_KT x_tb x_tyl (x_ovS none) (x_CTb 139) x_hs x_knd 20000 139) = true := by decide +kernel
set_option maxRecDepth 1000000 in
theorem x_m139b : (x_CT 139).all (vMeth x_KT x_tb x_tyl (x_ovS (some 1200000)) (x_CTb 139) x_hs x_knd 20000 139) = true := by decide +kernel
set_option maxRecDepth 1000000 in
theorem x_m140a : (x_CT 140).all (vMeth x_KT x_tb x_tyl (x_ovS none) (x_CTb 140) x_hs x_knd 20000 140) = true := by decide +kernel
set_option maxRecDepth 1000000 in
theorem x_m140b : (x_CT 140).all (vMeth x_KT x_tb x_tyl (x_ovS (some 1200000)) (x_CTb 140) x_hs x_knd 20000 140) = true := by decide +kernel
set_option maxRecDepth 1000000 in
theorem x_m141a : (x_CT 141).all (vMeth x_KT x_tb x_tyl (x_ovS none) (x_CTb 141) x_hs x_knd 20000 141) = true := by decide +kernel
set_option maxRecDepth 1000000 in
theorem x_m141b : (x_CT 141).all (vMeth x_KT x_tb x_tyl (x_ovS (some 1200000)) (x_CTb 141) x_hs x_knd 20000 141) = true := by decide +kernel
set_option maxRecDepth 1000000 in
theorem x_m143a : (x_CT 143).all (vMeth x_KT x_tb x_tyl (x_ovS none) (x_CTb 143) x_hs x_knd 20000 143) = true := by decide +kernel
set_option maxRecDepth 1000000 in
theorem x_m143b : (x_CT 143).all (vMeth x_KT x_tb x_tyl (x_ovS (some 1200000)) (x_CTb 143) x_hs x_knd 20000 143) = true := by decide +kernel
set_option maxRecDepth 1000000 in
theorem x_m144a : (x_CT 144).all (vMeth x_KT x_tb x_tyl (x_ovS none) (x_CTb 144) x_hs x_knd 20000 144) = true := by decide +kernel
set_option maxRecDepth 1000000 in
theorem x_m144b : (x_CT 144).all (vMeth x_KT x_tb x_tyl (x_ovS (some 1200000)) (x_CTb 144) x_hs x_knd 20000 144) = true := by decide +kernel
end XM10
