/-! What the checker finds right: part 11. -/
section XM11
set_option maxRecDepth 1000000 in
theorem x_m145a : (x_CT 145).all (vMeth x_KT x_tb x_tyl (x_ovS none) (x_CTb 145) x_hs x_knd 20000 145) = true := by decide +kernel
set_option maxRecDepth 1000000 in
theorem x_m145b : (x_CT 145).all (vMeth x_KT x_tb x_tyl (x_ovS (some 1200000)) (x_CTb 145) x_hs x_knd 20000 145) = true := by decide +kernel
set_option maxRecDepth 1000000 in
theorem x_m146a : (x_CT 146).all (vMeth x_KT x_tb x_tyl (x_ovS none) (x_CTb 146) x_hs x_knd 20000 146) = true := by decide +kernel
set_option maxRecDepth 1000000 in
theorem x_m146b : (x_CT 146).all (vMeth x_KT x_tb x_tyl (x_ovS (some 1200000)) (x_CTb 146) x_hs x_knd 20000 146) = true := by decide +kernel
set_option maxRecDepth 1000000 in
theorem x_m147a : (x_CT 147).all (vMeth x_KT x_tb x_tyl (x_ovS none) (x_CTb 147) x_hs x_knd 20000 147) = true := by decide +kernel
set_option maxRecDepth 1000000 in
theorem x_m147b : (x_CT 147).all (vMeth x_KT x_tb x_tyl (x_ovS (some 1200000)) (x_CTb 147) x_hs x_knd 20000 147) = true := by decide +kernel
set_option maxRecDepth 1000000 in
theorem x_m148a : (x_CT 148).all (vMeth x_KT x_tb x_tyl (x_ovS none) (x_CTb 148) x_hs x_knd 20000 148) = true := by decide +kernel
set_option maxRecDepth 1000000 in
theorem x_m148b : (x_CT 148).all (vMeth x_KT x_tb x_tyl (x_ovS (some 1200000)) (x_CTb 148) x_hs x_knd 20000 148) = true := by decide +kernel
set_option maxRecDepth 1000000 in
theorem x_m149a : (x_CT 149).all (vMeth x_KT x_tb x_tyl (x_ovS none) (x_CTb 149) x_hs x_knd 20000 149) = true := by decide +kernel
set_option maxRecDepth 1000000 in
theorem x_m149b : (x_CT 149).all (vMeth x_KT x_tb x_tyl (x_ovS (some 1200000)) (x_CTb 149) x_hs x_knd 20000 149) = true := by decide +kernel
set_option maxRecDepth 1000000 in
theorem x_m150a : (x_CT 150).all (vMeth x_KT x_tb x_tyl (x_ovS none) (x_CTb 150) x_hs x_knd 20000 150) = true := by decide +kernel
set_option maxRecDepth 1000000 in
theorem x_m150b : (x_CT 150).all (vMeth x_KT x_tb x_tyl (x_ovS (some 1200000)) (x_CTb 150) x_hs x_knd 20000 150) = true := by decide +kernel
set_option maxRecDepth 1000000 in
theorem x_m152a : (x_CT 152).all (vMeth x_KT x_tb x_tyl (x_ovS none) (x_CTb 152) x_hs x_knd 20000 152) = true := by decide +kernel
set_option maxRecDepth 1000000 in
theorem x_m152b : (x_CT 152).all (vMeth x_KT x_tb x_tyl (x_ovS (some 1200000)) (x_CTb 152) x_hs x_knd 20000 152) = true := by decide +kernel
set_option maxRecDepth 1000000 in
theorem x_m153a : (x_CT 153).all (vMeth x_KT x_tb x_tyl (x_ovS none) (x_CTb 153) x_hs x_knd 20000 153) = true := by decide +kernel
set_option maxRecDepth 1000000 in
theorem x_m153b : (x_CT 153).all (vMeth x_KT x_tb x_tyl (x_ovS (some 1200000)) (x_CTb 153) x_hs x_knd 20000 153) = true := by decide +kernel
set_option maxRecDepth 1000000 in
theorem x_m154a : (x_CT 154).all (vMeth x_KT x_tb x_tyl (x_ovS none) (x_CTb 154) x_hs x_knd 20000 154) = true := by decide +kernel
set_option maxRecDepth 1000000 in
theorem x_m154b : (x_CT 154).all (vMeth x_KT x_tb x_tyl (x_ovS (some 1200000)) (x_CTb 154) x_hs x_knd 20000 154) = true := by decide +kernel
set_option maxRecDepth 1000000 in
theorem x_m155a : (x_CT 155).all (vMeth x_KT x_tb x_tyl (x_ovS none) (x_CTb 155) x_hs x_knd 20000 155) = true := by decide +kernel
set_option maxRecDepth 1000000 in
theorem x_m155b : (x_CT 155).all (vMeth x_KT x_tb x_tyl (x_ovS (some 1200000)) (x_CTb 155) x_hs x_knd 20000 155) = true := by decide +kernel
set_option maxRecDepth 1000000 in
theorem x_m156a : (x_CT 156).all (vMeth x_KT x_tb x_tyl (x_ovS none) (x_CTb 156) x_hs x_knd 20000 156) = true := by decide +kernel
set_option maxRecDepth 1000000 in
theorem x_m156b : (x_CT 156).all (vMeth x_KT x_tb x_tyl (x_ovS (some 1200000)) (x_CTb 156) x_hs x_knd 20000 156) = true := by decide +kernel
set_option maxRecDepth 1000000 in
theorem x_m157a : (x_CT 157).all (vMeth x_KT x_tb x_tyl (x_ovS none) (x_CTb 157) x_hs x_knd 20000 157) = true := by decide +kernel
set_option maxRecDepth 1000000 in
theorem x_m157b : (x_CT 157).all (vMeth x_KT x_tb x_tyl (x_ovS (some 1200000)) (x_CTb 157) x_hs x_knd 20000 157) = true := by decide +kernel
set_option maxRecDepth 1000000 in
theorem x_m159a : (x_CT 159).all (vMeth x_KT x_tb x_tyl (x_ovS none) (x_CTb 159) x_hs x_knd 20000 159) = true := by decide +kernel
set_option maxRecDepth 1000000 in
theorem x_m159b : (x_CT 159).all (vMeth x_KT x_tb x_tyl (x_ovS (some 1200000)) (x_CTb 159) x_hs x_knd 20000 159) = true := by decide +kernel
set_option maxRecDepth 1000000 in
theorem x_m160a : (x_CT 160).all (vMeth x_KT x_tb x_tyl (x_ovS none) (x_CTb 160) x_hs x_knd 20000 160) = true := by decide +kernel
end XM11
