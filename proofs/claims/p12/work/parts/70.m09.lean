/-! What the checker finds right: part 9. -/
section XM9
set_option maxRecDepth 1000000 in
theorem x_m121b : (x_CT 121).all (vMeth x_KT x_tb x_tyl (x_ovS (some 1200000)) (x_CTb 121) x_hs x_knd 20000 121) = true := by decide +kernel
set_option maxRecDepth 1000000 in
theorem x_m123a : (x_CT 123).all (vMeth x_KT x_tb x_tyl (x_ovS none) (x_CTb 123) x_hs x_knd 20000 123) = true := by decide +kernel
set_option maxRecDepth 1000000 in
theorem x_m123b : (x_CT 123).all (vMeth x_KT x_tb x_tyl (x_ovS (some 1200000)) (x_CTb 123) x_hs x_knd 20000 123) = true := by decide +kernel
set_option maxRecDepth 1000000 in
theorem x_m124a : (x_CT 124).all (vMeth x_KT x_tb x_tyl (x_ovS none) (x_CTb 124) x_hs x_knd 20000 124) = true := by decide +kernel
set_option maxRecDepth 1000000 in
theorem x_m124b : (x_CT 124).all (vMeth x_KT x_tb x_tyl (x_ovS (some 1200000)) (x_CTb 124) x_hs x_knd 20000 124) = true := by decide +kernel
set_option maxRecDepth 1000000 in
theorem x_m127a : (x_CT 127).all (vMeth x_KT x_tb x_tyl (x_ovS none) (x_CTb 127) x_hs x_knd 20000 127) = true := by decide +kernel
set_option maxRecDepth 1000000 in
theorem x_m127b : (x_CT 127).all (vMeth x_KT x_tb x_tyl (x_ovS (some 1200000)) (x_CTb 127) x_hs x_knd 20000 127) = true := by decide +kernel
set_option maxRecDepth 1000000 in
theorem x_m128a : (x_CT 128).all (vMeth x_KT x_tb x_tyl (x_ovS none) (x_CTb 128) x_hs x_knd 20000 128) = true := by decide +kernel
set_option maxRecDepth 1000000 in
theorem x_m128b : (x_CT 128).all (vMeth x_KT x_tb x_tyl (x_ovS (some 1200000)) (x_CTb 128) x_hs x_knd 20000 128) = true := by decide +kernel
set_option maxRecDepth 1000000 in
theorem x_m129a : (x_CT 129).all (vMeth x_KT x_tb x_tyl (x_ovS none) (x_CTb 129) x_hs x_knd 20000 129) = true := by decide +kernel
set_option maxRecDepth 1000000 in
theorem x_m129b : (x_CT 129).all (vMeth x_KT x_tb x_tyl (x_ovS (some 1200000)) (x_CTb 129) x_hs x_knd 20000 129) = true := by decide +kernel
set_option maxRecDepth 1000000 in
theorem x_m130a : (x_CT 130).all (vMeth x_KT x_tb x_tyl (x_ovS none) (x_CTb 130) x_hs x_knd 20000 130) = true := by decide +kernel
set_option maxRecDepth 1000000 in
theorem x_m130b : (x_CT 130).all (vMeth x_KT x_tb x_tyl (x_ovS (some 1200000)) (x_CTb 130) x_hs x_knd 20000 130) = true := by decide +kernel
set_option maxRecDepth 1000000 in
theorem x_m131a : (x_CT 131).all (vMeth x_KT x_tb x_tyl (x_ovS none) (x_CTb 131) x_hs x_knd 20000 131) = true := by decide +kernel
set_option maxRecDepth 1000000 in
theorem x_m131b : (x_CT 131).all (vMeth x_KT x_tb x_tyl (x_ovS (some 1200000)) (x_CTb 131) x_hs x_knd 20000 131) = true := by decide +kernel
set_option maxRecDepth 1000000 in
theorem x_m132a : (x_CT 132).all (vMeth x_KT x_tb x_tyl (x_ovS none) (x_CTb 132) x_hs x_knd 20000 132) = true := by decide +kernel
set_option maxRecDepth 1000000 in
theorem x_m132b : (x_CT 132).all (vMeth x_KT x_tb x_tyl (x_ovS (some 1200000)) (x_CTb 132) x_hs x_knd 20000 132) = true := by decide +kernel
set_option maxRecDepth 1000000 in
theorem x_m133a : (x_CT 133).all (vMeth x_KT x_tb x_tyl (x_ovS none) (x_CTb 133) x_hs x_knd 20000 133) = true := by decide +kernel
set_option maxRecDepth 1000000 in
theorem x_m133b : (x_CT 133).all (vMeth x_KT x_tb x_tyl (x_ovS (some 1200000)) (x_CTb 133) x_hs x_knd 20000 133) = true := by decide +kernel
set_option maxRecDepth 1000000 in
theorem x_m134a : (x_CT 134).all (vMeth x_KT x_tb x_tyl (x_ovS none) (x_CTb 134) x_hs x_knd 20000 134) = true := by decide +kernel
set_option maxRecDepth 1000000 in
theorem x_m134b : (x_CT 134).all (vMeth x_KT x_tb x_tyl (x_ovS (some 1200000)) (x_CTb 134) x_hs x_knd 20000 134) = true := by decide +kernel
set_option maxRecDepth 1000000 in
theorem x_m135a : (x_CT 135).all (vMeth x_KT x_tb x_tyl (x_ovS none) (x_CTb 135) x_hs x_knd 20000 135) = true := by decide +kernel
set_option maxRecDepth 1000000 in
theorem x_m135b : (x_CT 135).all (vMeth x_KT x_tb x_tyl (x_ovS (some 1200000)) (x_CTb 135) x_hs x_knd 20000 135) = true := by decide +kernel
set_option maxRecDepth 1000000 in
theorem x_m136a : (x_CT 136).all (vMeth x_KT x_tb x_tyl (x_ovS none) (x_CTb 136) x_hs x_knd 20000 136) = true := by decide +kernel
set_option maxRecDepth 1000000 in
theorem x_m136b : (x_CT 136).all (vMeth x_KT x_tb x_tyl (x_ovS (some 1200000)) (x_CTb 136) x_hs x_knd 20000 136) = true := by decide +kernel
set_option maxRecDepth 1000000 in
theorem x_m137a : (x_CT 137).all (vMeth x_KT x_tb x_tyl (x_ovS none) (x_CTb 137) x_hs x_knd 20000 137) = true := by decide +kernel
end XM9
