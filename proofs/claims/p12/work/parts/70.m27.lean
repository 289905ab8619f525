/-! What the checker finds right: part 27. -/
section XM27
set_option maxRecDepth 1000000 in
theorem x_m257b : (x_CT 257).all (vMeth x_KT x_tb x_tyl (x_ovS (some 1200000)) (x_CTb 257) x_hs x_knd 20000 257) = true := by decide +kernel
set_option maxRecDepth 1000000 in
theorem x_m258a : (x_CT 258).all (vMeth x_KT x_tb x_tyl (x_ovS none) (x_CTb 258) x_hs x_knd 20000 258) = true := by decide +kernel
set_option maxRecDepth 1000000 in
theorem x_m258b : (x_CT 258).all (vMeth x_KT x_tb x_tyl (x_ovS (some 1200000)) (x_CTb 258) x_hs x_knd 20000 258) = true := by decide +kernel
set_option maxRecDepth 1000000 in
theorem x_m262a : (x_CT 262).all (vMeth x_KT x_tb x_tyl (x_ovS none) (x_CTb 262) x_hs x_knd 20000 262) = true := by decide +kernel
set_option maxRecDepth 1000000 in
theorem x_m262b : (x_CT 262).all (vMeth x_KT x_tb x_tyl (x_ovS (some 1200000)) (x_CTb 262) x_hs x_knd 20000 262) = true := by decide +kernel
end XM27
