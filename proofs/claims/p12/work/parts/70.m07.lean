/-! What the checker finds right: part 7. -/
section XM7
set_option maxRecDepth 1000000 in
theorem x_m77b : (x_CT 77).all (vMeth x_KT x_tb x_tyl (x_ovS (some 1200000)) (x_CTb 77) x_hs x_knd 20000 77) = true := by decide +kernel
set_option maxRecDepth 1000000 in
theorem x_m79a : (x_CT 79).all (vMeth x_KT x_tb x_tyl (x_ovS none) (x_CTb 79) x_hs x_knd 20000 79) = true := by decide +kernel
set_option maxRecDepth 1000000 in
theorem x_m79b : (x_CT 79).all (vMeth x_KT x_tb x_tyl (x_ovS (some 1200000)) (x_CTb 79) x_hs x_knd 20000 79) = true := by decide +kernel
set_option maxRecDepth 1000000 in
theorem x_m83a : (x_CT 83).all (vMeth x_KT x_tb x_tyl (x_ovS none) (x_CTb 83) x_hs x_knd 20000 83) = true := by decide +kernel
set_option maxRecDepth 1000000 in
theorem x_m83b : (x_CT 83).all (vMeth x_KT x_tb x_tyl (x_ovS (some 1200000)) (x_CTb 83) x_hs x_knd 20000 83) = true := by decide +kernel
set_option maxRecDepth 1000000 in
theorem x_m84a : (x_CT 84).all (vMeth x_KT x_tb x_tyl (x_ovS none) (x_CTb 84) x_hs x_knd 20000 84) = true := by decide +kernel
set_option maxRecDepth 1000000 in
theorem x_m84b : (x_CT 84).all (vMeth x_KT x_tb x_tyl (x_ovS (some 1200000)) (x_CTb 84) x_hs x_knd 20000 84) = true := by decide +kernel
set_option maxRecDepth 1000000 in
theorem x_m85a : (x_CT 85).all (vMeth x_KT x_tb x_tyl (x_ovS none) (x_CTb 85) x_hs x_knd 20000 85) = true := by decide +kernel
set_option maxRecDepth 1000000 in
theorem x_m85b : (x_CT 85).all (vMeth x_KT x_tb x_tyl (x_ovS (some 1200000)) (x_CTb 85) x_hs x_knd 20000 85) = true := by decide +kernel
set_option maxRecDepth 1000000 in
theorem x_m86a : (x_CT 86).all (vMeth x_KT x_tb x_tyl (x_ovS none) (x_CTb 86) x_hs x_knd 20000 86) = true := by decide +kernel
set_option maxRecDepth 1000000 in
theorem x_m86b : (x_CT 86).all (vMeth x_KT x_tb x_tyl (x_ovS (some 1200000)) (x_CTb 86) x_hs x_knd 20000 86) = true := by decide +kernel
set_option maxRecDepth 1000000 in
theorem x_m88a : (x_CT 88).all (vMeth x_KT x_tb x_tyl (x_ovS none) (x_CTb 88) x_hs x_knd 20000 88) = true := by decide +kernel
set_option maxRecDepth 1000000 in
theorem x_m88b : (x_CT 88).all (vMeth x_KT x_tb x_tyl (x_ovS (some 1200000)) (x_CTb 88) x_hs x_knd 20000 88) = true := by decide +kernel
set_option maxRecDepth 1000000 in
theorem x_m89a : (x_CT 89).all (vMeth x_KT x_tb x_tyl (x_ovS none) (x_CTb 89) x_hs x_knd 20000 89) = true := by decide +kernel
set_option maxRecDepth 1000000 in
theorem x_m89b : (x_CT 89).all (vMeth x_KT x_tb x_tyl (x_ovS (some 1200000)) (x_CTb 89) x_hs x_knd 20000 89) = true := by decide +kernel
set_option maxRecDepth 1000000 in
theorem x_m91a : (x_CT 91).all (vMeth x_KT x_tb x_tyl (x_ovS none) (x_CTb 91) x_hs x_knd 20000 91) = true := by decide +kernel
set_option maxRecDepth 1000000 in
theorem x_m91b : (x_CT 91).all (vMeth x_KT x_tb x_tyl (x_ovS (some 1200000)) (x_CTb 91) x_hs x_knd 20000 91) = true := by decide +kernel
set_option maxRecDepth 1000000 in
theorem x_m92a : (x_CT 92).all (vMeth x_KT x_tb x_tyl (x_ovS none) (x_CTb 92) x_hs x_knd 20000 92) = true := by decide +kernel
set_option maxRecDepth 1000000 in
theorem x_m92b : (x_CT 92).all (vMeth x_KT x_tb x_tyl (x_ovS (some 1200000)) (x_CTb 92) x_hs x_knd 20000 92) = true := by decide +kernel
set_option maxRecDepth 1000000 in
theorem x_m93a : (x_CT 93).all (vMeth x_KT x_tb x_tyl (x_ovS none) (x_CTb 93) x_hs x_knd 20000 93) = true := by decide +kernel
set_option maxRecDepth 1000000 in
theorem x_m93b : (x_CT 93).all (vMeth x_KT x_tb x_tyl (x_ovS (some 1200000)) (x_CTb 93) x_hs x_knd 20000 93) = true := by decide +kernel
set_option maxRecDepth 1000000 in
theorem x_m95a : (x_CT 95).all (vMeth x_KT x_tb x_tyl (x_ovS none) (x_CTb 95) x_hs x_knd 20000 95) = true := by decide +kernel
set_option maxRecDepth 1000000 in
theorem x_m95b : (x_CT 95).all (vMeth x_KT x_tb x_tyl (x_ovS (some 1200000)) (x_CTb 95) x_hs x_knd 20000 95) = true := by decide +kernel
set_option maxRecDepth 1000000 in
theorem x_m96a : (x_CT 96).all (vMeth x_KT x_tb x_tyl (x_ovS none) (x_CTb 96) x_hs x_knd 20000 96) = true := by decide +kernel
set_option maxRecDepth 1000000 in
theorem x_m96b : (x_CT 96).all (vMeth x_KT x_tb x_tyl (x_ovS (some 1200000)) (x_CTb 96) x_hs x_knd 20000 96) = true := by decide +kernel
set_option maxRecDepth 1000000 in
theorem x_m100a : (x_CT 100).all (vMeth x_KT x_tb x_tyl (x_ovS none) (x_CTb 100) x_hs x_knd 20000 100) = true := by decide +kernel
set_option maxRecDepth 1000000 in
theorem x_m100b : (x_CT 100).all (vMeth x_KT x_tb x_tyl (x_ovS (some 1200000)) (x_CTb 100) x_hs x_knd 20000 100) = true := by decide +kernel
set_option maxRecDepth 1000000 in
theorem x_m101a : (x_CT 101).all (vMeth x_KT x_tb x_tyl (x_ovS none) (x_CTb 101) x_hs x_knd 20000 101) = true := by decide +kernel
set_option maxRecDepth 1000000 in
theorem x_m101b : (x_CT 101).all (vMeth x_KT x_tb x_tyl (x_ovS (some 1200000)) (x_CTb 101) x_hs x_knd 20000 101) = true := by decide +kernel
set_option maxRecDepth 1000000 in
theorem x_m103a : (x_CT 103).all (vMeth x_KT x_tb x_tyl (x_ovS none) (x_CTb 103) x_hs x_knd 20000 103) = true := by decide +kernel
set_option maxRecDepth 1000000 in
theorem x_m103b : (x_CT 103).all (vMeth x_KT x_tb x_tyl (x_ovS (some 1200000)) (x_CTb 103) x_hs x_knd 20000 103) = true := by decide +kernel
set_option maxRecDepth 1000000 in
theorem x_m107a : (x_CT 107).all (vMeth x_KT x_tb x_tyl (x_ovS none) (x_CTb 107) x_hs x_knd 20000 107) = true := by decide +kernel
end XM7
