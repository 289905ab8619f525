/-! What the checker finds right: part 5. -/
noncomputable section XM5
set_option maxRecDepth 1000000 in
theorem x_m690 : (x_CT 69).all (vMeth x_KT x_tb x_tyl x_ov0 (x_CTb 69) x_hs x_knd 20000 69) = true := by decide +kernel
set_option maxRecDepth 1000000 in
theorem x_m700 : (x_CT 70).all (vMeth x_KT x_tb x_tyl x_ov0 (x_CTb 70) x_hs x_knd 20000 70) = true := by decide +kernel
set_option maxRecDepth 1000000 in
theorem x_m710 : (x_CT 71).all (vMeth x_KT x_tb x_tyl x_ov0 (x_CTb 71) x_hs x_knd 20000 71) = true := by decide +kernel
set_option maxRecDepth 1000000 in
theorem x_m760 : (x_CT 76).all (vMeth x_KT x_tb x_tyl x_ov0 (x_CTb 76) x_hs x_knd 20000 76) = true := by decide +kernel
set_option maxRecDepth 1000000 in
theorem x_m770 : (x_CT 77).all (vMeth x_KT x_tb x_tyl x_ov0 (x_CTb 77) x_hs x_knd 20000 77) = true := by decide +kernel
set_option maxRecDepth 1000000 in
theorem x_m790 : (x_CT 79).all (vMeth x_KT x_tb x_tyl x_ov0 (x_CTb 79) x_hs x_knd 20000 79) = true := by decide +kernel
set_option maxRecDepth 1000000 in
theorem x_m830 : (x_CT 83).all (vMeth x_KT x_tb x_tyl x_ov0 (x_CTb 83) x_hs x_knd 20000 83) = true := by decide +kernel
set_option maxRecDepth 1000000 in
theorem x_m840 : (x_CT 84).all (vMeth x_KT x_tb x_tyl x_ov0 (x_CTb 84) x_hs x_knd 20000 84) = true := by decide +kernel
set_option maxRecDepth 1000000 in
theorem x_m850 : (x_CT 85).all (vMeth x_KT x_tb x_tyl x_ov0 (x_CTb 85) x_hs x_knd 20000 85) = true := by decide +kernel
set_option maxRecDepth 1000000 in
theorem x_m860 : (x_CT 86).all (vMeth x_KT x_tb x_tyl x_ov0 (x_CTb 86) x_hs x_knd 20000 86) = true := by decide +kernel
set_option maxRecDepth 1000000 in
theorem x_m880 : (x_CT 88).all (vMeth x_KT x_tb x_tyl x_ov0 (x_CTb 88) x_hs x_knd 20000 88) = true := by decide +kernel
set_option maxRecDepth 1000000 in
theorem x_m890 : (x_CT 89).all (vMeth x_KT x_tb x_tyl x_ov0 (x_CTb 89) x_hs x_knd 20000 89) = true := by decide +kernel
set_option maxRecDepth 1000000 in
theorem x_m910 : (x_CT 91).all (vMeth x_KT x_tb x_tyl x_ov0 (x_CTb 91) x_hs x_knd 20000 91) = true := by decide +kernel
set_option maxRecDepth 1000000 in
theorem x_m920 : (x_CT 92).all (vMeth x_KT x_tb x_tyl x_ov0 (x_CTb 92) x_hs x_knd 20000 92) = true := by decide +kernel
set_option maxRecDepth 1000000 in
theorem x_m930 : (x_CT 93).all (vMeth x_KT x_tb x_tyl x_ov0 (x_CTb 93) x_hs x_knd 20000 93) = true := by decide +kernel
set_option maxRecDepth 1000000 in
theorem x_m950 : (x_CT 95).all (vMeth x_KT x_tb x_tyl x_ov0 (x_CTb 95) x_hs x_knd 20000 95) = true := by decide +kernel
set_option maxRecDepth 1000000 in
theorem x_m960 : (x_CT 96).all (vMeth x_KT x_tb x_tyl x_ov0 (x_CTb 96) x_hs x_knd 20000 96) = true := by decide +kernel
set_option maxRecDepth 1000000 in
theorem x_m1000 : (x_CT 100).all (vMeth x_KT x_tb x_tyl x_ov0 (x_CTb 100) x_hs x_knd 20000 100) = true := by decide +kernel
set_option maxRecDepth 1000000 in
theorem x_m1010 : (x_CT 101).all (vMeth x_KT x_tb x_tyl x_ov0 (x_CTb 101) x_hs x_knd 20000 101) = true := by decide +kernel
set_option maxRecDepth 1000000 in
theorem x_m1030 : (x_CT 103).all (vMeth x_KT x_tb x_tyl x_ov0 (x_CTb 103) x_hs x_knd 20000 103) = true := by decide +kernel
set_option maxRecDepth 1000000 in
theorem x_m1070 : (x_CT 107).all (vMeth x_KT x_tb x_tyl x_ov0 (x_CTb 107) x_hs x_knd 20000 107) = true := by decide +kernel
set_option maxRecDepth 1000000 in
theorem x_m1080 : (x_CT 108).all (vMeth x_KT x_tb x_tyl x_ov0 (x_CTb 108) x_hs x_knd 20000 108) = true := by decide +kernel
set_option maxRecDepth 1000000 in
theorem x_m1090 : (x_CT 109).all (vMeth x_KT x_tb x_tyl x_ov0 (x_CTb 109) x_hs x_knd 20000 109) = true := by decide +kernel
set_option maxRecDepth 1000000 in
theorem x_m1120 : (x_CT 112).all (vMeth x_KT x_tb x_tyl x_ov0 (x_CTb 112) x_hs x_knd 20000 112) = true := by decide +kernel
end XM5
