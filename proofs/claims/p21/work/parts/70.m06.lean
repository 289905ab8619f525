/-! What the checker finds right: part 6. -/
noncomputable section XM6
set_option maxRecDepth 1000000 in
theorem x_m1150 : (x_CT 115).all (vMeth x_KT x_tb x_tyl x_ov0 (x_CTb 115) x_hs x_knd 20000 115) = true := by decide +kernel
set_option maxRecDepth 1000000 in
theorem x_m1160 : (x_CT 116).all (vMeth x_KT x_tb x_tyl x_ov0 (x_CTb 116) x_hs x_knd 20000 116) = true := by decide +kernel
set_option maxRecDepth 1000000 in
theorem x_m1170 : (x_CT 117).all (vMeth x_KT x_tb x_tyl x_ov0 (x_CTb 117) x_hs x_knd 20000 117) = true := by decide +kernel
set_option maxRecDepth 1000000 in
theorem x_m1190 : (x_CT 119).all (vMeth x_KT x_tb x_tyl x_ov0 (x_CTb 119) x_hs x_knd 20000 119) = true := by decide +kernel
set_option maxRecDepth 1000000 in
theorem x_m1210 : (x_CT 121).all (vMeth x_KT x_tb x_tyl x_ov0 (x_CTb 121) x_hs x_knd 20000 121) = true := by decide +kernel
set_option maxRecDepth 1000000 in
theorem x_m1230 : (x_CT 123).all (vMeth x_KT x_tb x_tyl x_ov0 (x_CTb 123) x_hs x_knd 20000 123) = true := by decide +kernel
set_option maxRecDepth 1000000 in
theorem x_m1240 : (x_CT 124).all (vMeth x_KT x_tb x_tyl x_ov0 (x_CTb 124) x_hs x_knd 20000 124) = true := by decide +kernel
set_option maxRecDepth 1000000 in
theorem x_m1270 : (x_CT 127).all (vMeth x_KT x_tb x_tyl x_ov0 (x_CTb 127) x_hs x_knd 20000 127) = true := by decide +kernel
set_option maxRecDepth 1000000 in
theorem x_m1280 : (x_CT 128).all (vMeth x_KT x_tb x_tyl x_ov0 (x_CTb 128) x_hs x_knd 20000 128) = true := by decide +kernel
set_option maxRecDepth 1000000 in
theorem x_m1290 : (x_CT 129).all (vMeth x_KT x_tb x_tyl x_ov0 (x_CTb 129) x_hs x_knd 20000 129) = true := by decide +kernel
set_option maxRecDepth 1000000 in
theorem x_m1300 : (x_CT 130).all (vMeth x_KT x_tb x_tyl x_ov0 (x_CTb 130) x_hs x_knd 20000 130) = true := by decide +kernel
set_option maxRecDepth 1000000 in
theorem x_m1310 : (x_CT 131).all (vMeth x_KT x_tb x_tyl x_ov0 (x_CTb 131) x_hs x_knd 20000 131) = true := by decide +kernel
set_option maxRecDepth 1000000 in
theorem x_m1320 : (x_CT 132).all (vMeth x_KT x_tb x_tyl x_ov0 (x_CTb 132) x_hs x_knd 20000 132) = true := by decide +kernel
set_option maxRecDepth 1000000 in
theorem x_m1330 : (x_CT 133).all (vMeth x_KT x_tb x_tyl x_ov0 (x_CTb 133) x_hs x_knd 20000 133) = true := by decide +kernel
set_option maxRecDepth 1000000 in
theorem x_m1340 : (x_CT 134).all (vMeth x_KT x_tb x_tyl x_ov0 (x_CTb 134) x_hs x_knd 20000 134) = true := by decide +kernel
set_option maxRecDepth 1000000 in
theorem x_m1350 : (x_CT 135).all (vMeth x_KT x_tb x_tyl x_ov0 (x_CTb 135) x_hs x_knd 20000 135) = true := by decide +kernel
set_option maxRecDepth 1000000 in
theorem x_m1360 : (x_CT 136).all (vMeth x_KT x_tb x_tyl x_ov0 (x_CTb 136) x_hs x_knd 20000 136) = true := by decide +kernel
set_option maxRecDepth 1000000 in
theorem x_m1370 : (x_CT 137).all (vMeth x_KT x_tb x_tyl x_ov0 (x_CTb 137) x_hs x_knd 20000 137) = true := by decide +kernel
set_option maxRecDepth 1000000 in
theorem x_m1380 : (x_CT 138).all (vMeth x_KT x_tb x_tyl x_ov0 (x_CTb 138) x_hs x_knd 20000 138) = true := by decide +kernel
set_option maxRecDepth 1000000 in
theorem x_m1390 : (x_CT 139).all (vMeth x_KT x_tb x_tyl x_ov0 (x_CTb 139) x_hs x_knd 20000 139) = true := by decide +kernel
set_option maxRecDepth 1000000 in
theorem x_m1400 : (x_CT 140).all (vMeth x_KT x_tb x_tyl x_ov0 (x_CTb 140) x_hs x_knd 20000 140) = true := by decide +kernel
set_option maxRecDepth 1000000 in
theorem x_m1410 : (x_CT 141).all (vMeth x_KT x_tb x_tyl x_ov0 (x_CTb 141) x_hs x_knd 20000 141) = true := by decide +kernel
end XM6
