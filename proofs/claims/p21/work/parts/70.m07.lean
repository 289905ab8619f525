/-! What the checker finds right: part 7. -/
noncomputable section XM7
set_option maxRecDepth 1000000 in
theorem x_m1430 : (x_CT 143).all (vMeth x_KT x_tb x_tyl x_ov0 (x_CTb 143) x_hs x_knd 20000 143) = true := by decide +kernel
set_option maxRecDepth 1000000 in
theorem x_m1440 : (x_CT 144).all (vMeth x_KT x_tb x_tyl x_ov0 (x_CTb 144) x_hs x_knd 20000 144) = true := by decide +kernel
set_option maxRecDepth 1000000 in
theorem x_m1450 : (x_CT 145).all (vMeth x_KT x_tb x_tyl x_ov0 (x_CTb 145) x_hs x_knd 20000 145) = true := by decide +kernel
set_option maxRecDepth 1000000 in
theorem x_m1460 : (x_CT 146).all (vMeth x_KT x_tb x_tyl x_ov0 (x_CTb 146) x_hs x_knd 20000 146) = true := by decide +kernel
set_option maxRecDepth 1000000 in
theorem x_m1470 : (x_CT 147).all (vMeth x_KT x_tb x_tyl x_ov0 (x_CTb 147) x_hs x_knd 20000 147) = true := by decide +kernel
set_option maxRecDepth 1000000 in
theorem x_m1480 : (x_CT 148).all (vMeth x_KT x_tb x_tyl x_ov0 (x_CTb 148) x_hs x_knd 20000 148) = true := by decide +kernel
set_option maxRecDepth 1000000 in
theorem x_m1490 : (x_CT 149).all (vMeth x_KT x_tb x_tyl x_ov0 (x_CTb 149) x_hs x_knd 20000 149) = true := by decide +kernel
set_option maxRecDepth 1000000 in
theorem x_m1500 : (x_CT 150).all (vMeth x_KT x_tb x_tyl x_ov0 (x_CTb 150) x_hs x_knd 20000 150) = true := by decide +kernel
set_option maxRecDepth 1000000 in
theorem x_m1520 : (x_CT 152).all (vMeth x_KT x_tb x_tyl x_ov0 (x_CTb 152) x_hs x_knd 20000 152) = true := by decide +kernel
set_option maxRecDepth 1000000 in
theorem x_m1530 : (x_CT 153).all (vMeth x_KT x_tb x_tyl x_ov0 (x_CTb 153) x_hs x_knd 20000 153) = true := by decide +kernel
set_option maxRecDepth 1000000 in
theorem x_m1540 : (x_CT 154).all (vMeth x_KT x_tb x_tyl x_ov0 (x_CTb 154) x_hs x_knd 20000 154) = true := by decide +kernel
set_option maxRecDepth 1000000 in
theorem x_m1550 : (x_CT 155).all (vMeth x_KT x_tb x_tyl x_ov0 (x_CTb 155) x_hs x_knd 20000 155) = true := by decide +kernel
set_option maxRecDepth 1000000 in
theorem x_m1560 : (x_CT 156).all (vMeth x_KT x_tb x_tyl x_ov0 (x_CTb 156) x_hs x_knd 20000 156) = true := by decide +kernel
set_option maxRecDepth 1000000 in
theorem x_m1570 : (x_CT 157).all (vMeth x_KT x_tb x_tyl x_ov0 (x_CTb 157) x_hs x_knd 20000 157) = true := by decide +kernel
set_option maxRecDepth 1000000 in
theorem x_m1590 : (x_CT 159).all (vMeth x_KT x_tb x_tyl x_ov0 (x_CTb 159) x_hs x_knd 20000 159) = true := by decide +kernel
set_option maxRecDepth 1000000 in
theorem x_m1600 : (x_CT 160).all (vMeth x_KT x_tb x_tyl x_ov0 (x_CTb 160) x_hs x_knd 20000 160) = true := by decide +kernel
set_option maxRecDepth 1000000 in
theorem x_m1660 : (x_CT 166).all (vMeth x_KT x_tb x_tyl x_ov0 (x_CTb 166) x_hs x_knd 20000 166) = true := by decide +kernel
set_option maxRecDepth 1000000 in
theorem x_m1680 : (x_CT 168).all (vMeth x_KT x_tb x_tyl x_ov0 (x_CTb 168) x_hs x_knd 20000 168) = true := by decide +kernel
set_option maxRecDepth 1000000 in
theorem x_m1690 : (x_CT 169).all (vMeth x_KT x_tb x_tyl x_ov0 (x_CTb 169) x_hs x_knd 20000 169) = true := by decide +kernel
end XM7
