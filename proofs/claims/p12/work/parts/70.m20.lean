/-! What the checker finds right: part 20. -/
section XM20
set_option maxRecDepth 1000000 in
theorem x_m205b_1 : (((x_CT 205).drop 3).take 3).all (vMeth x_KT x_tb x_tyl (x_ovS (some 1200000)) (x_CTb 205) x_hs x_knd 20000 205) = true := by decide +kernel
end XM20
