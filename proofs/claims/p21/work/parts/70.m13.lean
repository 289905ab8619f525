/-! What the checker finds right: part 13. -/
noncomputable section XM13
set_option maxRecDepth 1000000 in
theorem x_m2050_1 : (((x_CT 205).drop 3).take 3).all (vMeth x_KT x_tb x_tyl x_ov0 (x_CTb 205) x_hs x_knd 20000 205) = true := by decide +kernel
end XM13
