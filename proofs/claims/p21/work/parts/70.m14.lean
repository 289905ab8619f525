/-! What the checker finds right: part 14. -/
noncomputable section XM14
set_option maxRecDepth 1000000 in
theorem x_m2050_2 : (((x_CT 205).drop 3).drop 3).all (vMeth x_KT x_tb x_tyl x_ov0 (x_CTb 205) x_hs x_knd 20000 205) = true := by decide +kernel
theorem x_m2050 : (x_CT 205).all (vMeth x_KT x_tb x_tyl x_ov0 (x_CTb 205) x_hs x_knd 20000 205) = true := all_split _ _ 3 x_m2050_0 (all_split _ _ 3 x_m2050_1 (x_m2050_2))
end XM14
