/-! What the checker finds right: part 21. -/
section XM21
set_option maxRecDepth 1000000 in
theorem x_m205b_2 : (((x_CT 205).drop 3).drop 3).all (vMeth x_KT x_tb x_tyl (x_ovS (some 1200000)) (x_CTb 205) x_hs x_knd 20000 205) = true := by decide +kernel
theorem x_m205b : (x_CT 205).all (vMeth x_KT x_tb x_tyl (x_ovS (some 1200000)) (x_CTb 205) x_hs x_knd 20000 205) = true := all_split _ _ 3 x_m205b_0 (all_split _ _ 3 x_m205b_1 (x_m205b_2))
end XM21
