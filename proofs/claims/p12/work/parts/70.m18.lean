/-! What the checker finds right: part 18. -/
section XM18
set_option maxRecDepth 1000000 in
theorem x_m205a_2 : (((x_CT 205).drop 3).drop 3).all (vMeth x_KT x_tb x_tyl (x_ovS none) (x_CTb 205) x_hs x_knd 20000 205) = true := by decide +kernel
theorem x_m205a : (x_CT 205).all (vMeth x_KT x_tb x_tyl (x_ovS none) (x_CTb 205) x_hs x_knd 20000 205) = true := all_split _ _ 3 x_m205a_0 (all_split _ _ 3 x_m205a_1 (x_m205a_2))
end XM18
