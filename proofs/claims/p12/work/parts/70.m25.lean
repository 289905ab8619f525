/-! What the checker finds right: part 25. -/
section XM25
set_option maxRecDepth 1000000 in
theorem x_m254a : (x_CT 254).all (vMeth x_KT x_tb x_tyl (x_ovS none) (x_CTb 254) x_hs x_knd 20000 254) = true := by decide +kernel
end XM25
