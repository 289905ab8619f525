/-! What the checker finds right: part 18. -/
noncomputable section XM18
set_option maxRecDepth 1000000 in
theorem x_m2630 : (x_CT 263).all (vMeth x_KT x_tb x_tyl x_ov0 (x_CTb 263) x_hs x_knd 20000 263) = true := by decide +kernel
end XM18
