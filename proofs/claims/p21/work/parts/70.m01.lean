/-! What the checker finds right: part 1. -/
noncomputable section XM1
set_option maxRecDepth 1000000 in
theorem x_m140 : (x_CT 14).all (vMeth x_KT x_tb x_tyl x_ov0 (x_CTb 14) x_hs x_knd 20000 14) = true := by decide +kernel
end XM1
