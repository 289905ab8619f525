/-! Runs: checks, 14. -/
noncomputable section XRuC14
set_option maxRecDepth 1000000 in
theorem lnE12q : wEdTQ lwTch 44 x_KT x_tb x_tyl x_ov0 x_cp u_hs x_knd lwFR lwGA lwGB 15 35 47 lnWA12 lnWB12 [(8, 1, 1, 0)] 8000 1 60 15 0 60 184 ln_tn lno12 = true := by decide +kernel
theorem lnE12 : wEdT x_KT x_tb x_tyl x_ov0 x_cp u_hs x_knd lwFR lwGA lwGB 15 35 47 lnWA12 lnWB12 [(8, 1, 1, 0)] 8000 1 60 15 0 60 184 ln_tn lno12 = true := wEdTQ_ok lwTchOk lnE12q
theorem lnT12 : wTpk x_KT lwGA lwGB 25 8 1 160 (wUs ln_tn) lwFR = true := by decide +kernel
end XRuC14
