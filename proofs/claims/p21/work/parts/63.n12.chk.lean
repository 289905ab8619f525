/-! Runs: checks, 12. -/
noncomputable section XRuC12
set_option maxRecDepth 1000000 in
theorem lnE11q : wEdTQ lwTch 43 x_KT x_tb x_tyl x_ov0 x_cp u_hs x_knd lwFR lwGA lwGB 7 30 44 lnWA11 lnWB11 [(2, 1, 1, 0)] 8000 1 60 15 0 60 184 ln_tm lno11 = true := by decide +kernel
theorem lnE11 : wEdT x_KT x_tb x_tyl x_ov0 x_cp u_hs x_knd lwFR lwGA lwGB 7 30 44 lnWA11 lnWB11 [(2, 1, 1, 0)] 8000 1 60 15 0 60 184 ln_tm lno11 = true := wEdTQ_ok lwTchOk lnE11q
theorem lnT11 : wTpk x_KT lwGA lwGB 25 2 1 160 (wUs ln_tm) lwFR = true := by decide +kernel
set_option maxRecDepth 1000000 in
theorem lnE12q : wEdTQ lwTch 43 x_KT x_tb x_tyl x_ov0 x_cp u_hs x_knd lwFR lwGA lwGB 7 30 44 lnWA12 lnWB12 [(2, 1, 1, 0)] 8000 1 60 15 0 60 184 ln_tn lno12 = true := by decide +kernel
theorem lnE12 : wEdT x_KT x_tb x_tyl x_ov0 x_cp u_hs x_knd lwFR lwGA lwGB 7 30 44 lnWA12 lnWB12 [(2, 1, 1, 0)] 8000 1 60 15 0 60 184 ln_tn lno12 = true := wEdTQ_ok lwTchOk lnE12q
theorem lnT12 : wTpk x_KT lwGA lwGB 25 2 1 160 (wUs ln_tn) lwFR = true := by decide +kernel
end XRuC12
