/-! Runs: checks, 13. -/
noncomputable section XRuC13
set_option maxRecDepth 1000000 in
theorem lnE10q : wEdTQ lwTch 44 x_KT x_tb x_tyl x_ov0 x_cp u_hs x_knd lwFR lwGA lwGB 15 35 47 lnWA10 lnWB10 [(8, 1, 1, 0)] 8000 1 60 15 0 60 184 ln_tl lno10 = true := by decide +kernel
theorem lnE10 : wEdT x_KT x_tb x_tyl x_ov0 x_cp u_hs x_knd lwFR lwGA lwGB 15 35 47 lnWA10 lnWB10 [(8, 1, 1, 0)] 8000 1 60 15 0 60 184 ln_tl lno10 = true := wEdTQ_ok lwTchOk lnE10q
theorem lnT10 : wTpk x_KT lwGA lwGB 25 8 1 160 (wUs ln_tl) lwFR = true := by decide +kernel
set_option maxRecDepth 1000000 in
theorem lnE11q : wEdTQ lwTch 44 x_KT x_tb x_tyl x_ov0 x_cp u_hs x_knd lwFR lwGA lwGB 15 35 47 lnWA11 lnWB11 [(8, 1, 1, 0)] 8000 1 60 15 0 60 184 ln_tm lno11 = true := by decide +kernel
theorem lnE11 : wEdT x_KT x_tb x_tyl x_ov0 x_cp u_hs x_knd lwFR lwGA lwGB 15 35 47 lnWA11 lnWB11 [(8, 1, 1, 0)] 8000 1 60 15 0 60 184 ln_tm lno11 = true := wEdTQ_ok lwTchOk lnE11q
theorem lnT11 : wTpk x_KT lwGA lwGB 25 8 1 160 (wUs ln_tm) lwFR = true := by decide +kernel
end XRuC13
