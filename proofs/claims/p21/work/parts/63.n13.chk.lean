/-! Runs: checks, 13. -/
noncomputable section XRuC13
set_option maxRecDepth 1000000 in
theorem lnE13q : wEdTQ lwTch 43 x_KT x_tb x_tyl x_ov0 x_cp u_hs x_knd lwFR lwGA lwGB 7 30 44 lnWA13 lnWB13 [(2, 1, 1, 0)] 8000 1 60 15 0 60 184 ln_to lno13 = true := by decide +kernel
theorem lnE13 : wEdT x_KT x_tb x_tyl x_ov0 x_cp u_hs x_knd lwFR lwGA lwGB 7 30 44 lnWA13 lnWB13 [(2, 1, 1, 0)] 8000 1 60 15 0 60 184 ln_to lno13 = true := wEdTQ_ok lwTchOk lnE13q
theorem lnT13 : wTpk x_KT lwGA lwGB 25 2 1 160 (wUs ln_to) lwFR = true := by decide +kernel
set_option maxRecDepth 1000000 in
theorem lnE14q : wEdQ lwTch 43 x_KT x_tb x_tyl x_ov0 x_cp u_hs x_knd lwFR lwGA lwGB 7 30 44 lnWA14 lnWB14 8000 1 60 15 1 60 184 ln_g13 [] lno14 = true := by decide +kernel
theorem lnE14 : wEd x_KT x_tb x_tyl x_ov0 x_cp u_hs x_knd lwFR lwGA lwGB 7 30 44 lnWA14 lnWB14 8000 1 60 15 1 60 184 ln_g13 [] lno14 = true := wEdQ_ok lwTchOk lnE14q
end XRuC13
