/-! Runs: checks, 11. -/
noncomputable section XRuC11
set_option maxRecDepth 1000000 in
theorem lnE8q : wEdTQ lwTch 43 x_KT x_tb x_tyl x_ov0 x_cp u_hs x_knd lwFR lwGA lwGB 7 30 44 lnWA8 lnWB8 [(2, 1, 1, 0)] 8000 1 60 15 0 60 184 ln_ti lno8 = true := by decide +kernel
theorem lnE8 : wEdT x_KT x_tb x_tyl x_ov0 x_cp u_hs x_knd lwFR lwGA lwGB 7 30 44 lnWA8 lnWB8 [(2, 1, 1, 0)] 8000 1 60 15 0 60 184 ln_ti lno8 = true := wEdTQ_ok lwTchOk lnE8q
theorem lnT8 : wTpk x_KT lwGA lwGB 25 2 1 160 (wUs ln_ti) lwFR = true := by decide +kernel
set_option maxRecDepth 1000000 in
theorem lnE9q : wEdQ lwTch 43 x_KT x_tb x_tyl x_ov0 x_cp u_hs x_knd lwFR lwGA lwGB 7 30 44 lnWA9 lnWB9 8000 1 60 15 1 60 184 ln_g8 [] lno9 = true := by decide +kernel
theorem lnE9 : wEd x_KT x_tb x_tyl x_ov0 x_cp u_hs x_knd lwFR lwGA lwGB 7 30 44 lnWA9 lnWB9 8000 1 60 15 1 60 184 ln_g8 [] lno9 = true := wEdQ_ok lwTchOk lnE9q
set_option maxRecDepth 1000000 in
theorem lnE10q : wEdTQ lwTch 43 x_KT x_tb x_tyl x_ov0 x_cp u_hs x_knd lwFR lwGA lwGB 7 30 44 lnWA10 lnWB10 [(2, 1, 1, 0)] 8000 1 60 15 0 60 184 ln_tl lno10 = true := by decide +kernel
theorem lnE10 : wEdT x_KT x_tb x_tyl x_ov0 x_cp u_hs x_knd lwFR lwGA lwGB 7 30 44 lnWA10 lnWB10 [(2, 1, 1, 0)] 8000 1 60 15 0 60 184 ln_tl lno10 = true := wEdTQ_ok lwTchOk lnE10q
theorem lnT10 : wTpk x_KT lwGA lwGB 25 2 1 160 (wUs ln_tl) lwFR = true := by decide +kernel
end XRuC11
