/-! Runs: checks, 10. -/
noncomputable section XRuC10
set_option maxRecDepth 1000000 in
theorem lnE2q : wEdTQ lwTch 43 x_KT x_tb x_tyl x_ov0 x_cp u_hs x_knd lwFR lwGA lwGB 7 30 44 lnWA2 lnWB2 [(2, 1, 1, 0)] 8000 1 60 15 0 60 184 ln_ta lno2 = true := by decide +kernel
theorem lnE2 : wEdT x_KT x_tb x_tyl x_ov0 x_cp u_hs x_knd lwFR lwGA lwGB 7 30 44 lnWA2 lnWB2 [(2, 1, 1, 0)] 8000 1 60 15 0 60 184 ln_ta lno2 = true := wEdTQ_ok lwTchOk lnE2q
theorem lnT2 : wTpk x_KT lwGA lwGB 25 2 1 160 (wUs ln_ta) lwFR = true := by decide +kernel
set_option maxRecDepth 1000000 in
theorem lnE3q : wEdQ lwTch 43 x_KT x_tb x_tyl x_ov0 x_cp u_hs x_knd lwFR lwGA lwGB 7 30 44 lnWA3 lnWB3 8000 1 60 15 1 60 184 ln_g2 [] lno3 = true := by decide +kernel
theorem lnE3 : wEd x_KT x_tb x_tyl x_ov0 x_cp u_hs x_knd lwFR lwGA lwGB 7 30 44 lnWA3 lnWB3 8000 1 60 15 1 60 184 ln_g2 [] lno3 = true := wEdQ_ok lwTchOk lnE3q
set_option maxRecDepth 1000000 in
theorem lnE4q : wEdTQ lwTch 43 x_KT x_tb x_tyl x_ov0 x_cp u_hs x_knd lwFR lwGA lwGB 7 30 44 lnWA4 lnWB4 [(2, 1, 1, 0)] 8000 1 60 15 0 60 184 ln_te lno4 = true := by decide +kernel
theorem lnE4 : wEdT x_KT x_tb x_tyl x_ov0 x_cp u_hs x_knd lwFR lwGA lwGB 7 30 44 lnWA4 lnWB4 [(2, 1, 1, 0)] 8000 1 60 15 0 60 184 ln_te lno4 = true := wEdTQ_ok lwTchOk lnE4q
theorem lnT4 : wTpk x_KT lwGA lwGB 25 2 1 160 (wUs ln_te) lwFR = true := by decide +kernel
set_option maxRecDepth 1000000 in
theorem lnE5q : wEdQ lwTch 43 x_KT x_tb x_tyl x_ov0 x_cp u_hs x_knd lwFR lwGA lwGB 7 30 44 lnWA5 lnWB5 8000 1 60 15 1 60 184 ln_tf [] lno5 = true := by decide +kernel
theorem lnE5 : wEd x_KT x_tb x_tyl x_ov0 x_cp u_hs x_knd lwFR lwGA lwGB 7 30 44 lnWA5 lnWB5 8000 1 60 15 1 60 184 ln_tf [] lno5 = true := wEdQ_ok lwTchOk lnE5q
set_option maxRecDepth 1000000 in
theorem lnE6q : wEdTQ lwTch 43 x_KT x_tb x_tyl x_ov0 x_cp u_hs x_knd lwFR lwGA lwGB 7 30 44 lnWA6 lnWB6 [(2, 1, 1, 0)] 8000 1 60 15 0 60 184 ln_tg lno6 = true := by decide +kernel
theorem lnE6 : wEdT x_KT x_tb x_tyl x_ov0 x_cp u_hs x_knd lwFR lwGA lwGB 7 30 44 lnWA6 lnWB6 [(2, 1, 1, 0)] 8000 1 60 15 0 60 184 ln_tg lno6 = true := wEdTQ_ok lwTchOk lnE6q
theorem lnT6 : wTpk x_KT lwGA lwGB 25 2 1 160 (wUs ln_tg) lwFR = true := by decide +kernel
set_option maxRecDepth 1000000 in
theorem lnE7q : wEdQ lwTch 43 x_KT x_tb x_tyl x_ov0 x_cp u_hs x_knd lwFR lwGA lwGB 7 30 44 lnWA7 lnWB7 8000 1 60 15 1 60 184 ln_th [] lno7 = true := by decide +kernel
theorem lnE7 : wEd x_KT x_tb x_tyl x_ov0 x_cp u_hs x_knd lwFR lwGA lwGB 7 30 44 lnWA7 lnWB7 8000 1 60 15 1 60 184 ln_th [] lno7 = true := wEdQ_ok lwTchOk lnE7q
end XRuC10
