/-! Runs: checks, 12. -/
noncomputable section XRuC12
set_option maxRecDepth 1000000 in
theorem lnE4q : wEdTQ lwTch 44 x_KT x_tb x_tyl x_ov0 x_cp u_hs x_knd lwFR lwGA lwGB 15 35 47 lnWA4 lnWB4 [(8, 1, 1, 0)] 8000 1 60 15 0 60 184 ln_te lno4 = true := by decide +kernel
theorem lnE4 : wEdT x_KT x_tb x_tyl x_ov0 x_cp u_hs x_knd lwFR lwGA lwGB 15 35 47 lnWA4 lnWB4 [(8, 1, 1, 0)] 8000 1 60 15 0 60 184 ln_te lno4 = true := wEdTQ_ok lwTchOk lnE4q
theorem lnT4 : wTpk x_KT lwGA lwGB 25 8 1 160 (wUs ln_te) lwFR = true := by decide +kernel
set_option maxRecDepth 1000000 in
theorem lnE5q : wEdQ lwTch 44 x_KT x_tb x_tyl x_ov0 x_cp u_hs x_knd lwFR lwGA lwGB 15 35 47 lnWA5 lnWB5 8000 1 60 15 1 60 184 ln_tf [] lno5 = true := by decide +kernel
theorem lnE5 : wEd x_KT x_tb x_tyl x_ov0 x_cp u_hs x_knd lwFR lwGA lwGB 15 35 47 lnWA5 lnWB5 8000 1 60 15 1 60 184 ln_tf [] lno5 = true := wEdQ_ok lwTchOk lnE5q
set_option maxRecDepth 1000000 in
theorem lnE6q : wEdTQ lwTch 44 x_KT x_tb x_tyl x_ov0 x_cp u_hs x_knd lwFR lwGA lwGB 15 35 47 lnWA6 lnWB6 [(8, 1, 1, 0)] 8000 1 60 15 0 60 184 ln_tg lno6 = true := by decide +kernel
theorem lnE6 : wEdT x_KT x_tb x_tyl x_ov0 x_cp u_hs x_knd lwFR lwGA lwGB 15 35 47 lnWA6 lnWB6 [(8, 1, 1, 0)] 8000 1 60 15 0 60 184 ln_tg lno6 = true := wEdTQ_ok lwTchOk lnE6q
theorem lnT6 : wTpk x_KT lwGA lwGB 25 8 1 160 (wUs ln_tg) lwFR = true := by decide +kernel
set_option maxRecDepth 1000000 in
theorem lnE7q : wEdQ lwTch 44 x_KT x_tb x_tyl x_ov0 x_cp u_hs x_knd lwFR lwGA lwGB 15 35 47 lnWA7 lnWB7 8000 1 60 15 1 60 184 ln_th [] lno7 = true := by decide +kernel
theorem lnE7 : wEd x_KT x_tb x_tyl x_ov0 x_cp u_hs x_knd lwFR lwGA lwGB 15 35 47 lnWA7 lnWB7 8000 1 60 15 1 60 184 ln_th [] lno7 = true := wEdQ_ok lwTchOk lnE7q
set_option maxRecDepth 1000000 in
theorem lnE8q : wEdTQ lwTch 44 x_KT x_tb x_tyl x_ov0 x_cp u_hs x_knd lwFR lwGA lwGB 15 35 47 lnWA8 lnWB8 [(8, 1, 1, 0)] 8000 1 60 15 0 60 184 ln_ti lno8 = true := by decide +kernel
theorem lnE8 : wEdT x_KT x_tb x_tyl x_ov0 x_cp u_hs x_knd lwFR lwGA lwGB 15 35 47 lnWA8 lnWB8 [(8, 1, 1, 0)] 8000 1 60 15 0 60 184 ln_ti lno8 = true := wEdTQ_ok lwTchOk lnE8q
theorem lnT8 : wTpk x_KT lwGA lwGB 25 8 1 160 (wUs ln_ti) lwFR = true := by decide +kernel
set_option maxRecDepth 1000000 in
theorem lnE9q : wEdQ lwTch 44 x_KT x_tb x_tyl x_ov0 x_cp u_hs x_knd lwFR lwGA lwGB 15 35 47 lnWA9 lnWB9 8000 1 60 15 1 60 184 ln_g8 [] lno9 = true := by decide +kernel
theorem lnE9 : wEd x_KT x_tb x_tyl x_ov0 x_cp u_hs x_knd lwFR lwGA lwGB 15 35 47 lnWA9 lnWB9 8000 1 60 15 1 60 184 ln_g8 [] lno9 = true := wEdQ_ok lwTchOk lnE9q
end XRuC12
