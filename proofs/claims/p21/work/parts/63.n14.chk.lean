/-! Runs: checks, 14. -/
noncomputable section XRuC14
set_option maxRecDepth 1000000 in
theorem lnE15q : wEdTQ lwTch 43 x_KT x_tb x_tyl x_ov0 x_cp u_hs x_knd lwFR lwGA lwGB 7 30 44 lnWA15 lnWB15 [(2, 1, 1, 0)] 8000 1 60 15 0 60 184 ln_ts lno15 = true := by decide +kernel
theorem lnE15 : wEdT x_KT x_tb x_tyl x_ov0 x_cp u_hs x_knd lwFR lwGA lwGB 7 30 44 lnWA15 lnWB15 [(2, 1, 1, 0)] 8000 1 60 15 0 60 184 ln_ts lno15 = true := wEdTQ_ok lwTchOk lnE15q
theorem lnT15 : wTpk x_KT lwGA lwGB 25 2 1 160 (wUs ln_ts) lwFR = true := by decide +kernel
set_option maxRecDepth 1000000 in
theorem lnE16q : wEdQ lwTch 43 x_KT x_tb x_tyl x_ov0 x_cp u_hs x_knd lwFR lwGA lwGB 7 30 44 lnWA16 lnWB16 8000 1 60 15 1 60 184 ln_g15 [] lno16 = true := by decide +kernel
theorem lnE16 : wEd x_KT x_tb x_tyl x_ov0 x_cp u_hs x_knd lwFR lwGA lwGB 7 30 44 lnWA16 lnWB16 8000 1 60 15 1 60 184 ln_g15 [] lno16 = true := wEdQ_ok lwTchOk lnE16q
set_option maxRecDepth 1000000 in
theorem lnE17q : wEdQ lwTch 43 x_KT x_tb x_tyl x_ov0 x_cp u_hs x_knd lwFR lwGA lwGB 7 30 44 lnWA17 lnWB17 8000 1 60 15 1 60 184 ln_g_ [] lno17 = true := by decide +kernel
theorem lnE17 : wEd x_KT x_tb x_tyl x_ov0 x_cp u_hs x_knd lwFR lwGA lwGB 7 30 44 lnWA17 lnWB17 8000 1 60 15 1 60 184 ln_g_ [] lno17 = true := wEdQ_ok lwTchOk lnE17q
set_option maxRecDepth 1000000 in
theorem lnE18q : wEdQ lwTch 43 x_KT x_tb x_tyl x_ov0 x_cp u_hs x_knd lwFR lwGA lwGB 7 30 44 lnWA18 lnWB18 8000 1 60 15 1 60 184 ln_fa0 [] lno18 = true := by decide +kernel
theorem lnE18 : wEd x_KT x_tb x_tyl x_ov0 x_cp u_hs x_knd lwFR lwGA lwGB 7 30 44 lnWA18 lnWB18 8000 1 60 15 1 60 184 ln_fa0 [] lno18 = true := wEdQ_ok lwTchOk lnE18q
set_option maxRecDepth 1000000 in
theorem lnE19q : wEdQ lwTch 43 x_KT x_tb x_tyl x_ov0 x_cp u_hs x_knd lwFR lwGA lwGB 7 30 44 lnWA19 lnWB19 8000 1 60 15 1 60 184 ln_fa101 [] lno19 = true := by decide +kernel
theorem lnE19 : wEd x_KT x_tb x_tyl x_ov0 x_cp u_hs x_knd lwFR lwGA lwGB 7 30 44 lnWA19 lnWB19 8000 1 60 15 1 60 184 ln_fa101 [] lno19 = true := wEdQ_ok lwTchOk lnE19q
set_option maxRecDepth 1000000 in
theorem lnE20q : wEdQ lwTch 43 x_KT x_tb x_tyl x_ov0 x_cp u_hs x_knd lwFR lwGA lwGB 7 30 44 lnWA20 lnWB20 8000 1 60 15 1 60 184 ln_fa_ [] lno20 = true := by decide +kernel
theorem lnE20 : wEd x_KT x_tb x_tyl x_ov0 x_cp u_hs x_knd lwFR lwGA lwGB 7 30 44 lnWA20 lnWB20 8000 1 60 15 1 60 184 ln_fa_ [] lno20 = true := wEdQ_ok lwTchOk lnE20q
set_option maxRecDepth 1000000 in
theorem lnE21q : wEdQ lwTch 43 x_KT x_tb x_tyl x_ov0 x_cp u_hs x_knd lwFR lwGA lwGB 7 30 44 lnWA21 lnWB21 8000 1 60 15 1 60 184 ln_fad0 [] lno21 = true := by decide +kernel
theorem lnE21 : wEd x_KT x_tb x_tyl x_ov0 x_cp u_hs x_knd lwFR lwGA lwGB 7 30 44 lnWA21 lnWB21 8000 1 60 15 1 60 184 ln_fad0 [] lno21 = true := wEdQ_ok lwTchOk lnE21q
set_option maxRecDepth 1000000 in
theorem lnE22q : wEdQ lwTch 43 x_KT x_tb x_tyl x_ov0 x_cp u_hs x_knd lwFR lwGA lwGB 7 30 44 lnWA22 lnWB22 8000 1 60 15 1 60 184 ln_fad101 [] lno22 = true := by decide +kernel
theorem lnE22 : wEd x_KT x_tb x_tyl x_ov0 x_cp u_hs x_knd lwFR lwGA lwGB 7 30 44 lnWA22 lnWB22 8000 1 60 15 1 60 184 ln_fad101 [] lno22 = true := wEdQ_ok lwTchOk lnE22q
set_option maxRecDepth 1000000 in
theorem lnE23q : wEdQ lwTch 43 x_KT x_tb x_tyl x_ov0 x_cp u_hs x_knd lwFR lwGA lwGB 7 30 44 lnWA23 lnWB23 8000 1 60 15 1 60 184 ln_fad_ [] lno23 = true := by decide +kernel
theorem lnE23 : wEd x_KT x_tb x_tyl x_ov0 x_cp u_hs x_knd lwFR lwGA lwGB 7 30 44 lnWA23 lnWB23 8000 1 60 15 1 60 184 ln_fad_ [] lno23 = true := wEdQ_ok lwTchOk lnE23q
set_option maxRecDepth 1000000 in
theorem lnE24q : wEdQ lwTch 43 x_KT x_tb x_tyl x_ov0 x_cp u_hs x_knd lwFR lwGA lwGB 7 30 44 lnWA24 lnWB24 8000 1 60 15 1 60 184 ln_fe0 [] lno24 = true := by decide +kernel
theorem lnE24 : wEd x_KT x_tb x_tyl x_ov0 x_cp u_hs x_knd lwFR lwGA lwGB 7 30 44 lnWA24 lnWB24 8000 1 60 15 1 60 184 ln_fe0 [] lno24 = true := wEdQ_ok lwTchOk lnE24q
set_option maxRecDepth 1000000 in
theorem lnE25q : wEdQ lwTch 43 x_KT x_tb x_tyl x_ov0 x_cp u_hs x_knd lwFR lwGA lwGB 7 30 44 lnWA25 lnWB25 8000 1 60 15 1 60 184 ln_fe111 [] lno25 = true := by decide +kernel
theorem lnE25 : wEd x_KT x_tb x_tyl x_ov0 x_cp u_hs x_knd lwFR lwGA lwGB 7 30 44 lnWA25 lnWB25 8000 1 60 15 1 60 184 ln_fe111 [] lno25 = true := wEdQ_ok lwTchOk lnE25q
set_option maxRecDepth 1000000 in
theorem lnE26q : wEdQ lwTch 43 x_KT x_tb x_tyl x_ov0 x_cp u_hs x_knd lwFR lwGA lwGB 7 30 44 lnWA26 lnWB26 8000 1 60 15 1 60 184 ln_fe_ [] lno26 = true := by decide +kernel
theorem lnE26 : wEd x_KT x_tb x_tyl x_ov0 x_cp u_hs x_knd lwFR lwGA lwGB 7 30 44 lnWA26 lnWB26 8000 1 60 15 1 60 184 ln_fe_ [] lno26 = true := wEdQ_ok lwTchOk lnE26q
set_option maxRecDepth 1000000 in
theorem lnE27q : wEdQ lwTch 43 x_KT x_tb x_tyl x_ov0 x_cp u_hs x_knd lwFR lwGA lwGB 7 30 44 lnWA27 lnWB27 8000 1 60 15 1 60 184 ln_fen0 [] lno27 = true := by decide +kernel
theorem lnE27 : wEd x_KT x_tb x_tyl x_ov0 x_cp u_hs x_knd lwFR lwGA lwGB 7 30 44 lnWA27 lnWB27 8000 1 60 15 1 60 184 ln_fen0 [] lno27 = true := wEdQ_ok lwTchOk lnE27q
set_option maxRecDepth 1000000 in
theorem lnE28q : wEdQ lwTch 43 x_KT x_tb x_tyl x_ov0 x_cp u_hs x_knd lwFR lwGA lwGB 7 30 44 lnWA28 lnWB28 8000 1 60 15 1 60 184 ln_fen101 [] lno28 = true := by decide +kernel
theorem lnE28 : wEd x_KT x_tb x_tyl x_ov0 x_cp u_hs x_knd lwFR lwGA lwGB 7 30 44 lnWA28 lnWB28 8000 1 60 15 1 60 184 ln_fen101 [] lno28 = true := wEdQ_ok lwTchOk lnE28q
end XRuC14
