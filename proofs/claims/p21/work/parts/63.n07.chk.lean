/-! Runs: checks, 7. -/
noncomputable section XRuC7
set_option maxRecDepth 1000000 in
theorem pa1E0q : wEdTQ lwTch 43 x_KT x_tb x_tyl x_ov0 x_cp u_hs x_knd lwFR lwGA lwGB 7 30 44 pa1WA0 pa1WB0 [(2, 1, 1, 0)] 8000 1 60 38 1 60 186 pa1_in pa1o0 = true := by decide +kernel
theorem pa1E0 : wEdT x_KT x_tb x_tyl x_ov0 x_cp u_hs x_knd lwFR lwGA lwGB 7 30 44 pa1WA0 pa1WB0 [(2, 1, 1, 0)] 8000 1 60 38 1 60 186 pa1_in pa1o0 = true := wEdTQ_ok lwTchOk pa1E0q
theorem pa1T0 : wTpk x_KT lwGA lwGB 25 2 1 160 (wUs pa1_in) lwFR = true := by decide +kernel
set_option maxRecDepth 1000000 in
theorem pa2E0q : wEdTQ lwTch 43 x_KT x_tb x_tyl x_ov0 x_cp u_hs x_knd lwFR lwGA lwGB 7 30 44 pa2WA0 pa2WB0 [(2, 1, 1, 0)] 8000 1 60 38 1 60 186 pa2_in pa2o0 = true := by decide +kernel
theorem pa2E0 : wEdT x_KT x_tb x_tyl x_ov0 x_cp u_hs x_knd lwFR lwGA lwGB 7 30 44 pa2WA0 pa2WB0 [(2, 1, 1, 0)] 8000 1 60 38 1 60 186 pa2_in pa2o0 = true := wEdTQ_ok lwTchOk pa2E0q
theorem pa2T0 : wTpk x_KT lwGA lwGB 25 2 1 160 (wUs pa2_in) lwFR = true := by decide +kernel
set_option maxRecDepth 1000000 in
theorem nu3E0q : wEdTQ lwTch 43 x_KT x_tb x_tyl x_ov0 x_cp u_hs x_knd lwFR lwGA lwGB 9 30 44 nu3WA0 nu3WB0 [(2, 1, 1, 0)] 8000 1 60 37 1 60 192 nu3_in nu3o0 = true := by decide +kernel
theorem nu3E0 : wEdT x_KT x_tb x_tyl x_ov0 x_cp u_hs x_knd lwFR lwGA lwGB 9 30 44 nu3WA0 nu3WB0 [(2, 1, 1, 0)] 8000 1 60 37 1 60 192 nu3_in nu3o0 = true := wEdTQ_ok lwTchOk nu3E0q
theorem nu3T0 : wTpk x_KT lwGA lwGB 25 2 1 160 (wUs nu3_in) lwFR = true := by decide +kernel
set_option maxRecDepth 1000000 in
theorem pa3E0q : wEdTQ lwTch 43 x_KT x_tb x_tyl x_ov0 x_cp u_hs x_knd lwFR lwGA lwGB 7 30 44 pa3WA0 pa3WB0 [(2, 1, 1, 0)] 8000 1 60 38 1 60 184 pa3_in pa3o0 = true := by decide +kernel
theorem pa3E0 : wEdT x_KT x_tb x_tyl x_ov0 x_cp u_hs x_knd lwFR lwGA lwGB 7 30 44 pa3WA0 pa3WB0 [(2, 1, 1, 0)] 8000 1 60 38 1 60 184 pa3_in pa3o0 = true := wEdTQ_ok lwTchOk pa3E0q
theorem pa3T0 : wTpk x_KT lwGA lwGB 25 2 1 160 (wUs pa3_in) lwFR = true := by decide +kernel
theorem pa3L1 : wRlk 9 30 44 nu3WA nu3WB pa3X1.2.1 pa3X1.2.2.1 pa3X1.2.2.2.1 pa3X1.2.2.2.2 nu3_in = true := by decide +kernel
set_option maxRecDepth 1000000 in
theorem pa3E2q : wEdTQ lwTch 43 x_KT x_tb x_tyl x_ov0 x_cp u_hs x_knd lwFR lwGA lwGB 7 30 44 pa3WA2 pa3WB2 [(2, 1, 1, 0)] 8000 1 60 38 1 60 184 pa3_s1 pa3o2 = true := by decide +kernel
theorem pa3E2 : wEdT x_KT x_tb x_tyl x_ov0 x_cp u_hs x_knd lwFR lwGA lwGB 7 30 44 pa3WA2 pa3WB2 [(2, 1, 1, 0)] 8000 1 60 38 1 60 184 pa3_s1 pa3o2 = true := wEdTQ_ok lwTchOk pa3E2q
theorem pa3T2 : wTpk x_KT lwGA lwGB 25 2 1 160 (wUs pa3_s1) lwFR = true := by decide +kernel
set_option maxRecDepth 1000000 in
theorem pa3E3q : wEdQ lwTch 43 x_KT x_tb x_tyl x_ov0 x_cp u_hs x_knd lwFR lwGA lwGB 7 30 44 pa3WA3 pa3WB3 8000 1 60 38 1 60 184 pa3_cn_Y [] pa3o3 = true := by decide +kernel
theorem pa3E3 : wEd x_KT x_tb x_tyl x_ov0 x_cp u_hs x_knd lwFR lwGA lwGB 7 30 44 pa3WA3 pa3WB3 8000 1 60 38 1 60 184 pa3_cn_Y [] pa3o3 = true := wEdQ_ok lwTchOk pa3E3q
set_option maxRecDepth 1000000 in
theorem pa3E4q : wEdQ lwTch 43 x_KT x_tb x_tyl x_ov0 x_cp u_hs x_knd lwFR lwGA lwGB 7 30 44 pa3WA4 pa3WB4 8000 1 60 38 1 60 184 pa3_cn_N [] pa3o4 = true := by decide +kernel
theorem pa3E4 : wEd x_KT x_tb x_tyl x_ov0 x_cp u_hs x_knd lwFR lwGA lwGB 7 30 44 pa3WA4 pa3WB4 8000 1 60 38 1 60 184 pa3_cn_N [] pa3o4 = true := wEdQ_ok lwTchOk pa3E4q
set_option maxRecDepth 1000000 in
theorem nu8E0q : wEdTQ lwTch 43 x_KT x_tb x_tyl x_ov0 x_cp u_hs x_knd lwFR lwGA lwGB 9 30 44 nu8WA0 nu8WB0 [(2, 1, 1, 0)] 8000 1 60 37 1 60 192 nu8_in nu8o0 = true := by decide +kernel
theorem nu8E0 : wEdT x_KT x_tb x_tyl x_ov0 x_cp u_hs x_knd lwFR lwGA lwGB 9 30 44 nu8WA0 nu8WB0 [(2, 1, 1, 0)] 8000 1 60 37 1 60 192 nu8_in nu8o0 = true := wEdTQ_ok lwTchOk nu8E0q
theorem nu8T0 : wTpk x_KT lwGA lwGB 25 2 1 160 (wUs nu8_in) lwFR = true := by decide +kernel
end XRuC7
