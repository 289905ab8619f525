/-! Runs: checks, 9. -/
noncomputable section XRuC9
set_option maxRecDepth 1000000 in
theorem nu3E0q : wEdTQ lwTch 44 x_KT x_tb x_tyl x_ov0 x_cp u_hs x_knd lwFR lwGA lwGB 17 35 47 nu3WA0 nu3WB0 [(8, 1, 1, 0)] 8000 1 60 37 1 60 192 nu3_in nu3o0 = true := by decide +kernel
theorem nu3E0 : wEdT x_KT x_tb x_tyl x_ov0 x_cp u_hs x_knd lwFR lwGA lwGB 17 35 47 nu3WA0 nu3WB0 [(8, 1, 1, 0)] 8000 1 60 37 1 60 192 nu3_in nu3o0 = true := wEdTQ_ok lwTchOk nu3E0q
theorem nu3T0 : wTpk x_KT lwGA lwGB 25 8 1 160 (wUs nu3_in) lwFR = true := by decide +kernel
set_option maxRecDepth 1000000 in
theorem pa3E0q : wEdTQ lwTch 44 x_KT x_tb x_tyl x_ov0 x_cp u_hs x_knd lwFR lwGA lwGB 15 35 47 pa3WA0 pa3WB0 [(8, 1, 1, 0)] 8000 1 60 38 1 60 184 pa3_in pa3o0 = true := by decide +kernel
theorem pa3E0 : wEdT x_KT x_tb x_tyl x_ov0 x_cp u_hs x_knd lwFR lwGA lwGB 15 35 47 pa3WA0 pa3WB0 [(8, 1, 1, 0)] 8000 1 60 38 1 60 184 pa3_in pa3o0 = true := wEdTQ_ok lwTchOk pa3E0q
theorem pa3T0 : wTpk x_KT lwGA lwGB 25 8 1 160 (wUs pa3_in) lwFR = true := by decide +kernel
theorem pa3L1 : wRlk 17 35 47 nu3WA nu3WB pa3X1.2.1 pa3X1.2.2.1 pa3X1.2.2.2.1 pa3X1.2.2.2.2 nu3_in = true := by decide +kernel
set_option maxRecDepth 1000000 in
theorem pa3E2q : wEdTQ lwTch 44 x_KT x_tb x_tyl x_ov0 x_cp u_hs x_knd lwFR lwGA lwGB 15 35 47 pa3WA2 pa3WB2 [(8, 1, 1, 0)] 8000 1 60 38 1 60 184 pa3_s1 pa3o2 = true := by decide +kernel
theorem pa3E2 : wEdT x_KT x_tb x_tyl x_ov0 x_cp u_hs x_knd lwFR lwGA lwGB 15 35 47 pa3WA2 pa3WB2 [(8, 1, 1, 0)] 8000 1 60 38 1 60 184 pa3_s1 pa3o2 = true := wEdTQ_ok lwTchOk pa3E2q
theorem pa3T2 : wTpk x_KT lwGA lwGB 25 8 1 160 (wUs pa3_s1) lwFR = true := by decide +kernel
set_option maxRecDepth 1000000 in
theorem pa3E3q : wEdQ lwTch 44 x_KT x_tb x_tyl x_ov0 x_cp u_hs x_knd lwFR lwGA lwGB 15 35 47 pa3WA3 pa3WB3 8000 1 60 38 1 60 184 pa3_cn_Y [] pa3o3 = true := by decide +kernel
theorem pa3E3 : wEd x_KT x_tb x_tyl x_ov0 x_cp u_hs x_knd lwFR lwGA lwGB 15 35 47 pa3WA3 pa3WB3 8000 1 60 38 1 60 184 pa3_cn_Y [] pa3o3 = true := wEdQ_ok lwTchOk pa3E3q
set_option maxRecDepth 1000000 in
theorem pa3E4q : wEdQ lwTch 44 x_KT x_tb x_tyl x_ov0 x_cp u_hs x_knd lwFR lwGA lwGB 15 35 47 pa3WA4 pa3WB4 8000 1 60 38 1 60 184 pa3_cn_N [] pa3o4 = true := by decide +kernel
theorem pa3E4 : wEd x_KT x_tb x_tyl x_ov0 x_cp u_hs x_knd lwFR lwGA lwGB 15 35 47 pa3WA4 pa3WB4 8000 1 60 38 1 60 184 pa3_cn_N [] pa3o4 = true := wEdQ_ok lwTchOk pa3E4q
set_option maxRecDepth 1000000 in
theorem nu8E0q : wEdTQ lwTch 44 x_KT x_tb x_tyl x_ov0 x_cp u_hs x_knd lwFR lwGA lwGB 17 35 47 nu8WA0 nu8WB0 [(8, 1, 1, 0)] 8000 1 60 37 1 60 192 nu8_in nu8o0 = true := by decide +kernel
theorem nu8E0 : wEdT x_KT x_tb x_tyl x_ov0 x_cp u_hs x_knd lwFR lwGA lwGB 17 35 47 nu8WA0 nu8WB0 [(8, 1, 1, 0)] 8000 1 60 37 1 60 192 nu8_in nu8o0 = true := wEdTQ_ok lwTchOk nu8E0q
theorem nu8T0 : wTpk x_KT lwGA lwGB 25 8 1 160 (wUs nu8_in) lwFR = true := by decide +kernel
set_option maxRecDepth 1000000 in
theorem pa8E0q : wEdTQ lwTch 44 x_KT x_tb x_tyl x_ov0 x_cp u_hs x_knd lwFR lwGA lwGB 15 35 47 pa8WA0 pa8WB0 [(8, 1, 1, 0)] 8000 1 60 38 1 60 184 pa8_in pa8o0 = true := by decide +kernel
theorem pa8E0 : wEdT x_KT x_tb x_tyl x_ov0 x_cp u_hs x_knd lwFR lwGA lwGB 15 35 47 pa8WA0 pa8WB0 [(8, 1, 1, 0)] 8000 1 60 38 1 60 184 pa8_in pa8o0 = true := wEdTQ_ok lwTchOk pa8E0q
theorem pa8T0 : wTpk x_KT lwGA lwGB 25 8 1 160 (wUs pa8_in) lwFR = true := by decide +kernel
theorem pa8L1 : wRlk 17 35 47 nu8WA nu8WB pa8X1.2.1 pa8X1.2.2.1 pa8X1.2.2.2.1 pa8X1.2.2.2.2 nu8_in = true := by decide +kernel
set_option maxRecDepth 1000000 in
theorem pa8E2q : wEdTQ lwTch 44 x_KT x_tb x_tyl x_ov0 x_cp u_hs x_knd lwFR lwGA lwGB 15 35 47 pa8WA2 pa8WB2 [(8, 1, 1, 0)] 8000 1 60 38 1 60 184 pa8_s1 pa8o2 = true := by decide +kernel
theorem pa8E2 : wEdT x_KT x_tb x_tyl x_ov0 x_cp u_hs x_knd lwFR lwGA lwGB 15 35 47 pa8WA2 pa8WB2 [(8, 1, 1, 0)] 8000 1 60 38 1 60 184 pa8_s1 pa8o2 = true := wEdTQ_ok lwTchOk pa8E2q
theorem pa8T2 : wTpk x_KT lwGA lwGB 25 8 1 160 (wUs pa8_s1) lwFR = true := by decide +kernel
set_option maxRecDepth 1000000 in
theorem pa8E3q : wEdQ lwTch 44 x_KT x_tb x_tyl x_ov0 x_cp u_hs x_knd lwFR lwGA lwGB 15 35 47 pa8WA3 pa8WB3 8000 1 60 38 1 60 184 pa8_cn_Y [] pa8o3 = true := by decide +kernel
theorem pa8E3 : wEd x_KT x_tb x_tyl x_ov0 x_cp u_hs x_knd lwFR lwGA lwGB 15 35 47 pa8WA3 pa8WB3 8000 1 60 38 1 60 184 pa8_cn_Y [] pa8o3 = true := wEdQ_ok lwTchOk pa8E3q
set_option maxRecDepth 1000000 in
theorem pa8E4q : wEdQ lwTch 44 x_KT x_tb x_tyl x_ov0 x_cp u_hs x_knd lwFR lwGA lwGB 15 35 47 pa8WA4 pa8WB4 8000 1 60 38 1 60 184 pa8_cn_N [] pa8o4 = true := by decide +kernel
theorem pa8E4 : wEd x_KT x_tb x_tyl x_ov0 x_cp u_hs x_knd lwFR lwGA lwGB 15 35 47 pa8WA4 pa8WB4 8000 1 60 38 1 60 184 pa8_cn_N [] pa8o4 = true := wEdQ_ok lwTchOk pa8E4q
set_option maxRecDepth 1000000 in
theorem pa4E0q : wEdTQ lwTch 44 x_KT x_tb x_tyl x_ov0 x_cp u_hs x_knd lwFR lwGA lwGB 15 35 47 pa4WA0 pa4WB0 [(8, 1, 1, 0)] 8000 1 60 38 1 60 194 pa4_in pa4o0 = true := by decide +kernel
theorem pa4E0 : wEdT x_KT x_tb x_tyl x_ov0 x_cp u_hs x_knd lwFR lwGA lwGB 15 35 47 pa4WA0 pa4WB0 [(8, 1, 1, 0)] 8000 1 60 38 1 60 194 pa4_in pa4o0 = true := wEdTQ_ok lwTchOk pa4E0q
theorem pa4T0 : wTpk x_KT lwGA lwGB 25 8 1 160 (wUs pa4_in) lwFR = true := by decide +kernel
end XRuC9
