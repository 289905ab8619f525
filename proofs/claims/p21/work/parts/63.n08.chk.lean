/-! Runs: checks, 8. -/
noncomputable section XRuC8
set_option maxRecDepth 1000000 in
theorem pa8E0q : wEdTQ lwTch 43 x_KT x_tb x_tyl x_ov0 x_cp u_hs x_knd lwFR lwGA lwGB 7 30 44 pa8WA0 pa8WB0 [(2, 1, 1, 0)] 8000 1 60 38 1 60 184 pa8_in pa8o0 = true := by decide +kernel
theorem pa8E0 : wEdT x_KT x_tb x_tyl x_ov0 x_cp u_hs x_knd lwFR lwGA lwGB 7 30 44 pa8WA0 pa8WB0 [(2, 1, 1, 0)] 8000 1 60 38 1 60 184 pa8_in pa8o0 = true := wEdTQ_ok lwTchOk pa8E0q
theorem pa8T0 : wTpk x_KT lwGA lwGB 25 2 1 160 (wUs pa8_in) lwFR = true := by decide +kernel
theorem pa8L1 : wRlk 9 30 44 nu8WA nu8WB pa8X1.2.1 pa8X1.2.2.1 pa8X1.2.2.2.1 pa8X1.2.2.2.2 nu8_in = true := by decide +kernel
set_option maxRecDepth 1000000 in
theorem pa8E2q : wEdTQ lwTch 43 x_KT x_tb x_tyl x_ov0 x_cp u_hs x_knd lwFR lwGA lwGB 7 30 44 pa8WA2 pa8WB2 [(2, 1, 1, 0)] 8000 1 60 38 1 60 184 pa8_s1 pa8o2 = true := by decide +kernel
theorem pa8E2 : wEdT x_KT x_tb x_tyl x_ov0 x_cp u_hs x_knd lwFR lwGA lwGB 7 30 44 pa8WA2 pa8WB2 [(2, 1, 1, 0)] 8000 1 60 38 1 60 184 pa8_s1 pa8o2 = true := wEdTQ_ok lwTchOk pa8E2q
theorem pa8T2 : wTpk x_KT lwGA lwGB 25 2 1 160 (wUs pa8_s1) lwFR = true := by decide +kernel
set_option maxRecDepth 1000000 in
theorem pa8E3q : wEdQ lwTch 43 x_KT x_tb x_tyl x_ov0 x_cp u_hs x_knd lwFR lwGA lwGB 7 30 44 pa8WA3 pa8WB3 8000 1 60 38 1 60 184 pa8_cn_Y [] pa8o3 = true := by decide +kernel
theorem pa8E3 : wEd x_KT x_tb x_tyl x_ov0 x_cp u_hs x_knd lwFR lwGA lwGB 7 30 44 pa8WA3 pa8WB3 8000 1 60 38 1 60 184 pa8_cn_Y [] pa8o3 = true := wEdQ_ok lwTchOk pa8E3q
set_option maxRecDepth 1000000 in
theorem pa8E4q : wEdQ lwTch 43 x_KT x_tb x_tyl x_ov0 x_cp u_hs x_knd lwFR lwGA lwGB 7 30 44 pa8WA4 pa8WB4 8000 1 60 38 1 60 184 pa8_cn_N [] pa8o4 = true := by decide +kernel
theorem pa8E4 : wEd x_KT x_tb x_tyl x_ov0 x_cp u_hs x_knd lwFR lwGA lwGB 7 30 44 pa8WA4 pa8WB4 8000 1 60 38 1 60 184 pa8_cn_N [] pa8o4 = true := wEdQ_ok lwTchOk pa8E4q
set_option maxRecDepth 1000000 in
theorem pa4E0q : wEdTQ lwTch 43 x_KT x_tb x_tyl x_ov0 x_cp u_hs x_knd lwFR lwGA lwGB 7 30 44 pa4WA0 pa4WB0 [(2, 1, 1, 0)] 8000 1 60 38 1 60 194 pa4_in pa4o0 = true := by decide +kernel
theorem pa4E0 : wEdT x_KT x_tb x_tyl x_ov0 x_cp u_hs x_knd lwFR lwGA lwGB 7 30 44 pa4WA0 pa4WB0 [(2, 1, 1, 0)] 8000 1 60 38 1 60 194 pa4_in pa4o0 = true := wEdTQ_ok lwTchOk pa4E0q
theorem pa4T0 : wTpk x_KT lwGA lwGB 25 2 1 160 (wUs pa4_in) lwFR = true := by decide +kernel
set_option maxRecDepth 1000000 in
theorem pa4E1q : wEdTQ lwTch 43 x_KT x_tb x_tyl x_ov0 x_cp u_hs x_knd lwFR lwGA lwGB 7 30 44 pa4WA1 pa4WB1 [(2, 1, 1, 0)] 8000 1 60 38 1 60 194 pa4_s1 pa4o1 = true := by decide +kernel
theorem pa4E1 : wEdT x_KT x_tb x_tyl x_ov0 x_cp u_hs x_knd lwFR lwGA lwGB 7 30 44 pa4WA1 pa4WB1 [(2, 1, 1, 0)] 8000 1 60 38 1 60 194 pa4_s1 pa4o1 = true := wEdTQ_ok lwTchOk pa4E1q
theorem pa4T1 : wTpk x_KT lwGA lwGB 25 2 1 160 (wUs pa4_s1) lwFR = true := by decide +kernel
set_option maxRecDepth 1000000 in
theorem pa5E0q : wEdTQ lwTch 43 x_KT x_tb x_tyl x_ov0 x_cp u_hs x_knd lwFR lwGA lwGB 7 30 44 pa5WA0 pa5WB0 [(2, 1, 1, 0)] 8000 1 60 38 1 60 194 pa5_in pa5o0 = true := by decide +kernel
theorem pa5E0 : wEdT x_KT x_tb x_tyl x_ov0 x_cp u_hs x_knd lwFR lwGA lwGB 7 30 44 pa5WA0 pa5WB0 [(2, 1, 1, 0)] 8000 1 60 38 1 60 194 pa5_in pa5o0 = true := wEdTQ_ok lwTchOk pa5E0q
theorem pa5T0 : wTpk x_KT lwGA lwGB 25 2 1 160 (wUs pa5_in) lwFR = true := by decide +kernel
set_option maxRecDepth 1000000 in
theorem pa5E1q : wEdTQ lwTch 43 x_KT x_tb x_tyl x_ov0 x_cp u_hs x_knd lwFR lwGA lwGB 7 30 44 pa5WA1 pa5WB1 [(2, 1, 1, 0)] 8000 1 60 38 1 60 194 pa5_s1 pa5o1 = true := by decide +kernel
theorem pa5E1 : wEdT x_KT x_tb x_tyl x_ov0 x_cp u_hs x_knd lwFR lwGA lwGB 7 30 44 pa5WA1 pa5WB1 [(2, 1, 1, 0)] 8000 1 60 38 1 60 194 pa5_s1 pa5o1 = true := wEdTQ_ok lwTchOk pa5E1q
theorem pa5T1 : wTpk x_KT lwGA lwGB 25 2 1 160 (wUs pa5_s1) lwFR = true := by decide +kernel
end XRuC8
