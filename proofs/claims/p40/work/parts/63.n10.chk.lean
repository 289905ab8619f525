/-! Runs: checks, 10. -/
noncomputable section XRuC10
set_option maxRecDepth 1000000 in
theorem pa4E1q : wEdTQ lwTch 44 x_KT x_tb x_tyl x_ov0 x_cp u_hs x_knd lwFR lwGA lwGB 15 35 47 pa4WA1 pa4WB1 [(8, 1, 1, 0)] 8000 1 60 38 1 60 194 pa4_s1 pa4o1 = true := by decide +kernel
theorem pa4E1 : wEdT x_KT x_tb x_tyl x_ov0 x_cp u_hs x_knd lwFR lwGA lwGB 15 35 47 pa4WA1 pa4WB1 [(8, 1, 1, 0)] 8000 1 60 38 1 60 194 pa4_s1 pa4o1 = true := wEdTQ_ok lwTchOk pa4E1q
theorem pa4T1 : wTpk x_KT lwGA lwGB 25 8 1 160 (wUs pa4_s1) lwFR = true := by decide +kernel
set_option maxRecDepth 1000000 in
theorem pa5E0q : wEdTQ lwTch 44 x_KT x_tb x_tyl x_ov0 x_cp u_hs x_knd lwFR lwGA lwGB 15 35 47 pa5WA0 pa5WB0 [(8, 1, 1, 0)] 8000 1 60 38 1 60 194 pa5_in pa5o0 = true := by decide +kernel
theorem pa5E0 : wEdT x_KT x_tb x_tyl x_ov0 x_cp u_hs x_knd lwFR lwGA lwGB 15 35 47 pa5WA0 pa5WB0 [(8, 1, 1, 0)] 8000 1 60 38 1 60 194 pa5_in pa5o0 = true := wEdTQ_ok lwTchOk pa5E0q
theorem pa5T0 : wTpk x_KT lwGA lwGB 25 8 1 160 (wUs pa5_in) lwFR = true := by decide +kernel
set_option maxRecDepth 1000000 in
theorem pa5E1q : wEdTQ lwTch 44 x_KT x_tb x_tyl x_ov0 x_cp u_hs x_knd lwFR lwGA lwGB 15 35 47 pa5WA1 pa5WB1 [(8, 1, 1, 0)] 8000 1 60 38 1 60 194 pa5_s1 pa5o1 = true := by decide +kernel
theorem pa5E1 : wEdT x_KT x_tb x_tyl x_ov0 x_cp u_hs x_knd lwFR lwGA lwGB 15 35 47 pa5WA1 pa5WB1 [(8, 1, 1, 0)] 8000 1 60 38 1 60 194 pa5_s1 pa5o1 = true := wEdTQ_ok lwTchOk pa5E1q
theorem pa5T1 : wTpk x_KT lwGA lwGB 25 8 1 160 (wUs pa5_s1) lwFR = true := by decide +kernel
set_option maxRecDepth 1000000 in
theorem pa6E0q : wEdTQ lwTch 44 x_KT x_tb x_tyl x_ov0 x_cp u_hs x_knd lwFR lwGA lwGB 15 35 47 pa6WA0 pa6WB0 [(8, 1, 1, 0)] 8000 1 60 38 1 60 194 pa6_in pa6o0 = true := by decide +kernel
theorem pa6E0 : wEdT x_KT x_tb x_tyl x_ov0 x_cp u_hs x_knd lwFR lwGA lwGB 15 35 47 pa6WA0 pa6WB0 [(8, 1, 1, 0)] 8000 1 60 38 1 60 194 pa6_in pa6o0 = true := wEdTQ_ok lwTchOk pa6E0q
theorem pa6T0 : wTpk x_KT lwGA lwGB 25 8 1 160 (wUs pa6_in) lwFR = true := by decide +kernel
set_option maxRecDepth 1000000 in
theorem pa6E1q : wEdTQ lwTch 44 x_KT x_tb x_tyl x_ov0 x_cp u_hs x_knd lwFR lwGA lwGB 15 35 47 pa6WA1 pa6WB1 [(8, 1, 1, 0)] 8000 1 60 38 1 60 194 pa6_s1 pa6o1 = true := by decide +kernel
theorem pa6E1 : wEdT x_KT x_tb x_tyl x_ov0 x_cp u_hs x_knd lwFR lwGA lwGB 15 35 47 pa6WA1 pa6WB1 [(8, 1, 1, 0)] 8000 1 60 38 1 60 194 pa6_s1 pa6o1 = true := wEdTQ_ok lwTchOk pa6E1q
theorem pa6T1 : wTpk x_KT lwGA lwGB 25 8 1 160 (wUs pa6_s1) lwFR = true := by decide +kernel
set_option maxRecDepth 1000000 in
theorem nu9E0q : wEdTQ lwTch 44 x_KT x_tb x_tyl x_ov0 x_cp u_hs x_knd lwFR lwGA lwGB 16 35 47 nu9WA0 nu9WB0 [(8, 1, 1, 0)] 8000 1 60 37 1 60 192 nu9_in nu9o0 = true := by decide +kernel
theorem nu9E0 : wEdT x_KT x_tb x_tyl x_ov0 x_cp u_hs x_knd lwFR lwGA lwGB 16 35 47 nu9WA0 nu9WB0 [(8, 1, 1, 0)] 8000 1 60 37 1 60 192 nu9_in nu9o0 = true := wEdTQ_ok lwTchOk nu9E0q
theorem nu9T0 : wTpk x_KT lwGA lwGB 25 8 1 160 (wUs nu9_in) lwFR = true := by decide +kernel
theorem pa9L0 : wRlk 16 35 47 nu9WA nu9WB pa9X0.2.1 pa9X0.2.2.1 pa9X0.2.2.2.1 pa9X0.2.2.2.2 nu9_in = true := by decide +kernel
set_option maxRecDepth 1000000 in
theorem pa9E1q : wEdTQ lwTch 44 x_KT x_tb x_tyl x_ov0 x_cp u_hs x_knd lwFR lwGA lwGB 15 35 47 pa9WA1 pa9WB1 [(8, 1, 1, 0)] 8000 1 60 38 1 60 184 pa9_in pa9o1 = true := by decide +kernel
theorem pa9E1 : wEdT x_KT x_tb x_tyl x_ov0 x_cp u_hs x_knd lwFR lwGA lwGB 15 35 47 pa9WA1 pa9WB1 [(8, 1, 1, 0)] 8000 1 60 38 1 60 184 pa9_in pa9o1 = true := wEdTQ_ok lwTchOk pa9E1q
theorem pa9T1 : wTpk x_KT lwGA lwGB 25 8 1 160 (wUs pa9_in) lwFR = true := by decide +kernel
set_option maxRecDepth 1000000 in
theorem pa9E2q : wEdQ lwTch 44 x_KT x_tb x_tyl x_ov0 x_cp u_hs x_knd lwFR lwGA lwGB 15 35 47 pa9WA2 pa9WB2 8000 1 60 38 1 60 184 pa9_cn_Y [] pa9o2 = true := by decide +kernel
theorem pa9E2 : wEd x_KT x_tb x_tyl x_ov0 x_cp u_hs x_knd lwFR lwGA lwGB 15 35 47 pa9WA2 pa9WB2 8000 1 60 38 1 60 184 pa9_cn_Y [] pa9o2 = true := wEdQ_ok lwTchOk pa9E2q
set_option maxRecDepth 1000000 in
theorem pa9E3q : wEdQ lwTch 44 x_KT x_tb x_tyl x_ov0 x_cp u_hs x_knd lwFR lwGA lwGB 15 35 47 pa9WA3 pa9WB3 8000 1 60 38 1 60 184 pa9_cn_N [] pa9o3 = true := by decide +kernel
theorem pa9E3 : wEd x_KT x_tb x_tyl x_ov0 x_cp u_hs x_knd lwFR lwGA lwGB 15 35 47 pa9WA3 pa9WB3 8000 1 60 38 1 60 184 pa9_cn_N [] pa9o3 = true := wEdQ_ok lwTchOk pa9E3q
set_option maxRecDepth 1000000 in
theorem nu7E0q : wEdTQ lwTch 44 x_KT x_tb x_tyl x_ov0 x_cp u_hs x_knd lwFR lwGA lwGB 18 35 47 nu7WA0 nu7WB0 [(8, 1, 1, 0)] 8000 1 60 37 1 60 192 nu7_in nu7o0 = true := by decide +kernel
theorem nu7E0 : wEdT x_KT x_tb x_tyl x_ov0 x_cp u_hs x_knd lwFR lwGA lwGB 18 35 47 nu7WA0 nu7WB0 [(8, 1, 1, 0)] 8000 1 60 37 1 60 192 nu7_in nu7o0 = true := wEdTQ_ok lwTchOk nu7E0q
theorem nu7T0 : wTpk x_KT lwGA lwGB 25 8 1 160 (wUs nu7_in) lwFR = true := by decide +kernel
set_option maxRecDepth 1000000 in
theorem nu11E0q : wEdTQ lwTch 44 x_KT x_tb x_tyl x_ov0 x_cp u_hs x_knd lwFR lwGA lwGB 18 35 47 nu11WA0 nu11WB0 [(8, 1, 1, 0)] 8000 1 60 37 1 60 192 nu11_in nu11o0 = true := by decide +kernel
theorem nu11E0 : wEdT x_KT x_tb x_tyl x_ov0 x_cp u_hs x_knd lwFR lwGA lwGB 18 35 47 nu11WA0 nu11WB0 [(8, 1, 1, 0)] 8000 1 60 37 1 60 192 nu11_in nu11o0 = true := wEdTQ_ok lwTchOk nu11E0q
theorem nu11T0 : wTpk x_KT lwGA lwGB 25 8 1 160 (wUs nu11_in) lwFR = true := by decide +kernel
end XRuC10
