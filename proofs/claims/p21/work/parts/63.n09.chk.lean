/-! Runs: checks, 9. -/
noncomputable section XRuC9
set_option maxRecDepth 1000000 in
theorem pa6E0q : wEdTQ lwTch 43 x_KT x_tb x_tyl x_ov0 x_cp u_hs x_knd lwFR lwGA lwGB 7 30 44 pa6WA0 pa6WB0 [(2, 1, 1, 0)] 8000 1 60 38 1 60 194 pa6_in pa6o0 = true := by decide +kernel
theorem pa6E0 : wEdT x_KT x_tb x_tyl x_ov0 x_cp u_hs x_knd lwFR lwGA lwGB 7 30 44 pa6WA0 pa6WB0 [(2, 1, 1, 0)] 8000 1 60 38 1 60 194 pa6_in pa6o0 = true := wEdTQ_ok lwTchOk pa6E0q
theorem pa6T0 : wTpk x_KT lwGA lwGB 25 2 1 160 (wUs pa6_in) lwFR = true := by decide +kernel
set_option maxRecDepth 1000000 in
theorem pa6E1q : wEdTQ lwTch 43 x_KT x_tb x_tyl x_ov0 x_cp u_hs x_knd lwFR lwGA lwGB 7 30 44 pa6WA1 pa6WB1 [(2, 1, 1, 0)] 8000 1 60 38 1 60 194 pa6_s1 pa6o1 = true := by decide +kernel
theorem pa6E1 : wEdT x_KT x_tb x_tyl x_ov0 x_cp u_hs x_knd lwFR lwGA lwGB 7 30 44 pa6WA1 pa6WB1 [(2, 1, 1, 0)] 8000 1 60 38 1 60 194 pa6_s1 pa6o1 = true := wEdTQ_ok lwTchOk pa6E1q
theorem pa6T1 : wTpk x_KT lwGA lwGB 25 2 1 160 (wUs pa6_s1) lwFR = true := by decide +kernel
set_option maxRecDepth 1000000 in
theorem nu9E0q : wEdTQ lwTch 43 x_KT x_tb x_tyl x_ov0 x_cp u_hs x_knd lwFR lwGA lwGB 8 30 44 nu9WA0 nu9WB0 [(2, 1, 1, 0)] 8000 1 60 37 1 60 192 nu9_in nu9o0 = true := by decide +kernel
theorem nu9E0 : wEdT x_KT x_tb x_tyl x_ov0 x_cp u_hs x_knd lwFR lwGA lwGB 8 30 44 nu9WA0 nu9WB0 [(2, 1, 1, 0)] 8000 1 60 37 1 60 192 nu9_in nu9o0 = true := wEdTQ_ok lwTchOk nu9E0q
theorem nu9T0 : wTpk x_KT lwGA lwGB 25 2 1 160 (wUs nu9_in) lwFR = true := by decide +kernel
theorem pa9L0 : wRlk 8 30 44 nu9WA nu9WB pa9X0.2.1 pa9X0.2.2.1 pa9X0.2.2.2.1 pa9X0.2.2.2.2 nu9_in = true := by decide +kernel
set_option maxRecDepth 1000000 in
theorem pa9E1q : wEdTQ lwTch 43 x_KT x_tb x_tyl x_ov0 x_cp u_hs x_knd lwFR lwGA lwGB 7 30 44 pa9WA1 pa9WB1 [(2, 1, 1, 0)] 8000 1 60 38 1 60 184 pa9_in pa9o1 = true := by decide +kernel
theorem pa9E1 : wEdT x_KT x_tb x_tyl x_ov0 x_cp u_hs x_knd lwFR lwGA lwGB 7 30 44 pa9WA1 pa9WB1 [(2, 1, 1, 0)] 8000 1 60 38 1 60 184 pa9_in pa9o1 = true := wEdTQ_ok lwTchOk pa9E1q
theorem pa9T1 : wTpk x_KT lwGA lwGB 25 2 1 160 (wUs pa9_in) lwFR = true := by decide +kernel
set_option maxRecDepth 1000000 in
theorem pa9E2q : wEdQ lwTch 43 x_KT x_tb x_tyl x_ov0 x_cp u_hs x_knd lwFR lwGA lwGB 7 30 44 pa9WA2 pa9WB2 8000 1 60 38 1 60 184 pa9_cn_Y [] pa9o2 = true := by decide +kernel
theorem pa9E2 : wEd x_KT x_tb x_tyl x_ov0 x_cp u_hs x_knd lwFR lwGA lwGB 7 30 44 pa9WA2 pa9WB2 8000 1 60 38 1 60 184 pa9_cn_Y [] pa9o2 = true := wEdQ_ok lwTchOk pa9E2q
set_option maxRecDepth 1000000 in
theorem pa9E3q : wEdQ lwTch 43 x_KT x_tb x_tyl x_ov0 x_cp u_hs x_knd lwFR lwGA lwGB 7 30 44 pa9WA3 pa9WB3 8000 1 60 38 1 60 184 pa9_cn_N [] pa9o3 = true := by decide +kernel
theorem pa9E3 : wEd x_KT x_tb x_tyl x_ov0 x_cp u_hs x_knd lwFR lwGA lwGB 7 30 44 pa9WA3 pa9WB3 8000 1 60 38 1 60 184 pa9_cn_N [] pa9o3 = true := wEdQ_ok lwTchOk pa9E3q
set_option maxRecDepth 1000000 in
theorem nu7E0q : wEdTQ lwTch 43 x_KT x_tb x_tyl x_ov0 x_cp u_hs x_knd lwFR lwGA lwGB 10 30 44 nu7WA0 nu7WB0 [(2, 1, 1, 0)] 8000 1 60 37 1 60 192 nu7_in nu7o0 = true := by decide +kernel
theorem nu7E0 : wEdT x_KT x_tb x_tyl x_ov0 x_cp u_hs x_knd lwFR lwGA lwGB 10 30 44 nu7WA0 nu7WB0 [(2, 1, 1, 0)] 8000 1 60 37 1 60 192 nu7_in nu7o0 = true := wEdTQ_ok lwTchOk nu7E0q
theorem nu7T0 : wTpk x_KT lwGA lwGB 25 2 1 160 (wUs nu7_in) lwFR = true := by decide +kernel
set_option maxRecDepth 1000000 in
theorem nu11E0q : wEdTQ lwTch 43 x_KT x_tb x_tyl x_ov0 x_cp u_hs x_knd lwFR lwGA lwGB 10 30 44 nu11WA0 nu11WB0 [(2, 1, 1, 0)] 8000 1 60 37 1 60 192 nu11_in nu11o0 = true := by decide +kernel
theorem nu11E0 : wEdT x_KT x_tb x_tyl x_ov0 x_cp u_hs x_knd lwFR lwGA lwGB 10 30 44 nu11WA0 nu11WB0 [(2, 1, 1, 0)] 8000 1 60 37 1 60 192 nu11_in nu11o0 = true := wEdTQ_ok lwTchOk nu11E0q
theorem nu11T0 : wTpk x_KT lwGA lwGB 25 2 1 160 (wUs nu11_in) lwFR = true := by decide +kernel
set_option maxRecDepth 1000000 in
theorem pa7E0q : wEdTQ lwTch 43 x_KT x_tb x_tyl x_ov0 x_cp u_hs x_knd lwFR lwGA lwGB 7 30 44 pa7WA0 pa7WB0 [(2, 1, 1, 0)] 8000 1 60 31 1 60 191 pa7_in pa7o0 = true := by decide +kernel
theorem pa7E0 : wEdT x_KT x_tb x_tyl x_ov0 x_cp u_hs x_knd lwFR lwGA lwGB 7 30 44 pa7WA0 pa7WB0 [(2, 1, 1, 0)] 8000 1 60 31 1 60 191 pa7_in pa7o0 = true := wEdTQ_ok lwTchOk pa7E0q
theorem pa7T0 : wTpk x_KT lwGA lwGB 25 2 1 160 (wUs pa7_in) lwFR = true := by decide +kernel
set_option maxRecDepth 1000000 in
theorem pa7E1q : wEdTQ lwTch 43 x_KT x_tb x_tyl x_ov0 x_cp u_hs x_knd lwFR lwGA lwGB 7 30 44 pa7WA1 pa7WB1 [(2, 1, 1, 0)] 8000 1 60 31 1 60 191 pa7_s1 pa7o1 = true := by decide +kernel
theorem pa7E1 : wEdT x_KT x_tb x_tyl x_ov0 x_cp u_hs x_knd lwFR lwGA lwGB 7 30 44 pa7WA1 pa7WB1 [(2, 1, 1, 0)] 8000 1 60 31 1 60 191 pa7_s1 pa7o1 = true := wEdTQ_ok lwTchOk pa7E1q
theorem pa7T1 : wTpk x_KT lwGA lwGB 25 2 1 160 (wUs pa7_s1) lwFR = true := by decide +kernel
theorem pa7L2 : wRlk 10 30 44 nu7WA nu7WB pa7X2.2.1 pa7X2.2.2.1 pa7X2.2.2.2.1 pa7X2.2.2.2.2 nu7_in = true := by decide +kernel
set_option maxRecDepth 1000000 in
theorem pa7E3q : wEdTQ lwTch 43 x_KT x_tb x_tyl x_ov0 x_cp u_hs x_knd lwFR lwGA lwGB 7 30 44 pa7WA3 pa7WB3 [(2, 1, 1, 0)] 8000 1 60 31 1 60 191 pa7_s2_7 pa7o3 = true := by decide +kernel
theorem pa7E3 : wEdT x_KT x_tb x_tyl x_ov0 x_cp u_hs x_knd lwFR lwGA lwGB 7 30 44 pa7WA3 pa7WB3 [(2, 1, 1, 0)] 8000 1 60 31 1 60 191 pa7_s2_7 pa7o3 = true := wEdTQ_ok lwTchOk pa7E3q
theorem pa7T3 : wTpk x_KT lwGA lwGB 25 2 1 160 (wUs pa7_s2_7) lwFR = true := by decide +kernel
set_option maxRecDepth 1000000 in
theorem pa7E4q : wEdQ lwTch 43 x_KT x_tb x_tyl x_ov0 x_cp u_hs x_knd lwFR lwGA lwGB 7 30 44 pa7WA4 pa7WB4 8000 1 60 31 1 60 191 pa7_cn7_Y [] pa7o4 = true := by decide +kernel
theorem pa7E4 : wEd x_KT x_tb x_tyl x_ov0 x_cp u_hs x_knd lwFR lwGA lwGB 7 30 44 pa7WA4 pa7WB4 8000 1 60 31 1 60 191 pa7_cn7_Y [] pa7o4 = true := wEdQ_ok lwTchOk pa7E4q
set_option maxRecDepth 1000000 in
theorem pa7E5q : wEdQ lwTch 43 x_KT x_tb x_tyl x_ov0 x_cp u_hs x_knd lwFR lwGA lwGB 7 30 44 pa7WA5 pa7WB5 8000 1 60 31 1 60 191 pa7_cn7_N [] pa7o5 = true := by decide +kernel
theorem pa7E5 : wEd x_KT x_tb x_tyl x_ov0 x_cp u_hs x_knd lwFR lwGA lwGB 7 30 44 pa7WA5 pa7WB5 8000 1 60 31 1 60 191 pa7_cn7_N [] pa7o5 = true := wEdQ_ok lwTchOk pa7E5q
theorem pa7L6 : wRlk 10 30 44 nu11WA nu11WB pa7X6.2.1 pa7X6.2.2.1 pa7X6.2.2.2.1 pa7X6.2.2.2.2 nu11_in = true := by decide +kernel
set_option maxRecDepth 1000000 in
theorem pa7E7q : wEdTQ lwTch 43 x_KT x_tb x_tyl x_ov0 x_cp u_hs x_knd lwFR lwGA lwGB 7 30 44 pa7WA7 pa7WB7 [(2, 1, 1, 0)] 8000 1 60 31 1 60 191 pa7_s2_11 pa7o7 = true := by decide +kernel
theorem pa7E7 : wEdT x_KT x_tb x_tyl x_ov0 x_cp u_hs x_knd lwFR lwGA lwGB 7 30 44 pa7WA7 pa7WB7 [(2, 1, 1, 0)] 8000 1 60 31 1 60 191 pa7_s2_11 pa7o7 = true := wEdTQ_ok lwTchOk pa7E7q
theorem pa7T7 : wTpk x_KT lwGA lwGB 25 2 1 160 (wUs pa7_s2_11) lwFR = true := by decide +kernel
set_option maxRecDepth 1000000 in
theorem pa7E8q : wEdQ lwTch 43 x_KT x_tb x_tyl x_ov0 x_cp u_hs x_knd lwFR lwGA lwGB 7 30 44 pa7WA8 pa7WB8 8000 1 60 31 1 60 191 pa7_cn11_Y [] pa7o8 = true := by decide +kernel
theorem pa7E8 : wEd x_KT x_tb x_tyl x_ov0 x_cp u_hs x_knd lwFR lwGA lwGB 7 30 44 pa7WA8 pa7WB8 8000 1 60 31 1 60 191 pa7_cn11_Y [] pa7o8 = true := wEdQ_ok lwTchOk pa7E8q
set_option maxRecDepth 1000000 in
theorem pa7E9q : wEdQ lwTch 43 x_KT x_tb x_tyl x_ov0 x_cp u_hs x_knd lwFR lwGA lwGB 7 30 44 pa7WA9 pa7WB9 8000 1 60 31 1 60 191 pa7_cn11_N [] pa7o9 = true := by decide +kernel
theorem pa7E9 : wEd x_KT x_tb x_tyl x_ov0 x_cp u_hs x_knd lwFR lwGA lwGB 7 30 44 pa7WA9 pa7WB9 8000 1 60 31 1 60 191 pa7_cn11_N [] pa7o9 = true := wEdQ_ok lwTchOk pa7E9q
set_option maxRecDepth 1000000 in
theorem lnE0q : wEdQ lwTch 43 x_KT x_tb x_tyl x_ov0 x_cp u_hs x_knd lwFR lwGA lwGB 7 30 44 lnWA0 lnWB0 8000 0 60 15 0 60 184 ln_in [.inl (lAdd (lSc (-1) (lSy 6)) (lAdd (lSy 4) (lK (-1)))), .inr (.inl (1001, (lAdd (lSc (-1) (lSy 6)) (lK 159)))), .inr (.inr (25, [(lSy 6)])), .inl (lAdd (lSy 7) (lK (-97))), .inl (lAdd (lSy 7) (lK (-98))), .inl (lAdd (lSy 7) (lK (-101))), .inl (lAdd (lSy 7) (lK (-102))), .inl (lAdd (lSy 7) (lK (-103))), .inl (lAdd (lSy 7) (lK (-104))), .inl (lAdd (lSy 7) (lK (-105))), .inl (lAdd (lSy 7) (lK (-106))), .inl (lAdd (lSy 7) (lK (-108))), .inl (lAdd (lSy 7) (lK (-109))), .inl (lAdd (lSy 7) (lK (-110))), .inl (lAdd (lSy 7) (lK (-111))), .inl (lAdd (lSy 7) (lK (-112))), .inl (lAdd (lSy 7) (lK (-115))), .inl (lAdd (lSy 7) (lK (-116)))] lno0 = true := by decide +kernel
theorem lnE0 : wEd x_KT x_tb x_tyl x_ov0 x_cp u_hs x_knd lwFR lwGA lwGB 7 30 44 lnWA0 lnWB0 8000 0 60 15 0 60 184 ln_in [.inl (lAdd (lSc (-1) (lSy 6)) (lAdd (lSy 4) (lK (-1)))), .inr (.inl (1001, (lAdd (lSc (-1) (lSy 6)) (lK 159)))), .inr (.inr (25, [(lSy 6)])), .inl (lAdd (lSy 7) (lK (-97))), .inl (lAdd (lSy 7) (lK (-98))), .inl (lAdd (lSy 7) (lK (-101))), .inl (lAdd (lSy 7) (lK (-102))), .inl (lAdd (lSy 7) (lK (-103))), .inl (lAdd (lSy 7) (lK (-104))), .inl (lAdd (lSy 7) (lK (-105))), .inl (lAdd (lSy 7) (lK (-106))), .inl (lAdd (lSy 7) (lK (-108))), .inl (lAdd (lSy 7) (lK (-109))), .inl (lAdd (lSy 7) (lK (-110))), .inl (lAdd (lSy 7) (lK (-111))), .inl (lAdd (lSy 7) (lK (-112))), .inl (lAdd (lSy 7) (lK (-115))), .inl (lAdd (lSy 7) (lK (-116)))] lno0 = true := wEdQ_ok lwTchOk lnE0q
set_option maxRecDepth 1000000 in
theorem lnE1q : wEdQ lwTch 43 x_KT x_tb x_tyl x_ov0 x_cp u_hs x_knd lwFR lwGA lwGB 7 30 44 lnWA1 lnWB1 8000 1 60 15 1 60 184 ln_g0 [] lno1 = true := by decide +kernel
theorem lnE1 : wEd x_KT x_tb x_tyl x_ov0 x_cp u_hs x_knd lwFR lwGA lwGB 7 30 44 lnWA1 lnWB1 8000 1 60 15 1 60 184 ln_g0 [] lno1 = true := wEdQ_ok lwTchOk lnE1q
end XRuC9
