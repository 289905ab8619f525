/-! Runs: checks, 8. -/
noncomputable section XRuC8
set_option maxRecDepth 1000000 in
theorem actE6q : wEdQ lwTch 44 x_KT x_tb x_tyl x_ov0 u_ct u_hs x_knd lwFR lwGA lwGB 13 30 46 actWA6 actWB6 8000 1 60 159 1 60 263 act_k5 [.inl (lSy 14), .inl (lAdd (lSy 14) (lK (-1))), .inl (lAdd (lSy 14) (lK (-2))), .inl (lAdd (lSy 14) (lK (-3)))] acto6 = true := by decide +kernel
theorem actE6 : wEd x_KT x_tb x_tyl x_ov0 u_ct u_hs x_knd lwFR lwGA lwGB 13 30 46 actWA6 actWB6 8000 1 60 159 1 60 263 act_k5 [.inl (lSy 14), .inl (lAdd (lSy 14) (lK (-1))), .inl (lAdd (lSy 14) (lK (-2))), .inl (lAdd (lSy 14) (lK (-3)))] acto6 = true := wEdQ_ok lwTchOk actE6q
set_option maxRecDepth 1000000 in
theorem actE7q : wEdQ lwTch 44 x_KT x_tb x_tyl x_ov0 u_ct u_hs x_knd lwFR lwGA lwGB 13 30 46 actWA7 actWB7 8000 1 60 159 1 60 263 act_k6 [.inl (lSy 14), .inl (lAdd (lSy 14) (lK (-1))), .inl (lAdd (lSy 14) (lK (-2))), .inl (lAdd (lSy 14) (lK (-3)))] acto7 = true := by decide +kernel
theorem actE7 : wEd x_KT x_tb x_tyl x_ov0 u_ct u_hs x_knd lwFR lwGA lwGB 13 30 46 actWA7 actWB7 8000 1 60 159 1 60 263 act_k6 [.inl (lSy 14), .inl (lAdd (lSy 14) (lK (-1))), .inl (lAdd (lSy 14) (lK (-2))), .inl (lAdd (lSy 14) (lK (-3)))] acto7 = true := wEdQ_ok lwTchOk actE7q
set_option maxRecDepth 1000000 in
theorem actE8q : wEdQ lwTch 44 x_KT x_tb x_tyl x_ov0 u_ct u_hs x_knd lwFR lwGA lwGB 13 30 46 actWA8 actWB8 8000 1 60 159 1 60 263 act_no [] acto8 = true := by decide +kernel
theorem actE8 : wEd x_KT x_tb x_tyl x_ov0 u_ct u_hs x_knd lwFR lwGA lwGB 13 30 46 actWA8 actWB8 8000 1 60 159 1 60 263 act_no [] acto8 = true := wEdQ_ok lwTchOk actE8q
set_option maxRecDepth 1000000 in
theorem actE9q : wEdQ lwTch 44 x_KT x_tb x_tyl x_ov0 u_ct u_hs x_knd lwFR lwGA lwGB 13 30 46 actWA9 actWB9 8000 1 60 159 1 60 263 act_nx [] acto9 = true := by decide +kernel
theorem actE9 : wEd x_KT x_tb x_tyl x_ov0 u_ct u_hs x_knd lwFR lwGA lwGB 13 30 46 actWA9 actWB9 8000 1 60 159 1 60 263 act_nx [] acto9 = true := wEdQ_ok lwTchOk actE9q
set_option maxRecDepth 1000000 in
theorem actbc : wBcN lwN lwFS.length 3 lwTA lwTB lwGA lwGB 13 30 46 u_ps uPA uPB act_in actOX = true := by decide +kernel
set_option maxRecDepth 1000000 in
theorem hmE0q : wEdQ lwTch 44 x_KT x_tb x_tyl x_ov0 u_ct u_hs x_knd lwFR lwGA lwGB 14 30 46 hmWA0 hmWB0 8000 1 60 172 1 60 271 hm_in [] hmo0 = true := by decide +kernel
theorem hmE0 : wEd x_KT x_tb x_tyl x_ov0 u_ct u_hs x_knd lwFR lwGA lwGB 14 30 46 hmWA0 hmWB0 8000 1 60 172 1 60 271 hm_in [] hmo0 = true := wEdQ_ok lwTchOk hmE0q
set_option maxRecDepth 1000000 in
theorem hmE1q : wEdQ lwTch 44 x_KT x_tb x_tyl x_ov0 u_ct u_hs x_knd lwFR lwGA lwGB 14 30 46 hmWA1 hmWB1 8000 1 60 172 1 60 271 hm_lp [.inl (lAdd (lSc (-1) (lSy 15)) (lAdd (lSy 11) (lK (-1)))), .inr (.inl (1001, (lAdd (lSc (-1) (lSy 15)) (lK 11)))), .inr (.inr (0, [(lSy 15)]))] hmo1 = true := by decide +kernel
theorem hmE1 : wEd x_KT x_tb x_tyl x_ov0 u_ct u_hs x_knd lwFR lwGA lwGB 14 30 46 hmWA1 hmWB1 8000 1 60 172 1 60 271 hm_lp [.inl (lAdd (lSc (-1) (lSy 15)) (lAdd (lSy 11) (lK (-1)))), .inr (.inl (1001, (lAdd (lSc (-1) (lSy 15)) (lK 11)))), .inr (.inr (0, [(lSy 15)]))] hmo1 = true := wEdQ_ok lwTchOk hmE1q
set_option maxRecDepth 1000000 in
theorem hwE0q : wEdQ lwTch 44 x_KT x_tb x_tyl x_ov0 u_ct u_hs x_knd lwFR lwGA lwGB 13 30 46 hwWA0 hwWB0 8000 1 60 173 1 60 270 hw_in [] hwo0 = true := by decide +kernel
theorem hwE0 : wEd x_KT x_tb x_tyl x_ov0 u_ct u_hs x_knd lwFR lwGA lwGB 13 30 46 hwWA0 hwWB0 8000 1 60 173 1 60 270 hw_in [] hwo0 = true := wEdQ_ok lwTchOk hwE0q
set_option maxRecDepth 1000000 in
theorem hwE1q : wEdQ lwTch 44 x_KT x_tb x_tyl x_ov0 u_ct u_hs x_knd lwFR lwGA lwGB 13 30 46 hwWA1 hwWB1 8000 1 60 173 1 60 270 hw_lp [.inl (lAdd (lSc (-1) (lSy 14)) (lAdd (lSy 11) (lK (-1)))), .inr (.inl (1001, (lAdd (lSc (-1) (lSy 14)) (lK 11)))), .inr (.inr (30, [(lSy 14)]))] hwo1 = true := by decide +kernel
theorem hwE1 : wEd x_KT x_tb x_tyl x_ov0 u_ct u_hs x_knd lwFR lwGA lwGB 13 30 46 hwWA1 hwWB1 8000 1 60 173 1 60 270 hw_lp [.inl (lAdd (lSc (-1) (lSy 14)) (lAdd (lSy 11) (lK (-1)))), .inr (.inl (1001, (lAdd (lSc (-1) (lSy 14)) (lK 11)))), .inr (.inr (30, [(lSy 14)]))] hwo1 = true := wEdQ_ok lwTchOk hwE1q
theorem countL0 : wRlk 14 30 46 hmWA hmWB countX0.2.1 countX0.2.2.1 countX0.2.2.2.1 countX0.2.2.2.2 hm_in = true := by decide +kernel
theorem countL1 : wRlk 14 30 46 hmWA hmWB countX1.2.1 countX1.2.2.1 countX1.2.2.2.1 countX1.2.2.2.2 hm_in = true := by decide +kernel
theorem countL2 : wRlk 13 30 46 hwWA hwWB countX2.2.1 countX2.2.2.1 countX2.2.2.2.1 countX2.2.2.2.2 hw_in = true := by decide +kernel
set_option maxRecDepth 1000000 in
theorem countE3q : wEdQ lwTch 44 x_KT x_tb x_tyl x_ov0 u_ct u_hs x_knd lwFR lwGA lwGB 13 30 46 countWA3 countWB3 8000 1 60 171 1 60 270 count_in [.inl (lSy 13), .inl (lAdd (lSy 13) (lK (-1))), .inl (lAdd (lSy 13) (lK (-2))), .inl (lAdd (lSy 13) (lK (-3))), .inl (lAdd (lSy 13) (lK (-4))), .inl (lAdd (lSy 13) (lK (-5))), .inl (lAdd (lSy 13) (lK (-6))), .inl (lAdd (lSy 13) (lK (-7))), .inl (lAdd (lSy 13) (lK (-8))), .inl (lAdd (lSy 13) (lK (-9))), .inl (lAdd (lSy 13) (lK (-10))), .inl (lAdd (lSy 13) (lK (-11))), .inl (lAdd (lSy 13) (lK (-12))), .inl (lAdd (lSy 13) (lK (-13))), .inl (lAdd (lSy 13) (lK (-14)))] counto3 = true := by decide +kernel
theorem countE3 : wEd x_KT x_tb x_tyl x_ov0 u_ct u_hs x_knd lwFR lwGA lwGB 13 30 46 countWA3 countWB3 8000 1 60 171 1 60 270 count_in [.inl (lSy 13), .inl (lAdd (lSy 13) (lK (-1))), .inl (lAdd (lSy 13) (lK (-2))), .inl (lAdd (lSy 13) (lK (-3))), .inl (lAdd (lSy 13) (lK (-4))), .inl (lAdd (lSy 13) (lK (-5))), .inl (lAdd (lSy 13) (lK (-6))), .inl (lAdd (lSy 13) (lK (-7))), .inl (lAdd (lSy 13) (lK (-8))), .inl (lAdd (lSy 13) (lK (-9))), .inl (lAdd (lSy 13) (lK (-10))), .inl (lAdd (lSy 13) (lK (-11))), .inl (lAdd (lSy 13) (lK (-12))), .inl (lAdd (lSy 13) (lK (-13))), .inl (lAdd (lSy 13) (lK (-14)))] counto3 = true := wEdQ_ok lwTchOk countE3q
set_option maxRecDepth 1000000 in
theorem countE4q : wEdQ lwTch 44 x_KT x_tb x_tyl x_ov0 u_ct u_hs x_knd lwFR lwGA lwGB 13 30 46 countWA4 countWB4 8000 1 60 171 1 60 270 count_c4_out [] counto4 = true := by decide +kernel
theorem countE4 : wEd x_KT x_tb x_tyl x_ov0 u_ct u_hs x_knd lwFR lwGA lwGB 13 30 46 countWA4 countWB4 8000 1 60 171 1 60 270 count_c4_out [] counto4 = true := wEdQ_ok lwTchOk countE4q
set_option maxRecDepth 1000000 in
theorem countE5q : wEdQ lwTch 44 x_KT x_tb x_tyl x_ov0 u_ct u_hs x_knd lwFR lwGA lwGB 13 30 46 countWA5 countWB5 8000 1 60 171 1 60 270 count_c5_out [] counto5 = true := by decide +kernel
theorem countE5 : wEd x_KT x_tb x_tyl x_ov0 u_ct u_hs x_knd lwFR lwGA lwGB 13 30 46 countWA5 countWB5 8000 1 60 171 1 60 270 count_c5_out [] counto5 = true := wEdQ_ok lwTchOk countE5q
set_option maxRecDepth 1000000 in
theorem countE6q : wEdQ lwTch 44 x_KT x_tb x_tyl x_ov0 u_ct u_hs x_knd lwFR lwGA lwGB 13 30 46 countWA6 countWB6 8000 1 60 171 1 60 270 count_cw_out [] counto6 = true := by decide +kernel
theorem countE6 : wEd x_KT x_tb x_tyl x_ov0 u_ct u_hs x_knd lwFR lwGA lwGB 13 30 46 countWA6 countWB6 8000 1 60 171 1 60 270 count_cw_out [] counto6 = true := wEdQ_ok lwTchOk countE6q
set_option maxRecDepth 1000000 in
theorem countbc : wBc lwN lwFS.length 1 lwTA lwTB lwGA lwGB 13 30 46 u_ps uPA uPB count_in countOX = true := by decide +kernel
set_option maxRecDepth 1000000 in
theorem pa0E0q : wEdTQ lwTch 44 x_KT x_tb x_tyl x_ov0 x_cp u_hs x_knd lwFR lwGA lwGB 15 35 47 pa0WA0 pa0WB0 [(8, 1, 1, 0)] 8000 1 60 38 1 60 186 pa0_in pa0o0 = true := by decide +kernel
theorem pa0E0 : wEdT x_KT x_tb x_tyl x_ov0 x_cp u_hs x_knd lwFR lwGA lwGB 15 35 47 pa0WA0 pa0WB0 [(8, 1, 1, 0)] 8000 1 60 38 1 60 186 pa0_in pa0o0 = true := wEdTQ_ok lwTchOk pa0E0q
theorem pa0T0 : wTpk x_KT lwGA lwGB 25 8 1 160 (wUs pa0_in) lwFR = true := by decide +kernel
set_option maxRecDepth 1000000 in
theorem pa1E0q : wEdTQ lwTch 44 x_KT x_tb x_tyl x_ov0 x_cp u_hs x_knd lwFR lwGA lwGB 15 35 47 pa1WA0 pa1WB0 [(8, 1, 1, 0)] 8000 1 60 38 1 60 186 pa1_in pa1o0 = true := by decide +kernel
theorem pa1E0 : wEdT x_KT x_tb x_tyl x_ov0 x_cp u_hs x_knd lwFR lwGA lwGB 15 35 47 pa1WA0 pa1WB0 [(8, 1, 1, 0)] 8000 1 60 38 1 60 186 pa1_in pa1o0 = true := wEdTQ_ok lwTchOk pa1E0q
theorem pa1T0 : wTpk x_KT lwGA lwGB 25 8 1 160 (wUs pa1_in) lwFR = true := by decide +kernel
set_option maxRecDepth 1000000 in
theorem pa2E0q : wEdTQ lwTch 44 x_KT x_tb x_tyl x_ov0 x_cp u_hs x_knd lwFR lwGA lwGB 15 35 47 pa2WA0 pa2WB0 [(8, 1, 1, 0)] 8000 1 60 38 1 60 186 pa2_in pa2o0 = true := by decide +kernel
theorem pa2E0 : wEdT x_KT x_tb x_tyl x_ov0 x_cp u_hs x_knd lwFR lwGA lwGB 15 35 47 pa2WA0 pa2WB0 [(8, 1, 1, 0)] 8000 1 60 38 1 60 186 pa2_in pa2o0 = true := wEdTQ_ok lwTchOk pa2E0q
theorem pa2T0 : wTpk x_KT lwGA lwGB 25 8 1 160 (wUs pa2_in) lwFR = true := by decide +kernel
end XRuC8
