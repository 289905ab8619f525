/-! Runs: checks, 28. -/
noncomputable section XRuC28
set_option maxRecDepth 1000000 in
theorem bbE1R2 : wRkE x_KT x_tb x_tyl x_ov0 u_ct u_hs x_knd lwFR lwGA lwGB bbVA1_2 bbVB1_2 8000 0 60 113 1 60 221 (bbo1.map (wNo [2])) bb_in lwF2 [.inl (lAdd (lSc (-1) (lSy 7)) (lAdd (lSy 3) (lK (-1)))), .inr (.inr (2, []))] = true := by decide +kernel
set_option maxRecDepth 1000000 in
theorem bbE2q : wEdQ lwTch 43 x_KT x_tb x_tyl x_ov0 u_ct u_hs x_knd lwFR lwGA lwGB 6 25 43 bbWA2 bbWB2 8000 0 60 113 1 60 221 bb_c_out [] bbo2 = true := by decide +kernel
theorem bbE2 : wEd x_KT x_tb x_tyl x_ov0 u_ct u_hs x_knd lwFR lwGA lwGB 6 25 43 bbWA2 bbWB2 8000 0 60 113 1 60 221 bb_c_out [] bbo2 = true := wEdQ_ok lwTchOk bbE2q
theorem besideL0 : wRlk 11 25 43 rtWA rtWB besideX0.2.1 besideX0.2.2.1 besideX0.2.2.2.1 besideX0.2.2.2.2 rt_in = true := by decide +kernel
set_option maxRecDepth 1000000 in
theorem besideE1q : wEdQ lwTch 43 x_KT x_tb x_tyl x_ov0 u_ct u_hs x_knd lwFR lwGA lwGB 5 25 43 besideWA1 besideWB1 8000 1 60 146 0 60 221 beside_in [] besideo1 = true := by decide +kernel
theorem besideE1 : wEd x_KT x_tb x_tyl x_ov0 u_ct u_hs x_knd lwFR lwGA lwGB 5 25 43 besideWA1 besideWB1 8000 1 60 146 0 60 221 beside_in [] besideo1 = true := wEdQ_ok lwTchOk besideE1q
theorem besideL2 : wRlk 16 25 43 rhWA rhWB besideX2.2.1 besideX2.2.2.1 besideX2.2.2.2.1 besideX2.2.2.2.2 rh_in = true := by decide +kernel
set_option maxRecDepth 1000000 in
theorem besideE3q : wEdQ lwTch 43 x_KT x_tb x_tyl x_ov0 u_ct u_hs x_knd lwFR lwGA lwGB 5 25 43 besideWA3 besideWB3 8000 1 60 146 0 60 221 beside_c1_out [.inr (.inl (1001, (lAdd (lSy 5) (lK (-1900))))), .inr (.inl (1001, (lAdd (lSc (-1) (lSy 5)) (lK 2099))))] besideo3 = true := by decide +kernel
theorem besideE3 : wEd x_KT x_tb x_tyl x_ov0 u_ct u_hs x_knd lwFR lwGA lwGB 5 25 43 besideWA3 besideWB3 8000 1 60 146 0 60 221 beside_c1_out [.inr (.inl (1001, (lAdd (lSy 5) (lK (-1900))))), .inr (.inl (1001, (lAdd (lSc (-1) (lSy 5)) (lK 2099))))] besideo3 = true := wEdQ_ok lwTchOk besideE3q
theorem besideL4 : wRlk 6 25 43 bbWA bbWB besideX4.2.1 besideX4.2.2.1 besideX4.2.2.2.1 besideX4.2.2.2.2 bb_in = true := by decide +kernel
set_option maxRecDepth 1000000 in
theorem besideE5q : wEdQ lwTch 43 x_KT x_tb x_tyl x_ov0 u_ct u_hs x_knd lwFR lwGA lwGB 5 25 43 besideWA5 besideWB5 8000 0 60 146 0 60 221 beside_r1 [] besideo5 = true := by decide +kernel
theorem besideE5 : wEd x_KT x_tb x_tyl x_ov0 u_ct u_hs x_knd lwFR lwGA lwGB 5 25 43 besideWA5 besideWB5 8000 0 60 146 0 60 221 beside_r1 [] besideo5 = true := wEdQ_ok lwTchOk besideE5q
set_option maxRecDepth 1000000 in
theorem besideE6q : wEdQ lwTch 43 x_KT x_tb x_tyl x_ov0 u_ct u_hs x_knd lwFR lwGA lwGB 5 25 43 besideWA6 besideWB6 8000 1 60 146 1 60 221 beside_f9_e139 [] besideo6 = true := by decide +kernel
theorem besideE6 : wEd x_KT x_tb x_tyl x_ov0 u_ct u_hs x_knd lwFR lwGA lwGB 5 25 43 besideWA6 besideWB6 8000 1 60 146 1 60 221 beside_f9_e139 [] besideo6 = true := wEdQ_ok lwTchOk besideE6q
set_option maxRecDepth 1000000 in
theorem besideE7q : wEdQ lwTch 43 x_KT x_tb x_tyl x_ov0 u_ct u_hs x_knd lwFR lwGA lwGB 5 25 43 besideWA7 besideWB7 8000 1 60 146 1 60 221 beside_f9_e9 [] besideo7 = true := by decide +kernel
theorem besideE7 : wEd x_KT x_tb x_tyl x_ov0 u_ct u_hs x_knd lwFR lwGA lwGB 5 25 43 besideWA7 besideWB7 8000 1 60 146 1 60 221 beside_f9_e9 [] besideo7 = true := wEdQ_ok lwTchOk besideE7q
theorem besideL8 : wRlk 6 25 43 bbWA bbWB besideX8.2.1 besideX8.2.2.1 besideX8.2.2.2.1 besideX8.2.2.2.2 bb_in = true := by decide +kernel
set_option maxRecDepth 1000000 in
theorem besideE9q : wEdQ lwTch 43 x_KT x_tb x_tyl x_ov0 u_ct u_hs x_knd lwFR lwGA lwGB 5 25 43 besideWA9 besideWB9 8000 0 60 146 0 60 221 beside_c3_out [] besideo9 = true := by decide +kernel
theorem besideE9 : wEd x_KT x_tb x_tyl x_ov0 u_ct u_hs x_knd lwFR lwGA lwGB 5 25 43 besideWA9 besideWB9 8000 0 60 146 0 60 221 beside_c3_out [] besideo9 = true := wEdQ_ok lwTchOk besideE9q
set_option maxRecDepth 1000000 in
theorem besideE10q : wEdQ lwTch 43 x_KT x_tb x_tyl x_ov0 u_ct u_hs x_knd lwFR lwGA lwGB 5 25 43 besideWA10 besideWB10 8000 1 60 146 1 60 221 beside_f23_e139 [] besideo10 = true := by decide +kernel
theorem besideE10 : wEd x_KT x_tb x_tyl x_ov0 u_ct u_hs x_knd lwFR lwGA lwGB 5 25 43 besideWA10 besideWB10 8000 1 60 146 1 60 221 beside_f23_e139 [] besideo10 = true := wEdQ_ok lwTchOk besideE10q
set_option maxRecDepth 1000000 in
theorem besideE11q : wEdQ lwTch 43 x_KT x_tb x_tyl x_ov0 u_ct u_hs x_knd lwFR lwGA lwGB 5 25 43 besideWA11 besideWB11 8000 1 60 146 1 60 221 beside_f23_e9 [] besideo11 = true := by decide +kernel
theorem besideE11 : wEd x_KT x_tb x_tyl x_ov0 u_ct u_hs x_knd lwFR lwGA lwGB 5 25 43 besideWA11 besideWB11 8000 1 60 146 1 60 221 beside_f23_e9 [] besideo11 = true := wEdQ_ok lwTchOk besideE11q
set_option maxRecDepth 1000000 in
theorem sheetE0q : wEdQ lwTch 43 x_KT x_tb x_tyl x_ov0 u_ct u_hs x_knd lwFR lwGA lwGB 5 25 43 sheetWA0 sheetWB0 8000 1 60 174 1 60 272 sheet_in [.inl (lSy 5), .inl (lAdd (lSy 5) (lK (-1))), .inl (lAdd (lSy 5) (lK (-2))), .inl (lAdd (lSy 5) (lK (-3))), .inl (lAdd (lSy 6) (lK 1)), .inl (lSy 6), .inl (lAdd (lSc (-1) (lSy 6)) (lK 2))] sheeto0 = true := by decide +kernel
theorem sheetE0 : wEd x_KT x_tb x_tyl x_ov0 u_ct u_hs x_knd lwFR lwGA lwGB 5 25 43 sheetWA0 sheetWB0 8000 1 60 174 1 60 272 sheet_in [.inl (lSy 5), .inl (lAdd (lSy 5) (lK (-1))), .inl (lAdd (lSy 5) (lK (-2))), .inl (lAdd (lSy 5) (lK (-3))), .inl (lAdd (lSy 6) (lK 1)), .inl (lSy 6), .inl (lAdd (lSc (-1) (lSy 6)) (lK 2))] sheeto0 = true := wEdQ_ok lwTchOk sheetE0q
set_option maxRecDepth 1000000 in
theorem sheetE1q : wEdQ lwTch 43 x_KT x_tb x_tyl x_ov0 u_ct u_hs x_knd lwFR lwGA lwGB 5 25 43 sheetWA1 sheetWB1 8000 1 60 174 1 60 272 sheet_c0 [.inr (.inr (4, []))] (sheeto1.map (wNo [22, 23, 21])) = true := by decide +kernel
theorem sheetE1 : wEd x_KT x_tb x_tyl x_ov0 u_ct u_hs x_knd lwFR lwGA lwGB 5 25 43 sheetWA1 sheetWB1 8000 1 60 174 1 60 272 sheet_c0 [.inr (.inr (4, []))] (sheeto1.map (wNo [22, 23, 21])) = true := wEdQ_ok lwTchOk sheetE1q
set_option maxRecDepth 1000000 in
theorem sheetE1R22 : wRkE x_KT x_tb x_tyl x_ov0 u_ct u_hs x_knd lwFR lwGA lwGB sheetVA1_22 sheetVB1_22 8000 1 60 174 1 60 272 (sheeto1.map (wNo [22, 23, 21])) sheet_c0 lwF22 [.inr (.inr (4, [])), .inr (.inr (22, [(lSy 8)]))] = true := by decide +kernel
set_option maxRecDepth 1000000 in
theorem sheetE1R23 : wRkE x_KT x_tb x_tyl x_ov0 u_ct u_hs x_knd lwFR lwGA lwGB sheetVA1_23 sheetVB1_23 8000 1 60 174 1 60 272 (sheeto1.map (wNo [22, 23, 21])) sheet_c0 lwF23 [.inr (.inr (4, [])), .inr (.inr (23, [(lSy 8)]))] = true := by decide +kernel
set_option maxRecDepth 1000000 in
theorem sheetE1R21 : wRkE x_KT x_tb x_tyl x_ov0 u_ct u_hs x_knd lwFR lwGA lwGB sheetVA1_21 sheetVB1_21 8000 1 60 174 1 60 272 (sheeto1.map (wNo [22, 23, 21])) sheet_c0 lwF21 [.inr (.inr (4, []))] = true := by decide +kernel
set_option maxRecDepth 1000000 in
theorem sheetE2q : wEdQ lwTch 43 x_KT x_tb x_tyl x_ov0 u_ct u_hs x_knd lwFR lwGA lwGB 5 25 43 sheetWA2 sheetWB2 8000 1 60 174 1 60 272 sheet_o0 [.inr (.inr (4, []))] (sheeto2.map (wNo [22, 23])) = true := by decide +kernel
theorem sheetE2 : wEd x_KT x_tb x_tyl x_ov0 u_ct u_hs x_knd lwFR lwGA lwGB 5 25 43 sheetWA2 sheetWB2 8000 1 60 174 1 60 272 sheet_o0 [.inr (.inr (4, []))] (sheeto2.map (wNo [22, 23])) = true := wEdQ_ok lwTchOk sheetE2q
set_option maxRecDepth 1000000 in
theorem sheetE2R22 : wRkE x_KT x_tb x_tyl x_ov0 u_ct u_hs x_knd lwFR lwGA lwGB sheetVA2_22 sheetVB2_22 8000 1 60 174 1 60 272 (sheeto2.map (wNo [22, 23])) sheet_o0 lwF22 [.inr (.inr (4, [])), .inr (.inr (22, [(lSy 8)]))] = true := by decide +kernel
end XRuC28
