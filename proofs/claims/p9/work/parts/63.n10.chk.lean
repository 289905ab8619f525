/-! Runs: checks, 10. -/
noncomputable section XRuC10
set_option maxRecDepth 1000000 in
theorem feedE10q : wEdQ lwTch 39 x_KT x_tb x_tyl x_ov0 u_ct u_hs x_knd lwFR lwGA lwGB 5 24 42 feedWA10 feedWB10 8000 1 60 11 1 60 180 feed_m3 [] (feedo10.map (wNo [25])) = true := by decide +kernel
theorem feedE10 : wEd x_KT x_tb x_tyl x_ov0 u_ct u_hs x_knd lwFR lwGA lwGB 5 24 42 feedWA10 feedWB10 8000 1 60 11 1 60 180 feed_m3 [] (feedo10.map (wNo [25])) = true := wEdQ_ok lwTchOk feedE10q
set_option maxRecDepth 1000000 in
theorem feedE10R25 : wRkE x_KT x_tb x_tyl x_ov0 u_ct u_hs x_knd lwFR lwGA lwGB feedVA10_25 feedVB10_25 8000 1 60 11 1 60 180 (feedo10.map (wNo [25])) feed_m3 lwF25 [.inl (lAdd (lSy 6) (lSc (-1) (lSy 4))), .inl (lAdd (lSy 6) (lAdd (lSc (-1) (lSy 4)) (lK (-1)))), .inl (lAdd (lSy 6) (lAdd (lSc (-1) (lSy 4)) (lK (-2)))), .inl (lAdd (lSy 6) (lAdd (lSc (-1) (lSy 4)) (lK (-3)))), .inr (.inl (0, (lSy 4))), .inr (.inl (0, (lAdd (lSy 4) (lK 1)))), .inr (.inl (0, (lAdd (lSy 4) (lK 2)))), .inr (.inr (25, []))] = true := by decide +kernel
set_option maxRecDepth 1000000 in
theorem feedE11q : wEdQ lwTch 39 x_KT x_tb x_tyl x_ov0 u_ct u_hs x_knd lwFR lwGA lwGB 5 24 42 feedWA11 feedWB11 8000 1 60 11 1 60 180 feed_m4 [] (feedo11.map (wNo [25])) = true := by decide +kernel
theorem feedE11 : wEd x_KT x_tb x_tyl x_ov0 u_ct u_hs x_knd lwFR lwGA lwGB 5 24 42 feedWA11 feedWB11 8000 1 60 11 1 60 180 feed_m4 [] (feedo11.map (wNo [25])) = true := wEdQ_ok lwTchOk feedE11q
set_option maxRecDepth 1000000 in
theorem feedE11R25 : wRkE x_KT x_tb x_tyl x_ov0 u_ct u_hs x_knd lwFR lwGA lwGB feedVA11_25 feedVB11_25 8000 1 60 11 1 60 180 (feedo11.map (wNo [25])) feed_m4 lwF25 [.inl (lAdd (lSy 6) (lSc (-1) (lSy 4))), .inl (lAdd (lSy 6) (lAdd (lSc (-1) (lSy 4)) (lK (-1)))), .inl (lAdd (lSy 6) (lAdd (lSc (-1) (lSy 4)) (lK (-2)))), .inl (lAdd (lSy 6) (lAdd (lSc (-1) (lSy 4)) (lK (-3)))), .inl (lAdd (lSy 6) (lAdd (lSc (-1) (lSy 4)) (lK (-4)))), .inr (.inl (0, (lSy 4))), .inr (.inl (0, (lAdd (lSy 4) (lK 1)))), .inr (.inl (0, (lAdd (lSy 4) (lK 2)))), .inr (.inl (0, (lAdd (lSy 4) (lK 3)))), .inr (.inr (25, []))] = true := by decide +kernel
set_option maxRecDepth 1000000 in
theorem feedbc : wBc lwN lwFS.length 2 lwTA lwTB lwGA lwGB 5 24 42 u_ps uPA uPB feed_in feedOX = true := by decide +kernel
set_option maxRecDepth 1000000 in
theorem rdE0q : wEdQ lwTch 39 x_KT x_tb x_tyl x_ov0 u_ct u_hs x_knd lwFR lwGA lwGB 5 29 43 rdWA0 rdWB0 8000 1 60 14 1 60 183 rd_in [] (rdo0.map (wNo [1, 0, 33])) = true := by decide +kernel
theorem rdE0 : wEd x_KT x_tb x_tyl x_ov0 u_ct u_hs x_knd lwFR lwGA lwGB 5 29 43 rdWA0 rdWB0 8000 1 60 14 1 60 183 rd_in [] (rdo0.map (wNo [1, 0, 33])) = true := wEdQ_ok lwTchOk rdE0q
set_option maxRecDepth 1000000 in
theorem rdE0R1 : wRkE x_KT x_tb x_tyl x_ov0 u_ct u_hs x_knd lwFR lwGA lwGB rdVA0_1 rdVB0_1 8000 1 60 14 1 60 183 (rdo0.map (wNo [1, 0, 33])) rd_in lwF1 [.inl (lAdd (lSc (-1) (lSy 5)) (lAdd (lSy 3) (lK (-1)))), .inr (.inr (27, [(lSy 5)])), .inr (.inr (26, [(lSy 5), (lSy 3)])), .inr (.inr (1, []))] = true := by decide +kernel
set_option maxRecDepth 1000000 in
theorem rdE0R0 : wRkE x_KT x_tb x_tyl x_ov0 u_ct u_hs x_knd lwFR lwGA lwGB rdVA0_0 rdVB0_0 8000 1 60 14 1 60 183 (rdo0.map (wNo [1, 0, 33])) rd_in lwF0 [.inl (lAdd (lSc (-1) (lSy 5)) (lAdd (lSy 3) (lK (-1)))), .inr (.inr (27, [(lSy 5)])), .inr (.inr (26, [(lSy 5), (lSy 3)])), .inr (.inr (0, []))] = true := by decide +kernel
set_option maxRecDepth 1000000 in
theorem rdE0R33 : wRkE x_KT x_tb x_tyl x_ov0 u_ct u_hs x_knd lwFR lwGA lwGB rdVA0_33 rdVB0_33 8000 1 60 14 1 60 183 (rdo0.map (wNo [1, 0, 33])) rd_in lwF33 [] = true := by decide +kernel
theorem rdL1 : wRlk 6 29 43 rlWA rlWB rdX1.2.1 rdX1.2.2.1 rdX1.2.2.2.1 rdX1.2.2.2.2 rl_in = true := by decide +kernel
set_option maxRecDepth 1000000 in
theorem rdE2q : wEdQ lwTch 39 x_KT x_tb x_tyl x_ov0 u_ct u_hs x_knd lwFR lwGA lwGB 5 29 43 rdWA2 rdWB2 8000 1 60 14 0 60 183 rd_lp [] rdo2 = true := by decide +kernel
theorem rdE2 : wEd x_KT x_tb x_tyl x_ov0 u_ct u_hs x_knd lwFR lwGA lwGB 5 29 43 rdWA2 rdWB2 8000 1 60 14 0 60 183 rd_lp [] rdo2 = true := wEdQ_ok lwTchOk rdE2q
set_option maxRecDepth 1000000 in
theorem rdE3q : wEdQ lwTch 39 x_KT x_tb x_tyl x_ov0 u_ct u_hs x_knd lwFR lwGA lwGB 5 29 43 rdWA3 rdWB3 8000 1 60 14 1 60 183 rd_cl_yes [.inr (.inl (1001, (lAdd (lSc (-1) (lSy 5)) (lK 12)))), .inr (.inl (1001, (lAdd (lSy 5) (lK (-1))))), .inl (lAdd (lSc (-1) (lSy 6)) (lAdd (lSy 4) (lK (-1)))), .inr (.inl (1001, (lAdd (lSc (-1) (lSy 6)) (lK 159)))), .inr (.inr (25, [(lSy 6)]))] rdo3 = true := by decide +kernel
theorem rdE3 : wEd x_KT x_tb x_tyl x_ov0 u_ct u_hs x_knd lwFR lwGA lwGB 5 29 43 rdWA3 rdWB3 8000 1 60 14 1 60 183 rd_cl_yes [.inr (.inl (1001, (lAdd (lSc (-1) (lSy 5)) (lK 12)))), .inr (.inl (1001, (lAdd (lSy 5) (lK (-1))))), .inl (lAdd (lSc (-1) (lSy 6)) (lAdd (lSy 4) (lK (-1)))), .inr (.inl (1001, (lAdd (lSc (-1) (lSy 6)) (lK 159)))), .inr (.inr (25, [(lSy 6)]))] rdo3 = true := wEdQ_ok lwTchOk rdE3q
set_option maxRecDepth 1000000 in
theorem rdE4q : wEdQ lwTch 39 x_KT x_tb x_tyl x_ov0 u_ct u_hs x_knd lwFR lwGA lwGB 5 29 43 rdWA4 rdWB4 8000 1 60 14 1 60 183 rd_cl_end [] rdo4 = true := by decide +kernel
theorem rdE4 : wEd x_KT x_tb x_tyl x_ov0 u_ct u_hs x_knd lwFR lwGA lwGB 5 29 43 rdWA4 rdWB4 8000 1 60 14 1 60 183 rd_cl_end [] rdo4 = true := wEdQ_ok lwTchOk rdE4q
set_option maxRecDepth 1000000 in
theorem setE0q : wEdQ lwTch 39 x_KT x_tb x_tyl x_ov0 u_ct u_hs x_knd lwFR lwGA lwGB 5 24 42 setWA0 setWB0 8000 1 60 52 1 60 216 set_in [.inl (lSy 6), .inl (lAdd (lSy 6) (lK (-1))), .inl (lSy 7), .inl (lAdd (lSc (-1) (lSy 7)) (lK 99)), .inl (lSy 5), .inl (lAdd (lSc (-1) (lSy 5)) (lAdd (lSy 3) (lK (-1)))), .inr (.inr (0, [(lSy 5)]))] seto0 = true := by decide +kernel
theorem setE0 : wEd x_KT x_tb x_tyl x_ov0 u_ct u_hs x_knd lwFR lwGA lwGB 5 24 42 setWA0 setWB0 8000 1 60 52 1 60 216 set_in [.inl (lSy 6), .inl (lAdd (lSy 6) (lK (-1))), .inl (lSy 7), .inl (lAdd (lSc (-1) (lSy 7)) (lK 99)), .inl (lSy 5), .inl (lAdd (lSc (-1) (lSy 5)) (lAdd (lSy 3) (lK (-1)))), .inr (.inr (0, [(lSy 5)]))] seto0 = true := wEdQ_ok lwTchOk setE0q
set_option maxRecDepth 1000000 in
theorem setE1q : wEdQ lwTch 39 x_KT x_tb x_tyl x_ov0 u_ct u_hs x_knd lwFR lwGA lwGB 5 24 42 setWA1 setWB1 8000 1 60 52 1 60 216 set_m0 [.inr (.inr (4, [])), .inr (.inr (0, [(lSy 5)]))] (seto1.map (wNo [0])) = true := by decide +kernel
theorem setE1 : wEd x_KT x_tb x_tyl x_ov0 u_ct u_hs x_knd lwFR lwGA lwGB 5 24 42 setWA1 setWB1 8000 1 60 52 1 60 216 set_m0 [.inr (.inr (4, [])), .inr (.inr (0, [(lSy 5)]))] (seto1.map (wNo [0])) = true := wEdQ_ok lwTchOk setE1q
set_option maxRecDepth 1000000 in
theorem setE1R0 : wRkE x_KT x_tb x_tyl x_ov0 u_ct u_hs x_knd lwFR lwGA lwGB setVA1_0 setVB1_0 8000 1 60 52 1 60 216 (seto1.map (wNo [0])) set_m0 lwF0 [.inr (.inr (4, [])), .inr (.inr (0, [(lSy 5)])), .inl (lAdd (lSy 8) (lSc (-1) (lSy 5))), .inl (lAdd (lSc (-1) (lSy 8)) (lSy 5)), .inr (.inl (1001, (lAdd (lSc (-1) (lSy 8)) (lAdd (lSy 3) (lK (-1)))))), .inl (lAdd (lSc (-1) (lSy 8)) (lAdd (lSy 3) (lK (-1)))), .inr (.inl (0, (lSy 5))), .inr (.inr (16, [(lSy 8), (lSy 5)])), .inr (.inr (16, [(lSy 5), (lSy 8)])), .inr (.inr (12, [(lSy 8), (lSy 5)])), .inr (.inr (12, [(lSy 5), (lSy 8)])), .inr (.inr (0, []))] = true := by decide +kernel
set_option maxRecDepth 1000000 in
theorem setE2q : wEdQ lwTch 39 x_KT x_tb x_tyl x_ov0 u_ct u_hs x_knd lwFR lwGA lwGB 5 24 42 setWA2 setWB2 8000 1 60 52 1 60 216 set_m1 [.inr (.inr (4, [])), .inr (.inr (0, [(lSy 5)]))] (seto2.map (wNo [0])) = true := by decide +kernel
theorem setE2 : wEd x_KT x_tb x_tyl x_ov0 u_ct u_hs x_knd lwFR lwGA lwGB 5 24 42 setWA2 setWB2 8000 1 60 52 1 60 216 set_m1 [.inr (.inr (4, [])), .inr (.inr (0, [(lSy 5)]))] (seto2.map (wNo [0])) = true := wEdQ_ok lwTchOk setE2q
set_option maxRecDepth 1000000 in
theorem setE2R0 : wRkE x_KT x_tb x_tyl x_ov0 u_ct u_hs x_knd lwFR lwGA lwGB setVA2_0 setVB2_0 8000 1 60 52 1 60 216 (seto2.map (wNo [0])) set_m1 lwF0 [.inr (.inr (4, [])), .inr (.inr (0, [(lSy 5)])), .inl (lAdd (lSy 8) (lSc (-1) (lSy 5))), .inl (lAdd (lSc (-1) (lSy 8)) (lSy 5)), .inr (.inl (1001, (lAdd (lSc (-1) (lSy 8)) (lAdd (lSy 3) (lK (-1)))))), .inl (lAdd (lSc (-1) (lSy 8)) (lAdd (lSy 3) (lK (-1)))), .inr (.inl (0, (lSy 5))), .inr (.inr (16, [(lSy 8), (lSy 5)])), .inr (.inr (16, [(lSy 5), (lSy 8)])), .inr (.inr (12, [(lSy 8), (lSy 5)])), .inr (.inr (12, [(lSy 5), (lSy 8)])), .inr (.inr (0, []))] = true := by decide +kernel
set_option maxRecDepth 1000000 in
theorem setbc : wBc lwN lwFS.length 3 lwTA lwTB lwGA lwGB 5 24 42 u_ps uPA uPB set_in setOX = true := by decide +kernel
set_option maxRecDepth 1000000 in
theorem inputE0q : wEdQ lwTch 39 x_KT x_tb x_tyl x_ov0 u_ct u_hs x_knd lwFR lwGA lwGB 5 24 42 inputWA0 inputWB0 8000 1 60 53 1 60 217 input_in [.inl (lSy 5), .inl (lAdd (lSc (-1) (lSy 5)) (lAdd (lSy 3) (lK (-1)))), .inl (lAdd (lSy 6) (lK 1)), .inl (lAdd (lSc (-1) (lSy 6)) (lK (-1))), .inl (lAdd (lSc (-1) (lSy 6)) (lAdd (lSy 3) (lK (-1)))), .inl (lAdd (lSy 6) (lSc (-1) (lSy 5))), .inl (lAdd (lSc (-1) (lSy 6)) (lSy 5)), .inr (.inr (0, [(lSy 5)]))] inputo0 = true := by decide +kernel
theorem inputE0 : wEd x_KT x_tb x_tyl x_ov0 u_ct u_hs x_knd lwFR lwGA lwGB 5 24 42 inputWA0 inputWB0 8000 1 60 53 1 60 217 input_in [.inl (lSy 5), .inl (lAdd (lSc (-1) (lSy 5)) (lAdd (lSy 3) (lK (-1)))), .inl (lAdd (lSy 6) (lK 1)), .inl (lAdd (lSc (-1) (lSy 6)) (lK (-1))), .inl (lAdd (lSc (-1) (lSy 6)) (lAdd (lSy 3) (lK (-1)))), .inl (lAdd (lSy 6) (lSc (-1) (lSy 5))), .inl (lAdd (lSc (-1) (lSy 6)) (lSy 5)), .inr (.inr (0, [(lSy 5)]))] inputo0 = true := wEdQ_ok lwTchOk inputE0q
set_option maxRecDepth 1000000 in
theorem inputE1q : wEdQ lwTch 39 x_KT x_tb x_tyl x_ov0 u_ct u_hs x_knd lwFR lwGA lwGB 5 24 42 inputWA1 inputWB1 8000 1 60 53 1 60 217 input_m0 [.inr (.inr (0, [(lSy 5)]))] (inputo1.map (wNo [0])) = true := by decide +kernel
theorem inputE1 : wEd x_KT x_tb x_tyl x_ov0 u_ct u_hs x_knd lwFR lwGA lwGB 5 24 42 inputWA1 inputWB1 8000 1 60 53 1 60 217 input_m0 [.inr (.inr (0, [(lSy 5)]))] (inputo1.map (wNo [0])) = true := wEdQ_ok lwTchOk inputE1q
set_option maxRecDepth 1000000 in
theorem inputE1R0 : wRkE x_KT x_tb x_tyl x_ov0 u_ct u_hs x_knd lwFR lwGA lwGB inputVA1_0 inputVB1_0 8000 1 60 53 1 60 217 (inputo1.map (wNo [0])) input_m0 lwF0 [.inr (.inr (0, [(lSy 5)])), .inl (lAdd (lSy 7) (lSc (-1) (lSy 5))), .inl (lAdd (lSc (-1) (lSy 7)) (lSy 5)), .inr (.inl (1001, (lAdd (lSc (-1) (lSy 7)) (lAdd (lSy 3) (lK (-1)))))), .inl (lAdd (lSc (-1) (lSy 7)) (lAdd (lSy 3) (lK (-1)))), .inr (.inl (0, (lSy 5))), .inr (.inr (16, [(lSy 7), (lSy 5)])), .inr (.inr (16, [(lSy 5), (lSy 7)])), .inr (.inr (12, [(lSy 7), (lSy 5)])), .inr (.inr (12, [(lSy 5), (lSy 7)])), .inr (.inr (0, []))] = true := by decide +kernel
set_option maxRecDepth 1000000 in
theorem inputE2q : wEdQ lwTch 39 x_KT x_tb x_tyl x_ov0 u_ct u_hs x_knd lwFR lwGA lwGB 5 24 42 inputWA2 inputWB2 8000 1 60 53 1 60 217 input_m1 [.inr (.inr (0, [(lSy 5)]))] (inputo2.map (wNo [0])) = true := by decide +kernel
theorem inputE2 : wEd x_KT x_tb x_tyl x_ov0 u_ct u_hs x_knd lwFR lwGA lwGB 5 24 42 inputWA2 inputWB2 8000 1 60 53 1 60 217 input_m1 [.inr (.inr (0, [(lSy 5)]))] (inputo2.map (wNo [0])) = true := wEdQ_ok lwTchOk inputE2q
set_option maxRecDepth 1000000 in
theorem inputE2R0 : wRkE x_KT x_tb x_tyl x_ov0 u_ct u_hs x_knd lwFR lwGA lwGB inputVA2_0 inputVB2_0 8000 1 60 53 1 60 217 (inputo2.map (wNo [0])) input_m1 lwF0 [.inr (.inr (0, [(lSy 5)])), .inl (lAdd (lSy 7) (lSc (-1) (lSy 5))), .inl (lAdd (lSc (-1) (lSy 7)) (lSy 5)), .inr (.inl (1001, (lAdd (lSc (-1) (lSy 7)) (lAdd (lSy 3) (lK (-1)))))), .inl (lAdd (lSc (-1) (lSy 7)) (lAdd (lSy 3) (lK (-1)))), .inr (.inl (0, (lSy 5))), .inr (.inr (16, [(lSy 7), (lSy 5)])), .inr (.inr (16, [(lSy 5), (lSy 7)])), .inr (.inr (12, [(lSy 7), (lSy 5)])), .inr (.inr (12, [(lSy 5), (lSy 7)])), .inr (.inr (0, []))] = true := by decide +kernel
set_option maxRecDepth 1000000 in
theorem inputbc : wBc lwN lwFS.length 2 lwTA lwTB lwGA lwGB 5 24 42 u_ps uPA uPB input_in inputOX = true := by decide +kernel
end XRuC10
