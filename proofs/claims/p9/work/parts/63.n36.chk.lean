/-! Runs: checks, 36. -/
noncomputable section XRuC36
set_option maxRecDepth 1000000 in
theorem rlE52R33 : wRkE x_KT x_tb x_tyl x_ov0 x_cp u_hs x_knd lwFR lwGA lwGB rlVA52_33 rlVB52_33 8000 1 60 15 1 60 183 (rlo52.map (wNo [1, 0, 33])) rl_op5 lwF33 [.inl (lAdd (lSy 10) (lAdd (lSc (-1) (lSy 5)) (lK 1))), .inl (lAdd (lSc (-1) (lSy 10)) (lAdd (lSy 5) (lK (-1)))), .inr (.inl (0, (lAdd (lSy 5) (lK (-1))))), .inr (.inl (1004, (lAdd (lSc (-1) (lSy 10)) (lAdd (lSy 5) (lK (-2)))))), .inr (.inr (29, [])), .inr (.inl (2016, lK 0))] = true := by decide +kernel
set_option maxRecDepth 1000000 in
theorem rlE53 : wEd x_KT x_tb x_tyl x_ov0 x_cp u_hs x_knd lwFR lwGA lwGB 6 29 43 rlWA53 rlWB53 8000 1 60 15 1 60 183 rl_op6 [] (rlo53.map (wNo [1, 0, 33])) = true := by decide +kernel
set_option maxRecDepth 1000000 in
theorem rlE53R1 : wRkE x_KT x_tb x_tyl x_ov0 x_cp u_hs x_knd lwFR lwGA lwGB rlVA53_1 rlVB53_1 8000 1 60 15 1 60 183 (rlo53.map (wNo [1, 0, 33])) rl_op6 lwF1 [.inl (lAdd (lSc (-1) (lSy 10)) (lAdd (lSy 3) (lK (-1)))), .inr (.inr (27, [(lSy 10)])), .inr (.inr (26, [(lSy 10), (lSy 3)])), .inr (.inr (1, [])), .inr (.inl (2016, lK 0))] = true := by decide +kernel
set_option maxRecDepth 1000000 in
theorem rlE53R0 : wRkE x_KT x_tb x_tyl x_ov0 x_cp u_hs x_knd lwFR lwGA lwGB rlVA53_0 rlVB53_0 8000 1 60 15 1 60 183 (rlo53.map (wNo [1, 0, 33])) rl_op6 lwF0 [.inl (lAdd (lSc (-1) (lSy 10)) (lAdd (lSy 3) (lK (-1)))), .inr (.inr (27, [(lSy 10)])), .inr (.inr (26, [(lSy 10), (lSy 3)])), .inr (.inr (0, [])), .inr (.inl (2016, lK 0))] = true := by decide +kernel
set_option maxRecDepth 1000000 in
theorem rlE53R33 : wRkE x_KT x_tb x_tyl x_ov0 x_cp u_hs x_knd lwFR lwGA lwGB rlVA53_33 rlVB53_33 8000 1 60 15 1 60 183 (rlo53.map (wNo [1, 0, 33])) rl_op6 lwF33 [.inl (lAdd (lSy 10) (lAdd (lSc (-1) (lSy 5)) (lK 1))), .inl (lAdd (lSc (-1) (lSy 10)) (lAdd (lSy 5) (lK (-1)))), .inr (.inl (0, (lAdd (lSy 5) (lK (-1))))), .inr (.inl (1004, (lAdd (lSc (-1) (lSy 10)) (lAdd (lSy 5) (lK (-2)))))), .inr (.inr (29, [])), .inr (.inl (2016, lK 0))] = true := by decide +kernel
set_option maxRecDepth 1000000 in
theorem rlE54 : wEd x_KT x_tb x_tyl x_ov0 x_cp u_hs x_knd lwFR lwGA lwGB 6 29 43 rlWA54 rlWB54 8000 1 60 15 1 60 183 rl_op7 [] (rlo54.map (wNo [1, 0, 33])) = true := by decide +kernel
set_option maxRecDepth 1000000 in
theorem rlE54R1 : wRkE x_KT x_tb x_tyl x_ov0 x_cp u_hs x_knd lwFR lwGA lwGB rlVA54_1 rlVB54_1 8000 1 60 15 1 60 183 (rlo54.map (wNo [1, 0, 33])) rl_op7 lwF1 [.inl (lAdd (lSc (-1) (lSy 10)) (lAdd (lSy 3) (lK (-1)))), .inr (.inr (27, [(lSy 10)])), .inr (.inr (26, [(lSy 10), (lSy 3)])), .inr (.inr (1, [])), .inr (.inl (2016, lK 0))] = true := by decide +kernel
set_option maxRecDepth 1000000 in
theorem rlE54R0 : wRkE x_KT x_tb x_tyl x_ov0 x_cp u_hs x_knd lwFR lwGA lwGB rlVA54_0 rlVB54_0 8000 1 60 15 1 60 183 (rlo54.map (wNo [1, 0, 33])) rl_op7 lwF0 [.inl (lAdd (lSc (-1) (lSy 10)) (lAdd (lSy 3) (lK (-1)))), .inr (.inr (27, [(lSy 10)])), .inr (.inr (26, [(lSy 10), (lSy 3)])), .inr (.inr (0, [])), .inr (.inl (2016, lK 0))] = true := by decide +kernel
set_option maxRecDepth 1000000 in
theorem rlE54R33 : wRkE x_KT x_tb x_tyl x_ov0 x_cp u_hs x_knd lwFR lwGA lwGB rlVA54_33 rlVB54_33 8000 1 60 15 1 60 183 (rlo54.map (wNo [1, 0, 33])) rl_op7 lwF33 [.inl (lAdd (lSy 10) (lAdd (lSc (-1) (lSy 5)) (lK 1))), .inl (lAdd (lSc (-1) (lSy 10)) (lAdd (lSy 5) (lK (-1)))), .inr (.inl (0, (lAdd (lSy 5) (lK (-1))))), .inr (.inl (1004, (lAdd (lSc (-1) (lSy 10)) (lAdd (lSy 5) (lK (-2)))))), .inr (.inr (29, [])), .inr (.inl (2016, lK 0))] = true := by decide +kernel
set_option maxRecDepth 1000000 in
theorem rlE55 : wEd x_KT x_tb x_tyl x_ov0 x_cp u_hs x_knd lwFR lwGA lwGB 6 29 43 rlWA55 rlWB55 8000 1 60 15 1 60 183 rl_op8 [] (rlo55.map (wNo [1, 0, 33])) = true := by decide +kernel
set_option maxRecDepth 1000000 in
theorem rlE55R1 : wRkE x_KT x_tb x_tyl x_ov0 x_cp u_hs x_knd lwFR lwGA lwGB rlVA55_1 rlVB55_1 8000 1 60 15 1 60 183 (rlo55.map (wNo [1, 0, 33])) rl_op8 lwF1 [.inl (lAdd (lSc (-1) (lSy 10)) (lAdd (lSy 3) (lK (-1)))), .inr (.inr (27, [(lSy 10)])), .inr (.inr (26, [(lSy 10), (lSy 3)])), .inr (.inr (1, [])), .inr (.inl (2016, lK 0))] = true := by decide +kernel
set_option maxRecDepth 1000000 in
theorem rlE55R0 : wRkE x_KT x_tb x_tyl x_ov0 x_cp u_hs x_knd lwFR lwGA lwGB rlVA55_0 rlVB55_0 8000 1 60 15 1 60 183 (rlo55.map (wNo [1, 0, 33])) rl_op8 lwF0 [.inl (lAdd (lSc (-1) (lSy 10)) (lAdd (lSy 3) (lK (-1)))), .inr (.inr (27, [(lSy 10)])), .inr (.inr (26, [(lSy 10), (lSy 3)])), .inr (.inr (0, [])), .inr (.inl (2016, lK 0))] = true := by decide +kernel
set_option maxRecDepth 1000000 in
theorem rlE55R33 : wRkE x_KT x_tb x_tyl x_ov0 x_cp u_hs x_knd lwFR lwGA lwGB rlVA55_33 rlVB55_33 8000 1 60 15 1 60 183 (rlo55.map (wNo [1, 0, 33])) rl_op8 lwF33 [.inl (lAdd (lSy 10) (lAdd (lSc (-1) (lSy 5)) (lK 1))), .inl (lAdd (lSc (-1) (lSy 10)) (lAdd (lSy 5) (lK (-1)))), .inr (.inl (0, (lAdd (lSy 5) (lK (-1))))), .inr (.inl (1004, (lAdd (lSc (-1) (lSy 10)) (lAdd (lSy 5) (lK (-2)))))), .inr (.inr (29, [])), .inr (.inl (2016, lK 0))] = true := by decide +kernel
set_option maxRecDepth 1000000 in
theorem rlE56 : wEd x_KT x_tb x_tyl x_ov0 x_cp u_hs x_knd lwFR lwGA lwGB 6 29 43 rlWA56 rlWB56 8000 1 60 15 1 60 183 rl_op9 [] (rlo56.map (wNo [1, 0, 33])) = true := by decide +kernel
set_option maxRecDepth 1000000 in
theorem rlE56R1 : wRkE x_KT x_tb x_tyl x_ov0 x_cp u_hs x_knd lwFR lwGA lwGB rlVA56_1 rlVB56_1 8000 1 60 15 1 60 183 (rlo56.map (wNo [1, 0, 33])) rl_op9 lwF1 [.inl (lAdd (lSc (-1) (lSy 10)) (lAdd (lSy 3) (lK (-1)))), .inr (.inr (27, [(lSy 10)])), .inr (.inr (26, [(lSy 10), (lSy 3)])), .inr (.inr (1, [])), .inr (.inl (2016, lK 0))] = true := by decide +kernel
set_option maxRecDepth 1000000 in
theorem rlE56R0 : wRkE x_KT x_tb x_tyl x_ov0 x_cp u_hs x_knd lwFR lwGA lwGB rlVA56_0 rlVB56_0 8000 1 60 15 1 60 183 (rlo56.map (wNo [1, 0, 33])) rl_op9 lwF0 [.inl (lAdd (lSc (-1) (lSy 10)) (lAdd (lSy 3) (lK (-1)))), .inr (.inr (27, [(lSy 10)])), .inr (.inr (26, [(lSy 10), (lSy 3)])), .inr (.inr (0, [])), .inr (.inl (2016, lK 0))] = true := by decide +kernel
set_option maxRecDepth 1000000 in
theorem rlE56R33 : wRkE x_KT x_tb x_tyl x_ov0 x_cp u_hs x_knd lwFR lwGA lwGB rlVA56_33 rlVB56_33 8000 1 60 15 1 60 183 (rlo56.map (wNo [1, 0, 33])) rl_op9 lwF33 [.inl (lAdd (lSy 10) (lAdd (lSc (-1) (lSy 5)) (lK 1))), .inl (lAdd (lSc (-1) (lSy 10)) (lAdd (lSy 5) (lK (-1)))), .inr (.inl (0, (lAdd (lSy 5) (lK (-1))))), .inr (.inl (1004, (lAdd (lSc (-1) (lSy 10)) (lAdd (lSy 5) (lK (-2)))))), .inr (.inr (29, [])), .inr (.inl (2016, lK 0))] = true := by decide +kernel
set_option maxRecDepth 1000000 in
theorem rlE57 : wEd x_KT x_tb x_tyl x_ov0 x_cp u_hs x_knd lwFR lwGA lwGB 6 29 43 rlWA57 rlWB57 8000 1 60 15 1 60 183 rl_op10 [] (rlo57.map (wNo [1, 0, 33])) = true := by decide +kernel
set_option maxRecDepth 1000000 in
theorem rlE57R1 : wRkE x_KT x_tb x_tyl x_ov0 x_cp u_hs x_knd lwFR lwGA lwGB rlVA57_1 rlVB57_1 8000 1 60 15 1 60 183 (rlo57.map (wNo [1, 0, 33])) rl_op10 lwF1 [.inl (lAdd (lSc (-1) (lSy 10)) (lAdd (lSy 3) (lK (-1)))), .inr (.inr (27, [(lSy 10)])), .inr (.inr (26, [(lSy 10), (lSy 3)])), .inr (.inr (1, [])), .inr (.inl (2016, lK 0))] = true := by decide +kernel
set_option maxRecDepth 1000000 in
theorem rlE57R0 : wRkE x_KT x_tb x_tyl x_ov0 x_cp u_hs x_knd lwFR lwGA lwGB rlVA57_0 rlVB57_0 8000 1 60 15 1 60 183 (rlo57.map (wNo [1, 0, 33])) rl_op10 lwF0 [.inl (lAdd (lSc (-1) (lSy 10)) (lAdd (lSy 3) (lK (-1)))), .inr (.inr (27, [(lSy 10)])), .inr (.inr (26, [(lSy 10), (lSy 3)])), .inr (.inr (0, [])), .inr (.inl (2016, lK 0))] = true := by decide +kernel
set_option maxRecDepth 1000000 in
theorem rlE57R33 : wRkE x_KT x_tb x_tyl x_ov0 x_cp u_hs x_knd lwFR lwGA lwGB rlVA57_33 rlVB57_33 8000 1 60 15 1 60 183 (rlo57.map (wNo [1, 0, 33])) rl_op10 lwF33 [.inl (lAdd (lSy 10) (lAdd (lSc (-1) (lSy 5)) (lK 1))), .inl (lAdd (lSc (-1) (lSy 10)) (lAdd (lSy 5) (lK (-1)))), .inr (.inl (0, (lAdd (lSy 5) (lK (-1))))), .inr (.inl (1004, (lAdd (lSc (-1) (lSy 10)) (lAdd (lSy 5) (lK (-2)))))), .inr (.inr (29, [])), .inr (.inl (2016, lK 0))] = true := by decide +kernel
set_option maxRecDepth 1000000 in
theorem rlE58 : wEd x_KT x_tb x_tyl x_ov0 x_cp u_hs x_knd lwFR lwGA lwGB 6 29 43 rlWA58 rlWB58 8000 1 60 15 1 60 183 rl_op11 [] (rlo58.map (wNo [1, 0, 33])) = true := by decide +kernel
set_option maxRecDepth 1000000 in
theorem rlE58R1 : wRkE x_KT x_tb x_tyl x_ov0 x_cp u_hs x_knd lwFR lwGA lwGB rlVA58_1 rlVB58_1 8000 1 60 15 1 60 183 (rlo58.map (wNo [1, 0, 33])) rl_op11 lwF1 [.inl (lAdd (lSc (-1) (lSy 10)) (lAdd (lSy 3) (lK (-1)))), .inr (.inr (27, [(lSy 10)])), .inr (.inr (26, [(lSy 10), (lSy 3)])), .inr (.inr (1, [])), .inr (.inl (2016, lK 0))] = true := by decide +kernel
set_option maxRecDepth 1000000 in
theorem rlE58R0 : wRkE x_KT x_tb x_tyl x_ov0 x_cp u_hs x_knd lwFR lwGA lwGB rlVA58_0 rlVB58_0 8000 1 60 15 1 60 183 (rlo58.map (wNo [1, 0, 33])) rl_op11 lwF0 [.inl (lAdd (lSc (-1) (lSy 10)) (lAdd (lSy 3) (lK (-1)))), .inr (.inr (27, [(lSy 10)])), .inr (.inr (26, [(lSy 10), (lSy 3)])), .inr (.inr (0, [])), .inr (.inl (2016, lK 0))] = true := by decide +kernel
set_option maxRecDepth 1000000 in
theorem rlE58R33 : wRkE x_KT x_tb x_tyl x_ov0 x_cp u_hs x_knd lwFR lwGA lwGB rlVA58_33 rlVB58_33 8000 1 60 15 1 60 183 (rlo58.map (wNo [1, 0, 33])) rl_op11 lwF33 [.inl (lAdd (lSy 10) (lAdd (lSc (-1) (lSy 5)) (lK 1))), .inl (lAdd (lSc (-1) (lSy 10)) (lAdd (lSy 5) (lK (-1)))), .inr (.inl (0, (lAdd (lSy 5) (lK (-1))))), .inr (.inl (1004, (lAdd (lSc (-1) (lSy 10)) (lAdd (lSy 5) (lK (-2)))))), .inr (.inr (29, [])), .inr (.inl (2016, lK 0))] = true := by decide +kernel
set_option maxRecDepth 1000000 in
theorem rlE59 : wEd x_KT x_tb x_tyl x_ov0 x_cp u_hs x_knd lwFR lwGA lwGB 6 29 43 rlWA59 rlWB59 8000 1 60 15 0 60 183 rl_no [] rlo59 = true := by decide +kernel
set_option maxRecDepth 1000000 in
theorem rdE0 : wEd x_KT x_tb x_tyl x_ov0 u_ct u_hs x_knd lwFR lwGA lwGB 5 29 43 rdWA0 rdWB0 8000 1 60 14 1 60 183 rd_in [] (rdo0.map (wNo [1, 0, 33])) = true := by decide +kernel
set_option maxRecDepth 1000000 in
theorem rdE0R1 : wRkE x_KT x_tb x_tyl x_ov0 u_ct u_hs x_knd lwFR lwGA lwGB rdVA0_1 rdVB0_1 8000 1 60 14 1 60 183 (rdo0.map (wNo [1, 0, 33])) rd_in lwF1 [.inl (lAdd (lSc (-1) (lSy 5)) (lAdd (lSy 3) (lK (-1)))), .inr (.inr (27, [(lSy 5)])), .inr (.inr (26, [(lSy 5), (lSy 3)])), .inr (.inr (1, [])), .inr (.inl (2016, lK 0))] = true := by decide +kernel
set_option maxRecDepth 1000000 in
theorem rdE0R0 : wRkE x_KT x_tb x_tyl x_ov0 u_ct u_hs x_knd lwFR lwGA lwGB rdVA0_0 rdVB0_0 8000 1 60 14 1 60 183 (rdo0.map (wNo [1, 0, 33])) rd_in lwF0 [.inl (lAdd (lSc (-1) (lSy 5)) (lAdd (lSy 3) (lK (-1)))), .inr (.inr (27, [(lSy 5)])), .inr (.inr (26, [(lSy 5), (lSy 3)])), .inr (.inr (0, [])), .inr (.inl (2016, lK 0))] = true := by decide +kernel
set_option maxRecDepth 1000000 in
theorem rdE0R33 : wRkE x_KT x_tb x_tyl x_ov0 u_ct u_hs x_knd lwFR lwGA lwGB rdVA0_33 rdVB0_33 8000 1 60 14 1 60 183 (rdo0.map (wNo [1, 0, 33])) rd_in lwF33 [] = true := by decide +kernel
theorem rdL1 : wRlk 6 29 43 rlWA rlWB rdX1.2.1 rdX1.2.2.1 rdX1.2.2.2.1 rdX1.2.2.2.2 rl_in = true := by decide +kernel
set_option maxRecDepth 1000000 in
theorem rdE2 : wEd x_KT x_tb x_tyl x_ov0 u_ct u_hs x_knd lwFR lwGA lwGB 5 29 43 rdWA2 rdWB2 8000 1 60 14 0 60 183 rd_lp [] rdo2 = true := by decide +kernel
set_option maxRecDepth 1000000 in
theorem rdE3 : wEd x_KT x_tb x_tyl x_ov0 u_ct u_hs x_knd lwFR lwGA lwGB 5 29 43 rdWA3 rdWB3 8000 1 60 14 1 60 183 rd_cl_yes [.inr (.inl (1001, (lAdd (lSc (-1) (lSy 5)) (lK 12)))), .inr (.inl (1001, (lAdd (lSy 5) (lK (-1))))), .inl (lAdd (lSc (-1) (lSy 6)) (lAdd (lSy 4) (lK (-1)))), .inr (.inl (1001, (lAdd (lSc (-1) (lSy 6)) (lK 159)))), .inr (.inr (25, [(lSy 6)]))] rdo3 = true := by decide +kernel
set_option maxRecDepth 1000000 in
theorem rdE4 : wEd x_KT x_tb x_tyl x_ov0 u_ct u_hs x_knd lwFR lwGA lwGB 5 29 43 rdWA4 rdWB4 8000 1 60 14 1 60 183 rd_cl_end [] rdo4 = true := by decide +kernel
set_option maxRecDepth 1000000 in
theorem setE0 : wEd x_KT x_tb x_tyl x_ov0 u_ct u_hs x_knd lwFR lwGA lwGB 5 24 42 setWA0 setWB0 8000 1 60 52 1 60 216 set_in [.inl (lSy 6), .inl (lAdd (lSy 6) (lK (-1))), .inl (lSy 7), .inl (lAdd (lSc (-1) (lSy 7)) (lK 99)), .inl (lSy 5), .inl (lAdd (lSc (-1) (lSy 5)) (lAdd (lSy 3) (lK (-1)))), .inr (.inr (0, [(lSy 5)]))] seto0 = true := by decide +kernel
set_option maxRecDepth 1000000 in
theorem setE1 : wEd x_KT x_tb x_tyl x_ov0 u_ct u_hs x_knd lwFR lwGA lwGB 5 24 42 setWA1 setWB1 8000 1 60 52 1 60 216 set_m0 [.inr (.inr (4, [])), .inr (.inr (0, [(lSy 5)]))] (seto1.map (wNo [0])) = true := by decide +kernel
set_option maxRecDepth 1000000 in
theorem setE1R0 : wRkE x_KT x_tb x_tyl x_ov0 u_ct u_hs x_knd lwFR lwGA lwGB setVA1_0 setVB1_0 8000 1 60 52 1 60 216 (seto1.map (wNo [0])) set_m0 lwF0 [.inr (.inr (4, [])), .inr (.inr (0, [(lSy 5)])), .inl (lAdd (lSy 8) (lSc (-1) (lSy 5))), .inl (lAdd (lSc (-1) (lSy 8)) (lSy 5)), .inr (.inl (1001, (lAdd (lSc (-1) (lSy 8)) (lAdd (lSy 3) (lK (-1)))))), .inl (lAdd (lSc (-1) (lSy 8)) (lAdd (lSy 3) (lK (-1)))), .inr (.inl (0, (lSy 5))), .inr (.inr (16, [(lSy 8), (lSy 5)])), .inr (.inr (16, [(lSy 5), (lSy 8)])), .inr (.inr (12, [(lSy 8), (lSy 5)])), .inr (.inr (12, [(lSy 5), (lSy 8)])), .inr (.inr (0, []))] = true := by decide +kernel
set_option maxRecDepth 1000000 in
theorem setE2 : wEd x_KT x_tb x_tyl x_ov0 u_ct u_hs x_knd lwFR lwGA lwGB 5 24 42 setWA2 setWB2 8000 1 60 52 1 60 216 set_m1 [.inr (.inr (4, [])), .inr (.inr (0, [(lSy 5)]))] (seto2.map (wNo [0])) = true := by decide +kernel
set_option maxRecDepth 1000000 in
theorem setE2R0 : wRkE x_KT x_tb x_tyl x_ov0 u_ct u_hs x_knd lwFR lwGA lwGB setVA2_0 setVB2_0 8000 1 60 52 1 60 216 (seto2.map (wNo [0])) set_m1 lwF0 [.inr (.inr (4, [])), .inr (.inr (0, [(lSy 5)])), .inl (lAdd (lSy 8) (lSc (-1) (lSy 5))), .inl (lAdd (lSc (-1) (lSy 8)) (lSy 5)), .inr (.inl (1001, (lAdd (lSc (-1) (lSy 8)) (lAdd (lSy 3) (lK (-1)))))), .inl (lAdd (lSc (-1) (lSy 8)) (lAdd (lSy 3) (lK (-1)))), .inr (.inl (0, (lSy 5))), .inr (.inr (16, [(lSy 8), (lSy 5)])), .inr (.inr (16, [(lSy 5), (lSy 8)])), .inr (.inr (12, [(lSy 8), (lSy 5)])), .inr (.inr (12, [(lSy 5), (lSy 8)])), .inr (.inr (0, []))] = true := by decide +kernel
set_option maxRecDepth 1000000 in
theorem setbc : wBc lwN lwFS.length 3 lwTA lwTB lwGA lwGB 5 24 42 u_ps uPA uPB set_in setOX = true := by decide +kernel
set_option maxRecDepth 1000000 in
theorem inputE0 : wEd x_KT x_tb x_tyl x_ov0 u_ct u_hs x_knd lwFR lwGA lwGB 5 24 42 inputWA0 inputWB0 8000 1 60 53 1 60 217 input_in [.inl (lSy 5), .inl (lAdd (lSc (-1) (lSy 5)) (lAdd (lSy 3) (lK (-1)))), .inl (lAdd (lSy 6) (lK 1)), .inl (lAdd (lSc (-1) (lSy 6)) (lK (-1))), .inl (lAdd (lSc (-1) (lSy 6)) (lAdd (lSy 3) (lK (-1)))), .inl (lAdd (lSy 6) (lSc (-1) (lSy 5))), .inl (lAdd (lSc (-1) (lSy 6)) (lSy 5)), .inr (.inr (0, [(lSy 5)]))] inputo0 = true := by decide +kernel
set_option maxRecDepth 1000000 in
theorem inputE1 : wEd x_KT x_tb x_tyl x_ov0 u_ct u_hs x_knd lwFR lwGA lwGB 5 24 42 inputWA1 inputWB1 8000 1 60 53 1 60 217 input_m0 [.inr (.inr (0, [(lSy 5)]))] (inputo1.map (wNo [0])) = true := by decide +kernel
set_option maxRecDepth 1000000 in
theorem inputE1R0 : wRkE x_KT x_tb x_tyl x_ov0 u_ct u_hs x_knd lwFR lwGA lwGB inputVA1_0 inputVB1_0 8000 1 60 53 1 60 217 (inputo1.map (wNo [0])) input_m0 lwF0 [.inr (.inr (0, [(lSy 5)])), .inl (lAdd (lSy 7) (lSc (-1) (lSy 5))), .inl (lAdd (lSc (-1) (lSy 7)) (lSy 5)), .inr (.inl (1001, (lAdd (lSc (-1) (lSy 7)) (lAdd (lSy 3) (lK (-1)))))), .inl (lAdd (lSc (-1) (lSy 7)) (lAdd (lSy 3) (lK (-1)))), .inr (.inl (0, (lSy 5))), .inr (.inr (16, [(lSy 7), (lSy 5)])), .inr (.inr (16, [(lSy 5), (lSy 7)])), .inr (.inr (12, [(lSy 7), (lSy 5)])), .inr (.inr (12, [(lSy 5), (lSy 7)])), .inr (.inr (0, []))] = true := by decide +kernel
set_option maxRecDepth 1000000 in
theorem inputE2 : wEd x_KT x_tb x_tyl x_ov0 u_ct u_hs x_knd lwFR lwGA lwGB 5 24 42 inputWA2 inputWB2 8000 1 60 53 1 60 217 input_m1 [.inr (.inr (0, [(lSy 5)]))] (inputo2.map (wNo [0])) = true := by decide +kernel
set_option maxRecDepth 1000000 in
theorem inputE2R0 : wRkE x_KT x_tb x_tyl x_ov0 u_ct u_hs x_knd lwFR lwGA lwGB inputVA2_0 inputVB2_0 8000 1 60 53 1 60 217 (inputo2.map (wNo [0])) input_m1 lwF0 [.inr (.inr (0, [(lSy 5)])), .inl (lAdd (lSy 7) (lSc (-1) (lSy 5))), .inl (lAdd (lSc (-1) (lSy 7)) (lSy 5)), .inr (.inl (1001, (lAdd (lSc (-1) (lSy 7)) (lAdd (lSy 3) (lK (-1)))))), .inl (lAdd (lSc (-1) (lSy 7)) (lAdd (lSy 3) (lK (-1)))), .inr (.inl (0, (lSy 5))), .inr (.inr (16, [(lSy 7), (lSy 5)])), .inr (.inr (16, [(lSy 5), (lSy 7)])), .inr (.inr (12, [(lSy 7), (lSy 5)])), .inr (.inr (12, [(lSy 5), (lSy 7)])), .inr (.inr (0, []))] = true := by decide +kernel
set_option maxRecDepth 1000000 in
theorem inputbc : wBc lwN lwFS.length 2 lwTA lwTB lwGA lwGB 5 24 42 u_ps uPA uPB input_in inputOX = true := by decide +kernel
set_option maxRecDepth 1000000 in
theorem shelfE0 : wEd x_KT x_tb x_tyl x_ov0 u_ct u_hs x_knd lwFR lwGA lwGB 5 24 42 shelfWA0 shelfWB0 8000 1 60 54 1 60 218 shelf_in [.inl (lSy 6), .inl (lAdd (lSy 6) (lK (-1))), .inl (lAdd (lSy 6) (lK (-2))), .inl (lAdd (lSy 6) (lK (-3))), .inl (lSy 5), .inl (lAdd (lSc (-1) (lSy 5)) (lAdd (lSy 3) (lK (-1)))), .inl (lAdd (lSy 9) (lK (-1)))] shelfo0 = true := by decide +kernel
set_option maxRecDepth 1000000 in
theorem shelfE1 : wEd x_KT x_tb x_tyl x_ov0 u_ct u_hs x_knd lwFR lwGA lwGB 5 24 42 shelfWA1 shelfWB1 8000 1 60 54 1 60 218 shelf_m0 [.inr (.inr (21, [(lK 0)])), .inr (.inl (2016, lK 0))] shelfo1 = true := by decide +kernel
set_option maxRecDepth 1000000 in
theorem shelfE2 : wEd x_KT x_tb x_tyl x_ov0 u_ct u_hs x_knd lwFR lwGA lwGB 5 24 42 shelfWA2 shelfWB2 8000 1 60 54 1 60 218 shelf_r0 [.inr (.inr (8, [(lSy 5)])), .inr (.inl (2016, lK 0))] (shelfo2.map (wNo [5, 6, 9, 10])) = true := by decide +kernel
set_option maxRecDepth 1000000 in
theorem shelfE3 : wEd x_KT x_tb x_tyl x_ov0 u_ct u_hs x_knd lwFR lwGA lwGB 5 24 42 shelfWA3 shelfWB3 8000 1 60 54 1 60 218 shelf_m00 [] shelfo3 = true := by decide +kernel
set_option maxRecDepth 1000000 in
theorem shelfE4 : wEd x_KT x_tb x_tyl x_ov0 u_ct u_hs x_knd lwFR lwGA lwGB 5 24 42 shelfWA4 shelfWB4 8000 1 60 54 1 60 218 shelf_r00 [.inr (.inr (8, [(lSy 5)])), .inr (.inl (2016, lK 0))] (shelfo4.map (wNo [5, 6, 9, 10])) = true := by decide +kernel
set_option maxRecDepth 1000000 in
theorem shelfE5 : wEd x_KT x_tb x_tyl x_ov0 u_ct u_hs x_knd lwFR lwGA lwGB 5 24 42 shelfWA5 shelfWB5 8000 1 60 54 1 60 218 shelf_m1 [.inr (.inr (22, [(lK 0)])), .inr (.inl (2016, lK 0))] shelfo5 = true := by decide +kernel
set_option maxRecDepth 1000000 in
theorem shelfE6 : wEd x_KT x_tb x_tyl x_ov0 u_ct u_hs x_knd lwFR lwGA lwGB 5 24 42 shelfWA6 shelfWB6 8000 1 60 54 1 60 218 shelf_r1 [.inr (.inr (8, [(lSy 5)])), .inr (.inl (2016, lK 0))] (shelfo6.map (wNo [5, 6, 9, 10])) = true := by decide +kernel
set_option maxRecDepth 1000000 in
theorem shelfE7 : wEd x_KT x_tb x_tyl x_ov0 u_ct u_hs x_knd lwFR lwGA lwGB 5 24 42 shelfWA7 shelfWB7 8000 1 60 54 1 60 218 shelf_m10 [] shelfo7 = true := by decide +kernel
set_option maxRecDepth 1000000 in
theorem shelfE8 : wEd x_KT x_tb x_tyl x_ov0 u_ct u_hs x_knd lwFR lwGA lwGB 5 24 42 shelfWA8 shelfWB8 8000 1 60 54 1 60 218 shelf_r10 [.inr (.inr (8, [(lSy 5)])), .inr (.inl (2016, lK 0))] (shelfo8.map (wNo [5, 6, 9, 10])) = true := by decide +kernel
set_option maxRecDepth 1000000 in
theorem shelfE9 : wEd x_KT x_tb x_tyl x_ov0 u_ct u_hs x_knd lwFR lwGA lwGB 5 24 42 shelfWA9 shelfWB9 8000 1 60 54 1 60 218 shelf_m2 [.inr (.inr (23, [(lK 0)])), .inr (.inl (2016, lK 0))] shelfo9 = true := by decide +kernel
set_option maxRecDepth 1000000 in
theorem shelfE10 : wEd x_KT x_tb x_tyl x_ov0 u_ct u_hs x_knd lwFR lwGA lwGB 5 24 42 shelfWA10 shelfWB10 8000 1 60 54 1 60 218 shelf_r2 [.inr (.inr (8, [(lSy 5)])), .inr (.inl (2016, lK 0))] (shelfo10.map (wNo [5, 6, 9, 10])) = true := by decide +kernel
set_option maxRecDepth 1000000 in
theorem shelfE11 : wEd x_KT x_tb x_tyl x_ov0 u_ct u_hs x_knd lwFR lwGA lwGB 5 24 42 shelfWA11 shelfWB11 8000 1 60 54 1 60 218 shelf_m20 [] shelfo11 = true := by decide +kernel
set_option maxRecDepth 1000000 in
theorem shelfE12 : wEd x_KT x_tb x_tyl x_ov0 u_ct u_hs x_knd lwFR lwGA lwGB 5 24 42 shelfWA12 shelfWB12 8000 1 60 54 1 60 218 shelf_r20 [.inr (.inr (8, [(lSy 5)])), .inr (.inl (2016, lK 0))] (shelfo12.map (wNo [5, 6, 9, 10])) = true := by decide +kernel
set_option maxRecDepth 1000000 in
theorem shelfE13 : wEd x_KT x_tb x_tyl x_ov0 u_ct u_hs x_knd lwFR lwGA lwGB 5 24 42 shelfWA13 shelfWB13 8000 1 60 54 1 60 218 shelf_l0 [.inr (.inl (1001, (lAdd (lSc (-1) (lSy 11)) (lAdd (lSc (-1) (lSy 8)) (lK 39))))), .inr (.inl (1001, (lAdd (lSy 11) (lSy 8)))), .inr (.inl (1001, (lAdd (lSc (-1) (lSy 11)) (lAdd (lSy 10) (lAdd (lSc (-1) (lSy 8)) (lK (-1))))))), .inr (.inr (9, [(lSy 5)])), .inr (.inr (4, [])), .inr (.inr (19, [(lAdd (lSy 11) (lSy 8))])), .inr (.inl (2016, lK 0))] (shelfo13.map (wNo [5, 6, 9, 10])) = true := by decide +kernel
set_option maxRecDepth 1000000 in
theorem shelfE14 : wEd x_KT x_tb x_tyl x_ov0 u_ct u_hs x_knd lwFR lwGA lwGB 5 24 42 shelfWA14 shelfWB14 8000 1 60 54 1 60 218 shelf_l1 [.inr (.inl (1001, (lAdd (lSc (-1) (lSy 11)) (lAdd (lSc (-1) (lSy 8)) (lK 39))))), .inr (.inl (1001, (lAdd (lSy 11) (lSy 8)))), .inr (.inl (1001, (lAdd (lSc (-1) (lSy 11)) (lAdd (lSy 10) (lAdd (lSc (-1) (lSy 8)) (lK (-1))))))), .inr (.inr (9, [(lSy 5)])), .inr (.inr (4, [])), .inr (.inr (20, [(lAdd (lSy 11) (lSy 8))])), .inr (.inl (2016, lK 0))] (shelfo14.map (wNo [5, 6, 9, 10])) = true := by decide +kernel
set_option maxRecDepth 1000000 in
theorem shelfE15 : wEd x_KT x_tb x_tyl x_ov0 u_ct u_hs x_knd lwFR lwGA lwGB 5 24 42 shelfWA15 shelfWB15 8000 1 60 54 1 60 218 shelf_l2 [.inr (.inl (1001, (lAdd (lSc (-1) (lSy 11)) (lAdd (lSc (-1) (lSy 8)) (lK 39))))), .inr (.inl (1001, (lAdd (lSy 11) (lSy 8)))), .inr (.inl (1001, (lAdd (lSc (-1) (lSy 11)) (lAdd (lSy 10) (lAdd (lSc (-1) (lSy 8)) (lK (-1))))))), .inr (.inr (9, [(lSy 5)])), .inr (.inr (4, [])), .inr (.inr (21, [(lAdd (lSy 11) (lSy 8))])), .inr (.inl (2016, lK 0))] (shelfo15.map (wNo [5, 6, 9, 10])) = true := by decide +kernel
set_option maxRecDepth 1000000 in
theorem shelfE16 : wEd x_KT x_tb x_tyl x_ov0 u_ct u_hs x_knd lwFR lwGA lwGB 5 24 42 shelfWA16 shelfWB16 8000 1 60 54 1 60 218 shelf_x [] (shelfo16.map (wNo [20])) = true := by decide +kernel
set_option maxRecDepth 1000000 in
theorem shelfE16R20 : wRkE x_KT x_tb x_tyl x_ov0 u_ct u_hs x_knd lwFR lwGA lwGB shelfVA16_20 shelfVB16_20 8000 1 60 54 1 60 218 (shelfo16.map (wNo [20])) shelf_x lwF20 [.inl (lAdd (lSy 10) (lSc (-1) (lSy 3))), .inr (.inl (1001, (lAdd (lSy 10) (lAdd (lSc (-1) (lSy 5)) (lK (-1)))))), .inr (.inr (18, []))] = true := by decide +kernel
set_option maxRecDepth 1000000 in
theorem shelf_ShE0 : wEd x_KT x_tb x_tyl x_ov0 u_ct u_hs x_knd lwFR lwGA lwGB 12 24 42 shelf_ShWA0 shelf_ShWB0 8000 1 60 54 1 60 218 shelf_Sh_in [.inl (lSy 6), .inl (lAdd (lSy 6) (lK (-1))), .inl (lAdd (lSy 6) (lK (-2))), .inl (lAdd (lSy 6) (lK (-3))), .inl (lSy 5), .inl (lAdd (lSc (-1) (lSy 5)) (lAdd (lSy 3) (lK (-1)))), .inl (lAdd (lSy 9) (lK (-1)))] shelf_Sho0 = true := by decide +kernel
set_option maxRecDepth 1000000 in
theorem shelf_ShE1 : wEd x_KT x_tb x_tyl x_ov0 u_ct u_hs x_knd lwFR lwGA lwGB 12 24 42 shelf_ShWA1 shelf_ShWB1 8000 1 60 54 1 60 218 shelf_Sh_m0 [.inr (.inl (1001, (lSy 5))), .inr (.inl (1001, (lAdd (lSc (-1) (lSy 5)) (lK 11)))), .inr (.inl (1001, (lSy 6))), .inr (.inl (1001, (lSc (-1) (lSy 6)))), .inr (.inl (1001, (lSy 7))), .inr (.inl (1001, (lAdd (lSc (-1) (lSy 7)) (lK 2)))), .inr (.inl (1001, (lAdd (lSy 9) (lK (-1))))), .inr (.inl (1001, (lAdd (lSc (-1) (lSy 9)) (lK 12)))), .inr (.inr (21, [(lK 0)])), .inr (.inl (2016, lK 0))] shelf_Sho1 = true := by decide +kernel
end XRuC36
