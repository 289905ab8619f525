/-! Runs: checks, 8. -/
noncomputable section XRuC8
set_option maxRecDepth 1000000 in
theorem rlE52R33 : wRkE x_KT x_tb x_tyl x_ov0 x_cp u_hs x_knd lwFR lwGA lwGB rlVA52_33 rlVB52_33 8000 1 60 15 1 60 183 (rlo52.map (wNo [1, 0, 33])) rl_op5 lwF33 [.inl (lAdd (lSy 10) (lAdd (lSc (-1) (lSy 5)) (lK 1))), .inl (lAdd (lSc (-1) (lSy 10)) (lAdd (lSy 5) (lK (-1)))), .inr (.inl (0, (lAdd (lSy 5) (lK (-1))))), .inr (.inl (1004, (lAdd (lSc (-1) (lSy 10)) (lAdd (lSy 5) (lK (-2)))))), .inr (.inr (29, [])), .inr (.inl (2000, lK 0))] = true := by decide +kernel
set_option maxRecDepth 1000000 in
theorem rlE53 : wEd x_KT x_tb x_tyl x_ov0 x_cp u_hs x_knd lwFR lwGA lwGB 6 29 43 rlWA53 rlWB53 8000 1 60 15 1 60 183 rl_op6 [] (rlo53.map (wNo [1, 0, 33])) = true := by decide +kernel
set_option maxRecDepth 1000000 in
theorem rlE53R1 : wRkE x_KT x_tb x_tyl x_ov0 x_cp u_hs x_knd lwFR lwGA lwGB rlVA53_1 rlVB53_1 8000 1 60 15 1 60 183 (rlo53.map (wNo [1, 0, 33])) rl_op6 lwF1 [.inl (lAdd (lSc (-1) (lSy 10)) (lAdd (lSy 3) (lK (-1)))), .inr (.inr (27, [(lSy 10)])), .inr (.inr (26, [(lSy 10), (lSy 3)])), .inr (.inr (1, [])), .inr (.inl (2000, lK 0))] = true := by decide +kernel
set_option maxRecDepth 1000000 in
theorem rlE53R0 : wRkE x_KT x_tb x_tyl x_ov0 x_cp u_hs x_knd lwFR lwGA lwGB rlVA53_0 rlVB53_0 8000 1 60 15 1 60 183 (rlo53.map (wNo [1, 0, 33])) rl_op6 lwF0 [.inl (lAdd (lSc (-1) (lSy 10)) (lAdd (lSy 3) (lK (-1)))), .inr (.inr (27, [(lSy 10)])), .inr (.inr (26, [(lSy 10), (lSy 3)])), .inr (.inr (0, [])), .inr (.inl (2000, lK 0))] = true := by decide +kernel
set_option maxRecDepth 1000000 in
theorem rlE53R33 : wRkE x_KT x_tb x_tyl x_ov0 x_cp u_hs x_knd lwFR lwGA lwGB rlVA53_33 rlVB53_33 8000 1 60 15 1 60 183 (rlo53.map (wNo [1, 0, 33])) rl_op6 lwF33 [.inl (lAdd (lSy 10) (lAdd (lSc (-1) (lSy 5)) (lK 1))), .inl (lAdd (lSc (-1) (lSy 10)) (lAdd (lSy 5) (lK (-1)))), .inr (.inl (0, (lAdd (lSy 5) (lK (-1))))), .inr (.inl (1004, (lAdd (lSc (-1) (lSy 10)) (lAdd (lSy 5) (lK (-2)))))), .inr (.inr (29, [])), .inr (.inl (2000, lK 0))] = true := by decide +kernel
set_option maxRecDepth 1000000 in
theorem rlE54 : wEd x_KT x_tb x_tyl x_ov0 x_cp u_hs x_knd lwFR lwGA lwGB 6 29 43 rlWA54 rlWB54 8000 1 60 15 1 60 183 rl_op7 [] (rlo54.map (wNo [1, 0, 33])) = true := by decide +kernel
set_option maxRecDepth 1000000 in
theorem rlE54R1 : wRkE x_KT x_tb x_tyl x_ov0 x_cp u_hs x_knd lwFR lwGA lwGB rlVA54_1 rlVB54_1 8000 1 60 15 1 60 183 (rlo54.map (wNo [1, 0, 33])) rl_op7 lwF1 [.inl (lAdd (lSc (-1) (lSy 10)) (lAdd (lSy 3) (lK (-1)))), .inr (.inr (27, [(lSy 10)])), .inr (.inr (26, [(lSy 10), (lSy 3)])), .inr (.inr (1, [])), .inr (.inl (2000, lK 0))] = true := by decide +kernel
set_option maxRecDepth 1000000 in
theorem rlE54R0 : wRkE x_KT x_tb x_tyl x_ov0 x_cp u_hs x_knd lwFR lwGA lwGB rlVA54_0 rlVB54_0 8000 1 60 15 1 60 183 (rlo54.map (wNo [1, 0, 33])) rl_op7 lwF0 [.inl (lAdd (lSc (-1) (lSy 10)) (lAdd (lSy 3) (lK (-1)))), .inr (.inr (27, [(lSy 10)])), .inr (.inr (26, [(lSy 10), (lSy 3)])), .inr (.inr (0, [])), .inr (.inl (2000, lK 0))] = true := by decide +kernel
set_option maxRecDepth 1000000 in
theorem rlE54R33 : wRkE x_KT x_tb x_tyl x_ov0 x_cp u_hs x_knd lwFR lwGA lwGB rlVA54_33 rlVB54_33 8000 1 60 15 1 60 183 (rlo54.map (wNo [1, 0, 33])) rl_op7 lwF33 [.inl (lAdd (lSy 10) (lAdd (lSc (-1) (lSy 5)) (lK 1))), .inl (lAdd (lSc (-1) (lSy 10)) (lAdd (lSy 5) (lK (-1)))), .inr (.inl (0, (lAdd (lSy 5) (lK (-1))))), .inr (.inl (1004, (lAdd (lSc (-1) (lSy 10)) (lAdd (lSy 5) (lK (-2)))))), .inr (.inr (29, [])), .inr (.inl (2000, lK 0))] = true := by decide +kernel
set_option maxRecDepth 1000000 in
theorem rlE55 : wEd x_KT x_tb x_tyl x_ov0 x_cp u_hs x_knd lwFR lwGA lwGB 6 29 43 rlWA55 rlWB55 8000 1 60 15 1 60 183 rl_op8 [] (rlo55.map (wNo [1, 0, 33])) = true := by decide +kernel
set_option maxRecDepth 1000000 in
theorem rlE55R1 : wRkE x_KT x_tb x_tyl x_ov0 x_cp u_hs x_knd lwFR lwGA lwGB rlVA55_1 rlVB55_1 8000 1 60 15 1 60 183 (rlo55.map (wNo [1, 0, 33])) rl_op8 lwF1 [.inl (lAdd (lSc (-1) (lSy 10)) (lAdd (lSy 3) (lK (-1)))), .inr (.inr (27, [(lSy 10)])), .inr (.inr (26, [(lSy 10), (lSy 3)])), .inr (.inr (1, [])), .inr (.inl (2000, lK 0))] = true := by decide +kernel
set_option maxRecDepth 1000000 in
theorem rlE55R0 : wRkE x_KT x_tb x_tyl x_ov0 x_cp u_hs x_knd lwFR lwGA lwGB rlVA55_0 rlVB55_0 8000 1 60 15 1 60 183 (rlo55.map (wNo [1, 0, 33])) rl_op8 lwF0 [.inl (lAdd (lSc (-1) (lSy 10)) (lAdd (lSy 3) (lK (-1)))), .inr (.inr (27, [(lSy 10)])), .inr (.inr (26, [(lSy 10), (lSy 3)])), .inr (.inr (0, [])), .inr (.inl (2000, lK 0))] = true := by decide +kernel
set_option maxRecDepth 1000000 in
theorem rlE55R33 : wRkE x_KT x_tb x_tyl x_ov0 x_cp u_hs x_knd lwFR lwGA lwGB rlVA55_33 rlVB55_33 8000 1 60 15 1 60 183 (rlo55.map (wNo [1, 0, 33])) rl_op8 lwF33 [.inl (lAdd (lSy 10) (lAdd (lSc (-1) (lSy 5)) (lK 1))), .inl (lAdd (lSc (-1) (lSy 10)) (lAdd (lSy 5) (lK (-1)))), .inr (.inl (0, (lAdd (lSy 5) (lK (-1))))), .inr (.inl (1004, (lAdd (lSc (-1) (lSy 10)) (lAdd (lSy 5) (lK (-2)))))), .inr (.inr (29, [])), .inr (.inl (2000, lK 0))] = true := by decide +kernel
set_option maxRecDepth 1000000 in
theorem rlE56 : wEd x_KT x_tb x_tyl x_ov0 x_cp u_hs x_knd lwFR lwGA lwGB 6 29 43 rlWA56 rlWB56 8000 1 60 15 1 60 183 rl_op9 [] (rlo56.map (wNo [1, 0, 33])) = true := by decide +kernel
set_option maxRecDepth 1000000 in
theorem rlE56R1 : wRkE x_KT x_tb x_tyl x_ov0 x_cp u_hs x_knd lwFR lwGA lwGB rlVA56_1 rlVB56_1 8000 1 60 15 1 60 183 (rlo56.map (wNo [1, 0, 33])) rl_op9 lwF1 [.inl (lAdd (lSc (-1) (lSy 10)) (lAdd (lSy 3) (lK (-1)))), .inr (.inr (27, [(lSy 10)])), .inr (.inr (26, [(lSy 10), (lSy 3)])), .inr (.inr (1, [])), .inr (.inl (2000, lK 0))] = true := by decide +kernel
set_option maxRecDepth 1000000 in
theorem rlE56R0 : wRkE x_KT x_tb x_tyl x_ov0 x_cp u_hs x_knd lwFR lwGA lwGB rlVA56_0 rlVB56_0 8000 1 60 15 1 60 183 (rlo56.map (wNo [1, 0, 33])) rl_op9 lwF0 [.inl (lAdd (lSc (-1) (lSy 10)) (lAdd (lSy 3) (lK (-1)))), .inr (.inr (27, [(lSy 10)])), .inr (.inr (26, [(lSy 10), (lSy 3)])), .inr (.inr (0, [])), .inr (.inl (2000, lK 0))] = true := by decide +kernel
set_option maxRecDepth 1000000 in
theorem rlE56R33 : wRkE x_KT x_tb x_tyl x_ov0 x_cp u_hs x_knd lwFR lwGA lwGB rlVA56_33 rlVB56_33 8000 1 60 15 1 60 183 (rlo56.map (wNo [1, 0, 33])) rl_op9 lwF33 [.inl (lAdd (lSy 10) (lAdd (lSc (-1) (lSy 5)) (lK 1))), .inl (lAdd (lSc (-1) (lSy 10)) (lAdd (lSy 5) (lK (-1)))), .inr (.inl (0, (lAdd (lSy 5) (lK (-1))))), .inr (.inl (1004, (lAdd (lSc (-1) (lSy 10)) (lAdd (lSy 5) (lK (-2)))))), .inr (.inr (29, [])), .inr (.inl (2000, lK 0))] = true := by decide +kernel
set_option maxRecDepth 1000000 in
theorem rlE57 : wEd x_KT x_tb x_tyl x_ov0 x_cp u_hs x_knd lwFR lwGA lwGB 6 29 43 rlWA57 rlWB57 8000 1 60 15 1 60 183 rl_op10 [] (rlo57.map (wNo [1, 0, 33])) = true := by decide +kernel
set_option maxRecDepth 1000000 in
theorem rlE57R1 : wRkE x_KT x_tb x_tyl x_ov0 x_cp u_hs x_knd lwFR lwGA lwGB rlVA57_1 rlVB57_1 8000 1 60 15 1 60 183 (rlo57.map (wNo [1, 0, 33])) rl_op10 lwF1 [.inl (lAdd (lSc (-1) (lSy 10)) (lAdd (lSy 3) (lK (-1)))), .inr (.inr (27, [(lSy 10)])), .inr (.inr (26, [(lSy 10), (lSy 3)])), .inr (.inr (1, [])), .inr (.inl (2000, lK 0))] = true := by decide +kernel
set_option maxRecDepth 1000000 in
theorem rlE57R0 : wRkE x_KT x_tb x_tyl x_ov0 x_cp u_hs x_knd lwFR lwGA lwGB rlVA57_0 rlVB57_0 8000 1 60 15 1 60 183 (rlo57.map (wNo [1, 0, 33])) rl_op10 lwF0 [.inl (lAdd (lSc (-1) (lSy 10)) (lAdd (lSy 3) (lK (-1)))), .inr (.inr (27, [(lSy 10)])), .inr (.inr (26, [(lSy 10), (lSy 3)])), .inr (.inr (0, [])), .inr (.inl (2000, lK 0))] = true := by decide +kernel
set_option maxRecDepth 1000000 in
theorem rlE57R33 : wRkE x_KT x_tb x_tyl x_ov0 x_cp u_hs x_knd lwFR lwGA lwGB rlVA57_33 rlVB57_33 8000 1 60 15 1 60 183 (rlo57.map (wNo [1, 0, 33])) rl_op10 lwF33 [.inl (lAdd (lSy 10) (lAdd (lSc (-1) (lSy 5)) (lK 1))), .inl (lAdd (lSc (-1) (lSy 10)) (lAdd (lSy 5) (lK (-1)))), .inr (.inl (0, (lAdd (lSy 5) (lK (-1))))), .inr (.inl (1004, (lAdd (lSc (-1) (lSy 10)) (lAdd (lSy 5) (lK (-2)))))), .inr (.inr (29, [])), .inr (.inl (2000, lK 0))] = true := by decide +kernel
set_option maxRecDepth 1000000 in
theorem rlE58 : wEd x_KT x_tb x_tyl x_ov0 x_cp u_hs x_knd lwFR lwGA lwGB 6 29 43 rlWA58 rlWB58 8000 1 60 15 1 60 183 rl_op11 [] (rlo58.map (wNo [1, 0, 33])) = true := by decide +kernel
set_option maxRecDepth 1000000 in
theorem rlE58R1 : wRkE x_KT x_tb x_tyl x_ov0 x_cp u_hs x_knd lwFR lwGA lwGB rlVA58_1 rlVB58_1 8000 1 60 15 1 60 183 (rlo58.map (wNo [1, 0, 33])) rl_op11 lwF1 [.inl (lAdd (lSc (-1) (lSy 10)) (lAdd (lSy 3) (lK (-1)))), .inr (.inr (27, [(lSy 10)])), .inr (.inr (26, [(lSy 10), (lSy 3)])), .inr (.inr (1, [])), .inr (.inl (2000, lK 0))] = true := by decide +kernel
set_option maxRecDepth 1000000 in
theorem rlE58R0 : wRkE x_KT x_tb x_tyl x_ov0 x_cp u_hs x_knd lwFR lwGA lwGB rlVA58_0 rlVB58_0 8000 1 60 15 1 60 183 (rlo58.map (wNo [1, 0, 33])) rl_op11 lwF0 [.inl (lAdd (lSc (-1) (lSy 10)) (lAdd (lSy 3) (lK (-1)))), .inr (.inr (27, [(lSy 10)])), .inr (.inr (26, [(lSy 10), (lSy 3)])), .inr (.inr (0, [])), .inr (.inl (2000, lK 0))] = true := by decide +kernel
set_option maxRecDepth 1000000 in
theorem rlE58R33 : wRkE x_KT x_tb x_tyl x_ov0 x_cp u_hs x_knd lwFR lwGA lwGB rlVA58_33 rlVB58_33 8000 1 60 15 1 60 183 (rlo58.map (wNo [1, 0, 33])) rl_op11 lwF33 [.inl (lAdd (lSy 10) (lAdd (lSc (-1) (lSy 5)) (lK 1))), .inl (lAdd (lSc (-1) (lSy 10)) (lAdd (lSy 5) (lK (-1)))), .inr (.inl (0, (lAdd (lSy 5) (lK (-1))))), .inr (.inl (1004, (lAdd (lSc (-1) (lSy 10)) (lAdd (lSy 5) (lK (-2)))))), .inr (.inr (29, [])), .inr (.inl (2000, lK 0))] = true := by decide +kernel
set_option maxRecDepth 1000000 in
theorem rlE59 : wEd x_KT x_tb x_tyl x_ov0 x_cp u_hs x_knd lwFR lwGA lwGB 6 29 43 rlWA59 rlWB59 8000 1 60 15 0 60 183 rl_no [] rlo59 = true := by decide +kernel
set_option maxRecDepth 1000000 in
theorem rdE0 : wEd x_KT x_tb x_tyl x_ov0 u_ct u_hs x_knd lwFR lwGA lwGB 5 29 43 rdWA0 rdWB0 8000 1 60 14 1 60 183 rd_in [] (rdo0.map (wNo [1, 0, 33])) = true := by decide +kernel
set_option maxRecDepth 1000000 in
theorem rdE0R1 : wRkE x_KT x_tb x_tyl x_ov0 u_ct u_hs x_knd lwFR lwGA lwGB rdVA0_1 rdVB0_1 8000 1 60 14 1 60 183 (rdo0.map (wNo [1, 0, 33])) rd_in lwF1 [.inl (lAdd (lSc (-1) (lSy 5)) (lAdd (lSy 3) (lK (-1)))), .inr (.inr (27, [(lSy 5)])), .inr (.inr (26, [(lSy 5), (lSy 3)])), .inr (.inr (1, [])), .inr (.inl (2000, lK 0))] = true := by decide +kernel
set_option maxRecDepth 1000000 in
theorem rdE0R0 : wRkE x_KT x_tb x_tyl x_ov0 u_ct u_hs x_knd lwFR lwGA lwGB rdVA0_0 rdVB0_0 8000 1 60 14 1 60 183 (rdo0.map (wNo [1, 0, 33])) rd_in lwF0 [.inl (lAdd (lSc (-1) (lSy 5)) (lAdd (lSy 3) (lK (-1)))), .inr (.inr (27, [(lSy 5)])), .inr (.inr (26, [(lSy 5), (lSy 3)])), .inr (.inr (0, [])), .inr (.inl (2000, lK 0))] = true := by decide +kernel
set_option maxRecDepth 1000000 in
theorem rdE0R33 : wRkE x_KT x_tb x_tyl x_ov0 u_ct u_hs x_knd lwFR lwGA lwGB rdVA0_33 rdVB0_33 8000 1 60 14 1 60 183 (rdo0.map (wNo [1, 0, 33])) rd_in lwF33 [] = true := by decide +kernel
theorem rdL1 : wRlk 6 29 43 rlWA rlWB rdX1.2.1 rdX1.2.2.1 rdX1.2.2.2.1 rdX1.2.2.2.2 rl_in = true := by decide +kernel
set_option maxRecDepth 1000000 in
theorem rdE2 : wEd x_KT x_tb x_tyl x_ov0 u_ct u_hs x_knd lwFR lwGA lwGB 5 29 43 rdWA2 rdWB2 8000 1 60 14 0 60 183 rd_lp [] rdo2 = true := by decide +kernel
set_option maxRecDepth 1000000 in
theorem rdE3 : wEd x_KT x_tb x_tyl x_ov0 u_ct u_hs x_knd lwFR lwGA lwGB 5 29 43 rdWA3 rdWB3 8000 1 60 14 1 60 183 rd_cl_yes [.inr (.inl (1001, (lAdd (lSc (-1) (lSy 5)) (lK 12)))), .inr (.inl (1001, (lAdd (lSy 5) (lK (-1))))), .inl (lAdd (lSc (-1) (lSy 6)) (lAdd (lSy 4) (lK (-1)))), .inr (.inl (1001, (lAdd (lSc (-1) (lSy 6)) (lK 159)))), .inr (.inr (25, [(lSy 6)]))] rdo3 = true := by decide +kernel
set_option maxRecDepth 1000000 in
theorem rdE4 : wEd x_KT x_tb x_tyl x_ov0 u_ct u_hs x_knd lwFR lwGA lwGB 5 29 43 rdWA4 rdWB4 8000 1 60 14 1 60 183 rd_cl_end [] rdo4 = true := by decide +kernel
theorem programL0 : wRlk 5 29 43 rdWA rdWB programX0.2.1 programX0.2.2.1 programX0.2.2.2.1 programX0.2.2.2.2 rd_in = true := by decide +kernel
set_option maxRecDepth 1000000 in
theorem programE1 : wEd x_KT x_tb x_tyl x_ov0 u_ct u_hs x_knd lwFR lwGA lwGB 5 24 42 programWA1 programWB1 8000 1 60 13 1 60 182 program_in [.inl (lAdd (lSc (-1) (lSy 3)) (lK 11)), .inr (.inr (28, [])), .inr (.inr (26, [(lSy 3), (lK 12)]))] programo1 = true := by decide +kernel
set_option maxRecDepth 1000000 in
theorem programE2 : wEd x_KT x_tb x_tyl x_ov0 u_ct u_hs x_knd lwFR lwGA lwGB 5 24 42 programWA2 programWB2 8000 1 60 13 1 60 182 program_cl_no [] programo2 = true := by decide +kernel
set_option maxRecDepth 1000000 in
theorem programE3 : wEd x_KT x_tb x_tyl x_ov0 u_ct u_hs x_knd lwFR lwGA lwGB 5 24 42 programWA3 programWB3 8000 1 60 13 1 60 182 program_cl_ok [] (programo3.map (wNo [0, 1, 2, 3, 5, 6, 7, 8, 9, 10, 11, 15, 14, 12, 16, 18, 27, 28, 20])) = true := by decide +kernel
set_option maxRecDepth 1000000 in
theorem programE3R0 : wRkE x_KT x_tb x_tyl x_ov0 u_ct u_hs x_knd lwFR lwGA lwGB programVA3_0 programVB3_0 8000 1 60 13 1 60 182 (programo3.map (wNo [0, 1, 2, 3, 5, 6, 7, 8, 9, 10, 11, 15, 14, 12, 16, 18, 27, 28, 20])) program_cl_ok lwF0 [.inl (lAdd (lSc (-1) (lSy 6)) (lAdd (lSy 3) (lK (-1)))), .inl (lAdd (lSc (-1) (lSy 6)) (lSy 3)), .inr (.inl (0, (lSy 3))), .inr (.inr (4, [])), .inr (.inr (27, [(lSy 6)])), .inr (.inr (11, [(lSy 6)])), .inr (.inr (0, [])), .inr (.inr (20, [(lSy 3)])), .inr (.inl (2000, lK 0))] = true := by decide +kernel
set_option maxRecDepth 1000000 in
theorem programE3R1 : wRkE x_KT x_tb x_tyl x_ov0 u_ct u_hs x_knd lwFR lwGA lwGB programVA3_1 programVB3_1 8000 1 60 13 1 60 182 (programo3.map (wNo [0, 1, 2, 3, 5, 6, 7, 8, 9, 10, 11, 15, 14, 12, 16, 18, 27, 28, 20])) program_cl_ok lwF1 [.inl (lAdd (lSc (-1) (lSy 6)) (lAdd (lSy 3) (lK (-1)))), .inl (lAdd (lSc (-1) (lSy 6)) (lSy 3)), .inr (.inl (1012, (lAdd (lSc (-1) (lSy 6)) (lSy 3)))), .inr (.inl (1012, (lAdd (lSy 6) (lSc (-1) (lSy 3))))), .inr (.inl (0, (lSy 3))), .inr (.inl (1, (lAdd (lSy 7) (lAdd (lSc (-12) (lSy 6)) (lSc 12 (lSy 3)))))), .inr (.inr (27, [(lSy 6)])), .inr (.inr (1, [])), .inr (.inr (29, [(lAdd (lSy 7) (lAdd (lSc (-12) (lSy 6)) (lSc 12 (lSy 3))))])), .inr (.inl (2000, lK 0))] = true := by decide +kernel
end XRuC8
