/-! Runs: checks, 16. -/
noncomputable section XRuC16
set_option maxRecDepth 1000000 in
theorem rlE16R1 : wRkE x_KT x_tb x_tyl x_ov0 u_ct u_hs x_knd lwFR lwGA lwGB rlVA16_1 rlVB16_1 8000 1 60 15 1 60 183 (rlo16.map (wNo [1, 0, 37])) rl_op1 lwF1 [.inl (lAdd (lSc (-1) (lSy 10)) (lAdd (lSy 3) (lK (-1)))), .inr (.inr (27, [(lSy 10)])), .inr (.inr (26, [(lSy 10), (lSy 3)])), .inr (.inr (1, []))] = true := by decide +kernel
set_option maxRecDepth 1000000 in
theorem rlE16R0 : wRkE x_KT x_tb x_tyl x_ov0 u_ct u_hs x_knd lwFR lwGA lwGB rlVA16_0 rlVB16_0 8000 1 60 15 1 60 183 (rlo16.map (wNo [1, 0, 37])) rl_op1 lwF0 [.inl (lAdd (lSc (-1) (lSy 10)) (lAdd (lSy 3) (lK (-1)))), .inr (.inr (27, [(lSy 10)])), .inr (.inr (26, [(lSy 10), (lSy 3)])), .inr (.inr (0, []))] = true := by decide +kernel
set_option maxRecDepth 1000000 in
theorem rlE16R37 : wRkE x_KT x_tb x_tyl x_ov0 u_ct u_hs x_knd lwFR lwGA lwGB rlVA16_37 rlVB16_37 8000 1 60 15 1 60 183 (rlo16.map (wNo [1, 0, 37])) rl_op1 lwF37 [.inl (lAdd (lSy 10) (lAdd (lSc (-1) (lSy 5)) (lK 1))), .inl (lAdd (lSc (-1) (lSy 10)) (lAdd (lSy 5) (lK (-1)))), .inr (.inl (0, (lAdd (lSy 5) (lK (-1))))), .inr (.inl (1004, (lAdd (lSc (-1) (lSy 10)) (lAdd (lSy 5) (lK (-2)))))), .inr (.inr (33, [])), .inr (.inl (2006, lK 0))] = true := by decide +kernel
set_option maxRecDepth 1000000 in
theorem rlE17q : wEdQ lwTch 43 x_KT x_tb x_tyl x_ov0 u_ct u_hs x_knd lwFR lwGA lwGB 6 30 44 rlWA17 rlWB17 8000 1 60 15 1 60 183 rl_op2 [] (rlo17.map (wNo [1, 0, 37])) = true := by decide +kernel
theorem rlE17 : wEd x_KT x_tb x_tyl x_ov0 u_ct u_hs x_knd lwFR lwGA lwGB 6 30 44 rlWA17 rlWB17 8000 1 60 15 1 60 183 rl_op2 [] (rlo17.map (wNo [1, 0, 37])) = true := wEdQ_ok lwTchOk rlE17q
set_option maxRecDepth 1000000 in
theorem rlE17R1 : wRkE x_KT x_tb x_tyl x_ov0 u_ct u_hs x_knd lwFR lwGA lwGB rlVA17_1 rlVB17_1 8000 1 60 15 1 60 183 (rlo17.map (wNo [1, 0, 37])) rl_op2 lwF1 [.inl (lAdd (lSc (-1) (lSy 10)) (lAdd (lSy 3) (lK (-1)))), .inr (.inr (27, [(lSy 10)])), .inr (.inr (26, [(lSy 10), (lSy 3)])), .inr (.inr (1, []))] = true := by decide +kernel
set_option maxRecDepth 1000000 in
theorem rlE17R0 : wRkE x_KT x_tb x_tyl x_ov0 u_ct u_hs x_knd lwFR lwGA lwGB rlVA17_0 rlVB17_0 8000 1 60 15 1 60 183 (rlo17.map (wNo [1, 0, 37])) rl_op2 lwF0 [.inl (lAdd (lSc (-1) (lSy 10)) (lAdd (lSy 3) (lK (-1)))), .inr (.inr (27, [(lSy 10)])), .inr (.inr (26, [(lSy 10), (lSy 3)])), .inr (.inr (0, []))] = true := by decide +kernel
set_option maxRecDepth 1000000 in
theorem rlE17R37 : wRkE x_KT x_tb x_tyl x_ov0 u_ct u_hs x_knd lwFR lwGA lwGB rlVA17_37 rlVB17_37 8000 1 60 15 1 60 183 (rlo17.map (wNo [1, 0, 37])) rl_op2 lwF37 [.inl (lAdd (lSy 10) (lAdd (lSc (-1) (lSy 5)) (lK 1))), .inl (lAdd (lSc (-1) (lSy 10)) (lAdd (lSy 5) (lK (-1)))), .inr (.inl (0, (lAdd (lSy 5) (lK (-1))))), .inr (.inl (1004, (lAdd (lSc (-1) (lSy 10)) (lAdd (lSy 5) (lK (-2)))))), .inr (.inr (33, [])), .inr (.inl (2006, lK 0))] = true := by decide +kernel
set_option maxRecDepth 1000000 in
theorem rlE18q : wEdQ lwTch 43 x_KT x_tb x_tyl x_ov0 u_ct u_hs x_knd lwFR lwGA lwGB 6 30 44 rlWA18 rlWB18 8000 1 60 15 1 60 183 rl_op3 [] (rlo18.map (wNo [1, 0, 37])) = true := by decide +kernel
theorem rlE18 : wEd x_KT x_tb x_tyl x_ov0 u_ct u_hs x_knd lwFR lwGA lwGB 6 30 44 rlWA18 rlWB18 8000 1 60 15 1 60 183 rl_op3 [] (rlo18.map (wNo [1, 0, 37])) = true := wEdQ_ok lwTchOk rlE18q
set_option maxRecDepth 1000000 in
theorem rlE18R1 : wRkE x_KT x_tb x_tyl x_ov0 u_ct u_hs x_knd lwFR lwGA lwGB rlVA18_1 rlVB18_1 8000 1 60 15 1 60 183 (rlo18.map (wNo [1, 0, 37])) rl_op3 lwF1 [.inl (lAdd (lSc (-1) (lSy 10)) (lAdd (lSy 3) (lK (-1)))), .inr (.inr (27, [(lSy 10)])), .inr (.inr (26, [(lSy 10), (lSy 3)])), .inr (.inr (1, []))] = true := by decide +kernel
set_option maxRecDepth 1000000 in
theorem rlE18R0 : wRkE x_KT x_tb x_tyl x_ov0 u_ct u_hs x_knd lwFR lwGA lwGB rlVA18_0 rlVB18_0 8000 1 60 15 1 60 183 (rlo18.map (wNo [1, 0, 37])) rl_op3 lwF0 [.inl (lAdd (lSc (-1) (lSy 10)) (lAdd (lSy 3) (lK (-1)))), .inr (.inr (27, [(lSy 10)])), .inr (.inr (26, [(lSy 10), (lSy 3)])), .inr (.inr (0, []))] = true := by decide +kernel
set_option maxRecDepth 1000000 in
theorem rlE18R37 : wRkE x_KT x_tb x_tyl x_ov0 u_ct u_hs x_knd lwFR lwGA lwGB rlVA18_37 rlVB18_37 8000 1 60 15 1 60 183 (rlo18.map (wNo [1, 0, 37])) rl_op3 lwF37 [.inl (lAdd (lSy 10) (lAdd (lSc (-1) (lSy 5)) (lK 1))), .inl (lAdd (lSc (-1) (lSy 10)) (lAdd (lSy 5) (lK (-1)))), .inr (.inl (0, (lAdd (lSy 5) (lK (-1))))), .inr (.inl (1004, (lAdd (lSc (-1) (lSy 10)) (lAdd (lSy 5) (lK (-2)))))), .inr (.inr (33, [])), .inr (.inl (2006, lK 0))] = true := by decide +kernel
set_option maxRecDepth 1000000 in
theorem rlE19q : wEdQ lwTch 43 x_KT x_tb x_tyl x_ov0 u_ct u_hs x_knd lwFR lwGA lwGB 6 30 44 rlWA19 rlWB19 8000 1 60 15 1 60 183 rl_op4 [] (rlo19.map (wNo [1, 0, 37])) = true := by decide +kernel
theorem rlE19 : wEd x_KT x_tb x_tyl x_ov0 u_ct u_hs x_knd lwFR lwGA lwGB 6 30 44 rlWA19 rlWB19 8000 1 60 15 1 60 183 rl_op4 [] (rlo19.map (wNo [1, 0, 37])) = true := wEdQ_ok lwTchOk rlE19q
set_option maxRecDepth 1000000 in
theorem rlE19R1 : wRkE x_KT x_tb x_tyl x_ov0 u_ct u_hs x_knd lwFR lwGA lwGB rlVA19_1 rlVB19_1 8000 1 60 15 1 60 183 (rlo19.map (wNo [1, 0, 37])) rl_op4 lwF1 [.inl (lAdd (lSc (-1) (lSy 10)) (lAdd (lSy 3) (lK (-1)))), .inr (.inr (27, [(lSy 10)])), .inr (.inr (26, [(lSy 10), (lSy 3)])), .inr (.inr (1, []))] = true := by decide +kernel
set_option maxRecDepth 1000000 in
theorem rlE19R0 : wRkE x_KT x_tb x_tyl x_ov0 u_ct u_hs x_knd lwFR lwGA lwGB rlVA19_0 rlVB19_0 8000 1 60 15 1 60 183 (rlo19.map (wNo [1, 0, 37])) rl_op4 lwF0 [.inl (lAdd (lSc (-1) (lSy 10)) (lAdd (lSy 3) (lK (-1)))), .inr (.inr (27, [(lSy 10)])), .inr (.inr (26, [(lSy 10), (lSy 3)])), .inr (.inr (0, []))] = true := by decide +kernel
set_option maxRecDepth 1000000 in
theorem rlE19R37 : wRkE x_KT x_tb x_tyl x_ov0 u_ct u_hs x_knd lwFR lwGA lwGB rlVA19_37 rlVB19_37 8000 1 60 15 1 60 183 (rlo19.map (wNo [1, 0, 37])) rl_op4 lwF37 [.inl (lAdd (lSy 10) (lAdd (lSc (-1) (lSy 5)) (lK 1))), .inl (lAdd (lSc (-1) (lSy 10)) (lAdd (lSy 5) (lK (-1)))), .inr (.inl (0, (lAdd (lSy 5) (lK (-1))))), .inr (.inl (1004, (lAdd (lSc (-1) (lSy 10)) (lAdd (lSy 5) (lK (-2)))))), .inr (.inr (33, [])), .inr (.inl (2006, lK 0))] = true := by decide +kernel
set_option maxRecDepth 1000000 in
theorem rlE20q : wEdQ lwTch 43 x_KT x_tb x_tyl x_ov0 u_ct u_hs x_knd lwFR lwGA lwGB 6 30 44 rlWA20 rlWB20 8000 1 60 15 1 60 183 rl_op5 [] (rlo20.map (wNo [1, 0, 37])) = true := by decide +kernel
theorem rlE20 : wEd x_KT x_tb x_tyl x_ov0 u_ct u_hs x_knd lwFR lwGA lwGB 6 30 44 rlWA20 rlWB20 8000 1 60 15 1 60 183 rl_op5 [] (rlo20.map (wNo [1, 0, 37])) = true := wEdQ_ok lwTchOk rlE20q
set_option maxRecDepth 1000000 in
theorem rlE20R1 : wRkE x_KT x_tb x_tyl x_ov0 u_ct u_hs x_knd lwFR lwGA lwGB rlVA20_1 rlVB20_1 8000 1 60 15 1 60 183 (rlo20.map (wNo [1, 0, 37])) rl_op5 lwF1 [.inl (lAdd (lSc (-1) (lSy 10)) (lAdd (lSy 3) (lK (-1)))), .inr (.inr (27, [(lSy 10)])), .inr (.inr (26, [(lSy 10), (lSy 3)])), .inr (.inr (1, []))] = true := by decide +kernel
set_option maxRecDepth 1000000 in
theorem rlE20R0 : wRkE x_KT x_tb x_tyl x_ov0 u_ct u_hs x_knd lwFR lwGA lwGB rlVA20_0 rlVB20_0 8000 1 60 15 1 60 183 (rlo20.map (wNo [1, 0, 37])) rl_op5 lwF0 [.inl (lAdd (lSc (-1) (lSy 10)) (lAdd (lSy 3) (lK (-1)))), .inr (.inr (27, [(lSy 10)])), .inr (.inr (26, [(lSy 10), (lSy 3)])), .inr (.inr (0, []))] = true := by decide +kernel
set_option maxRecDepth 1000000 in
theorem rlE20R37 : wRkE x_KT x_tb x_tyl x_ov0 u_ct u_hs x_knd lwFR lwGA lwGB rlVA20_37 rlVB20_37 8000 1 60 15 1 60 183 (rlo20.map (wNo [1, 0, 37])) rl_op5 lwF37 [.inl (lAdd (lSy 10) (lAdd (lSc (-1) (lSy 5)) (lK 1))), .inl (lAdd (lSc (-1) (lSy 10)) (lAdd (lSy 5) (lK (-1)))), .inr (.inl (0, (lAdd (lSy 5) (lK (-1))))), .inr (.inl (1004, (lAdd (lSc (-1) (lSy 10)) (lAdd (lSy 5) (lK (-2)))))), .inr (.inr (33, [])), .inr (.inl (2006, lK 0))] = true := by decide +kernel
set_option maxRecDepth 1000000 in
theorem rlE21q : wEdQ lwTch 43 x_KT x_tb x_tyl x_ov0 u_ct u_hs x_knd lwFR lwGA lwGB 6 30 44 rlWA21 rlWB21 8000 1 60 15 1 60 183 rl_op6 [] (rlo21.map (wNo [1, 0, 37])) = true := by decide +kernel
theorem rlE21 : wEd x_KT x_tb x_tyl x_ov0 u_ct u_hs x_knd lwFR lwGA lwGB 6 30 44 rlWA21 rlWB21 8000 1 60 15 1 60 183 rl_op6 [] (rlo21.map (wNo [1, 0, 37])) = true := wEdQ_ok lwTchOk rlE21q
set_option maxRecDepth 1000000 in
theorem rlE21R1 : wRkE x_KT x_tb x_tyl x_ov0 u_ct u_hs x_knd lwFR lwGA lwGB rlVA21_1 rlVB21_1 8000 1 60 15 1 60 183 (rlo21.map (wNo [1, 0, 37])) rl_op6 lwF1 [.inl (lAdd (lSc (-1) (lSy 10)) (lAdd (lSy 3) (lK (-1)))), .inr (.inr (27, [(lSy 10)])), .inr (.inr (26, [(lSy 10), (lSy 3)])), .inr (.inr (1, []))] = true := by decide +kernel
set_option maxRecDepth 1000000 in
theorem rlE21R0 : wRkE x_KT x_tb x_tyl x_ov0 u_ct u_hs x_knd lwFR lwGA lwGB rlVA21_0 rlVB21_0 8000 1 60 15 1 60 183 (rlo21.map (wNo [1, 0, 37])) rl_op6 lwF0 [.inl (lAdd (lSc (-1) (lSy 10)) (lAdd (lSy 3) (lK (-1)))), .inr (.inr (27, [(lSy 10)])), .inr (.inr (26, [(lSy 10), (lSy 3)])), .inr (.inr (0, []))] = true := by decide +kernel
set_option maxRecDepth 1000000 in
theorem rlE21R37 : wRkE x_KT x_tb x_tyl x_ov0 u_ct u_hs x_knd lwFR lwGA lwGB rlVA21_37 rlVB21_37 8000 1 60 15 1 60 183 (rlo21.map (wNo [1, 0, 37])) rl_op6 lwF37 [.inl (lAdd (lSy 10) (lAdd (lSc (-1) (lSy 5)) (lK 1))), .inl (lAdd (lSc (-1) (lSy 10)) (lAdd (lSy 5) (lK (-1)))), .inr (.inl (0, (lAdd (lSy 5) (lK (-1))))), .inr (.inl (1004, (lAdd (lSc (-1) (lSy 10)) (lAdd (lSy 5) (lK (-2)))))), .inr (.inr (33, [])), .inr (.inl (2006, lK 0))] = true := by decide +kernel
set_option maxRecDepth 1000000 in
theorem rlE22q : wEdQ lwTch 43 x_KT x_tb x_tyl x_ov0 u_ct u_hs x_knd lwFR lwGA lwGB 6 30 44 rlWA22 rlWB22 8000 1 60 15 1 60 183 rl_op7 [] (rlo22.map (wNo [1, 0, 37])) = true := by decide +kernel
theorem rlE22 : wEd x_KT x_tb x_tyl x_ov0 u_ct u_hs x_knd lwFR lwGA lwGB 6 30 44 rlWA22 rlWB22 8000 1 60 15 1 60 183 rl_op7 [] (rlo22.map (wNo [1, 0, 37])) = true := wEdQ_ok lwTchOk rlE22q
set_option maxRecDepth 1000000 in
theorem rlE22R1 : wRkE x_KT x_tb x_tyl x_ov0 u_ct u_hs x_knd lwFR lwGA lwGB rlVA22_1 rlVB22_1 8000 1 60 15 1 60 183 (rlo22.map (wNo [1, 0, 37])) rl_op7 lwF1 [.inl (lAdd (lSc (-1) (lSy 10)) (lAdd (lSy 3) (lK (-1)))), .inr (.inr (27, [(lSy 10)])), .inr (.inr (26, [(lSy 10), (lSy 3)])), .inr (.inr (1, []))] = true := by decide +kernel
set_option maxRecDepth 1000000 in
theorem rlE22R0 : wRkE x_KT x_tb x_tyl x_ov0 u_ct u_hs x_knd lwFR lwGA lwGB rlVA22_0 rlVB22_0 8000 1 60 15 1 60 183 (rlo22.map (wNo [1, 0, 37])) rl_op7 lwF0 [.inl (lAdd (lSc (-1) (lSy 10)) (lAdd (lSy 3) (lK (-1)))), .inr (.inr (27, [(lSy 10)])), .inr (.inr (26, [(lSy 10), (lSy 3)])), .inr (.inr (0, []))] = true := by decide +kernel
set_option maxRecDepth 1000000 in
theorem rlE22R37 : wRkE x_KT x_tb x_tyl x_ov0 u_ct u_hs x_knd lwFR lwGA lwGB rlVA22_37 rlVB22_37 8000 1 60 15 1 60 183 (rlo22.map (wNo [1, 0, 37])) rl_op7 lwF37 [.inl (lAdd (lSy 10) (lAdd (lSc (-1) (lSy 5)) (lK 1))), .inl (lAdd (lSc (-1) (lSy 10)) (lAdd (lSy 5) (lK (-1)))), .inr (.inl (0, (lAdd (lSy 5) (lK (-1))))), .inr (.inl (1004, (lAdd (lSc (-1) (lSy 10)) (lAdd (lSy 5) (lK (-2)))))), .inr (.inr (33, [])), .inr (.inl (2006, lK 0))] = true := by decide +kernel
set_option maxRecDepth 1000000 in
theorem rlE23q : wEdQ lwTch 43 x_KT x_tb x_tyl x_ov0 u_ct u_hs x_knd lwFR lwGA lwGB 6 30 44 rlWA23 rlWB23 8000 1 60 15 1 60 183 rl_op8 [] (rlo23.map (wNo [1, 0, 37])) = true := by decide +kernel
theorem rlE23 : wEd x_KT x_tb x_tyl x_ov0 u_ct u_hs x_knd lwFR lwGA lwGB 6 30 44 rlWA23 rlWB23 8000 1 60 15 1 60 183 rl_op8 [] (rlo23.map (wNo [1, 0, 37])) = true := wEdQ_ok lwTchOk rlE23q
set_option maxRecDepth 1000000 in
theorem rlE23R1 : wRkE x_KT x_tb x_tyl x_ov0 u_ct u_hs x_knd lwFR lwGA lwGB rlVA23_1 rlVB23_1 8000 1 60 15 1 60 183 (rlo23.map (wNo [1, 0, 37])) rl_op8 lwF1 [.inl (lAdd (lSc (-1) (lSy 10)) (lAdd (lSy 3) (lK (-1)))), .inr (.inr (27, [(lSy 10)])), .inr (.inr (26, [(lSy 10), (lSy 3)])), .inr (.inr (1, []))] = true := by decide +kernel
set_option maxRecDepth 1000000 in
theorem rlE23R0 : wRkE x_KT x_tb x_tyl x_ov0 u_ct u_hs x_knd lwFR lwGA lwGB rlVA23_0 rlVB23_0 8000 1 60 15 1 60 183 (rlo23.map (wNo [1, 0, 37])) rl_op8 lwF0 [.inl (lAdd (lSc (-1) (lSy 10)) (lAdd (lSy 3) (lK (-1)))), .inr (.inr (27, [(lSy 10)])), .inr (.inr (26, [(lSy 10), (lSy 3)])), .inr (.inr (0, []))] = true := by decide +kernel
set_option maxRecDepth 1000000 in
theorem rlE23R37 : wRkE x_KT x_tb x_tyl x_ov0 u_ct u_hs x_knd lwFR lwGA lwGB rlVA23_37 rlVB23_37 8000 1 60 15 1 60 183 (rlo23.map (wNo [1, 0, 37])) rl_op8 lwF37 [.inl (lAdd (lSy 10) (lAdd (lSc (-1) (lSy 5)) (lK 1))), .inl (lAdd (lSc (-1) (lSy 10)) (lAdd (lSy 5) (lK (-1)))), .inr (.inl (0, (lAdd (lSy 5) (lK (-1))))), .inr (.inl (1004, (lAdd (lSc (-1) (lSy 10)) (lAdd (lSy 5) (lK (-2)))))), .inr (.inr (33, [])), .inr (.inl (2006, lK 0))] = true := by decide +kernel
set_option maxRecDepth 1000000 in
theorem rlE24q : wEdQ lwTch 43 x_KT x_tb x_tyl x_ov0 u_ct u_hs x_knd lwFR lwGA lwGB 6 30 44 rlWA24 rlWB24 8000 1 60 15 1 60 183 rl_op9 [] (rlo24.map (wNo [1, 0, 37])) = true := by decide +kernel
theorem rlE24 : wEd x_KT x_tb x_tyl x_ov0 u_ct u_hs x_knd lwFR lwGA lwGB 6 30 44 rlWA24 rlWB24 8000 1 60 15 1 60 183 rl_op9 [] (rlo24.map (wNo [1, 0, 37])) = true := wEdQ_ok lwTchOk rlE24q
set_option maxRecDepth 1000000 in
theorem rlE24R1 : wRkE x_KT x_tb x_tyl x_ov0 u_ct u_hs x_knd lwFR lwGA lwGB rlVA24_1 rlVB24_1 8000 1 60 15 1 60 183 (rlo24.map (wNo [1, 0, 37])) rl_op9 lwF1 [.inl (lAdd (lSc (-1) (lSy 10)) (lAdd (lSy 3) (lK (-1)))), .inr (.inr (27, [(lSy 10)])), .inr (.inr (26, [(lSy 10), (lSy 3)])), .inr (.inr (1, []))] = true := by decide +kernel
set_option maxRecDepth 1000000 in
theorem rlE24R0 : wRkE x_KT x_tb x_tyl x_ov0 u_ct u_hs x_knd lwFR lwGA lwGB rlVA24_0 rlVB24_0 8000 1 60 15 1 60 183 (rlo24.map (wNo [1, 0, 37])) rl_op9 lwF0 [.inl (lAdd (lSc (-1) (lSy 10)) (lAdd (lSy 3) (lK (-1)))), .inr (.inr (27, [(lSy 10)])), .inr (.inr (26, [(lSy 10), (lSy 3)])), .inr (.inr (0, []))] = true := by decide +kernel
set_option maxRecDepth 1000000 in
theorem rlE24R37 : wRkE x_KT x_tb x_tyl x_ov0 u_ct u_hs x_knd lwFR lwGA lwGB rlVA24_37 rlVB24_37 8000 1 60 15 1 60 183 (rlo24.map (wNo [1, 0, 37])) rl_op9 lwF37 [.inl (lAdd (lSy 10) (lAdd (lSc (-1) (lSy 5)) (lK 1))), .inl (lAdd (lSc (-1) (lSy 10)) (lAdd (lSy 5) (lK (-1)))), .inr (.inl (0, (lAdd (lSy 5) (lK (-1))))), .inr (.inl (1004, (lAdd (lSc (-1) (lSy 10)) (lAdd (lSy 5) (lK (-2)))))), .inr (.inr (33, [])), .inr (.inl (2006, lK 0))] = true := by decide +kernel
set_option maxRecDepth 1000000 in
theorem rlE25q : wEdQ lwTch 43 x_KT x_tb x_tyl x_ov0 u_ct u_hs x_knd lwFR lwGA lwGB 6 30 44 rlWA25 rlWB25 8000 1 60 15 1 60 183 rl_op10 [] (rlo25.map (wNo [1, 0, 37])) = true := by decide +kernel
theorem rlE25 : wEd x_KT x_tb x_tyl x_ov0 u_ct u_hs x_knd lwFR lwGA lwGB 6 30 44 rlWA25 rlWB25 8000 1 60 15 1 60 183 rl_op10 [] (rlo25.map (wNo [1, 0, 37])) = true := wEdQ_ok lwTchOk rlE25q
set_option maxRecDepth 1000000 in
theorem rlE25R1 : wRkE x_KT x_tb x_tyl x_ov0 u_ct u_hs x_knd lwFR lwGA lwGB rlVA25_1 rlVB25_1 8000 1 60 15 1 60 183 (rlo25.map (wNo [1, 0, 37])) rl_op10 lwF1 [.inl (lAdd (lSc (-1) (lSy 10)) (lAdd (lSy 3) (lK (-1)))), .inr (.inr (27, [(lSy 10)])), .inr (.inr (26, [(lSy 10), (lSy 3)])), .inr (.inr (1, []))] = true := by decide +kernel
set_option maxRecDepth 1000000 in
theorem rlE25R0 : wRkE x_KT x_tb x_tyl x_ov0 u_ct u_hs x_knd lwFR lwGA lwGB rlVA25_0 rlVB25_0 8000 1 60 15 1 60 183 (rlo25.map (wNo [1, 0, 37])) rl_op10 lwF0 [.inl (lAdd (lSc (-1) (lSy 10)) (lAdd (lSy 3) (lK (-1)))), .inr (.inr (27, [(lSy 10)])), .inr (.inr (26, [(lSy 10), (lSy 3)])), .inr (.inr (0, []))] = true := by decide +kernel
set_option maxRecDepth 1000000 in
theorem rlE25R37 : wRkE x_KT x_tb x_tyl x_ov0 u_ct u_hs x_knd lwFR lwGA lwGB rlVA25_37 rlVB25_37 8000 1 60 15 1 60 183 (rlo25.map (wNo [1, 0, 37])) rl_op10 lwF37 [.inl (lAdd (lSy 10) (lAdd (lSc (-1) (lSy 5)) (lK 1))), .inl (lAdd (lSc (-1) (lSy 10)) (lAdd (lSy 5) (lK (-1)))), .inr (.inl (0, (lAdd (lSy 5) (lK (-1))))), .inr (.inl (1004, (lAdd (lSc (-1) (lSy 10)) (lAdd (lSy 5) (lK (-2)))))), .inr (.inr (33, [])), .inr (.inl (2006, lK 0))] = true := by decide +kernel
set_option maxRecDepth 1000000 in
theorem rlE26q : wEdQ lwTch 43 x_KT x_tb x_tyl x_ov0 u_ct u_hs x_knd lwFR lwGA lwGB 6 30 44 rlWA26 rlWB26 8000 1 60 15 1 60 183 rl_op11 [] (rlo26.map (wNo [1, 0, 37])) = true := by decide +kernel
theorem rlE26 : wEd x_KT x_tb x_tyl x_ov0 u_ct u_hs x_knd lwFR lwGA lwGB 6 30 44 rlWA26 rlWB26 8000 1 60 15 1 60 183 rl_op11 [] (rlo26.map (wNo [1, 0, 37])) = true := wEdQ_ok lwTchOk rlE26q
set_option maxRecDepth 1000000 in
theorem rlE26R1 : wRkE x_KT x_tb x_tyl x_ov0 u_ct u_hs x_knd lwFR lwGA lwGB rlVA26_1 rlVB26_1 8000 1 60 15 1 60 183 (rlo26.map (wNo [1, 0, 37])) rl_op11 lwF1 [.inl (lAdd (lSc (-1) (lSy 10)) (lAdd (lSy 3) (lK (-1)))), .inr (.inr (27, [(lSy 10)])), .inr (.inr (26, [(lSy 10), (lSy 3)])), .inr (.inr (1, []))] = true := by decide +kernel
set_option maxRecDepth 1000000 in
theorem rlE26R0 : wRkE x_KT x_tb x_tyl x_ov0 u_ct u_hs x_knd lwFR lwGA lwGB rlVA26_0 rlVB26_0 8000 1 60 15 1 60 183 (rlo26.map (wNo [1, 0, 37])) rl_op11 lwF0 [.inl (lAdd (lSc (-1) (lSy 10)) (lAdd (lSy 3) (lK (-1)))), .inr (.inr (27, [(lSy 10)])), .inr (.inr (26, [(lSy 10), (lSy 3)])), .inr (.inr (0, []))] = true := by decide +kernel
set_option maxRecDepth 1000000 in
theorem rlE26R37 : wRkE x_KT x_tb x_tyl x_ov0 u_ct u_hs x_knd lwFR lwGA lwGB rlVA26_37 rlVB26_37 8000 1 60 15 1 60 183 (rlo26.map (wNo [1, 0, 37])) rl_op11 lwF37 [.inl (lAdd (lSy 10) (lAdd (lSc (-1) (lSy 5)) (lK 1))), .inl (lAdd (lSc (-1) (lSy 10)) (lAdd (lSy 5) (lK (-1)))), .inr (.inl (0, (lAdd (lSy 5) (lK (-1))))), .inr (.inl (1004, (lAdd (lSc (-1) (lSy 10)) (lAdd (lSy 5) (lK (-2)))))), .inr (.inr (33, [])), .inr (.inl (2006, lK 0))] = true := by decide +kernel
set_option maxRecDepth 1000000 in
theorem feedE0q : wEdQ lwTch 43 x_KT x_tb x_tyl x_ov0 u_ct u_hs x_knd lwFR lwGA lwGB 5 25 43 feedWA0 feedWB0 8000 0 60 11 0 60 180 feed_in [.inl (lSy 6), .inl (lAdd (lSy 6) (lK (-1))), .inl (lAdd (lSy 6) (lK (-2))), .inl (lAdd (lSy 6) (lK (-3))), .inl (lAdd (lSy 6) (lK (-4))), .inl (lAdd (lSc (-1) (lSy 6)) (lK 4)), .inl (lAdd (lSc (-1) (lSy 6)) (lAdd (lSc (-1) (lSy 4)) (lK 160)))] feedo0 = true := by decide +kernel
theorem feedE0 : wEd x_KT x_tb x_tyl x_ov0 u_ct u_hs x_knd lwFR lwGA lwGB 5 25 43 feedWA0 feedWB0 8000 0 60 11 0 60 180 feed_in [.inl (lSy 6), .inl (lAdd (lSy 6) (lK (-1))), .inl (lAdd (lSy 6) (lK (-2))), .inl (lAdd (lSy 6) (lK (-3))), .inl (lAdd (lSy 6) (lK (-4))), .inl (lAdd (lSc (-1) (lSy 6)) (lK 4)), .inl (lAdd (lSc (-1) (lSy 6)) (lAdd (lSc (-1) (lSy 4)) (lK 160)))] feedo0 = true := wEdQ_ok lwTchOk feedE0q
set_option maxRecDepth 1000000 in
theorem feedE1q : wEdQ lwTch 43 x_KT x_tb x_tyl x_ov0 u_ct u_hs x_knd lwFR lwGA lwGB 5 25 43 feedWA1 feedWB1 8000 1 60 11 1 60 180 feed_lo [] feedo1 = true := by decide +kernel
theorem feedE1 : wEd x_KT x_tb x_tyl x_ov0 u_ct u_hs x_knd lwFR lwGA lwGB 5 25 43 feedWA1 feedWB1 8000 1 60 11 1 60 180 feed_lo [] feedo1 = true := wEdQ_ok lwTchOk feedE1q
set_option maxRecDepth 1000000 in
theorem feedE2q : wEdQ lwTch 43 x_KT x_tb x_tyl x_ov0 u_ct u_hs x_knd lwFR lwGA lwGB 5 25 43 feedWA2 feedWB2 8000 1 60 11 1 60 180 feed_hi [] feedo2 = true := by decide +kernel
theorem feedE2 : wEd x_KT x_tb x_tyl x_ov0 u_ct u_hs x_knd lwFR lwGA lwGB 5 25 43 feedWA2 feedWB2 8000 1 60 11 1 60 180 feed_hi [] feedo2 = true := wEdQ_ok lwTchOk feedE2q
set_option maxRecDepth 1000000 in
theorem feedE3q : wEdQ lwTch 43 x_KT x_tb x_tyl x_ov0 u_ct u_hs x_knd lwFR lwGA lwGB 5 25 43 feedWA3 feedWB3 8000 1 60 11 1 60 180 feed_f1 [] feedo3 = true := by decide +kernel
theorem feedE3 : wEd x_KT x_tb x_tyl x_ov0 u_ct u_hs x_knd lwFR lwGA lwGB 5 25 43 feedWA3 feedWB3 8000 1 60 11 1 60 180 feed_f1 [] feedo3 = true := wEdQ_ok lwTchOk feedE3q
set_option maxRecDepth 1000000 in
theorem feedE4q : wEdQ lwTch 43 x_KT x_tb x_tyl x_ov0 u_ct u_hs x_knd lwFR lwGA lwGB 5 25 43 feedWA4 feedWB4 8000 1 60 11 1 60 180 feed_f2 [] feedo4 = true := by decide +kernel
theorem feedE4 : wEd x_KT x_tb x_tyl x_ov0 u_ct u_hs x_knd lwFR lwGA lwGB 5 25 43 feedWA4 feedWB4 8000 1 60 11 1 60 180 feed_f2 [] feedo4 = true := wEdQ_ok lwTchOk feedE4q
set_option maxRecDepth 1000000 in
theorem feedE5q : wEdQ lwTch 43 x_KT x_tb x_tyl x_ov0 u_ct u_hs x_knd lwFR lwGA lwGB 5 25 43 feedWA5 feedWB5 8000 1 60 11 1 60 180 feed_f3 [] feedo5 = true := by decide +kernel
theorem feedE5 : wEd x_KT x_tb x_tyl x_ov0 u_ct u_hs x_knd lwFR lwGA lwGB 5 25 43 feedWA5 feedWB5 8000 1 60 11 1 60 180 feed_f3 [] feedo5 = true := wEdQ_ok lwTchOk feedE5q
set_option maxRecDepth 1000000 in
theorem feedE6q : wEdQ lwTch 43 x_KT x_tb x_tyl x_ov0 u_ct u_hs x_knd lwFR lwGA lwGB 5 25 43 feedWA6 feedWB6 8000 1 60 11 1 60 180 feed_f4 [] feedo6 = true := by decide +kernel
theorem feedE6 : wEd x_KT x_tb x_tyl x_ov0 u_ct u_hs x_knd lwFR lwGA lwGB 5 25 43 feedWA6 feedWB6 8000 1 60 11 1 60 180 feed_f4 [] feedo6 = true := wEdQ_ok lwTchOk feedE6q
set_option maxRecDepth 1000000 in
theorem feedE7q : wEdQ lwTch 43 x_KT x_tb x_tyl x_ov0 u_ct u_hs x_knd lwFR lwGA lwGB 5 25 43 feedWA7 feedWB7 8000 1 60 11 1 60 180 feed_m0 [] feedo7 = true := by decide +kernel
theorem feedE7 : wEd x_KT x_tb x_tyl x_ov0 u_ct u_hs x_knd lwFR lwGA lwGB 5 25 43 feedWA7 feedWB7 8000 1 60 11 1 60 180 feed_m0 [] feedo7 = true := wEdQ_ok lwTchOk feedE7q
set_option maxRecDepth 1000000 in
theorem feedE8q : wEdQ lwTch 43 x_KT x_tb x_tyl x_ov0 u_ct u_hs x_knd lwFR lwGA lwGB 5 25 43 feedWA8 feedWB8 8000 1 60 11 1 60 180 feed_m1 [] (feedo8.map (wNo [25])) = true := by decide +kernel
theorem feedE8 : wEd x_KT x_tb x_tyl x_ov0 u_ct u_hs x_knd lwFR lwGA lwGB 5 25 43 feedWA8 feedWB8 8000 1 60 11 1 60 180 feed_m1 [] (feedo8.map (wNo [25])) = true := wEdQ_ok lwTchOk feedE8q
set_option maxRecDepth 1000000 in
theorem feedE8R25 : wRkE x_KT x_tb x_tyl x_ov0 u_ct u_hs x_knd lwFR lwGA lwGB feedVA8_25 feedVB8_25 8000 1 60 11 1 60 180 (feedo8.map (wNo [25])) feed_m1 lwF25 [.inl (lAdd (lSy 6) (lSc (-1) (lSy 4))), .inl (lAdd (lSy 6) (lAdd (lSc (-1) (lSy 4)) (lK (-1)))), .inr (.inl (0, (lSy 4))), .inr (.inr (25, []))] = true := by decide +kernel
set_option maxRecDepth 1000000 in
theorem feedE9q : wEdQ lwTch 43 x_KT x_tb x_tyl x_ov0 u_ct u_hs x_knd lwFR lwGA lwGB 5 25 43 feedWA9 feedWB9 8000 1 60 11 1 60 180 feed_m2 [] (feedo9.map (wNo [25])) = true := by decide +kernel
theorem feedE9 : wEd x_KT x_tb x_tyl x_ov0 u_ct u_hs x_knd lwFR lwGA lwGB 5 25 43 feedWA9 feedWB9 8000 1 60 11 1 60 180 feed_m2 [] (feedo9.map (wNo [25])) = true := wEdQ_ok lwTchOk feedE9q
set_option maxRecDepth 1000000 in
theorem feedE9R25 : wRkE x_KT x_tb x_tyl x_ov0 u_ct u_hs x_knd lwFR lwGA lwGB feedVA9_25 feedVB9_25 8000 1 60 11 1 60 180 (feedo9.map (wNo [25])) feed_m2 lwF25 [.inl (lAdd (lSy 6) (lSc (-1) (lSy 4))), .inl (lAdd (lSy 6) (lAdd (lSc (-1) (lSy 4)) (lK (-1)))), .inl (lAdd (lSy 6) (lAdd (lSc (-1) (lSy 4)) (lK (-2)))), .inr (.inl (0, (lSy 4))), .inr (.inl (0, (lAdd (lSy 4) (lK 1)))), .inr (.inr (25, []))] = true := by decide +kernel
end XRuC16
