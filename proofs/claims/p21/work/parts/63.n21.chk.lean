/-! Runs: checks, 21. -/
noncomputable section XRuC21
set_option maxRecDepth 1000000 in
theorem st1E6R35 : wRkE x_KT x_tb x_tyl x_ov0 u_ct u_hs x_knd lwFR lwGA lwGB st1VA6_35 st1VB6_35 8000 1 60 69 1 60 205 (st1o6.map (wNo [38, 39, 40, 41, 42, 35, 36])) st1_L2 lwF35 [.inr (.inr (4, [(lSy 34)])), .inl (lAdd (lSc (-1) (lSy 35)) (lAdd (lSy 3) (lK (-1)))), .inr (.inr (7, [(lSy 35), (lSy 36)])), .inr (.inl (2008, lK 0))] = true := by decide +kernel
set_option maxRecDepth 1000000 in
theorem st1E6R36 : wRkE x_KT x_tb x_tyl x_ov0 u_ct u_hs x_knd lwFR lwGA lwGB st1VA6_36 st1VB6_36 8000 1 60 69 1 60 205 (st1o6.map (wNo [38, 39, 40, 41, 42, 35, 36])) st1_L2 lwF36 [.inr (.inr (4, [(lSy 34)])), .inl (lAdd (lSc (-1) (lSy 35)) (lAdd (lSy 3) (lK (-1)))), .inr (.inr (8, [(lSy 35), (lSy 36)])), .inr (.inl (2008, lK 0))] = true := by decide +kernel
set_option maxRecDepth 1000000 in
theorem st1E7q : wEdQ lwTch 43 x_KT x_tb x_tyl x_ov0 u_ct u_hs x_knd lwFR lwGA lwGB 34 42 44 st1WA7 st1WB7 8000 1 60 69 1 60 205 st1_M22 [] st1o7 = true := by decide +kernel
theorem st1E7 : wEd x_KT x_tb x_tyl x_ov0 u_ct u_hs x_knd lwFR lwGA lwGB 34 42 44 st1WA7 st1WB7 8000 1 60 69 1 60 205 st1_M22 [] st1o7 = true := wEdQ_ok lwTchOk st1E7q
set_option maxRecDepth 1000000 in
theorem st1E8q : wEdQ lwTch 43 x_KT x_tb x_tyl x_ov0 u_ct u_hs x_knd lwFR lwGA lwGB 34 42 44 st1WA8 st1WB8 8000 1 60 69 1 60 205 st1_F2 [] st1o8 = true := by decide +kernel
theorem st1E8 : wEd x_KT x_tb x_tyl x_ov0 u_ct u_hs x_knd lwFR lwGA lwGB 34 42 44 st1WA8 st1WB8 8000 1 60 69 1 60 205 st1_F2 [] st1o8 = true := wEdQ_ok lwTchOk st1E8q
set_option maxRecDepth 1000000 in
theorem st1E9q : wEdQ lwTch 43 x_KT x_tb x_tyl x_ov0 u_ct u_hs x_knd lwFR lwGA lwGB 34 42 44 st1WA9 st1WB9 8000 1 60 69 1 60 205 st1_op2i [] st1o9 = true := by decide +kernel
theorem st1E9 : wEd x_KT x_tb x_tyl x_ov0 u_ct u_hs x_knd lwFR lwGA lwGB 34 42 44 st1WA9 st1WB9 8000 1 60 69 1 60 205 st1_op2i [] st1o9 = true := wEdQ_ok lwTchOk st1E9q
set_option maxRecDepth 1000000 in
theorem st1E10q : wEdQ lwTch 43 x_KT x_tb x_tyl x_ov0 u_ct u_hs x_knd lwFR lwGA lwGB 34 42 44 st1WA10 st1WB10 8000 1 60 69 1 60 205 st1_L2i [.inr (.inr (4, [(lSy 34)]))] (st1o10.map (wNo [38, 39, 40, 41, 42, 35, 36])) = true := by decide +kernel
theorem st1E10 : wEd x_KT x_tb x_tyl x_ov0 u_ct u_hs x_knd lwFR lwGA lwGB 34 42 44 st1WA10 st1WB10 8000 1 60 69 1 60 205 st1_L2i [.inr (.inr (4, [(lSy 34)]))] (st1o10.map (wNo [38, 39, 40, 41, 42, 35, 36])) = true := wEdQ_ok lwTchOk st1E10q
set_option maxRecDepth 1000000 in
theorem st1E10R38 : wRkE x_KT x_tb x_tyl x_ov0 u_ct u_hs x_knd lwFR lwGA lwGB st1VA10_38 st1VB10_38 8000 1 60 69 1 60 205 (st1o10.map (wNo [38, 39, 40, 41, 42, 35, 36])) st1_L2i lwF38 [.inr (.inr (4, [(lSy 34)])), .inr (.inr (9, [(lSy 35)])), .inr (.inl (2008, lK 0))] = true := by decide +kernel
set_option maxRecDepth 1000000 in
theorem st1E10R39 : wRkE x_KT x_tb x_tyl x_ov0 u_ct u_hs x_knd lwFR lwGA lwGB st1VA10_39 st1VB10_39 8000 1 60 69 1 60 205 (st1o10.map (wNo [38, 39, 40, 41, 42, 35, 36])) st1_L2i lwF39 [.inr (.inr (4, [(lSy 34)])), .inl (lAdd (lSy 35) (lSc (-1) (lSy 29))), .inl (lAdd (lSc (-1) (lSy 35)) (lSy 29)), .inr (.inl (0, (lSy 29))), .inr (.inr (10, [])), .inr (.inl (2008, lK 0))] = true := by decide +kernel
set_option maxRecDepth 1000000 in
theorem st1E10R40 : wRkE x_KT x_tb x_tyl x_ov0 u_ct u_hs x_knd lwFR lwGA lwGB st1VA10_40 st1VB10_40 8000 1 60 69 1 60 205 (st1o10.map (wNo [38, 39, 40, 41, 42, 35, 36])) st1_L2i lwF40 [.inr (.inr (4, [(lSy 34)])), .inl (lAdd (lSc (-1) (lSy 35)) (lAdd (lSy 3) (lK (-1)))), .inr (.inr (11, [(lSy 35), (lSy 36)])), .inr (.inl (2008, lK 0))] = true := by decide +kernel
set_option maxRecDepth 1000000 in
theorem st1E10R41 : wRkE x_KT x_tb x_tyl x_ov0 u_ct u_hs x_knd lwFR lwGA lwGB st1VA10_41 st1VB10_41 8000 1 60 69 1 60 205 (st1o10.map (wNo [38, 39, 40, 41, 42, 35, 36])) st1_L2i lwF41 [.inr (.inr (4, [(lSy 34)])), .inl (lAdd (lSc (-1) (lSy 35)) (lAdd (lSy 3) (lK (-1)))), .inr (.inr (12, [(lSy 35), (lSy 36)])), .inr (.inl (2008, lK 0))] = true := by decide +kernel
set_option maxRecDepth 1000000 in
theorem st1E10R42 : wRkE x_KT x_tb x_tyl x_ov0 u_ct u_hs x_knd lwFR lwGA lwGB st1VA10_42 st1VB10_42 8000 1 60 69 1 60 205 (st1o10.map (wNo [38, 39, 40, 41, 42, 35, 36])) st1_L2i lwF42 [.inr (.inr (4, [(lSy 34)])), .inl (lAdd (lSc (-1) (lSy 35)) (lAdd (lSy 3) (lK (-1)))), .inr (.inr (13, [(lSy 35), (lSy 36)])), .inr (.inl (2008, lK 0))] = true := by decide +kernel
set_option maxRecDepth 1000000 in
theorem st1E10R35 : wRkE x_KT x_tb x_tyl x_ov0 u_ct u_hs x_knd lwFR lwGA lwGB st1VA10_35 st1VB10_35 8000 1 60 69 1 60 205 (st1o10.map (wNo [38, 39, 40, 41, 42, 35, 36])) st1_L2i lwF35 [.inr (.inr (4, [(lSy 34)])), .inl (lAdd (lSc (-1) (lSy 35)) (lAdd (lSy 3) (lK (-1)))), .inr (.inr (7, [(lSy 35), (lSy 36)])), .inr (.inl (2008, lK 0))] = true := by decide +kernel
set_option maxRecDepth 1000000 in
theorem st1E10R36 : wRkE x_KT x_tb x_tyl x_ov0 u_ct u_hs x_knd lwFR lwGA lwGB st1VA10_36 st1VB10_36 8000 1 60 69 1 60 205 (st1o10.map (wNo [38, 39, 40, 41, 42, 35, 36])) st1_L2i lwF36 [.inr (.inr (4, [(lSy 34)])), .inl (lAdd (lSc (-1) (lSy 35)) (lAdd (lSy 3) (lK (-1)))), .inr (.inr (8, [(lSy 35), (lSy 36)])), .inr (.inl (2008, lK 0))] = true := by decide +kernel
set_option maxRecDepth 1000000 in
theorem st1E11q : wEdQ lwTch 43 x_KT x_tb x_tyl x_ov0 u_ct u_hs x_knd lwFR lwGA lwGB 34 42 44 st1WA11 st1WB11 8000 1 60 69 1 60 205 st1_M22i [] st1o11 = true := by decide +kernel
theorem st1E11 : wEd x_KT x_tb x_tyl x_ov0 u_ct u_hs x_knd lwFR lwGA lwGB 34 42 44 st1WA11 st1WB11 8000 1 60 69 1 60 205 st1_M22i [] st1o11 = true := wEdQ_ok lwTchOk st1E11q
set_option maxRecDepth 1000000 in
theorem st1E12q : wEdQ lwTch 43 x_KT x_tb x_tyl x_ov0 u_ct u_hs x_knd lwFR lwGA lwGB 34 42 44 st1WA12 st1WB12 8000 1 60 69 1 60 205 st1_F2i [] st1o12 = true := by decide +kernel
theorem st1E12 : wEd x_KT x_tb x_tyl x_ov0 u_ct u_hs x_knd lwFR lwGA lwGB 34 42 44 st1WA12 st1WB12 8000 1 60 69 1 60 205 st1_F2i [] st1o12 = true := wEdQ_ok lwTchOk st1E12q
set_option maxRecDepth 1000000 in
theorem st1E13q : wEdQ lwTch 43 x_KT x_tb x_tyl x_ov0 u_ct u_hs x_knd lwFR lwGA lwGB 34 42 44 st1WA13 st1WB13 8000 1 60 69 1 60 205 st1_op9 [] st1o13 = true := by decide +kernel
theorem st1E13 : wEd x_KT x_tb x_tyl x_ov0 u_ct u_hs x_knd lwFR lwGA lwGB 34 42 44 st1WA13 st1WB13 8000 1 60 69 1 60 205 st1_op9 [] st1o13 = true := wEdQ_ok lwTchOk st1E13q
set_option maxRecDepth 1000000 in
theorem st1E14q : wEdQ lwTch 43 x_KT x_tb x_tyl x_ov0 u_ct u_hs x_knd lwFR lwGA lwGB 34 42 44 st1WA14 st1WB14 8000 1 60 69 1 60 205 st1_op10 [] st1o14 = true := by decide +kernel
theorem st1E14 : wEd x_KT x_tb x_tyl x_ov0 u_ct u_hs x_knd lwFR lwGA lwGB 34 42 44 st1WA14 st1WB14 8000 1 60 69 1 60 205 st1_op10 [] st1o14 = true := wEdQ_ok lwTchOk st1E14q
set_option maxRecDepth 1000000 in
theorem st1E15q : wEdQ lwTch 43 x_KT x_tb x_tyl x_ov0 u_ct u_hs x_knd lwFR lwGA lwGB 34 42 44 st1WA15 st1WB15 8000 1 60 69 1 60 205 st1_op0 [] st1o15 = true := by decide +kernel
theorem st1E15 : wEd x_KT x_tb x_tyl x_ov0 u_ct u_hs x_knd lwFR lwGA lwGB 34 42 44 st1WA15 st1WB15 8000 1 60 69 1 60 205 st1_op0 [] st1o15 = true := wEdQ_ok lwTchOk st1E15q
set_option maxRecDepth 1000000 in
theorem st1E16q : wEdQ lwTch 43 x_KT x_tb x_tyl x_ov0 u_ct u_hs x_knd lwFR lwGA lwGB 34 42 44 st1WA16 st1WB16 8000 1 60 69 1 60 205 st1_L0 [] (st1o16.map (wNo [34, 33])) = true := by decide +kernel
theorem st1E16 : wEd x_KT x_tb x_tyl x_ov0 u_ct u_hs x_knd lwFR lwGA lwGB 34 42 44 st1WA16 st1WB16 8000 1 60 69 1 60 205 st1_L0 [] (st1o16.map (wNo [34, 33])) = true := wEdQ_ok lwTchOk st1E16q
set_option maxRecDepth 1000000 in
theorem st1E17q : wEdQ lwTch 43 x_KT x_tb x_tyl x_ov0 u_ct u_hs x_knd lwFR lwGA lwGB 34 42 44 st1WA17 st1WB17 8000 1 60 69 1 60 205 st1_op1 [] st1o17 = true := by decide +kernel
theorem st1E17 : wEd x_KT x_tb x_tyl x_ov0 u_ct u_hs x_knd lwFR lwGA lwGB 34 42 44 st1WA17 st1WB17 8000 1 60 69 1 60 205 st1_op1 [] st1o17 = true := wEdQ_ok lwTchOk st1E17q
set_option maxRecDepth 1000000 in
theorem st1E18q : wEdQ lwTch 43 x_KT x_tb x_tyl x_ov0 u_ct u_hs x_knd lwFR lwGA lwGB 34 42 44 st1WA18 st1WB18 8000 1 60 69 1 60 205 st1_F1 [] st1o18 = true := by decide +kernel
theorem st1E18 : wEd x_KT x_tb x_tyl x_ov0 u_ct u_hs x_knd lwFR lwGA lwGB 34 42 44 st1WA18 st1WB18 8000 1 60 69 1 60 205 st1_F1 [] st1o18 = true := wEdQ_ok lwTchOk st1E18q
set_option maxRecDepth 1000000 in
theorem st1E19q : wEdQ lwTch 43 x_KT x_tb x_tyl x_ov0 u_ct u_hs x_knd lwFR lwGA lwGB 34 42 44 st1WA19 st1WB19 8000 1 60 69 0 60 205 st1_M1 [] st1o19 = true := by decide +kernel
theorem st1E19 : wEd x_KT x_tb x_tyl x_ov0 u_ct u_hs x_knd lwFR lwGA lwGB 34 42 44 st1WA19 st1WB19 8000 1 60 69 0 60 205 st1_M1 [] st1o19 = true := wEdQ_ok lwTchOk st1E19q
set_option maxRecDepth 1000000 in
theorem st1E20q : wEdQ lwTch 43 x_KT x_tb x_tyl x_ov0 u_ct u_hs x_knd lwFR lwGA lwGB 34 42 44 st1WA20 st1WB20 8000 1 60 69 1 60 205 st1_L1 [.inr (.inr (8, [(lSy 6), (lSy 27)])), .inr (.inl (2008, lK 0))] (st1o20.map (wNo [34, 33])) = true := by decide +kernel
theorem st1E20 : wEd x_KT x_tb x_tyl x_ov0 u_ct u_hs x_knd lwFR lwGA lwGB 34 42 44 st1WA20 st1WB20 8000 1 60 69 1 60 205 st1_L1 [.inr (.inr (8, [(lSy 6), (lSy 27)])), .inr (.inl (2008, lK 0))] (st1o20.map (wNo [34, 33])) = true := wEdQ_ok lwTchOk st1E20q
set_option maxRecDepth 1000000 in
theorem st1E21q : wEdQ lwTch 43 x_KT x_tb x_tyl x_ov0 u_ct u_hs x_knd lwFR lwGA lwGB 34 42 44 st1WA21 st1WB21 8000 1 60 69 1 60 205 st1_op3 [] st1o21 = true := by decide +kernel
theorem st1E21 : wEd x_KT x_tb x_tyl x_ov0 u_ct u_hs x_knd lwFR lwGA lwGB 34 42 44 st1WA21 st1WB21 8000 1 60 69 1 60 205 st1_op3 [] st1o21 = true := wEdQ_ok lwTchOk st1E21q
set_option maxRecDepth 1000000 in
theorem st1E22q : wEdQ lwTch 43 x_KT x_tb x_tyl x_ov0 u_ct u_hs x_knd lwFR lwGA lwGB 34 42 44 st1WA22 st1WB22 8000 1 60 69 1 60 205 st1_L3 [] (st1o22.map (wNo [34, 33])) = true := by decide +kernel
theorem st1E22 : wEd x_KT x_tb x_tyl x_ov0 u_ct u_hs x_knd lwFR lwGA lwGB 34 42 44 st1WA22 st1WB22 8000 1 60 69 1 60 205 st1_L3 [] (st1o22.map (wNo [34, 33])) = true := wEdQ_ok lwTchOk st1E22q
set_option maxRecDepth 1000000 in
theorem st1E23q : wEdQ lwTch 43 x_KT x_tb x_tyl x_ov0 u_ct u_hs x_knd lwFR lwGA lwGB 34 42 44 st1WA23 st1WB23 8000 1 60 69 1 60 205 st1_op4 [] st1o23 = true := by decide +kernel
theorem st1E23 : wEd x_KT x_tb x_tyl x_ov0 u_ct u_hs x_knd lwFR lwGA lwGB 34 42 44 st1WA23 st1WB23 8000 1 60 69 1 60 205 st1_op4 [] st1o23 = true := wEdQ_ok lwTchOk st1E23q
set_option maxRecDepth 1000000 in
theorem st1E24q : wEdQ lwTch 43 x_KT x_tb x_tyl x_ov0 u_ct u_hs x_knd lwFR lwGA lwGB 34 42 44 st1WA24 st1WB24 8000 1 60 69 1 60 205 st1_L4 [.inr (.inr (4, [(lSy 35)]))] (st1o24.map (wNo [34, 33])) = true := by decide +kernel
theorem st1E24 : wEd x_KT x_tb x_tyl x_ov0 u_ct u_hs x_knd lwFR lwGA lwGB 34 42 44 st1WA24 st1WB24 8000 1 60 69 1 60 205 st1_L4 [.inr (.inr (4, [(lSy 35)]))] (st1o24.map (wNo [34, 33])) = true := wEdQ_ok lwTchOk st1E24q
set_option maxRecDepth 1000000 in
theorem st1E25q : wEdQ lwTch 43 x_KT x_tb x_tyl x_ov0 u_ct u_hs x_knd lwFR lwGA lwGB 34 42 44 st1WA25 st1WB25 8000 1 60 69 1 60 205 st1_op5 [] st1o25 = true := by decide +kernel
theorem st1E25 : wEd x_KT x_tb x_tyl x_ov0 u_ct u_hs x_knd lwFR lwGA lwGB 34 42 44 st1WA25 st1WB25 8000 1 60 69 1 60 205 st1_op5 [] st1o25 = true := wEdQ_ok lwTchOk st1E25q
set_option maxRecDepth 1000000 in
theorem st1E26q : wEdQ lwTch 43 x_KT x_tb x_tyl x_ov0 u_ct u_hs x_knd lwFR lwGA lwGB 34 42 44 st1WA26 st1WB26 8000 1 60 69 1 60 205 st1_L5 [.inr (.inr (4, [(lSy 34)])), .inr (.inr (4, [(lSy 35)]))] (st1o26.map (wNo [34, 33])) = true := by decide +kernel
theorem st1E26 : wEd x_KT x_tb x_tyl x_ov0 u_ct u_hs x_knd lwFR lwGA lwGB 34 42 44 st1WA26 st1WB26 8000 1 60 69 1 60 205 st1_L5 [.inr (.inr (4, [(lSy 34)])), .inr (.inr (4, [(lSy 35)]))] (st1o26.map (wNo [34, 33])) = true := wEdQ_ok lwTchOk st1E26q
set_option maxRecDepth 1000000 in
theorem st1E27q : wEdQ lwTch 43 x_KT x_tb x_tyl x_ov0 u_ct u_hs x_knd lwFR lwGA lwGB 34 42 44 st1WA27 st1WB27 8000 1 60 69 1 60 205 st1_op6 [] st1o27 = true := by decide +kernel
theorem st1E27 : wEd x_KT x_tb x_tyl x_ov0 u_ct u_hs x_knd lwFR lwGA lwGB 34 42 44 st1WA27 st1WB27 8000 1 60 69 1 60 205 st1_op6 [] st1o27 = true := wEdQ_ok lwTchOk st1E27q
set_option maxRecDepth 1000000 in
theorem st1E28q : wEdQ lwTch 43 x_KT x_tb x_tyl x_ov0 u_ct u_hs x_knd lwFR lwGA lwGB 34 42 44 st1WA28 st1WB28 8000 1 60 69 1 60 205 st1_L6 [.inr (.inr (4, [(lSy 34)])), .inr (.inr (4, [(lSy 35)]))] (st1o28.map (wNo [34, 33])) = true := by decide +kernel
theorem st1E28 : wEd x_KT x_tb x_tyl x_ov0 u_ct u_hs x_knd lwFR lwGA lwGB 34 42 44 st1WA28 st1WB28 8000 1 60 69 1 60 205 st1_L6 [.inr (.inr (4, [(lSy 34)])), .inr (.inr (4, [(lSy 35)]))] (st1o28.map (wNo [34, 33])) = true := wEdQ_ok lwTchOk st1E28q
set_option maxRecDepth 1000000 in
theorem st1E29q : wEdQ lwTch 43 x_KT x_tb x_tyl x_ov0 u_ct u_hs x_knd lwFR lwGA lwGB 34 42 44 st1WA29 st1WB29 8000 1 60 69 1 60 205 st1_op7 [.inr (.inr (4, [(lSy 34)])), .inr (.inr (4, [(lSy 35)]))] st1o29 = true := by decide +kernel
theorem st1E29 : wEd x_KT x_tb x_tyl x_ov0 u_ct u_hs x_knd lwFR lwGA lwGB 34 42 44 st1WA29 st1WB29 8000 1 60 69 1 60 205 st1_op7 [.inr (.inr (4, [(lSy 34)])), .inr (.inr (4, [(lSy 35)]))] st1o29 = true := wEdQ_ok lwTchOk st1E29q
set_option maxRecDepth 1000000 in
theorem st1E30q : wEdQ lwTch 43 x_KT x_tb x_tyl x_ov0 u_ct u_hs x_knd lwFR lwGA lwGB 34 42 44 st1WA30 st1WB30 8000 1 60 69 1 60 205 st1_op8 [.inr (.inr (4, [(lSy 34)]))] st1o30 = true := by decide +kernel
theorem st1E30 : wEd x_KT x_tb x_tyl x_ov0 u_ct u_hs x_knd lwFR lwGA lwGB 34 42 44 st1WA30 st1WB30 8000 1 60 69 1 60 205 st1_op8 [.inr (.inr (4, [(lSy 34)]))] st1o30 = true := wEdQ_ok lwTchOk st1E30q
set_option maxRecDepth 1000000 in
theorem st1E31q : wEdQ lwTch 43 x_KT x_tb x_tyl x_ov0 u_ct u_hs x_knd lwFR lwGA lwGB 34 42 44 st1WA31 st1WB31 8000 1 60 69 1 60 205 st1_op11 [.inr (.inr (4, [(lSy 34)])), .inr (.inr (4, [(lSy 35)]))] st1o31 = true := by decide +kernel
theorem st1E31 : wEd x_KT x_tb x_tyl x_ov0 u_ct u_hs x_knd lwFR lwGA lwGB 34 42 44 st1WA31 st1WB31 8000 1 60 69 1 60 205 st1_op11 [.inr (.inr (4, [(lSy 34)])), .inr (.inr (4, [(lSy 35)]))] st1o31 = true := wEdQ_ok lwTchOk st1E31q
theorem mrL2 : wRlk 32 42 44 st0WA st0WB mrX2.2.1 mrX2.2.2.1 mrX2.2.2.2.1 mrX2.2.2.2.2 st0_ou = true := by decide +kernel
theorem mrL3 : wRlk 32 42 44 st0WA st0WB mrX3.2.1 mrX3.2.2.1 mrX3.2.2.2.1 mrX3.2.2.2.2 st0_lo = true := by decide +kernel
theorem mrL4 : wRlk 32 42 44 st0WA st0WB mrX4.2.1 mrX4.2.2.1 mrX4.2.2.2.1 mrX4.2.2.2.2 st0_hi = true := by decide +kernel
set_option maxRecDepth 1000000 in
theorem mrE5q : wEdQ lwTch 43 x_KT x_tb x_tyl x_ov0 u_ct u_hs x_knd lwFR lwGA lwGB 11 26 43 mrWA5 mrWB5 8000 1 60 64 1 60 203 mr_T [.inr (.inr (1, [(lSy 6), (lSy 16)])), .inr (.inl (2008, lK 0))] mro5 = true := by decide +kernel
theorem mrE5 : wEd x_KT x_tb x_tyl x_ov0 u_ct u_hs x_knd lwFR lwGA lwGB 11 26 43 mrWA5 mrWB5 8000 1 60 64 1 60 203 mr_T [.inr (.inr (1, [(lSy 6), (lSy 16)])), .inr (.inl (2008, lK 0))] mro5 = true := wEdQ_ok lwTchOk mrE5q
theorem mrL6 : wRlk 34 42 44 st1WA st1WB mrX6.2.1 mrX6.2.2.1 mrX6.2.2.2.1 mrX6.2.2.2.2 st1_ou = true := by decide +kernel
theorem mrL7 : wRlk 34 42 44 st1WA st1WB mrX7.2.1 mrX7.2.2.1 mrX7.2.2.2.1 mrX7.2.2.2.2 st1_ou = true := by decide +kernel
theorem mrL8 : wRlk 34 42 44 st1WA st1WB mrX8.2.1 mrX8.2.2.1 mrX8.2.2.2.1 mrX8.2.2.2.2 st1_ou = true := by decide +kernel
theorem mrL9 : wRlk 34 42 44 st1WA st1WB mrX9.2.1 mrX9.2.2.1 mrX9.2.2.2.1 mrX9.2.2.2.2 st1_gen = true := by decide +kernel
theorem mrL10 : wRlk 34 42 44 st1WA st1WB mrX10.2.1 mrX10.2.2.1 mrX10.2.2.2.1 mrX10.2.2.2.2 st1_gen = true := by decide +kernel
theorem mrL11 : wRlk 34 42 44 st1WA st1WB mrX11.2.1 mrX11.2.2.1 mrX11.2.2.2.1 mrX11.2.2.2.2 st1_gen = true := by decide +kernel
set_option maxRecDepth 1000000 in
theorem mrE12q : wEdQ lwTch 43 x_KT x_tb x_tyl x_ov0 u_ct u_hs x_knd lwFR lwGA lwGB 11 26 43 mrWA12 mrWB12 8000 1 60 64 1 60 203 mr_c0Tou_WR [] mro12 = true := by decide +kernel
theorem mrE12 : wEd x_KT x_tb x_tyl x_ov0 u_ct u_hs x_knd lwFR lwGA lwGB 11 26 43 mrWA12 mrWB12 8000 1 60 64 1 60 203 mr_c0Tou_WR [] mro12 = true := wEdQ_ok lwTchOk mrE12q
set_option maxRecDepth 1000000 in
theorem mrE13q : wEdQ lwTch 43 x_KT x_tb x_tyl x_ov0 u_ct u_hs x_knd lwFR lwGA lwGB 11 26 43 mrWA13 mrWB13 8000 1 60 64 1 60 203 mr_c0Tou_WE [] mro13 = true := by decide +kernel
theorem mrE13 : wEd x_KT x_tb x_tyl x_ov0 u_ct u_hs x_knd lwFR lwGA lwGB 11 26 43 mrWA13 mrWB13 8000 1 60 64 1 60 203 mr_c0Tou_WE [] mro13 = true := wEdQ_ok lwTchOk mrE13q
set_option maxRecDepth 1000000 in
theorem mrE14q : wEdQ lwTch 43 x_KT x_tb x_tyl x_ov0 u_ct u_hs x_knd lwFR lwGA lwGB 11 26 43 mrWA14 mrWB14 8000 1 60 64 1 60 203 mr_c0Tou_WL [] mro14 = true := by decide +kernel
theorem mrE14 : wEd x_KT x_tb x_tyl x_ov0 u_ct u_hs x_knd lwFR lwGA lwGB 11 26 43 mrWA14 mrWB14 8000 1 60 64 1 60 203 mr_c0Tou_WL [] mro14 = true := wEdQ_ok lwTchOk mrE14q
set_option maxRecDepth 1000000 in
theorem mrE15q : wEdQ lwTch 43 x_KT x_tb x_tyl x_ov0 u_ct u_hs x_knd lwFR lwGA lwGB 11 26 43 mrWA15 mrWB15 8000 1 60 64 1 60 203 mr_c0Tou_FU [] mro15 = true := by decide +kernel
theorem mrE15 : wEd x_KT x_tb x_tyl x_ov0 u_ct u_hs x_knd lwFR lwGA lwGB 11 26 43 mrWA15 mrWB15 8000 1 60 64 1 60 203 mr_c0Tou_FU [] mro15 = true := wEdQ_ok lwTchOk mrE15q
set_option maxRecDepth 1000000 in
theorem mrE16q : wEdQ lwTch 43 x_KT x_tb x_tyl x_ov0 u_ct u_hs x_knd lwFR lwGA lwGB 11 26 43 mrWA16 mrWB16 8000 1 60 64 1 60 203 mr_c0Tlo_R [] mro16 = true := by decide +kernel
theorem mrE16 : wEd x_KT x_tb x_tyl x_ov0 u_ct u_hs x_knd lwFR lwGA lwGB 11 26 43 mrWA16 mrWB16 8000 1 60 64 1 60 203 mr_c0Tlo_R [] mro16 = true := wEdQ_ok lwTchOk mrE16q
set_option maxRecDepth 1000000 in
theorem mrE17q : wEdQ lwTch 43 x_KT x_tb x_tyl x_ov0 u_ct u_hs x_knd lwFR lwGA lwGB 11 26 43 mrWA17 mrWB17 8000 1 60 64 1 60 203 mr_c0Tlo_O [] mro17 = true := by decide +kernel
theorem mrE17 : wEd x_KT x_tb x_tyl x_ov0 u_ct u_hs x_knd lwFR lwGA lwGB 11 26 43 mrWA17 mrWB17 8000 1 60 64 1 60 203 mr_c0Tlo_O [] mro17 = true := wEdQ_ok lwTchOk mrE17q
set_option maxRecDepth 1000000 in
theorem mrE18q : wEdQ lwTch 43 x_KT x_tb x_tyl x_ov0 u_ct u_hs x_knd lwFR lwGA lwGB 11 26 43 mrWA18 mrWB18 8000 1 60 64 1 60 203 mr_c0Thi_R [] mro18 = true := by decide +kernel
theorem mrE18 : wEd x_KT x_tb x_tyl x_ov0 u_ct u_hs x_knd lwFR lwGA lwGB 11 26 43 mrWA18 mrWB18 8000 1 60 64 1 60 203 mr_c0Thi_R [] mro18 = true := wEdQ_ok lwTchOk mrE18q
set_option maxRecDepth 1000000 in
theorem mrE19q : wEdQ lwTch 43 x_KT x_tb x_tyl x_ov0 u_ct u_hs x_knd lwFR lwGA lwGB 11 26 43 mrWA19 mrWB19 8000 1 60 64 1 60 203 mr_c0Thi_O [] mro19 = true := by decide +kernel
theorem mrE19 : wEd x_KT x_tb x_tyl x_ov0 u_ct u_hs x_knd lwFR lwGA lwGB 11 26 43 mrWA19 mrWB19 8000 1 60 64 1 60 203 mr_c0Thi_O [] mro19 = true := wEdQ_ok lwTchOk mrE19q
set_option maxRecDepth 1000000 in
theorem mrE20q : wEdQ lwTch 43 x_KT x_tb x_tyl x_ov0 u_ct u_hs x_knd lwFR lwGA lwGB 11 26 43 mrWA20 mrWB20 8000 1 60 64 1 60 203 mr_c1Tir_WRi [.inr (.inl (1001, (lAdd (lSc (-1) (lSy 11)) (lK 148)))), .inr (.inl (2000, lK 0))] mro20 = true := by decide +kernel
theorem mrE20 : wEd x_KT x_tb x_tyl x_ov0 u_ct u_hs x_knd lwFR lwGA lwGB 11 26 43 mrWA20 mrWB20 8000 1 60 64 1 60 203 mr_c1Tir_WRi [.inr (.inl (1001, (lAdd (lSc (-1) (lSy 11)) (lK 148)))), .inr (.inl (2000, lK 0))] mro20 = true := wEdQ_ok lwTchOk mrE20q
set_option maxRecDepth 1000000 in
theorem mrE21q : wEdQ lwTch 43 x_KT x_tb x_tyl x_ov0 u_ct u_hs x_knd lwFR lwGA lwGB 11 26 43 mrWA21 mrWB21 8000 1 60 64 1 60 203 mr_c1Tir_WEi [.inr (.inl (1001, (lAdd (lSc (-1) (lSy 11)) (lK 148)))), .inr (.inl (2000, lK 0))] mro21 = true := by decide +kernel
theorem mrE21 : wEd x_KT x_tb x_tyl x_ov0 u_ct u_hs x_knd lwFR lwGA lwGB 11 26 43 mrWA21 mrWB21 8000 1 60 64 1 60 203 mr_c1Tir_WEi [.inr (.inl (1001, (lAdd (lSc (-1) (lSy 11)) (lK 148)))), .inr (.inl (2000, lK 0))] mro21 = true := wEdQ_ok lwTchOk mrE21q
set_option maxRecDepth 1000000 in
theorem mrE22q : wEdQ lwTch 43 x_KT x_tb x_tyl x_ov0 u_ct u_hs x_knd lwFR lwGA lwGB 11 26 43 mrWA22 mrWB22 8000 1 60 64 1 60 203 mr_c1Tir_WLi [.inr (.inl (1001, (lAdd (lSc (-1) (lSy 11)) (lK 148)))), .inr (.inl (2000, lK 0))] mro22 = true := by decide +kernel
theorem mrE22 : wEd x_KT x_tb x_tyl x_ov0 u_ct u_hs x_knd lwFR lwGA lwGB 11 26 43 mrWA22 mrWB22 8000 1 60 64 1 60 203 mr_c1Tir_WLi [.inr (.inl (1001, (lAdd (lSc (-1) (lSy 11)) (lK 148)))), .inr (.inl (2000, lK 0))] mro22 = true := wEdQ_ok lwTchOk mrE22q
set_option maxRecDepth 1000000 in
theorem mrE23q : wEdQ lwTch 43 x_KT x_tb x_tyl x_ov0 u_ct u_hs x_knd lwFR lwGA lwGB 11 26 43 mrWA23 mrWB23 8000 1 60 64 1 60 203 mr_c1Tir_FUi [.inr (.inl (1001, (lAdd (lSc (-1) (lSy 11)) (lK 148)))), .inr (.inl (2000, lK 0))] mro23 = true := by decide +kernel
theorem mrE23 : wEd x_KT x_tb x_tyl x_ov0 u_ct u_hs x_knd lwFR lwGA lwGB 11 26 43 mrWA23 mrWB23 8000 1 60 64 1 60 203 mr_c1Tir_FUi [.inr (.inl (1001, (lAdd (lSc (-1) (lSy 11)) (lK 148)))), .inr (.inl (2000, lK 0))] mro23 = true := wEdQ_ok lwTchOk mrE23q
set_option maxRecDepth 1000000 in
theorem mrE24q : wEdQ lwTch 43 x_KT x_tb x_tyl x_ov0 u_ct u_hs x_knd lwFR lwGA lwGB 11 26 43 mrWA24 mrWB24 8000 1 60 64 1 60 203 mr_c1Tie_WRi [.inr (.inl (1001, (lAdd (lSc (-1) (lSy 11)) (lK 148)))), .inr (.inl (2000, lK 0))] mro24 = true := by decide +kernel
theorem mrE24 : wEd x_KT x_tb x_tyl x_ov0 u_ct u_hs x_knd lwFR lwGA lwGB 11 26 43 mrWA24 mrWB24 8000 1 60 64 1 60 203 mr_c1Tie_WRi [.inr (.inl (1001, (lAdd (lSc (-1) (lSy 11)) (lK 148)))), .inr (.inl (2000, lK 0))] mro24 = true := wEdQ_ok lwTchOk mrE24q
set_option maxRecDepth 1000000 in
theorem mrE25q : wEdQ lwTch 43 x_KT x_tb x_tyl x_ov0 u_ct u_hs x_knd lwFR lwGA lwGB 11 26 43 mrWA25 mrWB25 8000 1 60 64 1 60 203 mr_c1Tie_WEi [.inr (.inl (1001, (lAdd (lSc (-1) (lSy 11)) (lK 148)))), .inr (.inl (2000, lK 0))] mro25 = true := by decide +kernel
theorem mrE25 : wEd x_KT x_tb x_tyl x_ov0 u_ct u_hs x_knd lwFR lwGA lwGB 11 26 43 mrWA25 mrWB25 8000 1 60 64 1 60 203 mr_c1Tie_WEi [.inr (.inl (1001, (lAdd (lSc (-1) (lSy 11)) (lK 148)))), .inr (.inl (2000, lK 0))] mro25 = true := wEdQ_ok lwTchOk mrE25q
set_option maxRecDepth 1000000 in
theorem mrE26q : wEdQ lwTch 43 x_KT x_tb x_tyl x_ov0 u_ct u_hs x_knd lwFR lwGA lwGB 11 26 43 mrWA26 mrWB26 8000 1 60 64 1 60 203 mr_c1Tie_WLi [.inr (.inl (1001, (lAdd (lSc (-1) (lSy 11)) (lK 148)))), .inr (.inl (2000, lK 0))] mro26 = true := by decide +kernel
theorem mrE26 : wEd x_KT x_tb x_tyl x_ov0 u_ct u_hs x_knd lwFR lwGA lwGB 11 26 43 mrWA26 mrWB26 8000 1 60 64 1 60 203 mr_c1Tie_WLi [.inr (.inl (1001, (lAdd (lSc (-1) (lSy 11)) (lK 148)))), .inr (.inl (2000, lK 0))] mro26 = true := wEdQ_ok lwTchOk mrE26q
set_option maxRecDepth 1000000 in
theorem mrE27q : wEdQ lwTch 43 x_KT x_tb x_tyl x_ov0 u_ct u_hs x_knd lwFR lwGA lwGB 11 26 43 mrWA27 mrWB27 8000 1 60 64 1 60 203 mr_c1Tie_FUi [.inr (.inl (1001, (lAdd (lSc (-1) (lSy 11)) (lK 148)))), .inr (.inl (2000, lK 0))] mro27 = true := by decide +kernel
theorem mrE27 : wEd x_KT x_tb x_tyl x_ov0 u_ct u_hs x_knd lwFR lwGA lwGB 11 26 43 mrWA27 mrWB27 8000 1 60 64 1 60 203 mr_c1Tie_FUi [.inr (.inl (1001, (lAdd (lSc (-1) (lSy 11)) (lK 148)))), .inr (.inl (2000, lK 0))] mro27 = true := wEdQ_ok lwTchOk mrE27q
set_option maxRecDepth 1000000 in
theorem mrE28q : wEdQ lwTch 43 x_KT x_tb x_tyl x_ov0 u_ct u_hs x_knd lwFR lwGA lwGB 11 26 43 mrWA28 mrWB28 8000 1 60 64 1 60 203 mr_c1Til_WRi [.inr (.inl (1001, (lAdd (lSc (-1) (lSy 11)) (lK 148)))), .inr (.inl (2000, lK 0))] mro28 = true := by decide +kernel
theorem mrE28 : wEd x_KT x_tb x_tyl x_ov0 u_ct u_hs x_knd lwFR lwGA lwGB 11 26 43 mrWA28 mrWB28 8000 1 60 64 1 60 203 mr_c1Til_WRi [.inr (.inl (1001, (lAdd (lSc (-1) (lSy 11)) (lK 148)))), .inr (.inl (2000, lK 0))] mro28 = true := wEdQ_ok lwTchOk mrE28q
set_option maxRecDepth 1000000 in
theorem mrE29q : wEdQ lwTch 43 x_KT x_tb x_tyl x_ov0 u_ct u_hs x_knd lwFR lwGA lwGB 11 26 43 mrWA29 mrWB29 8000 1 60 64 1 60 203 mr_c1Til_WEi [.inr (.inl (1001, (lAdd (lSc (-1) (lSy 11)) (lK 148)))), .inr (.inl (2000, lK 0))] mro29 = true := by decide +kernel
theorem mrE29 : wEd x_KT x_tb x_tyl x_ov0 u_ct u_hs x_knd lwFR lwGA lwGB 11 26 43 mrWA29 mrWB29 8000 1 60 64 1 60 203 mr_c1Til_WEi [.inr (.inl (1001, (lAdd (lSc (-1) (lSy 11)) (lK 148)))), .inr (.inl (2000, lK 0))] mro29 = true := wEdQ_ok lwTchOk mrE29q
set_option maxRecDepth 1000000 in
theorem mrE30q : wEdQ lwTch 43 x_KT x_tb x_tyl x_ov0 u_ct u_hs x_knd lwFR lwGA lwGB 11 26 43 mrWA30 mrWB30 8000 1 60 64 1 60 203 mr_c1Til_WLi [.inr (.inl (1001, (lAdd (lSc (-1) (lSy 11)) (lK 148)))), .inr (.inl (2000, lK 0))] mro30 = true := by decide +kernel
theorem mrE30 : wEd x_KT x_tb x_tyl x_ov0 u_ct u_hs x_knd lwFR lwGA lwGB 11 26 43 mrWA30 mrWB30 8000 1 60 64 1 60 203 mr_c1Til_WLi [.inr (.inl (1001, (lAdd (lSc (-1) (lSy 11)) (lK 148)))), .inr (.inl (2000, lK 0))] mro30 = true := wEdQ_ok lwTchOk mrE30q
set_option maxRecDepth 1000000 in
theorem mrE31q : wEdQ lwTch 43 x_KT x_tb x_tyl x_ov0 u_ct u_hs x_knd lwFR lwGA lwGB 11 26 43 mrWA31 mrWB31 8000 1 60 64 1 60 203 mr_c1Til_FUi [.inr (.inl (1001, (lAdd (lSc (-1) (lSy 11)) (lK 148)))), .inr (.inl (2000, lK 0))] mro31 = true := by decide +kernel
theorem mrE31 : wEd x_KT x_tb x_tyl x_ov0 u_ct u_hs x_knd lwFR lwGA lwGB 11 26 43 mrWA31 mrWB31 8000 1 60 64 1 60 203 mr_c1Til_FUi [.inr (.inl (1001, (lAdd (lSc (-1) (lSy 11)) (lK 148)))), .inr (.inl (2000, lK 0))] mro31 = true := wEdQ_ok lwTchOk mrE31q
set_option maxRecDepth 1000000 in
theorem mrE32q : wEdQ lwTch 43 x_KT x_tb x_tyl x_ov0 u_ct u_hs x_knd lwFR lwGA lwGB 11 26 43 mrWA32 mrWB32 8000 1 60 64 1 60 203 mr_c1Tar_R [.inr (.inl (1001, (lAdd (lSc (-1) (lSy 11)) (lK 148)))), .inr (.inl (2000, lK 0))] mro32 = true := by decide +kernel
theorem mrE32 : wEd x_KT x_tb x_tyl x_ov0 u_ct u_hs x_knd lwFR lwGA lwGB 11 26 43 mrWA32 mrWB32 8000 1 60 64 1 60 203 mr_c1Tar_R [.inr (.inl (1001, (lAdd (lSc (-1) (lSy 11)) (lK 148)))), .inr (.inl (2000, lK 0))] mro32 = true := wEdQ_ok lwTchOk mrE32q
set_option maxRecDepth 1000000 in
theorem mrE33q : wEdQ lwTch 43 x_KT x_tb x_tyl x_ov0 u_ct u_hs x_knd lwFR lwGA lwGB 11 26 43 mrWA33 mrWB33 8000 1 60 64 1 60 203 mr_c1Tar_O [.inr (.inl (1001, (lAdd (lSc (-1) (lSy 11)) (lK 148)))), .inr (.inl (2000, lK 0))] mro33 = true := by decide +kernel
theorem mrE33 : wEd x_KT x_tb x_tyl x_ov0 u_ct u_hs x_knd lwFR lwGA lwGB 11 26 43 mrWA33 mrWB33 8000 1 60 64 1 60 203 mr_c1Tar_O [.inr (.inl (1001, (lAdd (lSc (-1) (lSy 11)) (lK 148)))), .inr (.inl (2000, lK 0))] mro33 = true := wEdQ_ok lwTchOk mrE33q
set_option maxRecDepth 1000000 in
theorem mrE34q : wEdQ lwTch 43 x_KT x_tb x_tyl x_ov0 u_ct u_hs x_knd lwFR lwGA lwGB 11 26 43 mrWA34 mrWB34 8000 1 60 64 1 60 203 mr_c1Tar_WR [.inr (.inl (1001, (lAdd (lSc (-1) (lSy 11)) (lK 148)))), .inr (.inl (2000, lK 0))] mro34 = true := by decide +kernel
theorem mrE34 : wEd x_KT x_tb x_tyl x_ov0 u_ct u_hs x_knd lwFR lwGA lwGB 11 26 43 mrWA34 mrWB34 8000 1 60 64 1 60 203 mr_c1Tar_WR [.inr (.inl (1001, (lAdd (lSc (-1) (lSy 11)) (lK 148)))), .inr (.inl (2000, lK 0))] mro34 = true := wEdQ_ok lwTchOk mrE34q
set_option maxRecDepth 1000000 in
theorem mrE35q : wEdQ lwTch 43 x_KT x_tb x_tyl x_ov0 u_ct u_hs x_knd lwFR lwGA lwGB 11 26 43 mrWA35 mrWB35 8000 1 60 64 1 60 203 mr_c1Tar_WE [.inr (.inl (1001, (lAdd (lSc (-1) (lSy 11)) (lK 148)))), .inr (.inl (2000, lK 0))] mro35 = true := by decide +kernel
theorem mrE35 : wEd x_KT x_tb x_tyl x_ov0 u_ct u_hs x_knd lwFR lwGA lwGB 11 26 43 mrWA35 mrWB35 8000 1 60 64 1 60 203 mr_c1Tar_WE [.inr (.inl (1001, (lAdd (lSc (-1) (lSy 11)) (lK 148)))), .inr (.inl (2000, lK 0))] mro35 = true := wEdQ_ok lwTchOk mrE35q
set_option maxRecDepth 1000000 in
theorem mrE36q : wEdQ lwTch 43 x_KT x_tb x_tyl x_ov0 u_ct u_hs x_knd lwFR lwGA lwGB 11 26 43 mrWA36 mrWB36 8000 1 60 64 1 60 203 mr_c1Tar_WL [.inr (.inl (1001, (lAdd (lSc (-1) (lSy 11)) (lK 148)))), .inr (.inl (2000, lK 0))] mro36 = true := by decide +kernel
theorem mrE36 : wEd x_KT x_tb x_tyl x_ov0 u_ct u_hs x_knd lwFR lwGA lwGB 11 26 43 mrWA36 mrWB36 8000 1 60 64 1 60 203 mr_c1Tar_WL [.inr (.inl (1001, (lAdd (lSc (-1) (lSy 11)) (lK 148)))), .inr (.inl (2000, lK 0))] mro36 = true := wEdQ_ok lwTchOk mrE36q
set_option maxRecDepth 1000000 in
theorem mrE37q : wEdQ lwTch 43 x_KT x_tb x_tyl x_ov0 u_ct u_hs x_knd lwFR lwGA lwGB 11 26 43 mrWA37 mrWB37 8000 1 60 64 1 60 203 mr_c1Tar_FU [.inr (.inl (1001, (lAdd (lSc (-1) (lSy 11)) (lK 148)))), .inr (.inl (2000, lK 0))] mro37 = true := by decide +kernel
theorem mrE37 : wEd x_KT x_tb x_tyl x_ov0 u_ct u_hs x_knd lwFR lwGA lwGB 11 26 43 mrWA37 mrWB37 8000 1 60 64 1 60 203 mr_c1Tar_FU [.inr (.inl (1001, (lAdd (lSc (-1) (lSy 11)) (lK 148)))), .inr (.inl (2000, lK 0))] mro37 = true := wEdQ_ok lwTchOk mrE37q
set_option maxRecDepth 1000000 in
theorem mrE38q : wEdQ lwTch 43 x_KT x_tb x_tyl x_ov0 u_ct u_hs x_knd lwFR lwGA lwGB 11 26 43 mrWA38 mrWB38 8000 1 60 64 1 60 203 mr_c1Tao_R [.inr (.inl (1001, (lAdd (lSc (-1) (lSy 11)) (lK 148)))), .inr (.inl (2000, lK 0))] mro38 = true := by decide +kernel
theorem mrE38 : wEd x_KT x_tb x_tyl x_ov0 u_ct u_hs x_knd lwFR lwGA lwGB 11 26 43 mrWA38 mrWB38 8000 1 60 64 1 60 203 mr_c1Tao_R [.inr (.inl (1001, (lAdd (lSc (-1) (lSy 11)) (lK 148)))), .inr (.inl (2000, lK 0))] mro38 = true := wEdQ_ok lwTchOk mrE38q
set_option maxRecDepth 1000000 in
theorem mrE39q : wEdQ lwTch 43 x_KT x_tb x_tyl x_ov0 u_ct u_hs x_knd lwFR lwGA lwGB 11 26 43 mrWA39 mrWB39 8000 1 60 64 1 60 203 mr_c1Tao_O [.inr (.inl (1001, (lAdd (lSc (-1) (lSy 11)) (lK 148)))), .inr (.inl (2000, lK 0))] mro39 = true := by decide +kernel
theorem mrE39 : wEd x_KT x_tb x_tyl x_ov0 u_ct u_hs x_knd lwFR lwGA lwGB 11 26 43 mrWA39 mrWB39 8000 1 60 64 1 60 203 mr_c1Tao_O [.inr (.inl (1001, (lAdd (lSc (-1) (lSy 11)) (lK 148)))), .inr (.inl (2000, lK 0))] mro39 = true := wEdQ_ok lwTchOk mrE39q
set_option maxRecDepth 1000000 in
theorem mrE40q : wEdQ lwTch 43 x_KT x_tb x_tyl x_ov0 u_ct u_hs x_knd lwFR lwGA lwGB 11 26 43 mrWA40 mrWB40 8000 1 60 64 1 60 203 mr_c1Tao_WR [.inr (.inl (1001, (lAdd (lSc (-1) (lSy 11)) (lK 148)))), .inr (.inl (2000, lK 0))] mro40 = true := by decide +kernel
theorem mrE40 : wEd x_KT x_tb x_tyl x_ov0 u_ct u_hs x_knd lwFR lwGA lwGB 11 26 43 mrWA40 mrWB40 8000 1 60 64 1 60 203 mr_c1Tao_WR [.inr (.inl (1001, (lAdd (lSc (-1) (lSy 11)) (lK 148)))), .inr (.inl (2000, lK 0))] mro40 = true := wEdQ_ok lwTchOk mrE40q
set_option maxRecDepth 1000000 in
theorem mrE41q : wEdQ lwTch 43 x_KT x_tb x_tyl x_ov0 u_ct u_hs x_knd lwFR lwGA lwGB 11 26 43 mrWA41 mrWB41 8000 1 60 64 1 60 203 mr_c1Tao_WE [.inr (.inl (1001, (lAdd (lSc (-1) (lSy 11)) (lK 148)))), .inr (.inl (2000, lK 0))] mro41 = true := by decide +kernel
theorem mrE41 : wEd x_KT x_tb x_tyl x_ov0 u_ct u_hs x_knd lwFR lwGA lwGB 11 26 43 mrWA41 mrWB41 8000 1 60 64 1 60 203 mr_c1Tao_WE [.inr (.inl (1001, (lAdd (lSc (-1) (lSy 11)) (lK 148)))), .inr (.inl (2000, lK 0))] mro41 = true := wEdQ_ok lwTchOk mrE41q
set_option maxRecDepth 1000000 in
theorem mrE42q : wEdQ lwTch 43 x_KT x_tb x_tyl x_ov0 u_ct u_hs x_knd lwFR lwGA lwGB 11 26 43 mrWA42 mrWB42 8000 1 60 64 1 60 203 mr_c1Tao_WL [.inr (.inl (1001, (lAdd (lSc (-1) (lSy 11)) (lK 148)))), .inr (.inl (2000, lK 0))] mro42 = true := by decide +kernel
theorem mrE42 : wEd x_KT x_tb x_tyl x_ov0 u_ct u_hs x_knd lwFR lwGA lwGB 11 26 43 mrWA42 mrWB42 8000 1 60 64 1 60 203 mr_c1Tao_WL [.inr (.inl (1001, (lAdd (lSc (-1) (lSy 11)) (lK 148)))), .inr (.inl (2000, lK 0))] mro42 = true := wEdQ_ok lwTchOk mrE42q
set_option maxRecDepth 1000000 in
theorem mrE43q : wEdQ lwTch 43 x_KT x_tb x_tyl x_ov0 u_ct u_hs x_knd lwFR lwGA lwGB 11 26 43 mrWA43 mrWB43 8000 1 60 64 1 60 203 mr_c1Tao_FU [.inr (.inl (1001, (lAdd (lSc (-1) (lSy 11)) (lK 148)))), .inr (.inl (2000, lK 0))] mro43 = true := by decide +kernel
theorem mrE43 : wEd x_KT x_tb x_tyl x_ov0 u_ct u_hs x_knd lwFR lwGA lwGB 11 26 43 mrWA43 mrWB43 8000 1 60 64 1 60 203 mr_c1Tao_FU [.inr (.inl (1001, (lAdd (lSc (-1) (lSy 11)) (lK 148)))), .inr (.inl (2000, lK 0))] mro43 = true := wEdQ_ok lwTchOk mrE43q
set_option maxRecDepth 1000000 in
theorem mrE44q : wEdQ lwTch 43 x_KT x_tb x_tyl x_ov0 u_ct u_hs x_knd lwFR lwGA lwGB 11 26 43 mrWA44 mrWB44 8000 1 60 64 1 60 203 mr_c1Tb_R [.inr (.inl (1001, (lAdd (lSc (-1) (lSy 11)) (lK 148)))), .inr (.inl (2000, lK 0))] mro44 = true := by decide +kernel
theorem mrE44 : wEd x_KT x_tb x_tyl x_ov0 u_ct u_hs x_knd lwFR lwGA lwGB 11 26 43 mrWA44 mrWB44 8000 1 60 64 1 60 203 mr_c1Tb_R [.inr (.inl (1001, (lAdd (lSc (-1) (lSy 11)) (lK 148)))), .inr (.inl (2000, lK 0))] mro44 = true := wEdQ_ok lwTchOk mrE44q
set_option maxRecDepth 1000000 in
theorem mrE45q : wEdQ lwTch 43 x_KT x_tb x_tyl x_ov0 u_ct u_hs x_knd lwFR lwGA lwGB 11 26 43 mrWA45 mrWB45 8000 1 60 64 1 60 203 mr_c1Tb_O [.inr (.inl (1001, (lAdd (lSc (-1) (lSy 11)) (lK 148)))), .inr (.inl (2000, lK 0))] mro45 = true := by decide +kernel
theorem mrE45 : wEd x_KT x_tb x_tyl x_ov0 u_ct u_hs x_knd lwFR lwGA lwGB 11 26 43 mrWA45 mrWB45 8000 1 60 64 1 60 203 mr_c1Tb_O [.inr (.inl (1001, (lAdd (lSc (-1) (lSy 11)) (lK 148)))), .inr (.inl (2000, lK 0))] mro45 = true := wEdQ_ok lwTchOk mrE45q
set_option maxRecDepth 1000000 in
theorem mrE46q : wEdQ lwTch 43 x_KT x_tb x_tyl x_ov0 u_ct u_hs x_knd lwFR lwGA lwGB 11 26 43 mrWA46 mrWB46 8000 1 60 64 1 60 203 mr_c1Tb_WR [.inr (.inl (1001, (lAdd (lSc (-1) (lSy 11)) (lK 148)))), .inr (.inl (2000, lK 0))] mro46 = true := by decide +kernel
theorem mrE46 : wEd x_KT x_tb x_tyl x_ov0 u_ct u_hs x_knd lwFR lwGA lwGB 11 26 43 mrWA46 mrWB46 8000 1 60 64 1 60 203 mr_c1Tb_WR [.inr (.inl (1001, (lAdd (lSc (-1) (lSy 11)) (lK 148)))), .inr (.inl (2000, lK 0))] mro46 = true := wEdQ_ok lwTchOk mrE46q
set_option maxRecDepth 1000000 in
theorem mrE47q : wEdQ lwTch 43 x_KT x_tb x_tyl x_ov0 u_ct u_hs x_knd lwFR lwGA lwGB 11 26 43 mrWA47 mrWB47 8000 1 60 64 1 60 203 mr_c1Tb_WE [.inr (.inl (1001, (lAdd (lSc (-1) (lSy 11)) (lK 148)))), .inr (.inl (2000, lK 0))] mro47 = true := by decide +kernel
theorem mrE47 : wEd x_KT x_tb x_tyl x_ov0 u_ct u_hs x_knd lwFR lwGA lwGB 11 26 43 mrWA47 mrWB47 8000 1 60 64 1 60 203 mr_c1Tb_WE [.inr (.inl (1001, (lAdd (lSc (-1) (lSy 11)) (lK 148)))), .inr (.inl (2000, lK 0))] mro47 = true := wEdQ_ok lwTchOk mrE47q
set_option maxRecDepth 1000000 in
theorem mrE48q : wEdQ lwTch 43 x_KT x_tb x_tyl x_ov0 u_ct u_hs x_knd lwFR lwGA lwGB 11 26 43 mrWA48 mrWB48 8000 1 60 64 1 60 203 mr_c1Tb_WL [.inr (.inl (1001, (lAdd (lSc (-1) (lSy 11)) (lK 148)))), .inr (.inl (2000, lK 0))] mro48 = true := by decide +kernel
theorem mrE48 : wEd x_KT x_tb x_tyl x_ov0 u_ct u_hs x_knd lwFR lwGA lwGB 11 26 43 mrWA48 mrWB48 8000 1 60 64 1 60 203 mr_c1Tb_WL [.inr (.inl (1001, (lAdd (lSc (-1) (lSy 11)) (lK 148)))), .inr (.inl (2000, lK 0))] mro48 = true := wEdQ_ok lwTchOk mrE48q
set_option maxRecDepth 1000000 in
theorem mrE49q : wEdQ lwTch 43 x_KT x_tb x_tyl x_ov0 u_ct u_hs x_knd lwFR lwGA lwGB 11 26 43 mrWA49 mrWB49 8000 1 60 64 1 60 203 mr_c1Tb_FU [.inr (.inl (1001, (lAdd (lSc (-1) (lSy 11)) (lK 148)))), .inr (.inl (2000, lK 0))] mro49 = true := by decide +kernel
theorem mrE49 : wEd x_KT x_tb x_tyl x_ov0 u_ct u_hs x_knd lwFR lwGA lwGB 11 26 43 mrWA49 mrWB49 8000 1 60 64 1 60 203 mr_c1Tb_FU [.inr (.inl (1001, (lAdd (lSc (-1) (lSy 11)) (lK 148)))), .inr (.inl (2000, lK 0))] mro49 = true := wEdQ_ok lwTchOk mrE49q
theorem mrL50 : wRlk 32 42 44 st0WA st0WB mrX50.2.1 mrX50.2.2.1 mrX50.2.2.2.1 mrX50.2.2.2.2 st0_gen = true := by decide +kernel
theorem mrL51 : wRlk 32 42 44 st0WA st0WB mrX51.2.1 mrX51.2.2.1 mrX51.2.2.2.1 mrX51.2.2.2.2 st0_gen = true := by decide +kernel
set_option maxRecDepth 1000000 in
theorem mrE52q : wEdQ lwTch 43 x_KT x_tb x_tyl x_ov0 u_ct u_hs x_knd lwFR lwGA lwGB 11 26 43 mrWA52 mrWB52 8000 1 60 64 1 60 203 mr_RR [] mro52 = true := by decide +kernel
theorem mrE52 : wEd x_KT x_tb x_tyl x_ov0 u_ct u_hs x_knd lwFR lwGA lwGB 11 26 43 mrWA52 mrWB52 8000 1 60 64 1 60 203 mr_RR [] mro52 = true := wEdQ_ok lwTchOk mrE52q
set_option maxRecDepth 1000000 in
theorem mrE53q : wEdQ lwTch 43 x_KT x_tb x_tyl x_ov0 u_ct u_hs x_knd lwFR lwGA lwGB 11 26 43 mrWA53 mrWB53 8000 1 60 64 1 60 203 mr_RO [] mro53 = true := by decide +kernel
theorem mrE53 : wEd x_KT x_tb x_tyl x_ov0 u_ct u_hs x_knd lwFR lwGA lwGB 11 26 43 mrWA53 mrWB53 8000 1 60 64 1 60 203 mr_RO [] mro53 = true := wEdQ_ok lwTchOk mrE53q
theorem mrL54 : wRlk 34 42 44 st1WA st1WB mrX54.2.1 mrX54.2.2.1 mrX54.2.2.2.1 mrX54.2.2.2.2 st1_gen = true := by decide +kernel
theorem mrL55 : wRlk 34 42 44 st1WA st1WB mrX55.2.1 mrX55.2.2.1 mrX55.2.2.2.1 mrX55.2.2.2.2 st1_gen = true := by decide +kernel
set_option maxRecDepth 1000000 in
theorem mrE56q : wEdQ lwTch 43 x_KT x_tb x_tyl x_ov0 u_ct u_hs x_knd lwFR lwGA lwGB 11 26 43 mrWA56 mrWB56 8000 1 60 64 1 60 203 mr_OR [] mro56 = true := by decide +kernel
theorem mrE56 : wEd x_KT x_tb x_tyl x_ov0 u_ct u_hs x_knd lwFR lwGA lwGB 11 26 43 mrWA56 mrWB56 8000 1 60 64 1 60 203 mr_OR [] mro56 = true := wEdQ_ok lwTchOk mrE56q
set_option maxRecDepth 1000000 in
theorem mrE57q : wEdQ lwTch 43 x_KT x_tb x_tyl x_ov0 u_ct u_hs x_knd lwFR lwGA lwGB 11 26 43 mrWA57 mrWB57 8000 1 60 64 1 60 203 mr_c0RR_R [] mro57 = true := by decide +kernel
theorem mrE57 : wEd x_KT x_tb x_tyl x_ov0 u_ct u_hs x_knd lwFR lwGA lwGB 11 26 43 mrWA57 mrWB57 8000 1 60 64 1 60 203 mr_c0RR_R [] mro57 = true := wEdQ_ok lwTchOk mrE57q
set_option maxRecDepth 1000000 in
theorem mrE58q : wEdQ lwTch 43 x_KT x_tb x_tyl x_ov0 u_ct u_hs x_knd lwFR lwGA lwGB 11 26 43 mrWA58 mrWB58 8000 1 60 64 1 60 203 mr_c0RR_O [] mro58 = true := by decide +kernel
theorem mrE58 : wEd x_KT x_tb x_tyl x_ov0 u_ct u_hs x_knd lwFR lwGA lwGB 11 26 43 mrWA58 mrWB58 8000 1 60 64 1 60 203 mr_c0RR_O [] mro58 = true := wEdQ_ok lwTchOk mrE58q
set_option maxRecDepth 1000000 in
theorem mrE59q : wEdQ lwTch 43 x_KT x_tb x_tyl x_ov0 u_ct u_hs x_knd lwFR lwGA lwGB 11 26 43 mrWA59 mrWB59 8000 1 60 64 1 60 203 mr_c0RR_WR [] mro59 = true := by decide +kernel
theorem mrE59 : wEd x_KT x_tb x_tyl x_ov0 u_ct u_hs x_knd lwFR lwGA lwGB 11 26 43 mrWA59 mrWB59 8000 1 60 64 1 60 203 mr_c0RR_WR [] mro59 = true := wEdQ_ok lwTchOk mrE59q
set_option maxRecDepth 1000000 in
theorem mrE60q : wEdQ lwTch 43 x_KT x_tb x_tyl x_ov0 u_ct u_hs x_knd lwFR lwGA lwGB 11 26 43 mrWA60 mrWB60 8000 1 60 64 1 60 203 mr_c0RR_WE [] mro60 = true := by decide +kernel
theorem mrE60 : wEd x_KT x_tb x_tyl x_ov0 u_ct u_hs x_knd lwFR lwGA lwGB 11 26 43 mrWA60 mrWB60 8000 1 60 64 1 60 203 mr_c0RR_WE [] mro60 = true := wEdQ_ok lwTchOk mrE60q
set_option maxRecDepth 1000000 in
theorem mrE61q : wEdQ lwTch 43 x_KT x_tb x_tyl x_ov0 u_ct u_hs x_knd lwFR lwGA lwGB 11 26 43 mrWA61 mrWB61 8000 1 60 64 1 60 203 mr_c0RR_WL [] mro61 = true := by decide +kernel
theorem mrE61 : wEd x_KT x_tb x_tyl x_ov0 u_ct u_hs x_knd lwFR lwGA lwGB 11 26 43 mrWA61 mrWB61 8000 1 60 64 1 60 203 mr_c0RR_WL [] mro61 = true := wEdQ_ok lwTchOk mrE61q
end XRuC21
