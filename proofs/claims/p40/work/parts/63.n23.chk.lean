/-! Runs: checks, 23. -/
noncomputable section XRuC23
set_option maxRecDepth 1000000 in
theorem st1E6R35 : wRkE x_KT x_tb x_tyl x_ov0 u_ct u_hs x_knd lwFR lwGA lwGB st1VA6_35 st1VB6_35 8000 1 60 69 1 60 205 (st1o6.map (wNo [39, 40, 41, 42, 43, 35, 36])) st1_L2 lwF35 [.inr (.inr (4, [(lSy 42)])), .inl (lAdd (lSc (-1) (lSy 43)) (lAdd (lSy 11) (lK (-1)))), .inr (.inr (7, [(lSy 43), (lSy 44)])), .inr (.inl (2008, lK 0))] = true := by decide +kernel
set_option maxRecDepth 1000000 in
theorem st1E6R36 : wRkE x_KT x_tb x_tyl x_ov0 u_ct u_hs x_knd lwFR lwGA lwGB st1VA6_36 st1VB6_36 8000 1 60 69 1 60 205 (st1o6.map (wNo [39, 40, 41, 42, 43, 35, 36])) st1_L2 lwF36 [.inr (.inr (4, [(lSy 42)])), .inl (lAdd (lSc (-1) (lSy 43)) (lAdd (lSy 11) (lK (-1)))), .inr (.inr (8, [(lSy 43), (lSy 44)])), .inr (.inl (2008, lK 0))] = true := by decide +kernel
set_option maxRecDepth 1000000 in
theorem st1E7q : wEdQ lwTch 44 x_KT x_tb x_tyl x_ov0 u_ct u_hs x_knd lwFR lwGA lwGB 42 47 47 st1WA7 st1WB7 8000 1 60 69 1 60 205 st1_M22 [] st1o7 = true := by decide +kernel
theorem st1E7 : wEd x_KT x_tb x_tyl x_ov0 u_ct u_hs x_knd lwFR lwGA lwGB 42 47 47 st1WA7 st1WB7 8000 1 60 69 1 60 205 st1_M22 [] st1o7 = true := wEdQ_ok lwTchOk st1E7q
set_option maxRecDepth 1000000 in
theorem st1E8q : wEdQ lwTch 44 x_KT x_tb x_tyl x_ov0 u_ct u_hs x_knd lwFR lwGA lwGB 42 47 47 st1WA8 st1WB8 8000 1 60 69 1 60 205 st1_F2 [] st1o8 = true := by decide +kernel
theorem st1E8 : wEd x_KT x_tb x_tyl x_ov0 u_ct u_hs x_knd lwFR lwGA lwGB 42 47 47 st1WA8 st1WB8 8000 1 60 69 1 60 205 st1_F2 [] st1o8 = true := wEdQ_ok lwTchOk st1E8q
set_option maxRecDepth 1000000 in
theorem st1E9q : wEdQ lwTch 44 x_KT x_tb x_tyl x_ov0 u_ct u_hs x_knd lwFR lwGA lwGB 42 47 47 st1WA9 st1WB9 8000 1 60 69 1 60 205 st1_op2i [] st1o9 = true := by decide +kernel
theorem st1E9 : wEd x_KT x_tb x_tyl x_ov0 u_ct u_hs x_knd lwFR lwGA lwGB 42 47 47 st1WA9 st1WB9 8000 1 60 69 1 60 205 st1_op2i [] st1o9 = true := wEdQ_ok lwTchOk st1E9q
set_option maxRecDepth 1000000 in
theorem st1E10q : wEdQ lwTch 44 x_KT x_tb x_tyl x_ov0 u_ct u_hs x_knd lwFR lwGA lwGB 42 47 47 st1WA10 st1WB10 8000 1 60 69 1 60 205 st1_L2i [.inr (.inr (4, [(lSy 42)]))] (st1o10.map (wNo [39, 40, 41, 42, 43, 35, 36])) = true := by decide +kernel
theorem st1E10 : wEd x_KT x_tb x_tyl x_ov0 u_ct u_hs x_knd lwFR lwGA lwGB 42 47 47 st1WA10 st1WB10 8000 1 60 69 1 60 205 st1_L2i [.inr (.inr (4, [(lSy 42)]))] (st1o10.map (wNo [39, 40, 41, 42, 43, 35, 36])) = true := wEdQ_ok lwTchOk st1E10q
set_option maxRecDepth 1000000 in
theorem st1E10R39 : wRkE x_KT x_tb x_tyl x_ov0 u_ct u_hs x_knd lwFR lwGA lwGB st1VA10_39 st1VB10_39 8000 1 60 69 1 60 205 (st1o10.map (wNo [39, 40, 41, 42, 43, 35, 36])) st1_L2i lwF39 [.inr (.inr (4, [(lSy 42)])), .inr (.inr (9, [(lSy 43)])), .inr (.inl (2008, lK 0))] = true := by decide +kernel
set_option maxRecDepth 1000000 in
theorem st1E10R40 : wRkE x_KT x_tb x_tyl x_ov0 u_ct u_hs x_knd lwFR lwGA lwGB st1VA10_40 st1VB10_40 8000 1 60 69 1 60 205 (st1o10.map (wNo [39, 40, 41, 42, 43, 35, 36])) st1_L2i lwF40 [.inr (.inr (4, [(lSy 42)])), .inl (lAdd (lSy 43) (lSc (-1) (lSy 37))), .inl (lAdd (lSc (-1) (lSy 43)) (lSy 37)), .inr (.inl (0, (lSy 37))), .inr (.inr (10, [])), .inr (.inl (2008, lK 0))] = true := by decide +kernel
set_option maxRecDepth 1000000 in
theorem st1E10R41 : wRkE x_KT x_tb x_tyl x_ov0 u_ct u_hs x_knd lwFR lwGA lwGB st1VA10_41 st1VB10_41 8000 1 60 69 1 60 205 (st1o10.map (wNo [39, 40, 41, 42, 43, 35, 36])) st1_L2i lwF41 [.inr (.inr (4, [(lSy 42)])), .inl (lAdd (lSc (-1) (lSy 43)) (lAdd (lSy 11) (lK (-1)))), .inr (.inr (11, [(lSy 43), (lSy 44)])), .inr (.inl (2008, lK 0))] = true := by decide +kernel
set_option maxRecDepth 1000000 in
theorem st1E10R42 : wRkE x_KT x_tb x_tyl x_ov0 u_ct u_hs x_knd lwFR lwGA lwGB st1VA10_42 st1VB10_42 8000 1 60 69 1 60 205 (st1o10.map (wNo [39, 40, 41, 42, 43, 35, 36])) st1_L2i lwF42 [.inr (.inr (4, [(lSy 42)])), .inl (lAdd (lSc (-1) (lSy 43)) (lAdd (lSy 11) (lK (-1)))), .inr (.inr (12, [(lSy 43), (lSy 44)])), .inr (.inl (2008, lK 0))] = true := by decide +kernel
set_option maxRecDepth 1000000 in
theorem st1E10R43 : wRkE x_KT x_tb x_tyl x_ov0 u_ct u_hs x_knd lwFR lwGA lwGB st1VA10_43 st1VB10_43 8000 1 60 69 1 60 205 (st1o10.map (wNo [39, 40, 41, 42, 43, 35, 36])) st1_L2i lwF43 [.inr (.inr (4, [(lSy 42)])), .inl (lAdd (lSc (-1) (lSy 43)) (lAdd (lSy 11) (lK (-1)))), .inr (.inr (13, [(lSy 43), (lSy 44)])), .inr (.inl (2008, lK 0))] = true := by decide +kernel
set_option maxRecDepth 1000000 in
theorem st1E10R35 : wRkE x_KT x_tb x_tyl x_ov0 u_ct u_hs x_knd lwFR lwGA lwGB st1VA10_35 st1VB10_35 8000 1 60 69 1 60 205 (st1o10.map (wNo [39, 40, 41, 42, 43, 35, 36])) st1_L2i lwF35 [.inr (.inr (4, [(lSy 42)])), .inl (lAdd (lSc (-1) (lSy 43)) (lAdd (lSy 11) (lK (-1)))), .inr (.inr (7, [(lSy 43), (lSy 44)])), .inr (.inl (2008, lK 0))] = true := by decide +kernel
set_option maxRecDepth 1000000 in
theorem st1E10R36 : wRkE x_KT x_tb x_tyl x_ov0 u_ct u_hs x_knd lwFR lwGA lwGB st1VA10_36 st1VB10_36 8000 1 60 69 1 60 205 (st1o10.map (wNo [39, 40, 41, 42, 43, 35, 36])) st1_L2i lwF36 [.inr (.inr (4, [(lSy 42)])), .inl (lAdd (lSc (-1) (lSy 43)) (lAdd (lSy 11) (lK (-1)))), .inr (.inr (8, [(lSy 43), (lSy 44)])), .inr (.inl (2008, lK 0))] = true := by decide +kernel
set_option maxRecDepth 1000000 in
theorem st1E11q : wEdQ lwTch 44 x_KT x_tb x_tyl x_ov0 u_ct u_hs x_knd lwFR lwGA lwGB 42 47 47 st1WA11 st1WB11 8000 1 60 69 1 60 205 st1_M22i [] st1o11 = true := by decide +kernel
theorem st1E11 : wEd x_KT x_tb x_tyl x_ov0 u_ct u_hs x_knd lwFR lwGA lwGB 42 47 47 st1WA11 st1WB11 8000 1 60 69 1 60 205 st1_M22i [] st1o11 = true := wEdQ_ok lwTchOk st1E11q
set_option maxRecDepth 1000000 in
theorem st1E12q : wEdQ lwTch 44 x_KT x_tb x_tyl x_ov0 u_ct u_hs x_knd lwFR lwGA lwGB 42 47 47 st1WA12 st1WB12 8000 1 60 69 1 60 205 st1_F2i [] st1o12 = true := by decide +kernel
theorem st1E12 : wEd x_KT x_tb x_tyl x_ov0 u_ct u_hs x_knd lwFR lwGA lwGB 42 47 47 st1WA12 st1WB12 8000 1 60 69 1 60 205 st1_F2i [] st1o12 = true := wEdQ_ok lwTchOk st1E12q
set_option maxRecDepth 1000000 in
theorem st1E13q : wEdQ lwTch 44 x_KT x_tb x_tyl x_ov0 u_ct u_hs x_knd lwFR lwGA lwGB 42 47 47 st1WA13 st1WB13 8000 1 60 69 1 60 205 st1_op9 [] st1o13 = true := by decide +kernel
theorem st1E13 : wEd x_KT x_tb x_tyl x_ov0 u_ct u_hs x_knd lwFR lwGA lwGB 42 47 47 st1WA13 st1WB13 8000 1 60 69 1 60 205 st1_op9 [] st1o13 = true := wEdQ_ok lwTchOk st1E13q
set_option maxRecDepth 1000000 in
theorem st1E14q : wEdQ lwTch 44 x_KT x_tb x_tyl x_ov0 u_ct u_hs x_knd lwFR lwGA lwGB 42 47 47 st1WA14 st1WB14 8000 1 60 69 1 60 205 st1_op10 [] st1o14 = true := by decide +kernel
theorem st1E14 : wEd x_KT x_tb x_tyl x_ov0 u_ct u_hs x_knd lwFR lwGA lwGB 42 47 47 st1WA14 st1WB14 8000 1 60 69 1 60 205 st1_op10 [] st1o14 = true := wEdQ_ok lwTchOk st1E14q
set_option maxRecDepth 1000000 in
theorem st1E15q : wEdQ lwTch 44 x_KT x_tb x_tyl x_ov0 u_ct u_hs x_knd lwFR lwGA lwGB 42 47 47 st1WA15 st1WB15 8000 1 60 69 1 60 205 st1_op0 [] st1o15 = true := by decide +kernel
theorem st1E15 : wEd x_KT x_tb x_tyl x_ov0 u_ct u_hs x_knd lwFR lwGA lwGB 42 47 47 st1WA15 st1WB15 8000 1 60 69 1 60 205 st1_op0 [] st1o15 = true := wEdQ_ok lwTchOk st1E15q
set_option maxRecDepth 1000000 in
theorem st1E16q : wEdQ lwTch 44 x_KT x_tb x_tyl x_ov0 u_ct u_hs x_knd lwFR lwGA lwGB 42 47 47 st1WA16 st1WB16 8000 1 60 69 1 60 205 st1_L0 [] (st1o16.map (wNo [34, 33])) = true := by decide +kernel
theorem st1E16 : wEd x_KT x_tb x_tyl x_ov0 u_ct u_hs x_knd lwFR lwGA lwGB 42 47 47 st1WA16 st1WB16 8000 1 60 69 1 60 205 st1_L0 [] (st1o16.map (wNo [34, 33])) = true := wEdQ_ok lwTchOk st1E16q
set_option maxRecDepth 1000000 in
theorem st1E17q : wEdQ lwTch 44 x_KT x_tb x_tyl x_ov0 u_ct u_hs x_knd lwFR lwGA lwGB 42 47 47 st1WA17 st1WB17 8000 1 60 69 1 60 205 st1_op1 [] st1o17 = true := by decide +kernel
theorem st1E17 : wEd x_KT x_tb x_tyl x_ov0 u_ct u_hs x_knd lwFR lwGA lwGB 42 47 47 st1WA17 st1WB17 8000 1 60 69 1 60 205 st1_op1 [] st1o17 = true := wEdQ_ok lwTchOk st1E17q
set_option maxRecDepth 1000000 in
theorem st1E18q : wEdQ lwTch 44 x_KT x_tb x_tyl x_ov0 u_ct u_hs x_knd lwFR lwGA lwGB 42 47 47 st1WA18 st1WB18 8000 1 60 69 1 60 205 st1_F1 [] st1o18 = true := by decide +kernel
theorem st1E18 : wEd x_KT x_tb x_tyl x_ov0 u_ct u_hs x_knd lwFR lwGA lwGB 42 47 47 st1WA18 st1WB18 8000 1 60 69 1 60 205 st1_F1 [] st1o18 = true := wEdQ_ok lwTchOk st1E18q
set_option maxRecDepth 1000000 in
theorem st1E19q : wEdQ lwTch 44 x_KT x_tb x_tyl x_ov0 u_ct u_hs x_knd lwFR lwGA lwGB 42 47 47 st1WA19 st1WB19 8000 1 60 69 0 60 205 st1_M1 [] st1o19 = true := by decide +kernel
theorem st1E19 : wEd x_KT x_tb x_tyl x_ov0 u_ct u_hs x_knd lwFR lwGA lwGB 42 47 47 st1WA19 st1WB19 8000 1 60 69 0 60 205 st1_M1 [] st1o19 = true := wEdQ_ok lwTchOk st1E19q
set_option maxRecDepth 1000000 in
theorem st1E20q : wEdQ lwTch 44 x_KT x_tb x_tyl x_ov0 u_ct u_hs x_knd lwFR lwGA lwGB 42 47 47 st1WA20 st1WB20 8000 1 60 69 1 60 205 st1_L1 [.inr (.inr (8, [(lSy 14), (lSy 35)])), .inr (.inl (2008, lK 0))] (st1o20.map (wNo [34, 33])) = true := by decide +kernel
theorem st1E20 : wEd x_KT x_tb x_tyl x_ov0 u_ct u_hs x_knd lwFR lwGA lwGB 42 47 47 st1WA20 st1WB20 8000 1 60 69 1 60 205 st1_L1 [.inr (.inr (8, [(lSy 14), (lSy 35)])), .inr (.inl (2008, lK 0))] (st1o20.map (wNo [34, 33])) = true := wEdQ_ok lwTchOk st1E20q
set_option maxRecDepth 1000000 in
theorem st1E21q : wEdQ lwTch 44 x_KT x_tb x_tyl x_ov0 u_ct u_hs x_knd lwFR lwGA lwGB 42 47 47 st1WA21 st1WB21 8000 1 60 69 1 60 205 st1_op3 [] st1o21 = true := by decide +kernel
theorem st1E21 : wEd x_KT x_tb x_tyl x_ov0 u_ct u_hs x_knd lwFR lwGA lwGB 42 47 47 st1WA21 st1WB21 8000 1 60 69 1 60 205 st1_op3 [] st1o21 = true := wEdQ_ok lwTchOk st1E21q
set_option maxRecDepth 1000000 in
theorem st1E22q : wEdQ lwTch 44 x_KT x_tb x_tyl x_ov0 u_ct u_hs x_knd lwFR lwGA lwGB 42 47 47 st1WA22 st1WB22 8000 1 60 69 1 60 205 st1_L3 [] (st1o22.map (wNo [34, 33])) = true := by decide +kernel
theorem st1E22 : wEd x_KT x_tb x_tyl x_ov0 u_ct u_hs x_knd lwFR lwGA lwGB 42 47 47 st1WA22 st1WB22 8000 1 60 69 1 60 205 st1_L3 [] (st1o22.map (wNo [34, 33])) = true := wEdQ_ok lwTchOk st1E22q
set_option maxRecDepth 1000000 in
theorem st1E23q : wEdQ lwTch 44 x_KT x_tb x_tyl x_ov0 u_ct u_hs x_knd lwFR lwGA lwGB 42 47 47 st1WA23 st1WB23 8000 1 60 69 1 60 205 st1_op4 [] st1o23 = true := by decide +kernel
theorem st1E23 : wEd x_KT x_tb x_tyl x_ov0 u_ct u_hs x_knd lwFR lwGA lwGB 42 47 47 st1WA23 st1WB23 8000 1 60 69 1 60 205 st1_op4 [] st1o23 = true := wEdQ_ok lwTchOk st1E23q
set_option maxRecDepth 1000000 in
theorem st1E24q : wEdQ lwTch 44 x_KT x_tb x_tyl x_ov0 u_ct u_hs x_knd lwFR lwGA lwGB 42 47 47 st1WA24 st1WB24 8000 1 60 69 1 60 205 st1_L4 [.inr (.inr (4, [(lSy 43)]))] (st1o24.map (wNo [34, 33])) = true := by decide +kernel
theorem st1E24 : wEd x_KT x_tb x_tyl x_ov0 u_ct u_hs x_knd lwFR lwGA lwGB 42 47 47 st1WA24 st1WB24 8000 1 60 69 1 60 205 st1_L4 [.inr (.inr (4, [(lSy 43)]))] (st1o24.map (wNo [34, 33])) = true := wEdQ_ok lwTchOk st1E24q
set_option maxRecDepth 1000000 in
theorem st1E25q : wEdQ lwTch 44 x_KT x_tb x_tyl x_ov0 u_ct u_hs x_knd lwFR lwGA lwGB 42 47 47 st1WA25 st1WB25 8000 1 60 69 1 60 205 st1_op5 [] st1o25 = true := by decide +kernel
theorem st1E25 : wEd x_KT x_tb x_tyl x_ov0 u_ct u_hs x_knd lwFR lwGA lwGB 42 47 47 st1WA25 st1WB25 8000 1 60 69 1 60 205 st1_op5 [] st1o25 = true := wEdQ_ok lwTchOk st1E25q
set_option maxRecDepth 1000000 in
theorem st1E26q : wEdQ lwTch 44 x_KT x_tb x_tyl x_ov0 u_ct u_hs x_knd lwFR lwGA lwGB 42 47 47 st1WA26 st1WB26 8000 1 60 69 1 60 205 st1_L5 [.inr (.inr (4, [(lSy 42)])), .inr (.inr (4, [(lSy 43)]))] (st1o26.map (wNo [34, 33])) = true := by decide +kernel
theorem st1E26 : wEd x_KT x_tb x_tyl x_ov0 u_ct u_hs x_knd lwFR lwGA lwGB 42 47 47 st1WA26 st1WB26 8000 1 60 69 1 60 205 st1_L5 [.inr (.inr (4, [(lSy 42)])), .inr (.inr (4, [(lSy 43)]))] (st1o26.map (wNo [34, 33])) = true := wEdQ_ok lwTchOk st1E26q
set_option maxRecDepth 1000000 in
theorem st1E27q : wEdQ lwTch 44 x_KT x_tb x_tyl x_ov0 u_ct u_hs x_knd lwFR lwGA lwGB 42 47 47 st1WA27 st1WB27 8000 1 60 69 1 60 205 st1_op6 [] st1o27 = true := by decide +kernel
theorem st1E27 : wEd x_KT x_tb x_tyl x_ov0 u_ct u_hs x_knd lwFR lwGA lwGB 42 47 47 st1WA27 st1WB27 8000 1 60 69 1 60 205 st1_op6 [] st1o27 = true := wEdQ_ok lwTchOk st1E27q
set_option maxRecDepth 1000000 in
theorem st1E28q : wEdQ lwTch 44 x_KT x_tb x_tyl x_ov0 u_ct u_hs x_knd lwFR lwGA lwGB 42 47 47 st1WA28 st1WB28 8000 1 60 69 1 60 205 st1_L6 [.inr (.inr (4, [(lSy 42)])), .inr (.inr (4, [(lSy 43)]))] (st1o28.map (wNo [34, 33])) = true := by decide +kernel
theorem st1E28 : wEd x_KT x_tb x_tyl x_ov0 u_ct u_hs x_knd lwFR lwGA lwGB 42 47 47 st1WA28 st1WB28 8000 1 60 69 1 60 205 st1_L6 [.inr (.inr (4, [(lSy 42)])), .inr (.inr (4, [(lSy 43)]))] (st1o28.map (wNo [34, 33])) = true := wEdQ_ok lwTchOk st1E28q
set_option maxRecDepth 1000000 in
theorem st1E29q : wEdQ lwTch 44 x_KT x_tb x_tyl x_ov0 u_ct u_hs x_knd lwFR lwGA lwGB 42 47 47 st1WA29 st1WB29 8000 1 60 69 1 60 205 st1_op7 [.inr (.inr (4, [(lSy 42)])), .inr (.inr (4, [(lSy 43)]))] st1o29 = true := by decide +kernel
theorem st1E29 : wEd x_KT x_tb x_tyl x_ov0 u_ct u_hs x_knd lwFR lwGA lwGB 42 47 47 st1WA29 st1WB29 8000 1 60 69 1 60 205 st1_op7 [.inr (.inr (4, [(lSy 42)])), .inr (.inr (4, [(lSy 43)]))] st1o29 = true := wEdQ_ok lwTchOk st1E29q
set_option maxRecDepth 1000000 in
theorem st1E30q : wEdQ lwTch 44 x_KT x_tb x_tyl x_ov0 u_ct u_hs x_knd lwFR lwGA lwGB 42 47 47 st1WA30 st1WB30 8000 1 60 69 1 60 205 st1_op8 [.inr (.inr (4, [(lSy 42)]))] st1o30 = true := by decide +kernel
theorem st1E30 : wEd x_KT x_tb x_tyl x_ov0 u_ct u_hs x_knd lwFR lwGA lwGB 42 47 47 st1WA30 st1WB30 8000 1 60 69 1 60 205 st1_op8 [.inr (.inr (4, [(lSy 42)]))] st1o30 = true := wEdQ_ok lwTchOk st1E30q
set_option maxRecDepth 1000000 in
theorem st1E31q : wEdQ lwTch 44 x_KT x_tb x_tyl x_ov0 u_ct u_hs x_knd lwFR lwGA lwGB 42 47 47 st1WA31 st1WB31 8000 1 60 69 1 60 205 st1_op11 [.inr (.inr (4, [(lSy 42)])), .inr (.inr (4, [(lSy 43)]))] st1o31 = true := by decide +kernel
theorem st1E31 : wEd x_KT x_tb x_tyl x_ov0 u_ct u_hs x_knd lwFR lwGA lwGB 42 47 47 st1WA31 st1WB31 8000 1 60 69 1 60 205 st1_op11 [.inr (.inr (4, [(lSy 42)])), .inr (.inr (4, [(lSy 43)]))] st1o31 = true := wEdQ_ok lwTchOk st1E31q
set_option maxRecDepth 1000000 in
theorem mrE0R38_0 : wRkEF [(lAdd (lSc (-1) (lSy 19)) (lSy 14))] 0 x_KT x_tb x_tyl x_ov0 u_ct u_hs x_knd lwFR lwGA lwGB mrVA0_38 mrVB0_38 8000 1 60 64 0 60 203 (mro0.map (wNo [41, 42, 43, 35, 36, 38])) mr_in lwF38 [.inr (.inr (0, [(lSy 14)])), .inr (.inr (3, [])), .inr (.inr (4, [])), .inr (.inr (11, [(lSy 14)])), .inl (lSy 20), .inr (.inr (8, [(lSy 14)])), .inr (.inr (12, [(lSy 20), (lSy 14)])), .inr (.inr (12, [(lSy 14), (lSy 20)])), .inr (.inr (9, [(lSy 20)])), .inr (.inr (10, [(lSy 20)])), .inr (.inl (2008, lK 0)), .inl (lAdd (lSy 19) (lSc (-1) (lSy 14))), .inl (lAdd (lSc (-1) (lSy 19)) (lSy 14)), .inr (.inl (1001, (lAdd (lSc (-1) (lSy 19)) (lAdd (lSy 11) (lK (-1)))))), .inl (lAdd (lSc (-1) (lSy 19)) (lAdd (lSy 11) (lK (-1)))), .inr (.inl (0, (lSy 14))), .inr (.inr (12, [(lSy 19), (lSy 14)])), .inr (.inr (12, [(lSy 14), (lSy 19)])), .inr (.inr (29, [])), .inr (.inl (2008, lK 0))] = true := by decide +kernel
end XRuC23
