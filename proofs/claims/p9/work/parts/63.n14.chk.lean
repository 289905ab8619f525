/-! Runs: checks, 14. -/
noncomputable section XRuC14
set_option maxRecDepth 1000000 in
theorem st0E6R31 : wRkE x_KT x_tb x_tyl x_ov0 u_ct u_hs x_knd lwFR lwGA lwGB st0VA6_31 st0VB6_31 8000 1 60 69 1 60 205 (st0o6.map (wNo [34, 35, 36, 37, 38, 31, 32])) st0_L2 lwF31 [.inr (.inr (3, [(lSy 32)])), .inl (lAdd (lSc (-1) (lSy 33)) (lAdd (lSy 3) (lK (-1)))), .inr (.inr (7, [(lSy 33), (lSy 34)])), .inr (.inl (2008, lK 0))] = true := by decide +kernel
set_option maxRecDepth 1000000 in
theorem st0E6R32 : wRkE x_KT x_tb x_tyl x_ov0 u_ct u_hs x_knd lwFR lwGA lwGB st0VA6_32 st0VB6_32 8000 1 60 69 1 60 205 (st0o6.map (wNo [34, 35, 36, 37, 38, 31, 32])) st0_L2 lwF32 [.inr (.inr (3, [(lSy 32)])), .inl (lAdd (lSc (-1) (lSy 33)) (lAdd (lSy 3) (lK (-1)))), .inr (.inr (8, [(lSy 33), (lSy 34)])), .inr (.inl (2008, lK 0))] = true := by decide +kernel
set_option maxRecDepth 1000000 in
theorem st0E7q : wEdQ lwTch 39 x_KT x_tb x_tyl x_ov0 u_ct u_hs x_knd lwFR lwGA lwGB 32 41 43 st0WA7 st0WB7 8000 1 60 69 1 60 205 st0_M22 [] st0o7 = true := by decide +kernel
theorem st0E7 : wEd x_KT x_tb x_tyl x_ov0 u_ct u_hs x_knd lwFR lwGA lwGB 32 41 43 st0WA7 st0WB7 8000 1 60 69 1 60 205 st0_M22 [] st0o7 = true := wEdQ_ok lwTchOk st0E7q
set_option maxRecDepth 1000000 in
theorem st0E8q : wEdQ lwTch 39 x_KT x_tb x_tyl x_ov0 u_ct u_hs x_knd lwFR lwGA lwGB 32 41 43 st0WA8 st0WB8 8000 1 60 69 1 60 205 st0_F2 [] st0o8 = true := by decide +kernel
theorem st0E8 : wEd x_KT x_tb x_tyl x_ov0 u_ct u_hs x_knd lwFR lwGA lwGB 32 41 43 st0WA8 st0WB8 8000 1 60 69 1 60 205 st0_F2 [] st0o8 = true := wEdQ_ok lwTchOk st0E8q
set_option maxRecDepth 1000000 in
theorem st0E9q : wEdQ lwTch 39 x_KT x_tb x_tyl x_ov0 u_ct u_hs x_knd lwFR lwGA lwGB 32 41 43 st0WA9 st0WB9 8000 1 60 69 1 60 205 st0_op9 [] st0o9 = true := by decide +kernel
theorem st0E9 : wEd x_KT x_tb x_tyl x_ov0 u_ct u_hs x_knd lwFR lwGA lwGB 32 41 43 st0WA9 st0WB9 8000 1 60 69 1 60 205 st0_op9 [] st0o9 = true := wEdQ_ok lwTchOk st0E9q
set_option maxRecDepth 1000000 in
theorem st0E10q : wEdQ lwTch 39 x_KT x_tb x_tyl x_ov0 u_ct u_hs x_knd lwFR lwGA lwGB 32 41 43 st0WA10 st0WB10 8000 1 60 69 1 60 205 st0_op10 [] st0o10 = true := by decide +kernel
theorem st0E10 : wEd x_KT x_tb x_tyl x_ov0 u_ct u_hs x_knd lwFR lwGA lwGB 32 41 43 st0WA10 st0WB10 8000 1 60 69 1 60 205 st0_op10 [] st0o10 = true := wEdQ_ok lwTchOk st0E10q
theorem st0L11 : wRlk 34 41 43 ctWA ctWB st0X11.2.1 st0X11.2.2.1 st0X11.2.2.2.1 st0X11.2.2.2.2 ct_in = true := by decide +kernel
set_option maxRecDepth 1000000 in
theorem st0E12q : wEdQ lwTch 39 x_KT x_tb x_tyl x_ov0 u_ct u_hs x_knd lwFR lwGA lwGB 32 41 43 st0WA12 st0WB12 8000 1 60 69 1 60 205 st0_op0 [] st0o12 = true := by decide +kernel
theorem st0E12 : wEd x_KT x_tb x_tyl x_ov0 u_ct u_hs x_knd lwFR lwGA lwGB 32 41 43 st0WA12 st0WB12 8000 1 60 69 1 60 205 st0_op0 [] st0o12 = true := wEdQ_ok lwTchOk st0E12q
set_option maxRecDepth 1000000 in
theorem st0E13q : wEdQ lwTch 39 x_KT x_tb x_tyl x_ov0 u_ct u_hs x_knd lwFR lwGA lwGB 32 41 43 st0WA13 st0WB13 8000 1 60 69 1 60 205 st0_c0_x [] (st0o13.map (wNo [29, 30])) = true := by decide +kernel
theorem st0E13 : wEd x_KT x_tb x_tyl x_ov0 u_ct u_hs x_knd lwFR lwGA lwGB 32 41 43 st0WA13 st0WB13 8000 1 60 69 1 60 205 st0_c0_x [] (st0o13.map (wNo [29, 30])) = true := wEdQ_ok lwTchOk st0E13q
theorem st0L14 : wRlk 34 41 43 ctWA ctWB st0X14.2.1 st0X14.2.2.1 st0X14.2.2.2.1 st0X14.2.2.2.2 ct_in = true := by decide +kernel
set_option maxRecDepth 1000000 in
theorem st0E15q : wEdQ lwTch 39 x_KT x_tb x_tyl x_ov0 u_ct u_hs x_knd lwFR lwGA lwGB 32 41 43 st0WA15 st0WB15 8000 1 60 69 1 60 205 st0_op3 [] st0o15 = true := by decide +kernel
theorem st0E15 : wEd x_KT x_tb x_tyl x_ov0 u_ct u_hs x_knd lwFR lwGA lwGB 32 41 43 st0WA15 st0WB15 8000 1 60 69 1 60 205 st0_op3 [] st0o15 = true := wEdQ_ok lwTchOk st0E15q
set_option maxRecDepth 1000000 in
theorem st0E16q : wEdQ lwTch 39 x_KT x_tb x_tyl x_ov0 u_ct u_hs x_knd lwFR lwGA lwGB 32 41 43 st0WA16 st0WB16 8000 1 60 69 1 60 205 st0_c3_x [] (st0o16.map (wNo [29, 30])) = true := by decide +kernel
theorem st0E16 : wEd x_KT x_tb x_tyl x_ov0 u_ct u_hs x_knd lwFR lwGA lwGB 32 41 43 st0WA16 st0WB16 8000 1 60 69 1 60 205 st0_c3_x [] (st0o16.map (wNo [29, 30])) = true := wEdQ_ok lwTchOk st0E16q
theorem st0L17 : wRlk 34 41 43 ctWA ctWB st0X17.2.1 st0X17.2.2.1 st0X17.2.2.2.1 st0X17.2.2.2.2 ct_in = true := by decide +kernel
set_option maxRecDepth 1000000 in
theorem st0E18q : wEdQ lwTch 39 x_KT x_tb x_tyl x_ov0 u_ct u_hs x_knd lwFR lwGA lwGB 32 41 43 st0WA18 st0WB18 8000 1 60 69 1 60 205 st0_op4 [.inr (.inr (3, [(lSy 33)]))] st0o18 = true := by decide +kernel
theorem st0E18 : wEd x_KT x_tb x_tyl x_ov0 u_ct u_hs x_knd lwFR lwGA lwGB 32 41 43 st0WA18 st0WB18 8000 1 60 69 1 60 205 st0_op4 [.inr (.inr (3, [(lSy 33)]))] st0o18 = true := wEdQ_ok lwTchOk st0E18q
set_option maxRecDepth 1000000 in
theorem st0E19q : wEdQ lwTch 39 x_KT x_tb x_tyl x_ov0 u_ct u_hs x_knd lwFR lwGA lwGB 32 41 43 st0WA19 st0WB19 8000 1 60 69 1 60 205 st0_c4_x [] (st0o19.map (wNo [29, 30])) = true := by decide +kernel
theorem st0E19 : wEd x_KT x_tb x_tyl x_ov0 u_ct u_hs x_knd lwFR lwGA lwGB 32 41 43 st0WA19 st0WB19 8000 1 60 69 1 60 205 st0_c4_x [] (st0o19.map (wNo [29, 30])) = true := wEdQ_ok lwTchOk st0E19q
theorem st0L20 : wRlk 34 41 43 ctWA ctWB st0X20.2.1 st0X20.2.2.1 st0X20.2.2.2.1 st0X20.2.2.2.2 ct_in = true := by decide +kernel
set_option maxRecDepth 1000000 in
theorem st0E21q : wEdQ lwTch 39 x_KT x_tb x_tyl x_ov0 u_ct u_hs x_knd lwFR lwGA lwGB 32 41 43 st0WA21 st0WB21 8000 1 60 69 1 60 205 st0_op5 [.inr (.inr (3, [(lSy 32)])), .inr (.inr (3, [(lSy 33)]))] st0o21 = true := by decide +kernel
theorem st0E21 : wEd x_KT x_tb x_tyl x_ov0 u_ct u_hs x_knd lwFR lwGA lwGB 32 41 43 st0WA21 st0WB21 8000 1 60 69 1 60 205 st0_op5 [.inr (.inr (3, [(lSy 32)])), .inr (.inr (3, [(lSy 33)]))] st0o21 = true := wEdQ_ok lwTchOk st0E21q
set_option maxRecDepth 1000000 in
theorem st0E22q : wEdQ lwTch 39 x_KT x_tb x_tyl x_ov0 u_ct u_hs x_knd lwFR lwGA lwGB 32 41 43 st0WA22 st0WB22 8000 1 60 69 1 60 205 st0_c5_x [] (st0o22.map (wNo [29, 30])) = true := by decide +kernel
theorem st0E22 : wEd x_KT x_tb x_tyl x_ov0 u_ct u_hs x_knd lwFR lwGA lwGB 32 41 43 st0WA22 st0WB22 8000 1 60 69 1 60 205 st0_c5_x [] (st0o22.map (wNo [29, 30])) = true := wEdQ_ok lwTchOk st0E22q
theorem st0L23 : wRlk 34 41 43 ctWA ctWB st0X23.2.1 st0X23.2.2.1 st0X23.2.2.2.1 st0X23.2.2.2.2 ct_in = true := by decide +kernel
set_option maxRecDepth 1000000 in
theorem st0E24q : wEdQ lwTch 39 x_KT x_tb x_tyl x_ov0 u_ct u_hs x_knd lwFR lwGA lwGB 32 41 43 st0WA24 st0WB24 8000 1 60 69 1 60 205 st0_op6 [.inr (.inr (3, [(lSy 32)])), .inr (.inr (3, [(lSy 33)]))] st0o24 = true := by decide +kernel
theorem st0E24 : wEd x_KT x_tb x_tyl x_ov0 u_ct u_hs x_knd lwFR lwGA lwGB 32 41 43 st0WA24 st0WB24 8000 1 60 69 1 60 205 st0_op6 [.inr (.inr (3, [(lSy 32)])), .inr (.inr (3, [(lSy 33)]))] st0o24 = true := wEdQ_ok lwTchOk st0E24q
set_option maxRecDepth 1000000 in
theorem st0E25q : wEdQ lwTch 39 x_KT x_tb x_tyl x_ov0 u_ct u_hs x_knd lwFR lwGA lwGB 32 41 43 st0WA25 st0WB25 8000 1 60 69 1 60 205 st0_c6_x [] (st0o25.map (wNo [29, 30])) = true := by decide +kernel
theorem st0E25 : wEd x_KT x_tb x_tyl x_ov0 u_ct u_hs x_knd lwFR lwGA lwGB 32 41 43 st0WA25 st0WB25 8000 1 60 69 1 60 205 st0_c6_x [] (st0o25.map (wNo [29, 30])) = true := wEdQ_ok lwTchOk st0E25q
theorem st0L26 : wRlk 33 41 43 riWA riWB st0X26.2.1 st0X26.2.2.1 st0X26.2.2.2.1 st0X26.2.2.2.2 ri_in = true := by decide +kernel
set_option maxRecDepth 1000000 in
theorem st0E27q : wEdQ lwTch 39 x_KT x_tb x_tyl x_ov0 u_ct u_hs x_knd lwFR lwGA lwGB 32 41 43 st0WA27 st0WB27 8000 1 60 69 1 60 205 st0_op1 [] st0o27 = true := by decide +kernel
theorem st0E27 : wEd x_KT x_tb x_tyl x_ov0 u_ct u_hs x_knd lwFR lwGA lwGB 32 41 43 st0WA27 st0WB27 8000 1 60 69 1 60 205 st0_op1 [] st0o27 = true := wEdQ_ok lwTchOk st0E27q
set_option maxRecDepth 1000000 in
theorem st0E28q : wEdQ lwTch 39 x_KT x_tb x_tyl x_ov0 u_ct u_hs x_knd lwFR lwGA lwGB 32 41 43 st0WA28 st0WB28 8000 1 60 69 0 60 205 st0_c1_X [] st0o28 = true := by decide +kernel
theorem st0E28 : wEd x_KT x_tb x_tyl x_ov0 u_ct u_hs x_knd lwFR lwGA lwGB 32 41 43 st0WA28 st0WB28 8000 1 60 69 0 60 205 st0_c1_X [] st0o28 = true := wEdQ_ok lwTchOk st0E28q
set_option maxRecDepth 1000000 in
theorem st0E29q : wEdQ lwTch 39 x_KT x_tb x_tyl x_ov0 u_ct u_hs x_knd lwFR lwGA lwGB 32 41 43 st0WA29 st0WB29 8000 1 60 69 1 60 205 st0_c1_F [] st0o29 = true := by decide +kernel
theorem st0E29 : wEd x_KT x_tb x_tyl x_ov0 u_ct u_hs x_knd lwFR lwGA lwGB 32 41 43 st0WA29 st0WB29 8000 1 60 69 1 60 205 st0_c1_F [] st0o29 = true := wEdQ_ok lwTchOk st0E29q
theorem st0L30 : wRlk 36 41 43 mnWA mnWB st0X30.2.1 st0X30.2.2.1 st0X30.2.2.2.1 st0X30.2.2.2.2 mn_in = true := by decide +kernel
theorem st0L31 : wRlk 36 41 43 mnWA mnWB st0X31.2.1 st0X31.2.2.1 st0X31.2.2.2.1 st0X31.2.2.2.2 mn_in = true := by decide +kernel
set_option maxRecDepth 1000000 in
theorem st0E32q : wEdQ lwTch 39 x_KT x_tb x_tyl x_ov0 u_ct u_hs x_knd lwFR lwGA lwGB 32 41 43 st0WA32 st0WB32 8000 1 60 69 1 60 205 st0_op7 [] st0o32 = true := by decide +kernel
theorem st0E32 : wEd x_KT x_tb x_tyl x_ov0 u_ct u_hs x_knd lwFR lwGA lwGB 32 41 43 st0WA32 st0WB32 8000 1 60 69 1 60 205 st0_op7 [] st0o32 = true := wEdQ_ok lwTchOk st0E32q
set_option maxRecDepth 1000000 in
theorem st0E33q : wEdQ lwTch 39 x_KT x_tb x_tyl x_ov0 u_ct u_hs x_knd lwFR lwGA lwGB 32 41 43 st0WA33 st0WB33 8000 1 60 69 1 60 205 st0_c7a_x [] st0o33 = true := by decide +kernel
theorem st0E33 : wEd x_KT x_tb x_tyl x_ov0 u_ct u_hs x_knd lwFR lwGA lwGB 32 41 43 st0WA33 st0WB33 8000 1 60 69 1 60 205 st0_c7a_x [] st0o33 = true := wEdQ_ok lwTchOk st0E33q
set_option maxRecDepth 1000000 in
theorem st0E34q : wEdQ lwTch 39 x_KT x_tb x_tyl x_ov0 u_ct u_hs x_knd lwFR lwGA lwGB 32 41 43 st0WA34 st0WB34 8000 1 60 69 1 60 205 st0_c7b_x [] st0o34 = true := by decide +kernel
theorem st0E34 : wEd x_KT x_tb x_tyl x_ov0 u_ct u_hs x_knd lwFR lwGA lwGB 32 41 43 st0WA34 st0WB34 8000 1 60 69 1 60 205 st0_c7b_x [] st0o34 = true := wEdQ_ok lwTchOk st0E34q
theorem st0L35 : wRlk 36 41 43 mnWA mnWB st0X35.2.1 st0X35.2.2.1 st0X35.2.2.2.1 st0X35.2.2.2.2 mn_in = true := by decide +kernel
theorem st0L36 : wRlk 36 41 43 mnWA mnWB st0X36.2.1 st0X36.2.2.1 st0X36.2.2.2.1 st0X36.2.2.2.2 mn_in = true := by decide +kernel
set_option maxRecDepth 1000000 in
theorem st0E37q : wEdQ lwTch 39 x_KT x_tb x_tyl x_ov0 u_ct u_hs x_knd lwFR lwGA lwGB 32 41 43 st0WA37 st0WB37 8000 1 60 69 1 60 205 st0_op11 [] st0o37 = true := by decide +kernel
theorem st0E37 : wEd x_KT x_tb x_tyl x_ov0 u_ct u_hs x_knd lwFR lwGA lwGB 32 41 43 st0WA37 st0WB37 8000 1 60 69 1 60 205 st0_op11 [] st0o37 = true := wEdQ_ok lwTchOk st0E37q
set_option maxRecDepth 1000000 in
theorem st0E38q : wEdQ lwTch 39 x_KT x_tb x_tyl x_ov0 u_ct u_hs x_knd lwFR lwGA lwGB 32 41 43 st0WA38 st0WB38 8000 1 60 69 1 60 205 st0_c11a_x [] st0o38 = true := by decide +kernel
theorem st0E38 : wEd x_KT x_tb x_tyl x_ov0 u_ct u_hs x_knd lwFR lwGA lwGB 32 41 43 st0WA38 st0WB38 8000 1 60 69 1 60 205 st0_c11a_x [] st0o38 = true := wEdQ_ok lwTchOk st0E38q
set_option maxRecDepth 1000000 in
theorem st0E39q : wEdQ lwTch 39 x_KT x_tb x_tyl x_ov0 u_ct u_hs x_knd lwFR lwGA lwGB 32 41 43 st0WA39 st0WB39 8000 1 60 69 1 60 205 st0_c11b_x [] st0o39 = true := by decide +kernel
theorem st0E39 : wEd x_KT x_tb x_tyl x_ov0 u_ct u_hs x_knd lwFR lwGA lwGB 32 41 43 st0WA39 st0WB39 8000 1 60 69 1 60 205 st0_c11b_x [] st0o39 = true := wEdQ_ok lwTchOk st0E39q
theorem st0L40 : wRlk 36 41 43 leWA leWB st0X40.2.1 st0X40.2.2.1 st0X40.2.2.2.1 st0X40.2.2.2.2 le_in = true := by decide +kernel
set_option maxRecDepth 1000000 in
theorem st0E41q : wEdQ lwTch 39 x_KT x_tb x_tyl x_ov0 u_ct u_hs x_knd lwFR lwGA lwGB 32 41 43 st0WA41 st0WB41 8000 1 60 69 1 60 205 st0_op8 [] st0o41 = true := by decide +kernel
theorem st0E41 : wEd x_KT x_tb x_tyl x_ov0 u_ct u_hs x_knd lwFR lwGA lwGB 32 41 43 st0WA41 st0WB41 8000 1 60 69 1 60 205 st0_op8 [] st0o41 = true := wEdQ_ok lwTchOk st0E41q
set_option maxRecDepth 1000000 in
theorem st0E42q : wEdQ lwTch 39 x_KT x_tb x_tyl x_ov0 u_ct u_hs x_knd lwFR lwGA lwGB 32 41 43 st0WA42 st0WB42 8000 1 60 69 1 60 205 st0_c8_x [] st0o42 = true := by decide +kernel
theorem st0E42 : wEd x_KT x_tb x_tyl x_ov0 u_ct u_hs x_knd lwFR lwGA lwGB 32 41 43 st0WA42 st0WB42 8000 1 60 69 1 60 205 st0_c8_x [] st0o42 = true := wEdQ_ok lwTchOk st0E42q
set_option maxRecDepth 1000000 in
theorem st1E0q : wEdQ lwTch 39 x_KT x_tb x_tyl x_ov0 u_ct u_hs x_knd lwFR lwGA lwGB 34 41 43 st1WA0 st1WB0 8000 0 60 69 0 60 205 st1_gen [.inr (.inr (1, [(lSy 6), (lSy 26)])), .inr (.inl (2008, lK 0))] st1o0 = true := by decide +kernel
theorem st1E0 : wEd x_KT x_tb x_tyl x_ov0 u_ct u_hs x_knd lwFR lwGA lwGB 34 41 43 st1WA0 st1WB0 8000 0 60 69 0 60 205 st1_gen [.inr (.inr (1, [(lSy 6), (lSy 26)])), .inr (.inl (2008, lK 0))] st1o0 = true := wEdQ_ok lwTchOk st1E0q
set_option maxRecDepth 1000000 in
theorem st1E1q : wEdQ lwTch 39 x_KT x_tb x_tyl x_ov0 u_ct u_hs x_knd lwFR lwGA lwGB 34 41 43 st1WA1 st1WB1 8000 0 60 69 0 60 205 st1_lo [.inr (.inr (1, [(lSy 6), (lSy 26)])), .inr (.inl (2008, lK 0))] st1o1 = true := by decide +kernel
theorem st1E1 : wEd x_KT x_tb x_tyl x_ov0 u_ct u_hs x_knd lwFR lwGA lwGB 34 41 43 st1WA1 st1WB1 8000 0 60 69 0 60 205 st1_lo [.inr (.inr (1, [(lSy 6), (lSy 26)])), .inr (.inl (2008, lK 0))] st1o1 = true := wEdQ_ok lwTchOk st1E1q
set_option maxRecDepth 1000000 in
theorem st1E2q : wEdQ lwTch 39 x_KT x_tb x_tyl x_ov0 u_ct u_hs x_knd lwFR lwGA lwGB 34 41 43 st1WA2 st1WB2 8000 0 60 69 0 60 205 st1_hi [.inr (.inr (1, [(lSy 6), (lSy 26)])), .inr (.inl (2008, lK 0))] st1o2 = true := by decide +kernel
theorem st1E2 : wEd x_KT x_tb x_tyl x_ov0 u_ct u_hs x_knd lwFR lwGA lwGB 34 41 43 st1WA2 st1WB2 8000 0 60 69 0 60 205 st1_hi [.inr (.inr (1, [(lSy 6), (lSy 26)])), .inr (.inl (2008, lK 0))] st1o2 = true := wEdQ_ok lwTchOk st1E2q
set_option maxRecDepth 1000000 in
theorem st1E3q : wEdQ lwTch 39 x_KT x_tb x_tyl x_ov0 u_ct u_hs x_knd lwFR lwGA lwGB 34 41 43 st1WA3 st1WB3 8000 0 60 69 0 60 205 st1_ou [.inr (.inr (1, [(lSy 6), (lSy 26)])), .inr (.inl (2008, lK 0))] st1o3 = true := by decide +kernel
theorem st1E3 : wEd x_KT x_tb x_tyl x_ov0 u_ct u_hs x_knd lwFR lwGA lwGB 34 41 43 st1WA3 st1WB3 8000 0 60 69 0 60 205 st1_ou [.inr (.inr (1, [(lSy 6), (lSy 26)])), .inr (.inl (2008, lK 0))] st1o3 = true := wEdQ_ok lwTchOk st1E3q
set_option maxRecDepth 1000000 in
theorem st1E4q : wEdQ lwTch 39 x_KT x_tb x_tyl x_ov0 u_ct u_hs x_knd lwFR lwGA lwGB 34 41 43 st1WA4 st1WB4 8000 1 60 69 1 60 205 st1_M [] st1o4 = true := by decide +kernel
theorem st1E4 : wEd x_KT x_tb x_tyl x_ov0 u_ct u_hs x_knd lwFR lwGA lwGB 34 41 43 st1WA4 st1WB4 8000 1 60 69 1 60 205 st1_M [] st1o4 = true := wEdQ_ok lwTchOk st1E4q
set_option maxRecDepth 1000000 in
theorem st1E5q : wEdQ lwTch 39 x_KT x_tb x_tyl x_ov0 u_ct u_hs x_knd lwFR lwGA lwGB 34 41 43 st1WA5 st1WB5 8000 1 60 69 1 60 205 st1_op2 [] st1o5 = true := by decide +kernel
theorem st1E5 : wEd x_KT x_tb x_tyl x_ov0 u_ct u_hs x_knd lwFR lwGA lwGB 34 41 43 st1WA5 st1WB5 8000 1 60 69 1 60 205 st1_op2 [] st1o5 = true := wEdQ_ok lwTchOk st1E5q
set_option maxRecDepth 1000000 in
theorem st1E6q : wEdQ lwTch 39 x_KT x_tb x_tyl x_ov0 u_ct u_hs x_knd lwFR lwGA lwGB 34 41 43 st1WA6 st1WB6 8000 1 60 69 1 60 205 st1_L2 [.inr (.inr (4, [(lSy 34)]))] (st1o6.map (wNo [34, 35, 36, 37, 38, 31, 32])) = true := by decide +kernel
theorem st1E6 : wEd x_KT x_tb x_tyl x_ov0 u_ct u_hs x_knd lwFR lwGA lwGB 34 41 43 st1WA6 st1WB6 8000 1 60 69 1 60 205 st1_L2 [.inr (.inr (4, [(lSy 34)]))] (st1o6.map (wNo [34, 35, 36, 37, 38, 31, 32])) = true := wEdQ_ok lwTchOk st1E6q
set_option maxRecDepth 1000000 in
theorem st1E6R34 : wRkE x_KT x_tb x_tyl x_ov0 u_ct u_hs x_knd lwFR lwGA lwGB st1VA6_34 st1VB6_34 8000 1 60 69 1 60 205 (st1o6.map (wNo [34, 35, 36, 37, 38, 31, 32])) st1_L2 lwF34 [.inr (.inr (4, [(lSy 34)])), .inr (.inr (9, [(lSy 35)])), .inr (.inl (2008, lK 0))] = true := by decide +kernel
set_option maxRecDepth 1000000 in
theorem st1E6R35 : wRkE x_KT x_tb x_tyl x_ov0 u_ct u_hs x_knd lwFR lwGA lwGB st1VA6_35 st1VB6_35 8000 1 60 69 1 60 205 (st1o6.map (wNo [34, 35, 36, 37, 38, 31, 32])) st1_L2 lwF35 [.inr (.inr (4, [(lSy 34)])), .inl (lAdd (lSy 35) (lSc (-1) (lSy 29))), .inl (lAdd (lSc (-1) (lSy 35)) (lSy 29)), .inr (.inl (0, (lSy 29))), .inr (.inr (10, [])), .inr (.inl (2008, lK 0))] = true := by decide +kernel
set_option maxRecDepth 1000000 in
theorem st1E6R36 : wRkE x_KT x_tb x_tyl x_ov0 u_ct u_hs x_knd lwFR lwGA lwGB st1VA6_36 st1VB6_36 8000 1 60 69 1 60 205 (st1o6.map (wNo [34, 35, 36, 37, 38, 31, 32])) st1_L2 lwF36 [.inr (.inr (4, [(lSy 34)])), .inl (lAdd (lSc (-1) (lSy 35)) (lAdd (lSy 3) (lK (-1)))), .inr (.inr (11, [(lSy 35), (lSy 36)])), .inr (.inl (2008, lK 0))] = true := by decide +kernel
set_option maxRecDepth 1000000 in
theorem st1E6R37 : wRkE x_KT x_tb x_tyl x_ov0 u_ct u_hs x_knd lwFR lwGA lwGB st1VA6_37 st1VB6_37 8000 1 60 69 1 60 205 (st1o6.map (wNo [34, 35, 36, 37, 38, 31, 32])) st1_L2 lwF37 [.inr (.inr (4, [(lSy 34)])), .inl (lAdd (lSc (-1) (lSy 35)) (lAdd (lSy 3) (lK (-1)))), .inr (.inr (12, [(lSy 35), (lSy 36)])), .inr (.inl (2008, lK 0))] = true := by decide +kernel
set_option maxRecDepth 1000000 in
theorem st1E6R38 : wRkE x_KT x_tb x_tyl x_ov0 u_ct u_hs x_knd lwFR lwGA lwGB st1VA6_38 st1VB6_38 8000 1 60 69 1 60 205 (st1o6.map (wNo [34, 35, 36, 37, 38, 31, 32])) st1_L2 lwF38 [.inr (.inr (4, [(lSy 34)])), .inl (lAdd (lSc (-1) (lSy 35)) (lAdd (lSy 3) (lK (-1)))), .inr (.inr (13, [(lSy 35), (lSy 36)])), .inr (.inl (2008, lK 0))] = true := by decide +kernel
set_option maxRecDepth 1000000 in
theorem st1E6R31 : wRkE x_KT x_tb x_tyl x_ov0 u_ct u_hs x_knd lwFR lwGA lwGB st1VA6_31 st1VB6_31 8000 1 60 69 1 60 205 (st1o6.map (wNo [34, 35, 36, 37, 38, 31, 32])) st1_L2 lwF31 [.inr (.inr (4, [(lSy 34)])), .inl (lAdd (lSc (-1) (lSy 35)) (lAdd (lSy 3) (lK (-1)))), .inr (.inr (7, [(lSy 35), (lSy 36)])), .inr (.inl (2008, lK 0))] = true := by decide +kernel
set_option maxRecDepth 1000000 in
theorem st1E6R32 : wRkE x_KT x_tb x_tyl x_ov0 u_ct u_hs x_knd lwFR lwGA lwGB st1VA6_32 st1VB6_32 8000 1 60 69 1 60 205 (st1o6.map (wNo [34, 35, 36, 37, 38, 31, 32])) st1_L2 lwF32 [.inr (.inr (4, [(lSy 34)])), .inl (lAdd (lSc (-1) (lSy 35)) (lAdd (lSy 3) (lK (-1)))), .inr (.inr (8, [(lSy 35), (lSy 36)])), .inr (.inl (2008, lK 0))] = true := by decide +kernel
set_option maxRecDepth 1000000 in
theorem st1E7q : wEdQ lwTch 39 x_KT x_tb x_tyl x_ov0 u_ct u_hs x_knd lwFR lwGA lwGB 34 41 43 st1WA7 st1WB7 8000 1 60 69 1 60 205 st1_M22 [] st1o7 = true := by decide +kernel
theorem st1E7 : wEd x_KT x_tb x_tyl x_ov0 u_ct u_hs x_knd lwFR lwGA lwGB 34 41 43 st1WA7 st1WB7 8000 1 60 69 1 60 205 st1_M22 [] st1o7 = true := wEdQ_ok lwTchOk st1E7q
set_option maxRecDepth 1000000 in
theorem st1E8q : wEdQ lwTch 39 x_KT x_tb x_tyl x_ov0 u_ct u_hs x_knd lwFR lwGA lwGB 34 41 43 st1WA8 st1WB8 8000 1 60 69 1 60 205 st1_F2 [] st1o8 = true := by decide +kernel
theorem st1E8 : wEd x_KT x_tb x_tyl x_ov0 u_ct u_hs x_knd lwFR lwGA lwGB 34 41 43 st1WA8 st1WB8 8000 1 60 69 1 60 205 st1_F2 [] st1o8 = true := wEdQ_ok lwTchOk st1E8q
set_option maxRecDepth 1000000 in
theorem st1E9q : wEdQ lwTch 39 x_KT x_tb x_tyl x_ov0 u_ct u_hs x_knd lwFR lwGA lwGB 34 41 43 st1WA9 st1WB9 8000 1 60 69 1 60 205 st1_op2i [] st1o9 = true := by decide +kernel
theorem st1E9 : wEd x_KT x_tb x_tyl x_ov0 u_ct u_hs x_knd lwFR lwGA lwGB 34 41 43 st1WA9 st1WB9 8000 1 60 69 1 60 205 st1_op2i [] st1o9 = true := wEdQ_ok lwTchOk st1E9q
set_option maxRecDepth 1000000 in
theorem st1E10q : wEdQ lwTch 39 x_KT x_tb x_tyl x_ov0 u_ct u_hs x_knd lwFR lwGA lwGB 34 41 43 st1WA10 st1WB10 8000 1 60 69 1 60 205 st1_L2i [.inr (.inr (4, [(lSy 34)]))] (st1o10.map (wNo [34, 35, 36, 37, 38, 31, 32])) = true := by decide +kernel
theorem st1E10 : wEd x_KT x_tb x_tyl x_ov0 u_ct u_hs x_knd lwFR lwGA lwGB 34 41 43 st1WA10 st1WB10 8000 1 60 69 1 60 205 st1_L2i [.inr (.inr (4, [(lSy 34)]))] (st1o10.map (wNo [34, 35, 36, 37, 38, 31, 32])) = true := wEdQ_ok lwTchOk st1E10q
set_option maxRecDepth 1000000 in
theorem st1E10R34 : wRkE x_KT x_tb x_tyl x_ov0 u_ct u_hs x_knd lwFR lwGA lwGB st1VA10_34 st1VB10_34 8000 1 60 69 1 60 205 (st1o10.map (wNo [34, 35, 36, 37, 38, 31, 32])) st1_L2i lwF34 [.inr (.inr (4, [(lSy 34)])), .inr (.inr (9, [(lSy 35)])), .inr (.inl (2008, lK 0))] = true := by decide +kernel
set_option maxRecDepth 1000000 in
theorem st1E10R35 : wRkE x_KT x_tb x_tyl x_ov0 u_ct u_hs x_knd lwFR lwGA lwGB st1VA10_35 st1VB10_35 8000 1 60 69 1 60 205 (st1o10.map (wNo [34, 35, 36, 37, 38, 31, 32])) st1_L2i lwF35 [.inr (.inr (4, [(lSy 34)])), .inl (lAdd (lSy 35) (lSc (-1) (lSy 29))), .inl (lAdd (lSc (-1) (lSy 35)) (lSy 29)), .inr (.inl (0, (lSy 29))), .inr (.inr (10, [])), .inr (.inl (2008, lK 0))] = true := by decide +kernel
set_option maxRecDepth 1000000 in
theorem st1E10R36 : wRkE x_KT x_tb x_tyl x_ov0 u_ct u_hs x_knd lwFR lwGA lwGB st1VA10_36 st1VB10_36 8000 1 60 69 1 60 205 (st1o10.map (wNo [34, 35, 36, 37, 38, 31, 32])) st1_L2i lwF36 [.inr (.inr (4, [(lSy 34)])), .inl (lAdd (lSc (-1) (lSy 35)) (lAdd (lSy 3) (lK (-1)))), .inr (.inr (11, [(lSy 35), (lSy 36)])), .inr (.inl (2008, lK 0))] = true := by decide +kernel
set_option maxRecDepth 1000000 in
theorem st1E10R37 : wRkE x_KT x_tb x_tyl x_ov0 u_ct u_hs x_knd lwFR lwGA lwGB st1VA10_37 st1VB10_37 8000 1 60 69 1 60 205 (st1o10.map (wNo [34, 35, 36, 37, 38, 31, 32])) st1_L2i lwF37 [.inr (.inr (4, [(lSy 34)])), .inl (lAdd (lSc (-1) (lSy 35)) (lAdd (lSy 3) (lK (-1)))), .inr (.inr (12, [(lSy 35), (lSy 36)])), .inr (.inl (2008, lK 0))] = true := by decide +kernel
set_option maxRecDepth 1000000 in
theorem st1E10R38 : wRkE x_KT x_tb x_tyl x_ov0 u_ct u_hs x_knd lwFR lwGA lwGB st1VA10_38 st1VB10_38 8000 1 60 69 1 60 205 (st1o10.map (wNo [34, 35, 36, 37, 38, 31, 32])) st1_L2i lwF38 [.inr (.inr (4, [(lSy 34)])), .inl (lAdd (lSc (-1) (lSy 35)) (lAdd (lSy 3) (lK (-1)))), .inr (.inr (13, [(lSy 35), (lSy 36)])), .inr (.inl (2008, lK 0))] = true := by decide +kernel
set_option maxRecDepth 1000000 in
theorem st1E10R31 : wRkE x_KT x_tb x_tyl x_ov0 u_ct u_hs x_knd lwFR lwGA lwGB st1VA10_31 st1VB10_31 8000 1 60 69 1 60 205 (st1o10.map (wNo [34, 35, 36, 37, 38, 31, 32])) st1_L2i lwF31 [.inr (.inr (4, [(lSy 34)])), .inl (lAdd (lSc (-1) (lSy 35)) (lAdd (lSy 3) (lK (-1)))), .inr (.inr (7, [(lSy 35), (lSy 36)])), .inr (.inl (2008, lK 0))] = true := by decide +kernel
set_option maxRecDepth 1000000 in
theorem st1E10R32 : wRkE x_KT x_tb x_tyl x_ov0 u_ct u_hs x_knd lwFR lwGA lwGB st1VA10_32 st1VB10_32 8000 1 60 69 1 60 205 (st1o10.map (wNo [34, 35, 36, 37, 38, 31, 32])) st1_L2i lwF32 [.inr (.inr (4, [(lSy 34)])), .inl (lAdd (lSc (-1) (lSy 35)) (lAdd (lSy 3) (lK (-1)))), .inr (.inr (8, [(lSy 35), (lSy 36)])), .inr (.inl (2008, lK 0))] = true := by decide +kernel
set_option maxRecDepth 1000000 in
theorem st1E11q : wEdQ lwTch 39 x_KT x_tb x_tyl x_ov0 u_ct u_hs x_knd lwFR lwGA lwGB 34 41 43 st1WA11 st1WB11 8000 1 60 69 1 60 205 st1_M22i [] st1o11 = true := by decide +kernel
theorem st1E11 : wEd x_KT x_tb x_tyl x_ov0 u_ct u_hs x_knd lwFR lwGA lwGB 34 41 43 st1WA11 st1WB11 8000 1 60 69 1 60 205 st1_M22i [] st1o11 = true := wEdQ_ok lwTchOk st1E11q
set_option maxRecDepth 1000000 in
theorem st1E12q : wEdQ lwTch 39 x_KT x_tb x_tyl x_ov0 u_ct u_hs x_knd lwFR lwGA lwGB 34 41 43 st1WA12 st1WB12 8000 1 60 69 1 60 205 st1_F2i [] st1o12 = true := by decide +kernel
theorem st1E12 : wEd x_KT x_tb x_tyl x_ov0 u_ct u_hs x_knd lwFR lwGA lwGB 34 41 43 st1WA12 st1WB12 8000 1 60 69 1 60 205 st1_F2i [] st1o12 = true := wEdQ_ok lwTchOk st1E12q
set_option maxRecDepth 1000000 in
theorem st1E13q : wEdQ lwTch 39 x_KT x_tb x_tyl x_ov0 u_ct u_hs x_knd lwFR lwGA lwGB 34 41 43 st1WA13 st1WB13 8000 1 60 69 1 60 205 st1_op9 [] st1o13 = true := by decide +kernel
theorem st1E13 : wEd x_KT x_tb x_tyl x_ov0 u_ct u_hs x_knd lwFR lwGA lwGB 34 41 43 st1WA13 st1WB13 8000 1 60 69 1 60 205 st1_op9 [] st1o13 = true := wEdQ_ok lwTchOk st1E13q
set_option maxRecDepth 1000000 in
theorem st1E14q : wEdQ lwTch 39 x_KT x_tb x_tyl x_ov0 u_ct u_hs x_knd lwFR lwGA lwGB 34 41 43 st1WA14 st1WB14 8000 1 60 69 1 60 205 st1_op10 [] st1o14 = true := by decide +kernel
theorem st1E14 : wEd x_KT x_tb x_tyl x_ov0 u_ct u_hs x_knd lwFR lwGA lwGB 34 41 43 st1WA14 st1WB14 8000 1 60 69 1 60 205 st1_op10 [] st1o14 = true := wEdQ_ok lwTchOk st1E14q
set_option maxRecDepth 1000000 in
theorem st1E15q : wEdQ lwTch 39 x_KT x_tb x_tyl x_ov0 u_ct u_hs x_knd lwFR lwGA lwGB 34 41 43 st1WA15 st1WB15 8000 1 60 69 1 60 205 st1_op0 [] st1o15 = true := by decide +kernel
theorem st1E15 : wEd x_KT x_tb x_tyl x_ov0 u_ct u_hs x_knd lwFR lwGA lwGB 34 41 43 st1WA15 st1WB15 8000 1 60 69 1 60 205 st1_op0 [] st1o15 = true := wEdQ_ok lwTchOk st1E15q
set_option maxRecDepth 1000000 in
theorem st1E16q : wEdQ lwTch 39 x_KT x_tb x_tyl x_ov0 u_ct u_hs x_knd lwFR lwGA lwGB 34 41 43 st1WA16 st1WB16 8000 1 60 69 1 60 205 st1_L0 [] (st1o16.map (wNo [30, 29])) = true := by decide +kernel
theorem st1E16 : wEd x_KT x_tb x_tyl x_ov0 u_ct u_hs x_knd lwFR lwGA lwGB 34 41 43 st1WA16 st1WB16 8000 1 60 69 1 60 205 st1_L0 [] (st1o16.map (wNo [30, 29])) = true := wEdQ_ok lwTchOk st1E16q
set_option maxRecDepth 1000000 in
theorem st1E17q : wEdQ lwTch 39 x_KT x_tb x_tyl x_ov0 u_ct u_hs x_knd lwFR lwGA lwGB 34 41 43 st1WA17 st1WB17 8000 1 60 69 1 60 205 st1_op1 [] st1o17 = true := by decide +kernel
theorem st1E17 : wEd x_KT x_tb x_tyl x_ov0 u_ct u_hs x_knd lwFR lwGA lwGB 34 41 43 st1WA17 st1WB17 8000 1 60 69 1 60 205 st1_op1 [] st1o17 = true := wEdQ_ok lwTchOk st1E17q
set_option maxRecDepth 1000000 in
theorem st1E18q : wEdQ lwTch 39 x_KT x_tb x_tyl x_ov0 u_ct u_hs x_knd lwFR lwGA lwGB 34 41 43 st1WA18 st1WB18 8000 1 60 69 1 60 205 st1_F1 [] st1o18 = true := by decide +kernel
theorem st1E18 : wEd x_KT x_tb x_tyl x_ov0 u_ct u_hs x_knd lwFR lwGA lwGB 34 41 43 st1WA18 st1WB18 8000 1 60 69 1 60 205 st1_F1 [] st1o18 = true := wEdQ_ok lwTchOk st1E18q
set_option maxRecDepth 1000000 in
theorem st1E19q : wEdQ lwTch 39 x_KT x_tb x_tyl x_ov0 u_ct u_hs x_knd lwFR lwGA lwGB 34 41 43 st1WA19 st1WB19 8000 1 60 69 0 60 205 st1_M1 [] st1o19 = true := by decide +kernel
theorem st1E19 : wEd x_KT x_tb x_tyl x_ov0 u_ct u_hs x_knd lwFR lwGA lwGB 34 41 43 st1WA19 st1WB19 8000 1 60 69 0 60 205 st1_M1 [] st1o19 = true := wEdQ_ok lwTchOk st1E19q
set_option maxRecDepth 1000000 in
theorem st1E20q : wEdQ lwTch 39 x_KT x_tb x_tyl x_ov0 u_ct u_hs x_knd lwFR lwGA lwGB 34 41 43 st1WA20 st1WB20 8000 1 60 69 1 60 205 st1_L1 [.inr (.inr (8, [(lSy 6), (lSy 27)])), .inr (.inl (2008, lK 0))] (st1o20.map (wNo [30, 29])) = true := by decide +kernel
theorem st1E20 : wEd x_KT x_tb x_tyl x_ov0 u_ct u_hs x_knd lwFR lwGA lwGB 34 41 43 st1WA20 st1WB20 8000 1 60 69 1 60 205 st1_L1 [.inr (.inr (8, [(lSy 6), (lSy 27)])), .inr (.inl (2008, lK 0))] (st1o20.map (wNo [30, 29])) = true := wEdQ_ok lwTchOk st1E20q
set_option maxRecDepth 1000000 in
theorem st1E21q : wEdQ lwTch 39 x_KT x_tb x_tyl x_ov0 u_ct u_hs x_knd lwFR lwGA lwGB 34 41 43 st1WA21 st1WB21 8000 1 60 69 1 60 205 st1_op3 [] st1o21 = true := by decide +kernel
theorem st1E21 : wEd x_KT x_tb x_tyl x_ov0 u_ct u_hs x_knd lwFR lwGA lwGB 34 41 43 st1WA21 st1WB21 8000 1 60 69 1 60 205 st1_op3 [] st1o21 = true := wEdQ_ok lwTchOk st1E21q
set_option maxRecDepth 1000000 in
theorem st1E22q : wEdQ lwTch 39 x_KT x_tb x_tyl x_ov0 u_ct u_hs x_knd lwFR lwGA lwGB 34 41 43 st1WA22 st1WB22 8000 1 60 69 1 60 205 st1_L3 [] (st1o22.map (wNo [30, 29])) = true := by decide +kernel
theorem st1E22 : wEd x_KT x_tb x_tyl x_ov0 u_ct u_hs x_knd lwFR lwGA lwGB 34 41 43 st1WA22 st1WB22 8000 1 60 69 1 60 205 st1_L3 [] (st1o22.map (wNo [30, 29])) = true := wEdQ_ok lwTchOk st1E22q
set_option maxRecDepth 1000000 in
theorem st1E23q : wEdQ lwTch 39 x_KT x_tb x_tyl x_ov0 u_ct u_hs x_knd lwFR lwGA lwGB 34 41 43 st1WA23 st1WB23 8000 1 60 69 1 60 205 st1_op4 [] st1o23 = true := by decide +kernel
theorem st1E23 : wEd x_KT x_tb x_tyl x_ov0 u_ct u_hs x_knd lwFR lwGA lwGB 34 41 43 st1WA23 st1WB23 8000 1 60 69 1 60 205 st1_op4 [] st1o23 = true := wEdQ_ok lwTchOk st1E23q
set_option maxRecDepth 1000000 in
theorem st1E24q : wEdQ lwTch 39 x_KT x_tb x_tyl x_ov0 u_ct u_hs x_knd lwFR lwGA lwGB 34 41 43 st1WA24 st1WB24 8000 1 60 69 1 60 205 st1_L4 [.inr (.inr (4, [(lSy 35)]))] (st1o24.map (wNo [30, 29])) = true := by decide +kernel
theorem st1E24 : wEd x_KT x_tb x_tyl x_ov0 u_ct u_hs x_knd lwFR lwGA lwGB 34 41 43 st1WA24 st1WB24 8000 1 60 69 1 60 205 st1_L4 [.inr (.inr (4, [(lSy 35)]))] (st1o24.map (wNo [30, 29])) = true := wEdQ_ok lwTchOk st1E24q
set_option maxRecDepth 1000000 in
theorem st1E25q : wEdQ lwTch 39 x_KT x_tb x_tyl x_ov0 u_ct u_hs x_knd lwFR lwGA lwGB 34 41 43 st1WA25 st1WB25 8000 1 60 69 1 60 205 st1_op5 [] st1o25 = true := by decide +kernel
theorem st1E25 : wEd x_KT x_tb x_tyl x_ov0 u_ct u_hs x_knd lwFR lwGA lwGB 34 41 43 st1WA25 st1WB25 8000 1 60 69 1 60 205 st1_op5 [] st1o25 = true := wEdQ_ok lwTchOk st1E25q
set_option maxRecDepth 1000000 in
theorem st1E26q : wEdQ lwTch 39 x_KT x_tb x_tyl x_ov0 u_ct u_hs x_knd lwFR lwGA lwGB 34 41 43 st1WA26 st1WB26 8000 1 60 69 1 60 205 st1_L5 [.inr (.inr (4, [(lSy 34)])), .inr (.inr (4, [(lSy 35)]))] (st1o26.map (wNo [30, 29])) = true := by decide +kernel
theorem st1E26 : wEd x_KT x_tb x_tyl x_ov0 u_ct u_hs x_knd lwFR lwGA lwGB 34 41 43 st1WA26 st1WB26 8000 1 60 69 1 60 205 st1_L5 [.inr (.inr (4, [(lSy 34)])), .inr (.inr (4, [(lSy 35)]))] (st1o26.map (wNo [30, 29])) = true := wEdQ_ok lwTchOk st1E26q
end XRuC14
