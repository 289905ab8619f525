/-! Runs: checks, 11. -/
noncomputable section XRuC11
set_option maxRecDepth 1000000 in
theorem rip1E2R47 : wRkE x_KT x_tb x_tyl x_ov0 u_ct u_hs x_knd lwFR lwGA lwGB rip1VA2_47 rip1VB2_47 8000 1 60 72 1 60 205 (rip1o2.map (wNo [41, 47])) rip1_c_x lwF47 [.inl (lAdd (lSc (-1) (lSy 43)) (lAdd (lSy 3) (lK (-1)))), .inr (.inr (34, []))] = true := by decide +kernel
set_option maxRecDepth 1000000 in
theorem mnp1E0q : wEdQ lwTch 48 x_KT x_tb x_tyl x_ov0 u_ct u_hs x_knd lwFR lwGA lwGB 44 35 45 mnp1WA0 mnp1WB0 8000 1 60 76 1 60 209 mnp1_in [.inr (.inr (32, [(lSy 40)])), .inr (.inr (30, [(lSy 6), (lSy 40)])), .inr (.inl (2008, lK 0))] mnp1o0 = true := by decide +kernel
theorem mnp1E0 : wEd x_KT x_tb x_tyl x_ov0 u_ct u_hs x_knd lwFR lwGA lwGB 44 35 45 mnp1WA0 mnp1WB0 8000 1 60 76 1 60 209 mnp1_in [.inr (.inr (32, [(lSy 40)])), .inr (.inr (30, [(lSy 6), (lSy 40)])), .inr (.inl (2008, lK 0))] mnp1o0 = true := wEdQ_ok lwTchOk mnp1E0q
theorem lep1L0 : wRlk 44 35 45 mnp1WA mnp1WB lep1X0.2.1 lep1X0.2.2.1 lep1X0.2.2.2.1 lep1X0.2.2.2.2 mnp1_in = true := by decide +kernel
set_option maxRecDepth 1000000 in
theorem lep1E1q : wEdQ lwTch 48 x_KT x_tb x_tyl x_ov0 u_ct u_hs x_knd lwFR lwGA lwGB 44 35 45 lep1WA1 lep1WB1 8000 0 60 69 1 60 210 lep1_in [] lep1o1 = true := by decide +kernel
theorem lep1E1 : wEd x_KT x_tb x_tyl x_ov0 u_ct u_hs x_knd lwFR lwGA lwGB 44 35 45 lep1WA1 lep1WB1 8000 0 60 69 1 60 210 lep1_in [] lep1o1 = true := wEdQ_ok lwTchOk lep1E1q
set_option maxRecDepth 1000000 in
theorem lep1E2q : wEdQ lwTch 48 x_KT x_tb x_tyl x_ov0 u_ct u_hs x_knd lwFR lwGA lwGB 44 35 45 lep1WA2 lep1WB2 8000 1 60 69 1 60 210 lep1_c_x [.inl (lAdd (lSy 25) (lK (-1))), .inl (lAdd (lSy 25) (lK (-2)))] lep1o2 = true := by decide +kernel
theorem lep1E2 : wEd x_KT x_tb x_tyl x_ov0 u_ct u_hs x_knd lwFR lwGA lwGB 44 35 45 lep1WA2 lep1WB2 8000 1 60 69 1 60 210 lep1_c_x [.inl (lAdd (lSy 25) (lK (-1))), .inl (lAdd (lSy 25) (lK (-2)))] lep1o2 = true := wEdQ_ok lwTchOk lep1E2q
set_option maxRecDepth 1000000 in
theorem sp1E0q : wEdQ lwTch 48 x_KT x_tb x_tyl x_ov0 u_ct u_hs x_knd lwFR lwGA lwGB 40 35 45 sp1WA0 sp1WB0 8000 0 60 69 0 60 205 sp1_in [.inr (.inr (1, [(lSy 6), (lSy 31)])), .inr (.inl (2008, lK 0))] sp1o0 = true := by decide +kernel
theorem sp1E0 : wEd x_KT x_tb x_tyl x_ov0 u_ct u_hs x_knd lwFR lwGA lwGB 40 35 45 sp1WA0 sp1WB0 8000 0 60 69 0 60 205 sp1_in [.inr (.inr (1, [(lSy 6), (lSy 31)])), .inr (.inl (2008, lK 0))] sp1o0 = true := wEdQ_ok lwTchOk sp1E0q
set_option maxRecDepth 1000000 in
theorem sp1E1q : wEdQ lwTch 48 x_KT x_tb x_tyl x_ov0 u_ct u_hs x_knd lwFR lwGA lwGB 40 35 45 sp1WA1 sp1WB1 8000 1 60 69 1 60 205 sp1_M [] sp1o1 = true := by decide +kernel
theorem sp1E1 : wEd x_KT x_tb x_tyl x_ov0 u_ct u_hs x_knd lwFR lwGA lwGB 40 35 45 sp1WA1 sp1WB1 8000 1 60 69 1 60 205 sp1_M [] sp1o1 = true := wEdQ_ok lwTchOk sp1E1q
set_option maxRecDepth 1000000 in
theorem sp1E2q : wEdQ lwTch 48 x_KT x_tb x_tyl x_ov0 u_ct u_hs x_knd lwFR lwGA lwGB 40 35 45 sp1WA2 sp1WB2 8000 1 60 69 1 60 205 sp1_op2 [] sp1o2 = true := by decide +kernel
theorem sp1E2 : wEd x_KT x_tb x_tyl x_ov0 u_ct u_hs x_knd lwFR lwGA lwGB 40 35 45 sp1WA2 sp1WB2 8000 1 60 69 1 60 205 sp1_op2 [] sp1o2 = true := wEdQ_ok lwTchOk sp1E2q
set_option maxRecDepth 1000000 in
theorem sp1E3q : wEdQ lwTch 48 x_KT x_tb x_tyl x_ov0 u_ct u_hs x_knd lwFR lwGA lwGB 40 35 45 sp1WA3 sp1WB3 8000 1 60 69 1 60 205 sp1_L [.inr (.inr (32, [(lSy 40)]))] (sp1o3.map (wNo [5, 6, 7, 9, 10, 8, 43, 44, 31])) = true := by decide +kernel
theorem sp1E3 : wEd x_KT x_tb x_tyl x_ov0 u_ct u_hs x_knd lwFR lwGA lwGB 40 35 45 sp1WA3 sp1WB3 8000 1 60 69 1 60 205 sp1_L [.inr (.inr (32, [(lSy 40)]))] (sp1o3.map (wNo [5, 6, 7, 9, 10, 8, 43, 44, 31])) = true := wEdQ_ok lwTchOk sp1E3q
set_option maxRecDepth 1000000 in
theorem sp1E3G0 : gRk x_KT x_tb x_tyl x_ov0 u_ct u_hs x_knd lwFR lwGA lwGB sp1E3G0VA sp1E3G0VB 8000 1 60 69 1 60 205 (sp1o3.map (wNo [5, 6, 7, 9, 10, 8, 43, 44, 31])) sp1_L lwF5 [.inr (.inr (32, [(lSy 40)])), .inr (.inr (14, [(lSy 41)])), .inr (.inr (8, [(lSy 41)])), .inr (.inr (9, [(lSy 41)])), .inr (.inr (7, [(lSy 41)]))] [(false, 3, [.inr (lSy 41), .inl 3, .inl 0, .inr (lSy 42)]), (true, 31, [.inr (lSy 41), .inr (lSy 42)]), (false, 3, [.inr (lSy 41), .inl 4, .inl 0, .inr (lSy 42)]), (true, 33, [.inr (lSy 41), .inr (lSy 42)]), (false, 3, [.inr (lSy 41), .inl 2, .inl 0, .inr (lSy 42)]), (true, 29, [.inr (lSy 41), .inr (lSy 42)])] sp1E3G0I = true := by decide +kernel
set_option maxRecDepth 1000000 in
theorem sp1E3R43 : wRkE x_KT x_tb x_tyl x_ov0 u_ct u_hs x_knd lwFR lwGA lwGB sp1VA3_43 sp1VB3_43 8000 1 60 69 1 60 205 (sp1o3.map (wNo [5, 6, 7, 9, 10, 8, 43, 44, 31])) sp1_L lwF43 [.inr (.inr (32, [(lSy 40)])), .inl (lAdd (lSy 41) (lSc (-1) (lSy 34))), .inl (lAdd (lSc (-1) (lSy 41)) (lSy 34)), .inr (.inl (0, (lSy 34))), .inr (.inr (33, [])), .inr (.inl (2008, lK 0))] = true := by decide +kernel
set_option maxRecDepth 1000000 in
theorem sp1E3R44 : wRkE x_KT x_tb x_tyl x_ov0 u_ct u_hs x_knd lwFR lwGA lwGB sp1VA3_44 sp1VB3_44 8000 1 60 69 1 60 205 (sp1o3.map (wNo [5, 6, 7, 9, 10, 8, 43, 44, 31])) sp1_L lwF44 [.inr (.inr (32, [(lSy 40)])), .inr (.inr (3, [])), .inr (.inr (31, [])), .inr (.inl (2008, lK 0))] = true := by decide +kernel
set_option maxRecDepth 1000000 in
theorem sp1E3R31 : wRkE x_KT x_tb x_tyl x_ov0 u_ct u_hs x_knd lwFR lwGA lwGB sp1VA3_31 sp1VB3_31 8000 1 60 69 1 60 205 (sp1o3.map (wNo [5, 6, 7, 9, 10, 8, 43, 44, 31])) sp1_L lwF31 [.inr (.inr (32, [(lSy 40)])), .inl (lAdd (lSc (-1) (lSy 41)) (lAdd (lSy 3) (lK (-1)))), .inr (.inr (28, [(lSy 41), (lSy 42)])), .inr (.inl (2008, lK 0))] = true := by decide +kernel
set_option maxRecDepth 1000000 in
theorem sp1E4q : wEdQ lwTch 48 x_KT x_tb x_tyl x_ov0 u_ct u_hs x_knd lwFR lwGA lwGB 40 35 45 sp1WA4 sp1WB4 8000 1 60 69 1 60 205 sp1_M2 [] sp1o4 = true := by decide +kernel
theorem sp1E4 : wEd x_KT x_tb x_tyl x_ov0 u_ct u_hs x_knd lwFR lwGA lwGB 40 35 45 sp1WA4 sp1WB4 8000 1 60 69 1 60 205 sp1_M2 [] sp1o4 = true := wEdQ_ok lwTchOk sp1E4q
set_option maxRecDepth 1000000 in
theorem sp1E5q : wEdQ lwTch 48 x_KT x_tb x_tyl x_ov0 u_ct u_hs x_knd lwFR lwGA lwGB 40 35 45 sp1WA5 sp1WB5 8000 1 60 69 1 60 205 sp1_F [] sp1o5 = true := by decide +kernel
theorem sp1E5 : wEd x_KT x_tb x_tyl x_ov0 u_ct u_hs x_knd lwFR lwGA lwGB 40 35 45 sp1WA5 sp1WB5 8000 1 60 69 1 60 205 sp1_F [] sp1o5 = true := wEdQ_ok lwTchOk sp1E5q
set_option maxRecDepth 1000000 in
theorem sp1E6q : wEdQ lwTch 48 x_KT x_tb x_tyl x_ov0 u_ct u_hs x_knd lwFR lwGA lwGB 40 35 45 sp1WA6 sp1WB6 8000 1 60 69 1 60 205 sp1_op9 [] sp1o6 = true := by decide +kernel
theorem sp1E6 : wEd x_KT x_tb x_tyl x_ov0 u_ct u_hs x_knd lwFR lwGA lwGB 40 35 45 sp1WA6 sp1WB6 8000 1 60 69 1 60 205 sp1_op9 [] sp1o6 = true := wEdQ_ok lwTchOk sp1E6q
set_option maxRecDepth 1000000 in
theorem sp1E7q : wEdQ lwTch 48 x_KT x_tb x_tyl x_ov0 u_ct u_hs x_knd lwFR lwGA lwGB 40 35 45 sp1WA7 sp1WB7 8000 1 60 69 1 60 205 sp1_op10 [] sp1o7 = true := by decide +kernel
theorem sp1E7 : wEd x_KT x_tb x_tyl x_ov0 u_ct u_hs x_knd lwFR lwGA lwGB 40 35 45 sp1WA7 sp1WB7 8000 1 60 69 1 60 205 sp1_op10 [] sp1o7 = true := wEdQ_ok lwTchOk sp1E7q
theorem sp1L8 : wRlk 42 35 45 ctp1WA ctp1WB sp1X8.2.1 sp1X8.2.2.1 sp1X8.2.2.2.1 sp1X8.2.2.2.2 ctp1_in = true := by decide +kernel
set_option maxRecDepth 1000000 in
theorem sp1E9q : wEdQ lwTch 48 x_KT x_tb x_tyl x_ov0 u_ct u_hs x_knd lwFR lwGA lwGB 40 35 45 sp1WA9 sp1WB9 8000 1 60 69 1 60 205 sp1_op0 [] sp1o9 = true := by decide +kernel
theorem sp1E9 : wEd x_KT x_tb x_tyl x_ov0 u_ct u_hs x_knd lwFR lwGA lwGB 40 35 45 sp1WA9 sp1WB9 8000 1 60 69 1 60 205 sp1_op0 [] sp1o9 = true := wEdQ_ok lwTchOk sp1E9q
set_option maxRecDepth 1000000 in
theorem sp1E10q : wEdQ lwTch 48 x_KT x_tb x_tyl x_ov0 u_ct u_hs x_knd lwFR lwGA lwGB 40 35 45 sp1WA10 sp1WB10 8000 1 60 69 1 60 205 sp1_c0_x [] (sp1o10.map (wNo [41])) = true := by decide +kernel
theorem sp1E10 : wEd x_KT x_tb x_tyl x_ov0 u_ct u_hs x_knd lwFR lwGA lwGB 40 35 45 sp1WA10 sp1WB10 8000 1 60 69 1 60 205 sp1_c0_x [] (sp1o10.map (wNo [41])) = true := wEdQ_ok lwTchOk sp1E10q
set_option maxRecDepth 1000000 in
theorem sp1E10G0 : gRk x_KT x_tb x_tyl x_ov0 u_ct u_hs x_knd lwFR lwGA lwGB sp1E10G0VA sp1E10G0VB 8000 1 60 69 1 60 205 (sp1o10.map (wNo [41])) sp1_c0_x lwF41 [.inl (lAdd (lSy 43) (lSc (-1) (lSy 40))), .inl (lAdd (lSc (-1) (lSy 43)) (lSy 40)), .inr (.inl (0, (lSy 40))), .inr (.inr (32, [(lSy 40)])), .inr (.inr (32, []))] [] sp1E10G0I = true := by decide +kernel
theorem sp1L11 : wRlk 42 35 45 ctp1WA ctp1WB sp1X11.2.1 sp1X11.2.2.1 sp1X11.2.2.2.1 sp1X11.2.2.2.2 ctp1_in = true := by decide +kernel
set_option maxRecDepth 1000000 in
theorem sp1E12q : wEdQ lwTch 48 x_KT x_tb x_tyl x_ov0 u_ct u_hs x_knd lwFR lwGA lwGB 40 35 45 sp1WA12 sp1WB12 8000 1 60 69 1 60 205 sp1_op3 [] sp1o12 = true := by decide +kernel
theorem sp1E12 : wEd x_KT x_tb x_tyl x_ov0 u_ct u_hs x_knd lwFR lwGA lwGB 40 35 45 sp1WA12 sp1WB12 8000 1 60 69 1 60 205 sp1_op3 [] sp1o12 = true := wEdQ_ok lwTchOk sp1E12q
set_option maxRecDepth 1000000 in
theorem sp1E13q : wEdQ lwTch 48 x_KT x_tb x_tyl x_ov0 u_ct u_hs x_knd lwFR lwGA lwGB 40 35 45 sp1WA13 sp1WB13 8000 1 60 69 1 60 205 sp1_c3_x [] (sp1o13.map (wNo [41])) = true := by decide +kernel
theorem sp1E13 : wEd x_KT x_tb x_tyl x_ov0 u_ct u_hs x_knd lwFR lwGA lwGB 40 35 45 sp1WA13 sp1WB13 8000 1 60 69 1 60 205 sp1_c3_x [] (sp1o13.map (wNo [41])) = true := wEdQ_ok lwTchOk sp1E13q
set_option maxRecDepth 1000000 in
theorem sp1E13G0 : gRk x_KT x_tb x_tyl x_ov0 u_ct u_hs x_knd lwFR lwGA lwGB sp1E13G0VA sp1E13G0VB 8000 1 60 69 1 60 205 (sp1o13.map (wNo [41])) sp1_c3_x lwF41 [.inl (lAdd (lSy 43) (lSc (-1) (lSy 40))), .inl (lAdd (lSc (-1) (lSy 43)) (lSy 40)), .inr (.inl (0, (lSy 40))), .inr (.inr (32, [(lSy 40)])), .inr (.inr (32, []))] [] sp1E13G0I = true := by decide +kernel
theorem sp1L14 : wRlk 42 35 45 ctp1WA ctp1WB sp1X14.2.1 sp1X14.2.2.1 sp1X14.2.2.2.1 sp1X14.2.2.2.2 ctp1_in = true := by decide +kernel
set_option maxRecDepth 1000000 in
theorem sp1E15q : wEdQ lwTch 48 x_KT x_tb x_tyl x_ov0 u_ct u_hs x_knd lwFR lwGA lwGB 40 35 45 sp1WA15 sp1WB15 8000 1 60 69 1 60 205 sp1_op4 [.inr (.inr (32, [(lSy 41)]))] sp1o15 = true := by decide +kernel
theorem sp1E15 : wEd x_KT x_tb x_tyl x_ov0 u_ct u_hs x_knd lwFR lwGA lwGB 40 35 45 sp1WA15 sp1WB15 8000 1 60 69 1 60 205 sp1_op4 [.inr (.inr (32, [(lSy 41)]))] sp1o15 = true := wEdQ_ok lwTchOk sp1E15q
set_option maxRecDepth 1000000 in
theorem sp1E16q : wEdQ lwTch 48 x_KT x_tb x_tyl x_ov0 u_ct u_hs x_knd lwFR lwGA lwGB 40 35 45 sp1WA16 sp1WB16 8000 1 60 69 1 60 205 sp1_c4_x [] (sp1o16.map (wNo [41])) = true := by decide +kernel
theorem sp1E16 : wEd x_KT x_tb x_tyl x_ov0 u_ct u_hs x_knd lwFR lwGA lwGB 40 35 45 sp1WA16 sp1WB16 8000 1 60 69 1 60 205 sp1_c4_x [] (sp1o16.map (wNo [41])) = true := wEdQ_ok lwTchOk sp1E16q
set_option maxRecDepth 1000000 in
theorem sp1E16G0 : gRk x_KT x_tb x_tyl x_ov0 u_ct u_hs x_knd lwFR lwGA lwGB sp1E16G0VA sp1E16G0VB 8000 1 60 69 1 60 205 (sp1o16.map (wNo [41])) sp1_c4_x lwF41 [.inl (lAdd (lSy 43) (lSc (-1) (lSy 40))), .inl (lAdd (lSc (-1) (lSy 43)) (lSy 40)), .inr (.inl (0, (lSy 40))), .inr (.inr (32, [(lSy 40)])), .inr (.inr (32, []))] [] sp1E16G0I = true := by decide +kernel
theorem sp1L17 : wRlk 42 35 45 ctp1WA ctp1WB sp1X17.2.1 sp1X17.2.2.1 sp1X17.2.2.2.1 sp1X17.2.2.2.2 ctp1_in = true := by decide +kernel
set_option maxRecDepth 1000000 in
theorem sp1E18q : wEdQ lwTch 48 x_KT x_tb x_tyl x_ov0 u_ct u_hs x_knd lwFR lwGA lwGB 40 35 45 sp1WA18 sp1WB18 8000 1 60 69 1 60 205 sp1_op5 [.inr (.inr (32, [(lSy 40)])), .inr (.inr (32, [(lSy 41)]))] sp1o18 = true := by decide +kernel
theorem sp1E18 : wEd x_KT x_tb x_tyl x_ov0 u_ct u_hs x_knd lwFR lwGA lwGB 40 35 45 sp1WA18 sp1WB18 8000 1 60 69 1 60 205 sp1_op5 [.inr (.inr (32, [(lSy 40)])), .inr (.inr (32, [(lSy 41)]))] sp1o18 = true := wEdQ_ok lwTchOk sp1E18q
set_option maxRecDepth 1000000 in
theorem sp1E19q : wEdQ lwTch 48 x_KT x_tb x_tyl x_ov0 u_ct u_hs x_knd lwFR lwGA lwGB 40 35 45 sp1WA19 sp1WB19 8000 1 60 69 1 60 205 sp1_c5_x [] (sp1o19.map (wNo [41])) = true := by decide +kernel
theorem sp1E19 : wEd x_KT x_tb x_tyl x_ov0 u_ct u_hs x_knd lwFR lwGA lwGB 40 35 45 sp1WA19 sp1WB19 8000 1 60 69 1 60 205 sp1_c5_x [] (sp1o19.map (wNo [41])) = true := wEdQ_ok lwTchOk sp1E19q
set_option maxRecDepth 1000000 in
theorem sp1E19G0 : gRk x_KT x_tb x_tyl x_ov0 u_ct u_hs x_knd lwFR lwGA lwGB sp1E19G0VA sp1E19G0VB 8000 1 60 69 1 60 205 (sp1o19.map (wNo [41])) sp1_c5_x lwF41 [.inl (lAdd (lSy 43) (lSc (-1) (lSy 40))), .inl (lAdd (lSc (-1) (lSy 43)) (lSy 40)), .inr (.inl (0, (lSy 40))), .inr (.inr (32, [(lSy 40)])), .inr (.inr (32, []))] [] sp1E19G0I = true := by decide +kernel
theorem sp1L20 : wRlk 42 35 45 ctp1WA ctp1WB sp1X20.2.1 sp1X20.2.2.1 sp1X20.2.2.2.1 sp1X20.2.2.2.2 ctp1_in = true := by decide +kernel
set_option maxRecDepth 1000000 in
theorem sp1E21q : wEdQ lwTch 48 x_KT x_tb x_tyl x_ov0 u_ct u_hs x_knd lwFR lwGA lwGB 40 35 45 sp1WA21 sp1WB21 8000 1 60 69 1 60 205 sp1_op6 [.inr (.inr (32, [(lSy 40)])), .inr (.inr (32, [(lSy 41)]))] sp1o21 = true := by decide +kernel
theorem sp1E21 : wEd x_KT x_tb x_tyl x_ov0 u_ct u_hs x_knd lwFR lwGA lwGB 40 35 45 sp1WA21 sp1WB21 8000 1 60 69 1 60 205 sp1_op6 [.inr (.inr (32, [(lSy 40)])), .inr (.inr (32, [(lSy 41)]))] sp1o21 = true := wEdQ_ok lwTchOk sp1E21q
set_option maxRecDepth 1000000 in
theorem sp1E22q : wEdQ lwTch 48 x_KT x_tb x_tyl x_ov0 u_ct u_hs x_knd lwFR lwGA lwGB 40 35 45 sp1WA22 sp1WB22 8000 1 60 69 1 60 205 sp1_c6_x [] (sp1o22.map (wNo [41])) = true := by decide +kernel
theorem sp1E22 : wEd x_KT x_tb x_tyl x_ov0 u_ct u_hs x_knd lwFR lwGA lwGB 40 35 45 sp1WA22 sp1WB22 8000 1 60 69 1 60 205 sp1_c6_x [] (sp1o22.map (wNo [41])) = true := wEdQ_ok lwTchOk sp1E22q
set_option maxRecDepth 1000000 in
theorem sp1E22G0 : gRk x_KT x_tb x_tyl x_ov0 u_ct u_hs x_knd lwFR lwGA lwGB sp1E22G0VA sp1E22G0VB 8000 1 60 69 1 60 205 (sp1o22.map (wNo [41])) sp1_c6_x lwF41 [.inl (lAdd (lSy 43) (lSc (-1) (lSy 40))), .inl (lAdd (lSc (-1) (lSy 43)) (lSy 40)), .inr (.inl (0, (lSy 40))), .inr (.inr (32, [(lSy 40)])), .inr (.inr (32, []))] [] sp1E22G0I = true := by decide +kernel
theorem sp1L23 : wRlk 41 35 45 rip1WA rip1WB sp1X23.2.1 sp1X23.2.2.1 sp1X23.2.2.2.1 sp1X23.2.2.2.2 rip1_in = true := by decide +kernel
set_option maxRecDepth 1000000 in
theorem sp1E24q : wEdQ lwTch 48 x_KT x_tb x_tyl x_ov0 u_ct u_hs x_knd lwFR lwGA lwGB 40 35 45 sp1WA24 sp1WB24 8000 1 60 69 1 60 205 sp1_op1 [] sp1o24 = true := by decide +kernel
theorem sp1E24 : wEd x_KT x_tb x_tyl x_ov0 u_ct u_hs x_knd lwFR lwGA lwGB 40 35 45 sp1WA24 sp1WB24 8000 1 60 69 1 60 205 sp1_op1 [] sp1o24 = true := wEdQ_ok lwTchOk sp1E24q
set_option maxRecDepth 1000000 in
theorem sp1E25q : wEdQ lwTch 48 x_KT x_tb x_tyl x_ov0 u_ct u_hs x_knd lwFR lwGA lwGB 40 35 45 sp1WA25 sp1WB25 8000 1 60 69 0 60 205 sp1_c1_X [] sp1o25 = true := by decide +kernel
theorem sp1E25 : wEd x_KT x_tb x_tyl x_ov0 u_ct u_hs x_knd lwFR lwGA lwGB 40 35 45 sp1WA25 sp1WB25 8000 1 60 69 0 60 205 sp1_c1_X [] sp1o25 = true := wEdQ_ok lwTchOk sp1E25q
set_option maxRecDepth 1000000 in
theorem sp1E26q : wEdQ lwTch 48 x_KT x_tb x_tyl x_ov0 u_ct u_hs x_knd lwFR lwGA lwGB 40 35 45 sp1WA26 sp1WB26 8000 1 60 69 1 60 205 sp1_c1_F [] sp1o26 = true := by decide +kernel
theorem sp1E26 : wEd x_KT x_tb x_tyl x_ov0 u_ct u_hs x_knd lwFR lwGA lwGB 40 35 45 sp1WA26 sp1WB26 8000 1 60 69 1 60 205 sp1_c1_F [] sp1o26 = true := wEdQ_ok lwTchOk sp1E26q
theorem sp1L27 : wRlk 44 35 45 mnp1WA mnp1WB sp1X27.2.1 sp1X27.2.2.1 sp1X27.2.2.2.1 sp1X27.2.2.2.2 mnp1_in = true := by decide +kernel
theorem sp1L28 : wRlk 44 35 45 mnp1WA mnp1WB sp1X28.2.1 sp1X28.2.2.1 sp1X28.2.2.2.1 sp1X28.2.2.2.2 mnp1_in = true := by decide +kernel
set_option maxRecDepth 1000000 in
theorem sp1E29q : wEdQ lwTch 48 x_KT x_tb x_tyl x_ov0 u_ct u_hs x_knd lwFR lwGA lwGB 40 35 45 sp1WA29 sp1WB29 8000 1 60 69 1 60 205 sp1_op7 [] sp1o29 = true := by decide +kernel
theorem sp1E29 : wEd x_KT x_tb x_tyl x_ov0 u_ct u_hs x_knd lwFR lwGA lwGB 40 35 45 sp1WA29 sp1WB29 8000 1 60 69 1 60 205 sp1_op7 [] sp1o29 = true := wEdQ_ok lwTchOk sp1E29q
set_option maxRecDepth 1000000 in
theorem sp1E30q : wEdQ lwTch 48 x_KT x_tb x_tyl x_ov0 u_ct u_hs x_knd lwFR lwGA lwGB 40 35 45 sp1WA30 sp1WB30 8000 1 60 69 1 60 205 sp1_c7a_x [] sp1o30 = true := by decide +kernel
theorem sp1E30 : wEd x_KT x_tb x_tyl x_ov0 u_ct u_hs x_knd lwFR lwGA lwGB 40 35 45 sp1WA30 sp1WB30 8000 1 60 69 1 60 205 sp1_c7a_x [] sp1o30 = true := wEdQ_ok lwTchOk sp1E30q
set_option maxRecDepth 1000000 in
theorem sp1E31q : wEdQ lwTch 48 x_KT x_tb x_tyl x_ov0 u_ct u_hs x_knd lwFR lwGA lwGB 40 35 45 sp1WA31 sp1WB31 8000 1 60 69 1 60 205 sp1_c7b_x [] sp1o31 = true := by decide +kernel
theorem sp1E31 : wEd x_KT x_tb x_tyl x_ov0 u_ct u_hs x_knd lwFR lwGA lwGB 40 35 45 sp1WA31 sp1WB31 8000 1 60 69 1 60 205 sp1_c7b_x [] sp1o31 = true := wEdQ_ok lwTchOk sp1E31q
theorem sp1L32 : wRlk 44 35 45 mnp1WA mnp1WB sp1X32.2.1 sp1X32.2.2.1 sp1X32.2.2.2.1 sp1X32.2.2.2.2 mnp1_in = true := by decide +kernel
theorem sp1L33 : wRlk 44 35 45 mnp1WA mnp1WB sp1X33.2.1 sp1X33.2.2.1 sp1X33.2.2.2.1 sp1X33.2.2.2.2 mnp1_in = true := by decide +kernel
set_option maxRecDepth 1000000 in
theorem sp1E34q : wEdQ lwTch 48 x_KT x_tb x_tyl x_ov0 u_ct u_hs x_knd lwFR lwGA lwGB 40 35 45 sp1WA34 sp1WB34 8000 1 60 69 1 60 205 sp1_op11 [] sp1o34 = true := by decide +kernel
theorem sp1E34 : wEd x_KT x_tb x_tyl x_ov0 u_ct u_hs x_knd lwFR lwGA lwGB 40 35 45 sp1WA34 sp1WB34 8000 1 60 69 1 60 205 sp1_op11 [] sp1o34 = true := wEdQ_ok lwTchOk sp1E34q
set_option maxRecDepth 1000000 in
theorem sp1E35q : wEdQ lwTch 48 x_KT x_tb x_tyl x_ov0 u_ct u_hs x_knd lwFR lwGA lwGB 40 35 45 sp1WA35 sp1WB35 8000 1 60 69 1 60 205 sp1_c11a_x [] sp1o35 = true := by decide +kernel
theorem sp1E35 : wEd x_KT x_tb x_tyl x_ov0 u_ct u_hs x_knd lwFR lwGA lwGB 40 35 45 sp1WA35 sp1WB35 8000 1 60 69 1 60 205 sp1_c11a_x [] sp1o35 = true := wEdQ_ok lwTchOk sp1E35q
set_option maxRecDepth 1000000 in
theorem sp1E36q : wEdQ lwTch 48 x_KT x_tb x_tyl x_ov0 u_ct u_hs x_knd lwFR lwGA lwGB 40 35 45 sp1WA36 sp1WB36 8000 1 60 69 1 60 205 sp1_c11b_x [] sp1o36 = true := by decide +kernel
theorem sp1E36 : wEd x_KT x_tb x_tyl x_ov0 u_ct u_hs x_knd lwFR lwGA lwGB 40 35 45 sp1WA36 sp1WB36 8000 1 60 69 1 60 205 sp1_c11b_x [] sp1o36 = true := wEdQ_ok lwTchOk sp1E36q
theorem sp1L37 : wRlk 44 35 45 lep1WA lep1WB sp1X37.2.1 sp1X37.2.2.1 sp1X37.2.2.2.1 sp1X37.2.2.2.2 lep1_in = true := by decide +kernel
set_option maxRecDepth 1000000 in
theorem sp1E38q : wEdQ lwTch 48 x_KT x_tb x_tyl x_ov0 u_ct u_hs x_knd lwFR lwGA lwGB 40 35 45 sp1WA38 sp1WB38 8000 1 60 69 1 60 205 sp1_op8 [] sp1o38 = true := by decide +kernel
theorem sp1E38 : wEd x_KT x_tb x_tyl x_ov0 u_ct u_hs x_knd lwFR lwGA lwGB 40 35 45 sp1WA38 sp1WB38 8000 1 60 69 1 60 205 sp1_op8 [] sp1o38 = true := wEdQ_ok lwTchOk sp1E38q
set_option maxRecDepth 1000000 in
theorem sp1E39q : wEdQ lwTch 48 x_KT x_tb x_tyl x_ov0 u_ct u_hs x_knd lwFR lwGA lwGB 40 35 45 sp1WA39 sp1WB39 8000 1 60 69 1 60 205 sp1_c8_x [] sp1o39 = true := by decide +kernel
theorem sp1E39 : wEd x_KT x_tb x_tyl x_ov0 u_ct u_hs x_knd lwFR lwGA lwGB 40 35 45 sp1WA39 sp1WB39 8000 1 60 69 1 60 205 sp1_c8_x [] sp1o39 = true := wEdQ_ok lwTchOk sp1E39q
set_option maxRecDepth 1000000 in
theorem sb1E0q : wEdQ lwTch 48 x_KT x_tb x_tyl x_ov0 u_ct u_hs x_knd lwFR lwGA lwGB 43 35 45 sb1WA0 sb1WB0 8000 0 60 113 0 60 205 sb1_in [.inr (.inr (1, [(lSy 6), (lSy 38)])), .inr (.inl (2008, lK 0))] sb1o0 = true := by decide +kernel
theorem sb1E0 : wEd x_KT x_tb x_tyl x_ov0 u_ct u_hs x_knd lwFR lwGA lwGB 43 35 45 sb1WA0 sb1WB0 8000 0 60 113 0 60 205 sb1_in [.inr (.inr (1, [(lSy 6), (lSy 38)])), .inr (.inl (2008, lK 0))] sb1o0 = true := wEdQ_ok lwTchOk sb1E0q
set_option maxRecDepth 1000000 in
theorem sb1E1q : wEdQ lwTch 48 x_KT x_tb x_tyl x_ov0 u_ct u_hs x_knd lwFR lwGA lwGB 43 35 45 sb1WA1 sb1WB1 8000 0 60 113 1 60 205 sb1_op0 [] (sb1o1.map (wNo [41])) = true := by decide +kernel
theorem sb1E1 : wEd x_KT x_tb x_tyl x_ov0 u_ct u_hs x_knd lwFR lwGA lwGB 43 35 45 sb1WA1 sb1WB1 8000 0 60 113 1 60 205 sb1_op0 [] (sb1o1.map (wNo [41])) = true := wEdQ_ok lwTchOk sb1E1q
set_option maxRecDepth 1000000 in
theorem sb1E1R41 : wRkE x_KT x_tb x_tyl x_ov0 u_ct u_hs x_knd lwFR lwGA lwGB sb1VA1_41 sb1VB1_41 8000 0 60 113 1 60 205 (sb1o1.map (wNo [41])) sb1_op0 lwF41 [.inr (.inr (3, [])), .inr (.inr (32, []))] = true := by decide +kernel
set_option maxRecDepth 1000000 in
theorem sb1E2q : wEdQ lwTch 48 x_KT x_tb x_tyl x_ov0 u_ct u_hs x_knd lwFR lwGA lwGB 43 35 45 sb1WA2 sb1WB2 8000 0 60 113 1 60 205 sb1_op1 [.inr (.inr (34, [(lSy 6)])), .inr (.inl (2008, lK 0))] (sb1o2.map (wNo [41, 47])) = true := by decide +kernel
theorem sb1E2 : wEd x_KT x_tb x_tyl x_ov0 u_ct u_hs x_knd lwFR lwGA lwGB 43 35 45 sb1WA2 sb1WB2 8000 0 60 113 1 60 205 sb1_op1 [.inr (.inr (34, [(lSy 6)])), .inr (.inl (2008, lK 0))] (sb1o2.map (wNo [41, 47])) = true := wEdQ_ok lwTchOk sb1E2q
set_option maxRecDepth 1000000 in
theorem sb1E2R41 : wRkE x_KT x_tb x_tyl x_ov0 u_ct u_hs x_knd lwFR lwGA lwGB sb1VA2_41 sb1VB2_41 8000 0 60 113 1 60 205 (sb1o2.map (wNo [41, 47])) sb1_op1 lwF41 [.inr (.inr (34, [(lSy 6)])), .inr (.inl (2008, lK 0)), .inr (.inr (3, [])), .inr (.inr (32, []))] = true := by decide +kernel
end XRuC11
