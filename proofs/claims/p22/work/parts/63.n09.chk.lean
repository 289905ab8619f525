/-! Runs: checks, 9. -/
noncomputable section XRuC9
set_option maxRecDepth 1000000 in
theorem ctp0E0q : wEdQ lwTch 48 x_KT x_tb x_tyl x_ov0 u_ct u_hs x_knd lwFR lwGA lwGB 42 35 45 ctp0WA0 ctp0WB0 8000 1 60 70 1 60 206 ctp0_in [.inr (.inr (2, [(lSy 6), (lSy 40)])), .inr (.inl (2008, lK 0))] ctp0o0 = true := by decide +kernel
theorem ctp0E0 : wEd x_KT x_tb x_tyl x_ov0 u_ct u_hs x_knd lwFR lwGA lwGB 42 35 45 ctp0WA0 ctp0WB0 8000 1 60 70 1 60 206 ctp0_in [.inr (.inr (2, [(lSy 6), (lSy 40)])), .inr (.inl (2008, lK 0))] ctp0o0 = true := wEdQ_ok lwTchOk ctp0E0q
theorem rip0L0 : wRlk 42 35 45 ctp0WA ctp0WB rip0X0.2.1 rip0X0.2.2.1 rip0X0.2.2.2.1 rip0X0.2.2.2.2 ctp0_in = true := by decide +kernel
set_option maxRecDepth 1000000 in
theorem rip0E1q : wEdQ lwTch 48 x_KT x_tb x_tyl x_ov0 u_ct u_hs x_knd lwFR lwGA lwGB 41 35 45 rip0WA1 rip0WB1 8000 1 60 72 1 60 205 rip0_in [.inr (.inr (29, [(lSy 6), (lSy 32)])), .inr (.inl (2008, lK 0))] rip0o1 = true := by decide +kernel
theorem rip0E1 : wEd x_KT x_tb x_tyl x_ov0 u_ct u_hs x_knd lwFR lwGA lwGB 41 35 45 rip0WA1 rip0WB1 8000 1 60 72 1 60 205 rip0_in [.inr (.inr (29, [(lSy 6), (lSy 32)])), .inr (.inl (2008, lK 0))] rip0o1 = true := wEdQ_ok lwTchOk rip0E1q
set_option maxRecDepth 1000000 in
theorem rip0E2q : wEdQ lwTch 48 x_KT x_tb x_tyl x_ov0 u_ct u_hs x_knd lwFR lwGA lwGB 41 35 45 rip0WA2 rip0WB2 8000 1 60 72 1 60 205 rip0_c_x [] (rip0o2.map (wNo [29, 40, 47])) = true := by decide +kernel
theorem rip0E2 : wEd x_KT x_tb x_tyl x_ov0 u_ct u_hs x_knd lwFR lwGA lwGB 41 35 45 rip0WA2 rip0WB2 8000 1 60 72 1 60 205 rip0_c_x [] (rip0o2.map (wNo [29, 40, 47])) = true := wEdQ_ok lwTchOk rip0E2q
set_option maxRecDepth 1000000 in
theorem rip0E2G0 : gRk x_KT x_tb x_tyl x_ov0 u_ct u_hs x_knd lwFR lwGA lwGB rip0E2G0VA rip0E2G0VB 8000 1 60 72 1 60 205 (rip0o2.map (wNo [29, 40, 47])) rip0_c_x lwF29 [.inl (lAdd (lSy 43) (lSc (-1) (lSy 40))), .inl (lAdd (lSc (-1) (lSy 43)) (lSy 40)), .inr (.inr (30, [(lSy 43)])), .inr (.inr (30, [(lSy 40)])), .inr (.inl (0, (lSy 40))), .inr (.inr (31, [(lSy 40)])), .inr (.inr (31, []))] [] rip0E2G0I = true := by decide +kernel
set_option maxRecDepth 1000000 in
theorem rip0E2R47 : wRkE x_KT x_tb x_tyl x_ov0 u_ct u_hs x_knd lwFR lwGA lwGB rip0VA2_47 rip0VB2_47 8000 1 60 72 1 60 205 (rip0o2.map (wNo [29, 40, 47])) rip0_c_x lwF47 [.inl (lAdd (lSc (-1) (lSy 43)) (lAdd (lSy 3) (lK (-1)))), .inr (.inr (33, []))] = true := by decide +kernel
set_option maxRecDepth 1000000 in
theorem mnp0E0q : wEdQ lwTch 48 x_KT x_tb x_tyl x_ov0 u_ct u_hs x_knd lwFR lwGA lwGB 44 35 45 mnp0WA0 mnp0WB0 8000 1 60 76 1 60 209 mnp0_in [.inr (.inr (31, [(lSy 40)])), .inr (.inr (2, [(lSy 6), (lSy 40)])), .inr (.inl (2008, lK 0))] mnp0o0 = true := by decide +kernel
theorem mnp0E0 : wEd x_KT x_tb x_tyl x_ov0 u_ct u_hs x_knd lwFR lwGA lwGB 44 35 45 mnp0WA0 mnp0WB0 8000 1 60 76 1 60 209 mnp0_in [.inr (.inr (31, [(lSy 40)])), .inr (.inr (2, [(lSy 6), (lSy 40)])), .inr (.inl (2008, lK 0))] mnp0o0 = true := wEdQ_ok lwTchOk mnp0E0q
theorem lep0L0 : wRlk 44 35 45 mnp0WA mnp0WB lep0X0.2.1 lep0X0.2.2.1 lep0X0.2.2.2.1 lep0X0.2.2.2.2 mnp0_in = true := by decide +kernel
set_option maxRecDepth 1000000 in
theorem lep0E1q : wEdQ lwTch 48 x_KT x_tb x_tyl x_ov0 u_ct u_hs x_knd lwFR lwGA lwGB 44 35 45 lep0WA1 lep0WB1 8000 0 60 69 1 60 210 lep0_in [] lep0o1 = true := by decide +kernel
theorem lep0E1 : wEd x_KT x_tb x_tyl x_ov0 u_ct u_hs x_knd lwFR lwGA lwGB 44 35 45 lep0WA1 lep0WB1 8000 0 60 69 1 60 210 lep0_in [] lep0o1 = true := wEdQ_ok lwTchOk lep0E1q
set_option maxRecDepth 1000000 in
theorem lep0E2q : wEdQ lwTch 48 x_KT x_tb x_tyl x_ov0 u_ct u_hs x_knd lwFR lwGA lwGB 44 35 45 lep0WA2 lep0WB2 8000 1 60 69 1 60 210 lep0_c_x [.inl (lAdd (lSy 25) (lK (-1))), .inl (lAdd (lSy 25) (lK (-2)))] lep0o2 = true := by decide +kernel
theorem lep0E2 : wEd x_KT x_tb x_tyl x_ov0 u_ct u_hs x_knd lwFR lwGA lwGB 44 35 45 lep0WA2 lep0WB2 8000 1 60 69 1 60 210 lep0_c_x [.inl (lAdd (lSy 25) (lK (-1))), .inl (lAdd (lSy 25) (lK (-2)))] lep0o2 = true := wEdQ_ok lwTchOk lep0E2q
set_option maxRecDepth 1000000 in
theorem sp0E0q : wEdQ lwTch 48 x_KT x_tb x_tyl x_ov0 u_ct u_hs x_knd lwFR lwGA lwGB 40 35 45 sp0WA0 sp0WB0 8000 0 60 69 0 60 205 sp0_in [.inr (.inr (1, [(lSy 6), (lSy 31)])), .inr (.inl (2008, lK 0))] sp0o0 = true := by decide +kernel
theorem sp0E0 : wEd x_KT x_tb x_tyl x_ov0 u_ct u_hs x_knd lwFR lwGA lwGB 40 35 45 sp0WA0 sp0WB0 8000 0 60 69 0 60 205 sp0_in [.inr (.inr (1, [(lSy 6), (lSy 31)])), .inr (.inl (2008, lK 0))] sp0o0 = true := wEdQ_ok lwTchOk sp0E0q
set_option maxRecDepth 1000000 in
theorem sp0E1q : wEdQ lwTch 48 x_KT x_tb x_tyl x_ov0 u_ct u_hs x_knd lwFR lwGA lwGB 40 35 45 sp0WA1 sp0WB1 8000 1 60 69 1 60 205 sp0_M [] sp0o1 = true := by decide +kernel
theorem sp0E1 : wEd x_KT x_tb x_tyl x_ov0 u_ct u_hs x_knd lwFR lwGA lwGB 40 35 45 sp0WA1 sp0WB1 8000 1 60 69 1 60 205 sp0_M [] sp0o1 = true := wEdQ_ok lwTchOk sp0E1q
set_option maxRecDepth 1000000 in
theorem sp0E2q : wEdQ lwTch 48 x_KT x_tb x_tyl x_ov0 u_ct u_hs x_knd lwFR lwGA lwGB 40 35 45 sp0WA2 sp0WB2 8000 1 60 69 1 60 205 sp0_op2 [] sp0o2 = true := by decide +kernel
theorem sp0E2 : wEd x_KT x_tb x_tyl x_ov0 u_ct u_hs x_knd lwFR lwGA lwGB 40 35 45 sp0WA2 sp0WB2 8000 1 60 69 1 60 205 sp0_op2 [] sp0o2 = true := wEdQ_ok lwTchOk sp0E2q
set_option maxRecDepth 1000000 in
theorem sp0E3q : wEdQ lwTch 48 x_KT x_tb x_tyl x_ov0 u_ct u_hs x_knd lwFR lwGA lwGB 40 35 45 sp0WA3 sp0WB3 8000 1 60 69 1 60 205 sp0_L [.inr (.inr (31, [(lSy 40)]))] (sp0o3.map (wNo [5, 6, 7, 9, 10, 8, 42, 31])) = true := by decide +kernel
theorem sp0E3 : wEd x_KT x_tb x_tyl x_ov0 u_ct u_hs x_knd lwFR lwGA lwGB 40 35 45 sp0WA3 sp0WB3 8000 1 60 69 1 60 205 sp0_L [.inr (.inr (31, [(lSy 40)]))] (sp0o3.map (wNo [5, 6, 7, 9, 10, 8, 42, 31])) = true := wEdQ_ok lwTchOk sp0E3q
set_option maxRecDepth 1000000 in
theorem sp0E3G0 : gRk x_KT x_tb x_tyl x_ov0 u_ct u_hs x_knd lwFR lwGA lwGB sp0E3G0VA sp0E3G0VB 8000 1 60 69 1 60 205 (sp0o3.map (wNo [5, 6, 7, 9, 10, 8, 42, 31])) sp0_L lwF5 [.inr (.inr (31, [(lSy 40)])), .inr (.inr (15, [(lSy 41)])), .inr (.inr (9, [(lSy 41)])), .inr (.inr (10, [(lSy 41)])), .inr (.inr (8, [(lSy 41)]))] [(false, 3, [.inr (lSy 41), .inl 3, .inl 0, .inr (lSy 42)]), (true, 31, [.inr (lSy 41), .inr (lSy 42)]), (false, 3, [.inr (lSy 41), .inl 4, .inl 0, .inr (lSy 42)]), (true, 33, [.inr (lSy 41), .inr (lSy 42)]), (false, 3, [.inr (lSy 41), .inl 2, .inl 0, .inr (lSy 42)]), (true, 29, [.inr (lSy 41), .inr (lSy 42)])] sp0E3G0I = true := by decide +kernel
set_option maxRecDepth 1000000 in
theorem sp0E3R42 : wRkE x_KT x_tb x_tyl x_ov0 u_ct u_hs x_knd lwFR lwGA lwGB sp0VA3_42 sp0VB3_42 8000 1 60 69 1 60 205 (sp0o3.map (wNo [5, 6, 7, 9, 10, 8, 42, 31])) sp0_L lwF42 [.inr (.inr (31, [(lSy 40)])), .inl (lAdd (lSy 41) (lSc (-1) (lSy 34))), .inl (lAdd (lSc (-1) (lSy 41)) (lSy 34)), .inr (.inl (0, (lSy 34))), .inr (.inr (32, [])), .inr (.inl (2008, lK 0))] = true := by decide +kernel
set_option maxRecDepth 1000000 in
theorem sp0E3R31 : wRkE x_KT x_tb x_tyl x_ov0 u_ct u_hs x_knd lwFR lwGA lwGB sp0VA3_31 sp0VB3_31 8000 1 60 69 1 60 205 (sp0o3.map (wNo [5, 6, 7, 9, 10, 8, 42, 31])) sp0_L lwF31 [.inr (.inr (31, [(lSy 40)])), .inl (lAdd (lSc (-1) (lSy 41)) (lAdd (lSy 3) (lK (-1)))), .inr (.inr (29, [(lSy 41), (lSy 42)])), .inr (.inl (2008, lK 0))] = true := by decide +kernel
set_option maxRecDepth 1000000 in
theorem sp0E4q : wEdQ lwTch 48 x_KT x_tb x_tyl x_ov0 u_ct u_hs x_knd lwFR lwGA lwGB 40 35 45 sp0WA4 sp0WB4 8000 1 60 69 1 60 205 sp0_M2 [] sp0o4 = true := by decide +kernel
theorem sp0E4 : wEd x_KT x_tb x_tyl x_ov0 u_ct u_hs x_knd lwFR lwGA lwGB 40 35 45 sp0WA4 sp0WB4 8000 1 60 69 1 60 205 sp0_M2 [] sp0o4 = true := wEdQ_ok lwTchOk sp0E4q
set_option maxRecDepth 1000000 in
theorem sp0E5q : wEdQ lwTch 48 x_KT x_tb x_tyl x_ov0 u_ct u_hs x_knd lwFR lwGA lwGB 40 35 45 sp0WA5 sp0WB5 8000 1 60 69 1 60 205 sp0_F [] sp0o5 = true := by decide +kernel
theorem sp0E5 : wEd x_KT x_tb x_tyl x_ov0 u_ct u_hs x_knd lwFR lwGA lwGB 40 35 45 sp0WA5 sp0WB5 8000 1 60 69 1 60 205 sp0_F [] sp0o5 = true := wEdQ_ok lwTchOk sp0E5q
set_option maxRecDepth 1000000 in
theorem sp0E6q : wEdQ lwTch 48 x_KT x_tb x_tyl x_ov0 u_ct u_hs x_knd lwFR lwGA lwGB 40 35 45 sp0WA6 sp0WB6 8000 1 60 69 1 60 205 sp0_op9 [] sp0o6 = true := by decide +kernel
theorem sp0E6 : wEd x_KT x_tb x_tyl x_ov0 u_ct u_hs x_knd lwFR lwGA lwGB 40 35 45 sp0WA6 sp0WB6 8000 1 60 69 1 60 205 sp0_op9 [] sp0o6 = true := wEdQ_ok lwTchOk sp0E6q
set_option maxRecDepth 1000000 in
theorem sp0E7q : wEdQ lwTch 48 x_KT x_tb x_tyl x_ov0 u_ct u_hs x_knd lwFR lwGA lwGB 40 35 45 sp0WA7 sp0WB7 8000 1 60 69 1 60 205 sp0_op10 [] sp0o7 = true := by decide +kernel
theorem sp0E7 : wEd x_KT x_tb x_tyl x_ov0 u_ct u_hs x_knd lwFR lwGA lwGB 40 35 45 sp0WA7 sp0WB7 8000 1 60 69 1 60 205 sp0_op10 [] sp0o7 = true := wEdQ_ok lwTchOk sp0E7q
theorem sp0L8 : wRlk 42 35 45 ctp0WA ctp0WB sp0X8.2.1 sp0X8.2.2.1 sp0X8.2.2.2.1 sp0X8.2.2.2.2 ctp0_in = true := by decide +kernel
set_option maxRecDepth 1000000 in
theorem sp0E9q : wEdQ lwTch 48 x_KT x_tb x_tyl x_ov0 u_ct u_hs x_knd lwFR lwGA lwGB 40 35 45 sp0WA9 sp0WB9 8000 1 60 69 1 60 205 sp0_op0 [] sp0o9 = true := by decide +kernel
theorem sp0E9 : wEd x_KT x_tb x_tyl x_ov0 u_ct u_hs x_knd lwFR lwGA lwGB 40 35 45 sp0WA9 sp0WB9 8000 1 60 69 1 60 205 sp0_op0 [] sp0o9 = true := wEdQ_ok lwTchOk sp0E9q
set_option maxRecDepth 1000000 in
theorem sp0E10q : wEdQ lwTch 48 x_KT x_tb x_tyl x_ov0 u_ct u_hs x_knd lwFR lwGA lwGB 40 35 45 sp0WA10 sp0WB10 8000 1 60 69 1 60 205 sp0_c0_x [] (sp0o10.map (wNo [29, 40])) = true := by decide +kernel
theorem sp0E10 : wEd x_KT x_tb x_tyl x_ov0 u_ct u_hs x_knd lwFR lwGA lwGB 40 35 45 sp0WA10 sp0WB10 8000 1 60 69 1 60 205 sp0_c0_x [] (sp0o10.map (wNo [29, 40])) = true := wEdQ_ok lwTchOk sp0E10q
set_option maxRecDepth 1000000 in
theorem sp0E10G0 : gRk x_KT x_tb x_tyl x_ov0 u_ct u_hs x_knd lwFR lwGA lwGB sp0E10G0VA sp0E10G0VB 8000 1 60 69 1 60 205 (sp0o10.map (wNo [29, 40])) sp0_c0_x lwF29 [.inl (lAdd (lSy 43) (lSc (-1) (lSy 40))), .inl (lAdd (lSc (-1) (lSy 43)) (lSy 40)), .inr (.inr (30, [(lSy 43)])), .inr (.inr (30, [(lSy 40)])), .inr (.inl (0, (lSy 40))), .inr (.inr (31, [(lSy 40)])), .inr (.inr (31, []))] [] sp0E10G0I = true := by decide +kernel
theorem sp0L11 : wRlk 42 35 45 ctp0WA ctp0WB sp0X11.2.1 sp0X11.2.2.1 sp0X11.2.2.2.1 sp0X11.2.2.2.2 ctp0_in = true := by decide +kernel
set_option maxRecDepth 1000000 in
theorem sp0E12q : wEdQ lwTch 48 x_KT x_tb x_tyl x_ov0 u_ct u_hs x_knd lwFR lwGA lwGB 40 35 45 sp0WA12 sp0WB12 8000 1 60 69 1 60 205 sp0_op3 [] sp0o12 = true := by decide +kernel
theorem sp0E12 : wEd x_KT x_tb x_tyl x_ov0 u_ct u_hs x_knd lwFR lwGA lwGB 40 35 45 sp0WA12 sp0WB12 8000 1 60 69 1 60 205 sp0_op3 [] sp0o12 = true := wEdQ_ok lwTchOk sp0E12q
set_option maxRecDepth 1000000 in
theorem sp0E13q : wEdQ lwTch 48 x_KT x_tb x_tyl x_ov0 u_ct u_hs x_knd lwFR lwGA lwGB 40 35 45 sp0WA13 sp0WB13 8000 1 60 69 1 60 205 sp0_c3_x [] (sp0o13.map (wNo [29, 40])) = true := by decide +kernel
theorem sp0E13 : wEd x_KT x_tb x_tyl x_ov0 u_ct u_hs x_knd lwFR lwGA lwGB 40 35 45 sp0WA13 sp0WB13 8000 1 60 69 1 60 205 sp0_c3_x [] (sp0o13.map (wNo [29, 40])) = true := wEdQ_ok lwTchOk sp0E13q
set_option maxRecDepth 1000000 in
theorem sp0E13G0 : gRk x_KT x_tb x_tyl x_ov0 u_ct u_hs x_knd lwFR lwGA lwGB sp0E13G0VA sp0E13G0VB 8000 1 60 69 1 60 205 (sp0o13.map (wNo [29, 40])) sp0_c3_x lwF29 [.inl (lAdd (lSy 43) (lSc (-1) (lSy 40))), .inl (lAdd (lSc (-1) (lSy 43)) (lSy 40)), .inr (.inr (30, [(lSy 43)])), .inr (.inr (30, [(lSy 40)])), .inr (.inl (0, (lSy 40))), .inr (.inr (31, [(lSy 40)])), .inr (.inr (31, []))] [] sp0E13G0I = true := by decide +kernel
theorem sp0L14 : wRlk 42 35 45 ctp0WA ctp0WB sp0X14.2.1 sp0X14.2.2.1 sp0X14.2.2.2.1 sp0X14.2.2.2.2 ctp0_in = true := by decide +kernel
set_option maxRecDepth 1000000 in
theorem sp0E15q : wEdQ lwTch 48 x_KT x_tb x_tyl x_ov0 u_ct u_hs x_knd lwFR lwGA lwGB 40 35 45 sp0WA15 sp0WB15 8000 1 60 69 1 60 205 sp0_op4 [.inr (.inr (31, [(lSy 41)]))] sp0o15 = true := by decide +kernel
theorem sp0E15 : wEd x_KT x_tb x_tyl x_ov0 u_ct u_hs x_knd lwFR lwGA lwGB 40 35 45 sp0WA15 sp0WB15 8000 1 60 69 1 60 205 sp0_op4 [.inr (.inr (31, [(lSy 41)]))] sp0o15 = true := wEdQ_ok lwTchOk sp0E15q
set_option maxRecDepth 1000000 in
theorem sp0E16q : wEdQ lwTch 48 x_KT x_tb x_tyl x_ov0 u_ct u_hs x_knd lwFR lwGA lwGB 40 35 45 sp0WA16 sp0WB16 8000 1 60 69 1 60 205 sp0_c4_x [] (sp0o16.map (wNo [29, 40])) = true := by decide +kernel
theorem sp0E16 : wEd x_KT x_tb x_tyl x_ov0 u_ct u_hs x_knd lwFR lwGA lwGB 40 35 45 sp0WA16 sp0WB16 8000 1 60 69 1 60 205 sp0_c4_x [] (sp0o16.map (wNo [29, 40])) = true := wEdQ_ok lwTchOk sp0E16q
set_option maxRecDepth 1000000 in
theorem sp0E16G0 : gRk x_KT x_tb x_tyl x_ov0 u_ct u_hs x_knd lwFR lwGA lwGB sp0E16G0VA sp0E16G0VB 8000 1 60 69 1 60 205 (sp0o16.map (wNo [29, 40])) sp0_c4_x lwF29 [.inl (lAdd (lSy 43) (lSc (-1) (lSy 40))), .inl (lAdd (lSc (-1) (lSy 43)) (lSy 40)), .inr (.inr (30, [(lSy 43)])), .inr (.inr (30, [(lSy 40)])), .inr (.inl (0, (lSy 40))), .inr (.inr (31, [(lSy 40)])), .inr (.inr (31, []))] [] sp0E16G0I = true := by decide +kernel
theorem sp0L17 : wRlk 42 35 45 ctp0WA ctp0WB sp0X17.2.1 sp0X17.2.2.1 sp0X17.2.2.2.1 sp0X17.2.2.2.2 ctp0_in = true := by decide +kernel
set_option maxRecDepth 1000000 in
theorem sp0E18q : wEdQ lwTch 48 x_KT x_tb x_tyl x_ov0 u_ct u_hs x_knd lwFR lwGA lwGB 40 35 45 sp0WA18 sp0WB18 8000 1 60 69 1 60 205 sp0_op5 [.inr (.inr (31, [(lSy 40)])), .inr (.inr (31, [(lSy 41)]))] sp0o18 = true := by decide +kernel
theorem sp0E18 : wEd x_KT x_tb x_tyl x_ov0 u_ct u_hs x_knd lwFR lwGA lwGB 40 35 45 sp0WA18 sp0WB18 8000 1 60 69 1 60 205 sp0_op5 [.inr (.inr (31, [(lSy 40)])), .inr (.inr (31, [(lSy 41)]))] sp0o18 = true := wEdQ_ok lwTchOk sp0E18q
set_option maxRecDepth 1000000 in
theorem sp0E19q : wEdQ lwTch 48 x_KT x_tb x_tyl x_ov0 u_ct u_hs x_knd lwFR lwGA lwGB 40 35 45 sp0WA19 sp0WB19 8000 1 60 69 1 60 205 sp0_c5_x [] (sp0o19.map (wNo [29, 40])) = true := by decide +kernel
theorem sp0E19 : wEd x_KT x_tb x_tyl x_ov0 u_ct u_hs x_knd lwFR lwGA lwGB 40 35 45 sp0WA19 sp0WB19 8000 1 60 69 1 60 205 sp0_c5_x [] (sp0o19.map (wNo [29, 40])) = true := wEdQ_ok lwTchOk sp0E19q
set_option maxRecDepth 1000000 in
theorem sp0E19G0 : gRk x_KT x_tb x_tyl x_ov0 u_ct u_hs x_knd lwFR lwGA lwGB sp0E19G0VA sp0E19G0VB 8000 1 60 69 1 60 205 (sp0o19.map (wNo [29, 40])) sp0_c5_x lwF29 [.inl (lAdd (lSy 43) (lSc (-1) (lSy 40))), .inl (lAdd (lSc (-1) (lSy 43)) (lSy 40)), .inr (.inr (30, [(lSy 43)])), .inr (.inr (30, [(lSy 40)])), .inr (.inl (0, (lSy 40))), .inr (.inr (31, [(lSy 40)])), .inr (.inr (31, []))] [] sp0E19G0I = true := by decide +kernel
theorem sp0L20 : wRlk 42 35 45 ctp0WA ctp0WB sp0X20.2.1 sp0X20.2.2.1 sp0X20.2.2.2.1 sp0X20.2.2.2.2 ctp0_in = true := by decide +kernel
set_option maxRecDepth 1000000 in
theorem sp0E21q : wEdQ lwTch 48 x_KT x_tb x_tyl x_ov0 u_ct u_hs x_knd lwFR lwGA lwGB 40 35 45 sp0WA21 sp0WB21 8000 1 60 69 1 60 205 sp0_op6 [.inr (.inr (31, [(lSy 40)])), .inr (.inr (31, [(lSy 41)]))] sp0o21 = true := by decide +kernel
theorem sp0E21 : wEd x_KT x_tb x_tyl x_ov0 u_ct u_hs x_knd lwFR lwGA lwGB 40 35 45 sp0WA21 sp0WB21 8000 1 60 69 1 60 205 sp0_op6 [.inr (.inr (31, [(lSy 40)])), .inr (.inr (31, [(lSy 41)]))] sp0o21 = true := wEdQ_ok lwTchOk sp0E21q
set_option maxRecDepth 1000000 in
theorem sp0E22q : wEdQ lwTch 48 x_KT x_tb x_tyl x_ov0 u_ct u_hs x_knd lwFR lwGA lwGB 40 35 45 sp0WA22 sp0WB22 8000 1 60 69 1 60 205 sp0_c6_x [] (sp0o22.map (wNo [29, 40])) = true := by decide +kernel
theorem sp0E22 : wEd x_KT x_tb x_tyl x_ov0 u_ct u_hs x_knd lwFR lwGA lwGB 40 35 45 sp0WA22 sp0WB22 8000 1 60 69 1 60 205 sp0_c6_x [] (sp0o22.map (wNo [29, 40])) = true := wEdQ_ok lwTchOk sp0E22q
set_option maxRecDepth 1000000 in
theorem sp0E22G0 : gRk x_KT x_tb x_tyl x_ov0 u_ct u_hs x_knd lwFR lwGA lwGB sp0E22G0VA sp0E22G0VB 8000 1 60 69 1 60 205 (sp0o22.map (wNo [29, 40])) sp0_c6_x lwF29 [.inl (lAdd (lSy 43) (lSc (-1) (lSy 40))), .inl (lAdd (lSc (-1) (lSy 43)) (lSy 40)), .inr (.inr (30, [(lSy 43)])), .inr (.inr (30, [(lSy 40)])), .inr (.inl (0, (lSy 40))), .inr (.inr (31, [(lSy 40)])), .inr (.inr (31, []))] [] sp0E22G0I = true := by decide +kernel
theorem sp0L23 : wRlk 41 35 45 rip0WA rip0WB sp0X23.2.1 sp0X23.2.2.1 sp0X23.2.2.2.1 sp0X23.2.2.2.2 rip0_in = true := by decide +kernel
set_option maxRecDepth 1000000 in
theorem sp0E24q : wEdQ lwTch 48 x_KT x_tb x_tyl x_ov0 u_ct u_hs x_knd lwFR lwGA lwGB 40 35 45 sp0WA24 sp0WB24 8000 1 60 69 1 60 205 sp0_op1 [] sp0o24 = true := by decide +kernel
theorem sp0E24 : wEd x_KT x_tb x_tyl x_ov0 u_ct u_hs x_knd lwFR lwGA lwGB 40 35 45 sp0WA24 sp0WB24 8000 1 60 69 1 60 205 sp0_op1 [] sp0o24 = true := wEdQ_ok lwTchOk sp0E24q
set_option maxRecDepth 1000000 in
theorem sp0E25q : wEdQ lwTch 48 x_KT x_tb x_tyl x_ov0 u_ct u_hs x_knd lwFR lwGA lwGB 40 35 45 sp0WA25 sp0WB25 8000 1 60 69 0 60 205 sp0_c1_X [] sp0o25 = true := by decide +kernel
theorem sp0E25 : wEd x_KT x_tb x_tyl x_ov0 u_ct u_hs x_knd lwFR lwGA lwGB 40 35 45 sp0WA25 sp0WB25 8000 1 60 69 0 60 205 sp0_c1_X [] sp0o25 = true := wEdQ_ok lwTchOk sp0E25q
set_option maxRecDepth 1000000 in
theorem sp0E26q : wEdQ lwTch 48 x_KT x_tb x_tyl x_ov0 u_ct u_hs x_knd lwFR lwGA lwGB 40 35 45 sp0WA26 sp0WB26 8000 1 60 69 1 60 205 sp0_c1_F [] sp0o26 = true := by decide +kernel
theorem sp0E26 : wEd x_KT x_tb x_tyl x_ov0 u_ct u_hs x_knd lwFR lwGA lwGB 40 35 45 sp0WA26 sp0WB26 8000 1 60 69 1 60 205 sp0_c1_F [] sp0o26 = true := wEdQ_ok lwTchOk sp0E26q
theorem sp0L27 : wRlk 44 35 45 mnp0WA mnp0WB sp0X27.2.1 sp0X27.2.2.1 sp0X27.2.2.2.1 sp0X27.2.2.2.2 mnp0_in = true := by decide +kernel
theorem sp0L28 : wRlk 44 35 45 mnp0WA mnp0WB sp0X28.2.1 sp0X28.2.2.1 sp0X28.2.2.2.1 sp0X28.2.2.2.2 mnp0_in = true := by decide +kernel
set_option maxRecDepth 1000000 in
theorem sp0E29q : wEdQ lwTch 48 x_KT x_tb x_tyl x_ov0 u_ct u_hs x_knd lwFR lwGA lwGB 40 35 45 sp0WA29 sp0WB29 8000 1 60 69 1 60 205 sp0_op7 [] sp0o29 = true := by decide +kernel
theorem sp0E29 : wEd x_KT x_tb x_tyl x_ov0 u_ct u_hs x_knd lwFR lwGA lwGB 40 35 45 sp0WA29 sp0WB29 8000 1 60 69 1 60 205 sp0_op7 [] sp0o29 = true := wEdQ_ok lwTchOk sp0E29q
set_option maxRecDepth 1000000 in
theorem sp0E30q : wEdQ lwTch 48 x_KT x_tb x_tyl x_ov0 u_ct u_hs x_knd lwFR lwGA lwGB 40 35 45 sp0WA30 sp0WB30 8000 1 60 69 1 60 205 sp0_c7a_x [] sp0o30 = true := by decide +kernel
theorem sp0E30 : wEd x_KT x_tb x_tyl x_ov0 u_ct u_hs x_knd lwFR lwGA lwGB 40 35 45 sp0WA30 sp0WB30 8000 1 60 69 1 60 205 sp0_c7a_x [] sp0o30 = true := wEdQ_ok lwTchOk sp0E30q
set_option maxRecDepth 1000000 in
theorem sp0E31q : wEdQ lwTch 48 x_KT x_tb x_tyl x_ov0 u_ct u_hs x_knd lwFR lwGA lwGB 40 35 45 sp0WA31 sp0WB31 8000 1 60 69 1 60 205 sp0_c7b_x [] sp0o31 = true := by decide +kernel
theorem sp0E31 : wEd x_KT x_tb x_tyl x_ov0 u_ct u_hs x_knd lwFR lwGA lwGB 40 35 45 sp0WA31 sp0WB31 8000 1 60 69 1 60 205 sp0_c7b_x [] sp0o31 = true := wEdQ_ok lwTchOk sp0E31q
theorem sp0L32 : wRlk 44 35 45 mnp0WA mnp0WB sp0X32.2.1 sp0X32.2.2.1 sp0X32.2.2.2.1 sp0X32.2.2.2.2 mnp0_in = true := by decide +kernel
theorem sp0L33 : wRlk 44 35 45 mnp0WA mnp0WB sp0X33.2.1 sp0X33.2.2.1 sp0X33.2.2.2.1 sp0X33.2.2.2.2 mnp0_in = true := by decide +kernel
set_option maxRecDepth 1000000 in
theorem sp0E34q : wEdQ lwTch 48 x_KT x_tb x_tyl x_ov0 u_ct u_hs x_knd lwFR lwGA lwGB 40 35 45 sp0WA34 sp0WB34 8000 1 60 69 1 60 205 sp0_op11 [] sp0o34 = true := by decide +kernel
theorem sp0E34 : wEd x_KT x_tb x_tyl x_ov0 u_ct u_hs x_knd lwFR lwGA lwGB 40 35 45 sp0WA34 sp0WB34 8000 1 60 69 1 60 205 sp0_op11 [] sp0o34 = true := wEdQ_ok lwTchOk sp0E34q
set_option maxRecDepth 1000000 in
theorem sp0E35q : wEdQ lwTch 48 x_KT x_tb x_tyl x_ov0 u_ct u_hs x_knd lwFR lwGA lwGB 40 35 45 sp0WA35 sp0WB35 8000 1 60 69 1 60 205 sp0_c11a_x [] sp0o35 = true := by decide +kernel
theorem sp0E35 : wEd x_KT x_tb x_tyl x_ov0 u_ct u_hs x_knd lwFR lwGA lwGB 40 35 45 sp0WA35 sp0WB35 8000 1 60 69 1 60 205 sp0_c11a_x [] sp0o35 = true := wEdQ_ok lwTchOk sp0E35q
set_option maxRecDepth 1000000 in
theorem sp0E36q : wEdQ lwTch 48 x_KT x_tb x_tyl x_ov0 u_ct u_hs x_knd lwFR lwGA lwGB 40 35 45 sp0WA36 sp0WB36 8000 1 60 69 1 60 205 sp0_c11b_x [] sp0o36 = true := by decide +kernel
theorem sp0E36 : wEd x_KT x_tb x_tyl x_ov0 u_ct u_hs x_knd lwFR lwGA lwGB 40 35 45 sp0WA36 sp0WB36 8000 1 60 69 1 60 205 sp0_c11b_x [] sp0o36 = true := wEdQ_ok lwTchOk sp0E36q
theorem sp0L37 : wRlk 44 35 45 lep0WA lep0WB sp0X37.2.1 sp0X37.2.2.1 sp0X37.2.2.2.1 sp0X37.2.2.2.2 lep0_in = true := by decide +kernel
set_option maxRecDepth 1000000 in
theorem sp0E38q : wEdQ lwTch 48 x_KT x_tb x_tyl x_ov0 u_ct u_hs x_knd lwFR lwGA lwGB 40 35 45 sp0WA38 sp0WB38 8000 1 60 69 1 60 205 sp0_op8 [] sp0o38 = true := by decide +kernel
theorem sp0E38 : wEd x_KT x_tb x_tyl x_ov0 u_ct u_hs x_knd lwFR lwGA lwGB 40 35 45 sp0WA38 sp0WB38 8000 1 60 69 1 60 205 sp0_op8 [] sp0o38 = true := wEdQ_ok lwTchOk sp0E38q
set_option maxRecDepth 1000000 in
theorem sp0E39q : wEdQ lwTch 48 x_KT x_tb x_tyl x_ov0 u_ct u_hs x_knd lwFR lwGA lwGB 40 35 45 sp0WA39 sp0WB39 8000 1 60 69 1 60 205 sp0_c8_x [] sp0o39 = true := by decide +kernel
theorem sp0E39 : wEd x_KT x_tb x_tyl x_ov0 u_ct u_hs x_knd lwFR lwGA lwGB 40 35 45 sp0WA39 sp0WB39 8000 1 60 69 1 60 205 sp0_c8_x [] sp0o39 = true := wEdQ_ok lwTchOk sp0E39q
set_option maxRecDepth 1000000 in
theorem sb0E0q : wEdQ lwTch 48 x_KT x_tb x_tyl x_ov0 u_ct u_hs x_knd lwFR lwGA lwGB 43 35 45 sb0WA0 sb0WB0 8000 0 60 113 0 60 205 sb0_in [.inr (.inr (1, [(lSy 6), (lSy 38)])), .inr (.inl (2008, lK 0))] sb0o0 = true := by decide +kernel
theorem sb0E0 : wEd x_KT x_tb x_tyl x_ov0 u_ct u_hs x_knd lwFR lwGA lwGB 43 35 45 sb0WA0 sb0WB0 8000 0 60 113 0 60 205 sb0_in [.inr (.inr (1, [(lSy 6), (lSy 38)])), .inr (.inl (2008, lK 0))] sb0o0 = true := wEdQ_ok lwTchOk sb0E0q
set_option maxRecDepth 1000000 in
theorem sb0E1q : wEdQ lwTch 48 x_KT x_tb x_tyl x_ov0 u_ct u_hs x_knd lwFR lwGA lwGB 43 35 45 sb0WA1 sb0WB1 8000 0 60 113 1 60 205 sb0_op0 [] (sb0o1.map (wNo [29])) = true := by decide +kernel
theorem sb0E1 : wEd x_KT x_tb x_tyl x_ov0 u_ct u_hs x_knd lwFR lwGA lwGB 43 35 45 sb0WA1 sb0WB1 8000 0 60 113 1 60 205 sb0_op0 [] (sb0o1.map (wNo [29])) = true := wEdQ_ok lwTchOk sb0E1q
set_option maxRecDepth 1000000 in
theorem sb0E1R29 : wRkE x_KT x_tb x_tyl x_ov0 u_ct u_hs x_knd lwFR lwGA lwGB sb0VA1_29 sb0VB1_29 8000 0 60 113 1 60 205 (sb0o1.map (wNo [29])) sb0_op0 lwF29 [.inr (.inr (4, [])), .inr (.inr (31, []))] = true := by decide +kernel
set_option maxRecDepth 1000000 in
theorem sb0E2q : wEdQ lwTch 48 x_KT x_tb x_tyl x_ov0 u_ct u_hs x_knd lwFR lwGA lwGB 43 35 45 sb0WA2 sb0WB2 8000 0 60 113 1 60 205 sb0_op1 [.inr (.inr (33, [(lSy 6)])), .inr (.inl (2008, lK 0))] (sb0o2.map (wNo [29, 47])) = true := by decide +kernel
theorem sb0E2 : wEd x_KT x_tb x_tyl x_ov0 u_ct u_hs x_knd lwFR lwGA lwGB 43 35 45 sb0WA2 sb0WB2 8000 0 60 113 1 60 205 sb0_op1 [.inr (.inr (33, [(lSy 6)])), .inr (.inl (2008, lK 0))] (sb0o2.map (wNo [29, 47])) = true := wEdQ_ok lwTchOk sb0E2q
set_option maxRecDepth 1000000 in
theorem sb0E2R29 : wRkE x_KT x_tb x_tyl x_ov0 u_ct u_hs x_knd lwFR lwGA lwGB sb0VA2_29 sb0VB2_29 8000 0 60 113 1 60 205 (sb0o2.map (wNo [29, 47])) sb0_op1 lwF29 [.inr (.inr (33, [(lSy 6)])), .inr (.inl (2008, lK 0)), .inr (.inr (4, [])), .inr (.inr (31, []))] = true := by decide +kernel
end XRuC9
