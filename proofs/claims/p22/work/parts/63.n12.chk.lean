/-! Runs: checks, 12. -/
noncomputable section XRuC12
set_option maxRecDepth 1000000 in
theorem sb1E2R47 : wRkE x_KT x_tb x_tyl x_ov0 u_ct u_hs x_knd lwFR lwGA lwGB sb1VA2_47 sb1VB2_47 8000 0 60 113 1 60 205 (sb1o2.map (wNo [41, 47])) sb1_op1 lwF47 [.inr (.inr (34, [(lSy 6)])), .inr (.inl (2008, lK 0)), .inl (lAdd (lSy 44) (lSc (-1) (lSy 6))), .inl (lAdd (lSc (-1) (lSy 44)) (lSy 6)), .inr (.inl (1001, (lAdd (lSc (-1) (lSy 44)) (lAdd (lSy 3) (lK (-1)))))), .inl (lAdd (lSc (-1) (lSy 44)) (lAdd (lSy 3) (lK (-1)))), .inr (.inl (0, (lSy 6))), .inr (.inr (11, [(lSy 44), (lSy 6)])), .inr (.inr (11, [(lSy 6), (lSy 44)])), .inr (.inr (34, [])), .inr (.inl (2008, lK 0))] = true := by decide +kernel
set_option maxRecDepth 1000000 in
theorem sb1E3q : wEdQ lwTch 48 x_KT x_tb x_tyl x_ov0 u_ct u_hs x_knd lwFR lwGA lwGB 43 35 45 sb1WA3 sb1WB3 8000 0 60 113 1 60 205 sb1_op2 [] (sb1o3.map (wNo [43])) = true := by decide +kernel
theorem sb1E3 : wEd x_KT x_tb x_tyl x_ov0 u_ct u_hs x_knd lwFR lwGA lwGB 43 35 45 sb1WA3 sb1WB3 8000 0 60 113 1 60 205 sb1_op2 [] (sb1o3.map (wNo [43])) = true := wEdQ_ok lwTchOk sb1E3q
set_option maxRecDepth 1000000 in
theorem sb1E3R43 : wRkE x_KT x_tb x_tyl x_ov0 u_ct u_hs x_knd lwFR lwGA lwGB sb1VA3_43 sb1VB3_43 8000 0 60 113 1 60 205 (sb1o3.map (wNo [43])) sb1_op2 lwF43 [.inr (.inr (3, [])), .inr (.inr (33, []))] = true := by decide +kernel
set_option maxRecDepth 1000000 in
theorem sb1E4q : wEdQ lwTch 48 x_KT x_tb x_tyl x_ov0 u_ct u_hs x_knd lwFR lwGA lwGB 43 35 45 sb1WA4 sb1WB4 8000 0 60 113 1 60 205 sb1_op3 [] (sb1o4.map (wNo [41])) = true := by decide +kernel
theorem sb1E4 : wEd x_KT x_tb x_tyl x_ov0 u_ct u_hs x_knd lwFR lwGA lwGB 43 35 45 sb1WA4 sb1WB4 8000 0 60 113 1 60 205 sb1_op3 [] (sb1o4.map (wNo [41])) = true := wEdQ_ok lwTchOk sb1E4q
set_option maxRecDepth 1000000 in
theorem sb1E4R41 : wRkE x_KT x_tb x_tyl x_ov0 u_ct u_hs x_knd lwFR lwGA lwGB sb1VA4_41 sb1VB4_41 8000 0 60 113 1 60 205 (sb1o4.map (wNo [41])) sb1_op3 lwF41 [.inr (.inr (3, [])), .inr (.inr (32, []))] = true := by decide +kernel
set_option maxRecDepth 1000000 in
theorem sb1E5q : wEdQ lwTch 48 x_KT x_tb x_tyl x_ov0 u_ct u_hs x_knd lwFR lwGA lwGB 43 35 45 sb1WA5 sb1WB5 8000 0 60 113 1 60 205 sb1_op4 [] (sb1o5.map (wNo [41])) = true := by decide +kernel
theorem sb1E5 : wEd x_KT x_tb x_tyl x_ov0 u_ct u_hs x_knd lwFR lwGA lwGB 43 35 45 sb1WA5 sb1WB5 8000 0 60 113 1 60 205 sb1_op4 [] (sb1o5.map (wNo [41])) = true := wEdQ_ok lwTchOk sb1E5q
set_option maxRecDepth 1000000 in
theorem sb1E5R41 : wRkE x_KT x_tb x_tyl x_ov0 u_ct u_hs x_knd lwFR lwGA lwGB sb1VA5_41 sb1VB5_41 8000 0 60 113 1 60 205 (sb1o5.map (wNo [41])) sb1_op4 lwF41 [.inr (.inr (3, [])), .inr (.inr (32, []))] = true := by decide +kernel
set_option maxRecDepth 1000000 in
theorem sb1E6q : wEdQ lwTch 48 x_KT x_tb x_tyl x_ov0 u_ct u_hs x_knd lwFR lwGA lwGB 43 35 45 sb1WA6 sb1WB6 8000 0 60 113 1 60 205 sb1_op5 [] (sb1o6.map (wNo [41])) = true := by decide +kernel
theorem sb1E6 : wEd x_KT x_tb x_tyl x_ov0 u_ct u_hs x_knd lwFR lwGA lwGB 43 35 45 sb1WA6 sb1WB6 8000 0 60 113 1 60 205 sb1_op5 [] (sb1o6.map (wNo [41])) = true := wEdQ_ok lwTchOk sb1E6q
set_option maxRecDepth 1000000 in
theorem sb1E6R41 : wRkE x_KT x_tb x_tyl x_ov0 u_ct u_hs x_knd lwFR lwGA lwGB sb1VA6_41 sb1VB6_41 8000 0 60 113 1 60 205 (sb1o6.map (wNo [41])) sb1_op5 lwF41 [.inr (.inr (3, [])), .inr (.inr (32, []))] = true := by decide +kernel
set_option maxRecDepth 1000000 in
theorem sb1E7q : wEdQ lwTch 48 x_KT x_tb x_tyl x_ov0 u_ct u_hs x_knd lwFR lwGA lwGB 43 35 45 sb1WA7 sb1WB7 8000 0 60 113 1 60 205 sb1_op6 [] (sb1o7.map (wNo [41])) = true := by decide +kernel
theorem sb1E7 : wEd x_KT x_tb x_tyl x_ov0 u_ct u_hs x_knd lwFR lwGA lwGB 43 35 45 sb1WA7 sb1WB7 8000 0 60 113 1 60 205 sb1_op6 [] (sb1o7.map (wNo [41])) = true := wEdQ_ok lwTchOk sb1E7q
set_option maxRecDepth 1000000 in
theorem sb1E7R41 : wRkE x_KT x_tb x_tyl x_ov0 u_ct u_hs x_knd lwFR lwGA lwGB sb1VA7_41 sb1VB7_41 8000 0 60 113 1 60 205 (sb1o7.map (wNo [41])) sb1_op6 lwF41 [.inr (.inr (3, [])), .inr (.inr (32, []))] = true := by decide +kernel
set_option maxRecDepth 1000000 in
theorem sb1E8q : wEdQ lwTch 48 x_KT x_tb x_tyl x_ov0 u_ct u_hs x_knd lwFR lwGA lwGB 43 35 45 sb1WA8 sb1WB8 8000 0 60 113 1 60 205 sb1_op7 [] sb1o8 = true := by decide +kernel
theorem sb1E8 : wEd x_KT x_tb x_tyl x_ov0 u_ct u_hs x_knd lwFR lwGA lwGB 43 35 45 sb1WA8 sb1WB8 8000 0 60 113 1 60 205 sb1_op7 [] sb1o8 = true := wEdQ_ok lwTchOk sb1E8q
set_option maxRecDepth 1000000 in
theorem sb1E9q : wEdQ lwTch 48 x_KT x_tb x_tyl x_ov0 u_ct u_hs x_knd lwFR lwGA lwGB 43 35 45 sb1WA9 sb1WB9 8000 0 60 113 1 60 205 sb1_op8 [] sb1o9 = true := by decide +kernel
theorem sb1E9 : wEd x_KT x_tb x_tyl x_ov0 u_ct u_hs x_knd lwFR lwGA lwGB 43 35 45 sb1WA9 sb1WB9 8000 0 60 113 1 60 205 sb1_op8 [] sb1o9 = true := wEdQ_ok lwTchOk sb1E9q
set_option maxRecDepth 1000000 in
theorem sb1E10q : wEdQ lwTch 48 x_KT x_tb x_tyl x_ov0 u_ct u_hs x_knd lwFR lwGA lwGB 43 35 45 sb1WA10 sb1WB10 8000 0 60 113 1 60 205 sb1_op9 [] sb1o10 = true := by decide +kernel
theorem sb1E10 : wEd x_KT x_tb x_tyl x_ov0 u_ct u_hs x_knd lwFR lwGA lwGB 43 35 45 sb1WA10 sb1WB10 8000 0 60 113 1 60 205 sb1_op9 [] sb1o10 = true := wEdQ_ok lwTchOk sb1E10q
set_option maxRecDepth 1000000 in
theorem sb1E11q : wEdQ lwTch 48 x_KT x_tb x_tyl x_ov0 u_ct u_hs x_knd lwFR lwGA lwGB 43 35 45 sb1WA11 sb1WB11 8000 0 60 113 1 60 205 sb1_op10 [] sb1o11 = true := by decide +kernel
theorem sb1E11 : wEd x_KT x_tb x_tyl x_ov0 u_ct u_hs x_knd lwFR lwGA lwGB 43 35 45 sb1WA11 sb1WB11 8000 0 60 113 1 60 205 sb1_op10 [] sb1o11 = true := wEdQ_ok lwTchOk sb1E11q
set_option maxRecDepth 1000000 in
theorem sb1E12q : wEdQ lwTch 48 x_KT x_tb x_tyl x_ov0 u_ct u_hs x_knd lwFR lwGA lwGB 43 35 45 sb1WA12 sb1WB12 8000 0 60 113 1 60 205 sb1_op11 [] sb1o12 = true := by decide +kernel
theorem sb1E12 : wEd x_KT x_tb x_tyl x_ov0 u_ct u_hs x_knd lwFR lwGA lwGB 43 35 45 sb1WA12 sb1WB12 8000 0 60 113 1 60 205 sb1_op11 [] sb1o12 = true := wEdQ_ok lwTchOk sb1E12q
set_option maxRecDepth 1000000 in
theorem fb1E0q : wEdQ lwTch 48 x_KT x_tb x_tyl x_ov0 u_ct u_hs x_knd lwFR lwGA lwGB 29 35 45 fb1WA0 fb1WB0 8000 1 60 116 1 60 203 fb1_in [] (fb1o0.map (wNo [41, 43, 47])) = true := by decide +kernel
theorem fb1E0 : wEd x_KT x_tb x_tyl x_ov0 u_ct u_hs x_knd lwFR lwGA lwGB 29 35 45 fb1WA0 fb1WB0 8000 1 60 116 1 60 203 fb1_in [] (fb1o0.map (wNo [41, 43, 47])) = true := wEdQ_ok lwTchOk fb1E0q
set_option maxRecDepth 1000000 in
theorem fb1E0R41 : wRkE x_KT x_tb x_tyl x_ov0 u_ct u_hs x_knd lwFR lwGA lwGB fb1VA0_41 fb1VB0_41 8000 1 60 116 1 60 203 (fb1o0.map (wNo [41, 43, 47])) fb1_in lwF41 [.inl (lAdd (lSy 31) (lK (-1))), .inl (lAdd (lSy 31) (lK (-2))), .inl (lAdd (lSy 31) (lK (-3))), .inl (lAdd (lSy 31) (lK (-4))), .inl (lAdd (lSy 31) (lK (-5))), .inr (.inr (32, [(lK 0)])), .inr (.inr (32, [(lK 1)])), .inr (.inr (32, [(lK 2)])), .inr (.inr (32, [(lK 3)])), .inr (.inr (32, [(lK 4)])), .inr (.inr (32, [(lK 5)])), .inr (.inl (0, (lK 0))), .inr (.inl (0, (lK 1))), .inr (.inl (0, (lK 2))), .inr (.inl (0, (lK 3))), .inr (.inl (0, (lK 4))), .inr (.inl (0, (lK 5)))] = true := by decide +kernel
set_option maxRecDepth 1000000 in
theorem fb1E0R43 : wRkE x_KT x_tb x_tyl x_ov0 u_ct u_hs x_knd lwFR lwGA lwGB fb1VA0_43 fb1VB0_43 8000 1 60 116 1 60 203 (fb1o0.map (wNo [41, 43, 47])) fb1_in lwF43 [] = true := by decide +kernel
set_option maxRecDepth 1000000 in
theorem fb1E0R47 : wRkE x_KT x_tb x_tyl x_ov0 u_ct u_hs x_knd lwFR lwGA lwGB fb1VA0_47 fb1VB0_47 8000 1 60 116 1 60 203 (fb1o0.map (wNo [41, 43, 47])) fb1_in lwF47 [.inr (.inr (0, [(lSy 6)])), .inl (lSy 32), .inr (.inr (7, [(lSy 6)])), .inr (.inr (11, [(lSy 32), (lSy 6)])), .inr (.inr (11, [(lSy 6), (lSy 32)])), .inr (.inr (9, [(lSy 32)])), .inr (.inl (2008, lK 0)), .inl (lAdd (lSy 31) (lSc (-1) (lSy 6))), .inl (lAdd (lSc (-1) (lSy 31)) (lSy 6)), .inr (.inl (1001, (lAdd (lSc (-1) (lSy 31)) (lAdd (lSy 3) (lK (-1)))))), .inl (lAdd (lSc (-1) (lSy 31)) (lAdd (lSy 3) (lK (-1)))), .inr (.inl (0, (lSy 6))), .inr (.inr (11, [(lSy 31), (lSy 6)])), .inr (.inr (11, [(lSy 6), (lSy 31)])), .inr (.inl (2008, lK 0))] = true := by decide +kernel
theorem fb1L1 : wRlk 40 35 45 sp1WA sp1WB fb1X1.2.1 fb1X1.2.2.1 fb1X1.2.2.2.1 fb1X1.2.2.2.2 sp1_in = true := by decide +kernel
set_option maxRecDepth 1000000 in
theorem fb1E2q : wEdQ lwTch 48 x_KT x_tb x_tyl x_ov0 u_ct u_hs x_knd lwFR lwGA lwGB 29 35 45 fb1WA2 fb1WB2 8000 1 60 116 1 60 203 fb1_T [] fb1o2 = true := by decide +kernel
theorem fb1E2 : wEd x_KT x_tb x_tyl x_ov0 u_ct u_hs x_knd lwFR lwGA lwGB 29 35 45 fb1WA2 fb1WB2 8000 1 60 116 1 60 203 fb1_T [] fb1o2 = true := wEdQ_ok lwTchOk fb1E2q
theorem fb1L3 : wRlk 40 35 45 sp1WA sp1WB fb1X3.2.1 fb1X3.2.2.1 fb1X3.2.2.2.1 fb1X3.2.2.2.2 sp1_in = true := by decide +kernel
set_option maxRecDepth 1000000 in
theorem fb1E4q : wEdQ lwTch 48 x_KT x_tb x_tyl x_ov0 u_ct u_hs x_knd lwFR lwGA lwGB 29 35 45 fb1WA4 fb1WB4 8000 1 60 116 1 60 203 fb1_RR [] fb1o4 = true := by decide +kernel
theorem fb1E4 : wEd x_KT x_tb x_tyl x_ov0 u_ct u_hs x_knd lwFR lwGA lwGB 29 35 45 fb1WA4 fb1WB4 8000 1 60 116 1 60 203 fb1_RR [] fb1o4 = true := wEdQ_ok lwTchOk fb1E4q
theorem fb1L5 : wRlk 40 35 45 sp1WA sp1WB fb1X5.2.1 fb1X5.2.2.1 fb1X5.2.2.2.1 fb1X5.2.2.2.2 sp1_in = true := by decide +kernel
set_option maxRecDepth 1000000 in
theorem fb1E6q : wEdQ lwTch 48 x_KT x_tb x_tyl x_ov0 u_ct u_hs x_knd lwFR lwGA lwGB 29 35 45 fb1WA6 fb1WB6 8000 1 60 116 1 60 203 fb1_RO [] fb1o6 = true := by decide +kernel
theorem fb1E6 : wEd x_KT x_tb x_tyl x_ov0 u_ct u_hs x_knd lwFR lwGA lwGB 29 35 45 fb1WA6 fb1WB6 8000 1 60 116 1 60 203 fb1_RO [] fb1o6 = true := wEdQ_ok lwTchOk fb1E6q
theorem fb1L7 : wRlk 43 35 45 sb1WA sb1WB fb1X7.2.1 fb1X7.2.2.1 fb1X7.2.2.2.1 fb1X7.2.2.2.2 sb1_in = true := by decide +kernel
theorem fb1L8 : wRlk 43 35 45 sb1WA sb1WB fb1X8.2.1 fb1X8.2.2.1 fb1X8.2.2.2.1 fb1X8.2.2.2.2 sb1_in = true := by decide +kernel
theorem fb1L9 : wRlk 43 35 45 sb1WA sb1WB fb1X9.2.1 fb1X9.2.2.1 fb1X9.2.2.2.1 fb1X9.2.2.2.2 sb1_in = true := by decide +kernel
theorem fb1L10 : wRlk 43 35 45 sb1WA sb1WB fb1X10.2.1 fb1X10.2.2.1 fb1X10.2.2.2.1 fb1X10.2.2.2.2 sb1_in = true := by decide +kernel
theorem fb1L11 : wRlk 43 35 45 sb1WA sb1WB fb1X11.2.1 fb1X11.2.2.1 fb1X11.2.2.2.1 fb1X11.2.2.2.2 sb1_in = true := by decide +kernel
set_option maxRecDepth 1000000 in
theorem fb1E12q : wEdQ lwTch 48 x_KT x_tb x_tyl x_ov0 u_ct u_hs x_knd lwFR lwGA lwGB 29 35 45 fb1WA12 fb1WB12 8000 0 60 116 1 60 203 fb1_c0T_R [] fb1o12 = true := by decide +kernel
theorem fb1E12 : wEd x_KT x_tb x_tyl x_ov0 u_ct u_hs x_knd lwFR lwGA lwGB 29 35 45 fb1WA12 fb1WB12 8000 0 60 116 1 60 203 fb1_c0T_R [] fb1o12 = true := wEdQ_ok lwTchOk fb1E12q
set_option maxRecDepth 1000000 in
theorem fb1E13q : wEdQ lwTch 48 x_KT x_tb x_tyl x_ov0 u_ct u_hs x_knd lwFR lwGA lwGB 29 35 45 fb1WA13 fb1WB13 8000 0 60 116 1 60 203 fb1_c0T_O [] fb1o13 = true := by decide +kernel
theorem fb1E13 : wEd x_KT x_tb x_tyl x_ov0 u_ct u_hs x_knd lwFR lwGA lwGB 29 35 45 fb1WA13 fb1WB13 8000 0 60 116 1 60 203 fb1_c0T_O [] fb1o13 = true := wEdQ_ok lwTchOk fb1E13q
set_option maxRecDepth 1000000 in
theorem fb1E14q : wEdQ lwTch 48 x_KT x_tb x_tyl x_ov0 u_ct u_hs x_knd lwFR lwGA lwGB 29 35 45 fb1WA14 fb1WB14 8000 0 60 116 1 60 203 fb1_c0RR_R [] fb1o14 = true := by decide +kernel
theorem fb1E14 : wEd x_KT x_tb x_tyl x_ov0 u_ct u_hs x_knd lwFR lwGA lwGB 29 35 45 fb1WA14 fb1WB14 8000 0 60 116 1 60 203 fb1_c0RR_R [] fb1o14 = true := wEdQ_ok lwTchOk fb1E14q
set_option maxRecDepth 1000000 in
theorem fb1E15q : wEdQ lwTch 48 x_KT x_tb x_tyl x_ov0 u_ct u_hs x_knd lwFR lwGA lwGB 29 35 45 fb1WA15 fb1WB15 8000 0 60 116 1 60 203 fb1_c0RR_O [] fb1o15 = true := by decide +kernel
theorem fb1E15 : wEd x_KT x_tb x_tyl x_ov0 u_ct u_hs x_knd lwFR lwGA lwGB 29 35 45 fb1WA15 fb1WB15 8000 0 60 116 1 60 203 fb1_c0RR_O [] fb1o15 = true := wEdQ_ok lwTchOk fb1E15q
set_option maxRecDepth 1000000 in
theorem fb1E16q : wEdQ lwTch 48 x_KT x_tb x_tyl x_ov0 u_ct u_hs x_knd lwFR lwGA lwGB 29 35 45 fb1WA16 fb1WB16 8000 1 60 116 1 60 203 fb1_c0RO_R [.inr (.inl (1001, (lAdd (lSc (-1) (lSy 33)) (lK 149))))] fb1o16 = true := by decide +kernel
theorem fb1E16 : wEd x_KT x_tb x_tyl x_ov0 u_ct u_hs x_knd lwFR lwGA lwGB 29 35 45 fb1WA16 fb1WB16 8000 1 60 116 1 60 203 fb1_c0RO_R [.inr (.inl (1001, (lAdd (lSc (-1) (lSy 33)) (lK 149))))] fb1o16 = true := wEdQ_ok lwTchOk fb1E16q
set_option maxRecDepth 1000000 in
theorem fb1E17q : wEdQ lwTch 48 x_KT x_tb x_tyl x_ov0 u_ct u_hs x_knd lwFR lwGA lwGB 29 35 45 fb1WA17 fb1WB17 8000 1 60 116 1 60 203 fb1_c0RO_O [.inr (.inl (1001, (lAdd (lSc (-1) (lSy 33)) (lK 149))))] fb1o17 = true := by decide +kernel
theorem fb1E17 : wEd x_KT x_tb x_tyl x_ov0 u_ct u_hs x_knd lwFR lwGA lwGB 29 35 45 fb1WA17 fb1WB17 8000 1 60 116 1 60 203 fb1_c0RO_O [.inr (.inl (1001, (lAdd (lSc (-1) (lSy 33)) (lK 149))))] fb1o17 = true := wEdQ_ok lwTchOk fb1E17q
set_option maxRecDepth 1000000 in
theorem fb1E18q : wEdQ lwTch 48 x_KT x_tb x_tyl x_ov0 u_ct u_hs x_knd lwFR lwGA lwGB 29 35 45 fb1WA18 fb1WB18 8000 0 60 116 1 60 203 fb1_OR [] fb1o18 = true := by decide +kernel
theorem fb1E18 : wEd x_KT x_tb x_tyl x_ov0 u_ct u_hs x_knd lwFR lwGA lwGB 29 35 45 fb1WA18 fb1WB18 8000 0 60 116 1 60 203 fb1_OR [] fb1o18 = true := wEdQ_ok lwTchOk fb1E18q
set_option maxRecDepth 1000000 in
theorem fb1E19q : wEdQ lwTch 48 x_KT x_tb x_tyl x_ov0 u_ct u_hs x_knd lwFR lwGA lwGB 29 35 45 fb1WA19 fb1WB19 8000 1 60 116 1 60 203 fb1_c1TR_R [.inr (.inl (1001, (lAdd (lSc (-1) (lSy 33)) (lK 149))))] fb1o19 = true := by decide +kernel
theorem fb1E19 : wEd x_KT x_tb x_tyl x_ov0 u_ct u_hs x_knd lwFR lwGA lwGB 29 35 45 fb1WA19 fb1WB19 8000 1 60 116 1 60 203 fb1_c1TR_R [.inr (.inl (1001, (lAdd (lSc (-1) (lSy 33)) (lK 149))))] fb1o19 = true := wEdQ_ok lwTchOk fb1E19q
set_option maxRecDepth 1000000 in
theorem fb1E20q : wEdQ lwTch 48 x_KT x_tb x_tyl x_ov0 u_ct u_hs x_knd lwFR lwGA lwGB 29 35 45 fb1WA20 fb1WB20 8000 1 60 116 1 60 203 fb1_c1TR_O [.inr (.inl (1001, (lAdd (lSc (-1) (lSy 33)) (lK 149))))] fb1o20 = true := by decide +kernel
theorem fb1E20 : wEd x_KT x_tb x_tyl x_ov0 u_ct u_hs x_knd lwFR lwGA lwGB 29 35 45 fb1WA20 fb1WB20 8000 1 60 116 1 60 203 fb1_c1TR_O [.inr (.inl (1001, (lAdd (lSc (-1) (lSy 33)) (lK 149))))] fb1o20 = true := wEdQ_ok lwTchOk fb1E20q
set_option maxRecDepth 1000000 in
theorem fb1E21q : wEdQ lwTch 48 x_KT x_tb x_tyl x_ov0 u_ct u_hs x_knd lwFR lwGA lwGB 29 35 45 fb1WA21 fb1WB21 8000 1 60 116 1 60 203 fb1_c1TO_R [.inr (.inl (1001, (lAdd (lSc (-1) (lSy 33)) (lK 149))))] fb1o21 = true := by decide +kernel
theorem fb1E21 : wEd x_KT x_tb x_tyl x_ov0 u_ct u_hs x_knd lwFR lwGA lwGB 29 35 45 fb1WA21 fb1WB21 8000 1 60 116 1 60 203 fb1_c1TO_R [.inr (.inl (1001, (lAdd (lSc (-1) (lSy 33)) (lK 149))))] fb1o21 = true := wEdQ_ok lwTchOk fb1E21q
set_option maxRecDepth 1000000 in
theorem fb1E22q : wEdQ lwTch 48 x_KT x_tb x_tyl x_ov0 u_ct u_hs x_knd lwFR lwGA lwGB 29 35 45 fb1WA22 fb1WB22 8000 1 60 116 1 60 203 fb1_c1TO_O [.inr (.inl (1001, (lAdd (lSc (-1) (lSy 33)) (lK 149))))] fb1o22 = true := by decide +kernel
theorem fb1E22 : wEd x_KT x_tb x_tyl x_ov0 u_ct u_hs x_knd lwFR lwGA lwGB 29 35 45 fb1WA22 fb1WB22 8000 1 60 116 1 60 203 fb1_c1TO_O [.inr (.inl (1001, (lAdd (lSc (-1) (lSy 33)) (lK 149))))] fb1o22 = true := wEdQ_ok lwTchOk fb1E22q
set_option maxRecDepth 1000000 in
theorem fb1E23q : wEdQ lwTch 48 x_KT x_tb x_tyl x_ov0 u_ct u_hs x_knd lwFR lwGA lwGB 29 35 45 fb1WA23 fb1WB23 8000 1 60 116 1 60 203 fb1_c1RR_R [.inr (.inl (1001, (lAdd (lSc (-1) (lSy 33)) (lK 149))))] fb1o23 = true := by decide +kernel
theorem fb1E23 : wEd x_KT x_tb x_tyl x_ov0 u_ct u_hs x_knd lwFR lwGA lwGB 29 35 45 fb1WA23 fb1WB23 8000 1 60 116 1 60 203 fb1_c1RR_R [.inr (.inl (1001, (lAdd (lSc (-1) (lSy 33)) (lK 149))))] fb1o23 = true := wEdQ_ok lwTchOk fb1E23q
set_option maxRecDepth 1000000 in
theorem fb1E24q : wEdQ lwTch 48 x_KT x_tb x_tyl x_ov0 u_ct u_hs x_knd lwFR lwGA lwGB 29 35 45 fb1WA24 fb1WB24 8000 1 60 116 1 60 203 fb1_c1RR_O [.inr (.inl (1001, (lAdd (lSc (-1) (lSy 33)) (lK 149))))] fb1o24 = true := by decide +kernel
theorem fb1E24 : wEd x_KT x_tb x_tyl x_ov0 u_ct u_hs x_knd lwFR lwGA lwGB 29 35 45 fb1WA24 fb1WB24 8000 1 60 116 1 60 203 fb1_c1RR_O [.inr (.inl (1001, (lAdd (lSc (-1) (lSy 33)) (lK 149))))] fb1o24 = true := wEdQ_ok lwTchOk fb1E24q
set_option maxRecDepth 1000000 in
theorem fb1E25q : wEdQ lwTch 48 x_KT x_tb x_tyl x_ov0 u_ct u_hs x_knd lwFR lwGA lwGB 29 35 45 fb1WA25 fb1WB25 8000 1 60 116 1 60 203 fb1_c1RO_R [.inr (.inl (1001, (lAdd (lSc (-1) (lSy 33)) (lK 149))))] fb1o25 = true := by decide +kernel
theorem fb1E25 : wEd x_KT x_tb x_tyl x_ov0 u_ct u_hs x_knd lwFR lwGA lwGB 29 35 45 fb1WA25 fb1WB25 8000 1 60 116 1 60 203 fb1_c1RO_R [.inr (.inl (1001, (lAdd (lSc (-1) (lSy 33)) (lK 149))))] fb1o25 = true := wEdQ_ok lwTchOk fb1E25q
set_option maxRecDepth 1000000 in
theorem fb1E26q : wEdQ lwTch 48 x_KT x_tb x_tyl x_ov0 u_ct u_hs x_knd lwFR lwGA lwGB 29 35 45 fb1WA26 fb1WB26 8000 1 60 116 1 60 203 fb1_c1RO_O [.inr (.inl (1001, (lAdd (lSc (-1) (lSy 33)) (lK 149))))] fb1o26 = true := by decide +kernel
theorem fb1E26 : wEd x_KT x_tb x_tyl x_ov0 u_ct u_hs x_knd lwFR lwGA lwGB 29 35 45 fb1WA26 fb1WB26 8000 1 60 116 1 60 203 fb1_c1RO_O [.inr (.inl (1001, (lAdd (lSc (-1) (lSy 33)) (lK 149))))] fb1o26 = true := wEdQ_ok lwTchOk fb1E26q
set_option maxRecDepth 1000000 in
theorem fb1E27q : wEdQ lwTch 48 x_KT x_tb x_tyl x_ov0 u_ct u_hs x_knd lwFR lwGA lwGB 29 35 45 fb1WA27 fb1WB27 8000 0 60 116 1 60 203 fb1_c1OR_R [] fb1o27 = true := by decide +kernel
theorem fb1E27 : wEd x_KT x_tb x_tyl x_ov0 u_ct u_hs x_knd lwFR lwGA lwGB 29 35 45 fb1WA27 fb1WB27 8000 0 60 116 1 60 203 fb1_c1OR_R [] fb1o27 = true := wEdQ_ok lwTchOk fb1E27q
set_option maxRecDepth 1000000 in
theorem fb1E28q : wEdQ lwTch 48 x_KT x_tb x_tyl x_ov0 u_ct u_hs x_knd lwFR lwGA lwGB 29 35 45 fb1WA28 fb1WB28 8000 0 60 116 1 60 203 fb1_c1OR_O [] fb1o28 = true := by decide +kernel
theorem fb1E28 : wEd x_KT x_tb x_tyl x_ov0 u_ct u_hs x_knd lwFR lwGA lwGB 29 35 45 fb1WA28 fb1WB28 8000 0 60 116 1 60 203 fb1_c1OR_O [] fb1o28 = true := wEdQ_ok lwTchOk fb1E28q
set_option maxRecDepth 1000000 in
theorem fb1E29q : wEdQ lwTch 48 x_KT x_tb x_tyl x_ov0 u_ct u_hs x_knd lwFR lwGA lwGB 29 35 45 fb1WA29 fb1WB29 8000 1 60 116 1 60 203 fb1_OO [] fb1o29 = true := by decide +kernel
theorem fb1E29 : wEd x_KT x_tb x_tyl x_ov0 u_ct u_hs x_knd lwFR lwGA lwGB 29 35 45 fb1WA29 fb1WB29 8000 1 60 116 1 60 203 fb1_OO [] fb1o29 = true := wEdQ_ok lwTchOk fb1E29q
set_option maxRecDepth 1000000 in
theorem lkBE0q : wEdQ lwTch 48 x_KT x_tb x_tyl x_ov0 u_ct u_hs x_knd lwFR lwGA lwGB 31 33 45 lkBWA0 lkBWB0 8000 1 60 83 1 60 211 lkB_in [] lkBo0 = true := by decide +kernel
theorem lkBE0 : wEd x_KT x_tb x_tyl x_ov0 u_ct u_hs x_knd lwFR lwGA lwGB 31 33 45 lkBWA0 lkBWB0 8000 1 60 83 1 60 211 lkB_in [] lkBo0 = true := wEdQ_ok lwTchOk lkBE0q
set_option maxRecDepth 1000000 in
theorem lkBE1q : wEdQ lwTch 48 x_KT x_tb x_tyl x_ov0 u_ct u_hs x_knd lwFR lwGA lwGB 31 33 45 lkBWA1 lkBWB1 8000 1 60 83 1 60 211 lkB_lp [.inr (.inr (29, [(lSy 31)])), .inr (.inr (30, [(lSy 31)])), .inr (.inl (2000, lK 0))] lkBo1 = true := by decide +kernel
theorem lkBE1 : wEd x_KT x_tb x_tyl x_ov0 u_ct u_hs x_knd lwFR lwGA lwGB 31 33 45 lkBWA1 lkBWB1 8000 1 60 83 1 60 211 lkB_lp [.inr (.inr (29, [(lSy 31)])), .inr (.inr (30, [(lSy 31)])), .inr (.inl (2000, lK 0))] lkBo1 = true := wEdQ_ok lwTchOk lkBE1q
theorem chgL0 : wRlk 27 33 45 bgWA bgWB chgX0.2.1 chgX0.2.2.1 chgX0.2.2.2.1 chgX0.2.2.2.2 bg_in = true := by decide +kernel
set_option maxRecDepth 1000000 in
theorem chgE1q : wEdQ lwTch 48 x_KT x_tb x_tyl x_ov0 u_ct u_hs x_knd lwFR lwGA lwGB 27 33 45 chgWA1 chgWB1 8000 0 60 115 0 60 243 chg_in0 [] chgo1 = true := by decide +kernel
theorem chgE1 : wEd x_KT x_tb x_tyl x_ov0 u_ct u_hs x_knd lwFR lwGA lwGB 27 33 45 chgWA1 chgWB1 8000 0 60 115 0 60 243 chg_in0 [] chgo1 = true := wEdQ_ok lwTchOk chgE1q
theorem chgL2 : wRlk 29 35 45 aiWA aiWB chgX2.2.1 chgX2.2.2.1 chgX2.2.2.2.1 chgX2.2.2.2.2 ai_in = true := by decide +kernel
set_option maxRecDepth 1000000 in
theorem chgE3q : wEdQ lwTch 48 x_KT x_tb x_tyl x_ov0 u_ct u_hs x_knd lwFR lwGA lwGB 27 33 45 chgWA3 chgWB3 8000 0 60 115 1 60 243 chg_cb_0_x [] chgo3 = true := by decide +kernel
theorem chgE3 : wEd x_KT x_tb x_tyl x_ov0 u_ct u_hs x_knd lwFR lwGA lwGB 27 33 45 chgWA3 chgWB3 8000 0 60 115 1 60 243 chg_cb_0_x [] chgo3 = true := wEdQ_ok lwTchOk chgE3q
theorem chgL4 : wRlk 29 35 45 fb1WA fb1WB chgX4.2.1 chgX4.2.2.1 chgX4.2.2.2.1 chgX4.2.2.2.2 fb1_in = true := by decide +kernel
set_option maxRecDepth 1000000 in
theorem chgE5q : wEdQ lwTch 48 x_KT x_tb x_tyl x_ov0 u_ct u_hs x_knd lwFR lwGA lwGB 27 33 45 chgWA5 chgWB5 8000 1 60 115 1 60 243 chg_c0_0_X [] (chgo5.map (wNo [45, 46])) = true := by decide +kernel
theorem chgE5 : wEd x_KT x_tb x_tyl x_ov0 u_ct u_hs x_knd lwFR lwGA lwGB 27 33 45 chgWA5 chgWB5 8000 1 60 115 1 60 243 chg_c0_0_X [] (chgo5.map (wNo [45, 46])) = true := wEdQ_ok lwTchOk chgE5q
set_option maxRecDepth 1000000 in
theorem chgE5R45 : wRkE x_KT x_tb x_tyl x_ov0 u_ct u_hs x_knd lwFR lwGA lwGB chgVA5_45 chgVB5_45 8000 1 60 115 1 60 243 (chgo5.map (wNo [45, 46])) chg_c0_0_X lwF45 [.inl (lAdd (lSy 33) (lSc (-1) (lSy 6))), .inl (lAdd (lSc (-1) (lSy 33)) (lSy 6)), .inr (.inl (1001, (lAdd (lSc (-1) (lSy 33)) (lAdd (lSy 3) (lK (-1)))))), .inl (lAdd (lSc (-1) (lSy 33)) (lAdd (lSy 3) (lK (-1)))), .inr (.inl (0, (lSy 6))), .inr (.inl (1100, (lAdd (lSc (-1) (lSy 33)) (lAdd (lSy 6) (lK (-1)))))), .inr (.inl (1100, (lAdd (lSc (-1) (lSy 33)) (lSy 6)))), .inr (.inl (1100, (lAdd (lSy 33) (lSc (-1) (lSy 6))))), .inr (.inl (1100, (lAdd (lSy 33) (lAdd (lSc (-1) (lSy 6)) (lK (-1)))))), .inl (lAdd (lSy 34) (lAdd (lSc (-100) (lSy 33)) (lAdd (lSc 100 (lSy 6)) (lK (-1))))), .inl (lAdd (lSy 34) (lAdd (lSc (-100) (lSy 33)) (lAdd (lSc 100 (lSy 6)) (lK (-2))))), .inl (lAdd (lSy 34) (lAdd (lSc (-100) (lSy 33)) (lAdd (lSc 100 (lSy 6)) (lK (-3))))), .inl (lAdd (lSy 34) (lAdd (lSc (-100) (lSy 33)) (lAdd (lSc 100 (lSy 6)) (lK (-4))))), .inl (lAdd (lSy 34) (lAdd (lSc (-100) (lSy 33)) (lAdd (lSc 100 (lSy 6)) (lK (-5))))), .inr (.inl (1001, (lSy 34))), .inr (.inl (1001, (lSc (-1) (lSy 34)))), .inr (.inl (1001, (lAdd (lSy 34) (lK (-1))))), .inr (.inl (1001, (lAdd (lSc (-1) (lSy 34)) (lK 1)))), .inr (.inl (1001, (lAdd (lSy 34) (lK (-2))))), .inr (.inl (1001, (lAdd (lSc (-1) (lSy 34)) (lK 2)))), .inr (.inl (1001, (lAdd (lSy 34) (lK (-3))))), .inr (.inl (1001, (lAdd (lSc (-1) (lSy 34)) (lK 3)))), .inr (.inl (1001, (lAdd (lSy 34) (lK (-4))))), .inr (.inl (1001, (lAdd (lSc (-1) (lSy 34)) (lK 4)))), .inr (.inl (1001, (lAdd (lSy 34) (lK (-5))))), .inr (.inl (1001, (lAdd (lSc (-1) (lSy 34)) (lK 5)))), .inr (.inl (1, (lK 0))), .inr (.inl (1, (lK 1))), .inr (.inl (1, (lK 2))), .inr (.inl (1, (lK 3))), .inr (.inl (1, (lK 4))), .inr (.inl (1, (lK 5))), .inr (.inr (12, [(lSy 33), (lSy 6)])), .inr (.inr (12, [(lSy 6), (lSy 33)])), .inr (.inl (2008, lK 0))] = true := by decide +kernel
set_option maxRecDepth 1000000 in
theorem chgE5R46 : wRkE x_KT x_tb x_tyl x_ov0 u_ct u_hs x_knd lwFR lwGA lwGB chgVA5_46 chgVB5_46 8000 1 60 115 1 60 243 (chgo5.map (wNo [45, 46])) chg_c0_0_X lwF46 [.inl (lAdd (lSy 33) (lSc (-1) (lSy 6))), .inl (lAdd (lSc (-1) (lSy 33)) (lSy 6)), .inr (.inl (1001, (lAdd (lSc (-1) (lSy 33)) (lAdd (lSy 3) (lK (-1)))))), .inl (lAdd (lSc (-1) (lSy 33)) (lAdd (lSy 3) (lK (-1)))), .inr (.inl (0, (lSy 6))), .inr (.inr (16, [(lSy 33), (lSy 6)])), .inr (.inr (16, [(lSy 6), (lSy 33)])), .inr (.inr (2, [])), .inr (.inl (2008, lK 0))] = true := by decide +kernel
theorem chgL6 : wRlk 31 33 45 lkBWA lkBWB chgX6.2.1 chgX6.2.2.1 chgX6.2.2.2.1 chgX6.2.2.2.2 lkB_in = true := by decide +kernel
set_option maxRecDepth 1000000 in
theorem chgE7q : wEdQ lwTch 48 x_KT x_tb x_tyl x_ov0 u_ct u_hs x_knd lwFR lwGA lwGB 27 33 45 chgWA7 chgWB7 8000 1 60 115 1 60 243 chg_c1_0_X [] (chgo7.map (wNo [2])) = true := by decide +kernel
theorem chgE7 : wEd x_KT x_tb x_tyl x_ov0 u_ct u_hs x_knd lwFR lwGA lwGB 27 33 45 chgWA7 chgWB7 8000 1 60 115 1 60 243 chg_c1_0_X [] (chgo7.map (wNo [2])) = true := wEdQ_ok lwTchOk chgE7q
set_option maxRecDepth 1000000 in
theorem chgE7R2 : wRkE x_KT x_tb x_tyl x_ov0 u_ct u_hs x_knd lwFR lwGA lwGB chgVA7_2 chgVB7_2 8000 1 60 115 1 60 243 (chgo7.map (wNo [2])) chg_c1_0_X lwF2 [.inl (lAdd (lSy 33) (lSc (-1) (lSy 6))), .inl (lAdd (lSc (-1) (lSy 33)) (lSy 6)), .inr (.inl (1001, (lAdd (lSc (-1) (lSy 33)) (lAdd (lSy 3) (lK (-1)))))), .inl (lAdd (lSc (-1) (lSy 33)) (lAdd (lSy 3) (lK (-1)))), .inr (.inl (0, (lSy 6))), .inr (.inr (15, [(lSy 33), (lSy 6)])), .inr (.inr (15, [(lSy 6), (lSy 33)])), .inr (.inr (11, [(lSy 33), (lSy 6)])), .inr (.inr (11, [(lSy 6), (lSy 33)])), .inr (.inl (1100, (lAdd (lSc (-1) (lSy 33)) (lAdd (lSy 6) (lK (-1)))))), .inr (.inl (1100, (lAdd (lSc (-1) (lSy 33)) (lSy 6)))), .inr (.inl (1100, (lAdd (lSy 33) (lSc (-1) (lSy 6))))), .inr (.inl (1100, (lAdd (lSy 33) (lAdd (lSc (-1) (lSy 6)) (lK (-1)))))), .inl (lAdd (lSy 34) (lAdd (lSc (-100) (lSy 33)) (lAdd (lSc 100 (lSy 6)) (lK (-1))))), .inl (lAdd (lSy 34) (lAdd (lSc (-100) (lSy 33)) (lAdd (lSc 100 (lSy 6)) (lK (-2))))), .inl (lAdd (lSy 34) (lAdd (lSc (-100) (lSy 33)) (lAdd (lSc 100 (lSy 6)) (lK (-3))))), .inl (lAdd (lSy 34) (lAdd (lSc (-100) (lSy 33)) (lAdd (lSc 100 (lSy 6)) (lK (-4))))), .inl (lAdd (lSy 34) (lAdd (lSc (-100) (lSy 33)) (lAdd (lSc 100 (lSy 6)) (lK (-5))))), .inr (.inl (1001, (lSy 34))), .inr (.inl (1001, (lSc (-1) (lSy 34)))), .inr (.inl (1001, (lAdd (lSy 34) (lK (-1))))), .inr (.inl (1001, (lAdd (lSc (-1) (lSy 34)) (lK 1)))), .inr (.inl (1001, (lAdd (lSy 34) (lK (-2))))), .inr (.inl (1001, (lAdd (lSc (-1) (lSy 34)) (lK 2)))), .inr (.inl (1001, (lAdd (lSy 34) (lK (-3))))), .inr (.inl (1001, (lAdd (lSc (-1) (lSy 34)) (lK 3)))), .inr (.inl (1001, (lAdd (lSy 34) (lK (-4))))), .inr (.inl (1001, (lAdd (lSc (-1) (lSy 34)) (lK 4)))), .inr (.inl (1001, (lAdd (lSy 34) (lK (-5))))), .inr (.inl (1001, (lAdd (lSc (-1) (lSy 34)) (lK 5)))), .inr (.inl (1, (lK 0))), .inr (.inl (1, (lK 1))), .inr (.inl (1, (lK 2))), .inr (.inl (1, (lK 3))), .inr (.inl (1, (lK 4))), .inr (.inl (1, (lK 5))), .inr (.inr (29, [])), .inr (.inl (2008, lK 0))] = true := by decide +kernel
set_option maxRecDepth 1000000 in
theorem chgE8q : wEdQ lwTch 48 x_KT x_tb x_tyl x_ov0 u_ct u_hs x_knd lwFR lwGA lwGB 27 33 45 chgWA8 chgWB8 8000 1 60 115 1 60 243 chg_cl_0_e0 [.inl (lAdd (lSy 21) (lK (-1))), .inl (lSc (-1) (lSy 21))] chgo8 = true := by decide +kernel
theorem chgE8 : wEd x_KT x_tb x_tyl x_ov0 u_ct u_hs x_knd lwFR lwGA lwGB 27 33 45 chgWA8 chgWB8 8000 1 60 115 1 60 243 chg_cl_0_e0 [.inl (lAdd (lSy 21) (lK (-1))), .inl (lSc (-1) (lSy 21))] chgo8 = true := wEdQ_ok lwTchOk chgE8q
set_option maxRecDepth 1000000 in
theorem chgE9q : wEdQ lwTch 48 x_KT x_tb x_tyl x_ov0 u_ct u_hs x_knd lwFR lwGA lwGB 27 33 45 chgWA9 chgWB9 8000 1 60 115 1 60 243 chg_cl_0_e1 [.inl (lAdd (lSy 21) (lK (-1))), .inl (lSc (-1) (lSy 21))] chgo9 = true := by decide +kernel
theorem chgE9 : wEd x_KT x_tb x_tyl x_ov0 u_ct u_hs x_knd lwFR lwGA lwGB 27 33 45 chgWA9 chgWB9 8000 1 60 115 1 60 243 chg_cl_0_e1 [.inl (lAdd (lSy 21) (lK (-1))), .inl (lSc (-1) (lSy 21))] chgo9 = true := wEdQ_ok lwTchOk chgE9q
theorem chgL10 : wRlk 27 33 45 bgWA bgWB chgX10.2.1 chgX10.2.2.1 chgX10.2.2.2.1 chgX10.2.2.2.2 bg_in = true := by decide +kernel
set_option maxRecDepth 1000000 in
theorem chgE11q : wEdQ lwTch 48 x_KT x_tb x_tyl x_ov0 u_ct u_hs x_knd lwFR lwGA lwGB 27 33 45 chgWA11 chgWB11 8000 0 60 115 0 60 243 chg_in1 [] chgo11 = true := by decide +kernel
theorem chgE11 : wEd x_KT x_tb x_tyl x_ov0 u_ct u_hs x_knd lwFR lwGA lwGB 27 33 45 chgWA11 chgWB11 8000 0 60 115 0 60 243 chg_in1 [] chgo11 = true := wEdQ_ok lwTchOk chgE11q
theorem chgL12 : wRlk 29 35 45 aiWA aiWB chgX12.2.1 chgX12.2.2.1 chgX12.2.2.2.1 chgX12.2.2.2.2 ai_in = true := by decide +kernel
set_option maxRecDepth 1000000 in
theorem chgE13q : wEdQ lwTch 48 x_KT x_tb x_tyl x_ov0 u_ct u_hs x_knd lwFR lwGA lwGB 27 33 45 chgWA13 chgWB13 8000 0 60 115 1 60 243 chg_cb_1_x [] chgo13 = true := by decide +kernel
theorem chgE13 : wEd x_KT x_tb x_tyl x_ov0 u_ct u_hs x_knd lwFR lwGA lwGB 27 33 45 chgWA13 chgWB13 8000 0 60 115 1 60 243 chg_cb_1_x [] chgo13 = true := wEdQ_ok lwTchOk chgE13q
theorem chgL14 : wRlk 29 35 45 fb1WA fb1WB chgX14.2.1 chgX14.2.2.1 chgX14.2.2.2.1 chgX14.2.2.2.2 fb1_in = true := by decide +kernel
set_option maxRecDepth 1000000 in
theorem chgE15q : wEdQ lwTch 48 x_KT x_tb x_tyl x_ov0 u_ct u_hs x_knd lwFR lwGA lwGB 27 33 45 chgWA15 chgWB15 8000 1 60 115 1 60 243 chg_c0_1_X [] (chgo15.map (wNo [45, 46])) = true := by decide +kernel
theorem chgE15 : wEd x_KT x_tb x_tyl x_ov0 u_ct u_hs x_knd lwFR lwGA lwGB 27 33 45 chgWA15 chgWB15 8000 1 60 115 1 60 243 chg_c0_1_X [] (chgo15.map (wNo [45, 46])) = true := wEdQ_ok lwTchOk chgE15q
end XRuC12
