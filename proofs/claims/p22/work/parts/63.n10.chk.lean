/-! Runs: checks, 10. -/
noncomputable section XRuC10
set_option maxRecDepth 1000000 in
theorem sb0E2R47 : wRkE x_KT x_tb x_tyl x_ov0 u_ct u_hs x_knd lwFR lwGA lwGB sb0VA2_47 sb0VB2_47 8000 0 60 113 1 60 205 (sb0o2.map (wNo [29, 47])) sb0_op1 lwF47 [.inr (.inr (33, [(lSy 6)])), .inr (.inl (2008, lK 0)), .inl (lAdd (lSy 44) (lSc (-1) (lSy 6))), .inl (lAdd (lSc (-1) (lSy 44)) (lSy 6)), .inr (.inl (1001, (lAdd (lSc (-1) (lSy 44)) (lAdd (lSy 3) (lK (-1)))))), .inl (lAdd (lSc (-1) (lSy 44)) (lAdd (lSy 3) (lK (-1)))), .inr (.inl (0, (lSy 6))), .inr (.inr (12, [(lSy 44), (lSy 6)])), .inr (.inr (12, [(lSy 6), (lSy 44)])), .inr (.inr (33, [])), .inr (.inl (2008, lK 0))] = true := by decide +kernel
set_option maxRecDepth 1000000 in
theorem sb0E3q : wEdQ lwTch 48 x_KT x_tb x_tyl x_ov0 u_ct u_hs x_knd lwFR lwGA lwGB 43 35 45 sb0WA3 sb0WB3 8000 0 60 113 1 60 205 sb0_op2 [] (sb0o3.map (wNo [42])) = true := by decide +kernel
theorem sb0E3 : wEd x_KT x_tb x_tyl x_ov0 u_ct u_hs x_knd lwFR lwGA lwGB 43 35 45 sb0WA3 sb0WB3 8000 0 60 113 1 60 205 sb0_op2 [] (sb0o3.map (wNo [42])) = true := wEdQ_ok lwTchOk sb0E3q
set_option maxRecDepth 1000000 in
theorem sb0E3R42 : wRkE x_KT x_tb x_tyl x_ov0 u_ct u_hs x_knd lwFR lwGA lwGB sb0VA3_42 sb0VB3_42 8000 0 60 113 1 60 205 (sb0o3.map (wNo [42])) sb0_op2 lwF42 [.inr (.inr (4, [])), .inr (.inr (32, []))] = true := by decide +kernel
set_option maxRecDepth 1000000 in
theorem sb0E4q : wEdQ lwTch 48 x_KT x_tb x_tyl x_ov0 u_ct u_hs x_knd lwFR lwGA lwGB 43 35 45 sb0WA4 sb0WB4 8000 0 60 113 1 60 205 sb0_op3 [] (sb0o4.map (wNo [29])) = true := by decide +kernel
theorem sb0E4 : wEd x_KT x_tb x_tyl x_ov0 u_ct u_hs x_knd lwFR lwGA lwGB 43 35 45 sb0WA4 sb0WB4 8000 0 60 113 1 60 205 sb0_op3 [] (sb0o4.map (wNo [29])) = true := wEdQ_ok lwTchOk sb0E4q
set_option maxRecDepth 1000000 in
theorem sb0E4R29 : wRkE x_KT x_tb x_tyl x_ov0 u_ct u_hs x_knd lwFR lwGA lwGB sb0VA4_29 sb0VB4_29 8000 0 60 113 1 60 205 (sb0o4.map (wNo [29])) sb0_op3 lwF29 [.inr (.inr (4, [])), .inr (.inr (31, []))] = true := by decide +kernel
set_option maxRecDepth 1000000 in
theorem sb0E5q : wEdQ lwTch 48 x_KT x_tb x_tyl x_ov0 u_ct u_hs x_knd lwFR lwGA lwGB 43 35 45 sb0WA5 sb0WB5 8000 0 60 113 1 60 205 sb0_op4 [] (sb0o5.map (wNo [29])) = true := by decide +kernel
theorem sb0E5 : wEd x_KT x_tb x_tyl x_ov0 u_ct u_hs x_knd lwFR lwGA lwGB 43 35 45 sb0WA5 sb0WB5 8000 0 60 113 1 60 205 sb0_op4 [] (sb0o5.map (wNo [29])) = true := wEdQ_ok lwTchOk sb0E5q
set_option maxRecDepth 1000000 in
theorem sb0E5R29 : wRkE x_KT x_tb x_tyl x_ov0 u_ct u_hs x_knd lwFR lwGA lwGB sb0VA5_29 sb0VB5_29 8000 0 60 113 1 60 205 (sb0o5.map (wNo [29])) sb0_op4 lwF29 [.inr (.inr (4, [])), .inr (.inr (31, []))] = true := by decide +kernel
set_option maxRecDepth 1000000 in
theorem sb0E6q : wEdQ lwTch 48 x_KT x_tb x_tyl x_ov0 u_ct u_hs x_knd lwFR lwGA lwGB 43 35 45 sb0WA6 sb0WB6 8000 0 60 113 1 60 205 sb0_op5 [] (sb0o6.map (wNo [29])) = true := by decide +kernel
theorem sb0E6 : wEd x_KT x_tb x_tyl x_ov0 u_ct u_hs x_knd lwFR lwGA lwGB 43 35 45 sb0WA6 sb0WB6 8000 0 60 113 1 60 205 sb0_op5 [] (sb0o6.map (wNo [29])) = true := wEdQ_ok lwTchOk sb0E6q
set_option maxRecDepth 1000000 in
theorem sb0E6R29 : wRkE x_KT x_tb x_tyl x_ov0 u_ct u_hs x_knd lwFR lwGA lwGB sb0VA6_29 sb0VB6_29 8000 0 60 113 1 60 205 (sb0o6.map (wNo [29])) sb0_op5 lwF29 [.inr (.inr (4, [])), .inr (.inr (31, []))] = true := by decide +kernel
set_option maxRecDepth 1000000 in
theorem sb0E7q : wEdQ lwTch 48 x_KT x_tb x_tyl x_ov0 u_ct u_hs x_knd lwFR lwGA lwGB 43 35 45 sb0WA7 sb0WB7 8000 0 60 113 1 60 205 sb0_op6 [] (sb0o7.map (wNo [29])) = true := by decide +kernel
theorem sb0E7 : wEd x_KT x_tb x_tyl x_ov0 u_ct u_hs x_knd lwFR lwGA lwGB 43 35 45 sb0WA7 sb0WB7 8000 0 60 113 1 60 205 sb0_op6 [] (sb0o7.map (wNo [29])) = true := wEdQ_ok lwTchOk sb0E7q
set_option maxRecDepth 1000000 in
theorem sb0E7R29 : wRkE x_KT x_tb x_tyl x_ov0 u_ct u_hs x_knd lwFR lwGA lwGB sb0VA7_29 sb0VB7_29 8000 0 60 113 1 60 205 (sb0o7.map (wNo [29])) sb0_op6 lwF29 [.inr (.inr (4, [])), .inr (.inr (31, []))] = true := by decide +kernel
set_option maxRecDepth 1000000 in
theorem sb0E8q : wEdQ lwTch 48 x_KT x_tb x_tyl x_ov0 u_ct u_hs x_knd lwFR lwGA lwGB 43 35 45 sb0WA8 sb0WB8 8000 0 60 113 1 60 205 sb0_op7 [] sb0o8 = true := by decide +kernel
theorem sb0E8 : wEd x_KT x_tb x_tyl x_ov0 u_ct u_hs x_knd lwFR lwGA lwGB 43 35 45 sb0WA8 sb0WB8 8000 0 60 113 1 60 205 sb0_op7 [] sb0o8 = true := wEdQ_ok lwTchOk sb0E8q
set_option maxRecDepth 1000000 in
theorem sb0E9q : wEdQ lwTch 48 x_KT x_tb x_tyl x_ov0 u_ct u_hs x_knd lwFR lwGA lwGB 43 35 45 sb0WA9 sb0WB9 8000 0 60 113 1 60 205 sb0_op8 [] sb0o9 = true := by decide +kernel
theorem sb0E9 : wEd x_KT x_tb x_tyl x_ov0 u_ct u_hs x_knd lwFR lwGA lwGB 43 35 45 sb0WA9 sb0WB9 8000 0 60 113 1 60 205 sb0_op8 [] sb0o9 = true := wEdQ_ok lwTchOk sb0E9q
set_option maxRecDepth 1000000 in
theorem sb0E10q : wEdQ lwTch 48 x_KT x_tb x_tyl x_ov0 u_ct u_hs x_knd lwFR lwGA lwGB 43 35 45 sb0WA10 sb0WB10 8000 0 60 113 1 60 205 sb0_op9 [] sb0o10 = true := by decide +kernel
theorem sb0E10 : wEd x_KT x_tb x_tyl x_ov0 u_ct u_hs x_knd lwFR lwGA lwGB 43 35 45 sb0WA10 sb0WB10 8000 0 60 113 1 60 205 sb0_op9 [] sb0o10 = true := wEdQ_ok lwTchOk sb0E10q
set_option maxRecDepth 1000000 in
theorem sb0E11q : wEdQ lwTch 48 x_KT x_tb x_tyl x_ov0 u_ct u_hs x_knd lwFR lwGA lwGB 43 35 45 sb0WA11 sb0WB11 8000 0 60 113 1 60 205 sb0_op10 [] sb0o11 = true := by decide +kernel
theorem sb0E11 : wEd x_KT x_tb x_tyl x_ov0 u_ct u_hs x_knd lwFR lwGA lwGB 43 35 45 sb0WA11 sb0WB11 8000 0 60 113 1 60 205 sb0_op10 [] sb0o11 = true := wEdQ_ok lwTchOk sb0E11q
set_option maxRecDepth 1000000 in
theorem sb0E12q : wEdQ lwTch 48 x_KT x_tb x_tyl x_ov0 u_ct u_hs x_knd lwFR lwGA lwGB 43 35 45 sb0WA12 sb0WB12 8000 0 60 113 1 60 205 sb0_op11 [] sb0o12 = true := by decide +kernel
theorem sb0E12 : wEd x_KT x_tb x_tyl x_ov0 u_ct u_hs x_knd lwFR lwGA lwGB 43 35 45 sb0WA12 sb0WB12 8000 0 60 113 1 60 205 sb0_op11 [] sb0o12 = true := wEdQ_ok lwTchOk sb0E12q
set_option maxRecDepth 1000000 in
theorem fb0E0q : wEdQ lwTch 48 x_KT x_tb x_tyl x_ov0 u_ct u_hs x_knd lwFR lwGA lwGB 29 35 45 fb0WA0 fb0WB0 8000 1 60 116 1 60 203 fb0_in [] (fb0o0.map (wNo [29, 42, 47])) = true := by decide +kernel
theorem fb0E0 : wEd x_KT x_tb x_tyl x_ov0 u_ct u_hs x_knd lwFR lwGA lwGB 29 35 45 fb0WA0 fb0WB0 8000 1 60 116 1 60 203 fb0_in [] (fb0o0.map (wNo [29, 42, 47])) = true := wEdQ_ok lwTchOk fb0E0q
set_option maxRecDepth 1000000 in
theorem fb0E0R29 : wRkE x_KT x_tb x_tyl x_ov0 u_ct u_hs x_knd lwFR lwGA lwGB fb0VA0_29 fb0VB0_29 8000 1 60 116 1 60 203 (fb0o0.map (wNo [29, 42, 47])) fb0_in lwF29 [.inl (lAdd (lSy 31) (lK (-1))), .inl (lAdd (lSy 31) (lK (-2))), .inl (lAdd (lSy 31) (lK (-3))), .inl (lAdd (lSy 31) (lK (-4))), .inl (lAdd (lSy 31) (lK (-5))), .inr (.inr (31, [(lK 0)])), .inr (.inr (31, [(lK 1)])), .inr (.inr (31, [(lK 2)])), .inr (.inr (31, [(lK 3)])), .inr (.inr (31, [(lK 4)])), .inr (.inr (31, [(lK 5)])), .inr (.inl (0, (lK 0))), .inr (.inl (0, (lK 1))), .inr (.inl (0, (lK 2))), .inr (.inl (0, (lK 3))), .inr (.inl (0, (lK 4))), .inr (.inl (0, (lK 5)))] = true := by decide +kernel
set_option maxRecDepth 1000000 in
theorem fb0E0R42 : wRkE x_KT x_tb x_tyl x_ov0 u_ct u_hs x_knd lwFR lwGA lwGB fb0VA0_42 fb0VB0_42 8000 1 60 116 1 60 203 (fb0o0.map (wNo [29, 42, 47])) fb0_in lwF42 [] = true := by decide +kernel
set_option maxRecDepth 1000000 in
theorem fb0E0R47 : wRkE x_KT x_tb x_tyl x_ov0 u_ct u_hs x_knd lwFR lwGA lwGB fb0VA0_47 fb0VB0_47 8000 1 60 116 1 60 203 (fb0o0.map (wNo [29, 42, 47])) fb0_in lwF47 [.inr (.inr (0, [(lSy 6)])), .inl (lSy 32), .inr (.inr (8, [(lSy 6)])), .inr (.inr (12, [(lSy 32), (lSy 6)])), .inr (.inr (12, [(lSy 6), (lSy 32)])), .inr (.inr (10, [(lSy 32)])), .inr (.inl (2008, lK 0)), .inl (lAdd (lSy 31) (lSc (-1) (lSy 6))), .inl (lAdd (lSc (-1) (lSy 31)) (lSy 6)), .inr (.inl (1001, (lAdd (lSc (-1) (lSy 31)) (lAdd (lSy 3) (lK (-1)))))), .inl (lAdd (lSc (-1) (lSy 31)) (lAdd (lSy 3) (lK (-1)))), .inr (.inl (0, (lSy 6))), .inr (.inr (12, [(lSy 31), (lSy 6)])), .inr (.inr (12, [(lSy 6), (lSy 31)])), .inr (.inl (2008, lK 0))] = true := by decide +kernel
theorem fb0L1 : wRlk 40 35 45 sp0WA sp0WB fb0X1.2.1 fb0X1.2.2.1 fb0X1.2.2.2.1 fb0X1.2.2.2.2 sp0_in = true := by decide +kernel
set_option maxRecDepth 1000000 in
theorem fb0E2q : wEdQ lwTch 48 x_KT x_tb x_tyl x_ov0 u_ct u_hs x_knd lwFR lwGA lwGB 29 35 45 fb0WA2 fb0WB2 8000 1 60 116 1 60 203 fb0_T [] fb0o2 = true := by decide +kernel
theorem fb0E2 : wEd x_KT x_tb x_tyl x_ov0 u_ct u_hs x_knd lwFR lwGA lwGB 29 35 45 fb0WA2 fb0WB2 8000 1 60 116 1 60 203 fb0_T [] fb0o2 = true := wEdQ_ok lwTchOk fb0E2q
theorem fb0L3 : wRlk 40 35 45 sp0WA sp0WB fb0X3.2.1 fb0X3.2.2.1 fb0X3.2.2.2.1 fb0X3.2.2.2.2 sp0_in = true := by decide +kernel
set_option maxRecDepth 1000000 in
theorem fb0E4q : wEdQ lwTch 48 x_KT x_tb x_tyl x_ov0 u_ct u_hs x_knd lwFR lwGA lwGB 29 35 45 fb0WA4 fb0WB4 8000 1 60 116 1 60 203 fb0_RR [] fb0o4 = true := by decide +kernel
theorem fb0E4 : wEd x_KT x_tb x_tyl x_ov0 u_ct u_hs x_knd lwFR lwGA lwGB 29 35 45 fb0WA4 fb0WB4 8000 1 60 116 1 60 203 fb0_RR [] fb0o4 = true := wEdQ_ok lwTchOk fb0E4q
theorem fb0L5 : wRlk 40 35 45 sp0WA sp0WB fb0X5.2.1 fb0X5.2.2.1 fb0X5.2.2.2.1 fb0X5.2.2.2.2 sp0_in = true := by decide +kernel
set_option maxRecDepth 1000000 in
theorem fb0E6q : wEdQ lwTch 48 x_KT x_tb x_tyl x_ov0 u_ct u_hs x_knd lwFR lwGA lwGB 29 35 45 fb0WA6 fb0WB6 8000 1 60 116 1 60 203 fb0_RO [] fb0o6 = true := by decide +kernel
theorem fb0E6 : wEd x_KT x_tb x_tyl x_ov0 u_ct u_hs x_knd lwFR lwGA lwGB 29 35 45 fb0WA6 fb0WB6 8000 1 60 116 1 60 203 fb0_RO [] fb0o6 = true := wEdQ_ok lwTchOk fb0E6q
theorem fb0L7 : wRlk 43 35 45 sb0WA sb0WB fb0X7.2.1 fb0X7.2.2.1 fb0X7.2.2.2.1 fb0X7.2.2.2.2 sb0_in = true := by decide +kernel
theorem fb0L8 : wRlk 43 35 45 sb0WA sb0WB fb0X8.2.1 fb0X8.2.2.1 fb0X8.2.2.2.1 fb0X8.2.2.2.2 sb0_in = true := by decide +kernel
theorem fb0L9 : wRlk 43 35 45 sb0WA sb0WB fb0X9.2.1 fb0X9.2.2.1 fb0X9.2.2.2.1 fb0X9.2.2.2.2 sb0_in = true := by decide +kernel
theorem fb0L10 : wRlk 43 35 45 sb0WA sb0WB fb0X10.2.1 fb0X10.2.2.1 fb0X10.2.2.2.1 fb0X10.2.2.2.2 sb0_in = true := by decide +kernel
theorem fb0L11 : wRlk 43 35 45 sb0WA sb0WB fb0X11.2.1 fb0X11.2.2.1 fb0X11.2.2.2.1 fb0X11.2.2.2.2 sb0_in = true := by decide +kernel
set_option maxRecDepth 1000000 in
theorem fb0E12q : wEdQ lwTch 48 x_KT x_tb x_tyl x_ov0 u_ct u_hs x_knd lwFR lwGA lwGB 29 35 45 fb0WA12 fb0WB12 8000 0 60 116 1 60 203 fb0_c0T_R [] fb0o12 = true := by decide +kernel
theorem fb0E12 : wEd x_KT x_tb x_tyl x_ov0 u_ct u_hs x_knd lwFR lwGA lwGB 29 35 45 fb0WA12 fb0WB12 8000 0 60 116 1 60 203 fb0_c0T_R [] fb0o12 = true := wEdQ_ok lwTchOk fb0E12q
set_option maxRecDepth 1000000 in
theorem fb0E13q : wEdQ lwTch 48 x_KT x_tb x_tyl x_ov0 u_ct u_hs x_knd lwFR lwGA lwGB 29 35 45 fb0WA13 fb0WB13 8000 0 60 116 1 60 203 fb0_c0T_O [] fb0o13 = true := by decide +kernel
theorem fb0E13 : wEd x_KT x_tb x_tyl x_ov0 u_ct u_hs x_knd lwFR lwGA lwGB 29 35 45 fb0WA13 fb0WB13 8000 0 60 116 1 60 203 fb0_c0T_O [] fb0o13 = true := wEdQ_ok lwTchOk fb0E13q
set_option maxRecDepth 1000000 in
theorem fb0E14q : wEdQ lwTch 48 x_KT x_tb x_tyl x_ov0 u_ct u_hs x_knd lwFR lwGA lwGB 29 35 45 fb0WA14 fb0WB14 8000 0 60 116 1 60 203 fb0_c0RR_R [] fb0o14 = true := by decide +kernel
theorem fb0E14 : wEd x_KT x_tb x_tyl x_ov0 u_ct u_hs x_knd lwFR lwGA lwGB 29 35 45 fb0WA14 fb0WB14 8000 0 60 116 1 60 203 fb0_c0RR_R [] fb0o14 = true := wEdQ_ok lwTchOk fb0E14q
set_option maxRecDepth 1000000 in
theorem fb0E15q : wEdQ lwTch 48 x_KT x_tb x_tyl x_ov0 u_ct u_hs x_knd lwFR lwGA lwGB 29 35 45 fb0WA15 fb0WB15 8000 0 60 116 1 60 203 fb0_c0RR_O [] fb0o15 = true := by decide +kernel
theorem fb0E15 : wEd x_KT x_tb x_tyl x_ov0 u_ct u_hs x_knd lwFR lwGA lwGB 29 35 45 fb0WA15 fb0WB15 8000 0 60 116 1 60 203 fb0_c0RR_O [] fb0o15 = true := wEdQ_ok lwTchOk fb0E15q
set_option maxRecDepth 1000000 in
theorem fb0E16q : wEdQ lwTch 48 x_KT x_tb x_tyl x_ov0 u_ct u_hs x_knd lwFR lwGA lwGB 29 35 45 fb0WA16 fb0WB16 8000 1 60 116 1 60 203 fb0_c0RO_R [.inr (.inl (1001, (lAdd (lSc (-1) (lSy 33)) (lK 149))))] fb0o16 = true := by decide +kernel
theorem fb0E16 : wEd x_KT x_tb x_tyl x_ov0 u_ct u_hs x_knd lwFR lwGA lwGB 29 35 45 fb0WA16 fb0WB16 8000 1 60 116 1 60 203 fb0_c0RO_R [.inr (.inl (1001, (lAdd (lSc (-1) (lSy 33)) (lK 149))))] fb0o16 = true := wEdQ_ok lwTchOk fb0E16q
set_option maxRecDepth 1000000 in
theorem fb0E17q : wEdQ lwTch 48 x_KT x_tb x_tyl x_ov0 u_ct u_hs x_knd lwFR lwGA lwGB 29 35 45 fb0WA17 fb0WB17 8000 1 60 116 1 60 203 fb0_c0RO_O [.inr (.inl (1001, (lAdd (lSc (-1) (lSy 33)) (lK 149))))] fb0o17 = true := by decide +kernel
theorem fb0E17 : wEd x_KT x_tb x_tyl x_ov0 u_ct u_hs x_knd lwFR lwGA lwGB 29 35 45 fb0WA17 fb0WB17 8000 1 60 116 1 60 203 fb0_c0RO_O [.inr (.inl (1001, (lAdd (lSc (-1) (lSy 33)) (lK 149))))] fb0o17 = true := wEdQ_ok lwTchOk fb0E17q
set_option maxRecDepth 1000000 in
theorem fb0E18q : wEdQ lwTch 48 x_KT x_tb x_tyl x_ov0 u_ct u_hs x_knd lwFR lwGA lwGB 29 35 45 fb0WA18 fb0WB18 8000 0 60 116 1 60 203 fb0_OR [] fb0o18 = true := by decide +kernel
theorem fb0E18 : wEd x_KT x_tb x_tyl x_ov0 u_ct u_hs x_knd lwFR lwGA lwGB 29 35 45 fb0WA18 fb0WB18 8000 0 60 116 1 60 203 fb0_OR [] fb0o18 = true := wEdQ_ok lwTchOk fb0E18q
set_option maxRecDepth 1000000 in
theorem fb0E19q : wEdQ lwTch 48 x_KT x_tb x_tyl x_ov0 u_ct u_hs x_knd lwFR lwGA lwGB 29 35 45 fb0WA19 fb0WB19 8000 1 60 116 1 60 203 fb0_c1TR_R [.inr (.inl (1001, (lAdd (lSc (-1) (lSy 33)) (lK 149))))] fb0o19 = true := by decide +kernel
theorem fb0E19 : wEd x_KT x_tb x_tyl x_ov0 u_ct u_hs x_knd lwFR lwGA lwGB 29 35 45 fb0WA19 fb0WB19 8000 1 60 116 1 60 203 fb0_c1TR_R [.inr (.inl (1001, (lAdd (lSc (-1) (lSy 33)) (lK 149))))] fb0o19 = true := wEdQ_ok lwTchOk fb0E19q
set_option maxRecDepth 1000000 in
theorem fb0E20q : wEdQ lwTch 48 x_KT x_tb x_tyl x_ov0 u_ct u_hs x_knd lwFR lwGA lwGB 29 35 45 fb0WA20 fb0WB20 8000 1 60 116 1 60 203 fb0_c1TR_O [.inr (.inl (1001, (lAdd (lSc (-1) (lSy 33)) (lK 149))))] fb0o20 = true := by decide +kernel
theorem fb0E20 : wEd x_KT x_tb x_tyl x_ov0 u_ct u_hs x_knd lwFR lwGA lwGB 29 35 45 fb0WA20 fb0WB20 8000 1 60 116 1 60 203 fb0_c1TR_O [.inr (.inl (1001, (lAdd (lSc (-1) (lSy 33)) (lK 149))))] fb0o20 = true := wEdQ_ok lwTchOk fb0E20q
set_option maxRecDepth 1000000 in
theorem fb0E21q : wEdQ lwTch 48 x_KT x_tb x_tyl x_ov0 u_ct u_hs x_knd lwFR lwGA lwGB 29 35 45 fb0WA21 fb0WB21 8000 1 60 116 1 60 203 fb0_c1TO_R [.inr (.inl (1001, (lAdd (lSc (-1) (lSy 33)) (lK 149))))] fb0o21 = true := by decide +kernel
theorem fb0E21 : wEd x_KT x_tb x_tyl x_ov0 u_ct u_hs x_knd lwFR lwGA lwGB 29 35 45 fb0WA21 fb0WB21 8000 1 60 116 1 60 203 fb0_c1TO_R [.inr (.inl (1001, (lAdd (lSc (-1) (lSy 33)) (lK 149))))] fb0o21 = true := wEdQ_ok lwTchOk fb0E21q
set_option maxRecDepth 1000000 in
theorem fb0E22q : wEdQ lwTch 48 x_KT x_tb x_tyl x_ov0 u_ct u_hs x_knd lwFR lwGA lwGB 29 35 45 fb0WA22 fb0WB22 8000 1 60 116 1 60 203 fb0_c1TO_O [.inr (.inl (1001, (lAdd (lSc (-1) (lSy 33)) (lK 149))))] fb0o22 = true := by decide +kernel
theorem fb0E22 : wEd x_KT x_tb x_tyl x_ov0 u_ct u_hs x_knd lwFR lwGA lwGB 29 35 45 fb0WA22 fb0WB22 8000 1 60 116 1 60 203 fb0_c1TO_O [.inr (.inl (1001, (lAdd (lSc (-1) (lSy 33)) (lK 149))))] fb0o22 = true := wEdQ_ok lwTchOk fb0E22q
set_option maxRecDepth 1000000 in
theorem fb0E23q : wEdQ lwTch 48 x_KT x_tb x_tyl x_ov0 u_ct u_hs x_knd lwFR lwGA lwGB 29 35 45 fb0WA23 fb0WB23 8000 1 60 116 1 60 203 fb0_c1RR_R [.inr (.inl (1001, (lAdd (lSc (-1) (lSy 33)) (lK 149))))] fb0o23 = true := by decide +kernel
theorem fb0E23 : wEd x_KT x_tb x_tyl x_ov0 u_ct u_hs x_knd lwFR lwGA lwGB 29 35 45 fb0WA23 fb0WB23 8000 1 60 116 1 60 203 fb0_c1RR_R [.inr (.inl (1001, (lAdd (lSc (-1) (lSy 33)) (lK 149))))] fb0o23 = true := wEdQ_ok lwTchOk fb0E23q
set_option maxRecDepth 1000000 in
theorem fb0E24q : wEdQ lwTch 48 x_KT x_tb x_tyl x_ov0 u_ct u_hs x_knd lwFR lwGA lwGB 29 35 45 fb0WA24 fb0WB24 8000 1 60 116 1 60 203 fb0_c1RR_O [.inr (.inl (1001, (lAdd (lSc (-1) (lSy 33)) (lK 149))))] fb0o24 = true := by decide +kernel
theorem fb0E24 : wEd x_KT x_tb x_tyl x_ov0 u_ct u_hs x_knd lwFR lwGA lwGB 29 35 45 fb0WA24 fb0WB24 8000 1 60 116 1 60 203 fb0_c1RR_O [.inr (.inl (1001, (lAdd (lSc (-1) (lSy 33)) (lK 149))))] fb0o24 = true := wEdQ_ok lwTchOk fb0E24q
set_option maxRecDepth 1000000 in
theorem fb0E25q : wEdQ lwTch 48 x_KT x_tb x_tyl x_ov0 u_ct u_hs x_knd lwFR lwGA lwGB 29 35 45 fb0WA25 fb0WB25 8000 1 60 116 1 60 203 fb0_c1RO_R [.inr (.inl (1001, (lAdd (lSc (-1) (lSy 33)) (lK 149))))] fb0o25 = true := by decide +kernel
theorem fb0E25 : wEd x_KT x_tb x_tyl x_ov0 u_ct u_hs x_knd lwFR lwGA lwGB 29 35 45 fb0WA25 fb0WB25 8000 1 60 116 1 60 203 fb0_c1RO_R [.inr (.inl (1001, (lAdd (lSc (-1) (lSy 33)) (lK 149))))] fb0o25 = true := wEdQ_ok lwTchOk fb0E25q
set_option maxRecDepth 1000000 in
theorem fb0E26q : wEdQ lwTch 48 x_KT x_tb x_tyl x_ov0 u_ct u_hs x_knd lwFR lwGA lwGB 29 35 45 fb0WA26 fb0WB26 8000 1 60 116 1 60 203 fb0_c1RO_O [.inr (.inl (1001, (lAdd (lSc (-1) (lSy 33)) (lK 149))))] fb0o26 = true := by decide +kernel
theorem fb0E26 : wEd x_KT x_tb x_tyl x_ov0 u_ct u_hs x_knd lwFR lwGA lwGB 29 35 45 fb0WA26 fb0WB26 8000 1 60 116 1 60 203 fb0_c1RO_O [.inr (.inl (1001, (lAdd (lSc (-1) (lSy 33)) (lK 149))))] fb0o26 = true := wEdQ_ok lwTchOk fb0E26q
set_option maxRecDepth 1000000 in
theorem fb0E27q : wEdQ lwTch 48 x_KT x_tb x_tyl x_ov0 u_ct u_hs x_knd lwFR lwGA lwGB 29 35 45 fb0WA27 fb0WB27 8000 0 60 116 1 60 203 fb0_c1OR_R [] fb0o27 = true := by decide +kernel
theorem fb0E27 : wEd x_KT x_tb x_tyl x_ov0 u_ct u_hs x_knd lwFR lwGA lwGB 29 35 45 fb0WA27 fb0WB27 8000 0 60 116 1 60 203 fb0_c1OR_R [] fb0o27 = true := wEdQ_ok lwTchOk fb0E27q
set_option maxRecDepth 1000000 in
theorem fb0E28q : wEdQ lwTch 48 x_KT x_tb x_tyl x_ov0 u_ct u_hs x_knd lwFR lwGA lwGB 29 35 45 fb0WA28 fb0WB28 8000 0 60 116 1 60 203 fb0_c1OR_O [] fb0o28 = true := by decide +kernel
theorem fb0E28 : wEd x_KT x_tb x_tyl x_ov0 u_ct u_hs x_knd lwFR lwGA lwGB 29 35 45 fb0WA28 fb0WB28 8000 0 60 116 1 60 203 fb0_c1OR_O [] fb0o28 = true := wEdQ_ok lwTchOk fb0E28q
set_option maxRecDepth 1000000 in
theorem fb0E29q : wEdQ lwTch 48 x_KT x_tb x_tyl x_ov0 u_ct u_hs x_knd lwFR lwGA lwGB 29 35 45 fb0WA29 fb0WB29 8000 1 60 116 1 60 203 fb0_OO [] fb0o29 = true := by decide +kernel
theorem fb0E29 : wEd x_KT x_tb x_tyl x_ov0 u_ct u_hs x_knd lwFR lwGA lwGB 29 35 45 fb0WA29 fb0WB29 8000 1 60 116 1 60 203 fb0_OO [] fb0o29 = true := wEdQ_ok lwTchOk fb0E29q
theorem aiL0 : wRlk 29 35 45 fb0WA fb0WB aiX0.2.1 aiX0.2.2.1 aiX0.2.2.2.1 aiX0.2.2.2.2 fb0_in = true := by decide +kernel
set_option maxRecDepth 1000000 in
theorem aiE1q : wEdQ lwTch 48 x_KT x_tb x_tyl x_ov0 u_ct u_hs x_knd lwFR lwGA lwGB 29 35 45 aiWA1 aiWB1 8000 0 60 116 1 60 244 ai_in [] aio1 = true := by decide +kernel
theorem aiE1 : wEd x_KT x_tb x_tyl x_ov0 u_ct u_hs x_knd lwFR lwGA lwGB 29 35 45 aiWA1 aiWB1 8000 0 60 116 1 60 244 ai_in [] aio1 = true := wEdQ_ok lwTchOk aiE1q
set_option maxRecDepth 1000000 in
theorem aiE2q : wEdQ lwTch 48 x_KT x_tb x_tyl x_ov0 u_ct u_hs x_knd lwFR lwGA lwGB 29 35 45 aiWA2 aiWB2 8000 1 60 116 1 60 244 ai_c_X [] (aio2.map (wNo [44])) = true := by decide +kernel
theorem aiE2 : wEd x_KT x_tb x_tyl x_ov0 u_ct u_hs x_knd lwFR lwGA lwGB 29 35 45 aiWA2 aiWB2 8000 1 60 116 1 60 244 ai_c_X [] (aio2.map (wNo [44])) = true := wEdQ_ok lwTchOk aiE2q
set_option maxRecDepth 1000000 in
theorem aiE2R44 : wRkE x_KT x_tb x_tyl x_ov0 u_ct u_hs x_knd lwFR lwGA lwGB aiVA2_44 aiVB2_44 8000 1 60 116 1 60 244 (aio2.map (wNo [44])) ai_c_X lwF44 [.inr (.inr (31, [(lSy 33)])), .inr (.inl (2008, lK 0))] = true := by decide +kernel
set_option maxRecDepth 1000000 in
theorem ctp1E0q : wEdQ lwTch 48 x_KT x_tb x_tyl x_ov0 u_ct u_hs x_knd lwFR lwGA lwGB 42 35 45 ctp1WA0 ctp1WB0 8000 1 60 70 1 60 206 ctp1_in [.inr (.inr (30, [(lSy 6), (lSy 40)])), .inr (.inl (2008, lK 0))] ctp1o0 = true := by decide +kernel
theorem ctp1E0 : wEd x_KT x_tb x_tyl x_ov0 u_ct u_hs x_knd lwFR lwGA lwGB 42 35 45 ctp1WA0 ctp1WB0 8000 1 60 70 1 60 206 ctp1_in [.inr (.inr (30, [(lSy 6), (lSy 40)])), .inr (.inl (2008, lK 0))] ctp1o0 = true := wEdQ_ok lwTchOk ctp1E0q
theorem rip1L0 : wRlk 42 35 45 ctp1WA ctp1WB rip1X0.2.1 rip1X0.2.2.1 rip1X0.2.2.2.1 rip1X0.2.2.2.2 ctp1_in = true := by decide +kernel
set_option maxRecDepth 1000000 in
theorem rip1E1q : wEdQ lwTch 48 x_KT x_tb x_tyl x_ov0 u_ct u_hs x_knd lwFR lwGA lwGB 41 35 45 rip1WA1 rip1WB1 8000 1 60 72 1 60 205 rip1_in [.inr (.inr (28, [(lSy 6), (lSy 32)])), .inr (.inl (2008, lK 0))] rip1o1 = true := by decide +kernel
theorem rip1E1 : wEd x_KT x_tb x_tyl x_ov0 u_ct u_hs x_knd lwFR lwGA lwGB 41 35 45 rip1WA1 rip1WB1 8000 1 60 72 1 60 205 rip1_in [.inr (.inr (28, [(lSy 6), (lSy 32)])), .inr (.inl (2008, lK 0))] rip1o1 = true := wEdQ_ok lwTchOk rip1E1q
set_option maxRecDepth 1000000 in
theorem rip1E2q : wEdQ lwTch 48 x_KT x_tb x_tyl x_ov0 u_ct u_hs x_knd lwFR lwGA lwGB 41 35 45 rip1WA2 rip1WB2 8000 1 60 72 1 60 205 rip1_c_x [] (rip1o2.map (wNo [41, 47])) = true := by decide +kernel
theorem rip1E2 : wEd x_KT x_tb x_tyl x_ov0 u_ct u_hs x_knd lwFR lwGA lwGB 41 35 45 rip1WA2 rip1WB2 8000 1 60 72 1 60 205 rip1_c_x [] (rip1o2.map (wNo [41, 47])) = true := wEdQ_ok lwTchOk rip1E2q
set_option maxRecDepth 1000000 in
theorem rip1E2G0 : gRk x_KT x_tb x_tyl x_ov0 u_ct u_hs x_knd lwFR lwGA lwGB rip1E2G0VA rip1E2G0VB 8000 1 60 72 1 60 205 (rip1o2.map (wNo [41, 47])) rip1_c_x lwF41 [.inl (lAdd (lSy 43) (lSc (-1) (lSy 40))), .inl (lAdd (lSc (-1) (lSy 43)) (lSy 40)), .inr (.inl (0, (lSy 40))), .inr (.inr (32, [(lSy 40)])), .inr (.inr (32, []))] [] rip1E2G0I = true := by decide +kernel
end XRuC10
