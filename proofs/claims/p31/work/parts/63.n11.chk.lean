/-! Runs: checks, 11. -/
noncomputable section XRuC11
set_option maxRecDepth 1000000 in
theorem sb0E2R51 : wRkE x_KT x_tb x_tyl x_ov0 u_ct u_hs x_knd lwFR lwGA lwGB sb0VA2_51 sb0VB2_51 8000 0 60 113 1 60 205 (sb0o2.map (wNo [33, 51])) sb0_op1 lwF51 [.inr (.inr (37, [(lSy 8)])), .inr (.inl (2008, lK 0)), .inl (lAdd (lSy 46) (lSc (-1) (lSy 8))), .inl (lAdd (lSc (-1) (lSy 46)) (lSy 8)), .inr (.inl (1001, (lAdd (lSc (-1) (lSy 46)) (lAdd (lSy 5) (lK (-1)))))), .inl (lAdd (lSc (-1) (lSy 46)) (lAdd (lSy 5) (lK (-1)))), .inr (.inl (0, (lSy 8))), .inr (.inr (12, [(lSy 46), (lSy 8)])), .inr (.inr (12, [(lSy 8), (lSy 46)])), .inr (.inr (37, [])), .inr (.inl (2008, lK 0))] = true := by decide +kernel
set_option maxRecDepth 1000000 in
theorem sb0E3q : wEdQ lwTch 52 x_KT x_tb x_tyl x_ov0 u_ct u_hs x_knd lwFR lwGA lwGB 45 39 47 sb0WA3 sb0WB3 8000 0 60 113 1 60 205 sb0_op2 [] (sb0o3.map (wNo [46])) = true := by decide +kernel
theorem sb0E3 : wEd x_KT x_tb x_tyl x_ov0 u_ct u_hs x_knd lwFR lwGA lwGB 45 39 47 sb0WA3 sb0WB3 8000 0 60 113 1 60 205 sb0_op2 [] (sb0o3.map (wNo [46])) = true := wEdQ_ok lwTchOk sb0E3q
set_option maxRecDepth 1000000 in
theorem sb0E3R46 : wRkE x_KT x_tb x_tyl x_ov0 u_ct u_hs x_knd lwFR lwGA lwGB sb0VA3_46 sb0VB3_46 8000 0 60 113 1 60 205 (sb0o3.map (wNo [46])) sb0_op2 lwF46 [.inr (.inr (4, [])), .inr (.inr (36, []))] = true := by decide +kernel
set_option maxRecDepth 1000000 in
theorem sb0E4q : wEdQ lwTch 52 x_KT x_tb x_tyl x_ov0 u_ct u_hs x_knd lwFR lwGA lwGB 45 39 47 sb0WA4 sb0WB4 8000 0 60 113 1 60 205 sb0_op3 [] (sb0o4.map (wNo [33])) = true := by decide +kernel
theorem sb0E4 : wEd x_KT x_tb x_tyl x_ov0 u_ct u_hs x_knd lwFR lwGA lwGB 45 39 47 sb0WA4 sb0WB4 8000 0 60 113 1 60 205 sb0_op3 [] (sb0o4.map (wNo [33])) = true := wEdQ_ok lwTchOk sb0E4q
set_option maxRecDepth 1000000 in
theorem sb0E4R33 : wRkE x_KT x_tb x_tyl x_ov0 u_ct u_hs x_knd lwFR lwGA lwGB sb0VA4_33 sb0VB4_33 8000 0 60 113 1 60 205 (sb0o4.map (wNo [33])) sb0_op3 lwF33 [.inr (.inr (4, [])), .inr (.inr (35, []))] = true := by decide +kernel
set_option maxRecDepth 1000000 in
theorem sb0E5q : wEdQ lwTch 52 x_KT x_tb x_tyl x_ov0 u_ct u_hs x_knd lwFR lwGA lwGB 45 39 47 sb0WA5 sb0WB5 8000 0 60 113 1 60 205 sb0_op4 [] (sb0o5.map (wNo [33])) = true := by decide +kernel
theorem sb0E5 : wEd x_KT x_tb x_tyl x_ov0 u_ct u_hs x_knd lwFR lwGA lwGB 45 39 47 sb0WA5 sb0WB5 8000 0 60 113 1 60 205 sb0_op4 [] (sb0o5.map (wNo [33])) = true := wEdQ_ok lwTchOk sb0E5q
set_option maxRecDepth 1000000 in
theorem sb0E5R33 : wRkE x_KT x_tb x_tyl x_ov0 u_ct u_hs x_knd lwFR lwGA lwGB sb0VA5_33 sb0VB5_33 8000 0 60 113 1 60 205 (sb0o5.map (wNo [33])) sb0_op4 lwF33 [.inr (.inr (4, [])), .inr (.inr (35, []))] = true := by decide +kernel
set_option maxRecDepth 1000000 in
theorem sb0E6q : wEdQ lwTch 52 x_KT x_tb x_tyl x_ov0 u_ct u_hs x_knd lwFR lwGA lwGB 45 39 47 sb0WA6 sb0WB6 8000 0 60 113 1 60 205 sb0_op5 [] (sb0o6.map (wNo [33])) = true := by decide +kernel
theorem sb0E6 : wEd x_KT x_tb x_tyl x_ov0 u_ct u_hs x_knd lwFR lwGA lwGB 45 39 47 sb0WA6 sb0WB6 8000 0 60 113 1 60 205 sb0_op5 [] (sb0o6.map (wNo [33])) = true := wEdQ_ok lwTchOk sb0E6q
set_option maxRecDepth 1000000 in
theorem sb0E6R33 : wRkE x_KT x_tb x_tyl x_ov0 u_ct u_hs x_knd lwFR lwGA lwGB sb0VA6_33 sb0VB6_33 8000 0 60 113 1 60 205 (sb0o6.map (wNo [33])) sb0_op5 lwF33 [.inr (.inr (4, [])), .inr (.inr (35, []))] = true := by decide +kernel
set_option maxRecDepth 1000000 in
theorem sb0E7q : wEdQ lwTch 52 x_KT x_tb x_tyl x_ov0 u_ct u_hs x_knd lwFR lwGA lwGB 45 39 47 sb0WA7 sb0WB7 8000 0 60 113 1 60 205 sb0_op6 [] (sb0o7.map (wNo [33])) = true := by decide +kernel
theorem sb0E7 : wEd x_KT x_tb x_tyl x_ov0 u_ct u_hs x_knd lwFR lwGA lwGB 45 39 47 sb0WA7 sb0WB7 8000 0 60 113 1 60 205 sb0_op6 [] (sb0o7.map (wNo [33])) = true := wEdQ_ok lwTchOk sb0E7q
set_option maxRecDepth 1000000 in
theorem sb0E7R33 : wRkE x_KT x_tb x_tyl x_ov0 u_ct u_hs x_knd lwFR lwGA lwGB sb0VA7_33 sb0VB7_33 8000 0 60 113 1 60 205 (sb0o7.map (wNo [33])) sb0_op6 lwF33 [.inr (.inr (4, [])), .inr (.inr (35, []))] = true := by decide +kernel
set_option maxRecDepth 1000000 in
theorem sb0E8q : wEdQ lwTch 52 x_KT x_tb x_tyl x_ov0 u_ct u_hs x_knd lwFR lwGA lwGB 45 39 47 sb0WA8 sb0WB8 8000 0 60 113 1 60 205 sb0_op7 [] sb0o8 = true := by decide +kernel
theorem sb0E8 : wEd x_KT x_tb x_tyl x_ov0 u_ct u_hs x_knd lwFR lwGA lwGB 45 39 47 sb0WA8 sb0WB8 8000 0 60 113 1 60 205 sb0_op7 [] sb0o8 = true := wEdQ_ok lwTchOk sb0E8q
set_option maxRecDepth 1000000 in
theorem sb0E9q : wEdQ lwTch 52 x_KT x_tb x_tyl x_ov0 u_ct u_hs x_knd lwFR lwGA lwGB 45 39 47 sb0WA9 sb0WB9 8000 0 60 113 1 60 205 sb0_op8 [] sb0o9 = true := by decide +kernel
theorem sb0E9 : wEd x_KT x_tb x_tyl x_ov0 u_ct u_hs x_knd lwFR lwGA lwGB 45 39 47 sb0WA9 sb0WB9 8000 0 60 113 1 60 205 sb0_op8 [] sb0o9 = true := wEdQ_ok lwTchOk sb0E9q
set_option maxRecDepth 1000000 in
theorem sb0E10q : wEdQ lwTch 52 x_KT x_tb x_tyl x_ov0 u_ct u_hs x_knd lwFR lwGA lwGB 45 39 47 sb0WA10 sb0WB10 8000 0 60 113 1 60 205 sb0_op9 [] sb0o10 = true := by decide +kernel
theorem sb0E10 : wEd x_KT x_tb x_tyl x_ov0 u_ct u_hs x_knd lwFR lwGA lwGB 45 39 47 sb0WA10 sb0WB10 8000 0 60 113 1 60 205 sb0_op9 [] sb0o10 = true := wEdQ_ok lwTchOk sb0E10q
set_option maxRecDepth 1000000 in
theorem sb0E11q : wEdQ lwTch 52 x_KT x_tb x_tyl x_ov0 u_ct u_hs x_knd lwFR lwGA lwGB 45 39 47 sb0WA11 sb0WB11 8000 0 60 113 1 60 205 sb0_op10 [] sb0o11 = true := by decide +kernel
theorem sb0E11 : wEd x_KT x_tb x_tyl x_ov0 u_ct u_hs x_knd lwFR lwGA lwGB 45 39 47 sb0WA11 sb0WB11 8000 0 60 113 1 60 205 sb0_op10 [] sb0o11 = true := wEdQ_ok lwTchOk sb0E11q
set_option maxRecDepth 1000000 in
theorem sb0E12q : wEdQ lwTch 52 x_KT x_tb x_tyl x_ov0 u_ct u_hs x_knd lwFR lwGA lwGB 45 39 47 sb0WA12 sb0WB12 8000 0 60 113 1 60 205 sb0_op11 [] sb0o12 = true := by decide +kernel
theorem sb0E12 : wEd x_KT x_tb x_tyl x_ov0 u_ct u_hs x_knd lwFR lwGA lwGB 45 39 47 sb0WA12 sb0WB12 8000 0 60 113 1 60 205 sb0_op11 [] sb0o12 = true := wEdQ_ok lwTchOk sb0E12q
set_option maxRecDepth 1000000 in
theorem fb0E0q : wEdQ lwTch 52 x_KT x_tb x_tyl x_ov0 u_ct u_hs x_knd lwFR lwGA lwGB 31 39 47 fb0WA0 fb0WB0 8000 1 60 116 1 60 203 fb0_in [] (fb0o0.map (wNo [33, 46, 51])) = true := by decide +kernel
theorem fb0E0 : wEd x_KT x_tb x_tyl x_ov0 u_ct u_hs x_knd lwFR lwGA lwGB 31 39 47 fb0WA0 fb0WB0 8000 1 60 116 1 60 203 fb0_in [] (fb0o0.map (wNo [33, 46, 51])) = true := wEdQ_ok lwTchOk fb0E0q
set_option maxRecDepth 1000000 in
theorem fb0E0R33 : wRkE x_KT x_tb x_tyl x_ov0 u_ct u_hs x_knd lwFR lwGA lwGB fb0VA0_33 fb0VB0_33 8000 1 60 116 1 60 203 (fb0o0.map (wNo [33, 46, 51])) fb0_in lwF33 [.inl (lAdd (lSy 33) (lK (-1))), .inl (lAdd (lSy 33) (lK (-2))), .inl (lAdd (lSy 33) (lK (-3))), .inl (lAdd (lSy 33) (lK (-4))), .inl (lAdd (lSy 33) (lK (-5))), .inr (.inr (35, [(lK 0)])), .inr (.inr (35, [(lK 1)])), .inr (.inr (35, [(lK 2)])), .inr (.inr (35, [(lK 3)])), .inr (.inr (35, [(lK 4)])), .inr (.inr (35, [(lK 5)])), .inr (.inl (0, (lK 0))), .inr (.inl (0, (lK 1))), .inr (.inl (0, (lK 2))), .inr (.inl (0, (lK 3))), .inr (.inl (0, (lK 4))), .inr (.inl (0, (lK 5)))] = true := by decide +kernel
set_option maxRecDepth 1000000 in
theorem fb0E0R46 : wRkE x_KT x_tb x_tyl x_ov0 u_ct u_hs x_knd lwFR lwGA lwGB fb0VA0_46 fb0VB0_46 8000 1 60 116 1 60 203 (fb0o0.map (wNo [33, 46, 51])) fb0_in lwF46 [] = true := by decide +kernel
set_option maxRecDepth 1000000 in
theorem fb0E0R51 : wRkE x_KT x_tb x_tyl x_ov0 u_ct u_hs x_knd lwFR lwGA lwGB fb0VA0_51 fb0VB0_51 8000 1 60 116 1 60 203 (fb0o0.map (wNo [33, 46, 51])) fb0_in lwF51 [.inr (.inr (0, [(lSy 8)])), .inl (lSy 34), .inr (.inr (8, [(lSy 8)])), .inr (.inr (12, [(lSy 34), (lSy 8)])), .inr (.inr (12, [(lSy 8), (lSy 34)])), .inr (.inr (10, [(lSy 34)])), .inr (.inl (2008, lK 0)), .inl (lAdd (lSy 33) (lSc (-1) (lSy 8))), .inl (lAdd (lSc (-1) (lSy 33)) (lSy 8)), .inr (.inl (1001, (lAdd (lSc (-1) (lSy 33)) (lAdd (lSy 5) (lK (-1)))))), .inl (lAdd (lSc (-1) (lSy 33)) (lAdd (lSy 5) (lK (-1)))), .inr (.inl (0, (lSy 8))), .inr (.inr (12, [(lSy 33), (lSy 8)])), .inr (.inr (12, [(lSy 8), (lSy 33)])), .inr (.inl (2008, lK 0))] = true := by decide +kernel
theorem fb0L1 : wRlk 42 39 47 sp0WA sp0WB fb0X1.2.1 fb0X1.2.2.1 fb0X1.2.2.2.1 fb0X1.2.2.2.2 sp0_in = true := by decide +kernel
set_option maxRecDepth 1000000 in
theorem fb0E2q : wEdQ lwTch 52 x_KT x_tb x_tyl x_ov0 u_ct u_hs x_knd lwFR lwGA lwGB 31 39 47 fb0WA2 fb0WB2 8000 1 60 116 1 60 203 fb0_T [] fb0o2 = true := by decide +kernel
theorem fb0E2 : wEd x_KT x_tb x_tyl x_ov0 u_ct u_hs x_knd lwFR lwGA lwGB 31 39 47 fb0WA2 fb0WB2 8000 1 60 116 1 60 203 fb0_T [] fb0o2 = true := wEdQ_ok lwTchOk fb0E2q
theorem fb0L3 : wRlk 42 39 47 sp0WA sp0WB fb0X3.2.1 fb0X3.2.2.1 fb0X3.2.2.2.1 fb0X3.2.2.2.2 sp0_in = true := by decide +kernel
set_option maxRecDepth 1000000 in
theorem fb0E4q : wEdQ lwTch 52 x_KT x_tb x_tyl x_ov0 u_ct u_hs x_knd lwFR lwGA lwGB 31 39 47 fb0WA4 fb0WB4 8000 1 60 116 1 60 203 fb0_RR [] fb0o4 = true := by decide +kernel
theorem fb0E4 : wEd x_KT x_tb x_tyl x_ov0 u_ct u_hs x_knd lwFR lwGA lwGB 31 39 47 fb0WA4 fb0WB4 8000 1 60 116 1 60 203 fb0_RR [] fb0o4 = true := wEdQ_ok lwTchOk fb0E4q
theorem fb0L5 : wRlk 42 39 47 sp0WA sp0WB fb0X5.2.1 fb0X5.2.2.1 fb0X5.2.2.2.1 fb0X5.2.2.2.2 sp0_in = true := by decide +kernel
set_option maxRecDepth 1000000 in
theorem fb0E6q : wEdQ lwTch 52 x_KT x_tb x_tyl x_ov0 u_ct u_hs x_knd lwFR lwGA lwGB 31 39 47 fb0WA6 fb0WB6 8000 1 60 116 1 60 203 fb0_RO [] fb0o6 = true := by decide +kernel
theorem fb0E6 : wEd x_KT x_tb x_tyl x_ov0 u_ct u_hs x_knd lwFR lwGA lwGB 31 39 47 fb0WA6 fb0WB6 8000 1 60 116 1 60 203 fb0_RO [] fb0o6 = true := wEdQ_ok lwTchOk fb0E6q
theorem fb0L7 : wRlk 45 39 47 sb0WA sb0WB fb0X7.2.1 fb0X7.2.2.1 fb0X7.2.2.2.1 fb0X7.2.2.2.2 sb0_in = true := by decide +kernel
theorem fb0L8 : wRlk 45 39 47 sb0WA sb0WB fb0X8.2.1 fb0X8.2.2.1 fb0X8.2.2.2.1 fb0X8.2.2.2.2 sb0_in = true := by decide +kernel
theorem fb0L9 : wRlk 45 39 47 sb0WA sb0WB fb0X9.2.1 fb0X9.2.2.1 fb0X9.2.2.2.1 fb0X9.2.2.2.2 sb0_in = true := by decide +kernel
theorem fb0L10 : wRlk 45 39 47 sb0WA sb0WB fb0X10.2.1 fb0X10.2.2.1 fb0X10.2.2.2.1 fb0X10.2.2.2.2 sb0_in = true := by decide +kernel
theorem fb0L11 : wRlk 45 39 47 sb0WA sb0WB fb0X11.2.1 fb0X11.2.2.1 fb0X11.2.2.2.1 fb0X11.2.2.2.2 sb0_in = true := by decide +kernel
set_option maxRecDepth 1000000 in
theorem fb0E12q : wEdQ lwTch 52 x_KT x_tb x_tyl x_ov0 u_ct u_hs x_knd lwFR lwGA lwGB 31 39 47 fb0WA12 fb0WB12 8000 0 60 116 1 60 203 fb0_c0T_R [] fb0o12 = true := by decide +kernel
theorem fb0E12 : wEd x_KT x_tb x_tyl x_ov0 u_ct u_hs x_knd lwFR lwGA lwGB 31 39 47 fb0WA12 fb0WB12 8000 0 60 116 1 60 203 fb0_c0T_R [] fb0o12 = true := wEdQ_ok lwTchOk fb0E12q
set_option maxRecDepth 1000000 in
theorem fb0E13q : wEdQ lwTch 52 x_KT x_tb x_tyl x_ov0 u_ct u_hs x_knd lwFR lwGA lwGB 31 39 47 fb0WA13 fb0WB13 8000 0 60 116 1 60 203 fb0_c0T_O [] fb0o13 = true := by decide +kernel
theorem fb0E13 : wEd x_KT x_tb x_tyl x_ov0 u_ct u_hs x_knd lwFR lwGA lwGB 31 39 47 fb0WA13 fb0WB13 8000 0 60 116 1 60 203 fb0_c0T_O [] fb0o13 = true := wEdQ_ok lwTchOk fb0E13q
set_option maxRecDepth 1000000 in
theorem fb0E14q : wEdQ lwTch 52 x_KT x_tb x_tyl x_ov0 u_ct u_hs x_knd lwFR lwGA lwGB 31 39 47 fb0WA14 fb0WB14 8000 0 60 116 1 60 203 fb0_c0RR_R [] fb0o14 = true := by decide +kernel
theorem fb0E14 : wEd x_KT x_tb x_tyl x_ov0 u_ct u_hs x_knd lwFR lwGA lwGB 31 39 47 fb0WA14 fb0WB14 8000 0 60 116 1 60 203 fb0_c0RR_R [] fb0o14 = true := wEdQ_ok lwTchOk fb0E14q
set_option maxRecDepth 1000000 in
theorem fb0E15q : wEdQ lwTch 52 x_KT x_tb x_tyl x_ov0 u_ct u_hs x_knd lwFR lwGA lwGB 31 39 47 fb0WA15 fb0WB15 8000 0 60 116 1 60 203 fb0_c0RR_O [] fb0o15 = true := by decide +kernel
theorem fb0E15 : wEd x_KT x_tb x_tyl x_ov0 u_ct u_hs x_knd lwFR lwGA lwGB 31 39 47 fb0WA15 fb0WB15 8000 0 60 116 1 60 203 fb0_c0RR_O [] fb0o15 = true := wEdQ_ok lwTchOk fb0E15q
set_option maxRecDepth 1000000 in
theorem fb0E16q : wEdQ lwTch 52 x_KT x_tb x_tyl x_ov0 u_ct u_hs x_knd lwFR lwGA lwGB 31 39 47 fb0WA16 fb0WB16 8000 1 60 116 1 60 203 fb0_c0RO_R [.inr (.inl (1001, (lAdd (lSc (-1) (lSy 35)) (lK 149))))] fb0o16 = true := by decide +kernel
theorem fb0E16 : wEd x_KT x_tb x_tyl x_ov0 u_ct u_hs x_knd lwFR lwGA lwGB 31 39 47 fb0WA16 fb0WB16 8000 1 60 116 1 60 203 fb0_c0RO_R [.inr (.inl (1001, (lAdd (lSc (-1) (lSy 35)) (lK 149))))] fb0o16 = true := wEdQ_ok lwTchOk fb0E16q
set_option maxRecDepth 1000000 in
theorem fb0E17q : wEdQ lwTch 52 x_KT x_tb x_tyl x_ov0 u_ct u_hs x_knd lwFR lwGA lwGB 31 39 47 fb0WA17 fb0WB17 8000 1 60 116 1 60 203 fb0_c0RO_O [.inr (.inl (1001, (lAdd (lSc (-1) (lSy 35)) (lK 149))))] fb0o17 = true := by decide +kernel
theorem fb0E17 : wEd x_KT x_tb x_tyl x_ov0 u_ct u_hs x_knd lwFR lwGA lwGB 31 39 47 fb0WA17 fb0WB17 8000 1 60 116 1 60 203 fb0_c0RO_O [.inr (.inl (1001, (lAdd (lSc (-1) (lSy 35)) (lK 149))))] fb0o17 = true := wEdQ_ok lwTchOk fb0E17q
set_option maxRecDepth 1000000 in
theorem fb0E18q : wEdQ lwTch 52 x_KT x_tb x_tyl x_ov0 u_ct u_hs x_knd lwFR lwGA lwGB 31 39 47 fb0WA18 fb0WB18 8000 0 60 116 1 60 203 fb0_OR [] fb0o18 = true := by decide +kernel
theorem fb0E18 : wEd x_KT x_tb x_tyl x_ov0 u_ct u_hs x_knd lwFR lwGA lwGB 31 39 47 fb0WA18 fb0WB18 8000 0 60 116 1 60 203 fb0_OR [] fb0o18 = true := wEdQ_ok lwTchOk fb0E18q
set_option maxRecDepth 1000000 in
theorem fb0E19q : wEdQ lwTch 52 x_KT x_tb x_tyl x_ov0 u_ct u_hs x_knd lwFR lwGA lwGB 31 39 47 fb0WA19 fb0WB19 8000 1 60 116 1 60 203 fb0_c1TR_R [.inr (.inl (1001, (lAdd (lSc (-1) (lSy 35)) (lK 149))))] fb0o19 = true := by decide +kernel
theorem fb0E19 : wEd x_KT x_tb x_tyl x_ov0 u_ct u_hs x_knd lwFR lwGA lwGB 31 39 47 fb0WA19 fb0WB19 8000 1 60 116 1 60 203 fb0_c1TR_R [.inr (.inl (1001, (lAdd (lSc (-1) (lSy 35)) (lK 149))))] fb0o19 = true := wEdQ_ok lwTchOk fb0E19q
set_option maxRecDepth 1000000 in
theorem fb0E20q : wEdQ lwTch 52 x_KT x_tb x_tyl x_ov0 u_ct u_hs x_knd lwFR lwGA lwGB 31 39 47 fb0WA20 fb0WB20 8000 1 60 116 1 60 203 fb0_c1TR_O [.inr (.inl (1001, (lAdd (lSc (-1) (lSy 35)) (lK 149))))] fb0o20 = true := by decide +kernel
theorem fb0E20 : wEd x_KT x_tb x_tyl x_ov0 u_ct u_hs x_knd lwFR lwGA lwGB 31 39 47 fb0WA20 fb0WB20 8000 1 60 116 1 60 203 fb0_c1TR_O [.inr (.inl (1001, (lAdd (lSc (-1) (lSy 35)) (lK 149))))] fb0o20 = true := wEdQ_ok lwTchOk fb0E20q
set_option maxRecDepth 1000000 in
theorem fb0E21q : wEdQ lwTch 52 x_KT x_tb x_tyl x_ov0 u_ct u_hs x_knd lwFR lwGA lwGB 31 39 47 fb0WA21 fb0WB21 8000 1 60 116 1 60 203 fb0_c1TO_R [.inr (.inl (1001, (lAdd (lSc (-1) (lSy 35)) (lK 149))))] fb0o21 = true := by decide +kernel
theorem fb0E21 : wEd x_KT x_tb x_tyl x_ov0 u_ct u_hs x_knd lwFR lwGA lwGB 31 39 47 fb0WA21 fb0WB21 8000 1 60 116 1 60 203 fb0_c1TO_R [.inr (.inl (1001, (lAdd (lSc (-1) (lSy 35)) (lK 149))))] fb0o21 = true := wEdQ_ok lwTchOk fb0E21q
set_option maxRecDepth 1000000 in
theorem fb0E22q : wEdQ lwTch 52 x_KT x_tb x_tyl x_ov0 u_ct u_hs x_knd lwFR lwGA lwGB 31 39 47 fb0WA22 fb0WB22 8000 1 60 116 1 60 203 fb0_c1TO_O [.inr (.inl (1001, (lAdd (lSc (-1) (lSy 35)) (lK 149))))] fb0o22 = true := by decide +kernel
theorem fb0E22 : wEd x_KT x_tb x_tyl x_ov0 u_ct u_hs x_knd lwFR lwGA lwGB 31 39 47 fb0WA22 fb0WB22 8000 1 60 116 1 60 203 fb0_c1TO_O [.inr (.inl (1001, (lAdd (lSc (-1) (lSy 35)) (lK 149))))] fb0o22 = true := wEdQ_ok lwTchOk fb0E22q
set_option maxRecDepth 1000000 in
theorem fb0E23q : wEdQ lwTch 52 x_KT x_tb x_tyl x_ov0 u_ct u_hs x_knd lwFR lwGA lwGB 31 39 47 fb0WA23 fb0WB23 8000 1 60 116 1 60 203 fb0_c1RR_R [.inr (.inl (1001, (lAdd (lSc (-1) (lSy 35)) (lK 149))))] fb0o23 = true := by decide +kernel
theorem fb0E23 : wEd x_KT x_tb x_tyl x_ov0 u_ct u_hs x_knd lwFR lwGA lwGB 31 39 47 fb0WA23 fb0WB23 8000 1 60 116 1 60 203 fb0_c1RR_R [.inr (.inl (1001, (lAdd (lSc (-1) (lSy 35)) (lK 149))))] fb0o23 = true := wEdQ_ok lwTchOk fb0E23q
set_option maxRecDepth 1000000 in
theorem fb0E24q : wEdQ lwTch 52 x_KT x_tb x_tyl x_ov0 u_ct u_hs x_knd lwFR lwGA lwGB 31 39 47 fb0WA24 fb0WB24 8000 1 60 116 1 60 203 fb0_c1RR_O [.inr (.inl (1001, (lAdd (lSc (-1) (lSy 35)) (lK 149))))] fb0o24 = true := by decide +kernel
theorem fb0E24 : wEd x_KT x_tb x_tyl x_ov0 u_ct u_hs x_knd lwFR lwGA lwGB 31 39 47 fb0WA24 fb0WB24 8000 1 60 116 1 60 203 fb0_c1RR_O [.inr (.inl (1001, (lAdd (lSc (-1) (lSy 35)) (lK 149))))] fb0o24 = true := wEdQ_ok lwTchOk fb0E24q
set_option maxRecDepth 1000000 in
theorem fb0E25q : wEdQ lwTch 52 x_KT x_tb x_tyl x_ov0 u_ct u_hs x_knd lwFR lwGA lwGB 31 39 47 fb0WA25 fb0WB25 8000 1 60 116 1 60 203 fb0_c1RO_R [.inr (.inl (1001, (lAdd (lSc (-1) (lSy 35)) (lK 149))))] fb0o25 = true := by decide +kernel
theorem fb0E25 : wEd x_KT x_tb x_tyl x_ov0 u_ct u_hs x_knd lwFR lwGA lwGB 31 39 47 fb0WA25 fb0WB25 8000 1 60 116 1 60 203 fb0_c1RO_R [.inr (.inl (1001, (lAdd (lSc (-1) (lSy 35)) (lK 149))))] fb0o25 = true := wEdQ_ok lwTchOk fb0E25q
set_option maxRecDepth 1000000 in
theorem fb0E26q : wEdQ lwTch 52 x_KT x_tb x_tyl x_ov0 u_ct u_hs x_knd lwFR lwGA lwGB 31 39 47 fb0WA26 fb0WB26 8000 1 60 116 1 60 203 fb0_c1RO_O [.inr (.inl (1001, (lAdd (lSc (-1) (lSy 35)) (lK 149))))] fb0o26 = true := by decide +kernel
theorem fb0E26 : wEd x_KT x_tb x_tyl x_ov0 u_ct u_hs x_knd lwFR lwGA lwGB 31 39 47 fb0WA26 fb0WB26 8000 1 60 116 1 60 203 fb0_c1RO_O [.inr (.inl (1001, (lAdd (lSc (-1) (lSy 35)) (lK 149))))] fb0o26 = true := wEdQ_ok lwTchOk fb0E26q
set_option maxRecDepth 1000000 in
theorem fb0E27q : wEdQ lwTch 52 x_KT x_tb x_tyl x_ov0 u_ct u_hs x_knd lwFR lwGA lwGB 31 39 47 fb0WA27 fb0WB27 8000 0 60 116 1 60 203 fb0_c1OR_R [] fb0o27 = true := by decide +kernel
theorem fb0E27 : wEd x_KT x_tb x_tyl x_ov0 u_ct u_hs x_knd lwFR lwGA lwGB 31 39 47 fb0WA27 fb0WB27 8000 0 60 116 1 60 203 fb0_c1OR_R [] fb0o27 = true := wEdQ_ok lwTchOk fb0E27q
set_option maxRecDepth 1000000 in
theorem fb0E28q : wEdQ lwTch 52 x_KT x_tb x_tyl x_ov0 u_ct u_hs x_knd lwFR lwGA lwGB 31 39 47 fb0WA28 fb0WB28 8000 0 60 116 1 60 203 fb0_c1OR_O [] fb0o28 = true := by decide +kernel
theorem fb0E28 : wEd x_KT x_tb x_tyl x_ov0 u_ct u_hs x_knd lwFR lwGA lwGB 31 39 47 fb0WA28 fb0WB28 8000 0 60 116 1 60 203 fb0_c1OR_O [] fb0o28 = true := wEdQ_ok lwTchOk fb0E28q
set_option maxRecDepth 1000000 in
theorem fb0E29q : wEdQ lwTch 52 x_KT x_tb x_tyl x_ov0 u_ct u_hs x_knd lwFR lwGA lwGB 31 39 47 fb0WA29 fb0WB29 8000 1 60 116 1 60 203 fb0_OO [] fb0o29 = true := by decide +kernel
theorem fb0E29 : wEd x_KT x_tb x_tyl x_ov0 u_ct u_hs x_knd lwFR lwGA lwGB 31 39 47 fb0WA29 fb0WB29 8000 1 60 116 1 60 203 fb0_OO [] fb0o29 = true := wEdQ_ok lwTchOk fb0E29q
theorem aiL0 : wRlk 31 39 47 fb0WA fb0WB aiX0.2.1 aiX0.2.2.1 aiX0.2.2.2.1 aiX0.2.2.2.2 fb0_in = true := by decide +kernel
set_option maxRecDepth 1000000 in
theorem aiE1q : wEdQ lwTch 52 x_KT x_tb x_tyl x_ov0 u_ct u_hs x_knd lwFR lwGA lwGB 31 39 47 aiWA1 aiWB1 8000 0 60 116 1 60 244 ai_in [] aio1 = true := by decide +kernel
theorem aiE1 : wEd x_KT x_tb x_tyl x_ov0 u_ct u_hs x_knd lwFR lwGA lwGB 31 39 47 aiWA1 aiWB1 8000 0 60 116 1 60 244 ai_in [] aio1 = true := wEdQ_ok lwTchOk aiE1q
set_option maxRecDepth 1000000 in
theorem aiE2q : wEdQ lwTch 52 x_KT x_tb x_tyl x_ov0 u_ct u_hs x_knd lwFR lwGA lwGB 31 39 47 aiWA2 aiWB2 8000 1 60 116 1 60 244 ai_c_X [] (aio2.map (wNo [48])) = true := by decide +kernel
theorem aiE2 : wEd x_KT x_tb x_tyl x_ov0 u_ct u_hs x_knd lwFR lwGA lwGB 31 39 47 aiWA2 aiWB2 8000 1 60 116 1 60 244 ai_c_X [] (aio2.map (wNo [48])) = true := wEdQ_ok lwTchOk aiE2q
set_option maxRecDepth 1000000 in
theorem aiE2R48 : wRkE x_KT x_tb x_tyl x_ov0 u_ct u_hs x_knd lwFR lwGA lwGB aiVA2_48 aiVB2_48 8000 1 60 116 1 60 244 (aio2.map (wNo [48])) ai_c_X lwF48 [.inr (.inr (35, [(lSy 35)])), .inr (.inl (2008, lK 0))] = true := by decide +kernel
set_option maxRecDepth 1000000 in
theorem ctp1E0q : wEdQ lwTch 52 x_KT x_tb x_tyl x_ov0 u_ct u_hs x_knd lwFR lwGA lwGB 44 39 47 ctp1WA0 ctp1WB0 8000 1 60 70 1 60 206 ctp1_in [.inr (.inr (34, [(lSy 8), (lSy 42)])), .inr (.inl (2008, lK 0))] ctp1o0 = true := by decide +kernel
theorem ctp1E0 : wEd x_KT x_tb x_tyl x_ov0 u_ct u_hs x_knd lwFR lwGA lwGB 44 39 47 ctp1WA0 ctp1WB0 8000 1 60 70 1 60 206 ctp1_in [.inr (.inr (34, [(lSy 8), (lSy 42)])), .inr (.inl (2008, lK 0))] ctp1o0 = true := wEdQ_ok lwTchOk ctp1E0q
theorem rip1L0 : wRlk 44 39 47 ctp1WA ctp1WB rip1X0.2.1 rip1X0.2.2.1 rip1X0.2.2.2.1 rip1X0.2.2.2.2 ctp1_in = true := by decide +kernel
set_option maxRecDepth 1000000 in
theorem rip1E1q : wEdQ lwTch 52 x_KT x_tb x_tyl x_ov0 u_ct u_hs x_knd lwFR lwGA lwGB 43 39 47 rip1WA1 rip1WB1 8000 1 60 72 1 60 205 rip1_in [.inr (.inr (32, [(lSy 8), (lSy 34)])), .inr (.inl (2008, lK 0))] rip1o1 = true := by decide +kernel
theorem rip1E1 : wEd x_KT x_tb x_tyl x_ov0 u_ct u_hs x_knd lwFR lwGA lwGB 43 39 47 rip1WA1 rip1WB1 8000 1 60 72 1 60 205 rip1_in [.inr (.inr (32, [(lSy 8), (lSy 34)])), .inr (.inl (2008, lK 0))] rip1o1 = true := wEdQ_ok lwTchOk rip1E1q
set_option maxRecDepth 1000000 in
theorem rip1E2q : wEdQ lwTch 52 x_KT x_tb x_tyl x_ov0 u_ct u_hs x_knd lwFR lwGA lwGB 43 39 47 rip1WA2 rip1WB2 8000 1 60 72 1 60 205 rip1_c_x [] (rip1o2.map (wNo [45, 51])) = true := by decide +kernel
theorem rip1E2 : wEd x_KT x_tb x_tyl x_ov0 u_ct u_hs x_knd lwFR lwGA lwGB 43 39 47 rip1WA2 rip1WB2 8000 1 60 72 1 60 205 rip1_c_x [] (rip1o2.map (wNo [45, 51])) = true := wEdQ_ok lwTchOk rip1E2q
set_option maxRecDepth 1000000 in
theorem rip1E2G0 : gRk x_KT x_tb x_tyl x_ov0 u_ct u_hs x_knd lwFR lwGA lwGB rip1E2G0VA rip1E2G0VB 8000 1 60 72 1 60 205 (rip1o2.map (wNo [45, 51])) rip1_c_x lwF45 [.inl (lAdd (lSy 45) (lSc (-1) (lSy 42))), .inl (lAdd (lSc (-1) (lSy 45)) (lSy 42)), .inr (.inl (0, (lSy 42))), .inr (.inr (36, [(lSy 42)])), .inr (.inr (36, []))] [] rip1E2G0I = true := by decide +kernel
end XRuC11
