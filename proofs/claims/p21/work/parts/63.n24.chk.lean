/-! Runs: checks, 24. -/
noncomputable section XRuC24
set_option maxRecDepth 1000000 in
theorem mendRuleE0q : wEdQ lwTch 43 x_KT x_tb x_tyl x_ov0 u_ct u_hs x_knd lwFR lwGA lwGB 5 25 43 mendRuleWA0 mendRuleWB0 8000 1 60 107 1 60 239 mendRule_in [.inl (lSy 5), .inl (lAdd (lSc (-1) (lSy 5)) (lAdd (lSy 3) (lK (-1)))), .inr (.inr (0, [(lSy 5)]))] mendRuleo0 = true := by decide +kernel
theorem mendRuleE0 : wEd x_KT x_tb x_tyl x_ov0 u_ct u_hs x_knd lwFR lwGA lwGB 5 25 43 mendRuleWA0 mendRuleWB0 8000 1 60 107 1 60 239 mendRule_in [.inl (lSy 5), .inl (lAdd (lSc (-1) (lSy 5)) (lAdd (lSy 3) (lK (-1)))), .inr (.inr (0, [(lSy 5)]))] mendRuleo0 = true := wEdQ_ok lwTchOk mendRuleE0q
set_option maxRecDepth 1000000 in
theorem mendRuleE1q : wEdQ lwTch 43 x_KT x_tb x_tyl x_ov0 u_ct u_hs x_knd lwFR lwGA lwGB 5 25 43 mendRuleWA1 mendRuleWB1 8000 1 60 107 1 60 239 mendRule_m [.inr (.inr (0, [(lSy 5)])), .inr (.inr (14, [(lSy 5)]))] (mendRuleo1.map (wNo [0, 20, 3])) = true := by decide +kernel
theorem mendRuleE1 : wEd x_KT x_tb x_tyl x_ov0 u_ct u_hs x_knd lwFR lwGA lwGB 5 25 43 mendRuleWA1 mendRuleWB1 8000 1 60 107 1 60 239 mendRule_m [.inr (.inr (0, [(lSy 5)])), .inr (.inr (14, [(lSy 5)]))] (mendRuleo1.map (wNo [0, 20, 3])) = true := wEdQ_ok lwTchOk mendRuleE1q
set_option maxRecDepth 1000000 in
theorem mendRuleE1R0 : wRkE x_KT x_tb x_tyl x_ov0 u_ct u_hs x_knd lwFR lwGA lwGB mendRuleVA1_0 mendRuleVB1_0 8000 1 60 107 1 60 239 (mendRuleo1.map (wNo [0, 20, 3])) mendRule_m lwF0 [.inr (.inr (0, [(lSy 5)])), .inr (.inr (14, [(lSy 5)])), .inl (lAdd (lSy 9) (lSc (-1) (lSy 5))), .inl (lAdd (lSc (-1) (lSy 9)) (lSy 5)), .inr (.inl (1001, (lAdd (lSc (-1) (lSy 9)) (lAdd (lSy 3) (lK (-1)))))), .inl (lAdd (lSc (-1) (lSy 9)) (lAdd (lSy 3) (lK (-1)))), .inr (.inl (0, (lSy 5))), .inr (.inr (16, [(lSy 9), (lSy 5)])), .inr (.inr (16, [(lSy 5), (lSy 9)])), .inr (.inr (12, [(lSy 9), (lSy 5)])), .inr (.inr (12, [(lSy 5), (lSy 9)])), .inr (.inr (0, []))] = true := by decide +kernel
set_option maxRecDepth 1000000 in
theorem mendRuleE1R20 : wRkE x_KT x_tb x_tyl x_ov0 u_ct u_hs x_knd lwFR lwGA lwGB mendRuleVA1_20 mendRuleVB1_20 8000 1 60 107 1 60 239 (mendRuleo1.map (wNo [0, 20, 3])) mendRule_m lwF20 [.inr (.inr (0, [(lSy 5)])), .inr (.inr (14, [(lSy 5)])), .inl (lAdd (lSy 9) (lSc (-1) (lSy 3))), .inr (.inl (1001, (lAdd (lSy 9) (lAdd (lSc (-1) (lSy 5)) (lK (-1)))))), .inr (.inr (20, []))] = true := by decide +kernel
set_option maxRecDepth 1000000 in
theorem mendRuleE1R3 : wRkE x_KT x_tb x_tyl x_ov0 u_ct u_hs x_knd lwFR lwGA lwGB mendRuleVA1_3 mendRuleVB1_3 8000 1 60 107 1 60 239 (mendRuleo1.map (wNo [0, 20, 3])) mendRule_m lwF3 [.inr (.inr (0, [(lSy 5)])), .inr (.inr (14, [(lSy 5)])), .inr (.inr (3, []))] = true := by decide +kernel
set_option maxRecDepth 1000000 in
theorem mendRuleE2q : wEdQ lwTch 43 x_KT x_tb x_tyl x_ov0 u_ct u_hs x_knd lwFR lwGA lwGB 5 25 43 mendRuleWA2 mendRuleWB2 8000 1 60 107 1 60 239 mendRule_bk [] (mendRuleo2.map (wNo [29, 30])) = true := by decide +kernel
theorem mendRuleE2 : wEd x_KT x_tb x_tyl x_ov0 u_ct u_hs x_knd lwFR lwGA lwGB 5 25 43 mendRuleWA2 mendRuleWB2 8000 1 60 107 1 60 239 mendRule_bk [] (mendRuleo2.map (wNo [29, 30])) = true := wEdQ_ok lwTchOk mendRuleE2q
set_option maxRecDepth 1000000 in
theorem mendRuleE2R29 : wRkE x_KT x_tb x_tyl x_ov0 u_ct u_hs x_knd lwFR lwGA lwGB mendRuleVA2_29 mendRuleVB2_29 8000 1 60 107 1 60 239 (mendRuleo2.map (wNo [29, 30])) mendRule_bk lwF29 [.inr (.inr (29, [(lK 0)])), .inr (.inl (2000, lK 0)), .inr (.inl (2000, lK 0))] = true := by decide +kernel
set_option maxRecDepth 1000000 in
theorem mendRuleE2R30 : wRkE x_KT x_tb x_tyl x_ov0 u_ct u_hs x_knd lwFR lwGA lwGB mendRuleVA2_30 mendRuleVB2_30 8000 1 60 107 1 60 239 (mendRuleo2.map (wNo [29, 30])) mendRule_bk lwF30 [.inr (.inr (29, [(lK 0)])), .inr (.inl (2000, lK 0)), .inl (lAdd (lSc (-1) (lSy 2)) (lK 199)), .inr (.inr (32, [(lSy 2)])), .inl (lAdd (lSy 9) (lSc (-1) (lSy 2))), .inl (lAdd (lSc (-1) (lSy 9)) (lSy 2)), .inr (.inl (0, (lSy 2))), .inr (.inl (1004, (lAdd (lSc (-1) (lSy 9)) (lAdd (lSy 2) (lK (-1)))))), .inr (.inl (1004, (lAdd (lSy 9) (lAdd (lSc (-1) (lSy 2)) (lK (-1)))))), .inr (.inr (30, [])), .inr (.inr (31, [(lSy 9), (lSy 2)])), .inr (.inr (31, [(lSy 2), (lSy 9)])), .inr (.inl (2000, lK 0))] = true := by decide +kernel
theorem testL0 : wRlk 11 26 43 rrWA rrWB testX0.2.1 testX0.2.2.1 testX0.2.2.2.1 testX0.2.2.2.2 rr_in = true := by decide +kernel
set_option maxRecDepth 1000000 in
theorem testE1q : wEdQ lwTch 43 x_KT x_tb x_tyl x_ov0 u_ct u_hs x_knd lwFR lwGA lwGB 5 25 43 testWA1 testWB1 8000 1 60 108 1 60 240 test_in [.inl (lSy 5), .inl (lAdd (lSc (-1) (lSy 5)) (lAdd (lSy 3) (lK (-1)))), .inr (.inr (0, [(lSy 5)]))] testo1 = true := by decide +kernel
theorem testE1 : wEd x_KT x_tb x_tyl x_ov0 u_ct u_hs x_knd lwFR lwGA lwGB 5 25 43 testWA1 testWB1 8000 1 60 108 1 60 240 test_in [.inl (lSy 5), .inl (lAdd (lSc (-1) (lSy 5)) (lAdd (lSy 3) (lK (-1)))), .inr (.inr (0, [(lSy 5)]))] testo1 = true := wEdQ_ok lwTchOk testE1q
set_option maxRecDepth 1000000 in
theorem testE2q : wEdQ lwTch 43 x_KT x_tb x_tyl x_ov0 u_ct u_hs x_knd lwFR lwGA lwGB 5 25 43 testWA2 testWB2 8000 1 60 108 1 60 240 test_cl_x0 [.inr (.inr (0, [(lSy 6)])), .inr (.inl (2008, lK 0))] (testo2.map (wNo [0, 20])) = true := by decide +kernel
theorem testE2 : wEd x_KT x_tb x_tyl x_ov0 u_ct u_hs x_knd lwFR lwGA lwGB 5 25 43 testWA2 testWB2 8000 1 60 108 1 60 240 test_cl_x0 [.inr (.inr (0, [(lSy 6)])), .inr (.inl (2008, lK 0))] (testo2.map (wNo [0, 20])) = true := wEdQ_ok lwTchOk testE2q
set_option maxRecDepth 1000000 in
theorem testE2R0 : wRkE x_KT x_tb x_tyl x_ov0 u_ct u_hs x_knd lwFR lwGA lwGB testVA2_0 testVB2_0 8000 1 60 108 1 60 240 (testo2.map (wNo [0, 20])) test_cl_x0 lwF0 [.inr (.inr (0, [(lSy 6)])), .inr (.inl (2008, lK 0)), .inl (lAdd (lSy 16) (lSc (-1) (lSy 6))), .inl (lAdd (lSc (-1) (lSy 16)) (lSy 6)), .inr (.inl (1001, (lAdd (lSc (-1) (lSy 16)) (lAdd (lSy 3) (lK (-1)))))), .inl (lAdd (lSc (-1) (lSy 16)) (lAdd (lSy 3) (lK (-1)))), .inr (.inl (0, (lSy 6))), .inr (.inr (15, [(lSy 16), (lSy 6)])), .inr (.inr (15, [(lSy 6), (lSy 16)])), .inr (.inr (12, [(lSy 16), (lSy 6)])), .inr (.inr (12, [(lSy 6), (lSy 16)])), .inr (.inr (0, []))] = true := by decide +kernel
set_option maxRecDepth 1000000 in
theorem testE2R20 : wRkE x_KT x_tb x_tyl x_ov0 u_ct u_hs x_knd lwFR lwGA lwGB testVA2_20 testVB2_20 8000 1 60 108 1 60 240 (testo2.map (wNo [0, 20])) test_cl_x0 lwF20 [.inr (.inr (0, [(lSy 6)])), .inl (lAdd (lSy 16) (lSc (-1) (lSy 3))), .inr (.inl (1001, (lAdd (lSy 16) (lAdd (lSc (-1) (lSy 6)) (lK (-1)))))), .inr (.inr (17, []))] = true := by decide +kernel
set_option maxRecDepth 1000000 in
theorem testE3q : wEdQ lwTch 43 x_KT x_tb x_tyl x_ov0 u_ct u_hs x_knd lwFR lwGA lwGB 5 25 43 testWA3 testWB3 8000 1 60 108 1 60 240 test_cl_x1 [.inr (.inr (0, [(lSy 6)])), .inr (.inl (2008, lK 0))] (testo3.map (wNo [0, 20])) = true := by decide +kernel
theorem testE3 : wEd x_KT x_tb x_tyl x_ov0 u_ct u_hs x_knd lwFR lwGA lwGB 5 25 43 testWA3 testWB3 8000 1 60 108 1 60 240 test_cl_x1 [.inr (.inr (0, [(lSy 6)])), .inr (.inl (2008, lK 0))] (testo3.map (wNo [0, 20])) = true := wEdQ_ok lwTchOk testE3q
set_option maxRecDepth 1000000 in
theorem testE3R0 : wRkE x_KT x_tb x_tyl x_ov0 u_ct u_hs x_knd lwFR lwGA lwGB testVA3_0 testVB3_0 8000 1 60 108 1 60 240 (testo3.map (wNo [0, 20])) test_cl_x1 lwF0 [.inr (.inr (0, [(lSy 6)])), .inr (.inl (2008, lK 0)), .inl (lAdd (lSy 16) (lSc (-1) (lSy 6))), .inl (lAdd (lSc (-1) (lSy 16)) (lSy 6)), .inr (.inl (1001, (lAdd (lSc (-1) (lSy 16)) (lAdd (lSy 3) (lK (-1)))))), .inl (lAdd (lSc (-1) (lSy 16)) (lAdd (lSy 3) (lK (-1)))), .inr (.inl (0, (lSy 6))), .inr (.inr (15, [(lSy 16), (lSy 6)])), .inr (.inr (15, [(lSy 6), (lSy 16)])), .inr (.inr (12, [(lSy 16), (lSy 6)])), .inr (.inr (12, [(lSy 6), (lSy 16)])), .inr (.inr (0, []))] = true := by decide +kernel
set_option maxRecDepth 1000000 in
theorem testE3R20 : wRkE x_KT x_tb x_tyl x_ov0 u_ct u_hs x_knd lwFR lwGA lwGB testVA3_20 testVB3_20 8000 1 60 108 1 60 240 (testo3.map (wNo [0, 20])) test_cl_x1 lwF20 [.inr (.inr (0, [(lSy 6)])), .inl (lAdd (lSy 16) (lSc (-1) (lSy 3))), .inr (.inl (1001, (lAdd (lSy 16) (lAdd (lSc (-1) (lSy 6)) (lK (-1)))))), .inr (.inr (17, []))] = true := by decide +kernel
set_option maxRecDepth 1000000 in
theorem testE4q : wEdQ lwTch 43 x_KT x_tb x_tyl x_ov0 u_ct u_hs x_knd lwFR lwGA lwGB 5 25 43 testWA4 testWB4 8000 1 60 108 1 60 240 test_bk [] (testo4.map (wNo [29, 30])) = true := by decide +kernel
theorem testE4 : wEd x_KT x_tb x_tyl x_ov0 u_ct u_hs x_knd lwFR lwGA lwGB 5 25 43 testWA4 testWB4 8000 1 60 108 1 60 240 test_bk [] (testo4.map (wNo [29, 30])) = true := wEdQ_ok lwTchOk testE4q
set_option maxRecDepth 1000000 in
theorem testE4R29 : wRkE x_KT x_tb x_tyl x_ov0 u_ct u_hs x_knd lwFR lwGA lwGB testVA4_29 testVB4_29 8000 1 60 108 1 60 240 (testo4.map (wNo [29, 30])) test_bk lwF29 [.inr (.inr (29, [(lK 0)])), .inr (.inl (2000, lK 0)), .inr (.inl (2000, lK 0))] = true := by decide +kernel
set_option maxRecDepth 1000000 in
theorem testE4R30 : wRkE x_KT x_tb x_tyl x_ov0 u_ct u_hs x_knd lwFR lwGA lwGB testVA4_30 testVB4_30 8000 1 60 108 1 60 240 (testo4.map (wNo [29, 30])) test_bk lwF30 [.inr (.inr (29, [(lK 0)])), .inr (.inl (2000, lK 0)), .inl (lAdd (lSc (-1) (lSy 2)) (lK 199)), .inr (.inr (32, [(lSy 2)])), .inl (lAdd (lSy 9) (lSc (-1) (lSy 2))), .inl (lAdd (lSc (-1) (lSy 9)) (lSy 2)), .inr (.inl (0, (lSy 2))), .inr (.inl (1004, (lAdd (lSc (-1) (lSy 9)) (lAdd (lSy 2) (lK (-1)))))), .inr (.inl (1004, (lAdd (lSy 9) (lAdd (lSc (-1) (lSy 2)) (lK (-1)))))), .inr (.inr (30, [])), .inr (.inr (31, [(lSy 9), (lSy 2)])), .inr (.inr (31, [(lSy 2), (lSy 9)])), .inr (.inl (2000, lK 0))] = true := by decide +kernel
set_option maxRecDepth 1000000 in
theorem fin0E0q : wEdQ lwTch 43 x_KT x_tb x_tyl x_ov0 u_ctK0 u_hs x_knd lwFR lwGA lwGB 27 26 43 fin0WA0 fin0WB0 8000 1 60 116 0 60 244 fin0_in [.inl (lSy 27)] fin0o0 = true := by decide +kernel
theorem fin0E0 : wEd x_KT x_tb x_tyl x_ov0 u_ctK0 u_hs x_knd lwFR lwGA lwGB 27 26 43 fin0WA0 fin0WB0 8000 1 60 116 0 60 244 fin0_in [.inl (lSy 27)] fin0o0 = true := wEdQ_ok lwTchOk fin0E0q
set_option maxRecDepth 1000000 in
theorem fin0E1q : wEdQ lwTch 43 x_KT x_tb x_tyl x_ov0 u_ctK0 u_hs x_knd lwFR lwGA lwGB 27 26 43 fin0WA1 fin0WB1 8000 1 60 116 0 60 244 fin0_lr [.inr (.inr (4, []))] (fin0o1.map (wNo [5, 6, 7, 9, 10, 8])) = true := by decide +kernel
theorem fin0E1 : wEd x_KT x_tb x_tyl x_ov0 u_ctK0 u_hs x_knd lwFR lwGA lwGB 27 26 43 fin0WA1 fin0WB1 8000 1 60 116 0 60 244 fin0_lr [.inr (.inr (4, []))] (fin0o1.map (wNo [5, 6, 7, 9, 10, 8])) = true := wEdQ_ok lwTchOk fin0E1q
set_option maxRecDepth 1000000 in
theorem fin0E2q : wEdQ lwTch 43 x_KT x_tb x_tyl x_ov0 u_ctK0 u_hs x_knd lwFR lwGA lwGB 27 26 43 fin0WA2 fin0WB2 8000 1 60 116 0 60 244 fin0_lo [] fin0o2 = true := by decide +kernel
theorem fin0E2 : wEd x_KT x_tb x_tyl x_ov0 u_ctK0 u_hs x_knd lwFR lwGA lwGB 27 26 43 fin0WA2 fin0WB2 8000 1 60 116 0 60 244 fin0_lo [] fin0o2 = true := wEdQ_ok lwTchOk fin0E2q
set_option maxRecDepth 1000000 in
theorem fin1E0q : wEdQ lwTch 43 x_KT x_tb x_tyl x_ov0 u_ctK0 u_hs x_knd lwFR lwGA lwGB 27 26 43 fin1WA0 fin1WB0 8000 1 60 116 0 60 244 fin1_in [.inl (lSy 27)] fin1o0 = true := by decide +kernel
theorem fin1E0 : wEd x_KT x_tb x_tyl x_ov0 u_ctK0 u_hs x_knd lwFR lwGA lwGB 27 26 43 fin1WA0 fin1WB0 8000 1 60 116 0 60 244 fin1_in [.inl (lSy 27)] fin1o0 = true := wEdQ_ok lwTchOk fin1E0q
set_option maxRecDepth 1000000 in
theorem fin1E1q : wEdQ lwTch 43 x_KT x_tb x_tyl x_ov0 u_ctK0 u_hs x_knd lwFR lwGA lwGB 27 26 43 fin1WA1 fin1WB1 8000 1 60 116 0 60 244 fin1_lr [.inr (.inr (4, []))] (fin1o1.map (wNo [5, 6, 7, 9, 10, 8])) = true := by decide +kernel
theorem fin1E1 : wEd x_KT x_tb x_tyl x_ov0 u_ctK0 u_hs x_knd lwFR lwGA lwGB 27 26 43 fin1WA1 fin1WB1 8000 1 60 116 0 60 244 fin1_lr [.inr (.inr (4, []))] (fin1o1.map (wNo [5, 6, 7, 9, 10, 8])) = true := wEdQ_ok lwTchOk fin1E1q
set_option maxRecDepth 1000000 in
theorem fin1E2q : wEdQ lwTch 43 x_KT x_tb x_tyl x_ov0 u_ctK0 u_hs x_knd lwFR lwGA lwGB 27 26 43 fin1WA2 fin1WB2 8000 1 60 116 0 60 244 fin1_lo [] fin1o2 = true := by decide +kernel
theorem fin1E2 : wEd x_KT x_tb x_tyl x_ov0 u_ctK0 u_hs x_knd lwFR lwGA lwGB 27 26 43 fin1WA2 fin1WB2 8000 1 60 116 0 60 244 fin1_lo [] fin1o2 = true := wEdQ_ok lwTchOk fin1E2q
theorem cbaL0 : wRlk 27 26 43 fin0WA fin0WB cbaX0.2.1 cbaX0.2.2.1 cbaX0.2.2.2.1 cbaX0.2.2.2.2 fin0_in = true := by decide +kernel
end XRuC24
