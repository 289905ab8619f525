/-! Runs: checks, 31. -/
noncomputable section XRuC31
set_option maxRecDepth 1000000 in
theorem mendRuleE2q : wEdQ lwTch 48 x_KT x_tb x_tyl x_ov0 u_ct u_hs x_knd lwFR lwGA lwGB 5 24 42 mendRuleWA2 mendRuleWB2 8000 1 60 107 1 60 239 mendRule_bk [] mendRuleo2 = true := by decide +kernel
theorem mendRuleE2 : wEd x_KT x_tb x_tyl x_ov0 u_ct u_hs x_knd lwFR lwGA lwGB 5 24 42 mendRuleWA2 mendRuleWB2 8000 1 60 107 1 60 239 mendRule_bk [] mendRuleo2 = true := wEdQ_ok lwTchOk mendRuleE2q
theorem testL0 : wRlk 11 25 42 rrWA rrWB testX0.2.1 testX0.2.2.1 testX0.2.2.2.1 testX0.2.2.2.2 rr_in = true := by decide +kernel
set_option maxRecDepth 1000000 in
theorem testE1q : wEdQ lwTch 48 x_KT x_tb x_tyl x_ov0 u_ct u_hs x_knd lwFR lwGA lwGB 5 24 42 testWA1 testWB1 8000 1 60 108 1 60 240 test_in [.inl (lSy 5), .inl (lAdd (lSc (-1) (lSy 5)) (lAdd (lSy 3) (lK (-1)))), .inr (.inr (0, [(lSy 5)]))] testo1 = true := by decide +kernel
theorem testE1 : wEd x_KT x_tb x_tyl x_ov0 u_ct u_hs x_knd lwFR lwGA lwGB 5 24 42 testWA1 testWB1 8000 1 60 108 1 60 240 test_in [.inl (lSy 5), .inl (lAdd (lSc (-1) (lSy 5)) (lAdd (lSy 3) (lK (-1)))), .inr (.inr (0, [(lSy 5)]))] testo1 = true := wEdQ_ok lwTchOk testE1q
set_option maxRecDepth 1000000 in
theorem testE2q : wEdQ lwTch 48 x_KT x_tb x_tyl x_ov0 u_ct u_hs x_knd lwFR lwGA lwGB 5 24 42 testWA2 testWB2 8000 1 60 108 1 60 240 test_cl_x0 [.inr (.inr (0, [(lSy 6)])), .inr (.inl (2008, lK 0))] (testo2.map (wNo [0, 20])) = true := by decide +kernel
theorem testE2 : wEd x_KT x_tb x_tyl x_ov0 u_ct u_hs x_knd lwFR lwGA lwGB 5 24 42 testWA2 testWB2 8000 1 60 108 1 60 240 test_cl_x0 [.inr (.inr (0, [(lSy 6)])), .inr (.inl (2008, lK 0))] (testo2.map (wNo [0, 20])) = true := wEdQ_ok lwTchOk testE2q
set_option maxRecDepth 1000000 in
theorem testE2R0 : wRkE x_KT x_tb x_tyl x_ov0 u_ct u_hs x_knd lwFR lwGA lwGB testVA2_0 testVB2_0 8000 1 60 108 1 60 240 (testo2.map (wNo [0, 20])) test_cl_x0 lwF0 [.inr (.inr (0, [(lSy 6)])), .inr (.inl (2008, lK 0)), .inl (lAdd (lSy 16) (lSc (-1) (lSy 6))), .inl (lAdd (lSc (-1) (lSy 16)) (lSy 6)), .inr (.inl (1001, (lAdd (lSc (-1) (lSy 16)) (lAdd (lSy 3) (lK (-1)))))), .inl (lAdd (lSc (-1) (lSy 16)) (lAdd (lSy 3) (lK (-1)))), .inr (.inl (0, (lSy 6))), .inr (.inr (15, [(lSy 16), (lSy 6)])), .inr (.inr (15, [(lSy 6), (lSy 16)])), .inr (.inr (12, [(lSy 16), (lSy 6)])), .inr (.inr (12, [(lSy 6), (lSy 16)])), .inr (.inr (0, []))] = true := by decide +kernel
set_option maxRecDepth 1000000 in
theorem testE2R20 : wRkE x_KT x_tb x_tyl x_ov0 u_ct u_hs x_knd lwFR lwGA lwGB testVA2_20 testVB2_20 8000 1 60 108 1 60 240 (testo2.map (wNo [0, 20])) test_cl_x0 lwF20 [.inr (.inr (0, [(lSy 6)])), .inl (lAdd (lSy 16) (lSc (-1) (lSy 3))), .inr (.inl (1001, (lAdd (lSy 16) (lAdd (lSc (-1) (lSy 6)) (lK (-1)))))), .inr (.inr (17, []))] = true := by decide +kernel
set_option maxRecDepth 1000000 in
theorem testE3q : wEdQ lwTch 48 x_KT x_tb x_tyl x_ov0 u_ct u_hs x_knd lwFR lwGA lwGB 5 24 42 testWA3 testWB3 8000 1 60 108 1 60 240 test_cl_x1 [.inr (.inr (0, [(lSy 6)])), .inr (.inl (2008, lK 0))] (testo3.map (wNo [0, 20])) = true := by decide +kernel
theorem testE3 : wEd x_KT x_tb x_tyl x_ov0 u_ct u_hs x_knd lwFR lwGA lwGB 5 24 42 testWA3 testWB3 8000 1 60 108 1 60 240 test_cl_x1 [.inr (.inr (0, [(lSy 6)])), .inr (.inl (2008, lK 0))] (testo3.map (wNo [0, 20])) = true := wEdQ_ok lwTchOk testE3q
set_option maxRecDepth 1000000 in
theorem testE3R0 : wRkE x_KT x_tb x_tyl x_ov0 u_ct u_hs x_knd lwFR lwGA lwGB testVA3_0 testVB3_0 8000 1 60 108 1 60 240 (testo3.map (wNo [0, 20])) test_cl_x1 lwF0 [.inr (.inr (0, [(lSy 6)])), .inr (.inl (2008, lK 0)), .inl (lAdd (lSy 16) (lSc (-1) (lSy 6))), .inl (lAdd (lSc (-1) (lSy 16)) (lSy 6)), .inr (.inl (1001, (lAdd (lSc (-1) (lSy 16)) (lAdd (lSy 3) (lK (-1)))))), .inl (lAdd (lSc (-1) (lSy 16)) (lAdd (lSy 3) (lK (-1)))), .inr (.inl (0, (lSy 6))), .inr (.inr (15, [(lSy 16), (lSy 6)])), .inr (.inr (15, [(lSy 6), (lSy 16)])), .inr (.inr (12, [(lSy 16), (lSy 6)])), .inr (.inr (12, [(lSy 6), (lSy 16)])), .inr (.inr (0, []))] = true := by decide +kernel
set_option maxRecDepth 1000000 in
theorem testE3R20 : wRkE x_KT x_tb x_tyl x_ov0 u_ct u_hs x_knd lwFR lwGA lwGB testVA3_20 testVB3_20 8000 1 60 108 1 60 240 (testo3.map (wNo [0, 20])) test_cl_x1 lwF20 [.inr (.inr (0, [(lSy 6)])), .inl (lAdd (lSy 16) (lSc (-1) (lSy 3))), .inr (.inl (1001, (lAdd (lSy 16) (lAdd (lSc (-1) (lSy 6)) (lK (-1)))))), .inr (.inr (17, []))] = true := by decide +kernel
set_option maxRecDepth 1000000 in
theorem testE4q : wEdQ lwTch 48 x_KT x_tb x_tyl x_ov0 u_ct u_hs x_knd lwFR lwGA lwGB 5 24 42 testWA4 testWB4 8000 1 60 108 1 60 240 test_bk [] testo4 = true := by decide +kernel
theorem testE4 : wEd x_KT x_tb x_tyl x_ov0 u_ct u_hs x_knd lwFR lwGA lwGB 5 24 42 testWA4 testWB4 8000 1 60 108 1 60 240 test_bk [] testo4 = true := wEdQ_ok lwTchOk testE4q
set_option maxRecDepth 1000000 in
theorem fin0E0q : wEdQ lwTch 48 x_KT x_tb x_tyl x_ov0 u_ctK0 u_hs x_knd lwFR lwGA lwGB 27 25 42 fin0WA0 fin0WB0 8000 1 60 116 0 60 244 fin0_in [.inl (lSy 27)] fin0o0 = true := by decide +kernel
theorem fin0E0 : wEd x_KT x_tb x_tyl x_ov0 u_ctK0 u_hs x_knd lwFR lwGA lwGB 27 25 42 fin0WA0 fin0WB0 8000 1 60 116 0 60 244 fin0_in [.inl (lSy 27)] fin0o0 = true := wEdQ_ok lwTchOk fin0E0q
set_option maxRecDepth 1000000 in
theorem fin0E1q : wEdQ lwTch 48 x_KT x_tb x_tyl x_ov0 u_ctK0 u_hs x_knd lwFR lwGA lwGB 27 25 42 fin0WA1 fin0WB1 8000 1 60 116 0 60 244 fin0_lr [.inr (.inr (4, []))] (fin0o1.map (wNo [5, 6, 7, 9, 10, 8])) = true := by decide +kernel
theorem fin0E1 : wEd x_KT x_tb x_tyl x_ov0 u_ctK0 u_hs x_knd lwFR lwGA lwGB 27 25 42 fin0WA1 fin0WB1 8000 1 60 116 0 60 244 fin0_lr [.inr (.inr (4, []))] (fin0o1.map (wNo [5, 6, 7, 9, 10, 8])) = true := wEdQ_ok lwTchOk fin0E1q
set_option maxRecDepth 1000000 in
theorem fin0E2q : wEdQ lwTch 48 x_KT x_tb x_tyl x_ov0 u_ctK0 u_hs x_knd lwFR lwGA lwGB 27 25 42 fin0WA2 fin0WB2 8000 1 60 116 0 60 244 fin0_lo [] fin0o2 = true := by decide +kernel
theorem fin0E2 : wEd x_KT x_tb x_tyl x_ov0 u_ctK0 u_hs x_knd lwFR lwGA lwGB 27 25 42 fin0WA2 fin0WB2 8000 1 60 116 0 60 244 fin0_lo [] fin0o2 = true := wEdQ_ok lwTchOk fin0E2q
set_option maxRecDepth 1000000 in
theorem fin1E0q : wEdQ lwTch 48 x_KT x_tb x_tyl x_ov0 u_ctK0 u_hs x_knd lwFR lwGA lwGB 27 25 42 fin1WA0 fin1WB0 8000 1 60 116 0 60 244 fin1_in [.inl (lSy 27)] fin1o0 = true := by decide +kernel
theorem fin1E0 : wEd x_KT x_tb x_tyl x_ov0 u_ctK0 u_hs x_knd lwFR lwGA lwGB 27 25 42 fin1WA0 fin1WB0 8000 1 60 116 0 60 244 fin1_in [.inl (lSy 27)] fin1o0 = true := wEdQ_ok lwTchOk fin1E0q
set_option maxRecDepth 1000000 in
theorem fin1E1q : wEdQ lwTch 48 x_KT x_tb x_tyl x_ov0 u_ctK0 u_hs x_knd lwFR lwGA lwGB 27 25 42 fin1WA1 fin1WB1 8000 1 60 116 0 60 244 fin1_lr [.inr (.inr (4, []))] (fin1o1.map (wNo [5, 6, 7, 9, 10, 8])) = true := by decide +kernel
theorem fin1E1 : wEd x_KT x_tb x_tyl x_ov0 u_ctK0 u_hs x_knd lwFR lwGA lwGB 27 25 42 fin1WA1 fin1WB1 8000 1 60 116 0 60 244 fin1_lr [.inr (.inr (4, []))] (fin1o1.map (wNo [5, 6, 7, 9, 10, 8])) = true := wEdQ_ok lwTchOk fin1E1q
set_option maxRecDepth 1000000 in
theorem fin1E2q : wEdQ lwTch 48 x_KT x_tb x_tyl x_ov0 u_ctK0 u_hs x_knd lwFR lwGA lwGB 27 25 42 fin1WA2 fin1WB2 8000 1 60 116 0 60 244 fin1_lo [] fin1o2 = true := by decide +kernel
theorem fin1E2 : wEd x_KT x_tb x_tyl x_ov0 u_ctK0 u_hs x_knd lwFR lwGA lwGB 27 25 42 fin1WA2 fin1WB2 8000 1 60 116 0 60 244 fin1_lo [] fin1o2 = true := wEdQ_ok lwTchOk fin1E2q
theorem cbaL0 : wRlk 27 25 42 fin0WA fin0WB cbaX0.2.1 cbaX0.2.2.1 cbaX0.2.2.2.1 cbaX0.2.2.2.2 fin0_in = true := by decide +kernel
set_option maxRecDepth 1000000 in
theorem cbaE1q : wEdQ lwTch 48 x_KT x_tb x_tyl x_ov0 u_ctK1 u_hs x_knd lwFR lwGA lwGB 26 25 42 cbaWA1 cbaWB1 8000 1 60 115 0 60 244 cba_in [.inr (.inr (4, []))] (cbao1.map (wNo [5, 6, 7, 9, 10, 8])) = true := by decide +kernel
theorem cbaE1 : wEd x_KT x_tb x_tyl x_ov0 u_ctK1 u_hs x_knd lwFR lwGA lwGB 26 25 42 cbaWA1 cbaWB1 8000 1 60 115 0 60 244 cba_in [.inr (.inr (4, []))] (cbao1.map (wNo [5, 6, 7, 9, 10, 8])) = true := wEdQ_ok lwTchOk cbaE1q
theorem cbaL2 : wRlk 27 25 42 fin1WA fin1WB cbaX2.2.1 cbaX2.2.2.1 cbaX2.2.2.2.1 cbaX2.2.2.2.2 fin1_in = true := by decide +kernel
set_option maxRecDepth 1000000 in
theorem cbaE3q : wEdQ lwTch 48 x_KT x_tb x_tyl x_ov0 u_ctK1 u_hs x_knd lwFR lwGA lwGB 26 25 42 cbaWA3 cbaWB3 8000 1 60 115 0 60 244 cba_c0_out [.inr (.inl (2008, lK 0))] cbao3 = true := by decide +kernel
theorem cbaE3 : wEd x_KT x_tb x_tyl x_ov0 u_ctK1 u_hs x_knd lwFR lwGA lwGB 26 25 42 cbaWA3 cbaWB3 8000 1 60 115 0 60 244 cba_c0_out [.inr (.inl (2008, lK 0))] cbao3 = true := wEdQ_ok lwTchOk cbaE3q
set_option maxRecDepth 1000000 in
theorem cbaE4q : wEdQ lwTch 48 x_KT x_tb x_tyl x_ov0 u_ctK1 u_hs x_knd lwFR lwGA lwGB 26 25 42 cbaWA4 cbaWB4 8000 1 60 115 0 60 244 cba_c1_out [] cbao4 = true := by decide +kernel
theorem cbaE4 : wEd x_KT x_tb x_tyl x_ov0 u_ctK1 u_hs x_knd lwFR lwGA lwGB 26 25 42 cbaWA4 cbaWB4 8000 1 60 115 0 60 244 cba_c1_out [] cbao4 = true := wEdQ_ok lwTchOk cbaE4q
theorem ishL0 : wRlk 26 25 42 cbaWA cbaWB ishX0.2.1 ishX0.2.2.1 ishX0.2.2.2.1 ishX0.2.2.2.2 cba_in = true := by decide +kernel
set_option maxRecDepth 1000000 in
theorem ishE1q : wEdQ lwTch 48 x_KT x_tb x_tyl x_ov0 u_ct u_hs x_knd lwFR lwGA lwGB 13 24 42 ishWA1 ishWB1 8000 1 60 136 0 60 244 ish_in [.inr (.inr (4, []))] (isho1.map (wNo [0, 2, 3])) = true := by decide +kernel
theorem ishE1 : wEd x_KT x_tb x_tyl x_ov0 u_ct u_hs x_knd lwFR lwGA lwGB 13 24 42 ishWA1 ishWB1 8000 1 60 136 0 60 244 ish_in [.inr (.inr (4, []))] (isho1.map (wNo [0, 2, 3])) = true := wEdQ_ok lwTchOk ishE1q
set_option maxRecDepth 1000000 in
theorem ishE1R0 : wRkE x_KT x_tb x_tyl x_ov0 u_ct u_hs x_knd lwFR lwGA lwGB ishVA1_0 ishVB1_0 8000 1 60 136 0 60 244 (isho1.map (wNo [0, 2, 3])) ish_in lwF0 [.inr (.inr (4, [])), .inl (lAdd (lSc (-1) (lSy 15)) (lAdd (lSy 3) (lK (-1)))), .inr (.inr (14, [(lSy 15)])), .inr (.inr (0, [])), .inr (.inl (2008, lK 0))] = true := by decide +kernel
end XRuC31
