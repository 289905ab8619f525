/-! Runs: checks, 29. -/
noncomputable section XRuC29
set_option maxRecDepth 1000000 in
theorem mendE2R2 : wRkE x_KT x_tb x_tyl x_ov0 u_ct u_hs x_knd lwFR lwGA lwGB mendVA2_2 mendVB2_2 8000 1 60 103 1 60 236 (mendo2.map (wNo [0, 20, 2])) mend_m4 lwF2 [.inr (.inr (0, [(lSy 5)])), .inr (.inr (2, [(lSy 5), (lSy 8)])), .inr (.inr (14, [(lSy 5)])), .inl (lAdd (lSy 11) (lSc (-1) (lSy 5))), .inl (lAdd (lSc (-1) (lSy 11)) (lSy 5)), .inr (.inl (1001, (lAdd (lSc (-1) (lSy 11)) (lAdd (lSy 3) (lK (-1)))))), .inl (lAdd (lSc (-1) (lSy 11)) (lAdd (lSy 3) (lK (-1)))), .inr (.inl (0, (lSy 5))), .inr (.inr (16, [(lSy 11), (lSy 5)])), .inr (.inr (16, [(lSy 5), (lSy 11)])), .inr (.inr (12, [(lSy 11), (lSy 5)])), .inr (.inr (12, [(lSy 5), (lSy 11)])), .inl (lAdd (lSy 12) (lSc (-1) (lSy 8))), .inl (lAdd (lSc (-1) (lSy 12)) (lSy 8)), .inr (.inl (1, (lSy 8))), .inr (.inr (2, [])), .inr (.inr (2, [(lSy 11), (lSy 12)])), .inr (.inr (2, [(lSy 5), (lSy 12)])), .inr (.inr (2, [(lSy 11), (lSy 8)]))] = true := by decide +kernel
set_option maxRecDepth 1000000 in
theorem mendbc : wBc lwN lwFS.length 6 lwTA lwTB lwGA lwGB 5 24 42 u_ps uPA uPB mend_in mendOX = true := by decide +kernel
set_option maxRecDepth 1000000 in
theorem mendRuleE0 : wEd x_KT x_tb x_tyl x_ov0 u_ct u_hs x_knd lwFR lwGA lwGB 5 24 42 mendRuleWA0 mendRuleWB0 8000 1 60 107 1 60 239 mendRule_in [.inl (lSy 5), .inl (lAdd (lSc (-1) (lSy 5)) (lAdd (lSy 3) (lK (-1)))), .inr (.inr (0, [(lSy 5)]))] mendRuleo0 = true := by decide +kernel
set_option maxRecDepth 1000000 in
theorem mendRuleE1 : wEd x_KT x_tb x_tyl x_ov0 u_ct u_hs x_knd lwFR lwGA lwGB 5 24 42 mendRuleWA1 mendRuleWB1 8000 1 60 107 1 60 239 mendRule_m [.inr (.inr (0, [(lSy 5)])), .inr (.inr (14, [(lSy 5)]))] (mendRuleo1.map (wNo [0, 20, 3])) = true := by decide +kernel
set_option maxRecDepth 1000000 in
theorem mendRuleE1R0 : wRkE x_KT x_tb x_tyl x_ov0 u_ct u_hs x_knd lwFR lwGA lwGB mendRuleVA1_0 mendRuleVB1_0 8000 1 60 107 1 60 239 (mendRuleo1.map (wNo [0, 20, 3])) mendRule_m lwF0 [.inr (.inr (0, [(lSy 5)])), .inr (.inr (14, [(lSy 5)])), .inl (lAdd (lSy 9) (lSc (-1) (lSy 5))), .inl (lAdd (lSc (-1) (lSy 9)) (lSy 5)), .inr (.inl (1001, (lAdd (lSc (-1) (lSy 9)) (lAdd (lSy 3) (lK (-1)))))), .inl (lAdd (lSc (-1) (lSy 9)) (lAdd (lSy 3) (lK (-1)))), .inr (.inl (0, (lSy 5))), .inr (.inr (16, [(lSy 9), (lSy 5)])), .inr (.inr (16, [(lSy 5), (lSy 9)])), .inr (.inr (12, [(lSy 9), (lSy 5)])), .inr (.inr (12, [(lSy 5), (lSy 9)])), .inr (.inr (0, []))] = true := by decide +kernel
set_option maxRecDepth 1000000 in
theorem mendRuleE1R20 : wRkE x_KT x_tb x_tyl x_ov0 u_ct u_hs x_knd lwFR lwGA lwGB mendRuleVA1_20 mendRuleVB1_20 8000 1 60 107 1 60 239 (mendRuleo1.map (wNo [0, 20, 3])) mendRule_m lwF20 [.inr (.inr (0, [(lSy 5)])), .inr (.inr (14, [(lSy 5)])), .inl (lAdd (lSy 9) (lSc (-1) (lSy 3))), .inr (.inl (1001, (lAdd (lSy 9) (lAdd (lSc (-1) (lSy 5)) (lK (-1)))))), .inr (.inr (20, []))] = true := by decide +kernel
set_option maxRecDepth 1000000 in
theorem mendRuleE1R3 : wRkE x_KT x_tb x_tyl x_ov0 u_ct u_hs x_knd lwFR lwGA lwGB mendRuleVA1_3 mendRuleVB1_3 8000 1 60 107 1 60 239 (mendRuleo1.map (wNo [0, 20, 3])) mendRule_m lwF3 [.inr (.inr (0, [(lSy 5)])), .inr (.inr (14, [(lSy 5)])), .inr (.inr (3, []))] = true := by decide +kernel
set_option maxRecDepth 1000000 in
theorem mendRulebc : wBc lwN lwFS.length 4 lwTA lwTB lwGA lwGB 5 24 42 u_ps uPA uPB mendRule_in mendRuleOX = true := by decide +kernel
theorem testL0 : wRlk 11 25 42 rrWA rrWB testX0.2.1 testX0.2.2.1 testX0.2.2.2.1 testX0.2.2.2.2 rr_in = true := by decide +kernel
set_option maxRecDepth 1000000 in
theorem testE1 : wEd x_KT x_tb x_tyl x_ov0 u_ct u_hs x_knd lwFR lwGA lwGB 5 24 42 testWA1 testWB1 8000 1 60 108 1 60 240 test_in [.inl (lSy 5), .inl (lAdd (lSc (-1) (lSy 5)) (lAdd (lSy 3) (lK (-1)))), .inr (.inr (0, [(lSy 5)]))] testo1 = true := by decide +kernel
set_option maxRecDepth 1000000 in
theorem testE2 : wEd x_KT x_tb x_tyl x_ov0 u_ct u_hs x_knd lwFR lwGA lwGB 5 24 42 testWA2 testWB2 8000 1 60 108 1 60 240 test_cl_x0 [.inr (.inr (0, [(lSy 6)])), .inr (.inl (2000, lK 0))] (testo2.map (wNo [0, 20])) = true := by decide +kernel
set_option maxRecDepth 1000000 in
theorem testE2R0 : wRkE x_KT x_tb x_tyl x_ov0 u_ct u_hs x_knd lwFR lwGA lwGB testVA2_0 testVB2_0 8000 1 60 108 1 60 240 (testo2.map (wNo [0, 20])) test_cl_x0 lwF0 [.inr (.inr (0, [(lSy 6)])), .inr (.inl (2000, lK 0)), .inl (lAdd (lSy 16) (lSc (-1) (lSy 6))), .inl (lAdd (lSc (-1) (lSy 16)) (lSy 6)), .inr (.inl (1001, (lAdd (lSc (-1) (lSy 16)) (lAdd (lSy 3) (lK (-1)))))), .inl (lAdd (lSc (-1) (lSy 16)) (lAdd (lSy 3) (lK (-1)))), .inr (.inl (0, (lSy 6))), .inr (.inr (15, [(lSy 16), (lSy 6)])), .inr (.inr (15, [(lSy 6), (lSy 16)])), .inr (.inr (12, [(lSy 16), (lSy 6)])), .inr (.inr (12, [(lSy 6), (lSy 16)])), .inr (.inr (0, []))] = true := by decide +kernel
set_option maxRecDepth 1000000 in
theorem testE2R20 : wRkE x_KT x_tb x_tyl x_ov0 u_ct u_hs x_knd lwFR lwGA lwGB testVA2_20 testVB2_20 8000 1 60 108 1 60 240 (testo2.map (wNo [0, 20])) test_cl_x0 lwF20 [.inr (.inr (0, [(lSy 6)])), .inl (lAdd (lSy 16) (lSc (-1) (lSy 3))), .inr (.inl (1001, (lAdd (lSy 16) (lAdd (lSc (-1) (lSy 6)) (lK (-1)))))), .inr (.inr (17, []))] = true := by decide +kernel
set_option maxRecDepth 1000000 in
theorem testE3 : wEd x_KT x_tb x_tyl x_ov0 u_ct u_hs x_knd lwFR lwGA lwGB 5 24 42 testWA3 testWB3 8000 1 60 108 1 60 240 test_cl_x1 [.inr (.inr (0, [(lSy 6)])), .inr (.inl (2000, lK 0))] (testo3.map (wNo [0, 20])) = true := by decide +kernel
end XRuC29
