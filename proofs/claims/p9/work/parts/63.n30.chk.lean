/-! Runs: checks, 30. -/
noncomputable section XRuC30
set_option maxRecDepth 1000000 in
theorem testE3R0 : wRkE x_KT x_tb x_tyl x_ov0 u_ct u_hs x_knd lwFR lwGA lwGB testVA3_0 testVB3_0 8000 1 60 108 1 60 240 (testo3.map (wNo [0, 20])) test_cl_x1 lwF0 [.inr (.inr (0, [(lSy 6)])), .inr (.inl (2000, lK 0)), .inl (lAdd (lSy 16) (lSc (-1) (lSy 6))), .inl (lAdd (lSc (-1) (lSy 16)) (lSy 6)), .inr (.inl (1001, (lAdd (lSc (-1) (lSy 16)) (lAdd (lSy 3) (lK (-1)))))), .inl (lAdd (lSc (-1) (lSy 16)) (lAdd (lSy 3) (lK (-1)))), .inr (.inl (0, (lSy 6))), .inr (.inr (15, [(lSy 16), (lSy 6)])), .inr (.inr (15, [(lSy 6), (lSy 16)])), .inr (.inr (12, [(lSy 16), (lSy 6)])), .inr (.inr (12, [(lSy 6), (lSy 16)])), .inr (.inr (0, []))] = true := by decide +kernel
set_option maxRecDepth 1000000 in
theorem testE3R20 : wRkE x_KT x_tb x_tyl x_ov0 u_ct u_hs x_knd lwFR lwGA lwGB testVA3_20 testVB3_20 8000 1 60 108 1 60 240 (testo3.map (wNo [0, 20])) test_cl_x1 lwF20 [.inr (.inr (0, [(lSy 6)])), .inl (lAdd (lSy 16) (lSc (-1) (lSy 3))), .inr (.inl (1001, (lAdd (lSy 16) (lAdd (lSc (-1) (lSy 6)) (lK (-1)))))), .inr (.inr (17, []))] = true := by decide +kernel
set_option maxRecDepth 1000000 in
theorem testbc : wBc lwN lwFS.length 4 lwTA lwTB lwGA lwGB 5 24 42 u_ps uPA uPB test_in testOX = true := by decide +kernel
set_option maxRecDepth 1000000 in
theorem fin0E0 : wEd x_KT x_tb x_tyl x_ov0 u_ctK0 u_hs x_knd lwFR lwGA lwGB 27 25 42 fin0WA0 fin0WB0 8000 1 60 116 0 60 244 fin0_in [.inl (lSy 27)] fin0o0 = true := by decide +kernel
set_option maxRecDepth 1000000 in
theorem fin0E1 : wEd x_KT x_tb x_tyl x_ov0 u_ctK0 u_hs x_knd lwFR lwGA lwGB 27 25 42 fin0WA1 fin0WB1 8000 1 60 116 0 60 244 fin0_lr [.inr (.inr (4, []))] (fin0o1.map (wNo [5, 6, 7, 9, 10, 8])) = true := by decide +kernel
set_option maxRecDepth 1000000 in
theorem fin0E1R5 : wRkE x_KT x_tb x_tyl x_ov0 u_ctK0 u_hs x_knd lwFR lwGA lwGB fin0VA1_5 fin0VB1_5 8000 1 60 116 0 60 244 (fin0o1.map (wNo [5, 6, 7, 9, 10, 8])) fin0_lr lwF5 [.inr (.inr (4, [])), .inl (lAdd (lSc (-1) (lSy 29)) (lAdd (lSy 3) (lK (-1)))), .inr (.inr (15, [(lSy 29)])), .inr (.inr (5, [])), .inr (.inl (2000, lK 0))] = true := by decide +kernel
set_option maxRecDepth 1000000 in
theorem fin0E1R6 : wRkE x_KT x_tb x_tyl x_ov0 u_ctK0 u_hs x_knd lwFR lwGA lwGB fin0VA1_6 fin0VB1_6 8000 1 60 116 0 60 244 (fin0o1.map (wNo [5, 6, 7, 9, 10, 8])) fin0_lr lwF6 [.inr (.inr (4, [])), .inl (lAdd (lSc (-1) (lSy 29)) (lAdd (lSy 3) (lK (-1)))), .inr (.inr (15, [(lSy 29)])), .inr (.inr (6, [])), .inr (.inl (2000, lK 0))] = true := by decide +kernel
set_option maxRecDepth 1000000 in
theorem fin0E1R7 : wRkE x_KT x_tb x_tyl x_ov0 u_ctK0 u_hs x_knd lwFR lwGA lwGB fin0VA1_7 fin0VB1_7 8000 1 60 116 0 60 244 (fin0o1.map (wNo [5, 6, 7, 9, 10, 8])) fin0_lr lwF7 [.inr (.inr (4, [])), .inl (lAdd (lSc (-1) (lSy 29)) (lAdd (lSy 3) (lK (-1)))), .inr (.inr (15, [(lSy 29)])), .inr (.inr (7, [])), .inr (.inl (2000, lK 0))] = true := by decide +kernel
set_option maxRecDepth 1000000 in
theorem fin0E1R9 : wRkE x_KT x_tb x_tyl x_ov0 u_ctK0 u_hs x_knd lwFR lwGA lwGB fin0VA1_9 fin0VB1_9 8000 1 60 116 0 60 244 (fin0o1.map (wNo [5, 6, 7, 9, 10, 8])) fin0_lr lwF9 [.inr (.inr (4, [])), .inl (lAdd (lSc (-1) (lSy 29)) (lAdd (lSy 3) (lK (-1)))), .inr (.inr (15, [(lSy 29)])), .inr (.inr (9, [])), .inr (.inl (2000, lK 0))] = true := by decide +kernel
set_option maxRecDepth 1000000 in
theorem fin0E1R10 : wRkE x_KT x_tb x_tyl x_ov0 u_ctK0 u_hs x_knd lwFR lwGA lwGB fin0VA1_10 fin0VB1_10 8000 1 60 116 0 60 244 (fin0o1.map (wNo [5, 6, 7, 9, 10, 8])) fin0_lr lwF10 [.inr (.inr (4, [])), .inl (lAdd (lSc (-1) (lSy 29)) (lAdd (lSy 3) (lK (-1)))), .inr (.inr (15, [(lSy 29)])), .inr (.inr (10, [])), .inr (.inl (2000, lK 0))] = true := by decide +kernel
set_option maxRecDepth 1000000 in
theorem fin0E1R8 : wRkE x_KT x_tb x_tyl x_ov0 u_ctK0 u_hs x_knd lwFR lwGA lwGB fin0VA1_8 fin0VB1_8 8000 1 60 116 0 60 244 (fin0o1.map (wNo [5, 6, 7, 9, 10, 8])) fin0_lr lwF8 [.inr (.inr (4, [])), .inl (lAdd (lSc (-1) (lSy 29)) (lAdd (lSy 3) (lK (-1)))), .inr (.inr (15, [(lSy 29)])), .inr (.inr (8, [])), .inr (.inl (2000, lK 0))] = true := by decide +kernel
set_option maxRecDepth 1000000 in
theorem fin0E2 : wEd x_KT x_tb x_tyl x_ov0 u_ctK0 u_hs x_knd lwFR lwGA lwGB 27 25 42 fin0WA2 fin0WB2 8000 1 60 116 0 60 244 fin0_lo [] fin0o2 = true := by decide +kernel
set_option maxRecDepth 1000000 in
theorem fin1E0 : wEd x_KT x_tb x_tyl x_ov0 u_ctK0 u_hs x_knd lwFR lwGA lwGB 27 25 42 fin1WA0 fin1WB0 8000 1 60 116 0 60 244 fin1_in [.inl (lSy 27)] fin1o0 = true := by decide +kernel
set_option maxRecDepth 1000000 in
theorem fin1E1 : wEd x_KT x_tb x_tyl x_ov0 u_ctK0 u_hs x_knd lwFR lwGA lwGB 27 25 42 fin1WA1 fin1WB1 8000 1 60 116 0 60 244 fin1_lr [.inr (.inr (4, []))] (fin1o1.map (wNo [5, 6, 7, 9, 10, 8])) = true := by decide +kernel
set_option maxRecDepth 1000000 in
theorem fin1E1R5 : wRkE x_KT x_tb x_tyl x_ov0 u_ctK0 u_hs x_knd lwFR lwGA lwGB fin1VA1_5 fin1VB1_5 8000 1 60 116 0 60 244 (fin1o1.map (wNo [5, 6, 7, 9, 10, 8])) fin1_lr lwF5 [.inr (.inr (4, [])), .inl (lAdd (lSc (-1) (lSy 29)) (lAdd (lSy 3) (lK (-1)))), .inr (.inr (15, [(lSy 29)])), .inr (.inr (5, [])), .inr (.inl (2000, lK 0))] = true := by decide +kernel
end XRuC30
