/-! Runs: checks, 31. -/
noncomputable section XRuC31
set_option maxRecDepth 1000000 in
theorem fin1E1R6 : wRkE x_KT x_tb x_tyl x_ov0 u_ctK0 u_hs x_knd lwFR lwGA lwGB fin1VA1_6 fin1VB1_6 8000 1 60 116 0 60 244 (fin1o1.map (wNo [5, 6, 7, 9, 10, 8])) fin1_lr lwF6 [.inr (.inr (4, [])), .inl (lAdd (lSc (-1) (lSy 29)) (lAdd (lSy 3) (lK (-1)))), .inr (.inr (15, [(lSy 29)])), .inr (.inr (6, [])), .inr (.inl (2000, lK 0))] = true := by decide +kernel
set_option maxRecDepth 1000000 in
theorem fin1E1R7 : wRkE x_KT x_tb x_tyl x_ov0 u_ctK0 u_hs x_knd lwFR lwGA lwGB fin1VA1_7 fin1VB1_7 8000 1 60 116 0 60 244 (fin1o1.map (wNo [5, 6, 7, 9, 10, 8])) fin1_lr lwF7 [.inr (.inr (4, [])), .inl (lAdd (lSc (-1) (lSy 29)) (lAdd (lSy 3) (lK (-1)))), .inr (.inr (15, [(lSy 29)])), .inr (.inr (7, [])), .inr (.inl (2000, lK 0))] = true := by decide +kernel
set_option maxRecDepth 1000000 in
theorem fin1E1R9 : wRkE x_KT x_tb x_tyl x_ov0 u_ctK0 u_hs x_knd lwFR lwGA lwGB fin1VA1_9 fin1VB1_9 8000 1 60 116 0 60 244 (fin1o1.map (wNo [5, 6, 7, 9, 10, 8])) fin1_lr lwF9 [.inr (.inr (4, [])), .inl (lAdd (lSc (-1) (lSy 29)) (lAdd (lSy 3) (lK (-1)))), .inr (.inr (15, [(lSy 29)])), .inr (.inr (9, [])), .inr (.inl (2000, lK 0))] = true := by decide +kernel
set_option maxRecDepth 1000000 in
theorem fin1E1R10 : wRkE x_KT x_tb x_tyl x_ov0 u_ctK0 u_hs x_knd lwFR lwGA lwGB fin1VA1_10 fin1VB1_10 8000 1 60 116 0 60 244 (fin1o1.map (wNo [5, 6, 7, 9, 10, 8])) fin1_lr lwF10 [.inr (.inr (4, [])), .inl (lAdd (lSc (-1) (lSy 29)) (lAdd (lSy 3) (lK (-1)))), .inr (.inr (15, [(lSy 29)])), .inr (.inr (10, [])), .inr (.inl (2000, lK 0))] = true := by decide +kernel
set_option maxRecDepth 1000000 in
theorem fin1E1R8 : wRkE x_KT x_tb x_tyl x_ov0 u_ctK0 u_hs x_knd lwFR lwGA lwGB fin1VA1_8 fin1VB1_8 8000 1 60 116 0 60 244 (fin1o1.map (wNo [5, 6, 7, 9, 10, 8])) fin1_lr lwF8 [.inr (.inr (4, [])), .inl (lAdd (lSc (-1) (lSy 29)) (lAdd (lSy 3) (lK (-1)))), .inr (.inr (15, [(lSy 29)])), .inr (.inr (8, [])), .inr (.inl (2000, lK 0))] = true := by decide +kernel
set_option maxRecDepth 1000000 in
theorem fin1E2 : wEd x_KT x_tb x_tyl x_ov0 u_ctK0 u_hs x_knd lwFR lwGA lwGB 27 25 42 fin1WA2 fin1WB2 8000 1 60 116 0 60 244 fin1_lo [] fin1o2 = true := by decide +kernel
theorem cbaL0 : wRlk 27 25 42 fin0WA fin0WB cbaX0.2.1 cbaX0.2.2.1 cbaX0.2.2.2.1 cbaX0.2.2.2.2 fin0_in = true := by decide +kernel
set_option maxRecDepth 1000000 in
theorem cbaE1 : wEd x_KT x_tb x_tyl x_ov0 u_ctK1 u_hs x_knd lwFR lwGA lwGB 26 25 42 cbaWA1 cbaWB1 8000 1 60 115 0 60 244 cba_in [.inr (.inr (4, []))] (cbao1.map (wNo [5, 6, 7, 9, 10, 8])) = true := by decide +kernel
set_option maxRecDepth 1000000 in
theorem cbaE1R5 : wRkE x_KT x_tb x_tyl x_ov0 u_ctK1 u_hs x_knd lwFR lwGA lwGB cbaVA1_5 cbaVB1_5 8000 1 60 115 0 60 244 (cbao1.map (wNo [5, 6, 7, 9, 10, 8])) cba_in lwF5 [.inr (.inr (4, [])), .inl (lAdd (lSc (-1) (lSy 26)) (lAdd (lSy 3) (lK (-1)))), .inr (.inr (15, [(lSy 26)])), .inr (.inr (5, [])), .inr (.inl (2000, lK 0))] = true := by decide +kernel
set_option maxRecDepth 1000000 in
theorem cbaE1R6 : wRkE x_KT x_tb x_tyl x_ov0 u_ctK1 u_hs x_knd lwFR lwGA lwGB cbaVA1_6 cbaVB1_6 8000 1 60 115 0 60 244 (cbao1.map (wNo [5, 6, 7, 9, 10, 8])) cba_in lwF6 [.inr (.inr (4, [])), .inl (lAdd (lSc (-1) (lSy 26)) (lAdd (lSy 3) (lK (-1)))), .inr (.inr (15, [(lSy 26)])), .inr (.inr (6, [])), .inr (.inl (2000, lK 0))] = true := by decide +kernel
set_option maxRecDepth 1000000 in
theorem cbaE1R7 : wRkE x_KT x_tb x_tyl x_ov0 u_ctK1 u_hs x_knd lwFR lwGA lwGB cbaVA1_7 cbaVB1_7 8000 1 60 115 0 60 244 (cbao1.map (wNo [5, 6, 7, 9, 10, 8])) cba_in lwF7 [.inr (.inr (4, [])), .inl (lAdd (lSc (-1) (lSy 26)) (lAdd (lSy 3) (lK (-1)))), .inr (.inr (15, [(lSy 26)])), .inr (.inr (7, [])), .inr (.inl (2000, lK 0))] = true := by decide +kernel
end XRuC31
