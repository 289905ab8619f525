/-! Runs: checks, 33. -/
noncomputable section XRuC33
set_option maxRecDepth 1000000 in
theorem fin1tE1R6 : wRkE x_KT x_tb x_tyl x_ov0 u_ctK0 u_hs x_knd lwFR lwGA lwGB fin1tVA1_6 fin1tVB1_6 8000 1 60 116 0 60 244 (fin1to1.map (wNo [5, 6, 7, 9, 10, 8])) fin1t_lr lwF6 [.inr (.inr (4, [])), .inr (.inl (1001, (lSy 24))), .inr (.inl (1001, (lAdd (lSc (-1) (lSy 24)) (lK 11)))), .inl (lAdd (lSc (-1) (lSy 29)) (lAdd (lSy 3) (lK (-1)))), .inr (.inr (18, [(lSy 29), (lSy 24)])), .inr (.inr (6, [])), .inr (.inl (2000, lK 0))] = true := by decide +kernel
set_option maxRecDepth 1000000 in
theorem fin1tE1R7 : wRkE x_KT x_tb x_tyl x_ov0 u_ctK0 u_hs x_knd lwFR lwGA lwGB fin1tVA1_7 fin1tVB1_7 8000 1 60 116 0 60 244 (fin1to1.map (wNo [5, 6, 7, 9, 10, 8])) fin1t_lr lwF7 [.inr (.inr (4, [])), .inr (.inl (1001, (lSy 24))), .inr (.inl (1001, (lAdd (lSc (-1) (lSy 24)) (lK 11)))), .inl (lAdd (lSc (-1) (lSy 29)) (lAdd (lSy 3) (lK (-1)))), .inr (.inr (18, [(lSy 29), (lSy 24)])), .inr (.inr (7, [])), .inr (.inl (2000, lK 0))] = true := by decide +kernel
set_option maxRecDepth 1000000 in
theorem fin1tE1R9 : wRkE x_KT x_tb x_tyl x_ov0 u_ctK0 u_hs x_knd lwFR lwGA lwGB fin1tVA1_9 fin1tVB1_9 8000 1 60 116 0 60 244 (fin1to1.map (wNo [5, 6, 7, 9, 10, 8])) fin1t_lr lwF9 [.inr (.inr (4, [])), .inr (.inl (1001, (lSy 24))), .inr (.inl (1001, (lAdd (lSc (-1) (lSy 24)) (lK 11)))), .inl (lAdd (lSc (-1) (lSy 29)) (lAdd (lSy 3) (lK (-1)))), .inr (.inr (18, [(lSy 29), (lSy 24)])), .inr (.inr (9, [])), .inr (.inl (2000, lK 0))] = true := by decide +kernel
set_option maxRecDepth 1000000 in
theorem fin1tE1R10 : wRkE x_KT x_tb x_tyl x_ov0 u_ctK0 u_hs x_knd lwFR lwGA lwGB fin1tVA1_10 fin1tVB1_10 8000 1 60 116 0 60 244 (fin1to1.map (wNo [5, 6, 7, 9, 10, 8])) fin1t_lr lwF10 [.inr (.inr (4, [])), .inr (.inl (1001, (lSy 24))), .inr (.inl (1001, (lAdd (lSc (-1) (lSy 24)) (lK 11)))), .inl (lAdd (lSc (-1) (lSy 29)) (lAdd (lSy 3) (lK (-1)))), .inr (.inr (18, [(lSy 29), (lSy 24)])), .inr (.inr (10, [])), .inr (.inl (2000, lK 0))] = true := by decide +kernel
set_option maxRecDepth 1000000 in
theorem fin1tE1R8 : wRkE x_KT x_tb x_tyl x_ov0 u_ctK0 u_hs x_knd lwFR lwGA lwGB fin1tVA1_8 fin1tVB1_8 8000 1 60 116 0 60 244 (fin1to1.map (wNo [5, 6, 7, 9, 10, 8])) fin1t_lr lwF8 [.inr (.inr (4, [])), .inr (.inl (1001, (lSy 24))), .inr (.inl (1001, (lAdd (lSc (-1) (lSy 24)) (lK 11)))), .inl (lAdd (lSc (-1) (lSy 29)) (lAdd (lSy 3) (lK (-1)))), .inr (.inr (18, [(lSy 29), (lSy 24)])), .inr (.inr (8, [])), .inr (.inl (2000, lK 0))] = true := by decide +kernel
set_option maxRecDepth 1000000 in
theorem fin1tE2 : wEd x_KT x_tb x_tyl x_ov0 u_ctK0 u_hs x_knd lwFR lwGA lwGB 27 26 42 fin1tWA2 fin1tWB2 8000 1 60 116 0 60 244 fin1t_lo [] fin1to2 = true := by decide +kernel
theorem rtL0 : wRlk 27 26 42 fin1tWA fin1tWB rtX0.2.1 rtX0.2.2.1 rtX0.2.2.2.1 rtX0.2.2.2.2 fin1t_in = true := by decide +kernel
set_option maxRecDepth 1000000 in
theorem rtE1 : wEd x_KT x_tb x_tyl x_ov0 u_ct u_hs x_knd lwFR lwGA lwGB 11 24 42 rtWA1 rtWB1 8000 1 60 141 0 60 244 rt_in [] rto1 = true := by decide +kernel
set_option maxRecDepth 1000000 in
theorem rtE2 : wEd x_KT x_tb x_tyl x_ov0 u_ct u_hs x_knd lwFR lwGA lwGB 11 24 42 rtWA2 rtWB2 8000 1 60 141 0 60 244 rt_lp [.inr (.inr (4, [])), .inl (lAdd (lSc (-1) (lSy 13)) (lAdd (lSy 3) (lK (-1)))), .inr (.inl (1001, (lAdd (lSc (-1) (lSy 13)) (lK 11)))), .inr (.inr (11, [(lSy 13)]))] (rto2.map (wNo [5, 6, 7, 9, 10, 8])) = true := by decide +kernel
set_option maxRecDepth 1000000 in
theorem rtE2R5 : wRkE x_KT x_tb x_tyl x_ov0 u_ct u_hs x_knd lwFR lwGA lwGB rtVA2_5 rtVB2_5 8000 1 60 141 0 60 244 (rto2.map (wNo [5, 6, 7, 9, 10, 8])) rt_lp lwF5 [.inr (.inr (4, [])), .inl (lAdd (lSc (-1) (lSy 13)) (lAdd (lSy 3) (lK (-1)))), .inr (.inl (1001, (lAdd (lSc (-1) (lSy 13)) (lK 11)))), .inr (.inr (11, [(lSy 13)])), .inl (lAdd (lSc (-1) (lSy 14)) (lAdd (lSy 3) (lK (-1)))), .inr (.inr (18, [(lSy 14), (lSy 13)])), .inr (.inr (5, [])), .inr (.inl (2000, lK 0))] = true := by decide +kernel
end XRuC33
