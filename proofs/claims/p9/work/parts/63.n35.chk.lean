/-! Runs: checks, 35. -/
noncomputable section XRuC35
set_option maxRecDepth 1000000 in
theorem rtE2R8 : wRkE x_KT x_tb x_tyl x_ov0 u_ct u_hs x_knd lwFR lwGA lwGB rtVA2_8 rtVB2_8 8000 1 60 141 0 60 244 (rto2.map (wNo [5, 6, 7, 9, 10, 8])) rt_lp lwF8 [.inr (.inr (4, [])), .inl (lAdd (lSc (-1) (lSy 13)) (lAdd (lSy 3) (lK (-1)))), .inr (.inl (1001, (lAdd (lSc (-1) (lSy 13)) (lK 11)))), .inr (.inr (11, [(lSy 13)])), .inl (lAdd (lSc (-1) (lSy 14)) (lAdd (lSy 3) (lK (-1)))), .inr (.inr (18, [(lSy 14), (lSy 13)])), .inr (.inr (8, [])), .inr (.inl (2000, lK 0))] = true := by decide +kernel
set_option maxRecDepth 1000000 in
theorem rtE3 : wEd x_KT x_tb x_tyl x_ov0 u_ct u_hs x_knd lwFR lwGA lwGB 11 24 42 rtWA3 rtWB3 8000 1 60 141 0 60 244 rt_c_out [.inr (.inl (1001, (lAdd (lSy 11) (lK (-1900))))), .inr (.inl (1001, (lAdd (lSc (-1) (lSy 11)) (lK 2099)))), .inr (.inl (1001, (lSy 12))), .inr (.inl (1001, (lAdd (lSc (-1) (lSy 12)) (lK 1)))), .inr (.inl (1001, (lSy 24))), .inr (.inl (1001, (lAdd (lSc (-1) (lSy 24)) (lK 11))))] rto3 = true := by decide +kernel
set_option maxRecDepth 1000000 in
theorem fin0tE0 : wEd x_KT x_tb x_tyl x_ov0 u_ctK0 u_hs x_knd lwFR lwGA lwGB 27 26 42 fin0tWA0 fin0tWB0 8000 1 60 116 0 60 244 fin0t_in [.inl (lSy 27)] fin0to0 = true := by decide +kernel
set_option maxRecDepth 1000000 in
theorem fin0tE1 : wEd x_KT x_tb x_tyl x_ov0 u_ctK0 u_hs x_knd lwFR lwGA lwGB 27 26 42 fin0tWA1 fin0tWB1 8000 1 60 116 0 60 244 fin0t_lr [.inr (.inr (4, [])), .inr (.inl (1001, (lSy 24))), .inr (.inl (1001, (lAdd (lSc (-1) (lSy 24)) (lK 11))))] (fin0to1.map (wNo [5, 6, 7, 9, 10, 8])) = true := by decide +kernel
set_option maxRecDepth 1000000 in
theorem fin0tE1R5 : wRkE x_KT x_tb x_tyl x_ov0 u_ctK0 u_hs x_knd lwFR lwGA lwGB fin0tVA1_5 fin0tVB1_5 8000 1 60 116 0 60 244 (fin0to1.map (wNo [5, 6, 7, 9, 10, 8])) fin0t_lr lwF5 [.inr (.inr (4, [])), .inr (.inl (1001, (lSy 24))), .inr (.inl (1001, (lAdd (lSc (-1) (lSy 24)) (lK 11)))), .inl (lAdd (lSc (-1) (lSy 29)) (lAdd (lSy 3) (lK (-1)))), .inr (.inr (18, [(lSy 29), (lSy 24)])), .inr (.inr (5, [])), .inr (.inl (2000, lK 0))] = true := by decide +kernel
set_option maxRecDepth 1000000 in
theorem fin0tE1R6 : wRkE x_KT x_tb x_tyl x_ov0 u_ctK0 u_hs x_knd lwFR lwGA lwGB fin0tVA1_6 fin0tVB1_6 8000 1 60 116 0 60 244 (fin0to1.map (wNo [5, 6, 7, 9, 10, 8])) fin0t_lr lwF6 [.inr (.inr (4, [])), .inr (.inl (1001, (lSy 24))), .inr (.inl (1001, (lAdd (lSc (-1) (lSy 24)) (lK 11)))), .inl (lAdd (lSc (-1) (lSy 29)) (lAdd (lSy 3) (lK (-1)))), .inr (.inr (18, [(lSy 29), (lSy 24)])), .inr (.inr (6, [])), .inr (.inl (2000, lK 0))] = true := by decide +kernel
set_option maxRecDepth 1000000 in
theorem fin0tE1R7 : wRkE x_KT x_tb x_tyl x_ov0 u_ctK0 u_hs x_knd lwFR lwGA lwGB fin0tVA1_7 fin0tVB1_7 8000 1 60 116 0 60 244 (fin0to1.map (wNo [5, 6, 7, 9, 10, 8])) fin0t_lr lwF7 [.inr (.inr (4, [])), .inr (.inl (1001, (lSy 24))), .inr (.inl (1001, (lAdd (lSc (-1) (lSy 24)) (lK 11)))), .inl (lAdd (lSc (-1) (lSy 29)) (lAdd (lSy 3) (lK (-1)))), .inr (.inr (18, [(lSy 29), (lSy 24)])), .inr (.inr (7, [])), .inr (.inl (2000, lK 0))] = true := by decide +kernel
set_option maxRecDepth 1000000 in
theorem fin0tE1R9 : wRkE x_KT x_tb x_tyl x_ov0 u_ctK0 u_hs x_knd lwFR lwGA lwGB fin0tVA1_9 fin0tVB1_9 8000 1 60 116 0 60 244 (fin0to1.map (wNo [5, 6, 7, 9, 10, 8])) fin0t_lr lwF9 [.inr (.inr (4, [])), .inr (.inl (1001, (lSy 24))), .inr (.inl (1001, (lAdd (lSc (-1) (lSy 24)) (lK 11)))), .inl (lAdd (lSc (-1) (lSy 29)) (lAdd (lSy 3) (lK (-1)))), .inr (.inr (18, [(lSy 29), (lSy 24)])), .inr (.inr (9, [])), .inr (.inl (2000, lK 0))] = true := by decide +kernel
set_option maxRecDepth 1000000 in
theorem fin0tE1R10 : wRkE x_KT x_tb x_tyl x_ov0 u_ctK0 u_hs x_knd lwFR lwGA lwGB fin0tVA1_10 fin0tVB1_10 8000 1 60 116 0 60 244 (fin0to1.map (wNo [5, 6, 7, 9, 10, 8])) fin0t_lr lwF10 [.inr (.inr (4, [])), .inr (.inl (1001, (lSy 24))), .inr (.inl (1001, (lAdd (lSc (-1) (lSy 24)) (lK 11)))), .inl (lAdd (lSc (-1) (lSy 29)) (lAdd (lSy 3) (lK (-1)))), .inr (.inr (18, [(lSy 29), (lSy 24)])), .inr (.inr (10, [])), .inr (.inl (2000, lK 0))] = true := by decide +kernel
set_option maxRecDepth 1000000 in
theorem fin0tE1R8 : wRkE x_KT x_tb x_tyl x_ov0 u_ctK0 u_hs x_knd lwFR lwGA lwGB fin0tVA1_8 fin0tVB1_8 8000 1 60 116 0 60 244 (fin0to1.map (wNo [5, 6, 7, 9, 10, 8])) fin0t_lr lwF8 [.inr (.inr (4, [])), .inr (.inl (1001, (lSy 24))), .inr (.inl (1001, (lAdd (lSc (-1) (lSy 24)) (lK 11)))), .inl (lAdd (lSc (-1) (lSy 29)) (lAdd (lSy 3) (lK (-1)))), .inr (.inr (18, [(lSy 29), (lSy 24)])), .inr (.inr (8, [])), .inr (.inl (2000, lK 0))] = true := by decide +kernel
set_option maxRecDepth 1000000 in
theorem fin0tE2 : wEd x_KT x_tb x_tyl x_ov0 u_ctK0 u_hs x_knd lwFR lwGA lwGB 27 26 42 fin0tWA2 fin0tWB2 8000 1 60 116 0 60 244 fin0t_lo [] fin0to2 = true := by decide +kernel
theorem rhL0 : wRlk 27 26 42 fin0tWA fin0tWB rhX0.2.1 rhX0.2.2.1 rhX0.2.2.2.1 rhX0.2.2.2.2 fin0t_in = true := by decide +kernel
set_option maxRecDepth 1000000 in
theorem rhE1 : wEd x_KT x_tb x_tyl x_ov0 u_ctK1 u_hs x_knd lwFR lwGA lwGB 16 24 42 rhWA1 rhWB1 8000 1 60 144 0 60 244 rh_in [] rho1 = true := by decide +kernel
set_option maxRecDepth 1000000 in
theorem rhE2 : wEd x_KT x_tb x_tyl x_ov0 u_ctK1 u_hs x_knd lwFR lwGA lwGB 16 24 42 rhWA2 rhWB2 8000 1 60 144 0 60 244 rh_lp [.inr (.inr (4, [])), .inl (lAdd (lSc (-1) (lSy 20)) (lAdd (lSy 3) (lK (-1)))), .inr (.inl (1001, (lAdd (lSc (-1) (lSy 20)) (lK 11)))), .inr (.inr (11, [(lSy 20)]))] (rho2.map (wNo [5, 6, 7, 9, 10, 8])) = true := by decide +kernel
end XRuC35
