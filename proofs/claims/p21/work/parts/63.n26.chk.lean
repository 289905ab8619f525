/-! Runs: checks, 26. -/
noncomputable section XRuC26
set_option maxRecDepth 1000000 in
theorem chbcE0R2 : wRkE x_KT x_tb x_tyl x_ov0 u_ctK2 u_hs x_knd lwFR lwGA lwGB chbcVA0_2 chbcVB0_2 8000 0 60 113 1 60 243 (chbco0.map (wNo [2])) chbc_in lwF2 [.inl (lAdd (lSc (-1) (lSy 31)) (lAdd (lSy 3) (lK (-1)))), .inl (lAdd (lSy 31) (lSc (-1) (lSy 25))), .inl (lAdd (lSc (-1) (lSy 31)) (lSy 25)), .inr (.inl (0, (lSy 25))), .inr (.inl (1001, (lAdd (lSc (-1) (lSy 25)) (lAdd (lSy 3) (lK (-1)))))), .inr (.inl (1001, (lAdd (lSy 25) (lSc (-1) (lSy 3))))), .inr (.inr (17, [(lSy 31), (lSy 25)])), .inr (.inr (17, [(lSy 25), (lSy 31)])), .inl (lAdd (lSy 32) (lSc (-1) (lSy 26))), .inl (lAdd (lSc (-1) (lSy 32)) (lSy 26)), .inr (.inl (1, (lSy 26))), .inr (.inr (2, [(lSy 31), (lSy 32)])), .inr (.inr (2, [(lSy 25), (lSy 32)])), .inr (.inr (2, [(lSy 31), (lSy 26)])), .inr (.inr (2, [(lSy 25), (lSy 26)]))] = true := by decide +kernel
theorem isbcL0 : wRlk 25 25 44 chbcWA chbcWB isbcX0.2.1 isbcX0.2.2.1 isbcX0.2.2.2.1 isbcX0.2.2.2.2 chbc_in = true := by decide +kernel
set_option maxRecDepth 1000000 in
theorem isbcE1q : wEdQ lwTch 43 x_KT x_tb x_tyl x_ov0 u_ct u_hs x_knd lwFR lwGA lwGB 13 25 44 isbcWA1 isbcWB1 8000 0 60 113 1 60 248 isbc_in [] isbco1 = true := by decide +kernel
theorem isbcE1 : wEd x_KT x_tb x_tyl x_ov0 u_ct u_hs x_knd lwFR lwGA lwGB 13 25 44 isbcWA1 isbcWB1 8000 0 60 113 1 60 248 isbc_in [] isbco1 = true := wEdQ_ok lwTchOk isbcE1q
set_option maxRecDepth 1000000 in
theorem isbcE2q : wEdQ lwTch 43 x_KT x_tb x_tyl x_ov0 u_ct u_hs x_knd lwFR lwGA lwGB 13 25 44 isbcWA2 isbcWB2 8000 0 60 113 1 60 248 isbc_c_out [] isbco2 = true := by decide +kernel
theorem isbcE2 : wEd x_KT x_tb x_tyl x_ov0 u_ct u_hs x_knd lwFR lwGA lwGB 13 25 44 isbcWA2 isbcWB2 8000 0 60 113 1 60 248 isbc_c_out [] isbco2 = true := wEdQ_ok lwTchOk isbcE2q
set_option maxRecDepth 1000000 in
theorem coverE0q : wEdQ lwTch 43 x_KT x_tb x_tyl x_ov0 u_ctK3 u_hs x_knd lwFR lwGA lwGB 5 25 43 coverWA0 coverWB0 8000 1 60 137 0 60 249 cover_in [.inl (lSy 5), .inl (lAdd (lSc (-1) (lSy 5)) (lK 1))] covero0 = true := by decide +kernel
theorem coverE0 : wEd x_KT x_tb x_tyl x_ov0 u_ctK3 u_hs x_knd lwFR lwGA lwGB 5 25 43 coverWA0 coverWB0 8000 1 60 137 0 60 249 cover_in [.inl (lSy 5), .inl (lAdd (lSc (-1) (lSy 5)) (lK 1))] covero0 = true := wEdQ_ok lwTchOk coverE0q
set_option maxRecDepth 1000000 in
theorem coverE1q : wEdQ lwTch 43 x_KT x_tb x_tyl x_ov0 u_ctK3 u_hs x_knd lwFR lwGA lwGB 5 25 43 coverWA1 coverWB1 8000 1 60 137 1 60 249 cover_lo [] covero1 = true := by decide +kernel
theorem coverE1 : wEd x_KT x_tb x_tyl x_ov0 u_ctK3 u_hs x_knd lwFR lwGA lwGB 5 25 43 coverWA1 coverWB1 8000 1 60 137 1 60 249 cover_lo [] covero1 = true := wEdQ_ok lwTchOk coverE1q
set_option maxRecDepth 1000000 in
theorem coverE2q : wEdQ lwTch 43 x_KT x_tb x_tyl x_ov0 u_ctK3 u_hs x_knd lwFR lwGA lwGB 5 25 43 coverWA2 coverWB2 8000 1 60 137 1 60 249 cover_hi [] covero2 = true := by decide +kernel
theorem coverE2 : wEd x_KT x_tb x_tyl x_ov0 u_ctK3 u_hs x_knd lwFR lwGA lwGB 5 25 43 coverWA2 coverWB2 8000 1 60 137 1 60 249 cover_hi [] covero2 = true := wEdQ_ok lwTchOk coverE2q
set_option maxRecDepth 1000000 in
theorem coverE3q : wEdQ lwTch 43 x_KT x_tb x_tyl x_ov0 u_ctK3 u_hs x_knd lwFR lwGA lwGB 5 25 43 coverWA3 coverWB3 8000 1 60 137 0 60 249 cover_c13 [] covero3 = true := by decide +kernel
theorem coverE3 : wEd x_KT x_tb x_tyl x_ov0 u_ctK3 u_hs x_knd lwFR lwGA lwGB 5 25 43 coverWA3 coverWB3 8000 1 60 137 0 60 249 cover_c13 [] covero3 = true := wEdQ_ok lwTchOk coverE3q
theorem coverL4 : wRlk 13 25 43 ishWA ishWB coverX4.2.1 coverX4.2.2.1 coverX4.2.2.2.1 coverX4.2.2.2.2 ish_in = true := by decide +kernel
set_option maxRecDepth 1000000 in
theorem coverE5q : wEdQ lwTch 43 x_KT x_tb x_tyl x_ov0 u_ctK3 u_hs x_knd lwFR lwGA lwGB 5 25 43 coverWA5 coverWB5 8000 1 60 137 0 60 249 cover_c29 [] covero5 = true := by decide +kernel
theorem coverE5 : wEd x_KT x_tb x_tyl x_ov0 u_ctK3 u_hs x_knd lwFR lwGA lwGB 5 25 43 coverWA5 coverWB5 8000 1 60 137 0 60 249 cover_c29 [] covero5 = true := wEdQ_ok lwTchOk coverE5q
set_option maxRecDepth 1000000 in
theorem coverE6q : wEdQ lwTch 43 x_KT x_tb x_tyl x_ov0 u_ctK3 u_hs x_knd lwFR lwGA lwGB 5 25 43 coverWA6 coverWB6 8000 1 60 137 0 60 249 cover_c_out [.inr (.inl (1001, (lSy 5))), .inr (.inl (1001, (lAdd (lSc (-1) (lSy 5)) (lK 1)))), .inr (.inl (1001, (lSy 6))), .inr (.inl (1001, (lAdd (lSc (-1) (lSy 6)) (lK 7)))), .inr (.inl (1001, (lSy 7))), .inr (.inl (1001, (lAdd (lSc (-1) (lSy 7)) (lK 255)))), .inr (.inl (1001, (lSy 8))), .inr (.inl (1001, (lAdd (lSc (-1) (lSy 8)) (lK 7))))] covero6 = true := by decide +kernel
theorem coverE6 : wEd x_KT x_tb x_tyl x_ov0 u_ctK3 u_hs x_knd lwFR lwGA lwGB 5 25 43 coverWA6 coverWB6 8000 1 60 137 0 60 249 cover_c_out [.inr (.inl (1001, (lSy 5))), .inr (.inl (1001, (lAdd (lSc (-1) (lSy 5)) (lK 1)))), .inr (.inl (1001, (lSy 6))), .inr (.inl (1001, (lAdd (lSc (-1) (lSy 6)) (lK 7)))), .inr (.inl (1001, (lSy 7))), .inr (.inl (1001, (lAdd (lSc (-1) (lSy 7)) (lK 255)))), .inr (.inl (1001, (lSy 8))), .inr (.inl (1001, (lAdd (lSc (-1) (lSy 8)) (lK 7))))] covero6 = true := wEdQ_ok lwTchOk coverE6q
set_option maxRecDepth 1000000 in
theorem coverE7q : wEdQ lwTch 43 x_KT x_tb x_tyl x_ov0 u_ctK3 u_hs x_knd lwFR lwGA lwGB 5 25 43 coverWA7 coverWB7 8000 0 60 137 1 60 249 cover_a2 [] covero7 = true := by decide +kernel
theorem coverE7 : wEd x_KT x_tb x_tyl x_ov0 u_ctK3 u_hs x_knd lwFR lwGA lwGB 5 25 43 coverWA7 coverWB7 8000 0 60 137 1 60 249 cover_a2 [] covero7 = true := wEdQ_ok lwTchOk coverE7q
set_option maxRecDepth 1000000 in
theorem coverE8q : wEdQ lwTch 43 x_KT x_tb x_tyl x_ov0 u_ctK3 u_hs x_knd lwFR lwGA lwGB 5 25 43 coverWA8 coverWB8 8000 0 60 137 1 60 249 cover_b21 [] covero8 = true := by decide +kernel
theorem coverE8 : wEd x_KT x_tb x_tyl x_ov0 u_ctK3 u_hs x_knd lwFR lwGA lwGB 5 25 43 coverWA8 coverWB8 8000 0 60 137 1 60 249 cover_b21 [] covero8 = true := wEdQ_ok lwTchOk coverE8q
theorem coverL9 : wRlk 13 25 44 isbcWA isbcWB coverX9.2.1 coverX9.2.2.1 coverX9.2.2.2.1 coverX9.2.2.2.2 isbc_in = true := by decide +kernel
set_option maxRecDepth 1000000 in
theorem coverE10q : wEdQ lwTch 43 x_KT x_tb x_tyl x_ov0 u_ctK3 u_hs x_knd lwFR lwGA lwGB 5 25 43 coverWA10 coverWB10 8000 0 60 137 1 60 249 cover_b33 [] covero10 = true := by decide +kernel
theorem coverE10 : wEd x_KT x_tb x_tyl x_ov0 u_ctK3 u_hs x_knd lwFR lwGA lwGB 5 25 43 coverWA10 coverWB10 8000 0 60 137 1 60 249 cover_b33 [] covero10 = true := wEdQ_ok lwTchOk coverE10q
set_option maxRecDepth 1000000 in
theorem coverE11q : wEdQ lwTch 43 x_KT x_tb x_tyl x_ov0 u_ctK3 u_hs x_knd lwFR lwGA lwGB 5 25 43 coverWA11 coverWB11 8000 0 60 137 1 60 249 cover_c2_out [.inr (.inl (1001, (lSy 6))), .inr (.inl (1001, (lAdd (lSc (-1) (lSy 6)) (lK 1)))), .inr (.inl (1001, (lSy 8))), .inr (.inl (1001, (lAdd (lSc (-1) (lSy 8)) (lK 7)))), .inr (.inl (1001, (lSy 9))), .inr (.inl (1001, (lAdd (lSc (-1) (lSy 9)) (lK 7))))] covero11 = true := by decide +kernel
theorem coverE11 : wEd x_KT x_tb x_tyl x_ov0 u_ctK3 u_hs x_knd lwFR lwGA lwGB 5 25 43 coverWA11 coverWB11 8000 0 60 137 1 60 249 cover_c2_out [.inr (.inl (1001, (lSy 6))), .inr (.inl (1001, (lAdd (lSc (-1) (lSy 6)) (lK 1)))), .inr (.inl (1001, (lSy 8))), .inr (.inl (1001, (lAdd (lSc (-1) (lSy 8)) (lK 7)))), .inr (.inl (1001, (lSy 9))), .inr (.inl (1001, (lAdd (lSc (-1) (lSy 9)) (lK 7))))] covero11 = true := wEdQ_ok lwTchOk coverE11q
set_option maxRecDepth 1000000 in
theorem coverE12q : wEdQ lwTch 43 x_KT x_tb x_tyl x_ov0 u_ctK3 u_hs x_knd lwFR lwGA lwGB 5 25 43 coverWA12 coverWB12 8000 0 60 137 1 60 249 cover_b100 [] covero12 = true := by decide +kernel
theorem coverE12 : wEd x_KT x_tb x_tyl x_ov0 u_ctK3 u_hs x_knd lwFR lwGA lwGB 5 25 43 coverWA12 coverWB12 8000 0 60 137 1 60 249 cover_b100 [] covero12 = true := wEdQ_ok lwTchOk coverE12q
set_option maxRecDepth 1000000 in
theorem coverE13q : wEdQ lwTch 43 x_KT x_tb x_tyl x_ov0 u_ctK3 u_hs x_knd lwFR lwGA lwGB 5 25 43 coverWA13 coverWB13 8000 0 60 137 1 60 249 cover_b117 [] covero13 = true := by decide +kernel
theorem coverE13 : wEd x_KT x_tb x_tyl x_ov0 u_ctK3 u_hs x_knd lwFR lwGA lwGB 5 25 43 coverWA13 coverWB13 8000 0 60 137 1 60 249 cover_b117 [] covero13 = true := wEdQ_ok lwTchOk coverE13q
set_option maxRecDepth 1000000 in
theorem coverE14q : wEdQ lwTch 43 x_KT x_tb x_tyl x_ov0 u_ctK3 u_hs x_knd lwFR lwGA lwGB 5 25 43 coverWA14 coverWB14 8000 1 60 137 1 60 249 cover_fb [] covero14 = true := by decide +kernel
theorem coverE14 : wEd x_KT x_tb x_tyl x_ov0 u_ctK3 u_hs x_knd lwFR lwGA lwGB 5 25 43 coverWA14 coverWB14 8000 1 60 137 1 60 249 cover_fb [] covero14 = true := wEdQ_ok lwTchOk coverE14q
set_option maxRecDepth 1000000 in
theorem fin1tE0q : wEdQ lwTch 43 x_KT x_tb x_tyl x_ov0 u_ctK0 u_hs x_knd lwFR lwGA lwGB 27 27 43 fin1tWA0 fin1tWB0 8000 1 60 116 0 60 244 fin1t_in [.inl (lSy 27)] fin1to0 = true := by decide +kernel
theorem fin1tE0 : wEd x_KT x_tb x_tyl x_ov0 u_ctK0 u_hs x_knd lwFR lwGA lwGB 27 27 43 fin1tWA0 fin1tWB0 8000 1 60 116 0 60 244 fin1t_in [.inl (lSy 27)] fin1to0 = true := wEdQ_ok lwTchOk fin1tE0q
set_option maxRecDepth 1000000 in
theorem fin1tE1q : wEdQ lwTch 43 x_KT x_tb x_tyl x_ov0 u_ctK0 u_hs x_knd lwFR lwGA lwGB 27 27 43 fin1tWA1 fin1tWB1 8000 1 60 116 0 60 244 fin1t_lr [.inr (.inr (4, [])), .inr (.inl (1001, (lSy 24))), .inr (.inl (1001, (lAdd (lSc (-1) (lSy 24)) (lK 11))))] (fin1to1.map (wNo [5, 6, 7, 9, 10, 8])) = true := by decide +kernel
theorem fin1tE1 : wEd x_KT x_tb x_tyl x_ov0 u_ctK0 u_hs x_knd lwFR lwGA lwGB 27 27 43 fin1tWA1 fin1tWB1 8000 1 60 116 0 60 244 fin1t_lr [.inr (.inr (4, [])), .inr (.inl (1001, (lSy 24))), .inr (.inl (1001, (lAdd (lSc (-1) (lSy 24)) (lK 11))))] (fin1to1.map (wNo [5, 6, 7, 9, 10, 8])) = true := wEdQ_ok lwTchOk fin1tE1q
set_option maxRecDepth 1000000 in
theorem fin1tE2q : wEdQ lwTch 43 x_KT x_tb x_tyl x_ov0 u_ctK0 u_hs x_knd lwFR lwGA lwGB 27 27 43 fin1tWA2 fin1tWB2 8000 1 60 116 0 60 244 fin1t_lo [] fin1to2 = true := by decide +kernel
theorem fin1tE2 : wEd x_KT x_tb x_tyl x_ov0 u_ctK0 u_hs x_knd lwFR lwGA lwGB 27 27 43 fin1tWA2 fin1tWB2 8000 1 60 116 0 60 244 fin1t_lo [] fin1to2 = true := wEdQ_ok lwTchOk fin1tE2q
theorem rtL0 : wRlk 27 27 43 fin1tWA fin1tWB rtX0.2.1 rtX0.2.2.1 rtX0.2.2.2.1 rtX0.2.2.2.2 fin1t_in = true := by decide +kernel
set_option maxRecDepth 1000000 in
theorem rtE1q : wEdQ lwTch 43 x_KT x_tb x_tyl x_ov0 u_ct u_hs x_knd lwFR lwGA lwGB 11 25 43 rtWA1 rtWB1 8000 1 60 141 0 60 244 rt_in [] rto1 = true := by decide +kernel
theorem rtE1 : wEd x_KT x_tb x_tyl x_ov0 u_ct u_hs x_knd lwFR lwGA lwGB 11 25 43 rtWA1 rtWB1 8000 1 60 141 0 60 244 rt_in [] rto1 = true := wEdQ_ok lwTchOk rtE1q
set_option maxRecDepth 1000000 in
theorem rtE2q : wEdQ lwTch 43 x_KT x_tb x_tyl x_ov0 u_ct u_hs x_knd lwFR lwGA lwGB 11 25 43 rtWA2 rtWB2 8000 1 60 141 0 60 244 rt_lp [.inr (.inr (4, [])), .inl (lAdd (lSc (-1) (lSy 13)) (lAdd (lSy 3) (lK (-1)))), .inr (.inl (1001, (lAdd (lSc (-1) (lSy 13)) (lK 11)))), .inr (.inr (11, [(lSy 13)]))] (rto2.map (wNo [5, 6, 7, 9, 10, 8])) = true := by decide +kernel
theorem rtE2 : wEd x_KT x_tb x_tyl x_ov0 u_ct u_hs x_knd lwFR lwGA lwGB 11 25 43 rtWA2 rtWB2 8000 1 60 141 0 60 244 rt_lp [.inr (.inr (4, [])), .inl (lAdd (lSc (-1) (lSy 13)) (lAdd (lSy 3) (lK (-1)))), .inr (.inl (1001, (lAdd (lSc (-1) (lSy 13)) (lK 11)))), .inr (.inr (11, [(lSy 13)]))] (rto2.map (wNo [5, 6, 7, 9, 10, 8])) = true := wEdQ_ok lwTchOk rtE2q
set_option maxRecDepth 1000000 in
theorem rtE3q : wEdQ lwTch 43 x_KT x_tb x_tyl x_ov0 u_ct u_hs x_knd lwFR lwGA lwGB 11 25 43 rtWA3 rtWB3 8000 1 60 141 0 60 244 rt_c_out [.inr (.inl (1001, (lAdd (lSy 11) (lK (-1900))))), .inr (.inl (1001, (lAdd (lSc (-1) (lSy 11)) (lK 2099)))), .inr (.inl (1001, (lSy 12))), .inr (.inl (1001, (lAdd (lSc (-1) (lSy 12)) (lK 1)))), .inr (.inl (1001, (lSy 24))), .inr (.inl (1001, (lAdd (lSc (-1) (lSy 24)) (lK 11))))] rto3 = true := by decide +kernel
theorem rtE3 : wEd x_KT x_tb x_tyl x_ov0 u_ct u_hs x_knd lwFR lwGA lwGB 11 25 43 rtWA3 rtWB3 8000 1 60 141 0 60 244 rt_c_out [.inr (.inl (1001, (lAdd (lSy 11) (lK (-1900))))), .inr (.inl (1001, (lAdd (lSc (-1) (lSy 11)) (lK 2099)))), .inr (.inl (1001, (lSy 12))), .inr (.inl (1001, (lAdd (lSc (-1) (lSy 12)) (lK 1)))), .inr (.inl (1001, (lSy 24))), .inr (.inl (1001, (lAdd (lSc (-1) (lSy 24)) (lK 11))))] rto3 = true := wEdQ_ok lwTchOk rtE3q
set_option maxRecDepth 1000000 in
theorem fin0tE0q : wEdQ lwTch 43 x_KT x_tb x_tyl x_ov0 u_ctK0 u_hs x_knd lwFR lwGA lwGB 27 27 43 fin0tWA0 fin0tWB0 8000 1 60 116 0 60 244 fin0t_in [.inl (lSy 27)] fin0to0 = true := by decide +kernel
theorem fin0tE0 : wEd x_KT x_tb x_tyl x_ov0 u_ctK0 u_hs x_knd lwFR lwGA lwGB 27 27 43 fin0tWA0 fin0tWB0 8000 1 60 116 0 60 244 fin0t_in [.inl (lSy 27)] fin0to0 = true := wEdQ_ok lwTchOk fin0tE0q
set_option maxRecDepth 1000000 in
theorem fin0tE1q : wEdQ lwTch 43 x_KT x_tb x_tyl x_ov0 u_ctK0 u_hs x_knd lwFR lwGA lwGB 27 27 43 fin0tWA1 fin0tWB1 8000 1 60 116 0 60 244 fin0t_lr [.inr (.inr (4, [])), .inr (.inl (1001, (lSy 24))), .inr (.inl (1001, (lAdd (lSc (-1) (lSy 24)) (lK 11))))] (fin0to1.map (wNo [5, 6, 7, 9, 10, 8])) = true := by decide +kernel
theorem fin0tE1 : wEd x_KT x_tb x_tyl x_ov0 u_ctK0 u_hs x_knd lwFR lwGA lwGB 27 27 43 fin0tWA1 fin0tWB1 8000 1 60 116 0 60 244 fin0t_lr [.inr (.inr (4, [])), .inr (.inl (1001, (lSy 24))), .inr (.inl (1001, (lAdd (lSc (-1) (lSy 24)) (lK 11))))] (fin0to1.map (wNo [5, 6, 7, 9, 10, 8])) = true := wEdQ_ok lwTchOk fin0tE1q
set_option maxRecDepth 1000000 in
theorem fin0tE2q : wEdQ lwTch 43 x_KT x_tb x_tyl x_ov0 u_ctK0 u_hs x_knd lwFR lwGA lwGB 27 27 43 fin0tWA2 fin0tWB2 8000 1 60 116 0 60 244 fin0t_lo [] fin0to2 = true := by decide +kernel
theorem fin0tE2 : wEd x_KT x_tb x_tyl x_ov0 u_ctK0 u_hs x_knd lwFR lwGA lwGB 27 27 43 fin0tWA2 fin0tWB2 8000 1 60 116 0 60 244 fin0t_lo [] fin0to2 = true := wEdQ_ok lwTchOk fin0tE2q
theorem rhL0 : wRlk 27 27 43 fin0tWA fin0tWB rhX0.2.1 rhX0.2.2.1 rhX0.2.2.2.1 rhX0.2.2.2.2 fin0t_in = true := by decide +kernel
set_option maxRecDepth 1000000 in
theorem rhE1q : wEdQ lwTch 43 x_KT x_tb x_tyl x_ov0 u_ctK1 u_hs x_knd lwFR lwGA lwGB 16 25 43 rhWA1 rhWB1 8000 1 60 144 0 60 244 rh_in [] rho1 = true := by decide +kernel
theorem rhE1 : wEd x_KT x_tb x_tyl x_ov0 u_ctK1 u_hs x_knd lwFR lwGA lwGB 16 25 43 rhWA1 rhWB1 8000 1 60 144 0 60 244 rh_in [] rho1 = true := wEdQ_ok lwTchOk rhE1q
set_option maxRecDepth 1000000 in
theorem rhE2q : wEdQ lwTch 43 x_KT x_tb x_tyl x_ov0 u_ctK1 u_hs x_knd lwFR lwGA lwGB 16 25 43 rhWA2 rhWB2 8000 1 60 144 0 60 244 rh_lp [.inr (.inr (4, [])), .inl (lAdd (lSc (-1) (lSy 20)) (lAdd (lSy 3) (lK (-1)))), .inr (.inl (1001, (lAdd (lSc (-1) (lSy 20)) (lK 11)))), .inr (.inr (11, [(lSy 20)]))] (rho2.map (wNo [5, 6, 7, 9, 10, 8])) = true := by decide +kernel
theorem rhE2 : wEd x_KT x_tb x_tyl x_ov0 u_ctK1 u_hs x_knd lwFR lwGA lwGB 16 25 43 rhWA2 rhWB2 8000 1 60 144 0 60 244 rh_lp [.inr (.inr (4, [])), .inl (lAdd (lSc (-1) (lSy 20)) (lAdd (lSy 3) (lK (-1)))), .inr (.inl (1001, (lAdd (lSc (-1) (lSy 20)) (lK 11)))), .inr (.inr (11, [(lSy 20)]))] (rho2.map (wNo [5, 6, 7, 9, 10, 8])) = true := wEdQ_ok lwTchOk rhE2q
set_option maxRecDepth 1000000 in
theorem rhE3q : wEdQ lwTch 43 x_KT x_tb x_tyl x_ov0 u_ctK1 u_hs x_knd lwFR lwGA lwGB 16 25 43 rhWA3 rhWB3 8000 1 60 144 0 60 244 rh_c_out [.inr (.inl (1001, (lSy 16))), .inr (.inl (1001, (lAdd (lSc (-1) (lSy 16)) (lK 4095)))), .inr (.inl (1001, (lAdd (lSy 17) (lK (-1900))))), .inr (.inl (1001, (lAdd (lSc (-1) (lSy 17)) (lK 2099)))), .inr (.inl (1001, (lSy 18))), .inr (.inl (1001, (lAdd (lSc (-1) (lSy 18)) (lK 1)))), .inr (.inl (1001, (lSy 24))), .inr (.inl (1001, (lAdd (lSc (-1) (lSy 24)) (lK 11))))] rho3 = true := by decide +kernel
theorem rhE3 : wEd x_KT x_tb x_tyl x_ov0 u_ctK1 u_hs x_knd lwFR lwGA lwGB 16 25 43 rhWA3 rhWB3 8000 1 60 144 0 60 244 rh_c_out [.inr (.inl (1001, (lSy 16))), .inr (.inl (1001, (lAdd (lSc (-1) (lSy 16)) (lK 4095)))), .inr (.inl (1001, (lAdd (lSy 17) (lK (-1900))))), .inr (.inl (1001, (lAdd (lSc (-1) (lSy 17)) (lK 2099)))), .inr (.inl (1001, (lSy 18))), .inr (.inl (1001, (lAdd (lSc (-1) (lSy 18)) (lK 1)))), .inr (.inl (1001, (lSy 24))), .inr (.inl (1001, (lAdd (lSc (-1) (lSy 24)) (lK 11))))] rho3 = true := wEdQ_ok lwTchOk rhE3q
theorem bmL0 : wRlk 16 25 43 rhWA rhWB bmX0.2.1 bmX0.2.2.1 bmX0.2.2.2.1 bmX0.2.2.2.2 rh_in = true := by decide +kernel
set_option maxRecDepth 1000000 in
theorem bmE1q : wEdQ lwTch 43 x_KT x_tb x_tyl x_ov0 u_ctK4 u_hs x_knd lwFR lwGA lwGB 9 25 43 bmWA1 bmWB1 8000 1 60 143 0 60 244 bm_in [] bmo1 = true := by decide +kernel
theorem bmE1 : wEd x_KT x_tb x_tyl x_ov0 u_ctK4 u_hs x_knd lwFR lwGA lwGB 9 25 43 bmWA1 bmWB1 8000 1 60 143 0 60 244 bm_in [] bmo1 = true := wEdQ_ok lwTchOk bmE1q
set_option maxRecDepth 1000000 in
theorem bmE2q : wEdQ lwTch 43 x_KT x_tb x_tyl x_ov0 u_ctK4 u_hs x_knd lwFR lwGA lwGB 9 25 43 bmWA2 bmWB2 8000 1 60 143 0 60 244 bm_c0_out [.inr (.inl (1001, (lSy 9))), .inr (.inl (1001, (lAdd (lSc (-1) (lSy 9)) (lK 4095)))), .inr (.inl (1001, (lSy 10))), .inr (.inl (1001, (lAdd (lSc (-1) (lSy 10)) (lK 999)))), .inr (.inl (1001, (lAdd (lSy 11) (lK (-1900))))), .inr (.inl (1001, (lAdd (lSc (-1) (lSy 11)) (lK 2099))))] bmo2 = true := by decide +kernel
theorem bmE2 : wEd x_KT x_tb x_tyl x_ov0 u_ctK4 u_hs x_knd lwFR lwGA lwGB 9 25 43 bmWA2 bmWB2 8000 1 60 143 0 60 244 bm_c0_out [.inr (.inl (1001, (lSy 9))), .inr (.inl (1001, (lAdd (lSc (-1) (lSy 9)) (lK 4095)))), .inr (.inl (1001, (lSy 10))), .inr (.inl (1001, (lAdd (lSc (-1) (lSy 10)) (lK 999)))), .inr (.inl (1001, (lAdd (lSy 11) (lK (-1900))))), .inr (.inl (1001, (lAdd (lSc (-1) (lSy 11)) (lK 2099))))] bmo2 = true := wEdQ_ok lwTchOk bmE2q
theorem bmL3 : wRlk 16 25 43 rhWA rhWB bmX3.2.1 bmX3.2.2.1 bmX3.2.2.2.1 bmX3.2.2.2.2 rh_in = true := by decide +kernel
set_option maxRecDepth 1000000 in
theorem bmE4q : wEdQ lwTch 43 x_KT x_tb x_tyl x_ov0 u_ctK4 u_hs x_knd lwFR lwGA lwGB 9 25 43 bmWA4 bmWB4 8000 1 60 143 0 60 244 bm_lp [] bmo4 = true := by decide +kernel
theorem bmE4 : wEd x_KT x_tb x_tyl x_ov0 u_ctK4 u_hs x_knd lwFR lwGA lwGB 9 25 43 bmWA4 bmWB4 8000 1 60 143 0 60 244 bm_lp [] bmo4 = true := wEdQ_ok lwTchOk bmE4q
set_option maxRecDepth 1000000 in
theorem bmE5q : wEdQ lwTch 43 x_KT x_tb x_tyl x_ov0 u_ctK4 u_hs x_knd lwFR lwGA lwGB 9 25 43 bmWA5 bmWB5 8000 1 60 143 0 60 244 bm_c1_out [.inr (.inl (1001, (lSy 9))), .inr (.inl (1001, (lAdd (lSc (-1) (lSy 9)) (lK 4095)))), .inr (.inl (1001, (lSy 10))), .inr (.inl (1001, (lAdd (lSc (-1) (lSy 10)) (lK 999)))), .inr (.inl (1001, (lAdd (lSy 11) (lK (-1900))))), .inr (.inl (1001, (lAdd (lSc (-1) (lSy 11)) (lK 2099)))), .inr (.inl (1001, (lSy 12))), .inr (.inl (1001, (lAdd (lSc (-1) (lSy 12)) (lK 4095)))), .inr (.inl (1001, (lAdd (lSy 15) (lK (-1))))), .inr (.inl (1001, (lAdd (lSc (-1) (lSy 15)) (lK 4095))))] bmo5 = true := by decide +kernel
theorem bmE5 : wEd x_KT x_tb x_tyl x_ov0 u_ctK4 u_hs x_knd lwFR lwGA lwGB 9 25 43 bmWA5 bmWB5 8000 1 60 143 0 60 244 bm_c1_out [.inr (.inl (1001, (lSy 9))), .inr (.inl (1001, (lAdd (lSc (-1) (lSy 9)) (lK 4095)))), .inr (.inl (1001, (lSy 10))), .inr (.inl (1001, (lAdd (lSc (-1) (lSy 10)) (lK 999)))), .inr (.inl (1001, (lAdd (lSy 11) (lK (-1900))))), .inr (.inl (1001, (lAdd (lSc (-1) (lSy 11)) (lK 2099)))), .inr (.inl (1001, (lSy 12))), .inr (.inl (1001, (lAdd (lSc (-1) (lSy 12)) (lK 4095)))), .inr (.inl (1001, (lAdd (lSy 15) (lK (-1))))), .inr (.inl (1001, (lAdd (lSc (-1) (lSy 15)) (lK 4095))))] bmo5 = true := wEdQ_ok lwTchOk bmE5q
set_option maxRecDepth 1000000 in
theorem niE0q : wEdQ lwTch 43 x_KT x_tb x_tyl x_ov0 u_ctK2 u_hs x_knd lwFR lwGA lwGB 25 25 43 niWA0 niWB0 8000 0 60 113 1 60 220 ni_in [] nio0 = true := by decide +kernel
theorem niE0 : wEd x_KT x_tb x_tyl x_ov0 u_ctK2 u_hs x_knd lwFR lwGA lwGB 25 25 43 niWA0 niWB0 8000 0 60 113 1 60 220 ni_in [] nio0 = true := wEdQ_ok lwTchOk niE0q
set_option maxRecDepth 1000000 in
theorem niE1q : wEdQ lwTch 43 x_KT x_tb x_tyl x_ov0 u_ctK2 u_hs x_knd lwFR lwGA lwGB 25 25 43 niWA1 niWB1 8000 0 60 113 1 60 220 ni_lp [.inr (.inr (4, [])), .inl (lAdd (lSc (-1) (lSy 29)) (lAdd (lSy 3) (lK (-1)))), .inr (.inl (1001, (lAdd (lSc (-1) (lSy 29)) (lK 11))))] (nio1.map (wNo [5, 6, 9, 10, 20])) = true := by decide +kernel
theorem niE1 : wEd x_KT x_tb x_tyl x_ov0 u_ctK2 u_hs x_knd lwFR lwGA lwGB 25 25 43 niWA1 niWB1 8000 0 60 113 1 60 220 ni_lp [.inr (.inr (4, [])), .inl (lAdd (lSc (-1) (lSy 29)) (lAdd (lSy 3) (lK (-1)))), .inr (.inl (1001, (lAdd (lSc (-1) (lSy 29)) (lK 11))))] (nio1.map (wNo [5, 6, 9, 10, 20])) = true := wEdQ_ok lwTchOk niE1q
end XRuC26
