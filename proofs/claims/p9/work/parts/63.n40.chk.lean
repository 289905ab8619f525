/-! Runs: checks, 40. -/
noncomputable section XRuC40
set_option maxRecDepth 1000000 in
theorem chbE0 : wEd x_KT x_tb x_tyl x_ov0 u_ctK2 u_hs x_knd lwFR lwGA lwGB 25 24 42 chbWA0 chbWB0 8000 0 60 113 1 60 243 chb_in [] (chbo0.map (wNo [2])) = true := by decide +kernel
set_option maxRecDepth 1000000 in
theorem chbE0R2 : wRkE x_KT x_tb x_tyl x_ov0 u_ctK2 u_hs x_knd lwFR lwGA lwGB chbVA0_2 chbVB0_2 8000 0 60 113 1 60 243 (chbo0.map (wNo [2])) chb_in lwF2 [.inl (lAdd (lSc (-1) (lSy 31)) (lAdd (lSy 3) (lK (-1)))), .inl (lAdd (lSy 31) (lSc (-1) (lSy 25))), .inl (lAdd (lSc (-1) (lSy 31)) (lSy 25)), .inr (.inl (0, (lSy 25))), .inr (.inl (1001, (lAdd (lSc (-1) (lSy 25)) (lAdd (lSy 3) (lK (-1)))))), .inr (.inl (1001, (lAdd (lSy 25) (lSc (-1) (lSy 3))))), .inr (.inr (17, [(lSy 31), (lSy 25)])), .inr (.inr (17, [(lSy 25), (lSy 31)])), .inl (lAdd (lSy 32) (lSc (-1) (lSy 26))), .inl (lAdd (lSc (-1) (lSy 32)) (lSy 26)), .inr (.inl (1, (lSy 26))), .inr (.inr (2, [(lSy 31), (lSy 32)])), .inr (.inr (2, [(lSy 25), (lSy 32)])), .inr (.inr (2, [(lSy 31), (lSy 26)])), .inr (.inr (2, [(lSy 25), (lSy 26)]))] = true := by decide +kernel
theorem isbL0 : wRlk 25 24 42 chbWA chbWB isbX0.2.1 isbX0.2.2.1 isbX0.2.2.2.1 isbX0.2.2.2.2 chb_in = true := by decide +kernel
set_option maxRecDepth 1000000 in
theorem isbE1 : wEd x_KT x_tb x_tyl x_ov0 u_ct u_hs x_knd lwFR lwGA lwGB 13 24 42 isbWA1 isbWB1 8000 0 60 113 1 60 248 isb_in [] isbo1 = true := by decide +kernel
set_option maxRecDepth 1000000 in
theorem isbE2 : wEd x_KT x_tb x_tyl x_ov0 u_ct u_hs x_knd lwFR lwGA lwGB 13 24 42 isbWA2 isbWB2 8000 0 60 113 1 60 248 isb_c_out [] isbo2 = true := by decide +kernel
theorem showsL0 : wRlk 13 24 42 ishWA ishWB showsX0.2.1 showsX0.2.2.1 showsX0.2.2.2.1 showsX0.2.2.2.2 ish_in = true := by decide +kernel
set_option maxRecDepth 1000000 in
theorem showsE1 : wEd x_KT x_tb x_tyl x_ov0 u_ct u_hs x_knd lwFR lwGA lwGB 5 24 42 showsWA1 showsWB1 8000 1 60 135 0 60 247 shows_in [] showso1 = true := by decide +kernel
set_option maxRecDepth 1000000 in
theorem showsE2 : wEd x_KT x_tb x_tyl x_ov0 u_ct u_hs x_knd lwFR lwGA lwGB 5 24 42 showsWA2 showsWB2 8000 1 60 135 0 60 247 shows_c_out [] showso2 = true := by decide +kernel
theorem showsL3 : wRlk 13 24 42 isbWA isbWB showsX3.2.1 showsX3.2.2.1 showsX3.2.2.2.1 showsX3.2.2.2.2 isb_in = true := by decide +kernel
set_option maxRecDepth 1000000 in
theorem showsE4 : wEd x_KT x_tb x_tyl x_ov0 u_ct u_hs x_knd lwFR lwGA lwGB 5 24 42 showsWA4 showsWB4 8000 0 60 135 1 60 247 shows_a1 [] showso4 = true := by decide +kernel
set_option maxRecDepth 1000000 in
theorem showsE5 : wEd x_KT x_tb x_tyl x_ov0 u_ct u_hs x_knd lwFR lwGA lwGB 5 24 42 showsWA5 showsWB5 8000 0 60 135 1 60 247 shows_cb1_out [] showso5 = true := by decide +kernel
set_option maxRecDepth 1000000 in
theorem showsE6 : wEd x_KT x_tb x_tyl x_ov0 u_ct u_hs x_knd lwFR lwGA lwGB 5 24 42 showsWA6 showsWB6 8000 1 60 135 1 60 247 shows_fb1 [] showso6 = true := by decide +kernel
theorem showsL7 : wRlk 13 24 42 isbWA isbWB showsX7.2.1 showsX7.2.2.1 showsX7.2.2.2.1 showsX7.2.2.2.2 isb_in = true := by decide +kernel
set_option maxRecDepth 1000000 in
theorem showsE8 : wEd x_KT x_tb x_tyl x_ov0 u_ct u_hs x_knd lwFR lwGA lwGB 5 24 42 showsWA8 showsWB8 8000 0 60 135 1 60 247 shows_a2 [] showso8 = true := by decide +kernel
set_option maxRecDepth 1000000 in
theorem showsE9 : wEd x_KT x_tb x_tyl x_ov0 u_ct u_hs x_knd lwFR lwGA lwGB 5 24 42 showsWA9 showsWB9 8000 0 60 135 1 60 247 shows_cb2_out [] showso9 = true := by decide +kernel
set_option maxRecDepth 1000000 in
theorem showsE10 : wEd x_KT x_tb x_tyl x_ov0 u_ct u_hs x_knd lwFR lwGA lwGB 5 24 42 showsWA10 showsWB10 8000 1 60 135 1 60 247 shows_fb2 [] showso10 = true := by decide +kernel
set_option maxRecDepth 1000000 in
theorem showsbc : wBcN lwN lwFS.length 2 lwTA lwTB lwGA lwGB 5 24 42 u_ps uPA uPB shows_in showsOX = true := by decide +kernel
set_option maxRecDepth 1000000 in
theorem chbcE0 : wEd x_KT x_tb x_tyl x_ov0 u_ctK2 u_hs x_knd lwFR lwGA lwGB 25 24 43 chbcWA0 chbcWB0 8000 0 60 113 1 60 243 chbc_in [] (chbco0.map (wNo [2])) = true := by decide +kernel
set_option maxRecDepth 1000000 in
theorem chbcE0R2 : wRkE x_KT x_tb x_tyl x_ov0 u_ctK2 u_hs x_knd lwFR lwGA lwGB chbcVA0_2 chbcVB0_2 8000 0 60 113 1 60 243 (chbco0.map (wNo [2])) chbc_in lwF2 [.inl (lAdd (lSc (-1) (lSy 31)) (lAdd (lSy 3) (lK (-1)))), .inl (lAdd (lSy 31) (lSc (-1) (lSy 25))), .inl (lAdd (lSc (-1) (lSy 31)) (lSy 25)), .inr (.inl (0, (lSy 25))), .inr (.inl (1001, (lAdd (lSc (-1) (lSy 25)) (lAdd (lSy 3) (lK (-1)))))), .inr (.inl (1001, (lAdd (lSy 25) (lSc (-1) (lSy 3))))), .inr (.inr (17, [(lSy 31), (lSy 25)])), .inr (.inr (17, [(lSy 25), (lSy 31)])), .inl (lAdd (lSy 32) (lSc (-1) (lSy 26))), .inl (lAdd (lSc (-1) (lSy 32)) (lSy 26)), .inr (.inl (1, (lSy 26))), .inr (.inr (2, [(lSy 31), (lSy 32)])), .inr (.inr (2, [(lSy 25), (lSy 32)])), .inr (.inr (2, [(lSy 31), (lSy 26)])), .inr (.inr (2, [(lSy 25), (lSy 26)]))] = true := by decide +kernel
theorem isbcL0 : wRlk 25 24 43 chbcWA chbcWB isbcX0.2.1 isbcX0.2.2.1 isbcX0.2.2.2.1 isbcX0.2.2.2.2 chbc_in = true := by decide +kernel
set_option maxRecDepth 1000000 in
theorem isbcE1 : wEd x_KT x_tb x_tyl x_ov0 u_ct u_hs x_knd lwFR lwGA lwGB 13 24 43 isbcWA1 isbcWB1 8000 0 60 113 1 60 248 isbc_in [] isbco1 = true := by decide +kernel
set_option maxRecDepth 1000000 in
theorem isbcE2 : wEd x_KT x_tb x_tyl x_ov0 u_ct u_hs x_knd lwFR lwGA lwGB 13 24 43 isbcWA2 isbcWB2 8000 0 60 113 1 60 248 isbc_c_out [] isbco2 = true := by decide +kernel
set_option maxRecDepth 1000000 in
theorem coverE0 : wEd x_KT x_tb x_tyl x_ov0 u_ctK3 u_hs x_knd lwFR lwGA lwGB 5 24 42 coverWA0 coverWB0 8000 1 60 137 0 60 249 cover_in [.inl (lSy 5), .inl (lAdd (lSc (-1) (lSy 5)) (lK 1))] covero0 = true := by decide +kernel
set_option maxRecDepth 1000000 in
theorem coverE1 : wEd x_KT x_tb x_tyl x_ov0 u_ctK3 u_hs x_knd lwFR lwGA lwGB 5 24 42 coverWA1 coverWB1 8000 1 60 137 1 60 249 cover_lo [] covero1 = true := by decide +kernel
set_option maxRecDepth 1000000 in
theorem coverE2 : wEd x_KT x_tb x_tyl x_ov0 u_ctK3 u_hs x_knd lwFR lwGA lwGB 5 24 42 coverWA2 coverWB2 8000 1 60 137 1 60 249 cover_hi [] covero2 = true := by decide +kernel
set_option maxRecDepth 1000000 in
theorem coverE3 : wEd x_KT x_tb x_tyl x_ov0 u_ctK3 u_hs x_knd lwFR lwGA lwGB 5 24 42 coverWA3 coverWB3 8000 1 60 137 0 60 249 cover_c13 [] covero3 = true := by decide +kernel
theorem coverL4 : wRlk 13 24 42 ishWA ishWB coverX4.2.1 coverX4.2.2.1 coverX4.2.2.2.1 coverX4.2.2.2.2 ish_in = true := by decide +kernel
set_option maxRecDepth 1000000 in
theorem coverE5 : wEd x_KT x_tb x_tyl x_ov0 u_ctK3 u_hs x_knd lwFR lwGA lwGB 5 24 42 coverWA5 coverWB5 8000 1 60 137 0 60 249 cover_c29 [] covero5 = true := by decide +kernel
set_option maxRecDepth 1000000 in
theorem coverE6 : wEd x_KT x_tb x_tyl x_ov0 u_ctK3 u_hs x_knd lwFR lwGA lwGB 5 24 42 coverWA6 coverWB6 8000 1 60 137 0 60 249 cover_c_out [.inr (.inl (1001, (lSy 5))), .inr (.inl (1001, (lAdd (lSc (-1) (lSy 5)) (lK 1)))), .inr (.inl (1001, (lSy 6))), .inr (.inl (1001, (lAdd (lSc (-1) (lSy 6)) (lK 7)))), .inr (.inl (1001, (lSy 7))), .inr (.inl (1001, (lAdd (lSc (-1) (lSy 7)) (lK 255)))), .inr (.inl (1001, (lSy 8))), .inr (.inl (1001, (lAdd (lSc (-1) (lSy 8)) (lK 7))))] covero6 = true := by decide +kernel
set_option maxRecDepth 1000000 in
theorem coverE7 : wEd x_KT x_tb x_tyl x_ov0 u_ctK3 u_hs x_knd lwFR lwGA lwGB 5 24 42 coverWA7 coverWB7 8000 0 60 137 1 60 249 cover_a2 [] covero7 = true := by decide +kernel
set_option maxRecDepth 1000000 in
theorem coverE8 : wEd x_KT x_tb x_tyl x_ov0 u_ctK3 u_hs x_knd lwFR lwGA lwGB 5 24 42 coverWA8 coverWB8 8000 0 60 137 1 60 249 cover_b21 [] covero8 = true := by decide +kernel
theorem coverL9 : wRlk 13 24 43 isbcWA isbcWB coverX9.2.1 coverX9.2.2.1 coverX9.2.2.2.1 coverX9.2.2.2.2 isbc_in = true := by decide +kernel
set_option maxRecDepth 1000000 in
theorem coverE10 : wEd x_KT x_tb x_tyl x_ov0 u_ctK3 u_hs x_knd lwFR lwGA lwGB 5 24 42 coverWA10 coverWB10 8000 0 60 137 1 60 249 cover_b33 [] covero10 = true := by decide +kernel
set_option maxRecDepth 1000000 in
theorem coverE11 : wEd x_KT x_tb x_tyl x_ov0 u_ctK3 u_hs x_knd lwFR lwGA lwGB 5 24 42 coverWA11 coverWB11 8000 0 60 137 1 60 249 cover_c2_out [.inr (.inl (1001, (lSy 6))), .inr (.inl (1001, (lAdd (lSc (-1) (lSy 6)) (lK 1)))), .inr (.inl (1001, (lSy 8))), .inr (.inl (1001, (lAdd (lSc (-1) (lSy 8)) (lK 7)))), .inr (.inl (1001, (lSy 9))), .inr (.inl (1001, (lAdd (lSc (-1) (lSy 9)) (lK 7))))] covero11 = true := by decide +kernel
set_option maxRecDepth 1000000 in
theorem coverE12 : wEd x_KT x_tb x_tyl x_ov0 u_ctK3 u_hs x_knd lwFR lwGA lwGB 5 24 42 coverWA12 coverWB12 8000 0 60 137 1 60 249 cover_b100 [] covero12 = true := by decide +kernel
set_option maxRecDepth 1000000 in
theorem coverE13 : wEd x_KT x_tb x_tyl x_ov0 u_ctK3 u_hs x_knd lwFR lwGA lwGB 5 24 42 coverWA13 coverWB13 8000 0 60 137 1 60 249 cover_b117 [] covero13 = true := by decide +kernel
set_option maxRecDepth 1000000 in
theorem coverE14 : wEd x_KT x_tb x_tyl x_ov0 u_ctK3 u_hs x_knd lwFR lwGA lwGB 5 24 42 coverWA14 coverWB14 8000 1 60 137 1 60 249 cover_fb [] covero14 = true := by decide +kernel
set_option maxRecDepth 1000000 in
theorem coverbc : wBcN lwN lwFS.length 1 lwTA lwTB lwGA lwGB 5 24 42 u_ps uPA uPB cover_in coverOX = true := by decide +kernel
set_option maxRecDepth 1000000 in
theorem fin1tE0 : wEd x_KT x_tb x_tyl x_ov0 u_ctK0 u_hs x_knd lwFR lwGA lwGB 27 26 42 fin1tWA0 fin1tWB0 8000 1 60 116 0 60 244 fin1t_in [.inl (lSy 27)] fin1to0 = true := by decide +kernel
set_option maxRecDepth 1000000 in
theorem fin1tE1 : wEd x_KT x_tb x_tyl x_ov0 u_ctK0 u_hs x_knd lwFR lwGA lwGB 27 26 42 fin1tWA1 fin1tWB1 8000 1 60 116 0 60 244 fin1t_lr [.inr (.inr (4, [])), .inr (.inl (1001, (lSy 24))), .inr (.inl (1001, (lAdd (lSc (-1) (lSy 24)) (lK 11))))] (fin1to1.map (wNo [5, 6, 7, 9, 10, 8])) = true := by decide +kernel
set_option maxRecDepth 1000000 in
theorem fin1tE2 : wEd x_KT x_tb x_tyl x_ov0 u_ctK0 u_hs x_knd lwFR lwGA lwGB 27 26 42 fin1tWA2 fin1tWB2 8000 1 60 116 0 60 244 fin1t_lo [] fin1to2 = true := by decide +kernel
theorem rtL0 : wRlk 27 26 42 fin1tWA fin1tWB rtX0.2.1 rtX0.2.2.1 rtX0.2.2.2.1 rtX0.2.2.2.2 fin1t_in = true := by decide +kernel
set_option maxRecDepth 1000000 in
theorem rtE1 : wEd x_KT x_tb x_tyl x_ov0 u_ct u_hs x_knd lwFR lwGA lwGB 11 24 42 rtWA1 rtWB1 8000 1 60 141 0 60 244 rt_in [] rto1 = true := by decide +kernel
set_option maxRecDepth 1000000 in
theorem rtE2 : wEd x_KT x_tb x_tyl x_ov0 u_ct u_hs x_knd lwFR lwGA lwGB 11 24 42 rtWA2 rtWB2 8000 1 60 141 0 60 244 rt_lp [.inr (.inr (4, [])), .inl (lAdd (lSc (-1) (lSy 13)) (lAdd (lSy 3) (lK (-1)))), .inr (.inl (1001, (lAdd (lSc (-1) (lSy 13)) (lK 11)))), .inr (.inr (11, [(lSy 13)]))] (rto2.map (wNo [5, 6, 7, 9, 10, 8])) = true := by decide +kernel
set_option maxRecDepth 1000000 in
theorem rtE3 : wEd x_KT x_tb x_tyl x_ov0 u_ct u_hs x_knd lwFR lwGA lwGB 11 24 42 rtWA3 rtWB3 8000 1 60 141 0 60 244 rt_c_out [.inr (.inl (1001, (lAdd (lSy 11) (lK (-1900))))), .inr (.inl (1001, (lAdd (lSc (-1) (lSy 11)) (lK 2099)))), .inr (.inl (1001, (lSy 12))), .inr (.inl (1001, (lAdd (lSc (-1) (lSy 12)) (lK 1)))), .inr (.inl (1001, (lSy 24))), .inr (.inl (1001, (lAdd (lSc (-1) (lSy 24)) (lK 11))))] rto3 = true := by decide +kernel
set_option maxRecDepth 1000000 in
theorem fin0tE0 : wEd x_KT x_tb x_tyl x_ov0 u_ctK0 u_hs x_knd lwFR lwGA lwGB 27 26 42 fin0tWA0 fin0tWB0 8000 1 60 116 0 60 244 fin0t_in [.inl (lSy 27)] fin0to0 = true := by decide +kernel
set_option maxRecDepth 1000000 in
theorem fin0tE1 : wEd x_KT x_tb x_tyl x_ov0 u_ctK0 u_hs x_knd lwFR lwGA lwGB 27 26 42 fin0tWA1 fin0tWB1 8000 1 60 116 0 60 244 fin0t_lr [.inr (.inr (4, [])), .inr (.inl (1001, (lSy 24))), .inr (.inl (1001, (lAdd (lSc (-1) (lSy 24)) (lK 11))))] (fin0to1.map (wNo [5, 6, 7, 9, 10, 8])) = true := by decide +kernel
set_option maxRecDepth 1000000 in
theorem fin0tE2 : wEd x_KT x_tb x_tyl x_ov0 u_ctK0 u_hs x_knd lwFR lwGA lwGB 27 26 42 fin0tWA2 fin0tWB2 8000 1 60 116 0 60 244 fin0t_lo [] fin0to2 = true := by decide +kernel
theorem rhL0 : wRlk 27 26 42 fin0tWA fin0tWB rhX0.2.1 rhX0.2.2.1 rhX0.2.2.2.1 rhX0.2.2.2.2 fin0t_in = true := by decide +kernel
set_option maxRecDepth 1000000 in
theorem rhE1 : wEd x_KT x_tb x_tyl x_ov0 u_ctK1 u_hs x_knd lwFR lwGA lwGB 16 24 42 rhWA1 rhWB1 8000 1 60 144 0 60 244 rh_in [] rho1 = true := by decide +kernel
set_option maxRecDepth 1000000 in
theorem rhE2 : wEd x_KT x_tb x_tyl x_ov0 u_ctK1 u_hs x_knd lwFR lwGA lwGB 16 24 42 rhWA2 rhWB2 8000 1 60 144 0 60 244 rh_lp [.inr (.inr (4, [])), .inl (lAdd (lSc (-1) (lSy 20)) (lAdd (lSy 3) (lK (-1)))), .inr (.inl (1001, (lAdd (lSc (-1) (lSy 20)) (lK 11)))), .inr (.inr (11, [(lSy 20)]))] (rho2.map (wNo [5, 6, 7, 9, 10, 8])) = true := by decide +kernel
set_option maxRecDepth 1000000 in
theorem rhE3 : wEd x_KT x_tb x_tyl x_ov0 u_ctK1 u_hs x_knd lwFR lwGA lwGB 16 24 42 rhWA3 rhWB3 8000 1 60 144 0 60 244 rh_c_out [.inr (.inl (1001, (lSy 16))), .inr (.inl (1001, (lAdd (lSc (-1) (lSy 16)) (lK 4095)))), .inr (.inl (1001, (lAdd (lSy 17) (lK (-1900))))), .inr (.inl (1001, (lAdd (lSc (-1) (lSy 17)) (lK 2099)))), .inr (.inl (1001, (lSy 18))), .inr (.inl (1001, (lAdd (lSc (-1) (lSy 18)) (lK 1)))), .inr (.inl (1001, (lSy 24))), .inr (.inl (1001, (lAdd (lSc (-1) (lSy 24)) (lK 11))))] rho3 = true := by decide +kernel
theorem bmL0 : wRlk 16 24 42 rhWA rhWB bmX0.2.1 bmX0.2.2.1 bmX0.2.2.2.1 bmX0.2.2.2.2 rh_in = true := by decide +kernel
set_option maxRecDepth 1000000 in
theorem bmE1 : wEd x_KT x_tb x_tyl x_ov0 u_ctK4 u_hs x_knd lwFR lwGA lwGB 9 24 42 bmWA1 bmWB1 8000 1 60 143 0 60 244 bm_in [] bmo1 = true := by decide +kernel
set_option maxRecDepth 1000000 in
theorem bmE2 : wEd x_KT x_tb x_tyl x_ov0 u_ctK4 u_hs x_knd lwFR lwGA lwGB 9 24 42 bmWA2 bmWB2 8000 1 60 143 0 60 244 bm_c0_out [.inr (.inl (1001, (lSy 9))), .inr (.inl (1001, (lAdd (lSc (-1) (lSy 9)) (lK 4095)))), .inr (.inl (1001, (lSy 10))), .inr (.inl (1001, (lAdd (lSc (-1) (lSy 10)) (lK 999)))), .inr (.inl (1001, (lAdd (lSy 11) (lK (-1900))))), .inr (.inl (1001, (lAdd (lSc (-1) (lSy 11)) (lK 2099))))] bmo2 = true := by decide +kernel
theorem bmL3 : wRlk 16 24 42 rhWA rhWB bmX3.2.1 bmX3.2.2.1 bmX3.2.2.2.1 bmX3.2.2.2.2 rh_in = true := by decide +kernel
set_option maxRecDepth 1000000 in
theorem bmE4 : wEd x_KT x_tb x_tyl x_ov0 u_ctK4 u_hs x_knd lwFR lwGA lwGB 9 24 42 bmWA4 bmWB4 8000 1 60 143 0 60 244 bm_lp [] bmo4 = true := by decide +kernel
set_option maxRecDepth 1000000 in
theorem bmE5 : wEd x_KT x_tb x_tyl x_ov0 u_ctK4 u_hs x_knd lwFR lwGA lwGB 9 24 42 bmWA5 bmWB5 8000 1 60 143 0 60 244 bm_c1_out [.inr (.inl (1001, (lSy 9))), .inr (.inl (1001, (lAdd (lSc (-1) (lSy 9)) (lK 4095)))), .inr (.inl (1001, (lSy 10))), .inr (.inl (1001, (lAdd (lSc (-1) (lSy 10)) (lK 999)))), .inr (.inl (1001, (lAdd (lSy 11) (lK (-1900))))), .inr (.inl (1001, (lAdd (lSc (-1) (lSy 11)) (lK 2099)))), .inr (.inl (1001, (lSy 12))), .inr (.inl (1001, (lAdd (lSc (-1) (lSy 12)) (lK 4095)))), .inr (.inl (1001, (lAdd (lSy 15) (lK (-1))))), .inr (.inl (1001, (lAdd (lSc (-1) (lSy 15)) (lK 4095))))] bmo5 = true := by decide +kernel
set_option maxRecDepth 1000000 in
theorem niE0 : wEd x_KT x_tb x_tyl x_ov0 u_ctK2 u_hs x_knd lwFR lwGA lwGB 25 24 42 niWA0 niWB0 8000 0 60 113 1 60 220 ni_in [] nio0 = true := by decide +kernel
set_option maxRecDepth 1000000 in
theorem niE1 : wEd x_KT x_tb x_tyl x_ov0 u_ctK2 u_hs x_knd lwFR lwGA lwGB 25 24 42 niWA1 niWB1 8000 0 60 113 1 60 220 ni_lp [.inr (.inr (4, [])), .inl (lAdd (lSc (-1) (lSy 29)) (lAdd (lSy 3) (lK (-1)))), .inr (.inl (1001, (lAdd (lSc (-1) (lSy 29)) (lK 11))))] (nio1.map (wNo [5, 6, 9, 10, 20])) = true := by decide +kernel
set_option maxRecDepth 1000000 in
theorem niE1R5 : wRkE x_KT x_tb x_tyl x_ov0 u_ctK2 u_hs x_knd lwFR lwGA lwGB niVA1_5 niVB1_5 8000 0 60 113 1 60 220 (nio1.map (wNo [5, 6, 9, 10, 20])) ni_lp lwF5 [.inr (.inr (4, [])), .inl (lAdd (lSc (-1) (lSy 29)) (lAdd (lSy 3) (lK (-1)))), .inr (.inl (1001, (lAdd (lSc (-1) (lSy 29)) (lK 11)))), .inl (lAdd (lSc (-1) (lSy 30)) (lAdd (lSy 3) (lK (-1)))), .inr (.inr (19, [(lSy 30), (lSy 29)])), .inr (.inr (5, [])), .inr (.inl (2016, lK 0))] = true := by decide +kernel
set_option maxRecDepth 1000000 in
theorem niE1R6 : wRkE x_KT x_tb x_tyl x_ov0 u_ctK2 u_hs x_knd lwFR lwGA lwGB niVA1_6 niVB1_6 8000 0 60 113 1 60 220 (nio1.map (wNo [5, 6, 9, 10, 20])) ni_lp lwF6 [.inr (.inr (4, [])), .inl (lAdd (lSc (-1) (lSy 29)) (lAdd (lSy 3) (lK (-1)))), .inr (.inl (1001, (lAdd (lSc (-1) (lSy 29)) (lK 11)))), .inl (lAdd (lSc (-1) (lSy 30)) (lAdd (lSy 3) (lK (-1)))), .inr (.inr (19, [(lSy 30), (lSy 29)])), .inr (.inr (6, [])), .inr (.inl (2016, lK 0))] = true := by decide +kernel
set_option maxRecDepth 1000000 in
theorem niE1R9 : wRkE x_KT x_tb x_tyl x_ov0 u_ctK2 u_hs x_knd lwFR lwGA lwGB niVA1_9 niVB1_9 8000 0 60 113 1 60 220 (nio1.map (wNo [5, 6, 9, 10, 20])) ni_lp lwF9 [.inr (.inr (4, [])), .inl (lAdd (lSc (-1) (lSy 29)) (lAdd (lSy 3) (lK (-1)))), .inr (.inl (1001, (lAdd (lSc (-1) (lSy 29)) (lK 11)))), .inl (lAdd (lSc (-1) (lSy 30)) (lAdd (lSy 3) (lK (-1)))), .inr (.inr (19, [(lSy 30), (lSy 29)])), .inr (.inr (9, [])), .inr (.inl (2016, lK 0))] = true := by decide +kernel
set_option maxRecDepth 1000000 in
theorem niE1R10 : wRkE x_KT x_tb x_tyl x_ov0 u_ctK2 u_hs x_knd lwFR lwGA lwGB niVA1_10 niVB1_10 8000 0 60 113 1 60 220 (nio1.map (wNo [5, 6, 9, 10, 20])) ni_lp lwF10 [.inr (.inr (4, [])), .inl (lAdd (lSc (-1) (lSy 29)) (lAdd (lSy 3) (lK (-1)))), .inr (.inl (1001, (lAdd (lSc (-1) (lSy 29)) (lK 11)))), .inl (lAdd (lSc (-1) (lSy 30)) (lAdd (lSy 3) (lK (-1)))), .inr (.inr (19, [(lSy 30), (lSy 29)])), .inr (.inr (10, [])), .inr (.inl (2016, lK 0))] = true := by decide +kernel
set_option maxRecDepth 1000000 in
theorem niE1R20 : wRkE x_KT x_tb x_tyl x_ov0 u_ctK2 u_hs x_knd lwFR lwGA lwGB niVA1_20 niVB1_20 8000 0 60 113 1 60 220 (nio1.map (wNo [5, 6, 9, 10, 20])) ni_lp lwF20 [.inr (.inr (4, [])), .inl (lAdd (lSc (-1) (lSy 29)) (lAdd (lSy 3) (lK (-1)))), .inr (.inl (1001, (lAdd (lSc (-1) (lSy 29)) (lK 11)))), .inl (lAdd (lSy 30) (lSc (-1) (lSy 3))), .inr (.inl (1001, (lAdd (lSy 30) (lAdd (lSc (-1) (lSy 29)) (lK (-1)))))), .inr (.inr (20, []))] = true := by decide +kernel
theorem trL0 : wRlk 25 24 42 niWA niWB trX0.2.1 trX0.2.2.1 trX0.2.2.2.1 trX0.2.2.2.2 ni_in = true := by decide +kernel
set_option maxRecDepth 1000000 in
theorem trE1 : wEd x_KT x_tb x_tyl x_ov0 u_ct u_hs x_knd lwFR lwGA lwGB 19 24 42 trWA1 trWB1 8000 0 60 113 1 60 222 tr_in [] tro1 = true := by decide +kernel
set_option maxRecDepth 1000000 in
theorem trE2 : wEd x_KT x_tb x_tyl x_ov0 u_ct u_hs x_knd lwFR lwGA lwGB 19 24 42 trWA2 trWB2 8000 0 60 113 1 60 222 tr_lp [.inr (.inr (4, [])), .inl (lAdd (lSc (-1) (lSy 22)) (lK 11))] (tro2.map (wNo [5, 6, 9, 10, 20])) = true := by decide +kernel
set_option maxRecDepth 1000000 in
theorem trE2R5 : wRkE x_KT x_tb x_tyl x_ov0 u_ct u_hs x_knd lwFR lwGA lwGB trVA2_5 trVB2_5 8000 0 60 113 1 60 222 (tro2.map (wNo [5, 6, 9, 10, 20])) tr_lp lwF5 [.inr (.inr (4, [])), .inl (lAdd (lSc (-1) (lSy 22)) (lK 11)), .inl (lAdd (lSc (-1) (lSy 23)) (lAdd (lSy 3) (lK (-1)))), .inr (.inr (19, [(lSy 23), (lSy 22)])), .inr (.inr (5, [])), .inr (.inl (2016, lK 0))] = true := by decide +kernel
set_option maxRecDepth 1000000 in
theorem trE2R6 : wRkE x_KT x_tb x_tyl x_ov0 u_ct u_hs x_knd lwFR lwGA lwGB trVA2_6 trVB2_6 8000 0 60 113 1 60 222 (tro2.map (wNo [5, 6, 9, 10, 20])) tr_lp lwF6 [.inr (.inr (4, [])), .inl (lAdd (lSc (-1) (lSy 22)) (lK 11)), .inl (lAdd (lSc (-1) (lSy 23)) (lAdd (lSy 3) (lK (-1)))), .inr (.inr (19, [(lSy 23), (lSy 22)])), .inr (.inr (6, [])), .inr (.inl (2016, lK 0))] = true := by decide +kernel
set_option maxRecDepth 1000000 in
theorem trE2R9 : wRkE x_KT x_tb x_tyl x_ov0 u_ct u_hs x_knd lwFR lwGA lwGB trVA2_9 trVB2_9 8000 0 60 113 1 60 222 (tro2.map (wNo [5, 6, 9, 10, 20])) tr_lp lwF9 [.inr (.inr (4, [])), .inl (lAdd (lSc (-1) (lSy 22)) (lK 11)), .inl (lAdd (lSc (-1) (lSy 23)) (lAdd (lSy 3) (lK (-1)))), .inr (.inr (19, [(lSy 23), (lSy 22)])), .inr (.inr (9, [])), .inr (.inl (2016, lK 0))] = true := by decide +kernel
set_option maxRecDepth 1000000 in
theorem trE2R10 : wRkE x_KT x_tb x_tyl x_ov0 u_ct u_hs x_knd lwFR lwGA lwGB trVA2_10 trVB2_10 8000 0 60 113 1 60 222 (tro2.map (wNo [5, 6, 9, 10, 20])) tr_lp lwF10 [.inr (.inr (4, [])), .inl (lAdd (lSc (-1) (lSy 22)) (lK 11)), .inl (lAdd (lSc (-1) (lSy 23)) (lAdd (lSy 3) (lK (-1)))), .inr (.inr (19, [(lSy 23), (lSy 22)])), .inr (.inr (10, [])), .inr (.inl (2016, lK 0))] = true := by decide +kernel
set_option maxRecDepth 1000000 in
theorem trE2R20 : wRkE x_KT x_tb x_tyl x_ov0 u_ct u_hs x_knd lwFR lwGA lwGB trVA2_20 trVB2_20 8000 0 60 113 1 60 222 (tro2.map (wNo [5, 6, 9, 10, 20])) tr_lp lwF20 [.inr (.inr (4, [])), .inl (lAdd (lSc (-1) (lSy 22)) (lK 11)), .inl (lAdd (lSy 23) (lSc (-1) (lSy 3))), .inr (.inr (20, []))] = true := by decide +kernel
set_option maxRecDepth 1000000 in
theorem trE3 : wEd x_KT x_tb x_tyl x_ov0 u_ct u_hs x_knd lwFR lwGA lwGB 19 24 42 trWA3 trWB3 8000 0 60 113 1 60 222 tr_c_out [] tro3 = true := by decide +kernel
set_option maxRecDepth 1000000 in
theorem bfE0 : wEd x_KT x_tb x_tyl x_ov0 u_ct u_hs x_knd lwFR lwGA lwGB 6 24 42 bfWA0 bfWB0 8000 0 60 113 1 60 223 bf_in [] bfo0 = true := by decide +kernel
set_option maxRecDepth 1000000 in
theorem bfE1 : wEd x_KT x_tb x_tyl x_ov0 u_ct u_hs x_knd lwFR lwGA lwGB 6 24 42 bfWA1 bfWB1 8000 0 60 113 1 60 223 bf_h0 [] bfo1 = true := by decide +kernel
set_option maxRecDepth 1000000 in
theorem bfE2 : wEd x_KT x_tb x_tyl x_ov0 u_ct u_hs x_knd lwFR lwGA lwGB 6 24 42 bfWA2 bfWB2 8000 0 60 113 1 60 223 bf_h1 [] bfo2 = true := by decide +kernel
theorem bfL3 : wRlk 19 24 42 trWA trWB bfX3.2.1 bfX3.2.2.1 bfX3.2.2.2.1 bfX3.2.2.2.2 tr_in = true := by decide +kernel
theorem bfL4 : wRlk 19 24 42 trWA trWB bfX4.2.1 bfX4.2.2.1 bfX4.2.2.2.1 bfX4.2.2.2.2 tr_in = true := by decide +kernel
set_option maxRecDepth 1000000 in
theorem bfE5 : wEd x_KT x_tb x_tyl x_ov0 u_ct u_hs x_knd lwFR lwGA lwGB 6 24 42 bfWA5 bfWB5 8000 0 60 113 1 60 223 bf_l0 [] bfo5 = true := by decide +kernel
set_option maxRecDepth 1000000 in
theorem bfE6 : wEd x_KT x_tb x_tyl x_ov0 u_ct u_hs x_knd lwFR lwGA lwGB 6 24 42 bfWA6 bfWB6 8000 0 60 113 1 60 223 bf_l1 [] bfo6 = true := by decide +kernel
set_option maxRecDepth 1000000 in
theorem bfE7 : wEd x_KT x_tb x_tyl x_ov0 u_ct u_hs x_knd lwFR lwGA lwGB 6 24 42 bfWA7 bfWB7 8000 0 60 113 1 60 223 bf_c0_out [.inr (.inl (1001, (lAdd (lSc (-1) (lSy 14)) (lK 999)))), .inr (.inl (1001, (lSy 6))), .inr (.inl (1001, (lAdd (lSc (-1) (lSy 6)) (lK 4095)))), .inr (.inl (1001, (lSy 7))), .inr (.inl (1001, (lAdd (lSc (-1) (lSy 7)) (lK 999)))), .inr (.inl (1001, (lAdd (lSy 8) (lK (-1900))))), .inr (.inl (1001, (lAdd (lSc (-1) (lSy 8)) (lK 2099)))), .inr (.inl (1001, (lSy 9))), .inr (.inl (1001, (lAdd (lSc (-1) (lSy 9)) (lK 2)))), .inr (.inl (1001, (lSy 10))), .inr (.inl (1001, (lAdd (lSc (-1) (lSy 10)) (lK 4094)))), .inr (.inl (1001, (lAdd (lSc (-1) (lSy 12)) (lK 999)))), .inr (.inl (1001, (lSy 13))), .inr (.inl (1001, (lAdd (lSc (-1) (lSy 13)) (lK 4095))))] bfo7 = true := by decide +kernel
set_option maxRecDepth 1000000 in
theorem bfE8 : wEd x_KT x_tb x_tyl x_ov0 u_ct u_hs x_knd lwFR lwGA lwGB 6 24 42 bfWA8 bfWB8 8000 0 60 113 1 60 223 bf_c1_out [.inr (.inl (1001, (lAdd (lSc (-1) (lSy 14)) (lK 999)))), .inr (.inl (1001, (lAdd (lSy 6) (lK (-1))))), .inr (.inl (1001, (lAdd (lSc (-1) (lSy 6)) (lK 4095)))), .inr (.inl (1001, (lSy 7))), .inr (.inl (1001, (lAdd (lSc (-1) (lSy 7)) (lK 999)))), .inr (.inl (1001, (lAdd (lSy 8) (lK (-1900))))), .inr (.inl (1001, (lAdd (lSc (-1) (lSy 8)) (lK 2099)))), .inr (.inl (1001, (lSy 9))), .inr (.inl (1001, (lAdd (lSc (-1) (lSy 9)) (lK 2)))), .inr (.inl (1001, (lSy 10))), .inr (.inl (1001, (lAdd (lSc (-1) (lSy 10)) (lK 4094)))), .inr (.inl (1001, (lAdd (lSc (-1) (lSy 12)) (lK 999)))), .inr (.inl (1001, (lSy 13))), .inr (.inl (1001, (lAdd (lSc (-1) (lSy 13)) (lK 4094))))] bfo8 = true := by decide +kernel
theorem firstL0 : wRlk 11 24 42 rtWA rtWB firstX0.2.1 firstX0.2.2.1 firstX0.2.2.2.1 firstX0.2.2.2.2 rt_in = true := by decide +kernel
set_option maxRecDepth 1000000 in
theorem firstE1 : wEd x_KT x_tb x_tyl x_ov0 u_ctK4 u_hs x_knd lwFR lwGA lwGB 5 24 42 firstWA1 firstWB1 8000 1 60 140 0 60 223 first_in [] firsto1 = true := by decide +kernel
theorem firstL2 : wRlk 9 24 42 bmWA bmWB firstX2.2.1 firstX2.2.2.1 firstX2.2.2.2.1 firstX2.2.2.2.2 bm_in = true := by decide +kernel
set_option maxRecDepth 1000000 in
theorem firstE3 : wEd x_KT x_tb x_tyl x_ov0 u_ctK4 u_hs x_knd lwFR lwGA lwGB 5 24 42 firstWA3 firstWB3 8000 1 60 140 0 60 223 first_c1_out [.inr (.inl (1001, (lSy 5))), .inr (.inl (1001, (lAdd (lSc (-1) (lSy 5)) (lK 4095)))), .inr (.inl (1001, (lSy 6))), .inr (.inl (1001, (lAdd (lSc (-1) (lSy 6)) (lK 999)))), .inr (.inl (1001, (lAdd (lSy 7) (lK (-1900))))), .inr (.inl (1001, (lAdd (lSc (-1) (lSy 7)) (lK 2099)))), .inr (.inl (1001, (lSy 8))), .inr (.inl (1001, (lAdd (lSc (-1) (lSy 8)) (lK 2))))] firsto3 = true := by decide +kernel
theorem firstL4 : wRlk 16 24 42 rhWA rhWB firstX4.2.1 firstX4.2.2.1 firstX4.2.2.2.1 firstX4.2.2.2.2 rh_in = true := by decide +kernel
set_option maxRecDepth 1000000 in
theorem firstE5 : wEd x_KT x_tb x_tyl x_ov0 u_ctK4 u_hs x_knd lwFR lwGA lwGB 5 24 42 firstWA5 firstWB5 8000 1 60 140 0 60 223 first_c2_out [.inr (.inl (1001, (lSy 5))), .inr (.inl (1001, (lAdd (lSc (-1) (lSy 5)) (lK 4095)))), .inr (.inl (1001, (lSy 6))), .inr (.inl (1001, (lAdd (lSc (-1) (lSy 6)) (lK 999)))), .inr (.inl (1001, (lAdd (lSy 7) (lK (-1900))))), .inr (.inl (1001, (lAdd (lSc (-1) (lSy 7)) (lK 2099)))), .inr (.inl (1001, (lSy 8))), .inr (.inl (1001, (lAdd (lSc (-1) (lSy 8)) (lK 2))))] firsto5 = true := by decide +kernel
theorem firstL6 : wRlk 6 24 42 bfWA bfWB firstX6.2.1 firstX6.2.2.1 firstX6.2.2.2.1 firstX6.2.2.2.2 bf_in = true := by decide +kernel
set_option maxRecDepth 1000000 in
theorem firstE7 : wEd x_KT x_tb x_tyl x_ov0 u_ctK4 u_hs x_knd lwFR lwGA lwGB 5 24 42 firstWA7 firstWB7 8000 0 60 140 0 60 223 first_r1 [] firsto7 = true := by decide +kernel
set_option maxRecDepth 1000000 in
theorem firstE8 : wEd x_KT x_tb x_tyl x_ov0 u_ctK4 u_hs x_knd lwFR lwGA lwGB 5 24 42 firstWA8 firstWB8 8000 1 60 140 1 60 223 first_f38_e226 [] firsto8 = true := by decide +kernel
set_option maxRecDepth 1000000 in
theorem firstE9 : wEd x_KT x_tb x_tyl x_ov0 u_ctK4 u_hs x_knd lwFR lwGA lwGB 5 24 42 firstWA9 firstWB9 8000 1 60 140 1 60 223 first_f38_e26 [] firsto9 = true := by decide +kernel
set_option maxRecDepth 1000000 in
theorem firstE10 : wEd x_KT x_tb x_tyl x_ov0 u_ctK4 u_hs x_knd lwFR lwGA lwGB 5 24 42 firstWA10 firstWB10 8000 1 60 140 1 60 223 first_f38_e56 [] firsto10 = true := by decide +kernel
theorem firstL11 : wRlk 6 24 42 bfWA bfWB firstX11.2.1 firstX11.2.2.1 firstX11.2.2.2.1 firstX11.2.2.2.2 bf_in = true := by decide +kernel
set_option maxRecDepth 1000000 in
theorem firstE12 : wEd x_KT x_tb x_tyl x_ov0 u_ctK4 u_hs x_knd lwFR lwGA lwGB 5 24 42 firstWA12 firstWB12 8000 0 60 140 0 60 223 first_r2 [] firsto12 = true := by decide +kernel
set_option maxRecDepth 1000000 in
theorem firstE13 : wEd x_KT x_tb x_tyl x_ov0 u_ctK4 u_hs x_knd lwFR lwGA lwGB 5 24 42 firstWA13 firstWB13 8000 1 60 140 1 60 223 first_f64_e226 [] firsto13 = true := by decide +kernel
set_option maxRecDepth 1000000 in
theorem firstE14 : wEd x_KT x_tb x_tyl x_ov0 u_ctK4 u_hs x_knd lwFR lwGA lwGB 5 24 42 firstWA14 firstWB14 8000 1 60 140 1 60 223 first_f64_e26 [] firsto14 = true := by decide +kernel
set_option maxRecDepth 1000000 in
theorem firstE15 : wEd x_KT x_tb x_tyl x_ov0 u_ctK4 u_hs x_knd lwFR lwGA lwGB 5 24 42 firstWA15 firstWB15 8000 1 60 140 1 60 223 first_f64_e56 [] firsto15 = true := by decide +kernel
theorem firstL16 : wRlk 6 24 42 bfWA bfWB firstX16.2.1 firstX16.2.2.1 firstX16.2.2.2.1 firstX16.2.2.2.2 bf_in = true := by decide +kernel
set_option maxRecDepth 1000000 in
theorem firstE17 : wEd x_KT x_tb x_tyl x_ov0 u_ctK4 u_hs x_knd lwFR lwGA lwGB 5 24 42 firstWA17 firstWB17 8000 0 60 140 0 60 223 first_c3_out [.inr (.inl (1001, (lSy 5))), .inr (.inl (1001, (lAdd (lSc (-1) (lSy 5)) (lK 4095)))), .inr (.inl (1001, (lSy 6))), .inr (.inl (1001, (lAdd (lSc (-1) (lSy 6)) (lK 999)))), .inr (.inl (1001, (lAdd (lSy 7) (lK (-1900))))), .inr (.inl (1001, (lAdd (lSc (-1) (lSy 7)) (lK 2099)))), .inr (.inl (1001, (lSy 8))), .inr (.inl (1001, (lAdd (lSc (-1) (lSy 8)) (lK 2))))] firsto17 = true := by decide +kernel
set_option maxRecDepth 1000000 in
theorem firstE18 : wEd x_KT x_tb x_tyl x_ov0 u_ctK4 u_hs x_knd lwFR lwGA lwGB 5 24 42 firstWA18 firstWB18 8000 1 60 140 1 60 223 first_f116_e226 [] firsto18 = true := by decide +kernel
set_option maxRecDepth 1000000 in
theorem firstE19 : wEd x_KT x_tb x_tyl x_ov0 u_ctK4 u_hs x_knd lwFR lwGA lwGB 5 24 42 firstWA19 firstWB19 8000 1 60 140 1 60 223 first_f116_e26 [] firsto19 = true := by decide +kernel
set_option maxRecDepth 1000000 in
theorem firstE20 : wEd x_KT x_tb x_tyl x_ov0 u_ctK4 u_hs x_knd lwFR lwGA lwGB 5 24 42 firstWA20 firstWB20 8000 1 60 140 1 60 223 first_f116_e56 [] firsto20 = true := by decide +kernel
theorem firstL21 : wRlk 6 24 42 bfWA bfWB firstX21.2.1 firstX21.2.2.1 firstX21.2.2.2.1 firstX21.2.2.2.2 bf_in = true := by decide +kernel
set_option maxRecDepth 1000000 in
theorem firstE22 : wEd x_KT x_tb x_tyl x_ov0 u_ctK4 u_hs x_knd lwFR lwGA lwGB 5 24 42 firstWA22 firstWB22 8000 0 60 140 0 60 223 first_a119 [] firsto22 = true := by decide +kernel
set_option maxRecDepth 1000000 in
theorem firstE23 : wEd x_KT x_tb x_tyl x_ov0 u_ctK4 u_hs x_knd lwFR lwGA lwGB 5 24 42 firstWA23 firstWB23 8000 1 60 140 1 60 223 first_f119_e226 [] firsto23 = true := by decide +kernel
set_option maxRecDepth 1000000 in
theorem firstE24 : wEd x_KT x_tb x_tyl x_ov0 u_ctK4 u_hs x_knd lwFR lwGA lwGB 5 24 42 firstWA24 firstWB24 8000 1 60 140 1 60 223 first_f119_e26 [] firsto24 = true := by decide +kernel
set_option maxRecDepth 1000000 in
theorem firstE25 : wEd x_KT x_tb x_tyl x_ov0 u_ctK4 u_hs x_knd lwFR lwGA lwGB 5 24 42 firstWA25 firstWB25 8000 1 60 140 1 60 223 first_f119_e56 [] firsto25 = true := by decide +kernel
theorem firstL26 : wRlk 6 24 42 bfWA bfWB firstX26.2.1 firstX26.2.2.1 firstX26.2.2.2.1 firstX26.2.2.2.2 bf_in = true := by decide +kernel
set_option maxRecDepth 1000000 in
theorem firstE27 : wEd x_KT x_tb x_tyl x_ov0 u_ctK4 u_hs x_knd lwFR lwGA lwGB 5 24 42 firstWA27 firstWB27 8000 0 60 140 0 60 223 first_a126 [] firsto27 = true := by decide +kernel
set_option maxRecDepth 1000000 in
theorem firstE28 : wEd x_KT x_tb x_tyl x_ov0 u_ctK4 u_hs x_knd lwFR lwGA lwGB 5 24 42 firstWA28 firstWB28 8000 1 60 140 1 60 223 first_f126_e226 [] firsto28 = true := by decide +kernel
set_option maxRecDepth 1000000 in
theorem firstE29 : wEd x_KT x_tb x_tyl x_ov0 u_ctK4 u_hs x_knd lwFR lwGA lwGB 5 24 42 firstWA29 firstWB29 8000 1 60 140 1 60 223 first_f126_e26 [] firsto29 = true := by decide +kernel
set_option maxRecDepth 1000000 in
theorem firstE30 : wEd x_KT x_tb x_tyl x_ov0 u_ctK4 u_hs x_knd lwFR lwGA lwGB 5 24 42 firstWA30 firstWB30 8000 1 60 140 1 60 223 first_f126_e56 [] firsto30 = true := by decide +kernel
set_option maxRecDepth 1000000 in
theorem firstbc : wBcN lwN lwFS.length 4 lwTA lwTB lwGA lwGB 5 24 42 u_ps uPA uPB first_in firstOX = true := by decide +kernel
theorem bbL0 : wRlk 19 24 42 trWA trWB bbX0.2.1 bbX0.2.2.1 bbX0.2.2.2.1 bbX0.2.2.2.2 tr_in = true := by decide +kernel
set_option maxRecDepth 1000000 in
theorem bbE1 : wEd x_KT x_tb x_tyl x_ov0 u_ct u_hs x_knd lwFR lwGA lwGB 6 24 42 bbWA1 bbWB1 8000 0 60 113 1 60 221 bb_in [] (bbo1.map (wNo [2])) = true := by decide +kernel
set_option maxRecDepth 1000000 in
theorem bbE1R2 : wRkE x_KT x_tb x_tyl x_ov0 u_ct u_hs x_knd lwFR lwGA lwGB bbVA1_2 bbVB1_2 8000 0 60 113 1 60 221 (bbo1.map (wNo [2])) bb_in lwF2 [.inl (lAdd (lSc (-1) (lSy 7)) (lAdd (lSy 3) (lK (-1)))), .inr (.inr (2, []))] = true := by decide +kernel
set_option maxRecDepth 1000000 in
theorem bbE2 : wEd x_KT x_tb x_tyl x_ov0 u_ct u_hs x_knd lwFR lwGA lwGB 6 24 42 bbWA2 bbWB2 8000 0 60 113 1 60 221 bb_c_out [] bbo2 = true := by decide +kernel
theorem besideL0 : wRlk 11 24 42 rtWA rtWB besideX0.2.1 besideX0.2.2.1 besideX0.2.2.2.1 besideX0.2.2.2.2 rt_in = true := by decide +kernel
set_option maxRecDepth 1000000 in
theorem besideE1 : wEd x_KT x_tb x_tyl x_ov0 u_ct u_hs x_knd lwFR lwGA lwGB 5 24 42 besideWA1 besideWB1 8000 1 60 146 0 60 221 beside_in [] besideo1 = true := by decide +kernel
theorem besideL2 : wRlk 16 24 42 rhWA rhWB besideX2.2.1 besideX2.2.2.1 besideX2.2.2.2.1 besideX2.2.2.2.2 rh_in = true := by decide +kernel
set_option maxRecDepth 1000000 in
theorem besideE3 : wEd x_KT x_tb x_tyl x_ov0 u_ct u_hs x_knd lwFR lwGA lwGB 5 24 42 besideWA3 besideWB3 8000 1 60 146 0 60 221 beside_c1_out [.inr (.inl (1001, (lAdd (lSy 5) (lK (-1900))))), .inr (.inl (1001, (lAdd (lSc (-1) (lSy 5)) (lK 2099))))] besideo3 = true := by decide +kernel
theorem besideL4 : wRlk 6 24 42 bbWA bbWB besideX4.2.1 besideX4.2.2.1 besideX4.2.2.2.1 besideX4.2.2.2.2 bb_in = true := by decide +kernel
set_option maxRecDepth 1000000 in
theorem besideE5 : wEd x_KT x_tb x_tyl x_ov0 u_ct u_hs x_knd lwFR lwGA lwGB 5 24 42 besideWA5 besideWB5 8000 0 60 146 0 60 221 beside_r1 [] besideo5 = true := by decide +kernel
set_option maxRecDepth 1000000 in
theorem besideE6 : wEd x_KT x_tb x_tyl x_ov0 u_ct u_hs x_knd lwFR lwGA lwGB 5 24 42 besideWA6 besideWB6 8000 1 60 146 1 60 221 beside_f9_e139 [] besideo6 = true := by decide +kernel
set_option maxRecDepth 1000000 in
theorem besideE7 : wEd x_KT x_tb x_tyl x_ov0 u_ct u_hs x_knd lwFR lwGA lwGB 5 24 42 besideWA7 besideWB7 8000 1 60 146 1 60 221 beside_f9_e9 [] besideo7 = true := by decide +kernel
end XRuC40
