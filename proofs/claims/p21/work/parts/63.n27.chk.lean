/-! Runs: checks, 27. -/
noncomputable section XRuC27
set_option maxRecDepth 1000000 in
theorem niE1R5 : wRkE x_KT x_tb x_tyl x_ov0 u_ctK2 u_hs x_knd lwFR lwGA lwGB niVA1_5 niVB1_5 8000 0 60 113 1 60 220 (nio1.map (wNo [5, 6, 9, 10, 20])) ni_lp lwF5 [.inr (.inr (4, [])), .inl (lAdd (lSc (-1) (lSy 29)) (lAdd (lSy 3) (lK (-1)))), .inr (.inl (1001, (lAdd (lSc (-1) (lSy 29)) (lK 11)))), .inl (lAdd (lSc (-1) (lSy 30)) (lAdd (lSy 3) (lK (-1)))), .inr (.inr (19, [(lSy 30), (lSy 29)])), .inr (.inr (5, [])), .inr (.inl (2008, lK 0))] = true := by decide +kernel
set_option maxRecDepth 1000000 in
theorem niE1R6 : wRkE x_KT x_tb x_tyl x_ov0 u_ctK2 u_hs x_knd lwFR lwGA lwGB niVA1_6 niVB1_6 8000 0 60 113 1 60 220 (nio1.map (wNo [5, 6, 9, 10, 20])) ni_lp lwF6 [.inr (.inr (4, [])), .inl (lAdd (lSc (-1) (lSy 29)) (lAdd (lSy 3) (lK (-1)))), .inr (.inl (1001, (lAdd (lSc (-1) (lSy 29)) (lK 11)))), .inl (lAdd (lSc (-1) (lSy 30)) (lAdd (lSy 3) (lK (-1)))), .inr (.inr (19, [(lSy 30), (lSy 29)])), .inr (.inr (6, [])), .inr (.inl (2008, lK 0))] = true := by decide +kernel
set_option maxRecDepth 1000000 in
theorem niE1R9 : wRkE x_KT x_tb x_tyl x_ov0 u_ctK2 u_hs x_knd lwFR lwGA lwGB niVA1_9 niVB1_9 8000 0 60 113 1 60 220 (nio1.map (wNo [5, 6, 9, 10, 20])) ni_lp lwF9 [.inr (.inr (4, [])), .inl (lAdd (lSc (-1) (lSy 29)) (lAdd (lSy 3) (lK (-1)))), .inr (.inl (1001, (lAdd (lSc (-1) (lSy 29)) (lK 11)))), .inl (lAdd (lSc (-1) (lSy 30)) (lAdd (lSy 3) (lK (-1)))), .inr (.inr (19, [(lSy 30), (lSy 29)])), .inr (.inr (9, [])), .inr (.inl (2008, lK 0))] = true := by decide +kernel
set_option maxRecDepth 1000000 in
theorem niE1R10 : wRkE x_KT x_tb x_tyl x_ov0 u_ctK2 u_hs x_knd lwFR lwGA lwGB niVA1_10 niVB1_10 8000 0 60 113 1 60 220 (nio1.map (wNo [5, 6, 9, 10, 20])) ni_lp lwF10 [.inr (.inr (4, [])), .inl (lAdd (lSc (-1) (lSy 29)) (lAdd (lSy 3) (lK (-1)))), .inr (.inl (1001, (lAdd (lSc (-1) (lSy 29)) (lK 11)))), .inl (lAdd (lSc (-1) (lSy 30)) (lAdd (lSy 3) (lK (-1)))), .inr (.inr (19, [(lSy 30), (lSy 29)])), .inr (.inr (10, [])), .inr (.inl (2008, lK 0))] = true := by decide +kernel
set_option maxRecDepth 1000000 in
theorem niE1R20 : wRkE x_KT x_tb x_tyl x_ov0 u_ctK2 u_hs x_knd lwFR lwGA lwGB niVA1_20 niVB1_20 8000 0 60 113 1 60 220 (nio1.map (wNo [5, 6, 9, 10, 20])) ni_lp lwF20 [.inr (.inr (4, [])), .inl (lAdd (lSc (-1) (lSy 29)) (lAdd (lSy 3) (lK (-1)))), .inr (.inl (1001, (lAdd (lSc (-1) (lSy 29)) (lK 11)))), .inl (lAdd (lSy 30) (lSc (-1) (lSy 3))), .inr (.inl (1001, (lAdd (lSy 30) (lAdd (lSc (-1) (lSy 29)) (lK (-1)))))), .inr (.inr (20, []))] = true := by decide +kernel
theorem trL0 : wRlk 25 25 43 niWA niWB trX0.2.1 trX0.2.2.1 trX0.2.2.2.1 trX0.2.2.2.2 ni_in = true := by decide +kernel
set_option maxRecDepth 1000000 in
theorem trE1q : wEdQ lwTch 43 x_KT x_tb x_tyl x_ov0 u_ct u_hs x_knd lwFR lwGA lwGB 19 25 43 trWA1 trWB1 8000 0 60 113 1 60 222 tr_in [] tro1 = true := by decide +kernel
theorem trE1 : wEd x_KT x_tb x_tyl x_ov0 u_ct u_hs x_knd lwFR lwGA lwGB 19 25 43 trWA1 trWB1 8000 0 60 113 1 60 222 tr_in [] tro1 = true := wEdQ_ok lwTchOk trE1q
set_option maxRecDepth 1000000 in
theorem trE2q : wEdQ lwTch 43 x_KT x_tb x_tyl x_ov0 u_ct u_hs x_knd lwFR lwGA lwGB 19 25 43 trWA2 trWB2 8000 0 60 113 1 60 222 tr_lp [.inr (.inr (4, [])), .inl (lAdd (lSc (-1) (lSy 22)) (lK 11))] (tro2.map (wNo [5, 6, 9, 10, 20])) = true := by decide +kernel
theorem trE2 : wEd x_KT x_tb x_tyl x_ov0 u_ct u_hs x_knd lwFR lwGA lwGB 19 25 43 trWA2 trWB2 8000 0 60 113 1 60 222 tr_lp [.inr (.inr (4, [])), .inl (lAdd (lSc (-1) (lSy 22)) (lK 11))] (tro2.map (wNo [5, 6, 9, 10, 20])) = true := wEdQ_ok lwTchOk trE2q
set_option maxRecDepth 1000000 in
theorem trE2R5 : wRkE x_KT x_tb x_tyl x_ov0 u_ct u_hs x_knd lwFR lwGA lwGB trVA2_5 trVB2_5 8000 0 60 113 1 60 222 (tro2.map (wNo [5, 6, 9, 10, 20])) tr_lp lwF5 [.inr (.inr (4, [])), .inl (lAdd (lSc (-1) (lSy 22)) (lK 11)), .inl (lAdd (lSc (-1) (lSy 23)) (lAdd (lSy 3) (lK (-1)))), .inr (.inr (19, [(lSy 23), (lSy 22)])), .inr (.inr (5, [])), .inr (.inl (2008, lK 0))] = true := by decide +kernel
set_option maxRecDepth 1000000 in
theorem trE2R6 : wRkE x_KT x_tb x_tyl x_ov0 u_ct u_hs x_knd lwFR lwGA lwGB trVA2_6 trVB2_6 8000 0 60 113 1 60 222 (tro2.map (wNo [5, 6, 9, 10, 20])) tr_lp lwF6 [.inr (.inr (4, [])), .inl (lAdd (lSc (-1) (lSy 22)) (lK 11)), .inl (lAdd (lSc (-1) (lSy 23)) (lAdd (lSy 3) (lK (-1)))), .inr (.inr (19, [(lSy 23), (lSy 22)])), .inr (.inr (6, [])), .inr (.inl (2008, lK 0))] = true := by decide +kernel
set_option maxRecDepth 1000000 in
theorem trE2R9 : wRkE x_KT x_tb x_tyl x_ov0 u_ct u_hs x_knd lwFR lwGA lwGB trVA2_9 trVB2_9 8000 0 60 113 1 60 222 (tro2.map (wNo [5, 6, 9, 10, 20])) tr_lp lwF9 [.inr (.inr (4, [])), .inl (lAdd (lSc (-1) (lSy 22)) (lK 11)), .inl (lAdd (lSc (-1) (lSy 23)) (lAdd (lSy 3) (lK (-1)))), .inr (.inr (19, [(lSy 23), (lSy 22)])), .inr (.inr (9, [])), .inr (.inl (2008, lK 0))] = true := by decide +kernel
set_option maxRecDepth 1000000 in
theorem trE2R10 : wRkE x_KT x_tb x_tyl x_ov0 u_ct u_hs x_knd lwFR lwGA lwGB trVA2_10 trVB2_10 8000 0 60 113 1 60 222 (tro2.map (wNo [5, 6, 9, 10, 20])) tr_lp lwF10 [.inr (.inr (4, [])), .inl (lAdd (lSc (-1) (lSy 22)) (lK 11)), .inl (lAdd (lSc (-1) (lSy 23)) (lAdd (lSy 3) (lK (-1)))), .inr (.inr (19, [(lSy 23), (lSy 22)])), .inr (.inr (10, [])), .inr (.inl (2008, lK 0))] = true := by decide +kernel
set_option maxRecDepth 1000000 in
theorem trE2R20 : wRkE x_KT x_tb x_tyl x_ov0 u_ct u_hs x_knd lwFR lwGA lwGB trVA2_20 trVB2_20 8000 0 60 113 1 60 222 (tro2.map (wNo [5, 6, 9, 10, 20])) tr_lp lwF20 [.inr (.inr (4, [])), .inl (lAdd (lSc (-1) (lSy 22)) (lK 11)), .inl (lAdd (lSy 23) (lSc (-1) (lSy 3))), .inr (.inr (20, []))] = true := by decide +kernel
set_option maxRecDepth 1000000 in
theorem trE3q : wEdQ lwTch 43 x_KT x_tb x_tyl x_ov0 u_ct u_hs x_knd lwFR lwGA lwGB 19 25 43 trWA3 trWB3 8000 0 60 113 1 60 222 tr_c_out [] tro3 = true := by decide +kernel
theorem trE3 : wEd x_KT x_tb x_tyl x_ov0 u_ct u_hs x_knd lwFR lwGA lwGB 19 25 43 trWA3 trWB3 8000 0 60 113 1 60 222 tr_c_out [] tro3 = true := wEdQ_ok lwTchOk trE3q
set_option maxRecDepth 1000000 in
theorem bfE0q : wEdQ lwTch 43 x_KT x_tb x_tyl x_ov0 u_ct u_hs x_knd lwFR lwGA lwGB 6 25 43 bfWA0 bfWB0 8000 0 60 113 1 60 223 bf_in [] bfo0 = true := by decide +kernel
theorem bfE0 : wEd x_KT x_tb x_tyl x_ov0 u_ct u_hs x_knd lwFR lwGA lwGB 6 25 43 bfWA0 bfWB0 8000 0 60 113 1 60 223 bf_in [] bfo0 = true := wEdQ_ok lwTchOk bfE0q
set_option maxRecDepth 1000000 in
theorem bfE1q : wEdQ lwTch 43 x_KT x_tb x_tyl x_ov0 u_ct u_hs x_knd lwFR lwGA lwGB 6 25 43 bfWA1 bfWB1 8000 0 60 113 1 60 223 bf_h0 [] bfo1 = true := by decide +kernel
theorem bfE1 : wEd x_KT x_tb x_tyl x_ov0 u_ct u_hs x_knd lwFR lwGA lwGB 6 25 43 bfWA1 bfWB1 8000 0 60 113 1 60 223 bf_h0 [] bfo1 = true := wEdQ_ok lwTchOk bfE1q
set_option maxRecDepth 1000000 in
theorem bfE2q : wEdQ lwTch 43 x_KT x_tb x_tyl x_ov0 u_ct u_hs x_knd lwFR lwGA lwGB 6 25 43 bfWA2 bfWB2 8000 0 60 113 1 60 223 bf_h1 [] bfo2 = true := by decide +kernel
theorem bfE2 : wEd x_KT x_tb x_tyl x_ov0 u_ct u_hs x_knd lwFR lwGA lwGB 6 25 43 bfWA2 bfWB2 8000 0 60 113 1 60 223 bf_h1 [] bfo2 = true := wEdQ_ok lwTchOk bfE2q
theorem bfL3 : wRlk 19 25 43 trWA trWB bfX3.2.1 bfX3.2.2.1 bfX3.2.2.2.1 bfX3.2.2.2.2 tr_in = true := by decide +kernel
theorem bfL4 : wRlk 19 25 43 trWA trWB bfX4.2.1 bfX4.2.2.1 bfX4.2.2.2.1 bfX4.2.2.2.2 tr_in = true := by decide +kernel
set_option maxRecDepth 1000000 in
theorem bfE5q : wEdQ lwTch 43 x_KT x_tb x_tyl x_ov0 u_ct u_hs x_knd lwFR lwGA lwGB 6 25 43 bfWA5 bfWB5 8000 0 60 113 1 60 223 bf_l0 [] bfo5 = true := by decide +kernel
theorem bfE5 : wEd x_KT x_tb x_tyl x_ov0 u_ct u_hs x_knd lwFR lwGA lwGB 6 25 43 bfWA5 bfWB5 8000 0 60 113 1 60 223 bf_l0 [] bfo5 = true := wEdQ_ok lwTchOk bfE5q
set_option maxRecDepth 1000000 in
theorem bfE6q : wEdQ lwTch 43 x_KT x_tb x_tyl x_ov0 u_ct u_hs x_knd lwFR lwGA lwGB 6 25 43 bfWA6 bfWB6 8000 0 60 113 1 60 223 bf_l1 [] bfo6 = true := by decide +kernel
theorem bfE6 : wEd x_KT x_tb x_tyl x_ov0 u_ct u_hs x_knd lwFR lwGA lwGB 6 25 43 bfWA6 bfWB6 8000 0 60 113 1 60 223 bf_l1 [] bfo6 = true := wEdQ_ok lwTchOk bfE6q
set_option maxRecDepth 1000000 in
theorem bfE7q : wEdQ lwTch 43 x_KT x_tb x_tyl x_ov0 u_ct u_hs x_knd lwFR lwGA lwGB 6 25 43 bfWA7 bfWB7 8000 0 60 113 1 60 223 bf_c0_out [.inr (.inl (1001, (lAdd (lSc (-1) (lSy 14)) (lK 999)))), .inr (.inl (1001, (lSy 6))), .inr (.inl (1001, (lAdd (lSc (-1) (lSy 6)) (lK 4095)))), .inr (.inl (1001, (lSy 7))), .inr (.inl (1001, (lAdd (lSc (-1) (lSy 7)) (lK 999)))), .inr (.inl (1001, (lAdd (lSy 8) (lK (-1900))))), .inr (.inl (1001, (lAdd (lSc (-1) (lSy 8)) (lK 2099)))), .inr (.inl (1001, (lSy 9))), .inr (.inl (1001, (lAdd (lSc (-1) (lSy 9)) (lK 2)))), .inr (.inl (1001, (lSy 10))), .inr (.inl (1001, (lAdd (lSc (-1) (lSy 10)) (lK 4094)))), .inr (.inl (1001, (lAdd (lSc (-1) (lSy 12)) (lK 999)))), .inr (.inl (1001, (lSy 13))), .inr (.inl (1001, (lAdd (lSc (-1) (lSy 13)) (lK 4095))))] bfo7 = true := by decide +kernel
theorem bfE7 : wEd x_KT x_tb x_tyl x_ov0 u_ct u_hs x_knd lwFR lwGA lwGB 6 25 43 bfWA7 bfWB7 8000 0 60 113 1 60 223 bf_c0_out [.inr (.inl (1001, (lAdd (lSc (-1) (lSy 14)) (lK 999)))), .inr (.inl (1001, (lSy 6))), .inr (.inl (1001, (lAdd (lSc (-1) (lSy 6)) (lK 4095)))), .inr (.inl (1001, (lSy 7))), .inr (.inl (1001, (lAdd (lSc (-1) (lSy 7)) (lK 999)))), .inr (.inl (1001, (lAdd (lSy 8) (lK (-1900))))), .inr (.inl (1001, (lAdd (lSc (-1) (lSy 8)) (lK 2099)))), .inr (.inl (1001, (lSy 9))), .inr (.inl (1001, (lAdd (lSc (-1) (lSy 9)) (lK 2)))), .inr (.inl (1001, (lSy 10))), .inr (.inl (1001, (lAdd (lSc (-1) (lSy 10)) (lK 4094)))), .inr (.inl (1001, (lAdd (lSc (-1) (lSy 12)) (lK 999)))), .inr (.inl (1001, (lSy 13))), .inr (.inl (1001, (lAdd (lSc (-1) (lSy 13)) (lK 4095))))] bfo7 = true := wEdQ_ok lwTchOk bfE7q
set_option maxRecDepth 1000000 in
theorem bfE8q : wEdQ lwTch 43 x_KT x_tb x_tyl x_ov0 u_ct u_hs x_knd lwFR lwGA lwGB 6 25 43 bfWA8 bfWB8 8000 0 60 113 1 60 223 bf_c1_out [.inr (.inl (1001, (lAdd (lSc (-1) (lSy 14)) (lK 999)))), .inr (.inl (1001, (lAdd (lSy 6) (lK (-1))))), .inr (.inl (1001, (lAdd (lSc (-1) (lSy 6)) (lK 4095)))), .inr (.inl (1001, (lSy 7))), .inr (.inl (1001, (lAdd (lSc (-1) (lSy 7)) (lK 999)))), .inr (.inl (1001, (lAdd (lSy 8) (lK (-1900))))), .inr (.inl (1001, (lAdd (lSc (-1) (lSy 8)) (lK 2099)))), .inr (.inl (1001, (lSy 9))), .inr (.inl (1001, (lAdd (lSc (-1) (lSy 9)) (lK 2)))), .inr (.inl (1001, (lSy 10))), .inr (.inl (1001, (lAdd (lSc (-1) (lSy 10)) (lK 4094)))), .inr (.inl (1001, (lAdd (lSc (-1) (lSy 12)) (lK 999)))), .inr (.inl (1001, (lSy 13))), .inr (.inl (1001, (lAdd (lSc (-1) (lSy 13)) (lK 4094))))] bfo8 = true := by decide +kernel
theorem bfE8 : wEd x_KT x_tb x_tyl x_ov0 u_ct u_hs x_knd lwFR lwGA lwGB 6 25 43 bfWA8 bfWB8 8000 0 60 113 1 60 223 bf_c1_out [.inr (.inl (1001, (lAdd (lSc (-1) (lSy 14)) (lK 999)))), .inr (.inl (1001, (lAdd (lSy 6) (lK (-1))))), .inr (.inl (1001, (lAdd (lSc (-1) (lSy 6)) (lK 4095)))), .inr (.inl (1001, (lSy 7))), .inr (.inl (1001, (lAdd (lSc (-1) (lSy 7)) (lK 999)))), .inr (.inl (1001, (lAdd (lSy 8) (lK (-1900))))), .inr (.inl (1001, (lAdd (lSc (-1) (lSy 8)) (lK 2099)))), .inr (.inl (1001, (lSy 9))), .inr (.inl (1001, (lAdd (lSc (-1) (lSy 9)) (lK 2)))), .inr (.inl (1001, (lSy 10))), .inr (.inl (1001, (lAdd (lSc (-1) (lSy 10)) (lK 4094)))), .inr (.inl (1001, (lAdd (lSc (-1) (lSy 12)) (lK 999)))), .inr (.inl (1001, (lSy 13))), .inr (.inl (1001, (lAdd (lSc (-1) (lSy 13)) (lK 4094))))] bfo8 = true := wEdQ_ok lwTchOk bfE8q
theorem firstL0 : wRlk 11 25 43 rtWA rtWB firstX0.2.1 firstX0.2.2.1 firstX0.2.2.2.1 firstX0.2.2.2.2 rt_in = true := by decide +kernel
set_option maxRecDepth 1000000 in
theorem firstE1q : wEdQ lwTch 43 x_KT x_tb x_tyl x_ov0 u_ctK4 u_hs x_knd lwFR lwGA lwGB 5 25 43 firstWA1 firstWB1 8000 1 60 140 0 60 223 first_in [] firsto1 = true := by decide +kernel
theorem firstE1 : wEd x_KT x_tb x_tyl x_ov0 u_ctK4 u_hs x_knd lwFR lwGA lwGB 5 25 43 firstWA1 firstWB1 8000 1 60 140 0 60 223 first_in [] firsto1 = true := wEdQ_ok lwTchOk firstE1q
theorem firstL2 : wRlk 9 25 43 bmWA bmWB firstX2.2.1 firstX2.2.2.1 firstX2.2.2.2.1 firstX2.2.2.2.2 bm_in = true := by decide +kernel
set_option maxRecDepth 1000000 in
theorem firstE3q : wEdQ lwTch 43 x_KT x_tb x_tyl x_ov0 u_ctK4 u_hs x_knd lwFR lwGA lwGB 5 25 43 firstWA3 firstWB3 8000 1 60 140 0 60 223 first_c1_out [.inr (.inl (1001, (lSy 5))), .inr (.inl (1001, (lAdd (lSc (-1) (lSy 5)) (lK 4095)))), .inr (.inl (1001, (lSy 6))), .inr (.inl (1001, (lAdd (lSc (-1) (lSy 6)) (lK 999)))), .inr (.inl (1001, (lAdd (lSy 7) (lK (-1900))))), .inr (.inl (1001, (lAdd (lSc (-1) (lSy 7)) (lK 2099)))), .inr (.inl (1001, (lSy 8))), .inr (.inl (1001, (lAdd (lSc (-1) (lSy 8)) (lK 2))))] firsto3 = true := by decide +kernel
theorem firstE3 : wEd x_KT x_tb x_tyl x_ov0 u_ctK4 u_hs x_knd lwFR lwGA lwGB 5 25 43 firstWA3 firstWB3 8000 1 60 140 0 60 223 first_c1_out [.inr (.inl (1001, (lSy 5))), .inr (.inl (1001, (lAdd (lSc (-1) (lSy 5)) (lK 4095)))), .inr (.inl (1001, (lSy 6))), .inr (.inl (1001, (lAdd (lSc (-1) (lSy 6)) (lK 999)))), .inr (.inl (1001, (lAdd (lSy 7) (lK (-1900))))), .inr (.inl (1001, (lAdd (lSc (-1) (lSy 7)) (lK 2099)))), .inr (.inl (1001, (lSy 8))), .inr (.inl (1001, (lAdd (lSc (-1) (lSy 8)) (lK 2))))] firsto3 = true := wEdQ_ok lwTchOk firstE3q
theorem firstL4 : wRlk 16 25 43 rhWA rhWB firstX4.2.1 firstX4.2.2.1 firstX4.2.2.2.1 firstX4.2.2.2.2 rh_in = true := by decide +kernel
set_option maxRecDepth 1000000 in
theorem firstE5q : wEdQ lwTch 43 x_KT x_tb x_tyl x_ov0 u_ctK4 u_hs x_knd lwFR lwGA lwGB 5 25 43 firstWA5 firstWB5 8000 1 60 140 0 60 223 first_c2_out [.inr (.inl (1001, (lSy 5))), .inr (.inl (1001, (lAdd (lSc (-1) (lSy 5)) (lK 4095)))), .inr (.inl (1001, (lSy 6))), .inr (.inl (1001, (lAdd (lSc (-1) (lSy 6)) (lK 999)))), .inr (.inl (1001, (lAdd (lSy 7) (lK (-1900))))), .inr (.inl (1001, (lAdd (lSc (-1) (lSy 7)) (lK 2099)))), .inr (.inl (1001, (lSy 8))), .inr (.inl (1001, (lAdd (lSc (-1) (lSy 8)) (lK 2))))] firsto5 = true := by decide +kernel
theorem firstE5 : wEd x_KT x_tb x_tyl x_ov0 u_ctK4 u_hs x_knd lwFR lwGA lwGB 5 25 43 firstWA5 firstWB5 8000 1 60 140 0 60 223 first_c2_out [.inr (.inl (1001, (lSy 5))), .inr (.inl (1001, (lAdd (lSc (-1) (lSy 5)) (lK 4095)))), .inr (.inl (1001, (lSy 6))), .inr (.inl (1001, (lAdd (lSc (-1) (lSy 6)) (lK 999)))), .inr (.inl (1001, (lAdd (lSy 7) (lK (-1900))))), .inr (.inl (1001, (lAdd (lSc (-1) (lSy 7)) (lK 2099)))), .inr (.inl (1001, (lSy 8))), .inr (.inl (1001, (lAdd (lSc (-1) (lSy 8)) (lK 2))))] firsto5 = true := wEdQ_ok lwTchOk firstE5q
theorem firstL6 : wRlk 6 25 43 bfWA bfWB firstX6.2.1 firstX6.2.2.1 firstX6.2.2.2.1 firstX6.2.2.2.2 bf_in = true := by decide +kernel
set_option maxRecDepth 1000000 in
theorem firstE7q : wEdQ lwTch 43 x_KT x_tb x_tyl x_ov0 u_ctK4 u_hs x_knd lwFR lwGA lwGB 5 25 43 firstWA7 firstWB7 8000 0 60 140 0 60 223 first_r1 [] firsto7 = true := by decide +kernel
theorem firstE7 : wEd x_KT x_tb x_tyl x_ov0 u_ctK4 u_hs x_knd lwFR lwGA lwGB 5 25 43 firstWA7 firstWB7 8000 0 60 140 0 60 223 first_r1 [] firsto7 = true := wEdQ_ok lwTchOk firstE7q
set_option maxRecDepth 1000000 in
theorem firstE8q : wEdQ lwTch 43 x_KT x_tb x_tyl x_ov0 u_ctK4 u_hs x_knd lwFR lwGA lwGB 5 25 43 firstWA8 firstWB8 8000 1 60 140 1 60 223 first_f38_e226 [] firsto8 = true := by decide +kernel
theorem firstE8 : wEd x_KT x_tb x_tyl x_ov0 u_ctK4 u_hs x_knd lwFR lwGA lwGB 5 25 43 firstWA8 firstWB8 8000 1 60 140 1 60 223 first_f38_e226 [] firsto8 = true := wEdQ_ok lwTchOk firstE8q
set_option maxRecDepth 1000000 in
theorem firstE9q : wEdQ lwTch 43 x_KT x_tb x_tyl x_ov0 u_ctK4 u_hs x_knd lwFR lwGA lwGB 5 25 43 firstWA9 firstWB9 8000 1 60 140 1 60 223 first_f38_e26 [] firsto9 = true := by decide +kernel
theorem firstE9 : wEd x_KT x_tb x_tyl x_ov0 u_ctK4 u_hs x_knd lwFR lwGA lwGB 5 25 43 firstWA9 firstWB9 8000 1 60 140 1 60 223 first_f38_e26 [] firsto9 = true := wEdQ_ok lwTchOk firstE9q
set_option maxRecDepth 1000000 in
theorem firstE10q : wEdQ lwTch 43 x_KT x_tb x_tyl x_ov0 u_ctK4 u_hs x_knd lwFR lwGA lwGB 5 25 43 firstWA10 firstWB10 8000 1 60 140 1 60 223 first_f38_e56 [] firsto10 = true := by decide +kernel
theorem firstE10 : wEd x_KT x_tb x_tyl x_ov0 u_ctK4 u_hs x_knd lwFR lwGA lwGB 5 25 43 firstWA10 firstWB10 8000 1 60 140 1 60 223 first_f38_e56 [] firsto10 = true := wEdQ_ok lwTchOk firstE10q
theorem firstL11 : wRlk 6 25 43 bfWA bfWB firstX11.2.1 firstX11.2.2.1 firstX11.2.2.2.1 firstX11.2.2.2.2 bf_in = true := by decide +kernel
set_option maxRecDepth 1000000 in
theorem firstE12q : wEdQ lwTch 43 x_KT x_tb x_tyl x_ov0 u_ctK4 u_hs x_knd lwFR lwGA lwGB 5 25 43 firstWA12 firstWB12 8000 0 60 140 0 60 223 first_r2 [] firsto12 = true := by decide +kernel
theorem firstE12 : wEd x_KT x_tb x_tyl x_ov0 u_ctK4 u_hs x_knd lwFR lwGA lwGB 5 25 43 firstWA12 firstWB12 8000 0 60 140 0 60 223 first_r2 [] firsto12 = true := wEdQ_ok lwTchOk firstE12q
set_option maxRecDepth 1000000 in
theorem firstE13q : wEdQ lwTch 43 x_KT x_tb x_tyl x_ov0 u_ctK4 u_hs x_knd lwFR lwGA lwGB 5 25 43 firstWA13 firstWB13 8000 1 60 140 1 60 223 first_f64_e226 [] firsto13 = true := by decide +kernel
theorem firstE13 : wEd x_KT x_tb x_tyl x_ov0 u_ctK4 u_hs x_knd lwFR lwGA lwGB 5 25 43 firstWA13 firstWB13 8000 1 60 140 1 60 223 first_f64_e226 [] firsto13 = true := wEdQ_ok lwTchOk firstE13q
set_option maxRecDepth 1000000 in
theorem firstE14q : wEdQ lwTch 43 x_KT x_tb x_tyl x_ov0 u_ctK4 u_hs x_knd lwFR lwGA lwGB 5 25 43 firstWA14 firstWB14 8000 1 60 140 1 60 223 first_f64_e26 [] firsto14 = true := by decide +kernel
theorem firstE14 : wEd x_KT x_tb x_tyl x_ov0 u_ctK4 u_hs x_knd lwFR lwGA lwGB 5 25 43 firstWA14 firstWB14 8000 1 60 140 1 60 223 first_f64_e26 [] firsto14 = true := wEdQ_ok lwTchOk firstE14q
set_option maxRecDepth 1000000 in
theorem firstE15q : wEdQ lwTch 43 x_KT x_tb x_tyl x_ov0 u_ctK4 u_hs x_knd lwFR lwGA lwGB 5 25 43 firstWA15 firstWB15 8000 1 60 140 1 60 223 first_f64_e56 [] firsto15 = true := by decide +kernel
theorem firstE15 : wEd x_KT x_tb x_tyl x_ov0 u_ctK4 u_hs x_knd lwFR lwGA lwGB 5 25 43 firstWA15 firstWB15 8000 1 60 140 1 60 223 first_f64_e56 [] firsto15 = true := wEdQ_ok lwTchOk firstE15q
theorem firstL16 : wRlk 6 25 43 bfWA bfWB firstX16.2.1 firstX16.2.2.1 firstX16.2.2.2.1 firstX16.2.2.2.2 bf_in = true := by decide +kernel
set_option maxRecDepth 1000000 in
theorem firstE17q : wEdQ lwTch 43 x_KT x_tb x_tyl x_ov0 u_ctK4 u_hs x_knd lwFR lwGA lwGB 5 25 43 firstWA17 firstWB17 8000 0 60 140 0 60 223 first_c3_out [.inr (.inl (1001, (lSy 5))), .inr (.inl (1001, (lAdd (lSc (-1) (lSy 5)) (lK 4095)))), .inr (.inl (1001, (lSy 6))), .inr (.inl (1001, (lAdd (lSc (-1) (lSy 6)) (lK 999)))), .inr (.inl (1001, (lAdd (lSy 7) (lK (-1900))))), .inr (.inl (1001, (lAdd (lSc (-1) (lSy 7)) (lK 2099)))), .inr (.inl (1001, (lSy 8))), .inr (.inl (1001, (lAdd (lSc (-1) (lSy 8)) (lK 2))))] firsto17 = true := by decide +kernel
theorem firstE17 : wEd x_KT x_tb x_tyl x_ov0 u_ctK4 u_hs x_knd lwFR lwGA lwGB 5 25 43 firstWA17 firstWB17 8000 0 60 140 0 60 223 first_c3_out [.inr (.inl (1001, (lSy 5))), .inr (.inl (1001, (lAdd (lSc (-1) (lSy 5)) (lK 4095)))), .inr (.inl (1001, (lSy 6))), .inr (.inl (1001, (lAdd (lSc (-1) (lSy 6)) (lK 999)))), .inr (.inl (1001, (lAdd (lSy 7) (lK (-1900))))), .inr (.inl (1001, (lAdd (lSc (-1) (lSy 7)) (lK 2099)))), .inr (.inl (1001, (lSy 8))), .inr (.inl (1001, (lAdd (lSc (-1) (lSy 8)) (lK 2))))] firsto17 = true := wEdQ_ok lwTchOk firstE17q
set_option maxRecDepth 1000000 in
theorem firstE18q : wEdQ lwTch 43 x_KT x_tb x_tyl x_ov0 u_ctK4 u_hs x_knd lwFR lwGA lwGB 5 25 43 firstWA18 firstWB18 8000 1 60 140 1 60 223 first_f116_e226 [] firsto18 = true := by decide +kernel
theorem firstE18 : wEd x_KT x_tb x_tyl x_ov0 u_ctK4 u_hs x_knd lwFR lwGA lwGB 5 25 43 firstWA18 firstWB18 8000 1 60 140 1 60 223 first_f116_e226 [] firsto18 = true := wEdQ_ok lwTchOk firstE18q
set_option maxRecDepth 1000000 in
theorem firstE19q : wEdQ lwTch 43 x_KT x_tb x_tyl x_ov0 u_ctK4 u_hs x_knd lwFR lwGA lwGB 5 25 43 firstWA19 firstWB19 8000 1 60 140 1 60 223 first_f116_e26 [] firsto19 = true := by decide +kernel
theorem firstE19 : wEd x_KT x_tb x_tyl x_ov0 u_ctK4 u_hs x_knd lwFR lwGA lwGB 5 25 43 firstWA19 firstWB19 8000 1 60 140 1 60 223 first_f116_e26 [] firsto19 = true := wEdQ_ok lwTchOk firstE19q
set_option maxRecDepth 1000000 in
theorem firstE20q : wEdQ lwTch 43 x_KT x_tb x_tyl x_ov0 u_ctK4 u_hs x_knd lwFR lwGA lwGB 5 25 43 firstWA20 firstWB20 8000 1 60 140 1 60 223 first_f116_e56 [] firsto20 = true := by decide +kernel
theorem firstE20 : wEd x_KT x_tb x_tyl x_ov0 u_ctK4 u_hs x_knd lwFR lwGA lwGB 5 25 43 firstWA20 firstWB20 8000 1 60 140 1 60 223 first_f116_e56 [] firsto20 = true := wEdQ_ok lwTchOk firstE20q
theorem firstL21 : wRlk 6 25 43 bfWA bfWB firstX21.2.1 firstX21.2.2.1 firstX21.2.2.2.1 firstX21.2.2.2.2 bf_in = true := by decide +kernel
set_option maxRecDepth 1000000 in
theorem firstE22q : wEdQ lwTch 43 x_KT x_tb x_tyl x_ov0 u_ctK4 u_hs x_knd lwFR lwGA lwGB 5 25 43 firstWA22 firstWB22 8000 0 60 140 0 60 223 first_a119 [] firsto22 = true := by decide +kernel
theorem firstE22 : wEd x_KT x_tb x_tyl x_ov0 u_ctK4 u_hs x_knd lwFR lwGA lwGB 5 25 43 firstWA22 firstWB22 8000 0 60 140 0 60 223 first_a119 [] firsto22 = true := wEdQ_ok lwTchOk firstE22q
set_option maxRecDepth 1000000 in
theorem firstE23q : wEdQ lwTch 43 x_KT x_tb x_tyl x_ov0 u_ctK4 u_hs x_knd lwFR lwGA lwGB 5 25 43 firstWA23 firstWB23 8000 1 60 140 1 60 223 first_f119_e226 [] firsto23 = true := by decide +kernel
theorem firstE23 : wEd x_KT x_tb x_tyl x_ov0 u_ctK4 u_hs x_knd lwFR lwGA lwGB 5 25 43 firstWA23 firstWB23 8000 1 60 140 1 60 223 first_f119_e226 [] firsto23 = true := wEdQ_ok lwTchOk firstE23q
set_option maxRecDepth 1000000 in
theorem firstE24q : wEdQ lwTch 43 x_KT x_tb x_tyl x_ov0 u_ctK4 u_hs x_knd lwFR lwGA lwGB 5 25 43 firstWA24 firstWB24 8000 1 60 140 1 60 223 first_f119_e26 [] firsto24 = true := by decide +kernel
theorem firstE24 : wEd x_KT x_tb x_tyl x_ov0 u_ctK4 u_hs x_knd lwFR lwGA lwGB 5 25 43 firstWA24 firstWB24 8000 1 60 140 1 60 223 first_f119_e26 [] firsto24 = true := wEdQ_ok lwTchOk firstE24q
set_option maxRecDepth 1000000 in
theorem firstE25q : wEdQ lwTch 43 x_KT x_tb x_tyl x_ov0 u_ctK4 u_hs x_knd lwFR lwGA lwGB 5 25 43 firstWA25 firstWB25 8000 1 60 140 1 60 223 first_f119_e56 [] firsto25 = true := by decide +kernel
theorem firstE25 : wEd x_KT x_tb x_tyl x_ov0 u_ctK4 u_hs x_knd lwFR lwGA lwGB 5 25 43 firstWA25 firstWB25 8000 1 60 140 1 60 223 first_f119_e56 [] firsto25 = true := wEdQ_ok lwTchOk firstE25q
theorem firstL26 : wRlk 6 25 43 bfWA bfWB firstX26.2.1 firstX26.2.2.1 firstX26.2.2.2.1 firstX26.2.2.2.2 bf_in = true := by decide +kernel
set_option maxRecDepth 1000000 in
theorem firstE27q : wEdQ lwTch 43 x_KT x_tb x_tyl x_ov0 u_ctK4 u_hs x_knd lwFR lwGA lwGB 5 25 43 firstWA27 firstWB27 8000 0 60 140 0 60 223 first_a126 [] firsto27 = true := by decide +kernel
theorem firstE27 : wEd x_KT x_tb x_tyl x_ov0 u_ctK4 u_hs x_knd lwFR lwGA lwGB 5 25 43 firstWA27 firstWB27 8000 0 60 140 0 60 223 first_a126 [] firsto27 = true := wEdQ_ok lwTchOk firstE27q
set_option maxRecDepth 1000000 in
theorem firstE28q : wEdQ lwTch 43 x_KT x_tb x_tyl x_ov0 u_ctK4 u_hs x_knd lwFR lwGA lwGB 5 25 43 firstWA28 firstWB28 8000 1 60 140 1 60 223 first_f126_e226 [] firsto28 = true := by decide +kernel
theorem firstE28 : wEd x_KT x_tb x_tyl x_ov0 u_ctK4 u_hs x_knd lwFR lwGA lwGB 5 25 43 firstWA28 firstWB28 8000 1 60 140 1 60 223 first_f126_e226 [] firsto28 = true := wEdQ_ok lwTchOk firstE28q
set_option maxRecDepth 1000000 in
theorem firstE29q : wEdQ lwTch 43 x_KT x_tb x_tyl x_ov0 u_ctK4 u_hs x_knd lwFR lwGA lwGB 5 25 43 firstWA29 firstWB29 8000 1 60 140 1 60 223 first_f126_e26 [] firsto29 = true := by decide +kernel
theorem firstE29 : wEd x_KT x_tb x_tyl x_ov0 u_ctK4 u_hs x_knd lwFR lwGA lwGB 5 25 43 firstWA29 firstWB29 8000 1 60 140 1 60 223 first_f126_e26 [] firsto29 = true := wEdQ_ok lwTchOk firstE29q
set_option maxRecDepth 1000000 in
theorem firstE30q : wEdQ lwTch 43 x_KT x_tb x_tyl x_ov0 u_ctK4 u_hs x_knd lwFR lwGA lwGB 5 25 43 firstWA30 firstWB30 8000 1 60 140 1 60 223 first_f126_e56 [] firsto30 = true := by decide +kernel
theorem firstE30 : wEd x_KT x_tb x_tyl x_ov0 u_ctK4 u_hs x_knd lwFR lwGA lwGB 5 25 43 firstWA30 firstWB30 8000 1 60 140 1 60 223 first_f126_e56 [] firsto30 = true := wEdQ_ok lwTchOk firstE30q
theorem bbL0 : wRlk 19 25 43 trWA trWB bbX0.2.1 bbX0.2.2.1 bbX0.2.2.2.1 bbX0.2.2.2.2 tr_in = true := by decide +kernel
set_option maxRecDepth 1000000 in
theorem bbE1q : wEdQ lwTch 43 x_KT x_tb x_tyl x_ov0 u_ct u_hs x_knd lwFR lwGA lwGB 6 25 43 bbWA1 bbWB1 8000 0 60 113 1 60 221 bb_in [] (bbo1.map (wNo [2])) = true := by decide +kernel
theorem bbE1 : wEd x_KT x_tb x_tyl x_ov0 u_ct u_hs x_knd lwFR lwGA lwGB 6 25 43 bbWA1 bbWB1 8000 0 60 113 1 60 221 bb_in [] (bbo1.map (wNo [2])) = true := wEdQ_ok lwTchOk bbE1q
end XRuC27
