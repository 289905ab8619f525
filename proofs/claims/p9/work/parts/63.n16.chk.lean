/-! Runs: checks, 16. -/
noncomputable section XRuC16
set_option maxRecDepth 1000000 in
theorem rrE3R10 : wRkE x_KT x_tb x_tyl x_ov0 u_ct u_hs x_knd lwFR lwGA lwGB rrVA3_10 rrVB3_10 8000 1 60 64 1 60 202 (rro3.map (wNo [5, 6, 7, 8, 9, 10, 20])) rr_cb_X lwF10 [.inr (.inr (6, [])), .inr (.inr (14, [(lSy 6)])), .inl (lAdd (lSy 28) (lSc (-1) (lSy 6))), .inl (lAdd (lSc (-1) (lSy 28)) (lSy 6)), .inr (.inl (1001, (lAdd (lSc (-1) (lSy 28)) (lAdd (lSy 3) (lK (-1)))))), .inl (lAdd (lSc (-1) (lSy 28)) (lAdd (lSy 3) (lK (-1)))), .inr (.inl (0, (lSy 6))), .inr (.inr (15, [(lSy 28), (lSy 6)])), .inr (.inr (15, [(lSy 6), (lSy 28)])), .inr (.inr (24, [(lSy 28), (lSy 6)])), .inr (.inr (24, [(lSy 6), (lSy 28)])), .inr (.inr (12, [(lSy 28), (lK 0)])), .inr (.inr (10, [(lK 0)])), .inr (.inl (2016, lK 0))] = true := by decide +kernel
set_option maxRecDepth 1000000 in
theorem rrE3R20 : wRkE x_KT x_tb x_tyl x_ov0 u_ct u_hs x_knd lwFR lwGA lwGB rrVA3_20 rrVB3_20 8000 1 60 64 1 60 202 (rro3.map (wNo [5, 6, 7, 8, 9, 10, 20])) rr_cb_X lwF20 [.inr (.inr (6, [])), .inr (.inr (14, [(lSy 6)])), .inl (lAdd (lSy 28) (lSc (-1) (lSy 3))), .inr (.inl (1001, (lAdd (lSy 28) (lAdd (lSc (-1) (lSy 6)) (lK (-1)))))), .inr (.inr (20, []))] = true := by decide +kernel
set_option maxRecDepth 1000000 in
theorem rrE4 : wEd x_KT x_tb x_tyl x_ov0 u_ct u_hs x_knd lwFR lwGA lwGB 11 25 42 rrWA4 rrWB4 8000 1 60 64 1 60 202 rr_cl_e0 [] rro4 = true := by decide +kernel
set_option maxRecDepth 1000000 in
theorem rrE5 : wEd x_KT x_tb x_tyl x_ov0 u_ct u_hs x_knd lwFR lwGA lwGB 11 25 42 rrWA5 rrWB5 8000 1 60 64 1 60 202 rr_cl_e1 [] rro5 = true := by decide +kernel
theorem runL0 : wRlk 11 25 42 rrWA rrWB runX0.2.1 runX0.2.2.1 runX0.2.2.2.1 runX0.2.2.2.2 rr_in = true := by decide +kernel
set_option maxRecDepth 1000000 in
theorem runE1 : wEd x_KT x_tb x_tyl x_ov0 u_ct u_hs x_knd lwFR lwGA lwGB 5 24 42 runWA1 runWB1 8000 1 60 62 1 60 200 run_in [.inl (lSy 5), .inl (lAdd (lSc (-1) (lSy 5)) (lAdd (lSy 3) (lK (-1)))), .inr (.inr (0, [(lSy 5)]))] runo1 = true := by decide +kernel
set_option maxRecDepth 1000000 in
theorem runE2 : wEd x_KT x_tb x_tyl x_ov0 u_ct u_hs x_knd lwFR lwGA lwGB 5 24 42 runWA2 runWB2 8000 1 60 62 1 60 200 run_cl_x0 [] runo2 = true := by decide +kernel
set_option maxRecDepth 1000000 in
theorem runE3 : wEd x_KT x_tb x_tyl x_ov0 u_ct u_hs x_knd lwFR lwGA lwGB 5 24 42 runWA3 runWB3 8000 1 60 62 1 60 200 run_cl_x1 [] runo3 = true := by decide +kernel
set_option maxRecDepth 1000000 in
theorem runbc : wBc lwN lwFS.length 2 lwTA lwTB lwGA lwGB 5 24 42 u_ps uPA uPB run_in runOX = true := by decide +kernel
theorem nightNL0 : wRlk 11 25 42 rrWA rrWB nightNX0.2.1 nightNX0.2.2.1 nightNX0.2.2.2.1 nightNX0.2.2.2.2 rr_in = true := by decide +kernel
set_option maxRecDepth 1000000 in
theorem nightNE1 : wEd x_KT x_tb x_tyl x_ov0 u_ct u_hs x_knd lwFR lwGA lwGB 6 24 42 nightNWA1 nightNWB1 8000 1 60 89 1 60 220 nightN_in [] nightNo1 = true := by decide +kernel
set_option maxRecDepth 1000000 in
theorem nightNE2 : wEd x_KT x_tb x_tyl x_ov0 u_ct u_hs x_knd lwFR lwGA lwGB 6 24 42 nightNWA2 nightNWB2 8000 1 60 89 1 60 220 nightN_lp [.inl (lAdd (lSc (-1) (lSy 7)) (lAdd (lSy 3) (lK (-1)))), .inr (.inl (1001, (lAdd (lSc (-1) (lSy 7)) (lK 11)))), .inr (.inr (0, [(lSy 7)])), .inr (.inr (11, [(lSy 7)]))] (nightNo2.map (wNo [5, 6, 7, 8, 9, 10, 20])) = true := by decide +kernel
set_option maxRecDepth 1000000 in
theorem nightNE2R5 : wRkE x_KT x_tb x_tyl x_ov0 u_ct u_hs x_knd lwFR lwGA lwGB nightNVA2_5 nightNVB2_5 8000 1 60 89 1 60 220 (nightNo2.map (wNo [5, 6, 7, 8, 9, 10, 20])) nightN_lp lwF5 [.inl (lAdd (lSc (-1) (lSy 7)) (lAdd (lSy 3) (lK (-1)))), .inr (.inl (1001, (lAdd (lSc (-1) (lSy 7)) (lK 11)))), .inr (.inr (0, [(lSy 7)])), .inr (.inr (11, [(lSy 7)])), .inl (lAdd (lSy 8) (lSc (-1) (lSy 7))), .inl (lAdd (lSc (-1) (lSy 8)) (lSy 7)), .inr (.inl (1001, (lAdd (lSc (-1) (lSy 8)) (lAdd (lSy 3) (lK (-1)))))), .inl (lAdd (lSc (-1) (lSy 8)) (lAdd (lSy 3) (lK (-1)))), .inr (.inl (0, (lSy 7))), .inr (.inr (12, [(lSy 8), (lSy 7)])), .inr (.inr (12, [(lSy 7), (lSy 8)])), .inr (.inr (5, [])), .inr (.inr (5, [(lSy 7), (lSy 9)])), .inr (.inl (2016, lK 0))] = true := by decide +kernel
set_option maxRecDepth 1000000 in
theorem nightNE2R6 : wRkE x_KT x_tb x_tyl x_ov0 u_ct u_hs x_knd lwFR lwGA lwGB nightNVA2_6 nightNVB2_6 8000 1 60 89 1 60 220 (nightNo2.map (wNo [5, 6, 7, 8, 9, 10, 20])) nightN_lp lwF6 [.inl (lAdd (lSc (-1) (lSy 7)) (lAdd (lSy 3) (lK (-1)))), .inr (.inl (1001, (lAdd (lSc (-1) (lSy 7)) (lK 11)))), .inr (.inr (0, [(lSy 7)])), .inr (.inr (11, [(lSy 7)])), .inl (lAdd (lSy 8) (lSc (-1) (lSy 7))), .inl (lAdd (lSc (-1) (lSy 8)) (lSy 7)), .inr (.inl (1001, (lAdd (lSc (-1) (lSy 8)) (lAdd (lSy 3) (lK (-1)))))), .inl (lAdd (lSc (-1) (lSy 8)) (lAdd (lSy 3) (lK (-1)))), .inr (.inl (0, (lSy 7))), .inr (.inr (12, [(lSy 8), (lSy 7)])), .inr (.inr (12, [(lSy 7), (lSy 8)])), .inr (.inr (6, [])), .inr (.inr (6, [(lSy 7), (lSy 9)])), .inr (.inl (2016, lK 0))] = true := by decide +kernel
set_option maxRecDepth 1000000 in
theorem nightNE2R7 : wRkE x_KT x_tb x_tyl x_ov0 u_ct u_hs x_knd lwFR lwGA lwGB nightNVA2_7 nightNVB2_7 8000 1 60 89 1 60 220 (nightNo2.map (wNo [5, 6, 7, 8, 9, 10, 20])) nightN_lp lwF7 [.inl (lAdd (lSc (-1) (lSy 7)) (lAdd (lSy 3) (lK (-1)))), .inr (.inl (1001, (lAdd (lSc (-1) (lSy 7)) (lK 11)))), .inr (.inr (0, [(lSy 7)])), .inr (.inr (11, [(lSy 7)])), .inl (lAdd (lSy 8) (lSc (-1) (lSy 7))), .inl (lAdd (lSc (-1) (lSy 8)) (lSy 7)), .inr (.inl (1001, (lAdd (lSc (-1) (lSy 8)) (lAdd (lSy 3) (lK (-1)))))), .inl (lAdd (lSc (-1) (lSy 8)) (lAdd (lSy 3) (lK (-1)))), .inr (.inl (0, (lSy 7))), .inr (.inr (12, [(lSy 8), (lSy 7)])), .inr (.inr (12, [(lSy 7), (lSy 8)])), .inr (.inr (7, [])), .inr (.inr (7, [(lSy 7), (lSy 9)])), .inr (.inl (2016, lK 0))] = true := by decide +kernel
set_option maxRecDepth 1000000 in
theorem nightNE2R8 : wRkE x_KT x_tb x_tyl x_ov0 u_ct u_hs x_knd lwFR lwGA lwGB nightNVA2_8 nightNVB2_8 8000 1 60 89 1 60 220 (nightNo2.map (wNo [5, 6, 7, 8, 9, 10, 20])) nightN_lp lwF8 [.inl (lAdd (lSc (-1) (lSy 7)) (lAdd (lSy 3) (lK (-1)))), .inr (.inl (1001, (lAdd (lSc (-1) (lSy 7)) (lK 11)))), .inr (.inr (0, [(lSy 7)])), .inr (.inr (11, [(lSy 7)])), .inl (lAdd (lSy 8) (lSc (-1) (lSy 7))), .inl (lAdd (lSc (-1) (lSy 8)) (lSy 7)), .inr (.inl (1001, (lAdd (lSc (-1) (lSy 8)) (lAdd (lSy 3) (lK (-1)))))), .inl (lAdd (lSc (-1) (lSy 8)) (lAdd (lSy 3) (lK (-1)))), .inr (.inl (0, (lSy 7))), .inr (.inr (12, [(lSy 8), (lSy 7)])), .inr (.inr (12, [(lSy 7), (lSy 8)])), .inr (.inr (8, [])), .inr (.inr (8, [(lSy 7)])), .inr (.inl (2016, lK 0))] = true := by decide +kernel
set_option maxRecDepth 1000000 in
theorem nightNE2R9 : wRkE x_KT x_tb x_tyl x_ov0 u_ct u_hs x_knd lwFR lwGA lwGB nightNVA2_9 nightNVB2_9 8000 1 60 89 1 60 220 (nightNo2.map (wNo [5, 6, 7, 8, 9, 10, 20])) nightN_lp lwF9 [.inl (lAdd (lSc (-1) (lSy 7)) (lAdd (lSy 3) (lK (-1)))), .inr (.inl (1001, (lAdd (lSc (-1) (lSy 7)) (lK 11)))), .inr (.inr (0, [(lSy 7)])), .inr (.inr (11, [(lSy 7)])), .inl (lAdd (lSy 8) (lSc (-1) (lSy 7))), .inl (lAdd (lSc (-1) (lSy 8)) (lSy 7)), .inr (.inl (1001, (lAdd (lSc (-1) (lSy 8)) (lAdd (lSy 3) (lK (-1)))))), .inl (lAdd (lSc (-1) (lSy 8)) (lAdd (lSy 3) (lK (-1)))), .inr (.inl (0, (lSy 7))), .inr (.inr (12, [(lSy 8), (lSy 7)])), .inr (.inr (12, [(lSy 7), (lSy 8)])), .inr (.inr (9, [])), .inr (.inr (9, [(lSy 7)])), .inr (.inl (2016, lK 0))] = true := by decide +kernel
set_option maxRecDepth 1000000 in
theorem nightNE2R10 : wRkE x_KT x_tb x_tyl x_ov0 u_ct u_hs x_knd lwFR lwGA lwGB nightNVA2_10 nightNVB2_10 8000 1 60 89 1 60 220 (nightNo2.map (wNo [5, 6, 7, 8, 9, 10, 20])) nightN_lp lwF10 [.inl (lAdd (lSc (-1) (lSy 7)) (lAdd (lSy 3) (lK (-1)))), .inr (.inl (1001, (lAdd (lSc (-1) (lSy 7)) (lK 11)))), .inr (.inr (0, [(lSy 7)])), .inr (.inr (11, [(lSy 7)])), .inl (lAdd (lSy 8) (lSc (-1) (lSy 7))), .inl (lAdd (lSc (-1) (lSy 8)) (lSy 7)), .inr (.inl (1001, (lAdd (lSc (-1) (lSy 8)) (lAdd (lSy 3) (lK (-1)))))), .inl (lAdd (lSc (-1) (lSy 8)) (lAdd (lSy 3) (lK (-1)))), .inr (.inl (0, (lSy 7))), .inr (.inr (12, [(lSy 8), (lSy 7)])), .inr (.inr (12, [(lSy 7), (lSy 8)])), .inr (.inr (10, [])), .inr (.inr (10, [(lSy 7)])), .inr (.inl (2016, lK 0))] = true := by decide +kernel
set_option maxRecDepth 1000000 in
theorem nightNE2R20 : wRkE x_KT x_tb x_tyl x_ov0 u_ct u_hs x_knd lwFR lwGA lwGB nightNVA2_20 nightNVB2_20 8000 1 60 89 1 60 220 (nightNo2.map (wNo [5, 6, 7, 8, 9, 10, 20])) nightN_lp lwF20 [.inl (lAdd (lSc (-1) (lSy 7)) (lAdd (lSy 3) (lK (-1)))), .inr (.inl (1001, (lAdd (lSc (-1) (lSy 7)) (lK 11)))), .inr (.inr (0, [(lSy 7)])), .inr (.inr (11, [(lSy 7)])), .inl (lAdd (lSy 8) (lSc (-1) (lSy 3))), .inr (.inl (1001, (lAdd (lSy 8) (lAdd (lSc (-1) (lSy 7)) (lK (-1)))))), .inr (.inr (20, []))] = true := by decide +kernel
set_option maxRecDepth 1000000 in
theorem nightNE3 : wEd x_KT x_tb x_tyl x_ov0 u_ct u_hs x_knd lwFR lwGA lwGB 6 24 42 nightNWA3 nightNWB3 8000 1 60 89 1 60 220 nightN_cl_x0 [.inr (.inr (0, [(lSy 6)])), .inr (.inl (2016, lK 0))] nightNo3 = true := by decide +kernel
set_option maxRecDepth 1000000 in
theorem nightNE4 : wEd x_KT x_tb x_tyl x_ov0 u_ct u_hs x_knd lwFR lwGA lwGB 6 24 42 nightNWA4 nightNWB4 8000 1 60 89 1 60 220 nightN_cl_x1 [.inr (.inr (0, [(lSy 6)])), .inr (.inl (2016, lK 0))] nightNo4 = true := by decide +kernel
theorem nightL0 : wRlk 6 24 42 nightNWA nightNWB nightX0.2.1 nightX0.2.2.1 nightX0.2.2.2.1 nightX0.2.2.2.2 nightN_in = true := by decide +kernel
set_option maxRecDepth 1000000 in
theorem nightE1 : wEd x_KT x_tb x_tyl x_ov0 u_ct u_hs x_knd lwFR lwGA lwGB 5 24 42 nightWA1 nightWB1 8000 1 60 89 1 60 219 night_in [] nighto1 = true := by decide +kernel
set_option maxRecDepth 1000000 in
theorem nightE2 : wEd x_KT x_tb x_tyl x_ov0 u_ct u_hs x_knd lwFR lwGA lwGB 5 24 42 nightWA2 nightWB2 8000 1 60 89 1 60 219 night_cb_out [] nighto2 = true := by decide +kernel
set_option maxRecDepth 1000000 in
theorem nightbc : wBc lwN lwFS.length 1 lwTA lwTB lwGA lwGB 5 24 42 u_ps uPA uPB night_in nightOX = true := by decide +kernel
set_option maxRecDepth 1000000 in
theorem doesE0 : wEd x_KT x_tb x_tyl x_ov0 u_ct u_hs x_knd lwFR lwGA lwGB 5 24 42 doesWA0 doesWB0 8000 1 60 96 1 60 233 does_in [.inl (lSy 5), .inl (lAdd (lSc (-1) (lSy 5)) (lAdd (lSy 3) (lK (-1)))), .inr (.inr (0, [(lSy 5)])), .inl (lSy 8), .inl (lAdd (lSy 8) (lK (-1))), .inl (lAdd (lSy 8) (lK (-2))), .inl (lAdd (lSy 8) (lK (-3))), .inl (lAdd (lSc (-1) (lSy 8)) (lK 3))] doeso0 = true := by decide +kernel
set_option maxRecDepth 1000000 in
theorem doesE1 : wEd x_KT x_tb x_tyl x_ov0 u_ct u_hs x_knd lwFR lwGA lwGB 5 24 42 doesWA1 doesWB1 8000 1 60 96 1 60 233 does_m0 [.inr (.inr (0, [(lSy 5)]))] (doeso1.map (wNo [0, 20])) = true := by decide +kernel
end XRuC16
