/-! Runs: checks, 27. -/
noncomputable section XRuC27
set_option maxRecDepth 1000000 in
theorem nightNE2R10 : wRkE x_KT x_tb x_tyl x_ov0 u_ct u_hs x_knd lwFR lwGA lwGB nightNVA2_10 nightNVB2_10 8000 1 60 89 1 60 220 (nightNo2.map (wNo [5, 6, 7, 8, 9, 10, 20])) nightN_lp lwF10 [.inl (lAdd (lSc (-1) (lSy 7)) (lAdd (lSy 3) (lK (-1)))), .inr (.inl (1001, (lAdd (lSc (-1) (lSy 7)) (lK 11)))), .inr (.inr (0, [(lSy 7)])), .inr (.inr (11, [(lSy 7)])), .inl (lAdd (lSy 8) (lSc (-1) (lSy 7))), .inl (lAdd (lSc (-1) (lSy 8)) (lSy 7)), .inr (.inl (1001, (lAdd (lSc (-1) (lSy 8)) (lAdd (lSy 3) (lK (-1)))))), .inl (lAdd (lSc (-1) (lSy 8)) (lAdd (lSy 3) (lK (-1)))), .inr (.inl (0, (lSy 7))), .inr (.inr (12, [(lSy 8), (lSy 7)])), .inr (.inr (12, [(lSy 7), (lSy 8)])), .inr (.inr (10, [])), .inr (.inr (10, [(lSy 7)])), .inr (.inl (2000, lK 0))] = true := by decide +kernel
set_option maxRecDepth 1000000 in
theorem nightNE2R20 : wRkE x_KT x_tb x_tyl x_ov0 u_ct u_hs x_knd lwFR lwGA lwGB nightNVA2_20 nightNVB2_20 8000 1 60 89 1 60 220 (nightNo2.map (wNo [5, 6, 7, 8, 9, 10, 20])) nightN_lp lwF20 [.inl (lAdd (lSc (-1) (lSy 7)) (lAdd (lSy 3) (lK (-1)))), .inr (.inl (1001, (lAdd (lSc (-1) (lSy 7)) (lK 11)))), .inr (.inr (0, [(lSy 7)])), .inr (.inr (11, [(lSy 7)])), .inl (lAdd (lSy 8) (lSc (-1) (lSy 3))), .inr (.inl (1001, (lAdd (lSy 8) (lAdd (lSc (-1) (lSy 7)) (lK (-1)))))), .inr (.inr (20, []))] = true := by decide +kernel
set_option maxRecDepth 1000000 in
theorem nightNE3 : wEd x_KT x_tb x_tyl x_ov0 u_ct u_hs x_knd lwFR lwGA lwGB 6 24 42 nightNWA3 nightNWB3 8000 1 60 89 1 60 220 nightN_cl_x0 [.inr (.inr (0, [(lSy 6)])), .inr (.inl (2000, lK 0))] nightNo3 = true := by decide +kernel
set_option maxRecDepth 1000000 in
theorem nightNE4 : wEd x_KT x_tb x_tyl x_ov0 u_ct u_hs x_knd lwFR lwGA lwGB 6 24 42 nightNWA4 nightNWB4 8000 1 60 89 1 60 220 nightN_cl_x1 [.inr (.inr (0, [(lSy 6)])), .inr (.inl (2000, lK 0))] nightNo4 = true := by decide +kernel
theorem nightL0 : wRlk 6 24 42 nightNWA nightNWB nightX0.2.1 nightX0.2.2.1 nightX0.2.2.2.1 nightX0.2.2.2.2 nightN_in = true := by decide +kernel
set_option maxRecDepth 1000000 in
theorem nightE1 : wEd x_KT x_tb x_tyl x_ov0 u_ct u_hs x_knd lwFR lwGA lwGB 5 24 42 nightWA1 nightWB1 8000 1 60 89 1 60 219 night_in [] nighto1 = true := by decide +kernel
set_option maxRecDepth 1000000 in
theorem nightE2 : wEd x_KT x_tb x_tyl x_ov0 u_ct u_hs x_knd lwFR lwGA lwGB 5 24 42 nightWA2 nightWB2 8000 1 60 89 1 60 219 night_cb_out [] nighto2 = true := by decide +kernel
set_option maxRecDepth 1000000 in
theorem nightbc : wBc lwN lwFS.length 1 lwTA lwTB lwGA lwGB 5 24 42 u_ps uPA uPB night_in nightOX = true := by decide +kernel
set_option maxRecDepth 1000000 in
theorem doesE0 : wEd x_KT x_tb x_tyl x_ov0 u_ct u_hs x_knd lwFR lwGA lwGB 5 24 42 doesWA0 doesWB0 8000 1 60 96 1 60 233 does_in [.inl (lSy 5), .inl (lAdd (lSc (-1) (lSy 5)) (lAdd (lSy 3) (lK (-1)))), .inr (.inr (0, [(lSy 5)])), .inl (lSy 8), .inl (lAdd (lSy 8) (lK (-1))), .inl (lAdd (lSy 8) (lK (-2))), .inl (lAdd (lSy 8) (lK (-3))), .inl (lAdd (lSc (-1) (lSy 8)) (lK 3))] doeso0 = true := by decide +kernel
set_option maxRecDepth 1000000 in
theorem doesE1 : wEd x_KT x_tb x_tyl x_ov0 u_ct u_hs x_knd lwFR lwGA lwGB 5 24 42 doesWA1 doesWB1 8000 1 60 96 1 60 233 does_m0 [.inr (.inr (0, [(lSy 5)]))] (doeso1.map (wNo [0, 20])) = true := by decide +kernel
set_option maxRecDepth 1000000 in
theorem doesE1R0 : wRkE x_KT x_tb x_tyl x_ov0 u_ct u_hs x_knd lwFR lwGA lwGB doesVA1_0 doesVB1_0 8000 1 60 96 1 60 233 (doeso1.map (wNo [0, 20])) does_m0 lwF0 [.inr (.inr (0, [(lSy 5)])), .inl (lAdd (lSy 9) (lSc (-1) (lSy 5))), .inl (lAdd (lSc (-1) (lSy 9)) (lSy 5)), .inr (.inl (1001, (lAdd (lSc (-1) (lSy 9)) (lAdd (lSy 3) (lK (-1)))))), .inl (lAdd (lSc (-1) (lSy 9)) (lAdd (lSy 3) (lK (-1)))), .inr (.inl (0, (lSy 5))), .inr (.inr (16, [(lSy 9), (lSy 5)])), .inr (.inr (16, [(lSy 5), (lSy 9)])), .inr (.inr (12, [(lSy 9), (lSy 5)])), .inr (.inr (12, [(lSy 5), (lSy 9)])), .inr (.inr (0, []))] = true := by decide +kernel
set_option maxRecDepth 1000000 in
theorem doesE1R20 : wRkE x_KT x_tb x_tyl x_ov0 u_ct u_hs x_knd lwFR lwGA lwGB doesVA1_20 doesVB1_20 8000 1 60 96 1 60 233 (doeso1.map (wNo [0, 20])) does_m0 lwF20 [.inr (.inr (0, [(lSy 5)])), .inl (lAdd (lSy 9) (lSc (-1) (lSy 3))), .inr (.inl (1001, (lAdd (lSy 9) (lAdd (lSc (-1) (lSy 5)) (lK (-1)))))), .inr (.inr (20, []))] = true := by decide +kernel
set_option maxRecDepth 1000000 in
theorem doesE2 : wEd x_KT x_tb x_tyl x_ov0 u_ct u_hs x_knd lwFR lwGA lwGB 5 24 42 doesWA2 doesWB2 8000 1 60 96 1 60 233 does_m1 [.inr (.inr (0, [(lSy 5)]))] (doeso2.map (wNo [0, 20])) = true := by decide +kernel
set_option maxRecDepth 1000000 in
theorem doesE2R0 : wRkE x_KT x_tb x_tyl x_ov0 u_ct u_hs x_knd lwFR lwGA lwGB doesVA2_0 doesVB2_0 8000 1 60 96 1 60 233 (doeso2.map (wNo [0, 20])) does_m1 lwF0 [.inr (.inr (0, [(lSy 5)])), .inl (lAdd (lSy 9) (lSc (-1) (lSy 5))), .inl (lAdd (lSc (-1) (lSy 9)) (lSy 5)), .inr (.inl (1001, (lAdd (lSc (-1) (lSy 9)) (lAdd (lSy 3) (lK (-1)))))), .inl (lAdd (lSc (-1) (lSy 9)) (lAdd (lSy 3) (lK (-1)))), .inr (.inl (0, (lSy 5))), .inr (.inr (16, [(lSy 9), (lSy 5)])), .inr (.inr (16, [(lSy 5), (lSy 9)])), .inr (.inr (12, [(lSy 9), (lSy 5)])), .inr (.inr (12, [(lSy 5), (lSy 9)])), .inr (.inr (0, []))] = true := by decide +kernel
set_option maxRecDepth 1000000 in
theorem doesE2R20 : wRkE x_KT x_tb x_tyl x_ov0 u_ct u_hs x_knd lwFR lwGA lwGB doesVA2_20 doesVB2_20 8000 1 60 96 1 60 233 (doeso2.map (wNo [0, 20])) does_m1 lwF20 [.inr (.inr (0, [(lSy 5)])), .inl (lAdd (lSy 9) (lSc (-1) (lSy 3))), .inr (.inl (1001, (lAdd (lSy 9) (lAdd (lSc (-1) (lSy 5)) (lK (-1)))))), .inr (.inr (20, []))] = true := by decide +kernel
set_option maxRecDepth 1000000 in
theorem doesE3 : wEd x_KT x_tb x_tyl x_ov0 u_ct u_hs x_knd lwFR lwGA lwGB 5 24 42 doesWA3 doesWB3 8000 1 60 96 1 60 233 does_m2 [.inr (.inr (0, [(lSy 5)])), .inr (.inl (2000, lK 0))] (doeso3.map (wNo [0, 20])) = true := by decide +kernel
set_option maxRecDepth 1000000 in
theorem doesE3R0 : wRkE x_KT x_tb x_tyl x_ov0 u_ct u_hs x_knd lwFR lwGA lwGB doesVA3_0 doesVB3_0 8000 1 60 96 1 60 233 (doeso3.map (wNo [0, 20])) does_m2 lwF0 [.inr (.inr (0, [(lSy 5)])), .inr (.inl (2000, lK 0)), .inl (lAdd (lSy 10) (lSc (-1) (lSy 5))), .inl (lAdd (lSc (-1) (lSy 10)) (lSy 5)), .inr (.inl (1001, (lAdd (lSc (-1) (lSy 10)) (lAdd (lSy 3) (lK (-1)))))), .inl (lAdd (lSc (-1) (lSy 10)) (lAdd (lSy 3) (lK (-1)))), .inr (.inl (0, (lSy 5))), .inr (.inr (16, [(lSy 10), (lSy 5)])), .inr (.inr (16, [(lSy 5), (lSy 10)])), .inr (.inr (12, [(lSy 10), (lSy 5)])), .inr (.inr (12, [(lSy 5), (lSy 10)])), .inr (.inr (0, []))] = true := by decide +kernel
set_option maxRecDepth 1000000 in
theorem doesE3R20 : wRkE x_KT x_tb x_tyl x_ov0 u_ct u_hs x_knd lwFR lwGA lwGB doesVA3_20 doesVB3_20 8000 1 60 96 1 60 233 (doeso3.map (wNo [0, 20])) does_m2 lwF20 [.inr (.inr (0, [(lSy 5)])), .inl (lAdd (lSy 10) (lSc (-1) (lSy 3))), .inr (.inl (1001, (lAdd (lSy 10) (lAdd (lSc (-1) (lSy 5)) (lK (-1)))))), .inr (.inr (20, []))] = true := by decide +kernel
set_option maxRecDepth 1000000 in
theorem doesE4 : wEd x_KT x_tb x_tyl x_ov0 u_ct u_hs x_knd lwFR lwGA lwGB 5 24 42 doesWA4 doesWB4 8000 1 60 96 1 60 233 does_m3 [.inr (.inr (0, [(lSy 5)])), .inr (.inl (2000, lK 0))] (doeso4.map (wNo [0, 20])) = true := by decide +kernel
end XRuC27
