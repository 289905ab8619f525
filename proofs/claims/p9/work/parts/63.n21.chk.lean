/-! Runs: checks, 21. -/
noncomputable section XRuC21
set_option maxRecDepth 1000000 in
theorem bfE7 : wEd x_KT x_tb x_tyl x_ov0 u_ct u_hs x_knd lwFR lwGA lwGB 6 24 42 bfWA7 bfWB7 8000 0 60 113 1 60 223 bf_c0_out [.inr (.inl (1001, (lAdd (lSc (-1) (lSy 14)) (lK 999)))), .inr (.inl (1001, (lSy 6))), .inr (.inl (1001, (lAdd (lSc (-1) (lSy 6)) (lK 4095)))), .inr (.inl (1001, (lSy 7))), .inr (.inl (1001, (lAdd (lSc (-1) (lSy 7)) (lK 999)))), .inr (.inl (1001, (lAdd (lSy 8) (lK (-1900))))), .inr (.inl (1001, (lAdd (lSc (-1) (lSy 8)) (lK 2099)))), .inr (.inl (1001, (lSy 9))), .inr (.inl (1001, (lAdd (lSc (-1) (lSy 9)) (lK 2)))), .inr (.inl (1001, (lSy 10))), .inr (.inl (1001, (lAdd (lSc (-1) (lSy 10)) (lK 4094)))), .inr (.inl (1001, (lAdd (lSc (-1) (lSy 12)) (lK 999)))), .inr (.inl (1001, (lSy 13))), .inr (.inl (1001, (lAdd (lSc (-1) (lSy 13)) (lK 4095))))] bfo7 = true := by decide +kernel
set_option maxRecDepth 1000000 in
theorem bfE8 : wEd x_KT x_tb x_tyl x_ov0 u_ct u_hs x_knd lwFR lwGA lwGB 6 24 42 bfWA8 bfWB8 8000 0 60 113 1 60 223 bf_c1_out [.inr (.inl (1001, (lAdd (lSc (-1) (lSy 14)) (lK 999)))), .inr (.inl (1001, (lAdd (lSy 6) (lK (-1))))), .inr (.inl (1001, (lAdd (lSc (-1) (lSy 6)) (lK 4095)))), .inr (.inl (1001, (lSy 7))), .inr (.inl (1001, (lAdd (lSc (-1) (lSy 7)) (lK 999)))), .inr (.inl (1001, (lAdd (lSy 8) (lK (-1900))))), .inr (.inl (1001, (lAdd (lSc (-1) (lSy 8)) (lK 2099)))), .inr (.inl (1001, (lSy 9))), .inr (.inl (1001, (lAdd (lSc (-1) (lSy 9)) (lK 2)))), .inr (.inl (1001, (lSy 10))), .inr (.inl (1001, (lAdd (lSc (-1) (lSy 10)) (lK 4094)))), .inr (.inl (1001, (lAdd (lSc (-1) (lSy 12)) (lK 999)))), .inr (.inl (1001, (lSy 13))), .inr (.inl (1001, (lAdd (lSc (-1) (lSy 13)) (lK 4094))))] bfo8 = true := by decide +kernel
theorem firstL0 : wRlk 11 24 42 rtWA rtWB firstX0.2.1 firstX0.2.2.1 firstX0.2.2.2.1 firstX0.2.2.2.2 rt_in = true := by decide +kernel
set_option maxRecDepth 1000000 in
theorem firstE1 : wEd x_KT x_tb x_tyl x_ov0 u_ctK4 u_hs x_knd lwFR lwGA lwGB 5 24 42 firstWA1 firstWB1 8000 1 60 140 0 60 223 first_in [] firsto1 = true := by decide +kernel
theorem firstL2 : wRlk 9 24 42 bmWA bmWB firstX2.2.1 firstX2.2.2.1 firstX2.2.2.2.1 firstX2.2.2.2.2 bm_in = true := by decide +kernel
set_option maxRecDepth 1000000 in
theorem firstE3 : wEd x_KT x_tb x_tyl x_ov0 u_ctK4 u_hs x_knd lwFR lwGA lwGB 5 24 42 firstWA3 firstWB3 8000 1 60 140 0 60 223 first_c1_out [.inr (.inl (1001, (lSy 5))), .inr (.inl (1001, (lAdd (lSc (-1) (lSy 5)) (lK 4095)))), .inr (.inl (1001, (lSy 6))), .inr (.inl (1001, (lAdd (lSc (-1) (lSy 6)) (lK 999)))), .inr (.inl (1001, (lAdd (lSy 7) (lK (-1900))))), .inr (.inl (1001, (lAdd (lSc (-1) (lSy 7)) (lK 2099)))), .inr (.inl (1001, (lSy 8))), .inr (.inl (1001, (lAdd (lSc (-1) (lSy 8)) (lK 2))))] firsto3 = true := by decide +kernel
theorem firstL4 : wRlk 16 24 42 rhWA rhWB firstX4.2.1 firstX4.2.2.1 firstX4.2.2.2.1 firstX4.2.2.2.2 rh_in = true := by decide +kernel
set_option maxRecDepth 1000000 in
theorem firstE5 : wEd x_KT x_tb x_tyl x_ov0 u_ctK4 u_hs x_knd lwFR lwGA lwGB 5 24 42 firstWA5 firstWB5 8000 1 60 140 0 60 223 first_c2_out [.inr (.inl (1001, (lSy 5))), .inr (.inl (1001, (lAdd (lSc (-1) (lSy 5)) (lK 4095)))), .inr (.inl (1001, (lSy 6))), .inr (.inl (1001, (lAdd (lSc (-1) (lSy 6)) (lK 999)))), .inr (.inl (1001, (lAdd (lSy 7) (lK (-1900))))), .inr (.inl (1001, (lAdd (lSc (-1) (lSy 7)) (lK 2099)))), .inr (.inl (1001, (lSy 8))), .inr (.inl (1001, (lAdd (lSc (-1) (lSy 8)) (lK 2))))] firsto5 = true := by decide +kernel
theorem firstL6 : wRlk 6 24 42 bfWA bfWB firstX6.2.1 firstX6.2.2.1 firstX6.2.2.2.1 firstX6.2.2.2.2 bf_in = true := by decide +kernel
set_option maxRecDepth 1000000 in
theorem firstE7 : wEd x_KT x_tb x_tyl x_ov0 u_ctK4 u_hs x_knd lwFR lwGA lwGB 5 24 42 firstWA7 firstWB7 8000 0 60 140 0 60 223 first_r1 [] firsto7 = true := by decide +kernel
set_option maxRecDepth 1000000 in
theorem firstE8 : wEd x_KT x_tb x_tyl x_ov0 u_ctK4 u_hs x_knd lwFR lwGA lwGB 5 24 42 firstWA8 firstWB8 8000 1 60 140 1 60 223 first_f38_e226 [] firsto8 = true := by decide +kernel
set_option maxRecDepth 1000000 in
theorem firstE9 : wEd x_KT x_tb x_tyl x_ov0 u_ctK4 u_hs x_knd lwFR lwGA lwGB 5 24 42 firstWA9 firstWB9 8000 1 60 140 1 60 223 first_f38_e26 [] firsto9 = true := by decide +kernel
set_option maxRecDepth 1000000 in
theorem firstE10 : wEd x_KT x_tb x_tyl x_ov0 u_ctK4 u_hs x_knd lwFR lwGA lwGB 5 24 42 firstWA10 firstWB10 8000 1 60 140 1 60 223 first_f38_e56 [] firsto10 = true := by decide +kernel
theorem firstL11 : wRlk 6 24 42 bfWA bfWB firstX11.2.1 firstX11.2.2.1 firstX11.2.2.2.1 firstX11.2.2.2.2 bf_in = true := by decide +kernel
set_option maxRecDepth 1000000 in
theorem firstE12 : wEd x_KT x_tb x_tyl x_ov0 u_ctK4 u_hs x_knd lwFR lwGA lwGB 5 24 42 firstWA12 firstWB12 8000 0 60 140 0 60 223 first_r2 [] firsto12 = true := by decide +kernel
set_option maxRecDepth 1000000 in
theorem firstE13 : wEd x_KT x_tb x_tyl x_ov0 u_ctK4 u_hs x_knd lwFR lwGA lwGB 5 24 42 firstWA13 firstWB13 8000 1 60 140 1 60 223 first_f64_e226 [] firsto13 = true := by decide +kernel
set_option maxRecDepth 1000000 in
theorem firstE14 : wEd x_KT x_tb x_tyl x_ov0 u_ctK4 u_hs x_knd lwFR lwGA lwGB 5 24 42 firstWA14 firstWB14 8000 1 60 140 1 60 223 first_f64_e26 [] firsto14 = true := by decide +kernel
set_option maxRecDepth 1000000 in
theorem firstE15 : wEd x_KT x_tb x_tyl x_ov0 u_ctK4 u_hs x_knd lwFR lwGA lwGB 5 24 42 firstWA15 firstWB15 8000 1 60 140 1 60 223 first_f64_e56 [] firsto15 = true := by decide +kernel
theorem firstL16 : wRlk 6 24 42 bfWA bfWB firstX16.2.1 firstX16.2.2.1 firstX16.2.2.2.1 firstX16.2.2.2.2 bf_in = true := by decide +kernel
set_option maxRecDepth 1000000 in
theorem firstE17 : wEd x_KT x_tb x_tyl x_ov0 u_ctK4 u_hs x_knd lwFR lwGA lwGB 5 24 42 firstWA17 firstWB17 8000 0 60 140 0 60 223 first_c3_out [.inr (.inl (1001, (lSy 5))), .inr (.inl (1001, (lAdd (lSc (-1) (lSy 5)) (lK 4095)))), .inr (.inl (1001, (lSy 6))), .inr (.inl (1001, (lAdd (lSc (-1) (lSy 6)) (lK 999)))), .inr (.inl (1001, (lAdd (lSy 7) (lK (-1900))))), .inr (.inl (1001, (lAdd (lSc (-1) (lSy 7)) (lK 2099)))), .inr (.inl (1001, (lSy 8))), .inr (.inl (1001, (lAdd (lSc (-1) (lSy 8)) (lK 2))))] firsto17 = true := by decide +kernel
set_option maxRecDepth 1000000 in
theorem firstE18 : wEd x_KT x_tb x_tyl x_ov0 u_ctK4 u_hs x_knd lwFR lwGA lwGB 5 24 42 firstWA18 firstWB18 8000 1 60 140 1 60 223 first_f116_e226 [] firsto18 = true := by decide +kernel
set_option maxRecDepth 1000000 in
theorem firstE19 : wEd x_KT x_tb x_tyl x_ov0 u_ctK4 u_hs x_knd lwFR lwGA lwGB 5 24 42 firstWA19 firstWB19 8000 1 60 140 1 60 223 first_f116_e26 [] firsto19 = true := by decide +kernel
set_option maxRecDepth 1000000 in
theorem firstE20 : wEd x_KT x_tb x_tyl x_ov0 u_ctK4 u_hs x_knd lwFR lwGA lwGB 5 24 42 firstWA20 firstWB20 8000 1 60 140 1 60 223 first_f116_e56 [] firsto20 = true := by decide +kernel
theorem firstL21 : wRlk 6 24 42 bfWA bfWB firstX21.2.1 firstX21.2.2.1 firstX21.2.2.2.1 firstX21.2.2.2.2 bf_in = true := by decide +kernel
set_option maxRecDepth 1000000 in
theorem firstE22 : wEd x_KT x_tb x_tyl x_ov0 u_ctK4 u_hs x_knd lwFR lwGA lwGB 5 24 42 firstWA22 firstWB22 8000 0 60 140 0 60 223 first_a119 [] firsto22 = true := by decide +kernel
set_option maxRecDepth 1000000 in
theorem firstE23 : wEd x_KT x_tb x_tyl x_ov0 u_ctK4 u_hs x_knd lwFR lwGA lwGB 5 24 42 firstWA23 firstWB23 8000 1 60 140 1 60 223 first_f119_e226 [] firsto23 = true := by decide +kernel
set_option maxRecDepth 1000000 in
theorem firstE24 : wEd x_KT x_tb x_tyl x_ov0 u_ctK4 u_hs x_knd lwFR lwGA lwGB 5 24 42 firstWA24 firstWB24 8000 1 60 140 1 60 223 first_f119_e26 [] firsto24 = true := by decide +kernel
set_option maxRecDepth 1000000 in
theorem firstE25 : wEd x_KT x_tb x_tyl x_ov0 u_ctK4 u_hs x_knd lwFR lwGA lwGB 5 24 42 firstWA25 firstWB25 8000 1 60 140 1 60 223 first_f119_e56 [] firsto25 = true := by decide +kernel
theorem firstL26 : wRlk 6 24 42 bfWA bfWB firstX26.2.1 firstX26.2.2.1 firstX26.2.2.2.1 firstX26.2.2.2.2 bf_in = true := by decide +kernel
set_option maxRecDepth 1000000 in
theorem firstE27 : wEd x_KT x_tb x_tyl x_ov0 u_ctK4 u_hs x_knd lwFR lwGA lwGB 5 24 42 firstWA27 firstWB27 8000 0 60 140 0 60 223 first_a126 [] firsto27 = true := by decide +kernel
set_option maxRecDepth 1000000 in
theorem firstE28 : wEd x_KT x_tb x_tyl x_ov0 u_ctK4 u_hs x_knd lwFR lwGA lwGB 5 24 42 firstWA28 firstWB28 8000 1 60 140 1 60 223 first_f126_e226 [] firsto28 = true := by decide +kernel
set_option maxRecDepth 1000000 in
theorem firstE29 : wEd x_KT x_tb x_tyl x_ov0 u_ctK4 u_hs x_knd lwFR lwGA lwGB 5 24 42 firstWA29 firstWB29 8000 1 60 140 1 60 223 first_f126_e26 [] firsto29 = true := by decide +kernel
set_option maxRecDepth 1000000 in
theorem firstE30 : wEd x_KT x_tb x_tyl x_ov0 u_ctK4 u_hs x_knd lwFR lwGA lwGB 5 24 42 firstWA30 firstWB30 8000 1 60 140 1 60 223 first_f126_e56 [] firsto30 = true := by decide +kernel
set_option maxRecDepth 1000000 in
theorem firstbc : wBcN lwN lwFS.length 4 lwTA lwTB lwGA lwGB 5 24 42 u_ps uPA uPB first_in firstOX = true := by decide +kernel
theorem bbL0 : wRlk 19 24 42 trWA trWB bbX0.2.1 bbX0.2.2.1 bbX0.2.2.2.1 bbX0.2.2.2.2 tr_in = true := by decide +kernel
set_option maxRecDepth 1000000 in
theorem bbE1 : wEd x_KT x_tb x_tyl x_ov0 u_ct u_hs x_knd lwFR lwGA lwGB 6 24 42 bbWA1 bbWB1 8000 0 60 113 1 60 221 bb_in [] (bbo1.map (wNo [2])) = true := by decide +kernel
set_option maxRecDepth 1000000 in
theorem bbE1R2 : wRkE x_KT x_tb x_tyl x_ov0 u_ct u_hs x_knd lwFR lwGA lwGB bbVA1_2 bbVB1_2 8000 0 60 113 1 60 221 (bbo1.map (wNo [2])) bb_in lwF2 [.inl (lAdd (lSc (-1) (lSy 7)) (lAdd (lSy 3) (lK (-1)))), .inr (.inr (2, []))] = true := by decide +kernel
set_option maxRecDepth 1000000 in
theorem bbE2 : wEd x_KT x_tb x_tyl x_ov0 u_ct u_hs x_knd lwFR lwGA lwGB 6 24 42 bbWA2 bbWB2 8000 0 60 113 1 60 221 bb_c_out [] bbo2 = true := by decide +kernel
theorem besideL0 : wRlk 11 24 42 rtWA rtWB besideX0.2.1 besideX0.2.2.1 besideX0.2.2.2.1 besideX0.2.2.2.2 rt_in = true := by decide +kernel
set_option maxRecDepth 1000000 in
theorem besideE1 : wEd x_KT x_tb x_tyl x_ov0 u_ct u_hs x_knd lwFR lwGA lwGB 5 24 42 besideWA1 besideWB1 8000 1 60 146 0 60 221 beside_in [] besideo1 = true := by decide +kernel
theorem besideL2 : wRlk 16 24 42 rhWA rhWB besideX2.2.1 besideX2.2.2.1 besideX2.2.2.2.1 besideX2.2.2.2.2 rh_in = true := by decide +kernel
set_option maxRecDepth 1000000 in
theorem besideE3 : wEd x_KT x_tb x_tyl x_ov0 u_ct u_hs x_knd lwFR lwGA lwGB 5 24 42 besideWA3 besideWB3 8000 1 60 146 0 60 221 beside_c1_out [.inr (.inl (1001, (lAdd (lSy 5) (lK (-1900))))), .inr (.inl (1001, (lAdd (lSc (-1) (lSy 5)) (lK 2099))))] besideo3 = true := by decide +kernel
theorem besideL4 : wRlk 6 24 42 bbWA bbWB besideX4.2.1 besideX4.2.2.1 besideX4.2.2.2.1 besideX4.2.2.2.2 bb_in = true := by decide +kernel
set_option maxRecDepth 1000000 in
theorem besideE5 : wEd x_KT x_tb x_tyl x_ov0 u_ct u_hs x_knd lwFR lwGA lwGB 5 24 42 besideWA5 besideWB5 8000 0 60 146 0 60 221 beside_r1 [] besideo5 = true := by decide +kernel
set_option maxRecDepth 1000000 in
theorem besideE6 : wEd x_KT x_tb x_tyl x_ov0 u_ct u_hs x_knd lwFR lwGA lwGB 5 24 42 besideWA6 besideWB6 8000 1 60 146 1 60 221 beside_f9_e139 [] besideo6 = true := by decide +kernel
set_option maxRecDepth 1000000 in
theorem besideE7 : wEd x_KT x_tb x_tyl x_ov0 u_ct u_hs x_knd lwFR lwGA lwGB 5 24 42 besideWA7 besideWB7 8000 1 60 146 1 60 221 beside_f9_e9 [] besideo7 = true := by decide +kernel
theorem besideL8 : wRlk 6 24 42 bbWA bbWB besideX8.2.1 besideX8.2.2.1 besideX8.2.2.2.1 besideX8.2.2.2.2 bb_in = true := by decide +kernel
set_option maxRecDepth 1000000 in
theorem besideE9 : wEd x_KT x_tb x_tyl x_ov0 u_ct u_hs x_knd lwFR lwGA lwGB 5 24 42 besideWA9 besideWB9 8000 0 60 146 0 60 221 beside_c3_out [] besideo9 = true := by decide +kernel
set_option maxRecDepth 1000000 in
theorem besideE10 : wEd x_KT x_tb x_tyl x_ov0 u_ct u_hs x_knd lwFR lwGA lwGB 5 24 42 besideWA10 besideWB10 8000 1 60 146 1 60 221 beside_f23_e139 [] besideo10 = true := by decide +kernel
set_option maxRecDepth 1000000 in
theorem besideE11 : wEd x_KT x_tb x_tyl x_ov0 u_ct u_hs x_knd lwFR lwGA lwGB 5 24 42 besideWA11 besideWB11 8000 1 60 146 1 60 221 beside_f23_e9 [] besideo11 = true := by decide +kernel
set_option maxRecDepth 1000000 in
theorem besidebc : wBcN lwN lwFS.length 1 lwTA lwTB lwGA lwGB 5 24 42 u_ps uPA uPB beside_in besideOX = true := by decide +kernel
set_option maxRecDepth 1000000 in
theorem sheetE0 : wEd x_KT x_tb x_tyl x_ov0 u_ct u_hs x_knd lwFR lwGA lwGB 5 24 42 sheetWA0 sheetWB0 8000 1 60 174 1 60 272 sheet_in [.inl (lSy 5), .inl (lAdd (lSy 5) (lK (-1))), .inl (lAdd (lSy 5) (lK (-2))), .inl (lAdd (lSy 5) (lK (-3))), .inl (lAdd (lSy 6) (lK 1)), .inl (lSy 6), .inl (lAdd (lSc (-1) (lSy 6)) (lK 2))] sheeto0 = true := by decide +kernel
set_option maxRecDepth 1000000 in
theorem sheetE1 : wEd x_KT x_tb x_tyl x_ov0 u_ct u_hs x_knd lwFR lwGA lwGB 5 24 42 sheetWA1 sheetWB1 8000 1 60 174 1 60 272 sheet_c0 [.inr (.inr (4, []))] (sheeto1.map (wNo [22, 23, 21])) = true := by decide +kernel
set_option maxRecDepth 1000000 in
theorem sheetE1R22 : wRkE x_KT x_tb x_tyl x_ov0 u_ct u_hs x_knd lwFR lwGA lwGB sheetVA1_22 sheetVB1_22 8000 1 60 174 1 60 272 (sheeto1.map (wNo [22, 23, 21])) sheet_c0 lwF22 [.inr (.inr (4, [])), .inr (.inr (22, [(lSy 8)]))] = true := by decide +kernel
set_option maxRecDepth 1000000 in
theorem sheetE1R23 : wRkE x_KT x_tb x_tyl x_ov0 u_ct u_hs x_knd lwFR lwGA lwGB sheetVA1_23 sheetVB1_23 8000 1 60 174 1 60 272 (sheeto1.map (wNo [22, 23, 21])) sheet_c0 lwF23 [.inr (.inr (4, [])), .inr (.inr (23, [(lSy 8)]))] = true := by decide +kernel
set_option maxRecDepth 1000000 in
theorem sheetE1R21 : wRkE x_KT x_tb x_tyl x_ov0 u_ct u_hs x_knd lwFR lwGA lwGB sheetVA1_21 sheetVB1_21 8000 1 60 174 1 60 272 (sheeto1.map (wNo [22, 23, 21])) sheet_c0 lwF21 [.inr (.inr (4, []))] = true := by decide +kernel
set_option maxRecDepth 1000000 in
theorem sheetE2 : wEd x_KT x_tb x_tyl x_ov0 u_ct u_hs x_knd lwFR lwGA lwGB 5 24 42 sheetWA2 sheetWB2 8000 1 60 174 1 60 272 sheet_o0 [.inr (.inr (4, []))] (sheeto2.map (wNo [22, 23])) = true := by decide +kernel
set_option maxRecDepth 1000000 in
theorem sheetE2R22 : wRkE x_KT x_tb x_tyl x_ov0 u_ct u_hs x_knd lwFR lwGA lwGB sheetVA2_22 sheetVB2_22 8000 1 60 174 1 60 272 (sheeto2.map (wNo [22, 23])) sheet_o0 lwF22 [.inr (.inr (4, [])), .inr (.inr (22, [(lSy 8)]))] = true := by decide +kernel
set_option maxRecDepth 1000000 in
theorem sheetE2R23 : wRkE x_KT x_tb x_tyl x_ov0 u_ct u_hs x_knd lwFR lwGA lwGB sheetVA2_23 sheetVB2_23 8000 1 60 174 1 60 272 (sheeto2.map (wNo [22, 23])) sheet_o0 lwF23 [.inr (.inr (4, [])), .inr (.inr (23, [(lSy 8)]))] = true := by decide +kernel
set_option maxRecDepth 1000000 in
theorem sheetE3 : wEd x_KT x_tb x_tyl x_ov0 u_ct u_hs x_knd lwFR lwGA lwGB 5 24 42 sheetWA3 sheetWB3 8000 1 60 174 1 60 272 sheet_z0 [] (sheeto3.map (wNo [21])) = true := by decide +kernel
set_option maxRecDepth 1000000 in
theorem sheetE3R21 : wRkE x_KT x_tb x_tyl x_ov0 u_ct u_hs x_knd lwFR lwGA lwGB sheetVA3_21 sheetVB3_21 8000 1 60 174 1 60 272 (sheeto3.map (wNo [21])) sheet_z0 lwF21 [.inl (lAdd (lSy 7) (lK (-1))), .inl (lAdd (lSy 7) (lK (-2))), .inl (lAdd (lSy 7) (lK (-3))), .inl (lAdd (lSy 7) (lK (-4))), .inl (lAdd (lSy 7) (lK (-5))), .inl (lAdd (lSy 7) (lK (-6))), .inl (lAdd (lSy 7) (lK (-7))), .inl (lAdd (lSy 7) (lK (-8))), .inl (lAdd (lSy 7) (lK (-9))), .inl (lAdd (lSy 7) (lK (-10))), .inl (lAdd (lSy 7) (lK (-11))), .inl (lAdd (lSy 7) (lK (-12))), .inl (lAdd (lSy 7) (lK (-13))), .inl (lAdd (lSy 7) (lK (-14))), .inl (lAdd (lSy 7) (lK (-15))), .inl (lAdd (lSy 7) (lK (-16))), .inl (lAdd (lSy 7) (lK (-17))), .inl (lAdd (lSy 7) (lK (-18))), .inl (lAdd (lSy 7) (lK (-19))), .inl (lAdd (lSy 7) (lK (-20))), .inl (lAdd (lSy 7) (lK (-21))), .inl (lAdd (lSy 7) (lK (-22))), .inl (lAdd (lSy 7) (lK (-23))), .inl (lAdd (lSy 7) (lK (-24))), .inl (lAdd (lSy 7) (lK (-25))), .inl (lAdd (lSy 7) (lK (-26))), .inl (lAdd (lSy 7) (lK (-27))), .inl (lAdd (lSy 7) (lK (-28))), .inl (lAdd (lSy 7) (lK (-29))), .inl (lAdd (lSy 7) (lK (-30))), .inl (lAdd (lSy 7) (lK (-31))), .inl (lAdd (lSy 7) (lK (-32))), .inl (lAdd (lSy 7) (lK (-33))), .inl (lAdd (lSy 7) (lK (-34))), .inl (lAdd (lSy 7) (lK (-35))), .inl (lAdd (lSy 7) (lK (-36))), .inl (lAdd (lSy 7) (lK (-37))), .inl (lAdd (lSy 7) (lK (-38))), .inl (lAdd (lSy 7) (lK (-39))), .inr (.inl (0, (lK 0))), .inr (.inl (0, (lK 1))), .inr (.inl (0, (lK 2))), .inr (.inl (0, (lK 3))), .inr (.inl (0, (lK 4))), .inr (.inl (0, (lK 5))), .inr (.inl (0, (lK 6))), .inr (.inl (0, (lK 7))), .inr (.inl (0, (lK 8))), .inr (.inl (0, (lK 9))), .inr (.inl (0, (lK 10))), .inr (.inl (0, (lK 11))), .inr (.inl (0, (lK 12))), .inr (.inl (0, (lK 13))), .inr (.inl (0, (lK 14))), .inr (.inl (0, (lK 15))), .inr (.inl (0, (lK 16))), .inr (.inl (0, (lK 17))), .inr (.inl (0, (lK 18))), .inr (.inl (0, (lK 19))), .inr (.inl (0, (lK 20))), .inr (.inl (0, (lK 21))), .inr (.inl (0, (lK 22))), .inr (.inl (0, (lK 23))), .inr (.inl (0, (lK 24))), .inr (.inl (0, (lK 25))), .inr (.inl (0, (lK 26))), .inr (.inl (0, (lK 27))), .inr (.inl (0, (lK 28))), .inr (.inl (0, (lK 29))), .inr (.inl (0, (lK 30))), .inr (.inl (0, (lK 31))), .inr (.inl (0, (lK 32))), .inr (.inl (0, (lK 33))), .inr (.inl (0, (lK 34))), .inr (.inl (0, (lK 35))), .inr (.inl (0, (lK 36))), .inr (.inl (0, (lK 37))), .inr (.inl (0, (lK 38))), .inr (.inl (0, (lK 39)))] = true := by decide +kernel
set_option maxRecDepth 1000000 in
theorem sheetE4 : wEd x_KT x_tb x_tyl x_ov0 u_ct u_hs x_knd lwFR lwGA lwGB 5 24 42 sheetWA4 sheetWB4 8000 1 60 174 1 60 272 sheet_c1 [.inr (.inr (4, []))] (sheeto4.map (wNo [21, 23, 22])) = true := by decide +kernel
set_option maxRecDepth 1000000 in
theorem sheetE4R21 : wRkE x_KT x_tb x_tyl x_ov0 u_ct u_hs x_knd lwFR lwGA lwGB sheetVA4_21 sheetVB4_21 8000 1 60 174 1 60 272 (sheeto4.map (wNo [21, 23, 22])) sheet_c1 lwF21 [.inr (.inr (4, [])), .inr (.inr (21, [(lSy 8)]))] = true := by decide +kernel
set_option maxRecDepth 1000000 in
theorem sheetE4R23 : wRkE x_KT x_tb x_tyl x_ov0 u_ct u_hs x_knd lwFR lwGA lwGB sheetVA4_23 sheetVB4_23 8000 1 60 174 1 60 272 (sheeto4.map (wNo [21, 23, 22])) sheet_c1 lwF23 [.inr (.inr (4, [])), .inr (.inr (23, [(lSy 8)]))] = true := by decide +kernel
set_option maxRecDepth 1000000 in
theorem sheetE4R22 : wRkE x_KT x_tb x_tyl x_ov0 u_ct u_hs x_knd lwFR lwGA lwGB sheetVA4_22 sheetVB4_22 8000 1 60 174 1 60 272 (sheeto4.map (wNo [21, 23, 22])) sheet_c1 lwF22 [.inr (.inr (4, []))] = true := by decide +kernel
set_option maxRecDepth 1000000 in
theorem sheetE5 : wEd x_KT x_tb x_tyl x_ov0 u_ct u_hs x_knd lwFR lwGA lwGB 5 24 42 sheetWA5 sheetWB5 8000 1 60 174 1 60 272 sheet_o1 [.inr (.inr (4, []))] (sheeto5.map (wNo [21, 23])) = true := by decide +kernel
set_option maxRecDepth 1000000 in
theorem sheetE5R21 : wRkE x_KT x_tb x_tyl x_ov0 u_ct u_hs x_knd lwFR lwGA lwGB sheetVA5_21 sheetVB5_21 8000 1 60 174 1 60 272 (sheeto5.map (wNo [21, 23])) sheet_o1 lwF21 [.inr (.inr (4, [])), .inr (.inr (21, [(lSy 8)]))] = true := by decide +kernel
set_option maxRecDepth 1000000 in
theorem sheetE5R23 : wRkE x_KT x_tb x_tyl x_ov0 u_ct u_hs x_knd lwFR lwGA lwGB sheetVA5_23 sheetVB5_23 8000 1 60 174 1 60 272 (sheeto5.map (wNo [21, 23])) sheet_o1 lwF23 [.inr (.inr (4, [])), .inr (.inr (23, [(lSy 8)]))] = true := by decide +kernel
set_option maxRecDepth 1000000 in
theorem sheetE6 : wEd x_KT x_tb x_tyl x_ov0 u_ct u_hs x_knd lwFR lwGA lwGB 5 24 42 sheetWA6 sheetWB6 8000 1 60 174 1 60 272 sheet_z1 [] (sheeto6.map (wNo [22])) = true := by decide +kernel
set_option maxRecDepth 1000000 in
theorem sheetE6R22 : wRkE x_KT x_tb x_tyl x_ov0 u_ct u_hs x_knd lwFR lwGA lwGB sheetVA6_22 sheetVB6_22 8000 1 60 174 1 60 272 (sheeto6.map (wNo [22])) sheet_z1 lwF22 [.inl (lAdd (lSy 7) (lK (-1))), .inl (lAdd (lSy 7) (lK (-2))), .inl (lAdd (lSy 7) (lK (-3))), .inl (lAdd (lSy 7) (lK (-4))), .inl (lAdd (lSy 7) (lK (-5))), .inl (lAdd (lSy 7) (lK (-6))), .inl (lAdd (lSy 7) (lK (-7))), .inl (lAdd (lSy 7) (lK (-8))), .inl (lAdd (lSy 7) (lK (-9))), .inl (lAdd (lSy 7) (lK (-10))), .inl (lAdd (lSy 7) (lK (-11))), .inl (lAdd (lSy 7) (lK (-12))), .inl (lAdd (lSy 7) (lK (-13))), .inl (lAdd (lSy 7) (lK (-14))), .inl (lAdd (lSy 7) (lK (-15))), .inl (lAdd (lSy 7) (lK (-16))), .inl (lAdd (lSy 7) (lK (-17))), .inl (lAdd (lSy 7) (lK (-18))), .inl (lAdd (lSy 7) (lK (-19))), .inl (lAdd (lSy 7) (lK (-20))), .inl (lAdd (lSy 7) (lK (-21))), .inl (lAdd (lSy 7) (lK (-22))), .inl (lAdd (lSy 7) (lK (-23))), .inl (lAdd (lSy 7) (lK (-24))), .inl (lAdd (lSy 7) (lK (-25))), .inl (lAdd (lSy 7) (lK (-26))), .inl (lAdd (lSy 7) (lK (-27))), .inl (lAdd (lSy 7) (lK (-28))), .inl (lAdd (lSy 7) (lK (-29))), .inl (lAdd (lSy 7) (lK (-30))), .inl (lAdd (lSy 7) (lK (-31))), .inl (lAdd (lSy 7) (lK (-32))), .inl (lAdd (lSy 7) (lK (-33))), .inl (lAdd (lSy 7) (lK (-34))), .inl (lAdd (lSy 7) (lK (-35))), .inl (lAdd (lSy 7) (lK (-36))), .inl (lAdd (lSy 7) (lK (-37))), .inl (lAdd (lSy 7) (lK (-38))), .inl (lAdd (lSy 7) (lK (-39))), .inr (.inl (0, (lK 0))), .inr (.inl (0, (lK 1))), .inr (.inl (0, (lK 2))), .inr (.inl (0, (lK 3))), .inr (.inl (0, (lK 4))), .inr (.inl (0, (lK 5))), .inr (.inl (0, (lK 6))), .inr (.inl (0, (lK 7))), .inr (.inl (0, (lK 8))), .inr (.inl (0, (lK 9))), .inr (.inl (0, (lK 10))), .inr (.inl (0, (lK 11))), .inr (.inl (0, (lK 12))), .inr (.inl (0, (lK 13))), .inr (.inl (0, (lK 14))), .inr (.inl (0, (lK 15))), .inr (.inl (0, (lK 16))), .inr (.inl (0, (lK 17))), .inr (.inl (0, (lK 18))), .inr (.inl (0, (lK 19))), .inr (.inl (0, (lK 20))), .inr (.inl (0, (lK 21))), .inr (.inl (0, (lK 22))), .inr (.inl (0, (lK 23))), .inr (.inl (0, (lK 24))), .inr (.inl (0, (lK 25))), .inr (.inl (0, (lK 26))), .inr (.inl (0, (lK 27))), .inr (.inl (0, (lK 28))), .inr (.inl (0, (lK 29))), .inr (.inl (0, (lK 30))), .inr (.inl (0, (lK 31))), .inr (.inl (0, (lK 32))), .inr (.inl (0, (lK 33))), .inr (.inl (0, (lK 34))), .inr (.inl (0, (lK 35))), .inr (.inl (0, (lK 36))), .inr (.inl (0, (lK 37))), .inr (.inl (0, (lK 38))), .inr (.inl (0, (lK 39)))] = true := by decide +kernel
set_option maxRecDepth 1000000 in
theorem sheetE7 : wEd x_KT x_tb x_tyl x_ov0 u_ct u_hs x_knd lwFR lwGA lwGB 5 24 42 sheetWA7 sheetWB7 8000 1 60 174 1 60 272 sheet_c2 [.inr (.inr (4, []))] (sheeto7.map (wNo [21, 22, 23])) = true := by decide +kernel
set_option maxRecDepth 1000000 in
theorem sheetE7R21 : wRkE x_KT x_tb x_tyl x_ov0 u_ct u_hs x_knd lwFR lwGA lwGB sheetVA7_21 sheetVB7_21 8000 1 60 174 1 60 272 (sheeto7.map (wNo [21, 22, 23])) sheet_c2 lwF21 [.inr (.inr (4, [])), .inr (.inr (21, [(lSy 8)]))] = true := by decide +kernel
set_option maxRecDepth 1000000 in
theorem sheetE7R22 : wRkE x_KT x_tb x_tyl x_ov0 u_ct u_hs x_knd lwFR lwGA lwGB sheetVA7_22 sheetVB7_22 8000 1 60 174 1 60 272 (sheeto7.map (wNo [21, 22, 23])) sheet_c2 lwF22 [.inr (.inr (4, [])), .inr (.inr (22, [(lSy 8)]))] = true := by decide +kernel
set_option maxRecDepth 1000000 in
theorem sheetE7R23 : wRkE x_KT x_tb x_tyl x_ov0 u_ct u_hs x_knd lwFR lwGA lwGB sheetVA7_23 sheetVB7_23 8000 1 60 174 1 60 272 (sheeto7.map (wNo [21, 22, 23])) sheet_c2 lwF23 [.inr (.inr (4, []))] = true := by decide +kernel
set_option maxRecDepth 1000000 in
theorem sheetE8 : wEd x_KT x_tb x_tyl x_ov0 u_ct u_hs x_knd lwFR lwGA lwGB 5 24 42 sheetWA8 sheetWB8 8000 1 60 174 1 60 272 sheet_o2 [.inr (.inr (4, []))] (sheeto8.map (wNo [21, 22])) = true := by decide +kernel
set_option maxRecDepth 1000000 in
theorem sheetE8R21 : wRkE x_KT x_tb x_tyl x_ov0 u_ct u_hs x_knd lwFR lwGA lwGB sheetVA8_21 sheetVB8_21 8000 1 60 174 1 60 272 (sheeto8.map (wNo [21, 22])) sheet_o2 lwF21 [.inr (.inr (4, [])), .inr (.inr (21, [(lSy 8)]))] = true := by decide +kernel
end XRuC21
