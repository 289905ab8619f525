/-! Runs: checks, 27. -/
noncomputable section XRuC27
set_option maxRecDepth 1000000 in
theorem programE3R14 : wRkE x_KT x_tb x_tyl x_ov0 u_ct u_hs x_knd lwFR lwGA lwGB programVA3_14 programVB3_14 8000 1 60 13 1 60 182 (programo3.map (wNo [0, 1, 2, 3, 5, 6, 7, 8, 9, 10, 11, 15, 14, 12, 16, 18, 27, 28, 20])) program_cl_ok lwF14 [.inl (lAdd (lSc (-1) (lSy 6)) (lAdd (lSy 3) (lK (-1)))), .inl (lAdd (lSc (-1) (lSy 6)) (lSy 3)), .inr (.inl (0, (lSy 3))), .inr (.inr (14, [])), .inr (.inl (2016, lK 0))] = true := by decide +kernel
set_option maxRecDepth 1000000 in
theorem programE3R12 : wRkE x_KT x_tb x_tyl x_ov0 u_ct u_hs x_knd lwFR lwGA lwGB programVA3_12 programVB3_12 8000 1 60 13 1 60 182 (programo3.map (wNo [0, 1, 2, 3, 5, 6, 7, 8, 9, 10, 11, 15, 14, 12, 16, 18, 27, 28, 20])) program_cl_ok lwF12 [.inl (lAdd (lSc (-1) (lSy 6)) (lAdd (lSy 3) (lK (-1)))), .inl (lAdd (lSc (-1) (lSy 7)) (lAdd (lSy 3) (lK (-1)))), .inl (lAdd (lSy 7) (lAdd (lSc (-1) (lSy 6)) (lK (-1)))), .inr (.inr (11, [(lSy 6)])), .inr (.inr (27, [(lSy 6)])), .inr (.inr (12, [(lSy 6), (lSy 7)])), .inl (lAdd (lSc (-1) (lSy 7)) (lSy 3)), .inr (.inl (1001, (lAdd (lSc (-1) (lSy 7)) (lSy 6)))), .inr (.inl (1, (lSy 3))), .inr (.inl (2016, lK 0))] = true := by decide +kernel
set_option maxRecDepth 1000000 in
theorem programE3R16 : wRkE x_KT x_tb x_tyl x_ov0 u_ct u_hs x_knd lwFR lwGA lwGB programVA3_16 programVB3_16 8000 1 60 13 1 60 182 (programo3.map (wNo [0, 1, 2, 3, 5, 6, 7, 8, 9, 10, 11, 15, 14, 12, 16, 18, 27, 28, 20])) program_cl_ok lwF16 [.inl (lAdd (lSc (-1) (lSy 6)) (lAdd (lSy 3) (lK (-1)))), .inl (lAdd (lSc (-1) (lSy 7)) (lAdd (lSy 3) (lK (-1)))), .inl (lAdd (lSy 7) (lAdd (lSc (-1) (lSy 6)) (lK (-1)))), .inr (.inr (14, [(lSy 6)])), .inr (.inr (16, [(lSy 6), (lSy 7)])), .inl (lAdd (lSc (-1) (lSy 7)) (lSy 3)), .inr (.inl (1001, (lAdd (lSc (-1) (lSy 7)) (lSy 6)))), .inr (.inl (1, (lSy 3))), .inr (.inr (17, [(lSy 6), (lSy 3)])), .inr (.inl (2016, lK 0))] = true := by decide +kernel
set_option maxRecDepth 1000000 in
theorem programE3R18 : wRkE x_KT x_tb x_tyl x_ov0 u_ct u_hs x_knd lwFR lwGA lwGB programVA3_18 programVB3_18 8000 1 60 13 1 60 182 (programo3.map (wNo [0, 1, 2, 3, 5, 6, 7, 8, 9, 10, 11, 15, 14, 12, 16, 18, 27, 28, 20])) program_cl_ok lwF18 [.inl (lAdd (lSc (-1) (lSy 6)) (lAdd (lSy 3) (lK (-1)))), .inl (lAdd (lSc (-1) (lSy 7)) (lAdd (lSy 3) (lK (-1)))), .inr (.inr (11, [(lSy 6)])), .inr (.inr (18, [(lSy 7), (lSy 7)])), .inr (.inr (18, [(lSy 6), (lSy 7)])), .inl (lAdd (lSc (-1) (lSy 6)) (lSy 3)), .inl (lAdd (lSc (-1) (lSy 7)) (lSy 3)), .inr (.inl (0, (lSy 3))), .inr (.inl (1, (lSy 3))), .inr (.inl (2016, lK 0))] = true := by decide +kernel
set_option maxRecDepth 1000000 in
theorem programE3R27 : wRkE x_KT x_tb x_tyl x_ov0 u_ct u_hs x_knd lwFR lwGA lwGB programVA3_27 programVB3_27 8000 1 60 13 1 60 182 (programo3.map (wNo [0, 1, 2, 3, 5, 6, 7, 8, 9, 10, 11, 15, 14, 12, 16, 18, 27, 28, 20])) program_cl_ok lwF27 [.inl (lAdd (lSc (-1) (lSy 6)) (lAdd (lSy 3) (lK (-1)))), .inl (lAdd (lSc (-1) (lSy 6)) (lSy 3)), .inr (.inl (0, (lSy 3))), .inr (.inr (27, [(lSy 6)])), .inr (.inl (2016, lK 0))] = true := by decide +kernel
set_option maxRecDepth 1000000 in
theorem programE3R28 : wRkE x_KT x_tb x_tyl x_ov0 u_ct u_hs x_knd lwFR lwGA lwGB programVA3_28 programVB3_28 8000 1 60 13 1 60 182 (programo3.map (wNo [0, 1, 2, 3, 5, 6, 7, 8, 9, 10, 11, 15, 14, 12, 16, 18, 27, 28, 20])) program_cl_ok lwF28 [] = true := by decide +kernel
set_option maxRecDepth 1000000 in
theorem programE3R20 : wRkE x_KT x_tb x_tyl x_ov0 u_ct u_hs x_knd lwFR lwGA lwGB programVA3_20 programVB3_20 8000 1 60 13 1 60 182 (programo3.map (wNo [0, 1, 2, 3, 5, 6, 7, 8, 9, 10, 11, 15, 14, 12, 16, 18, 27, 28, 20])) program_cl_ok lwF20 [.inl (lAdd (lSy 6) (lAdd (lSc (-1) (lSy 3)) (lK (-1)))), .inr (.inr (20, [(lSy 6)])), .inr (.inl (2016, lK 0))] = true := by decide +kernel
set_option maxRecDepth 1000000 in
theorem programbc : wBc lwN lwFS.length 0 lwTA lwTB lwGA lwGB 5 24 42 u_ps uPA uPB program_in programOX = true := by decide +kernel
set_option maxRecDepth 1000000 in
theorem feedE0 : wEd x_KT x_tb x_tyl x_ov0 u_ct u_hs x_knd lwFR lwGA lwGB 5 24 42 feedWA0 feedWB0 8000 0 60 11 0 60 180 feed_in [.inl (lSy 6), .inl (lAdd (lSy 6) (lK (-1))), .inl (lAdd (lSy 6) (lK (-2))), .inl (lAdd (lSy 6) (lK (-3))), .inl (lAdd (lSy 6) (lK (-4))), .inl (lAdd (lSc (-1) (lSy 6)) (lK 4)), .inl (lAdd (lSc (-1) (lSy 6)) (lAdd (lSc (-1) (lSy 4)) (lK 160)))] feedo0 = true := by decide +kernel
set_option maxRecDepth 1000000 in
theorem feedE1 : wEd x_KT x_tb x_tyl x_ov0 u_ct u_hs x_knd lwFR lwGA lwGB 5 24 42 feedWA1 feedWB1 8000 1 60 11 1 60 180 feed_lo [] feedo1 = true := by decide +kernel
set_option maxRecDepth 1000000 in
theorem feedE2 : wEd x_KT x_tb x_tyl x_ov0 u_ct u_hs x_knd lwFR lwGA lwGB 5 24 42 feedWA2 feedWB2 8000 1 60 11 1 60 180 feed_hi [] feedo2 = true := by decide +kernel
set_option maxRecDepth 1000000 in
theorem feedE3 : wEd x_KT x_tb x_tyl x_ov0 u_ct u_hs x_knd lwFR lwGA lwGB 5 24 42 feedWA3 feedWB3 8000 1 60 11 1 60 180 feed_f1 [] feedo3 = true := by decide +kernel
set_option maxRecDepth 1000000 in
theorem feedE4 : wEd x_KT x_tb x_tyl x_ov0 u_ct u_hs x_knd lwFR lwGA lwGB 5 24 42 feedWA4 feedWB4 8000 1 60 11 1 60 180 feed_f2 [] feedo4 = true := by decide +kernel
set_option maxRecDepth 1000000 in
theorem feedE5 : wEd x_KT x_tb x_tyl x_ov0 u_ct u_hs x_knd lwFR lwGA lwGB 5 24 42 feedWA5 feedWB5 8000 1 60 11 1 60 180 feed_f3 [] feedo5 = true := by decide +kernel
set_option maxRecDepth 1000000 in
theorem feedE6 : wEd x_KT x_tb x_tyl x_ov0 u_ct u_hs x_knd lwFR lwGA lwGB 5 24 42 feedWA6 feedWB6 8000 1 60 11 1 60 180 feed_f4 [] feedo6 = true := by decide +kernel
set_option maxRecDepth 1000000 in
theorem feedE7 : wEd x_KT x_tb x_tyl x_ov0 u_ct u_hs x_knd lwFR lwGA lwGB 5 24 42 feedWA7 feedWB7 8000 1 60 11 1 60 180 feed_m0 [] feedo7 = true := by decide +kernel
set_option maxRecDepth 1000000 in
theorem feedE8 : wEd x_KT x_tb x_tyl x_ov0 u_ct u_hs x_knd lwFR lwGA lwGB 5 24 42 feedWA8 feedWB8 8000 1 60 11 1 60 180 feed_m1 [] (feedo8.map (wNo [25])) = true := by decide +kernel
set_option maxRecDepth 1000000 in
theorem feedE8R25 : wRkE x_KT x_tb x_tyl x_ov0 u_ct u_hs x_knd lwFR lwGA lwGB feedVA8_25 feedVB8_25 8000 1 60 11 1 60 180 (feedo8.map (wNo [25])) feed_m1 lwF25 [.inl (lAdd (lSy 6) (lSc (-1) (lSy 4))), .inl (lAdd (lSy 6) (lAdd (lSc (-1) (lSy 4)) (lK (-1)))), .inr (.inl (0, (lSy 4))), .inr (.inr (25, []))] = true := by decide +kernel
set_option maxRecDepth 1000000 in
theorem feedE9 : wEd x_KT x_tb x_tyl x_ov0 u_ct u_hs x_knd lwFR lwGA lwGB 5 24 42 feedWA9 feedWB9 8000 1 60 11 1 60 180 feed_m2 [] (feedo9.map (wNo [25])) = true := by decide +kernel
set_option maxRecDepth 1000000 in
theorem feedE9R25 : wRkE x_KT x_tb x_tyl x_ov0 u_ct u_hs x_knd lwFR lwGA lwGB feedVA9_25 feedVB9_25 8000 1 60 11 1 60 180 (feedo9.map (wNo [25])) feed_m2 lwF25 [.inl (lAdd (lSy 6) (lSc (-1) (lSy 4))), .inl (lAdd (lSy 6) (lAdd (lSc (-1) (lSy 4)) (lK (-1)))), .inl (lAdd (lSy 6) (lAdd (lSc (-1) (lSy 4)) (lK (-2)))), .inr (.inl (0, (lSy 4))), .inr (.inl (0, (lAdd (lSy 4) (lK 1)))), .inr (.inr (25, []))] = true := by decide +kernel
set_option maxRecDepth 1000000 in
theorem feedE10 : wEd x_KT x_tb x_tyl x_ov0 u_ct u_hs x_knd lwFR lwGA lwGB 5 24 42 feedWA10 feedWB10 8000 1 60 11 1 60 180 feed_m3 [] (feedo10.map (wNo [25])) = true := by decide +kernel
set_option maxRecDepth 1000000 in
theorem feedE10R25 : wRkE x_KT x_tb x_tyl x_ov0 u_ct u_hs x_knd lwFR lwGA lwGB feedVA10_25 feedVB10_25 8000 1 60 11 1 60 180 (feedo10.map (wNo [25])) feed_m3 lwF25 [.inl (lAdd (lSy 6) (lSc (-1) (lSy 4))), .inl (lAdd (lSy 6) (lAdd (lSc (-1) (lSy 4)) (lK (-1)))), .inl (lAdd (lSy 6) (lAdd (lSc (-1) (lSy 4)) (lK (-2)))), .inl (lAdd (lSy 6) (lAdd (lSc (-1) (lSy 4)) (lK (-3)))), .inr (.inl (0, (lSy 4))), .inr (.inl (0, (lAdd (lSy 4) (lK 1)))), .inr (.inl (0, (lAdd (lSy 4) (lK 2)))), .inr (.inr (25, []))] = true := by decide +kernel
set_option maxRecDepth 1000000 in
theorem feedE11 : wEd x_KT x_tb x_tyl x_ov0 u_ct u_hs x_knd lwFR lwGA lwGB 5 24 42 feedWA11 feedWB11 8000 1 60 11 1 60 180 feed_m4 [] (feedo11.map (wNo [25])) = true := by decide +kernel
set_option maxRecDepth 1000000 in
theorem feedE11R25 : wRkE x_KT x_tb x_tyl x_ov0 u_ct u_hs x_knd lwFR lwGA lwGB feedVA11_25 feedVB11_25 8000 1 60 11 1 60 180 (feedo11.map (wNo [25])) feed_m4 lwF25 [.inl (lAdd (lSy 6) (lSc (-1) (lSy 4))), .inl (lAdd (lSy 6) (lAdd (lSc (-1) (lSy 4)) (lK (-1)))), .inl (lAdd (lSy 6) (lAdd (lSc (-1) (lSy 4)) (lK (-2)))), .inl (lAdd (lSy 6) (lAdd (lSc (-1) (lSy 4)) (lK (-3)))), .inl (lAdd (lSy 6) (lAdd (lSc (-1) (lSy 4)) (lK (-4)))), .inr (.inl (0, (lSy 4))), .inr (.inl (0, (lAdd (lSy 4) (lK 1)))), .inr (.inl (0, (lAdd (lSy 4) (lK 2)))), .inr (.inl (0, (lAdd (lSy 4) (lK 3)))), .inr (.inr (25, []))] = true := by decide +kernel
set_option maxRecDepth 1000000 in
theorem feedbc : wBc lwN lwFS.length 2 lwTA lwTB lwGA lwGB 5 24 42 u_ps uPA uPB feed_in feedOX = true := by decide +kernel
set_option maxRecDepth 1000000 in
theorem rlE0 : wEd x_KT x_tb x_tyl x_ov0 x_cp u_hs x_knd lwFR lwGA lwGB 6 29 43 rlWA0 rlWB0 8000 0 60 15 0 60 183 rl_in [.inl (lAdd (lSc (-1) (lSy 6)) (lAdd (lSy 4) (lK (-1)))), .inr (.inl (1001, (lAdd (lSc (-1) (lSy 6)) (lK 159)))), .inr (.inr (25, [(lSy 6)])), .inl (lAdd (lSy 7) (lK (-97))), .inl (lAdd (lSy 7) (lK (-98))), .inl (lAdd (lSy 7) (lK (-101))), .inl (lAdd (lSy 7) (lK (-102))), .inl (lAdd (lSy 7) (lK (-103))), .inl (lAdd (lSy 7) (lK (-104))), .inl (lAdd (lSy 7) (lK (-105))), .inl (lAdd (lSy 7) (lK (-106))), .inl (lAdd (lSy 7) (lK (-108))), .inl (lAdd (lSy 7) (lK (-109))), .inl (lAdd (lSy 7) (lK (-110))), .inl (lAdd (lSy 7) (lK (-111))), .inl (lAdd (lSy 7) (lK (-112))), .inl (lAdd (lSy 7) (lK (-115))), .inl (lAdd (lSy 7) (lK (-116)))] rlo0 = true := by decide +kernel
set_option maxRecDepth 1000000 in
theorem rlE1 : wEd x_KT x_tb x_tyl x_ov0 x_cp u_hs x_knd lwFR lwGA lwGB 6 29 43 rlWA1 rlWB1 8000 0 60 15 0 60 183 rl_b8 [.inl (lAdd (lSc (-1) (lSy 6)) (lAdd (lSy 4) (lK (-2)))), .inr (.inl (1001, (lAdd (lSc (-1) (lSy 6)) (lK 158)))), .inr (.inr (25, [(lAdd (lSy 6) (lK 1))])), .inl (lAdd (lSy 8) (lK (-102))), .inl (lAdd (lSy 8) (lK (-103))), .inl (lAdd (lSy 8) (lK (-110))), .inl (lAdd (lSy 8) (lK (-111)))] rlo1 = true := by decide +kernel
set_option maxRecDepth 1000000 in
theorem rlE2 : wEd x_KT x_tb x_tyl x_ov0 x_cp u_hs x_knd lwFR lwGA lwGB 6 29 43 rlWA2 rlWB2 8000 0 60 15 0 60 183 rl_b10 [.inl (lAdd (lSc (-1) (lSy 6)) (lAdd (lSy 4) (lK (-8)))), .inr (.inl (1001, (lAdd (lSc (-1) (lSy 6)) (lK 152)))), .inr (.inr (25, [(lAdd (lSy 6) (lK 7))])), .inl (lAdd (lSy 8) (lK (-48))), .inl (lAdd (lSy 8) (lK (-58)))] rlo2 = true := by decide +kernel
set_option maxRecDepth 1000000 in
theorem rlE3 : wEd x_KT x_tb x_tyl x_ov0 x_cp u_hs x_knd lwFR lwGA lwGB 6 29 43 rlWA3 rlWB3 8000 0 60 15 0 60 183 rl_b15 [.inl (lAdd (lSc (-1) (lSy 6)) (lAdd (lSy 4) (lK (-2)))), .inr (.inl (1001, (lAdd (lSc (-1) (lSy 6)) (lK 158)))), .inr (.inr (25, [(lAdd (lSy 6) (lK 1))])), .inl (lAdd (lSy 8) (lK (-101))), .inl (lAdd (lSy 8) (lK (-102))), .inl (lAdd (lSy 8) (lK (-117))), .inl (lAdd (lSy 8) (lK (-118)))] rlo3 = true := by decide +kernel
set_option maxRecDepth 1000000 in
theorem rlE4 : wEd x_KT x_tb x_tyl x_ov0 x_cp u_hs x_knd lwFR lwGA lwGB 6 29 43 rlWA4 rlWB4 8000 0 60 15 0 60 183 rl_b19 [.inl (lAdd (lSc (-1) (lSy 6)) (lAdd (lSy 4) (lK (-5)))), .inr (.inl (1001, (lAdd (lSc (-1) (lSy 6)) (lK 155)))), .inr (.inr (25, [(lAdd (lSy 6) (lK 4))])), .inl (lAdd (lSy 9) (lK (-60))), .inl (lAdd (lSy 9) (lK (-61))), .inl (lAdd (lSy 9) (lK (-62)))] rlo4 = true := by decide +kernel
set_option maxRecDepth 1000000 in
theorem rlE5 : wEd x_KT x_tb x_tyl x_ov0 x_cp u_hs x_knd lwFR lwGA lwGB 6 29 43 rlWA5 rlWB5 8000 0 60 15 0 60 183 rl_b29 [.inl (lAdd (lSc (-1) (lSy 6)) (lAdd (lSy 4) (lK (-8)))), .inr (.inl (1001, (lAdd (lSc (-1) (lSy 6)) (lK 152)))), .inr (.inr (25, [(lAdd (lSy 6) (lK 7))])), .inl (lAdd (lSy 9) (lK (-48))), .inl (lAdd (lSy 9) (lK (-58)))] rlo5 = true := by decide +kernel
set_option maxRecDepth 1000000 in
theorem rlE6 : wEd x_KT x_tb x_tyl x_ov0 x_cp u_hs x_knd lwFR lwGA lwGB 6 29 43 rlWA6 rlWB6 8000 0 60 15 0 60 183 rl_b40 [.inl (lAdd (lSc (-1) (lSy 6)) (lAdd (lSy 4) (lK (-9)))), .inr (.inl (1001, (lAdd (lSc (-1) (lSy 6)) (lK 151)))), .inr (.inr (25, [(lAdd (lSy 6) (lK 8))])), .inl (lAdd (lSy 10) (lK (-48))), .inl (lAdd (lSy 10) (lK (-58)))] rlo6 = true := by decide +kernel
set_option maxRecDepth 1000000 in
theorem rlE7 : wEdT x_KT x_tb x_tyl x_ov0 x_cp u_hs x_knd lwFR lwGA lwGB 6 29 43 rlWA7 rlWB7 [(2, 1, 1, 0)] 8000 1 60 15 1 60 183 rl_b17 rlo7 = true := by decide +kernel
theorem rlT7 : wTpk x_KT lwGA lwGB 25 2 1 160 (wUs rl_b17) lwFR = true := by decide +kernel
set_option maxRecDepth 1000000 in
theorem rlE8 : wEdT x_KT x_tb x_tyl x_ov0 x_cp u_hs x_knd lwFR lwGA lwGB 6 29 43 rlWA8 rlWB8 [(2, 1, 1, 0)] 8000 1 60 15 1 60 183 rl_b1 rlo8 = true := by decide +kernel
theorem rlT8 : wTpk x_KT lwGA lwGB 25 2 1 160 (wUs rl_b1) lwFR = true := by decide +kernel
end XRuC27
