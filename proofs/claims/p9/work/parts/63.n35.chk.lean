/-! Runs: checks, 35. -/
noncomputable section XRuC35
set_option maxRecDepth 1000000 in
theorem rlE45 : wEdT x_KT x_tb x_tyl x_ov0 x_cp u_hs x_knd lwFR lwGA lwGB 6 29 43 rlWA45 rlWB45 [(2, 1, 1, 0)] 8000 1 60 15 1 60 183 rl_b44 rlo45 = true := by decide +kernel
theorem rlT45 : wTpk x_KT lwGA lwGB 25 2 1 160 (wUs rl_b44) lwFR = true := by decide +kernel
set_option maxRecDepth 1000000 in
theorem rlE46 : wEdT x_KT x_tb x_tyl x_ov0 x_cp u_hs x_knd lwFR lwGA lwGB 6 29 43 rlWA46 rlWB46 [(2, 1, 1, 0)] 8000 1 60 15 1 60 183 rl_b45 rlo46 = true := by decide +kernel
theorem rlT46 : wTpk x_KT lwGA lwGB 25 2 1 160 (wUs rl_b45) lwFR = true := by decide +kernel
set_option maxRecDepth 1000000 in
theorem rlE47 : wEd x_KT x_tb x_tyl x_ov0 x_cp u_hs x_knd lwFR lwGA lwGB 6 29 43 rlWA47 rlWB47 8000 1 60 15 1 60 183 rl_op0 [] (rlo47.map (wNo [1, 0, 33])) = true := by decide +kernel
set_option maxRecDepth 1000000 in
theorem rlE47R1 : wRkE x_KT x_tb x_tyl x_ov0 x_cp u_hs x_knd lwFR lwGA lwGB rlVA47_1 rlVB47_1 8000 1 60 15 1 60 183 (rlo47.map (wNo [1, 0, 33])) rl_op0 lwF1 [.inl (lAdd (lSc (-1) (lSy 10)) (lAdd (lSy 3) (lK (-1)))), .inr (.inr (27, [(lSy 10)])), .inr (.inr (26, [(lSy 10), (lSy 3)])), .inr (.inr (1, [])), .inr (.inl (2016, lK 0))] = true := by decide +kernel
set_option maxRecDepth 1000000 in
theorem rlE47R0 : wRkE x_KT x_tb x_tyl x_ov0 x_cp u_hs x_knd lwFR lwGA lwGB rlVA47_0 rlVB47_0 8000 1 60 15 1 60 183 (rlo47.map (wNo [1, 0, 33])) rl_op0 lwF0 [.inl (lAdd (lSc (-1) (lSy 10)) (lAdd (lSy 3) (lK (-1)))), .inr (.inr (27, [(lSy 10)])), .inr (.inr (26, [(lSy 10), (lSy 3)])), .inr (.inr (0, [])), .inr (.inl (2016, lK 0))] = true := by decide +kernel
set_option maxRecDepth 1000000 in
theorem rlE47R33 : wRkE x_KT x_tb x_tyl x_ov0 x_cp u_hs x_knd lwFR lwGA lwGB rlVA47_33 rlVB47_33 8000 1 60 15 1 60 183 (rlo47.map (wNo [1, 0, 33])) rl_op0 lwF33 [.inl (lAdd (lSy 10) (lAdd (lSc (-1) (lSy 5)) (lK 1))), .inl (lAdd (lSc (-1) (lSy 10)) (lAdd (lSy 5) (lK (-1)))), .inr (.inl (0, (lAdd (lSy 5) (lK (-1))))), .inr (.inl (1004, (lAdd (lSc (-1) (lSy 10)) (lAdd (lSy 5) (lK (-2)))))), .inr (.inr (29, [])), .inr (.inl (2016, lK 0))] = true := by decide +kernel
set_option maxRecDepth 1000000 in
theorem rlE48 : wEd x_KT x_tb x_tyl x_ov0 x_cp u_hs x_knd lwFR lwGA lwGB 6 29 43 rlWA48 rlWB48 8000 1 60 15 1 60 183 rl_op1 [] (rlo48.map (wNo [1, 0, 33])) = true := by decide +kernel
set_option maxRecDepth 1000000 in
theorem rlE48R1 : wRkE x_KT x_tb x_tyl x_ov0 x_cp u_hs x_knd lwFR lwGA lwGB rlVA48_1 rlVB48_1 8000 1 60 15 1 60 183 (rlo48.map (wNo [1, 0, 33])) rl_op1 lwF1 [.inl (lAdd (lSc (-1) (lSy 10)) (lAdd (lSy 3) (lK (-1)))), .inr (.inr (27, [(lSy 10)])), .inr (.inr (26, [(lSy 10), (lSy 3)])), .inr (.inr (1, [])), .inr (.inl (2016, lK 0))] = true := by decide +kernel
set_option maxRecDepth 1000000 in
theorem rlE48R0 : wRkE x_KT x_tb x_tyl x_ov0 x_cp u_hs x_knd lwFR lwGA lwGB rlVA48_0 rlVB48_0 8000 1 60 15 1 60 183 (rlo48.map (wNo [1, 0, 33])) rl_op1 lwF0 [.inl (lAdd (lSc (-1) (lSy 10)) (lAdd (lSy 3) (lK (-1)))), .inr (.inr (27, [(lSy 10)])), .inr (.inr (26, [(lSy 10), (lSy 3)])), .inr (.inr (0, [])), .inr (.inl (2016, lK 0))] = true := by decide +kernel
set_option maxRecDepth 1000000 in
theorem rlE48R33 : wRkE x_KT x_tb x_tyl x_ov0 x_cp u_hs x_knd lwFR lwGA lwGB rlVA48_33 rlVB48_33 8000 1 60 15 1 60 183 (rlo48.map (wNo [1, 0, 33])) rl_op1 lwF33 [.inl (lAdd (lSy 10) (lAdd (lSc (-1) (lSy 5)) (lK 1))), .inl (lAdd (lSc (-1) (lSy 10)) (lAdd (lSy 5) (lK (-1)))), .inr (.inl (0, (lAdd (lSy 5) (lK (-1))))), .inr (.inl (1004, (lAdd (lSc (-1) (lSy 10)) (lAdd (lSy 5) (lK (-2)))))), .inr (.inr (29, [])), .inr (.inl (2016, lK 0))] = true := by decide +kernel
set_option maxRecDepth 1000000 in
theorem rlE49 : wEd x_KT x_tb x_tyl x_ov0 x_cp u_hs x_knd lwFR lwGA lwGB 6 29 43 rlWA49 rlWB49 8000 1 60 15 1 60 183 rl_op2 [] (rlo49.map (wNo [1, 0, 33])) = true := by decide +kernel
set_option maxRecDepth 1000000 in
theorem rlE49R1 : wRkE x_KT x_tb x_tyl x_ov0 x_cp u_hs x_knd lwFR lwGA lwGB rlVA49_1 rlVB49_1 8000 1 60 15 1 60 183 (rlo49.map (wNo [1, 0, 33])) rl_op2 lwF1 [.inl (lAdd (lSc (-1) (lSy 10)) (lAdd (lSy 3) (lK (-1)))), .inr (.inr (27, [(lSy 10)])), .inr (.inr (26, [(lSy 10), (lSy 3)])), .inr (.inr (1, [])), .inr (.inl (2016, lK 0))] = true := by decide +kernel
set_option maxRecDepth 1000000 in
theorem rlE49R0 : wRkE x_KT x_tb x_tyl x_ov0 x_cp u_hs x_knd lwFR lwGA lwGB rlVA49_0 rlVB49_0 8000 1 60 15 1 60 183 (rlo49.map (wNo [1, 0, 33])) rl_op2 lwF0 [.inl (lAdd (lSc (-1) (lSy 10)) (lAdd (lSy 3) (lK (-1)))), .inr (.inr (27, [(lSy 10)])), .inr (.inr (26, [(lSy 10), (lSy 3)])), .inr (.inr (0, [])), .inr (.inl (2016, lK 0))] = true := by decide +kernel
set_option maxRecDepth 1000000 in
theorem rlE49R33 : wRkE x_KT x_tb x_tyl x_ov0 x_cp u_hs x_knd lwFR lwGA lwGB rlVA49_33 rlVB49_33 8000 1 60 15 1 60 183 (rlo49.map (wNo [1, 0, 33])) rl_op2 lwF33 [.inl (lAdd (lSy 10) (lAdd (lSc (-1) (lSy 5)) (lK 1))), .inl (lAdd (lSc (-1) (lSy 10)) (lAdd (lSy 5) (lK (-1)))), .inr (.inl (0, (lAdd (lSy 5) (lK (-1))))), .inr (.inl (1004, (lAdd (lSc (-1) (lSy 10)) (lAdd (lSy 5) (lK (-2)))))), .inr (.inr (29, [])), .inr (.inl (2016, lK 0))] = true := by decide +kernel
set_option maxRecDepth 1000000 in
theorem rlE50 : wEd x_KT x_tb x_tyl x_ov0 x_cp u_hs x_knd lwFR lwGA lwGB 6 29 43 rlWA50 rlWB50 8000 1 60 15 1 60 183 rl_op3 [] (rlo50.map (wNo [1, 0, 33])) = true := by decide +kernel
set_option maxRecDepth 1000000 in
theorem rlE50R1 : wRkE x_KT x_tb x_tyl x_ov0 x_cp u_hs x_knd lwFR lwGA lwGB rlVA50_1 rlVB50_1 8000 1 60 15 1 60 183 (rlo50.map (wNo [1, 0, 33])) rl_op3 lwF1 [.inl (lAdd (lSc (-1) (lSy 10)) (lAdd (lSy 3) (lK (-1)))), .inr (.inr (27, [(lSy 10)])), .inr (.inr (26, [(lSy 10), (lSy 3)])), .inr (.inr (1, [])), .inr (.inl (2016, lK 0))] = true := by decide +kernel
set_option maxRecDepth 1000000 in
theorem rlE50R0 : wRkE x_KT x_tb x_tyl x_ov0 x_cp u_hs x_knd lwFR lwGA lwGB rlVA50_0 rlVB50_0 8000 1 60 15 1 60 183 (rlo50.map (wNo [1, 0, 33])) rl_op3 lwF0 [.inl (lAdd (lSc (-1) (lSy 10)) (lAdd (lSy 3) (lK (-1)))), .inr (.inr (27, [(lSy 10)])), .inr (.inr (26, [(lSy 10), (lSy 3)])), .inr (.inr (0, [])), .inr (.inl (2016, lK 0))] = true := by decide +kernel
set_option maxRecDepth 1000000 in
theorem rlE50R33 : wRkE x_KT x_tb x_tyl x_ov0 x_cp u_hs x_knd lwFR lwGA lwGB rlVA50_33 rlVB50_33 8000 1 60 15 1 60 183 (rlo50.map (wNo [1, 0, 33])) rl_op3 lwF33 [.inl (lAdd (lSy 10) (lAdd (lSc (-1) (lSy 5)) (lK 1))), .inl (lAdd (lSc (-1) (lSy 10)) (lAdd (lSy 5) (lK (-1)))), .inr (.inl (0, (lAdd (lSy 5) (lK (-1))))), .inr (.inl (1004, (lAdd (lSc (-1) (lSy 10)) (lAdd (lSy 5) (lK (-2)))))), .inr (.inr (29, [])), .inr (.inl (2016, lK 0))] = true := by decide +kernel
set_option maxRecDepth 1000000 in
theorem rlE51 : wEd x_KT x_tb x_tyl x_ov0 x_cp u_hs x_knd lwFR lwGA lwGB 6 29 43 rlWA51 rlWB51 8000 1 60 15 1 60 183 rl_op4 [] (rlo51.map (wNo [1, 0, 33])) = true := by decide +kernel
set_option maxRecDepth 1000000 in
theorem rlE51R1 : wRkE x_KT x_tb x_tyl x_ov0 x_cp u_hs x_knd lwFR lwGA lwGB rlVA51_1 rlVB51_1 8000 1 60 15 1 60 183 (rlo51.map (wNo [1, 0, 33])) rl_op4 lwF1 [.inl (lAdd (lSc (-1) (lSy 10)) (lAdd (lSy 3) (lK (-1)))), .inr (.inr (27, [(lSy 10)])), .inr (.inr (26, [(lSy 10), (lSy 3)])), .inr (.inr (1, [])), .inr (.inl (2016, lK 0))] = true := by decide +kernel
set_option maxRecDepth 1000000 in
theorem rlE51R0 : wRkE x_KT x_tb x_tyl x_ov0 x_cp u_hs x_knd lwFR lwGA lwGB rlVA51_0 rlVB51_0 8000 1 60 15 1 60 183 (rlo51.map (wNo [1, 0, 33])) rl_op4 lwF0 [.inl (lAdd (lSc (-1) (lSy 10)) (lAdd (lSy 3) (lK (-1)))), .inr (.inr (27, [(lSy 10)])), .inr (.inr (26, [(lSy 10), (lSy 3)])), .inr (.inr (0, [])), .inr (.inl (2016, lK 0))] = true := by decide +kernel
set_option maxRecDepth 1000000 in
theorem rlE51R33 : wRkE x_KT x_tb x_tyl x_ov0 x_cp u_hs x_knd lwFR lwGA lwGB rlVA51_33 rlVB51_33 8000 1 60 15 1 60 183 (rlo51.map (wNo [1, 0, 33])) rl_op4 lwF33 [.inl (lAdd (lSy 10) (lAdd (lSc (-1) (lSy 5)) (lK 1))), .inl (lAdd (lSc (-1) (lSy 10)) (lAdd (lSy 5) (lK (-1)))), .inr (.inl (0, (lAdd (lSy 5) (lK (-1))))), .inr (.inl (1004, (lAdd (lSc (-1) (lSy 10)) (lAdd (lSy 5) (lK (-2)))))), .inr (.inr (29, [])), .inr (.inl (2016, lK 0))] = true := by decide +kernel
set_option maxRecDepth 1000000 in
theorem rlE52 : wEd x_KT x_tb x_tyl x_ov0 x_cp u_hs x_knd lwFR lwGA lwGB 6 29 43 rlWA52 rlWB52 8000 1 60 15 1 60 183 rl_op5 [] (rlo52.map (wNo [1, 0, 33])) = true := by decide +kernel
set_option maxRecDepth 1000000 in
theorem rlE52R1 : wRkE x_KT x_tb x_tyl x_ov0 x_cp u_hs x_knd lwFR lwGA lwGB rlVA52_1 rlVB52_1 8000 1 60 15 1 60 183 (rlo52.map (wNo [1, 0, 33])) rl_op5 lwF1 [.inl (lAdd (lSc (-1) (lSy 10)) (lAdd (lSy 3) (lK (-1)))), .inr (.inr (27, [(lSy 10)])), .inr (.inr (26, [(lSy 10), (lSy 3)])), .inr (.inr (1, [])), .inr (.inl (2016, lK 0))] = true := by decide +kernel
set_option maxRecDepth 1000000 in
theorem rlE52R0 : wRkE x_KT x_tb x_tyl x_ov0 x_cp u_hs x_knd lwFR lwGA lwGB rlVA52_0 rlVB52_0 8000 1 60 15 1 60 183 (rlo52.map (wNo [1, 0, 33])) rl_op5 lwF0 [.inl (lAdd (lSc (-1) (lSy 10)) (lAdd (lSy 3) (lK (-1)))), .inr (.inr (27, [(lSy 10)])), .inr (.inr (26, [(lSy 10), (lSy 3)])), .inr (.inr (0, [])), .inr (.inl (2016, lK 0))] = true := by decide +kernel
end XRuC35
