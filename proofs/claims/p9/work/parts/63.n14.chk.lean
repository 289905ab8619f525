/-! Runs: checks, 14. -/
noncomputable section XRuC14
set_option maxRecDepth 1000000 in
theorem st0E6R38 : wRkE x_KT x_tb x_tyl x_ov0 u_ct u_hs x_knd lwFR lwGA lwGB st0VA6_38 st0VB6_38 8000 1 60 69 1 60 205 (st0o6.map (wNo [34, 35, 36, 37, 38, 31, 32])) st0_op2 lwF38 [.inr (.inr (3, [(lSy 32)])), .inl (lAdd (lSc (-1) (lSy 35)) (lAdd (lSy 3) (lK (-1)))), .inr (.inr (13, [(lSy 35), (lSy 36)])), .inr (.inl (2000, lK 0))] = true := by decide +kernel
set_option maxRecDepth 1000000 in
theorem st0E6R31 : wRkE x_KT x_tb x_tyl x_ov0 u_ct u_hs x_knd lwFR lwGA lwGB st0VA6_31 st0VB6_31 8000 1 60 69 1 60 205 (st0o6.map (wNo [34, 35, 36, 37, 38, 31, 32])) st0_op2 lwF31 [.inr (.inr (3, [(lSy 32)])), .inl (lAdd (lSc (-1) (lSy 35)) (lAdd (lSy 3) (lK (-1)))), .inr (.inr (7, [(lSy 35), (lSy 36)])), .inr (.inl (2000, lK 0))] = true := by decide +kernel
set_option maxRecDepth 1000000 in
theorem st0E6R32 : wRkE x_KT x_tb x_tyl x_ov0 u_ct u_hs x_knd lwFR lwGA lwGB st0VA6_32 st0VB6_32 8000 1 60 69 1 60 205 (st0o6.map (wNo [34, 35, 36, 37, 38, 31, 32])) st0_op2 lwF32 [.inr (.inr (3, [(lSy 32)])), .inl (lAdd (lSc (-1) (lSy 35)) (lAdd (lSy 3) (lK (-1)))), .inr (.inr (8, [(lSy 35), (lSy 36)])), .inr (.inl (2000, lK 0))] = true := by decide +kernel
set_option maxRecDepth 1000000 in
theorem st0E7 : wEd x_KT x_tb x_tyl x_ov0 u_ct u_hs x_knd lwFR lwGA lwGB 32 41 43 st0WA7 st0WB7 8000 1 60 69 1 60 205 st0_op3 [.inr (.inr (2, [(lSy 6), (lSy 32)]))] (st0o7.map (wNo [29, 30])) = true := by decide +kernel
set_option maxRecDepth 1000000 in
theorem st0E7R29 : wRkE x_KT x_tb x_tyl x_ov0 u_ct u_hs x_knd lwFR lwGA lwGB st0VA7_29 st0VB7_29 8000 1 60 69 1 60 205 (st0o7.map (wNo [29, 30])) st0_op3 lwF29 [.inr (.inr (2, [(lSy 6), (lSy 32)])), .inl (lAdd (lSy 35) (lSc (-1) (lSy 32))), .inl (lAdd (lSc (-1) (lSy 35)) (lSy 32)), .inr (.inl (0, (lSy 32))), .inr (.inr (3, []))] = true := by decide +kernel
set_option maxRecDepth 1000000 in
theorem st0E7R30 : wRkE x_KT x_tb x_tyl x_ov0 u_ct u_hs x_knd lwFR lwGA lwGB st0VA7_30 st0VB7_30 8000 1 60 69 1 60 205 (st0o7.map (wNo [29, 30])) st0_op3 lwF30 [.inr (.inr (2, [(lSy 6), (lSy 32)])), .inr (.inr (4, [(lSy 35)]))] = true := by decide +kernel
set_option maxRecDepth 1000000 in
theorem st0E8 : wEd x_KT x_tb x_tyl x_ov0 u_ct u_hs x_knd lwFR lwGA lwGB 32 41 43 st0WA8 st0WB8 8000 1 60 69 1 60 205 st0_op4 [.inr (.inr (3, [(lSy 33)])), .inr (.inr (2, [(lSy 6), (lSy 32)]))] (st0o8.map (wNo [29, 30])) = true := by decide +kernel
set_option maxRecDepth 1000000 in
theorem st0E8R29 : wRkE x_KT x_tb x_tyl x_ov0 u_ct u_hs x_knd lwFR lwGA lwGB st0VA8_29 st0VB8_29 8000 1 60 69 1 60 205 (st0o8.map (wNo [29, 30])) st0_op4 lwF29 [.inr (.inr (3, [(lSy 33)])), .inr (.inr (2, [(lSy 6), (lSy 32)])), .inl (lAdd (lSy 35) (lSc (-1) (lSy 32))), .inl (lAdd (lSc (-1) (lSy 35)) (lSy 32)), .inr (.inl (0, (lSy 32))), .inr (.inr (3, []))] = true := by decide +kernel
set_option maxRecDepth 1000000 in
theorem st0E8R30 : wRkE x_KT x_tb x_tyl x_ov0 u_ct u_hs x_knd lwFR lwGA lwGB st0VA8_30 st0VB8_30 8000 1 60 69 1 60 205 (st0o8.map (wNo [29, 30])) st0_op4 lwF30 [.inr (.inr (3, [(lSy 33)])), .inr (.inr (2, [(lSy 6), (lSy 32)])), .inr (.inr (4, [(lSy 35)]))] = true := by decide +kernel
end XRuC14
