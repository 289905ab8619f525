/-! Runs: checks, 15. -/
noncomputable section XRuC15
set_option maxRecDepth 1000000 in
theorem st0E9 : wEd x_KT x_tb x_tyl x_ov0 u_ct u_hs x_knd lwFR lwGA lwGB 32 41 43 st0WA9 st0WB9 8000 1 60 69 1 60 205 st0_op5 [.inr (.inr (3, [(lSy 32)])), .inr (.inr (3, [(lSy 33)])), .inr (.inr (2, [(lSy 6), (lSy 32)]))] (st0o9.map (wNo [29, 30])) = true := by decide +kernel
set_option maxRecDepth 1000000 in
theorem st0E9R29 : wRkE x_KT x_tb x_tyl x_ov0 u_ct u_hs x_knd lwFR lwGA lwGB st0VA9_29 st0VB9_29 8000 1 60 69 1 60 205 (st0o9.map (wNo [29, 30])) st0_op5 lwF29 [.inr (.inr (3, [(lSy 32)])), .inr (.inr (3, [(lSy 33)])), .inr (.inr (2, [(lSy 6), (lSy 32)])), .inl (lAdd (lSy 35) (lSc (-1) (lSy 32))), .inl (lAdd (lSc (-1) (lSy 35)) (lSy 32)), .inr (.inl (0, (lSy 32))), .inr (.inr (3, []))] = true := by decide +kernel
set_option maxRecDepth 1000000 in
theorem st0E9R30 : wRkE x_KT x_tb x_tyl x_ov0 u_ct u_hs x_knd lwFR lwGA lwGB st0VA9_30 st0VB9_30 8000 1 60 69 1 60 205 (st0o9.map (wNo [29, 30])) st0_op5 lwF30 [.inr (.inr (3, [(lSy 32)])), .inr (.inr (3, [(lSy 33)])), .inr (.inr (2, [(lSy 6), (lSy 32)])), .inr (.inr (4, [(lSy 35)]))] = true := by decide +kernel
set_option maxRecDepth 1000000 in
theorem st0E10 : wEd x_KT x_tb x_tyl x_ov0 u_ct u_hs x_knd lwFR lwGA lwGB 32 41 43 st0WA10 st0WB10 8000 1 60 69 1 60 205 st0_op6 [.inr (.inr (3, [(lSy 32)])), .inr (.inr (3, [(lSy 33)])), .inr (.inr (2, [(lSy 6), (lSy 32)]))] (st0o10.map (wNo [29, 30])) = true := by decide +kernel
set_option maxRecDepth 1000000 in
theorem st0E10R29 : wRkE x_KT x_tb x_tyl x_ov0 u_ct u_hs x_knd lwFR lwGA lwGB st0VA10_29 st0VB10_29 8000 1 60 69 1 60 205 (st0o10.map (wNo [29, 30])) st0_op6 lwF29 [.inr (.inr (3, [(lSy 32)])), .inr (.inr (3, [(lSy 33)])), .inr (.inr (2, [(lSy 6), (lSy 32)])), .inl (lAdd (lSy 35) (lSc (-1) (lSy 32))), .inl (lAdd (lSc (-1) (lSy 35)) (lSy 32)), .inr (.inl (0, (lSy 32))), .inr (.inr (3, []))] = true := by decide +kernel
end XRuC15
