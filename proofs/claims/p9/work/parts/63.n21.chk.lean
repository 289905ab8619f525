/-! Runs: checks, 21. -/
noncomputable section XRuC21
set_option maxRecDepth 1000000 in
theorem st1E11 : wEd x_KT x_tb x_tyl x_ov0 u_ct u_hs x_knd lwFR lwGA lwGB 34 41 43 st1WA11 st1WB11 8000 1 60 69 1 60 205 st1_op7 [.inr (.inr (4, [(lSy 34)])), .inr (.inr (4, [(lSy 35)]))] st1o11 = true := by decide +kernel
set_option maxRecDepth 1000000 in
theorem st1E12 : wEd x_KT x_tb x_tyl x_ov0 u_ct u_hs x_knd lwFR lwGA lwGB 34 41 43 st1WA12 st1WB12 8000 1 60 69 1 60 205 st1_op8 [.inr (.inr (4, [(lSy 34)]))] st1o12 = true := by decide +kernel
set_option maxRecDepth 1000000 in
theorem st1E13 : wEd x_KT x_tb x_tyl x_ov0 u_ct u_hs x_knd lwFR lwGA lwGB 34 41 43 st1WA13 st1WB13 8000 1 60 69 1 60 205 st1_op9 [] st1o13 = true := by decide +kernel
set_option maxRecDepth 1000000 in
theorem st1E14 : wEd x_KT x_tb x_tyl x_ov0 u_ct u_hs x_knd lwFR lwGA lwGB 34 41 43 st1WA14 st1WB14 8000 1 60 69 1 60 205 st1_op10 [] st1o14 = true := by decide +kernel
set_option maxRecDepth 1000000 in
theorem st1E15 : wEd x_KT x_tb x_tyl x_ov0 u_ct u_hs x_knd lwFR lwGA lwGB 34 41 43 st1WA15 st1WB15 8000 1 60 69 1 60 205 st1_op11 [.inr (.inr (4, [(lSy 34)])), .inr (.inr (4, [(lSy 35)]))] st1o15 = true := by decide +kernel
set_option maxRecDepth 1000000 in
theorem st1E16 : wEd x_KT x_tb x_tyl x_ov0 u_ct u_hs x_knd lwFR lwGA lwGB 34 41 43 st1WA16 st1WB16 8000 1 60 69 1 60 205 st1_op2i [.inr (.inr (4, [(lSy 34)]))] (st1o16.map (wNo [34, 35, 36, 37, 38, 31, 32])) = true := by decide +kernel
set_option maxRecDepth 1000000 in
theorem st1E16R34 : wRkE x_KT x_tb x_tyl x_ov0 u_ct u_hs x_knd lwFR lwGA lwGB st1VA16_34 st1VB16_34 8000 1 60 69 1 60 205 (st1o16.map (wNo [34, 35, 36, 37, 38, 31, 32])) st1_op2i lwF34 [.inr (.inr (4, [(lSy 34)])), .inr (.inr (9, [(lSy 37)])), .inr (.inl (2000, lK 0))] = true := by decide +kernel
set_option maxRecDepth 1000000 in
theorem st1E16R35 : wRkE x_KT x_tb x_tyl x_ov0 u_ct u_hs x_knd lwFR lwGA lwGB st1VA16_35 st1VB16_35 8000 1 60 69 1 60 205 (st1o16.map (wNo [34, 35, 36, 37, 38, 31, 32])) st1_op2i lwF35 [.inr (.inr (4, [(lSy 34)])), .inl (lAdd (lSy 37) (lSc (-1) (lSy 29))), .inl (lAdd (lSc (-1) (lSy 37)) (lSy 29)), .inr (.inl (0, (lSy 29))), .inr (.inr (10, [])), .inr (.inl (2000, lK 0))] = true := by decide +kernel
set_option maxRecDepth 1000000 in
theorem st1E16R36 : wRkE x_KT x_tb x_tyl x_ov0 u_ct u_hs x_knd lwFR lwGA lwGB st1VA16_36 st1VB16_36 8000 1 60 69 1 60 205 (st1o16.map (wNo [34, 35, 36, 37, 38, 31, 32])) st1_op2i lwF36 [.inr (.inr (4, [(lSy 34)])), .inl (lAdd (lSc (-1) (lSy 37)) (lAdd (lSy 3) (lK (-1)))), .inr (.inr (11, [(lSy 37), (lSy 38)])), .inr (.inl (2000, lK 0))] = true := by decide +kernel
set_option maxRecDepth 1000000 in
theorem st1E16R37 : wRkE x_KT x_tb x_tyl x_ov0 u_ct u_hs x_knd lwFR lwGA lwGB st1VA16_37 st1VB16_37 8000 1 60 69 1 60 205 (st1o16.map (wNo [34, 35, 36, 37, 38, 31, 32])) st1_op2i lwF37 [.inr (.inr (4, [(lSy 34)])), .inl (lAdd (lSc (-1) (lSy 37)) (lAdd (lSy 3) (lK (-1)))), .inr (.inr (12, [(lSy 37), (lSy 38)])), .inr (.inl (2000, lK 0))] = true := by decide +kernel
set_option maxRecDepth 1000000 in
theorem st1E16R38 : wRkE x_KT x_tb x_tyl x_ov0 u_ct u_hs x_knd lwFR lwGA lwGB st1VA16_38 st1VB16_38 8000 1 60 69 1 60 205 (st1o16.map (wNo [34, 35, 36, 37, 38, 31, 32])) st1_op2i lwF38 [.inr (.inr (4, [(lSy 34)])), .inl (lAdd (lSc (-1) (lSy 37)) (lAdd (lSy 3) (lK (-1)))), .inr (.inr (13, [(lSy 37), (lSy 38)])), .inr (.inl (2000, lK 0))] = true := by decide +kernel
set_option maxRecDepth 1000000 in
theorem st1E16R31 : wRkE x_KT x_tb x_tyl x_ov0 u_ct u_hs x_knd lwFR lwGA lwGB st1VA16_31 st1VB16_31 8000 1 60 69 1 60 205 (st1o16.map (wNo [34, 35, 36, 37, 38, 31, 32])) st1_op2i lwF31 [.inr (.inr (4, [(lSy 34)])), .inl (lAdd (lSc (-1) (lSy 37)) (lAdd (lSy 3) (lK (-1)))), .inr (.inr (7, [(lSy 37), (lSy 38)])), .inr (.inl (2000, lK 0))] = true := by decide +kernel
set_option maxRecDepth 1000000 in
theorem st1E16R32 : wRkE x_KT x_tb x_tyl x_ov0 u_ct u_hs x_knd lwFR lwGA lwGB st1VA16_32 st1VB16_32 8000 1 60 69 1 60 205 (st1o16.map (wNo [34, 35, 36, 37, 38, 31, 32])) st1_op2i lwF32 [.inr (.inr (4, [(lSy 34)])), .inl (lAdd (lSc (-1) (lSy 37)) (lAdd (lSy 3) (lK (-1)))), .inr (.inr (8, [(lSy 37), (lSy 38)])), .inr (.inl (2000, lK 0))] = true := by decide +kernel
set_option maxRecDepth 1000000 in
theorem mrE0 : wEd x_KT x_tb x_tyl x_ov0 u_ct u_hs x_knd lwFR lwGA lwGB 11 25 42 mrWA0 mrWB0 8000 1 60 64 1 60 203 mr_in [.inr (.inr (0, [(lSy 6)])), .inr (.inr (3, [])), .inr (.inr (4, [])), .inr (.inr (11, [(lSy 6)])), .inl (lSy 11), .inr (.inr (8, [(lSy 6)])), .inr (.inr (12, [(lSy 11), (lSy 6)])), .inr (.inr (12, [(lSy 6), (lSy 11)])), .inr (.inr (9, [(lSy 11)])), .inr (.inr (10, [(lSy 11)])), .inr (.inl (2000, lK 0))] (mro0.map (wNo [29, 30, 34, 35, 36, 37, 38, 31, 32])) = true := by decide +kernel
end XRuC21
