/-! Runs: checks, 20. -/
noncomputable section XRuC20
set_option maxRecDepth 1000000 in
theorem st1E5R30 : wRkE x_KT x_tb x_tyl x_ov0 u_ct u_hs x_knd lwFR lwGA lwGB st1VA5_30 st1VB5_30 8000 1 60 69 1 60 205 (st1o5.map (wNo [29, 30])) st1_op1 lwF30 [.inr (.inr (8, [(lSy 6), (lSy 27)])), .inr (.inl (2000, lK 0)), .inl (lAdd (lSy 37) (lSc (-1) (lSy 34))), .inl (lAdd (lSc (-1) (lSy 37)) (lSy 34)), .inr (.inl (0, (lSy 34))), .inr (.inr (4, [])), .inr (.inr (4, [(lSy 34)]))] = true := by decide +kernel
set_option maxRecDepth 1000000 in
theorem st1E6 : wEd x_KT x_tb x_tyl x_ov0 u_ct u_hs x_knd lwFR lwGA lwGB 34 41 43 st1WA6 st1WB6 8000 1 60 69 1 60 205 st1_op2 [.inr (.inr (4, [(lSy 34)]))] (st1o6.map (wNo [34, 35, 36, 37, 38, 31, 32])) = true := by decide +kernel
set_option maxRecDepth 1000000 in
theorem st1E6R34 : wRkE x_KT x_tb x_tyl x_ov0 u_ct u_hs x_knd lwFR lwGA lwGB st1VA6_34 st1VB6_34 8000 1 60 69 1 60 205 (st1o6.map (wNo [34, 35, 36, 37, 38, 31, 32])) st1_op2 lwF34 [.inr (.inr (4, [(lSy 34)])), .inr (.inr (9, [(lSy 37)])), .inr (.inl (2000, lK 0))] = true := by decide +kernel
set_option maxRecDepth 1000000 in
theorem st1E6R35 : wRkE x_KT x_tb x_tyl x_ov0 u_ct u_hs x_knd lwFR lwGA lwGB st1VA6_35 st1VB6_35 8000 1 60 69 1 60 205 (st1o6.map (wNo [34, 35, 36, 37, 38, 31, 32])) st1_op2 lwF35 [.inr (.inr (4, [(lSy 34)])), .inl (lAdd (lSy 37) (lSc (-1) (lSy 29))), .inl (lAdd (lSc (-1) (lSy 37)) (lSy 29)), .inr (.inl (0, (lSy 29))), .inr (.inr (10, [])), .inr (.inl (2000, lK 0))] = true := by decide +kernel
set_option maxRecDepth 1000000 in
theorem st1E6R36 : wRkE x_KT x_tb x_tyl x_ov0 u_ct u_hs x_knd lwFR lwGA lwGB st1VA6_36 st1VB6_36 8000 1 60 69 1 60 205 (st1o6.map (wNo [34, 35, 36, 37, 38, 31, 32])) st1_op2 lwF36 [.inr (.inr (4, [(lSy 34)])), .inl (lAdd (lSc (-1) (lSy 37)) (lAdd (lSy 3) (lK (-1)))), .inr (.inr (11, [(lSy 37), (lSy 38)])), .inr (.inl (2000, lK 0))] = true := by decide +kernel
set_option maxRecDepth 1000000 in
theorem st1E6R37 : wRkE x_KT x_tb x_tyl x_ov0 u_ct u_hs x_knd lwFR lwGA lwGB st1VA6_37 st1VB6_37 8000 1 60 69 1 60 205 (st1o6.map (wNo [34, 35, 36, 37, 38, 31, 32])) st1_op2 lwF37 [.inr (.inr (4, [(lSy 34)])), .inl (lAdd (lSc (-1) (lSy 37)) (lAdd (lSy 3) (lK (-1)))), .inr (.inr (12, [(lSy 37), (lSy 38)])), .inr (.inl (2000, lK 0))] = true := by decide +kernel
set_option maxRecDepth 1000000 in
theorem st1E6R38 : wRkE x_KT x_tb x_tyl x_ov0 u_ct u_hs x_knd lwFR lwGA lwGB st1VA6_38 st1VB6_38 8000 1 60 69 1 60 205 (st1o6.map (wNo [34, 35, 36, 37, 38, 31, 32])) st1_op2 lwF38 [.inr (.inr (4, [(lSy 34)])), .inl (lAdd (lSc (-1) (lSy 37)) (lAdd (lSy 3) (lK (-1)))), .inr (.inr (13, [(lSy 37), (lSy 38)])), .inr (.inl (2000, lK 0))] = true := by decide +kernel
set_option maxRecDepth 1000000 in
theorem st1E6R31 : wRkE x_KT x_tb x_tyl x_ov0 u_ct u_hs x_knd lwFR lwGA lwGB st1VA6_31 st1VB6_31 8000 1 60 69 1 60 205 (st1o6.map (wNo [34, 35, 36, 37, 38, 31, 32])) st1_op2 lwF31 [.inr (.inr (4, [(lSy 34)])), .inl (lAdd (lSc (-1) (lSy 37)) (lAdd (lSy 3) (lK (-1)))), .inr (.inr (7, [(lSy 37), (lSy 38)])), .inr (.inl (2000, lK 0))] = true := by decide +kernel
set_option maxRecDepth 1000000 in
theorem st1E6R32 : wRkE x_KT x_tb x_tyl x_ov0 u_ct u_hs x_knd lwFR lwGA lwGB st1VA6_32 st1VB6_32 8000 1 60 69 1 60 205 (st1o6.map (wNo [34, 35, 36, 37, 38, 31, 32])) st1_op2 lwF32 [.inr (.inr (4, [(lSy 34)])), .inl (lAdd (lSc (-1) (lSy 37)) (lAdd (lSy 3) (lK (-1)))), .inr (.inr (8, [(lSy 37), (lSy 38)])), .inr (.inl (2000, lK 0))] = true := by decide +kernel
set_option maxRecDepth 1000000 in
theorem st1E7 : wEd x_KT x_tb x_tyl x_ov0 u_ct u_hs x_knd lwFR lwGA lwGB 34 41 43 st1WA7 st1WB7 8000 1 60 69 1 60 205 st1_op3 [] (st1o7.map (wNo [29, 30])) = true := by decide +kernel
set_option maxRecDepth 1000000 in
theorem st1E7R29 : wRkE x_KT x_tb x_tyl x_ov0 u_ct u_hs x_knd lwFR lwGA lwGB st1VA7_29 st1VB7_29 8000 1 60 69 1 60 205 (st1o7.map (wNo [29, 30])) st1_op3 lwF29 [.inr (.inr (3, [(lSy 37)]))] = true := by decide +kernel
set_option maxRecDepth 1000000 in
theorem st1E7R30 : wRkE x_KT x_tb x_tyl x_ov0 u_ct u_hs x_knd lwFR lwGA lwGB st1VA7_30 st1VB7_30 8000 1 60 69 1 60 205 (st1o7.map (wNo [29, 30])) st1_op3 lwF30 [.inl (lAdd (lSy 37) (lSc (-1) (lSy 34))), .inl (lAdd (lSc (-1) (lSy 37)) (lSy 34)), .inr (.inl (0, (lSy 34))), .inr (.inr (4, []))] = true := by decide +kernel
set_option maxRecDepth 1000000 in
theorem st1E8 : wEd x_KT x_tb x_tyl x_ov0 u_ct u_hs x_knd lwFR lwGA lwGB 34 41 43 st1WA8 st1WB8 8000 1 60 69 1 60 205 st1_op4 [.inr (.inr (4, [(lSy 35)]))] (st1o8.map (wNo [29, 30])) = true := by decide +kernel
set_option maxRecDepth 1000000 in
theorem st1E8R29 : wRkE x_KT x_tb x_tyl x_ov0 u_ct u_hs x_knd lwFR lwGA lwGB st1VA8_29 st1VB8_29 8000 1 60 69 1 60 205 (st1o8.map (wNo [29, 30])) st1_op4 lwF29 [.inr (.inr (4, [(lSy 35)])), .inr (.inr (3, [(lSy 37)]))] = true := by decide +kernel
set_option maxRecDepth 1000000 in
theorem st1E8R30 : wRkE x_KT x_tb x_tyl x_ov0 u_ct u_hs x_knd lwFR lwGA lwGB st1VA8_30 st1VB8_30 8000 1 60 69 1 60 205 (st1o8.map (wNo [29, 30])) st1_op4 lwF30 [.inr (.inr (4, [(lSy 35)])), .inl (lAdd (lSy 37) (lSc (-1) (lSy 34))), .inl (lAdd (lSc (-1) (lSy 37)) (lSy 34)), .inr (.inl (0, (lSy 34))), .inr (.inr (4, []))] = true := by decide +kernel
set_option maxRecDepth 1000000 in
theorem st1E9 : wEd x_KT x_tb x_tyl x_ov0 u_ct u_hs x_knd lwFR lwGA lwGB 34 41 43 st1WA9 st1WB9 8000 1 60 69 1 60 205 st1_op5 [.inr (.inr (4, [(lSy 34)])), .inr (.inr (4, [(lSy 35)]))] (st1o9.map (wNo [29, 30])) = true := by decide +kernel
set_option maxRecDepth 1000000 in
theorem st1E9R29 : wRkE x_KT x_tb x_tyl x_ov0 u_ct u_hs x_knd lwFR lwGA lwGB st1VA9_29 st1VB9_29 8000 1 60 69 1 60 205 (st1o9.map (wNo [29, 30])) st1_op5 lwF29 [.inr (.inr (4, [(lSy 34)])), .inr (.inr (4, [(lSy 35)])), .inr (.inr (3, [(lSy 37)]))] = true := by decide +kernel
set_option maxRecDepth 1000000 in
theorem st1E9R30 : wRkE x_KT x_tb x_tyl x_ov0 u_ct u_hs x_knd lwFR lwGA lwGB st1VA9_30 st1VB9_30 8000 1 60 69 1 60 205 (st1o9.map (wNo [29, 30])) st1_op5 lwF30 [.inr (.inr (4, [(lSy 34)])), .inr (.inr (4, [(lSy 35)])), .inl (lAdd (lSy 37) (lSc (-1) (lSy 34))), .inl (lAdd (lSc (-1) (lSy 37)) (lSy 34)), .inr (.inl (0, (lSy 34))), .inr (.inr (4, []))] = true := by decide +kernel
set_option maxRecDepth 1000000 in
theorem st1E10 : wEd x_KT x_tb x_tyl x_ov0 u_ct u_hs x_knd lwFR lwGA lwGB 34 41 43 st1WA10 st1WB10 8000 1 60 69 1 60 205 st1_op6 [.inr (.inr (4, [(lSy 34)])), .inr (.inr (4, [(lSy 35)]))] (st1o10.map (wNo [29, 30])) = true := by decide +kernel
set_option maxRecDepth 1000000 in
theorem st1E10R29 : wRkE x_KT x_tb x_tyl x_ov0 u_ct u_hs x_knd lwFR lwGA lwGB st1VA10_29 st1VB10_29 8000 1 60 69 1 60 205 (st1o10.map (wNo [29, 30])) st1_op6 lwF29 [.inr (.inr (4, [(lSy 34)])), .inr (.inr (4, [(lSy 35)])), .inr (.inr (3, [(lSy 37)]))] = true := by decide +kernel
set_option maxRecDepth 1000000 in
theorem st1E10R30 : wRkE x_KT x_tb x_tyl x_ov0 u_ct u_hs x_knd lwFR lwGA lwGB st1VA10_30 st1VB10_30 8000 1 60 69 1 60 205 (st1o10.map (wNo [29, 30])) st1_op6 lwF30 [.inr (.inr (4, [(lSy 34)])), .inr (.inr (4, [(lSy 35)])), .inl (lAdd (lSy 37) (lSc (-1) (lSy 34))), .inl (lAdd (lSc (-1) (lSy 37)) (lSy 34)), .inr (.inl (0, (lSy 34))), .inr (.inr (4, []))] = true := by decide +kernel
end XRuC20
