/-! Families of pairs: checks, 1. -/
section XNdC1
set_option maxRecDepth 1000000 in
theorem inputE0 : wEd x_KT x_tb x_tyl x_ov0 u_ct u_hs x_knd lwFS lwGA lwGB 7 4 3 inputWA inputWB 8000 1 60 53 1 60 217 input_in [.inl (lSy 5), .inl (lAdd (lSc (-1) (lSy 5)) (lAdd (lSy 3) (lK (-1)))), .inr (.inr (0, [(lSy 5)])), .inl (lAdd (lSy 6) (lK 1)), .inl (lAdd (lSc (-1) (lSy 6)) (lK (-1))), .inl (lAdd (lSy 6) (lSc (-1) (lSy 5))), .inl (lAdd (lSc (-1) (lSy 6)) (lSy 5))] inputo0 = true := by decide +kernel
set_option maxRecDepth 1000000 in
theorem inputR0 : wRk x_KT x_tb x_tyl x_ov0 u_ct u_hs x_knd lwFS lwGA lwGB inputWA inputWB 8000 60 53 60 217 false input_in lwF0 [.inl (lSy 5), .inl (lAdd (lSc (-1) (lSy 5)) (lAdd (lSy 3) (lK (-1)))), .inl (lAdd (lSc (-1) (lSy 7)) (lAdd (lSy 3) (lK (-1)))), .inl (lAdd (lSy 7) (lSc (-1) (lSy 5))), .inl (lAdd (lSc (-1) (lSy 7)) (lSy 5)), .inr (.inl (0, (lSy 5))), .inr (.inr (0, [(lSy 5)])), .inr (.inr (0, [])), .inr (.inr (0, [(lSy 5)])), .inr (.inr (1, [(lSy 5), (lSy 7)])), .inr (.inr (1, [(lSy 7), (lSy 5)])), .inl (lAdd (lSy 6) (lK 1)), .inl (lAdd (lSc (-1) (lSy 6)) (lK (-1))), .inl (lAdd (lSy 6) (lSc (-1) (lSy 5))), .inl (lAdd (lSc (-1) (lSy 6)) (lSy 5))] = true := by decide +kernel
set_option maxRecDepth 1000000 in
theorem reachE0 : wEd x_KT x_tb x_tyl x_ov0 u_ct u_hs x_knd lwFS lwGA lwGB 6 4 3 reachWA reachWB 8000 1 60 91 1 60 224 reach_in [] reacho0 = true := by decide +kernel
set_option maxRecDepth 1000000 in
theorem reachE1 : wEd x_KT x_tb x_tyl x_ov0 u_ct u_hs x_knd lwFS lwGA lwGB 6 4 3 reachWA reachWB 8000 1 60 91 1 60 224 reach_outer [] reacho1 = true := by decide +kernel
set_option maxRecDepth 1000000 in
theorem reachE2 : wEd x_KT x_tb x_tyl x_ov0 u_ct u_hs x_knd lwFS lwGA lwGB 6 4 3 reachWA reachWB 8000 1 60 91 1 60 224 reach_inner [.inr (.inr (0, [(lSy 8)])), .inl (lAdd (lSy 9) (lSc (-1) (lSy 5))), .inl (lAdd (lSc (-1) (lSy 9)) (lSy 5)), .inl (lSy 9)] reacho2 = true := by decide +kernel
end XNdC1
