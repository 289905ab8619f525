/-! Families of pairs: checks, 0. -/
section XNdC0
set_option maxRecDepth 1000000 in
theorem chipE0 : wEd x_KT x_tb x_tyl x_ov0 u_ct u_hs x_knd lwFS lwGA lwGB 6 2 4 chipWA chipWB 8000 1 60 117 1 60 250 chip_in [.inr (.inr (2, [(lSy 3)]))] chipo0 = true := by decide +kernel
set_option maxRecDepth 1000000 in
theorem chipR0 : wRk x_KT x_tb x_tyl x_ov0 u_ct u_hs x_knd lwFS lwGA lwGB chipWA chipWB 8000 60 117 60 250 chip_in lwF0 [.inl (lAdd (lSc (-1) (lSy 6)) (lAdd (lSy 3) (lK (-1)))), .inl (lAdd (lSc (-1) (lSy 6)) (lSy 3)), .inr (.inl (0, (lSy 3))), .inr (.inr (2, [(lSy 3)])), .inr (.inr (0, []))] = true := by decide +kernel
set_option maxRecDepth 1000000 in
theorem chipR1 : wRk x_KT x_tb x_tyl x_ov0 u_ct u_hs x_knd lwFS lwGA lwGB chipWA chipWB 8000 60 117 60 250 chip_in lwF1 [.inl (lAdd (lSc (-1) (lSy 6)) (lAdd (lSy 3) (lK (-1)))), .inl (lAdd (lSc (-1) (lSy 7)) (lAdd (lSy 3) (lK (-1)))), .inl (lAdd (lSc (-1) (lSy 6)) (lSy 3)), .inl (lAdd (lSc (-1) (lSy 7)) (lSy 3)), .inr (.inl (0, (lSy 3))), .inr (.inl (1, (lSy 3))), .inr (.inr (2, [(lSy 3)])), .inr (.inr (0, [(lSy 6)])), .inr (.inr (0, [(lSy 7)])), .inl (lAdd (lSy 7) (lAdd (lSc (-1) (lSy 6)) (lK (-1)))), .inr (.inr (1, [(lSy 6), (lSy 7)]))] = true := by decide +kernel
set_option maxRecDepth 1000000 in
theorem chipR2 : wRk x_KT x_tb x_tyl x_ov0 u_ct u_hs x_knd lwFS lwGA lwGB chipWA chipWB 8000 60 117 60 250 chip_in lwF2 [.inl (lAdd (lSc (-1) (lSy 6)) (lAdd (lSy 3) (lK (-1)))), .inl (lAdd (lSc (-1) (lSy 6)) (lSy 3)), .inr (.inl (0, (lSy 3))), .inr (.inr (2, [(lSy 3)])), .inr (.inr (2, []))] = true := by decide +kernel
end XNdC0
