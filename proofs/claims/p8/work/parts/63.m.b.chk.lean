/-! Families of pairs: checks, 0. -/
section XNdC0
set_option maxRecDepth 1000000 in
theorem programR0 : wRk x_KT x_tb x_tyl x_ov0 u_ctK x_hs x_knd lwFS lwGA lwGB programWA programWB 8000 60 13 60 182 true program_in lwF0 [.inr (.inr (0, []))] = true := by decide +kernel
set_option maxRecDepth 1000000 in
theorem programR1 : wRk x_KT x_tb x_tyl x_ov0 u_ctK x_hs x_knd lwFS lwGA lwGB programWA programWB 8000 60 13 60 182 true program_in lwF1 [.inr (.inr (1, []))] = true := by decide +kernel
set_option maxRecDepth 1000000 in
theorem programR2 : wRk x_KT x_tb x_tyl x_ov0 u_ctK x_hs x_knd lwFS lwGA lwGB programWA programWB 8000 60 13 60 182 true program_in lwF2 [.inr (.inr (2, []))] = true := by decide +kernel
set_option maxRecDepth 1000000 in
theorem programR3 : wRk x_KT x_tb x_tyl x_ov0 u_ctK x_hs x_knd lwFS lwGA lwGB programWA programWB 8000 60 13 60 182 true program_in lwF3 [.inl (lAdd (lSc (-1) (lSy 5)) (lAdd (lSy 3) (lK (-1)))), .inl (lAdd (lSc (-1) (lSy 5)) (lSy 3)), .inr (.inl (0, (lSy 3))), .inr (.inr (3, []))] = true := by decide +kernel
end XNdC0
