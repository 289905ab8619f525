/-! Families of pairs: checks, 0. -/
section XNdC0
set_option maxRecDepth 1000000 in
theorem programR0 : wRk x_KT x_tb x_tyl x_ov0 u_ctK x_hs x_knd lwFS lwGA lwGB programWA programWB 8000 60 13 60 182 true program_in lwF0 [.inl (lAdd (lSc (-1) (lSy 5)) (lAdd (lSy 3) (lK (-1)))), .inl (lAdd (lSc (-1) (lSy 5)) (lSy 3)), .inr (.inl (0, (lSy 3))), .inr (.inr (0, []))] = true := by decide +kernel
set_option maxRecDepth 1000000 in
theorem programR1 : wRk x_KT x_tb x_tyl x_ov0 u_ctK x_hs x_knd lwFS lwGA lwGB programWA programWB 8000 60 13 60 182 true program_in lwF1 [.inl (lAdd (lSc (-1) (lSy 5)) (lAdd (lSy 3) (lK (-1)))), .inl (lAdd (lSc (-1) (lSy 6)) (lAdd (lSy 3) (lK (-1)))), .inl (lAdd (lSc (-1) (lSy 5)) (lSy 3)), .inl (lAdd (lSc (-1) (lSy 6)) (lSy 3)), .inr (.inl (0, (lSy 3))), .inr (.inl (1, (lSy 3))), .inr (.inr (0, [(lSy 5)])), .inr (.inr (0, [(lSy 6)])), .inl (lAdd (lSy 6) (lAdd (lSc (-1) (lSy 5)) (lK (-1)))), .inr (.inr (1, [(lSy 5), (lSy 6)]))] = true := by decide +kernel
end XNdC0
