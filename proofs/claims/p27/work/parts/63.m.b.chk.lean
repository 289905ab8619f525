/-! Families of pairs: checks, 0. -/
section XNdC0
set_option maxRecDepth 1000000 in
theorem programR0 : wRk x_KT x_tb x_tyl x_ov0 u_ctK x_hs x_knd lwFS lwGA lwGB programWA programWB 8000 60 13 60 182 true program_in lwF0 [.inl (lAdd (lSc (-1) (lSy 6)) (lAdd (lSy 5) (lK (-1)))), .inr (.inr (0, []))] = true := by decide +kernel
set_option maxRecDepth 1000000 in
theorem programR1 : wRk x_KT x_tb x_tyl x_ov0 u_ctK x_hs x_knd lwFS lwGA lwGB programWA programWB 8000 60 13 60 182 true program_in lwF1 [.inl (lAdd (lSy 7) (lAdd (lSc (-1) (lSy 6)) (lK (-1)))), .inr (.inr (1, []))] = true := by decide +kernel
set_option maxRecDepth 1000000 in
theorem knewE0 : wEd x_KT x_tb x_tyl x_ov0 u_ct u_hs x_knd lwFS lwGA lwGB 9 5 3 knewWA knewWB 8000 1 60 132 1 60 257 knew_in [] knewo0 = true := by decide +kernel
set_option maxRecDepth 1000000 in
theorem knewE1 : wEd x_KT x_tb x_tyl x_ov0 u_ct u_hs x_knd lwFS lwGA lwGB 9 5 3 knewWA knewWB 8000 1 60 132 1 60 257 knew_none [.inl (lAdd (lSc (-1) (lSy 9)) (lAdd (lSy 5) (lK (-1)))), .inr (.inr (0, [(lSy 9)])), .inl (lAdd (lSy 10) (lSc (-1) (lSy 6))), .inl (lAdd (lSc (-1) (lSy 10)) (lSy 6)), .inl (lAdd (lSy 13) (lSc (-1) (lSy 7))), .inl (lAdd (lSc (-1) (lSy 13)) (lSy 7))] knewo1 = true := by decide +kernel
set_option maxRecDepth 1000000 in
theorem knewE2 : wEd x_KT x_tb x_tyl x_ov0 u_ct u_hs x_knd lwFS lwGA lwGB 9 5 3 knewWA knewWB 8000 1 60 132 1 60 257 knew_some [.inl (lAdd (lSc (-1) (lSy 11)) (lAdd (lSy 5) (lK (-1)))), .inr (.inr (0, [(lSy 11)])), .inl (lAdd (lSy 13) (lSc (-1) (lSy 6))), .inl (lAdd (lSc (-1) (lSy 13)) (lSy 6)), .inl (lAdd (lSy 16) (lSc (-1) (lSy 7))), .inl (lAdd (lSc (-1) (lSy 16)) (lSy 7))] knewo2 = true := by decide +kernel
set_option maxRecDepth 1000000 in
theorem signE0 : wEd x_KT x_tb x_tyl x_ov0 u_ct u_hs x_knd lwFS lwGA lwGB 11 5 3 signWA signWB 8000 1 60 131 1 60 256 sign_in [] signo0 = true := by decide +kernel
end XNdC0
