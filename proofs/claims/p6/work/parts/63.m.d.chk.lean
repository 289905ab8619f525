/-! Families of pairs: checks, 2. -/
section XNdC2
set_option maxRecDepth 1000000 in
theorem setR1 : wRk x_KT x_tb x_tyl x_ov0 u_ct u_hs x_knd lwFS lwGA lwGB setWA setWB 8000 60 52 60 216 false set_in lwF1 [.inr (.inr (3, [])), .inl (lSy 6), .inl (lAdd (lSy 6) (lK (-1))), .inl (lSy 7), .inl (lAdd (lSc (-1) (lSy 7)) (lK 99)), .inl (lSy 5), .inl (lAdd (lSc (-1) (lSy 5)) (lAdd (lSy 3) (lK (-1)))), .inl (lAdd (lSc (-1) (lSy 8)) (lAdd (lSy 3) (lK (-1)))), .inl (lAdd (lSy 8) (lSc (-1) (lSy 5))), .inl (lAdd (lSc (-1) (lSy 8)) (lSy 5)), .inr (.inl (0, (lSy 5))), .inr (.inr (0, [(lSy 5)])), .inr (.inr (1, [(lSy 5)])), .inr (.inr (1, [])), .inr (.inr (1, [(lSy 5)])), .inr (.inr (2, [(lSy 5), (lSy 8)])), .inr (.inr (2, [(lSy 8), (lSy 5)]))] = true := by decide +kernel
end XNdC2
