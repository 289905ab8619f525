/-! Families of pairs: checks, 2. -/
section XNdC2
set_option maxRecDepth 1000000 in
theorem sheetR0_0 : wRkF [(lAdd (lSy 5) (lK (-2))), (lAdd (lSy 5) (lK (-1)))] 0 x_KT x_tb x_tyl x_ov0 u_ct u_hs x_knd lwFS lwGA lwGB sheetWA sheetWB 8000 60 174 60 272 false sheet_in lwF0 [.inl (lSy 5), .inl (lAdd (lSy 5) (lK (-1))), .inl (lAdd (lSy 5) (lK (-2))), .inl (lAdd (lSy 5) (lK (-3))), .inr (.inr (0, [(lSy 5)])), .inr (.inr (1, [(lSy 5)])), .inr (.inr (2, [(lSy 5)])), .inr (.inr (0, []))] = true := by decide +kernel
end XNdC2
