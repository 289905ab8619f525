/-! Families of pairs: checks, 1. -/
section XNdC1
set_option maxRecDepth 1000000 in
theorem sheetE0 : wEd x_KT x_tb x_tyl x_ov0 u_ct u_hs x_knd lwFS lwGA lwGB 8 8 4 sheetWA sheetWB 8000 1 60 174 1 60 272 sheet_in [.inl (lSy 5), .inl (lAdd (lSy 5) (lK (-1))), .inl (lAdd (lSy 5) (lK (-2))), .inl (lAdd (lSy 5) (lK (-3))), .inr (.inr (0, [(lSy 5)])), .inr (.inr (1, [(lSy 5)])), .inr (.inr (2, [(lSy 5)]))] sheeto0 = true := by decide +kernel
end XNdC1
