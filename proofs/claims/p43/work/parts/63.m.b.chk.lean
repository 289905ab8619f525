/-! Families of pairs: checks, 0. -/
section XNdC0
set_option maxRecDepth 1000000 in
theorem sheetE0 : wEd x_KT x_tb x_tyl x_ov0 u_ct u_hs x_knd lwFS lwGA lwGB 6 5 3 sheetWA sheetWB 8000 1 60 174 1 60 272 sheet_in [.inl (lSy 3), .inl (lAdd (lSy 3) (lK (-1))), .inl (lAdd (lSy 3) (lK (-2))), .inl (lAdd (lSy 3) (lK (-3))), .inr (.inr (0, [(lSy 3)])), .inr (.inr (1, [(lSy 3)])), .inr (.inr (2, [(lSy 3)]))] sheeto0 = true := by decide +kernel
end XNdC0
