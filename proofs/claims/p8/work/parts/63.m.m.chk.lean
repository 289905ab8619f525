/-! Families of pairs: checks, 11. -/
section XNdC11
set_option maxRecDepth 1000000 in
theorem copyE0 : wEd x_KT x_tb x_tyl x_ov0 u_ct u_hs x_knd lwFS lwGA lwGB 10 8 4 copyWA copyWB 8000 1 60 178 1 60 274 copy_in [.inl (lSy 5), .inl (lAdd (lSy 5) (lK (-1))), .inl (lAdd (lSy 5) (lK (-2))), .inl (lAdd (lSy 5) (lK (-3))), .inl (lSy 7), .inl (lAdd (lSy 7) (lK (-1))), .inl (lAdd (lSy 7) (lK (-2))), .inl (lAdd (lSy 7) (lK (-3))), .inr (.inr (0, [(lSy 5)])), .inr (.inr (1, [(lSy 5)])), .inr (.inr (2, [(lSy 5)])), .inr (.inr (0, [(lSy 7)])), .inr (.inr (1, [(lSy 7)])), .inr (.inr (2, [(lSy 7)]))] copyo0 = true := by decide +kernel
end XNdC11
