/-! Families of pairs: checks, 12. -/
section XNdC12
set_option maxRecDepth 1000000 in
theorem shelfE0_0 : wEdF [(lAdd (lSy 9) (lK (-1)))] 0 x_KT x_tb x_tyl x_ov0 u_ct u_hs x_knd lwFS lwGA lwGB 10 8 4 shelfWA shelfWB 8000 1 60 54 1 60 218 shelf_in [.inl (lSy 6), .inl (lAdd (lSy 6) (lK (-1))), .inl (lAdd (lSy 6) (lK (-2))), .inl (lAdd (lSy 6) (lK (-3))), .inl (lSy 5), .inl (lAdd (lSc (-1) (lSy 5)) (lAdd (lSy 3) (lK (-1)))), .inr (.inr (3, [(lSy 5)])), .inl (lSy 9), .inl (lAdd (lSy 9) (lK (-1))), .inr (.inr (0, [(lSy 6)])), .inr (.inr (1, [(lSy 6)])), .inr (.inr (2, [(lSy 6)])), .inl (lAdd (lSy 10) (lSc (-1) (lSy 7))), .inl (lAdd (lSc (-1) (lSy 10)) (lSy 7))] shelfo0 = true := by decide +kernel
end XNdC12
