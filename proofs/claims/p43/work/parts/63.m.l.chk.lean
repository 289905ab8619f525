/-! Families of pairs: checks, 10. -/
section XNdC10
set_option maxRecDepth 1000000 in
theorem copyE0_0 : wEdF [(lAdd (lSy 5) (lK (-2)))] 0 x_KT x_tb x_tyl x_ov0 u_ct u_hs x_knd lwFS lwGA lwGB 8 5 3 copyWA copyWB 8000 1 60 178 1 60 274 copy_in [.inl (lSy 3), .inl (lAdd (lSy 3) (lK (-1))), .inl (lAdd (lSy 3) (lK (-2))), .inl (lAdd (lSy 3) (lK (-3))), .inl (lSy 5), .inl (lAdd (lSy 5) (lK (-1))), .inl (lAdd (lSy 5) (lK (-2))), .inl (lAdd (lSy 5) (lK (-3))), .inr (.inr (0, [(lSy 3)])), .inr (.inr (1, [(lSy 3)])), .inr (.inr (2, [(lSy 3)])), .inr (.inr (0, [(lSy 5)])), .inr (.inr (1, [(lSy 5)])), .inr (.inr (2, [(lSy 5)])), .inr (.inr (3, [])), .inr (.inr (3, [])), .inl (lAdd (lSc (-1) (lSy 10)) (lSy 8)), .inl (lAdd (lSy 10) (lSc (-1) (lSy 8)))] copyo0 = true := by decide +kernel
end XNdC10
