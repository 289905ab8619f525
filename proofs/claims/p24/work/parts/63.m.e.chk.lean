/-! Families of pairs: checks, 3. -/
section XNdC3
set_option maxRecDepth 1000000 in
theorem askR0_2 : wRkF [(lAdd (lSc (-1) (lSy 6)) (lAdd (lSy 3) (lK (-1)))), (lAdd (lSc (-1) (lSy 6)) (lSy 4)), (lAdd (lSy 6) (lSc (-1) (lSy 4)))] 2 x_KT x_tb x_tyl x_ov0 u_ct u_hs x_knd lwFS lwGA lwGB askWA askWB 8000 60 119 60 251 ask_in lwF0 [.inl (lSy 4), .inl (lAdd (lSc (-1) (lSy 4)) (lAdd (lSy 3) (lK (-1)))), .inl (lAdd (lSc (-1) (lSy 6)) (lAdd (lSy 3) (lK (-1)))), .inl (lAdd (lSy 6) (lSc (-1) (lSy 4))), .inl (lAdd (lSc (-1) (lSy 6)) (lSy 4)), .inr (.inl (0, (lSy 4))), .inr (.inr (0, [(lSy 4)])), .inr (.inr (0, [])), .inr (.inr (1, [(lSy 4), (lSy 6)])), .inr (.inr (1, [(lSy 6), (lSy 4)]))] = true := by decide +kernel
end XNdC3
