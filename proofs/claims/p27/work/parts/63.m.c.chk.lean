/-! Families of pairs: checks, 1. -/
section XNdC1
set_option maxRecDepth 1000000 in
theorem signR0 : wRk x_KT x_tb x_tyl x_ov0 u_ct u_hs x_knd lwFS lwGA lwGB signWA signWB 8000 60 131 60 256 false sign_in lwF0 [.inl (lSy 8), .inl (lAdd (lSy 8) (lK (-1))), .inl (lAdd (lSc (-1) (lSy 11)) (lAdd (lSy 5) (lK (-1)))), .inr (.inl (1005, (lAdd (lSc (-1) (lSy 11)) (lAdd (lSy 5) (lK (-1)))))), .inl (lAdd (lSc (-1) (lSy 5)) (lK 59)), .inl (lAdd (lSc (-1) (lSy 11)) (lSy 5)), .inr (.inl (0, (lSy 5))), .inr (.inr (0, [])), .inr (.inr (1, [(lSy 11), (lSy 5)]))] = true := by decide +kernel
end XNdC1
