/-! Runs: checks, 33. -/
noncomputable section XRuC33
set_option maxRecDepth 1000000 in
theorem programE3R16 : wRkE x_KT x_tb x_tyl x_ov0 u_ct u_hs x_knd lwFR lwGA lwGB programVA3_16 programVB3_16 8000 1 60 13 1 60 182 (programo3.map (wNo [5, 6, 7, 8, 9, 10, 11, 15, 14, 27, 20, 1, 2, 0, 3, 12, 16, 18, 28])) program_cl_ok lwF16 [.inl (lAdd (lSc (-1) (lSy 6)) (lAdd (lSy 3) (lK (-1)))), .inl (lAdd (lSc (-1) (lSy 7)) (lAdd (lSy 3) (lK (-1)))), .inl (lAdd (lSy 7) (lAdd (lSc (-1) (lSy 6)) (lK (-1)))), .inr (.inr (14, [(lSy 6)])), .inr (.inr (16, [(lSy 6), (lSy 7)])), .inl (lAdd (lSc (-1) (lSy 7)) (lSy 3)), .inr (.inl (1001, (lAdd (lSc (-1) (lSy 7)) (lSy 6)))), .inr (.inl (1, (lSy 3))), .inr (.inr (17, [(lSy 6), (lSy 3)])), .inr (.inl (2008, lK 0))] = true := by decide +kernel
end XRuC33
