/-! Runs: checks, 32. -/
noncomputable section XRuC32
set_option maxRecDepth 1000000 in
theorem programE3R3 : wRkE x_KT x_tb x_tyl x_ov0 u_ct u_hs x_knd lwFR lwGA lwGB programVA3_3 programVB3_3 8000 1 60 13 1 60 182 (programo3.map (wNo [5, 6, 7, 8, 9, 10, 11, 15, 14, 27, 20, 1, 2, 0, 3, 12, 16, 18, 28])) program_cl_ok lwF3 [.inr (.inr (4, [])), .inr (.inr (3, []))] = true := by decide +kernel
set_option maxRecDepth 1000000 in
theorem programE3R12 : wRkE x_KT x_tb x_tyl x_ov0 u_ct u_hs x_knd lwFR lwGA lwGB programVA3_12 programVB3_12 8000 1 60 13 1 60 182 (programo3.map (wNo [5, 6, 7, 8, 9, 10, 11, 15, 14, 27, 20, 1, 2, 0, 3, 12, 16, 18, 28])) program_cl_ok lwF12 [.inl (lAdd (lSc (-1) (lSy 6)) (lAdd (lSy 3) (lK (-1)))), .inl (lAdd (lSc (-1) (lSy 7)) (lAdd (lSy 3) (lK (-1)))), .inl (lAdd (lSy 7) (lAdd (lSc (-1) (lSy 6)) (lK (-1)))), .inr (.inr (11, [(lSy 6)])), .inr (.inr (27, [(lSy 6)])), .inr (.inr (12, [(lSy 6), (lSy 7)])), .inl (lAdd (lSc (-1) (lSy 7)) (lSy 3)), .inr (.inl (1001, (lAdd (lSc (-1) (lSy 7)) (lSy 6)))), .inr (.inl (1, (lSy 3))), .inr (.inl (2008, lK 0))] = true := by decide +kernel
end XRuC32
