/-! Runs: checks, 30. -/
noncomputable section XRuC30
set_option maxRecDepth 1000000 in
theorem programE3R5 : wRkE x_KT x_tb x_tyl x_ov0 u_ct u_hs x_knd lwFR lwGA lwGB programVA3_5 programVB3_5 8000 1 60 13 1 60 182 (programo3.map (wNo [0, 1, 2, 3, 5, 6, 7, 8, 9, 10, 11, 15, 14, 12, 16, 18, 27, 28, 20])) program_cl_ok lwF5 [.inl (lAdd (lSc (-1) (lSy 6)) (lAdd (lSy 3) (lK (-1)))), .inl (lAdd (lSc (-1) (lSy 6)) (lSy 3)), .inr (.inl (0, (lSy 3))), .inr (.inr (11, [(lSy 6)])), .inr (.inr (15, [(lSy 6)])), .inr (.inr (5, [])), .inr (.inr (20, [(lSy 3)])), .inr (.inl (2016, lK 0))] = true := by decide +kernel
set_option maxRecDepth 1000000 in
theorem programE3R6 : wRkE x_KT x_tb x_tyl x_ov0 u_ct u_hs x_knd lwFR lwGA lwGB programVA3_6 programVB3_6 8000 1 60 13 1 60 182 (programo3.map (wNo [0, 1, 2, 3, 5, 6, 7, 8, 9, 10, 11, 15, 14, 12, 16, 18, 27, 28, 20])) program_cl_ok lwF6 [.inl (lAdd (lSc (-1) (lSy 6)) (lAdd (lSy 3) (lK (-1)))), .inl (lAdd (lSc (-1) (lSy 6)) (lSy 3)), .inr (.inl (0, (lSy 3))), .inr (.inr (11, [(lSy 6)])), .inr (.inr (15, [(lSy 6)])), .inr (.inr (6, [])), .inr (.inr (20, [(lSy 3)])), .inr (.inl (2016, lK 0))] = true := by decide +kernel
end XRuC30
