/-! Runs: checks, 31. -/
noncomputable section XRuC31
set_option maxRecDepth 1000000 in
theorem programE3R7 : wRkE x_KT x_tb x_tyl x_ov0 u_ct u_hs x_knd lwFR lwGA lwGB programVA3_7 programVB3_7 8000 1 60 13 1 60 182 (programo3.map (wNo [0, 1, 2, 3, 5, 6, 7, 8, 9, 10, 11, 15, 14, 12, 16, 18, 27, 28, 20])) program_cl_ok lwF7 [.inl (lAdd (lSc (-1) (lSy 6)) (lAdd (lSy 3) (lK (-1)))), .inl (lAdd (lSc (-1) (lSy 6)) (lSy 3)), .inr (.inl (0, (lSy 3))), .inr (.inr (11, [(lSy 6)])), .inr (.inr (15, [(lSy 6)])), .inr (.inr (7, [])), .inr (.inr (20, [(lSy 3)])), .inl (lAdd (lSy 3) (lK (-1))), .inr (.inr (13, [(lSy 3), (lK 11)])), .inr (.inr (13, [(lK 0), (lSy 3)])), .inr (.inl (2016, lK 0))] = true := by decide +kernel
set_option maxRecDepth 1000000 in
theorem programE3R8 : wRkE x_KT x_tb x_tyl x_ov0 u_ct u_hs x_knd lwFR lwGA lwGB programVA3_8 programVB3_8 8000 1 60 13 1 60 182 (programo3.map (wNo [0, 1, 2, 3, 5, 6, 7, 8, 9, 10, 11, 15, 14, 12, 16, 18, 27, 28, 20])) program_cl_ok lwF8 [.inl (lAdd (lSc (-1) (lSy 6)) (lAdd (lSy 3) (lK (-1)))), .inl (lAdd (lSc (-1) (lSy 6)) (lSy 3)), .inr (.inl (0, (lSy 3))), .inr (.inr (11, [(lSy 6)])), .inr (.inr (15, [(lSy 6)])), .inr (.inr (8, [])), .inr (.inr (20, [(lSy 3)])), .inl (lAdd (lSy 3) (lK (-1))), .inr (.inr (13, [(lSy 3), (lK 11)])), .inr (.inr (13, [(lK 0), (lSy 3)])), .inr (.inl (2016, lK 0))] = true := by decide +kernel
end XRuC31
