/-! Runs: checks, 35. -/
noncomputable section XRuC35
set_option maxRecDepth 1000000 in
theorem programE3R0 : wRkE x_KT x_tb x_tyl x_ov0 u_ct u_hs x_knd lwFR lwGA lwGB programVA3_0 programVB3_0 8000 1 60 13 1 60 182 (programo3.map (wNo [5, 6, 7, 8, 9, 10, 11, 15, 14, 27, 20, 1, 2, 0, 3, 12, 16, 18, 28, 30])) program_cl_ok lwF0 [.inl (lAdd (lSc (-1) (lSy 14)) (lAdd (lSy 11) (lK (-1)))), .inl (lAdd (lSc (-1) (lSy 14)) (lSy 11)), .inr (.inl (0, (lSy 11))), .inr (.inr (4, [])), .inr (.inr (27, [(lSy 14)])), .inr (.inr (11, [(lSy 14)])), .inr (.inr (0, [])), .inr (.inr (20, [(lSy 11)])), .inr (.inl (2008, lK 0))] = true := by decide +kernel
set_option maxRecDepth 1000000 in
theorem programE3R3 : wRkE x_KT x_tb x_tyl x_ov0 u_ct u_hs x_knd lwFR lwGA lwGB programVA3_3 programVB3_3 8000 1 60 13 1 60 182 (programo3.map (wNo [5, 6, 7, 8, 9, 10, 11, 15, 14, 27, 20, 1, 2, 0, 3, 12, 16, 18, 28, 30])) program_cl_ok lwF3 [.inr (.inr (4, [])), .inr (.inr (3, []))] = true := by decide +kernel
end XRuC35
