/-! Runs: checks, 32. -/
noncomputable section XRuC32
set_option maxRecDepth 1000000 in
theorem programE3R9 : wRkE x_KT x_tb x_tyl x_ov0 u_ct u_hs x_knd lwFR lwGA lwGB programVA3_9 programVB3_9 8000 1 60 13 1 60 182 (programo3.map (wNo [0, 1, 2, 3, 5, 6, 7, 8, 9, 10, 11, 15, 14, 12, 16, 18, 27, 28, 20])) program_cl_ok lwF9 [.inl (lAdd (lSc (-1) (lSy 6)) (lAdd (lSy 3) (lK (-1)))), .inl (lAdd (lSc (-1) (lSy 6)) (lSy 3)), .inr (.inl (0, (lSy 3))), .inr (.inr (11, [(lSy 6)])), .inr (.inr (15, [(lSy 6)])), .inr (.inr (9, [])), .inr (.inr (20, [(lSy 3)])), .inr (.inl (2016, lK 0))] = true := by decide +kernel
set_option maxRecDepth 1000000 in
theorem programE3R10 : wRkE x_KT x_tb x_tyl x_ov0 u_ct u_hs x_knd lwFR lwGA lwGB programVA3_10 programVB3_10 8000 1 60 13 1 60 182 (programo3.map (wNo [0, 1, 2, 3, 5, 6, 7, 8, 9, 10, 11, 15, 14, 12, 16, 18, 27, 28, 20])) program_cl_ok lwF10 [.inl (lAdd (lSc (-1) (lSy 6)) (lAdd (lSy 3) (lK (-1)))), .inl (lAdd (lSc (-1) (lSy 6)) (lSy 3)), .inr (.inl (0, (lSy 3))), .inr (.inr (11, [(lSy 6)])), .inr (.inr (15, [(lSy 6)])), .inr (.inr (10, [])), .inr (.inr (20, [(lSy 3)])), .inr (.inl (2016, lK 0))] = true := by decide +kernel
set_option maxRecDepth 1000000 in
theorem programE3R11 : wRkE x_KT x_tb x_tyl x_ov0 u_ct u_hs x_knd lwFR lwGA lwGB programVA3_11 programVB3_11 8000 1 60 13 1 60 182 (programo3.map (wNo [0, 1, 2, 3, 5, 6, 7, 8, 9, 10, 11, 15, 14, 12, 16, 18, 27, 28, 20])) program_cl_ok lwF11 [.inl (lAdd (lSc (-1) (lSy 6)) (lAdd (lSy 3) (lK (-1)))), .inl (lAdd (lSc (-1) (lSy 6)) (lSy 3)), .inr (.inl (0, (lSy 3))), .inr (.inr (11, [])), .inr (.inl (2016, lK 0))] = true := by decide +kernel
set_option maxRecDepth 1000000 in
theorem programE3R15 : wRkE x_KT x_tb x_tyl x_ov0 u_ct u_hs x_knd lwFR lwGA lwGB programVA3_15 programVB3_15 8000 1 60 13 1 60 182 (programo3.map (wNo [0, 1, 2, 3, 5, 6, 7, 8, 9, 10, 11, 15, 14, 12, 16, 18, 27, 28, 20])) program_cl_ok lwF15 [.inl (lAdd (lSc (-1) (lSy 6)) (lAdd (lSy 3) (lK (-1)))), .inl (lAdd (lSc (-1) (lSy 6)) (lSy 3)), .inr (.inl (0, (lSy 3))), .inr (.inr (15, [])), .inr (.inl (2016, lK 0))] = true := by decide +kernel
end XRuC32
