/-! Runs: checks, 29. -/
noncomputable section XRuC29
set_option maxRecDepth 1000000 in
theorem programE3R2_1 : wRkEF [(lAdd (lSy 7) (lK (-3)))] 1 x_KT x_tb x_tyl x_ov0 u_ct u_hs x_knd lwFR lwGA lwGB programVA3_2 programVB3_2 8000 1 60 13 1 60 182 (programo3.map (wNo [0, 1, 2, 3, 5, 6, 7, 8, 9, 10, 11, 15, 14, 12, 16, 18, 27, 28, 20])) program_cl_ok lwF2 [.inl (lAdd (lSy 7) (lK (-1))), .inl (lAdd (lSy 7) (lK (-2))), .inl (lAdd (lSy 7) (lK (-3))), .inl (lAdd (lSy 7) (lK (-4))), .inl (lAdd (lSy 7) (lK (-5))), .inl (lAdd (lSc (-1) (lSy 6)) (lAdd (lSy 3) (lK (-1)))), .inl (lAdd (lSc (-1) (lSy 6)) (lSy 3)), .inr (.inl (0, (lSy 3))), .inr (.inr (14, [(lSy 6)])), .inr (.inr (17, [(lSy 6), (lSy 3)])), .inr (.inr (2, [(lSy 6), (lK 0)])), .inr (.inr (2, [(lSy 6), (lK 1)])), .inr (.inr (2, [(lSy 6), (lK 2)])), .inr (.inr (2, [(lSy 6), (lK 3)])), .inr (.inr (2, [(lSy 6), (lK 4)])), .inr (.inr (2, [(lSy 6), (lK 5)])), .inr (.inl (1, (lK 0))), .inr (.inl (1, (lK 1))), .inr (.inl (1, (lK 2))), .inr (.inl (1, (lK 3))), .inr (.inl (1, (lK 4))), .inr (.inl (1, (lK 5))), .inr (.inl (2016, lK 0))] = true := by decide +kernel
set_option maxRecDepth 1000000 in
theorem programE3R2 : wRkE x_KT x_tb x_tyl x_ov0 u_ct u_hs x_knd lwFR lwGA lwGB programVA3_2 programVB3_2 8000 1 60 13 1 60 182 (programo3.map (wNo [0, 1, 2, 3, 5, 6, 7, 8, 9, 10, 11, 15, 14, 12, 16, 18, 27, 28, 20])) program_cl_ok lwF2 [.inl (lAdd (lSy 7) (lK (-1))), .inl (lAdd (lSy 7) (lK (-2))), .inl (lAdd (lSy 7) (lK (-3))), .inl (lAdd (lSy 7) (lK (-4))), .inl (lAdd (lSy 7) (lK (-5))), .inl (lAdd (lSc (-1) (lSy 6)) (lAdd (lSy 3) (lK (-1)))), .inl (lAdd (lSc (-1) (lSy 6)) (lSy 3)), .inr (.inl (0, (lSy 3))), .inr (.inr (14, [(lSy 6)])), .inr (.inr (17, [(lSy 6), (lSy 3)])), .inr (.inr (2, [(lSy 6), (lK 0)])), .inr (.inr (2, [(lSy 6), (lK 1)])), .inr (.inr (2, [(lSy 6), (lK 2)])), .inr (.inr (2, [(lSy 6), (lK 3)])), .inr (.inr (2, [(lSy 6), (lK 4)])), .inr (.inr (2, [(lSy 6), (lK 5)])), .inr (.inl (1, (lK 0))), .inr (.inl (1, (lK 1))), .inr (.inl (1, (lK 2))), .inr (.inl (1, (lK 3))), .inr (.inl (1, (lK 4))), .inr (.inl (1, (lK 5))), .inr (.inl (2016, lK 0))] = true := wRkE_F [(lAdd (lSy 7) (lK (-3)))] (fun i hi => match i, hi with
  | 0, _ => programE3R2_0
  | 1, _ => programE3R2_1
  | n + 2, h => absurd h (by
    show ¬ (n + 2 < 2)
    omega))
set_option maxRecDepth 1000000 in
theorem programE3R3 : wRkE x_KT x_tb x_tyl x_ov0 u_ct u_hs x_knd lwFR lwGA lwGB programVA3_3 programVB3_3 8000 1 60 13 1 60 182 (programo3.map (wNo [0, 1, 2, 3, 5, 6, 7, 8, 9, 10, 11, 15, 14, 12, 16, 18, 27, 28, 20])) program_cl_ok lwF3 [.inr (.inr (4, [])), .inr (.inr (3, []))] = true := by decide +kernel
end XRuC29
