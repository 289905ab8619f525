/-! Runs: checks, 27. -/
noncomputable section XRuC27
set_option maxRecDepth 1000000 in
theorem programE3R1_3 : wRkEF [(lAdd (lSc (-1) (lSy 6)) (lAdd (lSy 3) (lK (-1)))), (lAdd (lSc (-1) (lSy 6)) (lSy 3))] 3 x_KT x_tb x_tyl x_ov0 u_ct u_hs x_knd lwFR lwGA lwGB programVA3_1 programVB3_1 8000 1 60 13 1 60 182 (programo3.map (wNo [5, 6, 7, 8, 9, 10, 11, 15, 14, 27, 20, 2, 0, 1, 3, 12, 16, 18, 28])) program_cl_ok lwF1 [.inl (lAdd (lSc (-1) (lSy 6)) (lAdd (lSy 3) (lK (-1)))), .inl (lAdd (lSc (-1) (lSy 6)) (lSy 3)), .inr (.inl (1012, (lAdd (lSc (-1) (lSy 6)) (lSy 3)))), .inr (.inl (1012, (lAdd (lSy 6) (lSc (-1) (lSy 3))))), .inr (.inl (0, (lSy 3))), .inr (.inl (1, (lAdd (lSy 7) (lAdd (lSc (-12) (lSy 6)) (lSc 12 (lSy 3)))))), .inr (.inr (27, [(lSy 6)])), .inr (.inr (1, [])), .inr (.inr (29, [(lAdd (lSy 7) (lAdd (lSc (-12) (lSy 6)) (lSc 12 (lSy 3))))])), .inr (.inl (2008, lK 0))] = true := by decide +kernel
set_option maxRecDepth 1000000 in
theorem programE3R1 : wRkE x_KT x_tb x_tyl x_ov0 u_ct u_hs x_knd lwFR lwGA lwGB programVA3_1 programVB3_1 8000 1 60 13 1 60 182 (programo3.map (wNo [5, 6, 7, 8, 9, 10, 11, 15, 14, 27, 20, 2, 0, 1, 3, 12, 16, 18, 28])) program_cl_ok lwF1 [.inl (lAdd (lSc (-1) (lSy 6)) (lAdd (lSy 3) (lK (-1)))), .inl (lAdd (lSc (-1) (lSy 6)) (lSy 3)), .inr (.inl (1012, (lAdd (lSc (-1) (lSy 6)) (lSy 3)))), .inr (.inl (1012, (lAdd (lSy 6) (lSc (-1) (lSy 3))))), .inr (.inl (0, (lSy 3))), .inr (.inl (1, (lAdd (lSy 7) (lAdd (lSc (-12) (lSy 6)) (lSc 12 (lSy 3)))))), .inr (.inr (27, [(lSy 6)])), .inr (.inr (1, [])), .inr (.inr (29, [(lAdd (lSy 7) (lAdd (lSc (-12) (lSy 6)) (lSc 12 (lSy 3))))])), .inr (.inl (2008, lK 0))] = true := wRkE_F [(lAdd (lSc (-1) (lSy 6)) (lAdd (lSy 3) (lK (-1)))), (lAdd (lSc (-1) (lSy 6)) (lSy 3))] (fun i hi => match i, hi with
  | 0, _ => programE3R1_0
  | 1, _ => programE3R1_1
  | 2, _ => programE3R1_2
  | 3, _ => programE3R1_3
  | n + 4, h => absurd h (by
    show ¬ (n + 4 < 4)
    omega))
end XRuC27
