/-! Families of pairs: checks, 13. -/
section XNdC13
set_option maxRecDepth 1000000 in
theorem askR2_7 : wRkF [(lAdd (lSc (-1) (lSy 6)) (lAdd (lSy 3) (lK (-1)))), (lAdd (lSc (-1) (lSy 6)) (lSy 4)), (lAdd (lSy 6) (lSc (-1) (lSy 4)))] 7 x_KT x_tb x_tyl x_ov0 u_ct u_hs x_knd lwFS lwGA lwGB askWA askWB 8000 60 119 60 251 ask_in lwF2 [.inl (lSy 4), .inl (lAdd (lSc (-1) (lSy 4)) (lAdd (lSy 3) (lK (-1)))), .inl (lAdd (lSc (-1) (lSy 6)) (lAdd (lSy 3) (lK (-1)))), .inl (lAdd (lSy 6) (lSc (-1) (lSy 4))), .inl (lAdd (lSc (-1) (lSy 6)) (lSy 4)), .inr (.inl (0, (lSy 4))), .inr (.inr (0, [(lSy 4)])), .inr (.inr (2, [])), .inr (.inr (2, [(lSy 4)]))] = true := by decide +kernel
set_option maxRecDepth 1000000 in
theorem askR2 : wRk x_KT x_tb x_tyl x_ov0 u_ct u_hs x_knd lwFS lwGA lwGB askWA askWB 8000 60 119 60 251 ask_in lwF2 [.inl (lSy 4), .inl (lAdd (lSc (-1) (lSy 4)) (lAdd (lSy 3) (lK (-1)))), .inl (lAdd (lSc (-1) (lSy 6)) (lAdd (lSy 3) (lK (-1)))), .inl (lAdd (lSy 6) (lSc (-1) (lSy 4))), .inl (lAdd (lSc (-1) (lSy 6)) (lSy 4)), .inr (.inl (0, (lSy 4))), .inr (.inr (0, [(lSy 4)])), .inr (.inr (2, [])), .inr (.inr (2, [(lSy 4)]))] = true := wRk_F [(lAdd (lSc (-1) (lSy 6)) (lAdd (lSy 3) (lK (-1)))), (lAdd (lSc (-1) (lSy 6)) (lSy 4)), (lAdd (lSy 6) (lSc (-1) (lSy 4)))] (fun i hi => match i, hi with
  | 0, _ => askR2_0
  | 1, _ => askR2_1
  | 2, _ => askR2_2
  | 3, _ => askR2_3
  | 4, _ => askR2_4
  | 5, _ => askR2_5
  | 6, _ => askR2_6
  | 7, _ => askR2_7
  | n + 8, h => absurd h (by
    show ¬ (n + 8 < 8)
    omega))
end XNdC13
