/-! Families of pairs: checks, 7. -/
section XNdC7
set_option maxRecDepth 1000000 in
theorem askR0_7 : wRkF [(lAdd (lSc (-1) (lSy 6)) (lAdd (lSy 3) (lK (-1)))), (lAdd (lSc (-1) (lSy 6)) (lSy 4)), (lAdd (lSy 6) (lSc (-1) (lSy 4)))] 7 x_KT x_tb x_tyl x_ov0 u_ct u_hs x_knd lwFS lwGA lwGB askWA askWB 8000 60 119 60 251 ask_in lwF0 [.inl (lSy 4), .inl (lAdd (lSc (-1) (lSy 4)) (lAdd (lSy 3) (lK (-1)))), .inl (lAdd (lSc (-1) (lSy 6)) (lAdd (lSy 3) (lK (-1)))), .inl (lAdd (lSy 6) (lSc (-1) (lSy 4))), .inl (lAdd (lSc (-1) (lSy 6)) (lSy 4)), .inr (.inl (0, (lSy 4))), .inr (.inr (0, [(lSy 4)])), .inr (.inr (0, [])), .inr (.inr (1, [(lSy 4), (lSy 6)])), .inr (.inr (1, [(lSy 6), (lSy 4)]))] = true := by decide +kernel
set_option maxRecDepth 1000000 in
theorem askR0 : wRk x_KT x_tb x_tyl x_ov0 u_ct u_hs x_knd lwFS lwGA lwGB askWA askWB 8000 60 119 60 251 ask_in lwF0 [.inl (lSy 4), .inl (lAdd (lSc (-1) (lSy 4)) (lAdd (lSy 3) (lK (-1)))), .inl (lAdd (lSc (-1) (lSy 6)) (lAdd (lSy 3) (lK (-1)))), .inl (lAdd (lSy 6) (lSc (-1) (lSy 4))), .inl (lAdd (lSc (-1) (lSy 6)) (lSy 4)), .inr (.inl (0, (lSy 4))), .inr (.inr (0, [(lSy 4)])), .inr (.inr (0, [])), .inr (.inr (1, [(lSy 4), (lSy 6)])), .inr (.inr (1, [(lSy 6), (lSy 4)]))] = true := wRk_F [(lAdd (lSc (-1) (lSy 6)) (lAdd (lSy 3) (lK (-1)))), (lAdd (lSc (-1) (lSy 6)) (lSy 4)), (lAdd (lSy 6) (lSc (-1) (lSy 4)))] (fun i hi => match i, hi with
  | 0, _ => askR0_0
  | 1, _ => askR0_1
  | 2, _ => askR0_2
  | 3, _ => askR0_3
  | 4, _ => askR0_4
  | 5, _ => askR0_5
  | 6, _ => askR0_6
  | 7, _ => askR0_7
  | n + 8, h => absurd h (by
    show ¬ (n + 8 < 8)
    omega))
set_option maxRecDepth 1000000 in
theorem askR2_0 : wRkF [(lAdd (lSc (-1) (lSy 6)) (lAdd (lSy 3) (lK (-1)))), (lAdd (lSc (-1) (lSy 6)) (lSy 4)), (lAdd (lSy 6) (lSc (-1) (lSy 4)))] 0 x_KT x_tb x_tyl x_ov0 u_ct u_hs x_knd lwFS lwGA lwGB askWA askWB 8000 60 119 60 251 ask_in lwF2 [.inl (lSy 4), .inl (lAdd (lSc (-1) (lSy 4)) (lAdd (lSy 3) (lK (-1)))), .inl (lAdd (lSc (-1) (lSy 6)) (lAdd (lSy 3) (lK (-1)))), .inl (lAdd (lSy 6) (lSc (-1) (lSy 4))), .inl (lAdd (lSc (-1) (lSy 6)) (lSy 4)), .inr (.inl (0, (lSy 4))), .inr (.inr (0, [(lSy 4)])), .inr (.inr (2, [])), .inr (.inr (2, [(lSy 4)]))] = true := by decide +kernel
end XNdC7
