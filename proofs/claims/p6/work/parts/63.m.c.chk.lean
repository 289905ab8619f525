/-! Families of pairs: checks, 1. -/
section XNdC1
set_option maxRecDepth 1000000 in
theorem programR2_7 : wRkF [(lAdd (lSy 6) (lAdd (lSc (-1) (lSy 5)) (lK (-1)))), (lAdd (lSc (-1) (lSy 5)) (lAdd (lSy 3) (lK (-1)))), (lAdd (lSc (-1) (lSy 5)) (lSy 3))] 7 x_KT x_tb x_tyl x_ov0 u_ctK x_hs x_knd lwFS lwGA lwGB programWA programWB 8000 60 13 60 182 true program_in lwF2 [.inr (.inr (3, [])), .inl (lAdd (lSc (-1) (lSy 5)) (lAdd (lSy 3) (lK (-1)))), .inl (lAdd (lSc (-1) (lSy 6)) (lAdd (lSy 3) (lK (-1)))), .inl (lAdd (lSc (-1) (lSy 5)) (lSy 3)), .inl (lAdd (lSc (-1) (lSy 6)) (lSy 3)), .inr (.inl (0, (lSy 3))), .inr (.inl (1, (lSy 3))), .inr (.inr (0, [(lSy 5)])), .inr (.inr (0, [(lSy 6)])), .inl (lAdd (lSy 6) (lAdd (lSc (-1) (lSy 5)) (lK (-1)))), .inr (.inr (2, [(lSy 5), (lSy 6)]))] = true := by decide +kernel
set_option maxRecDepth 1000000 in
theorem programR2 : wRk x_KT x_tb x_tyl x_ov0 u_ctK x_hs x_knd lwFS lwGA lwGB programWA programWB 8000 60 13 60 182 true program_in lwF2 [.inr (.inr (3, [])), .inl (lAdd (lSc (-1) (lSy 5)) (lAdd (lSy 3) (lK (-1)))), .inl (lAdd (lSc (-1) (lSy 6)) (lAdd (lSy 3) (lK (-1)))), .inl (lAdd (lSc (-1) (lSy 5)) (lSy 3)), .inl (lAdd (lSc (-1) (lSy 6)) (lSy 3)), .inr (.inl (0, (lSy 3))), .inr (.inl (1, (lSy 3))), .inr (.inr (0, [(lSy 5)])), .inr (.inr (0, [(lSy 6)])), .inl (lAdd (lSy 6) (lAdd (lSc (-1) (lSy 5)) (lK (-1)))), .inr (.inr (2, [(lSy 5), (lSy 6)]))] = true := wRk_F [(lAdd (lSy 6) (lAdd (lSc (-1) (lSy 5)) (lK (-1)))), (lAdd (lSc (-1) (lSy 5)) (lAdd (lSy 3) (lK (-1)))), (lAdd (lSc (-1) (lSy 5)) (lSy 3))] (fun i hi => match i, hi with
  | 0, _ => programR2_0
  | 1, _ => programR2_1
  | 2, _ => programR2_2
  | 3, _ => programR2_3
  | 4, _ => programR2_4
  | 5, _ => programR2_5
  | 6, _ => programR2_6
  | 7, _ => programR2_7
  | n + 8, h => absurd h (by
    show ¬ (n + 8 < 8)
    omega))
set_option maxRecDepth 1000000 in
theorem programR3 : wRk x_KT x_tb x_tyl x_ov0 u_ctK x_hs x_knd lwFS lwGA lwGB programWA programWB 8000 60 13 60 182 true program_in lwF3 [.inr (.inr (3, []))] = true := by decide +kernel
set_option maxRecDepth 1000000 in
theorem setE0 : wEd x_KT x_tb x_tyl x_ov0 u_ct u_hs x_knd lwFS lwGA lwGB 8 4 4 setWA setWB 8000 1 60 52 1 60 216 set_in [.inr (.inr (3, [])), .inl (lSy 6), .inl (lAdd (lSy 6) (lK (-1))), .inl (lSy 7), .inl (lAdd (lSc (-1) (lSy 7)) (lK 99)), .inl (lSy 5), .inl (lAdd (lSc (-1) (lSy 5)) (lAdd (lSy 3) (lK (-1)))), .inr (.inr (0, [(lSy 5)])), .inr (.inr (1, [(lSy 5)]))] seto0 = true := by decide +kernel
set_option maxRecDepth 1000000 in
theorem setR0 : wRk x_KT x_tb x_tyl x_ov0 u_ct u_hs x_knd lwFS lwGA lwGB setWA setWB 8000 60 52 60 216 false set_in lwF0 [.inr (.inr (3, [])), .inl (lSy 6), .inl (lAdd (lSy 6) (lK (-1))), .inl (lSy 7), .inl (lAdd (lSc (-1) (lSy 7)) (lK 99)), .inl (lSy 5), .inl (lAdd (lSc (-1) (lSy 5)) (lAdd (lSy 3) (lK (-1)))), .inl (lAdd (lSc (-1) (lSy 8)) (lAdd (lSy 3) (lK (-1)))), .inl (lAdd (lSy 8) (lSc (-1) (lSy 5))), .inl (lAdd (lSc (-1) (lSy 8)) (lSy 5)), .inr (.inl (0, (lSy 5))), .inr (.inr (0, [(lSy 5)])), .inr (.inr (1, [(lSy 5)])), .inr (.inr (0, [])), .inr (.inr (0, [(lSy 5)])), .inr (.inr (2, [(lSy 5), (lSy 8)])), .inr (.inr (2, [(lSy 8), (lSy 5)]))] = true := by decide +kernel
end XNdC1
