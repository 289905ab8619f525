/-! Families of pairs: checks, 7. -/
section XNdC7
set_option maxRecDepth 1000000 in
theorem sheetR1_3 : wRkF [(lAdd (lSy 5) (lK (-2))), (lAdd (lSy 5) (lK (-1)))] 3 x_KT x_tb x_tyl x_ov0 u_ct u_hs x_knd lwFS lwGA lwGB sheetWA sheetWB 8000 60 174 60 272 false sheet_in lwF1 [.inl (lSy 5), .inl (lAdd (lSy 5) (lK (-1))), .inl (lAdd (lSy 5) (lK (-2))), .inl (lAdd (lSy 5) (lK (-3))), .inr (.inr (0, [(lSy 5)])), .inr (.inr (1, [(lSy 5)])), .inr (.inr (2, [(lSy 5)])), .inr (.inr (1, []))] = true := by decide +kernel
set_option maxRecDepth 1000000 in
theorem sheetR1 : wRk x_KT x_tb x_tyl x_ov0 u_ct u_hs x_knd lwFS lwGA lwGB sheetWA sheetWB 8000 60 174 60 272 false sheet_in lwF1 [.inl (lSy 5), .inl (lAdd (lSy 5) (lK (-1))), .inl (lAdd (lSy 5) (lK (-2))), .inl (lAdd (lSy 5) (lK (-3))), .inr (.inr (0, [(lSy 5)])), .inr (.inr (1, [(lSy 5)])), .inr (.inr (2, [(lSy 5)])), .inr (.inr (1, []))] = true := wRk_F [(lAdd (lSy 5) (lK (-2))), (lAdd (lSy 5) (lK (-1)))] (fun i hi => match i, hi with
  | 0, _ => sheetR1_0
  | 1, _ => sheetR1_1
  | 2, _ => sheetR1_2
  | 3, _ => sheetR1_3
  | n + 4, h => absurd h (by
    show ¬ (n + 4 < 4)
    omega))
end XNdC7
