/-! Families of pairs: checks, 10. -/
section XNdC10
set_option maxRecDepth 1000000 in
theorem sheetR2_3 : wRkF [(lAdd (lSy 5) (lK (-2))), (lAdd (lSy 5) (lK (-1)))] 3 x_KT x_tb x_tyl x_ov0 u_ct u_hs x_knd lwFS lwGA lwGB sheetWA sheetWB 8000 60 174 60 272 false sheet_in lwF2 [.inl (lSy 5), .inl (lAdd (lSy 5) (lK (-1))), .inl (lAdd (lSy 5) (lK (-2))), .inl (lAdd (lSy 5) (lK (-3))), .inr (.inr (0, [(lSy 5)])), .inr (.inr (1, [(lSy 5)])), .inr (.inr (2, [(lSy 5)])), .inr (.inr (2, []))] = true := by decide +kernel
set_option maxRecDepth 1000000 in
theorem sheetR2 : wRk x_KT x_tb x_tyl x_ov0 u_ct u_hs x_knd lwFS lwGA lwGB sheetWA sheetWB 8000 60 174 60 272 false sheet_in lwF2 [.inl (lSy 5), .inl (lAdd (lSy 5) (lK (-1))), .inl (lAdd (lSy 5) (lK (-2))), .inl (lAdd (lSy 5) (lK (-3))), .inr (.inr (0, [(lSy 5)])), .inr (.inr (1, [(lSy 5)])), .inr (.inr (2, [(lSy 5)])), .inr (.inr (2, []))] = true := wRk_F [(lAdd (lSy 5) (lK (-2))), (lAdd (lSy 5) (lK (-1)))] (fun i hi => match i, hi with
  | 0, _ => sheetR2_0
  | 1, _ => sheetR2_1
  | 2, _ => sheetR2_2
  | 3, _ => sheetR2_3
  | n + 4, h => absurd h (by
    show ¬ (n + 4 < 4)
    omega))
set_option maxRecDepth 1000000 in
theorem cellE0 : wEd x_KT x_tb x_tyl x_ov0 u_ct u_hs x_knd lwFS lwGA lwGB 8 8 4 cellWA cellWB 8000 1 60 176 1 60 273 cell_in [.inl (lSy 5), .inl (lAdd (lSy 5) (lK (-1))), .inl (lAdd (lSy 5) (lK (-2))), .inl (lAdd (lSy 5) (lK (-3))), .inr (.inr (0, [(lSy 5)])), .inr (.inr (1, [(lSy 5)])), .inr (.inr (2, [(lSy 5)]))] cello0 = true := by decide +kernel
end XNdC10
