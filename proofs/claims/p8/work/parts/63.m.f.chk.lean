/-! Families of pairs: checks, 4. -/
section XNdC4
set_option maxRecDepth 1000000 in
theorem sheetR0_3 : wRkF [(lAdd (lSy 5) (lK (-2))), (lAdd (lSy 5) (lK (-1)))] 3 x_KT x_tb x_tyl x_ov0 u_ct u_hs x_knd lwFS lwGA lwGB sheetWA sheetWB 8000 60 174 60 272 false sheet_in lwF0 [.inl (lSy 5), .inl (lAdd (lSy 5) (lK (-1))), .inl (lAdd (lSy 5) (lK (-2))), .inl (lAdd (lSy 5) (lK (-3))), .inr (.inr (0, [(lSy 5)])), .inr (.inr (1, [(lSy 5)])), .inr (.inr (2, [(lSy 5)])), .inr (.inr (0, []))] = true := by decide +kernel
set_option maxRecDepth 1000000 in
theorem sheetR0 : wRk x_KT x_tb x_tyl x_ov0 u_ct u_hs x_knd lwFS lwGA lwGB sheetWA sheetWB 8000 60 174 60 272 false sheet_in lwF0 [.inl (lSy 5), .inl (lAdd (lSy 5) (lK (-1))), .inl (lAdd (lSy 5) (lK (-2))), .inl (lAdd (lSy 5) (lK (-3))), .inr (.inr (0, [(lSy 5)])), .inr (.inr (1, [(lSy 5)])), .inr (.inr (2, [(lSy 5)])), .inr (.inr (0, []))] = true := wRk_F [(lAdd (lSy 5) (lK (-2))), (lAdd (lSy 5) (lK (-1)))] (fun i hi => match i, hi with
  | 0, _ => sheetR0_0
  | 1, _ => sheetR0_1
  | 2, _ => sheetR0_2
  | 3, _ => sheetR0_3
  | n + 4, h => absurd h (by
    show ¬ (n + 4 < 4)
    omega))
end XNdC4
