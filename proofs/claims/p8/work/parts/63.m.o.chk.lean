/-! Families of pairs: checks, 13. -/
section XNdC13
set_option maxRecDepth 1000000 in
theorem shelfE0_1 : wEdF [(lAdd (lSy 9) (lK (-1)))] 1 x_KT x_tb x_tyl x_ov0 u_ct u_hs x_knd lwFS lwGA lwGB 10 8 4 shelfWA shelfWB 8000 1 60 54 1 60 218 shelf_in [.inl (lSy 6), .inl (lAdd (lSy 6) (lK (-1))), .inl (lAdd (lSy 6) (lK (-2))), .inl (lAdd (lSy 6) (lK (-3))), .inl (lSy 5), .inl (lAdd (lSc (-1) (lSy 5)) (lAdd (lSy 3) (lK (-1)))), .inr (.inr (3, [(lSy 5)])), .inl (lSy 9), .inl (lAdd (lSy 9) (lK (-1))), .inr (.inr (0, [(lSy 6)])), .inr (.inr (1, [(lSy 6)])), .inr (.inr (2, [(lSy 6)])), .inl (lAdd (lSy 10) (lSc (-1) (lSy 7))), .inl (lAdd (lSc (-1) (lSy 10)) (lSy 7))] shelfo0 = true := by decide +kernel
set_option maxRecDepth 1000000 in
theorem shelfE0 : wEd x_KT x_tb x_tyl x_ov0 u_ct u_hs x_knd lwFS lwGA lwGB 10 8 4 shelfWA shelfWB 8000 1 60 54 1 60 218 shelf_in [.inl (lSy 6), .inl (lAdd (lSy 6) (lK (-1))), .inl (lAdd (lSy 6) (lK (-2))), .inl (lAdd (lSy 6) (lK (-3))), .inl (lSy 5), .inl (lAdd (lSc (-1) (lSy 5)) (lAdd (lSy 3) (lK (-1)))), .inr (.inr (3, [(lSy 5)])), .inl (lSy 9), .inl (lAdd (lSy 9) (lK (-1))), .inr (.inr (0, [(lSy 6)])), .inr (.inr (1, [(lSy 6)])), .inr (.inr (2, [(lSy 6)])), .inl (lAdd (lSy 10) (lSc (-1) (lSy 7))), .inl (lAdd (lSc (-1) (lSy 10)) (lSy 7))] shelfo0 = true := wEd_F [(lAdd (lSy 9) (lK (-1)))] (fun i hi => match i, hi with
  | 0, _ => shelfE0_0
  | 1, _ => shelfE0_1
  | n + 2, h => absurd h (by
    show ¬ (n + 2 < 2)
    omega))
set_option maxRecDepth 1000000 in
theorem shelfE1 : wEd x_KT x_tb x_tyl x_ov0 u_ct u_hs x_knd lwFS lwGA lwGB 10 8 4 shelfWA shelfWB 8000 1 60 54 1 60 218 shelf_loop0 [.inl (lAdd (lSy 12) (lK (-2))), .inl (lAdd (lSy 12) (lK (-3))), .inl (lAdd (lSy 12) (lK (-4))), .inl (lAdd (lSy 12) (lK (-5))), .inl (lAdd (lSy 12) (lK (-6))), .inl (lAdd (lSy 12) (lK (-7))), .inl (lAdd (lSy 12) (lK (-8))), .inl (lAdd (lSy 12) (lK (-9))), .inl (lAdd (lSy 12) (lK (-10))), .inl (lAdd (lSy 12) (lK (-11))), .inl (lAdd (lSy 12) (lK (-12))), .inl (lAdd (lSc (-1) (lSy 13)) (lAdd (lSy 12) (lK (-1))))] shelfo1 = true := by decide +kernel
set_option maxRecDepth 1000000 in
theorem shelfE2 : wEd x_KT x_tb x_tyl x_ov0 u_ct u_hs x_knd lwFS lwGA lwGB 10 8 4 shelfWA shelfWB 8000 1 60 54 1 60 218 shelf_none0 [] shelfo2 = true := by decide +kernel
end XNdC13
