/-! Runs: checks, 15. -/
noncomputable section XRuC15
set_option maxRecDepth 1000000 in
theorem shwE6R0_1 : wRkEF [(lAdd (lSy 11) (lK (-3))), (lAdd (lSc (-1) (lSy 9)) (lAdd (lSy 5) (lK (-1))))] 1 x_KT x_tb x_tyl x_ov0 u_ct u_hs x_knd lwFR lwGA lwGB shwVA6_0 shwVB6_0 8000 1 60 136 1 60 248 (shwo6.map (wNo [0, 2, 3])) shw_in lwF0 [.inr (.inr (29, [(lSy 8)])), .inr (.inl (1004, (lSy 8))), .inr (.inr (30, [(lSy 7)])), .inr (.inl (2008, lK 0)), .inr (.inr (0, [(lSy 10)])), .inr (.inr (3, [])), .inr (.inr (14, [(lSy 10)])), .inl (lAdd (lSy 11) (lK (-1))), .inl (lAdd (lSy 11) (lK (-2))), .inl (lAdd (lSy 11) (lK (-3))), .inl (lAdd (lSy 11) (lK (-4))), .inl (lAdd (lSy 11) (lK (-5))), .inl (lAdd (lSc (-1) (lSy 9)) (lAdd (lSy 5) (lK (-1)))), .inr (.inr (14, [(lSy 9)])), .inr (.inr (0, [])), .inr (.inl (2008, lK 0))] = true := by decide +kernel
set_option maxRecDepth 1000000 in
theorem shwE6R0_2 : wRkEF [(lAdd (lSy 11) (lK (-3))), (lAdd (lSc (-1) (lSy 9)) (lAdd (lSy 5) (lK (-1))))] 2 x_KT x_tb x_tyl x_ov0 u_ct u_hs x_knd lwFR lwGA lwGB shwVA6_0 shwVB6_0 8000 1 60 136 1 60 248 (shwo6.map (wNo [0, 2, 3])) shw_in lwF0 [.inr (.inr (29, [(lSy 8)])), .inr (.inl (1004, (lSy 8))), .inr (.inr (30, [(lSy 7)])), .inr (.inl (2008, lK 0)), .inr (.inr (0, [(lSy 10)])), .inr (.inr (3, [])), .inr (.inr (14, [(lSy 10)])), .inl (lAdd (lSy 11) (lK (-1))), .inl (lAdd (lSy 11) (lK (-2))), .inl (lAdd (lSy 11) (lK (-3))), .inl (lAdd (lSy 11) (lK (-4))), .inl (lAdd (lSy 11) (lK (-5))), .inl (lAdd (lSc (-1) (lSy 9)) (lAdd (lSy 5) (lK (-1)))), .inr (.inr (14, [(lSy 9)])), .inr (.inr (0, [])), .inr (.inl (2008, lK 0))] = true := by decide +kernel
set_option maxRecDepth 1000000 in
theorem shwE6R0_3 : wRkEF [(lAdd (lSy 11) (lK (-3))), (lAdd (lSc (-1) (lSy 9)) (lAdd (lSy 5) (lK (-1))))] 3 x_KT x_tb x_tyl x_ov0 u_ct u_hs x_knd lwFR lwGA lwGB shwVA6_0 shwVB6_0 8000 1 60 136 1 60 248 (shwo6.map (wNo [0, 2, 3])) shw_in lwF0 [.inr (.inr (29, [(lSy 8)])), .inr (.inl (1004, (lSy 8))), .inr (.inr (30, [(lSy 7)])), .inr (.inl (2008, lK 0)), .inr (.inr (0, [(lSy 10)])), .inr (.inr (3, [])), .inr (.inr (14, [(lSy 10)])), .inl (lAdd (lSy 11) (lK (-1))), .inl (lAdd (lSy 11) (lK (-2))), .inl (lAdd (lSy 11) (lK (-3))), .inl (lAdd (lSy 11) (lK (-4))), .inl (lAdd (lSy 11) (lK (-5))), .inl (lAdd (lSc (-1) (lSy 9)) (lAdd (lSy 5) (lK (-1)))), .inr (.inr (14, [(lSy 9)])), .inr (.inr (0, [])), .inr (.inl (2008, lK 0))] = true := by decide +kernel
set_option maxRecDepth 1000000 in
theorem shwE6R0 : wRkE x_KT x_tb x_tyl x_ov0 u_ct u_hs x_knd lwFR lwGA lwGB shwVA6_0 shwVB6_0 8000 1 60 136 1 60 248 (shwo6.map (wNo [0, 2, 3])) shw_in lwF0 [.inr (.inr (29, [(lSy 8)])), .inr (.inl (1004, (lSy 8))), .inr (.inr (30, [(lSy 7)])), .inr (.inl (2008, lK 0)), .inr (.inr (0, [(lSy 10)])), .inr (.inr (3, [])), .inr (.inr (14, [(lSy 10)])), .inl (lAdd (lSy 11) (lK (-1))), .inl (lAdd (lSy 11) (lK (-2))), .inl (lAdd (lSy 11) (lK (-3))), .inl (lAdd (lSy 11) (lK (-4))), .inl (lAdd (lSy 11) (lK (-5))), .inl (lAdd (lSc (-1) (lSy 9)) (lAdd (lSy 5) (lK (-1)))), .inr (.inr (14, [(lSy 9)])), .inr (.inr (0, [])), .inr (.inl (2008, lK 0))] = true := wRkE_F [(lAdd (lSy 11) (lK (-3))), (lAdd (lSc (-1) (lSy 9)) (lAdd (lSy 5) (lK (-1))))] (fun i hi => match i, hi with
  | 0, _ => shwE6R0_0
  | 1, _ => shwE6R0_1
  | 2, _ => shwE6R0_2
  | 3, _ => shwE6R0_3
  | n + 4, h => absurd h (by
    show ¬ (n + 4 < 4)
    omega))
end XRuC15
