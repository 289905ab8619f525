/-! Runs: checks, 13. -/
noncomputable section XRuC13
set_option maxRecDepth 1000000 in
theorem st0E5R29_2 : wRkEF [(lAdd (lSy 35) (lSc (-1) (lSy 32))), (lAdd (lSc (-1) (lSy 35)) (lSy 32))] 2 x_KT x_tb x_tyl x_ov0 u_ct u_hs x_knd lwFR lwGA lwGB st0VA5_29 st0VB5_29 8000 1 60 69 1 60 205 (st0o5.map (wNo [29, 30])) st0_op1 lwF29 [.inr (.inr (7, [(lSy 6), (lSy 25)])), .inr (.inl (2000, lK 0)), .inr (.inr (2, [(lSy 6), (lSy 32)])), .inl (lAdd (lSy 35) (lSc (-1) (lSy 32))), .inl (lAdd (lSc (-1) (lSy 35)) (lSy 32)), .inr (.inl (0, (lSy 32))), .inr (.inr (3, [])), .inr (.inr (3, [(lSy 32)]))] = true := by decide +kernel
set_option maxRecDepth 1000000 in
theorem st0E5R29_3 : wRkEF [(lAdd (lSy 35) (lSc (-1) (lSy 32))), (lAdd (lSc (-1) (lSy 35)) (lSy 32))] 3 x_KT x_tb x_tyl x_ov0 u_ct u_hs x_knd lwFR lwGA lwGB st0VA5_29 st0VB5_29 8000 1 60 69 1 60 205 (st0o5.map (wNo [29, 30])) st0_op1 lwF29 [.inr (.inr (7, [(lSy 6), (lSy 25)])), .inr (.inl (2000, lK 0)), .inr (.inr (2, [(lSy 6), (lSy 32)])), .inl (lAdd (lSy 35) (lSc (-1) (lSy 32))), .inl (lAdd (lSc (-1) (lSy 35)) (lSy 32)), .inr (.inl (0, (lSy 32))), .inr (.inr (3, [])), .inr (.inr (3, [(lSy 32)]))] = true := by decide +kernel
set_option maxRecDepth 1000000 in
theorem st0E5R29 : wRkE x_KT x_tb x_tyl x_ov0 u_ct u_hs x_knd lwFR lwGA lwGB st0VA5_29 st0VB5_29 8000 1 60 69 1 60 205 (st0o5.map (wNo [29, 30])) st0_op1 lwF29 [.inr (.inr (7, [(lSy 6), (lSy 25)])), .inr (.inl (2000, lK 0)), .inr (.inr (2, [(lSy 6), (lSy 32)])), .inl (lAdd (lSy 35) (lSc (-1) (lSy 32))), .inl (lAdd (lSc (-1) (lSy 35)) (lSy 32)), .inr (.inl (0, (lSy 32))), .inr (.inr (3, [])), .inr (.inr (3, [(lSy 32)]))] = true := wRkE_F [(lAdd (lSy 35) (lSc (-1) (lSy 32))), (lAdd (lSc (-1) (lSy 35)) (lSy 32))] (fun i hi => match i, hi with
  | 0, _ => st0E5R29_0
  | 1, _ => st0E5R29_1
  | 2, _ => st0E5R29_2
  | 3, _ => st0E5R29_3
  | n + 4, h => absurd h (by
    show ¬ (n + 4 < 4)
    omega))
set_option maxRecDepth 1000000 in
theorem st0E5R30 : wRkE x_KT x_tb x_tyl x_ov0 u_ct u_hs x_knd lwFR lwGA lwGB st0VA5_30 st0VB5_30 8000 1 60 69 1 60 205 (st0o5.map (wNo [29, 30])) st0_op1 lwF30 [.inr (.inr (7, [(lSy 6), (lSy 25)])), .inr (.inl (2000, lK 0)), .inr (.inr (2, [(lSy 6), (lSy 32)])), .inr (.inr (4, [(lSy 35)]))] = true := by decide +kernel
set_option maxRecDepth 1000000 in
theorem st0E6 : wEd x_KT x_tb x_tyl x_ov0 u_ct u_hs x_knd lwFR lwGA lwGB 32 41 43 st0WA6 st0WB6 8000 1 60 69 1 60 205 st0_op2 [.inr (.inr (3, [(lSy 32)]))] (st0o6.map (wNo [34, 35, 36, 37, 38, 31, 32])) = true := by decide +kernel
set_option maxRecDepth 1000000 in
theorem st0E6R34 : wRkE x_KT x_tb x_tyl x_ov0 u_ct u_hs x_knd lwFR lwGA lwGB st0VA6_34 st0VB6_34 8000 1 60 69 1 60 205 (st0o6.map (wNo [34, 35, 36, 37, 38, 31, 32])) st0_op2 lwF34 [.inr (.inr (3, [(lSy 32)])), .inl (lAdd (lSy 35) (lSc (-1) (lSy 27))), .inl (lAdd (lSc (-1) (lSy 35)) (lSy 27)), .inr (.inl (0, (lSy 27))), .inr (.inr (9, [])), .inr (.inl (2000, lK 0))] = true := by decide +kernel
set_option maxRecDepth 1000000 in
theorem st0E6R35 : wRkE x_KT x_tb x_tyl x_ov0 u_ct u_hs x_knd lwFR lwGA lwGB st0VA6_35 st0VB6_35 8000 1 60 69 1 60 205 (st0o6.map (wNo [34, 35, 36, 37, 38, 31, 32])) st0_op2 lwF35 [.inr (.inr (3, [(lSy 32)])), .inr (.inr (10, [(lSy 35)])), .inr (.inl (2000, lK 0))] = true := by decide +kernel
set_option maxRecDepth 1000000 in
theorem st0E6R36 : wRkE x_KT x_tb x_tyl x_ov0 u_ct u_hs x_knd lwFR lwGA lwGB st0VA6_36 st0VB6_36 8000 1 60 69 1 60 205 (st0o6.map (wNo [34, 35, 36, 37, 38, 31, 32])) st0_op2 lwF36 [.inr (.inr (3, [(lSy 32)])), .inl (lAdd (lSc (-1) (lSy 35)) (lAdd (lSy 3) (lK (-1)))), .inr (.inr (11, [(lSy 35), (lSy 36)])), .inr (.inl (2000, lK 0))] = true := by decide +kernel
set_option maxRecDepth 1000000 in
theorem st0E6R37 : wRkE x_KT x_tb x_tyl x_ov0 u_ct u_hs x_knd lwFR lwGA lwGB st0VA6_37 st0VB6_37 8000 1 60 69 1 60 205 (st0o6.map (wNo [34, 35, 36, 37, 38, 31, 32])) st0_op2 lwF37 [.inr (.inr (3, [(lSy 32)])), .inl (lAdd (lSc (-1) (lSy 35)) (lAdd (lSy 3) (lK (-1)))), .inr (.inr (12, [(lSy 35), (lSy 36)])), .inr (.inl (2000, lK 0))] = true := by decide +kernel
end XRuC13
