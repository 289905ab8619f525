/-! Runs: checks, 18. -/
noncomputable section XRuC18
set_option maxRecDepth 1000000 in
theorem st0E12_5 : wEdF [(lAdd (lSy 18) (lK (-2))), (lAdd (lSy 36) (lK (-3))), (lAdd (lSy 18) (lK (-1)))] 5 x_KT x_tb x_tyl x_ov0 u_ct u_hs x_knd lwFR lwGA lwGB 32 41 43 st0WA12 st0WB12 8000 1 60 69 1 60 205 st0_op8 [.inr (.inr (3, [(lSy 32)])), .inr (.inr (2, [(lSy 6), (lSy 32)])), .inl (lAdd (lSy 36) (lK (-3))), .inl (lAdd (lSy 18) (lK (-1))), .inl (lAdd (lSy 18) (lK (-2)))] st0o12 = true := by decide +kernel
set_option maxRecDepth 1000000 in
theorem st0E12_6 : wEdF [(lAdd (lSy 18) (lK (-2))), (lAdd (lSy 36) (lK (-3))), (lAdd (lSy 18) (lK (-1)))] 6 x_KT x_tb x_tyl x_ov0 u_ct u_hs x_knd lwFR lwGA lwGB 32 41 43 st0WA12 st0WB12 8000 1 60 69 1 60 205 st0_op8 [.inr (.inr (3, [(lSy 32)])), .inr (.inr (2, [(lSy 6), (lSy 32)])), .inl (lAdd (lSy 36) (lK (-3))), .inl (lAdd (lSy 18) (lK (-1))), .inl (lAdd (lSy 18) (lK (-2)))] st0o12 = true := by decide +kernel
set_option maxRecDepth 1000000 in
theorem st0E12_7 : wEdF [(lAdd (lSy 18) (lK (-2))), (lAdd (lSy 36) (lK (-3))), (lAdd (lSy 18) (lK (-1)))] 7 x_KT x_tb x_tyl x_ov0 u_ct u_hs x_knd lwFR lwGA lwGB 32 41 43 st0WA12 st0WB12 8000 1 60 69 1 60 205 st0_op8 [.inr (.inr (3, [(lSy 32)])), .inr (.inr (2, [(lSy 6), (lSy 32)])), .inl (lAdd (lSy 36) (lK (-3))), .inl (lAdd (lSy 18) (lK (-1))), .inl (lAdd (lSy 18) (lK (-2)))] st0o12 = true := by decide +kernel
set_option maxRecDepth 1000000 in
theorem st0E12 : wEd x_KT x_tb x_tyl x_ov0 u_ct u_hs x_knd lwFR lwGA lwGB 32 41 43 st0WA12 st0WB12 8000 1 60 69 1 60 205 st0_op8 [.inr (.inr (3, [(lSy 32)])), .inr (.inr (2, [(lSy 6), (lSy 32)])), .inl (lAdd (lSy 36) (lK (-3))), .inl (lAdd (lSy 18) (lK (-1))), .inl (lAdd (lSy 18) (lK (-2)))] st0o12 = true := wEd_F [(lAdd (lSy 18) (lK (-2))), (lAdd (lSy 36) (lK (-3))), (lAdd (lSy 18) (lK (-1)))] (fun i hi => match i, hi with
  | 0, _ => st0E12_0
  | 1, _ => st0E12_1
  | 2, _ => st0E12_2
  | 3, _ => st0E12_3
  | 4, _ => st0E12_4
  | 5, _ => st0E12_5
  | 6, _ => st0E12_6
  | 7, _ => st0E12_7
  | n + 8, h => absurd h (by
    show ¬ (n + 8 < 8)
    omega))
set_option maxRecDepth 1000000 in
theorem st0E13 : wEd x_KT x_tb x_tyl x_ov0 u_ct u_hs x_knd lwFR lwGA lwGB 32 41 43 st0WA13 st0WB13 8000 1 60 69 1 60 205 st0_op9 [] st0o13 = true := by decide +kernel
set_option maxRecDepth 1000000 in
theorem st0E14 : wEd x_KT x_tb x_tyl x_ov0 u_ct u_hs x_knd lwFR lwGA lwGB 32 41 43 st0WA14 st0WB14 8000 1 60 69 1 60 205 st0_op10 [] st0o14 = true := by decide +kernel
set_option maxRecDepth 1000000 in
theorem st0E15_0 : wEdF [(lSy 38), (lAdd (lSy 37) (lK (-3)))] 0 x_KT x_tb x_tyl x_ov0 u_ct u_hs x_knd lwFR lwGA lwGB 32 41 43 st0WA15 st0WB15 8000 1 60 69 1 60 205 st0_op11 [.inr (.inr (3, [(lSy 32)])), .inr (.inr (3, [(lSy 33)])), .inr (.inr (2, [(lSy 6), (lSy 32)])), .inr (.inr (2, [(lSy 6), (lSy 33)])), .inl (lAdd (lSy 37) (lK (-3))), .inl (lSy 38)] st0o15 = true := by decide +kernel
end XRuC18
