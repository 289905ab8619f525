/-! Runs: checks, 16. -/
noncomputable section XRuC16
set_option maxRecDepth 1000000 in
theorem st0E10R30 : wRkE x_KT x_tb x_tyl x_ov0 u_ct u_hs x_knd lwFR lwGA lwGB st0VA10_30 st0VB10_30 8000 1 60 69 1 60 205 (st0o10.map (wNo [29, 30])) st0_op6 lwF30 [.inr (.inr (3, [(lSy 32)])), .inr (.inr (3, [(lSy 33)])), .inr (.inr (2, [(lSy 6), (lSy 32)])), .inr (.inr (4, [(lSy 35)]))] = true := by decide +kernel
set_option maxRecDepth 1000000 in
theorem st0E11_0 : wEdF [(lAdd (lSy 37) (lK (-3)))] 0 x_KT x_tb x_tyl x_ov0 u_ct u_hs x_knd lwFR lwGA lwGB 32 41 43 st0WA11 st0WB11 8000 1 60 69 1 60 205 st0_op7 [.inr (.inr (3, [(lSy 32)])), .inr (.inr (3, [(lSy 33)])), .inr (.inr (2, [(lSy 6), (lSy 32)])), .inr (.inr (2, [(lSy 6), (lSy 33)])), .inl (lAdd (lSy 37) (lK (-3)))] st0o11 = true := by decide +kernel
set_option maxRecDepth 1000000 in
theorem st0E11_1 : wEdF [(lAdd (lSy 37) (lK (-3)))] 1 x_KT x_tb x_tyl x_ov0 u_ct u_hs x_knd lwFR lwGA lwGB 32 41 43 st0WA11 st0WB11 8000 1 60 69 1 60 205 st0_op7 [.inr (.inr (3, [(lSy 32)])), .inr (.inr (3, [(lSy 33)])), .inr (.inr (2, [(lSy 6), (lSy 32)])), .inr (.inr (2, [(lSy 6), (lSy 33)])), .inl (lAdd (lSy 37) (lK (-3)))] st0o11 = true := by decide +kernel
set_option maxRecDepth 1000000 in
theorem st0E11 : wEd x_KT x_tb x_tyl x_ov0 u_ct u_hs x_knd lwFR lwGA lwGB 32 41 43 st0WA11 st0WB11 8000 1 60 69 1 60 205 st0_op7 [.inr (.inr (3, [(lSy 32)])), .inr (.inr (3, [(lSy 33)])), .inr (.inr (2, [(lSy 6), (lSy 32)])), .inr (.inr (2, [(lSy 6), (lSy 33)])), .inl (lAdd (lSy 37) (lK (-3)))] st0o11 = true := wEd_F [(lAdd (lSy 37) (lK (-3)))] (fun i hi => match i, hi with
  | 0, _ => st0E11_0
  | 1, _ => st0E11_1
  | n + 2, h => absurd h (by
    show ¬ (n + 2 < 2)
    omega))
set_option maxRecDepth 1000000 in
theorem st0E12_0 : wEdF [(lAdd (lSy 18) (lK (-2))), (lAdd (lSy 36) (lK (-3))), (lAdd (lSy 18) (lK (-1)))] 0 x_KT x_tb x_tyl x_ov0 u_ct u_hs x_knd lwFR lwGA lwGB 32 41 43 st0WA12 st0WB12 8000 1 60 69 1 60 205 st0_op8 [.inr (.inr (3, [(lSy 32)])), .inr (.inr (2, [(lSy 6), (lSy 32)])), .inl (lAdd (lSy 36) (lK (-3))), .inl (lAdd (lSy 18) (lK (-1))), .inl (lAdd (lSy 18) (lK (-2)))] st0o12 = true := by decide +kernel
end XRuC16
