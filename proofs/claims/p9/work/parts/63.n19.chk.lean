/-! Runs: checks, 19. -/
noncomputable section XRuC19
set_option maxRecDepth 1000000 in
theorem st0E15_1 : wEdF [(lSy 38), (lAdd (lSy 37) (lK (-3)))] 1 x_KT x_tb x_tyl x_ov0 u_ct u_hs x_knd lwFR lwGA lwGB 32 41 43 st0WA15 st0WB15 8000 1 60 69 1 60 205 st0_op11 [.inr (.inr (3, [(lSy 32)])), .inr (.inr (3, [(lSy 33)])), .inr (.inr (2, [(lSy 6), (lSy 32)])), .inr (.inr (2, [(lSy 6), (lSy 33)])), .inl (lAdd (lSy 37) (lK (-3))), .inl (lSy 38)] st0o15 = true := by decide +kernel
set_option maxRecDepth 1000000 in
theorem st0E15_2 : wEdF [(lSy 38), (lAdd (lSy 37) (lK (-3)))] 2 x_KT x_tb x_tyl x_ov0 u_ct u_hs x_knd lwFR lwGA lwGB 32 41 43 st0WA15 st0WB15 8000 1 60 69 1 60 205 st0_op11 [.inr (.inr (3, [(lSy 32)])), .inr (.inr (3, [(lSy 33)])), .inr (.inr (2, [(lSy 6), (lSy 32)])), .inr (.inr (2, [(lSy 6), (lSy 33)])), .inl (lAdd (lSy 37) (lK (-3))), .inl (lSy 38)] st0o15 = true := by decide +kernel
set_option maxRecDepth 1000000 in
theorem st0E15_3 : wEdF [(lSy 38), (lAdd (lSy 37) (lK (-3)))] 3 x_KT x_tb x_tyl x_ov0 u_ct u_hs x_knd lwFR lwGA lwGB 32 41 43 st0WA15 st0WB15 8000 1 60 69 1 60 205 st0_op11 [.inr (.inr (3, [(lSy 32)])), .inr (.inr (3, [(lSy 33)])), .inr (.inr (2, [(lSy 6), (lSy 32)])), .inr (.inr (2, [(lSy 6), (lSy 33)])), .inl (lAdd (lSy 37) (lK (-3))), .inl (lSy 38)] st0o15 = true := by decide +kernel
set_option maxRecDepth 1000000 in
theorem st0E15 : wEd x_KT x_tb x_tyl x_ov0 u_ct u_hs x_knd lwFR lwGA lwGB 32 41 43 st0WA15 st0WB15 8000 1 60 69 1 60 205 st0_op11 [.inr (.inr (3, [(lSy 32)])), .inr (.inr (3, [(lSy 33)])), .inr (.inr (2, [(lSy 6), (lSy 32)])), .inr (.inr (2, [(lSy 6), (lSy 33)])), .inl (lAdd (lSy 37) (lK (-3))), .inl (lSy 38)] st0o15 = true := wEd_F [(lSy 38), (lAdd (lSy 37) (lK (-3)))] (fun i hi => match i, hi with
  | 0, _ => st0E15_0
  | 1, _ => st0E15_1
  | 2, _ => st0E15_2
  | 3, _ => st0E15_3
  | n + 4, h => absurd h (by
    show ¬ (n + 4 < 4)
    omega))
set_option maxRecDepth 1000000 in
theorem st1E0 : wEd x_KT x_tb x_tyl x_ov0 u_ct u_hs x_knd lwFR lwGA lwGB 34 41 43 st1WA0 st1WB0 8000 0 60 69 0 60 205 st1_gen [.inr (.inr (1, [(lSy 6), (lSy 26)])), .inr (.inl (2000, lK 0))] st1o0 = true := by decide +kernel
set_option maxRecDepth 1000000 in
theorem st1E1 : wEd x_KT x_tb x_tyl x_ov0 u_ct u_hs x_knd lwFR lwGA lwGB 34 41 43 st1WA1 st1WB1 8000 0 60 69 0 60 205 st1_lo [.inr (.inr (1, [(lSy 6), (lSy 26)])), .inr (.inl (2000, lK 0))] st1o1 = true := by decide +kernel
set_option maxRecDepth 1000000 in
theorem st1E2 : wEd x_KT x_tb x_tyl x_ov0 u_ct u_hs x_knd lwFR lwGA lwGB 34 41 43 st1WA2 st1WB2 8000 0 60 69 0 60 205 st1_hi [.inr (.inr (1, [(lSy 6), (lSy 26)])), .inr (.inl (2000, lK 0))] st1o2 = true := by decide +kernel
set_option maxRecDepth 1000000 in
theorem st1E3 : wEd x_KT x_tb x_tyl x_ov0 u_ct u_hs x_knd lwFR lwGA lwGB 34 41 43 st1WA3 st1WB3 8000 0 60 69 0 60 205 st1_ou [.inr (.inr (1, [(lSy 6), (lSy 26)])), .inr (.inl (2000, lK 0))] st1o3 = true := by decide +kernel
set_option maxRecDepth 1000000 in
theorem st1E4 : wEd x_KT x_tb x_tyl x_ov0 u_ct u_hs x_knd lwFR lwGA lwGB 34 41 43 st1WA4 st1WB4 8000 1 60 69 1 60 205 st1_op0 [] (st1o4.map (wNo [29, 30])) = true := by decide +kernel
set_option maxRecDepth 1000000 in
theorem st1E4R29 : wRkE x_KT x_tb x_tyl x_ov0 u_ct u_hs x_knd lwFR lwGA lwGB st1VA4_29 st1VB4_29 8000 1 60 69 1 60 205 (st1o4.map (wNo [29, 30])) st1_op0 lwF29 [.inr (.inr (3, [(lSy 37)]))] = true := by decide +kernel
set_option maxRecDepth 1000000 in
theorem st1E4R30 : wRkE x_KT x_tb x_tyl x_ov0 u_ct u_hs x_knd lwFR lwGA lwGB st1VA4_30 st1VB4_30 8000 1 60 69 1 60 205 (st1o4.map (wNo [29, 30])) st1_op0 lwF30 [.inl (lAdd (lSy 37) (lSc (-1) (lSy 34))), .inl (lAdd (lSc (-1) (lSy 37)) (lSy 34)), .inr (.inl (0, (lSy 34))), .inr (.inr (4, []))] = true := by decide +kernel
set_option maxRecDepth 1000000 in
theorem st1E5 : wEd x_KT x_tb x_tyl x_ov0 u_ct u_hs x_knd lwFR lwGA lwGB 34 41 43 st1WA5 st1WB5 8000 1 60 69 1 60 205 st1_op1 [.inr (.inr (8, [(lSy 6), (lSy 27)])), .inr (.inl (2000, lK 0))] (st1o5.map (wNo [29, 30])) = true := by decide +kernel
set_option maxRecDepth 1000000 in
theorem st1E5R29 : wRkE x_KT x_tb x_tyl x_ov0 u_ct u_hs x_knd lwFR lwGA lwGB st1VA5_29 st1VB5_29 8000 1 60 69 1 60 205 (st1o5.map (wNo [29, 30])) st1_op1 lwF29 [.inr (.inr (8, [(lSy 6), (lSy 27)])), .inr (.inl (2000, lK 0)), .inr (.inr (3, [(lSy 37)]))] = true := by decide +kernel
end XRuC19
