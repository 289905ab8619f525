/-! Runs: checks, 36. -/
noncomputable section XRuC36
set_option maxRecDepth 1000000 in
theorem rhE2R5 : wRkE x_KT x_tb x_tyl x_ov0 u_ctK1 u_hs x_knd lwFR lwGA lwGB rhVA2_5 rhVB2_5 8000 1 60 144 0 60 244 (rho2.map (wNo [5, 6, 7, 9, 10, 8])) rh_lp lwF5 [.inr (.inr (4, [])), .inl (lAdd (lSc (-1) (lSy 20)) (lAdd (lSy 3) (lK (-1)))), .inr (.inl (1001, (lAdd (lSc (-1) (lSy 20)) (lK 11)))), .inr (.inr (11, [(lSy 20)])), .inl (lAdd (lSc (-1) (lSy 21)) (lAdd (lSy 3) (lK (-1)))), .inr (.inr (18, [(lSy 21), (lSy 20)])), .inr (.inr (5, [])), .inr (.inl (2000, lK 0))] = true := by decide +kernel
set_option maxRecDepth 1000000 in
theorem rhE2R6 : wRkE x_KT x_tb x_tyl x_ov0 u_ctK1 u_hs x_knd lwFR lwGA lwGB rhVA2_6 rhVB2_6 8000 1 60 144 0 60 244 (rho2.map (wNo [5, 6, 7, 9, 10, 8])) rh_lp lwF6 [.inr (.inr (4, [])), .inl (lAdd (lSc (-1) (lSy 20)) (lAdd (lSy 3) (lK (-1)))), .inr (.inl (1001, (lAdd (lSc (-1) (lSy 20)) (lK 11)))), .inr (.inr (11, [(lSy 20)])), .inl (lAdd (lSc (-1) (lSy 21)) (lAdd (lSy 3) (lK (-1)))), .inr (.inr (18, [(lSy 21), (lSy 20)])), .inr (.inr (6, [])), .inr (.inl (2000, lK 0))] = true := by decide +kernel
set_option maxRecDepth 1000000 in
theorem rhE2R7_0 : wRkEF [(lAdd (lSc (-1) (lSy 21)) (lAdd (lSy 3) (lK (-1))))] 0 x_KT x_tb x_tyl x_ov0 u_ctK1 u_hs x_knd lwFR lwGA lwGB rhVA2_7 rhVB2_7 8000 1 60 144 0 60 244 (rho2.map (wNo [5, 6, 7, 9, 10, 8])) rh_lp lwF7 [.inr (.inr (4, [])), .inl (lAdd (lSc (-1) (lSy 20)) (lAdd (lSy 3) (lK (-1)))), .inr (.inl (1001, (lAdd (lSc (-1) (lSy 20)) (lK 11)))), .inr (.inr (11, [(lSy 20)])), .inl (lAdd (lSc (-1) (lSy 21)) (lAdd (lSy 3) (lK (-1)))), .inr (.inr (18, [(lSy 21), (lSy 20)])), .inr (.inr (7, [])), .inr (.inl (2000, lK 0))] = true := by decide +kernel
end XRuC36
