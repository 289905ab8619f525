/-! Runs: checks, 37. -/
noncomputable section XRuC37
set_option maxRecDepth 1000000 in
theorem rhE2R7_1 : wRkEF [(lAdd (lSc (-1) (lSy 21)) (lAdd (lSy 3) (lK (-1))))] 1 x_KT x_tb x_tyl x_ov0 u_ctK1 u_hs x_knd lwFR lwGA lwGB rhVA2_7 rhVB2_7 8000 1 60 144 0 60 244 (rho2.map (wNo [5, 6, 7, 9, 10, 8])) rh_lp lwF7 [.inr (.inr (4, [])), .inl (lAdd (lSc (-1) (lSy 20)) (lAdd (lSy 3) (lK (-1)))), .inr (.inl (1001, (lAdd (lSc (-1) (lSy 20)) (lK 11)))), .inr (.inr (11, [(lSy 20)])), .inl (lAdd (lSc (-1) (lSy 21)) (lAdd (lSy 3) (lK (-1)))), .inr (.inr (18, [(lSy 21), (lSy 20)])), .inr (.inr (7, [])), .inr (.inl (2000, lK 0))] = true := by decide +kernel
set_option maxRecDepth 1000000 in
theorem rhE2R7 : wRkE x_KT x_tb x_tyl x_ov0 u_ctK1 u_hs x_knd lwFR lwGA lwGB rhVA2_7 rhVB2_7 8000 1 60 144 0 60 244 (rho2.map (wNo [5, 6, 7, 9, 10, 8])) rh_lp lwF7 [.inr (.inr (4, [])), .inl (lAdd (lSc (-1) (lSy 20)) (lAdd (lSy 3) (lK (-1)))), .inr (.inl (1001, (lAdd (lSc (-1) (lSy 20)) (lK 11)))), .inr (.inr (11, [(lSy 20)])), .inl (lAdd (lSc (-1) (lSy 21)) (lAdd (lSy 3) (lK (-1)))), .inr (.inr (18, [(lSy 21), (lSy 20)])), .inr (.inr (7, [])), .inr (.inl (2000, lK 0))] = true := wRkE_F [(lAdd (lSc (-1) (lSy 21)) (lAdd (lSy 3) (lK (-1))))] (fun i hi => match i, hi with
  | 0, _ => rhE2R7_0
  | 1, _ => rhE2R7_1
  | n + 2, h => absurd h (by
    show ¬ (n + 2 < 2)
    omega))
set_option maxRecDepth 1000000 in
theorem rhE2R9 : wRkE x_KT x_tb x_tyl x_ov0 u_ctK1 u_hs x_knd lwFR lwGA lwGB rhVA2_9 rhVB2_9 8000 1 60 144 0 60 244 (rho2.map (wNo [5, 6, 7, 9, 10, 8])) rh_lp lwF9 [.inr (.inr (4, [])), .inl (lAdd (lSc (-1) (lSy 20)) (lAdd (lSy 3) (lK (-1)))), .inr (.inl (1001, (lAdd (lSc (-1) (lSy 20)) (lK 11)))), .inr (.inr (11, [(lSy 20)])), .inl (lAdd (lSc (-1) (lSy 21)) (lAdd (lSy 3) (lK (-1)))), .inr (.inr (18, [(lSy 21), (lSy 20)])), .inr (.inr (9, [])), .inr (.inl (2000, lK 0))] = true := by decide +kernel
set_option maxRecDepth 1000000 in
theorem rhE2R10 : wRkE x_KT x_tb x_tyl x_ov0 u_ctK1 u_hs x_knd lwFR lwGA lwGB rhVA2_10 rhVB2_10 8000 1 60 144 0 60 244 (rho2.map (wNo [5, 6, 7, 9, 10, 8])) rh_lp lwF10 [.inr (.inr (4, [])), .inl (lAdd (lSc (-1) (lSy 20)) (lAdd (lSy 3) (lK (-1)))), .inr (.inl (1001, (lAdd (lSc (-1) (lSy 20)) (lK 11)))), .inr (.inr (11, [(lSy 20)])), .inl (lAdd (lSc (-1) (lSy 21)) (lAdd (lSy 3) (lK (-1)))), .inr (.inr (18, [(lSy 21), (lSy 20)])), .inr (.inr (10, [])), .inr (.inl (2000, lK 0))] = true := by decide +kernel
end XRuC37
