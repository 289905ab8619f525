/-! Runs: checks, 50. -/
noncomputable section XRuC50
set_option maxRecDepth 1000000 in
theorem rhE2G2 : gRk x_KT x_tb x_tyl x_ov0 u_ctK1 u_hs x_knd lwFR lwGA lwGB rhE2G2VA rhE2G2VB 8000 1 60 144 0 60 244 (rho2.map (wNo [5, 6, 7, 9, 10, 8])) rh_lp lwF5 [.inr (.inr (4, [])), .inl (lAdd (lSc (-1) (lSy 20)) (lAdd (lSy 3) (lK (-1)))), .inr (.inl (1001, (lAdd (lSc (-1) (lSy 20)) (lK 11)))), .inr (.inr (11, [(lSy 20)])), .inr (.inr (18, [(lSy 21), (lSy 20)])), .inr (.inr (9, [(lSy 21)])), .inr (.inr (10, [(lSy 21)])), .inr (.inr (8, [(lSy 21)]))] [(false, 3, [.inr (lSy 21), .inl 3, .inl 0, .inr (lSy 22)]), (true, 31, [.inr (lSy 21), .inr (lSy 22)]), (false, 3, [.inr (lSy 21), .inl 4, .inl 0, .inr (lSy 22)]), (true, 33, [.inr (lSy 21), .inr (lSy 22)]), (false, 3, [.inr (lSy 21), .inl 2, .inl 0, .inr (lSy 22)]), (true, 29, [.inr (lSy 21), .inr (lSy 22)])] rhE2G2I = true := by decide +kernel
end XRuC50
