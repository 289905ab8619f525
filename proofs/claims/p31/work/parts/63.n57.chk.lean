/-! Runs: checks, 57. -/
noncomputable section XRuC57
set_option maxRecDepth 1000000 in
theorem rhE2G0 : gRk x_KT x_tb x_tyl x_ov0 u_ctK1 u_hs x_knd lwFR lwGA lwGB rhE2G0VA rhE2G0VB 8000 1 60 144 0 60 244 (rho2.map (wNo [5, 6, 7, 9, 10, 8])) rh_lp lwF5 [.inr (.inr (4, [])), .inl (lAdd (lSc (-1) (lSy 22)) (lAdd (lSy 5) (lK (-1)))), .inr (.inl (1001, (lAdd (lSc (-1) (lSy 22)) (lK 11)))), .inr (.inr (11, [(lSy 22)])), .inr (.inr (18, [(lSy 23), (lSy 22)])), .inr (.inr (9, [(lSy 23)])), .inr (.inr (10, [(lSy 23)])), .inr (.inr (8, [(lSy 23)]))] [(false, 5, [.inr (lSy 23), .inl 3, .inl 0, .inr (lSy 24)]), (true, 31, [.inr (lSy 23), .inr (lSy 24)]), (false, 5, [.inr (lSy 23), .inl 4, .inl 0, .inr (lSy 24)]), (true, 33, [.inr (lSy 23), .inr (lSy 24)]), (false, 5, [.inr (lSy 23), .inl 2, .inl 0, .inr (lSy 24)]), (true, 29, [.inr (lSy 23), .inr (lSy 24)])] rhE2G0I = true := by decide +kernel
end XRuC57
