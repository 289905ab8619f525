/-! Runs: checks, 46. -/
noncomputable section XRuC46
set_option maxRecDepth 1000000 in
theorem rtE2G0 : gRk x_KT x_tb x_tyl x_ov0 u_ct u_hs x_knd lwFR lwGA lwGB rtE2G0VA rtE2G0VB 8000 1 60 141 0 60 244 (rto2.map (wNo [5, 6, 7, 9, 10, 8])) rt_lp lwF5 [.inr (.inr (4, [])), .inl (lAdd (lSc (-1) (lSy 13)) (lAdd (lSy 3) (lK (-1)))), .inr (.inl (1001, (lAdd (lSc (-1) (lSy 13)) (lK 11)))), .inr (.inr (11, [(lSy 13)])), .inr (.inr (18, [(lSy 14), (lSy 13)])), .inr (.inr (9, [(lSy 14)])), .inr (.inr (10, [(lSy 14)])), .inr (.inr (8, [(lSy 14)]))] [(false, 3, [.inr (lSy 14), .inl 3, .inl 0, .inr (lSy 15)]), (true, 31, [.inr (lSy 14), .inr (lSy 15)]), (false, 3, [.inr (lSy 14), .inl 4, .inl 0, .inr (lSy 15)]), (true, 33, [.inr (lSy 14), .inr (lSy 15)]), (false, 3, [.inr (lSy 14), .inl 2, .inl 0, .inr (lSy 15)]), (true, 29, [.inr (lSy 14), .inr (lSy 15)])] rtE2G0I = true := by decide +kernel
end XRuC46
