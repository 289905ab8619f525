/-! Runs: checks, 43. -/
noncomputable section XRuC43
set_option maxRecDepth 1000000 in
theorem fin1E1G0 : gRk x_KT x_tb x_tyl x_ov0 u_ctK0 u_hs x_knd lwFR lwGA lwGB fin1E1G0VA fin1E1G0VB 8000 1 60 116 0 60 244 (fin1o1.map (wNo [5, 6, 7, 9, 10, 8])) fin1_lr lwF5 [.inr (.inr (4, [])), .inr (.inr (15, [(lSy 29)])), .inr (.inr (9, [(lSy 29)])), .inr (.inr (10, [(lSy 29)])), .inr (.inr (8, [(lSy 29)]))] [(false, 3, [.inr (lSy 29), .inl 3, .inl 0, .inr (lSy 30)]), (true, 31, [.inr (lSy 29), .inr (lSy 30)]), (false, 3, [.inr (lSy 29), .inl 4, .inl 0, .inr (lSy 30)]), (true, 33, [.inr (lSy 29), .inr (lSy 30)]), (false, 3, [.inr (lSy 29), .inl 2, .inl 0, .inr (lSy 30)]), (true, 29, [.inr (lSy 29), .inr (lSy 30)])] fin1E1G0I = true := by decide +kernel
end XRuC43
