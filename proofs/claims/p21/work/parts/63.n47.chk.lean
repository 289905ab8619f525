/-! Runs: checks, 47. -/
noncomputable section XRuC47
set_option maxRecDepth 1000000 in
theorem fin0tE1G0 : gRk x_KT x_tb x_tyl x_ov0 u_ctK0 u_hs x_knd lwFR lwGA lwGB fin0tE1G0VA fin0tE1G0VB 8000 1 60 116 0 60 244 (fin0to1.map (wNo [5, 6, 7, 9, 10, 8])) fin0t_lr lwF5 [.inr (.inr (4, [])), .inr (.inl (1001, (lSy 24))), .inr (.inl (1001, (lAdd (lSc (-1) (lSy 24)) (lK 11)))), .inr (.inr (18, [(lSy 29), (lSy 24)])), .inr (.inr (9, [(lSy 29)])), .inr (.inr (10, [(lSy 29)])), .inr (.inr (8, [(lSy 29)]))] [(false, 3, [.inr (lSy 29), .inl 3, .inl 0, .inr (lSy 30)]), (true, 31, [.inr (lSy 29), .inr (lSy 30)]), (false, 3, [.inr (lSy 29), .inl 4, .inl 0, .inr (lSy 30)]), (true, 33, [.inr (lSy 29), .inr (lSy 30)]), (false, 3, [.inr (lSy 29), .inl 2, .inl 0, .inr (lSy 30)]), (true, 29, [.inr (lSy 29), .inr (lSy 30)])] fin0tE1G0I = true := by decide +kernel
end XRuC47
