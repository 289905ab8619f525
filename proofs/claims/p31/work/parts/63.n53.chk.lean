/-! Runs: checks, 53. -/
noncomputable section XRuC53
set_option maxRecDepth 1000000 in
theorem cbaE1G0 : gRk x_KT x_tb x_tyl x_ov0 u_ctK1 u_hs x_knd lwFR lwGA lwGB cbaE1G0VA cbaE1G0VB 8000 1 60 115 0 60 244 (cbao1.map (wNo [5, 6, 7, 9, 10, 8])) cba_in lwF5 [.inr (.inr (4, [])), .inr (.inr (15, [(lSy 28)])), .inr (.inr (9, [(lSy 28)])), .inr (.inr (10, [(lSy 28)])), .inr (.inr (8, [(lSy 28)]))] [(false, 5, [.inr (lSy 28), .inl 3, .inl 0, .inr (lSy 29)]), (true, 31, [.inr (lSy 28), .inr (lSy 29)]), (false, 5, [.inr (lSy 28), .inl 4, .inl 0, .inr (lSy 29)]), (true, 33, [.inr (lSy 28), .inr (lSy 29)]), (false, 5, [.inr (lSy 28), .inl 2, .inl 0, .inr (lSy 29)]), (true, 29, [.inr (lSy 28), .inr (lSy 29)])] cbaE1G0I = true := by decide +kernel
end XRuC53
