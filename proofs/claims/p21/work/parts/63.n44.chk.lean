/-! Runs: checks, 44. -/
noncomputable section XRuC44
set_option maxRecDepth 1000000 in
theorem cbaE1G0 : gRk x_KT x_tb x_tyl x_ov0 u_ctK1 u_hs x_knd lwFR lwGA lwGB cbaE1G0VA cbaE1G0VB 8000 1 60 115 0 60 244 (cbao1.map (wNo [5, 6, 7, 9, 10, 8])) cba_in lwF5 [.inr (.inr (4, [])), .inr (.inr (15, [(lSy 26)])), .inr (.inr (9, [(lSy 26)])), .inr (.inr (10, [(lSy 26)])), .inr (.inr (8, [(lSy 26)]))] [(false, 3, [.inr (lSy 26), .inl 3, .inl 0, .inr (lSy 27)]), (true, 31, [.inr (lSy 26), .inr (lSy 27)]), (false, 3, [.inr (lSy 26), .inl 4, .inl 0, .inr (lSy 27)]), (true, 33, [.inr (lSy 26), .inr (lSy 27)]), (false, 3, [.inr (lSy 26), .inl 2, .inl 0, .inr (lSy 27)]), (true, 29, [.inr (lSy 26), .inr (lSy 27)])] cbaE1G0I = true := by decide +kernel
end XRuC44
