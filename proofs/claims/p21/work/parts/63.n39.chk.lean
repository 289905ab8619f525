/-! Runs: checks, 39. -/
noncomputable section XRuC39
set_option maxRecDepth 1000000 in
theorem st1E20G0 : gRk x_KT x_tb x_tyl x_ov0 u_ct u_hs x_knd lwFR lwGA lwGB st1E20G0VA st1E20G0VB 8000 1 60 69 1 60 205 (st1o20.map (wNo [34, 33])) st1_L1 lwF34 [.inr (.inr (8, [(lSy 6), (lSy 27)])), .inr (.inl (2008, lK 0)), .inr (.inr (4, [(lSy 34)])), .inl (lAdd (lSy 35) (lSc (-1) (lSy 34))), .inl (lAdd (lSc (-1) (lSy 35)) (lSy 34)), .inr (.inr (3, [(lSy 35)])), .inr (.inl (0, (lSy 34))), .inr (.inr (3, [(lSy 34)])), .inr (.inr (4, []))] [] st1E20G0I = true := by decide +kernel
end XRuC39
