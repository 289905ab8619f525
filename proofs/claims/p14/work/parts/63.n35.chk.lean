/-! Runs: checks, 35. -/
noncomputable section XRuC35
set_option maxRecDepth 1000000 in
theorem mrE0G1 : gRk x_KT x_tb x_tyl x_ov0 u_ct u_hs x_knd lwFR lwGA lwGB mrE0G1VA mrE0G1VB 8000 1 60 64 1 60 203 (mro0.map (wNo [29, 30, 34, 35, 36, 37, 38, 31, 32])) mr_in lwF34 [.inr (.inr (0, [(lSy 6)])), .inr (.inr (3, [])), .inr (.inr (4, [])), .inr (.inr (11, [(lSy 6)])), .inl (lSy 12), .inr (.inr (8, [(lSy 6)])), .inr (.inr (12, [(lSy 12), (lSy 6)])), .inr (.inr (12, [(lSy 6), (lSy 12)])), .inr (.inr (9, [(lSy 12)])), .inr (.inr (10, [(lSy 12)])), .inr (.inl (2008, lK 0))] [] mrE0G1I = true := by decide +kernel
end XRuC35
