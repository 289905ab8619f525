/-! Runs: checks, 29. -/
noncomputable section XRuC29
set_option maxRecDepth 1000000 in
theorem rlE17 : wEdT x_KT x_tb x_tyl x_ov0 x_cp u_hs x_knd lwFR lwGA lwGB 6 29 43 rlWA17 rlWB17 [(2, 1, 1, 0)] 8000 1 60 15 1 60 183 rl_b27 rlo17 = true := by decide +kernel
theorem rlT17 : wTpk x_KT lwGA lwGB 25 2 1 160 (wUs rl_b27) lwFR = true := by decide +kernel
set_option maxRecDepth 1000000 in
theorem rlE18 : wEdT x_KT x_tb x_tyl x_ov0 x_cp u_hs x_knd lwFR lwGA lwGB 6 29 43 rlWA18 rlWB18 [(2, 1, 1, 0)] 8000 1 60 15 1 60 183 rl_b11 rlo18 = true := by decide +kernel
theorem rlT18 : wTpk x_KT lwGA lwGB 25 2 1 160 (wUs rl_b11) lwFR = true := by decide +kernel
end XRuC29
