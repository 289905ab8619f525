/-! Runs: checks, 34. -/
noncomputable section XRuC34
set_option maxRecDepth 1000000 in
theorem rlE41 : wEdT x_KT x_tb x_tyl x_ov0 x_cp u_hs x_knd lwFR lwGA lwGB 6 29 43 rlWA41 rlWB41 [(2, 1, 1, 0)] 8000 1 60 15 1 60 183 rl_b39 rlo41 = true := by decide +kernel
theorem rlT41 : wTpk x_KT lwGA lwGB 25 2 1 160 (wUs rl_b39) lwFR = true := by decide +kernel
set_option maxRecDepth 1000000 in
theorem rlE42 : wEdT x_KT x_tb x_tyl x_ov0 x_cp u_hs x_knd lwFR lwGA lwGB 6 29 43 rlWA42 rlWB42 [(2, 1, 1, 0)] 8000 1 60 15 1 60 183 rl_b46 rlo42 = true := by decide +kernel
theorem rlT42 : wTpk x_KT lwGA lwGB 25 2 1 160 (wUs rl_b46) lwFR = true := by decide +kernel
set_option maxRecDepth 1000000 in
theorem rlE43 : wEdT x_KT x_tb x_tyl x_ov0 x_cp u_hs x_knd lwFR lwGA lwGB 6 29 43 rlWA43 rlWB43 [(2, 1, 1, 0)] 8000 1 60 15 1 60 183 rl_b41 rlo43 = true := by decide +kernel
theorem rlT43 : wTpk x_KT lwGA lwGB 25 2 1 160 (wUs rl_b41) lwFR = true := by decide +kernel
set_option maxRecDepth 1000000 in
theorem rlE44 : wEdT x_KT x_tb x_tyl x_ov0 x_cp u_hs x_knd lwFR lwGA lwGB 6 29 43 rlWA44 rlWB44 [(2, 1, 1, 0)] 8000 1 60 15 1 60 183 rl_b43 rlo44 = true := by decide +kernel
theorem rlT44 : wTpk x_KT lwGA lwGB 25 2 1 160 (wUs rl_b43) lwFR = true := by decide +kernel
end XRuC34
