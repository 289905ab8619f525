/-! Runs: checks, 30. -/
noncomputable section XRuC30
set_option maxRecDepth 1000000 in
theorem rlE19 : wEdT x_KT x_tb x_tyl x_ov0 x_cp u_hs x_knd lwFR lwGA lwGB 6 29 43 rlWA19 rlWB19 [(2, 1, 1, 0)] 8000 1 60 15 1 60 183 rl_b12 rlo19 = true := by decide +kernel
theorem rlT19 : wTpk x_KT lwGA lwGB 25 2 1 160 (wUs rl_b12) lwFR = true := by decide +kernel
set_option maxRecDepth 1000000 in
theorem rlE20 : wEdT x_KT x_tb x_tyl x_ov0 x_cp u_hs x_knd lwFR lwGA lwGB 6 29 43 rlWA20 rlWB20 [(2, 1, 1, 0)] 8000 1 60 15 1 60 183 rl_b13 rlo20 = true := by decide +kernel
theorem rlT20 : wTpk x_KT lwGA lwGB 25 2 1 160 (wUs rl_b13) lwFR = true := by decide +kernel
set_option maxRecDepth 1000000 in
theorem rlE21 : wEdT x_KT x_tb x_tyl x_ov0 x_cp u_hs x_knd lwFR lwGA lwGB 6 29 43 rlWA21 rlWB21 [(2, 1, 1, 0)] 8000 1 60 15 1 60 183 rl_b14 rlo21 = true := by decide +kernel
theorem rlT21 : wTpk x_KT lwGA lwGB 25 2 1 160 (wUs rl_b14) lwFR = true := by decide +kernel
set_option maxRecDepth 1000000 in
theorem rlE22 : wEdT x_KT x_tb x_tyl x_ov0 x_cp u_hs x_knd lwFR lwGA lwGB 6 29 43 rlWA22 rlWB22 [(2, 1, 1, 0)] 8000 1 60 15 1 60 183 rl_b33 rlo22 = true := by decide +kernel
theorem rlT22 : wTpk x_KT lwGA lwGB 25 2 1 160 (wUs rl_b33) lwFR = true := by decide +kernel
set_option maxRecDepth 1000000 in
theorem rlE23 : wEdT x_KT x_tb x_tyl x_ov0 x_cp u_hs x_knd lwFR lwGA lwGB 6 29 43 rlWA23 rlWB23 [(2, 1, 1, 0)] 8000 1 60 15 1 60 183 rl_b16 rlo23 = true := by decide +kernel
theorem rlT23 : wTpk x_KT lwGA lwGB 25 2 1 160 (wUs rl_b16) lwFR = true := by decide +kernel
set_option maxRecDepth 1000000 in
theorem rlE24 : wEdT x_KT x_tb x_tyl x_ov0 x_cp u_hs x_knd lwFR lwGA lwGB 6 29 43 rlWA24 rlWB24 [(2, 1, 1, 0)] 8000 1 60 15 1 60 183 rl_b18 rlo24 = true := by decide +kernel
theorem rlT24 : wTpk x_KT lwGA lwGB 25 2 1 160 (wUs rl_b18) lwFR = true := by decide +kernel
set_option maxRecDepth 1000000 in
theorem rlE25 : wEdT x_KT x_tb x_tyl x_ov0 x_cp u_hs x_knd lwFR lwGA lwGB 6 29 43 rlWA25 rlWB25 [(2, 1, 1, 0)] 8000 1 60 15 1 60 183 rl_b38 rlo25 = true := by decide +kernel
theorem rlT25 : wTpk x_KT lwGA lwGB 25 2 1 160 (wUs rl_b38) lwFR = true := by decide +kernel
end XRuC30
