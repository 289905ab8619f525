/-! Runs: checks, 28. -/
noncomputable section XRuC28
set_option maxRecDepth 1000000 in
theorem rlE9 : wEdT x_KT x_tb x_tyl x_ov0 x_cp u_hs x_knd lwFR lwGA lwGB 6 29 43 rlWA9 rlWB9 [(2, 1, 1, 0)] 8000 1 60 15 1 60 183 rl_b2 rlo9 = true := by decide +kernel
theorem rlT9 : wTpk x_KT lwGA lwGB 25 2 1 160 (wUs rl_b2) lwFR = true := by decide +kernel
set_option maxRecDepth 1000000 in
theorem rlE10 : wEdT x_KT x_tb x_tyl x_ov0 x_cp u_hs x_knd lwFR lwGA lwGB 6 29 43 rlWA10 rlWB10 [(2, 1, 1, 0)] 8000 1 60 15 1 60 183 rl_b3 rlo10 = true := by decide +kernel
theorem rlT10 : wTpk x_KT lwGA lwGB 25 2 1 160 (wUs rl_b3) lwFR = true := by decide +kernel
set_option maxRecDepth 1000000 in
theorem rlE11 : wEdT x_KT x_tb x_tyl x_ov0 x_cp u_hs x_knd lwFR lwGA lwGB 6 29 43 rlWA11 rlWB11 [(2, 1, 1, 0)] 8000 1 60 15 1 60 183 rl_b4 rlo11 = true := by decide +kernel
theorem rlT11 : wTpk x_KT lwGA lwGB 25 2 1 160 (wUs rl_b4) lwFR = true := by decide +kernel
set_option maxRecDepth 1000000 in
theorem rlE12 : wEdT x_KT x_tb x_tyl x_ov0 x_cp u_hs x_knd lwFR lwGA lwGB 6 29 43 rlWA12 rlWB12 [(2, 1, 1, 0)] 8000 1 60 15 1 60 183 rl_b5 rlo12 = true := by decide +kernel
theorem rlT12 : wTpk x_KT lwGA lwGB 25 2 1 160 (wUs rl_b5) lwFR = true := by decide +kernel
set_option maxRecDepth 1000000 in
theorem rlE13 : wEdT x_KT x_tb x_tyl x_ov0 x_cp u_hs x_knd lwFR lwGA lwGB 6 29 43 rlWA13 rlWB13 [(2, 1, 1, 0)] 8000 1 60 15 1 60 183 rl_b6 rlo13 = true := by decide +kernel
theorem rlT13 : wTpk x_KT lwGA lwGB 25 2 1 160 (wUs rl_b6) lwFR = true := by decide +kernel
set_option maxRecDepth 1000000 in
theorem rlE14 : wEdT x_KT x_tb x_tyl x_ov0 x_cp u_hs x_knd lwFR lwGA lwGB 6 29 43 rlWA14 rlWB14 [(2, 1, 1, 0)] 8000 1 60 15 1 60 183 rl_b7 rlo14 = true := by decide +kernel
theorem rlT14 : wTpk x_KT lwGA lwGB 25 2 1 160 (wUs rl_b7) lwFR = true := by decide +kernel
set_option maxRecDepth 1000000 in
theorem rlE15 : wEdT x_KT x_tb x_tyl x_ov0 x_cp u_hs x_knd lwFR lwGA lwGB 6 29 43 rlWA15 rlWB15 [(2, 1, 1, 0)] 8000 1 60 15 1 60 183 rl_b23 rlo15 = true := by decide +kernel
theorem rlT15 : wTpk x_KT lwGA lwGB 25 2 1 160 (wUs rl_b23) lwFR = true := by decide +kernel
set_option maxRecDepth 1000000 in
theorem rlE16 : wEdT x_KT x_tb x_tyl x_ov0 x_cp u_hs x_knd lwFR lwGA lwGB 6 29 43 rlWA16 rlWB16 [(2, 1, 1, 0)] 8000 1 60 15 1 60 183 rl_b9 rlo16 = true := by decide +kernel
theorem rlT16 : wTpk x_KT lwGA lwGB 25 2 1 160 (wUs rl_b9) lwFR = true := by decide +kernel
end XRuC28
