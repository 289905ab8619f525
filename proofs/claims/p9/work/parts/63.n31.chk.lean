/-! Runs: checks, 31. -/
noncomputable section XRuC31
set_option maxRecDepth 1000000 in
theorem rlE26 : wEdT x_KT x_tb x_tyl x_ov0 x_cp u_hs x_knd lwFR lwGA lwGB 6 29 43 rlWA26 rlWB26 [(2, 1, 1, 0)] 8000 1 60 15 1 60 183 rl_b20 rlo26 = true := by decide +kernel
theorem rlT26 : wTpk x_KT lwGA lwGB 25 2 1 160 (wUs rl_b20) lwFR = true := by decide +kernel
set_option maxRecDepth 1000000 in
theorem rlE27 : wEdT x_KT x_tb x_tyl x_ov0 x_cp u_hs x_knd lwFR lwGA lwGB 6 29 43 rlWA27 rlWB27 [(2, 1, 1, 0)] 8000 1 60 15 1 60 183 rl_b21 rlo27 = true := by decide +kernel
theorem rlT27 : wTpk x_KT lwGA lwGB 25 2 1 160 (wUs rl_b21) lwFR = true := by decide +kernel
set_option maxRecDepth 1000000 in
theorem rlE28 : wEdT x_KT x_tb x_tyl x_ov0 x_cp u_hs x_knd lwFR lwGA lwGB 6 29 43 rlWA28 rlWB28 [(2, 1, 1, 0)] 8000 1 60 15 1 60 183 rl_b22 rlo28 = true := by decide +kernel
theorem rlT28 : wTpk x_KT lwGA lwGB 25 2 1 160 (wUs rl_b22) lwFR = true := by decide +kernel
set_option maxRecDepth 1000000 in
theorem rlE29 : wEdT x_KT x_tb x_tyl x_ov0 x_cp u_hs x_knd lwFR lwGA lwGB 6 29 43 rlWA29 rlWB29 [(2, 1, 1, 0)] 8000 1 60 15 1 60 183 rl_b24 rlo29 = true := by decide +kernel
theorem rlT29 : wTpk x_KT lwGA lwGB 25 2 1 160 (wUs rl_b24) lwFR = true := by decide +kernel
set_option maxRecDepth 1000000 in
theorem rlE30 : wEdT x_KT x_tb x_tyl x_ov0 x_cp u_hs x_knd lwFR lwGA lwGB 6 29 43 rlWA30 rlWB30 [(2, 1, 1, 0)] 8000 1 60 15 1 60 183 rl_b25 rlo30 = true := by decide +kernel
theorem rlT30 : wTpk x_KT lwGA lwGB 25 2 1 160 (wUs rl_b25) lwFR = true := by decide +kernel
end XRuC31
