/-! Runs: checks, 7. -/
noncomputable section XRuC7
set_option maxRecDepth 1000000 in
theorem rlE29 : wEdT x_KT x_tb x_tyl x_ov0 x_cp u_hs x_knd lwFR lwGA lwGB 6 29 43 rlWA29 rlWB29 [(2, 1, 1, 0)] 8000 1 60 15 1 60 183 rl_b24 rlo29 = true := by decide +kernel
theorem rlT29 : wTpk x_KT lwGA lwGB 25 2 1 160 (wUs rl_b24) lwFR = true := by decide +kernel
set_option maxRecDepth 1000000 in
theorem rlE30 : wEdT x_KT x_tb x_tyl x_ov0 x_cp u_hs x_knd lwFR lwGA lwGB 6 29 43 rlWA30 rlWB30 [(2, 1, 1, 0)] 8000 1 60 15 1 60 183 rl_b25 rlo30 = true := by decide +kernel
theorem rlT30 : wTpk x_KT lwGA lwGB 25 2 1 160 (wUs rl_b25) lwFR = true := by decide +kernel
set_option maxRecDepth 1000000 in
theorem rlE31 : wEdT x_KT x_tb x_tyl x_ov0 x_cp u_hs x_knd lwFR lwGA lwGB 6 29 43 rlWA31 rlWB31 [(2, 1, 1, 0)] 8000 1 60 15 1 60 183 rl_b26 rlo31 = true := by decide +kernel
theorem rlT31 : wTpk x_KT lwGA lwGB 25 2 1 160 (wUs rl_b26) lwFR = true := by decide +kernel
set_option maxRecDepth 1000000 in
theorem rlE32 : wEdT x_KT x_tb x_tyl x_ov0 x_cp u_hs x_knd lwFR lwGA lwGB 6 29 43 rlWA32 rlWB32 [(2, 1, 1, 0)] 8000 1 60 15 1 60 183 rl_b28 rlo32 = true := by decide +kernel
theorem rlT32 : wTpk x_KT lwGA lwGB 25 2 1 160 (wUs rl_b28) lwFR = true := by decide +kernel
end XRuC7
