/-! Runs: checks, 32. -/
noncomputable section XRuC32
set_option maxRecDepth 1000000 in
theorem rlE31 : wEdT x_KT x_tb x_tyl x_ov0 x_cp u_hs x_knd lwFR lwGA lwGB 6 29 43 rlWA31 rlWB31 [(2, 1, 1, 0)] 8000 1 60 15 1 60 183 rl_b26 rlo31 = true := by decide +kernel
theorem rlT31 : wTpk x_KT lwGA lwGB 25 2 1 160 (wUs rl_b26) lwFR = true := by decide +kernel
set_option maxRecDepth 1000000 in
theorem rlE32 : wEdT x_KT x_tb x_tyl x_ov0 x_cp u_hs x_knd lwFR lwGA lwGB 6 29 43 rlWA32 rlWB32 [(2, 1, 1, 0)] 8000 1 60 15 1 60 183 rl_b28 rlo32 = true := by decide +kernel
theorem rlT32 : wTpk x_KT lwGA lwGB 25 2 1 160 (wUs rl_b28) lwFR = true := by decide +kernel
set_option maxRecDepth 1000000 in
theorem rlE33 : wEdT x_KT x_tb x_tyl x_ov0 x_cp u_hs x_knd lwFR lwGA lwGB 6 29 43 rlWA33 rlWB33 [(2, 1, 1, 0)] 8000 1 60 15 1 60 183 rl_b42 rlo33 = true := by decide +kernel
theorem rlT33 : wTpk x_KT lwGA lwGB 25 2 1 160 (wUs rl_b42) lwFR = true := by decide +kernel
set_option maxRecDepth 1000000 in
theorem rlE34 : wEdT x_KT x_tb x_tyl x_ov0 x_cp u_hs x_knd lwFR lwGA lwGB 6 29 43 rlWA34 rlWB34 [(2, 1, 1, 0)] 8000 1 60 15 1 60 183 rl_b30 rlo34 = true := by decide +kernel
theorem rlT34 : wTpk x_KT lwGA lwGB 25 2 1 160 (wUs rl_b30) lwFR = true := by decide +kernel
set_option maxRecDepth 1000000 in
theorem rlE35 : wEdT x_KT x_tb x_tyl x_ov0 x_cp u_hs x_knd lwFR lwGA lwGB 6 29 43 rlWA35 rlWB35 [(2, 1, 1, 0)] 8000 1 60 15 1 60 183 rl_b31 rlo35 = true := by decide +kernel
theorem rlT35 : wTpk x_KT lwGA lwGB 25 2 1 160 (wUs rl_b31) lwFR = true := by decide +kernel
set_option maxRecDepth 1000000 in
theorem rlE36 : wEdT x_KT x_tb x_tyl x_ov0 x_cp u_hs x_knd lwFR lwGA lwGB 6 29 43 rlWA36 rlWB36 [(2, 1, 1, 0)] 8000 1 60 15 1 60 183 rl_b32 rlo36 = true := by decide +kernel
theorem rlT36 : wTpk x_KT lwGA lwGB 25 2 1 160 (wUs rl_b32) lwFR = true := by decide +kernel
end XRuC32
