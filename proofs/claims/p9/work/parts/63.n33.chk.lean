/-! Runs: checks, 33. -/
noncomputable section XRuC33
set_option maxRecDepth 1000000 in
theorem rlE37 : wEdT x_KT x_tb x_tyl x_ov0 x_cp u_hs x_knd lwFR lwGA lwGB 6 29 43 rlWA37 rlWB37 [(2, 1, 1, 0)] 8000 1 60 15 1 60 183 rl_b34 rlo37 = true := by decide +kernel
theorem rlT37 : wTpk x_KT lwGA lwGB 25 2 1 160 (wUs rl_b34) lwFR = true := by decide +kernel
set_option maxRecDepth 1000000 in
theorem rlE38 : wEdT x_KT x_tb x_tyl x_ov0 x_cp u_hs x_knd lwFR lwGA lwGB 6 29 43 rlWA38 rlWB38 [(2, 1, 1, 0)] 8000 1 60 15 1 60 183 rl_b35 rlo38 = true := by decide +kernel
theorem rlT38 : wTpk x_KT lwGA lwGB 25 2 1 160 (wUs rl_b35) lwFR = true := by decide +kernel
set_option maxRecDepth 1000000 in
theorem rlE39 : wEdT x_KT x_tb x_tyl x_ov0 x_cp u_hs x_knd lwFR lwGA lwGB 6 29 43 rlWA39 rlWB39 [(2, 1, 1, 0)] 8000 1 60 15 1 60 183 rl_b36 rlo39 = true := by decide +kernel
theorem rlT39 : wTpk x_KT lwGA lwGB 25 2 1 160 (wUs rl_b36) lwFR = true := by decide +kernel
set_option maxRecDepth 1000000 in
theorem rlE40 : wEdT x_KT x_tb x_tyl x_ov0 x_cp u_hs x_knd lwFR lwGA lwGB 6 29 43 rlWA40 rlWB40 [(2, 1, 1, 0)] 8000 1 60 15 1 60 183 rl_b37 rlo40 = true := by decide +kernel
theorem rlT40 : wTpk x_KT lwGA lwGB 25 2 1 160 (wUs rl_b37) lwFR = true := by decide +kernel
end XRuC33
