/-! Runs: checks, 15. -/
noncomputable section XRuC15
set_option maxRecDepth 1000000 in
theorem lnE29q : wEdQ lwTch 43 x_KT x_tb x_tyl x_ov0 x_cp u_hs x_knd lwFR lwGA lwGB 7 30 44 lnWA29 lnWB29 8000 1 60 15 1 60 184 ln_fen_ [] lno29 = true := by decide +kernel
theorem lnE29 : wEd x_KT x_tb x_tyl x_ov0 x_cp u_hs x_knd lwFR lwGA lwGB 7 30 44 lnWA29 lnWB29 8000 1 60 15 1 60 184 ln_fen_ [] lno29 = true := wEdQ_ok lwTchOk lnE29q
set_option maxRecDepth 1000000 in
theorem lnE30q : wEdQ lwTch 43 x_KT x_tb x_tyl x_ov0 x_cp u_hs x_knd lwFR lwGA lwGB 7 30 44 lnWA30 lnWB30 8000 1 60 15 1 60 184 ln_fg0 [] lno30 = true := by decide +kernel
theorem lnE30 : wEd x_KT x_tb x_tyl x_ov0 x_cp u_hs x_knd lwFR lwGA lwGB 7 30 44 lnWA30 lnWB30 8000 1 60 15 1 60 184 ln_fg0 [] lno30 = true := wEdQ_ok lwTchOk lnE30q
set_option maxRecDepth 1000000 in
theorem lnE31q : wEdQ lwTch 43 x_KT x_tb x_tyl x_ov0 x_cp u_hs x_knd lwFR lwGA lwGB 7 30 44 lnWA31 lnWB31 8000 1 60 15 1 60 184 ln_fg112 [] lno31 = true := by decide +kernel
theorem lnE31 : wEd x_KT x_tb x_tyl x_ov0 x_cp u_hs x_knd lwFR lwGA lwGB 7 30 44 lnWA31 lnWB31 8000 1 60 15 1 60 184 ln_fg112 [] lno31 = true := wEdQ_ok lwTchOk lnE31q
set_option maxRecDepth 1000000 in
theorem lnE32q : wEdQ lwTch 43 x_KT x_tb x_tyl x_ov0 x_cp u_hs x_knd lwFR lwGA lwGB 7 30 44 lnWA32 lnWB32 8000 1 60 15 1 60 184 ln_fg_ [] lno32 = true := by decide +kernel
theorem lnE32 : wEd x_KT x_tb x_tyl x_ov0 x_cp u_hs x_knd lwFR lwGA lwGB 7 30 44 lnWA32 lnWB32 8000 1 60 15 1 60 184 ln_fg_ [] lno32 = true := wEdQ_ok lwTchOk lnE32q
set_option maxRecDepth 1000000 in
theorem lnE33q : wEdQ lwTch 43 x_KT x_tb x_tyl x_ov0 x_cp u_hs x_knd lwFR lwGA lwGB 7 30 44 lnWA33 lnWB33 8000 1 60 15 1 60 184 ln_fi0 [] lno33 = true := by decide +kernel
theorem lnE33 : wEd x_KT x_tb x_tyl x_ov0 x_cp u_hs x_knd lwFR lwGA lwGB 7 30 44 lnWA33 lnWB33 8000 1 60 15 1 60 184 ln_fi0 [] lno33 = true := wEdQ_ok lwTchOk lnE33q
set_option maxRecDepth 1000000 in
theorem lnE34q : wEdQ lwTch 43 x_KT x_tb x_tyl x_ov0 x_cp u_hs x_knd lwFR lwGA lwGB 7 30 44 lnWA34 lnWB34 8000 1 60 15 1 60 184 ln_fi103 [] lno34 = true := by decide +kernel
theorem lnE34 : wEd x_KT x_tb x_tyl x_ov0 x_cp u_hs x_knd lwFR lwGA lwGB 7 30 44 lnWA34 lnWB34 8000 1 60 15 1 60 184 ln_fi103 [] lno34 = true := wEdQ_ok lwTchOk lnE34q
set_option maxRecDepth 1000000 in
theorem lnE35q : wEdQ lwTch 43 x_KT x_tb x_tyl x_ov0 x_cp u_hs x_knd lwFR lwGA lwGB 7 30 44 lnWA35 lnWB35 8000 1 60 15 1 60 184 ln_fi111 [] lno35 = true := by decide +kernel
theorem lnE35 : wEd x_KT x_tb x_tyl x_ov0 x_cp u_hs x_knd lwFR lwGA lwGB 7 30 44 lnWA35 lnWB35 8000 1 60 15 1 60 184 ln_fi111 [] lno35 = true := wEdQ_ok lwTchOk lnE35q
set_option maxRecDepth 1000000 in
theorem lnE36q : wEdQ lwTch 43 x_KT x_tb x_tyl x_ov0 x_cp u_hs x_knd lwFR lwGA lwGB 7 30 44 lnWA36 lnWB36 8000 1 60 15 1 60 184 ln_fi_ [] lno36 = true := by decide +kernel
theorem lnE36 : wEd x_KT x_tb x_tyl x_ov0 x_cp u_hs x_knd lwFR lwGA lwGB 7 30 44 lnWA36 lnWB36 8000 1 60 15 1 60 184 ln_fi_ [] lno36 = true := wEdQ_ok lwTchOk lnE36q
set_option maxRecDepth 1000000 in
theorem lnE37q : wEdQ lwTch 43 x_KT x_tb x_tyl x_ov0 x_cp u_hs x_knd lwFR lwGA lwGB 7 30 44 lnWA37 lnWB37 8000 1 60 15 1 60 184 ln_fl0 [] lno37 = true := by decide +kernel
theorem lnE37 : wEd x_KT x_tb x_tyl x_ov0 x_cp u_hs x_knd lwFR lwGA lwGB 7 30 44 lnWA37 lnWB37 8000 1 60 15 1 60 184 ln_fl0 [] lno37 = true := wEdQ_ok lwTchOk lnE37q
set_option maxRecDepth 1000000 in
theorem lnE38q : wEdQ lwTch 43 x_KT x_tb x_tyl x_ov0 x_cp u_hs x_knd lwFR lwGA lwGB 7 30 44 lnWA38 lnWB38 8000 1 60 15 1 60 184 ln_fl102 [] lno38 = true := by decide +kernel
theorem lnE38 : wEd x_KT x_tb x_tyl x_ov0 x_cp u_hs x_knd lwFR lwGA lwGB 7 30 44 lnWA38 lnWB38 8000 1 60 15 1 60 184 ln_fl102 [] lno38 = true := wEdQ_ok lwTchOk lnE38q
set_option maxRecDepth 1000000 in
theorem lnE39q : wEdQ lwTch 43 x_KT x_tb x_tyl x_ov0 x_cp u_hs x_knd lwFR lwGA lwGB 7 30 44 lnWA39 lnWB39 8000 1 60 15 1 60 184 ln_fl_ [] lno39 = true := by decide +kernel
theorem lnE39 : wEd x_KT x_tb x_tyl x_ov0 x_cp u_hs x_knd lwFR lwGA lwGB 7 30 44 lnWA39 lnWB39 8000 1 60 15 1 60 184 ln_fl_ [] lno39 = true := wEdQ_ok lwTchOk lnE39q
set_option maxRecDepth 1000000 in
theorem lnE40q : wEdQ lwTch 43 x_KT x_tb x_tyl x_ov0 x_cp u_hs x_knd lwFR lwGA lwGB 7 30 44 lnWA40 lnWB40 8000 1 60 15 1 60 184 ln_fle0 [] lno40 = true := by decide +kernel
theorem lnE40 : wEd x_KT x_tb x_tyl x_ov0 x_cp u_hs x_knd lwFR lwGA lwGB 7 30 44 lnWA40 lnWB40 8000 1 60 15 1 60 184 ln_fle0 [] lno40 = true := wEdQ_ok lwTchOk lnE40q
set_option maxRecDepth 1000000 in
theorem lnE41q : wEdQ lwTch 43 x_KT x_tb x_tyl x_ov0 x_cp u_hs x_knd lwFR lwGA lwGB 7 30 44 lnWA41 lnWB41 8000 1 60 15 1 60 184 ln_fle98 [] lno41 = true := by decide +kernel
theorem lnE41 : wEd x_KT x_tb x_tyl x_ov0 x_cp u_hs x_knd lwFR lwGA lwGB 7 30 44 lnWA41 lnWB41 8000 1 60 15 1 60 184 ln_fle98 [] lno41 = true := wEdQ_ok lwTchOk lnE41q
set_option maxRecDepth 1000000 in
theorem lnE42q : wEdQ lwTch 43 x_KT x_tb x_tyl x_ov0 x_cp u_hs x_knd lwFR lwGA lwGB 7 30 44 lnWA42 lnWB42 8000 1 60 15 1 60 184 ln_fle_ [] lno42 = true := by decide +kernel
theorem lnE42 : wEd x_KT x_tb x_tyl x_ov0 x_cp u_hs x_knd lwFR lwGA lwGB 7 30 44 lnWA42 lnWB42 8000 1 60 15 1 60 184 ln_fle_ [] lno42 = true := wEdQ_ok lwTchOk lnE42q
set_option maxRecDepth 1000000 in
theorem lnE43q : wEdQ lwTch 43 x_KT x_tb x_tyl x_ov0 x_cp u_hs x_knd lwFR lwGA lwGB 7 30 44 lnWA43 lnWB43 8000 1 60 15 1 60 184 ln_flea0 [] lno43 = true := by decide +kernel
theorem lnE43 : wEd x_KT x_tb x_tyl x_ov0 x_cp u_hs x_knd lwFR lwGA lwGB 7 30 44 lnWA43 lnWB43 8000 1 60 15 1 60 184 ln_flea0 [] lno43 = true := wEdQ_ok lwTchOk lnE43q
set_option maxRecDepth 1000000 in
theorem lnE44q : wEdQ lwTch 43 x_KT x_tb x_tyl x_ov0 x_cp u_hs x_knd lwFR lwGA lwGB 7 30 44 lnWA44 lnWB44 8000 1 60 15 1 60 184 ln_flea113 [] lno44 = true := by decide +kernel
theorem lnE44 : wEd x_KT x_tb x_tyl x_ov0 x_cp u_hs x_knd lwFR lwGA lwGB 7 30 44 lnWA44 lnWB44 8000 1 60 15 1 60 184 ln_flea113 [] lno44 = true := wEdQ_ok lwTchOk lnE44q
set_option maxRecDepth 1000000 in
theorem lnE45q : wEdQ lwTch 43 x_KT x_tb x_tyl x_ov0 x_cp u_hs x_knd lwFR lwGA lwGB 7 30 44 lnWA45 lnWB45 8000 1 60 15 1 60 184 ln_flea_ [] lno45 = true := by decide +kernel
theorem lnE45 : wEd x_KT x_tb x_tyl x_ov0 x_cp u_hs x_knd lwFR lwGA lwGB 7 30 44 lnWA45 lnWB45 8000 1 60 15 1 60 184 ln_flea_ [] lno45 = true := wEdQ_ok lwTchOk lnE45q
set_option maxRecDepth 1000000 in
theorem lnE46q : wEdQ lwTch 43 x_KT x_tb x_tyl x_ov0 x_cp u_hs x_knd lwFR lwGA lwGB 7 30 44 lnWA46 lnWB46 8000 1 60 15 1 60 184 ln_fm0 [] lno46 = true := by decide +kernel
theorem lnE46 : wEd x_KT x_tb x_tyl x_ov0 x_cp u_hs x_knd lwFR lwGA lwGB 7 30 44 lnWA46 lnWB46 8000 1 60 15 1 60 184 ln_fm0 [] lno46 = true := wEdQ_ok lwTchOk lnE46q
set_option maxRecDepth 1000000 in
theorem lnE47q : wEdQ lwTch 43 x_KT x_tb x_tyl x_ov0 x_cp u_hs x_knd lwFR lwGA lwGB 7 30 44 lnWA47 lnWB47 8000 1 60 15 1 60 184 ln_fm112 [] lno47 = true := by decide +kernel
theorem lnE47 : wEd x_KT x_tb x_tyl x_ov0 x_cp u_hs x_knd lwFR lwGA lwGB 7 30 44 lnWA47 lnWB47 8000 1 60 15 1 60 184 ln_fm112 [] lno47 = true := wEdQ_ok lwTchOk lnE47q
set_option maxRecDepth 1000000 in
theorem lnE48q : wEdQ lwTch 43 x_KT x_tb x_tyl x_ov0 x_cp u_hs x_knd lwFR lwGA lwGB 7 30 44 lnWA48 lnWB48 8000 1 60 15 1 60 184 ln_fm_ [] lno48 = true := by decide +kernel
theorem lnE48 : wEd x_KT x_tb x_tyl x_ov0 x_cp u_hs x_knd lwFR lwGA lwGB 7 30 44 lnWA48 lnWB48 8000 1 60 15 1 60 184 ln_fm_ [] lno48 = true := wEdQ_ok lwTchOk lnE48q
set_option maxRecDepth 1000000 in
theorem lnE49q : wEdQ lwTch 43 x_KT x_tb x_tyl x_ov0 x_cp u_hs x_knd lwFR lwGA lwGB 7 30 44 lnWA49 lnWB49 8000 1 60 15 1 60 184 ln_fmo0 [] lno49 = true := by decide +kernel
theorem lnE49 : wEd x_KT x_tb x_tyl x_ov0 x_cp u_hs x_knd lwFR lwGA lwGB 7 30 44 lnWA49 lnWB49 8000 1 60 15 1 60 184 ln_fmo0 [] lno49 = true := wEdQ_ok lwTchOk lnE49q
set_option maxRecDepth 1000000 in
theorem lnE50q : wEdQ lwTch 43 x_KT x_tb x_tyl x_ov0 x_cp u_hs x_knd lwFR lwGA lwGB 7 30 44 lnWA50 lnWB50 8000 1 60 15 1 60 184 ln_fmo119 [] lno50 = true := by decide +kernel
theorem lnE50 : wEd x_KT x_tb x_tyl x_ov0 x_cp u_hs x_knd lwFR lwGA lwGB 7 30 44 lnWA50 lnWB50 8000 1 60 15 1 60 184 ln_fmo119 [] lno50 = true := wEdQ_ok lwTchOk lnE50q
set_option maxRecDepth 1000000 in
theorem lnE51q : wEdQ lwTch 43 x_KT x_tb x_tyl x_ov0 x_cp u_hs x_knd lwFR lwGA lwGB 7 30 44 lnWA51 lnWB51 8000 1 60 15 1 60 184 ln_fmo_ [] lno51 = true := by decide +kernel
theorem lnE51 : wEd x_KT x_tb x_tyl x_ov0 x_cp u_hs x_knd lwFR lwGA lwGB 7 30 44 lnWA51 lnWB51 8000 1 60 15 1 60 184 ln_fmo_ [] lno51 = true := wEdQ_ok lwTchOk lnE51q
set_option maxRecDepth 1000000 in
theorem lnE52q : wEdQ lwTch 43 x_KT x_tb x_tyl x_ov0 x_cp u_hs x_knd lwFR lwGA lwGB 7 30 44 lnWA52 lnWB52 8000 1 60 15 1 60 184 ln_fn0 [] lno52 = true := by decide +kernel
theorem lnE52 : wEd x_KT x_tb x_tyl x_ov0 x_cp u_hs x_knd lwFR lwGA lwGB 7 30 44 lnWA52 lnWB52 8000 1 60 15 1 60 184 ln_fn0 [] lno52 = true := wEdQ_ok lwTchOk lnE52q
set_option maxRecDepth 1000000 in
theorem lnE53q : wEdQ lwTch 43 x_KT x_tb x_tyl x_ov0 x_cp u_hs x_knd lwFR lwGA lwGB 7 30 44 lnWA53 lnWB53 8000 1 60 15 1 60 184 ln_fn112 [] lno53 = true := by decide +kernel
theorem lnE53 : wEd x_KT x_tb x_tyl x_ov0 x_cp u_hs x_knd lwFR lwGA lwGB 7 30 44 lnWA53 lnWB53 8000 1 60 15 1 60 184 ln_fn112 [] lno53 = true := wEdQ_ok lwTchOk lnE53q
set_option maxRecDepth 1000000 in
theorem lnE54q : wEdQ lwTch 43 x_KT x_tb x_tyl x_ov0 x_cp u_hs x_knd lwFR lwGA lwGB 7 30 44 lnWA54 lnWB54 8000 1 60 15 1 60 184 ln_fn_ [] lno54 = true := by decide +kernel
theorem lnE54 : wEd x_KT x_tb x_tyl x_ov0 x_cp u_hs x_knd lwFR lwGA lwGB 7 30 44 lnWA54 lnWB54 8000 1 60 15 1 60 184 ln_fn_ [] lno54 = true := wEdQ_ok lwTchOk lnE54q
set_option maxRecDepth 1000000 in
theorem lnE55q : wEdQ lwTch 43 x_KT x_tb x_tyl x_ov0 x_cp u_hs x_knd lwFR lwGA lwGB 7 30 44 lnWA55 lnWB55 8000 1 60 15 1 60 184 ln_fno0 [] lno55 = true := by decide +kernel
theorem lnE55 : wEd x_KT x_tb x_tyl x_ov0 x_cp u_hs x_knd lwFR lwGA lwGB 7 30 44 lnWA55 lnWB55 8000 1 60 15 1 60 184 ln_fno0 [] lno55 = true := wEdQ_ok lwTchOk lnE55q
set_option maxRecDepth 1000000 in
theorem lnE56q : wEdQ lwTch 43 x_KT x_tb x_tyl x_ov0 x_cp u_hs x_knd lwFR lwGA lwGB 7 30 44 lnWA56 lnWB56 8000 1 60 15 1 60 184 ln_fno120 [] lno56 = true := by decide +kernel
theorem lnE56 : wEd x_KT x_tb x_tyl x_ov0 x_cp u_hs x_knd lwFR lwGA lwGB 7 30 44 lnWA56 lnWB56 8000 1 60 15 1 60 184 ln_fno120 [] lno56 = true := wEdQ_ok lwTchOk lnE56q
set_option maxRecDepth 1000000 in
theorem lnE57q : wEdQ lwTch 43 x_KT x_tb x_tyl x_ov0 x_cp u_hs x_knd lwFR lwGA lwGB 7 30 44 lnWA57 lnWB57 8000 1 60 15 1 60 184 ln_fno_ [] lno57 = true := by decide +kernel
theorem lnE57 : wEd x_KT x_tb x_tyl x_ov0 x_cp u_hs x_knd lwFR lwGA lwGB 7 30 44 lnWA57 lnWB57 8000 1 60 15 1 60 184 ln_fno_ [] lno57 = true := wEdQ_ok lwTchOk lnE57q
set_option maxRecDepth 1000000 in
theorem lnE58q : wEdQ lwTch 43 x_KT x_tb x_tyl x_ov0 x_cp u_hs x_knd lwFR lwGA lwGB 7 30 44 lnWA58 lnWB58 8000 1 60 15 1 60 184 ln_fo0 [] lno58 = true := by decide +kernel
theorem lnE58 : wEd x_KT x_tb x_tyl x_ov0 x_cp u_hs x_knd lwFR lwGA lwGB 7 30 44 lnWA58 lnWB58 8000 1 60 15 1 60 184 ln_fo0 [] lno58 = true := wEdQ_ok lwTchOk lnE58q
set_option maxRecDepth 1000000 in
theorem lnE59q : wEdQ lwTch 43 x_KT x_tb x_tyl x_ov0 x_cp u_hs x_knd lwFR lwGA lwGB 7 30 44 lnWA59 lnWB59 8000 1 60 15 1 60 184 ln_fo118 [] lno59 = true := by decide +kernel
theorem lnE59 : wEd x_KT x_tb x_tyl x_ov0 x_cp u_hs x_knd lwFR lwGA lwGB 7 30 44 lnWA59 lnWB59 8000 1 60 15 1 60 184 ln_fo118 [] lno59 = true := wEdQ_ok lwTchOk lnE59q
set_option maxRecDepth 1000000 in
theorem lnE60q : wEdQ lwTch 43 x_KT x_tb x_tyl x_ov0 x_cp u_hs x_knd lwFR lwGA lwGB 7 30 44 lnWA60 lnWB60 8000 1 60 15 1 60 184 ln_fo_ [] lno60 = true := by decide +kernel
theorem lnE60 : wEd x_KT x_tb x_tyl x_ov0 x_cp u_hs x_knd lwFR lwGA lwGB 7 30 44 lnWA60 lnWB60 8000 1 60 15 1 60 184 ln_fo_ [] lno60 = true := wEdQ_ok lwTchOk lnE60q
set_option maxRecDepth 1000000 in
theorem lnE61q : wEdQ lwTch 43 x_KT x_tb x_tyl x_ov0 x_cp u_hs x_knd lwFR lwGA lwGB 7 30 44 lnWA61 lnWB61 8000 1 60 15 1 60 184 ln_fou0 [] lno61 = true := by decide +kernel
theorem lnE61 : wEd x_KT x_tb x_tyl x_ov0 x_cp u_hs x_knd lwFR lwGA lwGB 7 30 44 lnWA61 lnWB61 8000 1 60 15 1 60 184 ln_fou0 [] lno61 = true := wEdQ_ok lwTchOk lnE61q
set_option maxRecDepth 1000000 in
theorem lnE62q : wEdQ lwTch 43 x_KT x_tb x_tyl x_ov0 x_cp u_hs x_knd lwFR lwGA lwGB 7 30 44 lnWA62 lnWB62 8000 1 60 15 1 60 184 ln_fou117 [] lno62 = true := by decide +kernel
theorem lnE62 : wEd x_KT x_tb x_tyl x_ov0 x_cp u_hs x_knd lwFR lwGA lwGB 7 30 44 lnWA62 lnWB62 8000 1 60 15 1 60 184 ln_fou117 [] lno62 = true := wEdQ_ok lwTchOk lnE62q
set_option maxRecDepth 1000000 in
theorem lnE63q : wEdQ lwTch 43 x_KT x_tb x_tyl x_ov0 x_cp u_hs x_knd lwFR lwGA lwGB 7 30 44 lnWA63 lnWB63 8000 1 60 15 1 60 184 ln_fou_ [] lno63 = true := by decide +kernel
theorem lnE63 : wEd x_KT x_tb x_tyl x_ov0 x_cp u_hs x_knd lwFR lwGA lwGB 7 30 44 lnWA63 lnWB63 8000 1 60 15 1 60 184 ln_fou_ [] lno63 = true := wEdQ_ok lwTchOk lnE63q
set_option maxRecDepth 1000000 in
theorem lnE64q : wEdQ lwTch 43 x_KT x_tb x_tyl x_ov0 x_cp u_hs x_knd lwFR lwGA lwGB 7 30 44 lnWA64 lnWB64 8000 1 60 15 1 60 184 ln_fs0 [] lno64 = true := by decide +kernel
theorem lnE64 : wEd x_KT x_tb x_tyl x_ov0 x_cp u_hs x_knd lwFR lwGA lwGB 7 30 44 lnWA64 lnWB64 8000 1 60 15 1 60 184 ln_fs0 [] lno64 = true := wEdQ_ok lwTchOk lnE64q
set_option maxRecDepth 1000000 in
theorem lnE65q : wEdQ lwTch 43 x_KT x_tb x_tyl x_ov0 x_cp u_hs x_knd lwFR lwGA lwGB 7 30 44 lnWA65 lnWB65 8000 1 60 15 1 60 184 ln_fs102 [] lno65 = true := by decide +kernel
theorem lnE65 : wEd x_KT x_tb x_tyl x_ov0 x_cp u_hs x_knd lwFR lwGA lwGB 7 30 44 lnWA65 lnWB65 8000 1 60 15 1 60 184 ln_fs102 [] lno65 = true := wEdQ_ok lwTchOk lnE65q
set_option maxRecDepth 1000000 in
theorem lnE66q : wEdQ lwTch 43 x_KT x_tb x_tyl x_ov0 x_cp u_hs x_knd lwFR lwGA lwGB 7 30 44 lnWA66 lnWB66 8000 1 60 15 1 60 184 ln_fs118 [] lno66 = true := by decide +kernel
theorem lnE66 : wEd x_KT x_tb x_tyl x_ov0 x_cp u_hs x_knd lwFR lwGA lwGB 7 30 44 lnWA66 lnWB66 8000 1 60 15 1 60 184 ln_fs118 [] lno66 = true := wEdQ_ok lwTchOk lnE66q
set_option maxRecDepth 1000000 in
theorem lnE67q : wEdQ lwTch 43 x_KT x_tb x_tyl x_ov0 x_cp u_hs x_knd lwFR lwGA lwGB 7 30 44 lnWA67 lnWB67 8000 1 60 15 1 60 184 ln_fs_ [] lno67 = true := by decide +kernel
theorem lnE67 : wEd x_KT x_tb x_tyl x_ov0 x_cp u_hs x_knd lwFR lwGA lwGB 7 30 44 lnWA67 lnWB67 8000 1 60 15 1 60 184 ln_fs_ [] lno67 = true := wEdQ_ok lwTchOk lnE67q
set_option maxRecDepth 1000000 in
theorem lnE68q : wEdQ lwTch 43 x_KT x_tb x_tyl x_ov0 x_cp u_hs x_knd lwFR lwGA lwGB 7 30 44 lnWA68 lnWB68 8000 1 60 15 1 60 184 ln_fsu0 [] lno68 = true := by decide +kernel
theorem lnE68 : wEd x_KT x_tb x_tyl x_ov0 x_cp u_hs x_knd lwFR lwGA lwGB 7 30 44 lnWA68 lnWB68 8000 1 60 15 1 60 184 ln_fsu0 [] lno68 = true := wEdQ_ok lwTchOk lnE68q
set_option maxRecDepth 1000000 in
theorem lnE69q : wEdQ lwTch 43 x_KT x_tb x_tyl x_ov0 x_cp u_hs x_knd lwFR lwGA lwGB 7 30 44 lnWA69 lnWB69 8000 1 60 15 1 60 184 ln_fsu99 [] lno69 = true := by decide +kernel
theorem lnE69 : wEd x_KT x_tb x_tyl x_ov0 x_cp u_hs x_knd lwFR lwGA lwGB 7 30 44 lnWA69 lnWB69 8000 1 60 15 1 60 184 ln_fsu99 [] lno69 = true := wEdQ_ok lwTchOk lnE69q
set_option maxRecDepth 1000000 in
theorem lnE70q : wEdQ lwTch 43 x_KT x_tb x_tyl x_ov0 x_cp u_hs x_knd lwFR lwGA lwGB 7 30 44 lnWA70 lnWB70 8000 1 60 15 1 60 184 ln_fsu_ [] lno70 = true := by decide +kernel
theorem lnE70 : wEd x_KT x_tb x_tyl x_ov0 x_cp u_hs x_knd lwFR lwGA lwGB 7 30 44 lnWA70 lnWB70 8000 1 60 15 1 60 184 ln_fsu_ [] lno70 = true := wEdQ_ok lwTchOk lnE70q
set_option maxRecDepth 1000000 in
theorem lnE71q : wEdQ lwTch 43 x_KT x_tb x_tyl x_ov0 x_cp u_hs x_knd lwFR lwGA lwGB 7 30 44 lnWA71 lnWB71 8000 1 60 15 1 60 184 ln_fse0 [] lno71 = true := by decide +kernel
theorem lnE71 : wEd x_KT x_tb x_tyl x_ov0 x_cp u_hs x_knd lwFR lwGA lwGB 7 30 44 lnWA71 lnWB71 8000 1 60 15 1 60 184 ln_fse0 [] lno71 = true := wEdQ_ok lwTchOk lnE71q
set_option maxRecDepth 1000000 in
theorem lnE72q : wEdQ lwTch 43 x_KT x_tb x_tyl x_ov0 x_cp u_hs x_knd lwFR lwGA lwGB 7 30 44 lnWA72 lnWB72 8000 1 60 15 1 60 184 ln_fse117 [] lno72 = true := by decide +kernel
theorem lnE72 : wEd x_KT x_tb x_tyl x_ov0 x_cp u_hs x_knd lwFR lwGA lwGB 7 30 44 lnWA72 lnWB72 8000 1 60 15 1 60 184 ln_fse117 [] lno72 = true := wEdQ_ok lwTchOk lnE72q
set_option maxRecDepth 1000000 in
theorem lnE73q : wEdQ lwTch 43 x_KT x_tb x_tyl x_ov0 x_cp u_hs x_knd lwFR lwGA lwGB 7 30 44 lnWA73 lnWB73 8000 1 60 15 1 60 184 ln_fse_ [] lno73 = true := by decide +kernel
theorem lnE73 : wEd x_KT x_tb x_tyl x_ov0 x_cp u_hs x_knd lwFR lwGA lwGB 7 30 44 lnWA73 lnWB73 8000 1 60 15 1 60 184 ln_fse_ [] lno73 = true := wEdQ_ok lwTchOk lnE73q
theorem lnL74 : wRlk 7 30 44 pa0WA pa0WB lnX74.2.1 lnX74.2.2.1 lnX74.2.2.2.1 lnX74.2.2.2.2 pa0_in = true := by decide +kernel
set_option maxRecDepth 1000000 in
theorem lnE75q : wEdQ lwTch 43 x_KT x_tb x_tyl x_ov0 x_cp u_hs x_knd lwFR lwGA lwGB 7 30 44 lnWA75 lnWB75 8000 1 60 15 1 60 184 ln_w0 [] lno75 = true := by decide +kernel
theorem lnE75 : wEd x_KT x_tb x_tyl x_ov0 x_cp u_hs x_knd lwFR lwGA lwGB 7 30 44 lnWA75 lnWB75 8000 1 60 15 1 60 184 ln_w0 [] lno75 = true := wEdQ_ok lwTchOk lnE75q
set_option maxRecDepth 1000000 in
theorem lnE76q : wEdQ lwTch 43 x_KT x_tb x_tyl x_ov0 x_cp u_hs x_knd lwFR lwGA lwGB 7 30 44 lnWA76 lnWB76 8000 1 60 15 1 60 184 ln_c0_Y [] lno76 = true := by decide +kernel
theorem lnE76 : wEd x_KT x_tb x_tyl x_ov0 x_cp u_hs x_knd lwFR lwGA lwGB 7 30 44 lnWA76 lnWB76 8000 1 60 15 1 60 184 ln_c0_Y [] lno76 = true := wEdQ_ok lwTchOk lnE76q
set_option maxRecDepth 1000000 in
theorem lnE77q : wEdQ lwTch 43 x_KT x_tb x_tyl x_ov0 x_cp u_hs x_knd lwFR lwGA lwGB 7 30 44 lnWA77 lnWB77 8000 1 60 15 1 60 184 ln_c0_N [] lno77 = true := by decide +kernel
theorem lnE77 : wEd x_KT x_tb x_tyl x_ov0 x_cp u_hs x_knd lwFR lwGA lwGB 7 30 44 lnWA77 lnWB77 8000 1 60 15 1 60 184 ln_c0_N [] lno77 = true := wEdQ_ok lwTchOk lnE77q
theorem lnL78 : wRlk 7 30 44 pa1WA pa1WB lnX78.2.1 lnX78.2.2.1 lnX78.2.2.2.1 lnX78.2.2.2.2 pa1_in = true := by decide +kernel
set_option maxRecDepth 1000000 in
theorem lnE79q : wEdQ lwTch 43 x_KT x_tb x_tyl x_ov0 x_cp u_hs x_knd lwFR lwGA lwGB 7 30 44 lnWA79 lnWB79 8000 1 60 15 1 60 184 ln_w1 [] lno79 = true := by decide +kernel
theorem lnE79 : wEd x_KT x_tb x_tyl x_ov0 x_cp u_hs x_knd lwFR lwGA lwGB 7 30 44 lnWA79 lnWB79 8000 1 60 15 1 60 184 ln_w1 [] lno79 = true := wEdQ_ok lwTchOk lnE79q
set_option maxRecDepth 1000000 in
theorem lnE80q : wEdQ lwTch 43 x_KT x_tb x_tyl x_ov0 x_cp u_hs x_knd lwFR lwGA lwGB 7 30 44 lnWA80 lnWB80 8000 1 60 15 1 60 184 ln_c1_Y [] lno80 = true := by decide +kernel
theorem lnE80 : wEd x_KT x_tb x_tyl x_ov0 x_cp u_hs x_knd lwFR lwGA lwGB 7 30 44 lnWA80 lnWB80 8000 1 60 15 1 60 184 ln_c1_Y [] lno80 = true := wEdQ_ok lwTchOk lnE80q
set_option maxRecDepth 1000000 in
theorem lnE81q : wEdQ lwTch 43 x_KT x_tb x_tyl x_ov0 x_cp u_hs x_knd lwFR lwGA lwGB 7 30 44 lnWA81 lnWB81 8000 1 60 15 1 60 184 ln_c1_N [] lno81 = true := by decide +kernel
theorem lnE81 : wEd x_KT x_tb x_tyl x_ov0 x_cp u_hs x_knd lwFR lwGA lwGB 7 30 44 lnWA81 lnWB81 8000 1 60 15 1 60 184 ln_c1_N [] lno81 = true := wEdQ_ok lwTchOk lnE81q
theorem lnL82 : wRlk 7 30 44 pa2WA pa2WB lnX82.2.1 lnX82.2.2.1 lnX82.2.2.2.1 lnX82.2.2.2.2 pa2_in = true := by decide +kernel
set_option maxRecDepth 1000000 in
theorem lnE83q : wEdQ lwTch 43 x_KT x_tb x_tyl x_ov0 x_cp u_hs x_knd lwFR lwGA lwGB 7 30 44 lnWA83 lnWB83 8000 1 60 15 1 60 184 ln_w2 [] lno83 = true := by decide +kernel
theorem lnE83 : wEd x_KT x_tb x_tyl x_ov0 x_cp u_hs x_knd lwFR lwGA lwGB 7 30 44 lnWA83 lnWB83 8000 1 60 15 1 60 184 ln_w2 [] lno83 = true := wEdQ_ok lwTchOk lnE83q
set_option maxRecDepth 1000000 in
theorem lnE84q : wEdQ lwTch 43 x_KT x_tb x_tyl x_ov0 x_cp u_hs x_knd lwFR lwGA lwGB 7 30 44 lnWA84 lnWB84 8000 1 60 15 1 60 184 ln_c2_Y [] lno84 = true := by decide +kernel
theorem lnE84 : wEd x_KT x_tb x_tyl x_ov0 x_cp u_hs x_knd lwFR lwGA lwGB 7 30 44 lnWA84 lnWB84 8000 1 60 15 1 60 184 ln_c2_Y [] lno84 = true := wEdQ_ok lwTchOk lnE84q
set_option maxRecDepth 1000000 in
theorem lnE85q : wEdQ lwTch 43 x_KT x_tb x_tyl x_ov0 x_cp u_hs x_knd lwFR lwGA lwGB 7 30 44 lnWA85 lnWB85 8000 1 60 15 1 60 184 ln_c2_N [] lno85 = true := by decide +kernel
theorem lnE85 : wEd x_KT x_tb x_tyl x_ov0 x_cp u_hs x_knd lwFR lwGA lwGB 7 30 44 lnWA85 lnWB85 8000 1 60 15 1 60 184 ln_c2_N [] lno85 = true := wEdQ_ok lwTchOk lnE85q
theorem lnL86 : wRlk 7 30 44 pa3WA pa3WB lnX86.2.1 lnX86.2.2.1 lnX86.2.2.2.1 lnX86.2.2.2.2 pa3_in = true := by decide +kernel
set_option maxRecDepth 1000000 in
theorem lnE87q : wEdQ lwTch 43 x_KT x_tb x_tyl x_ov0 x_cp u_hs x_knd lwFR lwGA lwGB 7 30 44 lnWA87 lnWB87 8000 1 60 15 1 60 184 ln_w3 [] lno87 = true := by decide +kernel
theorem lnE87 : wEd x_KT x_tb x_tyl x_ov0 x_cp u_hs x_knd lwFR lwGA lwGB 7 30 44 lnWA87 lnWB87 8000 1 60 15 1 60 184 ln_w3 [] lno87 = true := wEdQ_ok lwTchOk lnE87q
set_option maxRecDepth 1000000 in
theorem lnE88q : wEdQ lwTch 43 x_KT x_tb x_tyl x_ov0 x_cp u_hs x_knd lwFR lwGA lwGB 7 30 44 lnWA88 lnWB88 8000 1 60 15 1 60 184 ln_c3_Y [] lno88 = true := by decide +kernel
theorem lnE88 : wEd x_KT x_tb x_tyl x_ov0 x_cp u_hs x_knd lwFR lwGA lwGB 7 30 44 lnWA88 lnWB88 8000 1 60 15 1 60 184 ln_c3_Y [] lno88 = true := wEdQ_ok lwTchOk lnE88q
set_option maxRecDepth 1000000 in
theorem lnE89q : wEdQ lwTch 43 x_KT x_tb x_tyl x_ov0 x_cp u_hs x_knd lwFR lwGA lwGB 7 30 44 lnWA89 lnWB89 8000 1 60 15 1 60 184 ln_c3_N [] lno89 = true := by decide +kernel
theorem lnE89 : wEd x_KT x_tb x_tyl x_ov0 x_cp u_hs x_knd lwFR lwGA lwGB 7 30 44 lnWA89 lnWB89 8000 1 60 15 1 60 184 ln_c3_N [] lno89 = true := wEdQ_ok lwTchOk lnE89q
theorem lnL90 : wRlk 7 30 44 pa8WA pa8WB lnX90.2.1 lnX90.2.2.1 lnX90.2.2.2.1 lnX90.2.2.2.2 pa8_in = true := by decide +kernel
set_option maxRecDepth 1000000 in
theorem lnE91q : wEdQ lwTch 43 x_KT x_tb x_tyl x_ov0 x_cp u_hs x_knd lwFR lwGA lwGB 7 30 44 lnWA91 lnWB91 8000 1 60 15 1 60 184 ln_w8 [] lno91 = true := by decide +kernel
theorem lnE91 : wEd x_KT x_tb x_tyl x_ov0 x_cp u_hs x_knd lwFR lwGA lwGB 7 30 44 lnWA91 lnWB91 8000 1 60 15 1 60 184 ln_w8 [] lno91 = true := wEdQ_ok lwTchOk lnE91q
set_option maxRecDepth 1000000 in
theorem lnE92q : wEdQ lwTch 43 x_KT x_tb x_tyl x_ov0 x_cp u_hs x_knd lwFR lwGA lwGB 7 30 44 lnWA92 lnWB92 8000 1 60 15 1 60 184 ln_c8_Y [] lno92 = true := by decide +kernel
theorem lnE92 : wEd x_KT x_tb x_tyl x_ov0 x_cp u_hs x_knd lwFR lwGA lwGB 7 30 44 lnWA92 lnWB92 8000 1 60 15 1 60 184 ln_c8_Y [] lno92 = true := wEdQ_ok lwTchOk lnE92q
set_option maxRecDepth 1000000 in
theorem lnE93q : wEdQ lwTch 43 x_KT x_tb x_tyl x_ov0 x_cp u_hs x_knd lwFR lwGA lwGB 7 30 44 lnWA93 lnWB93 8000 1 60 15 1 60 184 ln_c8_N [] lno93 = true := by decide +kernel
theorem lnE93 : wEd x_KT x_tb x_tyl x_ov0 x_cp u_hs x_knd lwFR lwGA lwGB 7 30 44 lnWA93 lnWB93 8000 1 60 15 1 60 184 ln_c8_N [] lno93 = true := wEdQ_ok lwTchOk lnE93q
theorem lnL94 : wRlk 7 30 44 pa4WA pa4WB lnX94.2.1 lnX94.2.2.1 lnX94.2.2.2.1 lnX94.2.2.2.2 pa4_in = true := by decide +kernel
set_option maxRecDepth 1000000 in
theorem lnE95q : wEdQ lwTch 43 x_KT x_tb x_tyl x_ov0 x_cp u_hs x_knd lwFR lwGA lwGB 7 30 44 lnWA95 lnWB95 8000 1 60 15 1 60 184 ln_w4 [] lno95 = true := by decide +kernel
theorem lnE95 : wEd x_KT x_tb x_tyl x_ov0 x_cp u_hs x_knd lwFR lwGA lwGB 7 30 44 lnWA95 lnWB95 8000 1 60 15 1 60 184 ln_w4 [] lno95 = true := wEdQ_ok lwTchOk lnE95q
set_option maxRecDepth 1000000 in
theorem lnE96q : wEdQ lwTch 43 x_KT x_tb x_tyl x_ov0 x_cp u_hs x_knd lwFR lwGA lwGB 7 30 44 lnWA96 lnWB96 8000 1 60 15 1 60 184 ln_c4_Y [] lno96 = true := by decide +kernel
theorem lnE96 : wEd x_KT x_tb x_tyl x_ov0 x_cp u_hs x_knd lwFR lwGA lwGB 7 30 44 lnWA96 lnWB96 8000 1 60 15 1 60 184 ln_c4_Y [] lno96 = true := wEdQ_ok lwTchOk lnE96q
set_option maxRecDepth 1000000 in
theorem lnE97q : wEdQ lwTch 43 x_KT x_tb x_tyl x_ov0 x_cp u_hs x_knd lwFR lwGA lwGB 7 30 44 lnWA97 lnWB97 8000 1 60 15 1 60 184 ln_c4_N [] lno97 = true := by decide +kernel
theorem lnE97 : wEd x_KT x_tb x_tyl x_ov0 x_cp u_hs x_knd lwFR lwGA lwGB 7 30 44 lnWA97 lnWB97 8000 1 60 15 1 60 184 ln_c4_N [] lno97 = true := wEdQ_ok lwTchOk lnE97q
theorem lnL98 : wRlk 7 30 44 pa5WA pa5WB lnX98.2.1 lnX98.2.2.1 lnX98.2.2.2.1 lnX98.2.2.2.2 pa5_in = true := by decide +kernel
set_option maxRecDepth 1000000 in
theorem lnE99q : wEdQ lwTch 43 x_KT x_tb x_tyl x_ov0 x_cp u_hs x_knd lwFR lwGA lwGB 7 30 44 lnWA99 lnWB99 8000 1 60 15 1 60 184 ln_w5 [] lno99 = true := by decide +kernel
theorem lnE99 : wEd x_KT x_tb x_tyl x_ov0 x_cp u_hs x_knd lwFR lwGA lwGB 7 30 44 lnWA99 lnWB99 8000 1 60 15 1 60 184 ln_w5 [] lno99 = true := wEdQ_ok lwTchOk lnE99q
set_option maxRecDepth 1000000 in
theorem lnE100q : wEdQ lwTch 43 x_KT x_tb x_tyl x_ov0 x_cp u_hs x_knd lwFR lwGA lwGB 7 30 44 lnWA100 lnWB100 8000 1 60 15 1 60 184 ln_c5_Y [] lno100 = true := by decide +kernel
theorem lnE100 : wEd x_KT x_tb x_tyl x_ov0 x_cp u_hs x_knd lwFR lwGA lwGB 7 30 44 lnWA100 lnWB100 8000 1 60 15 1 60 184 ln_c5_Y [] lno100 = true := wEdQ_ok lwTchOk lnE100q
set_option maxRecDepth 1000000 in
theorem lnE101q : wEdQ lwTch 43 x_KT x_tb x_tyl x_ov0 x_cp u_hs x_knd lwFR lwGA lwGB 7 30 44 lnWA101 lnWB101 8000 1 60 15 1 60 184 ln_c5_N [] lno101 = true := by decide +kernel
theorem lnE101 : wEd x_KT x_tb x_tyl x_ov0 x_cp u_hs x_knd lwFR lwGA lwGB 7 30 44 lnWA101 lnWB101 8000 1 60 15 1 60 184 ln_c5_N [] lno101 = true := wEdQ_ok lwTchOk lnE101q
theorem lnL102 : wRlk 7 30 44 pa6WA pa6WB lnX102.2.1 lnX102.2.2.1 lnX102.2.2.2.1 lnX102.2.2.2.2 pa6_in = true := by decide +kernel
set_option maxRecDepth 1000000 in
theorem lnE103q : wEdQ lwTch 43 x_KT x_tb x_tyl x_ov0 x_cp u_hs x_knd lwFR lwGA lwGB 7 30 44 lnWA103 lnWB103 8000 1 60 15 1 60 184 ln_w6 [] lno103 = true := by decide +kernel
theorem lnE103 : wEd x_KT x_tb x_tyl x_ov0 x_cp u_hs x_knd lwFR lwGA lwGB 7 30 44 lnWA103 lnWB103 8000 1 60 15 1 60 184 ln_w6 [] lno103 = true := wEdQ_ok lwTchOk lnE103q
set_option maxRecDepth 1000000 in
theorem lnE104q : wEdQ lwTch 43 x_KT x_tb x_tyl x_ov0 x_cp u_hs x_knd lwFR lwGA lwGB 7 30 44 lnWA104 lnWB104 8000 1 60 15 1 60 184 ln_c6_Y [] lno104 = true := by decide +kernel
theorem lnE104 : wEd x_KT x_tb x_tyl x_ov0 x_cp u_hs x_knd lwFR lwGA lwGB 7 30 44 lnWA104 lnWB104 8000 1 60 15 1 60 184 ln_c6_Y [] lno104 = true := wEdQ_ok lwTchOk lnE104q
set_option maxRecDepth 1000000 in
theorem lnE105q : wEdQ lwTch 43 x_KT x_tb x_tyl x_ov0 x_cp u_hs x_knd lwFR lwGA lwGB 7 30 44 lnWA105 lnWB105 8000 1 60 15 1 60 184 ln_c6_N [] lno105 = true := by decide +kernel
theorem lnE105 : wEd x_KT x_tb x_tyl x_ov0 x_cp u_hs x_knd lwFR lwGA lwGB 7 30 44 lnWA105 lnWB105 8000 1 60 15 1 60 184 ln_c6_N [] lno105 = true := wEdQ_ok lwTchOk lnE105q
theorem lnL106 : wRlk 7 30 44 pa9WA pa9WB lnX106.2.1 lnX106.2.2.1 lnX106.2.2.2.1 lnX106.2.2.2.2 pa9_in = true := by decide +kernel
set_option maxRecDepth 1000000 in
theorem lnE107q : wEdQ lwTch 43 x_KT x_tb x_tyl x_ov0 x_cp u_hs x_knd lwFR lwGA lwGB 7 30 44 lnWA107 lnWB107 8000 1 60 15 1 60 184 ln_w9 [] lno107 = true := by decide +kernel
theorem lnE107 : wEd x_KT x_tb x_tyl x_ov0 x_cp u_hs x_knd lwFR lwGA lwGB 7 30 44 lnWA107 lnWB107 8000 1 60 15 1 60 184 ln_w9 [] lno107 = true := wEdQ_ok lwTchOk lnE107q
set_option maxRecDepth 1000000 in
theorem lnE108q : wEdQ lwTch 43 x_KT x_tb x_tyl x_ov0 x_cp u_hs x_knd lwFR lwGA lwGB 7 30 44 lnWA108 lnWB108 8000 1 60 15 1 60 184 ln_c9_Y [] lno108 = true := by decide +kernel
theorem lnE108 : wEd x_KT x_tb x_tyl x_ov0 x_cp u_hs x_knd lwFR lwGA lwGB 7 30 44 lnWA108 lnWB108 8000 1 60 15 1 60 184 ln_c9_Y [] lno108 = true := wEdQ_ok lwTchOk lnE108q
set_option maxRecDepth 1000000 in
theorem lnE109q : wEdQ lwTch 43 x_KT x_tb x_tyl x_ov0 x_cp u_hs x_knd lwFR lwGA lwGB 7 30 44 lnWA109 lnWB109 8000 1 60 15 1 60 184 ln_c9_N [] lno109 = true := by decide +kernel
theorem lnE109 : wEd x_KT x_tb x_tyl x_ov0 x_cp u_hs x_knd lwFR lwGA lwGB 7 30 44 lnWA109 lnWB109 8000 1 60 15 1 60 184 ln_c9_N [] lno109 = true := wEdQ_ok lwTchOk lnE109q
set_option maxRecDepth 1000000 in
theorem lnE110q : wEdQ lwTch 43 x_KT x_tb x_tyl x_ov0 x_cp u_hs x_knd lwFR lwGA lwGB 7 30 44 lnWA110 lnWB110 8000 1 60 15 1 60 184 ln_w10 [] lno110 = true := by decide +kernel
theorem lnE110 : wEd x_KT x_tb x_tyl x_ov0 x_cp u_hs x_knd lwFR lwGA lwGB 7 30 44 lnWA110 lnWB110 8000 1 60 15 1 60 184 ln_w10 [] lno110 = true := wEdQ_ok lwTchOk lnE110q
theorem lnL111 : wRlk 7 30 44 pa7WA pa7WB lnX111.2.1 lnX111.2.2.1 lnX111.2.2.2.1 lnX111.2.2.2.2 pa7_in = true := by decide +kernel
set_option maxRecDepth 1000000 in
theorem lnE112q : wEdQ lwTch 43 x_KT x_tb x_tyl x_ov0 x_cp u_hs x_knd lwFR lwGA lwGB 7 30 44 lnWA112 lnWB112 8000 1 60 15 1 60 184 ln_w7 [] lno112 = true := by decide +kernel
theorem lnE112 : wEd x_KT x_tb x_tyl x_ov0 x_cp u_hs x_knd lwFR lwGA lwGB 7 30 44 lnWA112 lnWB112 8000 1 60 15 1 60 184 ln_w7 [] lno112 = true := wEdQ_ok lwTchOk lnE112q
set_option maxRecDepth 1000000 in
theorem lnE113q : wEdQ lwTch 43 x_KT x_tb x_tyl x_ov0 x_cp u_hs x_knd lwFR lwGA lwGB 7 30 44 lnWA113 lnWB113 8000 1 60 15 1 60 184 ln_c7_Y7 [] lno113 = true := by decide +kernel
theorem lnE113 : wEd x_KT x_tb x_tyl x_ov0 x_cp u_hs x_knd lwFR lwGA lwGB 7 30 44 lnWA113 lnWB113 8000 1 60 15 1 60 184 ln_c7_Y7 [] lno113 = true := wEdQ_ok lwTchOk lnE113q
set_option maxRecDepth 1000000 in
theorem lnE114q : wEdQ lwTch 43 x_KT x_tb x_tyl x_ov0 x_cp u_hs x_knd lwFR lwGA lwGB 7 30 44 lnWA114 lnWB114 8000 1 60 15 1 60 184 ln_c7_Y11 [] lno114 = true := by decide +kernel
theorem lnE114 : wEd x_KT x_tb x_tyl x_ov0 x_cp u_hs x_knd lwFR lwGA lwGB 7 30 44 lnWA114 lnWB114 8000 1 60 15 1 60 184 ln_c7_Y11 [] lno114 = true := wEdQ_ok lwTchOk lnE114q
set_option maxRecDepth 1000000 in
theorem lnE115q : wEdQ lwTch 43 x_KT x_tb x_tyl x_ov0 x_cp u_hs x_knd lwFR lwGA lwGB 7 30 44 lnWA115 lnWB115 8000 1 60 15 1 60 184 ln_c7_N [] lno115 = true := by decide +kernel
theorem lnE115 : wEd x_KT x_tb x_tyl x_ov0 x_cp u_hs x_knd lwFR lwGA lwGB 7 30 44 lnWA115 lnWB115 8000 1 60 15 1 60 184 ln_c7_N [] lno115 = true := wEdQ_ok lwTchOk lnE115q
theorem rlL0 : wRlk 7 30 44 lnWA lnWB rlX0.2.1 rlX0.2.2.1 rlX0.2.2.2.1 rlX0.2.2.2.2 ln_in = true := by decide +kernel
set_option maxRecDepth 1000000 in
theorem rlE1q : wEdQ lwTch 43 x_KT x_tb x_tyl x_ov0 u_ct u_hs x_knd lwFR lwGA lwGB 6 30 44 rlWA1 rlWB1 8000 1 60 15 1 60 183 rl_in [] rlo1 = true := by decide +kernel
theorem rlE1 : wEd x_KT x_tb x_tyl x_ov0 u_ct u_hs x_knd lwFR lwGA lwGB 6 30 44 rlWA1 rlWB1 8000 1 60 15 1 60 183 rl_in [] rlo1 = true := wEdQ_ok lwTchOk rlE1q
set_option maxRecDepth 1000000 in
theorem rlE2q : wEdQ lwTch 43 x_KT x_tb x_tyl x_ov0 u_ct u_hs x_knd lwFR lwGA lwGB 6 30 44 rlWA2 rlWB2 8000 0 60 15 1 60 183 rl_cl_y0 [] rlo2 = true := by decide +kernel
theorem rlE2 : wEd x_KT x_tb x_tyl x_ov0 u_ct u_hs x_knd lwFR lwGA lwGB 6 30 44 rlWA2 rlWB2 8000 0 60 15 1 60 183 rl_cl_y0 [] rlo2 = true := wEdQ_ok lwTchOk rlE2q
set_option maxRecDepth 1000000 in
theorem rlE3q : wEdQ lwTch 43 x_KT x_tb x_tyl x_ov0 u_ct u_hs x_knd lwFR lwGA lwGB 6 30 44 rlWA3 rlWB3 8000 0 60 15 1 60 183 rl_cl_y1 [] rlo3 = true := by decide +kernel
theorem rlE3 : wEd x_KT x_tb x_tyl x_ov0 u_ct u_hs x_knd lwFR lwGA lwGB 6 30 44 rlWA3 rlWB3 8000 0 60 15 1 60 183 rl_cl_y1 [] rlo3 = true := wEdQ_ok lwTchOk rlE3q
set_option maxRecDepth 1000000 in
theorem rlE4q : wEdQ lwTch 43 x_KT x_tb x_tyl x_ov0 u_ct u_hs x_knd lwFR lwGA lwGB 6 30 44 rlWA4 rlWB4 8000 0 60 15 1 60 183 rl_cl_y2 [] rlo4 = true := by decide +kernel
theorem rlE4 : wEd x_KT x_tb x_tyl x_ov0 u_ct u_hs x_knd lwFR lwGA lwGB 6 30 44 rlWA4 rlWB4 8000 0 60 15 1 60 183 rl_cl_y2 [] rlo4 = true := wEdQ_ok lwTchOk rlE4q
set_option maxRecDepth 1000000 in
theorem rlE5q : wEdQ lwTch 43 x_KT x_tb x_tyl x_ov0 u_ct u_hs x_knd lwFR lwGA lwGB 6 30 44 rlWA5 rlWB5 8000 0 60 15 1 60 183 rl_cl_y3 [] rlo5 = true := by decide +kernel
theorem rlE5 : wEd x_KT x_tb x_tyl x_ov0 u_ct u_hs x_knd lwFR lwGA lwGB 6 30 44 rlWA5 rlWB5 8000 0 60 15 1 60 183 rl_cl_y3 [] rlo5 = true := wEdQ_ok lwTchOk rlE5q
set_option maxRecDepth 1000000 in
theorem rlE6q : wEdQ lwTch 43 x_KT x_tb x_tyl x_ov0 u_ct u_hs x_knd lwFR lwGA lwGB 6 30 44 rlWA6 rlWB6 8000 0 60 15 1 60 183 rl_cl_y4 [] rlo6 = true := by decide +kernel
theorem rlE6 : wEd x_KT x_tb x_tyl x_ov0 u_ct u_hs x_knd lwFR lwGA lwGB 6 30 44 rlWA6 rlWB6 8000 0 60 15 1 60 183 rl_cl_y4 [] rlo6 = true := wEdQ_ok lwTchOk rlE6q
set_option maxRecDepth 1000000 in
theorem rlE7q : wEdQ lwTch 43 x_KT x_tb x_tyl x_ov0 u_ct u_hs x_knd lwFR lwGA lwGB 6 30 44 rlWA7 rlWB7 8000 0 60 15 1 60 183 rl_cl_y5 [] rlo7 = true := by decide +kernel
theorem rlE7 : wEd x_KT x_tb x_tyl x_ov0 u_ct u_hs x_knd lwFR lwGA lwGB 6 30 44 rlWA7 rlWB7 8000 0 60 15 1 60 183 rl_cl_y5 [] rlo7 = true := wEdQ_ok lwTchOk rlE7q
set_option maxRecDepth 1000000 in
theorem rlE8q : wEdQ lwTch 43 x_KT x_tb x_tyl x_ov0 u_ct u_hs x_knd lwFR lwGA lwGB 6 30 44 rlWA8 rlWB8 8000 0 60 15 1 60 183 rl_cl_y6 [] rlo8 = true := by decide +kernel
theorem rlE8 : wEd x_KT x_tb x_tyl x_ov0 u_ct u_hs x_knd lwFR lwGA lwGB 6 30 44 rlWA8 rlWB8 8000 0 60 15 1 60 183 rl_cl_y6 [] rlo8 = true := wEdQ_ok lwTchOk rlE8q
set_option maxRecDepth 1000000 in
theorem rlE9q : wEdQ lwTch 43 x_KT x_tb x_tyl x_ov0 u_ct u_hs x_knd lwFR lwGA lwGB 6 30 44 rlWA9 rlWB9 8000 0 60 15 1 60 183 rl_cl_y7 [] rlo9 = true := by decide +kernel
theorem rlE9 : wEd x_KT x_tb x_tyl x_ov0 u_ct u_hs x_knd lwFR lwGA lwGB 6 30 44 rlWA9 rlWB9 8000 0 60 15 1 60 183 rl_cl_y7 [] rlo9 = true := wEdQ_ok lwTchOk rlE9q
set_option maxRecDepth 1000000 in
theorem rlE10q : wEdQ lwTch 43 x_KT x_tb x_tyl x_ov0 u_ct u_hs x_knd lwFR lwGA lwGB 6 30 44 rlWA10 rlWB10 8000 0 60 15 1 60 183 rl_cl_y8 [] rlo10 = true := by decide +kernel
theorem rlE10 : wEd x_KT x_tb x_tyl x_ov0 u_ct u_hs x_knd lwFR lwGA lwGB 6 30 44 rlWA10 rlWB10 8000 0 60 15 1 60 183 rl_cl_y8 [] rlo10 = true := wEdQ_ok lwTchOk rlE10q
set_option maxRecDepth 1000000 in
theorem rlE11q : wEdQ lwTch 43 x_KT x_tb x_tyl x_ov0 u_ct u_hs x_knd lwFR lwGA lwGB 6 30 44 rlWA11 rlWB11 8000 0 60 15 1 60 183 rl_cl_y9 [] rlo11 = true := by decide +kernel
theorem rlE11 : wEd x_KT x_tb x_tyl x_ov0 u_ct u_hs x_knd lwFR lwGA lwGB 6 30 44 rlWA11 rlWB11 8000 0 60 15 1 60 183 rl_cl_y9 [] rlo11 = true := wEdQ_ok lwTchOk rlE11q
set_option maxRecDepth 1000000 in
theorem rlE12q : wEdQ lwTch 43 x_KT x_tb x_tyl x_ov0 u_ct u_hs x_knd lwFR lwGA lwGB 6 30 44 rlWA12 rlWB12 8000 0 60 15 1 60 183 rl_cl_y10 [] rlo12 = true := by decide +kernel
theorem rlE12 : wEd x_KT x_tb x_tyl x_ov0 u_ct u_hs x_knd lwFR lwGA lwGB 6 30 44 rlWA12 rlWB12 8000 0 60 15 1 60 183 rl_cl_y10 [] rlo12 = true := wEdQ_ok lwTchOk rlE12q
set_option maxRecDepth 1000000 in
theorem rlE13q : wEdQ lwTch 43 x_KT x_tb x_tyl x_ov0 u_ct u_hs x_knd lwFR lwGA lwGB 6 30 44 rlWA13 rlWB13 8000 0 60 15 1 60 183 rl_cl_y11 [] rlo13 = true := by decide +kernel
theorem rlE13 : wEd x_KT x_tb x_tyl x_ov0 u_ct u_hs x_knd lwFR lwGA lwGB 6 30 44 rlWA13 rlWB13 8000 0 60 15 1 60 183 rl_cl_y11 [] rlo13 = true := wEdQ_ok lwTchOk rlE13q
set_option maxRecDepth 1000000 in
theorem rlE14q : wEdQ lwTch 43 x_KT x_tb x_tyl x_ov0 u_ct u_hs x_knd lwFR lwGA lwGB 6 30 44 rlWA14 rlWB14 8000 1 60 15 1 60 183 rl_cl_N [] rlo14 = true := by decide +kernel
theorem rlE14 : wEd x_KT x_tb x_tyl x_ov0 u_ct u_hs x_knd lwFR lwGA lwGB 6 30 44 rlWA14 rlWB14 8000 1 60 15 1 60 183 rl_cl_N [] rlo14 = true := wEdQ_ok lwTchOk rlE14q
set_option maxRecDepth 1000000 in
theorem rlE15q : wEdQ lwTch 43 x_KT x_tb x_tyl x_ov0 u_ct u_hs x_knd lwFR lwGA lwGB 6 30 44 rlWA15 rlWB15 8000 1 60 15 1 60 183 rl_op0 [] (rlo15.map (wNo [1, 0, 37])) = true := by decide +kernel
theorem rlE15 : wEd x_KT x_tb x_tyl x_ov0 u_ct u_hs x_knd lwFR lwGA lwGB 6 30 44 rlWA15 rlWB15 8000 1 60 15 1 60 183 rl_op0 [] (rlo15.map (wNo [1, 0, 37])) = true := wEdQ_ok lwTchOk rlE15q
set_option maxRecDepth 1000000 in
theorem rlE15R1 : wRkE x_KT x_tb x_tyl x_ov0 u_ct u_hs x_knd lwFR lwGA lwGB rlVA15_1 rlVB15_1 8000 1 60 15 1 60 183 (rlo15.map (wNo [1, 0, 37])) rl_op0 lwF1 [.inl (lAdd (lSc (-1) (lSy 10)) (lAdd (lSy 3) (lK (-1)))), .inr (.inr (27, [(lSy 10)])), .inr (.inr (26, [(lSy 10), (lSy 3)])), .inr (.inr (1, []))] = true := by decide +kernel
set_option maxRecDepth 1000000 in
theorem rlE15R0 : wRkE x_KT x_tb x_tyl x_ov0 u_ct u_hs x_knd lwFR lwGA lwGB rlVA15_0 rlVB15_0 8000 1 60 15 1 60 183 (rlo15.map (wNo [1, 0, 37])) rl_op0 lwF0 [.inl (lAdd (lSc (-1) (lSy 10)) (lAdd (lSy 3) (lK (-1)))), .inr (.inr (27, [(lSy 10)])), .inr (.inr (26, [(lSy 10), (lSy 3)])), .inr (.inr (0, []))] = true := by decide +kernel
set_option maxRecDepth 1000000 in
theorem rlE15R37 : wRkE x_KT x_tb x_tyl x_ov0 u_ct u_hs x_knd lwFR lwGA lwGB rlVA15_37 rlVB15_37 8000 1 60 15 1 60 183 (rlo15.map (wNo [1, 0, 37])) rl_op0 lwF37 [.inl (lAdd (lSy 10) (lAdd (lSc (-1) (lSy 5)) (lK 1))), .inl (lAdd (lSc (-1) (lSy 10)) (lAdd (lSy 5) (lK (-1)))), .inr (.inl (0, (lAdd (lSy 5) (lK (-1))))), .inr (.inl (1004, (lAdd (lSc (-1) (lSy 10)) (lAdd (lSy 5) (lK (-2)))))), .inr (.inr (33, [])), .inr (.inl (2006, lK 0))] = true := by decide +kernel
set_option maxRecDepth 1000000 in
theorem rlE16q : wEdQ lwTch 43 x_KT x_tb x_tyl x_ov0 u_ct u_hs x_knd lwFR lwGA lwGB 6 30 44 rlWA16 rlWB16 8000 1 60 15 1 60 183 rl_op1 [] (rlo16.map (wNo [1, 0, 37])) = true := by decide +kernel
theorem rlE16 : wEd x_KT x_tb x_tyl x_ov0 u_ct u_hs x_knd lwFR lwGA lwGB 6 30 44 rlWA16 rlWB16 8000 1 60 15 1 60 183 rl_op1 [] (rlo16.map (wNo [1, 0, 37])) = true := wEdQ_ok lwTchOk rlE16q
end XRuC15
