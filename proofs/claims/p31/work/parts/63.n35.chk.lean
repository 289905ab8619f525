/-! Runs: checks, 35. -/
noncomputable section XRuC35
set_option maxRecDepth 1000000 in
theorem fin1tE1q : wEdQ lwTch 52 x_KT x_tb x_tyl x_ov0 u_ctK0 u_hs x_knd lwFR lwGA lwGB 29 30 44 fin1tWA1 fin1tWB1 8000 1 60 116 0 60 244 fin1t_lr [.inr (.inr (4, [])), .inr (.inl (1001, (lSy 26))), .inr (.inl (1001, (lAdd (lSc (-1) (lSy 26)) (lK 11))))] (fin1to1.map (wNo [5, 6, 7, 9, 10, 8])) = true := by decide +kernel
theorem fin1tE1 : wEd x_KT x_tb x_tyl x_ov0 u_ctK0 u_hs x_knd lwFR lwGA lwGB 29 30 44 fin1tWA1 fin1tWB1 8000 1 60 116 0 60 244 fin1t_lr [.inr (.inr (4, [])), .inr (.inl (1001, (lSy 26))), .inr (.inl (1001, (lAdd (lSc (-1) (lSy 26)) (lK 11))))] (fin1to1.map (wNo [5, 6, 7, 9, 10, 8])) = true := wEdQ_ok lwTchOk fin1tE1q
set_option maxRecDepth 1000000 in
theorem fin1tE2q : wEdQ lwTch 52 x_KT x_tb x_tyl x_ov0 u_ctK0 u_hs x_knd lwFR lwGA lwGB 29 30 44 fin1tWA2 fin1tWB2 8000 1 60 116 0 60 244 fin1t_lo [] fin1to2 = true := by decide +kernel
theorem fin1tE2 : wEd x_KT x_tb x_tyl x_ov0 u_ctK0 u_hs x_knd lwFR lwGA lwGB 29 30 44 fin1tWA2 fin1tWB2 8000 1 60 116 0 60 244 fin1t_lo [] fin1to2 = true := wEdQ_ok lwTchOk fin1tE2q
theorem rtL0 : wRlk 29 30 44 fin1tWA fin1tWB rtX0.2.1 rtX0.2.2.1 rtX0.2.2.2.1 rtX0.2.2.2.2 fin1t_in = true := by decide +kernel
set_option maxRecDepth 1000000 in
theorem rtE1q : wEdQ lwTch 52 x_KT x_tb x_tyl x_ov0 u_ct u_hs x_knd lwFR lwGA lwGB 13 28 44 rtWA1 rtWB1 8000 1 60 141 0 60 244 rt_in [] rto1 = true := by decide +kernel
theorem rtE1 : wEd x_KT x_tb x_tyl x_ov0 u_ct u_hs x_knd lwFR lwGA lwGB 13 28 44 rtWA1 rtWB1 8000 1 60 141 0 60 244 rt_in [] rto1 = true := wEdQ_ok lwTchOk rtE1q
set_option maxRecDepth 1000000 in
theorem rtE2q : wEdQ lwTch 52 x_KT x_tb x_tyl x_ov0 u_ct u_hs x_knd lwFR lwGA lwGB 13 28 44 rtWA2 rtWB2 8000 1 60 141 0 60 244 rt_lp [.inr (.inr (4, [])), .inl (lAdd (lSc (-1) (lSy 15)) (lAdd (lSy 5) (lK (-1)))), .inr (.inl (1001, (lAdd (lSc (-1) (lSy 15)) (lK 11)))), .inr (.inr (11, [(lSy 15)]))] (rto2.map (wNo [5, 6, 7, 9, 10, 8])) = true := by decide +kernel
theorem rtE2 : wEd x_KT x_tb x_tyl x_ov0 u_ct u_hs x_knd lwFR lwGA lwGB 13 28 44 rtWA2 rtWB2 8000 1 60 141 0 60 244 rt_lp [.inr (.inr (4, [])), .inl (lAdd (lSc (-1) (lSy 15)) (lAdd (lSy 5) (lK (-1)))), .inr (.inl (1001, (lAdd (lSc (-1) (lSy 15)) (lK 11)))), .inr (.inr (11, [(lSy 15)]))] (rto2.map (wNo [5, 6, 7, 9, 10, 8])) = true := wEdQ_ok lwTchOk rtE2q
set_option maxRecDepth 1000000 in
theorem rtE3q : wEdQ lwTch 52 x_KT x_tb x_tyl x_ov0 u_ct u_hs x_knd lwFR lwGA lwGB 13 28 44 rtWA3 rtWB3 8000 1 60 141 0 60 244 rt_c_out [.inr (.inl (1001, (lAdd (lSy 13) (lK (-1900))))), .inr (.inl (1001, (lAdd (lSc (-1) (lSy 13)) (lK 2099)))), .inr (.inl (1001, (lSy 14))), .inr (.inl (1001, (lAdd (lSc (-1) (lSy 14)) (lK 1)))), .inr (.inl (1001, (lSy 26))), .inr (.inl (1001, (lAdd (lSc (-1) (lSy 26)) (lK 11))))] rto3 = true := by decide +kernel
theorem rtE3 : wEd x_KT x_tb x_tyl x_ov0 u_ct u_hs x_knd lwFR lwGA lwGB 13 28 44 rtWA3 rtWB3 8000 1 60 141 0 60 244 rt_c_out [.inr (.inl (1001, (lAdd (lSy 13) (lK (-1900))))), .inr (.inl (1001, (lAdd (lSc (-1) (lSy 13)) (lK 2099)))), .inr (.inl (1001, (lSy 14))), .inr (.inl (1001, (lAdd (lSc (-1) (lSy 14)) (lK 1)))), .inr (.inl (1001, (lSy 26))), .inr (.inl (1001, (lAdd (lSc (-1) (lSy 26)) (lK 11))))] rto3 = true := wEdQ_ok lwTchOk rtE3q
set_option maxRecDepth 1000000 in
theorem fin0tE0q : wEdQ lwTch 52 x_KT x_tb x_tyl x_ov0 u_ctK0 u_hs x_knd lwFR lwGA lwGB 29 30 44 fin0tWA0 fin0tWB0 8000 1 60 116 0 60 244 fin0t_in [.inl (lSy 29)] fin0to0 = true := by decide +kernel
theorem fin0tE0 : wEd x_KT x_tb x_tyl x_ov0 u_ctK0 u_hs x_knd lwFR lwGA lwGB 29 30 44 fin0tWA0 fin0tWB0 8000 1 60 116 0 60 244 fin0t_in [.inl (lSy 29)] fin0to0 = true := wEdQ_ok lwTchOk fin0tE0q
set_option maxRecDepth 1000000 in
theorem fin0tE1q : wEdQ lwTch 52 x_KT x_tb x_tyl x_ov0 u_ctK0 u_hs x_knd lwFR lwGA lwGB 29 30 44 fin0tWA1 fin0tWB1 8000 1 60 116 0 60 244 fin0t_lr [.inr (.inr (4, [])), .inr (.inl (1001, (lSy 26))), .inr (.inl (1001, (lAdd (lSc (-1) (lSy 26)) (lK 11))))] (fin0to1.map (wNo [5, 6, 7, 9, 10, 8])) = true := by decide +kernel
theorem fin0tE1 : wEd x_KT x_tb x_tyl x_ov0 u_ctK0 u_hs x_knd lwFR lwGA lwGB 29 30 44 fin0tWA1 fin0tWB1 8000 1 60 116 0 60 244 fin0t_lr [.inr (.inr (4, [])), .inr (.inl (1001, (lSy 26))), .inr (.inl (1001, (lAdd (lSc (-1) (lSy 26)) (lK 11))))] (fin0to1.map (wNo [5, 6, 7, 9, 10, 8])) = true := wEdQ_ok lwTchOk fin0tE1q
set_option maxRecDepth 1000000 in
theorem fin0tE2q : wEdQ lwTch 52 x_KT x_tb x_tyl x_ov0 u_ctK0 u_hs x_knd lwFR lwGA lwGB 29 30 44 fin0tWA2 fin0tWB2 8000 1 60 116 0 60 244 fin0t_lo [] fin0to2 = true := by decide +kernel
theorem fin0tE2 : wEd x_KT x_tb x_tyl x_ov0 u_ctK0 u_hs x_knd lwFR lwGA lwGB 29 30 44 fin0tWA2 fin0tWB2 8000 1 60 116 0 60 244 fin0t_lo [] fin0to2 = true := wEdQ_ok lwTchOk fin0tE2q
theorem rhL0 : wRlk 29 30 44 fin0tWA fin0tWB rhX0.2.1 rhX0.2.2.1 rhX0.2.2.2.1 rhX0.2.2.2.2 fin0t_in = true := by decide +kernel
set_option maxRecDepth 1000000 in
theorem rhE1q : wEdQ lwTch 52 x_KT x_tb x_tyl x_ov0 u_ctK1 u_hs x_knd lwFR lwGA lwGB 18 28 44 rhWA1 rhWB1 8000 1 60 144 0 60 244 rh_in [] rho1 = true := by decide +kernel
theorem rhE1 : wEd x_KT x_tb x_tyl x_ov0 u_ctK1 u_hs x_knd lwFR lwGA lwGB 18 28 44 rhWA1 rhWB1 8000 1 60 144 0 60 244 rh_in [] rho1 = true := wEdQ_ok lwTchOk rhE1q
set_option maxRecDepth 1000000 in
theorem rhE2q : wEdQ lwTch 52 x_KT x_tb x_tyl x_ov0 u_ctK1 u_hs x_knd lwFR lwGA lwGB 18 28 44 rhWA2 rhWB2 8000 1 60 144 0 60 244 rh_lp [.inr (.inr (4, [])), .inl (lAdd (lSc (-1) (lSy 22)) (lAdd (lSy 5) (lK (-1)))), .inr (.inl (1001, (lAdd (lSc (-1) (lSy 22)) (lK 11)))), .inr (.inr (11, [(lSy 22)]))] (rho2.map (wNo [5, 6, 7, 9, 10, 8])) = true := by decide +kernel
theorem rhE2 : wEd x_KT x_tb x_tyl x_ov0 u_ctK1 u_hs x_knd lwFR lwGA lwGB 18 28 44 rhWA2 rhWB2 8000 1 60 144 0 60 244 rh_lp [.inr (.inr (4, [])), .inl (lAdd (lSc (-1) (lSy 22)) (lAdd (lSy 5) (lK (-1)))), .inr (.inl (1001, (lAdd (lSc (-1) (lSy 22)) (lK 11)))), .inr (.inr (11, [(lSy 22)]))] (rho2.map (wNo [5, 6, 7, 9, 10, 8])) = true := wEdQ_ok lwTchOk rhE2q
set_option maxRecDepth 1000000 in
theorem rhE3q : wEdQ lwTch 52 x_KT x_tb x_tyl x_ov0 u_ctK1 u_hs x_knd lwFR lwGA lwGB 18 28 44 rhWA3 rhWB3 8000 1 60 144 0 60 244 rh_c_out [.inr (.inl (1001, (lSy 18))), .inr (.inl (1001, (lAdd (lSc (-1) (lSy 18)) (lK 4095)))), .inr (.inl (1001, (lAdd (lSy 19) (lK (-1900))))), .inr (.inl (1001, (lAdd (lSc (-1) (lSy 19)) (lK 2099)))), .inr (.inl (1001, (lSy 20))), .inr (.inl (1001, (lAdd (lSc (-1) (lSy 20)) (lK 1)))), .inr (.inl (1001, (lSy 26))), .inr (.inl (1001, (lAdd (lSc (-1) (lSy 26)) (lK 11))))] rho3 = true := by decide +kernel
theorem rhE3 : wEd x_KT x_tb x_tyl x_ov0 u_ctK1 u_hs x_knd lwFR lwGA lwGB 18 28 44 rhWA3 rhWB3 8000 1 60 144 0 60 244 rh_c_out [.inr (.inl (1001, (lSy 18))), .inr (.inl (1001, (lAdd (lSc (-1) (lSy 18)) (lK 4095)))), .inr (.inl (1001, (lAdd (lSy 19) (lK (-1900))))), .inr (.inl (1001, (lAdd (lSc (-1) (lSy 19)) (lK 2099)))), .inr (.inl (1001, (lSy 20))), .inr (.inl (1001, (lAdd (lSc (-1) (lSy 20)) (lK 1)))), .inr (.inl (1001, (lSy 26))), .inr (.inl (1001, (lAdd (lSc (-1) (lSy 26)) (lK 11))))] rho3 = true := wEdQ_ok lwTchOk rhE3q
theorem bmL0 : wRlk 18 28 44 rhWA rhWB bmX0.2.1 bmX0.2.2.1 bmX0.2.2.2.1 bmX0.2.2.2.2 rh_in = true := by decide +kernel
set_option maxRecDepth 1000000 in
theorem bmE1q : wEdQ lwTch 52 x_KT x_tb x_tyl x_ov0 u_ctK3 u_hs x_knd lwFR lwGA lwGB 11 28 44 bmWA1 bmWB1 8000 1 60 143 0 60 244 bm_in [] bmo1 = true := by decide +kernel
theorem bmE1 : wEd x_KT x_tb x_tyl x_ov0 u_ctK3 u_hs x_knd lwFR lwGA lwGB 11 28 44 bmWA1 bmWB1 8000 1 60 143 0 60 244 bm_in [] bmo1 = true := wEdQ_ok lwTchOk bmE1q
set_option maxRecDepth 1000000 in
theorem bmE2q : wEdQ lwTch 52 x_KT x_tb x_tyl x_ov0 u_ctK3 u_hs x_knd lwFR lwGA lwGB 11 28 44 bmWA2 bmWB2 8000 1 60 143 0 60 244 bm_c0_out [.inr (.inl (1001, (lSy 11))), .inr (.inl (1001, (lAdd (lSc (-1) (lSy 11)) (lK 4095)))), .inr (.inl (1001, (lSy 12))), .inr (.inl (1001, (lAdd (lSc (-1) (lSy 12)) (lK 999)))), .inr (.inl (1001, (lAdd (lSy 13) (lK (-1900))))), .inr (.inl (1001, (lAdd (lSc (-1) (lSy 13)) (lK 2099))))] bmo2 = true := by decide +kernel
theorem bmE2 : wEd x_KT x_tb x_tyl x_ov0 u_ctK3 u_hs x_knd lwFR lwGA lwGB 11 28 44 bmWA2 bmWB2 8000 1 60 143 0 60 244 bm_c0_out [.inr (.inl (1001, (lSy 11))), .inr (.inl (1001, (lAdd (lSc (-1) (lSy 11)) (lK 4095)))), .inr (.inl (1001, (lSy 12))), .inr (.inl (1001, (lAdd (lSc (-1) (lSy 12)) (lK 999)))), .inr (.inl (1001, (lAdd (lSy 13) (lK (-1900))))), .inr (.inl (1001, (lAdd (lSc (-1) (lSy 13)) (lK 2099))))] bmo2 = true := wEdQ_ok lwTchOk bmE2q
theorem bmL3 : wRlk 18 28 44 rhWA rhWB bmX3.2.1 bmX3.2.2.1 bmX3.2.2.2.1 bmX3.2.2.2.2 rh_in = true := by decide +kernel
set_option maxRecDepth 1000000 in
theorem bmE4q : wEdQ lwTch 52 x_KT x_tb x_tyl x_ov0 u_ctK3 u_hs x_knd lwFR lwGA lwGB 11 28 44 bmWA4 bmWB4 8000 1 60 143 0 60 244 bm_lp [] bmo4 = true := by decide +kernel
theorem bmE4 : wEd x_KT x_tb x_tyl x_ov0 u_ctK3 u_hs x_knd lwFR lwGA lwGB 11 28 44 bmWA4 bmWB4 8000 1 60 143 0 60 244 bm_lp [] bmo4 = true := wEdQ_ok lwTchOk bmE4q
set_option maxRecDepth 1000000 in
theorem bmE5q : wEdQ lwTch 52 x_KT x_tb x_tyl x_ov0 u_ctK3 u_hs x_knd lwFR lwGA lwGB 11 28 44 bmWA5 bmWB5 8000 1 60 143 0 60 244 bm_c1_out [.inr (.inl (1001, (lSy 11))), .inr (.inl (1001, (lAdd (lSc (-1) (lSy 11)) (lK 4095)))), .inr (.inl (1001, (lSy 12))), .inr (.inl (1001, (lAdd (lSc (-1) (lSy 12)) (lK 999)))), .inr (.inl (1001, (lAdd (lSy 13) (lK (-1900))))), .inr (.inl (1001, (lAdd (lSc (-1) (lSy 13)) (lK 2099)))), .inr (.inl (1001, (lSy 14))), .inr (.inl (1001, (lAdd (lSc (-1) (lSy 14)) (lK 4095)))), .inr (.inl (1001, (lAdd (lSy 17) (lK (-1))))), .inr (.inl (1001, (lAdd (lSc (-1) (lSy 17)) (lK 4095))))] bmo5 = true := by decide +kernel
theorem bmE5 : wEd x_KT x_tb x_tyl x_ov0 u_ctK3 u_hs x_knd lwFR lwGA lwGB 11 28 44 bmWA5 bmWB5 8000 1 60 143 0 60 244 bm_c1_out [.inr (.inl (1001, (lSy 11))), .inr (.inl (1001, (lAdd (lSc (-1) (lSy 11)) (lK 4095)))), .inr (.inl (1001, (lSy 12))), .inr (.inl (1001, (lAdd (lSc (-1) (lSy 12)) (lK 999)))), .inr (.inl (1001, (lAdd (lSy 13) (lK (-1900))))), .inr (.inl (1001, (lAdd (lSc (-1) (lSy 13)) (lK 2099)))), .inr (.inl (1001, (lSy 14))), .inr (.inl (1001, (lAdd (lSc (-1) (lSy 14)) (lK 4095)))), .inr (.inl (1001, (lAdd (lSy 17) (lK (-1))))), .inr (.inl (1001, (lAdd (lSc (-1) (lSy 17)) (lK 4095))))] bmo5 = true := wEdQ_ok lwTchOk bmE5q
set_option maxRecDepth 1000000 in
theorem niE0q : wEdQ lwTch 52 x_KT x_tb x_tyl x_ov0 u_ctK2 u_hs x_knd lwFR lwGA lwGB 27 28 44 niWA0 niWB0 8000 0 60 113 1 60 220 ni_in [] nio0 = true := by decide +kernel
theorem niE0 : wEd x_KT x_tb x_tyl x_ov0 u_ctK2 u_hs x_knd lwFR lwGA lwGB 27 28 44 niWA0 niWB0 8000 0 60 113 1 60 220 ni_in [] nio0 = true := wEdQ_ok lwTchOk niE0q
set_option maxRecDepth 1000000 in
theorem niE1q : wEdQ lwTch 52 x_KT x_tb x_tyl x_ov0 u_ctK2 u_hs x_knd lwFR lwGA lwGB 27 28 44 niWA1 niWB1 8000 0 60 113 1 60 220 ni_lp [.inr (.inr (4, [])), .inl (lAdd (lSc (-1) (lSy 31)) (lAdd (lSy 5) (lK (-1)))), .inr (.inl (1001, (lAdd (lSc (-1) (lSy 31)) (lK 11))))] (nio1.map (wNo [5, 6, 9, 10, 20])) = true := by decide +kernel
theorem niE1 : wEd x_KT x_tb x_tyl x_ov0 u_ctK2 u_hs x_knd lwFR lwGA lwGB 27 28 44 niWA1 niWB1 8000 0 60 113 1 60 220 ni_lp [.inr (.inr (4, [])), .inl (lAdd (lSc (-1) (lSy 31)) (lAdd (lSy 5) (lK (-1)))), .inr (.inl (1001, (lAdd (lSc (-1) (lSy 31)) (lK 11))))] (nio1.map (wNo [5, 6, 9, 10, 20])) = true := wEdQ_ok lwTchOk niE1q
set_option maxRecDepth 1000000 in
theorem niE1R5 : wRkE x_KT x_tb x_tyl x_ov0 u_ctK2 u_hs x_knd lwFR lwGA lwGB niVA1_5 niVB1_5 8000 0 60 113 1 60 220 (nio1.map (wNo [5, 6, 9, 10, 20])) ni_lp lwF5 [.inr (.inr (4, [])), .inl (lAdd (lSc (-1) (lSy 31)) (lAdd (lSy 5) (lK (-1)))), .inr (.inl (1001, (lAdd (lSc (-1) (lSy 31)) (lK 11)))), .inl (lAdd (lSc (-1) (lSy 32)) (lAdd (lSy 5) (lK (-1)))), .inr (.inr (19, [(lSy 32), (lSy 31)])), .inr (.inr (5, [])), .inr (.inl (2008, lK 0))] = true := by decide +kernel
end XRuC35
