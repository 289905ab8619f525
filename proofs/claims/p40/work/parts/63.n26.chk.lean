/-! Runs: checks, 26. -/
noncomputable section XRuC26
set_option maxRecDepth 1000000 in
theorem doesE0_1 : wEdFQ lwTch 44 [(lAdd (lSy 16) (lK (-2)))] 1 x_KT x_tb x_tyl x_ov0 u_ct u_hs x_knd lwFR lwGA lwGB 13 30 46 doesWA0 doesWB0 8000 1 60 96 1 60 233 does_in [.inl (lSy 13), .inl (lAdd (lSc (-1) (lSy 13)) (lAdd (lSy 11) (lK (-1)))), .inr (.inr (0, [(lSy 13)])), .inl (lSy 16), .inl (lAdd (lSy 16) (lK (-1))), .inl (lAdd (lSy 16) (lK (-2))), .inl (lAdd (lSy 16) (lK (-3))), .inl (lAdd (lSc (-1) (lSy 16)) (lK 3))] doeso0 = true := by decide +kernel
set_option maxRecDepth 1000000 in
theorem doesE0 : wEd x_KT x_tb x_tyl x_ov0 u_ct u_hs x_knd lwFR lwGA lwGB 13 30 46 doesWA0 doesWB0 8000 1 60 96 1 60 233 does_in [.inl (lSy 13), .inl (lAdd (lSc (-1) (lSy 13)) (lAdd (lSy 11) (lK (-1)))), .inr (.inr (0, [(lSy 13)])), .inl (lSy 16), .inl (lAdd (lSy 16) (lK (-1))), .inl (lAdd (lSy 16) (lK (-2))), .inl (lAdd (lSy 16) (lK (-3))), .inl (lAdd (lSc (-1) (lSy 16)) (lK 3))] doeso0 = true := wEd_F [(lAdd (lSy 16) (lK (-2)))] (fun i hi => match i, hi with
  | 0, _ => wEdFQ_ok lwTchOk doesE0_0
  | 1, _ => wEdFQ_ok lwTchOk doesE0_1
  | n + 2, h => absurd h (by
    show ¬ (n + 2 < 2)
    omega))
set_option maxRecDepth 1000000 in
theorem doesE1q : wEdQ lwTch 44 x_KT x_tb x_tyl x_ov0 u_ct u_hs x_knd lwFR lwGA lwGB 13 30 46 doesWA1 doesWB1 8000 1 60 96 1 60 233 does_m0 [.inr (.inr (0, [(lSy 13)]))] (doeso1.map (wNo [0, 20])) = true := by decide +kernel
theorem doesE1 : wEd x_KT x_tb x_tyl x_ov0 u_ct u_hs x_knd lwFR lwGA lwGB 13 30 46 doesWA1 doesWB1 8000 1 60 96 1 60 233 does_m0 [.inr (.inr (0, [(lSy 13)]))] (doeso1.map (wNo [0, 20])) = true := wEdQ_ok lwTchOk doesE1q
set_option maxRecDepth 1000000 in
theorem doesE1R0 : wRkE x_KT x_tb x_tyl x_ov0 u_ct u_hs x_knd lwFR lwGA lwGB doesVA1_0 doesVB1_0 8000 1 60 96 1 60 233 (doeso1.map (wNo [0, 20])) does_m0 lwF0 [.inr (.inr (0, [(lSy 13)])), .inl (lAdd (lSy 17) (lSc (-1) (lSy 13))), .inl (lAdd (lSc (-1) (lSy 17)) (lSy 13)), .inr (.inl (1001, (lAdd (lSc (-1) (lSy 17)) (lAdd (lSy 11) (lK (-1)))))), .inl (lAdd (lSc (-1) (lSy 17)) (lAdd (lSy 11) (lK (-1)))), .inr (.inl (0, (lSy 13))), .inr (.inr (16, [(lSy 17), (lSy 13)])), .inr (.inr (16, [(lSy 13), (lSy 17)])), .inr (.inr (12, [(lSy 17), (lSy 13)])), .inr (.inr (12, [(lSy 13), (lSy 17)])), .inr (.inr (0, []))] = true := by decide +kernel
set_option maxRecDepth 1000000 in
theorem doesE1R20 : wRkE x_KT x_tb x_tyl x_ov0 u_ct u_hs x_knd lwFR lwGA lwGB doesVA1_20 doesVB1_20 8000 1 60 96 1 60 233 (doeso1.map (wNo [0, 20])) does_m0 lwF20 [.inr (.inr (0, [(lSy 13)])), .inl (lAdd (lSy 17) (lSc (-1) (lSy 11))), .inr (.inl (1001, (lAdd (lSy 17) (lAdd (lSc (-1) (lSy 13)) (lK (-1)))))), .inr (.inr (20, []))] = true := by decide +kernel
set_option maxRecDepth 1000000 in
theorem doesE2q : wEdQ lwTch 44 x_KT x_tb x_tyl x_ov0 u_ct u_hs x_knd lwFR lwGA lwGB 13 30 46 doesWA2 doesWB2 8000 1 60 96 1 60 233 does_m1 [.inr (.inr (0, [(lSy 13)]))] (doeso2.map (wNo [0, 20])) = true := by decide +kernel
theorem doesE2 : wEd x_KT x_tb x_tyl x_ov0 u_ct u_hs x_knd lwFR lwGA lwGB 13 30 46 doesWA2 doesWB2 8000 1 60 96 1 60 233 does_m1 [.inr (.inr (0, [(lSy 13)]))] (doeso2.map (wNo [0, 20])) = true := wEdQ_ok lwTchOk doesE2q
set_option maxRecDepth 1000000 in
theorem doesE2R0 : wRkE x_KT x_tb x_tyl x_ov0 u_ct u_hs x_knd lwFR lwGA lwGB doesVA2_0 doesVB2_0 8000 1 60 96 1 60 233 (doeso2.map (wNo [0, 20])) does_m1 lwF0 [.inr (.inr (0, [(lSy 13)])), .inl (lAdd (lSy 17) (lSc (-1) (lSy 13))), .inl (lAdd (lSc (-1) (lSy 17)) (lSy 13)), .inr (.inl (1001, (lAdd (lSc (-1) (lSy 17)) (lAdd (lSy 11) (lK (-1)))))), .inl (lAdd (lSc (-1) (lSy 17)) (lAdd (lSy 11) (lK (-1)))), .inr (.inl (0, (lSy 13))), .inr (.inr (16, [(lSy 17), (lSy 13)])), .inr (.inr (16, [(lSy 13), (lSy 17)])), .inr (.inr (12, [(lSy 17), (lSy 13)])), .inr (.inr (12, [(lSy 13), (lSy 17)])), .inr (.inr (0, []))] = true := by decide +kernel
set_option maxRecDepth 1000000 in
theorem doesE2R20 : wRkE x_KT x_tb x_tyl x_ov0 u_ct u_hs x_knd lwFR lwGA lwGB doesVA2_20 doesVB2_20 8000 1 60 96 1 60 233 (doeso2.map (wNo [0, 20])) does_m1 lwF20 [.inr (.inr (0, [(lSy 13)])), .inl (lAdd (lSy 17) (lSc (-1) (lSy 11))), .inr (.inl (1001, (lAdd (lSy 17) (lAdd (lSc (-1) (lSy 13)) (lK (-1)))))), .inr (.inr (20, []))] = true := by decide +kernel
set_option maxRecDepth 1000000 in
theorem doesE3q : wEdQ lwTch 44 x_KT x_tb x_tyl x_ov0 u_ct u_hs x_knd lwFR lwGA lwGB 13 30 46 doesWA3 doesWB3 8000 1 60 96 1 60 233 does_m2 [.inr (.inr (0, [(lSy 13)])), .inr (.inl (2008, lK 0))] (doeso3.map (wNo [0, 20, 30])) = true := by decide +kernel
theorem doesE3 : wEd x_KT x_tb x_tyl x_ov0 u_ct u_hs x_knd lwFR lwGA lwGB 13 30 46 doesWA3 doesWB3 8000 1 60 96 1 60 233 does_m2 [.inr (.inr (0, [(lSy 13)])), .inr (.inl (2008, lK 0))] (doeso3.map (wNo [0, 20, 30])) = true := wEdQ_ok lwTchOk doesE3q
set_option maxRecDepth 1000000 in
theorem doesE3R0 : wRkE x_KT x_tb x_tyl x_ov0 u_ct u_hs x_knd lwFR lwGA lwGB doesVA3_0 doesVB3_0 8000 1 60 96 1 60 233 (doeso3.map (wNo [0, 20, 30])) does_m2 lwF0 [.inr (.inr (0, [(lSy 13)])), .inr (.inl (2008, lK 0)), .inl (lAdd (lSy 18) (lSc (-1) (lSy 13))), .inl (lAdd (lSc (-1) (lSy 18)) (lSy 13)), .inr (.inl (1001, (lAdd (lSc (-1) (lSy 18)) (lAdd (lSy 11) (lK (-1)))))), .inl (lAdd (lSc (-1) (lSy 18)) (lAdd (lSy 11) (lK (-1)))), .inr (.inl (0, (lSy 13))), .inr (.inr (16, [(lSy 18), (lSy 13)])), .inr (.inr (16, [(lSy 13), (lSy 18)])), .inr (.inr (12, [(lSy 18), (lSy 13)])), .inr (.inr (12, [(lSy 13), (lSy 18)])), .inr (.inr (0, []))] = true := by decide +kernel
set_option maxRecDepth 1000000 in
theorem doesE3R20 : wRkE x_KT x_tb x_tyl x_ov0 u_ct u_hs x_knd lwFR lwGA lwGB doesVA3_20 doesVB3_20 8000 1 60 96 1 60 233 (doeso3.map (wNo [0, 20, 30])) does_m2 lwF20 [.inr (.inr (0, [(lSy 13)])), .inl (lAdd (lSy 18) (lSc (-1) (lSy 11))), .inr (.inl (1001, (lAdd (lSy 18) (lAdd (lSc (-1) (lSy 13)) (lK (-1)))))), .inr (.inr (20, []))] = true := by decide +kernel
set_option maxRecDepth 1000000 in
theorem doesE3R30 : wRkE x_KT x_tb x_tyl x_ov0 u_ct u_hs x_knd lwFR lwGA lwGB doesVA3_30 doesVB3_30 8000 1 60 96 1 60 233 (doeso3.map (wNo [0, 20, 30])) does_m2 lwF30 [.inr (.inr (0, [(lSy 13)])), .inr (.inr (31, [(lSy 13)])), .inl (lAdd (lSy 18) (lSc (-1) (lSy 13))), .inl (lAdd (lSc (-1) (lSy 18)) (lSy 13)), .inr (.inl (1001, (lAdd (lSc (-1) (lSy 18)) (lAdd (lSy 11) (lK (-1)))))), .inl (lAdd (lSc (-1) (lSy 18)) (lAdd (lSy 11) (lK (-1)))), .inr (.inl (0, (lSy 13))), .inr (.inr (12, [(lSy 18), (lSy 13)])), .inr (.inr (12, [(lSy 13), (lSy 18)])), .inr (.inr (16, [(lSy 18), (lSy 13)])), .inr (.inr (16, [(lSy 13), (lSy 18)])), .inr (.inr (32, [(lSy 18), (lSy 13)])), .inr (.inr (32, [(lSy 13), (lSy 18)])), .inr (.inr (30, [])), .inr (.inl (2008, lK 0))] = true := by decide +kernel
set_option maxRecDepth 1000000 in
theorem doesE4q : wEdQ lwTch 44 x_KT x_tb x_tyl x_ov0 u_ct u_hs x_knd lwFR lwGA lwGB 13 30 46 doesWA4 doesWB4 8000 1 60 96 1 60 233 does_m3 [.inr (.inr (0, [(lSy 13)])), .inr (.inl (2008, lK 0))] (doeso4.map (wNo [0, 20])) = true := by decide +kernel
theorem doesE4 : wEd x_KT x_tb x_tyl x_ov0 u_ct u_hs x_knd lwFR lwGA lwGB 13 30 46 doesWA4 doesWB4 8000 1 60 96 1 60 233 does_m3 [.inr (.inr (0, [(lSy 13)])), .inr (.inl (2008, lK 0))] (doeso4.map (wNo [0, 20])) = true := wEdQ_ok lwTchOk doesE4q
set_option maxRecDepth 1000000 in
theorem doesE4R0 : wRkE x_KT x_tb x_tyl x_ov0 u_ct u_hs x_knd lwFR lwGA lwGB doesVA4_0 doesVB4_0 8000 1 60 96 1 60 233 (doeso4.map (wNo [0, 20])) does_m3 lwF0 [.inr (.inr (0, [(lSy 13)])), .inr (.inl (2008, lK 0)), .inl (lAdd (lSy 18) (lSc (-1) (lSy 13))), .inl (lAdd (lSc (-1) (lSy 18)) (lSy 13)), .inr (.inl (1001, (lAdd (lSc (-1) (lSy 18)) (lAdd (lSy 11) (lK (-1)))))), .inl (lAdd (lSc (-1) (lSy 18)) (lAdd (lSy 11) (lK (-1)))), .inr (.inl (0, (lSy 13))), .inr (.inr (16, [(lSy 18), (lSy 13)])), .inr (.inr (16, [(lSy 13), (lSy 18)])), .inr (.inr (12, [(lSy 18), (lSy 13)])), .inr (.inr (12, [(lSy 13), (lSy 18)])), .inr (.inr (0, []))] = true := by decide +kernel
set_option maxRecDepth 1000000 in
theorem doesE4R20 : wRkE x_KT x_tb x_tyl x_ov0 u_ct u_hs x_knd lwFR lwGA lwGB doesVA4_20 doesVB4_20 8000 1 60 96 1 60 233 (doeso4.map (wNo [0, 20])) does_m3 lwF20 [.inr (.inr (0, [(lSy 13)])), .inl (lAdd (lSy 18) (lSc (-1) (lSy 11))), .inr (.inl (1001, (lAdd (lSy 18) (lAdd (lSc (-1) (lSy 13)) (lK (-1)))))), .inr (.inr (20, []))] = true := by decide +kernel
set_option maxRecDepth 1000000 in
theorem doesE5q : wEdQ lwTch 44 x_KT x_tb x_tyl x_ov0 u_ct u_hs x_knd lwFR lwGA lwGB 13 30 46 doesWA5 doesWB5 8000 1 60 96 1 60 233 does_bk [] doeso5 = true := by decide +kernel
theorem doesE5 : wEd x_KT x_tb x_tyl x_ov0 u_ct u_hs x_knd lwFR lwGA lwGB 13 30 46 doesWA5 doesWB5 8000 1 60 96 1 60 233 does_bk [] doeso5 = true := wEdQ_ok lwTchOk doesE5q
set_option maxRecDepth 1000000 in
theorem mendE0q : wEdQ lwTch 44 x_KT x_tb x_tyl x_ov0 u_ct u_hs x_knd lwFR lwGA lwGB 13 30 46 mendWA0 mendWB0 8000 1 60 103 1 60 236 mend_in [.inl (lSy 13), .inl (lAdd (lSc (-1) (lSy 13)) (lAdd (lSy 11) (lK (-1)))), .inr (.inr (0, [(lSy 13)]))] mendo0 = true := by decide +kernel
theorem mendE0 : wEd x_KT x_tb x_tyl x_ov0 u_ct u_hs x_knd lwFR lwGA lwGB 13 30 46 mendWA0 mendWB0 8000 1 60 103 1 60 236 mend_in [.inl (lSy 13), .inl (lAdd (lSc (-1) (lSy 13)) (lAdd (lSy 11) (lK (-1)))), .inr (.inr (0, [(lSy 13)]))] mendo0 = true := wEdQ_ok lwTchOk mendE0q
set_option maxRecDepth 1000000 in
theorem mendE1q : wEdQ lwTch 44 x_KT x_tb x_tyl x_ov0 u_ct u_hs x_knd lwFR lwGA lwGB 13 30 46 mendWA1 mendWB1 8000 1 60 103 1 60 236 mend_m2 [.inr (.inr (0, [(lSy 13)])), .inr (.inr (2, [(lSy 13), (lSy 16)])), .inr (.inr (14, [(lSy 13)]))] (mendo1.map (wNo [0, 20, 2])) = true := by decide +kernel
theorem mendE1 : wEd x_KT x_tb x_tyl x_ov0 u_ct u_hs x_knd lwFR lwGA lwGB 13 30 46 mendWA1 mendWB1 8000 1 60 103 1 60 236 mend_m2 [.inr (.inr (0, [(lSy 13)])), .inr (.inr (2, [(lSy 13), (lSy 16)])), .inr (.inr (14, [(lSy 13)]))] (mendo1.map (wNo [0, 20, 2])) = true := wEdQ_ok lwTchOk mendE1q
end XRuC26
