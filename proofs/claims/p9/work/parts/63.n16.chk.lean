/-! Runs: checks, 16. -/
noncomputable section XRuC16
set_option maxRecDepth 1000000 in
theorem doesE0_0 : wEdFQ lwTch 39 [(lAdd (lSy 8) (lK (-2)))] 0 x_KT x_tb x_tyl x_ov0 u_ct u_hs x_knd lwFR lwGA lwGB 5 24 42 doesWA0 doesWB0 8000 1 60 96 1 60 233 does_in [.inl (lSy 5), .inl (lAdd (lSc (-1) (lSy 5)) (lAdd (lSy 3) (lK (-1)))), .inr (.inr (0, [(lSy 5)])), .inl (lSy 8), .inl (lAdd (lSy 8) (lK (-1))), .inl (lAdd (lSy 8) (lK (-2))), .inl (lAdd (lSy 8) (lK (-3))), .inl (lAdd (lSc (-1) (lSy 8)) (lK 3))] doeso0 = true := by decide +kernel
set_option maxRecDepth 1000000 in
theorem doesE0_1 : wEdFQ lwTch 39 [(lAdd (lSy 8) (lK (-2)))] 1 x_KT x_tb x_tyl x_ov0 u_ct u_hs x_knd lwFR lwGA lwGB 5 24 42 doesWA0 doesWB0 8000 1 60 96 1 60 233 does_in [.inl (lSy 5), .inl (lAdd (lSc (-1) (lSy 5)) (lAdd (lSy 3) (lK (-1)))), .inr (.inr (0, [(lSy 5)])), .inl (lSy 8), .inl (lAdd (lSy 8) (lK (-1))), .inl (lAdd (lSy 8) (lK (-2))), .inl (lAdd (lSy 8) (lK (-3))), .inl (lAdd (lSc (-1) (lSy 8)) (lK 3))] doeso0 = true := by decide +kernel
set_option maxRecDepth 1000000 in
theorem doesE0 : wEd x_KT x_tb x_tyl x_ov0 u_ct u_hs x_knd lwFR lwGA lwGB 5 24 42 doesWA0 doesWB0 8000 1 60 96 1 60 233 does_in [.inl (lSy 5), .inl (lAdd (lSc (-1) (lSy 5)) (lAdd (lSy 3) (lK (-1)))), .inr (.inr (0, [(lSy 5)])), .inl (lSy 8), .inl (lAdd (lSy 8) (lK (-1))), .inl (lAdd (lSy 8) (lK (-2))), .inl (lAdd (lSy 8) (lK (-3))), .inl (lAdd (lSc (-1) (lSy 8)) (lK 3))] doeso0 = true := wEd_F [(lAdd (lSy 8) (lK (-2)))] (fun i hi => match i, hi with
  | 0, _ => wEdFQ_ok lwTchOk doesE0_0
  | 1, _ => wEdFQ_ok lwTchOk doesE0_1
  | n + 2, h => absurd h (by
    show ¬ (n + 2 < 2)
    omega))
set_option maxRecDepth 1000000 in
theorem doesE1q : wEdQ lwTch 39 x_KT x_tb x_tyl x_ov0 u_ct u_hs x_knd lwFR lwGA lwGB 5 24 42 doesWA1 doesWB1 8000 1 60 96 1 60 233 does_m0 [.inr (.inr (0, [(lSy 5)]))] (doeso1.map (wNo [0, 20])) = true := by decide +kernel
theorem doesE1 : wEd x_KT x_tb x_tyl x_ov0 u_ct u_hs x_knd lwFR lwGA lwGB 5 24 42 doesWA1 doesWB1 8000 1 60 96 1 60 233 does_m0 [.inr (.inr (0, [(lSy 5)]))] (doeso1.map (wNo [0, 20])) = true := wEdQ_ok lwTchOk doesE1q
set_option maxRecDepth 1000000 in
theorem doesE1R0 : wRkE x_KT x_tb x_tyl x_ov0 u_ct u_hs x_knd lwFR lwGA lwGB doesVA1_0 doesVB1_0 8000 1 60 96 1 60 233 (doeso1.map (wNo [0, 20])) does_m0 lwF0 [.inr (.inr (0, [(lSy 5)])), .inl (lAdd (lSy 9) (lSc (-1) (lSy 5))), .inl (lAdd (lSc (-1) (lSy 9)) (lSy 5)), .inr (.inl (1001, (lAdd (lSc (-1) (lSy 9)) (lAdd (lSy 3) (lK (-1)))))), .inl (lAdd (lSc (-1) (lSy 9)) (lAdd (lSy 3) (lK (-1)))), .inr (.inl (0, (lSy 5))), .inr (.inr (16, [(lSy 9), (lSy 5)])), .inr (.inr (16, [(lSy 5), (lSy 9)])), .inr (.inr (12, [(lSy 9), (lSy 5)])), .inr (.inr (12, [(lSy 5), (lSy 9)])), .inr (.inr (0, []))] = true := by decide +kernel
set_option maxRecDepth 1000000 in
theorem doesE1R20 : wRkE x_KT x_tb x_tyl x_ov0 u_ct u_hs x_knd lwFR lwGA lwGB doesVA1_20 doesVB1_20 8000 1 60 96 1 60 233 (doeso1.map (wNo [0, 20])) does_m0 lwF20 [.inr (.inr (0, [(lSy 5)])), .inl (lAdd (lSy 9) (lSc (-1) (lSy 3))), .inr (.inl (1001, (lAdd (lSy 9) (lAdd (lSc (-1) (lSy 5)) (lK (-1)))))), .inr (.inr (20, []))] = true := by decide +kernel
set_option maxRecDepth 1000000 in
theorem doesE2q : wEdQ lwTch 39 x_KT x_tb x_tyl x_ov0 u_ct u_hs x_knd lwFR lwGA lwGB 5 24 42 doesWA2 doesWB2 8000 1 60 96 1 60 233 does_m1 [.inr (.inr (0, [(lSy 5)]))] (doeso2.map (wNo [0, 20])) = true := by decide +kernel
theorem doesE2 : wEd x_KT x_tb x_tyl x_ov0 u_ct u_hs x_knd lwFR lwGA lwGB 5 24 42 doesWA2 doesWB2 8000 1 60 96 1 60 233 does_m1 [.inr (.inr (0, [(lSy 5)]))] (doeso2.map (wNo [0, 20])) = true := wEdQ_ok lwTchOk doesE2q
set_option maxRecDepth 1000000 in
theorem doesE2R0 : wRkE x_KT x_tb x_tyl x_ov0 u_ct u_hs x_knd lwFR lwGA lwGB doesVA2_0 doesVB2_0 8000 1 60 96 1 60 233 (doeso2.map (wNo [0, 20])) does_m1 lwF0 [.inr (.inr (0, [(lSy 5)])), .inl (lAdd (lSy 9) (lSc (-1) (lSy 5))), .inl (lAdd (lSc (-1) (lSy 9)) (lSy 5)), .inr (.inl (1001, (lAdd (lSc (-1) (lSy 9)) (lAdd (lSy 3) (lK (-1)))))), .inl (lAdd (lSc (-1) (lSy 9)) (lAdd (lSy 3) (lK (-1)))), .inr (.inl (0, (lSy 5))), .inr (.inr (16, [(lSy 9), (lSy 5)])), .inr (.inr (16, [(lSy 5), (lSy 9)])), .inr (.inr (12, [(lSy 9), (lSy 5)])), .inr (.inr (12, [(lSy 5), (lSy 9)])), .inr (.inr (0, []))] = true := by decide +kernel
set_option maxRecDepth 1000000 in
theorem doesE2R20 : wRkE x_KT x_tb x_tyl x_ov0 u_ct u_hs x_knd lwFR lwGA lwGB doesVA2_20 doesVB2_20 8000 1 60 96 1 60 233 (doeso2.map (wNo [0, 20])) does_m1 lwF20 [.inr (.inr (0, [(lSy 5)])), .inl (lAdd (lSy 9) (lSc (-1) (lSy 3))), .inr (.inl (1001, (lAdd (lSy 9) (lAdd (lSc (-1) (lSy 5)) (lK (-1)))))), .inr (.inr (20, []))] = true := by decide +kernel
set_option maxRecDepth 1000000 in
theorem doesE3q : wEdQ lwTch 39 x_KT x_tb x_tyl x_ov0 u_ct u_hs x_knd lwFR lwGA lwGB 5 24 42 doesWA3 doesWB3 8000 1 60 96 1 60 233 does_m2 [.inr (.inr (0, [(lSy 5)])), .inr (.inl (2008, lK 0))] (doeso3.map (wNo [0, 20])) = true := by decide +kernel
theorem doesE3 : wEd x_KT x_tb x_tyl x_ov0 u_ct u_hs x_knd lwFR lwGA lwGB 5 24 42 doesWA3 doesWB3 8000 1 60 96 1 60 233 does_m2 [.inr (.inr (0, [(lSy 5)])), .inr (.inl (2008, lK 0))] (doeso3.map (wNo [0, 20])) = true := wEdQ_ok lwTchOk doesE3q
set_option maxRecDepth 1000000 in
theorem doesE3R0 : wRkE x_KT x_tb x_tyl x_ov0 u_ct u_hs x_knd lwFR lwGA lwGB doesVA3_0 doesVB3_0 8000 1 60 96 1 60 233 (doeso3.map (wNo [0, 20])) does_m2 lwF0 [.inr (.inr (0, [(lSy 5)])), .inr (.inl (2008, lK 0)), .inl (lAdd (lSy 10) (lSc (-1) (lSy 5))), .inl (lAdd (lSc (-1) (lSy 10)) (lSy 5)), .inr (.inl (1001, (lAdd (lSc (-1) (lSy 10)) (lAdd (lSy 3) (lK (-1)))))), .inl (lAdd (lSc (-1) (lSy 10)) (lAdd (lSy 3) (lK (-1)))), .inr (.inl (0, (lSy 5))), .inr (.inr (16, [(lSy 10), (lSy 5)])), .inr (.inr (16, [(lSy 5), (lSy 10)])), .inr (.inr (12, [(lSy 10), (lSy 5)])), .inr (.inr (12, [(lSy 5), (lSy 10)])), .inr (.inr (0, []))] = true := by decide +kernel
set_option maxRecDepth 1000000 in
theorem doesE3R20 : wRkE x_KT x_tb x_tyl x_ov0 u_ct u_hs x_knd lwFR lwGA lwGB doesVA3_20 doesVB3_20 8000 1 60 96 1 60 233 (doeso3.map (wNo [0, 20])) does_m2 lwF20 [.inr (.inr (0, [(lSy 5)])), .inl (lAdd (lSy 10) (lSc (-1) (lSy 3))), .inr (.inl (1001, (lAdd (lSy 10) (lAdd (lSc (-1) (lSy 5)) (lK (-1)))))), .inr (.inr (20, []))] = true := by decide +kernel
set_option maxRecDepth 1000000 in
theorem doesE4q : wEdQ lwTch 39 x_KT x_tb x_tyl x_ov0 u_ct u_hs x_knd lwFR lwGA lwGB 5 24 42 doesWA4 doesWB4 8000 1 60 96 1 60 233 does_m3 [.inr (.inr (0, [(lSy 5)])), .inr (.inl (2008, lK 0))] (doeso4.map (wNo [0, 20])) = true := by decide +kernel
theorem doesE4 : wEd x_KT x_tb x_tyl x_ov0 u_ct u_hs x_knd lwFR lwGA lwGB 5 24 42 doesWA4 doesWB4 8000 1 60 96 1 60 233 does_m3 [.inr (.inr (0, [(lSy 5)])), .inr (.inl (2008, lK 0))] (doeso4.map (wNo [0, 20])) = true := wEdQ_ok lwTchOk doesE4q
set_option maxRecDepth 1000000 in
theorem doesE4R0 : wRkE x_KT x_tb x_tyl x_ov0 u_ct u_hs x_knd lwFR lwGA lwGB doesVA4_0 doesVB4_0 8000 1 60 96 1 60 233 (doeso4.map (wNo [0, 20])) does_m3 lwF0 [.inr (.inr (0, [(lSy 5)])), .inr (.inl (2008, lK 0)), .inl (lAdd (lSy 10) (lSc (-1) (lSy 5))), .inl (lAdd (lSc (-1) (lSy 10)) (lSy 5)), .inr (.inl (1001, (lAdd (lSc (-1) (lSy 10)) (lAdd (lSy 3) (lK (-1)))))), .inl (lAdd (lSc (-1) (lSy 10)) (lAdd (lSy 3) (lK (-1)))), .inr (.inl (0, (lSy 5))), .inr (.inr (16, [(lSy 10), (lSy 5)])), .inr (.inr (16, [(lSy 5), (lSy 10)])), .inr (.inr (12, [(lSy 10), (lSy 5)])), .inr (.inr (12, [(lSy 5), (lSy 10)])), .inr (.inr (0, []))] = true := by decide +kernel
set_option maxRecDepth 1000000 in
theorem doesE4R20 : wRkE x_KT x_tb x_tyl x_ov0 u_ct u_hs x_knd lwFR lwGA lwGB doesVA4_20 doesVB4_20 8000 1 60 96 1 60 233 (doeso4.map (wNo [0, 20])) does_m3 lwF20 [.inr (.inr (0, [(lSy 5)])), .inl (lAdd (lSy 10) (lSc (-1) (lSy 3))), .inr (.inl (1001, (lAdd (lSy 10) (lAdd (lSc (-1) (lSy 5)) (lK (-1)))))), .inr (.inr (20, []))] = true := by decide +kernel
set_option maxRecDepth 1000000 in
theorem doesE5q : wEdQ lwTch 39 x_KT x_tb x_tyl x_ov0 u_ct u_hs x_knd lwFR lwGA lwGB 5 24 42 doesWA5 doesWB5 8000 1 60 96 1 60 233 does_bk [] doeso5 = true := by decide +kernel
theorem doesE5 : wEd x_KT x_tb x_tyl x_ov0 u_ct u_hs x_knd lwFR lwGA lwGB 5 24 42 doesWA5 doesWB5 8000 1 60 96 1 60 233 does_bk [] doeso5 = true := wEdQ_ok lwTchOk doesE5q
set_option maxRecDepth 1000000 in
theorem doesbc : wBc lwN lwFS.length 4 lwTA lwTB lwGA lwGB 5 24 42 u_ps uPA uPB does_in doesOX = true := by decide +kernel
end XRuC16
