/-! Runs: checks, 16. -/
noncomputable section XRuC16
set_option maxRecDepth 1000000 in
theorem shwE6R2_0 : wRkEF [(lAdd (lSy 12) (lK (-3)))] 0 x_KT x_tb x_tyl x_ov0 u_ct u_hs x_knd lwFR lwGA lwGB shwVA6_2 shwVB6_2 8000 1 60 136 1 60 248 (shwo6.map (wNo [0, 2, 3])) shw_in lwF2 [.inr (.inr (29, [(lSy 8)])), .inr (.inl (1004, (lSy 8))), .inr (.inr (30, [(lSy 7)])), .inr (.inl (2008, lK 0)), .inr (.inr (0, [(lSy 11)])), .inr (.inr (3, [])), .inr (.inr (14, [(lSy 11)])), .inl (lAdd (lSy 12) (lK (-1))), .inl (lAdd (lSy 12) (lK (-2))), .inl (lAdd (lSy 12) (lK (-3))), .inl (lAdd (lSy 12) (lK (-4))), .inl (lAdd (lSy 12) (lK (-5))), .inl (lAdd (lSc (-1) (lSy 9)) (lAdd (lSy 5) (lK (-1)))), .inr (.inr (14, [(lSy 9)])), .inr (.inr (2, [])), .inr (.inl (2008, lK 0))] = true := by decide +kernel
set_option maxRecDepth 1000000 in
theorem shwE6R2_1 : wRkEF [(lAdd (lSy 12) (lK (-3)))] 1 x_KT x_tb x_tyl x_ov0 u_ct u_hs x_knd lwFR lwGA lwGB shwVA6_2 shwVB6_2 8000 1 60 136 1 60 248 (shwo6.map (wNo [0, 2, 3])) shw_in lwF2 [.inr (.inr (29, [(lSy 8)])), .inr (.inl (1004, (lSy 8))), .inr (.inr (30, [(lSy 7)])), .inr (.inl (2008, lK 0)), .inr (.inr (0, [(lSy 11)])), .inr (.inr (3, [])), .inr (.inr (14, [(lSy 11)])), .inl (lAdd (lSy 12) (lK (-1))), .inl (lAdd (lSy 12) (lK (-2))), .inl (lAdd (lSy 12) (lK (-3))), .inl (lAdd (lSy 12) (lK (-4))), .inl (lAdd (lSy 12) (lK (-5))), .inl (lAdd (lSc (-1) (lSy 9)) (lAdd (lSy 5) (lK (-1)))), .inr (.inr (14, [(lSy 9)])), .inr (.inr (2, [])), .inr (.inl (2008, lK 0))] = true := by decide +kernel
set_option maxRecDepth 1000000 in
theorem shwE6R2 : wRkE x_KT x_tb x_tyl x_ov0 u_ct u_hs x_knd lwFR lwGA lwGB shwVA6_2 shwVB6_2 8000 1 60 136 1 60 248 (shwo6.map (wNo [0, 2, 3])) shw_in lwF2 [.inr (.inr (29, [(lSy 8)])), .inr (.inl (1004, (lSy 8))), .inr (.inr (30, [(lSy 7)])), .inr (.inl (2008, lK 0)), .inr (.inr (0, [(lSy 11)])), .inr (.inr (3, [])), .inr (.inr (14, [(lSy 11)])), .inl (lAdd (lSy 12) (lK (-1))), .inl (lAdd (lSy 12) (lK (-2))), .inl (lAdd (lSy 12) (lK (-3))), .inl (lAdd (lSy 12) (lK (-4))), .inl (lAdd (lSy 12) (lK (-5))), .inl (lAdd (lSc (-1) (lSy 9)) (lAdd (lSy 5) (lK (-1)))), .inr (.inr (14, [(lSy 9)])), .inr (.inr (2, [])), .inr (.inl (2008, lK 0))] = true := wRkE_F [(lAdd (lSy 12) (lK (-3)))] (fun i hi => match i, hi with
  | 0, _ => shwE6R2_0
  | 1, _ => shwE6R2_1
  | n + 2, h => absurd h (by
    show ¬ (n + 2 < 2)
    omega))
set_option maxRecDepth 1000000 in
theorem shwE6R3 : wRkE x_KT x_tb x_tyl x_ov0 u_ct u_hs x_knd lwFR lwGA lwGB shwVA6_3 shwVB6_3 8000 1 60 136 1 60 248 (shwo6.map (wNo [0, 2, 3])) shw_in lwF3 [.inr (.inr (29, [(lSy 8)])), .inr (.inl (1004, (lSy 8))), .inr (.inr (30, [(lSy 7)])), .inr (.inl (2008, lK 0)), .inr (.inr (0, [(lSy 9)])), .inr (.inr (3, [])), .inr (.inr (14, [(lSy 9)])), .inl (lAdd (lSy 10) (lK (-1))), .inl (lAdd (lSy 10) (lK (-2))), .inl (lAdd (lSy 10) (lK (-3))), .inl (lAdd (lSy 10) (lK (-4))), .inl (lAdd (lSy 10) (lK (-5))), .inr (.inr (4, [])), .inr (.inr (3, []))] = true := by decide +kernel
set_option maxRecDepth 1000000 in
theorem shwE7q : wEdQ lwTch 52 x_KT x_tb x_tyl x_ov0 u_ct u_hs x_knd lwFR lwGA lwGB 7 28 44 shwWA7 shwWB7 8000 1 60 136 1 60 248 shw_c0_x0 [.inr (.inl (1001, (lAdd (lSy 23) (lK (-1))))), .inr (.inl (1001, (lAdd (lSc (-1) (lSy 23)) (lK 1))))] shwo7 = true := by decide +kernel
theorem shwE7 : wEd x_KT x_tb x_tyl x_ov0 u_ct u_hs x_knd lwFR lwGA lwGB 7 28 44 shwWA7 shwWB7 8000 1 60 136 1 60 248 shw_c0_x0 [.inr (.inl (1001, (lAdd (lSy 23) (lK (-1))))), .inr (.inl (1001, (lAdd (lSc (-1) (lSy 23)) (lK 1))))] shwo7 = true := wEdQ_ok lwTchOk shwE7q
set_option maxRecDepth 1000000 in
theorem shwE8q : wEdQ lwTch 52 x_KT x_tb x_tyl x_ov0 u_ct u_hs x_knd lwFR lwGA lwGB 7 28 44 shwWA8 shwWB8 8000 1 60 136 1 60 248 shw_c0_x1 [.inr (.inl (1001, (lAdd (lSy 23) (lK (-1))))), .inr (.inl (1001, (lAdd (lSc (-1) (lSy 23)) (lK 1))))] shwo8 = true := by decide +kernel
theorem shwE8 : wEd x_KT x_tb x_tyl x_ov0 u_ct u_hs x_knd lwFR lwGA lwGB 7 28 44 shwWA8 shwWB8 8000 1 60 136 1 60 248 shw_c0_x1 [.inr (.inl (1001, (lAdd (lSy 23) (lK (-1))))), .inr (.inl (1001, (lAdd (lSc (-1) (lSy 23)) (lK 1))))] shwo8 = true := wEdQ_ok lwTchOk shwE8q
set_option maxRecDepth 1000000 in
theorem shwE9q : wEdQ lwTch 52 x_KT x_tb x_tyl x_ov0 u_ct u_hs x_knd lwFR lwGA lwGB 7 28 44 shwWA9 shwWB9 8000 1 60 136 1 60 248 shw_c0_x2 [.inr (.inl (1001, (lAdd (lSy 23) (lK (-1))))), .inr (.inl (1001, (lAdd (lSc (-1) (lSy 23)) (lK 1))))] shwo9 = true := by decide +kernel
theorem shwE9 : wEd x_KT x_tb x_tyl x_ov0 u_ct u_hs x_knd lwFR lwGA lwGB 7 28 44 shwWA9 shwWB9 8000 1 60 136 1 60 248 shw_c0_x2 [.inr (.inl (1001, (lAdd (lSy 23) (lK (-1))))), .inr (.inl (1001, (lAdd (lSc (-1) (lSy 23)) (lK 1))))] shwo9 = true := wEdQ_ok lwTchOk shwE9q
set_option maxRecDepth 1000000 in
theorem shwE10q : wEdQ lwTch 52 x_KT x_tb x_tyl x_ov0 u_ct u_hs x_knd lwFR lwGA lwGB 7 28 44 shwWA10 shwWB10 8000 1 60 136 1 60 248 shw_c0_x3 [.inr (.inl (1001, (lAdd (lSy 23) (lK (-1))))), .inr (.inl (1001, (lAdd (lSc (-1) (lSy 23)) (lK 1))))] shwo10 = true := by decide +kernel
theorem shwE10 : wEd x_KT x_tb x_tyl x_ov0 u_ct u_hs x_knd lwFR lwGA lwGB 7 28 44 shwWA10 shwWB10 8000 1 60 136 1 60 248 shw_c0_x3 [.inr (.inl (1001, (lAdd (lSy 23) (lK (-1))))), .inr (.inl (1001, (lAdd (lSc (-1) (lSy 23)) (lK 1))))] shwo10 = true := wEdQ_ok lwTchOk shwE10q
set_option maxRecDepth 1000000 in
theorem shwE11q : wEdQ lwTch 52 x_KT x_tb x_tyl x_ov0 u_ct u_hs x_knd lwFR lwGA lwGB 7 28 44 shwWA11 shwWB11 8000 1 60 136 1 60 248 shw_c1_x0 [.inr (.inl (1001, (lAdd (lSy 23) (lK (-1))))), .inr (.inl (1001, (lAdd (lSc (-1) (lSy 23)) (lK 1))))] shwo11 = true := by decide +kernel
theorem shwE11 : wEd x_KT x_tb x_tyl x_ov0 u_ct u_hs x_knd lwFR lwGA lwGB 7 28 44 shwWA11 shwWB11 8000 1 60 136 1 60 248 shw_c1_x0 [.inr (.inl (1001, (lAdd (lSy 23) (lK (-1))))), .inr (.inl (1001, (lAdd (lSc (-1) (lSy 23)) (lK 1))))] shwo11 = true := wEdQ_ok lwTchOk shwE11q
set_option maxRecDepth 1000000 in
theorem shwE12q : wEdQ lwTch 52 x_KT x_tb x_tyl x_ov0 u_ct u_hs x_knd lwFR lwGA lwGB 7 28 44 shwWA12 shwWB12 8000 1 60 136 1 60 248 shw_c1_x1 [.inr (.inl (1001, (lAdd (lSy 23) (lK (-1))))), .inr (.inl (1001, (lAdd (lSc (-1) (lSy 23)) (lK 1))))] shwo12 = true := by decide +kernel
theorem shwE12 : wEd x_KT x_tb x_tyl x_ov0 u_ct u_hs x_knd lwFR lwGA lwGB 7 28 44 shwWA12 shwWB12 8000 1 60 136 1 60 248 shw_c1_x1 [.inr (.inl (1001, (lAdd (lSy 23) (lK (-1))))), .inr (.inl (1001, (lAdd (lSc (-1) (lSy 23)) (lK 1))))] shwo12 = true := wEdQ_ok lwTchOk shwE12q
set_option maxRecDepth 1000000 in
theorem shwE13q : wEdQ lwTch 52 x_KT x_tb x_tyl x_ov0 u_ct u_hs x_knd lwFR lwGA lwGB 7 28 44 shwWA13 shwWB13 8000 1 60 136 1 60 248 shw_c1_x2 [.inr (.inl (1001, (lAdd (lSy 23) (lK (-1))))), .inr (.inl (1001, (lAdd (lSc (-1) (lSy 23)) (lK 1))))] shwo13 = true := by decide +kernel
theorem shwE13 : wEd x_KT x_tb x_tyl x_ov0 u_ct u_hs x_knd lwFR lwGA lwGB 7 28 44 shwWA13 shwWB13 8000 1 60 136 1 60 248 shw_c1_x2 [.inr (.inl (1001, (lAdd (lSy 23) (lK (-1))))), .inr (.inl (1001, (lAdd (lSc (-1) (lSy 23)) (lK 1))))] shwo13 = true := wEdQ_ok lwTchOk shwE13q
set_option maxRecDepth 1000000 in
theorem shwE14q : wEdQ lwTch 52 x_KT x_tb x_tyl x_ov0 u_ct u_hs x_knd lwFR lwGA lwGB 7 28 44 shwWA14 shwWB14 8000 1 60 136 1 60 248 shw_c1_x3 [.inr (.inl (1001, (lAdd (lSy 23) (lK (-1))))), .inr (.inl (1001, (lAdd (lSc (-1) (lSy 23)) (lK 1))))] shwo14 = true := by decide +kernel
theorem shwE14 : wEd x_KT x_tb x_tyl x_ov0 u_ct u_hs x_knd lwFR lwGA lwGB 7 28 44 shwWA14 shwWB14 8000 1 60 136 1 60 248 shw_c1_x3 [.inr (.inl (1001, (lAdd (lSy 23) (lK (-1))))), .inr (.inl (1001, (lAdd (lSc (-1) (lSy 23)) (lK 1))))] shwo14 = true := wEdQ_ok lwTchOk shwE14q
set_option maxRecDepth 1000000 in
theorem shwE15q : wEdQ lwTch 52 x_KT x_tb x_tyl x_ov0 u_ct u_hs x_knd lwFR lwGA lwGB 7 28 44 shwWA15 shwWB15 8000 1 60 136 1 60 248 shw_c2_x0 [.inr (.inl (1001, (lAdd (lSy 23) (lK (-1))))), .inr (.inl (1001, (lAdd (lSc (-1) (lSy 23)) (lK 1))))] shwo15 = true := by decide +kernel
theorem shwE15 : wEd x_KT x_tb x_tyl x_ov0 u_ct u_hs x_knd lwFR lwGA lwGB 7 28 44 shwWA15 shwWB15 8000 1 60 136 1 60 248 shw_c2_x0 [.inr (.inl (1001, (lAdd (lSy 23) (lK (-1))))), .inr (.inl (1001, (lAdd (lSc (-1) (lSy 23)) (lK 1))))] shwo15 = true := wEdQ_ok lwTchOk shwE15q
set_option maxRecDepth 1000000 in
theorem shwE16q : wEdQ lwTch 52 x_KT x_tb x_tyl x_ov0 u_ct u_hs x_knd lwFR lwGA lwGB 7 28 44 shwWA16 shwWB16 8000 1 60 136 1 60 248 shw_c2_x1 [.inr (.inl (1001, (lAdd (lSy 23) (lK (-1))))), .inr (.inl (1001, (lAdd (lSc (-1) (lSy 23)) (lK 1))))] shwo16 = true := by decide +kernel
theorem shwE16 : wEd x_KT x_tb x_tyl x_ov0 u_ct u_hs x_knd lwFR lwGA lwGB 7 28 44 shwWA16 shwWB16 8000 1 60 136 1 60 248 shw_c2_x1 [.inr (.inl (1001, (lAdd (lSy 23) (lK (-1))))), .inr (.inl (1001, (lAdd (lSc (-1) (lSy 23)) (lK 1))))] shwo16 = true := wEdQ_ok lwTchOk shwE16q
set_option maxRecDepth 1000000 in
theorem shwE17q : wEdQ lwTch 52 x_KT x_tb x_tyl x_ov0 u_ct u_hs x_knd lwFR lwGA lwGB 7 28 44 shwWA17 shwWB17 8000 1 60 136 1 60 248 shw_c2_x2 [.inr (.inl (1001, (lAdd (lSy 23) (lK (-1))))), .inr (.inl (1001, (lAdd (lSc (-1) (lSy 23)) (lK 1))))] shwo17 = true := by decide +kernel
theorem shwE17 : wEd x_KT x_tb x_tyl x_ov0 u_ct u_hs x_knd lwFR lwGA lwGB 7 28 44 shwWA17 shwWB17 8000 1 60 136 1 60 248 shw_c2_x2 [.inr (.inl (1001, (lAdd (lSy 23) (lK (-1))))), .inr (.inl (1001, (lAdd (lSc (-1) (lSy 23)) (lK 1))))] shwo17 = true := wEdQ_ok lwTchOk shwE17q
set_option maxRecDepth 1000000 in
theorem shwE18q : wEdQ lwTch 52 x_KT x_tb x_tyl x_ov0 u_ct u_hs x_knd lwFR lwGA lwGB 7 28 44 shwWA18 shwWB18 8000 1 60 136 1 60 248 shw_c2_x3 [.inr (.inl (1001, (lAdd (lSy 23) (lK (-1))))), .inr (.inl (1001, (lAdd (lSc (-1) (lSy 23)) (lK 1))))] shwo18 = true := by decide +kernel
theorem shwE18 : wEd x_KT x_tb x_tyl x_ov0 u_ct u_hs x_knd lwFR lwGA lwGB 7 28 44 shwWA18 shwWB18 8000 1 60 136 1 60 248 shw_c2_x3 [.inr (.inl (1001, (lAdd (lSy 23) (lK (-1))))), .inr (.inl (1001, (lAdd (lSc (-1) (lSy 23)) (lK 1))))] shwo18 = true := wEdQ_ok lwTchOk shwE18q
set_option maxRecDepth 1000000 in
theorem shwE19q : wEdQ lwTch 52 x_KT x_tb x_tyl x_ov0 u_ct u_hs x_knd lwFR lwGA lwGB 7 28 44 shwWA19 shwWB19 8000 1 60 136 1 60 248 shw_c3_x0 [.inr (.inl (1001, (lAdd (lSy 23) (lK (-1))))), .inr (.inl (1001, (lAdd (lSc (-1) (lSy 23)) (lK 1))))] shwo19 = true := by decide +kernel
theorem shwE19 : wEd x_KT x_tb x_tyl x_ov0 u_ct u_hs x_knd lwFR lwGA lwGB 7 28 44 shwWA19 shwWB19 8000 1 60 136 1 60 248 shw_c3_x0 [.inr (.inl (1001, (lAdd (lSy 23) (lK (-1))))), .inr (.inl (1001, (lAdd (lSc (-1) (lSy 23)) (lK 1))))] shwo19 = true := wEdQ_ok lwTchOk shwE19q
set_option maxRecDepth 1000000 in
theorem shwE20q : wEdQ lwTch 52 x_KT x_tb x_tyl x_ov0 u_ct u_hs x_knd lwFR lwGA lwGB 7 28 44 shwWA20 shwWB20 8000 1 60 136 1 60 248 shw_c3_x1 [.inr (.inl (1001, (lAdd (lSy 23) (lK (-1))))), .inr (.inl (1001, (lAdd (lSc (-1) (lSy 23)) (lK 1))))] shwo20 = true := by decide +kernel
theorem shwE20 : wEd x_KT x_tb x_tyl x_ov0 u_ct u_hs x_knd lwFR lwGA lwGB 7 28 44 shwWA20 shwWB20 8000 1 60 136 1 60 248 shw_c3_x1 [.inr (.inl (1001, (lAdd (lSy 23) (lK (-1))))), .inr (.inl (1001, (lAdd (lSc (-1) (lSy 23)) (lK 1))))] shwo20 = true := wEdQ_ok lwTchOk shwE20q
set_option maxRecDepth 1000000 in
theorem shwE21q : wEdQ lwTch 52 x_KT x_tb x_tyl x_ov0 u_ct u_hs x_knd lwFR lwGA lwGB 7 28 44 shwWA21 shwWB21 8000 1 60 136 1 60 248 shw_c3_x2 [.inr (.inl (1001, (lAdd (lSy 23) (lK (-1))))), .inr (.inl (1001, (lAdd (lSc (-1) (lSy 23)) (lK 1))))] shwo21 = true := by decide +kernel
theorem shwE21 : wEd x_KT x_tb x_tyl x_ov0 u_ct u_hs x_knd lwFR lwGA lwGB 7 28 44 shwWA21 shwWB21 8000 1 60 136 1 60 248 shw_c3_x2 [.inr (.inl (1001, (lAdd (lSy 23) (lK (-1))))), .inr (.inl (1001, (lAdd (lSc (-1) (lSy 23)) (lK 1))))] shwo21 = true := wEdQ_ok lwTchOk shwE21q
set_option maxRecDepth 1000000 in
theorem shwE22q : wEdQ lwTch 52 x_KT x_tb x_tyl x_ov0 u_ct u_hs x_knd lwFR lwGA lwGB 7 28 44 shwWA22 shwWB22 8000 1 60 136 1 60 248 shw_c3_x3 [.inr (.inl (1001, (lAdd (lSy 23) (lK (-1))))), .inr (.inl (1001, (lAdd (lSc (-1) (lSy 23)) (lK 1))))] shwo22 = true := by decide +kernel
theorem shwE22 : wEd x_KT x_tb x_tyl x_ov0 u_ct u_hs x_knd lwFR lwGA lwGB 7 28 44 shwWA22 shwWB22 8000 1 60 136 1 60 248 shw_c3_x3 [.inr (.inl (1001, (lAdd (lSy 23) (lK (-1))))), .inr (.inl (1001, (lAdd (lSc (-1) (lSy 23)) (lK 1))))] shwo22 = true := wEdQ_ok lwTchOk shwE22q
set_option maxRecDepth 1000000 in
theorem shwE23q : wEdQ lwTch 52 x_KT x_tb x_tyl x_ov0 u_ct u_hs x_knd lwFR lwGA lwGB 7 28 44 shwWA23 shwWB23 8000 1 60 136 1 60 248 shw_c4_x0 [.inr (.inl (1001, (lAdd (lSy 23) (lK (-1))))), .inr (.inl (1001, (lAdd (lSc (-1) (lSy 23)) (lK 1))))] shwo23 = true := by decide +kernel
theorem shwE23 : wEd x_KT x_tb x_tyl x_ov0 u_ct u_hs x_knd lwFR lwGA lwGB 7 28 44 shwWA23 shwWB23 8000 1 60 136 1 60 248 shw_c4_x0 [.inr (.inl (1001, (lAdd (lSy 23) (lK (-1))))), .inr (.inl (1001, (lAdd (lSc (-1) (lSy 23)) (lK 1))))] shwo23 = true := wEdQ_ok lwTchOk shwE23q
set_option maxRecDepth 1000000 in
theorem shwE24q : wEdQ lwTch 52 x_KT x_tb x_tyl x_ov0 u_ct u_hs x_knd lwFR lwGA lwGB 7 28 44 shwWA24 shwWB24 8000 1 60 136 1 60 248 shw_c4_x1 [.inr (.inl (1001, (lAdd (lSy 23) (lK (-1))))), .inr (.inl (1001, (lAdd (lSc (-1) (lSy 23)) (lK 1))))] shwo24 = true := by decide +kernel
theorem shwE24 : wEd x_KT x_tb x_tyl x_ov0 u_ct u_hs x_knd lwFR lwGA lwGB 7 28 44 shwWA24 shwWB24 8000 1 60 136 1 60 248 shw_c4_x1 [.inr (.inl (1001, (lAdd (lSy 23) (lK (-1))))), .inr (.inl (1001, (lAdd (lSc (-1) (lSy 23)) (lK 1))))] shwo24 = true := wEdQ_ok lwTchOk shwE24q
set_option maxRecDepth 1000000 in
theorem shwE25q : wEdQ lwTch 52 x_KT x_tb x_tyl x_ov0 u_ct u_hs x_knd lwFR lwGA lwGB 7 28 44 shwWA25 shwWB25 8000 1 60 136 1 60 248 shw_c4_x2 [.inr (.inl (1001, (lAdd (lSy 23) (lK (-1))))), .inr (.inl (1001, (lAdd (lSc (-1) (lSy 23)) (lK 1))))] shwo25 = true := by decide +kernel
theorem shwE25 : wEd x_KT x_tb x_tyl x_ov0 u_ct u_hs x_knd lwFR lwGA lwGB 7 28 44 shwWA25 shwWB25 8000 1 60 136 1 60 248 shw_c4_x2 [.inr (.inl (1001, (lAdd (lSy 23) (lK (-1))))), .inr (.inl (1001, (lAdd (lSc (-1) (lSy 23)) (lK 1))))] shwo25 = true := wEdQ_ok lwTchOk shwE25q
set_option maxRecDepth 1000000 in
theorem shwE26q : wEdQ lwTch 52 x_KT x_tb x_tyl x_ov0 u_ct u_hs x_knd lwFR lwGA lwGB 7 28 44 shwWA26 shwWB26 8000 1 60 136 1 60 248 shw_c4_x3 [.inr (.inl (1001, (lAdd (lSy 23) (lK (-1))))), .inr (.inl (1001, (lAdd (lSc (-1) (lSy 23)) (lK 1))))] shwo26 = true := by decide +kernel
theorem shwE26 : wEd x_KT x_tb x_tyl x_ov0 u_ct u_hs x_knd lwFR lwGA lwGB 7 28 44 shwWA26 shwWB26 8000 1 60 136 1 60 248 shw_c4_x3 [.inr (.inl (1001, (lAdd (lSy 23) (lK (-1))))), .inr (.inl (1001, (lAdd (lSc (-1) (lSy 23)) (lK 1))))] shwo26 = true := wEdQ_ok lwTchOk shwE26q
set_option maxRecDepth 1000000 in
theorem shwE27q : wEdQ lwTch 52 x_KT x_tb x_tyl x_ov0 u_ct u_hs x_knd lwFR lwGA lwGB 7 28 44 shwWA27 shwWB27 8000 1 60 136 1 60 248 shw_c5_x0 [.inr (.inl (1001, (lAdd (lSy 23) (lK (-1))))), .inr (.inl (1001, (lAdd (lSc (-1) (lSy 23)) (lK 1))))] shwo27 = true := by decide +kernel
theorem shwE27 : wEd x_KT x_tb x_tyl x_ov0 u_ct u_hs x_knd lwFR lwGA lwGB 7 28 44 shwWA27 shwWB27 8000 1 60 136 1 60 248 shw_c5_x0 [.inr (.inl (1001, (lAdd (lSy 23) (lK (-1))))), .inr (.inl (1001, (lAdd (lSc (-1) (lSy 23)) (lK 1))))] shwo27 = true := wEdQ_ok lwTchOk shwE27q
set_option maxRecDepth 1000000 in
theorem shwE28q : wEdQ lwTch 52 x_KT x_tb x_tyl x_ov0 u_ct u_hs x_knd lwFR lwGA lwGB 7 28 44 shwWA28 shwWB28 8000 1 60 136 1 60 248 shw_c5_x1 [.inr (.inl (1001, (lAdd (lSy 23) (lK (-1))))), .inr (.inl (1001, (lAdd (lSc (-1) (lSy 23)) (lK 1))))] shwo28 = true := by decide +kernel
theorem shwE28 : wEd x_KT x_tb x_tyl x_ov0 u_ct u_hs x_knd lwFR lwGA lwGB 7 28 44 shwWA28 shwWB28 8000 1 60 136 1 60 248 shw_c5_x1 [.inr (.inl (1001, (lAdd (lSy 23) (lK (-1))))), .inr (.inl (1001, (lAdd (lSc (-1) (lSy 23)) (lK 1))))] shwo28 = true := wEdQ_ok lwTchOk shwE28q
set_option maxRecDepth 1000000 in
theorem shwE29q : wEdQ lwTch 52 x_KT x_tb x_tyl x_ov0 u_ct u_hs x_knd lwFR lwGA lwGB 7 28 44 shwWA29 shwWB29 8000 1 60 136 1 60 248 shw_c5_x2 [.inr (.inl (1001, (lAdd (lSy 23) (lK (-1))))), .inr (.inl (1001, (lAdd (lSc (-1) (lSy 23)) (lK 1))))] shwo29 = true := by decide +kernel
theorem shwE29 : wEd x_KT x_tb x_tyl x_ov0 u_ct u_hs x_knd lwFR lwGA lwGB 7 28 44 shwWA29 shwWB29 8000 1 60 136 1 60 248 shw_c5_x2 [.inr (.inl (1001, (lAdd (lSy 23) (lK (-1))))), .inr (.inl (1001, (lAdd (lSc (-1) (lSy 23)) (lK 1))))] shwo29 = true := wEdQ_ok lwTchOk shwE29q
set_option maxRecDepth 1000000 in
theorem shwE30q : wEdQ lwTch 52 x_KT x_tb x_tyl x_ov0 u_ct u_hs x_knd lwFR lwGA lwGB 7 28 44 shwWA30 shwWB30 8000 1 60 136 1 60 248 shw_c5_x3 [.inr (.inl (1001, (lAdd (lSy 23) (lK (-1))))), .inr (.inl (1001, (lAdd (lSc (-1) (lSy 23)) (lK 1))))] shwo30 = true := by decide +kernel
theorem shwE30 : wEd x_KT x_tb x_tyl x_ov0 u_ct u_hs x_knd lwFR lwGA lwGB 7 28 44 shwWA30 shwWB30 8000 1 60 136 1 60 248 shw_c5_x3 [.inr (.inl (1001, (lAdd (lSy 23) (lK (-1))))), .inr (.inl (1001, (lAdd (lSc (-1) (lSy 23)) (lK 1))))] shwo30 = true := wEdQ_ok lwTchOk shwE30q
set_option maxRecDepth 1000000 in
theorem showsbc : wBc lwN lwFS.length 2 lwTA lwTB lwGA lwGB 7 28 44 u_ps uPA uPB shows_in showsOX = true := by decide +kernel
set_option maxRecDepth 1000000 in
theorem coverbc : wBc lwN lwFS.length 1 lwTA lwTB lwGA lwGB 7 28 44 u_ps uPA uPB cover_in coverOX = true := by decide +kernel
end XRuC16
