/-! Runs: checks, 24. -/
noncomputable section XRuC24
set_option maxRecDepth 1000000 in
theorem mrE0R38_1 : wRkEF [(lAdd (lSc (-1) (lSy 19)) (lSy 14))] 1 x_KT x_tb x_tyl x_ov0 u_ct u_hs x_knd lwFR lwGA lwGB mrVA0_38 mrVB0_38 8000 1 60 64 0 60 203 (mro0.map (wNo [41, 42, 43, 35, 36, 38])) mr_in lwF38 [.inr (.inr (0, [(lSy 14)])), .inr (.inr (3, [])), .inr (.inr (4, [])), .inr (.inr (11, [(lSy 14)])), .inl (lSy 20), .inr (.inr (8, [(lSy 14)])), .inr (.inr (12, [(lSy 20), (lSy 14)])), .inr (.inr (12, [(lSy 14), (lSy 20)])), .inr (.inr (9, [(lSy 20)])), .inr (.inr (10, [(lSy 20)])), .inr (.inl (2008, lK 0)), .inl (lAdd (lSy 19) (lSc (-1) (lSy 14))), .inl (lAdd (lSc (-1) (lSy 19)) (lSy 14)), .inr (.inl (1001, (lAdd (lSc (-1) (lSy 19)) (lAdd (lSy 11) (lK (-1)))))), .inl (lAdd (lSc (-1) (lSy 19)) (lAdd (lSy 11) (lK (-1)))), .inr (.inl (0, (lSy 14))), .inr (.inr (12, [(lSy 19), (lSy 14)])), .inr (.inr (12, [(lSy 14), (lSy 19)])), .inr (.inr (29, [])), .inr (.inl (2008, lK 0))] = true := by decide +kernel
set_option maxRecDepth 1000000 in
theorem mrE0R38 : wRkE x_KT x_tb x_tyl x_ov0 u_ct u_hs x_knd lwFR lwGA lwGB mrVA0_38 mrVB0_38 8000 1 60 64 0 60 203 (mro0.map (wNo [41, 42, 43, 35, 36, 38])) mr_in lwF38 [.inr (.inr (0, [(lSy 14)])), .inr (.inr (3, [])), .inr (.inr (4, [])), .inr (.inr (11, [(lSy 14)])), .inl (lSy 20), .inr (.inr (8, [(lSy 14)])), .inr (.inr (12, [(lSy 20), (lSy 14)])), .inr (.inr (12, [(lSy 14), (lSy 20)])), .inr (.inr (9, [(lSy 20)])), .inr (.inr (10, [(lSy 20)])), .inr (.inl (2008, lK 0)), .inl (lAdd (lSy 19) (lSc (-1) (lSy 14))), .inl (lAdd (lSc (-1) (lSy 19)) (lSy 14)), .inr (.inl (1001, (lAdd (lSc (-1) (lSy 19)) (lAdd (lSy 11) (lK (-1)))))), .inl (lAdd (lSc (-1) (lSy 19)) (lAdd (lSy 11) (lK (-1)))), .inr (.inl (0, (lSy 14))), .inr (.inr (12, [(lSy 19), (lSy 14)])), .inr (.inr (12, [(lSy 14), (lSy 19)])), .inr (.inr (29, [])), .inr (.inl (2008, lK 0))] = true := wRkE_F [(lAdd (lSc (-1) (lSy 19)) (lSy 14))] (fun i hi => match i, hi with
  | 0, _ => mrE0R38_0
  | 1, _ => mrE0R38_1
  | n + 2, h => absurd h (by
    show ¬ (n + 2 < 2)
    omega))
theorem mrL2 : wRlk 40 47 47 st0WA st0WB mrX2.2.1 mrX2.2.2.1 mrX2.2.2.2.1 mrX2.2.2.2.2 st0_ou = true := by decide +kernel
theorem mrL3 : wRlk 40 47 47 st0WA st0WB mrX3.2.1 mrX3.2.2.1 mrX3.2.2.2.1 mrX3.2.2.2.2 st0_lo = true := by decide +kernel
theorem mrL4 : wRlk 40 47 47 st0WA st0WB mrX4.2.1 mrX4.2.2.1 mrX4.2.2.2.1 mrX4.2.2.2.2 st0_hi = true := by decide +kernel
set_option maxRecDepth 1000000 in
theorem mrE5q : wEdQ lwTch 44 x_KT x_tb x_tyl x_ov0 u_ct u_hs x_knd lwFR lwGA lwGB 19 31 46 mrWA5 mrWB5 8000 1 60 64 1 60 203 mr_T [.inr (.inr (1, [(lSy 14), (lSy 24)])), .inr (.inl (2008, lK 0))] mro5 = true := by decide +kernel
theorem mrE5 : wEd x_KT x_tb x_tyl x_ov0 u_ct u_hs x_knd lwFR lwGA lwGB 19 31 46 mrWA5 mrWB5 8000 1 60 64 1 60 203 mr_T [.inr (.inr (1, [(lSy 14), (lSy 24)])), .inr (.inl (2008, lK 0))] mro5 = true := wEdQ_ok lwTchOk mrE5q
theorem mrL6 : wRlk 42 47 47 st1WA st1WB mrX6.2.1 mrX6.2.2.1 mrX6.2.2.2.1 mrX6.2.2.2.2 st1_ou = true := by decide +kernel
theorem mrL7 : wRlk 42 47 47 st1WA st1WB mrX7.2.1 mrX7.2.2.1 mrX7.2.2.2.1 mrX7.2.2.2.2 st1_ou = true := by decide +kernel
theorem mrL8 : wRlk 42 47 47 st1WA st1WB mrX8.2.1 mrX8.2.2.1 mrX8.2.2.2.1 mrX8.2.2.2.2 st1_ou = true := by decide +kernel
theorem mrL9 : wRlk 42 47 47 st1WA st1WB mrX9.2.1 mrX9.2.2.1 mrX9.2.2.2.1 mrX9.2.2.2.2 st1_gen = true := by decide +kernel
theorem mrL10 : wRlk 42 47 47 st1WA st1WB mrX10.2.1 mrX10.2.2.1 mrX10.2.2.2.1 mrX10.2.2.2.2 st1_gen = true := by decide +kernel
theorem mrL11 : wRlk 42 47 47 st1WA st1WB mrX11.2.1 mrX11.2.2.1 mrX11.2.2.2.1 mrX11.2.2.2.2 st1_gen = true := by decide +kernel
set_option maxRecDepth 1000000 in
theorem mrE12q : wEdQ lwTch 44 x_KT x_tb x_tyl x_ov0 u_ct u_hs x_knd lwFR lwGA lwGB 19 31 46 mrWA12 mrWB12 8000 1 60 64 1 60 203 mr_c0Tou_WR [] mro12 = true := by decide +kernel
theorem mrE12 : wEd x_KT x_tb x_tyl x_ov0 u_ct u_hs x_knd lwFR lwGA lwGB 19 31 46 mrWA12 mrWB12 8000 1 60 64 1 60 203 mr_c0Tou_WR [] mro12 = true := wEdQ_ok lwTchOk mrE12q
set_option maxRecDepth 1000000 in
theorem mrE13q : wEdQ lwTch 44 x_KT x_tb x_tyl x_ov0 u_ct u_hs x_knd lwFR lwGA lwGB 19 31 46 mrWA13 mrWB13 8000 1 60 64 1 60 203 mr_c0Tou_WE [] mro13 = true := by decide +kernel
theorem mrE13 : wEd x_KT x_tb x_tyl x_ov0 u_ct u_hs x_knd lwFR lwGA lwGB 19 31 46 mrWA13 mrWB13 8000 1 60 64 1 60 203 mr_c0Tou_WE [] mro13 = true := wEdQ_ok lwTchOk mrE13q
set_option maxRecDepth 1000000 in
theorem mrE14q : wEdQ lwTch 44 x_KT x_tb x_tyl x_ov0 u_ct u_hs x_knd lwFR lwGA lwGB 19 31 46 mrWA14 mrWB14 8000 1 60 64 1 60 203 mr_c0Tou_WL [] mro14 = true := by decide +kernel
theorem mrE14 : wEd x_KT x_tb x_tyl x_ov0 u_ct u_hs x_knd lwFR lwGA lwGB 19 31 46 mrWA14 mrWB14 8000 1 60 64 1 60 203 mr_c0Tou_WL [] mro14 = true := wEdQ_ok lwTchOk mrE14q
set_option maxRecDepth 1000000 in
theorem mrE15q : wEdQ lwTch 44 x_KT x_tb x_tyl x_ov0 u_ct u_hs x_knd lwFR lwGA lwGB 19 31 46 mrWA15 mrWB15 8000 1 60 64 1 60 203 mr_c0Tou_FU [] mro15 = true := by decide +kernel
theorem mrE15 : wEd x_KT x_tb x_tyl x_ov0 u_ct u_hs x_knd lwFR lwGA lwGB 19 31 46 mrWA15 mrWB15 8000 1 60 64 1 60 203 mr_c0Tou_FU [] mro15 = true := wEdQ_ok lwTchOk mrE15q
set_option maxRecDepth 1000000 in
theorem mrE16q : wEdQ lwTch 44 x_KT x_tb x_tyl x_ov0 u_ct u_hs x_knd lwFR lwGA lwGB 19 31 46 mrWA16 mrWB16 8000 1 60 64 1 60 203 mr_c0Tlo_R [] mro16 = true := by decide +kernel
theorem mrE16 : wEd x_KT x_tb x_tyl x_ov0 u_ct u_hs x_knd lwFR lwGA lwGB 19 31 46 mrWA16 mrWB16 8000 1 60 64 1 60 203 mr_c0Tlo_R [] mro16 = true := wEdQ_ok lwTchOk mrE16q
set_option maxRecDepth 1000000 in
theorem mrE17q : wEdQ lwTch 44 x_KT x_tb x_tyl x_ov0 u_ct u_hs x_knd lwFR lwGA lwGB 19 31 46 mrWA17 mrWB17 8000 1 60 64 1 60 203 mr_c0Tlo_O [] mro17 = true := by decide +kernel
theorem mrE17 : wEd x_KT x_tb x_tyl x_ov0 u_ct u_hs x_knd lwFR lwGA lwGB 19 31 46 mrWA17 mrWB17 8000 1 60 64 1 60 203 mr_c0Tlo_O [] mro17 = true := wEdQ_ok lwTchOk mrE17q
set_option maxRecDepth 1000000 in
theorem mrE18q : wEdQ lwTch 44 x_KT x_tb x_tyl x_ov0 u_ct u_hs x_knd lwFR lwGA lwGB 19 31 46 mrWA18 mrWB18 8000 1 60 64 1 60 203 mr_c0Thi_R [] mro18 = true := by decide +kernel
theorem mrE18 : wEd x_KT x_tb x_tyl x_ov0 u_ct u_hs x_knd lwFR lwGA lwGB 19 31 46 mrWA18 mrWB18 8000 1 60 64 1 60 203 mr_c0Thi_R [] mro18 = true := wEdQ_ok lwTchOk mrE18q
set_option maxRecDepth 1000000 in
theorem mrE19q : wEdQ lwTch 44 x_KT x_tb x_tyl x_ov0 u_ct u_hs x_knd lwFR lwGA lwGB 19 31 46 mrWA19 mrWB19 8000 1 60 64 1 60 203 mr_c0Thi_O [] mro19 = true := by decide +kernel
theorem mrE19 : wEd x_KT x_tb x_tyl x_ov0 u_ct u_hs x_knd lwFR lwGA lwGB 19 31 46 mrWA19 mrWB19 8000 1 60 64 1 60 203 mr_c0Thi_O [] mro19 = true := wEdQ_ok lwTchOk mrE19q
set_option maxRecDepth 1000000 in
theorem mrE20q : wEdQ lwTch 44 x_KT x_tb x_tyl x_ov0 u_ct u_hs x_knd lwFR lwGA lwGB 19 31 46 mrWA20 mrWB20 8000 1 60 64 1 60 203 mr_c1Tir_WRi [.inr (.inl (1001, (lAdd (lSc (-1) (lSy 19)) (lK 148)))), .inr (.inl (2000, lK 0))] mro20 = true := by decide +kernel
theorem mrE20 : wEd x_KT x_tb x_tyl x_ov0 u_ct u_hs x_knd lwFR lwGA lwGB 19 31 46 mrWA20 mrWB20 8000 1 60 64 1 60 203 mr_c1Tir_WRi [.inr (.inl (1001, (lAdd (lSc (-1) (lSy 19)) (lK 148)))), .inr (.inl (2000, lK 0))] mro20 = true := wEdQ_ok lwTchOk mrE20q
set_option maxRecDepth 1000000 in
theorem mrE21q : wEdQ lwTch 44 x_KT x_tb x_tyl x_ov0 u_ct u_hs x_knd lwFR lwGA lwGB 19 31 46 mrWA21 mrWB21 8000 1 60 64 1 60 203 mr_c1Tir_WEi [.inr (.inl (1001, (lAdd (lSc (-1) (lSy 19)) (lK 148)))), .inr (.inl (2000, lK 0))] mro21 = true := by decide +kernel
theorem mrE21 : wEd x_KT x_tb x_tyl x_ov0 u_ct u_hs x_knd lwFR lwGA lwGB 19 31 46 mrWA21 mrWB21 8000 1 60 64 1 60 203 mr_c1Tir_WEi [.inr (.inl (1001, (lAdd (lSc (-1) (lSy 19)) (lK 148)))), .inr (.inl (2000, lK 0))] mro21 = true := wEdQ_ok lwTchOk mrE21q
set_option maxRecDepth 1000000 in
theorem mrE22q : wEdQ lwTch 44 x_KT x_tb x_tyl x_ov0 u_ct u_hs x_knd lwFR lwGA lwGB 19 31 46 mrWA22 mrWB22 8000 1 60 64 1 60 203 mr_c1Tir_WLi [.inr (.inl (1001, (lAdd (lSc (-1) (lSy 19)) (lK 148)))), .inr (.inl (2000, lK 0))] mro22 = true := by decide +kernel
theorem mrE22 : wEd x_KT x_tb x_tyl x_ov0 u_ct u_hs x_knd lwFR lwGA lwGB 19 31 46 mrWA22 mrWB22 8000 1 60 64 1 60 203 mr_c1Tir_WLi [.inr (.inl (1001, (lAdd (lSc (-1) (lSy 19)) (lK 148)))), .inr (.inl (2000, lK 0))] mro22 = true := wEdQ_ok lwTchOk mrE22q
set_option maxRecDepth 1000000 in
theorem mrE23q : wEdQ lwTch 44 x_KT x_tb x_tyl x_ov0 u_ct u_hs x_knd lwFR lwGA lwGB 19 31 46 mrWA23 mrWB23 8000 1 60 64 1 60 203 mr_c1Tir_FUi [.inr (.inl (1001, (lAdd (lSc (-1) (lSy 19)) (lK 148)))), .inr (.inl (2000, lK 0))] mro23 = true := by decide +kernel
theorem mrE23 : wEd x_KT x_tb x_tyl x_ov0 u_ct u_hs x_knd lwFR lwGA lwGB 19 31 46 mrWA23 mrWB23 8000 1 60 64 1 60 203 mr_c1Tir_FUi [.inr (.inl (1001, (lAdd (lSc (-1) (lSy 19)) (lK 148)))), .inr (.inl (2000, lK 0))] mro23 = true := wEdQ_ok lwTchOk mrE23q
set_option maxRecDepth 1000000 in
theorem mrE24q : wEdQ lwTch 44 x_KT x_tb x_tyl x_ov0 u_ct u_hs x_knd lwFR lwGA lwGB 19 31 46 mrWA24 mrWB24 8000 1 60 64 1 60 203 mr_c1Tie_WRi [.inr (.inl (1001, (lAdd (lSc (-1) (lSy 19)) (lK 148)))), .inr (.inl (2000, lK 0))] mro24 = true := by decide +kernel
theorem mrE24 : wEd x_KT x_tb x_tyl x_ov0 u_ct u_hs x_knd lwFR lwGA lwGB 19 31 46 mrWA24 mrWB24 8000 1 60 64 1 60 203 mr_c1Tie_WRi [.inr (.inl (1001, (lAdd (lSc (-1) (lSy 19)) (lK 148)))), .inr (.inl (2000, lK 0))] mro24 = true := wEdQ_ok lwTchOk mrE24q
set_option maxRecDepth 1000000 in
theorem mrE25q : wEdQ lwTch 44 x_KT x_tb x_tyl x_ov0 u_ct u_hs x_knd lwFR lwGA lwGB 19 31 46 mrWA25 mrWB25 8000 1 60 64 1 60 203 mr_c1Tie_WEi [.inr (.inl (1001, (lAdd (lSc (-1) (lSy 19)) (lK 148)))), .inr (.inl (2000, lK 0))] mro25 = true := by decide +kernel
theorem mrE25 : wEd x_KT x_tb x_tyl x_ov0 u_ct u_hs x_knd lwFR lwGA lwGB 19 31 46 mrWA25 mrWB25 8000 1 60 64 1 60 203 mr_c1Tie_WEi [.inr (.inl (1001, (lAdd (lSc (-1) (lSy 19)) (lK 148)))), .inr (.inl (2000, lK 0))] mro25 = true := wEdQ_ok lwTchOk mrE25q
set_option maxRecDepth 1000000 in
theorem mrE26q : wEdQ lwTch 44 x_KT x_tb x_tyl x_ov0 u_ct u_hs x_knd lwFR lwGA lwGB 19 31 46 mrWA26 mrWB26 8000 1 60 64 1 60 203 mr_c1Tie_WLi [.inr (.inl (1001, (lAdd (lSc (-1) (lSy 19)) (lK 148)))), .inr (.inl (2000, lK 0))] mro26 = true := by decide +kernel
theorem mrE26 : wEd x_KT x_tb x_tyl x_ov0 u_ct u_hs x_knd lwFR lwGA lwGB 19 31 46 mrWA26 mrWB26 8000 1 60 64 1 60 203 mr_c1Tie_WLi [.inr (.inl (1001, (lAdd (lSc (-1) (lSy 19)) (lK 148)))), .inr (.inl (2000, lK 0))] mro26 = true := wEdQ_ok lwTchOk mrE26q
set_option maxRecDepth 1000000 in
theorem mrE27q : wEdQ lwTch 44 x_KT x_tb x_tyl x_ov0 u_ct u_hs x_knd lwFR lwGA lwGB 19 31 46 mrWA27 mrWB27 8000 1 60 64 1 60 203 mr_c1Tie_FUi [.inr (.inl (1001, (lAdd (lSc (-1) (lSy 19)) (lK 148)))), .inr (.inl (2000, lK 0))] mro27 = true := by decide +kernel
theorem mrE27 : wEd x_KT x_tb x_tyl x_ov0 u_ct u_hs x_knd lwFR lwGA lwGB 19 31 46 mrWA27 mrWB27 8000 1 60 64 1 60 203 mr_c1Tie_FUi [.inr (.inl (1001, (lAdd (lSc (-1) (lSy 19)) (lK 148)))), .inr (.inl (2000, lK 0))] mro27 = true := wEdQ_ok lwTchOk mrE27q
set_option maxRecDepth 1000000 in
theorem mrE28q : wEdQ lwTch 44 x_KT x_tb x_tyl x_ov0 u_ct u_hs x_knd lwFR lwGA lwGB 19 31 46 mrWA28 mrWB28 8000 1 60 64 1 60 203 mr_c1Til_WRi [.inr (.inl (1001, (lAdd (lSc (-1) (lSy 19)) (lK 148)))), .inr (.inl (2000, lK 0))] mro28 = true := by decide +kernel
theorem mrE28 : wEd x_KT x_tb x_tyl x_ov0 u_ct u_hs x_knd lwFR lwGA lwGB 19 31 46 mrWA28 mrWB28 8000 1 60 64 1 60 203 mr_c1Til_WRi [.inr (.inl (1001, (lAdd (lSc (-1) (lSy 19)) (lK 148)))), .inr (.inl (2000, lK 0))] mro28 = true := wEdQ_ok lwTchOk mrE28q
set_option maxRecDepth 1000000 in
theorem mrE29q : wEdQ lwTch 44 x_KT x_tb x_tyl x_ov0 u_ct u_hs x_knd lwFR lwGA lwGB 19 31 46 mrWA29 mrWB29 8000 1 60 64 1 60 203 mr_c1Til_WEi [.inr (.inl (1001, (lAdd (lSc (-1) (lSy 19)) (lK 148)))), .inr (.inl (2000, lK 0))] mro29 = true := by decide +kernel
theorem mrE29 : wEd x_KT x_tb x_tyl x_ov0 u_ct u_hs x_knd lwFR lwGA lwGB 19 31 46 mrWA29 mrWB29 8000 1 60 64 1 60 203 mr_c1Til_WEi [.inr (.inl (1001, (lAdd (lSc (-1) (lSy 19)) (lK 148)))), .inr (.inl (2000, lK 0))] mro29 = true := wEdQ_ok lwTchOk mrE29q
set_option maxRecDepth 1000000 in
theorem mrE30q : wEdQ lwTch 44 x_KT x_tb x_tyl x_ov0 u_ct u_hs x_knd lwFR lwGA lwGB 19 31 46 mrWA30 mrWB30 8000 1 60 64 1 60 203 mr_c1Til_WLi [.inr (.inl (1001, (lAdd (lSc (-1) (lSy 19)) (lK 148)))), .inr (.inl (2000, lK 0))] mro30 = true := by decide +kernel
theorem mrE30 : wEd x_KT x_tb x_tyl x_ov0 u_ct u_hs x_knd lwFR lwGA lwGB 19 31 46 mrWA30 mrWB30 8000 1 60 64 1 60 203 mr_c1Til_WLi [.inr (.inl (1001, (lAdd (lSc (-1) (lSy 19)) (lK 148)))), .inr (.inl (2000, lK 0))] mro30 = true := wEdQ_ok lwTchOk mrE30q
set_option maxRecDepth 1000000 in
theorem mrE31q : wEdQ lwTch 44 x_KT x_tb x_tyl x_ov0 u_ct u_hs x_knd lwFR lwGA lwGB 19 31 46 mrWA31 mrWB31 8000 1 60 64 1 60 203 mr_c1Til_FUi [.inr (.inl (1001, (lAdd (lSc (-1) (lSy 19)) (lK 148)))), .inr (.inl (2000, lK 0))] mro31 = true := by decide +kernel
theorem mrE31 : wEd x_KT x_tb x_tyl x_ov0 u_ct u_hs x_knd lwFR lwGA lwGB 19 31 46 mrWA31 mrWB31 8000 1 60 64 1 60 203 mr_c1Til_FUi [.inr (.inl (1001, (lAdd (lSc (-1) (lSy 19)) (lK 148)))), .inr (.inl (2000, lK 0))] mro31 = true := wEdQ_ok lwTchOk mrE31q
set_option maxRecDepth 1000000 in
theorem mrE32q : wEdQ lwTch 44 x_KT x_tb x_tyl x_ov0 u_ct u_hs x_knd lwFR lwGA lwGB 19 31 46 mrWA32 mrWB32 8000 1 60 64 1 60 203 mr_c1Tar_R [.inr (.inl (1001, (lAdd (lSc (-1) (lSy 19)) (lK 148)))), .inr (.inl (2000, lK 0))] mro32 = true := by decide +kernel
theorem mrE32 : wEd x_KT x_tb x_tyl x_ov0 u_ct u_hs x_knd lwFR lwGA lwGB 19 31 46 mrWA32 mrWB32 8000 1 60 64 1 60 203 mr_c1Tar_R [.inr (.inl (1001, (lAdd (lSc (-1) (lSy 19)) (lK 148)))), .inr (.inl (2000, lK 0))] mro32 = true := wEdQ_ok lwTchOk mrE32q
set_option maxRecDepth 1000000 in
theorem mrE33q : wEdQ lwTch 44 x_KT x_tb x_tyl x_ov0 u_ct u_hs x_knd lwFR lwGA lwGB 19 31 46 mrWA33 mrWB33 8000 1 60 64 1 60 203 mr_c1Tar_O [.inr (.inl (1001, (lAdd (lSc (-1) (lSy 19)) (lK 148)))), .inr (.inl (2000, lK 0))] mro33 = true := by decide +kernel
theorem mrE33 : wEd x_KT x_tb x_tyl x_ov0 u_ct u_hs x_knd lwFR lwGA lwGB 19 31 46 mrWA33 mrWB33 8000 1 60 64 1 60 203 mr_c1Tar_O [.inr (.inl (1001, (lAdd (lSc (-1) (lSy 19)) (lK 148)))), .inr (.inl (2000, lK 0))] mro33 = true := wEdQ_ok lwTchOk mrE33q
set_option maxRecDepth 1000000 in
theorem mrE34q : wEdQ lwTch 44 x_KT x_tb x_tyl x_ov0 u_ct u_hs x_knd lwFR lwGA lwGB 19 31 46 mrWA34 mrWB34 8000 1 60 64 1 60 203 mr_c1Tar_WR [.inr (.inl (1001, (lAdd (lSc (-1) (lSy 19)) (lK 148)))), .inr (.inl (2000, lK 0))] mro34 = true := by decide +kernel
theorem mrE34 : wEd x_KT x_tb x_tyl x_ov0 u_ct u_hs x_knd lwFR lwGA lwGB 19 31 46 mrWA34 mrWB34 8000 1 60 64 1 60 203 mr_c1Tar_WR [.inr (.inl (1001, (lAdd (lSc (-1) (lSy 19)) (lK 148)))), .inr (.inl (2000, lK 0))] mro34 = true := wEdQ_ok lwTchOk mrE34q
set_option maxRecDepth 1000000 in
theorem mrE35q : wEdQ lwTch 44 x_KT x_tb x_tyl x_ov0 u_ct u_hs x_knd lwFR lwGA lwGB 19 31 46 mrWA35 mrWB35 8000 1 60 64 1 60 203 mr_c1Tar_WE [.inr (.inl (1001, (lAdd (lSc (-1) (lSy 19)) (lK 148)))), .inr (.inl (2000, lK 0))] mro35 = true := by decide +kernel
theorem mrE35 : wEd x_KT x_tb x_tyl x_ov0 u_ct u_hs x_knd lwFR lwGA lwGB 19 31 46 mrWA35 mrWB35 8000 1 60 64 1 60 203 mr_c1Tar_WE [.inr (.inl (1001, (lAdd (lSc (-1) (lSy 19)) (lK 148)))), .inr (.inl (2000, lK 0))] mro35 = true := wEdQ_ok lwTchOk mrE35q
set_option maxRecDepth 1000000 in
theorem mrE36q : wEdQ lwTch 44 x_KT x_tb x_tyl x_ov0 u_ct u_hs x_knd lwFR lwGA lwGB 19 31 46 mrWA36 mrWB36 8000 1 60 64 1 60 203 mr_c1Tar_WL [.inr (.inl (1001, (lAdd (lSc (-1) (lSy 19)) (lK 148)))), .inr (.inl (2000, lK 0))] mro36 = true := by decide +kernel
theorem mrE36 : wEd x_KT x_tb x_tyl x_ov0 u_ct u_hs x_knd lwFR lwGA lwGB 19 31 46 mrWA36 mrWB36 8000 1 60 64 1 60 203 mr_c1Tar_WL [.inr (.inl (1001, (lAdd (lSc (-1) (lSy 19)) (lK 148)))), .inr (.inl (2000, lK 0))] mro36 = true := wEdQ_ok lwTchOk mrE36q
set_option maxRecDepth 1000000 in
theorem mrE37q : wEdQ lwTch 44 x_KT x_tb x_tyl x_ov0 u_ct u_hs x_knd lwFR lwGA lwGB 19 31 46 mrWA37 mrWB37 8000 1 60 64 1 60 203 mr_c1Tar_FU [.inr (.inl (1001, (lAdd (lSc (-1) (lSy 19)) (lK 148)))), .inr (.inl (2000, lK 0))] mro37 = true := by decide +kernel
theorem mrE37 : wEd x_KT x_tb x_tyl x_ov0 u_ct u_hs x_knd lwFR lwGA lwGB 19 31 46 mrWA37 mrWB37 8000 1 60 64 1 60 203 mr_c1Tar_FU [.inr (.inl (1001, (lAdd (lSc (-1) (lSy 19)) (lK 148)))), .inr (.inl (2000, lK 0))] mro37 = true := wEdQ_ok lwTchOk mrE37q
set_option maxRecDepth 1000000 in
theorem mrE38q : wEdQ lwTch 44 x_KT x_tb x_tyl x_ov0 u_ct u_hs x_knd lwFR lwGA lwGB 19 31 46 mrWA38 mrWB38 8000 1 60 64 1 60 203 mr_c1Tao_R [.inr (.inl (1001, (lAdd (lSc (-1) (lSy 19)) (lK 148)))), .inr (.inl (2000, lK 0))] mro38 = true := by decide +kernel
theorem mrE38 : wEd x_KT x_tb x_tyl x_ov0 u_ct u_hs x_knd lwFR lwGA lwGB 19 31 46 mrWA38 mrWB38 8000 1 60 64 1 60 203 mr_c1Tao_R [.inr (.inl (1001, (lAdd (lSc (-1) (lSy 19)) (lK 148)))), .inr (.inl (2000, lK 0))] mro38 = true := wEdQ_ok lwTchOk mrE38q
set_option maxRecDepth 1000000 in
theorem mrE39q : wEdQ lwTch 44 x_KT x_tb x_tyl x_ov0 u_ct u_hs x_knd lwFR lwGA lwGB 19 31 46 mrWA39 mrWB39 8000 1 60 64 1 60 203 mr_c1Tao_O [.inr (.inl (1001, (lAdd (lSc (-1) (lSy 19)) (lK 148)))), .inr (.inl (2000, lK 0))] mro39 = true := by decide +kernel
theorem mrE39 : wEd x_KT x_tb x_tyl x_ov0 u_ct u_hs x_knd lwFR lwGA lwGB 19 31 46 mrWA39 mrWB39 8000 1 60 64 1 60 203 mr_c1Tao_O [.inr (.inl (1001, (lAdd (lSc (-1) (lSy 19)) (lK 148)))), .inr (.inl (2000, lK 0))] mro39 = true := wEdQ_ok lwTchOk mrE39q
set_option maxRecDepth 1000000 in
theorem mrE40q : wEdQ lwTch 44 x_KT x_tb x_tyl x_ov0 u_ct u_hs x_knd lwFR lwGA lwGB 19 31 46 mrWA40 mrWB40 8000 1 60 64 1 60 203 mr_c1Tao_WR [.inr (.inl (1001, (lAdd (lSc (-1) (lSy 19)) (lK 148)))), .inr (.inl (2000, lK 0))] mro40 = true := by decide +kernel
theorem mrE40 : wEd x_KT x_tb x_tyl x_ov0 u_ct u_hs x_knd lwFR lwGA lwGB 19 31 46 mrWA40 mrWB40 8000 1 60 64 1 60 203 mr_c1Tao_WR [.inr (.inl (1001, (lAdd (lSc (-1) (lSy 19)) (lK 148)))), .inr (.inl (2000, lK 0))] mro40 = true := wEdQ_ok lwTchOk mrE40q
set_option maxRecDepth 1000000 in
theorem mrE41q : wEdQ lwTch 44 x_KT x_tb x_tyl x_ov0 u_ct u_hs x_knd lwFR lwGA lwGB 19 31 46 mrWA41 mrWB41 8000 1 60 64 1 60 203 mr_c1Tao_WE [.inr (.inl (1001, (lAdd (lSc (-1) (lSy 19)) (lK 148)))), .inr (.inl (2000, lK 0))] mro41 = true := by decide +kernel
theorem mrE41 : wEd x_KT x_tb x_tyl x_ov0 u_ct u_hs x_knd lwFR lwGA lwGB 19 31 46 mrWA41 mrWB41 8000 1 60 64 1 60 203 mr_c1Tao_WE [.inr (.inl (1001, (lAdd (lSc (-1) (lSy 19)) (lK 148)))), .inr (.inl (2000, lK 0))] mro41 = true := wEdQ_ok lwTchOk mrE41q
set_option maxRecDepth 1000000 in
theorem mrE42q : wEdQ lwTch 44 x_KT x_tb x_tyl x_ov0 u_ct u_hs x_knd lwFR lwGA lwGB 19 31 46 mrWA42 mrWB42 8000 1 60 64 1 60 203 mr_c1Tao_WL [.inr (.inl (1001, (lAdd (lSc (-1) (lSy 19)) (lK 148)))), .inr (.inl (2000, lK 0))] mro42 = true := by decide +kernel
theorem mrE42 : wEd x_KT x_tb x_tyl x_ov0 u_ct u_hs x_knd lwFR lwGA lwGB 19 31 46 mrWA42 mrWB42 8000 1 60 64 1 60 203 mr_c1Tao_WL [.inr (.inl (1001, (lAdd (lSc (-1) (lSy 19)) (lK 148)))), .inr (.inl (2000, lK 0))] mro42 = true := wEdQ_ok lwTchOk mrE42q
set_option maxRecDepth 1000000 in
theorem mrE43q : wEdQ lwTch 44 x_KT x_tb x_tyl x_ov0 u_ct u_hs x_knd lwFR lwGA lwGB 19 31 46 mrWA43 mrWB43 8000 1 60 64 1 60 203 mr_c1Tao_FU [.inr (.inl (1001, (lAdd (lSc (-1) (lSy 19)) (lK 148)))), .inr (.inl (2000, lK 0))] mro43 = true := by decide +kernel
theorem mrE43 : wEd x_KT x_tb x_tyl x_ov0 u_ct u_hs x_knd lwFR lwGA lwGB 19 31 46 mrWA43 mrWB43 8000 1 60 64 1 60 203 mr_c1Tao_FU [.inr (.inl (1001, (lAdd (lSc (-1) (lSy 19)) (lK 148)))), .inr (.inl (2000, lK 0))] mro43 = true := wEdQ_ok lwTchOk mrE43q
set_option maxRecDepth 1000000 in
theorem mrE44q : wEdQ lwTch 44 x_KT x_tb x_tyl x_ov0 u_ct u_hs x_knd lwFR lwGA lwGB 19 31 46 mrWA44 mrWB44 8000 1 60 64 1 60 203 mr_c1Tb_R [.inr (.inl (1001, (lAdd (lSc (-1) (lSy 19)) (lK 148)))), .inr (.inl (2000, lK 0))] mro44 = true := by decide +kernel
theorem mrE44 : wEd x_KT x_tb x_tyl x_ov0 u_ct u_hs x_knd lwFR lwGA lwGB 19 31 46 mrWA44 mrWB44 8000 1 60 64 1 60 203 mr_c1Tb_R [.inr (.inl (1001, (lAdd (lSc (-1) (lSy 19)) (lK 148)))), .inr (.inl (2000, lK 0))] mro44 = true := wEdQ_ok lwTchOk mrE44q
set_option maxRecDepth 1000000 in
theorem mrE45q : wEdQ lwTch 44 x_KT x_tb x_tyl x_ov0 u_ct u_hs x_knd lwFR lwGA lwGB 19 31 46 mrWA45 mrWB45 8000 1 60 64 1 60 203 mr_c1Tb_O [.inr (.inl (1001, (lAdd (lSc (-1) (lSy 19)) (lK 148)))), .inr (.inl (2000, lK 0))] mro45 = true := by decide +kernel
theorem mrE45 : wEd x_KT x_tb x_tyl x_ov0 u_ct u_hs x_knd lwFR lwGA lwGB 19 31 46 mrWA45 mrWB45 8000 1 60 64 1 60 203 mr_c1Tb_O [.inr (.inl (1001, (lAdd (lSc (-1) (lSy 19)) (lK 148)))), .inr (.inl (2000, lK 0))] mro45 = true := wEdQ_ok lwTchOk mrE45q
set_option maxRecDepth 1000000 in
theorem mrE46q : wEdQ lwTch 44 x_KT x_tb x_tyl x_ov0 u_ct u_hs x_knd lwFR lwGA lwGB 19 31 46 mrWA46 mrWB46 8000 1 60 64 1 60 203 mr_c1Tb_WR [.inr (.inl (1001, (lAdd (lSc (-1) (lSy 19)) (lK 148)))), .inr (.inl (2000, lK 0))] mro46 = true := by decide +kernel
theorem mrE46 : wEd x_KT x_tb x_tyl x_ov0 u_ct u_hs x_knd lwFR lwGA lwGB 19 31 46 mrWA46 mrWB46 8000 1 60 64 1 60 203 mr_c1Tb_WR [.inr (.inl (1001, (lAdd (lSc (-1) (lSy 19)) (lK 148)))), .inr (.inl (2000, lK 0))] mro46 = true := wEdQ_ok lwTchOk mrE46q
set_option maxRecDepth 1000000 in
theorem mrE47q : wEdQ lwTch 44 x_KT x_tb x_tyl x_ov0 u_ct u_hs x_knd lwFR lwGA lwGB 19 31 46 mrWA47 mrWB47 8000 1 60 64 1 60 203 mr_c1Tb_WE [.inr (.inl (1001, (lAdd (lSc (-1) (lSy 19)) (lK 148)))), .inr (.inl (2000, lK 0))] mro47 = true := by decide +kernel
theorem mrE47 : wEd x_KT x_tb x_tyl x_ov0 u_ct u_hs x_knd lwFR lwGA lwGB 19 31 46 mrWA47 mrWB47 8000 1 60 64 1 60 203 mr_c1Tb_WE [.inr (.inl (1001, (lAdd (lSc (-1) (lSy 19)) (lK 148)))), .inr (.inl (2000, lK 0))] mro47 = true := wEdQ_ok lwTchOk mrE47q
set_option maxRecDepth 1000000 in
theorem mrE48q : wEdQ lwTch 44 x_KT x_tb x_tyl x_ov0 u_ct u_hs x_knd lwFR lwGA lwGB 19 31 46 mrWA48 mrWB48 8000 1 60 64 1 60 203 mr_c1Tb_WL [.inr (.inl (1001, (lAdd (lSc (-1) (lSy 19)) (lK 148)))), .inr (.inl (2000, lK 0))] mro48 = true := by decide +kernel
theorem mrE48 : wEd x_KT x_tb x_tyl x_ov0 u_ct u_hs x_knd lwFR lwGA lwGB 19 31 46 mrWA48 mrWB48 8000 1 60 64 1 60 203 mr_c1Tb_WL [.inr (.inl (1001, (lAdd (lSc (-1) (lSy 19)) (lK 148)))), .inr (.inl (2000, lK 0))] mro48 = true := wEdQ_ok lwTchOk mrE48q
set_option maxRecDepth 1000000 in
theorem mrE49q : wEdQ lwTch 44 x_KT x_tb x_tyl x_ov0 u_ct u_hs x_knd lwFR lwGA lwGB 19 31 46 mrWA49 mrWB49 8000 1 60 64 1 60 203 mr_c1Tb_FU [.inr (.inl (1001, (lAdd (lSc (-1) (lSy 19)) (lK 148)))), .inr (.inl (2000, lK 0))] mro49 = true := by decide +kernel
theorem mrE49 : wEd x_KT x_tb x_tyl x_ov0 u_ct u_hs x_knd lwFR lwGA lwGB 19 31 46 mrWA49 mrWB49 8000 1 60 64 1 60 203 mr_c1Tb_FU [.inr (.inl (1001, (lAdd (lSc (-1) (lSy 19)) (lK 148)))), .inr (.inl (2000, lK 0))] mro49 = true := wEdQ_ok lwTchOk mrE49q
theorem mrL50 : wRlk 40 47 47 st0WA st0WB mrX50.2.1 mrX50.2.2.1 mrX50.2.2.2.1 mrX50.2.2.2.2 st0_gen = true := by decide +kernel
theorem mrL51 : wRlk 40 47 47 st0WA st0WB mrX51.2.1 mrX51.2.2.1 mrX51.2.2.2.1 mrX51.2.2.2.2 st0_gen = true := by decide +kernel
set_option maxRecDepth 1000000 in
theorem mrE52q : wEdQ lwTch 44 x_KT x_tb x_tyl x_ov0 u_ct u_hs x_knd lwFR lwGA lwGB 19 31 46 mrWA52 mrWB52 8000 1 60 64 1 60 203 mr_RR [] mro52 = true := by decide +kernel
theorem mrE52 : wEd x_KT x_tb x_tyl x_ov0 u_ct u_hs x_knd lwFR lwGA lwGB 19 31 46 mrWA52 mrWB52 8000 1 60 64 1 60 203 mr_RR [] mro52 = true := wEdQ_ok lwTchOk mrE52q
set_option maxRecDepth 1000000 in
theorem mrE53q : wEdQ lwTch 44 x_KT x_tb x_tyl x_ov0 u_ct u_hs x_knd lwFR lwGA lwGB 19 31 46 mrWA53 mrWB53 8000 1 60 64 1 60 203 mr_RO [] mro53 = true := by decide +kernel
theorem mrE53 : wEd x_KT x_tb x_tyl x_ov0 u_ct u_hs x_knd lwFR lwGA lwGB 19 31 46 mrWA53 mrWB53 8000 1 60 64 1 60 203 mr_RO [] mro53 = true := wEdQ_ok lwTchOk mrE53q
theorem mrL54 : wRlk 42 47 47 st1WA st1WB mrX54.2.1 mrX54.2.2.1 mrX54.2.2.2.1 mrX54.2.2.2.2 st1_gen = true := by decide +kernel
theorem mrL55 : wRlk 42 47 47 st1WA st1WB mrX55.2.1 mrX55.2.2.1 mrX55.2.2.2.1 mrX55.2.2.2.2 st1_gen = true := by decide +kernel
set_option maxRecDepth 1000000 in
theorem mrE56q : wEdQ lwTch 44 x_KT x_tb x_tyl x_ov0 u_ct u_hs x_knd lwFR lwGA lwGB 19 31 46 mrWA56 mrWB56 8000 1 60 64 1 60 203 mr_OR [] mro56 = true := by decide +kernel
theorem mrE56 : wEd x_KT x_tb x_tyl x_ov0 u_ct u_hs x_knd lwFR lwGA lwGB 19 31 46 mrWA56 mrWB56 8000 1 60 64 1 60 203 mr_OR [] mro56 = true := wEdQ_ok lwTchOk mrE56q
set_option maxRecDepth 1000000 in
theorem mrE57q : wEdQ lwTch 44 x_KT x_tb x_tyl x_ov0 u_ct u_hs x_knd lwFR lwGA lwGB 19 31 46 mrWA57 mrWB57 8000 1 60 64 1 60 203 mr_c0RR_R [] mro57 = true := by decide +kernel
theorem mrE57 : wEd x_KT x_tb x_tyl x_ov0 u_ct u_hs x_knd lwFR lwGA lwGB 19 31 46 mrWA57 mrWB57 8000 1 60 64 1 60 203 mr_c0RR_R [] mro57 = true := wEdQ_ok lwTchOk mrE57q
set_option maxRecDepth 1000000 in
theorem mrE58q : wEdQ lwTch 44 x_KT x_tb x_tyl x_ov0 u_ct u_hs x_knd lwFR lwGA lwGB 19 31 46 mrWA58 mrWB58 8000 1 60 64 1 60 203 mr_c0RR_O [] mro58 = true := by decide +kernel
theorem mrE58 : wEd x_KT x_tb x_tyl x_ov0 u_ct u_hs x_knd lwFR lwGA lwGB 19 31 46 mrWA58 mrWB58 8000 1 60 64 1 60 203 mr_c0RR_O [] mro58 = true := wEdQ_ok lwTchOk mrE58q
set_option maxRecDepth 1000000 in
theorem mrE59q : wEdQ lwTch 44 x_KT x_tb x_tyl x_ov0 u_ct u_hs x_knd lwFR lwGA lwGB 19 31 46 mrWA59 mrWB59 8000 1 60 64 1 60 203 mr_c0RR_WR [] mro59 = true := by decide +kernel
theorem mrE59 : wEd x_KT x_tb x_tyl x_ov0 u_ct u_hs x_knd lwFR lwGA lwGB 19 31 46 mrWA59 mrWB59 8000 1 60 64 1 60 203 mr_c0RR_WR [] mro59 = true := wEdQ_ok lwTchOk mrE59q
set_option maxRecDepth 1000000 in
theorem mrE60q : wEdQ lwTch 44 x_KT x_tb x_tyl x_ov0 u_ct u_hs x_knd lwFR lwGA lwGB 19 31 46 mrWA60 mrWB60 8000 1 60 64 1 60 203 mr_c0RR_WE [] mro60 = true := by decide +kernel
theorem mrE60 : wEd x_KT x_tb x_tyl x_ov0 u_ct u_hs x_knd lwFR lwGA lwGB 19 31 46 mrWA60 mrWB60 8000 1 60 64 1 60 203 mr_c0RR_WE [] mro60 = true := wEdQ_ok lwTchOk mrE60q
set_option maxRecDepth 1000000 in
theorem mrE61q : wEdQ lwTch 44 x_KT x_tb x_tyl x_ov0 u_ct u_hs x_knd lwFR lwGA lwGB 19 31 46 mrWA61 mrWB61 8000 1 60 64 1 60 203 mr_c0RR_WL [] mro61 = true := by decide +kernel
theorem mrE61 : wEd x_KT x_tb x_tyl x_ov0 u_ct u_hs x_knd lwFR lwGA lwGB 19 31 46 mrWA61 mrWB61 8000 1 60 64 1 60 203 mr_c0RR_WL [] mro61 = true := wEdQ_ok lwTchOk mrE61q
set_option maxRecDepth 1000000 in
theorem mrE62q : wEdQ lwTch 44 x_KT x_tb x_tyl x_ov0 u_ct u_hs x_knd lwFR lwGA lwGB 19 31 46 mrWA62 mrWB62 8000 1 60 64 1 60 203 mr_c0RR_FU [] mro62 = true := by decide +kernel
theorem mrE62 : wEd x_KT x_tb x_tyl x_ov0 u_ct u_hs x_knd lwFR lwGA lwGB 19 31 46 mrWA62 mrWB62 8000 1 60 64 1 60 203 mr_c0RR_FU [] mro62 = true := wEdQ_ok lwTchOk mrE62q
set_option maxRecDepth 1000000 in
theorem mrE63q : wEdQ lwTch 44 x_KT x_tb x_tyl x_ov0 u_ct u_hs x_knd lwFR lwGA lwGB 19 31 46 mrWA63 mrWB63 8000 1 60 64 1 60 203 mr_c0RO_R [.inr (.inl (1001, (lAdd (lSc (-1) (lSy 19)) (lK 148))))] mro63 = true := by decide +kernel
theorem mrE63 : wEd x_KT x_tb x_tyl x_ov0 u_ct u_hs x_knd lwFR lwGA lwGB 19 31 46 mrWA63 mrWB63 8000 1 60 64 1 60 203 mr_c0RO_R [.inr (.inl (1001, (lAdd (lSc (-1) (lSy 19)) (lK 148))))] mro63 = true := wEdQ_ok lwTchOk mrE63q
set_option maxRecDepth 1000000 in
theorem mrE64q : wEdQ lwTch 44 x_KT x_tb x_tyl x_ov0 u_ct u_hs x_knd lwFR lwGA lwGB 19 31 46 mrWA64 mrWB64 8000 1 60 64 1 60 203 mr_c0RO_O [.inr (.inl (1001, (lAdd (lSc (-1) (lSy 19)) (lK 148))))] mro64 = true := by decide +kernel
theorem mrE64 : wEd x_KT x_tb x_tyl x_ov0 u_ct u_hs x_knd lwFR lwGA lwGB 19 31 46 mrWA64 mrWB64 8000 1 60 64 1 60 203 mr_c0RO_O [.inr (.inl (1001, (lAdd (lSc (-1) (lSy 19)) (lK 148))))] mro64 = true := wEdQ_ok lwTchOk mrE64q
set_option maxRecDepth 1000000 in
theorem mrE65q : wEdQ lwTch 44 x_KT x_tb x_tyl x_ov0 u_ct u_hs x_knd lwFR lwGA lwGB 19 31 46 mrWA65 mrWB65 8000 1 60 64 1 60 203 mr_c0RO_WR [.inr (.inl (1001, (lAdd (lSc (-1) (lSy 19)) (lK 148))))] mro65 = true := by decide +kernel
theorem mrE65 : wEd x_KT x_tb x_tyl x_ov0 u_ct u_hs x_knd lwFR lwGA lwGB 19 31 46 mrWA65 mrWB65 8000 1 60 64 1 60 203 mr_c0RO_WR [.inr (.inl (1001, (lAdd (lSc (-1) (lSy 19)) (lK 148))))] mro65 = true := wEdQ_ok lwTchOk mrE65q
set_option maxRecDepth 1000000 in
theorem mrE66q : wEdQ lwTch 44 x_KT x_tb x_tyl x_ov0 u_ct u_hs x_knd lwFR lwGA lwGB 19 31 46 mrWA66 mrWB66 8000 1 60 64 1 60 203 mr_c0RO_WE [.inr (.inl (1001, (lAdd (lSc (-1) (lSy 19)) (lK 148))))] mro66 = true := by decide +kernel
theorem mrE66 : wEd x_KT x_tb x_tyl x_ov0 u_ct u_hs x_knd lwFR lwGA lwGB 19 31 46 mrWA66 mrWB66 8000 1 60 64 1 60 203 mr_c0RO_WE [.inr (.inl (1001, (lAdd (lSc (-1) (lSy 19)) (lK 148))))] mro66 = true := wEdQ_ok lwTchOk mrE66q
set_option maxRecDepth 1000000 in
theorem mrE67q : wEdQ lwTch 44 x_KT x_tb x_tyl x_ov0 u_ct u_hs x_knd lwFR lwGA lwGB 19 31 46 mrWA67 mrWB67 8000 1 60 64 1 60 203 mr_c0RO_WL [.inr (.inl (1001, (lAdd (lSc (-1) (lSy 19)) (lK 148))))] mro67 = true := by decide +kernel
theorem mrE67 : wEd x_KT x_tb x_tyl x_ov0 u_ct u_hs x_knd lwFR lwGA lwGB 19 31 46 mrWA67 mrWB67 8000 1 60 64 1 60 203 mr_c0RO_WL [.inr (.inl (1001, (lAdd (lSc (-1) (lSy 19)) (lK 148))))] mro67 = true := wEdQ_ok lwTchOk mrE67q
set_option maxRecDepth 1000000 in
theorem mrE68q : wEdQ lwTch 44 x_KT x_tb x_tyl x_ov0 u_ct u_hs x_knd lwFR lwGA lwGB 19 31 46 mrWA68 mrWB68 8000 1 60 64 1 60 203 mr_c0RO_FU [.inr (.inl (1001, (lAdd (lSc (-1) (lSy 19)) (lK 148))))] mro68 = true := by decide +kernel
theorem mrE68 : wEd x_KT x_tb x_tyl x_ov0 u_ct u_hs x_knd lwFR lwGA lwGB 19 31 46 mrWA68 mrWB68 8000 1 60 64 1 60 203 mr_c0RO_FU [.inr (.inl (1001, (lAdd (lSc (-1) (lSy 19)) (lK 148))))] mro68 = true := wEdQ_ok lwTchOk mrE68q
set_option maxRecDepth 1000000 in
theorem mrE69q : wEdQ lwTch 44 x_KT x_tb x_tyl x_ov0 u_ct u_hs x_knd lwFR lwGA lwGB 19 31 46 mrWA69 mrWB69 8000 1 60 64 1 60 203 mr_c1R_R [.inr (.inl (1001, (lAdd (lSc (-1) (lSy 19)) (lK 148))))] mro69 = true := by decide +kernel
theorem mrE69 : wEd x_KT x_tb x_tyl x_ov0 u_ct u_hs x_knd lwFR lwGA lwGB 19 31 46 mrWA69 mrWB69 8000 1 60 64 1 60 203 mr_c1R_R [.inr (.inl (1001, (lAdd (lSc (-1) (lSy 19)) (lK 148))))] mro69 = true := wEdQ_ok lwTchOk mrE69q
set_option maxRecDepth 1000000 in
theorem mrE70q : wEdQ lwTch 44 x_KT x_tb x_tyl x_ov0 u_ct u_hs x_knd lwFR lwGA lwGB 19 31 46 mrWA70 mrWB70 8000 1 60 64 1 60 203 mr_c1R_O [.inr (.inl (1001, (lAdd (lSc (-1) (lSy 19)) (lK 148))))] mro70 = true := by decide +kernel
theorem mrE70 : wEd x_KT x_tb x_tyl x_ov0 u_ct u_hs x_knd lwFR lwGA lwGB 19 31 46 mrWA70 mrWB70 8000 1 60 64 1 60 203 mr_c1R_O [.inr (.inl (1001, (lAdd (lSc (-1) (lSy 19)) (lK 148))))] mro70 = true := wEdQ_ok lwTchOk mrE70q
set_option maxRecDepth 1000000 in
theorem mrE71q : wEdQ lwTch 44 x_KT x_tb x_tyl x_ov0 u_ct u_hs x_knd lwFR lwGA lwGB 19 31 46 mrWA71 mrWB71 8000 1 60 64 1 60 203 mr_c1R_WR [.inr (.inl (1001, (lAdd (lSc (-1) (lSy 19)) (lK 148))))] mro71 = true := by decide +kernel
theorem mrE71 : wEd x_KT x_tb x_tyl x_ov0 u_ct u_hs x_knd lwFR lwGA lwGB 19 31 46 mrWA71 mrWB71 8000 1 60 64 1 60 203 mr_c1R_WR [.inr (.inl (1001, (lAdd (lSc (-1) (lSy 19)) (lK 148))))] mro71 = true := wEdQ_ok lwTchOk mrE71q
set_option maxRecDepth 1000000 in
theorem mrE72q : wEdQ lwTch 44 x_KT x_tb x_tyl x_ov0 u_ct u_hs x_knd lwFR lwGA lwGB 19 31 46 mrWA72 mrWB72 8000 1 60 64 1 60 203 mr_c1R_WE [.inr (.inl (1001, (lAdd (lSc (-1) (lSy 19)) (lK 148))))] mro72 = true := by decide +kernel
theorem mrE72 : wEd x_KT x_tb x_tyl x_ov0 u_ct u_hs x_knd lwFR lwGA lwGB 19 31 46 mrWA72 mrWB72 8000 1 60 64 1 60 203 mr_c1R_WE [.inr (.inl (1001, (lAdd (lSc (-1) (lSy 19)) (lK 148))))] mro72 = true := wEdQ_ok lwTchOk mrE72q
set_option maxRecDepth 1000000 in
theorem mrE73q : wEdQ lwTch 44 x_KT x_tb x_tyl x_ov0 u_ct u_hs x_knd lwFR lwGA lwGB 19 31 46 mrWA73 mrWB73 8000 1 60 64 1 60 203 mr_c1R_WL [.inr (.inl (1001, (lAdd (lSc (-1) (lSy 19)) (lK 148))))] mro73 = true := by decide +kernel
theorem mrE73 : wEd x_KT x_tb x_tyl x_ov0 u_ct u_hs x_knd lwFR lwGA lwGB 19 31 46 mrWA73 mrWB73 8000 1 60 64 1 60 203 mr_c1R_WL [.inr (.inl (1001, (lAdd (lSc (-1) (lSy 19)) (lK 148))))] mro73 = true := wEdQ_ok lwTchOk mrE73q
set_option maxRecDepth 1000000 in
theorem mrE74q : wEdQ lwTch 44 x_KT x_tb x_tyl x_ov0 u_ct u_hs x_knd lwFR lwGA lwGB 19 31 46 mrWA74 mrWB74 8000 1 60 64 1 60 203 mr_c1R_FU [.inr (.inl (1001, (lAdd (lSc (-1) (lSy 19)) (lK 148))))] mro74 = true := by decide +kernel
theorem mrE74 : wEd x_KT x_tb x_tyl x_ov0 u_ct u_hs x_knd lwFR lwGA lwGB 19 31 46 mrWA74 mrWB74 8000 1 60 64 1 60 203 mr_c1R_FU [.inr (.inl (1001, (lAdd (lSc (-1) (lSy 19)) (lK 148))))] mro74 = true := wEdQ_ok lwTchOk mrE74q
set_option maxRecDepth 1000000 in
theorem mrE75q : wEdQ lwTch 44 x_KT x_tb x_tyl x_ov0 u_ct u_hs x_knd lwFR lwGA lwGB 19 31 46 mrWA75 mrWB75 8000 1 60 64 1 60 203 mr_c1O_R [.inr (.inl (1001, (lAdd (lSc (-1) (lSy 19)) (lK 148))))] mro75 = true := by decide +kernel
theorem mrE75 : wEd x_KT x_tb x_tyl x_ov0 u_ct u_hs x_knd lwFR lwGA lwGB 19 31 46 mrWA75 mrWB75 8000 1 60 64 1 60 203 mr_c1O_R [.inr (.inl (1001, (lAdd (lSc (-1) (lSy 19)) (lK 148))))] mro75 = true := wEdQ_ok lwTchOk mrE75q
set_option maxRecDepth 1000000 in
theorem mrE76q : wEdQ lwTch 44 x_KT x_tb x_tyl x_ov0 u_ct u_hs x_knd lwFR lwGA lwGB 19 31 46 mrWA76 mrWB76 8000 1 60 64 1 60 203 mr_c1O_O [.inr (.inl (1001, (lAdd (lSc (-1) (lSy 19)) (lK 148))))] mro76 = true := by decide +kernel
theorem mrE76 : wEd x_KT x_tb x_tyl x_ov0 u_ct u_hs x_knd lwFR lwGA lwGB 19 31 46 mrWA76 mrWB76 8000 1 60 64 1 60 203 mr_c1O_O [.inr (.inl (1001, (lAdd (lSc (-1) (lSy 19)) (lK 148))))] mro76 = true := wEdQ_ok lwTchOk mrE76q
set_option maxRecDepth 1000000 in
theorem mrE77q : wEdQ lwTch 44 x_KT x_tb x_tyl x_ov0 u_ct u_hs x_knd lwFR lwGA lwGB 19 31 46 mrWA77 mrWB77 8000 1 60 64 1 60 203 mr_c1O_WR [.inr (.inl (1001, (lAdd (lSc (-1) (lSy 19)) (lK 148))))] mro77 = true := by decide +kernel
theorem mrE77 : wEd x_KT x_tb x_tyl x_ov0 u_ct u_hs x_knd lwFR lwGA lwGB 19 31 46 mrWA77 mrWB77 8000 1 60 64 1 60 203 mr_c1O_WR [.inr (.inl (1001, (lAdd (lSc (-1) (lSy 19)) (lK 148))))] mro77 = true := wEdQ_ok lwTchOk mrE77q
set_option maxRecDepth 1000000 in
theorem mrE78q : wEdQ lwTch 44 x_KT x_tb x_tyl x_ov0 u_ct u_hs x_knd lwFR lwGA lwGB 19 31 46 mrWA78 mrWB78 8000 1 60 64 1 60 203 mr_c1O_WE [.inr (.inl (1001, (lAdd (lSc (-1) (lSy 19)) (lK 148))))] mro78 = true := by decide +kernel
theorem mrE78 : wEd x_KT x_tb x_tyl x_ov0 u_ct u_hs x_knd lwFR lwGA lwGB 19 31 46 mrWA78 mrWB78 8000 1 60 64 1 60 203 mr_c1O_WE [.inr (.inl (1001, (lAdd (lSc (-1) (lSy 19)) (lK 148))))] mro78 = true := wEdQ_ok lwTchOk mrE78q
set_option maxRecDepth 1000000 in
theorem mrE79q : wEdQ lwTch 44 x_KT x_tb x_tyl x_ov0 u_ct u_hs x_knd lwFR lwGA lwGB 19 31 46 mrWA79 mrWB79 8000 1 60 64 1 60 203 mr_c1O_WL [.inr (.inl (1001, (lAdd (lSc (-1) (lSy 19)) (lK 148))))] mro79 = true := by decide +kernel
theorem mrE79 : wEd x_KT x_tb x_tyl x_ov0 u_ct u_hs x_knd lwFR lwGA lwGB 19 31 46 mrWA79 mrWB79 8000 1 60 64 1 60 203 mr_c1O_WL [.inr (.inl (1001, (lAdd (lSc (-1) (lSy 19)) (lK 148))))] mro79 = true := wEdQ_ok lwTchOk mrE79q
set_option maxRecDepth 1000000 in
theorem mrE80q : wEdQ lwTch 44 x_KT x_tb x_tyl x_ov0 u_ct u_hs x_knd lwFR lwGA lwGB 19 31 46 mrWA80 mrWB80 8000 1 60 64 1 60 203 mr_c1O_FU [.inr (.inl (1001, (lAdd (lSc (-1) (lSy 19)) (lK 148))))] mro80 = true := by decide +kernel
theorem mrE80 : wEd x_KT x_tb x_tyl x_ov0 u_ct u_hs x_knd lwFR lwGA lwGB 19 31 46 mrWA80 mrWB80 8000 1 60 64 1 60 203 mr_c1O_FU [.inr (.inl (1001, (lAdd (lSc (-1) (lSy 19)) (lK 148))))] mro80 = true := wEdQ_ok lwTchOk mrE80q
set_option maxRecDepth 1000000 in
theorem mrE81q : wEdQ lwTch 44 x_KT x_tb x_tyl x_ov0 u_ct u_hs x_knd lwFR lwGA lwGB 19 31 46 mrWA81 mrWB81 8000 1 60 64 1 60 203 mr_OO [] mro81 = true := by decide +kernel
theorem mrE81 : wEd x_KT x_tb x_tyl x_ov0 u_ct u_hs x_knd lwFR lwGA lwGB 19 31 46 mrWA81 mrWB81 8000 1 60 64 1 60 203 mr_OO [] mro81 = true := wEdQ_ok lwTchOk mrE81q
set_option maxRecDepth 1000000 in
theorem lkE0q : wEdQ lwTch 44 x_KT x_tb x_tyl x_ov0 u_ct u_hs x_knd lwFR lwGA lwGB 26 36 48 lkWA0 lkWB0 8000 1 60 83 1 60 211 lk_in [] lko0 = true := by decide +kernel
theorem lkE0 : wEd x_KT x_tb x_tyl x_ov0 u_ct u_hs x_knd lwFR lwGA lwGB 26 36 48 lkWA0 lkWB0 8000 1 60 83 1 60 211 lk_in [] lko0 = true := wEdQ_ok lwTchOk lkE0q
set_option maxRecDepth 1000000 in
theorem lkE1q : wEdQ lwTch 44 x_KT x_tb x_tyl x_ov0 u_ct u_hs x_knd lwFR lwGA lwGB 26 36 48 lkWA1 lkWB1 8000 1 60 83 1 60 211 lk_lp [.inr (.inr (5, [(lSy 14), (lSy 26)])), .inr (.inr (6, [(lSy 14), (lSy 26)])), .inr (.inl (2000, lK 0))] lko1 = true := by decide +kernel
theorem lkE1 : wEd x_KT x_tb x_tyl x_ov0 u_ct u_hs x_knd lwFR lwGA lwGB 26 36 48 lkWA1 lkWB1 8000 1 60 83 1 60 211 lk_lp [.inr (.inr (5, [(lSy 14), (lSy 26)])), .inr (.inr (6, [(lSy 14), (lSy 26)])), .inr (.inl (2000, lK 0))] lko1 = true := wEdQ_ok lwTchOk lkE1q
theorem rrL0 : wRlk 19 31 46 mrWA mrWB rrX0.2.1 rrX0.2.2.1 rrX0.2.2.2.1 rrX0.2.2.2.2 mr_in = true := by decide +kernel
set_option maxRecDepth 1000000 in
theorem rrE1q : wEdQ lwTch 44 x_KT x_tb x_tyl x_ov0 u_ct u_hs x_knd lwFR lwGA lwGB 19 31 46 rrWA1 rrWB1 8000 0 60 64 1 60 202 rr_in [] rro1 = true := by decide +kernel
theorem rrE1 : wEd x_KT x_tb x_tyl x_ov0 u_ct u_hs x_knd lwFR lwGA lwGB 19 31 46 rrWA1 rrWB1 8000 0 60 64 1 60 202 rr_in [] rro1 = true := wEdQ_ok lwTchOk rrE1q
theorem rrL2 : wRlk 26 36 48 lkWA lkWB rrX2.2.1 rrX2.2.2.1 rrX2.2.2.2.1 rrX2.2.2.2.2 lk_in = true := by decide +kernel
set_option maxRecDepth 1000000 in
theorem rrE3q : wEdQ lwTch 44 x_KT x_tb x_tyl x_ov0 u_ct u_hs x_knd lwFR lwGA lwGB 19 31 46 rrWA3 rrWB3 8000 1 60 64 1 60 202 rr_cb_X [.inr (.inr (6, [])), .inr (.inr (14, [(lSy 14)])), .inr (.inr (9, [(lK 0)])), .inr (.inr (10, [(lK 0)])), .inr (.inl (2008, lK 0))] (rro3.map (wNo [5, 9, 6, 10, 7, 8, 20, 38])) = true := by decide +kernel
theorem rrE3 : wEd x_KT x_tb x_tyl x_ov0 u_ct u_hs x_knd lwFR lwGA lwGB 19 31 46 rrWA3 rrWB3 8000 1 60 64 1 60 202 rr_cb_X [.inr (.inr (6, [])), .inr (.inr (14, [(lSy 14)])), .inr (.inr (9, [(lK 0)])), .inr (.inr (10, [(lK 0)])), .inr (.inl (2008, lK 0))] (rro3.map (wNo [5, 9, 6, 10, 7, 8, 20, 38])) = true := wEdQ_ok lwTchOk rrE3q
set_option maxRecDepth 1000000 in
theorem rrE3R20 : wRkE x_KT x_tb x_tyl x_ov0 u_ct u_hs x_knd lwFR lwGA lwGB rrVA3_20 rrVB3_20 8000 1 60 64 1 60 202 (rro3.map (wNo [5, 9, 6, 10, 7, 8, 20, 38])) rr_cb_X lwF20 [.inr (.inr (6, [])), .inr (.inr (14, [(lSy 14)])), .inl (lAdd (lSy 36) (lSc (-1) (lSy 11))), .inr (.inl (1001, (lAdd (lSy 36) (lAdd (lSc (-1) (lSy 14)) (lK (-1)))))), .inr (.inr (20, []))] = true := by decide +kernel
set_option maxRecDepth 1000000 in
theorem rrE3R38 : wRkE x_KT x_tb x_tyl x_ov0 u_ct u_hs x_knd lwFR lwGA lwGB rrVA3_38 rrVB3_38 8000 1 60 64 1 60 202 (rro3.map (wNo [5, 9, 6, 10, 7, 8, 20, 38])) rr_cb_X lwF38 [.inl (lAdd (lSy 36) (lSc (-1) (lSy 14))), .inl (lAdd (lSc (-1) (lSy 36)) (lSy 14)), .inr (.inl (1001, (lAdd (lSc (-1) (lSy 36)) (lAdd (lSy 11) (lK (-1)))))), .inl (lAdd (lSc (-1) (lSy 36)) (lAdd (lSy 11) (lK (-1)))), .inr (.inl (0, (lSy 14))), .inr (.inr (18, [(lSy 36), (lSy 14)])), .inr (.inr (18, [(lSy 14), (lSy 36)])), .inr (.inr (15, [(lSy 36), (lSy 14)])), .inr (.inr (15, [(lSy 14), (lSy 36)])), .inr (.inr (32, [])), .inr (.inl (2008, lK 0))] = true := by decide +kernel
set_option maxRecDepth 1000000 in
theorem rrE4q : wEdQ lwTch 44 x_KT x_tb x_tyl x_ov0 u_ct u_hs x_knd lwFR lwGA lwGB 19 31 46 rrWA4 rrWB4 8000 1 60 64 1 60 202 rr_cl_e0 [] (rro4.map (wNo [38])) = true := by decide +kernel
theorem rrE4 : wEd x_KT x_tb x_tyl x_ov0 u_ct u_hs x_knd lwFR lwGA lwGB 19 31 46 rrWA4 rrWB4 8000 1 60 64 1 60 202 rr_cl_e0 [] (rro4.map (wNo [38])) = true := wEdQ_ok lwTchOk rrE4q
set_option maxRecDepth 1000000 in
theorem rrE4R38 : wRkE x_KT x_tb x_tyl x_ov0 u_ct u_hs x_knd lwFR lwGA lwGB rrVA4_38 rrVB4_38 8000 1 60 64 1 60 202 (rro4.map (wNo [38])) rr_cl_e0 lwF38 [.inl (lAdd (lSy 26) (lSc (-1) (lSy 14))), .inl (lAdd (lSc (-1) (lSy 26)) (lSy 14)), .inr (.inl (1001, (lAdd (lSc (-1) (lSy 26)) (lAdd (lSy 11) (lK (-1)))))), .inl (lAdd (lSc (-1) (lSy 26)) (lAdd (lSy 11) (lK (-1)))), .inr (.inl (0, (lSy 14))), .inr (.inr (15, [(lSy 26), (lSy 14)])), .inr (.inr (15, [(lSy 14), (lSy 26)])), .inr (.inr (12, [(lSy 26), (lSy 14)])), .inr (.inr (12, [(lSy 14), (lSy 26)])), .inr (.inr (29, [])), .inr (.inl (2008, lK 0))] = true := by decide +kernel
set_option maxRecDepth 1000000 in
theorem rrE5q : wEdQ lwTch 44 x_KT x_tb x_tyl x_ov0 u_ct u_hs x_knd lwFR lwGA lwGB 19 31 46 rrWA5 rrWB5 8000 1 60 64 1 60 202 rr_cl_e1 [] (rro5.map (wNo [38])) = true := by decide +kernel
theorem rrE5 : wEd x_KT x_tb x_tyl x_ov0 u_ct u_hs x_knd lwFR lwGA lwGB 19 31 46 rrWA5 rrWB5 8000 1 60 64 1 60 202 rr_cl_e1 [] (rro5.map (wNo [38])) = true := wEdQ_ok lwTchOk rrE5q
set_option maxRecDepth 1000000 in
theorem rrE5R38 : wRkE x_KT x_tb x_tyl x_ov0 u_ct u_hs x_knd lwFR lwGA lwGB rrVA5_38 rrVB5_38 8000 1 60 64 1 60 202 (rro5.map (wNo [38])) rr_cl_e1 lwF38 [.inl (lAdd (lSy 26) (lSc (-1) (lSy 14))), .inl (lAdd (lSc (-1) (lSy 26)) (lSy 14)), .inr (.inl (1001, (lAdd (lSc (-1) (lSy 26)) (lAdd (lSy 11) (lK (-1)))))), .inl (lAdd (lSc (-1) (lSy 26)) (lAdd (lSy 11) (lK (-1)))), .inr (.inl (0, (lSy 14))), .inr (.inr (15, [(lSy 26), (lSy 14)])), .inr (.inr (15, [(lSy 14), (lSy 26)])), .inr (.inr (12, [(lSy 26), (lSy 14)])), .inr (.inr (12, [(lSy 14), (lSy 26)])), .inr (.inr (29, [])), .inr (.inl (2008, lK 0))] = true := by decide +kernel
theorem runL0 : wRlk 19 31 46 rrWA rrWB runX0.2.1 runX0.2.2.1 runX0.2.2.2.1 runX0.2.2.2.2 rr_in = true := by decide +kernel
set_option maxRecDepth 1000000 in
theorem runE1q : wEdQ lwTch 44 x_KT x_tb x_tyl x_ov0 u_ct u_hs x_knd lwFR lwGA lwGB 13 30 46 runWA1 runWB1 8000 1 60 62 1 60 200 run_in [.inl (lSy 13), .inl (lAdd (lSc (-1) (lSy 13)) (lAdd (lSy 11) (lK (-1)))), .inr (.inr (0, [(lSy 13)]))] runo1 = true := by decide +kernel
theorem runE1 : wEd x_KT x_tb x_tyl x_ov0 u_ct u_hs x_knd lwFR lwGA lwGB 13 30 46 runWA1 runWB1 8000 1 60 62 1 60 200 run_in [.inl (lSy 13), .inl (lAdd (lSc (-1) (lSy 13)) (lAdd (lSy 11) (lK (-1)))), .inr (.inr (0, [(lSy 13)]))] runo1 = true := wEdQ_ok lwTchOk runE1q
set_option maxRecDepth 1000000 in
theorem runE2q : wEdQ lwTch 44 x_KT x_tb x_tyl x_ov0 u_ct u_hs x_knd lwFR lwGA lwGB 13 30 46 runWA2 runWB2 8000 1 60 62 1 60 200 run_cl_x0 [] (runo2.map (wNo [30, 20])) = true := by decide +kernel
theorem runE2 : wEd x_KT x_tb x_tyl x_ov0 u_ct u_hs x_knd lwFR lwGA lwGB 13 30 46 runWA2 runWB2 8000 1 60 62 1 60 200 run_cl_x0 [] (runo2.map (wNo [30, 20])) = true := wEdQ_ok lwTchOk runE2q
set_option maxRecDepth 1000000 in
theorem runE2R30 : wRkE x_KT x_tb x_tyl x_ov0 u_ct u_hs x_knd lwFR lwGA lwGB runVA2_30 runVB2_30 8000 1 60 62 1 60 200 (runo2.map (wNo [30, 20])) run_cl_x0 lwF30 [.inr (.inr (30, [(lSy 14)])), .inl (lAdd (lSy 24) (lSc (-1) (lSy 14))), .inl (lAdd (lSc (-1) (lSy 24)) (lSy 14)), .inr (.inl (1001, (lAdd (lSc (-1) (lSy 24)) (lAdd (lSy 11) (lK (-1)))))), .inl (lAdd (lSc (-1) (lSy 24)) (lAdd (lSy 11) (lK (-1)))), .inr (.inl (0, (lSy 14))), .inr (.inr (12, [(lSy 24), (lSy 14)])), .inr (.inr (12, [(lSy 14), (lSy 24)])), .inr (.inr (15, [(lSy 24), (lSy 14)])), .inr (.inr (15, [(lSy 14), (lSy 24)])), .inr (.inr (31, [(lSy 24), (lSy 14)])), .inr (.inr (31, [(lSy 14), (lSy 24)])), .inr (.inr (29, [])), .inr (.inl (2008, lK 0))] = true := by decide +kernel
set_option maxRecDepth 1000000 in
theorem runE2R20 : wRkE x_KT x_tb x_tyl x_ov0 u_ct u_hs x_knd lwFR lwGA lwGB runVA2_20 runVB2_20 8000 1 60 62 1 60 200 (runo2.map (wNo [30, 20])) run_cl_x0 lwF20 [.inl (lAdd (lSy 24) (lSc (-1) (lSy 11))), .inr (.inl (1001, (lAdd (lSy 24) (lAdd (lSc (-1) (lSy 14)) (lK (-1)))))), .inr (.inr (17, []))] = true := by decide +kernel
set_option maxRecDepth 1000000 in
theorem runE3q : wEdQ lwTch 44 x_KT x_tb x_tyl x_ov0 u_ct u_hs x_knd lwFR lwGA lwGB 13 30 46 runWA3 runWB3 8000 1 60 62 1 60 200 run_cl_x1 [] (runo3.map (wNo [30, 20])) = true := by decide +kernel
theorem runE3 : wEd x_KT x_tb x_tyl x_ov0 u_ct u_hs x_knd lwFR lwGA lwGB 13 30 46 runWA3 runWB3 8000 1 60 62 1 60 200 run_cl_x1 [] (runo3.map (wNo [30, 20])) = true := wEdQ_ok lwTchOk runE3q
set_option maxRecDepth 1000000 in
theorem runE3R30 : wRkE x_KT x_tb x_tyl x_ov0 u_ct u_hs x_knd lwFR lwGA lwGB runVA3_30 runVB3_30 8000 1 60 62 1 60 200 (runo3.map (wNo [30, 20])) run_cl_x1 lwF30 [.inr (.inr (30, [(lSy 14)])), .inl (lAdd (lSy 24) (lSc (-1) (lSy 14))), .inl (lAdd (lSc (-1) (lSy 24)) (lSy 14)), .inr (.inl (1001, (lAdd (lSc (-1) (lSy 24)) (lAdd (lSy 11) (lK (-1)))))), .inl (lAdd (lSc (-1) (lSy 24)) (lAdd (lSy 11) (lK (-1)))), .inr (.inl (0, (lSy 14))), .inr (.inr (12, [(lSy 24), (lSy 14)])), .inr (.inr (12, [(lSy 14), (lSy 24)])), .inr (.inr (15, [(lSy 24), (lSy 14)])), .inr (.inr (15, [(lSy 14), (lSy 24)])), .inr (.inr (31, [(lSy 24), (lSy 14)])), .inr (.inr (31, [(lSy 14), (lSy 24)])), .inr (.inr (29, [])), .inr (.inl (2008, lK 0))] = true := by decide +kernel
set_option maxRecDepth 1000000 in
theorem runE3R20 : wRkE x_KT x_tb x_tyl x_ov0 u_ct u_hs x_knd lwFR lwGA lwGB runVA3_20 runVB3_20 8000 1 60 62 1 60 200 (runo3.map (wNo [30, 20])) run_cl_x1 lwF20 [.inl (lAdd (lSy 24) (lSc (-1) (lSy 11))), .inr (.inl (1001, (lAdd (lSy 24) (lAdd (lSc (-1) (lSy 14)) (lK (-1)))))), .inr (.inr (17, []))] = true := by decide +kernel
theorem nightNL0 : wRlk 19 31 46 rrWA rrWB nightNX0.2.1 nightNX0.2.2.1 nightNX0.2.2.2.1 nightNX0.2.2.2.2 rr_in = true := by decide +kernel
set_option maxRecDepth 1000000 in
theorem nightNE1q : wEdQ lwTch 44 x_KT x_tb x_tyl x_ov0 u_ct u_hs x_knd lwFR lwGA lwGB 14 30 46 nightNWA1 nightNWB1 8000 1 60 89 1 60 220 nightN_in [] nightNo1 = true := by decide +kernel
theorem nightNE1 : wEd x_KT x_tb x_tyl x_ov0 u_ct u_hs x_knd lwFR lwGA lwGB 14 30 46 nightNWA1 nightNWB1 8000 1 60 89 1 60 220 nightN_in [] nightNo1 = true := wEdQ_ok lwTchOk nightNE1q
end XRuC24
