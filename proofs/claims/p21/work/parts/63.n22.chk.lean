/-! Runs: checks, 22. -/
noncomputable section XRuC22
set_option maxRecDepth 1000000 in
theorem mrE62q : wEdQ lwTch 43 x_KT x_tb x_tyl x_ov0 u_ct u_hs x_knd lwFR lwGA lwGB 11 26 43 mrWA62 mrWB62 8000 1 60 64 1 60 203 mr_c0RR_FU [] mro62 = true := by decide +kernel
theorem mrE62 : wEd x_KT x_tb x_tyl x_ov0 u_ct u_hs x_knd lwFR lwGA lwGB 11 26 43 mrWA62 mrWB62 8000 1 60 64 1 60 203 mr_c0RR_FU [] mro62 = true := wEdQ_ok lwTchOk mrE62q
set_option maxRecDepth 1000000 in
theorem mrE63q : wEdQ lwTch 43 x_KT x_tb x_tyl x_ov0 u_ct u_hs x_knd lwFR lwGA lwGB 11 26 43 mrWA63 mrWB63 8000 1 60 64 1 60 203 mr_c0RO_R [.inr (.inl (1001, (lAdd (lSc (-1) (lSy 11)) (lK 148))))] mro63 = true := by decide +kernel
theorem mrE63 : wEd x_KT x_tb x_tyl x_ov0 u_ct u_hs x_knd lwFR lwGA lwGB 11 26 43 mrWA63 mrWB63 8000 1 60 64 1 60 203 mr_c0RO_R [.inr (.inl (1001, (lAdd (lSc (-1) (lSy 11)) (lK 148))))] mro63 = true := wEdQ_ok lwTchOk mrE63q
set_option maxRecDepth 1000000 in
theorem mrE64q : wEdQ lwTch 43 x_KT x_tb x_tyl x_ov0 u_ct u_hs x_knd lwFR lwGA lwGB 11 26 43 mrWA64 mrWB64 8000 1 60 64 1 60 203 mr_c0RO_O [.inr (.inl (1001, (lAdd (lSc (-1) (lSy 11)) (lK 148))))] mro64 = true := by decide +kernel
theorem mrE64 : wEd x_KT x_tb x_tyl x_ov0 u_ct u_hs x_knd lwFR lwGA lwGB 11 26 43 mrWA64 mrWB64 8000 1 60 64 1 60 203 mr_c0RO_O [.inr (.inl (1001, (lAdd (lSc (-1) (lSy 11)) (lK 148))))] mro64 = true := wEdQ_ok lwTchOk mrE64q
set_option maxRecDepth 1000000 in
theorem mrE65q : wEdQ lwTch 43 x_KT x_tb x_tyl x_ov0 u_ct u_hs x_knd lwFR lwGA lwGB 11 26 43 mrWA65 mrWB65 8000 1 60 64 1 60 203 mr_c0RO_WR [.inr (.inl (1001, (lAdd (lSc (-1) (lSy 11)) (lK 148))))] mro65 = true := by decide +kernel
theorem mrE65 : wEd x_KT x_tb x_tyl x_ov0 u_ct u_hs x_knd lwFR lwGA lwGB 11 26 43 mrWA65 mrWB65 8000 1 60 64 1 60 203 mr_c0RO_WR [.inr (.inl (1001, (lAdd (lSc (-1) (lSy 11)) (lK 148))))] mro65 = true := wEdQ_ok lwTchOk mrE65q
set_option maxRecDepth 1000000 in
theorem mrE66q : wEdQ lwTch 43 x_KT x_tb x_tyl x_ov0 u_ct u_hs x_knd lwFR lwGA lwGB 11 26 43 mrWA66 mrWB66 8000 1 60 64 1 60 203 mr_c0RO_WE [.inr (.inl (1001, (lAdd (lSc (-1) (lSy 11)) (lK 148))))] mro66 = true := by decide +kernel
theorem mrE66 : wEd x_KT x_tb x_tyl x_ov0 u_ct u_hs x_knd lwFR lwGA lwGB 11 26 43 mrWA66 mrWB66 8000 1 60 64 1 60 203 mr_c0RO_WE [.inr (.inl (1001, (lAdd (lSc (-1) (lSy 11)) (lK 148))))] mro66 = true := wEdQ_ok lwTchOk mrE66q
set_option maxRecDepth 1000000 in
theorem mrE67q : wEdQ lwTch 43 x_KT x_tb x_tyl x_ov0 u_ct u_hs x_knd lwFR lwGA lwGB 11 26 43 mrWA67 mrWB67 8000 1 60 64 1 60 203 mr_c0RO_WL [.inr (.inl (1001, (lAdd (lSc (-1) (lSy 11)) (lK 148))))] mro67 = true := by decide +kernel
theorem mrE67 : wEd x_KT x_tb x_tyl x_ov0 u_ct u_hs x_knd lwFR lwGA lwGB 11 26 43 mrWA67 mrWB67 8000 1 60 64 1 60 203 mr_c0RO_WL [.inr (.inl (1001, (lAdd (lSc (-1) (lSy 11)) (lK 148))))] mro67 = true := wEdQ_ok lwTchOk mrE67q
set_option maxRecDepth 1000000 in
theorem mrE68q : wEdQ lwTch 43 x_KT x_tb x_tyl x_ov0 u_ct u_hs x_knd lwFR lwGA lwGB 11 26 43 mrWA68 mrWB68 8000 1 60 64 1 60 203 mr_c0RO_FU [.inr (.inl (1001, (lAdd (lSc (-1) (lSy 11)) (lK 148))))] mro68 = true := by decide +kernel
theorem mrE68 : wEd x_KT x_tb x_tyl x_ov0 u_ct u_hs x_knd lwFR lwGA lwGB 11 26 43 mrWA68 mrWB68 8000 1 60 64 1 60 203 mr_c0RO_FU [.inr (.inl (1001, (lAdd (lSc (-1) (lSy 11)) (lK 148))))] mro68 = true := wEdQ_ok lwTchOk mrE68q
set_option maxRecDepth 1000000 in
theorem mrE69q : wEdQ lwTch 43 x_KT x_tb x_tyl x_ov0 u_ct u_hs x_knd lwFR lwGA lwGB 11 26 43 mrWA69 mrWB69 8000 1 60 64 1 60 203 mr_c1R_R [.inr (.inl (1001, (lAdd (lSc (-1) (lSy 11)) (lK 148))))] mro69 = true := by decide +kernel
theorem mrE69 : wEd x_KT x_tb x_tyl x_ov0 u_ct u_hs x_knd lwFR lwGA lwGB 11 26 43 mrWA69 mrWB69 8000 1 60 64 1 60 203 mr_c1R_R [.inr (.inl (1001, (lAdd (lSc (-1) (lSy 11)) (lK 148))))] mro69 = true := wEdQ_ok lwTchOk mrE69q
set_option maxRecDepth 1000000 in
theorem mrE70q : wEdQ lwTch 43 x_KT x_tb x_tyl x_ov0 u_ct u_hs x_knd lwFR lwGA lwGB 11 26 43 mrWA70 mrWB70 8000 1 60 64 1 60 203 mr_c1R_O [.inr (.inl (1001, (lAdd (lSc (-1) (lSy 11)) (lK 148))))] mro70 = true := by decide +kernel
theorem mrE70 : wEd x_KT x_tb x_tyl x_ov0 u_ct u_hs x_knd lwFR lwGA lwGB 11 26 43 mrWA70 mrWB70 8000 1 60 64 1 60 203 mr_c1R_O [.inr (.inl (1001, (lAdd (lSc (-1) (lSy 11)) (lK 148))))] mro70 = true := wEdQ_ok lwTchOk mrE70q
set_option maxRecDepth 1000000 in
theorem mrE71q : wEdQ lwTch 43 x_KT x_tb x_tyl x_ov0 u_ct u_hs x_knd lwFR lwGA lwGB 11 26 43 mrWA71 mrWB71 8000 1 60 64 1 60 203 mr_c1R_WR [.inr (.inl (1001, (lAdd (lSc (-1) (lSy 11)) (lK 148))))] mro71 = true := by decide +kernel
theorem mrE71 : wEd x_KT x_tb x_tyl x_ov0 u_ct u_hs x_knd lwFR lwGA lwGB 11 26 43 mrWA71 mrWB71 8000 1 60 64 1 60 203 mr_c1R_WR [.inr (.inl (1001, (lAdd (lSc (-1) (lSy 11)) (lK 148))))] mro71 = true := wEdQ_ok lwTchOk mrE71q
set_option maxRecDepth 1000000 in
theorem mrE72q : wEdQ lwTch 43 x_KT x_tb x_tyl x_ov0 u_ct u_hs x_knd lwFR lwGA lwGB 11 26 43 mrWA72 mrWB72 8000 1 60 64 1 60 203 mr_c1R_WE [.inr (.inl (1001, (lAdd (lSc (-1) (lSy 11)) (lK 148))))] mro72 = true := by decide +kernel
theorem mrE72 : wEd x_KT x_tb x_tyl x_ov0 u_ct u_hs x_knd lwFR lwGA lwGB 11 26 43 mrWA72 mrWB72 8000 1 60 64 1 60 203 mr_c1R_WE [.inr (.inl (1001, (lAdd (lSc (-1) (lSy 11)) (lK 148))))] mro72 = true := wEdQ_ok lwTchOk mrE72q
set_option maxRecDepth 1000000 in
theorem mrE73q : wEdQ lwTch 43 x_KT x_tb x_tyl x_ov0 u_ct u_hs x_knd lwFR lwGA lwGB 11 26 43 mrWA73 mrWB73 8000 1 60 64 1 60 203 mr_c1R_WL [.inr (.inl (1001, (lAdd (lSc (-1) (lSy 11)) (lK 148))))] mro73 = true := by decide +kernel
theorem mrE73 : wEd x_KT x_tb x_tyl x_ov0 u_ct u_hs x_knd lwFR lwGA lwGB 11 26 43 mrWA73 mrWB73 8000 1 60 64 1 60 203 mr_c1R_WL [.inr (.inl (1001, (lAdd (lSc (-1) (lSy 11)) (lK 148))))] mro73 = true := wEdQ_ok lwTchOk mrE73q
set_option maxRecDepth 1000000 in
theorem mrE74q : wEdQ lwTch 43 x_KT x_tb x_tyl x_ov0 u_ct u_hs x_knd lwFR lwGA lwGB 11 26 43 mrWA74 mrWB74 8000 1 60 64 1 60 203 mr_c1R_FU [.inr (.inl (1001, (lAdd (lSc (-1) (lSy 11)) (lK 148))))] mro74 = true := by decide +kernel
theorem mrE74 : wEd x_KT x_tb x_tyl x_ov0 u_ct u_hs x_knd lwFR lwGA lwGB 11 26 43 mrWA74 mrWB74 8000 1 60 64 1 60 203 mr_c1R_FU [.inr (.inl (1001, (lAdd (lSc (-1) (lSy 11)) (lK 148))))] mro74 = true := wEdQ_ok lwTchOk mrE74q
set_option maxRecDepth 1000000 in
theorem mrE75q : wEdQ lwTch 43 x_KT x_tb x_tyl x_ov0 u_ct u_hs x_knd lwFR lwGA lwGB 11 26 43 mrWA75 mrWB75 8000 1 60 64 1 60 203 mr_c1O_R [.inr (.inl (1001, (lAdd (lSc (-1) (lSy 11)) (lK 148))))] mro75 = true := by decide +kernel
theorem mrE75 : wEd x_KT x_tb x_tyl x_ov0 u_ct u_hs x_knd lwFR lwGA lwGB 11 26 43 mrWA75 mrWB75 8000 1 60 64 1 60 203 mr_c1O_R [.inr (.inl (1001, (lAdd (lSc (-1) (lSy 11)) (lK 148))))] mro75 = true := wEdQ_ok lwTchOk mrE75q
set_option maxRecDepth 1000000 in
theorem mrE76q : wEdQ lwTch 43 x_KT x_tb x_tyl x_ov0 u_ct u_hs x_knd lwFR lwGA lwGB 11 26 43 mrWA76 mrWB76 8000 1 60 64 1 60 203 mr_c1O_O [.inr (.inl (1001, (lAdd (lSc (-1) (lSy 11)) (lK 148))))] mro76 = true := by decide +kernel
theorem mrE76 : wEd x_KT x_tb x_tyl x_ov0 u_ct u_hs x_knd lwFR lwGA lwGB 11 26 43 mrWA76 mrWB76 8000 1 60 64 1 60 203 mr_c1O_O [.inr (.inl (1001, (lAdd (lSc (-1) (lSy 11)) (lK 148))))] mro76 = true := wEdQ_ok lwTchOk mrE76q
set_option maxRecDepth 1000000 in
theorem mrE77q : wEdQ lwTch 43 x_KT x_tb x_tyl x_ov0 u_ct u_hs x_knd lwFR lwGA lwGB 11 26 43 mrWA77 mrWB77 8000 1 60 64 1 60 203 mr_c1O_WR [.inr (.inl (1001, (lAdd (lSc (-1) (lSy 11)) (lK 148))))] mro77 = true := by decide +kernel
theorem mrE77 : wEd x_KT x_tb x_tyl x_ov0 u_ct u_hs x_knd lwFR lwGA lwGB 11 26 43 mrWA77 mrWB77 8000 1 60 64 1 60 203 mr_c1O_WR [.inr (.inl (1001, (lAdd (lSc (-1) (lSy 11)) (lK 148))))] mro77 = true := wEdQ_ok lwTchOk mrE77q
set_option maxRecDepth 1000000 in
theorem mrE78q : wEdQ lwTch 43 x_KT x_tb x_tyl x_ov0 u_ct u_hs x_knd lwFR lwGA lwGB 11 26 43 mrWA78 mrWB78 8000 1 60 64 1 60 203 mr_c1O_WE [.inr (.inl (1001, (lAdd (lSc (-1) (lSy 11)) (lK 148))))] mro78 = true := by decide +kernel
theorem mrE78 : wEd x_KT x_tb x_tyl x_ov0 u_ct u_hs x_knd lwFR lwGA lwGB 11 26 43 mrWA78 mrWB78 8000 1 60 64 1 60 203 mr_c1O_WE [.inr (.inl (1001, (lAdd (lSc (-1) (lSy 11)) (lK 148))))] mro78 = true := wEdQ_ok lwTchOk mrE78q
set_option maxRecDepth 1000000 in
theorem mrE79q : wEdQ lwTch 43 x_KT x_tb x_tyl x_ov0 u_ct u_hs x_knd lwFR lwGA lwGB 11 26 43 mrWA79 mrWB79 8000 1 60 64 1 60 203 mr_c1O_WL [.inr (.inl (1001, (lAdd (lSc (-1) (lSy 11)) (lK 148))))] mro79 = true := by decide +kernel
theorem mrE79 : wEd x_KT x_tb x_tyl x_ov0 u_ct u_hs x_knd lwFR lwGA lwGB 11 26 43 mrWA79 mrWB79 8000 1 60 64 1 60 203 mr_c1O_WL [.inr (.inl (1001, (lAdd (lSc (-1) (lSy 11)) (lK 148))))] mro79 = true := wEdQ_ok lwTchOk mrE79q
set_option maxRecDepth 1000000 in
theorem mrE80q : wEdQ lwTch 43 x_KT x_tb x_tyl x_ov0 u_ct u_hs x_knd lwFR lwGA lwGB 11 26 43 mrWA80 mrWB80 8000 1 60 64 1 60 203 mr_c1O_FU [.inr (.inl (1001, (lAdd (lSc (-1) (lSy 11)) (lK 148))))] mro80 = true := by decide +kernel
theorem mrE80 : wEd x_KT x_tb x_tyl x_ov0 u_ct u_hs x_knd lwFR lwGA lwGB 11 26 43 mrWA80 mrWB80 8000 1 60 64 1 60 203 mr_c1O_FU [.inr (.inl (1001, (lAdd (lSc (-1) (lSy 11)) (lK 148))))] mro80 = true := wEdQ_ok lwTchOk mrE80q
set_option maxRecDepth 1000000 in
theorem mrE81q : wEdQ lwTch 43 x_KT x_tb x_tyl x_ov0 u_ct u_hs x_knd lwFR lwGA lwGB 11 26 43 mrWA81 mrWB81 8000 1 60 64 1 60 203 mr_OO [] mro81 = true := by decide +kernel
theorem mrE81 : wEd x_KT x_tb x_tyl x_ov0 u_ct u_hs x_knd lwFR lwGA lwGB 11 26 43 mrWA81 mrWB81 8000 1 60 64 1 60 203 mr_OO [] mro81 = true := wEdQ_ok lwTchOk mrE81q
set_option maxRecDepth 1000000 in
theorem lkE0q : wEdQ lwTch 43 x_KT x_tb x_tyl x_ov0 u_ct u_hs x_knd lwFR lwGA lwGB 18 30 45 lkWA0 lkWB0 8000 1 60 83 1 60 211 lk_in [] lko0 = true := by decide +kernel
theorem lkE0 : wEd x_KT x_tb x_tyl x_ov0 u_ct u_hs x_knd lwFR lwGA lwGB 18 30 45 lkWA0 lkWB0 8000 1 60 83 1 60 211 lk_in [] lko0 = true := wEdQ_ok lwTchOk lkE0q
set_option maxRecDepth 1000000 in
theorem lkE1q : wEdQ lwTch 43 x_KT x_tb x_tyl x_ov0 u_ct u_hs x_knd lwFR lwGA lwGB 18 30 45 lkWA1 lkWB1 8000 1 60 83 1 60 211 lk_lp [.inr (.inr (5, [(lSy 6), (lSy 18)])), .inr (.inr (6, [(lSy 6), (lSy 18)])), .inr (.inl (2000, lK 0))] lko1 = true := by decide +kernel
theorem lkE1 : wEd x_KT x_tb x_tyl x_ov0 u_ct u_hs x_knd lwFR lwGA lwGB 18 30 45 lkWA1 lkWB1 8000 1 60 83 1 60 211 lk_lp [.inr (.inr (5, [(lSy 6), (lSy 18)])), .inr (.inr (6, [(lSy 6), (lSy 18)])), .inr (.inl (2000, lK 0))] lko1 = true := wEdQ_ok lwTchOk lkE1q
theorem rrL0 : wRlk 11 26 43 mrWA mrWB rrX0.2.1 rrX0.2.2.1 rrX0.2.2.2.1 rrX0.2.2.2.2 mr_in = true := by decide +kernel
set_option maxRecDepth 1000000 in
theorem rrE1q : wEdQ lwTch 43 x_KT x_tb x_tyl x_ov0 u_ct u_hs x_knd lwFR lwGA lwGB 11 26 43 rrWA1 rrWB1 8000 0 60 64 1 60 202 rr_in [] rro1 = true := by decide +kernel
theorem rrE1 : wEd x_KT x_tb x_tyl x_ov0 u_ct u_hs x_knd lwFR lwGA lwGB 11 26 43 rrWA1 rrWB1 8000 0 60 64 1 60 202 rr_in [] rro1 = true := wEdQ_ok lwTchOk rrE1q
theorem rrL2 : wRlk 18 30 45 lkWA lkWB rrX2.2.1 rrX2.2.2.1 rrX2.2.2.2.1 rrX2.2.2.2.2 lk_in = true := by decide +kernel
set_option maxRecDepth 1000000 in
theorem rrE3q : wEdQ lwTch 43 x_KT x_tb x_tyl x_ov0 u_ct u_hs x_knd lwFR lwGA lwGB 11 26 43 rrWA3 rrWB3 8000 1 60 64 1 60 202 rr_cb_X [.inr (.inr (6, [])), .inr (.inr (14, [(lSy 6)])), .inr (.inr (9, [(lK 0)])), .inr (.inr (10, [(lK 0)])), .inr (.inl (2008, lK 0))] (rro3.map (wNo [5, 9, 6, 10, 7, 8, 20])) = true := by decide +kernel
theorem rrE3 : wEd x_KT x_tb x_tyl x_ov0 u_ct u_hs x_knd lwFR lwGA lwGB 11 26 43 rrWA3 rrWB3 8000 1 60 64 1 60 202 rr_cb_X [.inr (.inr (6, [])), .inr (.inr (14, [(lSy 6)])), .inr (.inr (9, [(lK 0)])), .inr (.inr (10, [(lK 0)])), .inr (.inl (2008, lK 0))] (rro3.map (wNo [5, 9, 6, 10, 7, 8, 20])) = true := wEdQ_ok lwTchOk rrE3q
set_option maxRecDepth 1000000 in
theorem rrE3R20 : wRkE x_KT x_tb x_tyl x_ov0 u_ct u_hs x_knd lwFR lwGA lwGB rrVA3_20 rrVB3_20 8000 1 60 64 1 60 202 (rro3.map (wNo [5, 9, 6, 10, 7, 8, 20])) rr_cb_X lwF20 [.inr (.inr (6, [])), .inr (.inr (14, [(lSy 6)])), .inl (lAdd (lSy 28) (lSc (-1) (lSy 3))), .inr (.inl (1001, (lAdd (lSy 28) (lAdd (lSc (-1) (lSy 6)) (lK (-1)))))), .inr (.inr (20, []))] = true := by decide +kernel
set_option maxRecDepth 1000000 in
theorem rrE4q : wEdQ lwTch 43 x_KT x_tb x_tyl x_ov0 u_ct u_hs x_knd lwFR lwGA lwGB 11 26 43 rrWA4 rrWB4 8000 1 60 64 1 60 202 rr_cl_e0 [] rro4 = true := by decide +kernel
theorem rrE4 : wEd x_KT x_tb x_tyl x_ov0 u_ct u_hs x_knd lwFR lwGA lwGB 11 26 43 rrWA4 rrWB4 8000 1 60 64 1 60 202 rr_cl_e0 [] rro4 = true := wEdQ_ok lwTchOk rrE4q
set_option maxRecDepth 1000000 in
theorem rrE5q : wEdQ lwTch 43 x_KT x_tb x_tyl x_ov0 u_ct u_hs x_knd lwFR lwGA lwGB 11 26 43 rrWA5 rrWB5 8000 1 60 64 1 60 202 rr_cl_e1 [] rro5 = true := by decide +kernel
theorem rrE5 : wEd x_KT x_tb x_tyl x_ov0 u_ct u_hs x_knd lwFR lwGA lwGB 11 26 43 rrWA5 rrWB5 8000 1 60 64 1 60 202 rr_cl_e1 [] rro5 = true := wEdQ_ok lwTchOk rrE5q
theorem runL0 : wRlk 11 26 43 rrWA rrWB runX0.2.1 runX0.2.2.1 runX0.2.2.2.1 runX0.2.2.2.2 rr_in = true := by decide +kernel
set_option maxRecDepth 1000000 in
theorem runE1q : wEdQ lwTch 43 x_KT x_tb x_tyl x_ov0 u_ct u_hs x_knd lwFR lwGA lwGB 5 25 43 runWA1 runWB1 8000 1 60 62 1 60 200 run_in [.inl (lSy 5), .inl (lAdd (lSc (-1) (lSy 5)) (lAdd (lSy 3) (lK (-1)))), .inr (.inr (0, [(lSy 5)]))] runo1 = true := by decide +kernel
theorem runE1 : wEd x_KT x_tb x_tyl x_ov0 u_ct u_hs x_knd lwFR lwGA lwGB 5 25 43 runWA1 runWB1 8000 1 60 62 1 60 200 run_in [.inl (lSy 5), .inl (lAdd (lSc (-1) (lSy 5)) (lAdd (lSy 3) (lK (-1)))), .inr (.inr (0, [(lSy 5)]))] runo1 = true := wEdQ_ok lwTchOk runE1q
set_option maxRecDepth 1000000 in
theorem runE2q : wEdQ lwTch 43 x_KT x_tb x_tyl x_ov0 u_ct u_hs x_knd lwFR lwGA lwGB 5 25 43 runWA2 runWB2 8000 1 60 62 1 60 200 run_cl_x0 [] runo2 = true := by decide +kernel
theorem runE2 : wEd x_KT x_tb x_tyl x_ov0 u_ct u_hs x_knd lwFR lwGA lwGB 5 25 43 runWA2 runWB2 8000 1 60 62 1 60 200 run_cl_x0 [] runo2 = true := wEdQ_ok lwTchOk runE2q
set_option maxRecDepth 1000000 in
theorem runE3q : wEdQ lwTch 43 x_KT x_tb x_tyl x_ov0 u_ct u_hs x_knd lwFR lwGA lwGB 5 25 43 runWA3 runWB3 8000 1 60 62 1 60 200 run_cl_x1 [] runo3 = true := by decide +kernel
theorem runE3 : wEd x_KT x_tb x_tyl x_ov0 u_ct u_hs x_knd lwFR lwGA lwGB 5 25 43 runWA3 runWB3 8000 1 60 62 1 60 200 run_cl_x1 [] runo3 = true := wEdQ_ok lwTchOk runE3q
theorem nightNL0 : wRlk 11 26 43 rrWA rrWB nightNX0.2.1 nightNX0.2.2.1 nightNX0.2.2.2.1 nightNX0.2.2.2.2 rr_in = true := by decide +kernel
set_option maxRecDepth 1000000 in
theorem nightNE1q : wEdQ lwTch 43 x_KT x_tb x_tyl x_ov0 u_ct u_hs x_knd lwFR lwGA lwGB 6 25 43 nightNWA1 nightNWB1 8000 1 60 89 1 60 220 nightN_in [] nightNo1 = true := by decide +kernel
theorem nightNE1 : wEd x_KT x_tb x_tyl x_ov0 u_ct u_hs x_knd lwFR lwGA lwGB 6 25 43 nightNWA1 nightNWB1 8000 1 60 89 1 60 220 nightN_in [] nightNo1 = true := wEdQ_ok lwTchOk nightNE1q
set_option maxRecDepth 1000000 in
theorem nightNE2q : wEdQ lwTch 43 x_KT x_tb x_tyl x_ov0 u_ct u_hs x_knd lwFR lwGA lwGB 6 25 43 nightNWA2 nightNWB2 8000 1 60 89 1 60 220 nightN_lp [.inl (lAdd (lSc (-1) (lSy 7)) (lAdd (lSy 3) (lK (-1)))), .inr (.inl (1001, (lAdd (lSc (-1) (lSy 7)) (lK 11)))), .inr (.inr (0, [(lSy 7)])), .inr (.inr (11, [(lSy 7)]))] (nightNo2.map (wNo [5, 6, 7, 9, 10, 8, 20])) = true := by decide +kernel
theorem nightNE2 : wEd x_KT x_tb x_tyl x_ov0 u_ct u_hs x_knd lwFR lwGA lwGB 6 25 43 nightNWA2 nightNWB2 8000 1 60 89 1 60 220 nightN_lp [.inl (lAdd (lSc (-1) (lSy 7)) (lAdd (lSy 3) (lK (-1)))), .inr (.inl (1001, (lAdd (lSc (-1) (lSy 7)) (lK 11)))), .inr (.inr (0, [(lSy 7)])), .inr (.inr (11, [(lSy 7)]))] (nightNo2.map (wNo [5, 6, 7, 9, 10, 8, 20])) = true := wEdQ_ok lwTchOk nightNE2q
set_option maxRecDepth 1000000 in
theorem nightNE2R20 : wRkE x_KT x_tb x_tyl x_ov0 u_ct u_hs x_knd lwFR lwGA lwGB nightNVA2_20 nightNVB2_20 8000 1 60 89 1 60 220 (nightNo2.map (wNo [5, 6, 7, 9, 10, 8, 20])) nightN_lp lwF20 [.inl (lAdd (lSc (-1) (lSy 7)) (lAdd (lSy 3) (lK (-1)))), .inr (.inl (1001, (lAdd (lSc (-1) (lSy 7)) (lK 11)))), .inr (.inr (0, [(lSy 7)])), .inr (.inr (11, [(lSy 7)])), .inl (lAdd (lSy 8) (lSc (-1) (lSy 3))), .inr (.inl (1001, (lAdd (lSy 8) (lAdd (lSc (-1) (lSy 7)) (lK (-1)))))), .inr (.inr (20, []))] = true := by decide +kernel
set_option maxRecDepth 1000000 in
theorem nightNE3q : wEdQ lwTch 43 x_KT x_tb x_tyl x_ov0 u_ct u_hs x_knd lwFR lwGA lwGB 6 25 43 nightNWA3 nightNWB3 8000 1 60 89 1 60 220 nightN_cl_x0 [.inr (.inr (0, [(lSy 6)])), .inr (.inl (2008, lK 0))] nightNo3 = true := by decide +kernel
theorem nightNE3 : wEd x_KT x_tb x_tyl x_ov0 u_ct u_hs x_knd lwFR lwGA lwGB 6 25 43 nightNWA3 nightNWB3 8000 1 60 89 1 60 220 nightN_cl_x0 [.inr (.inr (0, [(lSy 6)])), .inr (.inl (2008, lK 0))] nightNo3 = true := wEdQ_ok lwTchOk nightNE3q
set_option maxRecDepth 1000000 in
theorem nightNE4q : wEdQ lwTch 43 x_KT x_tb x_tyl x_ov0 u_ct u_hs x_knd lwFR lwGA lwGB 6 25 43 nightNWA4 nightNWB4 8000 1 60 89 1 60 220 nightN_cl_x1 [.inr (.inr (0, [(lSy 6)])), .inr (.inl (2008, lK 0))] nightNo4 = true := by decide +kernel
theorem nightNE4 : wEd x_KT x_tb x_tyl x_ov0 u_ct u_hs x_knd lwFR lwGA lwGB 6 25 43 nightNWA4 nightNWB4 8000 1 60 89 1 60 220 nightN_cl_x1 [.inr (.inr (0, [(lSy 6)])), .inr (.inl (2008, lK 0))] nightNo4 = true := wEdQ_ok lwTchOk nightNE4q
theorem nightL0 : wRlk 6 25 43 nightNWA nightNWB nightX0.2.1 nightX0.2.2.1 nightX0.2.2.2.1 nightX0.2.2.2.2 nightN_in = true := by decide +kernel
set_option maxRecDepth 1000000 in
theorem nightE1q : wEdQ lwTch 43 x_KT x_tb x_tyl x_ov0 u_ct u_hs x_knd lwFR lwGA lwGB 5 25 43 nightWA1 nightWB1 8000 1 60 89 1 60 219 night_in [] nighto1 = true := by decide +kernel
theorem nightE1 : wEd x_KT x_tb x_tyl x_ov0 u_ct u_hs x_knd lwFR lwGA lwGB 5 25 43 nightWA1 nightWB1 8000 1 60 89 1 60 219 night_in [] nighto1 = true := wEdQ_ok lwTchOk nightE1q
set_option maxRecDepth 1000000 in
theorem nightE2q : wEdQ lwTch 43 x_KT x_tb x_tyl x_ov0 u_ct u_hs x_knd lwFR lwGA lwGB 5 25 43 nightWA2 nightWB2 8000 1 60 89 1 60 219 night_cb_out [] nighto2 = true := by decide +kernel
theorem nightE2 : wEd x_KT x_tb x_tyl x_ov0 u_ct u_hs x_knd lwFR lwGA lwGB 5 25 43 nightWA2 nightWB2 8000 1 60 89 1 60 219 night_cb_out [] nighto2 = true := wEdQ_ok lwTchOk nightE2q
set_option maxRecDepth 1000000 in
theorem doesE0_0 : wEdFQ lwTch 43 [(lAdd (lSy 8) (lK (-2)))] 0 x_KT x_tb x_tyl x_ov0 u_ct u_hs x_knd lwFR lwGA lwGB 5 25 43 doesWA0 doesWB0 8000 1 60 96 1 60 233 does_in [.inl (lSy 5), .inl (lAdd (lSc (-1) (lSy 5)) (lAdd (lSy 3) (lK (-1)))), .inr (.inr (0, [(lSy 5)])), .inl (lSy 8), .inl (lAdd (lSy 8) (lK (-1))), .inl (lAdd (lSy 8) (lK (-2))), .inl (lAdd (lSy 8) (lK (-3))), .inl (lAdd (lSc (-1) (lSy 8)) (lK 3))] doeso0 = true := by decide +kernel
set_option maxRecDepth 1000000 in
theorem doesE0_1 : wEdFQ lwTch 43 [(lAdd (lSy 8) (lK (-2)))] 1 x_KT x_tb x_tyl x_ov0 u_ct u_hs x_knd lwFR lwGA lwGB 5 25 43 doesWA0 doesWB0 8000 1 60 96 1 60 233 does_in [.inl (lSy 5), .inl (lAdd (lSc (-1) (lSy 5)) (lAdd (lSy 3) (lK (-1)))), .inr (.inr (0, [(lSy 5)])), .inl (lSy 8), .inl (lAdd (lSy 8) (lK (-1))), .inl (lAdd (lSy 8) (lK (-2))), .inl (lAdd (lSy 8) (lK (-3))), .inl (lAdd (lSc (-1) (lSy 8)) (lK 3))] doeso0 = true := by decide +kernel
set_option maxRecDepth 1000000 in
theorem doesE0 : wEd x_KT x_tb x_tyl x_ov0 u_ct u_hs x_knd lwFR lwGA lwGB 5 25 43 doesWA0 doesWB0 8000 1 60 96 1 60 233 does_in [.inl (lSy 5), .inl (lAdd (lSc (-1) (lSy 5)) (lAdd (lSy 3) (lK (-1)))), .inr (.inr (0, [(lSy 5)])), .inl (lSy 8), .inl (lAdd (lSy 8) (lK (-1))), .inl (lAdd (lSy 8) (lK (-2))), .inl (lAdd (lSy 8) (lK (-3))), .inl (lAdd (lSc (-1) (lSy 8)) (lK 3))] doeso0 = true := wEd_F [(lAdd (lSy 8) (lK (-2)))] (fun i hi => match i, hi with
  | 0, _ => wEdFQ_ok lwTchOk doesE0_0
  | 1, _ => wEdFQ_ok lwTchOk doesE0_1
  | n + 2, h => absurd h (by
    show ¬ (n + 2 < 2)
    omega))
set_option maxRecDepth 1000000 in
theorem doesE1q : wEdQ lwTch 43 x_KT x_tb x_tyl x_ov0 u_ct u_hs x_knd lwFR lwGA lwGB 5 25 43 doesWA1 doesWB1 8000 1 60 96 1 60 233 does_m0 [.inr (.inr (0, [(lSy 5)]))] (doeso1.map (wNo [0, 20])) = true := by decide +kernel
theorem doesE1 : wEd x_KT x_tb x_tyl x_ov0 u_ct u_hs x_knd lwFR lwGA lwGB 5 25 43 doesWA1 doesWB1 8000 1 60 96 1 60 233 does_m0 [.inr (.inr (0, [(lSy 5)]))] (doeso1.map (wNo [0, 20])) = true := wEdQ_ok lwTchOk doesE1q
set_option maxRecDepth 1000000 in
theorem doesE1R0 : wRkE x_KT x_tb x_tyl x_ov0 u_ct u_hs x_knd lwFR lwGA lwGB doesVA1_0 doesVB1_0 8000 1 60 96 1 60 233 (doeso1.map (wNo [0, 20])) does_m0 lwF0 [.inr (.inr (0, [(lSy 5)])), .inl (lAdd (lSy 9) (lSc (-1) (lSy 5))), .inl (lAdd (lSc (-1) (lSy 9)) (lSy 5)), .inr (.inl (1001, (lAdd (lSc (-1) (lSy 9)) (lAdd (lSy 3) (lK (-1)))))), .inl (lAdd (lSc (-1) (lSy 9)) (lAdd (lSy 3) (lK (-1)))), .inr (.inl (0, (lSy 5))), .inr (.inr (16, [(lSy 9), (lSy 5)])), .inr (.inr (16, [(lSy 5), (lSy 9)])), .inr (.inr (12, [(lSy 9), (lSy 5)])), .inr (.inr (12, [(lSy 5), (lSy 9)])), .inr (.inr (0, []))] = true := by decide +kernel
set_option maxRecDepth 1000000 in
theorem doesE1R20 : wRkE x_KT x_tb x_tyl x_ov0 u_ct u_hs x_knd lwFR lwGA lwGB doesVA1_20 doesVB1_20 8000 1 60 96 1 60 233 (doeso1.map (wNo [0, 20])) does_m0 lwF20 [.inr (.inr (0, [(lSy 5)])), .inl (lAdd (lSy 9) (lSc (-1) (lSy 3))), .inr (.inl (1001, (lAdd (lSy 9) (lAdd (lSc (-1) (lSy 5)) (lK (-1)))))), .inr (.inr (20, []))] = true := by decide +kernel
set_option maxRecDepth 1000000 in
theorem doesE2q : wEdQ lwTch 43 x_KT x_tb x_tyl x_ov0 u_ct u_hs x_knd lwFR lwGA lwGB 5 25 43 doesWA2 doesWB2 8000 1 60 96 1 60 233 does_m1 [.inr (.inr (0, [(lSy 5)]))] (doeso2.map (wNo [0, 20])) = true := by decide +kernel
theorem doesE2 : wEd x_KT x_tb x_tyl x_ov0 u_ct u_hs x_knd lwFR lwGA lwGB 5 25 43 doesWA2 doesWB2 8000 1 60 96 1 60 233 does_m1 [.inr (.inr (0, [(lSy 5)]))] (doeso2.map (wNo [0, 20])) = true := wEdQ_ok lwTchOk doesE2q
set_option maxRecDepth 1000000 in
theorem doesE2R0 : wRkE x_KT x_tb x_tyl x_ov0 u_ct u_hs x_knd lwFR lwGA lwGB doesVA2_0 doesVB2_0 8000 1 60 96 1 60 233 (doeso2.map (wNo [0, 20])) does_m1 lwF0 [.inr (.inr (0, [(lSy 5)])), .inl (lAdd (lSy 9) (lSc (-1) (lSy 5))), .inl (lAdd (lSc (-1) (lSy 9)) (lSy 5)), .inr (.inl (1001, (lAdd (lSc (-1) (lSy 9)) (lAdd (lSy 3) (lK (-1)))))), .inl (lAdd (lSc (-1) (lSy 9)) (lAdd (lSy 3) (lK (-1)))), .inr (.inl (0, (lSy 5))), .inr (.inr (16, [(lSy 9), (lSy 5)])), .inr (.inr (16, [(lSy 5), (lSy 9)])), .inr (.inr (12, [(lSy 9), (lSy 5)])), .inr (.inr (12, [(lSy 5), (lSy 9)])), .inr (.inr (0, []))] = true := by decide +kernel
set_option maxRecDepth 1000000 in
theorem doesE2R20 : wRkE x_KT x_tb x_tyl x_ov0 u_ct u_hs x_knd lwFR lwGA lwGB doesVA2_20 doesVB2_20 8000 1 60 96 1 60 233 (doeso2.map (wNo [0, 20])) does_m1 lwF20 [.inr (.inr (0, [(lSy 5)])), .inl (lAdd (lSy 9) (lSc (-1) (lSy 3))), .inr (.inl (1001, (lAdd (lSy 9) (lAdd (lSc (-1) (lSy 5)) (lK (-1)))))), .inr (.inr (20, []))] = true := by decide +kernel
set_option maxRecDepth 1000000 in
theorem doesE3q : wEdQ lwTch 43 x_KT x_tb x_tyl x_ov0 u_ct u_hs x_knd lwFR lwGA lwGB 5 25 43 doesWA3 doesWB3 8000 1 60 96 1 60 233 does_m2 [.inr (.inr (0, [(lSy 5)])), .inr (.inl (2008, lK 0))] (doeso3.map (wNo [0, 20])) = true := by decide +kernel
theorem doesE3 : wEd x_KT x_tb x_tyl x_ov0 u_ct u_hs x_knd lwFR lwGA lwGB 5 25 43 doesWA3 doesWB3 8000 1 60 96 1 60 233 does_m2 [.inr (.inr (0, [(lSy 5)])), .inr (.inl (2008, lK 0))] (doeso3.map (wNo [0, 20])) = true := wEdQ_ok lwTchOk doesE3q
set_option maxRecDepth 1000000 in
theorem doesE3R0 : wRkE x_KT x_tb x_tyl x_ov0 u_ct u_hs x_knd lwFR lwGA lwGB doesVA3_0 doesVB3_0 8000 1 60 96 1 60 233 (doeso3.map (wNo [0, 20])) does_m2 lwF0 [.inr (.inr (0, [(lSy 5)])), .inr (.inl (2008, lK 0)), .inl (lAdd (lSy 10) (lSc (-1) (lSy 5))), .inl (lAdd (lSc (-1) (lSy 10)) (lSy 5)), .inr (.inl (1001, (lAdd (lSc (-1) (lSy 10)) (lAdd (lSy 3) (lK (-1)))))), .inl (lAdd (lSc (-1) (lSy 10)) (lAdd (lSy 3) (lK (-1)))), .inr (.inl (0, (lSy 5))), .inr (.inr (16, [(lSy 10), (lSy 5)])), .inr (.inr (16, [(lSy 5), (lSy 10)])), .inr (.inr (12, [(lSy 10), (lSy 5)])), .inr (.inr (12, [(lSy 5), (lSy 10)])), .inr (.inr (0, []))] = true := by decide +kernel
set_option maxRecDepth 1000000 in
theorem doesE3R20 : wRkE x_KT x_tb x_tyl x_ov0 u_ct u_hs x_knd lwFR lwGA lwGB doesVA3_20 doesVB3_20 8000 1 60 96 1 60 233 (doeso3.map (wNo [0, 20])) does_m2 lwF20 [.inr (.inr (0, [(lSy 5)])), .inl (lAdd (lSy 10) (lSc (-1) (lSy 3))), .inr (.inl (1001, (lAdd (lSy 10) (lAdd (lSc (-1) (lSy 5)) (lK (-1)))))), .inr (.inr (20, []))] = true := by decide +kernel
set_option maxRecDepth 1000000 in
theorem doesE4q : wEdQ lwTch 43 x_KT x_tb x_tyl x_ov0 u_ct u_hs x_knd lwFR lwGA lwGB 5 25 43 doesWA4 doesWB4 8000 1 60 96 1 60 233 does_m3 [.inr (.inr (0, [(lSy 5)])), .inr (.inl (2008, lK 0))] (doeso4.map (wNo [0, 20])) = true := by decide +kernel
theorem doesE4 : wEd x_KT x_tb x_tyl x_ov0 u_ct u_hs x_knd lwFR lwGA lwGB 5 25 43 doesWA4 doesWB4 8000 1 60 96 1 60 233 does_m3 [.inr (.inr (0, [(lSy 5)])), .inr (.inl (2008, lK 0))] (doeso4.map (wNo [0, 20])) = true := wEdQ_ok lwTchOk doesE4q
set_option maxRecDepth 1000000 in
theorem doesE4R0 : wRkE x_KT x_tb x_tyl x_ov0 u_ct u_hs x_knd lwFR lwGA lwGB doesVA4_0 doesVB4_0 8000 1 60 96 1 60 233 (doeso4.map (wNo [0, 20])) does_m3 lwF0 [.inr (.inr (0, [(lSy 5)])), .inr (.inl (2008, lK 0)), .inl (lAdd (lSy 10) (lSc (-1) (lSy 5))), .inl (lAdd (lSc (-1) (lSy 10)) (lSy 5)), .inr (.inl (1001, (lAdd (lSc (-1) (lSy 10)) (lAdd (lSy 3) (lK (-1)))))), .inl (lAdd (lSc (-1) (lSy 10)) (lAdd (lSy 3) (lK (-1)))), .inr (.inl (0, (lSy 5))), .inr (.inr (16, [(lSy 10), (lSy 5)])), .inr (.inr (16, [(lSy 5), (lSy 10)])), .inr (.inr (12, [(lSy 10), (lSy 5)])), .inr (.inr (12, [(lSy 5), (lSy 10)])), .inr (.inr (0, []))] = true := by decide +kernel
end XRuC22
