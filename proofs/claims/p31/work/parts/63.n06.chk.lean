/-! Runs: checks, 6. -/
noncomputable section XRuC6
set_option maxRecDepth 1000000 in
theorem mrE1q : wEdQ lwTch 52 x_KT x_tb x_tyl x_ov0 u_ct u_hs x_knd lwFR lwGA lwGB 13 29 44 mrWA1 mrWB1 8000 0 60 64 1 60 203 mr_EB [] (mro1.map (wNo [33, 34, 38, 39])) = true := by decide +kernel
theorem mrE1 : wEd x_KT x_tb x_tyl x_ov0 u_ct u_hs x_knd lwFR lwGA lwGB 13 29 44 mrWA1 mrWB1 8000 0 60 64 1 60 203 mr_EB [] (mro1.map (wNo [33, 34, 38, 39])) = true := wEdQ_ok lwTchOk mrE1q
set_option maxRecDepth 1000000 in
theorem mrE1G0 : gRk x_KT x_tb x_tyl x_ov0 u_ct u_hs x_knd lwFR lwGA lwGB mrE1G0VA mrE1G0VB 8000 0 60 64 1 60 203 (mro1.map (wNo [33, 34, 38, 39])) mr_EB lwF33 [] [] mrE1G0I = true := by decide +kernel
set_option maxRecDepth 1000000 in
theorem mrE1G1 : gRk x_KT x_tb x_tyl x_ov0 u_ct u_hs x_knd lwFR lwGA lwGB mrE1G1VA mrE1G1VB 8000 0 60 64 1 60 203 (mro1.map (wNo [33, 34, 38, 39])) mr_EB lwF38 [] [] mrE1G1I = true := by decide +kernel
set_option maxRecDepth 1000000 in
theorem runbc : wBc lwN lwFS.length 2 lwTA lwTB lwGA lwGB 7 28 44 u_ps uPA uPB run_in runOX = true := by decide +kernel
set_option maxRecDepth 1000000 in
theorem nightbc : wBc lwN lwFS.length 1 lwTA lwTB lwGA lwGB 7 28 44 u_ps uPA uPB night_in nightOX = true := by decide +kernel
set_option maxRecDepth 1000000 in
theorem doesbc : wBc lwN lwFS.length 4 lwTA lwTB lwGA lwGB 7 28 44 u_ps uPA uPB does_in doesOX = true := by decide +kernel
set_option maxRecDepth 1000000 in
theorem mendbc : wBc lwN lwFS.length 6 lwTA lwTB lwGA lwGB 7 28 44 u_ps uPA uPB mend_in mendOX = true := by decide +kernel
set_option maxRecDepth 1000000 in
theorem mendRulebc : wBc lwN lwFS.length 4 lwTA lwTB lwGA lwGB 7 28 44 u_ps uPA uPB mendRule_in mendRuleOX = true := by decide +kernel
set_option maxRecDepth 1000000 in
theorem testbc : wBc lwN lwFS.length 4 lwTA lwTB lwGA lwGB 7 28 44 u_ps uPA uPB test_in testOX = true := by decide +kernel
set_option maxRecDepth 1000000 in
theorem breaksE0q : wEdQ lwTch 52 x_KT x_tb x_tyl x_ov0 u_ctK2 u_hs x_knd lwFR lwGA lwGB 7 28 44 breaksWA0 breaksWB0 8000 1 60 112 1 60 242 breaks_in [.inl (lSy 7), .inl (lAdd (lSc (-1) (lSy 7)) (lAdd (lSy 5) (lK (-1)))), .inl (lSy 8), .inl (lAdd (lSc (-1) (lSy 8)) (lK 5)), .inl (lSy 11), .inl (lAdd (lSc (-1) (lSy 11)) (lK 1))] breakso0 = true := by decide +kernel
theorem breaksE0 : wEd x_KT x_tb x_tyl x_ov0 u_ctK2 u_hs x_knd lwFR lwGA lwGB 7 28 44 breaksWA0 breaksWB0 8000 1 60 112 1 60 242 breaks_in [.inl (lSy 7), .inl (lAdd (lSc (-1) (lSy 7)) (lAdd (lSy 5) (lK (-1)))), .inl (lSy 8), .inl (lAdd (lSc (-1) (lSy 8)) (lK 5)), .inl (lSy 11), .inl (lAdd (lSc (-1) (lSy 11)) (lK 1))] breakso0 = true := wEdQ_ok lwTchOk breaksE0q
set_option maxRecDepth 1000000 in
theorem breaksE1q : wEdQ lwTch 52 x_KT x_tb x_tyl x_ov0 u_ctK2 u_hs x_knd lwFR lwGA lwGB 7 28 44 breaksWA1 breaksWB1 8000 1 60 112 0 60 242 breaks_m [.inr (.inr (0, [(lSy 7)])), .inr (.inr (14, [(lSy 7)])), .inr (.inl (2008, lK 0))] (breakso1.map (wNo [0, 2, 3])) = true := by decide +kernel
theorem breaksE1 : wEd x_KT x_tb x_tyl x_ov0 u_ctK2 u_hs x_knd lwFR lwGA lwGB 7 28 44 breaksWA1 breaksWB1 8000 1 60 112 0 60 242 breaks_m [.inr (.inr (0, [(lSy 7)])), .inr (.inr (14, [(lSy 7)])), .inr (.inl (2008, lK 0))] (breakso1.map (wNo [0, 2, 3])) = true := wEdQ_ok lwTchOk breaksE1q
set_option maxRecDepth 1000000 in
theorem breaksbc : wBcN lwN lwFS.length 5 lwTA lwTB lwGA lwGB 7 28 44 u_ps uPA uPB breaks_in breaksOX = true := by decide +kernel
set_option maxRecDepth 1000000 in
theorem firstbc : wBcN lwN lwFS.length 4 lwTA lwTB lwGA lwGB 7 28 44 u_ps uPA uPB first_in firstOX = true := by decide +kernel
set_option maxRecDepth 1000000 in
theorem besidebc : wBcN lwN lwFS.length 1 lwTA lwTB lwGA lwGB 7 28 44 u_ps uPA uPB beside_in besideOX = true := by decide +kernel
set_option maxRecDepth 1000000 in
theorem sheetbc : wBc lwN lwFS.length 3 lwTA lwTB lwGA lwGB 7 28 44 u_ps uPA uPB sheet_in sheetOX = true := by decide +kernel
set_option maxRecDepth 1000000 in
theorem cellbc : wBc lwN lwFS.length 3 lwTA lwTB lwGA lwGB 7 28 44 u_ps uPA uPB cell_in cellOX = true := by decide +kernel
set_option maxRecDepth 1000000 in
theorem copybc : wBc lwN lwFS.length 5 lwTA lwTB lwGA lwGB 7 28 44 u_ps uPA uPB copy_in copyOX = true := by decide +kernel
set_option maxRecDepth 1000000 in
theorem testYearE0q : wEdQ lwTch 52 x_KT x_tb x_tyl x_ov0 u_ct u_hs x_knd lwFR lwGA lwGB 7 28 44 testYearWA0 testYearWB0 8000 1 60 133 1 60 245 testYear_in [] (testYearo0.map (wNo [30])) = true := by decide +kernel
theorem testYearE0 : wEd x_KT x_tb x_tyl x_ov0 u_ct u_hs x_knd lwFR lwGA lwGB 7 28 44 testYearWA0 testYearWB0 8000 1 60 133 1 60 245 testYear_in [] (testYearo0.map (wNo [30])) = true := wEdQ_ok lwTchOk testYearE0q
set_option maxRecDepth 1000000 in
theorem testYearE0R30 : wRkE x_KT x_tb x_tyl x_ov0 u_ct u_hs x_knd lwFR lwGA lwGB testYearVA0_30 testYearVB0_30 8000 1 60 133 1 60 245 (testYearo0.map (wNo [30])) testYear_in lwF30 [.inl (lAdd (lSy 8) (lSc (-1) (lSy 3))), .inl (lAdd (lSc (-1) (lSy 8)) (lSy 3)), .inr (.inl (0, (lSy 3))), .inr (.inl (1002, (lAdd (lSc (-1) (lSy 8)) (lAdd (lSy 3) (lK (-1)))))), .inr (.inl (1002, (lAdd (lSy 8) (lAdd (lSc (-1) (lSy 3)) (lK (-1)))))), .inr (.inr (30, []))] = true := by decide +kernel
set_option maxRecDepth 1000000 in
theorem testYearbc : wBc lwN lwFS.length 1 lwTA lwTB lwGA lwGB 7 28 44 u_ps uPA uPB testYear_in testYearOX = true := by decide +kernel
set_option maxRecDepth 1000000 in
theorem faultE0q : wEdQ lwTch 52 x_KT x_tb x_tyl x_ov0 u_ct u_hs x_knd lwFR lwGA lwGB 7 28 44 faultWA0 faultWB0 8000 1 60 134 1 60 246 fault_in [] (faulto0.map (wNo [29])) = true := by decide +kernel
theorem faultE0 : wEd x_KT x_tb x_tyl x_ov0 u_ct u_hs x_knd lwFR lwGA lwGB 7 28 44 faultWA0 faultWB0 8000 1 60 134 1 60 246 fault_in [] (faulto0.map (wNo [29])) = true := wEdQ_ok lwTchOk faultE0q
end XRuC6
