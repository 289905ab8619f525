/-! Runs: checks, 6. -/
noncomputable section XRuC6
set_option maxRecDepth 1000000 in
theorem mrE1q : wEdQ lwTch 43 x_KT x_tb x_tyl x_ov0 u_ct u_hs x_knd lwFR lwGA lwGB 11 26 43 mrWA1 mrWB1 8000 0 60 64 1 60 203 mr_EB [] (mro1.map (wNo [33, 34, 38, 39])) = true := by decide +kernel
theorem mrE1 : wEd x_KT x_tb x_tyl x_ov0 u_ct u_hs x_knd lwFR lwGA lwGB 11 26 43 mrWA1 mrWB1 8000 0 60 64 1 60 203 mr_EB [] (mro1.map (wNo [33, 34, 38, 39])) = true := wEdQ_ok lwTchOk mrE1q
set_option maxRecDepth 1000000 in
theorem mrE1G0 : gRk x_KT x_tb x_tyl x_ov0 u_ct u_hs x_knd lwFR lwGA lwGB mrE1G0VA mrE1G0VB 8000 0 60 64 1 60 203 (mro1.map (wNo [33, 34, 38, 39])) mr_EB lwF33 [] [] mrE1G0I = true := by decide +kernel
set_option maxRecDepth 1000000 in
theorem mrE1G1 : gRk x_KT x_tb x_tyl x_ov0 u_ct u_hs x_knd lwFR lwGA lwGB mrE1G1VA mrE1G1VB 8000 0 60 64 1 60 203 (mro1.map (wNo [33, 34, 38, 39])) mr_EB lwF38 [] [] mrE1G1I = true := by decide +kernel
set_option maxRecDepth 1000000 in
theorem runbc : wBc lwN lwFS.length 2 lwTA lwTB lwGA lwGB 5 25 43 u_ps uPA uPB run_in runOX = true := by decide +kernel
set_option maxRecDepth 1000000 in
theorem nightbc : wBc lwN lwFS.length 1 lwTA lwTB lwGA lwGB 5 25 43 u_ps uPA uPB night_in nightOX = true := by decide +kernel
set_option maxRecDepth 1000000 in
theorem doesbc : wBc lwN lwFS.length 4 lwTA lwTB lwGA lwGB 5 25 43 u_ps uPA uPB does_in doesOX = true := by decide +kernel
set_option maxRecDepth 1000000 in
theorem mendbc : wBc lwN lwFS.length 6 lwTA lwTB lwGA lwGB 5 25 43 u_ps uPA uPB mend_in mendOX = true := by decide +kernel
set_option maxRecDepth 1000000 in
theorem mendRulebc : wBc lwN lwFS.length 4 lwTA lwTB lwGA lwGB 5 25 43 u_ps uPA uPB mendRule_in mendRuleOX = true := by decide +kernel
set_option maxRecDepth 1000000 in
theorem testbc : wBc lwN lwFS.length 4 lwTA lwTB lwGA lwGB 5 25 43 u_ps uPA uPB test_in testOX = true := by decide +kernel
set_option maxRecDepth 1000000 in
theorem breaksE0q : wEdQ lwTch 43 x_KT x_tb x_tyl x_ov0 u_ctK2 u_hs x_knd lwFR lwGA lwGB 5 25 43 breaksWA0 breaksWB0 8000 1 60 112 1 60 242 breaks_in [.inl (lSy 5), .inl (lAdd (lSc (-1) (lSy 5)) (lAdd (lSy 3) (lK (-1)))), .inl (lSy 6), .inl (lAdd (lSc (-1) (lSy 6)) (lK 5)), .inl (lSy 9), .inl (lAdd (lSc (-1) (lSy 9)) (lK 1))] breakso0 = true := by decide +kernel
theorem breaksE0 : wEd x_KT x_tb x_tyl x_ov0 u_ctK2 u_hs x_knd lwFR lwGA lwGB 5 25 43 breaksWA0 breaksWB0 8000 1 60 112 1 60 242 breaks_in [.inl (lSy 5), .inl (lAdd (lSc (-1) (lSy 5)) (lAdd (lSy 3) (lK (-1)))), .inl (lSy 6), .inl (lAdd (lSc (-1) (lSy 6)) (lK 5)), .inl (lSy 9), .inl (lAdd (lSc (-1) (lSy 9)) (lK 1))] breakso0 = true := wEdQ_ok lwTchOk breaksE0q
set_option maxRecDepth 1000000 in
theorem breaksE1q : wEdQ lwTch 43 x_KT x_tb x_tyl x_ov0 u_ctK2 u_hs x_knd lwFR lwGA lwGB 5 25 43 breaksWA1 breaksWB1 8000 1 60 112 0 60 242 breaks_m [.inr (.inr (0, [(lSy 5)])), .inr (.inr (14, [(lSy 5)])), .inr (.inl (2008, lK 0))] (breakso1.map (wNo [0, 2, 3])) = true := by decide +kernel
theorem breaksE1 : wEd x_KT x_tb x_tyl x_ov0 u_ctK2 u_hs x_knd lwFR lwGA lwGB 5 25 43 breaksWA1 breaksWB1 8000 1 60 112 0 60 242 breaks_m [.inr (.inr (0, [(lSy 5)])), .inr (.inr (14, [(lSy 5)])), .inr (.inl (2008, lK 0))] (breakso1.map (wNo [0, 2, 3])) = true := wEdQ_ok lwTchOk breaksE1q
set_option maxRecDepth 1000000 in
theorem breaksbc : wBcN lwN lwFS.length 5 lwTA lwTB lwGA lwGB 5 25 43 u_ps uPA uPB breaks_in breaksOX = true := by decide +kernel
set_option maxRecDepth 1000000 in
theorem showsbc : wBcN lwN lwFS.length 2 lwTA lwTB lwGA lwGB 5 25 43 u_ps uPA uPB shows_in showsOX = true := by decide +kernel
set_option maxRecDepth 1000000 in
theorem coverbc : wBcN lwN lwFS.length 1 lwTA lwTB lwGA lwGB 5 25 43 u_ps uPA uPB cover_in coverOX = true := by decide +kernel
set_option maxRecDepth 1000000 in
theorem firstbc : wBcN lwN lwFS.length 4 lwTA lwTB lwGA lwGB 5 25 43 u_ps uPA uPB first_in firstOX = true := by decide +kernel
set_option maxRecDepth 1000000 in
theorem besidebc : wBcN lwN lwFS.length 1 lwTA lwTB lwGA lwGB 5 25 43 u_ps uPA uPB beside_in besideOX = true := by decide +kernel
set_option maxRecDepth 1000000 in
theorem sheetbc : wBc lwN lwFS.length 3 lwTA lwTB lwGA lwGB 5 25 43 u_ps uPA uPB sheet_in sheetOX = true := by decide +kernel
set_option maxRecDepth 1000000 in
theorem cellbc : wBc lwN lwFS.length 3 lwTA lwTB lwGA lwGB 5 25 43 u_ps uPA uPB cell_in cellOX = true := by decide +kernel
set_option maxRecDepth 1000000 in
theorem copybc : wBc lwN lwFS.length 5 lwTA lwTB lwGA lwGB 5 25 43 u_ps uPA uPB copy_in copyOX = true := by decide +kernel
set_option maxRecDepth 1000000 in
theorem bookbc : wBc lwN lwFS.length 2 lwTA lwTB lwGA lwGB 5 25 43 u_ps uPA uPB book_in bookOX = true := by decide +kernel
set_option maxRecDepth 1000000 in
theorem pa0E0q : wEdTQ lwTch 43 x_KT x_tb x_tyl x_ov0 x_cp u_hs x_knd lwFR lwGA lwGB 7 30 44 pa0WA0 pa0WB0 [(2, 1, 1, 0)] 8000 1 60 38 1 60 186 pa0_in pa0o0 = true := by decide +kernel
theorem pa0E0 : wEdT x_KT x_tb x_tyl x_ov0 x_cp u_hs x_knd lwFR lwGA lwGB 7 30 44 pa0WA0 pa0WB0 [(2, 1, 1, 0)] 8000 1 60 38 1 60 186 pa0_in pa0o0 = true := wEdTQ_ok lwTchOk pa0E0q
theorem pa0T0 : wTpk x_KT lwGA lwGB 25 2 1 160 (wUs pa0_in) lwFR = true := by decide +kernel
end XRuC6
