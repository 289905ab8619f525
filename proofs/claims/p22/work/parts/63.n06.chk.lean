/-! Runs: checks, 6. -/
noncomputable section XRuC6
set_option maxRecDepth 1000000 in
theorem mrE1q : wEdQ lwTch 48 x_KT x_tb x_tyl x_ov0 u_ct u_hs x_knd lwFR lwGA lwGB 11 25 42 mrWA1 mrWB1 8000 0 60 64 1 60 203 mr_EB [] (mro1.map (wNo [29, 30, 34, 35])) = true := by decide +kernel
theorem mrE1 : wEd x_KT x_tb x_tyl x_ov0 u_ct u_hs x_knd lwFR lwGA lwGB 11 25 42 mrWA1 mrWB1 8000 0 60 64 1 60 203 mr_EB [] (mro1.map (wNo [29, 30, 34, 35])) = true := wEdQ_ok lwTchOk mrE1q
set_option maxRecDepth 1000000 in
theorem mrE1G0 : gRk x_KT x_tb x_tyl x_ov0 u_ct u_hs x_knd lwFR lwGA lwGB mrE1G0VA mrE1G0VB 8000 0 60 64 1 60 203 (mro1.map (wNo [29, 30, 34, 35])) mr_EB lwF29 [] [] mrE1G0I = true := by decide +kernel
set_option maxRecDepth 1000000 in
theorem mrE1G1 : gRk x_KT x_tb x_tyl x_ov0 u_ct u_hs x_knd lwFR lwGA lwGB mrE1G1VA mrE1G1VB 8000 0 60 64 1 60 203 (mro1.map (wNo [29, 30, 34, 35])) mr_EB lwF34 [] [] mrE1G1I = true := by decide +kernel
set_option maxRecDepth 1000000 in
theorem runbc : wBc lwN lwFS.length 2 lwTA lwTB lwGA lwGB 5 24 42 u_ps uPA uPB run_in runOX = true := by decide +kernel
set_option maxRecDepth 1000000 in
theorem nightbc : wBc lwN lwFS.length 1 lwTA lwTB lwGA lwGB 5 24 42 u_ps uPA uPB night_in nightOX = true := by decide +kernel
set_option maxRecDepth 1000000 in
theorem doesbc : wBc lwN lwFS.length 4 lwTA lwTB lwGA lwGB 5 24 42 u_ps uPA uPB does_in doesOX = true := by decide +kernel
set_option maxRecDepth 1000000 in
theorem mendbc : wBc lwN lwFS.length 6 lwTA lwTB lwGA lwGB 5 24 42 u_ps uPA uPB mend_in mendOX = true := by decide +kernel
set_option maxRecDepth 1000000 in
theorem mendRulebc : wBc lwN lwFS.length 4 lwTA lwTB lwGA lwGB 5 24 42 u_ps uPA uPB mendRule_in mendRuleOX = true := by decide +kernel
set_option maxRecDepth 1000000 in
theorem testbc : wBc lwN lwFS.length 4 lwTA lwTB lwGA lwGB 5 24 42 u_ps uPA uPB test_in testOX = true := by decide +kernel
set_option maxRecDepth 1000000 in
theorem showsbc : wBcN lwN lwFS.length 2 lwTA lwTB lwGA lwGB 5 24 42 u_ps uPA uPB shows_in showsOX = true := by decide +kernel
set_option maxRecDepth 1000000 in
theorem coverbc : wBcN lwN lwFS.length 1 lwTA lwTB lwGA lwGB 5 24 42 u_ps uPA uPB cover_in coverOX = true := by decide +kernel
set_option maxRecDepth 1000000 in
theorem firstbc : wBcN lwN lwFS.length 4 lwTA lwTB lwGA lwGB 5 24 42 u_ps uPA uPB first_in firstOX = true := by decide +kernel
set_option maxRecDepth 1000000 in
theorem besidebc : wBcN lwN lwFS.length 1 lwTA lwTB lwGA lwGB 5 24 42 u_ps uPA uPB beside_in besideOX = true := by decide +kernel
set_option maxRecDepth 1000000 in
theorem sheetbc : wBc lwN lwFS.length 3 lwTA lwTB lwGA lwGB 5 24 42 u_ps uPA uPB sheet_in sheetOX = true := by decide +kernel
set_option maxRecDepth 1000000 in
theorem cellbc : wBc lwN lwFS.length 3 lwTA lwTB lwGA lwGB 5 24 42 u_ps uPA uPB cell_in cellOX = true := by decide +kernel
set_option maxRecDepth 1000000 in
theorem copybc : wBc lwN lwFS.length 5 lwTA lwTB lwGA lwGB 5 24 42 u_ps uPA uPB copy_in copyOX = true := by decide +kernel
set_option maxRecDepth 1000000 in
theorem bgE0q : wEdQ lwTch 48 x_KT x_tb x_tyl x_ov0 u_ct u_hs x_knd lwFR lwGA lwGB 27 33 45 bgWA0 bgWB0 8000 1 60 115 0 60 243 bg_in [.inr (.inr (0, [(lSy 6)])), .inr (.inl (2024, lK 0)), .inr (.inr (3, [])), .inr (.inr (4, [])), .inr (.inr (11, [(lSy 6)])), .inr (.inr (14, [(lSy 6)])), .inl (lSy 27), .inr (.inr (8, [(lSy 6)])), .inr (.inr (15, [(lSy 6)])), .inr (.inr (12, [(lSy 27), (lSy 6)])), .inr (.inr (12, [(lSy 6), (lSy 27)])), .inr (.inr (9, [(lSy 27)])), .inr (.inr (15, [(lSy 27)])), .inr (.inl (2008, lK 0))] (bgo0.map (wNo [5, 6, 7, 9, 10, 8, 31, 39, 40])) = true := by decide +kernel
theorem bgE0 : wEd x_KT x_tb x_tyl x_ov0 u_ct u_hs x_knd lwFR lwGA lwGB 27 33 45 bgWA0 bgWB0 8000 1 60 115 0 60 243 bg_in [.inr (.inr (0, [(lSy 6)])), .inr (.inl (2024, lK 0)), .inr (.inr (3, [])), .inr (.inr (4, [])), .inr (.inr (11, [(lSy 6)])), .inr (.inr (14, [(lSy 6)])), .inl (lSy 27), .inr (.inr (8, [(lSy 6)])), .inr (.inr (15, [(lSy 6)])), .inr (.inr (12, [(lSy 27), (lSy 6)])), .inr (.inr (12, [(lSy 6), (lSy 27)])), .inr (.inr (9, [(lSy 27)])), .inr (.inr (15, [(lSy 27)])), .inr (.inl (2008, lK 0))] (bgo0.map (wNo [5, 6, 7, 9, 10, 8, 31, 39, 40])) = true := wEdQ_ok lwTchOk bgE0q
end XRuC6
