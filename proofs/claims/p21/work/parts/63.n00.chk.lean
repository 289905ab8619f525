/-! Runs: checks, 0. -/
noncomputable section XRuC0
set_option maxRecDepth 1000000 in
theorem feedbc : wBc lwN lwFS.length 2 lwTA lwTB lwGA lwGB 5 25 43 u_ps uPA uPB feed_in feedOX = true := by decide +kernel
set_option maxRecDepth 1000000 in
theorem programbc : wBc lwN lwFS.length 0 lwTA lwTB lwGA lwGB 5 25 43 u_ps uPA uPB program_in programOX = true := by decide +kernel
set_option maxRecDepth 1000000 in
theorem setbc : wBc lwN lwFS.length 3 lwTA lwTB lwGA lwGB 5 25 43 u_ps uPA uPB set_in setOX = true := by decide +kernel
set_option maxRecDepth 1000000 in
theorem inputbc : wBc lwN lwFS.length 2 lwTA lwTB lwGA lwGB 5 25 43 u_ps uPA uPB input_in inputOX = true := by decide +kernel
theorem shelfG7gk : shelfG7OX.all (wGkE lwFR lwGA.length lwGB.length (aI (wNA shelf_in)).length 7 lwF7) = true := by decide +kernel
theorem shelfG8gk : shelfG8OX.all (wGkE lwFR lwGA.length lwGB.length (aI (wNA shelf_in)).length 8 lwF8) = true := by decide +kernel
set_option maxRecDepth 1000000 in
theorem shelfbc : wBc lwN lwFS.length 5 lwTA lwTB lwGA lwGB 5 25 43 u_ps uPA uPB shelf_in shelfOX = true := by decide +kernel
set_option maxRecDepth 1000000 in
theorem mrE0q : wEdQ lwTch 43 x_KT x_tb x_tyl x_ov0 u_ct u_hs x_knd lwFR lwGA lwGB 11 26 43 mrWA0 mrWB0 8000 1 60 64 0 60 203 mr_in [.inr (.inr (0, [(lSy 6)])), .inr (.inr (3, [])), .inr (.inr (4, [])), .inr (.inr (11, [(lSy 6)])), .inl (lSy 11), .inr (.inr (8, [(lSy 6)])), .inr (.inr (12, [(lSy 11), (lSy 6)])), .inr (.inr (12, [(lSy 6), (lSy 11)])), .inr (.inr (9, [(lSy 11)])), .inr (.inr (10, [(lSy 11)])), .inr (.inl (2008, lK 0))] (mro0.map (wNo [40, 41, 42, 35, 36])) = true := by decide +kernel
theorem mrE0 : wEd x_KT x_tb x_tyl x_ov0 u_ct u_hs x_knd lwFR lwGA lwGB 11 26 43 mrWA0 mrWB0 8000 1 60 64 0 60 203 mr_in [.inr (.inr (0, [(lSy 6)])), .inr (.inr (3, [])), .inr (.inr (4, [])), .inr (.inr (11, [(lSy 6)])), .inl (lSy 11), .inr (.inr (8, [(lSy 6)])), .inr (.inr (12, [(lSy 11), (lSy 6)])), .inr (.inr (12, [(lSy 6), (lSy 11)])), .inr (.inr (9, [(lSy 11)])), .inr (.inr (10, [(lSy 11)])), .inr (.inl (2008, lK 0))] (mro0.map (wNo [40, 41, 42, 35, 36])) = true := wEdQ_ok lwTchOk mrE0q
end XRuC0
