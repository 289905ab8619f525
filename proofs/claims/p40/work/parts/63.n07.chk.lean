/-! Runs: checks, 7. -/
noncomputable section XRuC7
set_option maxRecDepth 1000000 in
theorem signE0q : wEdQ lwTch 44 x_KT x_tb x_tyl x_ov0 u_ct u_hs x_knd lwFR lwGA lwGB 13 30 46 signWA0 signWB0 8000 1 60 131 1 60 256 sign_in [] signo0 = true := by decide +kernel
theorem signE0 : wEd x_KT x_tb x_tyl x_ov0 u_ct u_hs x_knd lwFR lwGA lwGB 13 30 46 signWA0 signWB0 8000 1 60 131 1 60 256 sign_in [] signo0 = true := wEdQ_ok lwTchOk signE0q
set_option maxRecDepth 1000000 in
theorem signbc : wBc lwN lwFS.length 5 lwTA lwTB lwGA lwGB 13 30 46 u_ps uPA uPB sign_in signOX = true := by decide +kernel
set_option maxRecDepth 1000000 in
theorem stopE0q : wEdQ lwTch 44 x_KT x_tb x_tyl x_ov0 u_ctK5 u_hs x_knd lwFR lwGA lwGB 13 30 46 stopWA0 stopWB0 8000 1 60 147 1 60 258 stop_in [] stopo0 = true := by decide +kernel
theorem stopE0 : wEd x_KT x_tb x_tyl x_ov0 u_ctK5 u_hs x_knd lwFR lwGA lwGB 13 30 46 stopWA0 stopWB0 8000 1 60 147 1 60 258 stop_in [] stopo0 = true := wEdQ_ok lwTchOk stopE0q
set_option maxRecDepth 1000000 in
theorem stopbc : wBc lwN lwFS.length 4 lwTA lwTB lwGA lwGB 13 30 46 u_ps uPA uPB stop_in stopOX = true := by decide +kernel
set_option maxRecDepth 1000000 in
theorem thingE0q : wEdQ lwTch 44 x_KT x_tb x_tyl x_ov0 u_ct u_hs x_knd lwFR lwGA lwGB 13 30 46 thingWA0 thingWB0 8000 1 60 157 1 60 262 thing_in [] (thingo0.map (wNo [29])) = true := by decide +kernel
theorem thingE0 : wEd x_KT x_tb x_tyl x_ov0 u_ct u_hs x_knd lwFR lwGA lwGB 13 30 46 thingWA0 thingWB0 8000 1 60 157 1 60 262 thing_in [] (thingo0.map (wNo [29])) = true := wEdQ_ok lwTchOk thingE0q
set_option maxRecDepth 1000000 in
theorem thingE0R29 : wRkE x_KT x_tb x_tyl x_ov0 u_ct u_hs x_knd lwFR lwGA lwGB thingVA0_29 thingVB0_29 8000 1 60 157 1 60 262 (thingo0.map (wNo [29])) thing_in lwF29 [.inl (lAdd (lSy 15) (lSc (-1) (lSy 4))), .inl (lAdd (lSc (-1) (lSy 15)) (lSy 4)), .inr (.inl (0, (lSy 4))), .inr (.inr (29, [])), .inr (.inr (29, [(lSy 4)]))] = true := by decide +kernel
set_option maxRecDepth 1000000 in
theorem thingbc : wBc lwN lwFS.length 2 lwTA lwTB lwGA lwGB 13 30 46 u_ps uPA uPB thing_in thingOX = true := by decide +kernel
set_option maxRecDepth 1000000 in
theorem actE0q : wEdQ lwTch 44 x_KT x_tb x_tyl x_ov0 u_ct u_hs x_knd lwFR lwGA lwGB 13 30 46 actWA0 actWB0 8000 0 60 159 0 60 263 act_in [.inl (lSy 13), .inl (lAdd (lSc (-1) (lSy 13)) (lAdd (lSy 4) (lK (-1)))), .inr (.inr (29, [(lSy 13)])), .inl (lAdd (lSy 16) (lK (-1))), .inl (lAdd (lSy 16) (lK (-2))), .inl (lAdd (lSy 16) (lK (-3))), .inl (lAdd (lSy 16) (lK (-4))), .inl (lAdd (lSy 16) (lK (-5))), .inl (lAdd (lSy 16) (lK (-6)))] acto0 = true := by decide +kernel
theorem actE0 : wEd x_KT x_tb x_tyl x_ov0 u_ct u_hs x_knd lwFR lwGA lwGB 13 30 46 actWA0 actWB0 8000 0 60 159 0 60 263 act_in [.inl (lSy 13), .inl (lAdd (lSc (-1) (lSy 13)) (lAdd (lSy 4) (lK (-1)))), .inr (.inr (29, [(lSy 13)])), .inl (lAdd (lSy 16) (lK (-1))), .inl (lAdd (lSy 16) (lK (-2))), .inl (lAdd (lSy 16) (lK (-3))), .inl (lAdd (lSy 16) (lK (-4))), .inl (lAdd (lSy 16) (lK (-5))), .inl (lAdd (lSy 16) (lK (-6)))] acto0 = true := wEdQ_ok lwTchOk actE0q
set_option maxRecDepth 1000000 in
theorem actE1q : wEdQ lwTch 44 x_KT x_tb x_tyl x_ov0 u_ct u_hs x_knd lwFR lwGA lwGB 13 30 46 actWA1 actWB1 8000 1 60 159 1 60 263 act_k0 [.inl (lSy 14), .inl (lAdd (lSy 14) (lK (-1))), .inl (lAdd (lSy 14) (lK (-2))), .inl (lAdd (lSy 14) (lK (-3)))] acto1 = true := by decide +kernel
theorem actE1 : wEd x_KT x_tb x_tyl x_ov0 u_ct u_hs x_knd lwFR lwGA lwGB 13 30 46 actWA1 actWB1 8000 1 60 159 1 60 263 act_k0 [.inl (lSy 14), .inl (lAdd (lSy 14) (lK (-1))), .inl (lAdd (lSy 14) (lK (-2))), .inl (lAdd (lSy 14) (lK (-3)))] acto1 = true := wEdQ_ok lwTchOk actE1q
set_option maxRecDepth 1000000 in
theorem actE2q : wEdQ lwTch 44 x_KT x_tb x_tyl x_ov0 u_ct u_hs x_knd lwFR lwGA lwGB 13 30 46 actWA2 actWB2 8000 1 60 159 1 60 263 act_k1 [.inl (lSy 14), .inl (lAdd (lSy 14) (lK (-1))), .inl (lAdd (lSy 14) (lK (-2))), .inl (lAdd (lSy 14) (lK (-3)))] acto2 = true := by decide +kernel
theorem actE2 : wEd x_KT x_tb x_tyl x_ov0 u_ct u_hs x_knd lwFR lwGA lwGB 13 30 46 actWA2 actWB2 8000 1 60 159 1 60 263 act_k1 [.inl (lSy 14), .inl (lAdd (lSy 14) (lK (-1))), .inl (lAdd (lSy 14) (lK (-2))), .inl (lAdd (lSy 14) (lK (-3)))] acto2 = true := wEdQ_ok lwTchOk actE2q
set_option maxRecDepth 1000000 in
theorem actE3q : wEdQ lwTch 44 x_KT x_tb x_tyl x_ov0 u_ct u_hs x_knd lwFR lwGA lwGB 13 30 46 actWA3 actWB3 8000 1 60 159 1 60 263 act_k2 [.inl (lSy 14), .inl (lAdd (lSy 14) (lK (-1))), .inl (lAdd (lSy 14) (lK (-2))), .inl (lAdd (lSy 14) (lK (-3)))] acto3 = true := by decide +kernel
theorem actE3 : wEd x_KT x_tb x_tyl x_ov0 u_ct u_hs x_knd lwFR lwGA lwGB 13 30 46 actWA3 actWB3 8000 1 60 159 1 60 263 act_k2 [.inl (lSy 14), .inl (lAdd (lSy 14) (lK (-1))), .inl (lAdd (lSy 14) (lK (-2))), .inl (lAdd (lSy 14) (lK (-3)))] acto3 = true := wEdQ_ok lwTchOk actE3q
set_option maxRecDepth 1000000 in
theorem actE4q : wEdQ lwTch 44 x_KT x_tb x_tyl x_ov0 u_ct u_hs x_knd lwFR lwGA lwGB 13 30 46 actWA4 actWB4 8000 1 60 159 1 60 263 act_k3 [.inl (lSy 14), .inl (lAdd (lSy 14) (lK (-1))), .inl (lAdd (lSy 14) (lK (-2))), .inl (lAdd (lSy 14) (lK (-3)))] acto4 = true := by decide +kernel
theorem actE4 : wEd x_KT x_tb x_tyl x_ov0 u_ct u_hs x_knd lwFR lwGA lwGB 13 30 46 actWA4 actWB4 8000 1 60 159 1 60 263 act_k3 [.inl (lSy 14), .inl (lAdd (lSy 14) (lK (-1))), .inl (lAdd (lSy 14) (lK (-2))), .inl (lAdd (lSy 14) (lK (-3)))] acto4 = true := wEdQ_ok lwTchOk actE4q
set_option maxRecDepth 1000000 in
theorem actE5q : wEdQ lwTch 44 x_KT x_tb x_tyl x_ov0 u_ct u_hs x_knd lwFR lwGA lwGB 13 30 46 actWA5 actWB5 8000 1 60 159 1 60 263 act_k4 [.inl (lSy 14), .inl (lAdd (lSy 14) (lK (-1))), .inl (lAdd (lSy 14) (lK (-2))), .inl (lAdd (lSy 14) (lK (-3)))] acto5 = true := by decide +kernel
theorem actE5 : wEd x_KT x_tb x_tyl x_ov0 u_ct u_hs x_knd lwFR lwGA lwGB 13 30 46 actWA5 actWB5 8000 1 60 159 1 60 263 act_k4 [.inl (lSy 14), .inl (lAdd (lSy 14) (lK (-1))), .inl (lAdd (lSy 14) (lK (-2))), .inl (lAdd (lSy 14) (lK (-3)))] acto5 = true := wEdQ_ok lwTchOk actE5q
end XRuC7
