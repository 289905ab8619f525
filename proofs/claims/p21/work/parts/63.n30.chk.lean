/-! Runs: checks, 30. -/
noncomputable section XRuC30
set_option maxRecDepth 1000000 in
theorem sheetE7R22 : wRkE x_KT x_tb x_tyl x_ov0 u_ct u_hs x_knd lwFR lwGA lwGB sheetVA7_22 sheetVB7_22 8000 1 60 174 1 60 272 (sheeto7.map (wNo [21, 22, 23])) sheet_c2 lwF22 [.inr (.inr (4, [])), .inr (.inr (22, [(lSy 8)]))] = true := by decide +kernel
set_option maxRecDepth 1000000 in
theorem sheetE7R23 : wRkE x_KT x_tb x_tyl x_ov0 u_ct u_hs x_knd lwFR lwGA lwGB sheetVA7_23 sheetVB7_23 8000 1 60 174 1 60 272 (sheeto7.map (wNo [21, 22, 23])) sheet_c2 lwF23 [.inr (.inr (4, []))] = true := by decide +kernel
set_option maxRecDepth 1000000 in
theorem sheetE8q : wEdQ lwTch 43 x_KT x_tb x_tyl x_ov0 u_ct u_hs x_knd lwFR lwGA lwGB 5 25 43 sheetWA8 sheetWB8 8000 1 60 174 1 60 272 sheet_o2 [.inr (.inr (4, []))] (sheeto8.map (wNo [21, 22])) = true := by decide +kernel
theorem sheetE8 : wEd x_KT x_tb x_tyl x_ov0 u_ct u_hs x_knd lwFR lwGA lwGB 5 25 43 sheetWA8 sheetWB8 8000 1 60 174 1 60 272 sheet_o2 [.inr (.inr (4, []))] (sheeto8.map (wNo [21, 22])) = true := wEdQ_ok lwTchOk sheetE8q
set_option maxRecDepth 1000000 in
theorem sheetE8R21 : wRkE x_KT x_tb x_tyl x_ov0 u_ct u_hs x_knd lwFR lwGA lwGB sheetVA8_21 sheetVB8_21 8000 1 60 174 1 60 272 (sheeto8.map (wNo [21, 22])) sheet_o2 lwF21 [.inr (.inr (4, [])), .inr (.inr (21, [(lSy 8)]))] = true := by decide +kernel
set_option maxRecDepth 1000000 in
theorem sheetE8R22 : wRkE x_KT x_tb x_tyl x_ov0 u_ct u_hs x_knd lwFR lwGA lwGB sheetVA8_22 sheetVB8_22 8000 1 60 174 1 60 272 (sheeto8.map (wNo [21, 22])) sheet_o2 lwF22 [.inr (.inr (4, [])), .inr (.inr (22, [(lSy 8)]))] = true := by decide +kernel
set_option maxRecDepth 1000000 in
theorem sheetE9q : wEdQ lwTch 43 x_KT x_tb x_tyl x_ov0 u_ct u_hs x_knd lwFR lwGA lwGB 5 25 43 sheetWA9 sheetWB9 8000 1 60 174 1 60 272 sheet_z2 [] (sheeto9.map (wNo [23])) = true := by decide +kernel
theorem sheetE9 : wEd x_KT x_tb x_tyl x_ov0 u_ct u_hs x_knd lwFR lwGA lwGB 5 25 43 sheetWA9 sheetWB9 8000 1 60 174 1 60 272 sheet_z2 [] (sheeto9.map (wNo [23])) = true := wEdQ_ok lwTchOk sheetE9q
set_option maxRecDepth 1000000 in
theorem sheetE9R23 : wRkE x_KT x_tb x_tyl x_ov0 u_ct u_hs x_knd lwFR lwGA lwGB sheetVA9_23 sheetVB9_23 8000 1 60 174 1 60 272 (sheeto9.map (wNo [23])) sheet_z2 lwF23 [.inl (lAdd (lSy 7) (lK (-1))), .inl (lAdd (lSy 7) (lK (-2))), .inl (lAdd (lSy 7) (lK (-3))), .inl (lAdd (lSy 7) (lK (-4))), .inl (lAdd (lSy 7) (lK (-5))), .inl (lAdd (lSy 7) (lK (-6))), .inl (lAdd (lSy 7) (lK (-7))), .inl (lAdd (lSy 7) (lK (-8))), .inl (lAdd (lSy 7) (lK (-9))), .inl (lAdd (lSy 7) (lK (-10))), .inl (lAdd (lSy 7) (lK (-11))), .inl (lAdd (lSy 7) (lK (-12))), .inl (lAdd (lSy 7) (lK (-13))), .inl (lAdd (lSy 7) (lK (-14))), .inl (lAdd (lSy 7) (lK (-15))), .inl (lAdd (lSy 7) (lK (-16))), .inl (lAdd (lSy 7) (lK (-17))), .inl (lAdd (lSy 7) (lK (-18))), .inl (lAdd (lSy 7) (lK (-19))), .inl (lAdd (lSy 7) (lK (-20))), .inl (lAdd (lSy 7) (lK (-21))), .inl (lAdd (lSy 7) (lK (-22))), .inl (lAdd (lSy 7) (lK (-23))), .inl (lAdd (lSy 7) (lK (-24))), .inl (lAdd (lSy 7) (lK (-25))), .inl (lAdd (lSy 7) (lK (-26))), .inl (lAdd (lSy 7) (lK (-27))), .inl (lAdd (lSy 7) (lK (-28))), .inl (lAdd (lSy 7) (lK (-29))), .inl (lAdd (lSy 7) (lK (-30))), .inl (lAdd (lSy 7) (lK (-31))), .inl (lAdd (lSy 7) (lK (-32))), .inl (lAdd (lSy 7) (lK (-33))), .inl (lAdd (lSy 7) (lK (-34))), .inl (lAdd (lSy 7) (lK (-35))), .inl (lAdd (lSy 7) (lK (-36))), .inl (lAdd (lSy 7) (lK (-37))), .inl (lAdd (lSy 7) (lK (-38))), .inl (lAdd (lSy 7) (lK (-39))), .inr (.inl (0, (lK 0))), .inr (.inl (0, (lK 1))), .inr (.inl (0, (lK 2))), .inr (.inl (0, (lK 3))), .inr (.inl (0, (lK 4))), .inr (.inl (0, (lK 5))), .inr (.inl (0, (lK 6))), .inr (.inl (0, (lK 7))), .inr (.inl (0, (lK 8))), .inr (.inl (0, (lK 9))), .inr (.inl (0, (lK 10))), .inr (.inl (0, (lK 11))), .inr (.inl (0, (lK 12))), .inr (.inl (0, (lK 13))), .inr (.inl (0, (lK 14))), .inr (.inl (0, (lK 15))), .inr (.inl (0, (lK 16))), .inr (.inl (0, (lK 17))), .inr (.inl (0, (lK 18))), .inr (.inl (0, (lK 19))), .inr (.inl (0, (lK 20))), .inr (.inl (0, (lK 21))), .inr (.inl (0, (lK 22))), .inr (.inl (0, (lK 23))), .inr (.inl (0, (lK 24))), .inr (.inl (0, (lK 25))), .inr (.inl (0, (lK 26))), .inr (.inl (0, (lK 27))), .inr (.inl (0, (lK 28))), .inr (.inl (0, (lK 29))), .inr (.inl (0, (lK 30))), .inr (.inl (0, (lK 31))), .inr (.inl (0, (lK 32))), .inr (.inl (0, (lK 33))), .inr (.inl (0, (lK 34))), .inr (.inl (0, (lK 35))), .inr (.inl (0, (lK 36))), .inr (.inl (0, (lK 37))), .inr (.inl (0, (lK 38))), .inr (.inl (0, (lK 39)))] = true := by decide +kernel
set_option maxRecDepth 1000000 in
theorem cellE0q : wEdQ lwTch 43 x_KT x_tb x_tyl x_ov0 u_ct u_hs x_knd lwFR lwGA lwGB 5 25 43 cellWA0 cellWB0 8000 1 60 176 1 60 273 cell_in [.inl (lSy 5), .inl (lAdd (lSy 5) (lK (-1))), .inl (lAdd (lSy 5) (lK (-2))), .inl (lAdd (lSy 5) (lK (-3)))] cello0 = true := by decide +kernel
theorem cellE0 : wEd x_KT x_tb x_tyl x_ov0 u_ct u_hs x_knd lwFR lwGA lwGB 5 25 43 cellWA0 cellWB0 8000 1 60 176 1 60 273 cell_in [.inl (lSy 5), .inl (lAdd (lSy 5) (lK (-1))), .inl (lAdd (lSy 5) (lK (-2))), .inl (lAdd (lSy 5) (lK (-3)))] cello0 = true := wEdQ_ok lwTchOk cellE0q
set_option maxRecDepth 1000000 in
theorem cellE1q : wEdQ lwTch 43 x_KT x_tb x_tyl x_ov0 u_ct u_hs x_knd lwFR lwGA lwGB 5 25 43 cellWA1 cellWB1 8000 1 60 176 1 60 273 cell_s0 [.inr (.inr (21, [(lK 0)])), .inr (.inl (2008, lK 0))] cello1 = true := by decide +kernel
theorem cellE1 : wEd x_KT x_tb x_tyl x_ov0 u_ct u_hs x_knd lwFR lwGA lwGB 5 25 43 cellWA1 cellWB1 8000 1 60 176 1 60 273 cell_s0 [.inr (.inr (21, [(lK 0)])), .inr (.inl (2008, lK 0))] cello1 = true := wEdQ_ok lwTchOk cellE1q
set_option maxRecDepth 1000000 in
theorem cellE2q : wEdQ lwTch 43 x_KT x_tb x_tyl x_ov0 u_ct u_hs x_knd lwFR lwGA lwGB 5 25 43 cellWA2 cellWB2 8000 1 60 176 1 60 273 cell_s1 [.inr (.inr (22, [(lK 0)])), .inr (.inl (2008, lK 0))] cello2 = true := by decide +kernel
theorem cellE2 : wEd x_KT x_tb x_tyl x_ov0 u_ct u_hs x_knd lwFR lwGA lwGB 5 25 43 cellWA2 cellWB2 8000 1 60 176 1 60 273 cell_s1 [.inr (.inr (22, [(lK 0)])), .inr (.inl (2008, lK 0))] cello2 = true := wEdQ_ok lwTchOk cellE2q
set_option maxRecDepth 1000000 in
theorem cellE3q : wEdQ lwTch 43 x_KT x_tb x_tyl x_ov0 u_ct u_hs x_knd lwFR lwGA lwGB 5 25 43 cellWA3 cellWB3 8000 1 60 176 1 60 273 cell_s2 [.inr (.inr (23, [(lK 0)])), .inr (.inl (2008, lK 0))] cello3 = true := by decide +kernel
theorem cellE3 : wEd x_KT x_tb x_tyl x_ov0 u_ct u_hs x_knd lwFR lwGA lwGB 5 25 43 cellWA3 cellWB3 8000 1 60 176 1 60 273 cell_s2 [.inr (.inr (23, [(lK 0)])), .inr (.inl (2008, lK 0))] cello3 = true := wEdQ_ok lwTchOk cellE3q
set_option maxRecDepth 1000000 in
theorem cellE4q : wEdQ lwTch 43 x_KT x_tb x_tyl x_ov0 u_ct u_hs x_knd lwFR lwGA lwGB 5 25 43 cellWA4 cellWB4 8000 1 60 176 1 60 273 cell_m0 [.inr (.inr (4, []))] (cello4.map (wNo [21, 22, 23])) = true := by decide +kernel
theorem cellE4 : wEd x_KT x_tb x_tyl x_ov0 u_ct u_hs x_knd lwFR lwGA lwGB 5 25 43 cellWA4 cellWB4 8000 1 60 176 1 60 273 cell_m0 [.inr (.inr (4, []))] (cello4.map (wNo [21, 22, 23])) = true := wEdQ_ok lwTchOk cellE4q
set_option maxRecDepth 1000000 in
theorem cellE4R21 : wRkE x_KT x_tb x_tyl x_ov0 u_ct u_hs x_knd lwFR lwGA lwGB cellVA4_21 cellVB4_21 8000 1 60 176 1 60 273 (cello4.map (wNo [21, 22, 23])) cell_m0 lwF21 [.inr (.inr (4, [])), .inl (lAdd (lSy 9) (lSc (-1) (lSy 6))), .inl (lAdd (lSc (-1) (lSy 9)) (lSy 6)), .inr (.inl (0, (lSy 6))), .inr (.inr (21, [])), .inr (.inr (21, [(lSy 6)])), .inr (.inl (2008, lK 0))] = true := by decide +kernel
set_option maxRecDepth 1000000 in
theorem cellE4R22 : wRkE x_KT x_tb x_tyl x_ov0 u_ct u_hs x_knd lwFR lwGA lwGB cellVA4_22 cellVB4_22 8000 1 60 176 1 60 273 (cello4.map (wNo [21, 22, 23])) cell_m0 lwF22 [.inr (.inr (4, [])), .inr (.inr (22, [(lSy 9)]))] = true := by decide +kernel
set_option maxRecDepth 1000000 in
theorem cellE4R23 : wRkE x_KT x_tb x_tyl x_ov0 u_ct u_hs x_knd lwFR lwGA lwGB cellVA4_23 cellVB4_23 8000 1 60 176 1 60 273 (cello4.map (wNo [21, 22, 23])) cell_m0 lwF23 [.inr (.inr (4, [])), .inr (.inr (23, [(lSy 9)]))] = true := by decide +kernel
set_option maxRecDepth 1000000 in
theorem cellE5q : wEdQ lwTch 43 x_KT x_tb x_tyl x_ov0 u_ct u_hs x_knd lwFR lwGA lwGB 5 25 43 cellWA5 cellWB5 8000 1 60 176 1 60 273 cell_m1 [.inr (.inr (4, []))] (cello5.map (wNo [21, 22, 23])) = true := by decide +kernel
theorem cellE5 : wEd x_KT x_tb x_tyl x_ov0 u_ct u_hs x_knd lwFR lwGA lwGB 5 25 43 cellWA5 cellWB5 8000 1 60 176 1 60 273 cell_m1 [.inr (.inr (4, []))] (cello5.map (wNo [21, 22, 23])) = true := wEdQ_ok lwTchOk cellE5q
set_option maxRecDepth 1000000 in
theorem cellE5R21 : wRkE x_KT x_tb x_tyl x_ov0 u_ct u_hs x_knd lwFR lwGA lwGB cellVA5_21 cellVB5_21 8000 1 60 176 1 60 273 (cello5.map (wNo [21, 22, 23])) cell_m1 lwF21 [.inr (.inr (4, [])), .inr (.inr (21, [(lSy 9)]))] = true := by decide +kernel
set_option maxRecDepth 1000000 in
theorem cellE5R22 : wRkE x_KT x_tb x_tyl x_ov0 u_ct u_hs x_knd lwFR lwGA lwGB cellVA5_22 cellVB5_22 8000 1 60 176 1 60 273 (cello5.map (wNo [21, 22, 23])) cell_m1 lwF22 [.inr (.inr (4, [])), .inl (lAdd (lSy 9) (lSc (-1) (lSy 6))), .inl (lAdd (lSc (-1) (lSy 9)) (lSy 6)), .inr (.inl (0, (lSy 6))), .inr (.inr (22, [])), .inr (.inr (22, [(lSy 6)])), .inr (.inl (2008, lK 0))] = true := by decide +kernel
set_option maxRecDepth 1000000 in
theorem cellE5R23 : wRkE x_KT x_tb x_tyl x_ov0 u_ct u_hs x_knd lwFR lwGA lwGB cellVA5_23 cellVB5_23 8000 1 60 176 1 60 273 (cello5.map (wNo [21, 22, 23])) cell_m1 lwF23 [.inr (.inr (4, [])), .inr (.inr (23, [(lSy 9)]))] = true := by decide +kernel
set_option maxRecDepth 1000000 in
theorem cellE6q : wEdQ lwTch 43 x_KT x_tb x_tyl x_ov0 u_ct u_hs x_knd lwFR lwGA lwGB 5 25 43 cellWA6 cellWB6 8000 1 60 176 1 60 273 cell_m2 [.inr (.inr (4, []))] (cello6.map (wNo [21, 22, 23])) = true := by decide +kernel
theorem cellE6 : wEd x_KT x_tb x_tyl x_ov0 u_ct u_hs x_knd lwFR lwGA lwGB 5 25 43 cellWA6 cellWB6 8000 1 60 176 1 60 273 cell_m2 [.inr (.inr (4, []))] (cello6.map (wNo [21, 22, 23])) = true := wEdQ_ok lwTchOk cellE6q
set_option maxRecDepth 1000000 in
theorem cellE6R21 : wRkE x_KT x_tb x_tyl x_ov0 u_ct u_hs x_knd lwFR lwGA lwGB cellVA6_21 cellVB6_21 8000 1 60 176 1 60 273 (cello6.map (wNo [21, 22, 23])) cell_m2 lwF21 [.inr (.inr (4, [])), .inr (.inr (21, [(lSy 9)]))] = true := by decide +kernel
set_option maxRecDepth 1000000 in
theorem cellE6R22 : wRkE x_KT x_tb x_tyl x_ov0 u_ct u_hs x_knd lwFR lwGA lwGB cellVA6_22 cellVB6_22 8000 1 60 176 1 60 273 (cello6.map (wNo [21, 22, 23])) cell_m2 lwF22 [.inr (.inr (4, [])), .inr (.inr (22, [(lSy 9)]))] = true := by decide +kernel
set_option maxRecDepth 1000000 in
theorem cellE6R23 : wRkE x_KT x_tb x_tyl x_ov0 u_ct u_hs x_knd lwFR lwGA lwGB cellVA6_23 cellVB6_23 8000 1 60 176 1 60 273 (cello6.map (wNo [21, 22, 23])) cell_m2 lwF23 [.inr (.inr (4, [])), .inl (lAdd (lSy 9) (lSc (-1) (lSy 6))), .inl (lAdd (lSc (-1) (lSy 9)) (lSy 6)), .inr (.inl (0, (lSy 6))), .inr (.inr (23, [])), .inr (.inr (23, [(lSy 6)])), .inr (.inl (2008, lK 0))] = true := by decide +kernel
set_option maxRecDepth 1000000 in
theorem copyE0q : wEdQ lwTch 43 x_KT x_tb x_tyl x_ov0 u_ct u_hs x_knd lwFR lwGA lwGB 5 25 43 copyWA0 copyWB0 8000 1 60 178 1 60 274 copy_in [.inl (lSy 5), .inl (lAdd (lSy 5) (lK (-1))), .inl (lAdd (lSy 5) (lK (-2))), .inl (lAdd (lSy 5) (lK (-3))), .inl (lSy 7), .inl (lAdd (lSy 7) (lK (-1))), .inl (lAdd (lSy 7) (lK (-2))), .inl (lAdd (lSy 7) (lK (-3)))] copyo0 = true := by decide +kernel
theorem copyE0 : wEd x_KT x_tb x_tyl x_ov0 u_ct u_hs x_knd lwFR lwGA lwGB 5 25 43 copyWA0 copyWB0 8000 1 60 178 1 60 274 copy_in [.inl (lSy 5), .inl (lAdd (lSy 5) (lK (-1))), .inl (lAdd (lSy 5) (lK (-2))), .inl (lAdd (lSy 5) (lK (-3))), .inl (lSy 7), .inl (lAdd (lSy 7) (lK (-1))), .inl (lAdd (lSy 7) (lK (-2))), .inl (lAdd (lSy 7) (lK (-3)))] copyo0 = true := wEdQ_ok lwTchOk copyE0q
set_option maxRecDepth 1000000 in
theorem copyE1q : wEdQ lwTch 43 x_KT x_tb x_tyl x_ov0 u_ct u_hs x_knd lwFR lwGA lwGB 5 25 43 copyWA1 copyWB1 8000 1 60 178 1 60 274 copy_s00 [.inr (.inr (21, [(lK 0)])), .inr (.inl (2008, lK 0))] copyo1 = true := by decide +kernel
theorem copyE1 : wEd x_KT x_tb x_tyl x_ov0 u_ct u_hs x_knd lwFR lwGA lwGB 5 25 43 copyWA1 copyWB1 8000 1 60 178 1 60 274 copy_s00 [.inr (.inr (21, [(lK 0)])), .inr (.inl (2008, lK 0))] copyo1 = true := wEdQ_ok lwTchOk copyE1q
set_option maxRecDepth 1000000 in
theorem copyE2q : wEdQ lwTch 43 x_KT x_tb x_tyl x_ov0 u_ct u_hs x_knd lwFR lwGA lwGB 5 25 43 copyWA2 copyWB2 8000 1 60 178 1 60 274 copy_s01 [.inr (.inr (21, [(lK 0)])), .inr (.inr (22, [(lK 0)])), .inr (.inl (2008, lK 0))] copyo2 = true := by decide +kernel
theorem copyE2 : wEd x_KT x_tb x_tyl x_ov0 u_ct u_hs x_knd lwFR lwGA lwGB 5 25 43 copyWA2 copyWB2 8000 1 60 178 1 60 274 copy_s01 [.inr (.inr (21, [(lK 0)])), .inr (.inr (22, [(lK 0)])), .inr (.inl (2008, lK 0))] copyo2 = true := wEdQ_ok lwTchOk copyE2q
set_option maxRecDepth 1000000 in
theorem copyE3q : wEdQ lwTch 43 x_KT x_tb x_tyl x_ov0 u_ct u_hs x_knd lwFR lwGA lwGB 5 25 43 copyWA3 copyWB3 8000 1 60 178 1 60 274 copy_s02 [.inr (.inr (21, [(lK 0)])), .inr (.inr (23, [(lK 0)])), .inr (.inl (2008, lK 0))] copyo3 = true := by decide +kernel
theorem copyE3 : wEd x_KT x_tb x_tyl x_ov0 u_ct u_hs x_knd lwFR lwGA lwGB 5 25 43 copyWA3 copyWB3 8000 1 60 178 1 60 274 copy_s02 [.inr (.inr (21, [(lK 0)])), .inr (.inr (23, [(lK 0)])), .inr (.inl (2008, lK 0))] copyo3 = true := wEdQ_ok lwTchOk copyE3q
end XRuC30
