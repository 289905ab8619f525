/-! Runs: checks, 31. -/
noncomputable section XRuC31
set_option maxRecDepth 1000000 in
theorem copyE4q : wEdQ lwTch 43 x_KT x_tb x_tyl x_ov0 u_ct u_hs x_knd lwFR lwGA lwGB 5 25 43 copyWA4 copyWB4 8000 1 60 178 1 60 274 copy_s10 [.inr (.inr (21, [(lK 0)])), .inr (.inr (22, [(lK 0)])), .inr (.inl (2008, lK 0))] copyo4 = true := by decide +kernel
theorem copyE4 : wEd x_KT x_tb x_tyl x_ov0 u_ct u_hs x_knd lwFR lwGA lwGB 5 25 43 copyWA4 copyWB4 8000 1 60 178 1 60 274 copy_s10 [.inr (.inr (21, [(lK 0)])), .inr (.inr (22, [(lK 0)])), .inr (.inl (2008, lK 0))] copyo4 = true := wEdQ_ok lwTchOk copyE4q
set_option maxRecDepth 1000000 in
theorem copyE5q : wEdQ lwTch 43 x_KT x_tb x_tyl x_ov0 u_ct u_hs x_knd lwFR lwGA lwGB 5 25 43 copyWA5 copyWB5 8000 1 60 178 1 60 274 copy_s11 [.inr (.inr (22, [(lK 0)])), .inr (.inl (2008, lK 0))] copyo5 = true := by decide +kernel
theorem copyE5 : wEd x_KT x_tb x_tyl x_ov0 u_ct u_hs x_knd lwFR lwGA lwGB 5 25 43 copyWA5 copyWB5 8000 1 60 178 1 60 274 copy_s11 [.inr (.inr (22, [(lK 0)])), .inr (.inl (2008, lK 0))] copyo5 = true := wEdQ_ok lwTchOk copyE5q
set_option maxRecDepth 1000000 in
theorem copyE6q : wEdQ lwTch 43 x_KT x_tb x_tyl x_ov0 u_ct u_hs x_knd lwFR lwGA lwGB 5 25 43 copyWA6 copyWB6 8000 1 60 178 1 60 274 copy_s12 [.inr (.inr (22, [(lK 0)])), .inr (.inr (23, [(lK 0)])), .inr (.inl (2008, lK 0))] copyo6 = true := by decide +kernel
theorem copyE6 : wEd x_KT x_tb x_tyl x_ov0 u_ct u_hs x_knd lwFR lwGA lwGB 5 25 43 copyWA6 copyWB6 8000 1 60 178 1 60 274 copy_s12 [.inr (.inr (22, [(lK 0)])), .inr (.inr (23, [(lK 0)])), .inr (.inl (2008, lK 0))] copyo6 = true := wEdQ_ok lwTchOk copyE6q
set_option maxRecDepth 1000000 in
theorem copyE7q : wEdQ lwTch 43 x_KT x_tb x_tyl x_ov0 u_ct u_hs x_knd lwFR lwGA lwGB 5 25 43 copyWA7 copyWB7 8000 1 60 178 1 60 274 copy_s20 [.inr (.inr (21, [(lK 0)])), .inr (.inr (23, [(lK 0)])), .inr (.inl (2008, lK 0))] copyo7 = true := by decide +kernel
theorem copyE7 : wEd x_KT x_tb x_tyl x_ov0 u_ct u_hs x_knd lwFR lwGA lwGB 5 25 43 copyWA7 copyWB7 8000 1 60 178 1 60 274 copy_s20 [.inr (.inr (21, [(lK 0)])), .inr (.inr (23, [(lK 0)])), .inr (.inl (2008, lK 0))] copyo7 = true := wEdQ_ok lwTchOk copyE7q
set_option maxRecDepth 1000000 in
theorem copyE8q : wEdQ lwTch 43 x_KT x_tb x_tyl x_ov0 u_ct u_hs x_knd lwFR lwGA lwGB 5 25 43 copyWA8 copyWB8 8000 1 60 178 1 60 274 copy_s21 [.inr (.inr (22, [(lK 0)])), .inr (.inr (23, [(lK 0)])), .inr (.inl (2008, lK 0))] copyo8 = true := by decide +kernel
theorem copyE8 : wEd x_KT x_tb x_tyl x_ov0 u_ct u_hs x_knd lwFR lwGA lwGB 5 25 43 copyWA8 copyWB8 8000 1 60 178 1 60 274 copy_s21 [.inr (.inr (22, [(lK 0)])), .inr (.inr (23, [(lK 0)])), .inr (.inl (2008, lK 0))] copyo8 = true := wEdQ_ok lwTchOk copyE8q
set_option maxRecDepth 1000000 in
theorem copyE9q : wEdQ lwTch 43 x_KT x_tb x_tyl x_ov0 u_ct u_hs x_knd lwFR lwGA lwGB 5 25 43 copyWA9 copyWB9 8000 1 60 178 1 60 274 copy_s22 [.inr (.inr (23, [(lK 0)])), .inr (.inl (2008, lK 0))] copyo9 = true := by decide +kernel
theorem copyE9 : wEd x_KT x_tb x_tyl x_ov0 u_ct u_hs x_knd lwFR lwGA lwGB 5 25 43 copyWA9 copyWB9 8000 1 60 178 1 60 274 copy_s22 [.inr (.inr (23, [(lK 0)])), .inr (.inl (2008, lK 0))] copyo9 = true := wEdQ_ok lwTchOk copyE9q
set_option maxRecDepth 1000000 in
theorem copyE10q : wEdQ lwTch 43 x_KT x_tb x_tyl x_ov0 u_ct u_hs x_knd lwFR lwGA lwGB 5 25 43 copyWA10 copyWB10 8000 1 60 178 1 60 274 copy_m00 [.inr (.inr (4, []))] (copyo10.map (wNo [21, 22, 23])) = true := by decide +kernel
theorem copyE10 : wEd x_KT x_tb x_tyl x_ov0 u_ct u_hs x_knd lwFR lwGA lwGB 5 25 43 copyWA10 copyWB10 8000 1 60 178 1 60 274 copy_m00 [.inr (.inr (4, []))] (copyo10.map (wNo [21, 22, 23])) = true := wEdQ_ok lwTchOk copyE10q
set_option maxRecDepth 1000000 in
theorem copyE10R21 : wRkE x_KT x_tb x_tyl x_ov0 u_ct u_hs x_knd lwFR lwGA lwGB copyVA10_21 copyVB10_21 8000 1 60 178 1 60 274 (copyo10.map (wNo [21, 22, 23])) copy_m00 lwF21 [.inr (.inr (4, [])), .inl (lAdd (lSy 12) (lSc (-1) (lSy 8))), .inl (lAdd (lSc (-1) (lSy 12)) (lAdd (lSy 9) (lAdd (lSy 8) (lK (-1))))), .inr (.inl (1001, (lAdd (lSy 12) (lAdd (lSc (-1) (lSy 8)) (lSy 6))))), .inr (.inl (1001, (lAdd (lSc (-1) (lSy 12)) (lAdd (lSy 8) (lAdd (lSc (-1) (lSy 6)) (lK 39)))))), .inr (.inl (1001, (lAdd (lSc (-1) (lSy 12)) (lAdd (lSy 8) (lAdd (lSc (-1) (lSy 6)) (lK 39)))))), .inr (.inr (21, [(lAdd (lSy 12) (lAdd (lSc (-1) (lSy 8)) (lSy 6)))])), .inr (.inr (21, [(lSy 12)])), .inr (.inl (2008, lK 0))] = true := by decide +kernel
set_option maxRecDepth 1000000 in
theorem copyE10R22 : wRkE x_KT x_tb x_tyl x_ov0 u_ct u_hs x_knd lwFR lwGA lwGB copyVA10_22 copyVB10_22 8000 1 60 178 1 60 274 (copyo10.map (wNo [21, 22, 23])) copy_m00 lwF22 [.inr (.inr (4, [])), .inr (.inr (22, [(lSy 12)]))] = true := by decide +kernel
set_option maxRecDepth 1000000 in
theorem copyE10R23 : wRkE x_KT x_tb x_tyl x_ov0 u_ct u_hs x_knd lwFR lwGA lwGB copyVA10_23 copyVB10_23 8000 1 60 178 1 60 274 (copyo10.map (wNo [21, 22, 23])) copy_m00 lwF23 [.inr (.inr (4, [])), .inr (.inr (23, [(lSy 12)]))] = true := by decide +kernel
set_option maxRecDepth 1000000 in
theorem copyE11q : wEdQ lwTch 43 x_KT x_tb x_tyl x_ov0 u_ct u_hs x_knd lwFR lwGA lwGB 5 25 43 copyWA11 copyWB11 8000 1 60 178 1 60 274 copy_m01 [.inr (.inr (4, []))] (copyo11.map (wNo [21, 22, 23])) = true := by decide +kernel
theorem copyE11 : wEd x_KT x_tb x_tyl x_ov0 u_ct u_hs x_knd lwFR lwGA lwGB 5 25 43 copyWA11 copyWB11 8000 1 60 178 1 60 274 copy_m01 [.inr (.inr (4, []))] (copyo11.map (wNo [21, 22, 23])) = true := wEdQ_ok lwTchOk copyE11q
set_option maxRecDepth 1000000 in
theorem copyE11R21 : wRkE x_KT x_tb x_tyl x_ov0 u_ct u_hs x_knd lwFR lwGA lwGB copyVA11_21 copyVB11_21 8000 1 60 178 1 60 274 (copyo11.map (wNo [21, 22, 23])) copy_m01 lwF21 [.inr (.inr (4, [])), .inr (.inr (21, [(lSy 13)]))] = true := by decide +kernel
set_option maxRecDepth 1000000 in
theorem copyE11R22 : wRkE x_KT x_tb x_tyl x_ov0 u_ct u_hs x_knd lwFR lwGA lwGB copyVA11_22 copyVB11_22 8000 1 60 178 1 60 274 (copyo11.map (wNo [21, 22, 23])) copy_m01 lwF22 [.inr (.inr (4, [])), .inl (lAdd (lSy 13) (lSc (-1) (lSy 8))), .inl (lAdd (lSc (-1) (lSy 13)) (lAdd (lSy 9) (lAdd (lSy 8) (lK (-1))))), .inr (.inl (1001, (lAdd (lSy 13) (lAdd (lSc (-1) (lSy 8)) (lSy 6))))), .inr (.inl (1001, (lAdd (lSc (-1) (lSy 13)) (lAdd (lSy 8) (lAdd (lSc (-1) (lSy 6)) (lK 39)))))), .inr (.inl (1001, (lAdd (lSc (-1) (lSy 13)) (lAdd (lSy 8) (lAdd (lSc (-1) (lSy 6)) (lK 39)))))), .inr (.inr (21, [(lAdd (lSy 13) (lAdd (lSc (-1) (lSy 8)) (lSy 6)))])), .inr (.inr (22, [(lSy 13)])), .inr (.inl (2008, lK 0))] = true := by decide +kernel
set_option maxRecDepth 1000000 in
theorem copyE11R23 : wRkE x_KT x_tb x_tyl x_ov0 u_ct u_hs x_knd lwFR lwGA lwGB copyVA11_23 copyVB11_23 8000 1 60 178 1 60 274 (copyo11.map (wNo [21, 22, 23])) copy_m01 lwF23 [.inr (.inr (4, [])), .inr (.inr (23, [(lSy 13)]))] = true := by decide +kernel
set_option maxRecDepth 1000000 in
theorem copyE12q : wEdQ lwTch 43 x_KT x_tb x_tyl x_ov0 u_ct u_hs x_knd lwFR lwGA lwGB 5 25 43 copyWA12 copyWB12 8000 1 60 178 1 60 274 copy_m02 [.inr (.inr (4, []))] (copyo12.map (wNo [21, 22, 23])) = true := by decide +kernel
theorem copyE12 : wEd x_KT x_tb x_tyl x_ov0 u_ct u_hs x_knd lwFR lwGA lwGB 5 25 43 copyWA12 copyWB12 8000 1 60 178 1 60 274 copy_m02 [.inr (.inr (4, []))] (copyo12.map (wNo [21, 22, 23])) = true := wEdQ_ok lwTchOk copyE12q
set_option maxRecDepth 1000000 in
theorem copyE12R21 : wRkE x_KT x_tb x_tyl x_ov0 u_ct u_hs x_knd lwFR lwGA lwGB copyVA12_21 copyVB12_21 8000 1 60 178 1 60 274 (copyo12.map (wNo [21, 22, 23])) copy_m02 lwF21 [.inr (.inr (4, [])), .inr (.inr (21, [(lSy 13)]))] = true := by decide +kernel
set_option maxRecDepth 1000000 in
theorem copyE12R22 : wRkE x_KT x_tb x_tyl x_ov0 u_ct u_hs x_knd lwFR lwGA lwGB copyVA12_22 copyVB12_22 8000 1 60 178 1 60 274 (copyo12.map (wNo [21, 22, 23])) copy_m02 lwF22 [.inr (.inr (4, [])), .inr (.inr (22, [(lSy 13)]))] = true := by decide +kernel
set_option maxRecDepth 1000000 in
theorem copyE12R23 : wRkE x_KT x_tb x_tyl x_ov0 u_ct u_hs x_knd lwFR lwGA lwGB copyVA12_23 copyVB12_23 8000 1 60 178 1 60 274 (copyo12.map (wNo [21, 22, 23])) copy_m02 lwF23 [.inr (.inr (4, [])), .inl (lAdd (lSy 13) (lSc (-1) (lSy 8))), .inl (lAdd (lSc (-1) (lSy 13)) (lAdd (lSy 9) (lAdd (lSy 8) (lK (-1))))), .inr (.inl (1001, (lAdd (lSy 13) (lAdd (lSc (-1) (lSy 8)) (lSy 6))))), .inr (.inl (1001, (lAdd (lSc (-1) (lSy 13)) (lAdd (lSy 8) (lAdd (lSc (-1) (lSy 6)) (lK 39)))))), .inr (.inl (1001, (lAdd (lSc (-1) (lSy 13)) (lAdd (lSy 8) (lAdd (lSc (-1) (lSy 6)) (lK 39)))))), .inr (.inr (21, [(lAdd (lSy 13) (lAdd (lSc (-1) (lSy 8)) (lSy 6)))])), .inr (.inr (23, [(lSy 13)])), .inr (.inl (2008, lK 0))] = true := by decide +kernel
set_option maxRecDepth 1000000 in
theorem copyE13q : wEdQ lwTch 43 x_KT x_tb x_tyl x_ov0 u_ct u_hs x_knd lwFR lwGA lwGB 5 25 43 copyWA13 copyWB13 8000 1 60 178 1 60 274 copy_m10 [.inr (.inr (4, []))] (copyo13.map (wNo [21, 22, 23])) = true := by decide +kernel
theorem copyE13 : wEd x_KT x_tb x_tyl x_ov0 u_ct u_hs x_knd lwFR lwGA lwGB 5 25 43 copyWA13 copyWB13 8000 1 60 178 1 60 274 copy_m10 [.inr (.inr (4, []))] (copyo13.map (wNo [21, 22, 23])) = true := wEdQ_ok lwTchOk copyE13q
set_option maxRecDepth 1000000 in
theorem copyE13R21 : wRkE x_KT x_tb x_tyl x_ov0 u_ct u_hs x_knd lwFR lwGA lwGB copyVA13_21 copyVB13_21 8000 1 60 178 1 60 274 (copyo13.map (wNo [21, 22, 23])) copy_m10 lwF21 [.inr (.inr (4, [])), .inl (lAdd (lSy 13) (lSc (-1) (lSy 8))), .inl (lAdd (lSc (-1) (lSy 13)) (lAdd (lSy 9) (lAdd (lSy 8) (lK (-1))))), .inr (.inl (1001, (lAdd (lSy 13) (lAdd (lSc (-1) (lSy 8)) (lSy 6))))), .inr (.inl (1001, (lAdd (lSc (-1) (lSy 13)) (lAdd (lSy 8) (lAdd (lSc (-1) (lSy 6)) (lK 39)))))), .inr (.inl (1001, (lAdd (lSc (-1) (lSy 13)) (lAdd (lSy 8) (lAdd (lSc (-1) (lSy 6)) (lK 39)))))), .inr (.inr (22, [(lAdd (lSy 13) (lAdd (lSc (-1) (lSy 8)) (lSy 6)))])), .inr (.inr (21, [(lSy 13)])), .inr (.inl (2008, lK 0))] = true := by decide +kernel
set_option maxRecDepth 1000000 in
theorem copyE13R22 : wRkE x_KT x_tb x_tyl x_ov0 u_ct u_hs x_knd lwFR lwGA lwGB copyVA13_22 copyVB13_22 8000 1 60 178 1 60 274 (copyo13.map (wNo [21, 22, 23])) copy_m10 lwF22 [.inr (.inr (4, [])), .inr (.inr (22, [(lSy 13)]))] = true := by decide +kernel
set_option maxRecDepth 1000000 in
theorem copyE13R23 : wRkE x_KT x_tb x_tyl x_ov0 u_ct u_hs x_knd lwFR lwGA lwGB copyVA13_23 copyVB13_23 8000 1 60 178 1 60 274 (copyo13.map (wNo [21, 22, 23])) copy_m10 lwF23 [.inr (.inr (4, [])), .inr (.inr (23, [(lSy 13)]))] = true := by decide +kernel
set_option maxRecDepth 1000000 in
theorem copyE14q : wEdQ lwTch 43 x_KT x_tb x_tyl x_ov0 u_ct u_hs x_knd lwFR lwGA lwGB 5 25 43 copyWA14 copyWB14 8000 1 60 178 1 60 274 copy_m11 [.inr (.inr (4, []))] (copyo14.map (wNo [21, 22, 23])) = true := by decide +kernel
theorem copyE14 : wEd x_KT x_tb x_tyl x_ov0 u_ct u_hs x_knd lwFR lwGA lwGB 5 25 43 copyWA14 copyWB14 8000 1 60 178 1 60 274 copy_m11 [.inr (.inr (4, []))] (copyo14.map (wNo [21, 22, 23])) = true := wEdQ_ok lwTchOk copyE14q
set_option maxRecDepth 1000000 in
theorem copyE14R21 : wRkE x_KT x_tb x_tyl x_ov0 u_ct u_hs x_knd lwFR lwGA lwGB copyVA14_21 copyVB14_21 8000 1 60 178 1 60 274 (copyo14.map (wNo [21, 22, 23])) copy_m11 lwF21 [.inr (.inr (4, [])), .inr (.inr (21, [(lSy 12)]))] = true := by decide +kernel
set_option maxRecDepth 1000000 in
theorem copyE14R22 : wRkE x_KT x_tb x_tyl x_ov0 u_ct u_hs x_knd lwFR lwGA lwGB copyVA14_22 copyVB14_22 8000 1 60 178 1 60 274 (copyo14.map (wNo [21, 22, 23])) copy_m11 lwF22 [.inr (.inr (4, [])), .inl (lAdd (lSy 12) (lSc (-1) (lSy 8))), .inl (lAdd (lSc (-1) (lSy 12)) (lAdd (lSy 9) (lAdd (lSy 8) (lK (-1))))), .inr (.inl (1001, (lAdd (lSy 12) (lAdd (lSc (-1) (lSy 8)) (lSy 6))))), .inr (.inl (1001, (lAdd (lSc (-1) (lSy 12)) (lAdd (lSy 8) (lAdd (lSc (-1) (lSy 6)) (lK 39)))))), .inr (.inl (1001, (lAdd (lSc (-1) (lSy 12)) (lAdd (lSy 8) (lAdd (lSc (-1) (lSy 6)) (lK 39)))))), .inr (.inr (22, [(lAdd (lSy 12) (lAdd (lSc (-1) (lSy 8)) (lSy 6)))])), .inr (.inr (22, [(lSy 12)])), .inr (.inl (2008, lK 0))] = true := by decide +kernel
set_option maxRecDepth 1000000 in
theorem copyE14R23 : wRkE x_KT x_tb x_tyl x_ov0 u_ct u_hs x_knd lwFR lwGA lwGB copyVA14_23 copyVB14_23 8000 1 60 178 1 60 274 (copyo14.map (wNo [21, 22, 23])) copy_m11 lwF23 [.inr (.inr (4, [])), .inr (.inr (23, [(lSy 12)]))] = true := by decide +kernel
set_option maxRecDepth 1000000 in
theorem copyE15q : wEdQ lwTch 43 x_KT x_tb x_tyl x_ov0 u_ct u_hs x_knd lwFR lwGA lwGB 5 25 43 copyWA15 copyWB15 8000 1 60 178 1 60 274 copy_m12 [.inr (.inr (4, []))] (copyo15.map (wNo [21, 22, 23])) = true := by decide +kernel
theorem copyE15 : wEd x_KT x_tb x_tyl x_ov0 u_ct u_hs x_knd lwFR lwGA lwGB 5 25 43 copyWA15 copyWB15 8000 1 60 178 1 60 274 copy_m12 [.inr (.inr (4, []))] (copyo15.map (wNo [21, 22, 23])) = true := wEdQ_ok lwTchOk copyE15q
set_option maxRecDepth 1000000 in
theorem copyE15R21 : wRkE x_KT x_tb x_tyl x_ov0 u_ct u_hs x_knd lwFR lwGA lwGB copyVA15_21 copyVB15_21 8000 1 60 178 1 60 274 (copyo15.map (wNo [21, 22, 23])) copy_m12 lwF21 [.inr (.inr (4, [])), .inr (.inr (21, [(lSy 13)]))] = true := by decide +kernel
set_option maxRecDepth 1000000 in
theorem copyE15R22 : wRkE x_KT x_tb x_tyl x_ov0 u_ct u_hs x_knd lwFR lwGA lwGB copyVA15_22 copyVB15_22 8000 1 60 178 1 60 274 (copyo15.map (wNo [21, 22, 23])) copy_m12 lwF22 [.inr (.inr (4, [])), .inr (.inr (22, [(lSy 13)]))] = true := by decide +kernel
set_option maxRecDepth 1000000 in
theorem copyE15R23 : wRkE x_KT x_tb x_tyl x_ov0 u_ct u_hs x_knd lwFR lwGA lwGB copyVA15_23 copyVB15_23 8000 1 60 178 1 60 274 (copyo15.map (wNo [21, 22, 23])) copy_m12 lwF23 [.inr (.inr (4, [])), .inl (lAdd (lSy 13) (lSc (-1) (lSy 8))), .inl (lAdd (lSc (-1) (lSy 13)) (lAdd (lSy 9) (lAdd (lSy 8) (lK (-1))))), .inr (.inl (1001, (lAdd (lSy 13) (lAdd (lSc (-1) (lSy 8)) (lSy 6))))), .inr (.inl (1001, (lAdd (lSc (-1) (lSy 13)) (lAdd (lSy 8) (lAdd (lSc (-1) (lSy 6)) (lK 39)))))), .inr (.inl (1001, (lAdd (lSc (-1) (lSy 13)) (lAdd (lSy 8) (lAdd (lSc (-1) (lSy 6)) (lK 39)))))), .inr (.inr (22, [(lAdd (lSy 13) (lAdd (lSc (-1) (lSy 8)) (lSy 6)))])), .inr (.inr (23, [(lSy 13)])), .inr (.inl (2008, lK 0))] = true := by decide +kernel
set_option maxRecDepth 1000000 in
theorem copyE16q : wEdQ lwTch 43 x_KT x_tb x_tyl x_ov0 u_ct u_hs x_knd lwFR lwGA lwGB 5 25 43 copyWA16 copyWB16 8000 1 60 178 1 60 274 copy_m20 [.inr (.inr (4, []))] (copyo16.map (wNo [21, 22, 23])) = true := by decide +kernel
theorem copyE16 : wEd x_KT x_tb x_tyl x_ov0 u_ct u_hs x_knd lwFR lwGA lwGB 5 25 43 copyWA16 copyWB16 8000 1 60 178 1 60 274 copy_m20 [.inr (.inr (4, []))] (copyo16.map (wNo [21, 22, 23])) = true := wEdQ_ok lwTchOk copyE16q
set_option maxRecDepth 1000000 in
theorem copyE16R21 : wRkE x_KT x_tb x_tyl x_ov0 u_ct u_hs x_knd lwFR lwGA lwGB copyVA16_21 copyVB16_21 8000 1 60 178 1 60 274 (copyo16.map (wNo [21, 22, 23])) copy_m20 lwF21 [.inr (.inr (4, [])), .inl (lAdd (lSy 13) (lSc (-1) (lSy 8))), .inl (lAdd (lSc (-1) (lSy 13)) (lAdd (lSy 9) (lAdd (lSy 8) (lK (-1))))), .inr (.inl (1001, (lAdd (lSy 13) (lAdd (lSc (-1) (lSy 8)) (lSy 6))))), .inr (.inl (1001, (lAdd (lSc (-1) (lSy 13)) (lAdd (lSy 8) (lAdd (lSc (-1) (lSy 6)) (lK 39)))))), .inr (.inl (1001, (lAdd (lSc (-1) (lSy 13)) (lAdd (lSy 8) (lAdd (lSc (-1) (lSy 6)) (lK 39)))))), .inr (.inr (23, [(lAdd (lSy 13) (lAdd (lSc (-1) (lSy 8)) (lSy 6)))])), .inr (.inr (21, [(lSy 13)])), .inr (.inl (2008, lK 0))] = true := by decide +kernel
set_option maxRecDepth 1000000 in
theorem copyE16R22 : wRkE x_KT x_tb x_tyl x_ov0 u_ct u_hs x_knd lwFR lwGA lwGB copyVA16_22 copyVB16_22 8000 1 60 178 1 60 274 (copyo16.map (wNo [21, 22, 23])) copy_m20 lwF22 [.inr (.inr (4, [])), .inr (.inr (22, [(lSy 13)]))] = true := by decide +kernel
set_option maxRecDepth 1000000 in
theorem copyE16R23 : wRkE x_KT x_tb x_tyl x_ov0 u_ct u_hs x_knd lwFR lwGA lwGB copyVA16_23 copyVB16_23 8000 1 60 178 1 60 274 (copyo16.map (wNo [21, 22, 23])) copy_m20 lwF23 [.inr (.inr (4, [])), .inr (.inr (23, [(lSy 13)]))] = true := by decide +kernel
set_option maxRecDepth 1000000 in
theorem copyE17q : wEdQ lwTch 43 x_KT x_tb x_tyl x_ov0 u_ct u_hs x_knd lwFR lwGA lwGB 5 25 43 copyWA17 copyWB17 8000 1 60 178 1 60 274 copy_m21 [.inr (.inr (4, []))] (copyo17.map (wNo [21, 22, 23])) = true := by decide +kernel
theorem copyE17 : wEd x_KT x_tb x_tyl x_ov0 u_ct u_hs x_knd lwFR lwGA lwGB 5 25 43 copyWA17 copyWB17 8000 1 60 178 1 60 274 copy_m21 [.inr (.inr (4, []))] (copyo17.map (wNo [21, 22, 23])) = true := wEdQ_ok lwTchOk copyE17q
set_option maxRecDepth 1000000 in
theorem copyE17R21 : wRkE x_KT x_tb x_tyl x_ov0 u_ct u_hs x_knd lwFR lwGA lwGB copyVA17_21 copyVB17_21 8000 1 60 178 1 60 274 (copyo17.map (wNo [21, 22, 23])) copy_m21 lwF21 [.inr (.inr (4, [])), .inr (.inr (21, [(lSy 13)]))] = true := by decide +kernel
set_option maxRecDepth 1000000 in
theorem copyE17R22 : wRkE x_KT x_tb x_tyl x_ov0 u_ct u_hs x_knd lwFR lwGA lwGB copyVA17_22 copyVB17_22 8000 1 60 178 1 60 274 (copyo17.map (wNo [21, 22, 23])) copy_m21 lwF22 [.inr (.inr (4, [])), .inl (lAdd (lSy 13) (lSc (-1) (lSy 8))), .inl (lAdd (lSc (-1) (lSy 13)) (lAdd (lSy 9) (lAdd (lSy 8) (lK (-1))))), .inr (.inl (1001, (lAdd (lSy 13) (lAdd (lSc (-1) (lSy 8)) (lSy 6))))), .inr (.inl (1001, (lAdd (lSc (-1) (lSy 13)) (lAdd (lSy 8) (lAdd (lSc (-1) (lSy 6)) (lK 39)))))), .inr (.inl (1001, (lAdd (lSc (-1) (lSy 13)) (lAdd (lSy 8) (lAdd (lSc (-1) (lSy 6)) (lK 39)))))), .inr (.inr (23, [(lAdd (lSy 13) (lAdd (lSc (-1) (lSy 8)) (lSy 6)))])), .inr (.inr (22, [(lSy 13)])), .inr (.inl (2008, lK 0))] = true := by decide +kernel
set_option maxRecDepth 1000000 in
theorem copyE17R23 : wRkE x_KT x_tb x_tyl x_ov0 u_ct u_hs x_knd lwFR lwGA lwGB copyVA17_23 copyVB17_23 8000 1 60 178 1 60 274 (copyo17.map (wNo [21, 22, 23])) copy_m21 lwF23 [.inr (.inr (4, [])), .inr (.inr (23, [(lSy 13)]))] = true := by decide +kernel
set_option maxRecDepth 1000000 in
theorem copyE18q : wEdQ lwTch 43 x_KT x_tb x_tyl x_ov0 u_ct u_hs x_knd lwFR lwGA lwGB 5 25 43 copyWA18 copyWB18 8000 1 60 178 1 60 274 copy_m22 [.inr (.inr (4, []))] (copyo18.map (wNo [21, 22, 23])) = true := by decide +kernel
theorem copyE18 : wEd x_KT x_tb x_tyl x_ov0 u_ct u_hs x_knd lwFR lwGA lwGB 5 25 43 copyWA18 copyWB18 8000 1 60 178 1 60 274 copy_m22 [.inr (.inr (4, []))] (copyo18.map (wNo [21, 22, 23])) = true := wEdQ_ok lwTchOk copyE18q
set_option maxRecDepth 1000000 in
theorem copyE18R21 : wRkE x_KT x_tb x_tyl x_ov0 u_ct u_hs x_knd lwFR lwGA lwGB copyVA18_21 copyVB18_21 8000 1 60 178 1 60 274 (copyo18.map (wNo [21, 22, 23])) copy_m22 lwF21 [.inr (.inr (4, [])), .inr (.inr (21, [(lSy 12)]))] = true := by decide +kernel
set_option maxRecDepth 1000000 in
theorem copyE18R22 : wRkE x_KT x_tb x_tyl x_ov0 u_ct u_hs x_knd lwFR lwGA lwGB copyVA18_22 copyVB18_22 8000 1 60 178 1 60 274 (copyo18.map (wNo [21, 22, 23])) copy_m22 lwF22 [.inr (.inr (4, [])), .inr (.inr (22, [(lSy 12)]))] = true := by decide +kernel
set_option maxRecDepth 1000000 in
theorem copyE18R23 : wRkE x_KT x_tb x_tyl x_ov0 u_ct u_hs x_knd lwFR lwGA lwGB copyVA18_23 copyVB18_23 8000 1 60 178 1 60 274 (copyo18.map (wNo [21, 22, 23])) copy_m22 lwF23 [.inr (.inr (4, [])), .inl (lAdd (lSy 12) (lSc (-1) (lSy 8))), .inl (lAdd (lSc (-1) (lSy 12)) (lAdd (lSy 9) (lAdd (lSy 8) (lK (-1))))), .inr (.inl (1001, (lAdd (lSy 12) (lAdd (lSc (-1) (lSy 8)) (lSy 6))))), .inr (.inl (1001, (lAdd (lSc (-1) (lSy 12)) (lAdd (lSy 8) (lAdd (lSc (-1) (lSy 6)) (lK 39)))))), .inr (.inl (1001, (lAdd (lSc (-1) (lSy 12)) (lAdd (lSy 8) (lAdd (lSc (-1) (lSy 6)) (lK 39)))))), .inr (.inr (23, [(lAdd (lSy 12) (lAdd (lSc (-1) (lSy 8)) (lSy 6)))])), .inr (.inr (23, [(lSy 12)])), .inr (.inl (2008, lK 0))] = true := by decide +kernel
set_option maxRecDepth 1000000 in
theorem bookE0q : wEdQ lwTch 43 x_KT x_tb x_tyl x_ov0 u_ct u_hs x_knd lwFR lwGA lwGB 5 25 43 bookWA0 bookWB0 8000 1 60 109 1 60 241 book_in [.inr (.inr (29, [(lK 0)])), .inr (.inl (2000, lK 0)), .inl (lSy 5), .inl (lAdd (lSc (-1) (lSy 5)) (lAdd (lSy 2) (lK (-1)))), .inl (lAdd (lSc (-1) (lSy 5)) (lK 199)), .inr (.inr (30, [(lSy 5)])), .inr (.inr (32, [(lSy 5)])), .inl (lSy 6), .inl (lAdd (lSy 6) (lK (-1))), .inl (lAdd (lSy 6) (lK (-2))), .inl (lAdd (lSy 6) (lK (-3))), .inl (lAdd (lSy 6) (lK (-4))), .inr (.inl (2000, lK 0))] booko0 = true := by decide +kernel
theorem bookE0 : wEd x_KT x_tb x_tyl x_ov0 u_ct u_hs x_knd lwFR lwGA lwGB 5 25 43 bookWA0 bookWB0 8000 1 60 109 1 60 241 book_in [.inr (.inr (29, [(lK 0)])), .inr (.inl (2000, lK 0)), .inl (lSy 5), .inl (lAdd (lSc (-1) (lSy 5)) (lAdd (lSy 2) (lK (-1)))), .inl (lAdd (lSc (-1) (lSy 5)) (lK 199)), .inr (.inr (30, [(lSy 5)])), .inr (.inr (32, [(lSy 5)])), .inl (lSy 6), .inl (lAdd (lSy 6) (lK (-1))), .inl (lAdd (lSy 6) (lK (-2))), .inl (lAdd (lSy 6) (lK (-3))), .inl (lAdd (lSy 6) (lK (-4))), .inr (.inl (2000, lK 0))] booko0 = true := wEdQ_ok lwTchOk bookE0q
theorem x_ckA : vMeth x_KT x_tb x_tyl (x_ovS none) (fun _ => []) x_hs x_knd 400 24 x_ck = true := by decide +kernel
theorem x_ckB : vMeth x_KT x_tb x_tyl (x_ovS (some 1200000)) (fun _ => []) x_hs x_knd 400 24 x_ck = true := by decide +kernel
theorem programL0 : wRlk 5 30 44 rdWA rdWB programX0.2.1 programX0.2.2.1 programX0.2.2.2.1 programX0.2.2.2.2 rd_in = true := by decide +kernel
set_option maxRecDepth 1000000 in
theorem programE1q : wEdQ lwTch 43 x_KT x_tb x_tyl x_ov0 u_ct u_hs x_knd lwFR lwGA lwGB 5 25 43 programWA1 programWB1 8000 1 60 13 1 60 182 program_in [.inl (lAdd (lSc (-1) (lSy 3)) (lK 11)), .inr (.inr (28, [])), .inr (.inr (26, [(lSy 3), (lK 12)]))] programo1 = true := by decide +kernel
theorem programE1 : wEd x_KT x_tb x_tyl x_ov0 u_ct u_hs x_knd lwFR lwGA lwGB 5 25 43 programWA1 programWB1 8000 1 60 13 1 60 182 program_in [.inl (lAdd (lSc (-1) (lSy 3)) (lK 11)), .inr (.inr (28, [])), .inr (.inr (26, [(lSy 3), (lK 12)]))] programo1 = true := wEdQ_ok lwTchOk programE1q
set_option maxRecDepth 1000000 in
theorem programE2q : wEdQ lwTch 43 x_KT x_tb x_tyl x_ov0 u_ct u_hs x_knd lwFR lwGA lwGB 5 25 43 programWA2 programWB2 8000 1 60 13 1 60 182 program_cl_no [] programo2 = true := by decide +kernel
theorem programE2 : wEd x_KT x_tb x_tyl x_ov0 u_ct u_hs x_knd lwFR lwGA lwGB 5 25 43 programWA2 programWB2 8000 1 60 13 1 60 182 program_cl_no [] programo2 = true := wEdQ_ok lwTchOk programE2q
set_option maxRecDepth 1000000 in
theorem programE3q : wEdQ lwTch 43 x_KT x_tb x_tyl x_ov0 u_ct u_hs x_knd lwFR lwGA lwGB 5 25 43 programWA3 programWB3 8000 1 60 13 1 60 182 program_cl_ok [] (programo3.map (wNo [5, 6, 7, 8, 9, 10, 11, 15, 14, 27, 20, 1, 2, 0, 3, 12, 16, 18, 28])) = true := by decide +kernel
theorem programE3 : wEd x_KT x_tb x_tyl x_ov0 u_ct u_hs x_knd lwFR lwGA lwGB 5 25 43 programWA3 programWB3 8000 1 60 13 1 60 182 program_cl_ok [] (programo3.map (wNo [5, 6, 7, 8, 9, 10, 11, 15, 14, 27, 20, 1, 2, 0, 3, 12, 16, 18, 28])) = true := wEdQ_ok lwTchOk programE3q
set_option maxRecDepth 1000000 in
theorem programE3R0 : wRkE x_KT x_tb x_tyl x_ov0 u_ct u_hs x_knd lwFR lwGA lwGB programVA3_0 programVB3_0 8000 1 60 13 1 60 182 (programo3.map (wNo [5, 6, 7, 8, 9, 10, 11, 15, 14, 27, 20, 1, 2, 0, 3, 12, 16, 18, 28])) program_cl_ok lwF0 [.inl (lAdd (lSc (-1) (lSy 6)) (lAdd (lSy 3) (lK (-1)))), .inl (lAdd (lSc (-1) (lSy 6)) (lSy 3)), .inr (.inl (0, (lSy 3))), .inr (.inr (4, [])), .inr (.inr (27, [(lSy 6)])), .inr (.inr (11, [(lSy 6)])), .inr (.inr (0, [])), .inr (.inr (20, [(lSy 3)])), .inr (.inl (2008, lK 0))] = true := by decide +kernel
end XRuC31
