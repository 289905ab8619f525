/-! Runs: checks, 23. -/
noncomputable section XRuC23
set_option maxRecDepth 1000000 in
theorem copyE0_3 : wEdF [(lAdd (lSy 7) (lK (-2))), (lAdd (lSy 7) (lK (-1)))] 3 x_KT x_tb x_tyl x_ov0 u_ct u_hs x_knd lwFR lwGA lwGB 5 24 42 copyWA0 copyWB0 8000 1 60 178 1 60 274 copy_in [.inl (lSy 5), .inl (lAdd (lSy 5) (lK (-1))), .inl (lAdd (lSy 5) (lK (-2))), .inl (lAdd (lSy 5) (lK (-3))), .inl (lSy 7), .inl (lAdd (lSy 7) (lK (-1))), .inl (lAdd (lSy 7) (lK (-2))), .inl (lAdd (lSy 7) (lK (-3))), .inr (.inr (21, [(lK 0)])), .inr (.inr (22, [(lK 0)])), .inr (.inr (23, [(lK 0)])), .inr (.inl (2016, lK 0))] copyo0 = true := by decide +kernel
set_option maxRecDepth 1000000 in
theorem copyE0 : wEd x_KT x_tb x_tyl x_ov0 u_ct u_hs x_knd lwFR lwGA lwGB 5 24 42 copyWA0 copyWB0 8000 1 60 178 1 60 274 copy_in [.inl (lSy 5), .inl (lAdd (lSy 5) (lK (-1))), .inl (lAdd (lSy 5) (lK (-2))), .inl (lAdd (lSy 5) (lK (-3))), .inl (lSy 7), .inl (lAdd (lSy 7) (lK (-1))), .inl (lAdd (lSy 7) (lK (-2))), .inl (lAdd (lSy 7) (lK (-3))), .inr (.inr (21, [(lK 0)])), .inr (.inr (22, [(lK 0)])), .inr (.inr (23, [(lK 0)])), .inr (.inl (2016, lK 0))] copyo0 = true := wEd_F [(lAdd (lSy 7) (lK (-2))), (lAdd (lSy 7) (lK (-1)))] (fun i hi => match i, hi with
  | 0, _ => copyE0_0
  | 1, _ => copyE0_1
  | 2, _ => copyE0_2
  | 3, _ => copyE0_3
  | n + 4, h => absurd h (by
    show ¬ (n + 4 < 4)
    omega))
set_option maxRecDepth 1000000 in
theorem copyE1 : wEd x_KT x_tb x_tyl x_ov0 u_ct u_hs x_knd lwFR lwGA lwGB 5 24 42 copyWA1 copyWB1 8000 1 60 178 1 60 274 copy_m00 [.inr (.inr (4, []))] (copyo1.map (wNo [21, 22, 23])) = true := by decide +kernel
set_option maxRecDepth 1000000 in
theorem copyE1R21 : wRkE x_KT x_tb x_tyl x_ov0 u_ct u_hs x_knd lwFR lwGA lwGB copyVA1_21 copyVB1_21 8000 1 60 178 1 60 274 (copyo1.map (wNo [21, 22, 23])) copy_m00 lwF21 [.inr (.inr (4, [])), .inl (lAdd (lSy 12) (lSc (-1) (lSy 8))), .inl (lAdd (lSc (-1) (lSy 12)) (lAdd (lSy 9) (lAdd (lSy 8) (lK (-1))))), .inr (.inl (1001, (lAdd (lSy 12) (lAdd (lSc (-1) (lSy 8)) (lSy 6))))), .inr (.inl (1001, (lAdd (lSc (-1) (lSy 12)) (lAdd (lSy 8) (lAdd (lSc (-1) (lSy 6)) (lK 39)))))), .inr (.inl (1001, (lAdd (lSc (-1) (lSy 12)) (lAdd (lSy 8) (lAdd (lSc (-1) (lSy 6)) (lK 39)))))), .inr (.inr (21, [(lAdd (lSy 12) (lAdd (lSc (-1) (lSy 8)) (lSy 6)))])), .inr (.inr (21, [(lSy 12)])), .inr (.inl (2016, lK 0))] = true := by decide +kernel
set_option maxRecDepth 1000000 in
theorem copyE1R22 : wRkE x_KT x_tb x_tyl x_ov0 u_ct u_hs x_knd lwFR lwGA lwGB copyVA1_22 copyVB1_22 8000 1 60 178 1 60 274 (copyo1.map (wNo [21, 22, 23])) copy_m00 lwF22 [.inr (.inr (4, [])), .inr (.inr (22, [(lSy 12)]))] = true := by decide +kernel
set_option maxRecDepth 1000000 in
theorem copyE1R23 : wRkE x_KT x_tb x_tyl x_ov0 u_ct u_hs x_knd lwFR lwGA lwGB copyVA1_23 copyVB1_23 8000 1 60 178 1 60 274 (copyo1.map (wNo [21, 22, 23])) copy_m00 lwF23 [.inr (.inr (4, [])), .inr (.inr (23, [(lSy 12)]))] = true := by decide +kernel
set_option maxRecDepth 1000000 in
theorem copyE2 : wEd x_KT x_tb x_tyl x_ov0 u_ct u_hs x_knd lwFR lwGA lwGB 5 24 42 copyWA2 copyWB2 8000 1 60 178 1 60 274 copy_m01 [.inr (.inr (4, []))] (copyo2.map (wNo [21, 22, 23])) = true := by decide +kernel
set_option maxRecDepth 1000000 in
theorem copyE2R21 : wRkE x_KT x_tb x_tyl x_ov0 u_ct u_hs x_knd lwFR lwGA lwGB copyVA2_21 copyVB2_21 8000 1 60 178 1 60 274 (copyo2.map (wNo [21, 22, 23])) copy_m01 lwF21 [.inr (.inr (4, [])), .inr (.inr (21, [(lSy 13)]))] = true := by decide +kernel
set_option maxRecDepth 1000000 in
theorem copyE2R22 : wRkE x_KT x_tb x_tyl x_ov0 u_ct u_hs x_knd lwFR lwGA lwGB copyVA2_22 copyVB2_22 8000 1 60 178 1 60 274 (copyo2.map (wNo [21, 22, 23])) copy_m01 lwF22 [.inr (.inr (4, [])), .inl (lAdd (lSy 13) (lSc (-1) (lSy 8))), .inl (lAdd (lSc (-1) (lSy 13)) (lAdd (lSy 9) (lAdd (lSy 8) (lK (-1))))), .inr (.inl (1001, (lAdd (lSy 13) (lAdd (lSc (-1) (lSy 8)) (lSy 6))))), .inr (.inl (1001, (lAdd (lSc (-1) (lSy 13)) (lAdd (lSy 8) (lAdd (lSc (-1) (lSy 6)) (lK 39)))))), .inr (.inl (1001, (lAdd (lSc (-1) (lSy 13)) (lAdd (lSy 8) (lAdd (lSc (-1) (lSy 6)) (lK 39)))))), .inr (.inr (21, [(lAdd (lSy 13) (lAdd (lSc (-1) (lSy 8)) (lSy 6)))])), .inr (.inr (22, [(lSy 13)])), .inr (.inl (2016, lK 0))] = true := by decide +kernel
set_option maxRecDepth 1000000 in
theorem copyE2R23 : wRkE x_KT x_tb x_tyl x_ov0 u_ct u_hs x_knd lwFR lwGA lwGB copyVA2_23 copyVB2_23 8000 1 60 178 1 60 274 (copyo2.map (wNo [21, 22, 23])) copy_m01 lwF23 [.inr (.inr (4, [])), .inr (.inr (23, [(lSy 13)]))] = true := by decide +kernel
set_option maxRecDepth 1000000 in
theorem copyE3 : wEd x_KT x_tb x_tyl x_ov0 u_ct u_hs x_knd lwFR lwGA lwGB 5 24 42 copyWA3 copyWB3 8000 1 60 178 1 60 274 copy_m02 [.inr (.inr (4, []))] (copyo3.map (wNo [21, 22, 23])) = true := by decide +kernel
set_option maxRecDepth 1000000 in
theorem copyE3R21 : wRkE x_KT x_tb x_tyl x_ov0 u_ct u_hs x_knd lwFR lwGA lwGB copyVA3_21 copyVB3_21 8000 1 60 178 1 60 274 (copyo3.map (wNo [21, 22, 23])) copy_m02 lwF21 [.inr (.inr (4, [])), .inr (.inr (21, [(lSy 13)]))] = true := by decide +kernel
set_option maxRecDepth 1000000 in
theorem copyE3R22 : wRkE x_KT x_tb x_tyl x_ov0 u_ct u_hs x_knd lwFR lwGA lwGB copyVA3_22 copyVB3_22 8000 1 60 178 1 60 274 (copyo3.map (wNo [21, 22, 23])) copy_m02 lwF22 [.inr (.inr (4, [])), .inr (.inr (22, [(lSy 13)]))] = true := by decide +kernel
set_option maxRecDepth 1000000 in
theorem copyE3R23 : wRkE x_KT x_tb x_tyl x_ov0 u_ct u_hs x_knd lwFR lwGA lwGB copyVA3_23 copyVB3_23 8000 1 60 178 1 60 274 (copyo3.map (wNo [21, 22, 23])) copy_m02 lwF23 [.inr (.inr (4, [])), .inl (lAdd (lSy 13) (lSc (-1) (lSy 8))), .inl (lAdd (lSc (-1) (lSy 13)) (lAdd (lSy 9) (lAdd (lSy 8) (lK (-1))))), .inr (.inl (1001, (lAdd (lSy 13) (lAdd (lSc (-1) (lSy 8)) (lSy 6))))), .inr (.inl (1001, (lAdd (lSc (-1) (lSy 13)) (lAdd (lSy 8) (lAdd (lSc (-1) (lSy 6)) (lK 39)))))), .inr (.inl (1001, (lAdd (lSc (-1) (lSy 13)) (lAdd (lSy 8) (lAdd (lSc (-1) (lSy 6)) (lK 39)))))), .inr (.inr (21, [(lAdd (lSy 13) (lAdd (lSc (-1) (lSy 8)) (lSy 6)))])), .inr (.inr (23, [(lSy 13)])), .inr (.inl (2016, lK 0))] = true := by decide +kernel
set_option maxRecDepth 1000000 in
theorem copyE4 : wEd x_KT x_tb x_tyl x_ov0 u_ct u_hs x_knd lwFR lwGA lwGB 5 24 42 copyWA4 copyWB4 8000 1 60 178 1 60 274 copy_m10 [.inr (.inr (4, []))] (copyo4.map (wNo [21, 22, 23])) = true := by decide +kernel
set_option maxRecDepth 1000000 in
theorem copyE4R21 : wRkE x_KT x_tb x_tyl x_ov0 u_ct u_hs x_knd lwFR lwGA lwGB copyVA4_21 copyVB4_21 8000 1 60 178 1 60 274 (copyo4.map (wNo [21, 22, 23])) copy_m10 lwF21 [.inr (.inr (4, [])), .inl (lAdd (lSy 13) (lSc (-1) (lSy 8))), .inl (lAdd (lSc (-1) (lSy 13)) (lAdd (lSy 9) (lAdd (lSy 8) (lK (-1))))), .inr (.inl (1001, (lAdd (lSy 13) (lAdd (lSc (-1) (lSy 8)) (lSy 6))))), .inr (.inl (1001, (lAdd (lSc (-1) (lSy 13)) (lAdd (lSy 8) (lAdd (lSc (-1) (lSy 6)) (lK 39)))))), .inr (.inl (1001, (lAdd (lSc (-1) (lSy 13)) (lAdd (lSy 8) (lAdd (lSc (-1) (lSy 6)) (lK 39)))))), .inr (.inr (22, [(lAdd (lSy 13) (lAdd (lSc (-1) (lSy 8)) (lSy 6)))])), .inr (.inr (21, [(lSy 13)])), .inr (.inl (2016, lK 0))] = true := by decide +kernel
set_option maxRecDepth 1000000 in
theorem copyE4R22 : wRkE x_KT x_tb x_tyl x_ov0 u_ct u_hs x_knd lwFR lwGA lwGB copyVA4_22 copyVB4_22 8000 1 60 178 1 60 274 (copyo4.map (wNo [21, 22, 23])) copy_m10 lwF22 [.inr (.inr (4, [])), .inr (.inr (22, [(lSy 13)]))] = true := by decide +kernel
set_option maxRecDepth 1000000 in
theorem copyE4R23 : wRkE x_KT x_tb x_tyl x_ov0 u_ct u_hs x_knd lwFR lwGA lwGB copyVA4_23 copyVB4_23 8000 1 60 178 1 60 274 (copyo4.map (wNo [21, 22, 23])) copy_m10 lwF23 [.inr (.inr (4, [])), .inr (.inr (23, [(lSy 13)]))] = true := by decide +kernel
set_option maxRecDepth 1000000 in
theorem copyE5 : wEd x_KT x_tb x_tyl x_ov0 u_ct u_hs x_knd lwFR lwGA lwGB 5 24 42 copyWA5 copyWB5 8000 1 60 178 1 60 274 copy_m11 [.inr (.inr (4, []))] (copyo5.map (wNo [21, 22, 23])) = true := by decide +kernel
set_option maxRecDepth 1000000 in
theorem copyE5R21 : wRkE x_KT x_tb x_tyl x_ov0 u_ct u_hs x_knd lwFR lwGA lwGB copyVA5_21 copyVB5_21 8000 1 60 178 1 60 274 (copyo5.map (wNo [21, 22, 23])) copy_m11 lwF21 [.inr (.inr (4, [])), .inr (.inr (21, [(lSy 12)]))] = true := by decide +kernel
set_option maxRecDepth 1000000 in
theorem copyE5R22 : wRkE x_KT x_tb x_tyl x_ov0 u_ct u_hs x_knd lwFR lwGA lwGB copyVA5_22 copyVB5_22 8000 1 60 178 1 60 274 (copyo5.map (wNo [21, 22, 23])) copy_m11 lwF22 [.inr (.inr (4, [])), .inl (lAdd (lSy 12) (lSc (-1) (lSy 8))), .inl (lAdd (lSc (-1) (lSy 12)) (lAdd (lSy 9) (lAdd (lSy 8) (lK (-1))))), .inr (.inl (1001, (lAdd (lSy 12) (lAdd (lSc (-1) (lSy 8)) (lSy 6))))), .inr (.inl (1001, (lAdd (lSc (-1) (lSy 12)) (lAdd (lSy 8) (lAdd (lSc (-1) (lSy 6)) (lK 39)))))), .inr (.inl (1001, (lAdd (lSc (-1) (lSy 12)) (lAdd (lSy 8) (lAdd (lSc (-1) (lSy 6)) (lK 39)))))), .inr (.inr (22, [(lAdd (lSy 12) (lAdd (lSc (-1) (lSy 8)) (lSy 6)))])), .inr (.inr (22, [(lSy 12)])), .inr (.inl (2016, lK 0))] = true := by decide +kernel
set_option maxRecDepth 1000000 in
theorem copyE5R23 : wRkE x_KT x_tb x_tyl x_ov0 u_ct u_hs x_knd lwFR lwGA lwGB copyVA5_23 copyVB5_23 8000 1 60 178 1 60 274 (copyo5.map (wNo [21, 22, 23])) copy_m11 lwF23 [.inr (.inr (4, [])), .inr (.inr (23, [(lSy 12)]))] = true := by decide +kernel
set_option maxRecDepth 1000000 in
theorem copyE6 : wEd x_KT x_tb x_tyl x_ov0 u_ct u_hs x_knd lwFR lwGA lwGB 5 24 42 copyWA6 copyWB6 8000 1 60 178 1 60 274 copy_m12 [.inr (.inr (4, []))] (copyo6.map (wNo [21, 22, 23])) = true := by decide +kernel
set_option maxRecDepth 1000000 in
theorem copyE6R21 : wRkE x_KT x_tb x_tyl x_ov0 u_ct u_hs x_knd lwFR lwGA lwGB copyVA6_21 copyVB6_21 8000 1 60 178 1 60 274 (copyo6.map (wNo [21, 22, 23])) copy_m12 lwF21 [.inr (.inr (4, [])), .inr (.inr (21, [(lSy 13)]))] = true := by decide +kernel
set_option maxRecDepth 1000000 in
theorem copyE6R22 : wRkE x_KT x_tb x_tyl x_ov0 u_ct u_hs x_knd lwFR lwGA lwGB copyVA6_22 copyVB6_22 8000 1 60 178 1 60 274 (copyo6.map (wNo [21, 22, 23])) copy_m12 lwF22 [.inr (.inr (4, [])), .inr (.inr (22, [(lSy 13)]))] = true := by decide +kernel
set_option maxRecDepth 1000000 in
theorem copyE6R23 : wRkE x_KT x_tb x_tyl x_ov0 u_ct u_hs x_knd lwFR lwGA lwGB copyVA6_23 copyVB6_23 8000 1 60 178 1 60 274 (copyo6.map (wNo [21, 22, 23])) copy_m12 lwF23 [.inr (.inr (4, [])), .inl (lAdd (lSy 13) (lSc (-1) (lSy 8))), .inl (lAdd (lSc (-1) (lSy 13)) (lAdd (lSy 9) (lAdd (lSy 8) (lK (-1))))), .inr (.inl (1001, (lAdd (lSy 13) (lAdd (lSc (-1) (lSy 8)) (lSy 6))))), .inr (.inl (1001, (lAdd (lSc (-1) (lSy 13)) (lAdd (lSy 8) (lAdd (lSc (-1) (lSy 6)) (lK 39)))))), .inr (.inl (1001, (lAdd (lSc (-1) (lSy 13)) (lAdd (lSy 8) (lAdd (lSc (-1) (lSy 6)) (lK 39)))))), .inr (.inr (22, [(lAdd (lSy 13) (lAdd (lSc (-1) (lSy 8)) (lSy 6)))])), .inr (.inr (23, [(lSy 13)])), .inr (.inl (2016, lK 0))] = true := by decide +kernel
set_option maxRecDepth 1000000 in
theorem copyE7 : wEd x_KT x_tb x_tyl x_ov0 u_ct u_hs x_knd lwFR lwGA lwGB 5 24 42 copyWA7 copyWB7 8000 1 60 178 1 60 274 copy_m20 [.inr (.inr (4, []))] (copyo7.map (wNo [21, 22, 23])) = true := by decide +kernel
set_option maxRecDepth 1000000 in
theorem copyE7R21 : wRkE x_KT x_tb x_tyl x_ov0 u_ct u_hs x_knd lwFR lwGA lwGB copyVA7_21 copyVB7_21 8000 1 60 178 1 60 274 (copyo7.map (wNo [21, 22, 23])) copy_m20 lwF21 [.inr (.inr (4, [])), .inl (lAdd (lSy 13) (lSc (-1) (lSy 8))), .inl (lAdd (lSc (-1) (lSy 13)) (lAdd (lSy 9) (lAdd (lSy 8) (lK (-1))))), .inr (.inl (1001, (lAdd (lSy 13) (lAdd (lSc (-1) (lSy 8)) (lSy 6))))), .inr (.inl (1001, (lAdd (lSc (-1) (lSy 13)) (lAdd (lSy 8) (lAdd (lSc (-1) (lSy 6)) (lK 39)))))), .inr (.inl (1001, (lAdd (lSc (-1) (lSy 13)) (lAdd (lSy 8) (lAdd (lSc (-1) (lSy 6)) (lK 39)))))), .inr (.inr (23, [(lAdd (lSy 13) (lAdd (lSc (-1) (lSy 8)) (lSy 6)))])), .inr (.inr (21, [(lSy 13)])), .inr (.inl (2016, lK 0))] = true := by decide +kernel
set_option maxRecDepth 1000000 in
theorem copyE7R22 : wRkE x_KT x_tb x_tyl x_ov0 u_ct u_hs x_knd lwFR lwGA lwGB copyVA7_22 copyVB7_22 8000 1 60 178 1 60 274 (copyo7.map (wNo [21, 22, 23])) copy_m20 lwF22 [.inr (.inr (4, [])), .inr (.inr (22, [(lSy 13)]))] = true := by decide +kernel
set_option maxRecDepth 1000000 in
theorem copyE7R23 : wRkE x_KT x_tb x_tyl x_ov0 u_ct u_hs x_knd lwFR lwGA lwGB copyVA7_23 copyVB7_23 8000 1 60 178 1 60 274 (copyo7.map (wNo [21, 22, 23])) copy_m20 lwF23 [.inr (.inr (4, [])), .inr (.inr (23, [(lSy 13)]))] = true := by decide +kernel
set_option maxRecDepth 1000000 in
theorem copyE8 : wEd x_KT x_tb x_tyl x_ov0 u_ct u_hs x_knd lwFR lwGA lwGB 5 24 42 copyWA8 copyWB8 8000 1 60 178 1 60 274 copy_m21 [.inr (.inr (4, []))] (copyo8.map (wNo [21, 22, 23])) = true := by decide +kernel
set_option maxRecDepth 1000000 in
theorem copyE8R21 : wRkE x_KT x_tb x_tyl x_ov0 u_ct u_hs x_knd lwFR lwGA lwGB copyVA8_21 copyVB8_21 8000 1 60 178 1 60 274 (copyo8.map (wNo [21, 22, 23])) copy_m21 lwF21 [.inr (.inr (4, [])), .inr (.inr (21, [(lSy 13)]))] = true := by decide +kernel
set_option maxRecDepth 1000000 in
theorem copyE8R22 : wRkE x_KT x_tb x_tyl x_ov0 u_ct u_hs x_knd lwFR lwGA lwGB copyVA8_22 copyVB8_22 8000 1 60 178 1 60 274 (copyo8.map (wNo [21, 22, 23])) copy_m21 lwF22 [.inr (.inr (4, [])), .inl (lAdd (lSy 13) (lSc (-1) (lSy 8))), .inl (lAdd (lSc (-1) (lSy 13)) (lAdd (lSy 9) (lAdd (lSy 8) (lK (-1))))), .inr (.inl (1001, (lAdd (lSy 13) (lAdd (lSc (-1) (lSy 8)) (lSy 6))))), .inr (.inl (1001, (lAdd (lSc (-1) (lSy 13)) (lAdd (lSy 8) (lAdd (lSc (-1) (lSy 6)) (lK 39)))))), .inr (.inl (1001, (lAdd (lSc (-1) (lSy 13)) (lAdd (lSy 8) (lAdd (lSc (-1) (lSy 6)) (lK 39)))))), .inr (.inr (23, [(lAdd (lSy 13) (lAdd (lSc (-1) (lSy 8)) (lSy 6)))])), .inr (.inr (22, [(lSy 13)])), .inr (.inl (2016, lK 0))] = true := by decide +kernel
set_option maxRecDepth 1000000 in
theorem copyE8R23 : wRkE x_KT x_tb x_tyl x_ov0 u_ct u_hs x_knd lwFR lwGA lwGB copyVA8_23 copyVB8_23 8000 1 60 178 1 60 274 (copyo8.map (wNo [21, 22, 23])) copy_m21 lwF23 [.inr (.inr (4, [])), .inr (.inr (23, [(lSy 13)]))] = true := by decide +kernel
set_option maxRecDepth 1000000 in
theorem copyE9 : wEd x_KT x_tb x_tyl x_ov0 u_ct u_hs x_knd lwFR lwGA lwGB 5 24 42 copyWA9 copyWB9 8000 1 60 178 1 60 274 copy_m22 [.inr (.inr (4, []))] (copyo9.map (wNo [21, 22, 23])) = true := by decide +kernel
set_option maxRecDepth 1000000 in
theorem copyE9R21 : wRkE x_KT x_tb x_tyl x_ov0 u_ct u_hs x_knd lwFR lwGA lwGB copyVA9_21 copyVB9_21 8000 1 60 178 1 60 274 (copyo9.map (wNo [21, 22, 23])) copy_m22 lwF21 [.inr (.inr (4, [])), .inr (.inr (21, [(lSy 12)]))] = true := by decide +kernel
set_option maxRecDepth 1000000 in
theorem copyE9R22 : wRkE x_KT x_tb x_tyl x_ov0 u_ct u_hs x_knd lwFR lwGA lwGB copyVA9_22 copyVB9_22 8000 1 60 178 1 60 274 (copyo9.map (wNo [21, 22, 23])) copy_m22 lwF22 [.inr (.inr (4, [])), .inr (.inr (22, [(lSy 12)]))] = true := by decide +kernel
set_option maxRecDepth 1000000 in
theorem copyE9R23 : wRkE x_KT x_tb x_tyl x_ov0 u_ct u_hs x_knd lwFR lwGA lwGB copyVA9_23 copyVB9_23 8000 1 60 178 1 60 274 (copyo9.map (wNo [21, 22, 23])) copy_m22 lwF23 [.inr (.inr (4, [])), .inl (lAdd (lSy 12) (lSc (-1) (lSy 8))), .inl (lAdd (lSc (-1) (lSy 12)) (lAdd (lSy 9) (lAdd (lSy 8) (lK (-1))))), .inr (.inl (1001, (lAdd (lSy 12) (lAdd (lSc (-1) (lSy 8)) (lSy 6))))), .inr (.inl (1001, (lAdd (lSc (-1) (lSy 12)) (lAdd (lSy 8) (lAdd (lSc (-1) (lSy 6)) (lK 39)))))), .inr (.inl (1001, (lAdd (lSc (-1) (lSy 12)) (lAdd (lSy 8) (lAdd (lSc (-1) (lSy 6)) (lK 39)))))), .inr (.inr (23, [(lAdd (lSy 12) (lAdd (lSc (-1) (lSy 8)) (lSy 6)))])), .inr (.inr (23, [(lSy 12)])), .inr (.inl (2016, lK 0))] = true := by decide +kernel
set_option maxRecDepth 1000000 in
theorem copybc : wBc lwN lwFS.length 5 lwTA lwTB lwGA lwGB 5 24 42 u_ps uPA uPB copy_in copyOX = true := by decide +kernel
theorem x_ckA : vMeth x_KT x_tb x_tyl (x_ovS none) (fun _ => []) x_hs x_knd 400 24 x_ck = true := by decide +kernel
theorem x_ckB : vMeth x_KT x_tb x_tyl (x_ovS (some 1200000)) (fun _ => []) x_hs x_knd 400 24 x_ck = true := by decide +kernel
end XRuC23
