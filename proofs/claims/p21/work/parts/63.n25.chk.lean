/-! Runs: checks, 25. -/
noncomputable section XRuC25
set_option maxRecDepth 1000000 in
theorem cbaE1q : wEdQ lwTch 43 x_KT x_tb x_tyl x_ov0 u_ctK1 u_hs x_knd lwFR lwGA lwGB 26 26 43 cbaWA1 cbaWB1 8000 1 60 115 0 60 244 cba_in [.inr (.inr (4, []))] (cbao1.map (wNo [5, 6, 7, 9, 10, 8])) = true := by decide +kernel
theorem cbaE1 : wEd x_KT x_tb x_tyl x_ov0 u_ctK1 u_hs x_knd lwFR lwGA lwGB 26 26 43 cbaWA1 cbaWB1 8000 1 60 115 0 60 244 cba_in [.inr (.inr (4, []))] (cbao1.map (wNo [5, 6, 7, 9, 10, 8])) = true := wEdQ_ok lwTchOk cbaE1q
theorem cbaL2 : wRlk 27 26 43 fin1WA fin1WB cbaX2.2.1 cbaX2.2.2.1 cbaX2.2.2.2.1 cbaX2.2.2.2.2 fin1_in = true := by decide +kernel
set_option maxRecDepth 1000000 in
theorem cbaE3q : wEdQ lwTch 43 x_KT x_tb x_tyl x_ov0 u_ctK1 u_hs x_knd lwFR lwGA lwGB 26 26 43 cbaWA3 cbaWB3 8000 1 60 115 0 60 244 cba_c0_out [.inr (.inl (2008, lK 0))] cbao3 = true := by decide +kernel
theorem cbaE3 : wEd x_KT x_tb x_tyl x_ov0 u_ctK1 u_hs x_knd lwFR lwGA lwGB 26 26 43 cbaWA3 cbaWB3 8000 1 60 115 0 60 244 cba_c0_out [.inr (.inl (2008, lK 0))] cbao3 = true := wEdQ_ok lwTchOk cbaE3q
set_option maxRecDepth 1000000 in
theorem cbaE4q : wEdQ lwTch 43 x_KT x_tb x_tyl x_ov0 u_ctK1 u_hs x_knd lwFR lwGA lwGB 26 26 43 cbaWA4 cbaWB4 8000 1 60 115 0 60 244 cba_c1_out [] cbao4 = true := by decide +kernel
theorem cbaE4 : wEd x_KT x_tb x_tyl x_ov0 u_ctK1 u_hs x_knd lwFR lwGA lwGB 26 26 43 cbaWA4 cbaWB4 8000 1 60 115 0 60 244 cba_c1_out [] cbao4 = true := wEdQ_ok lwTchOk cbaE4q
set_option maxRecDepth 1000000 in
theorem breaksE1R0 : wRkE x_KT x_tb x_tyl x_ov0 u_ctK2 u_hs x_knd lwFR lwGA lwGB breaksVA1_0 breaksVB1_0 8000 1 60 112 0 60 242 (breakso1.map (wNo [0, 2, 3])) breaks_m lwF0 [.inr (.inr (0, [(lSy 5)])), .inr (.inr (14, [(lSy 5)])), .inl (lAdd (lSc (-1) (lSy 10)) (lAdd (lSy 3) (lK (-1)))), .inr (.inr (14, [(lSy 10)])), .inr (.inr (0, [])), .inr (.inl (2008, lK 0))] = true := by decide +kernel
set_option maxRecDepth 1000000 in
theorem breaksE1R2 : wRkE x_KT x_tb x_tyl x_ov0 u_ctK2 u_hs x_knd lwFR lwGA lwGB breaksVA1_2 breaksVB1_2 8000 1 60 112 0 60 242 (breakso1.map (wNo [0, 2, 3])) breaks_m lwF2 [.inr (.inr (0, [(lSy 5)])), .inr (.inr (14, [(lSy 5)])), .inl (lAdd (lSc (-1) (lSy 10)) (lAdd (lSy 3) (lK (-1)))), .inr (.inr (14, [(lSy 10)])), .inr (.inr (2, [])), .inr (.inl (2008, lK 0))] = true := by decide +kernel
set_option maxRecDepth 1000000 in
theorem breaksE1R3 : wRkE x_KT x_tb x_tyl x_ov0 u_ctK2 u_hs x_knd lwFR lwGA lwGB breaksVA1_3 breaksVB1_3 8000 1 60 112 0 60 242 (breakso1.map (wNo [0, 2, 3])) breaks_m lwF3 [.inr (.inr (0, [(lSy 5)])), .inr (.inr (14, [(lSy 5)])), .inr (.inr (4, [])), .inr (.inr (3, []))] = true := by decide +kernel
theorem breaksL2 : wRlk 26 26 43 cbaWA cbaWB breaksX2.2.1 breaksX2.2.2.1 breaksX2.2.2.2.1 breaksX2.2.2.2.2 cba_in = true := by decide +kernel
set_option maxRecDepth 1000000 in
theorem breaksE3q : wEdQ lwTch 43 x_KT x_tb x_tyl x_ov0 u_ctK2 u_hs x_knd lwFR lwGA lwGB 5 25 43 breaksWA3 breaksWB3 8000 1 60 112 0 60 242 breaks_la [] breakso3 = true := by decide +kernel
theorem breaksE3 : wEd x_KT x_tb x_tyl x_ov0 u_ctK2 u_hs x_knd lwFR lwGA lwGB 5 25 43 breaksWA3 breaksWB3 8000 1 60 112 0 60 242 breaks_la [] breakso3 = true := wEdQ_ok lwTchOk breaksE3q
set_option maxRecDepth 1000000 in
theorem breaksE4q : wEdQ lwTch 43 x_KT x_tb x_tyl x_ov0 u_ctK2 u_hs x_knd lwFR lwGA lwGB 5 25 43 breaksWA4 breaksWB4 8000 1 60 112 0 60 242 breaks_c_out [.inr (.inl (1001, (lSy 9))), .inr (.inl (1001, (lAdd (lSc (-1) (lSy 9)) (lK 200)))), .inr (.inl (1001, (lAdd (lSy 25) (lK (-1900))))), .inr (.inl (1001, (lAdd (lSc (-1) (lSy 25)) (lK 2099))))] breakso4 = true := by decide +kernel
theorem breaksE4 : wEd x_KT x_tb x_tyl x_ov0 u_ctK2 u_hs x_knd lwFR lwGA lwGB 5 25 43 breaksWA4 breaksWB4 8000 1 60 112 0 60 242 breaks_c_out [.inr (.inl (1001, (lSy 9))), .inr (.inl (1001, (lAdd (lSc (-1) (lSy 9)) (lK 200)))), .inr (.inl (1001, (lAdd (lSy 25) (lK (-1900))))), .inr (.inl (1001, (lAdd (lSc (-1) (lSy 25)) (lK 2099))))] breakso4 = true := wEdQ_ok lwTchOk breaksE4q
set_option maxRecDepth 1000000 in
theorem breaksE5q : wEdQ lwTch 43 x_KT x_tb x_tyl x_ov0 u_ctK2 u_hs x_knd lwFR lwGA lwGB 5 25 43 breaksWA5 breaksWB5 8000 0 60 112 1 60 242 breaks_fa [] breakso5 = true := by decide +kernel
theorem breaksE5 : wEd x_KT x_tb x_tyl x_ov0 u_ctK2 u_hs x_knd lwFR lwGA lwGB 5 25 43 breaksWA5 breaksWB5 8000 0 60 112 1 60 242 breaks_fa [] breakso5 = true := wEdQ_ok lwTchOk breaksE5q
set_option maxRecDepth 1000000 in
theorem breaksE6q : wEdQ lwTch 43 x_KT x_tb x_tyl x_ov0 u_ctK2 u_hs x_knd lwFR lwGA lwGB 5 25 43 breaksWA6 breaksWB6 8000 0 60 112 1 60 242 breaks_lb [.inr (.inr (2, [(lSy 6), (lSy 7)])), .inr (.inl (2008, lK 0))] (breakso6.map (wNo [2])) = true := by decide +kernel
theorem breaksE6 : wEd x_KT x_tb x_tyl x_ov0 u_ctK2 u_hs x_knd lwFR lwGA lwGB 5 25 43 breaksWA6 breaksWB6 8000 0 60 112 1 60 242 breaks_lb [.inr (.inr (2, [(lSy 6), (lSy 7)])), .inr (.inl (2008, lK 0))] (breakso6.map (wNo [2])) = true := wEdQ_ok lwTchOk breaksE6q
set_option maxRecDepth 1000000 in
theorem breaksE6R2 : wRkE x_KT x_tb x_tyl x_ov0 u_ctK2 u_hs x_knd lwFR lwGA lwGB breaksVA6_2 breaksVB6_2 8000 0 60 112 1 60 242 (breakso6.map (wNo [2])) breaks_lb lwF2 [.inr (.inr (2, [(lSy 6), (lSy 7)])), .inl (lAdd (lSy 14) (lSc (-1) (lSy 6))), .inl (lAdd (lSc (-1) (lSy 14)) (lSy 6)), .inr (.inl (1001, (lAdd (lSc (-1) (lSy 14)) (lAdd (lSy 3) (lK (-1)))))), .inl (lAdd (lSc (-1) (lSy 14)) (lAdd (lSy 3) (lK (-1)))), .inr (.inl (0, (lSy 6))), .inr (.inr (16, [(lSy 14), (lSy 6)])), .inr (.inr (16, [(lSy 6), (lSy 14)])), .inl (lAdd (lSy 15) (lSc (-1) (lSy 7))), .inl (lAdd (lSc (-1) (lSy 15)) (lSy 7)), .inr (.inl (1, (lSy 7))), .inr (.inr (2, [])), .inr (.inr (2, [(lSy 14), (lSy 15)])), .inr (.inr (2, [(lSy 6), (lSy 15)])), .inr (.inr (2, [(lSy 14), (lSy 7)]))] = true := by decide +kernel
set_option maxRecDepth 1000000 in
theorem breaksE7q : wEdQ lwTch 43 x_KT x_tb x_tyl x_ov0 u_ctK2 u_hs x_knd lwFR lwGA lwGB 5 25 43 breaksWA7 breaksWB7 8000 1 60 112 1 60 242 breaks_fb [] breakso7 = true := by decide +kernel
theorem breaksE7 : wEd x_KT x_tb x_tyl x_ov0 u_ctK2 u_hs x_knd lwFR lwGA lwGB 5 25 43 breaksWA7 breaksWB7 8000 1 60 112 1 60 242 breaks_fb [] breakso7 = true := wEdQ_ok lwTchOk breaksE7q
theorem ishL0 : wRlk 26 26 43 cbaWA cbaWB ishX0.2.1 ishX0.2.2.1 ishX0.2.2.2.1 ishX0.2.2.2.2 cba_in = true := by decide +kernel
set_option maxRecDepth 1000000 in
theorem ishE1q : wEdQ lwTch 43 x_KT x_tb x_tyl x_ov0 u_ct u_hs x_knd lwFR lwGA lwGB 13 25 43 ishWA1 ishWB1 8000 1 60 136 0 60 244 ish_in [.inr (.inr (4, []))] (isho1.map (wNo [0, 2, 3])) = true := by decide +kernel
theorem ishE1 : wEd x_KT x_tb x_tyl x_ov0 u_ct u_hs x_knd lwFR lwGA lwGB 13 25 43 ishWA1 ishWB1 8000 1 60 136 0 60 244 ish_in [.inr (.inr (4, []))] (isho1.map (wNo [0, 2, 3])) = true := wEdQ_ok lwTchOk ishE1q
set_option maxRecDepth 1000000 in
theorem ishE1R0 : wRkE x_KT x_tb x_tyl x_ov0 u_ct u_hs x_knd lwFR lwGA lwGB ishVA1_0 ishVB1_0 8000 1 60 136 0 60 244 (isho1.map (wNo [0, 2, 3])) ish_in lwF0 [.inr (.inr (4, [])), .inl (lAdd (lSc (-1) (lSy 15)) (lAdd (lSy 3) (lK (-1)))), .inr (.inr (14, [(lSy 15)])), .inr (.inr (0, [])), .inr (.inl (2008, lK 0))] = true := by decide +kernel
set_option maxRecDepth 1000000 in
theorem ishE1R2 : wRkE x_KT x_tb x_tyl x_ov0 u_ct u_hs x_knd lwFR lwGA lwGB ishVA1_2 ishVB1_2 8000 1 60 136 0 60 244 (isho1.map (wNo [0, 2, 3])) ish_in lwF2 [.inr (.inr (4, [])), .inl (lAdd (lSc (-1) (lSy 15)) (lAdd (lSy 3) (lK (-1)))), .inr (.inr (14, [(lSy 15)])), .inr (.inr (2, [])), .inr (.inl (2008, lK 0))] = true := by decide +kernel
set_option maxRecDepth 1000000 in
theorem ishE1R3 : wRkE x_KT x_tb x_tyl x_ov0 u_ct u_hs x_knd lwFR lwGA lwGB ishVA1_3 ishVB1_3 8000 1 60 136 0 60 244 (isho1.map (wNo [0, 2, 3])) ish_in lwF3 [.inr (.inr (4, [])), .inr (.inr (4, [])), .inr (.inr (3, []))] = true := by decide +kernel
set_option maxRecDepth 1000000 in
theorem ishE2q : wEdQ lwTch 43 x_KT x_tb x_tyl x_ov0 u_ct u_hs x_knd lwFR lwGA lwGB 13 25 43 ishWA2 ishWB2 8000 1 60 136 0 60 244 ish_c_out [] isho2 = true := by decide +kernel
theorem ishE2 : wEd x_KT x_tb x_tyl x_ov0 u_ct u_hs x_knd lwFR lwGA lwGB 13 25 43 ishWA2 ishWB2 8000 1 60 136 0 60 244 ish_c_out [] isho2 = true := wEdQ_ok lwTchOk ishE2q
set_option maxRecDepth 1000000 in
theorem chbE0q : wEdQ lwTch 43 x_KT x_tb x_tyl x_ov0 u_ctK2 u_hs x_knd lwFR lwGA lwGB 25 25 43 chbWA0 chbWB0 8000 0 60 113 1 60 243 chb_in [] (chbo0.map (wNo [2])) = true := by decide +kernel
theorem chbE0 : wEd x_KT x_tb x_tyl x_ov0 u_ctK2 u_hs x_knd lwFR lwGA lwGB 25 25 43 chbWA0 chbWB0 8000 0 60 113 1 60 243 chb_in [] (chbo0.map (wNo [2])) = true := wEdQ_ok lwTchOk chbE0q
set_option maxRecDepth 1000000 in
theorem chbE0R2 : wRkE x_KT x_tb x_tyl x_ov0 u_ctK2 u_hs x_knd lwFR lwGA lwGB chbVA0_2 chbVB0_2 8000 0 60 113 1 60 243 (chbo0.map (wNo [2])) chb_in lwF2 [.inl (lAdd (lSc (-1) (lSy 31)) (lAdd (lSy 3) (lK (-1)))), .inl (lAdd (lSy 31) (lSc (-1) (lSy 25))), .inl (lAdd (lSc (-1) (lSy 31)) (lSy 25)), .inr (.inl (0, (lSy 25))), .inr (.inl (1001, (lAdd (lSc (-1) (lSy 25)) (lAdd (lSy 3) (lK (-1)))))), .inr (.inl (1001, (lAdd (lSy 25) (lSc (-1) (lSy 3))))), .inr (.inr (17, [(lSy 31), (lSy 25)])), .inr (.inr (17, [(lSy 25), (lSy 31)])), .inl (lAdd (lSy 32) (lSc (-1) (lSy 26))), .inl (lAdd (lSc (-1) (lSy 32)) (lSy 26)), .inr (.inl (1, (lSy 26))), .inr (.inr (2, [(lSy 31), (lSy 32)])), .inr (.inr (2, [(lSy 25), (lSy 32)])), .inr (.inr (2, [(lSy 31), (lSy 26)])), .inr (.inr (2, [(lSy 25), (lSy 26)]))] = true := by decide +kernel
theorem isbL0 : wRlk 25 25 43 chbWA chbWB isbX0.2.1 isbX0.2.2.1 isbX0.2.2.2.1 isbX0.2.2.2.2 chb_in = true := by decide +kernel
set_option maxRecDepth 1000000 in
theorem isbE1q : wEdQ lwTch 43 x_KT x_tb x_tyl x_ov0 u_ct u_hs x_knd lwFR lwGA lwGB 13 25 43 isbWA1 isbWB1 8000 0 60 113 1 60 248 isb_in [] isbo1 = true := by decide +kernel
theorem isbE1 : wEd x_KT x_tb x_tyl x_ov0 u_ct u_hs x_knd lwFR lwGA lwGB 13 25 43 isbWA1 isbWB1 8000 0 60 113 1 60 248 isb_in [] isbo1 = true := wEdQ_ok lwTchOk isbE1q
set_option maxRecDepth 1000000 in
theorem isbE2q : wEdQ lwTch 43 x_KT x_tb x_tyl x_ov0 u_ct u_hs x_knd lwFR lwGA lwGB 13 25 43 isbWA2 isbWB2 8000 0 60 113 1 60 248 isb_c_out [] isbo2 = true := by decide +kernel
theorem isbE2 : wEd x_KT x_tb x_tyl x_ov0 u_ct u_hs x_knd lwFR lwGA lwGB 13 25 43 isbWA2 isbWB2 8000 0 60 113 1 60 248 isb_c_out [] isbo2 = true := wEdQ_ok lwTchOk isbE2q
theorem showsL0 : wRlk 13 25 43 ishWA ishWB showsX0.2.1 showsX0.2.2.1 showsX0.2.2.2.1 showsX0.2.2.2.2 ish_in = true := by decide +kernel
set_option maxRecDepth 1000000 in
theorem showsE1q : wEdQ lwTch 43 x_KT x_tb x_tyl x_ov0 u_ct u_hs x_knd lwFR lwGA lwGB 5 25 43 showsWA1 showsWB1 8000 1 60 135 0 60 247 shows_in [] showso1 = true := by decide +kernel
theorem showsE1 : wEd x_KT x_tb x_tyl x_ov0 u_ct u_hs x_knd lwFR lwGA lwGB 5 25 43 showsWA1 showsWB1 8000 1 60 135 0 60 247 shows_in [] showso1 = true := wEdQ_ok lwTchOk showsE1q
set_option maxRecDepth 1000000 in
theorem showsE2q : wEdQ lwTch 43 x_KT x_tb x_tyl x_ov0 u_ct u_hs x_knd lwFR lwGA lwGB 5 25 43 showsWA2 showsWB2 8000 1 60 135 0 60 247 shows_c_out [] showso2 = true := by decide +kernel
theorem showsE2 : wEd x_KT x_tb x_tyl x_ov0 u_ct u_hs x_knd lwFR lwGA lwGB 5 25 43 showsWA2 showsWB2 8000 1 60 135 0 60 247 shows_c_out [] showso2 = true := wEdQ_ok lwTchOk showsE2q
theorem showsL3 : wRlk 13 25 43 isbWA isbWB showsX3.2.1 showsX3.2.2.1 showsX3.2.2.2.1 showsX3.2.2.2.2 isb_in = true := by decide +kernel
set_option maxRecDepth 1000000 in
theorem showsE4q : wEdQ lwTch 43 x_KT x_tb x_tyl x_ov0 u_ct u_hs x_knd lwFR lwGA lwGB 5 25 43 showsWA4 showsWB4 8000 0 60 135 1 60 247 shows_a1 [] showso4 = true := by decide +kernel
theorem showsE4 : wEd x_KT x_tb x_tyl x_ov0 u_ct u_hs x_knd lwFR lwGA lwGB 5 25 43 showsWA4 showsWB4 8000 0 60 135 1 60 247 shows_a1 [] showso4 = true := wEdQ_ok lwTchOk showsE4q
set_option maxRecDepth 1000000 in
theorem showsE5q : wEdQ lwTch 43 x_KT x_tb x_tyl x_ov0 u_ct u_hs x_knd lwFR lwGA lwGB 5 25 43 showsWA5 showsWB5 8000 0 60 135 1 60 247 shows_cb1_out [] showso5 = true := by decide +kernel
theorem showsE5 : wEd x_KT x_tb x_tyl x_ov0 u_ct u_hs x_knd lwFR lwGA lwGB 5 25 43 showsWA5 showsWB5 8000 0 60 135 1 60 247 shows_cb1_out [] showso5 = true := wEdQ_ok lwTchOk showsE5q
set_option maxRecDepth 1000000 in
theorem showsE6q : wEdQ lwTch 43 x_KT x_tb x_tyl x_ov0 u_ct u_hs x_knd lwFR lwGA lwGB 5 25 43 showsWA6 showsWB6 8000 1 60 135 1 60 247 shows_fb1 [] showso6 = true := by decide +kernel
theorem showsE6 : wEd x_KT x_tb x_tyl x_ov0 u_ct u_hs x_knd lwFR lwGA lwGB 5 25 43 showsWA6 showsWB6 8000 1 60 135 1 60 247 shows_fb1 [] showso6 = true := wEdQ_ok lwTchOk showsE6q
theorem showsL7 : wRlk 13 25 43 isbWA isbWB showsX7.2.1 showsX7.2.2.1 showsX7.2.2.2.1 showsX7.2.2.2.2 isb_in = true := by decide +kernel
set_option maxRecDepth 1000000 in
theorem showsE8q : wEdQ lwTch 43 x_KT x_tb x_tyl x_ov0 u_ct u_hs x_knd lwFR lwGA lwGB 5 25 43 showsWA8 showsWB8 8000 0 60 135 1 60 247 shows_a2 [] showso8 = true := by decide +kernel
theorem showsE8 : wEd x_KT x_tb x_tyl x_ov0 u_ct u_hs x_knd lwFR lwGA lwGB 5 25 43 showsWA8 showsWB8 8000 0 60 135 1 60 247 shows_a2 [] showso8 = true := wEdQ_ok lwTchOk showsE8q
set_option maxRecDepth 1000000 in
theorem showsE9q : wEdQ lwTch 43 x_KT x_tb x_tyl x_ov0 u_ct u_hs x_knd lwFR lwGA lwGB 5 25 43 showsWA9 showsWB9 8000 0 60 135 1 60 247 shows_cb2_out [] showso9 = true := by decide +kernel
theorem showsE9 : wEd x_KT x_tb x_tyl x_ov0 u_ct u_hs x_knd lwFR lwGA lwGB 5 25 43 showsWA9 showsWB9 8000 0 60 135 1 60 247 shows_cb2_out [] showso9 = true := wEdQ_ok lwTchOk showsE9q
set_option maxRecDepth 1000000 in
theorem showsE10q : wEdQ lwTch 43 x_KT x_tb x_tyl x_ov0 u_ct u_hs x_knd lwFR lwGA lwGB 5 25 43 showsWA10 showsWB10 8000 1 60 135 1 60 247 shows_fb2 [] showso10 = true := by decide +kernel
theorem showsE10 : wEd x_KT x_tb x_tyl x_ov0 u_ct u_hs x_knd lwFR lwGA lwGB 5 25 43 showsWA10 showsWB10 8000 1 60 135 1 60 247 shows_fb2 [] showso10 = true := wEdQ_ok lwTchOk showsE10q
set_option maxRecDepth 1000000 in
theorem chbcE0q : wEdQ lwTch 43 x_KT x_tb x_tyl x_ov0 u_ctK2 u_hs x_knd lwFR lwGA lwGB 25 25 44 chbcWA0 chbcWB0 8000 0 60 113 1 60 243 chbc_in [] (chbco0.map (wNo [2])) = true := by decide +kernel
theorem chbcE0 : wEd x_KT x_tb x_tyl x_ov0 u_ctK2 u_hs x_knd lwFR lwGA lwGB 25 25 44 chbcWA0 chbcWB0 8000 0 60 113 1 60 243 chbc_in [] (chbco0.map (wNo [2])) = true := wEdQ_ok lwTchOk chbcE0q
end XRuC25
