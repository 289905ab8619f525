/-! Runs: checks, 34. -/
section XRuC34
set_option maxRecDepth 1000000 in
theorem rtE2R6 : wRkE x_KT x_tb x_tyl x_ov0 u_ct u_hs x_knd lwFR lwGA lwGB rtVA2_6 rtVB2_6 8000 1 60 141 0 60 244 (rto2.map (wNo [5, 6, 7, 9, 10, 8])) rt_lp lwF6 [.inr (.inr (4, [])), .inl (lAdd (lSc (-1) (lSy 13)) (lAdd (lSy 3) (lK (-1)))), .inr (.inl (1001, (lAdd (lSc (-1) (lSy 13)) (lK 11)))), .inr (.inr (11, [(lSy 13)])), .inl (lAdd (lSc (-1) (lSy 14)) (lAdd (lSy 3) (lK (-1)))), .inr (.inr (18, [(lSy 14), (lSy 13)])), .inr (.inr (6, [])), .inr (.inl (2000, lK 0))] = true := by decide +kernel
set_option maxRecDepth 1000000 in
theorem rtE2R7 : wRkE x_KT x_tb x_tyl x_ov0 u_ct u_hs x_knd lwFR lwGA lwGB rtVA2_7 rtVB2_7 8000 1 60 141 0 60 244 (rto2.map (wNo [5, 6, 7, 9, 10, 8])) rt_lp lwF7 [.inr (.inr (4, [])), .inl (lAdd (lSc (-1) (lSy 13)) (lAdd (lSy 3) (lK (-1)))), .inr (.inl (1001, (lAdd (lSc (-1) (lSy 13)) (lK 11)))), .inr (.inr (11, [(lSy 13)])), .inl (lAdd (lSc (-1) (lSy 14)) (lAdd (lSy 3) (lK (-1)))), .inr (.inr (18, [(lSy 14), (lSy 13)])), .inr (.inr (7, [])), .inr (.inl (2000, lK 0))] = true := by decide +kernel
set_option maxRecDepth 1000000 in
theorem rtE2R9 : wRkE x_KT x_tb x_tyl x_ov0 u_ct u_hs x_knd lwFR lwGA lwGB rtVA2_9 rtVB2_9 8000 1 60 141 0 60 244 (rto2.map (wNo [5, 6, 7, 9, 10, 8])) rt_lp lwF9 [.inr (.inr (4, [])), .inl (lAdd (lSc (-1) (lSy 13)) (lAdd (lSy 3) (lK (-1)))), .inr (.inl (1001, (lAdd (lSc (-1) (lSy 13)) (lK 11)))), .inr (.inr (11, [(lSy 13)])), .inl (lAdd (lSc (-1) (lSy 14)) (lAdd (lSy 3) (lK (-1)))), .inr (.inr (18, [(lSy 14), (lSy 13)])), .inr (.inr (9, [])), .inr (.inl (2000, lK 0))] = true := by decide +kernel
set_option maxRecDepth 1000000 in
theorem rtE2R10 : wRkE x_KT x_tb x_tyl x_ov0 u_ct u_hs x_knd lwFR lwGA lwGB rtVA2_10 rtVB2_10 8000 1 60 141 0 60 244 (rto2.map (wNo [5, 6, 7, 9, 10, 8])) rt_lp lwF10 [.inr (.inr (4, [])), .inl (lAdd (lSc (-1) (lSy 13)) (lAdd (lSy 3) (lK (-1)))), .inr (.inl (1001, (lAdd (lSc (-1) (lSy 13)) (lK 11)))), .inr (.inr (11, [(lSy 13)])), .inl (lAdd (lSc (-1) (lSy 14)) (lAdd (lSy 3) (lK (-1)))), .inr (.inr (18, [(lSy 14), (lSy 13)])), .inr (.inr (10, [])), .inr (.inl (2000, lK 0))] = true := by decide +kernel
end XRuC34
