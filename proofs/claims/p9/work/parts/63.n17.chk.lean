/-! Runs: checks, 17. -/
noncomputable section XRuC17
set_option maxRecDepth 1000000 in
theorem st0E12_1 : wEdF [(lAdd (lSy 18) (lK (-2))), (lAdd (lSy 36) (lK (-3))), (lAdd (lSy 18) (lK (-1)))] 1 x_KT x_tb x_tyl x_ov0 u_ct u_hs x_knd lwFR lwGA lwGB 32 41 43 st0WA12 st0WB12 8000 1 60 69 1 60 205 st0_op8 [.inr (.inr (3, [(lSy 32)])), .inr (.inr (2, [(lSy 6), (lSy 32)])), .inl (lAdd (lSy 36) (lK (-3))), .inl (lAdd (lSy 18) (lK (-1))), .inl (lAdd (lSy 18) (lK (-2)))] st0o12 = true := by decide +kernel
set_option maxRecDepth 1000000 in
theorem st0E12_2 : wEdF [(lAdd (lSy 18) (lK (-2))), (lAdd (lSy 36) (lK (-3))), (lAdd (lSy 18) (lK (-1)))] 2 x_KT x_tb x_tyl x_ov0 u_ct u_hs x_knd lwFR lwGA lwGB 32 41 43 st0WA12 st0WB12 8000 1 60 69 1 60 205 st0_op8 [.inr (.inr (3, [(lSy 32)])), .inr (.inr (2, [(lSy 6), (lSy 32)])), .inl (lAdd (lSy 36) (lK (-3))), .inl (lAdd (lSy 18) (lK (-1))), .inl (lAdd (lSy 18) (lK (-2)))] st0o12 = true := by decide +kernel
set_option maxRecDepth 1000000 in
theorem st0E12_3 : wEdF [(lAdd (lSy 18) (lK (-2))), (lAdd (lSy 36) (lK (-3))), (lAdd (lSy 18) (lK (-1)))] 3 x_KT x_tb x_tyl x_ov0 u_ct u_hs x_knd lwFR lwGA lwGB 32 41 43 st0WA12 st0WB12 8000 1 60 69 1 60 205 st0_op8 [.inr (.inr (3, [(lSy 32)])), .inr (.inr (2, [(lSy 6), (lSy 32)])), .inl (lAdd (lSy 36) (lK (-3))), .inl (lAdd (lSy 18) (lK (-1))), .inl (lAdd (lSy 18) (lK (-2)))] st0o12 = true := by decide +kernel
set_option maxRecDepth 1000000 in
theorem st0E12_4 : wEdF [(lAdd (lSy 18) (lK (-2))), (lAdd (lSy 36) (lK (-3))), (lAdd (lSy 18) (lK (-1)))] 4 x_KT x_tb x_tyl x_ov0 u_ct u_hs x_knd lwFR lwGA lwGB 32 41 43 st0WA12 st0WB12 8000 1 60 69 1 60 205 st0_op8 [.inr (.inr (3, [(lSy 32)])), .inr (.inr (2, [(lSy 6), (lSy 32)])), .inl (lAdd (lSy 36) (lK (-3))), .inl (lAdd (lSy 18) (lK (-1))), .inl (lAdd (lSy 18) (lK (-2)))] st0o12 = true := by decide +kernel
end XRuC17
