/-! Families of pairs: checks, 14. -/
section XNdC14
set_option maxRecDepth 1000000 in
theorem shelfE3 : wEd x_KT x_tb x_tyl x_ov0 u_ct u_hs x_knd lwFS lwGA lwGB 10 8 4 shelfWA shelfWB 8000 1 60 54 1 60 218 shelf_loop1 [.inl (lAdd (lSy 12) (lK (-2))), .inl (lAdd (lSy 12) (lK (-3))), .inl (lAdd (lSy 12) (lK (-4))), .inl (lAdd (lSy 12) (lK (-5))), .inl (lAdd (lSy 12) (lK (-6))), .inl (lAdd (lSy 12) (lK (-7))), .inl (lAdd (lSy 12) (lK (-8))), .inl (lAdd (lSy 12) (lK (-9))), .inl (lAdd (lSy 12) (lK (-10))), .inl (lAdd (lSy 12) (lK (-11))), .inl (lAdd (lSy 12) (lK (-12))), .inl (lAdd (lSc (-1) (lSy 13)) (lAdd (lSy 12) (lK (-1))))] shelfo3 = true := by decide +kernel
set_option maxRecDepth 1000000 in
theorem shelfE4 : wEd x_KT x_tb x_tyl x_ov0 u_ct u_hs x_knd lwFS lwGA lwGB 10 8 4 shelfWA shelfWB 8000 1 60 54 1 60 218 shelf_none1 [] shelfo4 = true := by decide +kernel
set_option maxRecDepth 1000000 in
theorem shelfE5 : wEd x_KT x_tb x_tyl x_ov0 u_ct u_hs x_knd lwFS lwGA lwGB 10 8 4 shelfWA shelfWB 8000 1 60 54 1 60 218 shelf_loop2 [.inl (lAdd (lSy 12) (lK (-2))), .inl (lAdd (lSy 12) (lK (-3))), .inl (lAdd (lSy 12) (lK (-4))), .inl (lAdd (lSy 12) (lK (-5))), .inl (lAdd (lSy 12) (lK (-6))), .inl (lAdd (lSy 12) (lK (-7))), .inl (lAdd (lSy 12) (lK (-8))), .inl (lAdd (lSy 12) (lK (-9))), .inl (lAdd (lSy 12) (lK (-10))), .inl (lAdd (lSy 12) (lK (-11))), .inl (lAdd (lSy 12) (lK (-12))), .inl (lAdd (lSc (-1) (lSy 13)) (lAdd (lSy 12) (lK (-1))))] shelfo5 = true := by decide +kernel
set_option maxRecDepth 1000000 in
theorem shelfE6 : wEd x_KT x_tb x_tyl x_ov0 u_ct u_hs x_knd lwFS lwGA lwGB 10 8 4 shelfWA shelfWB 8000 1 60 54 1 60 218 shelf_none2 [] shelfo6 = true := by decide +kernel
end XNdC14
