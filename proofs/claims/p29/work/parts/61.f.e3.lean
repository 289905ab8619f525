/-! A line read beside a line read, by its bytes. -/
section XPgf
set_option maxRecDepth 1000000 in
theorem pgE3_24 : vPe x_KT x_tb x_tyl x_ov0 x_cp x_hp x_knd pgWA pgWB 6 4 2 pgTl 20000 1 60 14 12 1 60 183 12 (pgXA [(0, (111), (111))] none) (pgXB [(0, (111), (111))] none) pgO3 = true := by decide +kernel
set_option maxRecDepth 1000000 in
theorem pgE3_25 : vPe x_KT x_tb x_tyl x_ov0 x_cp x_hp x_knd pgWA pgWB 6 4 2 pgTl 20000 1 60 14 12 1 60 183 12 (pgXA [(0, (112), (114))] none) (pgXB [(0, (112), (114))] none) pgO3 = true := by decide +kernel
set_option maxRecDepth 1000000 in
theorem pgE3_26 : vPe x_KT x_tb x_tyl x_ov0 x_cp x_hp x_knd pgWA pgWB 6 4 2 pgTl 20000 1 60 14 12 1 60 183 12 (pgXA [(0, (115), (115)), (1, (0), (100))] none) (pgXB [(0, (115), (115)), (1, (0), (100))] none) pgO3 = true := by decide +kernel
set_option maxRecDepth 1000000 in
theorem pgE3_27 : vPe x_KT x_tb x_tyl x_ov0 x_cp x_hp x_knd pgWA pgWB 6 4 2 pgTl 20000 1 60 14 12 1 60 183 12 (pgXA [(0, (115), (115)), (1, (101), (101)), (7, (0), (47))] none) (pgXB [(0, (115), (115)), (1, (101), (101)), (7, (0), (47))] none) pgO3 = true := by decide +kernel
set_option maxRecDepth 1000000 in
theorem pgE3_28 : vPe x_KT x_tb x_tyl x_ov0 x_cp x_hp x_knd pgWA pgWB 6 4 2 pgTl 20000 1 60 14 12 1 60 183 12 (pgXA [(0, (115), (115)), (1, (101), (101)), (7, (48), (57)), (8, (0), (47))] none) (pgXB [(0, (115), (115)), (1, (101), (101)), (7, (48), (57)), (8, (0), (47))] none) pgO3 = true := by decide +kernel
end XPgf
