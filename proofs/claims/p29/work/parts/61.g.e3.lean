/-! A line read beside a line read, by its bytes. -/
section XPgg
set_option maxRecDepth 1000000 in
theorem pgE3_29 : vPe x_KT x_tb x_tyl x_ov0 x_cp x_hp x_knd pgWA pgWB 6 4 2 pgTl 20000 1 60 14 12 1 60 183 12 (pgXA [(0, (115), (115)), (1, (101), (101)), (7, (48), (57)), (8, (48), (57))] none) (pgXB [(0, (115), (115)), (1, (101), (101)), (7, (48), (57)), (8, (48), (57))] none) pgO3 = true := by decide +kernel
set_option maxRecDepth 1000000 in
theorem pgE3_30 : vPe x_KT x_tb x_tyl x_ov0 x_cp x_hp x_knd pgWA pgWB 6 4 2 pgTl 20000 1 60 14 12 1 60 183 12 (pgXA [(0, (115), (115)), (1, (101), (101)), (7, (48), (57)), (8, (58), (255))] none) (pgXB [(0, (115), (115)), (1, (101), (101)), (7, (48), (57)), (8, (58), (255))] none) pgO3 = true := by decide +kernel
set_option maxRecDepth 1000000 in
theorem pgE3_31 : vPe x_KT x_tb x_tyl x_ov0 x_cp x_hp x_knd pgWA pgWB 6 4 2 pgTl 20000 1 60 14 12 1 60 183 12 (pgXA [(0, (115), (115)), (1, (101), (101)), (7, (48), (57))] (some 8)) (pgXB [(0, (115), (115)), (1, (101), (101)), (7, (48), (57))] (some 8)) pgO3 = true := by decide +kernel
set_option maxRecDepth 1000000 in
theorem pgE3_32 : vPe x_KT x_tb x_tyl x_ov0 x_cp x_hp x_knd pgWA pgWB 6 4 2 pgTl 20000 1 60 14 12 1 60 183 12 (pgXA [(0, (115), (115)), (1, (101), (101)), (7, (58), (255))] none) (pgXB [(0, (115), (115)), (1, (101), (101)), (7, (58), (255))] none) pgO3 = true := by decide +kernel
end XPgg
