/-! A line read beside a line read, by its bytes. -/
section XPgd
set_option maxRecDepth 1000000 in
theorem pgE3_14 : vPe x_KT x_tb x_tyl x_ov0 x_cp x_hp x_knd pgWA pgWB 6 4 2 pgTl 20000 1 60 14 12 1 60 183 12 (pgXA [(0, (105), (105)), (1, (110), (110))] none) (pgXB [(0, (105), (105)), (1, (110), (110))] none) pgO3 = true := by decide +kernel
set_option maxRecDepth 1000000 in
theorem pgE3_15 : vPe x_KT x_tb x_tyl x_ov0 x_cp x_hp x_knd pgWA pgWB 6 4 2 pgTl 20000 1 60 14 12 1 60 183 12 (pgXA [(0, (105), (105)), (1, (111), (255))] none) (pgXB [(0, (105), (105)), (1, (111), (255))] none) pgO3 = true := by decide +kernel
set_option maxRecDepth 1000000 in
theorem pgE3_16 : vPe x_KT x_tb x_tyl x_ov0 x_cp x_hp x_knd pgWA pgWB 6 4 2 pgTl 20000 1 60 14 12 1 60 183 12 (pgXA [(0, (105), (105))] (some 1)) (pgXB [(0, (105), (105))] (some 1)) pgO3 = true := by decide +kernel
set_option maxRecDepth 1000000 in
theorem pgE3_17 : vPe x_KT x_tb x_tyl x_ov0 x_cp x_hp x_knd pgWA pgWB 6 4 2 pgTl 20000 1 60 14 12 1 60 183 12 (pgXA [(0, (106), (107))] none) (pgXB [(0, (106), (107))] none) pgO3 = true := by decide +kernel
set_option maxRecDepth 1000000 in
theorem pgE3_18 : vPe x_KT x_tb x_tyl x_ov0 x_cp x_hp x_knd pgWA pgWB 6 4 2 pgTl 20000 1 60 14 12 1 60 183 12 (pgXA [(0, (108), (108)), (7, (0), (47))] none) (pgXB [(0, (108), (108)), (7, (0), (47))] none) pgO3 = true := by decide +kernel
set_option maxRecDepth 1000000 in
theorem pgE3_19 : vPe x_KT x_tb x_tyl x_ov0 x_cp x_hp x_knd pgWA pgWB 6 4 2 pgTl 20000 1 60 14 12 1 60 183 12 (pgXA [(0, (108), (108)), (7, (48), (57))] none) (pgXB [(0, (108), (108)), (7, (48), (57))] none) pgO3 = true := by decide +kernel
set_option maxRecDepth 1000000 in
theorem pgE3_20 : vPe x_KT x_tb x_tyl x_ov0 x_cp x_hp x_knd pgWA pgWB 6 4 2 pgTl 20000 1 60 14 12 1 60 183 12 (pgXA [(0, (108), (108)), (7, (58), (255))] none) (pgXB [(0, (108), (108)), (7, (58), (255))] none) pgO3 = true := by decide +kernel
end XPgd
