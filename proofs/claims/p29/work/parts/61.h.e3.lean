/-! A line read beside a line read, by its bytes. -/
section XPgh
set_option maxRecDepth 1000000 in
theorem pgE3_33 : vPe x_KT x_tb x_tyl x_ov0 x_cp x_hp x_knd pgWA pgWB 6 4 2 pgTl 20000 1 60 14 12 1 60 183 12 (pgXA [(0, (115), (115)), (1, (101), (101))] (some 7)) (pgXB [(0, (115), (115)), (1, (101), (101))] (some 7)) pgO3 = true := by decide +kernel
set_option maxRecDepth 1000000 in
theorem pgE3_34 : vPe x_KT x_tb x_tyl x_ov0 x_cp x_hp x_knd pgWA pgWB 6 4 2 pgTl 20000 1 60 14 12 1 60 183 12 (pgXA [(0, (115), (115)), (1, (102), (116))] none) (pgXB [(0, (115), (115)), (1, (102), (116))] none) pgO3 = true := by decide +kernel
set_option maxRecDepth 1000000 in
theorem pgE3_35 : vPe x_KT x_tb x_tyl x_ov0 x_cp x_hp x_knd pgWA pgWB 6 4 2 pgTl 20000 1 60 14 12 1 60 183 12 (pgXA [(0, (115), (115)), (1, (117), (117))] none) (pgXB [(0, (115), (115)), (1, (117), (117))] none) pgO3 = true := by decide +kernel
set_option maxRecDepth 1000000 in
theorem pgE3_36 : vPe x_KT x_tb x_tyl x_ov0 x_cp x_hp x_knd pgWA pgWB 6 4 2 pgTl 20000 1 60 14 12 1 60 183 12 (pgXA [(0, (115), (115)), (1, (118), (255))] none) (pgXB [(0, (115), (115)), (1, (118), (255))] none) pgO3 = true := by decide +kernel
set_option maxRecDepth 1000000 in
theorem pgE3_37 : vPe x_KT x_tb x_tyl x_ov0 x_cp x_hp x_knd pgWA pgWB 6 4 2 pgTl 20000 1 60 14 12 1 60 183 12 (pgXA [(0, (115), (115))] (some 1)) (pgXB [(0, (115), (115))] (some 1)) pgO3 = true := by decide +kernel
set_option maxRecDepth 1000000 in
theorem pgE3_38 : vPe x_KT x_tb x_tyl x_ov0 x_cp x_hp x_knd pgWA pgWB 6 4 2 pgTl 20000 1 60 14 12 1 60 183 12 (pgXA [(0, (116), (255))] none) (pgXB [(0, (116), (255))] none) pgO3 = true := by decide +kernel
set_option maxRecDepth 1000000 in
theorem pgE3_39 : vPe x_KT x_tb x_tyl x_ov0 x_cp x_hp x_knd pgWA pgWB 6 4 2 pgTl 20000 1 60 14 12 1 60 183 12 (pgXA [] (some 0)) (pgXB [] (some 0)) pgO3 = true := by decide +kernel
end XPgh
