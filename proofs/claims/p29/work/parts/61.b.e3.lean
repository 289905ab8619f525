/-! A line read beside a line read, by its bytes. -/
section XPgb
set_option maxRecDepth 1000000 in
theorem pgE3_0 : vPe x_KT x_tb x_tyl x_ov0 x_cp x_hp x_knd pgWA pgWB 6 4 2 pgTl 20000 1 60 14 12 1 60 183 12 (pgXA [(0, (0), (96))] none) (pgXB [(0, (0), (96))] none) pgO3 = true := by decide +kernel
set_option maxRecDepth 1000000 in
theorem pgE3_1 : vPe x_KT x_tb x_tyl x_ov0 x_cp x_hp x_knd pgWA pgWB 6 4 2 pgTl 20000 1 60 14 12 1 60 183 12 (pgXA [(0, (97), (97))] none) (pgXB [(0, (97), (97))] none) pgO3 = true := by decide +kernel
set_option maxRecDepth 1000000 in
theorem pgE3_2 : vPe x_KT x_tb x_tyl x_ov0 x_cp x_hp x_knd pgWA pgWB 6 4 2 pgTl 20000 1 60 14 12 1 60 183 12 (pgXA [(0, (98), (100))] none) (pgXB [(0, (98), (100))] none) pgO3 = true := by decide +kernel
set_option maxRecDepth 1000000 in
theorem pgE3_3 : vPe x_KT x_tb x_tyl x_ov0 x_cp x_hp x_knd pgWA pgWB 6 4 2 pgTl 20000 1 60 14 12 1 60 183 12 (pgXA [(0, (101), (101))] none) (pgXB [(0, (101), (101))] none) pgO3 = true := by decide +kernel
set_option maxRecDepth 1000000 in
theorem pgE3_4 : vPe x_KT x_tb x_tyl x_ov0 x_cp x_hp x_knd pgWA pgWB 6 4 2 pgTl 20000 1 60 14 12 1 60 183 12 (pgXA [(0, (102), (102))] none) (pgXB [(0, (102), (102))] none) pgO3 = true := by decide +kernel
set_option maxRecDepth 1000000 in
theorem pgE3_5 : vPe x_KT x_tb x_tyl x_ov0 x_cp x_hp x_knd pgWA pgWB 6 4 2 pgTl 20000 1 60 14 12 1 60 183 12 (pgXA [(0, (103), (103))] none) (pgXB [(0, (103), (103))] none) pgO3 = true := by decide +kernel
set_option maxRecDepth 1000000 in
theorem pgE3_6 : vPe x_KT x_tb x_tyl x_ov0 x_cp x_hp x_knd pgWA pgWB 6 4 2 pgTl 20000 1 60 14 12 1 60 183 12 (pgXA [(0, (104), (104))] none) (pgXB [(0, (104), (104))] none) pgO3 = true := by decide +kernel
set_option maxRecDepth 1000000 in
theorem pgE3_7 : vPe x_KT x_tb x_tyl x_ov0 x_cp x_hp x_knd pgWA pgWB 6 4 2 pgTl 20000 1 60 14 12 1 60 183 12 (pgXA [(0, (105), (105)), (1, (0), (101))] none) (pgXB [(0, (105), (105)), (1, (0), (101))] none) pgO3 = true := by decide +kernel
set_option maxRecDepth 1000000 in
theorem pgE3_8 : vPe x_KT x_tb x_tyl x_ov0 x_cp x_hp x_knd pgWA pgWB 6 4 2 pgTl 20000 1 60 14 12 1 60 183 12 (pgXA [(0, (105), (105)), (1, (102), (102)), (4, (0), (59))] none) (pgXB [(0, (105), (105)), (1, (102), (102)), (4, (0), (59))] none) pgO3 = true := by decide +kernel
end XPgb
