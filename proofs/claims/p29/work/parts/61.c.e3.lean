/-! A line read beside a line read, by its bytes. -/
section XPgc
set_option maxRecDepth 1000000 in
theorem pgE3_9 : vPe x_KT x_tb x_tyl x_ov0 x_cp x_hp x_knd pgWA pgWB 6 4 2 pgTl 20000 1 60 14 12 1 60 183 12 (pgXA [(0, (105), (105)), (1, (102), (102)), (4, (60), (60))] none) (pgXB [(0, (105), (105)), (1, (102), (102)), (4, (60), (60))] none) pgO3 = true := by decide +kernel
set_option maxRecDepth 1000000 in
theorem pgE3_10 : vPe x_KT x_tb x_tyl x_ov0 x_cp x_hp x_knd pgWA pgWB 6 4 2 pgTl 20000 1 60 14 12 1 60 183 12 (pgXA [(0, (105), (105)), (1, (102), (102)), (4, (61), (61))] none) (pgXB [(0, (105), (105)), (1, (102), (102)), (4, (61), (61))] none) pgO3 = true := by decide +kernel
set_option maxRecDepth 1000000 in
theorem pgE3_11 : vPe x_KT x_tb x_tyl x_ov0 x_cp x_hp x_knd pgWA pgWB 6 4 2 pgTl 20000 1 60 14 12 1 60 183 12 (pgXA [(0, (105), (105)), (1, (102), (102)), (4, (62), (255))] none) (pgXB [(0, (105), (105)), (1, (102), (102)), (4, (62), (255))] none) pgO3 = true := by decide +kernel
set_option maxRecDepth 1000000 in
theorem pgE3_12 : vPe x_KT x_tb x_tyl x_ov0 x_cp x_hp x_knd pgWA pgWB 6 4 2 pgTl 20000 1 60 14 12 1 60 183 12 (pgXA [(0, (105), (105)), (1, (102), (102))] (some 4)) (pgXB [(0, (105), (105)), (1, (102), (102))] (some 4)) pgO3 = true := by decide +kernel
set_option maxRecDepth 1000000 in
theorem pgE3_13 : vPe x_KT x_tb x_tyl x_ov0 x_cp x_hp x_knd pgWA pgWB 6 4 2 pgTl 20000 1 60 14 12 1 60 183 12 (pgXA [(0, (105), (105)), (1, (103), (109))] none) (pgXB [(0, (105), (105)), (1, (103), (109))] none) pgO3 = true := by decide +kernel
end XPgc
