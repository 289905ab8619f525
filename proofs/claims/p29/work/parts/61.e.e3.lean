/-! A line read beside a line read, by its bytes. -/
section XPge
set_option maxRecDepth 1000000 in
theorem pgE3_21 : vPe x_KT x_tb x_tyl x_ov0 x_cp x_hp x_knd pgWA pgWB 6 4 2 pgTl 20000 1 60 14 12 1 60 183 12 (pgXA [(0, (108), (108))] (some 7)) (pgXB [(0, (108), (108))] (some 7)) pgO3 = true := by decide +kernel
set_option maxRecDepth 1000000 in
theorem pgE3_22 : vPe x_KT x_tb x_tyl x_ov0 x_cp x_hp x_knd pgWA pgWB 6 4 2 pgTl 20000 1 60 14 12 1 60 183 12 (pgXA [(0, (109), (109))] none) (pgXB [(0, (109), (109))] none) pgO3 = true := by decide +kernel
set_option maxRecDepth 1000000 in
theorem pgE3_23 : vPe x_KT x_tb x_tyl x_ov0 x_cp x_hp x_knd pgWA pgWB 6 4 2 pgTl 20000 1 60 14 12 1 60 183 12 (pgXA [(0, (110), (110))] none) (pgXB [(0, (110), (110))] none) pgO3 = true := by decide +kernel
end XPge
