/-! One call, run: 0. -/
section XGo0
set_option maxRecDepth 1000000 in
theorem x_c10 : x_go 7 40000 (x_wc 10) = [] := by decide +kernel
set_option maxRecDepth 1000000 in
theorem x_c11 : x_go 7 40000 (x_wc 11) = [] := by decide +kernel
set_option maxRecDepth 1000000 in
theorem x_c13 : x_go 7 40000 (x_wc 13) = [] := by decide +kernel
set_option maxRecDepth 1000000 in
theorem x_c14 : x_go 7 40000 (x_wc 14) = [] := by decide +kernel
set_option maxRecDepth 1000000 in
theorem x_c15 : x_go 7 40000 (x_wc 15) = [] := by decide +kernel
end XGo0
