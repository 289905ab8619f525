/-! One call, run: 5. -/
section XGo5
set_option maxRecDepth 1000000 in
theorem x_c7 : x_go 7 40000 (x_wc 7) = [] := by decide +kernel
set_option maxRecDepth 1000000 in
theorem x_c8 : x_go 7 40000 (x_wc 8) = [] := by decide +kernel
set_option maxRecDepth 1000000 in
theorem x_c9 : x_go 7 40000 (x_wc 9) = [] := by decide +kernel
set_option maxRecDepth 1000000 in
theorem x_c24 : x_go 7 40000 (x_wc 24) = [] := by decide +kernel
set_option maxRecDepth 1000000 in
theorem x_c25 : x_go 7 40000 (x_wc 25) = [] := by decide +kernel
end XGo5
