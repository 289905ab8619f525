/-! One call, run: 7. -/
section XGo7
set_option maxRecDepth 1000000 in
theorem x_c35 : x_go 7 40000 (x_wc 35) = [] := by decide +kernel
set_option maxRecDepth 1000000 in
theorem x_c36 : x_go 7 40000 (x_wc 36) = [] := by decide +kernel
set_option maxRecDepth 1000000 in
theorem x_c37 : x_go 7 40000 (x_wc 37) = [] := by decide +kernel
set_option maxRecDepth 1000000 in
theorem x_c38 : x_go 7 40000 (x_wc 38) = [] := by decide +kernel
set_option maxRecDepth 1000000 in
theorem x_c41 : x_go 7 40000 (x_wc 41) = [] := by decide +kernel
end XGo7
