/-! One call, run: 2. -/
section XGo2
set_option maxRecDepth 1000000 in
theorem x_c0 : x_go 7 40000 (x_wc 0) = [] := by decide +kernel
set_option maxRecDepth 1000000 in
theorem x_c12 : x_go 7 40000 (x_wc 12) = [] := by decide +kernel
set_option maxRecDepth 1000000 in
theorem x_c16 : x_go 7 40000 (x_wc 16) = [] := by decide +kernel
set_option maxRecDepth 1000000 in
theorem x_c17 : x_go 7 40000 (x_wc 17) = [] := by decide +kernel
set_option maxRecDepth 1000000 in
theorem x_c18 : x_go 7 40000 (x_wc 18) = [] := by decide +kernel
end XGo2
