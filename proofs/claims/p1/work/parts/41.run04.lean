/-! One call, run: 4. -/
section XGo4
set_option maxRecDepth 1000000 in
theorem x_c2 : x_go 7 40000 (x_wc 2) = [] := by decide +kernel
set_option maxRecDepth 1000000 in
theorem x_c3 : x_go 7 40000 (x_wc 3) = [] := by decide +kernel
set_option maxRecDepth 1000000 in
theorem x_c4 : x_go 7 40000 (x_wc 4) = [] := by decide +kernel
set_option maxRecDepth 1000000 in
theorem x_c5 : x_go 7 40000 (x_wc 5) = [] := by decide +kernel
set_option maxRecDepth 1000000 in
theorem x_c6 : x_go 7 40000 (x_wc 6) = [] := by decide +kernel
end XGo4
