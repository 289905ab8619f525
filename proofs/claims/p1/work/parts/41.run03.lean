/-! One call, run: 3. -/
section XGo3
set_option maxRecDepth 1000000 in
theorem x_c19 : x_go 7 40000 (x_wc 19) = [] := by decide +kernel
set_option maxRecDepth 1000000 in
theorem x_c20 : x_go 7 40000 (x_wc 20) = [] := by decide +kernel
set_option maxRecDepth 1000000 in
theorem x_c21 : x_go 7 40000 (x_wc 21) = [] := by decide +kernel
set_option maxRecDepth 1000000 in
theorem x_c22 : x_go 7 40000 (x_wc 22) = [] := by decide +kernel
set_option maxRecDepth 1000000 in
theorem x_c23 : x_go 7 40000 (x_wc 23) = [] := by decide +kernel
end XGo3
