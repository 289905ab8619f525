/-! One call, run: 6. -/
section XGo6
set_option maxRecDepth 1000000 in
theorem x_c26 : x_go 7 40000 (x_wc 26) = [] := by decide +kernel
set_option maxRecDepth 1000000 in
theorem x_c27 : x_go 7 40000 (x_wc 27) = [] := by decide +kernel
set_option maxRecDepth 1000000 in
theorem x_c28 : x_go 7 40000 (x_wc 28) = [] := by decide +kernel
set_option maxRecDepth 1000000 in
theorem x_c29 : x_go 7 40000 (x_wc 29) = [] := by decide +kernel
set_option maxRecDepth 1000000 in
theorem x_c34 : x_go 7 40000 (x_wc 34) = [] := by decide +kernel
end XGo6
