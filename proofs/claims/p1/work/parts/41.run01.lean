/-! One call, run: 1. -/
section XGo1
set_option maxRecDepth 1000000 in
theorem x_c30 : x_go 7 40000 (x_wc 30) = [] := by decide +kernel
set_option maxRecDepth 1000000 in
theorem x_c31 : x_go 7 40000 (x_wc 31) = [] := by decide +kernel
set_option maxRecDepth 1000000 in
theorem x_c32 : x_go 7 40000 (x_wc 32) = [] := by decide +kernel
set_option maxRecDepth 1000000 in
theorem x_c33 : x_go 7 40000 (x_wc 33) = [] := by decide +kernel
end XGo1
