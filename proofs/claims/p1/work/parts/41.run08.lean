/-! One call, run: 8. -/
section XGo8
set_option maxRecDepth 1000000 in
theorem x_c40 : x_go 7 40000 (x_wc 40) = [] := by decide +kernel
set_option maxRecDepth 1000000 in
theorem x_cd : x_go 7 40000 x_wd = [] := by decide +kernel
end XGo8
