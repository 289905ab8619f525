/-! sheet, run: 2, there. -/
section XGo392d
set_option maxRecDepth 1000000 in
theorem x_c39d2 : x_go 7 40000 (x_w39 [(false, .arg 1, .int 2, true), (true, .arg 2, .int 0, false)]) = [] := by decide +kernel
end XGo392d
