/-! sheet, run: 1, there. -/
section XGo391d
set_option maxRecDepth 1000000 in
theorem x_c39d1 : x_go 7 40000 (x_w39 [(false, .arg 1, .int 1, true), (true, .arg 2, .int 0, false)]) = [] := by decide +kernel
end XGo391d
