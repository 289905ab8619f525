/-! sheet, run: 1, missing. -/
section XGo391c
set_option maxRecDepth 1000000 in
theorem x_c39c1 : x_go 7 40000 (x_w39 [(false, .arg 1, .int 1, true), (true, .arg 2, .int 0, true)]) = [] := by decide +kernel
end XGo391c
