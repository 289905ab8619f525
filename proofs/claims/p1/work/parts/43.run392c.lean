/-! sheet, run: 2, missing. -/
section XGo392c
set_option maxRecDepth 1000000 in
theorem x_c39c2 : x_go 7 40000 (x_w39 [(false, .arg 1, .int 2, true), (true, .arg 2, .int 0, true)]) = [] := by decide +kernel
end XGo392c
