/-! sheet, run: 0, there. -/
section XGo390d
set_option maxRecDepth 1000000 in
theorem x_c39d0 : x_go 7 40000 (x_w39 [(false, .arg 1, .int 0, true), (true, .arg 2, .int 0, false)]) = [] := by decide +kernel
end XGo390d
