/-! sheet, run: by which and sort. -/
section XGo39
def x_w39 (r : List TK) : List TK := r ++ x_wc 39

set_option maxRecDepth 1000000 in
theorem x_c39a : x_go 7 40000 (x_w39 [(true, .arg 1, .int 0, true)]) = [] := by decide +kernel
set_option maxRecDepth 1000000 in
theorem x_c39b : x_go 7 40000 (x_w39 [(true, .int 2, .arg 1, true)]) = [] := by decide +kernel
end XGo39
