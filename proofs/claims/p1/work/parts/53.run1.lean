/-! program, run: its text constants outside. -/
section XGo1
set_option maxRecDepth 1000000 in
theorem x_c1a : x_runW (tD (fun _ => 0)) x_tb x_tyl (x_ot1 7 none) 40000 1300 0 0 (x_en 0 [.inr (some 1000000)]) [] [] 0 0 (x_wc 1) x_post = [] := by decide +kernel
set_option maxRecDepth 1000000 in
theorem x_c1b : x_runW (tD (fun _ => 0)) x_tb x_tyl (x_ot1 7 (some 1200000)) 40000 1300 0 0 (x_en 0 [.inr (some 1000000)]) [] [] 0 0 (x_wc 1) x_post = [] := by decide +kernel
end XGo1
