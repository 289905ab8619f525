/-! The law, run: shorter scripts. -/
section XGo
def x_go (n f : Nat) (w : List TK) : XR TK := x_run (tD (fun _ => 0)) x_tb x_tyl (x_ot0 n) f 1300 0 0 (x_en 0 [.inr (some 1000000)]) [] [] 0 0 w x_post
def x_wc (c : Int32) : List TK := [(false, .elem (.add (.index 3) (.arg 0)) (.int 63), .int c, true)]
def x_wd : List TK := [(true, .elem (.add (.index 3) (.arg 0)) (.int 63), .int 42, false)]
set_option maxRecDepth 1000000 in
theorem x_go0 : x_go 0 20000 [] = [] := by decide +kernel
set_option maxRecDepth 1000000 in
theorem x_go1 : x_go 1 20000 [] = [] := by decide +kernel
set_option maxRecDepth 1000000 in
theorem x_go2 : x_go 2 20000 [] = [] := by decide +kernel
set_option maxRecDepth 1000000 in
theorem x_go3 : x_go 3 20000 [] = [] := by decide +kernel
set_option maxRecDepth 1000000 in
theorem x_go4 : x_go 4 20000 [] = [] := by decide +kernel
set_option maxRecDepth 1000000 in
theorem x_go5 : x_go 5 20000 [] = [] := by decide +kernel
set_option maxRecDepth 1000000 in
theorem x_go6 : x_go 6 20000 [] = [] := by decide +kernel
end XGo
