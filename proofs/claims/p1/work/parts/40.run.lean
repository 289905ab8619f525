/-! The law, run. -/
section XGo
def x_go (n f : Nat) (w : List TK) : XR TK := x_run (tD (fun _ => 0)) x_tb x_tyl (x_ot0 n) f 1300 0 0 (x_en 0 [.inr (some 1000000)]) [] [] 0 0 w x_post
set_option maxRecDepth 1000000 in
theorem x_go0 : x_go 0 100 [] = [] := by decide +kernel
end XGo
