/-! p33 by hand, 1. -/
noncomputable section XH33_1
variable {ot : XO Int32} {dp : Nat} {H H0 : List (XC Int32)}
def lpB (r : Nat) (y : Int32) : Bool := decide (x_bin 9 y (nI 4) = 0) && (decide (r = 0) || decide (¬ x_bin 9 y (nI 100) = 0) || decide (x_bin 9 y (nI 400) = 0))
theorem lpB_0y {y : Int32} (h4 : x_bin 9 y (nI 4) = 0) : lpB 0 y = true := by
  unfold lpB
  rw [decide_eq_true h4]
  rfl
theorem lpB_n {r : Nat} {y : Int32} (h4 : ¬ x_bin 9 y (nI 4) = 0) : lpB r y = false := by
  unfold lpB
  rw [decide_eq_false h4]
  rfl
theorem lpB_1 {y : Int32} (h4 : x_bin 9 y (nI 4) = 0) (h1 : ¬ x_bin 9 y (nI 100) = 0) : lpB 2 y = true := by
  unfold lpB
  rw [decide_eq_true h4, decide_eq_true h1]
  rfl
theorem lpB_2 {y : Int32} (h4 : x_bin 9 y (nI 4) = 0) (h1 : x_bin 9 y (nI 100) = 0) (h2 : x_bin 9 y (nI 400) = 0) : lpB 2 y = true := by
  unfold lpB
  rw [decide_eq_true h4, decide_eq_true h2, Bool.or_true]
  all_goals rfl
theorem lpB_3 {y : Int32} (h4 : x_bin 9 y (nI 4) = 0) (h1 : x_bin 9 y (nI 100) = 0) (h2 : ¬ x_bin 9 y (nI 400) = 0) : lpB 2 y = false := by
  unfold lpB
  rw [decide_eq_true h4, decide_eq_false h2, decide_eq_false (show ¬ ¬ x_bin 9 y (nI 100) = 0 from fun z => z h1)]
  all_goals rfl
end XH33_1
