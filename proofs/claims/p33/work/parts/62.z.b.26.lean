/-! p33 by hand, 25. -/
noncomputable section XH33_25
variable {ot : XO Int32} {dp : Nat} {H H0 : List (XC Int32)}
/-- a row of twelve ints -/
def wLf (l : List (XV Int32)) : Prop := l.length = 12 ∧ l.all (fun u => u.isLeft) = true
theorem wLf_set {l : List (XV Int32)} {i : Nat} {v : Int32} (h : wLf l) : wLf (l.set i (.inl v)) := ⟨by rw [List.length_set]; exact h.1, List.all_eq_true.mpr (fun u hu => by
  rcases List.mem_or_eq_of_mem_set hu with z | z
  · exact List.all_eq_true.mp h.2 u z
  · rw [z]
    rfl)⟩
/-- the reference's two runs stand as s0 and s1 say -/
def rM (H0 H : List (XC Int32)) (b F0 F1 pc tk dn en W0 W1 ws la : Nat) (gs : List (XV Int32)) (s0 s1 : rS) : Prop := ∃ (f0 f1 w0 w1 : List (XV Int32)) (x0 x1 h0 h1 : Int32), hm H0 H [b, F0, F1, pc, tk, dn, en, W0, W1, ws, la] [.inl (12, gs), .inr (0, f0), .inr (0, f1), .inr (0, [.inl x0, .inl x1]), .inr (0, [.inl (nI (rNx s0)), .inl (nI (rNx s1))]), .inr (0, [.inl (nI (rDn s0)), .inl (nI (rDn s1))]), .inr (0, [.inl (rEn s0), .inl (rEn s1)]), .inr (0, w0), .inr (0, w1), .inr (0, [.inl (nI (rOs s0)), .inl (nI (rOs s1))]), .inr (0, [.inl h0, .inl h1])] ∧ (rEn s0 = -1 → x0 = nI (rLn s0)) ∧ (rEn s1 = -1 → x1 = nI (rLn s1)) ∧ f0.length = 6 ∧ f1.length = 6 ∧ wLf w0 ∧ wLf w1 ∧ (∀ k, k < 6 → f0[k]? = some (.inl (rNu s0 k))) ∧ (∀ k, k < 6 → f1[k]? = some (.inl (rNu s1 k))) ∧ (∀ k, k < rOs s0 → w0[k]? = some (.inl (rOv s0 k))) ∧ ∀ k, k < rOs s1 → w1[k]? = some (.inl (rOv s1 k))
end XH33_25
