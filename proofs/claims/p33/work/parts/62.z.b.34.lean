/-! p33 by hand, 33. -/
noncomputable section XH33_33
variable {ot : XO Int32} {dp : Nat} {H H0 : List (XC Int32)}
theorem rM_parts {H0 H : List (XC Int32)} {b F0 F1 pc tk dn en W0 W1 ws la : Nat} {gs gs2 : List (XV Int32)} {s0 s1 : rS} (h : rM H0 H b F0 F1 pc tk dn en W0 W1 ws la gs s0 s1) : rM H0 (H.set b (.inl (12, gs2))) b F0 F1 pc tk dn en W0 W1 ws la gs2 s0 s1 := by
  obtain ⟨f0, f1, w0, w1, x0, x1, h0, h1, h, hr⟩ := h
  exact ⟨f0, f1, w0, w1, x0, x1, h0, h1, hm_set (i := 0) (z2 := .inl (12, gs2)) h rfl, hr⟩
end XH33_33
