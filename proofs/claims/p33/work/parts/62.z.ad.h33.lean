/-! Cells that are told, and all others as they were. -/
noncomputable section XHm
/-- at the addresses As stand the cells Zs; what stood elsewhere in H0 stands there still -/
def hm (H0 H : List (XC Int32)) (As : List Nat) (Zs : List (XC Int32)) : Prop := (∀ (i j : Nat) a, As[i]? = some a → As[j]? = some a → i = j) ∧ As.length = Zs.length ∧ (∀ (k : Nat) a z, As[k]? = some a → Zs[k]? = some z → H[a]? = some z) ∧ (∀ (x : Nat) z, H0[x]? = some z → (∀ k : Nat, As[k]? ≠ some x) → H[x]? = some z) ∧ H.length = H0.length
variable {H0 H : List (XC Int32)} {As : List Nat} {Zs : List (XC Int32)}
theorem hm_at (h : hm H0 H As Zs) {i a : Nat} {z : XC Int32} (ha : As[i]? = some a) (hz : Zs[i]? = some z) : H[a]? = some z := h.2.2.1 i a z ha hz
theorem hm_ro (h : hm H0 H As Zs) {x : Nat} {z : XC Int32} (hx : H0[x]? = some z) (hn : ∀ k : Nat, As[k]? ≠ some x) : H[x]? = some z := h.2.2.2.1 x z hx hn
theorem hm_len (h : hm H0 H As Zs) : H.length = H0.length := h.2.2.2.2
theorem hm_set (h : hm H0 H As Zs) {i a : Nat} {z2 : XC Int32} (ha : As[i]? = some a) : hm H0 (H.set a z2) As (Zs.set i z2) := by
  obtain ⟨h1, h2, h3, h4, h5⟩ := h
  have hi := (List.getElem?_eq_some_iff.mp ha).1
  refine ⟨h1, by rw [List.length_set]; exact h2, fun k b z hb hz => ?_, fun x z hx hn => ?_, by rw [List.length_set]; exact h5⟩
  · have hal : a < H.length := (List.getElem?_eq_some_iff.mp (h3 i a _ ha (List.getElem?_eq_getElem (by omega)))).1
    by_cases e : k = i
    · subst e
      rw [ha] at hb
      cases hb
      rw [List.getElem?_set_self (by omega)] at hz
      cases hz
      exact List.getElem?_set_self hal
    · rw [List.getElem?_set_ne (fun y => e y.symm)] at hz
      rw [List.getElem?_set_ne (fun y => by
        subst y
        exact e (h1 k i _ hb ha))]
      exact h3 k b z hb hz
  · rw [List.getElem?_set_ne (fun y => by
      subst y
      exact hn i ha)]
    exact h4 x z hx hn
theorem hm_rf (h1 : ∀ (i j : Nat) a, As[i]? = some a → As[j]? = some a → i = j) (h2 : As.length = Zs.length) (h3 : ∀ (k : Nat) a z, As[k]? = some a → Zs[k]? = some z → H[a]? = some z) : hm H H As Zs := ⟨h1, h2, h3, fun _ _ h _ => h, rfl⟩
/-- from a heap on, further -/
theorem hm_tr {H2 : List (XC Int32)} {Zs2 : List (XC Int32)} (h : hm H0 H As Zs) (g : hm H H2 As Zs2) : hm H0 H2 As Zs2 := ⟨g.1, g.2.1, g.2.2.1, fun x z hx hn => g.2.2.2.1 x z (h.2.2.2.1 x z hx hn) hn, g.2.2.2.2.trans h.2.2.2.2⟩
variable {tb : XT} {tyl : List FieldType} {ot : XO Int32} {dp k pc n cn sn : Nat} {q : XM} {L : List (Nat × XV Int32)} {S : List (XV Int32)} {H2 : List (XC Int32)} {v : Option (XV Int32)}
theorem xT_pfM {i ix a ci j c2 : Nat} {fs : List (XV Int32)} {u : XV Int32} {ty : FieldType × Bool} (h : hm H0 H As Zs) (ha : As[i]? = some a) (hz : Zs[i]? = some (.inl (c2, fs))) (hq : tMth tb k = some q) (hi : mC q pc = some (.putfield ix, n)) (h1 : tFld tb (mO q) ix = some (ci, j)) (h3 : (tFt tb ci)[j]? = some ty) (h4 : (decide (c2 = ci) && x_fit dC ty.1 u && decide (j < fs.length) && (!ty.2 || (mI q && decide (mRc q = ci)))) = true) (g : ∀ H', hm H0 H' As (Zs.set i (.inl (c2, fs.set j u))) → x_To tb tyl ot dp k (pc + 3) L S H' cn sn v H2) : x_To tb tyl ot dp k pc L (u :: .inr (some a) :: S) H cn sn v H2 := xT_putfield hq hi h1 (hm_at h ha hz) h3 h4 (g _ (hm_set h ha))
theorem xT_iasM {i a e : Nat} {x : Int32} {vs : List (XV Int32)} (h : hm H0 H As Zs) (ha : As[i]? = some a) (hz : Zs[i]? = some (.inr (0, vs))) (hq : tMth tb k = some q) (hi : mC q pc = some (.iastore, n)) (he : e < vs.length ∧ vs.length < 2 ^ 31) (g : ∀ H', hm H0 H' As (Zs.set i (.inr (0, vs.set e (.inl x)))) → x_To tb tyl ot dp k (pc + 1) L S H' cn sn v H2) : x_To tb tyl ot dp k pc L (.inl x :: .inl (nI e) :: .inr (some a) :: S) H cn sn v H2 := xT_iastore hq hi (hm_at h ha hz) (ixN he rfl) (by
  rw [nI_clamp (by omega)]
  exact g _ (hm_set h ha))
end XHm
