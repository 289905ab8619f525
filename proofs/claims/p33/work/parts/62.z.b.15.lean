/-! p33 by hand, 14. -/
noncomputable section XH33_14
variable {ot : XO Int32} {dp : Nat} {H H0 : List (XC Int32)}
/-- the class's runner stands as s says -/
def cN (H0 H : List (XC Int32)) (R nu ob oi sp co se inp : Nat) (p : rP) (s : rS) : Prop := ∃ (nf of : List (XV Int32)) (ln hw lw : Int32), hm H0 H [R, nu, ob, oi] [.inl (4, [.inr (some (nu)), .inr (some (sp)), .inr (some (co)), .inr (some (se)), .inr (some (inp)), .inr (some (ob)), .inl (pYr p), .inl (ln), .inl (nI (rNx s)), .inl (nI (rDn s)), .inl (rEn s), .inl (hw), .inl (lw)]), .inr (0, nf), .inl (5, [.inr (some oi), .inl (nI (rOs s))]), .inr (0, of)] ∧ (rEn s = -1 → ln = nI (rLn s)) ∧ nf.length = 6 ∧ (∀ k, k < 6 → nf[k]? = some (.inl (rNu s k))) ∧ of.length = 12 ∧ ∀ k, k < rOs s → of[k]? = some (.inl (rOv s k))
theorem nf_set {nf : List (XV Int32)} {nu_ : Nat → Int32} {n f : Nat} {v : Int32} (hl : n ≤ nf.length) (h : ∀ k, k < n → nf[k]? = some (.inl (nu_ k))) (hf : f < nf.length) : ∀ k, k < n → (nf.set f (.inl v))[k]? = some (.inl (up1 nu_ f v k)) := fun k hk => by
  by_cases e : k = f
  · subst e
    rw [up1_eq]
    exact List.getElem?_set_self (by omega)
  · rw [up1_ne e, List.getElem?_set_ne (fun z => e z.symm)]
    exact h k hk
theorem of_set {l : List (XV Int32)} {ov : Nat → Int32} {n : Nat} {v : Int32} (hl : n < l.length) (h : ∀ k, k < n → l[k]? = some (.inl (ov k))) : ∀ k, k < n + 1 → (l.set n (.inl v))[k]? = some (.inl (up1 ov n v k)) := fun k hk => by
  by_cases e : k = n
  · subst e
    rw [up1_eq]
    exact List.getElem?_set_self hl
  · rw [up1_ne e, List.getElem?_set_ne (fun z => e z.symm)]
    exact h k (by omega)
end XH33_14
