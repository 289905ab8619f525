/-! A block of the law that compares two answers. -/
noncomputable section XBlkD
/-- a block that compares the answers, and goes straight on -/
theorem cBlkD {KT : vKT} {tb : XT} {tyl : List FieldType} {ot : XO Int32} {N : vAn} {P : (Nat → Nat) → (Nat → Option Nat) → List (XC Int32) → Prop} {dp hd pc p1 p2 pi n kA kB ixA ixB n1 n2 n4 n5 n6 n8 n9 : Nat} {x5 x7 x8 : Int} {q qA qB : XM} {cmp : Prop} (hc : cmp) (hq : tMth tb 0 = some q) (hL : aL N = bLs) (hqA : tMth tb kA = some qA) (hqB : tMth tb kB = some qB) (hn : oSn ot < 1000000) (hn7 : n ≤ 6)
    (c1 : mC q pc = some (.aload_n 1, n1)) (c2 : bArgs q n 1 (pc + 1) = some p1) (c3 : mC q p1 = some (.invokevirtual ixA, n2)) (c4 : tCal tb (mO q) ixA = some (kA, 0)) (c6 : mC q (p1 + 3) = some (.aload_n 2, n4)) (c7 : bArgs q n 1 (p1 + 3 + 1) = some p2) (c8 : mC q p2 = some (.invokevirtual ixB, n5)) (c9 : tCal tb (mO q) ixB = some (kB, 0)) (c10 : mC q (p2 + 3) = some (.if_icmp .eq x5, n6)) (c13 : x_jp (p2 + 3) x5 = some pi)
    (i1 : mC q pi = some (.iinc 3 x7, n8)) (i2 : mC q (pi + 3) = some (.goto x8, n9)) (i3 : x_jp (pi + 3) x8 = some hd) (i4 : (Int32.ofInt x7).toInt = 7) (i5 : 3 < mL q) (a1 : mNp qA = n) (a2 : n + 1 ≤ mL qA) (b1 : mNp qB = n) (b2 : n + 1 ≤ mL qB)
    (hcn : ∀ ρ : Nat → Int, 0 ≤ ρ 1 → ρ 1 + 7 ≤ ρ 0 → ρ 0 ≤ 3584 → lEv ρ (aCn N) + ((mMc qA + mMc qB : Nat) : Int) ≤ ((mMc q : Nat) : Int) ∧ lEv ρ (aSn N) + ((mMs qA + mMs qB : Nat) : Int) ≤ ((mMs q : Nat) : Int)) (hcm : mMc q ≤ 1000000) (hcd : ∀ ρ ρ2 : Nat → Int, ρ2 0 = ρ 0 → ρ2 1 = ρ 1 + 7 → lEv ρ (aCn N) + ((mMc qA + mMc qB : Nat) : Int) ≤ lEv ρ2 (aCn N) ∧ lEv ρ (aSn N) + ((mMs qA + mMs qB : Nat) : Int) ≤ lEv ρ2 (aSn N)) (hs : oSn ot ≤ 3584)
    (hPP : bPP KT tb tyl ot N P dp kA kB n (mMc qA + mMc qB) (mRc qA) (mRc qB) cmp)
    {ρ : Nat → Int} {σ : Nat → Nat} {ty : Nat → Option Nat} {H : List (XC Int32)} {Lc : List (Nat × XV Int32)} {cn2 sn2 : Nat} (hat : lwAt KT ot N P ρ σ ty H Lc cn2 sn2) (h0 : 0 ≤ ρ 1) (h7 : ρ 1 + 7 ≤ ρ 0)
    (cont : ∀ ρ2 σ2 ty2 H2 Lc2 cn3 sn3, ρ2 1 = ρ 1 + 7 → lwAt KT ot N P ρ2 σ2 ty2 H2 Lc2 cn3 sn3 → ∃ H3, x_To tb tyl ot (dp + 1) 0 hd Lc2 [] H2 cn3 sn3 (some (.inl 1)) H3) : ∃ H3, x_To tb tyl ot (dp + 1) 0 pc Lc [] H cn2 sn2 (some (.inl 1)) H3 := by
  obtain ⟨g0, g1, g2, g3, g4, g5, g6, g7⟩ := hat
  obtain ⟨t, ht⟩ : ∃ t : Nat, ρ 1 = (t : Int) := ⟨(ρ 1).toNat, by omega⟩
  obtain ⟨m1, m2⟩ := hcn ρ h0 h7 (by omega)
  have hmc : H.length + (mMc qA + mMc qB) ≤ 1000000 := by omega
  obtain ⟨a, b, HA, HH, ρ2, σ2, ty2, y1, y2, y3, y4, y5, y6, y7, y8, y9, y10, y11, y12⟩ := hPP ρ σ ty H t g0 ht (by omega) hmc g3 g7
  have l0 : x_lk Lc 0 = some (.inr (some 1000000)) := g4 0 (.inr (some 1000000)) (by rw [hL]; rfl)
  have l1 : x_lk Lc 1 = some (.inr (some (sR σ 0))) := g4 1 (.inr (some 0)) (by rw [hL]; rfl)
  have l2 : x_lk Lc 2 = some (.inr (some (sR σ 1))) := g4 2 (.inr (some 1)) (by rw [hL]; rfl)
  have l3 : x_lk Lc 3 = some (.inl (Int32.ofInt (ρ 1))) := by
    rw [g4 3 (.inl (lSy 1)) (by rw [hL]; rfl)]
    exact congrArg (fun z => some (Sum.inl (Int32.ofInt z))) (lSy_ev ρ 1)
  have e1 : (Int32.ofInt (ρ 1)).toInt = (t : Int) := by
    rw [ht]
    exact ofInt_toInt (by omega) (by omega)
  obtain ⟨d1, d2⟩ := hcd ρ ρ2 y6 y7
  obtain ⟨H3, h3⟩ := bEnd (cn := cn2) (sn := sn2) (mc := mMc qA + mMc qB) (ms := mMs qA + mMs qB) hq hL i1 i2 i3 i4 i5 hn g4 ht (by omega) (y6.trans g0) y7 y8 y9 y10 y11 y12 g1 hmc (by omega) (by omega) cont
  refine ⟨H3, xT_aload_n hq c1 l1 (bArgs_to hq l0 l3 e1 hn n 1 _ _ _ c2 (by omega) (bCall hq c3 c4 hqA a1 (bVs_len ot t n 1) (by decide) a2 y1 (by omega) (by omega) y2 (xT_aload_n hq c6 l2 (bArgs_to hq l0 l3 e1 hn n 1 _ _ _ c7 (by omega) (bCall hq c8 c9 hqB b1 (bVs_len ot t n 1) (Nat.le_of_ble_eq_true rfl) b2 y3 (by omega) (by omega) y4 (xT_if_icmpY hq c10 c13 (by rw [y5 hc]; exact decide_eq_true rfl) ?_))))))⟩
  rw [Nat.add_assoc cn2, Nat.add_assoc sn2]
  exact h3
end XBlkD
