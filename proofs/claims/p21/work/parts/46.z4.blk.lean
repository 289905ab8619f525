/-! A block of the law's loop: both calls, their answers thrown away or compared. -/
noncomputable section XBlk
/-- the script's int j behind the place that is read, pushed -/
def bArg (q : XM) (pc j : Nat) : Option Nat := match mC q pc, mC q (pc + 1), mC q (pc + 2) with
  | some (.aload_n a, _), some (.iload_n b, _), some (.iconst x, _) => if (a : Nat) = 0 ∧ (b : Nat) = 3 ∧ (Int32.ofInt x).toInt = (j : Int) then (match mC q (pc + 3), mC q (pc + 4) with
    | some (.iadd, _), some (.iaload, _) => some (pc + 5)
    | _, _ => none) else none
  | some (.aload_n a, _), some (.iload_n b, _), some (.bipush x, _) => if (a : Nat) = 0 ∧ (b : Nat) = 3 ∧ (Int8.ofInt x).toInt32.toInt = (j : Int) then (match mC q (pc + 4), mC q (pc + 5) with
    | some (.iadd, _), some (.iaload, _) => some (pc + 6)
    | _, _ => none) else none
  | _, _, _ => none
def bArgs (q : XM) : Nat → Nat → Nat → Option Nat
  | 0, _, pc => some pc
  | n + 1, j, pc => match bArg q pc j with
    | some pc2 => bArgs q n (j + 1) pc2
    | none => none
theorem bAdd {x y : Int32} {t j : Nat} (hx : x.toInt = (t : Int)) (hy : y.toInt = (j : Int)) (h : t + j < 1000000) : (decide (x_bin 0 x y < 0) || decide (1000000 ≤ (x_bin 0 x y).toNatClampNeg)) = false ∧ (x_bin 0 x y).toNatClampNeg = t + j := by
  have e : (x_bin 0 x y).toInt = ((t + j : Nat) : Int) := by
    show (x + y).toInt = _
    rw [Int32.toInt_add, hx, hy, Int.bmod_eq_of_le (by simp; omega) (by simp; omega)]
    rfl
  have e2 : (x_bin 0 x y).toNatClampNeg = t + j := by
    show (x_bin 0 x y).toInt.toNat = _
    rw [e]
    rfl
  refine ⟨?_, e2⟩
  rw [e2, decide_eq_false (fun h => by
    have h2 : (x_bin 0 x y).toInt < (0 : Int) := Int32.lt_iff_toInt_lt.mp h
    omega), decide_eq_false (by omega)]
  rfl
theorem bArg_to {tb : XT} {tyl : List FieldType} {ot : XO Int32} {dp k pc pc2 j t cn sn : Nat} {q : XM} {L : List (Nat × XV Int32)} {S : List (XV Int32)} {H H2 : List (XC Int32)} {v : Option (XV Int32)} {i : Int32} (hb : bArg q pc j = some pc2) (hq : tMth tb k = some q) (h0 : x_lk L 0 = some (.inr (some 1000000))) (h3 : x_lk L 3 = some (.inl i)) (hi : i.toInt = (t : Int)) (hl : t + j < oSn ot) (hn : oSn ot < 1000000)
    (g : x_To tb tyl ot dp k pc2 L (.inl (oSc ot (t + j)) :: S) H cn sn v H2) : x_To tb tyl ot dp k pc L S H cn sn v H2 := by
  have fin : ∀ (y : Int32) (p n5 : Nat), y.toInt = (j : Int) → mC q p = some (.iaload, n5) → x_To tb tyl ot dp k (p + 1) L (.inl (oSc ot (t + j)) :: S) H cn sn v H2 → x_To tb tyl ot dp k p L (.inl (dBin dC 0 i y) :: .inr (some 1000000) :: S) H cn sn v H2 := fun y p n5 hy h5 g => by
    obtain ⟨b1, b2⟩ := bAdd hi hy (by omega)
    refine xT_ialoadS hq h5 ?_ ?_
    · have b3 := Bool.or_eq_false_iff.mp b1
      show (decide (x_bin 0 i y < 0) || decide (oSn ot ≤ (x_bin 0 i y).toNatClampNeg)) = false
      rw [b3.1, b2, decide_eq_false (by omega)]
      rfl
    · show x_To tb tyl ot dp k (p + 1) L (.inl (oSc ot (x_bin 0 i y).toNatClampNeg) :: S) H cn sn v H2
      rw [b2]
      exact g
  unfold bArg at hb
  split at hb
  · rename_i a n1 b n2 x n3 h1 h2 h4
    split at hb
    rotate_left
    · cases hb
    rename_i hc
    obtain ⟨c1, c2, c3⟩ := hc
    split at hb
    rotate_left
    · cases hb
    rename_i n4 n5 h5 h6
    cases hb
    refine xT_aload_n hq h1 (by rw [c1]; exact h0) (xT_iload_n hq h2 (by rw [c2]; exact h3) (xT_iconst hq h4 (xT_iadd hq h5 (fin _ _ n5 c3 h6 g))))
  · rename_i a n1 b n2 x n3 h1 h2 h4
    split at hb
    rotate_left
    · cases hb
    rename_i hc
    obtain ⟨c1, c2, c3⟩ := hc
    split at hb
    rotate_left
    · cases hb
    rename_i n4 n5 h5 h6
    cases hb
    refine xT_aload_n hq h1 (by rw [c1]; exact h0) (xT_iload_n hq h2 (by rw [c2]; exact h3) (xT_bipush hq h4 (xT_iadd hq h5 (fin _ _ n5 c3 h6 g))))
  · cases hb
/-- the ints of the script that a call takes -/
def bVs (ot : XO Int32) (t : Nat) : Nat → Nat → List (XV Int32)
  | 0, _ => []
  | n + 1, j => .inl (oSc ot (t + j)) :: bVs ot t n (j + 1)
theorem bVs_len (ot : XO Int32) (t : Nat) : ∀ n j, (bVs ot t n j).length = n
  | 0, _ => rfl
  | n + 1, j => congrArg (· + 1) (bVs_len ot t n (j + 1))
theorem bArgs_to {tb : XT} {tyl : List FieldType} {ot : XO Int32} {dp k t cn sn : Nat} {q : XM} {L : List (Nat × XV Int32)} {H H2 : List (XC Int32)} {v : Option (XV Int32)} {i : Int32} (hq : tMth tb k = some q) (h0 : x_lk L 0 = some (.inr (some 1000000))) (h3 : x_lk L 3 = some (.inl i)) (hi : i.toInt = (t : Int)) (hn : oSn ot < 1000000) : ∀ (n j pc pc2 : Nat) (S : List (XV Int32)), bArgs q n j pc = some pc2 → t + j + n ≤ oSn ot → x_To tb tyl ot dp k pc2 L ((bVs ot t n j).reverse ++ S) H cn sn v H2 → x_To tb tyl ot dp k pc L S H cn sn v H2
  | 0, j, pc, pc2, S, hb, _, g => by
    cases hb
    exact g
  | n + 1, j, pc, pc2, S, hb, hl, g => by
    unfold bArgs at hb
    split at hb
    · rename_i p3 h
      refine bArg_to h hq h0 h3 hi (by omega) hn (bArgs_to hq h0 h3 hi hn n (j + 1) p3 pc2 _ hb (by omega) ?_)
      have e : (bVs ot t (n + 1) j).reverse ++ S = (bVs ot t n (j + 1)).reverse ++ (.inl (oSc ot (t + j)) :: S) := by
        show (.inl (oSc ot (t + j)) :: bVs ot t n (j + 1)).reverse ++ S = _
        rw [List.reverse_cons, List.append_assoc]
        rfl
      rw [← e]
      exact g
    · cases hb
/-- a call whose arguments stand on the stack -/
theorem bCall {tb : XT} {tyl : List FieldType} {ot : XO Int32} {dp k pc n j a ix nx cn sn : Nat} {q q2 : XM} {L : List (Nat × XV Int32)} {as r : List (XV Int32)} {H H1 H2 : List (XC Int32)} {u v : Option (XV Int32)} (hq : tMth tb k = some q) (hi : mC q pc = some (.invokevirtual ix, nx)) (hc : tCal tb (mO q) ix = some (j, 0)) (hm : tMth tb j = some q2) (hn : mNp q2 = n) (ha : as.length = n) (hr : r.length ≤ 8) (hl : n + 1 ≤ mL q2) (hx : x_rc ot H a = some (mRc q2)) (h1 : cn + mMc q2 ≤ mMc q) (h2 : sn + mMs q2 ≤ mMs q)
    (g1 : x_To tb tyl ot dp j 0 (x_en 0 (.inr (some a) :: as)) [] H 0 0 u H1) (g2 : x_To tb tyl ot (dp + 1) k (pc + 3) L (x_push u r) H1 (cn + mMc q2) (sn + mMs q2) v H2) : x_To tb tyl ot (dp + 1) k pc L (as.reverse ++ .inr (some a) :: r) H cn sn v H2 := by
  have e1 : (as.reverse ++ .inr (some a) :: r).drop (mNp q2) = .inr (some a) :: r := by
    rw [hn, List.drop_append_of_le_length (by rw [List.length_reverse]; omega), List.drop_eq_nil_of_le (by rw [List.length_reverse]; omega)]
    rfl
  have e2 : ((as.reverse ++ .inr (some a) :: r).take (mNp q2)).reverse = as := by
    rw [hn, List.take_append_of_le_length (by rw [List.length_reverse]; omega), List.take_of_length_le (by rw [List.length_reverse]; omega), List.reverse_reverse]
  refine xT_invokevirtual hq hi hc hm e1 ?_ (by rw [e2]; exact g1) g2
  rw [hx, hn, decide_eq_true (show n + 1 ≤ (as.reverse ++ (Sum.inr (some a) : XV Int32) :: r).length by
    rw [List.length_append, List.length_reverse, List.length_cons, ha]
    omega), decide_eq_true (show (0 : Nat) = 0 from rfl), decide_eq_true (show some (mRc q2) = some (mRc q2) from rfl), decide_eq_true hr, decide_eq_true hl, decide_eq_true h1, decide_eq_true h2]
  rfl
/-- what both calls of a block come to -/
def bPP (KT : vKT) (tb : XT) (tyl : List FieldType) (ot : XO Int32) (N : vAn) (P : (Nat → Nat) → (Nat → Option Nat) → List (XC Int32) → Prop) (dp kA kB n mc : Nat) (rA rB : Nat) (cmp : Prop) : Prop :=
  ∀ (ρ : Nat → Int) (σ : Nat → Nat) (ty : Nat → Option Nat) (H : List (XC Int32)) (t : Nat), ρ 0 = (oSn ot : Int) → ρ 1 = (t : Int) → t + 7 ≤ oSn ot → H.length + mc ≤ 1000000 → vRel KT ρ σ ty H (aSt N) → P σ ty H →
    ∃ (a b : Int32) (HA HH : List (XC Int32)) (ρ2 : Nat → Int) (σ2 : Nat → Nat) (ty2 : Nat → Option Nat), x_rc ot H (sR σ 0) = some rA ∧ x_To tb tyl ot dp kA 0 (x_en 0 (.inr (some (sR σ 0)) :: bVs ot t n 1)) [] H 0 0 (some (.inl a)) HA ∧ x_rc ot HA (sR σ 1) = some rB ∧ x_To tb tyl ot dp kB 0 (x_en 0 (.inr (some (sR σ 1)) :: bVs ot t n 1)) [] HA 0 0 (some (.inl b)) HH ∧ (cmp → a = b) ∧
      ρ2 0 = ρ 0 ∧ ρ2 1 = ρ 1 + 7 ∧ sR σ2 0 = sR σ 0 ∧ sR σ2 1 = sR σ 1 ∧ vRel KT ρ2 σ2 ty2 HH (aSt N) ∧ P σ2 ty2 HH ∧ HH.length ≤ H.length + mc
/-- the notes' locals -/
def bLs : List (Nat × vA) := [(0, .inr (some 1000000)), (1, .inr (some 0)), (2, .inr (some 1)), (3, .inl (lSy 1))]
theorem bEnd {KT : vKT} {tb : XT} {tyl : List FieldType} {ot : XO Int32} {N : vAn} {P : (Nat → Nat) → (Nat → Option Nat) → List (XC Int32) → Prop} {dp2 hd pi cn sn mc ms n1 n2 t : Nat} {x7 x8 : Int} {q : XM} (hq : tMth tb 0 = some q) (hL : aL N = bLs) (i1 : mC q pi = some (.iinc 3 x7, n1)) (i2 : mC q (pi + 3) = some (.goto x8, n2)) (i3 : x_jp (pi + 3) x8 = some hd) (i4 : (Int32.ofInt x7).toInt = 7) (i5 : 3 < mL q) (hn : oSn ot < 1000000)
    {ρ ρ2 : Nat → Int} {σ σ2 : Nat → Nat} {ty2 : Nat → Option Nat} {H HH : List (XC Int32)} {Lc : List (Nat × XV Int32)} (hcov : vCov ρ σ (aL N) Lc) (h1 : ρ 1 = (t : Int)) (ht : t + 7 ≤ oSn ot) (r0 : ρ2 0 = (oSn ot : Int)) (r1 : ρ2 1 = ρ 1 + 7) (s0 : sR σ2 0 = sR σ 0) (s1 : sR σ2 1 = sR σ 1) (hrel : vRel KT ρ2 σ2 ty2 HH (aSt N)) (hP : P σ2 ty2 HH) (hl : HH.length ≤ H.length + mc) (hl2 : H.length ≤ cn) (hl3 : H.length + mc ≤ 1000000) (c1 : ((cn + mc : Nat) : Int) ≤ lEv ρ2 (aCn N)) (c2 : ((sn + ms : Nat) : Int) ≤ lEv ρ2 (aSn N))
    (cont : ∀ ρ2 σ2 ty2 H2 Lc2 cn3 sn3, ρ2 1 = ρ 1 + 7 → lwAt KT ot N P ρ2 σ2 ty2 H2 Lc2 cn3 sn3 → ∃ H3, x_To tb tyl ot dp2 0 hd Lc2 [] H2 cn3 sn3 (some (.inl 1)) H3) : ∃ H3, x_To tb tyl ot dp2 0 pi Lc [] HH (cn + mc) (sn + ms) (some (.inl 1)) H3 := by
  have l3 : x_lk Lc 3 = some (.inl (Int32.ofInt (ρ 1))) := by
    rw [hcov 3 (.inl (lSy 1)) (by rw [hL]; rfl)]
    exact congrArg (fun z => some (Sum.inl (Int32.ofInt z))) (lSy_ev ρ 1)
  have l0 : x_lk Lc 0 = some (.inr (some 1000000)) := hcov 0 (.inr (some 1000000)) (by rw [hL]; rfl)
  have l1 : x_lk Lc 1 = some (.inr (some (sR σ 0))) := hcov 1 (.inr (some 0)) (by rw [hL]; rfl)
  have l2 : x_lk Lc 2 = some (.inr (some (sR σ 1))) := hcov 2 (.inr (some 1)) (by rw [hL]; rfl)
  have e7 : dBin dC 0 (Int32.ofInt (ρ 1)) (dKc dC (Int32.ofInt x7)) = Int32.ofInt (ρ2 1) := by
    show x_bin 0 (Int32.ofInt (ρ 1)) (Int32.ofInt x7) = _
    have a1 : (Int32.ofInt (ρ 1)).toInt = ((t : Nat) : Int) := by rw [h1]; exact ofInt_toInt (by omega) (by omega)
    refine Int32.toInt_inj.mp ?_
    show (Int32.ofInt (ρ 1) + Int32.ofInt x7).toInt = _
    rw [Int32.toInt_add, a1, i4, r1, h1, ofInt_toInt (by omega) (by omega)]
    exact Int.bmod_eq_of_le (by simp; omega) (by simp; omega)
  obtain ⟨H3, h3⟩ := cont ρ2 σ2 ty2 HH (x_st Lc 3 (.inl (Int32.ofInt (ρ2 1)))) (cn + mc) (sn + ms) r1 ⟨r0, by omega, by omega, hrel, fun j v hj => by
    rw [hL] at hj
    rw [x_lk_st]
    unfold bLs at hj
    rcases j with _ | _ | _ | _ | j
    · cases hj
      rw [if_neg (by decide), l0]
      rfl
    · cases hj
      rw [if_neg (by decide), l1]
      show some (Sum.inr (some (sR σ 0))) = some (Sum.inr (some (sR σ2 0)))
      rw [s0]
    · cases hj
      rw [if_neg (by decide), l2]
      show some (Sum.inr (some (sR σ 1))) = some (Sum.inr (some (sR σ2 1)))
      rw [s1]
    · cases hj
      rw [if_pos rfl]
      show some (Sum.inl (Int32.ofInt (ρ2 1))) = some (Sum.inl (Int32.ofInt (lEv ρ2 (lSy 1))))
      rw [lSy_ev]
    · simp only [x_lk_eq] at hj
      simp at hj, c1, c2, hP⟩
  refine ⟨H3, xT_iinc hq i1 l3 i5 ?_⟩
  rw [e7]
  exact xT_goto hq i2 i3 h3
/-- a block that throws the answers away -/
theorem cBlkP {KT : vKT} {tb : XT} {tyl : List FieldType} {ot : XO Int32} {N : vAn} {P : (Nat → Nat) → (Nat → Option Nat) → List (XC Int32) → Prop} {dp hd pc p1 p2 pi n kA kB ixA ixB n1 n2 n3 n4 n5 n6 n7 n8 n9 : Nat} {x6 x7 x8 : Int} {q qA qB : XM} {cmp : Prop} (hq : tMth tb 0 = some q) (hL : aL N = bLs) (hqA : tMth tb kA = some qA) (hqB : tMth tb kB = some qB) (hn : oSn ot < 1000000) (hn7 : n ≤ 6)
    (c1 : mC q pc = some (.aload_n 1, n1)) (c2 : bArgs q n 1 (pc + 1) = some p1) (c3 : mC q p1 = some (.invokevirtual ixA, n2)) (c4 : tCal tb (mO q) ixA = some (kA, 0)) (c5 : mC q (p1 + 3) = some (.pop, n3)) (c6 : mC q (p1 + 3 + 1) = some (.aload_n 2, n4)) (c7 : bArgs q n 1 (p1 + 3 + 1 + 1) = some p2) (c8 : mC q p2 = some (.invokevirtual ixB, n5)) (c9 : tCal tb (mO q) ixB = some (kB, 0)) (c10 : mC q (p2 + 3) = some (.pop, n6)) (c11 : mC q (p2 + 3 + 1) = some (.goto x6, n7)) (c12 : x_jp (p2 + 3 + 1) x6 = some pi)
    (i1 : mC q pi = some (.iinc 3 x7, n8)) (i2 : mC q (pi + 3) = some (.goto x8, n9)) (i3 : x_jp (pi + 3) x8 = some hd) (i4 : (Int32.ofInt x7).toInt = 7) (i5 : 3 < mL q) (a1 : mNp qA = n) (a2 : n + 1 ≤ mL qA) (b1 : mNp qB = n) (b2 : n + 1 ≤ mL qB)
    (hcn : ∀ ρ : Nat → Int, 0 ≤ ρ 1 → ρ 1 + 7 ≤ ρ 0 → ρ 0 ≤ 3584 → lEv ρ (aCn N) + ((mMc qA + mMc qB : Nat) : Int) ≤ ((mMc q : Nat) : Int) ∧ lEv ρ (aSn N) + ((mMs qA + mMs qB : Nat) : Int) ≤ ((mMs q : Nat) : Int)) (hcm : mMc q ≤ 1000000) (hcd : ∀ ρ ρ2 : Nat → Int, ρ2 0 = ρ 0 → ρ2 1 = ρ 1 + 7 → lEv ρ (aCn N) + ((mMc qA + mMc qB : Nat) : Int) ≤ lEv ρ2 (aCn N) ∧ lEv ρ (aSn N) + ((mMs qA + mMs qB : Nat) : Int) ≤ lEv ρ2 (aSn N)) (hs : oSn ot ≤ 3584)
    (hPP : bPP KT tb tyl ot N P dp kA kB n (mMc qA + mMc qB) (mRc qA) (mRc qB) cmp)
    {ρ : Nat → Int} {σ : Nat → Nat} {ty : Nat → Option Nat} {H : List (XC Int32)} {Lc : List (Nat × XV Int32)} {cn2 sn2 : Nat} (hat : lwAt KT ot N P ρ σ ty H Lc cn2 sn2) (h0 : 0 ≤ ρ 1) (h7 : ρ 1 + 7 ≤ ρ 0)
    (cont : ∀ ρ2 σ2 ty2 H2 Lc2 cn3 sn3, ρ2 1 = ρ 1 + 7 → lwAt KT ot N P ρ2 σ2 ty2 H2 Lc2 cn3 sn3 → ∃ H3, x_To tb tyl ot (dp + 1) 0 hd Lc2 [] H2 cn3 sn3 (some (.inl 1)) H3) : ∃ H3, x_To tb tyl ot (dp + 1) 0 pc Lc [] H cn2 sn2 (some (.inl 1)) H3 := by
  obtain ⟨g0, g1, g2, g3, g4, g5, g6, g7⟩ := hat
  obtain ⟨t, ht⟩ : ∃ t : Nat, ρ 1 = (t : Int) := ⟨(ρ 1).toNat, by omega⟩
  obtain ⟨m1, m2⟩ := hcn ρ h0 h7 (by omega)
  have hmc : H.length + (mMc qA + mMc qB) ≤ 1000000 := by omega
  obtain ⟨a, b, HA, HH, ρ2, σ2, ty2, y1, y2, y3, y4, y5, y6, y7, y8, y9, y10, y11, y12⟩ := hPP ρ σ ty H t g0 ht (by omega) hmc g3 g7
  have l0 : x_lk Lc 0 = some (.inr (some 1000000)) := g4 0 (.inr (some 1000000)) (by rw [hL]; rfl)
  have l1 : x_lk Lc 1 = some (.inr (some (sR σ 0))) := g4 1 (.inr (some 0)) (by rw [hL]; rfl)
  have l2 : x_lk Lc 2 = some (.inr (some (sR σ 1))) := g4 2 (.inr (some 1)) (by rw [hL]; rfl)
  have l3 : x_lk Lc 3 = some (.inl (Int32.ofInt (ρ 1))) := by
    rw [g4 3 (.inl (lSy 1)) (by rw [hL]; rfl)]
    exact congrArg (fun z => some (Sum.inl (Int32.ofInt z))) (lSy_ev ρ 1)
  have e1 : (Int32.ofInt (ρ 1)).toInt = (t : Int) := by
    rw [ht]
    exact ofInt_toInt (by omega) (by omega)
  obtain ⟨d1, d2⟩ := hcd ρ ρ2 y6 y7
  obtain ⟨H3, h3⟩ := bEnd (cn := cn2) (sn := sn2) (mc := mMc qA + mMc qB) (ms := mMs qA + mMs qB) hq hL i1 i2 i3 i4 i5 hn g4 ht (by omega) (y6.trans g0) y7 y8 y9 y10 y11 y12 g1 hmc (by omega) (by omega) cont
  refine ⟨H3, xT_aload_n hq c1 l1 (bArgs_to hq l0 l3 e1 hn n 1 _ _ _ c2 (by omega) (bCall hq c3 c4 hqA a1 (bVs_len ot t n 1) (by decide) a2 y1 (by omega) (by omega) y2 (xT_pop hq c5 (xT_aload_n hq c6 l2 (bArgs_to hq l0 l3 e1 hn n 1 _ _ _ c7 (by omega) (bCall hq c8 c9 hqB b1 (bVs_len ot t n 1) (by decide) b2 y3 (by omega) (by omega) y4 (xT_pop hq c10 (xT_goto hq c11 c12 ?_))))))))⟩
  rw [Nat.add_assoc cn2, Nat.add_assoc sn2]
  exact h3
/-- a block that compares the answers -/
theorem cBlkC {KT : vKT} {tb : XT} {tyl : List FieldType} {ot : XO Int32} {N : vAn} {P : (Nat → Nat) → (Nat → Option Nat) → List (XC Int32) → Prop} {dp hd pc p1 p2 p3 pi n kA kB ixA ixB n1 n2 n4 n5 n6 n7 n8 n9 : Nat} {x5 x6 x7 x8 : Int} {q qA qB : XM} {cmp : Prop} (hc : cmp) (hq : tMth tb 0 = some q) (hL : aL N = bLs) (hqA : tMth tb kA = some qA) (hqB : tMth tb kB = some qB) (hn : oSn ot < 1000000) (hn7 : n ≤ 6)
    (c1 : mC q pc = some (.aload_n 1, n1)) (c2 : bArgs q n 1 (pc + 1) = some p1) (c3 : mC q p1 = some (.invokevirtual ixA, n2)) (c4 : tCal tb (mO q) ixA = some (kA, 0)) (c6 : mC q (p1 + 3) = some (.aload_n 2, n4)) (c7 : bArgs q n 1 (p1 + 3 + 1) = some p2) (c8 : mC q p2 = some (.invokevirtual ixB, n5)) (c9 : tCal tb (mO q) ixB = some (kB, 0)) (c10 : mC q (p2 + 3) = some (.if_icmp .eq x5, n6)) (c13 : x_jp (p2 + 3) x5 = some p3) (c11 : mC q p3 = some (.goto x6, n7)) (c12 : x_jp p3 x6 = some pi)
    (i1 : mC q pi = some (.iinc 3 x7, n8)) (i2 : mC q (pi + 3) = some (.goto x8, n9)) (i3 : x_jp (pi + 3) x8 = some hd) (i4 : (Int32.ofInt x7).toInt = 7) (i5 : 3 < mL q) (a1 : mNp qA = n) (a2 : n + 1 ≤ mL qA) (b1 : mNp qB = n) (b2 : n + 1 ≤ mL qB)
    (hcn : ∀ ρ : Nat → Int, 0 ≤ ρ 1 → ρ 1 + 7 ≤ ρ 0 → ρ 0 ≤ 3584 → lEv ρ (aCn N) + ((mMc qA + mMc qB : Nat) : Int) ≤ ((mMc q : Nat) : Int) ∧ lEv ρ (aSn N) + ((mMs qA + mMs qB : Nat) : Int) ≤ ((mMs q : Nat) : Int)) (hcm : mMc q ≤ 1000000) (hcd : ∀ ρ ρ2 : Nat → Int, ρ2 0 = ρ 0 → ρ2 1 = ρ 1 + 7 → lEv ρ (aCn N) + ((mMc qA + mMc qB : Nat) : Int) ≤ lEv ρ2 (aCn N) ∧ lEv ρ (aSn N) + ((mMs qA + mMs qB : Nat) : Int) ≤ lEv ρ2 (aSn N)) (hs : oSn ot ≤ 3584)
    (hPP : bPP KT tb tyl ot N P dp kA kB n (mMc qA + mMc qB) (mRc qA) (mRc qB) cmp)
    {ρ : Nat → Int} {σ : Nat → Nat} {ty : Nat → Option Nat} {H : List (XC Int32)} {Lc : List (Nat × XV Int32)} {cn2 sn2 : Nat} (hat : lwAt KT ot N P ρ σ ty H Lc cn2 sn2) (h0 : 0 ≤ ρ 1) (h7 : ρ 1 + 7 ≤ ρ 0)
    (cont : ∀ ρ2 σ2 ty2 H2 Lc2 cn3 sn3, ρ2 1 = ρ 1 + 7 → lwAt KT ot N P ρ2 σ2 ty2 H2 Lc2 cn3 sn3 → ∃ H3, x_To tb tyl ot (dp + 1) 0 hd Lc2 [] H2 cn3 sn3 (some (.inl 1)) H3) : ∃ H3, x_To tb tyl ot (dp + 1) 0 pc Lc [] H cn2 sn2 (some (.inl 1)) H3 := by
  obtain ⟨g0, g1, g2, g3, g4, g5, g6, g7⟩ := hat
  obtain ⟨t, ht⟩ : ∃ t : Nat, ρ 1 = (t : Int) := ⟨(ρ 1).toNat, by omega⟩
  obtain ⟨m1, m2⟩ := hcn ρ h0 h7 (by omega)
  have hmc : H.length + (mMc qA + mMc qB) ≤ 1000000 := by omega
  obtain ⟨a, b, HA, HH, ρ2, σ2, ty2, y1, y2, y3, y4, y5, y6, y7, y8, y9, y10, y11, y12⟩ := hPP ρ σ ty H t g0 ht (by omega) hmc g3 g7
  have l0 : x_lk Lc 0 = some (.inr (some 1000000)) := g4 0 (.inr (some 1000000)) (by rw [hL]; rfl)
  have l1 : x_lk Lc 1 = some (.inr (some (sR σ 0))) := g4 1 (.inr (some 0)) (by rw [hL]; rfl)
  have l2 : x_lk Lc 2 = some (.inr (some (sR σ 1))) := g4 2 (.inr (some 1)) (by rw [hL]; rfl)
  have l3 : x_lk Lc 3 = some (.inl (Int32.ofInt (ρ 1))) := by
    rw [g4 3 (.inl (lSy 1)) (by rw [hL]; rfl)]
    exact congrArg (fun z => some (Sum.inl (Int32.ofInt z))) (lSy_ev ρ 1)
  have e1 : (Int32.ofInt (ρ 1)).toInt = (t : Int) := by
    rw [ht]
    exact ofInt_toInt (by omega) (by omega)
  obtain ⟨d1, d2⟩ := hcd ρ ρ2 y6 y7
  obtain ⟨H3, h3⟩ := bEnd (cn := cn2) (sn := sn2) (mc := mMc qA + mMc qB) (ms := mMs qA + mMs qB) hq hL i1 i2 i3 i4 i5 hn g4 ht (by omega) (y6.trans g0) y7 y8 y9 y10 y11 y12 g1 hmc (by omega) (by omega) cont
  refine ⟨H3, xT_aload_n hq c1 l1 (bArgs_to hq l0 l3 e1 hn n 1 _ _ _ c2 (by omega) (bCall hq c3 c4 hqA a1 (bVs_len ot t n 1) (by decide) a2 y1 (by omega) (by omega) y2 (xT_aload_n hq c6 l2 (bArgs_to hq l0 l3 e1 hn n 1 _ _ _ c7 (by omega) (bCall hq c8 c9 hqB b1 (bVs_len ot t n 1) (Nat.le_of_ble_eq_true rfl) b2 y3 (by omega) (by omega) y4 (xT_if_icmpY hq c10 c13 (by rw [y5 hc]; exact decide_eq_true rfl) (xT_goto hq c11 c12 ?_)))))))⟩
  rw [Nat.add_assoc cn2, Nat.add_assoc sn2]
  exact h3
end XBlk
