/-! Operations, questions, indices, of a state in symbols. -/
noncomputable section XOps
theorem x_nn {x : Int32} (h : 0 ≤ x.toInt) : x.toInt = (x.toBitVec.toNat : Int) := by
  have e : x.toInt = x.toBitVec.toInt := rfl
  have m : x.toBitVec.msb = false := by
    rw [BitVec.msb_eq_toInt]
    exact decide_eq_false (by rw [← e]; omega)
  rw [e]
  exact BitVec.toInt_eq_toNat_of_msb m
theorem x_nn2 {x : Int32} {k : Nat} (h : x.toBitVec.toNat < k) (hk : k ≤ 2147483648) : 0 ≤ x.toInt ∧ x.toInt < (k : Int) := by
  have e : x.toInt = x.toBitVec.toInt := rfl
  rw [e, BitVec.toInt_eq_toNat_of_lt (by omega)]
  omega
theorem vOrX {x y : Int32} {k : Nat} (hx : 0 ≤ x.toInt ∧ x.toInt < ((2 ^ k : Nat) : Int)) (hy : 0 ≤ y.toInt ∧ y.toInt < ((2 ^ k : Nat) : Int)) (hk : 2 ^ k ≤ 2147483648) :
    (0 ≤ (x ||| y).toInt ∧ (x ||| y).toInt < ((2 ^ k : Nat) : Int)) ∧ (0 ≤ (x ^^^ y).toInt ∧ (x ^^^ y).toInt < ((2 ^ k : Nat) : Int)) := by
  have e1 := x_nn hx.1
  have e2 := x_nn hy.1
  constructor
  · refine x_nn2 (x := x ||| y) ?_ hk
    show (x.toBitVec ||| y.toBitVec).toNat < _
    rw [BitVec.toNat_or]
    exact Nat.or_lt_two_pow (by omega) (by omega)
  · refine x_nn2 (x := x ^^^ y) ?_ hk
    show (x.toBitVec ^^^ y.toBitVec).toNat < _
    rw [BitVec.toNat_xor]
    exact Nat.xor_lt_two_pow (by omega) (by omega)
theorem vSh31 : ∀ n : Fin 31, ((Int32.ofInt (n.val : Int)) &&& 31).toBitVec.smod 32 = BitVec.ofNat 32 n.val := by decide +kernel
theorem vShl {x y : Int32} {n : Nat} (hn : n < 31) (hy : y.toInt = (n : Int)) (hx : 0 ≤ x.toInt) (hm : x.toInt * ((2 ^ n : Nat) : Int) ≤ 2147483647) : (x_bin 6 x y).toInt = x.toInt * ((2 ^ n : Nat) : Int) := by
  have e : y = Int32.ofInt (n : Int) := by rw [← hy, Int32.ofInt_toInt]
  have e1 := x_nn hx
  have e2 : (x_bin 6 x y).toBitVec.toNat = x.toBitVec.toNat * 2 ^ n % 2 ^ 32 := by
    show (x.toBitVec <<< ((y &&& 31).toBitVec.smod 32)).toNat = _
    rw [e, vSh31 ⟨n, hn⟩]
    show (x.toBitVec <<< (BitVec.ofNat 32 n).toNat).toNat = _
    rw [BitVec.toNat_ofNat, Nat.mod_eq_of_lt (by omega), BitVec.toNat_shiftLeft, Nat.shiftLeft_eq]
  generalize 2 ^ n = m at hm e2 ⊢
  generalize x.toBitVec.toNat = k at e1 e2
  rw [e1] at hm ⊢
  have h3 : ((k * m : Nat) : Int) = (k : Int) * (m : Int) := Int.natCast_mul k m
  have e3 : (x_bin 6 x y).toBitVec.toNat = k * m := by
    rw [e2, Nat.mod_eq_of_lt (by omega)]
  have h4 := x_nn2 (x := x_bin 6 x y) (k := 2147483648) (by rw [e3]; omega) (Nat.le_refl _)
  rw [x_nn h4.1, e3, h3]
theorem vShr {x y : Int32} (hx : 0 ≤ x.toInt) : 0 ≤ (x_bin 7 x y).toInt ∧ (x_bin 7 x y).toInt ≤ x.toInt := by
  have e : (x_bin 7 x y).toInt = x.toInt >>> ((y &&& 31).toBitVec.smod 32).toNat := by
    show (x.toBitVec.sshiftRight ((y &&& 31).toBitVec.smod 32).toNat).toInt = _
    rw [BitVec.toInt_sshiftRight]
    rfl
  rw [e, Int.shiftRight_eq_div_pow]
  generalize 2 ^ ((y &&& 31).toBitVec.smod 32).toNat = m
  constructor
  · exact Int.ediv_nonneg hx (Int.natCast_nonneg m)
  · exact Int.ediv_le_self _ hx
theorem vDiv {x y : Int32} (hx : 0 ≤ x.toInt) (hy : 0 < y.toInt) : (x_bin 8 x y).toInt = x.toInt / y.toInt := by
  have h : y ≠ -1 := fun e => by
    rw [e] at hy
    revert hy
    decide
  show (x / y).toInt = _
  rw [Int32.toInt_div_of_ne_right _ _ h, Int.tdiv_eq_ediv_of_nonneg hx]
/-- bounds of what an operation gives -/
def vOp2 (o : Nat) (p q : Int × Int) : Int × Int :=
  if o ≤ 3 ∨ o = 9 then vOp o p q
  else if o = 4 ∨ o = 5 then (if 0 ≤ p.1 ∧ 0 ≤ q.1 ∧ p.2 < 65536 ∧ q.2 < 65536 then (0, if p.2 < 8 ∧ q.2 < 8 then 7 else if p.2 < 256 ∧ q.2 < 256 then 255 else if p.2 < 4096 ∧ q.2 < 4096 then 4095 else 65535) else vTop)
  else if o = 6 then (if 0 ≤ p.1 ∧ 0 ≤ q.1 ∧ q.2 < 31 ∧ p.2 * ((2 ^ q.2.toNat : Nat) : Int) ≤ 2147483647 then (p.1 * ((2 ^ q.1.toNat : Nat) : Int), p.2 * ((2 ^ q.2.toNat : Nat) : Int)) else vTop)
  else if o = 7 then (if 0 ≤ p.1 then (0, p.2) else vTop)
  else if o = 8 then (if 0 ≤ p.1 ∧ 0 < q.1 then (0, p.2 / q.1) else vTop)
  else vTop
theorem vOp2_spec {o : Nat} {p q : Int × Int} {x y : Int32} (hp : vIn p x) (hq : vIn q y) : vIn (vOp2 o p q) (x_bin o x y) := by
  obtain ⟨p1, p2⟩ := hp
  obtain ⟨q1, q2⟩ := hq
  unfold vOp2
  split
  · exact vOp_spec ⟨p1, p2⟩ ⟨q1, q2⟩
  split
  · rename_i ho
    split
    · rename_i hh
      have key : ∀ k : Nat, 2 ^ k ≤ 2147483648 → p.2 < ((2 ^ k : Nat) : Int) → q.2 < ((2 ^ k : Nat) : Int) → 0 ≤ (x_bin o x y).toInt ∧ (x_bin o x y).toInt < ((2 ^ k : Nat) : Int) := fun k hk h1 h2 => by
        have h3 := vOrX (x := x) (y := y) (k := k) ⟨by omega, by omega⟩ ⟨by omega, by omega⟩ hk
        rcases ho with rfl | rfl
        · exact h3.1
        · exact h3.2
      refine ⟨(key 16 (by decide) (by omega) (by omega)).1, ?_⟩
      show (x_bin o x y).toInt ≤ (if _ then _ else _)
      split
      · have := (key 3 (by decide) (by omega) (by omega)).2
        omega
      split
      · have := (key 8 (by decide) (by omega) (by omega)).2
        omega
      split
      · have := (key 12 (by decide) (by omega) (by omega)).2
        omega
      · have := (key 16 (by decide) (by omega) (by omega)).2
        omega
    · exact vTop_spec _
  split
  · rename_i ho
    subst ho
    split
    · rename_i hh
      obtain ⟨h1, h2, h3, h4⟩ := hh
      have hy : y.toInt = (y.toInt.toNat : Int) := by omega
      have m1 : (2 : Nat) ^ y.toInt.toNat ≤ 2 ^ q.2.toNat := Nat.pow_le_pow_right (by decide) (by omega)
      have m2 : (2 : Nat) ^ q.1.toNat ≤ 2 ^ y.toInt.toNat := Nat.pow_le_pow_right (by decide) (by omega)
      have m3 : x.toInt * ((2 ^ y.toInt.toNat : Nat) : Int) ≤ p.2 * ((2 ^ q.2.toNat : Nat) : Int) := Int.mul_le_mul p2 (Int.ofNat_le.mpr m1) (Int.natCast_nonneg _) (by omega)
      have m4 : p.1 * ((2 ^ q.1.toNat : Nat) : Int) ≤ x.toInt * ((2 ^ y.toInt.toNat : Nat) : Int) := Int.mul_le_mul p1 (Int.ofNat_le.mpr m2) (Int.natCast_nonneg _) (by omega)
      have e := vShl (x := x) (y := y) (n := y.toInt.toNat) (by omega) hy (by omega) (by omega)
      constructor
      · rw [e]
        exact m4
      · rw [e]
        exact m3
    · exact vTop_spec _
  split
  · rename_i ho
    subst ho
    split
    · rename_i hh
      have h := vShr (x := x) (y := y) (by omega)
      exact ⟨h.1, Int.le_trans h.2 p2⟩
    · exact vTop_spec _
  split
  · rename_i ho
    subst ho
    split
    · rename_i hh
      have e := vDiv (x := x) (y := y) (by omega) (by omega)
      constructor
      · rw [e]
        exact Int.ediv_nonneg (by omega) (by omega)
      · rw [e]
        show x.toInt / y.toInt ≤ p.2 / q.1
        have a1 : x.toInt / y.toInt ≤ x.toInt / q.1 := (Int.le_ediv_iff_mul_le (by omega)).mpr (by
          have b1 := Int.ediv_mul_le x.toInt (b := y.toInt) (by omega)
          have b2 : x.toInt / y.toInt * q.1 ≤ x.toInt / y.toInt * y.toInt := Int.mul_le_mul_of_nonneg_left q1 (Int.ediv_nonneg (by omega) (by omega))
          omega)
        have a2 : x.toInt / q.1 ≤ p.2 / q.1 := Int.ediv_le_ediv (by omega) p2
        omega
    · exact vTop_spec _
  · exact vTop_spec _
theorem x_sh24 : (24 : Int32).toBitVec.smod 32 = 24#32 := by decide
theorem x_sh16 : (16 : Int32).toBitVec.smod 32 = 16#32 := by decide
theorem b_ext {n k : Nat} (hn : 0 < n) (hk : k + n = 32) (x : BitVec 32) : (x.signExtend n).signExtend 32 = (x <<< k).sshiftRight k := by
  refine BitVec.eq_of_getLsbD_eq (fun i hi => ?_)
  have hm : (x.signExtend n).msb = x.getLsbD (n - 1) := by
    rw [BitVec.msb_eq_getLsbD_last, BitVec.getLsbD_signExtend, if_pos (by omega), decide_eq_true (by omega : n - 1 < n), Bool.true_and]
  have hm2 : (x <<< k).msb = x.getLsbD (n - 1) := by
    rw [BitVec.msb_eq_getLsbD_last, BitVec.getLsbD_shiftLeft, decide_eq_true (by omega : 32 - 1 < 32), decide_eq_false (by omega : ¬ 32 - 1 < k), show 32 - 1 - k = n - 1 by omega]
    rfl
  rw [BitVec.getLsbD_signExtend, BitVec.getLsbD_sshiftRight, hm, hm2, decide_eq_true hi, decide_eq_false (by omega : ¬ 32 ≤ i), Bool.true_and, Bool.not_false, Bool.true_and]
  by_cases c : i < n
  · rw [if_pos c, if_pos (by omega), BitVec.getLsbD_signExtend, decide_eq_true c, if_pos hi, BitVec.getLsbD_shiftLeft, decide_eq_true (by omega : k + i < 32), decide_eq_false (by omega : ¬ k + i < k), Nat.add_sub_cancel_left]
    rfl
  · rw [if_neg c, if_neg (by omega)]
theorem x_byte (x : Int32) : x.toInt8.toInt32 = (x <<< (24 &&& 31 : Int32)) >>> (24 &&& 31 : Int32) := by
  refine Int32.toBitVec_inj.mp ?_
  rw [show (24 &&& 31 : Int32) = 24 from by decide, Int32.toBitVec_shiftRight, Int32.toBitVec_shiftLeft, x_sh24, Int8.toBitVec_toInt32, Int32.toBitVec_toInt8, b_ext (k := 24) (by omega) rfl]
  rfl
theorem x_short (x : Int32) : x.toInt16.toInt32 = (x <<< (16 &&& 31 : Int32)) >>> (16 &&& 31 : Int32) := by
  refine Int32.toBitVec_inj.mp ?_
  rw [show (16 &&& 31 : Int32) = 16 from by decide, Int32.toBitVec_shiftRight, Int32.toBitVec_shiftLeft, x_sh16, Int16.toBitVec_toInt32, Int32.toBitVec_toInt16, b_ext (k := 16) (by omega) rfl]
  rfl
theorem x_mod_lt {x y : Int32} (h0 : 0 ≤ x.toInt) (h1 : x.toInt < y.toInt) : x - x / y * y = x := by
  have hy : y ≠ -1 := fun e => by
    rw [e] at h1
    have : (-1 : Int32).toInt = -1 := by decide
    omega
  have e : x / y = 0 := by
    refine Int32.toInt_inj.mp ?_
    rw [Int32.toInt_div_of_ne_right _ _ hy, Int.tdiv_eq_zero_of_lt h0 h1]
    rfl
  rw [e]
  simp
/-- an operation whose result is a sum -/
def vLin (o : Nat) (a b : lT) : Option lT :=
  if o = 0 then some (lAdd a b)
  else if o = 1 then some (lSub a b)
  else match a.2, b.2 with
    | [], [] => some (lK (x_bin o (Int32.ofInt a.1) (Int32.ofInt b.1)).toInt)
    | [], _ => if o = 2 then some (lSc a.1 b) else if o = 7 ∧ a.1 = 0 then some (lK 0) else none
    | _, [] => if o = 2 then some (lSc b.1 a) else if o = 4 ∧ b.1 = 0 then some a else none
    | _, _ => none
theorem vLin_spec (ρ : Nat → Int) {o : Nat} {a b r : lT} (h : vLin o a b = some r) : x_bin o (Int32.ofInt (lEv ρ a)) (Int32.ofInt (lEv ρ b)) = Int32.ofInt (lEv ρ r) := by
  unfold vLin at h
  split at h
  · rename_i ho
    subst ho
    cases h
    rw [lAdd_ev, Int32.ofInt_add]
    rfl
  split at h
  · rename_i ho
    subst ho
    cases h
    rw [lSub_ev, Int32.ofInt_sub]
    rfl
  obtain ⟨a1, a2⟩ := a
  obtain ⟨b1, b2⟩ := b
  dsimp only at h
  split at h
  · cases h
    rw [lK_ev, Int32.ofInt_toInt]
    show x_bin o (Int32.ofInt (a1 + 0)) (Int32.ofInt (b1 + 0)) = _
    rw [Int.add_zero, Int.add_zero]
  · split at h
    · rename_i ho
      subst ho
      cases h
      rw [lSc_ev, Int32.ofInt_mul]
      show Int32.ofInt (a1 + 0) * _ = _
      rw [Int.add_zero]
    · split at h
      · rename_i ho
        obtain ⟨h1, h2⟩ := ho
        have h2 : a1 = 0 := h2
        subst h1
        subst h2
        cases h
        rw [lK_ev]
        show Int32.ofInt (0 + 0) >>> _ = _
        exact Int32.zero_shiftRight
      · cases h
  · split at h
    · rename_i ho
      subst ho
      cases h
      rw [lSc_ev, Int32.ofInt_mul]
      show Int32.ofInt (lEv ρ (a1, a2)) * Int32.ofInt (b1 + 0) = Int32.ofInt b1 * Int32.ofInt (lEv ρ (a1, a2))
      rw [Int.add_zero, Int32.mul_comm]
    · split at h
      · rename_i ho
        obtain ⟨h1, h2⟩ := ho
        have h2 : b1 = 0 := h2
        subst h1
        subst h2
        cases h
        show Int32.ofInt (lEv ρ (a1, a2)) ||| Int32.ofInt (0 + 0) = Int32.ofInt (lEv ρ (a1, a2))
        exact Int32.or_zero
      · cases h
  · cases h
def mGet (o : Nat) (a b : lT) : List vMm → Option lT
  | [] => none
  | m :: M => if m.1 = o ∧ lEq m.2.1 a = true ∧ lEq m.2.2.1 b = true then some m.2.2.2 else mGet o a b M
theorem mGet_spec {ρ : Nat → Int} {o : Nat} {a b r : lT} : ∀ {M : List vMm}, (∀ m ∈ M, mHd ρ m) → mGet o a b M = some r → x_bin o (Int32.ofInt (lEv ρ a)) (Int32.ofInt (lEv ρ b)) = Int32.ofInt (lEv ρ r)
  | [], _, h => by cases h
  | m :: M, hM, h => by
    unfold mGet at h
    split at h
    · rename_i hc
      cases h
      have h1 := hM m List.mem_cons_self
      unfold mHd at h1
      rw [hc.1, lEq_spec hc.2.1, lEq_spec hc.2.2] at h1
      exact h1
    · exact mGet_spec (fun g hg => hM g (List.mem_cons_of_mem _ hg)) h
theorem x_subset {s t : Int32} (h0 : 0 ≤ s.toInt) (h1 : s.toInt < t.toInt) : s.toInt < ((s - t) &&& t).toInt := by
  have es := x_nn h0
  have et := x_nn (x := t) (by omega)
  have ht := Int32.toInt_lt t
  have hr := vAnd (x := s - t) (y := t) (by omega)
  have er := x_nn hr.1
  generalize hS : s.toBitVec = S at es
  generalize hT : t.toBitVec = T at et
  have e0 : ((s - t) &&& t).toBitVec = (S - T) &&& T := by rw [← hS, ← hT]; rfl
  rw [e0] at er
  have hs2 : S.toNat < 2147483648 := by omega
  have ht2 : T.toNat < 2147483648 := by omega
  have hst : S.toNat < T.toNat := by omega
  have key : S - T = ~~~(T - S - 1#32) := by
    apply BitVec.eq_of_toNat_eq
    rw [BitVec.toNat_not, BitVec.toNat_sub, BitVec.toNat_sub, BitVec.toNat_sub]
    have : (1#32).toNat = 1 := rfl
    omega
  have hM : (T - S - 1#32).toNat = T.toNat - S.toNat - 1 := by
    rw [BitVec.toNat_sub, BitVec.toNat_sub]
    have : (1#32).toNat = 1 := rfl
    omega
  generalize T - S - 1#32 = M at key hM
  have hz : (T &&& M) &&& (T &&& ~~~M) = 0#32 := by
    apply BitVec.eq_of_getLsbD_eq
    intro i hi
    rw [BitVec.getLsbD_and, BitVec.getLsbD_and, BitVec.getLsbD_and, BitVec.getLsbD_not, BitVec.getLsbD_zero]
    cases T.getLsbD i <;> cases M.getLsbD i <;> simp
  have hsum : (T &&& M) + (T &&& ~~~M) = T := by
    rw [BitVec.add_eq_or_of_and_eq_zero _ _ hz]
    apply BitVec.eq_of_getLsbD_eq
    intro i hi
    rw [BitVec.getLsbD_or, BitVec.getLsbD_and, BitVec.getLsbD_and, BitVec.getLsbD_not, decide_eq_true hi]
    cases T.getLsbD i <;> cases M.getLsbD i <;> rfl
  have l1 : (T &&& M).toNat ≤ M.toNat := by
    rw [BitVec.toNat_and]
    exact Nat.and_le_right
  have l2 : (T &&& ~~~M).toNat ≤ T.toNat := by
    rw [BitVec.toNat_and]
    exact Nat.and_le_left
  have l3 := congrArg BitVec.toNat hsum
  rw [BitVec.toNat_add] at l3
  have e4 : (S - T) &&& T = T &&& ~~~M := by rw [key, BitVec.and_comm]
  rw [e4] at er
  omega
def vIf (c : Option vSt) (kk : vSt → Bool) : Bool := match c with
  | none => true
  | some s => kk s
/-- the same unknowns, symbols, things known; more holds -/
def vSame0 (s s2 : vSt) : Prop := sN s2 = sN s ∧ sG s2 = sG s ∧ sF s2 = sF s ∧ sRw s2 = sRw s
theorem vSame0_rf (s : vSt) : vSame0 s s := ⟨rfl, rfl, rfl, rfl⟩
theorem vSame0_tr {s s2 s3 : vSt} (h : vSame0 s s2) (g : vSame0 s2 s3) : vSame0 s s3 := ⟨g.1.trans h.1, g.2.1.trans h.2.1, g.2.2.1.trans h.2.2.1, g.2.2.2.trans h.2.2.2⟩
theorem vSame0_ext {s s2 : vSt} (h : vSame0 s s2) (ρ : Nat → Int) (σ : Nat → Nat) : vExt s s2 ρ ρ σ σ := vExt_eq ρ σ h.1 (by rw [h.2.1])
theorem vIf_spec {KT : vKT} {ρ : Nat → Int} {σ : Nat → Nat} {ty : Nat → Option Nat} {H : List (XC Int32)} {s : vSt} (h : vRel KT ρ σ ty H s) {e : lT} (he : 0 ≤ lEv ρ e) {kk : vSt → Bool} (hk : vIf (vCo e s) kk = true) : ∃ s2, vRel KT ρ σ ty H s2 ∧ vSame0 s s2 ∧ kk s2 = true := by
  unfold vCo at hk
  obtain ⟨h1, h2, h3, h4, h5, h6, h7, h8⟩ := h
  obtain ⟨I2, g1, g2⟩ := iRef_spec h4 he
  rw [g1] at hk
  refine ⟨(sN s, sG s, sF s, I2, (if e.2.length ≤ 1 then sC s else e :: sC s), sM s, sRw s), ⟨h1, h2, h3, g2, fun c hc => ?_, h6, h7, h8⟩, ⟨rfl, rfl, rfl, rfl⟩, hk⟩
  have hc : c ∈ (if e.2.length ≤ 1 then sC s else e :: sC s) := hc
  split at hc
  · exact h5 c hc
  · rcases List.mem_cons.mp hc with rfl | hc
    · exact he
    · exact h5 c hc
/-- what is said of what and gives: not more than the second; the next part of a set -/
def vAndC (o : Nat) (a b r : lT) (s : vSt) (kk : vSt → Bool) : Bool :=
  if o = 3 ∧ b.2 ≠ [] ∧ lFit (sI s) b = true ∧ lGe (sI s) (sC s) b = true then vIf (vCo (lSub b r) s) (fun s2 =>
    if lFit (sI s2) (lAdd a b) && lGe (sI s2) (sC s2) (lAdd a b) && lGe (sI s2) (sC s2) (lSub (lK (-1)) a) then vIf (vCo (lSub (lSub r (lAdd a b)) (lK 1)) s2) kk else kk s2)
  else kk s
theorem vAndC_spec {KT : vKT} {ρ : Nat → Int} {σ : Nat → Nat} {ty : Nat → Option Nat} {H : List (XC Int32)} {s : vSt} (h : vRel KT ρ σ ty H s) {o : Nat} {a b r : lT} (hr : (x_bin o (Int32.ofInt (lEv ρ a)) (Int32.ofInt (lEv ρ b))).toInt = lEv ρ r) {kk : vSt → Bool} (hk : vAndC o a b r s kk = true) :
    ∃ s2, vRel KT ρ σ ty H s2 ∧ vSame0 s s2 ∧ kk s2 = true := by
  unfold vAndC at hk
  split at hk
  rotate_left
  · exact ⟨s, h, vSame0_rf s, hk⟩
  rename_i hc
  obtain ⟨c1, -, c2, c3⟩ := hc
  subst c1
  have f2 := lFit_spec h.2.2.2.1 c2
  have f3 := lGe_spec h.2.2.2.1 h.2.2.2.2.1 c3
  have hA := vAnd (x := Int32.ofInt (lEv ρ a)) (y := Int32.ofInt (lEv ρ b)) (by omega)
  have hr : (Int32.ofInt (lEv ρ a) &&& Int32.ofInt (lEv ρ b)).toInt = lEv ρ r := hr
  obtain ⟨s2, g1, g2, g3⟩ := vIf_spec h (e := lSub b r) (by rw [lSub_ev]; omega) hk
  split at g3
  · rename_i hq
    simp only [Bool.and_eq_true] at hq
    obtain ⟨⟨q1, q2⟩, q3⟩ := hq
    have q1 := lFit_spec g1.2.2.2.1 q1
    have q2 := lGe_spec g1.2.2.2.1 g1.2.2.2.2.1 q2
    have q3 := lGe_spec g1.2.2.2.1 g1.2.2.2.2.1 q3
    rw [lSub_ev, lK_ev] at q3
    rw [lAdd_ev] at q1 q2
    have e1 : Int32.ofInt (lEv ρ a) = Int32.ofInt (lEv ρ a + lEv ρ b) - Int32.ofInt (lEv ρ b) := by
      rw [← Int32.ofInt_sub]
      congr 1
      omega
    have hs := x_subset (s := Int32.ofInt (lEv ρ a + lEv ρ b)) (t := Int32.ofInt (lEv ρ b)) (by omega) (by omega)
    rw [← e1, hr, q1] at hs
    obtain ⟨s3, k1, k2, k3⟩ := vIf_spec g1 (e := lSub (lSub r (lAdd a b)) (lK 1)) (by rw [lSub_ev, lSub_ev, lAdd_ev, lK_ev]; omega) g3
    exact ⟨s3, k1, vSame0_tr g2 k2, k3⟩
  · exact ⟨s2, g1, g2, g3⟩
/-- what an operation gives: a sum, what it gave before, or a new unknown -/
def vNew (o : Nat) (a b : lT) (s : vSt) (kk : vSt → lT → Bool) : Bool := match mGet o a b (sM s) with
  | some r => kk s r
  | none => sBd s && lBd (sN s) a && lBd (sN s) b && vAndC o a b (lSy (sN s)) (vMk (o, a, b, lSy (sN s)) (vNi (vOp2 o (vR (sI s) a) (vR (sI s) b)) s)) (fun s2 => kk s2 (lSy (sN s)))
def vBin (o : Nat) (a b : lT) (s : vSt) (kk : vSt → lT → Bool) : Bool := match vLin o a b with
  | some r => if lFit (sI s) r then kk s r else vNew o a b s kk
  | none => vNew o a b s kk
theorem vNew_spec {KT : vKT} {ρ : Nat → Int} {σ : Nat → Nat} {ty : Nat → Option Nat} {H : List (XC Int32)} {s : vSt} (h : vRel KT ρ σ ty H s) {o : Nat} {a b : lT} {kk : vSt → lT → Bool} (hk : vNew o a b s kk = true) :
    ∃ ρ2 s2 r, vExt s s2 ρ ρ2 σ σ ∧ vRel KT ρ2 σ ty H s2 ∧ x_bin o (Int32.ofInt (lEv ρ a)) (Int32.ofInt (lEv ρ b)) = Int32.ofInt (lEv ρ2 r) ∧ kk s2 r = true := by
  unfold vNew at hk
  split at hk
  · rename_i r hr
    exact ⟨ρ, s, r, vExt_rf s ρ σ, h, mGet_spec h.2.2.2.2.2.1 hr, hk⟩
  · simp only [Bool.and_eq_true] at hk
    obtain ⟨⟨⟨hb, ha1⟩, hb1⟩, hk⟩ := hk
    have hx := vOp2_spec (o := o) (vR_spec h.2.2.2.1 a) (vR_spec h.2.2.2.1 b)
    obtain ⟨ρ2, g1, g2, g3⟩ := vNi_spec h hb hx
    have e : x_bin o (Int32.ofInt (lEv ρ a)) (Int32.ofInt (lEv ρ b)) = Int32.ofInt (lEv ρ2 (lSy (sN s))) := by
      rw [lSy_ev, g3, Int32.ofInt_toInt]
    have hm : mHd ρ2 (o, a, b, lSy (sN s)) := by
      unfold mHd
      rw [lBd_spec g1.1 ha1, lBd_spec g1.1 hb1]
      exact e
    have hs := vMk_spec g2 hm
    obtain ⟨s2, k1, k2, k3⟩ := vAndC_spec hs (by rw [lBd_spec g1.1 ha1, lBd_spec g1.1 hb1, lSy_ev, g3]) hk
    have x1 := vSame0_ext k2 ρ2 σ
    exact ⟨ρ2, s2, _, ⟨fun i hi => g1.1 i hi, g1.2.1, Nat.le_trans g1.2.2.1 x1.2.2.1, Nat.le_trans g1.2.2.2 x1.2.2.2⟩, k1, e, k3⟩
theorem vBin_spec {KT : vKT} {ρ : Nat → Int} {σ : Nat → Nat} {ty : Nat → Option Nat} {H : List (XC Int32)} {s : vSt} (h : vRel KT ρ σ ty H s) {o : Nat} {a b : lT} {kk : vSt → lT → Bool} (hk : vBin o a b s kk = true) :
    ∃ ρ2 s2 r, vExt s s2 ρ ρ2 σ σ ∧ vRel KT ρ2 σ ty H s2 ∧ x_bin o (Int32.ofInt (lEv ρ a)) (Int32.ofInt (lEv ρ b)) = Int32.ofInt (lEv ρ2 r) ∧ kk s2 r = true := by
  unfold vBin at hk
  split at hk
  · rename_i r hr
    split at hk
    · exact ⟨ρ, s, r, vExt_rf s ρ σ, h, vLin_spec ρ hr, hk⟩
    · exact vNew_spec h hk
  · exact vNew_spec h hk
/-- of one int: 0, 1: a byte, a short; 2: a char; 3: less -/
def vUn (o : Nat) (a : lT) (s : vSt) (kk : vSt → lT → Bool) : Bool :=
  if o = 3 then (if lFit (sI s) (lSc (-1) a) then kk s (lSc (-1) a) else sBd s && kk (vNi vTop s) (lSy (sN s)))
  else if o = 0 then vBin 6 a (lK 24) s (fun s2 t => vBin 7 t (lK 24) s2 kk)
  else if o = 1 then vBin 6 a (lK 16) s (fun s2 t => vBin 7 t (lK 16) s2 kk)
  else if o = 2 then (match lRn (sI s) a with
    | some t => if 0 ≤ t.1 ∧ t.2 ≤ 65535 then kk s a else sBd s && kk (vNi vTop s) (lSy (sN s))
    | none => sBd s && kk (vNi vTop s) (lSy (sN s)))
  else false
theorem vUn_spec {KT : vKT} {ρ : Nat → Int} {σ : Nat → Nat} {ty : Nat → Option Nat} {H : List (XC Int32)} {s : vSt} (h : vRel KT ρ σ ty H s) {o : Nat} {a : lT} {kk : vSt → lT → Bool} (hk : vUn o a s kk = true) :
    ∃ ρ2 s2 r, vExt s s2 ρ ρ2 σ σ ∧ vRel KT ρ2 σ ty H s2 ∧ x_un o (Int32.ofInt (lEv ρ a)) = Int32.ofInt (lEv ρ2 r) ∧ kk s2 r = true := by
  have fr : ∀ (p : Int × Int), vIn p (x_un o (Int32.ofInt (lEv ρ a))) → sBd s = true → kk (vNi p s) (lSy (sN s)) = true → ∃ ρ2 s2 r, vExt s s2 ρ ρ2 σ σ ∧ vRel KT ρ2 σ ty H s2 ∧ x_un o (Int32.ofInt (lEv ρ a)) = Int32.ofInt (lEv ρ2 r) ∧ kk s2 r = true := fun p hx hb hk => by
    obtain ⟨ρ2, g1, g2, g3⟩ := vNi_spec h hb hx
    exact ⟨ρ2, _, _, g1, g2, by rw [lSy_ev, g3, Int32.ofInt_toInt], hk⟩
  unfold vUn at hk
  split at hk
  · rename_i ho
    subst ho
    split at hk
    · refine ⟨ρ, s, _, vExt_rf s ρ σ, h, ?_, hk⟩
      rw [lSc_ev]
      show -(Int32.ofInt (lEv ρ a)) = _
      rw [← Int32.ofInt_neg]
      congr 1
      omega
    · have hk2 := Bool.and_eq_true_iff.mp hk
      exact fr _ (vTop_spec _) hk2.1 hk2.2
  split at hk
  · rename_i ho
    subst ho
    obtain ⟨ρ2, s2, t, g1, g2, g3, g4⟩ := vBin_spec h hk
    obtain ⟨ρ3, s3, r, h1, h2, h3, h4⟩ := vBin_spec g2 g4
    refine ⟨ρ3, s3, r, vExt_tr g1 h1, h2, ?_, h4⟩
    rw [← h3, ← g3, lK_ev, lK_ev]
    exact x_byte _
  split at hk
  · rename_i ho
    subst ho
    obtain ⟨ρ2, s2, t, g1, g2, g3, g4⟩ := vBin_spec h hk
    obtain ⟨ρ3, s3, r, h1, h2, h3, h4⟩ := vBin_spec g2 g4
    refine ⟨ρ3, s3, r, vExt_tr g1 h1, h2, ?_, h4⟩
    rw [← h3, ← g3, lK_ev, lK_ev]
    exact x_short _
  split at hk
  · rename_i ho
    subst ho
    split at hk
    · rename_i t ht
      split at hk
      · rename_i hh
        have h1 := lRn_spec h.2.2.2.1 ht
        refine ⟨ρ, s, a, vExt_rf s ρ σ, h, ?_, hk⟩
        generalize lEv ρ a = n at h1
        obtain ⟨k, rfl⟩ : ∃ k : Nat, n = (k : Int) := ⟨n.toNat, by omega⟩
        have hk : k < 65536 := by omega
        have h3 : ∀ x : UInt32, x.toNat < 65536 → (x % 65536) = x := fun x hx => UInt32.toNat_inj.mp (by
          rw [UInt32.toNat_mod]
          exact Nat.mod_eq_of_lt hx)
        show ((Int32.ofInt (k : Int)).toUInt32 % 65536).toInt32 = Int32.ofInt (k : Int)
        rw [h3]
        · rfl
        · have e2 : (Int32.ofInt (k : Int)).toInt = (k : Int) := ofInt_toInt (by omega) (by omega)
          have e3 := x_nn (x := Int32.ofInt (k : Int)) (by omega)
          show (Int32.ofInt (k : Int)).toBitVec.toNat < 65536
          omega
      · have hk2 := Bool.and_eq_true_iff.mp hk
        exact fr _ (vTop_spec _) hk2.1 hk2.2
    · have hk2 := Bool.and_eq_true_iff.mp hk
      exact fr _ (vTop_spec _) hk2.1 hk2.2
  · cases hk
/-- e at least 0, or below -/
def vAsk (e : lT) (s : vSt) (kt kf : vSt → Bool) : Bool :=
  if lGe (sI s) (sC s) e then kt s else if lGe (sI s) (sC s) (lSub (lK (-1)) e) then kf s
  else vIf (vCo e s) kt && vIf (vCo (lSub (lK (-1)) e) s) kf
theorem vAsk_spec {KT : vKT} {ρ : Nat → Int} {σ : Nat → Nat} {ty : Nat → Option Nat} {H : List (XC Int32)} {s : vSt} (h : vRel KT ρ σ ty H s) {e : lT} {kt kf : vSt → Bool} (hk : vAsk e s kt kf = true) :
    ∃ s2, vRel KT ρ σ ty H s2 ∧ vSame0 s s2 ∧ ((0 ≤ lEv ρ e ∧ kt s2 = true) ∨ (lEv ρ e < 0 ∧ kf s2 = true)) := by
  unfold vAsk at hk
  split at hk
  · rename_i hd
    exact ⟨s, h, vSame0_rf s, Or.inl ⟨lGe_spec h.2.2.2.1 h.2.2.2.2.1 hd, hk⟩⟩
  split at hk
  · rename_i hd
    have h1 := lGe_spec h.2.2.2.1 h.2.2.2.2.1 hd
    rw [lSub_ev, lK_ev] at h1
    exact ⟨s, h, vSame0_rf s, Or.inr ⟨by omega, hk⟩⟩
  · have hk2 := Bool.and_eq_true_iff.mp hk
    by_cases hr : 0 ≤ lEv ρ e
    · obtain ⟨s2, g1, g2, g3⟩ := vIf_spec h hr hk2.1
      exact ⟨s2, g1, g2, Or.inl ⟨hr, g3⟩⟩
    · obtain ⟨s2, g1, g2, g3⟩ := vIf_spec h (e := lSub (lK (-1)) e) (by rw [lSub_ev, lK_ev]; omega) hk2.2
      exact ⟨s2, g1, g2, Or.inr ⟨by omega, g3⟩⟩
/-- d is 0, or not -/
def vAskE (d : lT) (s : vSt) (kt kf : vSt → Bool) : Bool :=
  if lGe (sI s) (sC s) d then (if lGe (sI s) (sC s) (lSc (-1) d) then kt s else if lGe (sI s) (sC s) (lSub d (lK 1)) then kf s
    else vIf (vCo (lSc (-1) d) s) kt && vIf (vCo (lSub d (lK 1)) s) kf)
  else if lGe (sI s) (sC s) (lSc (-1) d) then (if lGe (sI s) (sC s) (lSub (lK (-1)) d) then kf s
    else vIf (vCo d s) kt && vIf (vCo (lSub (lK (-1)) d) s) kf)
  else vIf (vCo d s) (fun s2 => vIf (vCo (lSc (-1) d) s2) kt) && kf s
theorem vAskE_spec {KT : vKT} {ρ : Nat → Int} {σ : Nat → Nat} {ty : Nat → Option Nat} {H : List (XC Int32)} {s : vSt} (h : vRel KT ρ σ ty H s) {d : lT} {kt kf : vSt → Bool} (hk : vAskE d s kt kf = true) :
    ∃ s2, vRel KT ρ σ ty H s2 ∧ vSame0 s s2 ∧ ((lEv ρ d = 0 ∧ kt s2 = true) ∨ (lEv ρ d ≠ 0 ∧ kf s2 = true)) := by
  have ge : ∀ {e : lT}, lGe (sI s) (sC s) e = true → 0 ≤ lEv ρ e := fun he => lGe_spec h.2.2.2.1 h.2.2.2.2.1 he
  have e1 : lEv ρ (lSc (-1) d) = - lEv ρ d := by rw [lSc_ev]; omega
  have e2 : lEv ρ (lSub d (lK 1)) = lEv ρ d - 1 := by rw [lSub_ev, lK_ev]
  have e3 : lEv ρ (lSub (lK (-1)) d) = -1 - lEv ρ d := by rw [lSub_ev, lK_ev]
  unfold vAskE at hk
  split at hk
  · rename_i h0
    have h0 := ge h0
    split at hk
    · rename_i h1
      have h1 := ge h1
      exact ⟨s, h, vSame0_rf s, Or.inl ⟨by omega, hk⟩⟩
    split at hk
    · rename_i h1
      have h1 := ge h1
      exact ⟨s, h, vSame0_rf s, Or.inr ⟨by omega, hk⟩⟩
    · have hk2 := Bool.and_eq_true_iff.mp hk
      by_cases hr : lEv ρ d = 0
      · obtain ⟨s2, g1, g2, g3⟩ := vIf_spec h (e := lSc (-1) d) (by omega) hk2.1
        exact ⟨s2, g1, g2, Or.inl ⟨hr, g3⟩⟩
      · obtain ⟨s2, g1, g2, g3⟩ := vIf_spec h (e := lSub d (lK 1)) (by omega) hk2.2
        exact ⟨s2, g1, g2, Or.inr ⟨hr, g3⟩⟩
  split at hk
  · rename_i h0
    have h0 := ge h0
    split at hk
    · rename_i h1
      have h1 := ge h1
      exact ⟨s, h, vSame0_rf s, Or.inr ⟨by omega, hk⟩⟩
    · have hk2 := Bool.and_eq_true_iff.mp hk
      by_cases hr : lEv ρ d = 0
      · obtain ⟨s2, g1, g2, g3⟩ := vIf_spec h (e := d) (by omega) hk2.1
        exact ⟨s2, g1, g2, Or.inl ⟨hr, g3⟩⟩
      · obtain ⟨s2, g1, g2, g3⟩ := vIf_spec h (e := lSub (lK (-1)) d) (by omega) hk2.2
        exact ⟨s2, g1, g2, Or.inr ⟨hr, g3⟩⟩
  · have hk2 := Bool.and_eq_true_iff.mp hk
    by_cases hr : lEv ρ d = 0
    · obtain ⟨s2, g1, g2, g3⟩ := vIf_spec h (e := d) (by omega) hk2.1
      obtain ⟨s3, k1, k2, k3⟩ := vIf_spec g1 (e := lSc (-1) d) (by omega) g3
      exact ⟨s3, k1, vSame0_tr g2 k2, Or.inl ⟨hr, k3⟩⟩
    · exact ⟨s, h, vSame0_rf s, Or.inr ⟨hr, hk2.2⟩⟩
/-- a question of two ints -/
def vBr (o : Nat) (a b : lT) (s : vSt) (kt kf : vSt → Bool) : Bool :=
  if lFit (sI s) a && lFit (sI s) b then (match o with
    | 0 => vAskE (lSub a b) s kt kf
    | 1 => vAskE (lSub a b) s kf kt
    | 2 => vAsk (lSub (lSub b a) (lK 1)) s kt kf
    | 3 => vAsk (lSub a b) s kt kf
    | 4 => vAsk (lSub (lSub a b) (lK 1)) s kt kf
    | _ => vAsk (lSub b a) s kt kf)
  else kt s && kf s
theorem vBr_spec {KT : vKT} {ρ : Nat → Int} {σ : Nat → Nat} {ty : Nat → Option Nat} {H : List (XC Int32)} {s : vSt} (h : vRel KT ρ σ ty H s) {o : Nat} {a b : lT} {kt kf : vSt → Bool} (hk : vBr o a b s kt kf = true) :
    ∃ s2, vRel KT ρ σ ty H s2 ∧ vSame0 s s2 ∧ ((x_cmp o (Int32.ofInt (lEv ρ a)) (Int32.ofInt (lEv ρ b)) = true ∧ kt s2 = true) ∨ (x_cmp o (Int32.ofInt (lEv ρ a)) (Int32.ofInt (lEv ρ b)) = false ∧ kf s2 = true)) := by
  unfold vBr at hk
  split at hk
  rotate_left
  · have hk2 := Bool.and_eq_true_iff.mp hk
    by_cases c : x_cmp o (Int32.ofInt (lEv ρ a)) (Int32.ofInt (lEv ρ b)) = true
    · exact ⟨s, h, vSame0_rf s, Or.inl ⟨c, hk2.1⟩⟩
    · exact ⟨s, h, vSame0_rf s, Or.inr ⟨Bool.eq_false_iff.mpr c, hk2.2⟩⟩
  rename_i hf
  have hf2 := Bool.and_eq_true_iff.mp hf
  have fa := lFit_spec h.2.2.2.1 hf2.1
  have fb := lFit_spec h.2.2.2.1 hf2.2
  have eqv : Int32.ofInt (lEv ρ a) = Int32.ofInt (lEv ρ b) ↔ lEv ρ a = lEv ρ b := ⟨fun e => by rw [← fa, e, fb], fun e => by rw [e]⟩
  have ltv : Int32.ofInt (lEv ρ a) < Int32.ofInt (lEv ρ b) ↔ lEv ρ a < lEv ρ b := by rw [Int32.lt_iff_toInt_lt, fa, fb]
  have gtv : Int32.ofInt (lEv ρ b) < Int32.ofInt (lEv ρ a) ↔ lEv ρ b < lEv ρ a := by rw [Int32.lt_iff_toInt_lt, fa, fb]
  have lev : Int32.ofInt (lEv ρ a) ≤ Int32.ofInt (lEv ρ b) ↔ lEv ρ a ≤ lEv ρ b := by rw [Int32.le_iff_toInt_le, fa, fb]
  have gev : Int32.ofInt (lEv ρ b) ≤ Int32.ofInt (lEv ρ a) ↔ lEv ρ b ≤ lEv ρ a := by rw [Int32.le_iff_toInt_le, fa, fb]
  have sb : lEv ρ (lSub a b) = lEv ρ a - lEv ρ b := lSub_ev ρ a b
  have sa : lEv ρ (lSub b a) = lEv ρ b - lEv ρ a := lSub_ev ρ b a
  have sb1 : lEv ρ (lSub (lSub a b) (lK 1)) = lEv ρ a - lEv ρ b - 1 := by rw [lSub_ev, lSub_ev, lK_ev]
  have sa1 : lEv ρ (lSub (lSub b a) (lK 1)) = lEv ρ b - lEv ρ a - 1 := by rw [lSub_ev, lSub_ev, lK_ev]
  split at hk
  · obtain ⟨s2, g0, g1, g2⟩ := vAskE_spec h hk
    refine ⟨s2, g0, g1, ?_⟩
    rcases g2 with ⟨z1, z2⟩ | ⟨z1, z2⟩
    · exact Or.inl ⟨decide_eq_true (eqv.mpr (by omega)), z2⟩
    · exact Or.inr ⟨decide_eq_false (fun e => by have := eqv.mp e; omega), z2⟩
  · obtain ⟨s2, g0, g1, g2⟩ := vAskE_spec h hk
    refine ⟨s2, g0, g1, ?_⟩
    rcases g2 with ⟨z1, z2⟩ | ⟨z1, z2⟩
    · exact Or.inr ⟨decide_eq_false (fun e => e (eqv.mpr (by omega))), z2⟩
    · exact Or.inl ⟨decide_eq_true (fun e => by have := eqv.mp e; omega), z2⟩
  · obtain ⟨s2, g0, g1, g2⟩ := vAsk_spec h hk
    refine ⟨s2, g0, g1, ?_⟩
    rcases g2 with ⟨z1, z2⟩ | ⟨z1, z2⟩
    · exact Or.inl ⟨decide_eq_true (ltv.mpr (by omega)), z2⟩
    · exact Or.inr ⟨decide_eq_false (fun e => by have := ltv.mp e; omega), z2⟩
  · obtain ⟨s2, g0, g1, g2⟩ := vAsk_spec h hk
    refine ⟨s2, g0, g1, ?_⟩
    rcases g2 with ⟨z1, z2⟩ | ⟨z1, z2⟩
    · exact Or.inl ⟨decide_eq_true (gev.mpr (by omega)), z2⟩
    · exact Or.inr ⟨decide_eq_false (fun e => by have := gev.mp e; omega), z2⟩
  · obtain ⟨s2, g0, g1, g2⟩ := vAsk_spec h hk
    refine ⟨s2, g0, g1, ?_⟩
    rcases g2 with ⟨z1, z2⟩ | ⟨z1, z2⟩
    · exact Or.inl ⟨decide_eq_true (gtv.mpr (by omega)), z2⟩
    · exact Or.inr ⟨decide_eq_false (fun e => by have := gtv.mp e; omega), z2⟩
  · rename_i o' h0 h1 h2 h3 h4
    have e0 : ∀ x y : Int32, x_cmp o x y = decide (x ≤ y) := fun x y => by
      unfold x_cmp
      split <;> first | rfl | (exfalso; simp_all; done)
    obtain ⟨s2, g0, g1, g2⟩ := vAsk_spec h hk
    refine ⟨s2, g0, g1, ?_⟩
    rw [e0]
    rcases g2 with ⟨z1, z2⟩ | ⟨z1, z2⟩
    · exact Or.inl ⟨decide_eq_true (lev.mpr (by omega)), z2⟩
    · exact Or.inr ⟨decide_eq_false (fun e => by have := lev.mp e; omega), z2⟩
/-- value by value, so many from v on -/
def vSpl (l : lT) (kk : vSt → Bool) : Nat → Int → vSt → Bool
  | 0, _, s => kk s
  | n + 1, v, s => vAskE (lSub l (lK v)) s kk (fun s2 => vSpl l kk n (v + 1) s2)
theorem vSpl_spec {KT : vKT} {ρ : Nat → Int} {σ : Nat → Nat} {ty : Nat → Option Nat} {H : List (XC Int32)} {l : lT} {kk : vSt → Bool} : ∀ (n : Nat) (v : Int) {s : vSt}, vRel KT ρ σ ty H s → vSpl l kk n v s = true → ∃ s2, vRel KT ρ σ ty H s2 ∧ vSame0 s s2 ∧ kk s2 = true
  | 0, _, s, h, hk => ⟨s, h, vSame0_rf s, hk⟩
  | n + 1, v, s, h, hk => by
    obtain ⟨s2, g0, g1, g2⟩ := vAskE_spec h hk
    rcases g2 with ⟨-, z⟩ | ⟨-, z⟩
    · exact ⟨s2, g0, g1, z⟩
    · obtain ⟨s3, k0, k1, k2⟩ := vSpl_spec n (v + 1) g0 z
      exact ⟨s3, k0, vSame0_tr g1 k1, k2⟩
/-- surely not below 0, by two of what holds at most -/
def lGe2 (I : lI) (C : List lT) (e : lT) : Bool := lGe I C e || C.any (fun c => C.any (fun d => match lRn I (lSub (lSub e c) d) with
  | none => false
  | some q => decide (0 ≤ q.1)))
theorem lGe2_spec {ρ : Nat → Int} {I : lI} (hI : iHd ρ I) {C : List lT} (hC : ∀ c ∈ C, 0 ≤ lEv ρ c) {e : lT} (h : lGe2 I C e = true) : 0 ≤ lEv ρ e := by
  rcases Bool.or_eq_true_iff.mp h with h | h
  · exact lGe_spec hI hC h
  · obtain ⟨c, hc, h⟩ := List.any_eq_true.mp h
    obtain ⟨d, hd, h⟩ := List.any_eq_true.mp h
    have h2 := hC c hc
    have h3 := hC d hd
    split at h
    · cases h
    rename_i q hq
    have h4 := lRn_spec hI hq
    rw [lSub_ev, lSub_ev] at h4
    have := of_decide_eq_true h
    omega
def lCf (i : Nat) : List (Nat × Int) → Int
  | [] => 0
  | p :: r => if p.1 = i then p.2 else lCf i r
/-- surely not below 0, by so much of one of what holds as its first unknown tells -/
def lGe3 (I : lI) (C : List lT) (e : lT) : Bool := lGe I C e || C.any (fun c => match c.2 with
  | [] => false
  | p :: _ => decide (0 ≤ lCf p.1 e.2 / p.2) && (match lRn I (lSub e (lSc (lCf p.1 e.2 / p.2) c)) with
    | none => false
    | some q => decide (0 ≤ q.1)))
theorem lGe3_spec {ρ : Nat → Int} {I : lI} (hI : iHd ρ I) {C : List lT} (hC : ∀ c ∈ C, 0 ≤ lEv ρ c) {e : lT} (h : lGe3 I C e = true) : 0 ≤ lEv ρ e := by
  rcases Bool.or_eq_true_iff.mp h with h | h
  · exact lGe_spec hI hC h
  · obtain ⟨c, hc, h⟩ := List.any_eq_true.mp h
    have h2 := hC c hc
    split at h
    · cases h
    rename_i p r hp
    have h3 := Bool.and_eq_true_iff.mp h
    have h4 := of_decide_eq_true h3.1
    have h5 := h3.2
    split at h5
    · cases h5
    rename_i q hq
    have h6 := lRn_spec hI hq
    rw [lSub_ev, lSc_ev] at h6
    have h7 := of_decide_eq_true h5
    have h8 := Int.mul_nonneg h4 h2
    omega
/-- an index that is surely one of n -/
def vIdx (e : lT) (n : Nat) (s : vSt) : Bool := decide (n ≤ 1000000) && lGe (sI s) (sC s) e && lGe2 (sI s) (sC s) (lSub (lK ((n : Int) - 1)) e)
theorem vIdx_spec {KT : vKT} {ρ : Nat → Int} {σ : Nat → Nat} {ty : Nat → Option Nat} {H : List (XC Int32)} {s : vSt} (h : vRel KT ρ σ ty H s) {e : lT} {n : Nat} (hk : vIdx e n s = true) : (decide (Int32.ofInt (lEv ρ e) < 0) || decide (n ≤ (Int32.ofInt (lEv ρ e)).toNatClampNeg)) = false ∧ (lEv ρ e).toNat < n ∧ 0 ≤ lEv ρ e ∧ (Int32.ofInt (lEv ρ e)).toNatClampNeg = (lEv ρ e).toNat := by
  unfold vIdx at hk
  simp only [Bool.and_eq_true] at hk
  obtain ⟨⟨k1, k2⟩, k3⟩ := hk
  have k1 := of_decide_eq_true k1
  have k2 := lGe_spec h.2.2.2.1 h.2.2.2.2.1 k2
  have k3 := lGe2_spec h.2.2.2.1 h.2.2.2.2.1 k3
  rw [lSub_ev, lK_ev] at k3
  have e0 : (Int32.ofInt (lEv ρ e)).toInt = lEv ρ e := ofInt_toInt (by omega) (by omega)
  have e1 : (Int32.ofInt (lEv ρ e)).toNatClampNeg = (lEv ρ e).toNat := by
    show (Int32.ofInt (lEv ρ e)).toInt.toNat = _
    rw [e0]
  refine ⟨?_, by omega, k2, e1⟩
  rw [Bool.or_eq_false_iff]
  refine ⟨decide_eq_false (fun z => ?_), decide_eq_false (by omega)⟩
  have z2 : (Int32.ofInt (lEv ρ e)).toInt < (0 : Int) := Int32.lt_iff_toInt_lt.mp z
  omega
/-- what an element at e may be -/
def vRes (fs : List vF) (e : lT) : Option vF :=
  if fs.length = 1 then fs[0]?
  else if e.2.all (fun p => decide (p.2 % (fs.length : Int) = 0)) then fs[(e.1 % (fs.length : Int)).toNat]? else none
theorem vRes_spec {ρ : Nat → Int} {fs : List vF} {e : lT} {f : vF} (h0 : 0 ≤ lEv ρ e) (h : vRes fs e = some f) : vEl fs (lEv ρ e).toNat = some f := by
  unfold vRes at h
  unfold vEl
  split at h
  · rename_i hl
    rw [hl, Nat.mod_one]
    exact h
  split at h
  · rename_i hd
    have hz : ∀ l : List (Nat × Int), l.all (fun p => decide (p.2 % (fs.length : Int) = 0)) = true → lS ρ l % (fs.length : Int) = 0 := by
      intro l
      induction l with
      | nil => intro _; exact Int.zero_emod _
      | cons p r ih =>
        intro hp
        rw [List.all_cons] at hp
        have hp2 := Bool.and_eq_true_iff.mp hp
        have h1 : p.2 % (fs.length : Int) = 0 := of_decide_eq_true hp2.1
        show (p.2 * ρ p.1 + lS ρ r) % (fs.length : Int) = 0
        rw [Int.add_emod, Int.mul_emod, h1, ih hp2.2, Int.zero_mul, Int.zero_emod, Int.zero_add, Int.zero_emod]
    have h1 := hz e.2 hd
    have e1 : lEv ρ e % (fs.length : Int) = e.1 % (fs.length : Int) := by
      show (e.1 + lS ρ e.2) % _ = _
      rw [Int.add_emod, h1, Int.add_zero, Int.emod_emod]
    have e2 : (lEv ρ e).toNat % fs.length = (e.1 % (fs.length : Int)).toNat := by
      rw [← e1, Int.toNat_emod h0 (Int.natCast_nonneg _)]
      rfl
    rw [e2]
    exact h
  · cases h
end XOps
