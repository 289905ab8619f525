/-! The law's start. -/
section XLs
def lw0 : List (XC Int32) := [.inl (0, (tFt x_tb 0).map (fun t => x_def dC t.1))]
def lw1 : XC Int32 := .inl (12, (tFt x_tb 12).map (fun t => x_def dC t.1))
def lwT (n : Nat) (H : List (XC Int32)) : List (Option Nat) := kInf x_KT H 5000 [(0, 45), (n, 115)] (List.replicate H.length none)
def lwC (n : Nat) (H : List (XC Int32)) (T : List (Option Nat)) : Bool := kOk1 x_KT T H T H && decide (kTy T 0 = some 45) && decide (kTy T n = some 115) && decide (H.length ≤ 536) && (match H[n]? with
  | some (.inl o) => (match o.2[23]? with | some (.inl x) => decide (x = 0) | _ => false)
  | _ => false)
def lwSt : Bool := match cGo x_tb x_tyl 20000 1299 1 0 (x_en 0 [.inr (some 0)]) [] lw0 0 0 with
  | none => false
  | some H1 => match cGo x_tb x_tyl 20000 1299 179 0 (x_en 0 [.inr (some H1.length)]) [] (H1 ++ [lw1]) 0 0 with
    | none => false
    | some H2 => decide (H1.length + 1 ≤ 1000000) && lwC H1.length H2 (lwT H1.length H2)
set_option maxRecDepth 1000000 in
theorem lwSt_ok : lwSt = true := by decide +kernel
theorem d0_0 : mC xm0 0 = some (.new 7, 3) := by decide +kernel
theorem d0_3 : mC xm0 3 = some (.dup, 1) := by decide +kernel
theorem d0_4 : mC xm0 4 = some (.invokespecial 9, 3) := by decide +kernel
theorem d0_7 : mC xm0 7 = some (.astore_n 1, 1) := by decide +kernel
theorem d0_8 : mC xm0 8 = some (.new 10, 3) := by decide +kernel
theorem d0_11 : mC xm0 11 = some (.dup, 1) := by decide +kernel
theorem d0_12 : mC xm0 12 = some (.invokespecial 12, 3) := by decide +kernel
theorem d0_15 : mC xm0 15 = some (.astore_n 2, 1) := by decide +kernel
theorem d0_16 : mC xm0 16 = some (.iconst 0, 1) := by decide +kernel
theorem d0_17 : mC xm0 17 = some (.istore_n 3, 1) := by decide +kernel
set_option maxRecDepth 1000000 in
theorem p_q0 : tMth x_tb 0 = some xm0 := rfl
set_option maxRecDepth 1000000 in
theorem p_qA : tMth x_tb 1 = some xm1 := rfl
set_option maxRecDepth 1000000 in
theorem p_qB : tMth x_tb 179 = some xm179 := rfl
theorem lw_fA : (tFt x_tb 0).length = 19 := by decide +kernel
theorem lw_fB : (tFt x_tb 12).length = 69 := by decide +kernel
theorem lw_start {xs : Nat → Int32} {n : Nat} {sf : Option Nat} (hn : n ≤ 3584) (hCT : ∀ j c, c ∈ x_CTl j → vCtSem x_KT x_tb x_tyl (x_otS xs n sf) j c) (hk : vLw2 x_KT x_tb x_tyl (x_ovS sf) x_CTl x_hs x_knd x_WL 18 100 (lwG2 lwN x_WL) lwR 60 1 [] 18 (aL lwN) (aS lwN) (aSt lwN) (aCn lwN) (aSn lwN) = true) :
    ∃ H2, x_To x_tb x_tyl (x_otS xs n sf) 1300 0 0 (x_en 0 [.inr (some 1000000)]) [] [] 0 0 (some (.inl 1)) H2 := by
  have hs := lwSt_ok
  unfold lwSt at hs
  split at hs
  · cases hs
  rename_i H1 h1
  split at hs
  · cases hs
  rename_i H2 h2
  obtain ⟨hl1, hs⟩ := Bool.and_eq_true_iff.mp hs
  have hl1 := of_decide_eq_true hl1
  generalize lwT H1.length H2 = T at hs
  unfold lwC at hs
  simp only [Bool.and_eq_true] at hs
  obtain ⟨⟨⟨⟨k1, k2⟩, k3⟩, k4⟩, k5⟩ := hs
  have k2 := of_decide_eq_true k2
  have k3 := of_decide_eq_true k3
  have k4 := of_decide_eq_true k4
  obtain ⟨q1, q2, q3, q4⟩ := kOk_spec k1
  have g1 := cGo_spec (ot := x_otS xs n sf) 20000 h1
  have g2 := cGo_spec (ot := x_otS xs n sf) 20000 h2
  let ρ : Nat → Int := fun i => if i = 0 then (n : Int) else 0
  let σ : Nat → Nat := fun i => if i = 0 then 0 else H1.length
  have hrel : vRel x_KT ρ σ (kTy T) H2 (aSt lwN) := by
    refine ⟨q1, fun i c hc => ?_, fun f hf => ?_, fun q hq => ?_, fun c hc => ?_, fun m hm => (by cases hm), ⟨q2, q3⟩, fun a c d ha hd => (by rw [q4 a c ha] at hd; cases hd)⟩
    · have hc : ([45, 115] : List Nat)[i]? = some c := hc
      rcases i with _ | _ | i
      · cases hc
        exact k2
      · cases hc
        exact k3
      · cases hc
    · have hf : f ∈ ([(1, .inl 23, .inl (lSy 2))] : List vK) := hf
      rcases List.mem_singleton.mp hf with rfl
      split at k5
      · rename_i o ho
        split at k5
        · rename_i x hx
          have e := of_decide_eq_true k5
          subst e
          exact ⟨o.1, o.2, ho, hx.trans (by show _ = some (Sum.inl (Int32.ofInt (lEv ρ (lSy 2)))); rw [lSy_ev]; rfl)⟩
        · cases k5
      · cases k5
    · have hq : q ∈ ([(0, 0, 3584), (1, 0, 3584), (2, 0, 5000)] : lI) := hq
      simp only [List.mem_cons, List.not_mem_nil, or_false] at hq
      rcases hq with rfl | rfl | rfl
      · show (0 : Int) ≤ (n : Int) ∧ (n : Int) ≤ 3584
        omega
      · show (0 : Int) ≤ 0 ∧ (0 : Int) ≤ 3584
        omega
      · show (0 : Int) ≤ 0 ∧ (0 : Int) ≤ 5000
        omega
    · have hc : c ∈ ([lSub (lSy 0) (lSy 1), lSub (lSy 1) (lSy 2)] : List lT) := hc
      simp only [List.mem_cons, List.not_mem_nil, or_false] at hc
      rcases hc with rfl | rfl
      · rw [lSub_ev, lSy_ev, lSy_ev]
        show (0 : Int) ≤ (n : Int) - 0
        omega
      · rw [lSub_ev, lSy_ev, lSy_ev]
        show (0 : Int) ≤ 0 - 0
        omega
  let L1 : List (Nat × XV Int32) := x_st (x_st (x_st (x_en 0 [.inr (some 1000000)]) 1 (.inr (some 0))) 2 (.inr (some H1.length))) 3 (.inl (Int32.ofInt 0))
  have hcov : vCov ρ σ (aL lwN) L1 := fun j v hj => by
    have hj : x_lk ([(0, .inr (some 1000000)), (1, .inr (some 0)), (2, .inr (some 1)), (3, .inl (lSy 1))] : List (Nat × vA)) j = some v := hj
    rcases j with _ | _ | _ | _ | j
    · cases hj
      rfl
    · cases hj
      rfl
    · cases hj
      rfl
    · cases hj
      show some (Sum.inl (Int32.ofInt 0)) = some (Sum.inl (Int32.ofInt (lEv ρ (lSy 1))))
      rw [lSy_ev]
      rfl
    · unfold x_lk at hj
      simp at hj
  obtain ⟨H3, h3⟩ := vLaw2_spec (ot := x_otS xs n sf) (dp2 := 1300) (q := xm0) hCT p_q0 (by decide) (by decide +kernel) (show n < 1000000 by omega) lwN_ok hk (n + 1) (ρ := ρ) (σ := σ) (ty := kTy T) (H := H2) (Lc := L1) (cn2 := 0 + 1 + mMc xm1 + 1 + mMc xm179) (sn2 := 0 + (tFt x_tb 0).length + mMs xm1 + (tFt x_tb 12).length + mMs xm179) (by
      show ((n : Int) - 0).toNat < n + 1
      omega) rfl (by
      have : (0 + 1 + mMc xm1 + 1 + mMc xm179 : Nat) = 536 := rfl
      omega) (by omega) hrel hcov (by
      show ((0 + 1 + mMc xm1 + 1 + mMc xm179 : Nat) : Int) ≤ lEv ρ (lAdd (lK 536) (lSc 58 (lSy 1)))
      rw [lAdd_ev, lK_ev, lSc_ev, lSy_ev]
      show ((536 : Nat) : Int) ≤ 536 + 58 * 0
      omega) (by
      show ((0 + (tFt x_tb 0).length + mMs xm1 + (tFt x_tb 12).length + mMs xm179 : Nat) : Int) ≤ lEv ρ (lAdd (lK 9690) (lSc 229 (lSy 1)))
      rw [lAdd_ev, lK_ev, lSc_ev, lSy_ev, lw_fA, lw_fB]
      show ((9690 : Nat) : Int) ≤ 9690 + 229 * 0
      omega)
  refine ⟨H3, ?_⟩
  refine xT_new p_q0 d0_0 (ci := 0) (by decide +kernel) (by decide +kernel) ?_
  refine xT_dup p_q0 d0_3 ?_
  refine xT_invokespecial (u := none) (a := 0) (r := [.inr (some 0)]) p_q0 d0_4 (j := 1) (so := 1) (by decide +kernel) (by decide +kernel) p_qA rfl (by decide +kernel) g1 ?_
  refine xT_astore_n p_q0 d0_7 (by decide) ?_
  refine xT_new p_q0 d0_8 (ci := 12) (by decide +kernel) (by
    rw [decide_eq_true hl1]
    decide +kernel) ?_
  refine xT_dup p_q0 d0_11 ?_
  refine xT_invokespecial (u := none) (a := H1.length) (r := [.inr (some H1.length)]) p_q0 d0_12 (j := 179) (so := 1) (by decide +kernel) (by decide +kernel) p_qB rfl (by rfl) g2 ?_
  refine xT_astore_n p_q0 d0_15 (by decide) ?_
  refine xT_iconst p_q0 d0_16 ?_
  refine xT_istore_n p_q0 d0_17 (by decide) ?_
  exact h3
end XLs
