/-! posts keeps a contract. -/
noncomputable section XPct
def x_c259 : vCt := (3, [(110, 0), (111, 0), (112, 0), (113, 0)], ([117], [(-2147483648, 2147483647), (-2147483648, 2147483647)], [(0, .inr (some 0)), (1, .inl (lSy 0)), (2, .inl (lSy 1))], [], [], [], [], (lK 0, lK 0, lK 0, 0, 0, [], none), [(true, .inl 0), (false, .inl 1), (false, .inl 2)]),
  [([117], [(-2147483648, 2147483647), (-2147483648, 2147483647), (-2147483648, 2147483647)], [], [.inl (lSy 2)], [], [], [], (lK 0, lK 0, lK 0, 0, 0, [], none), [(false, .inl 1000)])],
  [])
set_option maxRecDepth 1000000 in
theorem p_q181 : tMth x_tb 181 = some xm181 := rfl
theorem d259_0 : mC xm259 0 = some (.iload_n 2, 1) := by decide +kernel
theorem d259_1 : mC xm259 1 = some (.iconst 0, 1) := by decide +kernel
theorem d259_2 : mC xm259 2 = some (.iconst 4, 1) := by decide +kernel
theorem d259_6 : mC xm259 6 = some (.ifCond .ne 5, 3) := by decide +kernel
theorem d259_9 : mC xm259 9 = some (.iconst (-1), 1) := by decide +kernel
theorem d259_11 : mC xm259 11 = some (.iload_n 1, 1) := by decide +kernel
theorem d259_12 : mC xm259 12 = some (.iconst 1, 1) := by decide +kernel
theorem d259_13 : mC xm259 13 = some (.iconst 3, 1) := by decide +kernel
theorem d259_17 : mC xm259 17 = some (.ifCond .ne 6, 3) := by decide +kernel
theorem d259_20 : mC xm259 20 = some (.bipush (-2), 2) := by decide +kernel
theorem d259_23 : mC xm259 23 = some (.iload_n 2, 1) := by decide +kernel
theorem d259_24 : mC xm259 24 = some (.iconst 1, 1) := by decide +kernel
theorem d259_25 : mC xm259 25 = some (.iload_n 1, 1) := by decide +kernel
theorem d259_26 : mC xm259 26 = some (.iadd, 1) := by decide +kernel
theorem d259_27 : mC xm259 27 = some (.if_icmp .le 5, 3) := by decide +kernel
theorem d259_30 : mC xm259 30 = some (.iconst (-1), 1) := by decide +kernel
theorem d259_32 : mC xm259 32 = some (.aload_n 0, 1) := by decide +kernel
theorem d259_33 : mC xm259 33 = some (.iload_n 1, 1) := by decide +kernel
theorem d181_0 : mC xm181 0 = some (.iload_n 1, 1) := by decide +kernel
theorem d181_1 : mC xm181 1 = some (.iload_n 0, 1) := by decide +kernel
theorem d181_2 : mC xm181 2 = some (.if_icmp .gt 12, 3) := by decide +kernel
theorem d181_5 : mC xm181 5 = some (.iload_n 0, 1) := by decide +kernel
theorem d181_6 : mC xm181 6 = some (.iload_n 2, 1) := by decide +kernel
theorem d181_7 : mC xm181 7 = some (.if_icmp .gt 7, 3) := by decide +kernel
theorem d181_10 : mC xm181 10 = some (.iconst 1, 1) := by decide +kernel
theorem d181_11 : mC xm181 11 = some (.goto 4, 3) := by decide +kernel
theorem d181_14 : mC xm181 14 = some (.iconst 0, 1) := by decide +kernel
theorem d181_15 : mC xm181 15 = some (.ireturn, 1) := by decide +kernel
theorem d259_3 : mC xm259 3 = some (.invokestatic 175, 3) := by decide +kernel
theorem d259_14 : mC xm259 14 = some (.invokestatic 175, 3) := by decide +kernel
theorem d259_34 : mC xm259 34 = some (.invokevirtual 435, 3) := by decide +kernel
theorem m_in {ot : XO Int32} {dp : Nat} {H : List (XC Int32)} (v lo hi : Int32) : ∃ b : Int32, ((b = 1 ∧ ¬ v < lo ∧ ¬ hi < v) ∨ b = 0) ∧ x_To x_tb x_tyl ot dp 181 0 (x_en 0 [.inl v, .inl lo, .inl hi]) [] H 0 0 (some (.inl b)) H := by
  by_cases h : v < lo
  · refine ⟨nI 0, Or.inr rfl, ?_⟩
    refine xT_iload_n p_q181 d181_0 (rfl) ?_
    refine xT_iload_n p_q181 d181_1 (rfl) ?_
    refine xT_if_icmpY p_q181 d181_2 (t := 14) (by decide) (decide_eq_true h) ?_
    refine xT_icV (y := nI 0) p_q181 d181_14 (by decide) ?_
    exact xT_ireturn p_q181 d181_15 (by decide +kernel)
  by_cases h2 : hi < v
  · refine ⟨nI 0, Or.inr rfl, ?_⟩
    refine xT_iload_n p_q181 d181_0 (rfl) ?_
    refine xT_iload_n p_q181 d181_1 (rfl) ?_
    refine xT_if_icmpN p_q181 d181_2 (t := 14) (by decide) (decide_eq_false h) ?_
    refine xT_iload_n p_q181 d181_5 (rfl) ?_
    refine xT_iload_n p_q181 d181_6 (rfl) ?_
    refine xT_if_icmpY p_q181 d181_7 (t := 14) (by decide) (decide_eq_true h2) ?_
    refine xT_icV (y := nI 0) p_q181 d181_14 (by decide) ?_
    exact xT_ireturn p_q181 d181_15 (by decide +kernel)
  · refine ⟨nI 1, Or.inl ⟨rfl, h, h2⟩, ?_⟩
    refine xT_iload_n p_q181 d181_0 (rfl) ?_
    refine xT_iload_n p_q181 d181_1 (rfl) ?_
    refine xT_if_icmpN p_q181 d181_2 (t := 14) (by decide) (decide_eq_false h) ?_
    refine xT_iload_n p_q181 d181_5 (rfl) ?_
    refine xT_iload_n p_q181 d181_6 (rfl) ?_
    refine xT_if_icmpN p_q181 d181_7 (t := 14) (by decide) (decide_eq_false h2) ?_
    refine xT_icV (y := nI 1) p_q181 d181_10 (by decide) ?_
    refine xT_goto p_q181 d181_11 (t := 15) (by decide) ?_
    exact xT_ireturn p_q181 d181_15 (by decide +kernel)
def rdR (l : List (XV Int32)) (k : Nat) : Nat := match l[k]? with
  | some (.inr (some r)) => r
  | _ => 0
def rdX (l : List (XV Int32)) (k : Nat) : Int32 := match l[k]? with
  | some (.inl x) => x
  | _ => 0
def rdA (H : List (XC Int32)) (r : Nat) : List (XV Int32) := match H[r]? with
  | some (.inr z) => z.2
  | _ => []
set_option maxRecDepth 100000 in
theorem k_md2 : ∃ fl, x_KT.1[117]? = some (.inl (12, fl)) ∧ fl[36]? = some (.inl (0, 8)) ∧ fl[37]? = some (.inr (false, 87)) ∧ fl[68]? = some (.inr (false, 114)) := ⟨_, rfl, rfl, rfl, rfl⟩
set_option maxRecDepth 100000 in
theorem k_st : x_KT.1[87]? = some (.inr (5, 8, [.inr (false, 86)])) := rfl
set_option maxRecDepth 100000 in
theorem k_sr : x_KT.1[86]? = some (.inr (0, 4, [.inl (-2147483648, 2147483647)])) := rfl
set_option maxRecDepth 100000 in
theorem k_cn : x_KT.1[114]? = some (.inr (6, 4, [.inr (false, 110), .inr (false, 111), .inr (false, 112), .inr (false, 113)])) := rfl
set_option maxRecDepth 100000 in
theorem k_cr (h : Nat) (hh : h < 4) : x_KT.1[110 + h]? = some (.inr (1, 256, [.inl (0, 1)])) := by
  rcases h with _ | _ | _ | _ | h
  · rfl
  · rfl
  · rfl
  · rfl
  · omega
theorem k_el (h : Nat) (hh : h < 4) : vEl [.inr (false, 110), .inr (false, 111), .inr (false, 112), .inr (false, 113)] h = some (.inr (false, 110 + h)) := by
  rcases h with _ | _ | _ | _ | h
  · rfl
  · rfl
  · rfl
  · rfl
  · omega
theorem vEl1 (f : vF) (j : Nat) : vEl [f] j = some f := by
  unfold vEl
  rw [show j % [f].length = 0 from Nat.mod_one j]
  rfl
theorem vFit_r {ty : Nat → Option Nat} {c : Nat} {u : XV Int32} (h : vFit ty (.inr (false, c)) u) : ∃ r, u = .inr (some r) ∧ ty r = some c := by
  rcases u with x | (_ | r)
  · exact h.elim
  · cases h
  · exact ⟨r, rfl, h⟩
theorem vFit_i {ty : Nat → Option Nat} {p : Int × Int} {u : XV Int32} (h : vFit ty (.inl p) u) : ∃ x, u = .inl x ∧ vIn p x := by
  rcases u with x | r
  · exact ⟨x, rfl, h⟩
  · exact h.elim
/-- what a heap of its kinds has of stops and sets -/
theorem p_view {ty : Nat → Option Nat} {H : List (XC Int32)} {a : Nat} (h : vHp (fun c => x_KT.1[c]?) ty H) (ha : ty a = some 117) (hl : H.length ≤ 1000000) : ∃ s sx R vx, jI H H a s sx R vx ∧ ∀ h, h < 4 → ty (R h) = some (110 + h) := by
  obtain ⟨fl, q0, q1, q2, q3⟩ := k_md2
  obtain ⟨fs, f1, f2, f3⟩ := vHp_obj h ha q0
  have hA := vHp_lt h ha
  obtain ⟨u36, w36, z36⟩ := f3 36 _ q1
  obtain ⟨u37, w37, z37⟩ := f3 37 _ q2
  obtain ⟨u68, w68, z68⟩ := f3 68 _ q3
  obtain ⟨x36, rfl, b1, b2⟩ := vFit_i z36
  obtain ⟨st, rfl, t37⟩ := vFit_r z37
  obtain ⟨cn, rfl, t68⟩ := vFit_r z68
  obtain ⟨sr, s1, s2, s3⟩ := vHp_arr h t37 k_st
  obtain ⟨cr, c1, c2, c3⟩ := vHp_arr h t68 k_cn
  have hs : x36 = nI x36.toInt.toNat := Int32.toInt_inj.mp (by
    rw [nI_toInt (by omega)]
    omega)
  have hrow : ∀ k, k < 8 → ∃ r w, r ≠ 1000000 ∧ sr[k]? = some (.inr (some r)) ∧ H[r]? = some (.inr (0, w)) ∧ w.length = 4 ∧ ∀ j, j < 4 → w[j]? = some (.inl (rdX (rdA H (rdR sr k)) j)) := fun k hk => by
    obtain ⟨u, u1, u2⟩ := s3 k _ hk (vEl1 _ k)
    obtain ⟨r, rfl, tr⟩ := vFit_r u2
    obtain ⟨w, w1, w2, w3⟩ := vHp_arr h tr k_sr
    have hr := vHp_lt h tr
    refine ⟨r, w, by omega, u1, w1, w2, fun j hj => ?_⟩
    obtain ⟨y, y1, y2⟩ := w3 j _ hj (vEl1 _ j)
    obtain ⟨x, rfl, -⟩ := vFit_i y2
    have e1 : rdR sr k = r := by
      unfold rdR
      rw [u1]
    have e2 : rdA H r = w := by
      unfold rdA
      rw [w1]
    have e3 : rdX w j = x := by
      unfold rdX
      rw [y1]
    rw [e1, e2, e3, y1]
  have hcan : ∀ h', h' < 4 → cr[h']? = some (.inr (some (rdR cr h'))) ∧ ty (rdR cr h') = some (110 + h') := fun k hk => by
    obtain ⟨u, u1, u2⟩ := c3 k _ hk (k_el k hk)
    obtain ⟨r, rfl, tr⟩ := vFit_r u2
    have e1 : rdR cr k = r := by
      unfold rdR
      rw [u1]
    rw [e1]
    exact ⟨u1, tr⟩
  have hcells : ∀ h', h' < 4 → ∃ V, H[rdR cr h']? = some (.inr (1, V)) ∧ V.length = 256 ∧ ∀ i, i < 256 → V[i]? = some (.inl (rdX (rdA H (rdR cr h')) i)) ∧ (rdX (rdA H (rdR cr h')) i = 0 ∨ rdX (rdA H (rdR cr h')) i = 1) := fun k hk => by
    obtain ⟨-, tr⟩ := hcan k hk
    obtain ⟨V, w1, w2, w3⟩ := vHp_arr h tr (k_cr k hk)
    refine ⟨V, w1, w2, fun i hi => ?_⟩
    obtain ⟨y, y1, y2⟩ := w3 i _ hi (vEl1 _ i)
    obtain ⟨x, rfl, b3, b4⟩ := vFit_i y2
    have e2 : rdA H (rdR cr k) = V := by
      unfold rdA
      rw [w1]
    have e3 : rdX V i = x := by
      unfold rdX
      rw [y1]
    rw [e2, e3]
    refine ⟨y1, ?_⟩
    have b3 : (0 : Int) ≤ x.toInt := b3
    have b4 : x.toInt ≤ (1 : Int) := b4
    by_cases e : x.toInt = 0
    · exact Or.inl (Int32.toInt_inj.mp (by rw [e]; rfl))
    · exact Or.inr (Int32.toInt_inj.mp (by rw [show x.toInt = 1 by omega]; rfl))
  refine ⟨x36.toInt.toNat, fun k j => rdX (rdA H (rdR sr k)) j, fun k => rdR cr k, fun k i => rdX (rdA H (rdR cr k)) i, ⟨⟨fs, st, sr, by omega, f1, by rw [← hs]; exact w36, ?_, w37, s1, s2, hrow⟩, ⟨fs, cn, cr, by omega, f1, w68, c1, c2, fun k hk => (hcan k hk).1, fun k hk => ⟨?_, ?_⟩, fun k hk k2 hk2 e => ?_⟩, fun k hk i hi => ?_, rfl, fun _ _ => rfl⟩, fun k hk => (hcan k hk).2⟩
  · have b2 : x36.toInt ≤ (8 : Int) := b2
    omega
  · have := vHp_lt h (hcan k hk).2
    show ¬ 1000000 < rdR cr k
    omega
  · obtain ⟨V, v1, v2, v3⟩ := hcells k hk
    exact ⟨V, v1, v2, fun i hi => (v3 i hi).1⟩
  · have e1 := (hcan k hk).2
    have e2 := (hcan k2 hk2).2
    have e : rdR cr k = rdR cr k2 := e
    rw [e, e2] at e1
    have := Option.some.inj e1
    omega
  · obtain ⟨V, v1, v2, v3⟩ := hcells k hk
    exact (v3 i hi).2
/-- kinds stay where nothing but the rows has changed -/
theorem p_keep {ty : Nat → Option Nat} {H H2 : List (XC Int32)} {a s : Nat} {sx : Nat → Nat → Int32} {R : Nat → Nat} {vx : Nat → Nat → Int32} (h : vHp (fun c => x_KT.1[c]?) ty H) (hR : ∀ h, h < 4 → ty (R h) = some (110 + h)) (hI : jI H H2 a s sx R vx) : vHp (fun c => x_KT.1[c]?) ty H2 ∧ (vNN x_KT ty H → vNN x_KT ty H2) ∧ (vGp x_KT ty H → vGp x_KT ty H2) ∧ vFrm [(110, 0), (111, 0), (112, 0), (113, 0)] ty H H2 ∧ H2.length = H.length := by
  obtain ⟨-, ⟨-, -, -, -, -, -, -, -, -, hrow, -⟩, hB, hk1, hk2⟩ := hI
  have far : ∀ {x c : Nat}, ty x = some c → (c < 110 ∨ 110 + 4 ≤ c) → H2[x]? = H[x]? := fun {x c} hx hc => hk2 x (fun k hk e => by
    subst e
    rw [hR k hk] at hx
    have := Option.some.inj hx
    omega)
  have dec : ∀ {x c : Nat}, ty x = some c → (∃ k, k < 4 ∧ x = R k) ∨ H2[x]? = H[x]? := fun {x c} hx => by
    by_cases e : ∃ k, k < 4 ∧ x = R k
    · exact Or.inl e
    · exact Or.inr (hk2 x (fun k hk z => e ⟨k, hk, z⟩))
  refine ⟨fun x c hx => ?_, fun hN x hx => ?_, fun hG x t vs hx hz => ?_, fun x c z hx hz => ?_, hk1⟩
  · rcases dec hx with ⟨k, hk, rfl⟩ | e
    · rw [hR k hk] at hx
      cases hx
      obtain ⟨-, V, v1, v2, v3⟩ := hrow k hk
      refine ⟨_, _, k_cr k hk, v1, rfl, v2, fun j f u hf hu => ?_⟩
      rw [vEl1] at hf
      cases hf
      have hj : j < 256 := by
        rw [← v2]
        exact (List.getElem?_eq_some_iff.mp hu).1
      have hu : V[j]? = some u := hu
      rw [v3 j hj] at hu
      cases hu
      rcases hB k hk j hj with e | e <;> rw [e]
      · exact ⟨by decide, by decide⟩
      · exact ⟨by decide, by decide⟩
    · obtain ⟨kd, z, q1, q2, q3⟩ := h x c hx
      exact ⟨kd, z, q1, e.trans q2, q3⟩
  · obtain ⟨ci, fs, n, b, t, vs, q1, q2, q3, q4, q5, q6⟩ := hN x hx
    exact ⟨ci, fs, n, b, t, vs, (far hx (Or.inl (by decide +kernel))).trans q1, q2, q3, q4, (far q4 (Or.inl (by decide +kernel))).trans q5, q6⟩
  · rw [far hx (Or.inl (by decide +kernel))] at hz
    exact hG x t vs hx hz
  · rcases dec hx with ⟨k, hk, rfl⟩ | e
    · rw [hR k hk] at hx
      cases hx
      obtain ⟨-, V, v1, v2, v3⟩ := hrow k hk
      obtain ⟨W, w1, w2, -⟩ := vHp_arr h (hR k hk) (k_cr k hk)
      rw [hz] at w1
      cases w1
      refine ⟨_, v1, rfl, fun e => ?_⟩
      have hw : ∀ k, k < 4 → wIn [(110, 0), (111, 0), (112, 0), (113, 0)] (110 + k) 0 = true := by decide +kernel
      rw [hw k hk] at e
      cases e
    · exact ⟨z, e.trans hz, vSameC_rf _ _ _⟩
theorem p_end {ty : Nat → Option Nat} {H H2 : List (XC Int32)} {ρ : Nat → Int} {σ : Nat → Nat} {a s : Nat} {sx : Nat → Nat → Int32} {R : Nat → Nat} {vx : Nat → Nat → Int32} (h : vRel x_KT ρ σ ty H (aSt (cE x_c259))) (hR : ∀ h, h < 4 → ty (R h) = some (110 + h)) (hI : jI H H2 a s sx R vx) (mc : Nat) (r : Int32) : vPost x_KT (cW x_c259) (cX x_c259) (aI (cE x_c259)).length (aG (cE x_c259)).length mc ρ σ ty H (some (.inl r)) H2 := by
  obtain ⟨k1, k2, k3, k4, k5⟩ := p_keep h.1 hR hI
  refine ⟨_, List.mem_singleton.mpr rfl, fun i => if i = 2 then r.toInt else ρ i, σ, ty, fun i hi => if_neg (by
    have hi : i < 2 := hi
    omega), fun _ _ => rfl, ⟨k1, h.2.1, fun f hf => (by cases hf), ?_, fun c hc => (by cases hc), fun m hm => (by cases hm), ⟨k2 h.2.2.2.2.2.2.1.1, k3 h.2.2.2.2.2.2.1.2⟩, fun a c d ha hd => ?_⟩, ?_, vLe_rf ty, k4, by omega⟩
  · have hr := vTop_spec r
    have h4 := h.2.2.2.1
    intro q hq
    have e0 := h4 (0, (-2147483648, 2147483647)) List.mem_cons_self
    have e1 := h4 (1, (-2147483648, 2147483647)) (List.mem_cons_of_mem _ List.mem_cons_self)
    have hq : q ∈ ([(0, (-2147483648, 2147483647)), (1, (-2147483648, 2147483647)), (2, (-2147483648, 2147483647))] : lI) := hq
    simp only [List.mem_cons, List.not_mem_nil, or_false] at hq
    rcases hq with rfl | rfl | rfl
    · exact e0
    · exact e1
    · exact hr
  · obtain ⟨i, hi, -⟩ := h.2.2.2.2.2.2.2 a c d ha hd
    cases hi
  · show [Sum.inl r] = [Sum.inl (Int32.ofInt (lEv (fun i => if i = 2 then r.toInt else ρ i) (lSy 2)))]
    rw [lSy_ev]
    show [Sum.inl r] = [Sum.inl (Int32.ofInt r.toInt)]
    rw [Int32.ofInt_toInt]
set_option maxHeartbeats 8000000 in
theorem p_posts {ot : XO Int32} : vCtSem x_KT x_tb x_tyl ot 259 x_c259 := by
  intro dp q ρ σ ty H Lc hdp hq h hc hlen
  rw [p_q259] at hq
  cases hq
  obtain ⟨dp, rfl⟩ : ∃ d, dp = d + 3 := ⟨dp - 3, by have : 3 ≤ dp := hdp; omega⟩
  have hl : H.length ≤ 1000000 := by omega
  have ha : ty (sR σ 0) = some 117 := h.2.1 0 117 rfl
  obtain ⟨s, sx, R, vx, hI, hR⟩ := p_view h.1 ha hl
  obtain ⟨fs_, st_, sr_, hA, hM, -⟩ := id hI.1
  have hL0 : x_lk Lc 0 = some (.inr (some (sR σ 0))) := hc 0 _ rfl
  have hL1 : x_lk Lc 1 = some (.inl (Int32.ofInt (lEv ρ (lSy 0)))) := hc 1 _ rfl
  have hL2 : x_lk Lc 2 = some (.inl (Int32.ofInt (lEv ρ (lSy 1)))) := hc 2 _ rfl
  generalize Int32.ofInt (lEv ρ (lSy 0)) = hv at hL1
  generalize Int32.ofInt (lEv ρ (lSy 1)) = wv at hL2
  have fin : ∀ (r : Int32) (H2 : List (XC Int32)) (vx2 : Nat → Nat → Int32), jI H H2 (sR σ 0) s sx R vx2 → x_To x_tb x_tyl ot (dp + 3) 259 0 Lc [] H 0 0 (some (.inl r)) H2 → ∃ v H2, x_To x_tb x_tyl ot (dp + 3) 259 0 Lc [] H 0 0 v H2 ∧ vPost x_KT (cW x_c259) (cX x_c259) (aI (cE x_c259)).length (aG (cE x_c259)).length (mMc xm259) ρ σ ty H v H2 := fun r H2 vx2 hI2 x => ⟨_, _, x, p_end h hR hI2 _ r⟩
  have ret : ∀ (pc : Nat) (n : Nat) (L : List (Nat × XV Int32)) (r : Int32) (H : List (XC Int32)), mC xm259 pc = some (.ireturn, n) → x_To x_tb x_tyl ot (dp + 3) 259 pc L [.inl r] H 0 0 (some (.inl r)) H := fun pc n L r H hi => xT_ireturn p_q259 hi (by
    have e : ∀ z : Int32, x_retOk dC (mR xm259) (.inl z) = true := fun _ => rfl
    rw [e]
    decide +kernel)
  obtain ⟨b, hb, x1⟩ := m_in (ot := ot) (dp := dp + 2) (H := H) wv (nI 0) (nI 4)
  have start : ∀ {r : Int32} {H2 : List (XC Int32)}, x_To x_tb x_tyl ot (dp + 3) 259 6 Lc [.inl b] H 0 0 (some (.inl r)) H2 → x_To x_tb x_tyl ot (dp + 3) 259 0 Lc [] H 0 0 (some (.inl r)) H2 := fun {r H2} x => by
    refine xT_iload_n p_q259 d259_0 (hL2) ?_
    refine xT_icV (y := nI 0) p_q259 d259_1 (by decide) ?_
    refine xT_icV (y := nI 4) p_q259 d259_2 (by decide) ?_
    exact xT_invokestatic (r := []) (u := some (.inl b)) p_q259 d259_3 (j := 181) (so := 2) (by decide +kernel) p_q181 rfl x1 x
  rcases hb with ⟨rfl, w1, w2⟩ | rfl
  rotate_left
  · refine fin (-1) H vx hI (start ?_)
    refine xT_ifCondN p_q259 d259_6 (t := 11) (by decide) ((by decide)) ?_
    refine xT_icV (y := -1) p_q259 d259_9 (by decide) ?_
    exact ret 10 1 _ _ _ (by decide +kernel)
  obtain ⟨c, hcc, x2⟩ := m_in (ot := ot) (dp := dp + 2) (H := H) hv (nI 1) (nI 3)
  have start2 : ∀ {r : Int32} {H2 : List (XC Int32)}, x_To x_tb x_tyl ot (dp + 3) 259 17 Lc [.inl c] H 0 0 (some (.inl r)) H2 → x_To x_tb x_tyl ot (dp + 3) 259 6 Lc [.inl 1] H 0 0 (some (.inl r)) H2 := fun {r H2} x => by
    refine xT_ifCondY p_q259 d259_6 (t := 11) (by decide) ((by decide)) ?_
    refine xT_iload_n p_q259 d259_11 (hL1) ?_
    refine xT_icV (y := nI 1) p_q259 d259_12 (by decide) ?_
    refine xT_icV (y := nI 3) p_q259 d259_13 (by decide) ?_
    exact xT_invokestatic (r := []) (u := some (.inl c)) p_q259 d259_14 (j := 181) (so := 2) (by decide +kernel) p_q181 rfl x2 x
  rcases hcc with ⟨rfl, h1, h3⟩ | rfl
  rotate_left
  · refine fin (Int8.ofInt (-2)).toInt32 H vx hI (start (start2 ?_))
    refine xT_ifCondN p_q259 d259_17 (t := 23) (by decide) ((by decide)) ?_
    refine xT_bipush p_q259 d259_20 ?_
    exact ret 22 1 _ _ _ (by decide +kernel)
  obtain ⟨hn, hn1, rfl⟩ : ∃ n : Nat, (1 ≤ n ∧ n ≤ 3) ∧ hv = nI n := by
    obtain ⟨n, a1, a2⟩ := nI_of2 (x := hv) (M := nI 3) (n := 3) (by decide +kernel) (fun z => h1 (Int32.lt_trans z (by decide))) (Int32.not_lt.mp h3)
    refine ⟨n, ⟨?_, a1⟩, a2⟩
    rcases n with _ | n
    · subst a2
      exact absurd (by decide) h1
    · omega
  obtain ⟨wh, wh1, rfl⟩ : ∃ n : Nat, n ≤ 4 ∧ wv = nI n := nI_of2 (x := wv) (M := nI 4) (n := 4) (by decide +kernel) w1 (Int32.not_lt.mp w2)
  have eS : x_bin 0 (nI 1) (nI hn) = nI (1 + hn) := nI_add 1 hn
  rcases hc : x_cmp 5 (nI wh) (x_bin 0 (nI 1) (nI hn)) with _ | _
  · refine fin (-1) H vx hI (start (start2 ?_))
    refine xT_ifCondY p_q259 d259_17 (t := 23) (by decide) ((by decide)) ?_
    refine xT_iload_n p_q259 d259_23 (hL2) ?_
    refine xT_icV (y := nI 1) p_q259 d259_24 (by decide) ?_
    refine xT_iload_n p_q259 d259_25 (hL1) ?_
    refine xT_iadd p_q259 d259_26 ?_
    refine xT_if_icmpN p_q259 d259_27 (t := 32) (by decide) (hc) ?_
    refine xT_icV (y := -1) p_q259 d259_30 (by decide) ?_
    exact ret 31 1 _ _ _ (by decide +kernel)
  have hw : wh ≤ 1 + hn := by
    rw [eS] at hc
    exact (nI_leI (by omega) (by omega)).mp (of_decide_eq_true hc)
  obtain ⟨v, H2, x3, rfl, vx2, hI2, z0, z1, hQ⟩ := m_find (ot := ot) (dp := dp + 1) (by omega) hn1.1 hI
  obtain ⟨r, x4⟩ := p_rest (ot := ot) (dp := dp + 3) hI2 (by omega) hn1.1 hw z0 z1 hQ Lc hL0 hL1 hL2
  refine fin r H2 vx2 hI2 (start (start2 ?_))
  refine xT_ifCondY p_q259 d259_17 (t := 23) (by decide) ((by decide)) ?_
  refine xT_iload_n p_q259 d259_23 (hL2) ?_
  refine xT_icV (y := nI 1) p_q259 d259_24 (by decide) ?_
  refine xT_iload_n p_q259 d259_25 (hL1) ?_
  refine xT_iadd p_q259 d259_26 ?_
  refine xT_if_icmpY p_q259 d259_27 (t := 32) (by decide) (hc) ?_
  refine xT_aload_n p_q259 d259_32 (hL0) ?_
  refine xT_iload_n p_q259 d259_33 (hL1) ?_
  exact xT_invokevirtual (u := none) (r := []) p_q259 d259_34 (j := 260) (so := 0) (by decide +kernel) p_q260 rfl (by
    rw [x_rcM hA hM]
    rfl) x3 x4
end XPct
