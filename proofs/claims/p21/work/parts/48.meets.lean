/-! meets: may one hand meet a set of stops. -/
noncomputable section XMeets
theorem lkN {L : List (Nat × XV Int32)} {i j : Nat} {v u : XV Int32} (h : i ≠ j) (g : x_lk L j = some u) : x_lk (x_st L i v) j = some u := (x_lk_st L i j v).trans ((if_neg h).trans g)
theorem lkY {L : List (Nat × XV Int32)} {i : Nat} {v : XV Int32} : x_lk (x_st L i v) i = some v := (x_lk_st L i i v).trans (if_pos rfl)
theorem ixN {n k : Nat} (h : k < n ∧ n < 2 ^ 31) {l : List (XV Int32)} (hl : l.length = n) : (decide (nI k < 0) || decide (l.length ≤ (nI k).toNatClampNeg)) = false := by
  rw [decide_eq_false (nI_pos (by omega)), nI_clamp (by omega), hl]
  exact decide_eq_false (by omega)
theorem ixG {k : Nat} (h : k < 2 ^ 31) {l : List (XV Int32)} {u : XV Int32} (g : l[k]? = some u) : l[(nI k).toNatClampNeg]? = some u := by
  rw [nI_clamp h]
  exact g
theorem xT_icV {tb : XT} {tyl : List FieldType} {ot : XO Int32} {dp k pc n cn sn : Nat} {q : XM} {L : List (Nat × XV Int32)} {S : List (XV Int32)} {H H2 : List (XC Int32)} {v : Option (XV Int32)} {x : Int} {y : Int32} (hq : tMth tb k = some q) (hi : mC q pc = some (.iconst x, n)) (hx : Int32.ofInt x = y) (h : x_To tb tyl ot dp k (pc + 1) L (.inl y :: S) H cn sn v H2) : x_To tb tyl ot dp k pc L S H cn sn v H2 := xT_iconst hq hi (by
  rw [show dKc dC (Int32.ofInt x) = y from hx]
  exact h)
set_option maxRecDepth 100000 in
theorem b_bit : ∀ l, l < 256 → ∀ k, k < 8 → x_cmp 1 (x_bin 3 (x_bin 7 (nI l) (nI k)) (nI 1)) (nI 1) = !decide ((l >>> k) &&& 1 = 1) := by decide +kernel
theorem b_bitY {l k : Nat} (hl : l < 256) (hk : k < 8) (h : (l >>> k) &&& 1 = 1) : x_cmp 1 (x_bin 3 (x_bin 7 (nI l) (nI k)) (nI 1)) (nI 1) = false := by
  rw [b_bit l hl k hk, decide_eq_true h]
  rfl
theorem b_bitN {l k : Nat} (hl : l < 256) (hk : k < 8) (h : ¬ (l >>> k) &&& 1 = 1) : x_cmp 1 (x_bin 3 (x_bin 7 (nI l) (nI k)) (nI 1)) (nI 1) = true := by
  rw [b_bit l hl k hk, decide_eq_false h]
  rfl
def bNo (s l : Nat) : Bool := (List.range 8).all (fun i => !(decide (i < s) && decide ((l >>> i) &&& 1 = 1)))
set_option maxRecDepth 100000 in
theorem b_none0 : ∀ s, s < 9 → ∀ l, l < 256 → (decide (l < 2 ^ s) && bNo s l) = true → l = 0 := by decide +kernel
theorem b_none (s : Nat) (hs : s < 9) (l : Nat) (hl : l < 256) (h : l < 2 ^ s) (hi : ∀ i, i < 8 → i < s → ¬ (l >>> i) &&& 1 = 1) : l = 0 := b_none0 s hs l hl (by
  rw [decide_eq_true h, Bool.true_and]
  refine List.all_eq_true.mpr fun i hm => ?_
  have h8 := List.mem_range.mp hm
  by_cases c : i < s
  · rw [decide_eq_true c, decide_eq_false (hi i h8 c)]
    rfl
  · rw [decide_eq_false c]
    rfl)
theorem b_some (s : Nat) (hs : s < 9) (l : Nat) (hl : l < 256) (h : l < 2 ^ s) (h0 : l ≠ 0) : ∃ i, i < 8 ∧ i < s ∧ (l >>> i) &&& 1 = 1 := Classical.byContradiction fun hc => h0 (b_none s hs l hl h fun i h1 h2 h3 => hc ⟨i, h1, h2, h3⟩)
set_option maxRecDepth 100000 in
theorem b_clr : ∀ l, l < 256 → ∀ k, k < 8 → (l >>> k) &&& 1 = 1 → x_bin 3 (nI l) (x_bin 5 (x_bin 6 (nI 1) (nI k)) (-1)) = nI (l - 2 ^ k) ∧ 2 ^ k ≤ l := by decide +kernel
/-- the reference's stops -/
def mS (H : List (XC Int32)) (a s : Nat) (sx : Nat → Nat → Int32) : Prop := ∃ fs st sr, ¬ 1000000 < a ∧ H[a]? = some (.inl (12, fs)) ∧ fs[36]? = some (.inl (nI s)) ∧ s ≤ 8 ∧ fs[37]? = some (.inr (some st)) ∧ H[st]? = some (.inr (5, sr)) ∧ sr.length = 8 ∧ ∀ k, k < 8 → ∃ r w, r ≠ 1000000 ∧ sr[k]? = some (.inr (some r)) ∧ H[r]? = some (.inr (0, w)) ∧ w.length = 4 ∧ ∀ j, j < 4 → w[j]? = some (.inl (sx k j))
set_option maxRecDepth 1000000 in
theorem p_q261 : tMth x_tb 261 = some xm261 := rfl
theorem d261_0 : mC xm261 0 = some (.iconst 0, 1) := by decide +kernel
theorem d261_1 : mC xm261 1 = some (.istore_n 2, 1) := by decide +kernel
theorem d261_2 : mC xm261 2 = some (.iconst 0, 1) := by decide +kernel
theorem d261_3 : mC xm261 3 = some (.istore_n 3, 1) := by decide +kernel
theorem d261_4 : mC xm261 4 = some (.iload_n 1, 1) := by decide +kernel
theorem d261_5 : mC xm261 5 = some (.istore 4, 2) := by decide +kernel
theorem d261_7 : mC xm261 7 = some (.iload 4, 2) := by decide +kernel
theorem d261_9 : mC xm261 9 = some (.ifCond .eq 156, 3) := by decide +kernel
theorem d261_12 : mC xm261 12 = some (.iconst (-1), 1) := by decide +kernel
theorem d261_13 : mC xm261 13 = some (.istore 5, 2) := by decide +kernel
theorem d261_15 : mC xm261 15 = some (.iconst 0, 1) := by decide +kernel
theorem d261_16 : mC xm261 16 = some (.istore 6, 2) := by decide +kernel
theorem d261_18 : mC xm261 18 = some (.iload 6, 2) := by decide +kernel
theorem d261_20 : mC xm261 20 = some (.aload_n 0, 1) := by decide +kernel
theorem d261_21 : mC xm261 21 = some (.getfield 426, 3) := by decide +kernel
theorem d261_24 : mC xm261 24 = some (.if_icmp .ge 67, 3) := by decide +kernel
theorem d261_27 : mC xm261 27 = some (.iload 4, 2) := by decide +kernel
theorem d261_29 : mC xm261 29 = some (.iload 6, 2) := by decide +kernel
theorem d261_31 : mC xm261 31 = some (.ishr, 1) := by decide +kernel
theorem d261_32 : mC xm261 32 = some (.iconst 1, 1) := by decide +kernel
theorem d261_33 : mC xm261 33 = some (.iand, 1) := by decide +kernel
theorem d261_34 : mC xm261 34 = some (.iconst 1, 1) := by decide +kernel
theorem d261_35 : mC xm261 35 = some (.if_icmp .ne 7, 3) := by decide +kernel
theorem d261_38 : mC xm261 38 = some (.iconst 1, 1) := by decide +kernel
theorem d261_39 : mC xm261 39 = some (.goto 4, 3) := by decide +kernel
theorem d261_42 : mC xm261 42 = some (.iconst 0, 1) := by decide +kernel
theorem d261_43 : mC xm261 43 = some (.istore 7, 2) := by decide +kernel
theorem d261_45 : mC xm261 45 = some (.iload 7, 2) := by decide +kernel
theorem d261_47 : mC xm261 47 = some (.ifCond .eq 34, 3) := by decide +kernel
theorem d261_50 : mC xm261 50 = some (.iload 5, 2) := by decide +kernel
theorem d261_52 : mC xm261 52 = some (.ifCond .lt 24, 3) := by decide +kernel
theorem d261_55 : mC xm261 55 = some (.aload_n 0, 1) := by decide +kernel
theorem d261_56 : mC xm261 56 = some (.getfield 97, 3) := by decide +kernel
theorem d261_59 : mC xm261 59 = some (.iload 6, 2) := by decide +kernel
theorem d261_61 : mC xm261 61 = some (.aaload, 1) := by decide +kernel
theorem d261_62 : mC xm261 62 = some (.iconst 1, 1) := by decide +kernel
theorem d261_63 : mC xm261 63 = some (.iaload, 1) := by decide +kernel
theorem d261_64 : mC xm261 64 = some (.aload_n 0, 1) := by decide +kernel
theorem d261_65 : mC xm261 65 = some (.getfield 97, 3) := by decide +kernel
theorem d261_68 : mC xm261 68 = some (.iload 5, 2) := by decide +kernel
theorem d261_70 : mC xm261 70 = some (.aaload, 1) := by decide +kernel
theorem d261_71 : mC xm261 71 = some (.iconst 1, 1) := by decide +kernel
theorem d261_72 : mC xm261 72 = some (.iaload, 1) := by decide +kernel
theorem d261_73 : mC xm261 73 = some (.if_icmp .ge 8, 3) := by decide +kernel
theorem d261_76 : mC xm261 76 = some (.iload 6, 2) := by decide +kernel
theorem d261_78 : mC xm261 78 = some (.goto 5, 3) := by decide +kernel
theorem d261_81 : mC xm261 81 = some (.iload 5, 2) := by decide +kernel
theorem d261_83 : mC xm261 83 = some (.istore 5, 2) := by decide +kernel
theorem d261_85 : mC xm261 85 = some (.iinc 6 1, 3) := by decide +kernel
theorem d261_88 : mC xm261 88 = some (.goto (-70), 3) := by decide +kernel
theorem d261_91 : mC xm261 91 = some (.iload_n 3, 1) := by decide +kernel
theorem d261_92 : mC xm261 92 = some (.aload_n 0, 1) := by decide +kernel
theorem d261_93 : mC xm261 93 = some (.getfield 97, 3) := by decide +kernel
theorem d261_96 : mC xm261 96 = some (.iload 5, 2) := by decide +kernel
theorem d261_98 : mC xm261 98 = some (.aaload, 1) := by decide +kernel
theorem d261_99 : mC xm261 99 = some (.iconst 0, 1) := by decide +kernel
theorem d261_100 : mC xm261 100 = some (.iaload, 1) := by decide +kernel
theorem d261_101 : mC xm261 101 = some (.iload_n 2, 1) := by decide +kernel
theorem d261_102 : mC xm261 102 = some (.isub, 1) := by decide +kernel
theorem d261_106 : mC xm261 106 = some (.iadd, 1) := by decide +kernel
theorem d261_107 : mC xm261 107 = some (.aload_n 0, 1) := by decide +kernel
theorem d261_108 : mC xm261 108 = some (.getfield 97, 3) := by decide +kernel
theorem d261_111 : mC xm261 111 = some (.iload 5, 2) := by decide +kernel
theorem d261_113 : mC xm261 113 = some (.aaload, 1) := by decide +kernel
theorem d261_114 : mC xm261 114 = some (.iconst 1, 1) := by decide +kernel
theorem d261_115 : mC xm261 115 = some (.iaload, 1) := by decide +kernel
theorem d261_116 : mC xm261 116 = some (.if_icmp .le 5, 3) := by decide +kernel
theorem d261_119 : mC xm261 119 = some (.iconst 0, 1) := by decide +kernel
theorem d261_121 : mC xm261 121 = some (.aload_n 0, 1) := by decide +kernel
theorem d261_122 : mC xm261 122 = some (.getfield 97, 3) := by decide +kernel
theorem d261_125 : mC xm261 125 = some (.iload 5, 2) := by decide +kernel
theorem d261_127 : mC xm261 127 = some (.aaload, 1) := by decide +kernel
theorem d261_128 : mC xm261 128 = some (.iconst 0, 1) := by decide +kernel
theorem d261_129 : mC xm261 129 = some (.iaload, 1) := by decide +kernel
theorem d261_130 : mC xm261 130 = some (.istore_n 2, 1) := by decide +kernel
theorem d261_131 : mC xm261 131 = some (.aload_n 0, 1) := by decide +kernel
theorem d261_132 : mC xm261 132 = some (.getfield 97, 3) := by decide +kernel
theorem d261_135 : mC xm261 135 = some (.iload 5, 2) := by decide +kernel
theorem d261_137 : mC xm261 137 = some (.aaload, 1) := by decide +kernel
theorem d261_138 : mC xm261 138 = some (.iconst 1, 1) := by decide +kernel
theorem d261_139 : mC xm261 139 = some (.iaload, 1) := by decide +kernel
theorem d261_140 : mC xm261 140 = some (.aload_n 0, 1) := by decide +kernel
theorem d261_141 : mC xm261 141 = some (.getfield 97, 3) := by decide +kernel
theorem d261_144 : mC xm261 144 = some (.iload 5, 2) := by decide +kernel
theorem d261_146 : mC xm261 146 = some (.aaload, 1) := by decide +kernel
theorem d261_147 : mC xm261 147 = some (.iconst 2, 1) := by decide +kernel
theorem d261_148 : mC xm261 148 = some (.iaload, 1) := by decide +kernel
theorem d261_149 : mC xm261 149 = some (.iadd, 1) := by decide +kernel
theorem d261_150 : mC xm261 150 = some (.istore_n 3, 1) := by decide +kernel
theorem d261_151 : mC xm261 151 = some (.iload 4, 2) := by decide +kernel
theorem d261_153 : mC xm261 153 = some (.iconst 1, 1) := by decide +kernel
theorem d261_154 : mC xm261 154 = some (.iload 5, 2) := by decide +kernel
theorem d261_156 : mC xm261 156 = some (.ishl, 1) := by decide +kernel
theorem d261_157 : mC xm261 157 = some (.iconst (-1), 1) := by decide +kernel
theorem d261_158 : mC xm261 158 = some (.ixor, 1) := by decide +kernel
theorem d261_159 : mC xm261 159 = some (.iand, 1) := by decide +kernel
theorem d261_160 : mC xm261 160 = some (.istore 4, 2) := by decide +kernel
theorem d261_162 : mC xm261 162 = some (.goto (-155), 3) := by decide +kernel
theorem d261_165 : mC xm261 165 = some (.iconst 1, 1) := by decide +kernel
theorem d261_120 : mC xm261 120 = some (.ireturn, 1) := by decide +kernel
theorem d261_166 : mC xm261 166 = some (.ireturn, 1) := by decide +kernel
theorem d261_103 : mC xm261 103 = some (.invokestatic 429, 3) := by decide +kernel
set_option maxHeartbeats 4000000 in
theorem m_meets {ot : XO Int32} {dp a s : Nat} {H : List (XC Int32)} {sx : Nat → Nat → Int32} (hS : mS H a s sx) : ∀ (n left : Nat) (L : List (Nat × XV Int32)) (w f : Int32), left < n → left < 2 ^ s → x_lk L 0 = some (.inr (some a)) → x_lk L 2 = some (.inl w) → x_lk L 3 = some (.inl f) → x_lk L 4 = some (.inl (nI left)) →
    ∃ b : Int32, (b = 0 ∨ b = 1) ∧ (left = 0 → b = 1) ∧ x_To x_tb x_tyl ot dp 261 7 L [] H 0 0 (some (.inl b)) H := by
  intro n
  induction n with
  | zero => exact fun _ _ _ _ h => absurd h (Nat.not_lt_zero _)
  | succ n ihn =>
    intro left L w f hn h2 hL0 hL2 hL3 hL4
    obtain ⟨fs, st, sr, hA, hM, h36, hs, h37, hst, hsl, hsr⟩ := id hS
    have hl : left < 256 := Nat.lt_of_lt_of_le h2 (Nat.pow_le_pow_right (by decide) hs)
    by_cases hz : left = 0
    · subst hz
      refine ⟨1, Or.inr rfl, fun _ => rfl, ?_⟩
      refine xT_iload p_q261 d261_7 (hL4) ?_
      refine xT_ifCondY p_q261 d261_9 (t := 165) (by decide) (by decide) ?_
      refine xT_icV (y := nI 1) p_q261 d261_165 (by decide) ?_
      exact xT_ireturn p_q261 d261_166 (by decide +kernel)
    have key : ∀ (j k : Nat) (L2 : List (Nat × XV Int32)) (nx : Int32), k + j = s → x_lk L2 0 = some (.inr (some a)) → x_lk L2 2 = some (.inl w) → x_lk L2 3 = some (.inl f) → x_lk L2 4 = some (.inl (nI left)) → x_lk L2 5 = some (.inl nx) → x_lk L2 6 = some (.inl (nI k)) → ((nx = -1 ∧ ∀ i, i < k → ¬ (left >>> i) &&& 1 = 1) ∨ ∃ x, x < s ∧ nx = nI x ∧ (left >>> x) &&& 1 = 1) →
        ∃ b : Int32, (b = 0 ∨ b = 1) ∧ x_To x_tb x_tyl ot dp 261 18 L2 [] H 0 0 (some (.inl b)) H := by
      intro j
      induction j with
      | zero =>
        intro k L2 nx hk g0 g2 g3 g4 g5 g6 hP
        obtain ⟨x, hx, rfl, hb⟩ : ∃ x, x < s ∧ nx = nI x ∧ (left >>> x) &&& 1 = 1 := by
          rcases hP with ⟨-, hP⟩ | hP
          · obtain ⟨i, -, hi, hb⟩ := b_some s (by omega) left hl h2 hz
            exact absurd hb (hP i (by omega))
          · exact hP
        obtain ⟨r, v, hr, e1, e2, e3, e4⟩ := hsr x (by omega)
        have rest : ∀ u : Int32, ∃ b : Int32, (b = 0 ∨ b = 1) ∧ x_To x_tb x_tyl ot dp 261 106 L2 [.inl u, .inl f] H 0 0 (some (.inl b)) H := by
          intro u
          rcases hc : x_cmp 5 (f + u) (sx x 1) with _ | _
          · refine ⟨0, Or.inl rfl, ?_⟩
            refine xT_iadd p_q261 d261_106 ?_
            refine xT_aload_n p_q261 d261_107 (g0) ?_
            refine xT_getfield p_q261 d261_108 hA rfl hM rfl h37 ?_
            refine xT_iload p_q261 d261_111 (g5) ?_
            refine xT_aaload p_q261 d261_113 (by decide +kernel) hst (ixN (by omega) hsl) (ixG (by omega) e1) ?_
            refine xT_icV (y := nI 1) p_q261 d261_114 (by decide) ?_
            refine xT_iaload p_q261 d261_115 hr e2 (ixN (n := 4) (by decide) e3) (ixG (by decide) (e4 1 (by decide))) ?_
            refine xT_if_icmpN p_q261 d261_116 (t := 121) (by decide) (hc) ?_
            refine xT_icV (y := nI 0) p_q261 d261_119 (by decide) ?_
            exact xT_ireturn p_q261 d261_120 (by decide +kernel)
          · obtain ⟨c1, c2⟩ := b_clr left hl x (by omega) hb
            have hp : 0 < 2 ^ x := Nat.two_pow_pos x
            obtain ⟨b, b1, -, b3⟩ := ihn (left - 2 ^ x) (x_st (x_st (x_st (L2) 2 (.inl (sx x 0))) 3 (.inl (x_bin 0 (sx x 1) (sx x 2)))) 4 (.inl (x_bin 3 (nI left) (x_bin 5 (x_bin 6 (nI 1) (nI x)) (-1))))) (sx x 0) (sx x 1 + sx x 2) (by omega) (by omega) (lkN (by decide) (lkN (by decide) (lkN (by decide) (g0)))) (lkN (by decide) (lkN (by decide) (lkY))) (lkN (by decide) (lkY)) (lkY.trans (congrArg (fun z => some (Sum.inl z)) c1))
            refine ⟨b, b1, ?_⟩
            refine xT_iadd p_q261 d261_106 ?_
            refine xT_aload_n p_q261 d261_107 (g0) ?_
            refine xT_getfield p_q261 d261_108 hA rfl hM rfl h37 ?_
            refine xT_iload p_q261 d261_111 (g5) ?_
            refine xT_aaload p_q261 d261_113 (by decide +kernel) hst (ixN (by omega) hsl) (ixG (by omega) e1) ?_
            refine xT_icV (y := nI 1) p_q261 d261_114 (by decide) ?_
            refine xT_iaload p_q261 d261_115 hr e2 (ixN (n := 4) (by decide) e3) (ixG (by decide) (e4 1 (by decide))) ?_
            refine xT_if_icmpY p_q261 d261_116 (t := 121) (by decide) (hc) ?_
            refine xT_aload_n p_q261 d261_121 (g0) ?_
            refine xT_getfield p_q261 d261_122 hA rfl hM rfl h37 ?_
            refine xT_iload p_q261 d261_125 (g5) ?_
            refine xT_aaload p_q261 d261_127 (by decide +kernel) hst (ixN (by omega) hsl) (ixG (by omega) e1) ?_
            refine xT_icV (y := nI 0) p_q261 d261_128 (by decide) ?_
            refine xT_iaload p_q261 d261_129 hr e2 (ixN (n := 4) (by decide) e3) (ixG (by decide) (e4 0 (by decide))) ?_
            refine xT_istore_n p_q261 d261_130 (by decide) ?_
            refine xT_aload_n p_q261 d261_131 (lkN (by decide) (g0)) ?_
            refine xT_getfield p_q261 d261_132 hA rfl hM rfl h37 ?_
            refine xT_iload p_q261 d261_135 (lkN (by decide) (g5)) ?_
            refine xT_aaload p_q261 d261_137 (by decide +kernel) hst (ixN (by omega) hsl) (ixG (by omega) e1) ?_
            refine xT_icV (y := nI 1) p_q261 d261_138 (by decide) ?_
            refine xT_iaload p_q261 d261_139 hr e2 (ixN (n := 4) (by decide) e3) (ixG (by decide) (e4 1 (by decide))) ?_
            refine xT_aload_n p_q261 d261_140 (lkN (by decide) (g0)) ?_
            refine xT_getfield p_q261 d261_141 hA rfl hM rfl h37 ?_
            refine xT_iload p_q261 d261_144 (lkN (by decide) (g5)) ?_
            refine xT_aaload p_q261 d261_146 (by decide +kernel) hst (ixN (by omega) hsl) (ixG (by omega) e1) ?_
            refine xT_icV (y := nI 2) p_q261 d261_147 (by decide) ?_
            refine xT_iaload p_q261 d261_148 hr e2 (ixN (n := 4) (by decide) e3) (ixG (by decide) (e4 2 (by decide))) ?_
            refine xT_iadd p_q261 d261_149 ?_
            refine xT_istore_n p_q261 d261_150 (by decide) ?_
            refine xT_iload p_q261 d261_151 (lkN (by decide) (lkN (by decide) (g4))) ?_
            refine xT_icV (y := nI 1) p_q261 d261_153 (by decide) ?_
            refine xT_iload p_q261 d261_154 (lkN (by decide) (lkN (by decide) (g5))) ?_
            refine xT_ishl p_q261 d261_156 ?_
            refine xT_icV (y := -1) p_q261 d261_157 (by decide) ?_
            refine xT_ixor p_q261 d261_158 ?_
            refine xT_iand p_q261 d261_159 ?_
            refine xT_istore p_q261 d261_160 (by decide) ?_
            refine xT_goto p_q261 d261_162 (t := 7) (by decide) ?_
            exact b3
        have ge : x_cmp 3 (nI k) (nI s) = true := decide_eq_true (nI_le (by omega) (by omega))
        rcases ha : x_cmp 3 (sx x 0 - w) 0 with _ | _
        · obtain ⟨b, b1, b2⟩ := rest (x_bin 1 0 (sx x 0 - w))
          refine ⟨b, b1, ?_⟩
          refine xT_iload p_q261 d261_18 (g6) ?_
          refine xT_aload_n p_q261 d261_20 (g0) ?_
          refine xT_getfield p_q261 d261_21 hA rfl hM rfl h36 ?_
          refine xT_if_icmpY p_q261 d261_24 (t := 91) (by decide) (ge) ?_
          refine xT_iload_n p_q261 d261_91 (g3) ?_
          refine xT_aload_n p_q261 d261_92 (g0) ?_
          refine xT_getfield p_q261 d261_93 hA rfl hM rfl h37 ?_
          refine xT_iload p_q261 d261_96 (g5) ?_
          refine xT_aaload p_q261 d261_98 (by decide +kernel) hst (ixN (by omega) hsl) (ixG (by omega) e1) ?_
          refine xT_icV (y := nI 0) p_q261 d261_99 (by decide) ?_
          refine xT_iaload p_q261 d261_100 hr e2 (ixN (n := 4) (by decide) e3) (ixG (by decide) (e4 0 (by decide))) ?_
          refine xT_iload_n p_q261 d261_101 (g2) ?_
          refine xT_isub p_q261 d261_102 ?_
          exact xT_absN p_q261 d261_103 (by decide +kernel) (by decide +kernel) rfl ha b2
        · obtain ⟨b, b1, b2⟩ := rest (sx x 0 - w)
          refine ⟨b, b1, ?_⟩
          refine xT_iload p_q261 d261_18 (g6) ?_
          refine xT_aload_n p_q261 d261_20 (g0) ?_
          refine xT_getfield p_q261 d261_21 hA rfl hM rfl h36 ?_
          refine xT_if_icmpY p_q261 d261_24 (t := 91) (by decide) (ge) ?_
          refine xT_iload_n p_q261 d261_91 (g3) ?_
          refine xT_aload_n p_q261 d261_92 (g0) ?_
          refine xT_getfield p_q261 d261_93 hA rfl hM rfl h37 ?_
          refine xT_iload p_q261 d261_96 (g5) ?_
          refine xT_aaload p_q261 d261_98 (by decide +kernel) hst (ixN (by omega) hsl) (ixG (by omega) e1) ?_
          refine xT_icV (y := nI 0) p_q261 d261_99 (by decide) ?_
          refine xT_iaload p_q261 d261_100 hr e2 (ixN (n := 4) (by decide) e3) (ixG (by decide) (e4 0 (by decide))) ?_
          refine xT_iload_n p_q261 d261_101 (g2) ?_
          refine xT_isub p_q261 d261_102 ?_
          exact xT_absY p_q261 d261_103 (by decide +kernel) (by decide +kernel) rfl ha b2
      | succ j ih =>
        intro k L2 nx hk g0 g2 g3 g4 g5 g6 hP
        have hk8 : k < 8 := by omega
        have ge : x_cmp 3 (nI k) (nI s) = false := decide_eq_false (nI_ge (by omega) (by omega))
        by_cases hb : (left >>> k) &&& 1 = 1
        · have hbb := b_bitY hl hk8 hb
          rcases hP with ⟨rfl, hP⟩ | ⟨x, hx, rfl, hxb⟩
          · obtain ⟨b, b1, b2⟩ := ih (k + 1) (x_st (x_st (x_st (L2) 7 (.inl (nI 1))) 5 (.inl (nI k))) 6 (.inl (x_bin 0 (nI k) (Int32.ofInt (1))))) (nI k) (by omega) (lkN (by decide) (lkN (by decide) (lkN (by decide) (g0)))) (lkN (by decide) (lkN (by decide) (lkN (by decide) (g2)))) (lkN (by decide) (lkN (by decide) (lkN (by decide) (g3)))) (lkN (by decide) (lkN (by decide) (lkN (by decide) (g4)))) (lkN (by decide) (lkY)) (lkY.trans (congrArg (fun z => some (Sum.inl z)) (nI_succ k).symm)) (Or.inr ⟨k, by omega, rfl, hb⟩)
            refine ⟨b, b1, ?_⟩
            refine xT_iload p_q261 d261_18 (g6) ?_
            refine xT_aload_n p_q261 d261_20 (g0) ?_
            refine xT_getfield p_q261 d261_21 hA rfl hM rfl h36 ?_
            refine xT_if_icmpN p_q261 d261_24 (t := 91) (by decide) (ge) ?_
            refine xT_iload p_q261 d261_27 (g4) ?_
            refine xT_iload p_q261 d261_29 (g6) ?_
            refine xT_ishr p_q261 d261_31 ?_
            refine xT_icV (y := nI 1) p_q261 d261_32 (by decide) ?_
            refine xT_iand p_q261 d261_33 ?_
            refine xT_icV (y := nI 1) p_q261 d261_34 (by decide) ?_
            refine xT_if_icmpN p_q261 d261_35 (t := 42) (by decide) (hbb) ?_
            refine xT_icV (y := nI 1) p_q261 d261_38 (by decide) ?_
            refine xT_goto p_q261 d261_39 (t := 43) (by decide) ?_
            refine xT_istore p_q261 d261_43 (by decide) ?_
            refine xT_iload p_q261 d261_45 (lkY) ?_
            refine xT_ifCondN p_q261 d261_47 (t := 81) (by decide) (by decide) ?_
            refine xT_iload p_q261 d261_50 (lkN (by decide) (g5)) ?_
            refine xT_ifCondY p_q261 d261_52 (t := 76) (by decide) (by decide) ?_
            refine xT_iload p_q261 d261_76 (lkN (by decide) (g6)) ?_
            refine xT_goto p_q261 d261_78 (t := 83) (by decide) ?_
            refine xT_istore p_q261 d261_83 (by decide) ?_
            refine xT_iinc p_q261 d261_85 (lkN (by decide) (lkN (by decide) (g6))) (by decide) ?_
            refine xT_goto p_q261 d261_88 (t := 18) (by decide) ?_
            exact b2
          · obtain ⟨r, v, hr, e1, e2, e3, e4⟩ := hsr k hk8
            obtain ⟨r', v', hr', e1', e2', e3', e4'⟩ := hsr x (by omega)
            have lt : x_cmp 2 (nI x) 0 = false := decide_eq_false (nI_pos (by omega))
            rcases hc : x_cmp 3 (sx k 1) (sx x 1) with _ | _
            · obtain ⟨b, b1, b2⟩ := ih (k + 1) (x_st (x_st (x_st (L2) 7 (.inl (nI 1))) 5 (.inl (nI k))) 6 (.inl (x_bin 0 (nI k) (Int32.ofInt (1))))) (nI k) (by omega) (lkN (by decide) (lkN (by decide) (lkN (by decide) (g0)))) (lkN (by decide) (lkN (by decide) (lkN (by decide) (g2)))) (lkN (by decide) (lkN (by decide) (lkN (by decide) (g3)))) (lkN (by decide) (lkN (by decide) (lkN (by decide) (g4)))) (lkN (by decide) (lkY)) (lkY.trans (congrArg (fun z => some (Sum.inl z)) (nI_succ k).symm)) (Or.inr ⟨k, by omega, rfl, hb⟩)
              refine ⟨b, b1, ?_⟩
              refine xT_iload p_q261 d261_18 (g6) ?_
              refine xT_aload_n p_q261 d261_20 (g0) ?_
              refine xT_getfield p_q261 d261_21 hA rfl hM rfl h36 ?_
              refine xT_if_icmpN p_q261 d261_24 (t := 91) (by decide) (ge) ?_
              refine xT_iload p_q261 d261_27 (g4) ?_
              refine xT_iload p_q261 d261_29 (g6) ?_
              refine xT_ishr p_q261 d261_31 ?_
              refine xT_icV (y := nI 1) p_q261 d261_32 (by decide) ?_
              refine xT_iand p_q261 d261_33 ?_
              refine xT_icV (y := nI 1) p_q261 d261_34 (by decide) ?_
              refine xT_if_icmpN p_q261 d261_35 (t := 42) (by decide) (hbb) ?_
              refine xT_icV (y := nI 1) p_q261 d261_38 (by decide) ?_
              refine xT_goto p_q261 d261_39 (t := 43) (by decide) ?_
              refine xT_istore p_q261 d261_43 (by decide) ?_
              refine xT_iload p_q261 d261_45 (lkY) ?_
              refine xT_ifCondN p_q261 d261_47 (t := 81) (by decide) (by decide) ?_
              refine xT_iload p_q261 d261_50 (lkN (by decide) (g5)) ?_
              refine xT_ifCondN p_q261 d261_52 (t := 76) (by decide) (lt) ?_
              refine xT_aload_n p_q261 d261_55 (lkN (by decide) (g0)) ?_
              refine xT_getfield p_q261 d261_56 hA rfl hM rfl h37 ?_
              refine xT_iload p_q261 d261_59 (lkN (by decide) (g6)) ?_
              refine xT_aaload p_q261 d261_61 (by decide +kernel) hst (ixN (by omega) hsl) (ixG (by omega) e1) ?_
              refine xT_icV (y := nI 1) p_q261 d261_62 (by decide) ?_
              refine xT_iaload p_q261 d261_63 hr e2 (ixN (n := 4) (by decide) e3) (ixG (by decide) (e4 1 (by decide))) ?_
              refine xT_aload_n p_q261 d261_64 (lkN (by decide) (g0)) ?_
              refine xT_getfield p_q261 d261_65 hA rfl hM rfl h37 ?_
              refine xT_iload p_q261 d261_68 (lkN (by decide) (g5)) ?_
              refine xT_aaload p_q261 d261_70 (by decide +kernel) hst (ixN (by omega) hsl) (ixG (by omega) e1') ?_
              refine xT_icV (y := nI 1) p_q261 d261_71 (by decide) ?_
              refine xT_iaload p_q261 d261_72 hr' e2' (ixN (n := 4) (by decide) e3') (ixG (by decide) (e4' 1 (by decide))) ?_
              refine xT_if_icmpN p_q261 d261_73 (t := 81) (by decide) (hc) ?_
              refine xT_iload p_q261 d261_76 (lkN (by decide) (g6)) ?_
              refine xT_goto p_q261 d261_78 (t := 83) (by decide) ?_
              refine xT_istore p_q261 d261_83 (by decide) ?_
              refine xT_iinc p_q261 d261_85 (lkN (by decide) (lkN (by decide) (g6))) (by decide) ?_
              refine xT_goto p_q261 d261_88 (t := 18) (by decide) ?_
              exact b2
            · obtain ⟨b, b1, b2⟩ := ih (k + 1) (x_st (x_st (x_st (L2) 7 (.inl (nI 1))) 5 (.inl (nI x))) 6 (.inl (x_bin 0 (nI k) (Int32.ofInt (1))))) (nI x) (by omega) (lkN (by decide) (lkN (by decide) (lkN (by decide) (g0)))) (lkN (by decide) (lkN (by decide) (lkN (by decide) (g2)))) (lkN (by decide) (lkN (by decide) (lkN (by decide) (g3)))) (lkN (by decide) (lkN (by decide) (lkN (by decide) (g4)))) (lkN (by decide) (lkY)) (lkY.trans (congrArg (fun z => some (Sum.inl z)) (nI_succ k).symm)) (Or.inr ⟨x, by omega, rfl, hxb⟩)
              refine ⟨b, b1, ?_⟩
              refine xT_iload p_q261 d261_18 (g6) ?_
              refine xT_aload_n p_q261 d261_20 (g0) ?_
              refine xT_getfield p_q261 d261_21 hA rfl hM rfl h36 ?_
              refine xT_if_icmpN p_q261 d261_24 (t := 91) (by decide) (ge) ?_
              refine xT_iload p_q261 d261_27 (g4) ?_
              refine xT_iload p_q261 d261_29 (g6) ?_
              refine xT_ishr p_q261 d261_31 ?_
              refine xT_icV (y := nI 1) p_q261 d261_32 (by decide) ?_
              refine xT_iand p_q261 d261_33 ?_
              refine xT_icV (y := nI 1) p_q261 d261_34 (by decide) ?_
              refine xT_if_icmpN p_q261 d261_35 (t := 42) (by decide) (hbb) ?_
              refine xT_icV (y := nI 1) p_q261 d261_38 (by decide) ?_
              refine xT_goto p_q261 d261_39 (t := 43) (by decide) ?_
              refine xT_istore p_q261 d261_43 (by decide) ?_
              refine xT_iload p_q261 d261_45 (lkY) ?_
              refine xT_ifCondN p_q261 d261_47 (t := 81) (by decide) (by decide) ?_
              refine xT_iload p_q261 d261_50 (lkN (by decide) (g5)) ?_
              refine xT_ifCondN p_q261 d261_52 (t := 76) (by decide) (lt) ?_
              refine xT_aload_n p_q261 d261_55 (lkN (by decide) (g0)) ?_
              refine xT_getfield p_q261 d261_56 hA rfl hM rfl h37 ?_
              refine xT_iload p_q261 d261_59 (lkN (by decide) (g6)) ?_
              refine xT_aaload p_q261 d261_61 (by decide +kernel) hst (ixN (by omega) hsl) (ixG (by omega) e1) ?_
              refine xT_icV (y := nI 1) p_q261 d261_62 (by decide) ?_
              refine xT_iaload p_q261 d261_63 hr e2 (ixN (n := 4) (by decide) e3) (ixG (by decide) (e4 1 (by decide))) ?_
              refine xT_aload_n p_q261 d261_64 (lkN (by decide) (g0)) ?_
              refine xT_getfield p_q261 d261_65 hA rfl hM rfl h37 ?_
              refine xT_iload p_q261 d261_68 (lkN (by decide) (g5)) ?_
              refine xT_aaload p_q261 d261_70 (by decide +kernel) hst (ixN (by omega) hsl) (ixG (by omega) e1') ?_
              refine xT_icV (y := nI 1) p_q261 d261_71 (by decide) ?_
              refine xT_iaload p_q261 d261_72 hr' e2' (ixN (n := 4) (by decide) e3') (ixG (by decide) (e4' 1 (by decide))) ?_
              refine xT_if_icmpY p_q261 d261_73 (t := 81) (by decide) (hc) ?_
              refine xT_iload p_q261 d261_81 (lkN (by decide) (g5)) ?_
              refine xT_istore p_q261 d261_83 (by decide) ?_
              refine xT_iinc p_q261 d261_85 (lkN (by decide) (lkN (by decide) (g6))) (by decide) ?_
              refine xT_goto p_q261 d261_88 (t := 18) (by decide) ?_
              exact b2
        · have hbb := b_bitN hl hk8 hb
          obtain ⟨b, b1, b2⟩ := ih (k + 1) (x_st (x_st (x_st (L2) 7 (.inl (nI 0))) 5 (.inl (nx))) 6 (.inl (x_bin 0 (nI k) (Int32.ofInt (1))))) nx (by omega) (lkN (by decide) (lkN (by decide) (lkN (by decide) (g0)))) (lkN (by decide) (lkN (by decide) (lkN (by decide) (g2)))) (lkN (by decide) (lkN (by decide) (lkN (by decide) (g3)))) (lkN (by decide) (lkN (by decide) (lkN (by decide) (g4)))) (lkN (by decide) (lkY)) (lkY.trans (congrArg (fun z => some (Sum.inl z)) (nI_succ k).symm)) (by
            rcases hP with ⟨p1, p2⟩ | hP
            · exact Or.inl ⟨p1, fun i hi => by
                by_cases e : i = k
                · subst e
                  exact hb
                · exact p2 i (by omega)⟩
            · exact Or.inr hP)
          refine ⟨b, b1, ?_⟩
          refine xT_iload p_q261 d261_18 (g6) ?_
          refine xT_aload_n p_q261 d261_20 (g0) ?_
          refine xT_getfield p_q261 d261_21 hA rfl hM rfl h36 ?_
          refine xT_if_icmpN p_q261 d261_24 (t := 91) (by decide) (ge) ?_
          refine xT_iload p_q261 d261_27 (g4) ?_
          refine xT_iload p_q261 d261_29 (g6) ?_
          refine xT_ishr p_q261 d261_31 ?_
          refine xT_icV (y := nI 1) p_q261 d261_32 (by decide) ?_
          refine xT_iand p_q261 d261_33 ?_
          refine xT_icV (y := nI 1) p_q261 d261_34 (by decide) ?_
          refine xT_if_icmpY p_q261 d261_35 (t := 42) (by decide) (hbb) ?_
          refine xT_icV (y := nI 0) p_q261 d261_42 (by decide) ?_
          refine xT_istore p_q261 d261_43 (by decide) ?_
          refine xT_iload p_q261 d261_45 (lkY) ?_
          refine xT_ifCondY p_q261 d261_47 (t := 81) (by decide) (by decide) ?_
          refine xT_iload p_q261 d261_81 (lkN (by decide) (g5)) ?_
          refine xT_istore p_q261 d261_83 (by decide) ?_
          refine xT_iinc p_q261 d261_85 (lkN (by decide) (lkN (by decide) (g6))) (by decide) ?_
          refine xT_goto p_q261 d261_88 (t := 18) (by decide) ?_
          exact b2
    obtain ⟨b, b1, b2⟩ := key s 0 (x_st (x_st (L) 5 (.inl (-1))) 6 (.inl (nI 0))) (-1) (by omega) (lkN (by decide) (lkN (by decide) (hL0))) (lkN (by decide) (lkN (by decide) (hL2))) (lkN (by decide) (lkN (by decide) (hL3))) (lkN (by decide) (lkN (by decide) (hL4))) (lkN (by decide) (lkY)) lkY (Or.inl ⟨rfl, fun i hi => absurd hi (Nat.not_lt_zero _)⟩)
    refine ⟨b, b1, fun h => absurd h hz, ?_⟩
    have nz : x_cmp 0 (nI left) 0 = false := decide_eq_false (nI_ne0 (by omega) (by omega))
    refine xT_iload p_q261 d261_7 (hL4) ?_
    refine xT_ifCondN p_q261 d261_9 (t := 165) (by decide) (nz) ?_
    refine xT_icV (y := -1) p_q261 d261_12 (by decide) ?_
    refine xT_istore p_q261 d261_13 (by decide) ?_
    refine xT_icV (y := nI 0) p_q261 d261_15 (by decide) ?_
    refine xT_istore p_q261 d261_16 (by decide) ?_
    exact b2
theorem m_meets0 {ot : XO Int32} {dp a s : Nat} {H : List (XC Int32)} {sx : Nat → Nat → Int32} (hS : mS H a s sx) {m : Nat} (hm : m < 2 ^ s) : ∃ b : Int32, (b = 0 ∨ b = 1) ∧ (m = 0 → b = 1) ∧ x_To x_tb x_tyl ot dp 261 0 (x_en 0 [.inr (some a), .inl (nI m)]) [] H 0 0 (some (.inl b)) H := by
  obtain ⟨b, b1, b2, b3⟩ := m_meets (ot := ot) (dp := dp) hS (m + 1) m (x_st (x_st (x_st (x_en 0 [.inr (some a), .inl (nI m)]) 2 (.inl (nI 0))) 3 (.inl (nI 0))) 4 (.inl (nI m))) (nI 0) (nI 0) (Nat.lt_succ_self _) hm (lkN (by decide) (lkN (by decide) (lkN (by decide) (rfl)))) (lkN (by decide) (lkN (by decide) (lkY))) (lkN (by decide) (lkY)) (lkY)
  refine ⟨b, b1, b2, ?_⟩
  refine xT_icV (y := nI 0) p_q261 d261_0 (by decide) ?_
  refine xT_istore_n p_q261 d261_1 (by decide) ?_
  refine xT_icV (y := nI 0) p_q261 d261_2 (by decide) ?_
  refine xT_istore_n p_q261 d261_3 (by decide) ?_
  refine xT_iload_n p_q261 d261_4 (lkN (by decide) (lkN (by decide) (rfl))) ?_
  refine xT_istore p_q261 d261_5 (by decide) ?_
  exact b3
end XMeets
