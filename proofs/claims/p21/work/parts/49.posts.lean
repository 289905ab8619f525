/-! findPosts and posts: which sets so many hands meet. -/
noncomputable section XPosts
theorem ixE {n k : Nat} {e : Int32} (he : e = nI k) (h : k < n ∧ n < 2 ^ 31) {l : List (XV Int32)} (hl : l.length = n) : (decide (e < 0) || decide (l.length ≤ e.toNatClampNeg)) = false := by
  subst he
  exact ixN h hl
theorem ixF {k : Nat} {e : Int32} (he : e = nI k) (h : k < 2 ^ 31) {l : List (XV Int32)} {u : XV Int32} (g : l[k]? = some u) : l[e.toNatClampNeg]? = some u := by
  subst he
  exact ixG h g
theorem xT_basN {tb : XT} {tyl : List FieldType} {ot : XO Int32} {dp k pc n cn sn : Nat} {q : XM} {L : List (Nat × XV Int32)} {S : List (XV Int32)} {H H2 : List (XC Int32)} {v : Option (XV Int32)} {x : Int32} {i a : Nat} {vs : List (XV Int32)} (hq : tMth tb k = some q) (hi : mC q pc = some (.bastore, n)) (h0 : x_fit dC .boolean (.inl x) = true) (h1 : H[a]? = some (.inr (1, vs))) (h2 : vs.length = 256) (h3 : i < 256) (h : x_To tb tyl ot dp k (pc + 1) L S (H.set a (.inr (1, vs.set i (.inl x)))) cn sn v H2) : x_To tb tyl ot dp k pc L (.inl x :: .inl (nI i) :: .inr (some a) :: S) H cn sn v H2 := xT_bastore hq hi h0 h1 (ixN (n := 256) (by omega) h2) (by
  rw [nI_clamp (by omega)]
  exact h)
/-- what of o isn't in m -/
def andn (o m : Nat) : Nat := o &&& (255 ^^^ m)
theorem andn_le (o m : Nat) : andn o m ≤ o := Nat.and_le_left
set_option maxRecDepth 1000000 in
theorem b_andn1 : ∀ o, o < 128 → ∀ m, m < 256 → x_bin 3 (nI o) (x_bin 5 (nI m) (-1)) = nI (andn o m) := by decide +kernel
set_option maxRecDepth 1000000 in
theorem b_andn2 : ∀ o, o < 128 → ∀ m, m < 256 → x_bin 3 (nI (128 + o)) (x_bin 5 (nI m) (-1)) = nI (andn (128 + o) m) := by decide +kernel
theorem b_andn {o m : Nat} (ho : o < 256) (hm : m < 256) : x_bin 3 (nI o) (x_bin 5 (nI m) (-1)) = nI (andn o m) := by
  by_cases h : o < 128
  · exact b_andn1 o h m hm
  · have := b_andn2 (o - 128) (by omega) m hm
    rw [show 128 + (o - 128) = o by omega] at this
    exact this
set_option maxRecDepth 100000 in
theorem b_self : ∀ m, m < 256 → andn m m = 0 ∧ andn 0 m = 0 ∧ andn m 0 = m := by decide +kernel
theorem b_shl : ∀ s, s < 9 → x_bin 6 (nI 1) (nI s) = nI (2 ^ s) ∧ 2 ^ s ≤ 256 ∧ 0 < 2 ^ s := by decide +kernel
theorem x_rcM {ot : XO Int32} {H : List (XC Int32)} {a ci : Nat} {fs : List (XV Int32)} (hA : ¬ 1000000 < a) (hM : H[a]? = some (.inl (ci, fs))) : x_rc ot H a = some ci := by
  unfold x_rc
  rw [if_neg hA, hM]
/-- the reference's table of sets: its rows are four -/
def jCn (H : List (XC Int32)) (a : Nat) (R : Nat → Nat) (vx : Nat → Nat → Int32) : Prop := ∃ fs cn cr, ¬ 1000000 < a ∧ H[a]? = some (.inl (12, fs)) ∧ fs[68]? = some (.inr (some cn)) ∧ H[cn]? = some (.inr (6, cr)) ∧ cr.length = 4 ∧ (∀ h, h < 4 → cr[h]? = some (.inr (some (R h)))) ∧ (∀ h, h < 4 → ¬ 1000000 < R h ∧ ∃ V, H[R h]? = some (.inr (1, V)) ∧ V.length = 256 ∧ ∀ i, i < 256 → V[i]? = some (.inl (vx h i))) ∧ (∀ h, h < 4 → ∀ h2, h2 < 4 → R h = R h2 → h = h2)
def jB (vx : Nat → Nat → Int32) : Prop := ∀ h, h < 4 → ∀ i, i < 256 → vx h i = 0 ∨ vx h i = 1
/-- nothing but the rows has changed -/
def jKp (R : Nat → Nat) (H H2 : List (XC Int32)) : Prop := H2.length = H.length ∧ ∀ x, (∀ h, h < 4 → x ≠ R h) → H2[x]? = H[x]?
def vup (vx : Nat → Nat → Int32) (h i : Nat) (x : Int32) : Nat → Nat → Int32 := fun h2 i2 => if h2 = h ∧ i2 = i then x else vx h2 i2
theorem mS_set {H : List (XC Int32)} {a s r : Nat} {sx : Nat → Nat → Int32} {V V2 : List (XV Int32)} (h : mS H a s sx) (hr : H[r]? = some (.inr (1, V))) : mS (H.set r (.inr (1, V2))) a s sx := by
  obtain ⟨fs, st, sr, hA, hM, h36, hs, h37, hst, hsl, hsr⟩ := h
  have ne : ∀ {x : Nat} {z : XC Int32}, H[x]? = some z → z ≠ .inr (1, V) → (H.set r (.inr (1, V2)))[x]? = some z := fun {x z} hx hz => by
    rw [List.getElem?_set_ne (fun e => hz (by
      subst e
      rw [hr] at hx
      exact (Option.some.inj hx).symm))]
    exact hx
  refine ⟨fs, st, sr, hA, ne hM (fun e => by cases e), h36, hs, h37, ne hst (fun e => by cases e), hsl, fun k hk => ?_⟩
  obtain ⟨r2, w, e1, e2, e3, e4⟩ := hsr k hk
  exact ⟨r2, w, e1, e2, ne e3 (fun e => by cases e), e4⟩
theorem jCn_set {H : List (XC Int32)} {a : Nat} {R : Nat → Nat} {vx : Nat → Nat → Int32} (hc : jCn H a R vx) {h i : Nat} (hh : h < 4) (hi : i < 256) (x : Int32) {V : List (XV Int32)} (hV : H[R h]? = some (.inr (1, V))) : jCn (H.set (R h) (.inr (1, V.set i (.inl x)))) a R (vup vx h i x) := by
  obtain ⟨fs, cn, cr, hA, hM, h68, hcn, hcl, hcr, hR, hinj⟩ := hc
  have ne : ∀ {y : Nat} {z : XC Int32}, H[y]? = some z → z ≠ .inr (1, V) → (H.set (R h) (.inr (1, V.set i (.inl x))))[y]? = some z := fun {y z} hy hz => by
    rw [List.getElem?_set_ne (fun e => hz (by
      subst e
      rw [hV] at hy
      exact (Option.some.inj hy).symm))]
    exact hy
  refine ⟨fs, cn, cr, hA, ne hM (fun e => by cases e), h68, ne hcn (fun e => by cases e), hcl, hcr, fun h2 hh2 => ⟨(hR h2 hh2).1, ?_⟩, hinj⟩
  obtain ⟨W, w1, w2, w3⟩ := (hR h2 hh2).2
  by_cases e : h2 = h
  · subst e
    rw [hV] at w1
    cases w1
    refine ⟨V.set i (.inl x), List.getElem?_set_self (List.getElem?_eq_some_iff.mp hV).1, by rw [List.length_set]; exact w2, fun i2 hi2 => ?_⟩
    unfold vup
    by_cases e2 : i2 = i
    · subst e2
      rw [if_pos ⟨rfl, rfl⟩, List.getElem?_set_self (by omega)]
    · rw [if_neg (fun z => e2 z.2), List.getElem?_set_ne (fun z => e2 z.symm)]
      exact w3 i2 hi2
  · refine ⟨W, ?_, w2, fun i2 hi2 => ?_⟩
    · rw [List.getElem?_set_ne (fun z => e (hinj h2 hh2 h hh z.symm))]
      exact w1
    · unfold vup
      rw [if_neg (fun z => e z.1)]
      exact w3 i2 hi2
theorem jKp_set {R : Nat → Nat} {H0 H : List (XC Int32)} (hk : jKp R H0 H) {h : Nat} (hh : h < 4) (z : XC Int32) : jKp R H0 (H.set (R h) z) := ⟨by rw [List.length_set]; exact hk.1, fun x hx => by
  rw [List.getElem?_set_ne (fun e => hx h hh e.symm)]
  exact hk.2 x hx⟩
theorem jB_up {vx : Nat → Nat → Int32} (hb : jB vx) {h i : Nat} {x : Int32} (hx : x = 0 ∨ x = 1) : jB (vup vx h i x) := fun h2 hh2 i2 hi2 => by
  unfold vup
  split
  · exact hx
  · exact hb h2 hh2 i2 hi2
theorem vup_ne {vx : Nat → Nat → Int32} {h i : Nat} {x : Int32} {h2 i2 : Nat} (e : ¬ (h2 = h ∧ i2 = i)) : vup vx h i x h2 i2 = vx h2 i2 := if_neg e
theorem vup_eq {vx : Nat → Nat → Int32} {h i : Nat} {x : Int32} : vup vx h i x h i = x := if_pos ⟨rfl, rfl⟩
theorem fitB {x : Int32} (h : x = 0 ∨ x = 1) : x_fit dC .boolean (.inl x) = true := by
  rcases h with rfl | rfl
  · decide +kernel
  · decide +kernel
/-- a set that so many hands meet is shared so that one hand meets its own part -/
def jQ (vx : Nat → Nat → Int32) (h m : Nat) : Prop := vx h m = 1 → ∃ o, o ≤ m ∧ andn o m = 0 ∧ vx 1 o = 1 ∧ vx (h - 1) (andn m o) = 1
def jQs (s : Nat) (vx : Nat → Nat → Int32) (h : Nat) : Prop := vx h 0 = 1 ∧ ∀ m, m < 2 ^ s → jQ vx h m
/-- what is kept: the heap's parts, all in one -/
def jI (H0 H : List (XC Int32)) (a s : Nat) (sx : Nat → Nat → Int32) (R : Nat → Nat) (vx : Nat → Nat → Int32) : Prop := mS H a s sx ∧ jCn H a R vx ∧ jB vx ∧ jKp R H0 H
theorem jI_set {H0 H : List (XC Int32)} {a s : Nat} {sx : Nat → Nat → Int32} {R : Nat → Nat} {vx : Nat → Nat → Int32} (hI : jI H0 H a s sx R vx) {h i : Nat} (hh : h < 4) (hi : i < 256) {x : Int32} (hx : x = 0 ∨ x = 1) {V : List (XV Int32)} (hV : H[R h]? = some (.inr (1, V))) : jI H0 (H.set (R h) (.inr (1, V.set i (.inl x)))) a s sx R (vup vx h i x) :=
  ⟨mS_set hI.1 hV, jCn_set hI.2.1 hh hi x hV, jB_up hI.2.2.1 hx, jKp_set hI.2.2.2 hh _⟩
set_option maxRecDepth 1000000 in
theorem p_q260 : tMth x_tb 260 = some xm260 := rfl
set_option maxRecDepth 1000000 in
theorem p_q259 : tMth x_tb 259 = some xm259 := rfl
theorem cmp_ge {a b : Nat} (h : a < b) (hb : b < 2 ^ 31) : x_cmp 3 (nI a) (nI b) = false := decide_eq_false (nI_ge h hb)
theorem cmp_geY {a b : Nat} (h : b ≤ a) (ha : a < 2 ^ 31) : x_cmp 3 (nI a) (nI b) = true := decide_eq_true (nI_le h ha)
theorem cmp_sh {n s : Nat} (hs : s ≤ 8) (h : n < 2 ^ s) : x_cmp 3 (nI n) (x_bin 6 (nI 1) (nI s)) = false := by
  obtain ⟨e1, e2, e3⟩ := b_shl s (by omega)
  rw [e1]
  exact cmp_ge h (by omega)
theorem cmp_shY {n s : Nat} (hs : s ≤ 8) (h : 2 ^ s ≤ n) (hn : n < 2 ^ 31) : x_cmp 3 (nI n) (x_bin 6 (nI 1) (nI s)) = true := by
  obtain ⟨e1, e2, e3⟩ := b_shl s (by omega)
  rw [e1]
  exact cmp_geY h hn
theorem inc_nI (n : Nat) : x_bin 0 (nI n) (Int32.ofInt (1)) = nI (n + 1) := (nI_succ n).symm
theorem cmp_ne0 {n : Nat} (h : n ≠ 0) (hn : n < 2 ^ 31) : x_cmp 1 (nI n) 0 = true := decide_eq_true (nI_ne0 (by omega) hn)
theorem cmp_sub {o m : Nat} (ho : o < 256) (hm : m < 256) : x_cmp 1 (x_bin 3 (nI o) (x_bin 5 (nI m) (-1))) 0 = !decide (andn o m = 0) := by
  rw [b_andn ho hm]
  have := andn_le o m
  by_cases h : andn o m = 0
  · rw [h, decide_eq_true rfl]
    decide
  · rw [decide_eq_false h]
    exact cmp_ne0 h (by omega)
theorem cmp_b {x : Int32} (h : x = 0 ∨ x = 1) (y : Bool) (hy : decide (x = 1) = y) : x_cmp 1 x 0 = y ∧ x_cmp 0 x 0 = !y := by
  subst hy
  rcases h with rfl | rfl
  · decide
  · decide
variable {ot : XO Int32} {dp a s : Nat} {H0 : List (XC Int32)} {sx : Nat → Nat → Int32} {R : Nat → Nat}

theorem d260_0 : mC xm260 0 = some (.iconst 0, 1) := by decide +kernel
theorem d260_1 : mC xm260 1 = some (.istore_n 2, 1) := by decide +kernel
theorem d260_2 : mC xm260 2 = some (.iload_n 2, 1) := by decide +kernel
theorem d260_3 : mC xm260 3 = some (.iconst 1, 1) := by decide +kernel
theorem d260_4 : mC xm260 4 = some (.aload_n 0, 1) := by decide +kernel
theorem d260_5 : mC xm260 5 = some (.getfield 426, 3) := by decide +kernel
theorem d260_8 : mC xm260 8 = some (.ishl, 1) := by decide +kernel
theorem d260_9 : mC xm260 9 = some (.if_icmp .ge 39, 3) := by decide +kernel
theorem d260_12 : mC xm260 12 = some (.aload_n 0, 1) := by decide +kernel
theorem d260_13 : mC xm260 13 = some (.getfield 168, 3) := by decide +kernel
theorem d260_16 : mC xm260 16 = some (.iconst 0, 1) := by decide +kernel
theorem d260_17 : mC xm260 17 = some (.aaload, 1) := by decide +kernel
theorem d260_18 : mC xm260 18 = some (.iload_n 2, 1) := by decide +kernel
theorem d260_19 : mC xm260 19 = some (.iload_n 2, 1) := by decide +kernel
theorem d260_20 : mC xm260 20 = some (.ifCond .ne 7, 3) := by decide +kernel
theorem d260_23 : mC xm260 23 = some (.iconst 1, 1) := by decide +kernel
theorem d260_24 : mC xm260 24 = some (.goto 4, 3) := by decide +kernel
theorem d260_27 : mC xm260 27 = some (.iconst 0, 1) := by decide +kernel
theorem d260_29 : mC xm260 29 = some (.aload_n 0, 1) := by decide +kernel
theorem d260_30 : mC xm260 30 = some (.getfield 168, 3) := by decide +kernel
theorem d260_33 : mC xm260 33 = some (.iconst 1, 1) := by decide +kernel
theorem d260_34 : mC xm260 34 = some (.aaload, 1) := by decide +kernel
theorem d260_35 : mC xm260 35 = some (.iload_n 2, 1) := by decide +kernel
theorem d260_36 : mC xm260 36 = some (.aload_n 0, 1) := by decide +kernel
theorem d260_37 : mC xm260 37 = some (.iload_n 2, 1) := by decide +kernel
theorem d260_42 : mC xm260 42 = some (.iinc 2 1, 3) := by decide +kernel
theorem d260_45 : mC xm260 45 = some (.goto (-43), 3) := by decide +kernel
theorem d260_48 : mC xm260 48 = some (.iconst 2, 1) := by decide +kernel
theorem d260_49 : mC xm260 49 = some (.istore_n 2, 1) := by decide +kernel
theorem d260_50 : mC xm260 50 = some (.iload_n 2, 1) := by decide +kernel
theorem d260_51 : mC xm260 51 = some (.iload_n 1, 1) := by decide +kernel
theorem d260_52 : mC xm260 52 = some (.if_icmp .gt 113, 3) := by decide +kernel
theorem d260_55 : mC xm260 55 = some (.iconst 0, 1) := by decide +kernel
theorem d260_56 : mC xm260 56 = some (.istore_n 3, 1) := by decide +kernel
theorem d260_57 : mC xm260 57 = some (.iload_n 3, 1) := by decide +kernel
theorem d260_58 : mC xm260 58 = some (.iconst 1, 1) := by decide +kernel
theorem d260_59 : mC xm260 59 = some (.aload_n 0, 1) := by decide +kernel
theorem d260_60 : mC xm260 60 = some (.getfield 426, 3) := by decide +kernel
theorem d260_63 : mC xm260 63 = some (.ishl, 1) := by decide +kernel
theorem d260_64 : mC xm260 64 = some (.if_icmp .ge 95, 3) := by decide +kernel
theorem d260_67 : mC xm260 67 = some (.aload_n 0, 1) := by decide +kernel
theorem d260_68 : mC xm260 68 = some (.getfield 168, 3) := by decide +kernel
theorem d260_71 : mC xm260 71 = some (.iload_n 2, 1) := by decide +kernel
theorem d260_72 : mC xm260 72 = some (.aaload, 1) := by decide +kernel
theorem d260_73 : mC xm260 73 = some (.iload_n 3, 1) := by decide +kernel
theorem d260_74 : mC xm260 74 = some (.iconst 0, 1) := by decide +kernel
theorem d260_76 : mC xm260 76 = some (.iload_n 3, 1) := by decide +kernel
theorem d260_77 : mC xm260 77 = some (.istore 4, 2) := by decide +kernel
theorem d260_79 : mC xm260 79 = some (.iload 4, 2) := by decide +kernel
theorem d260_81 : mC xm260 81 = some (.ifCond .lt 72, 3) := by decide +kernel
theorem d260_84 : mC xm260 84 = some (.aload_n 0, 1) := by decide +kernel
theorem d260_85 : mC xm260 85 = some (.getfield 168, 3) := by decide +kernel
theorem d260_88 : mC xm260 88 = some (.iload_n 2, 1) := by decide +kernel
theorem d260_89 : mC xm260 89 = some (.aaload, 1) := by decide +kernel
theorem d260_90 : mC xm260 90 = some (.iload_n 3, 1) := by decide +kernel
theorem d260_91 : mC xm260 91 = some (.baload, 1) := by decide +kernel
theorem d260_92 : mC xm260 92 = some (.ifCond .ne 61, 3) := by decide +kernel
theorem d260_95 : mC xm260 95 = some (.aload_n 0, 1) := by decide +kernel
theorem d260_96 : mC xm260 96 = some (.getfield 168, 3) := by decide +kernel
theorem d260_99 : mC xm260 99 = some (.iload_n 2, 1) := by decide +kernel
theorem d260_100 : mC xm260 100 = some (.aaload, 1) := by decide +kernel
theorem d260_101 : mC xm260 101 = some (.iload_n 3, 1) := by decide +kernel
theorem d260_102 : mC xm260 102 = some (.iload 4, 2) := by decide +kernel
theorem d260_104 : mC xm260 104 = some (.iload_n 3, 1) := by decide +kernel
theorem d260_105 : mC xm260 105 = some (.iconst (-1), 1) := by decide +kernel
theorem d260_106 : mC xm260 106 = some (.ixor, 1) := by decide +kernel
theorem d260_107 : mC xm260 107 = some (.iand, 1) := by decide +kernel
theorem d260_108 : mC xm260 108 = some (.ifCond .ne 37, 3) := by decide +kernel
theorem d260_111 : mC xm260 111 = some (.aload_n 0, 1) := by decide +kernel
theorem d260_112 : mC xm260 112 = some (.getfield 168, 3) := by decide +kernel
theorem d260_115 : mC xm260 115 = some (.iconst 1, 1) := by decide +kernel
theorem d260_116 : mC xm260 116 = some (.aaload, 1) := by decide +kernel
theorem d260_117 : mC xm260 117 = some (.iload 4, 2) := by decide +kernel
theorem d260_119 : mC xm260 119 = some (.baload, 1) := by decide +kernel
theorem d260_120 : mC xm260 120 = some (.ifCond .eq 25, 3) := by decide +kernel
theorem d260_123 : mC xm260 123 = some (.aload_n 0, 1) := by decide +kernel
theorem d260_124 : mC xm260 124 = some (.getfield 168, 3) := by decide +kernel
theorem d260_127 : mC xm260 127 = some (.iload_n 2, 1) := by decide +kernel
theorem d260_128 : mC xm260 128 = some (.iconst 1, 1) := by decide +kernel
theorem d260_129 : mC xm260 129 = some (.isub, 1) := by decide +kernel
theorem d260_130 : mC xm260 130 = some (.aaload, 1) := by decide +kernel
theorem d260_131 : mC xm260 131 = some (.iload_n 3, 1) := by decide +kernel
theorem d260_132 : mC xm260 132 = some (.iload 4, 2) := by decide +kernel
theorem d260_134 : mC xm260 134 = some (.iconst (-1), 1) := by decide +kernel
theorem d260_135 : mC xm260 135 = some (.ixor, 1) := by decide +kernel
theorem d260_136 : mC xm260 136 = some (.iand, 1) := by decide +kernel
theorem d260_137 : mC xm260 137 = some (.baload, 1) := by decide +kernel
theorem d260_138 : mC xm260 138 = some (.ifCond .eq 7, 3) := by decide +kernel
theorem d260_141 : mC xm260 141 = some (.iconst 1, 1) := by decide +kernel
theorem d260_142 : mC xm260 142 = some (.goto 4, 3) := by decide +kernel
theorem d260_145 : mC xm260 145 = some (.iconst 0, 1) := by decide +kernel
theorem d260_147 : mC xm260 147 = some (.iinc 4 (-1), 3) := by decide +kernel
theorem d260_150 : mC xm260 150 = some (.goto (-71), 3) := by decide +kernel
theorem d260_153 : mC xm260 153 = some (.iinc 3 1, 3) := by decide +kernel
theorem d260_156 : mC xm260 156 = some (.goto (-99), 3) := by decide +kernel
theorem d260_159 : mC xm260 159 = some (.iinc 2 1, 3) := by decide +kernel
theorem d260_162 : mC xm260 162 = some (.goto (-112), 3) := by decide +kernel
theorem d260_38 : mC xm260 38 = some (.invokevirtual 432, 3) := by decide +kernel
theorem d260_28 : mC xm260 28 = some (.bastore, 1) := by decide +kernel
theorem d260_41 : mC xm260 41 = some (.bastore, 1) := by decide +kernel
theorem d260_75 : mC xm260 75 = some (.bastore, 1) := by decide +kernel
theorem d260_146 : mC xm260 146 = some (.bastore, 1) := by decide +kernel
theorem d259_153 : mC xm259 153 = some (.ireturn, 1) := by decide +kernel
theorem d259_224 : mC xm259 224 = some (.ireturn, 1) := by decide +kernel
theorem d259_37 : mC xm259 37 = some (.iconst 0, 1) := by decide +kernel
theorem d259_38 : mC xm259 38 = some (.istore_n 3, 1) := by decide +kernel
theorem d259_39 : mC xm259 39 = some (.iconst 0, 1) := by decide +kernel
theorem d259_40 : mC xm259 40 = some (.istore 4, 2) := by decide +kernel
theorem d259_42 : mC xm259 42 = some (.iconst 0, 1) := by decide +kernel
theorem d259_43 : mC xm259 43 = some (.istore 5, 2) := by decide +kernel
theorem d259_45 : mC xm259 45 = some (.iload 5, 2) := by decide +kernel
theorem d259_47 : mC xm259 47 = some (.iconst 1, 1) := by decide +kernel
theorem d259_48 : mC xm259 48 = some (.aload_n 0, 1) := by decide +kernel
theorem d259_49 : mC xm259 49 = some (.getfield 426, 3) := by decide +kernel
theorem d259_52 : mC xm259 52 = some (.ishl, 1) := by decide +kernel
theorem d259_53 : mC xm259 53 = some (.if_icmp .ge 85, 3) := by decide +kernel
theorem d259_56 : mC xm259 56 = some (.iconst 0, 1) := by decide +kernel
theorem d259_57 : mC xm259 57 = some (.istore 6, 2) := by decide +kernel
theorem d259_59 : mC xm259 59 = some (.iconst 0, 1) := by decide +kernel
theorem d259_60 : mC xm259 60 = some (.istore 7, 2) := by decide +kernel
theorem d259_62 : mC xm259 62 = some (.iload 7, 2) := by decide +kernel
theorem d259_64 : mC xm259 64 = some (.aload_n 0, 1) := by decide +kernel
theorem d259_65 : mC xm259 65 = some (.getfield 426, 3) := by decide +kernel
theorem d259_68 : mC xm259 68 = some (.if_icmp .ge 38, 3) := by decide +kernel
theorem d259_71 : mC xm259 71 = some (.iload 6, 2) := by decide +kernel
theorem d259_73 : mC xm259 73 = some (.iload 5, 2) := by decide +kernel
theorem d259_75 : mC xm259 75 = some (.iload 7, 2) := by decide +kernel
theorem d259_77 : mC xm259 77 = some (.ishr, 1) := by decide +kernel
theorem d259_78 : mC xm259 78 = some (.iconst 1, 1) := by decide +kernel
theorem d259_79 : mC xm259 79 = some (.iand, 1) := by decide +kernel
theorem d259_80 : mC xm259 80 = some (.iconst 1, 1) := by decide +kernel
theorem d259_81 : mC xm259 81 = some (.if_icmp .ne 15, 3) := by decide +kernel
theorem d259_84 : mC xm259 84 = some (.aload_n 0, 1) := by decide +kernel
theorem d259_85 : mC xm259 85 = some (.getfield 97, 3) := by decide +kernel
theorem d259_88 : mC xm259 88 = some (.iload 7, 2) := by decide +kernel
theorem d259_90 : mC xm259 90 = some (.aaload, 1) := by decide +kernel
theorem d259_91 : mC xm259 91 = some (.iconst 3, 1) := by decide +kernel
theorem d259_92 : mC xm259 92 = some (.iaload, 1) := by decide +kernel
theorem d259_93 : mC xm259 93 = some (.goto 4, 3) := by decide +kernel
theorem d259_96 : mC xm259 96 = some (.iconst 0, 1) := by decide +kernel
theorem d259_97 : mC xm259 97 = some (.iadd, 1) := by decide +kernel
theorem d259_98 : mC xm259 98 = some (.istore 6, 2) := by decide +kernel
theorem d259_100 : mC xm259 100 = some (.iinc 7 1, 3) := by decide +kernel
theorem d259_103 : mC xm259 103 = some (.goto (-41), 3) := by decide +kernel
theorem d259_106 : mC xm259 106 = some (.aload_n 0, 1) := by decide +kernel
theorem d259_107 : mC xm259 107 = some (.getfield 168, 3) := by decide +kernel
theorem d259_110 : mC xm259 110 = some (.iload_n 1, 1) := by decide +kernel
theorem d259_111 : mC xm259 111 = some (.aaload, 1) := by decide +kernel
theorem d259_112 : mC xm259 112 = some (.iload 5, 2) := by decide +kernel
theorem d259_114 : mC xm259 114 = some (.baload, 1) := by decide +kernel
theorem d259_115 : mC xm259 115 = some (.ifCond .eq 17, 3) := by decide +kernel
theorem d259_118 : mC xm259 118 = some (.iload 6, 2) := by decide +kernel
theorem d259_120 : mC xm259 120 = some (.iload 4, 2) := by decide +kernel
theorem d259_122 : mC xm259 122 = some (.if_icmp .le 10, 3) := by decide +kernel
theorem d259_125 : mC xm259 125 = some (.iload 6, 2) := by decide +kernel
theorem d259_127 : mC xm259 127 = some (.istore 4, 2) := by decide +kernel
theorem d259_129 : mC xm259 129 = some (.iload 5, 2) := by decide +kernel
theorem d259_131 : mC xm259 131 = some (.istore_n 3, 1) := by decide +kernel
theorem d259_132 : mC xm259 132 = some (.iinc 5 1, 3) := by decide +kernel
theorem d259_135 : mC xm259 135 = some (.goto (-90), 3) := by decide +kernel
theorem d259_138 : mC xm259 138 = some (.iload_n 2, 1) := by decide +kernel
theorem d259_139 : mC xm259 139 = some (.iconst 2, 1) := by decide +kernel
theorem d259_140 : mC xm259 140 = some (.if_icmp .ge 14, 3) := by decide +kernel
theorem d259_143 : mC xm259 143 = some (.iload_n 2, 1) := by decide +kernel
theorem d259_144 : mC xm259 144 = some (.ifCond .ne 8, 3) := by decide +kernel
theorem d259_147 : mC xm259 147 = some (.iload 4, 2) := by decide +kernel
theorem d259_149 : mC xm259 149 = some (.goto 4, 3) := by decide +kernel
theorem d259_152 : mC xm259 152 = some (.iload_n 3, 1) := by decide +kernel
theorem d259_154 : mC xm259 154 = some (.iload_n 3, 1) := by decide +kernel
theorem d259_155 : mC xm259 155 = some (.istore 5, 2) := by decide +kernel
theorem d259_157 : mC xm259 157 = some (.iconst 0, 1) := by decide +kernel
theorem d259_158 : mC xm259 158 = some (.istore 6, 2) := by decide +kernel
theorem d259_160 : mC xm259 160 = some (.iload 5, 2) := by decide +kernel
theorem d259_162 : mC xm259 162 = some (.istore 7, 2) := by decide +kernel
theorem d259_164 : mC xm259 164 = some (.iload 7, 2) := by decide +kernel
theorem d259_166 : mC xm259 166 = some (.iload 5, 2) := by decide +kernel
theorem d259_168 : mC xm259 168 = some (.iconst (-1), 1) := by decide +kernel
theorem d259_169 : mC xm259 169 = some (.ixor, 1) := by decide +kernel
theorem d259_170 : mC xm259 170 = some (.iand, 1) := by decide +kernel
theorem d259_171 : mC xm259 171 = some (.ifCond .ne 37, 3) := by decide +kernel
theorem d259_174 : mC xm259 174 = some (.aload_n 0, 1) := by decide +kernel
theorem d259_175 : mC xm259 175 = some (.getfield 168, 3) := by decide +kernel
theorem d259_178 : mC xm259 178 = some (.iconst 1, 1) := by decide +kernel
theorem d259_179 : mC xm259 179 = some (.aaload, 1) := by decide +kernel
theorem d259_180 : mC xm259 180 = some (.iload 7, 2) := by decide +kernel
theorem d259_182 : mC xm259 182 = some (.baload, 1) := by decide +kernel
theorem d259_183 : mC xm259 183 = some (.ifCond .eq 25, 3) := by decide +kernel
theorem d259_186 : mC xm259 186 = some (.aload_n 0, 1) := by decide +kernel
theorem d259_187 : mC xm259 187 = some (.getfield 168, 3) := by decide +kernel
theorem d259_190 : mC xm259 190 = some (.iload_n 1, 1) := by decide +kernel
theorem d259_191 : mC xm259 191 = some (.iconst 1, 1) := by decide +kernel
theorem d259_192 : mC xm259 192 = some (.isub, 1) := by decide +kernel
theorem d259_193 : mC xm259 193 = some (.iload 6, 2) := by decide +kernel
theorem d259_195 : mC xm259 195 = some (.isub, 1) := by decide +kernel
theorem d259_196 : mC xm259 196 = some (.aaload, 1) := by decide +kernel
theorem d259_197 : mC xm259 197 = some (.iload 5, 2) := by decide +kernel
theorem d259_199 : mC xm259 199 = some (.iload 7, 2) := by decide +kernel
theorem d259_201 : mC xm259 201 = some (.iconst (-1), 1) := by decide +kernel
theorem d259_202 : mC xm259 202 = some (.ixor, 1) := by decide +kernel
theorem d259_203 : mC xm259 203 = some (.iand, 1) := by decide +kernel
theorem d259_204 : mC xm259 204 = some (.baload, 1) := by decide +kernel
theorem d259_205 : mC xm259 205 = some (.ifCond .ne 9, 3) := by decide +kernel
theorem d259_208 : mC xm259 208 = some (.iinc 7 (-1), 3) := by decide +kernel
theorem d259_211 : mC xm259 211 = some (.goto (-47), 3) := by decide +kernel
theorem d259_214 : mC xm259 214 = some (.iload 6, 2) := by decide +kernel
theorem d259_216 : mC xm259 216 = some (.iload_n 2, 1) := by decide +kernel
theorem d259_217 : mC xm259 217 = some (.iconst 2, 1) := by decide +kernel
theorem d259_218 : mC xm259 218 = some (.isub, 1) := by decide +kernel
theorem d259_219 : mC xm259 219 = some (.if_icmp .ne 6, 3) := by decide +kernel
theorem d259_222 : mC xm259 222 = some (.iload 7, 2) := by decide +kernel
theorem d259_225 : mC xm259 225 = some (.iload 5, 2) := by decide +kernel
theorem d259_227 : mC xm259 227 = some (.iload 7, 2) := by decide +kernel
theorem d259_229 : mC xm259 229 = some (.iconst (-1), 1) := by decide +kernel
theorem d259_230 : mC xm259 230 = some (.ixor, 1) := by decide +kernel
theorem d259_231 : mC xm259 231 = some (.iand, 1) := by decide +kernel
theorem d259_232 : mC xm259 232 = some (.istore 5, 2) := by decide +kernel
theorem d259_234 : mC xm259 234 = some (.iinc 6 1, 3) := by decide +kernel
theorem d259_237 : mC xm259 237 = some (.goto (-77), 3) := by decide +kernel
theorem sub1 {h : Nat} (h0 : 0 < h) (h1 : h < 2 ^ 31) : x_bin 1 (nI h) (nI 1) = nI (h - 1) := by
  obtain ⟨j, rfl⟩ : ∃ j, h = j + 1 := ⟨h - 1, by omega⟩
  exact nI_pred j
theorem dec_nI {o : Nat} (h0 : 0 < o) : x_bin 0 (nI o) (Int32.ofInt (-1)) = nI (o - 1) := by
  obtain ⟨j, rfl⟩ : ∃ j, o = j + 1 := ⟨o - 1, by omega⟩
  rw [show j + 1 - 1 = j from rfl, ← nI_pred j]
  show nI (j + 1) + Int32.ofInt (-1) = nI (j + 1) - 1
  rw [Int32.sub_eq_add_neg]
  rfl
def jL (a h n hn : Nat) (L : List (Nat × XV Int32)) : Prop := x_lk L 0 = some (.inr (some a)) ∧ x_lk L 1 = some (.inl (nI hn)) ∧ x_lk L 2 = some (.inl (nI h)) ∧ x_lk L 3 = some (.inl (nI n))
def jFx (v0 vx : Nat → Nat → Int32) (h n : Nat) : Prop := ∀ h2 i, ¬ (h2 = h ∧ i = n) → vx h2 i = v0 h2 i
theorem jQ_same {vx v2 : Nat → Nat → Int32} {h m : Nat} (e : vx h m = v2 h m) (e1 : ∀ i, vx 1 i = v2 1 i) (e2 : ∀ i, vx (h - 1) i = v2 (h - 1) i) (q : jQ v2 h m) : jQ vx h m := fun hm => by
  obtain ⟨o, q1, q2, q3, q4⟩ := q (by rw [← e]; exact hm)
  exact ⟨o, q1, q2, by rw [e1]; exact q3, by rw [e2]; exact q4⟩
set_option maxHeartbeats 8000000 in
theorem p_own {h n hn : Nat} {v0 : Nat → Nat → Int32} {Fin : Option (XV Int32) → List (XC Int32) → Prop} (h2 : 2 ≤ h) (h4 : h < 4) (hnn : n < 256)
    (kk : ∀ (L : List (Nat × XV Int32)) (H : List (XC Int32)) (vx : Nat → Nat → Int32), jI H0 H a s sx R vx → jFx v0 vx h n → jQ vx h n → (n = 0 → vx h 0 = 1) → jL a h n hn L → ∃ v H2, x_To x_tb x_tyl ot dp 260 153 L [] H 0 0 v H2 ∧ Fin v H2) :
    ∀ (j : Nat) (y : Int32) (L : List (Nat × XV Int32)) (H : List (XC Int32)) (vx : Nat → Nat → Int32), (j = 0 ∧ y = -1 ∨ ∃ o, j = o + 1 ∧ y = nI o ∧ o ≤ n) → jI H0 H a s sx R vx → jFx v0 vx h n → jQ vx h n → (n = 0 → j = 0 → vx h 0 = 1) → vx 1 0 = 1 → vx (h - 1) 0 = 1 → jL a h n hn L → x_lk L 4 = some (.inl y) → ∃ v H2, x_To x_tb x_tyl ot dp 260 79 L [] H 0 0 v H2 ∧ Fin v H2 := by
  intro j
  induction j with
  | zero =>
    intro y L H vx hy hI he hQ h0 k1 k2 hL hL4
    obtain ⟨hL0, hL1, hL2, hL3⟩ := id hL
    obtain rfl : y = -1 := by
      rcases hy with ⟨-, hy⟩ | ⟨o, ho, -⟩
      · exact hy
      · cases ho
    obtain ⟨v, H2, x, f⟩ := kk L H vx hI he hQ (fun e => h0 e rfl) hL
    refine ⟨v, H2, ?_, f⟩
    refine xT_iload p_q260 d260_79 (hL4) ?_
    refine xT_ifCondY p_q260 d260_81 (t := 153) (by decide) (by decide) ?_
    exact x
  | succ o ih =>
    intro y L H vx hy hI he hQ h0 k1 k2 hL hL4
    obtain ⟨hL0, hL1, hL2, hL3⟩ := id hL
    obtain ⟨rfl, hon⟩ : y = nI o ∧ o ≤ n := by
      rcases hy with ⟨hy, -⟩ | ⟨o2, ho, hy, hz⟩
      · cases hy
      · obtain rfl : o = o2 := by omega
        exact ⟨hy, hz⟩
    obtain ⟨fs, st, sr, hA, hM, h36, hs, h37, hst, hsl, hsr⟩ := id hI.1
    obtain ⟨fs2, cn, cr, -, hM2, h68, hcn, hcl, hcr, hRR, hinj⟩ := id hI.2.1
    obtain rfl : fs2 = fs := by
      rw [hM] at hM2
      cases hM2
      rfl
    have hRh := hRR h (by omega)
    obtain ⟨Vh, v1h, v2h, v3h⟩ := hRh.2
    have hR1 := hRR 1 (by decide)
    obtain ⟨V1, v11, v21, v31⟩ := hR1.2
    have hRm := hRR (h - 1) (by omega)
    obtain ⟨Vm, v1m, v2m, v3m⟩ := hRm.2
    by_cases h1 : vx h n = 1
    · obtain ⟨v, H2, x, f⟩ := kk L H vx hI he hQ (fun e => by subst e; exact h1) hL
      refine ⟨v, H2, ?_, f⟩
      refine xT_iload p_q260 d260_79 (hL4) ?_
      refine xT_ifCondN p_q260 d260_81 (t := 153) (by decide) (decide_eq_false (nI_pos (by omega))) ?_
      refine xT_aload_n p_q260 d260_84 (hL0) ?_
      refine xT_getfield p_q260 d260_85 hA rfl hM rfl h68 ?_
      refine xT_iload_n p_q260 d260_88 (hL2) ?_
      refine xT_aaload p_q260 d260_89 (by decide +kernel) hcn (ixN (n := 4) (by omega) hcl) (ixG (by omega) (hcr h (by omega))) ?_
      refine xT_iload_n p_q260 d260_90 (hL3) ?_
      refine xT_baload p_q260 d260_91 (hRh).1 v1h (ixN (n := 256) (by omega) v2h) (ixG (by omega) (v3h n (by omega))) ?_
      refine xT_ifCondY p_q260 d260_92 (t := 153) (by decide) ((cmp_b (hI.2.2.1 h (by omega) n (by omega)) true (decide_eq_true h1)).1) ?_
      exact x
    have step : ∀ x : Int32, (x = 0 ∨ x = 1) → (x = 1 → andn o n = 0 ∧ vx 1 o = 1 ∧ vx (h - 1) (andn n o) = 1) → (n = 0 → o = 0 → x = 1) → ∃ v H2, x_To x_tb x_tyl ot dp 260 146 L [.inl x, .inl (nI n), .inr (some (R h))] H 0 0 v H2 ∧ Fin v H2 := by
      intro x hx hw h00
      have e1 : ∀ i, vup vx h n x 1 i = vx 1 i := fun i => vup_ne (fun z => by omega)
      have e2 : ∀ i, vup vx h n x (h - 1) i = vx (h - 1) i := fun i => vup_ne (fun z => by omega)
      obtain ⟨v, H2, x2, f⟩ := ih (x_bin 0 (nI o) (Int32.ofInt (-1))) (x_st (L) 4 (.inl (x_bin 0 (nI o) (Int32.ofInt ((-1)))))) (H.set (R h) (.inr (1, Vh.set n (.inl x)))) (vup vx h n x) (by
          rcases o with _ | o
          · exact Or.inl ⟨rfl, by decide⟩
          · exact Or.inr ⟨o, rfl, dec_nI (Nat.succ_pos o), by omega⟩) (jI_set hI (by omega) hnn hx v1h) (fun h3 i z => (vup_ne z).trans (he h3 i z)) (fun hm => by
          rw [vup_eq] at hm
          obtain ⟨w1, w2, w3⟩ := hw hm
          exact ⟨o, hon, w1, (e1 o).trans w2, (e2 _).trans w3⟩) (fun e ej => by
          subst e
          exact vup_eq.trans (h00 rfl ej)) ((e1 0).trans k1) ((e2 0).trans k2) ⟨lkN (by decide) (hL0), lkN (by decide) (hL1), lkN (by decide) (hL2), lkN (by decide) (hL3)⟩ (lkY)
      refine ⟨v, H2, ?_, f⟩
      refine xT_basN p_q260 d260_146 (fitB hx) v1h v2h hnn ?_
      refine xT_iinc p_q260 d260_147 (hL4) (by decide) ?_
      refine xT_goto p_q260 d260_150 (t := 79) (by decide) ?_
      exact x2
    by_cases c1 : andn o n = 0
    rotate_left
    · obtain ⟨v, H2, x, f⟩ := step (nI 0) (Or.inl rfl) (fun z => absurd z (by decide)) (fun e1 e2 => by
        subst e1
        subst e2
        exact absurd (b_self 0 (by decide)).1 c1)
      refine ⟨v, H2, ?_, f⟩
      refine xT_iload p_q260 d260_79 (hL4) ?_
      refine xT_ifCondN p_q260 d260_81 (t := 153) (by decide) (decide_eq_false (nI_pos (by omega))) ?_
      refine xT_aload_n p_q260 d260_84 (hL0) ?_
      refine xT_getfield p_q260 d260_85 hA rfl hM rfl h68 ?_
      refine xT_iload_n p_q260 d260_88 (hL2) ?_
      refine xT_aaload p_q260 d260_89 (by decide +kernel) hcn (ixN (n := 4) (by omega) hcl) (ixG (by omega) (hcr h (by omega))) ?_
      refine xT_iload_n p_q260 d260_90 (hL3) ?_
      refine xT_baload p_q260 d260_91 (hRh).1 v1h (ixN (n := 256) (by omega) v2h) (ixG (by omega) (v3h n (by omega))) ?_
      refine xT_ifCondN p_q260 d260_92 (t := 153) (by decide) ((cmp_b (hI.2.2.1 h (by omega) n (by omega)) false (decide_eq_false h1)).1) ?_
      refine xT_aload_n p_q260 d260_95 (hL0) ?_
      refine xT_getfield p_q260 d260_96 hA rfl hM rfl h68 ?_
      refine xT_iload_n p_q260 d260_99 (hL2) ?_
      refine xT_aaload p_q260 d260_100 (by decide +kernel) hcn (ixN (n := 4) (by omega) hcl) (ixG (by omega) (hcr h (by omega))) ?_
      refine xT_iload_n p_q260 d260_101 (hL3) ?_
      refine xT_iload p_q260 d260_102 (hL4) ?_
      refine xT_iload_n p_q260 d260_104 (hL3) ?_
      refine xT_icV (y := -1) p_q260 d260_105 (by decide) ?_
      refine xT_ixor p_q260 d260_106 ?_
      refine xT_iand p_q260 d260_107 ?_
      refine xT_ifCondY p_q260 d260_108 (t := 145) (by decide) ((cmp_sub (o := o) (m := n) (by omega) (by omega)).trans (by rw [decide_eq_false c1]; rfl)) ?_
      refine xT_icV (y := nI 0) p_q260 d260_145 (by decide) ?_
      exact x
    by_cases c2 : vx 1 o = 1
    rotate_left
    · obtain ⟨v, H2, x, f⟩ := step (nI 0) (Or.inl rfl) (fun z => absurd z (by decide)) (fun e1 e2 => by
        subst e2
        exact absurd k1 c2)
      refine ⟨v, H2, ?_, f⟩
      refine xT_iload p_q260 d260_79 (hL4) ?_
      refine xT_ifCondN p_q260 d260_81 (t := 153) (by decide) (decide_eq_false (nI_pos (by omega))) ?_
      refine xT_aload_n p_q260 d260_84 (hL0) ?_
      refine xT_getfield p_q260 d260_85 hA rfl hM rfl h68 ?_
      refine xT_iload_n p_q260 d260_88 (hL2) ?_
      refine xT_aaload p_q260 d260_89 (by decide +kernel) hcn (ixN (n := 4) (by omega) hcl) (ixG (by omega) (hcr h (by omega))) ?_
      refine xT_iload_n p_q260 d260_90 (hL3) ?_
      refine xT_baload p_q260 d260_91 (hRh).1 v1h (ixN (n := 256) (by omega) v2h) (ixG (by omega) (v3h n (by omega))) ?_
      refine xT_ifCondN p_q260 d260_92 (t := 153) (by decide) ((cmp_b (hI.2.2.1 h (by omega) n (by omega)) false (decide_eq_false h1)).1) ?_
      refine xT_aload_n p_q260 d260_95 (hL0) ?_
      refine xT_getfield p_q260 d260_96 hA rfl hM rfl h68 ?_
      refine xT_iload_n p_q260 d260_99 (hL2) ?_
      refine xT_aaload p_q260 d260_100 (by decide +kernel) hcn (ixN (n := 4) (by omega) hcl) (ixG (by omega) (hcr h (by omega))) ?_
      refine xT_iload_n p_q260 d260_101 (hL3) ?_
      refine xT_iload p_q260 d260_102 (hL4) ?_
      refine xT_iload_n p_q260 d260_104 (hL3) ?_
      refine xT_icV (y := -1) p_q260 d260_105 (by decide) ?_
      refine xT_ixor p_q260 d260_106 ?_
      refine xT_iand p_q260 d260_107 ?_
      refine xT_ifCondN p_q260 d260_108 (t := 145) (by decide) ((cmp_sub (o := o) (m := n) (by omega) (by omega)).trans (by rw [decide_eq_true c1]; rfl)) ?_
      refine xT_aload_n p_q260 d260_111 (hL0) ?_
      refine xT_getfield p_q260 d260_112 hA rfl hM rfl h68 ?_
      refine xT_icV (y := nI 1) p_q260 d260_115 (by decide) ?_
      refine xT_aaload p_q260 d260_116 (by decide +kernel) hcn (ixN (n := 4) (by decide) hcl) (ixG (by decide) (hcr 1 (by decide))) ?_
      refine xT_iload p_q260 d260_117 (hL4) ?_
      refine xT_baload p_q260 d260_119 (hR1).1 v11 (ixN (n := 256) (by omega) v21) (ixG (by omega) (v31 o (by omega))) ?_
      refine xT_ifCondY p_q260 d260_120 (t := 145) (by decide) ((cmp_b (hI.2.2.1 1 (by omega) o (by omega)) false (decide_eq_false c2)).2) ?_
      refine xT_icV (y := nI 0) p_q260 d260_145 (by decide) ?_
      exact x
    by_cases c3 : vx (h - 1) (andn n o) = 1
    · obtain ⟨v, H2, x, f⟩ := step (nI 1) (Or.inr rfl) (fun _ => ⟨c1, c2, c3⟩) (fun _ _ => rfl)
      refine ⟨v, H2, ?_, f⟩
      refine xT_iload p_q260 d260_79 (hL4) ?_
      refine xT_ifCondN p_q260 d260_81 (t := 153) (by decide) (decide_eq_false (nI_pos (by omega))) ?_
      refine xT_aload_n p_q260 d260_84 (hL0) ?_
      refine xT_getfield p_q260 d260_85 hA rfl hM rfl h68 ?_
      refine xT_iload_n p_q260 d260_88 (hL2) ?_
      refine xT_aaload p_q260 d260_89 (by decide +kernel) hcn (ixN (n := 4) (by omega) hcl) (ixG (by omega) (hcr h (by omega))) ?_
      refine xT_iload_n p_q260 d260_90 (hL3) ?_
      refine xT_baload p_q260 d260_91 (hRh).1 v1h (ixN (n := 256) (by omega) v2h) (ixG (by omega) (v3h n (by omega))) ?_
      refine xT_ifCondN p_q260 d260_92 (t := 153) (by decide) ((cmp_b (hI.2.2.1 h (by omega) n (by omega)) false (decide_eq_false h1)).1) ?_
      refine xT_aload_n p_q260 d260_95 (hL0) ?_
      refine xT_getfield p_q260 d260_96 hA rfl hM rfl h68 ?_
      refine xT_iload_n p_q260 d260_99 (hL2) ?_
      refine xT_aaload p_q260 d260_100 (by decide +kernel) hcn (ixN (n := 4) (by omega) hcl) (ixG (by omega) (hcr h (by omega))) ?_
      refine xT_iload_n p_q260 d260_101 (hL3) ?_
      refine xT_iload p_q260 d260_102 (hL4) ?_
      refine xT_iload_n p_q260 d260_104 (hL3) ?_
      refine xT_icV (y := -1) p_q260 d260_105 (by decide) ?_
      refine xT_ixor p_q260 d260_106 ?_
      refine xT_iand p_q260 d260_107 ?_
      refine xT_ifCondN p_q260 d260_108 (t := 145) (by decide) ((cmp_sub (o := o) (m := n) (by omega) (by omega)).trans (by rw [decide_eq_true c1]; rfl)) ?_
      refine xT_aload_n p_q260 d260_111 (hL0) ?_
      refine xT_getfield p_q260 d260_112 hA rfl hM rfl h68 ?_
      refine xT_icV (y := nI 1) p_q260 d260_115 (by decide) ?_
      refine xT_aaload p_q260 d260_116 (by decide +kernel) hcn (ixN (n := 4) (by decide) hcl) (ixG (by decide) (hcr 1 (by decide))) ?_
      refine xT_iload p_q260 d260_117 (hL4) ?_
      refine xT_baload p_q260 d260_119 (hR1).1 v11 (ixN (n := 256) (by omega) v21) (ixG (by omega) (v31 o (by omega))) ?_
      refine xT_ifCondN p_q260 d260_120 (t := 145) (by decide) ((cmp_b (hI.2.2.1 1 (by omega) o (by omega)) true (decide_eq_true c2)).2) ?_
      refine xT_aload_n p_q260 d260_123 (hL0) ?_
      refine xT_getfield p_q260 d260_124 hA rfl hM rfl h68 ?_
      refine xT_iload_n p_q260 d260_127 (hL2) ?_
      refine xT_icV (y := nI 1) p_q260 d260_128 (by decide) ?_
      refine xT_isub p_q260 d260_129 ?_
      refine xT_aaload p_q260 d260_130 (by decide +kernel) hcn (ixE (n := 4) (sub1 (h := h) (by omega) (by omega)) (by omega) hcl) (ixF (sub1 (h := h) (by omega) (by omega)) (by omega) (hcr (h - 1) (by omega))) ?_
      refine xT_iload_n p_q260 d260_131 (hL3) ?_
      refine xT_iload p_q260 d260_132 (hL4) ?_
      refine xT_icV (y := -1) p_q260 d260_134 (by decide) ?_
      refine xT_ixor p_q260 d260_135 ?_
      refine xT_iand p_q260 d260_136 ?_
      refine xT_baload p_q260 d260_137 (hRm).1 v1m (ixE (n := 256) (b_andn (by omega) (by omega)) (by have := andn_le n o; omega) v2m) (ixF (b_andn (by omega) (by omega)) (by have := andn_le n o; omega) (v3m _ (by have := andn_le n o; omega))) ?_
      refine xT_ifCondN p_q260 d260_138 (t := 145) (by decide) ((cmp_b (hI.2.2.1 (h - 1) (by omega) (andn n o) (by have := andn_le n o; omega)) true (decide_eq_true c3)).2) ?_
      refine xT_icV (y := nI 1) p_q260 d260_141 (by decide) ?_
      refine xT_goto p_q260 d260_142 (t := 146) (by decide) ?_
      exact x
    · obtain ⟨v, H2, x, f⟩ := step (nI 0) (Or.inl rfl) (fun z => absurd z (by decide)) (fun e1 e2 => by
        subst e1
        subst e2
        rw [(b_self 0 (by decide)).1] at c3
        exact absurd k2 c3)
      refine ⟨v, H2, ?_, f⟩
      refine xT_iload p_q260 d260_79 (hL4) ?_
      refine xT_ifCondN p_q260 d260_81 (t := 153) (by decide) (decide_eq_false (nI_pos (by omega))) ?_
      refine xT_aload_n p_q260 d260_84 (hL0) ?_
      refine xT_getfield p_q260 d260_85 hA rfl hM rfl h68 ?_
      refine xT_iload_n p_q260 d260_88 (hL2) ?_
      refine xT_aaload p_q260 d260_89 (by decide +kernel) hcn (ixN (n := 4) (by omega) hcl) (ixG (by omega) (hcr h (by omega))) ?_
      refine xT_iload_n p_q260 d260_90 (hL3) ?_
      refine xT_baload p_q260 d260_91 (hRh).1 v1h (ixN (n := 256) (by omega) v2h) (ixG (by omega) (v3h n (by omega))) ?_
      refine xT_ifCondN p_q260 d260_92 (t := 153) (by decide) ((cmp_b (hI.2.2.1 h (by omega) n (by omega)) false (decide_eq_false h1)).1) ?_
      refine xT_aload_n p_q260 d260_95 (hL0) ?_
      refine xT_getfield p_q260 d260_96 hA rfl hM rfl h68 ?_
      refine xT_iload_n p_q260 d260_99 (hL2) ?_
      refine xT_aaload p_q260 d260_100 (by decide +kernel) hcn (ixN (n := 4) (by omega) hcl) (ixG (by omega) (hcr h (by omega))) ?_
      refine xT_iload_n p_q260 d260_101 (hL3) ?_
      refine xT_iload p_q260 d260_102 (hL4) ?_
      refine xT_iload_n p_q260 d260_104 (hL3) ?_
      refine xT_icV (y := -1) p_q260 d260_105 (by decide) ?_
      refine xT_ixor p_q260 d260_106 ?_
      refine xT_iand p_q260 d260_107 ?_
      refine xT_ifCondN p_q260 d260_108 (t := 145) (by decide) ((cmp_sub (o := o) (m := n) (by omega) (by omega)).trans (by rw [decide_eq_true c1]; rfl)) ?_
      refine xT_aload_n p_q260 d260_111 (hL0) ?_
      refine xT_getfield p_q260 d260_112 hA rfl hM rfl h68 ?_
      refine xT_icV (y := nI 1) p_q260 d260_115 (by decide) ?_
      refine xT_aaload p_q260 d260_116 (by decide +kernel) hcn (ixN (n := 4) (by decide) hcl) (ixG (by decide) (hcr 1 (by decide))) ?_
      refine xT_iload p_q260 d260_117 (hL4) ?_
      refine xT_baload p_q260 d260_119 (hR1).1 v11 (ixN (n := 256) (by omega) v21) (ixG (by omega) (v31 o (by omega))) ?_
      refine xT_ifCondN p_q260 d260_120 (t := 145) (by decide) ((cmp_b (hI.2.2.1 1 (by omega) o (by omega)) true (decide_eq_true c2)).2) ?_
      refine xT_aload_n p_q260 d260_123 (hL0) ?_
      refine xT_getfield p_q260 d260_124 hA rfl hM rfl h68 ?_
      refine xT_iload_n p_q260 d260_127 (hL2) ?_
      refine xT_icV (y := nI 1) p_q260 d260_128 (by decide) ?_
      refine xT_isub p_q260 d260_129 ?_
      refine xT_aaload p_q260 d260_130 (by decide +kernel) hcn (ixE (n := 4) (sub1 (h := h) (by omega) (by omega)) (by omega) hcl) (ixF (sub1 (h := h) (by omega) (by omega)) (by omega) (hcr (h - 1) (by omega))) ?_
      refine xT_iload_n p_q260 d260_131 (hL3) ?_
      refine xT_iload p_q260 d260_132 (hL4) ?_
      refine xT_icV (y := -1) p_q260 d260_134 (by decide) ?_
      refine xT_ixor p_q260 d260_135 ?_
      refine xT_iand p_q260 d260_136 ?_
      refine xT_baload p_q260 d260_137 (hRm).1 v1m (ixE (n := 256) (b_andn (by omega) (by omega)) (by have := andn_le n o; omega) v2m) (ixF (b_andn (by omega) (by omega)) (by have := andn_le n o; omega) (v3m _ (by have := andn_le n o; omega))) ?_
      refine xT_ifCondY p_q260 d260_138 (t := 145) (by decide) ((cmp_b (hI.2.2.1 (h - 1) (by omega) (andn n o) (by have := andn_le n o; omega)) false (decide_eq_false c3)).2) ?_
      refine xT_icV (y := nI 0) p_q260 d260_145 (by decide) ?_
      exact x
set_option maxHeartbeats 8000000 in
theorem p_set {h hn : Nat} {v0 : Nat → Nat → Int32} {Fin : Option (XV Int32) → List (XC Int32) → Prop} (h2 : 2 ≤ h) (h4 : h < 4) (k1 : v0 1 0 = 1) (k2 : v0 (h - 1) 0 = 1)
    (kk : ∀ (L : List (Nat × XV Int32)) (H : List (XC Int32)) (vx : Nat → Nat → Int32), jI H0 H a s sx R vx → (∀ h2 i, h2 ≠ h → vx h2 i = v0 h2 i) → jQs s vx h → x_lk L 0 = some (.inr (some a)) → x_lk L 1 = some (.inl (nI hn)) → x_lk L 2 = some (.inl (nI h)) → ∃ v H2, x_To x_tb x_tyl ot dp 260 159 L [] H 0 0 v H2 ∧ Fin v H2) :
    ∀ (j n : Nat) (L : List (Nat × XV Int32)) (H : List (XC Int32)) (vx : Nat → Nat → Int32), n + j = 2 ^ s → jI H0 H a s sx R vx → (∀ h2 i, h2 ≠ h → vx h2 i = v0 h2 i) → (∀ m, m < n → jQ vx h m) → (0 < n → vx h 0 = 1) → jL a h n hn L → ∃ v H2, x_To x_tb x_tyl ot dp 260 57 L [] H 0 0 v H2 ∧ Fin v H2 := by
  intro j
  induction j with
  | zero =>
    intro n L H vx hn2 hI he hQ h0 hL
    obtain ⟨hL0, hL1, hL2, hL3⟩ := id hL
    obtain ⟨fs, st, sr, hA, hM, h36, hs, h37, hst, hsl, hsr⟩ := id hI.1
    obtain ⟨fs2, cn, cr, -, hM2, h68, hcn, hcl, hcr, hRR, hinj⟩ := id hI.2.1
    obtain rfl : fs2 = fs := by
      rw [hM] at hM2
      cases hM2
      rfl
    obtain ⟨p1, p2, p3⟩ := b_shl s (by omega)
    obtain ⟨v, H2, x, f⟩ := kk L H vx hI he ⟨h0 (by omega), fun m hm => hQ m (by omega)⟩ hL0 hL1 hL2
    refine ⟨v, H2, ?_, f⟩
    refine xT_iload_n p_q260 d260_57 (hL3) ?_
    refine xT_icV (y := nI 1) p_q260 d260_58 (by decide) ?_
    refine xT_aload_n p_q260 d260_59 (hL0) ?_
    refine xT_getfield p_q260 d260_60 hA rfl hM rfl h36 ?_
    refine xT_ishl p_q260 d260_63 ?_
    refine xT_if_icmpY p_q260 d260_64 (t := 159) (by decide) (cmp_shY hs (by omega) (by omega)) ?_
    exact x
  | succ j ih =>
    intro n L H vx hn2 hI he hQ h0 hL
    obtain ⟨hL0, hL1, hL2, hL3⟩ := id hL
    obtain ⟨fs, st, sr, hA, hM, h36, hs, h37, hst, hsl, hsr⟩ := id hI.1
    obtain ⟨fs2, cn, cr, -, hM2, h68, hcn, hcl, hcr, hRR, hinj⟩ := id hI.2.1
    obtain rfl : fs2 = fs := by
      rw [hM] at hM2
      cases hM2
      rfl
    have hRh := hRR h (by omega)
    obtain ⟨Vh, v1h, v2h, v3h⟩ := hRh.2
    obtain ⟨p1, p2, p3⟩ := b_shl s (by omega)
    have hnn : n < 256 := by omega
    have hI1 := jI_set hI (h := h) (i := n) (by omega) hnn (x := nI 0) (Or.inl rfl) v1h
    have main := p_own (ot := ot) (dp := dp) (Fin := Fin) (v0 := vup vx h n (nI 0)) h2 h4 hnn (hn := hn) (H0 := H0) (a := a) (s := s) (sx := sx) (R := R) ?_ (n + 1) (nI n) (x_st (L) 4 (.inl (nI n))) (H.set (R h) (.inr (1, Vh.set n (.inl (nI 0))))) (vup vx h n (nI 0)) (Or.inr ⟨n, rfl, rfl, Nat.le_refl n⟩) hI1 (fun _ _ _ => rfl) (fun z => by
      rw [vup_eq] at z
      exact absurd z (by decide)) (fun _ z => by cases z) ((vup_ne (fun z => by omega)).trans ((he 1 0 (by omega)).trans k1)) ((vup_ne (fun z => by omega)).trans ((he (h - 1) 0 (by omega)).trans k2)) ⟨lkN (by decide) (hL0), lkN (by decide) (hL1), lkN (by decide) (hL2), lkN (by decide) (hL3)⟩ (lkY)
    · obtain ⟨v, H2, x, f⟩ := main
      refine ⟨v, H2, ?_, f⟩
      refine xT_iload_n p_q260 d260_57 (hL3) ?_
      refine xT_icV (y := nI 1) p_q260 d260_58 (by decide) ?_
      refine xT_aload_n p_q260 d260_59 (hL0) ?_
      refine xT_getfield p_q260 d260_60 hA rfl hM rfl h36 ?_
      refine xT_ishl p_q260 d260_63 ?_
      refine xT_if_icmpN p_q260 d260_64 (t := 159) (by decide) (cmp_sh hs (by omega)) ?_
      refine xT_aload_n p_q260 d260_67 (hL0) ?_
      refine xT_getfield p_q260 d260_68 hA rfl hM rfl h68 ?_
      refine xT_iload_n p_q260 d260_71 (hL2) ?_
      refine xT_aaload p_q260 d260_72 (by decide +kernel) hcn (ixN (n := 4) (by omega) hcl) (ixG (by omega) (hcr h (by omega))) ?_
      refine xT_iload_n p_q260 d260_73 (hL3) ?_
      refine xT_icV (y := nI 0) p_q260 d260_74 (by decide) ?_
      refine xT_basN p_q260 d260_75 (fitB (Or.inl rfl)) v1h v2h hnn ?_
      refine xT_iload_n p_q260 d260_76 (hL3) ?_
      refine xT_istore p_q260 d260_77 (by decide) ?_
      exact x
    · intro L3 H3 v3 hI3 he3 hQ3 h03 hL3'
      obtain ⟨hL0, hL1, hL2, hL3⟩ := id hL3'
      have e1 : ∀ h2 i, ¬ (h2 = h ∧ i = n) → v3 h2 i = vx h2 i := fun h2 i z => (he3 h2 i z).trans (vup_ne z)
      obtain ⟨v, H2, x, f⟩ := ih (n + 1) (x_st (L3) 3 (.inl (x_bin 0 (nI n) (Int32.ofInt (1))))) H3 v3 (by omega) hI3 (fun h2 i z => (e1 h2 i (fun y => z y.1)).trans (he h2 i z)) (fun m hm => by
          by_cases em : m = n
          · subst em
            exact hQ3
          · exact jQ_same (e1 h m (fun y => em y.2)) (fun i => e1 1 i (fun y => by omega)) (fun i => e1 (h - 1) i (fun y => by omega)) (hQ m (by omega))) (fun _ => by
          by_cases en : n = 0
          · exact h03 en
          · exact (e1 h 0 (fun y => en y.2.symm)).trans (h0 (by omega))) ⟨lkN (by decide) (hL0), lkN (by decide) (hL1), lkN (by decide) (hL2), lkY.trans (congrArg (fun z => some (Sum.inl z)) (inc_nI n))⟩
      refine ⟨v, H2, ?_, f⟩
      refine xT_iinc p_q260 d260_153 (hL3) (by decide) ?_
      refine xT_goto p_q260 d260_156 (t := 57) (by decide) ?_
      exact x
def jFn (H0 : List (XC Int32)) (a s hn : Nat) (sx : Nat → Nat → Int32) (R : Nat → Nat) (v : Option (XV Int32)) (H2 : List (XC Int32)) : Prop := v = none ∧ ∃ vx, jI H0 H2 a s sx R vx ∧ vx 0 0 = 1 ∧ vx 1 0 = 1 ∧ ∀ h, 2 ≤ h → h ≤ hn → jQs s vx h
theorem d260_165 : mC xm260 165 = some (.return_, 1) := by decide +kernel
set_option maxHeartbeats 8000000 in
theorem p_h {hn : Nat} (hh : hn < 4) : ∀ (j h : Nat) (L : List (Nat × XV Int32)) (H : List (XC Int32)) (vx : Nat → Nat → Int32), h + j = hn + 1 → 2 ≤ h → jI H0 H a s sx R vx → vx 0 0 = 1 → vx 1 0 = 1 → (∀ h2, 2 ≤ h2 → h2 < h → jQs s vx h2) → x_lk L 0 = some (.inr (some a)) → x_lk L 1 = some (.inl (nI hn)) → x_lk L 2 = some (.inl (nI h)) → ∃ v H2, x_To x_tb x_tyl ot dp 260 50 L [] H 0 0 v H2 ∧ jFn H0 a s hn sx R v H2 := by
  intro j
  induction j with
  | zero =>
    intro h L H vx hj h2 hI z0 z1 hQ hL0 hL1 hL2
    refine ⟨none, H, ?_, rfl, vx, hI, z0, z1, fun h3 y1 y2 => hQ h3 y1 (by omega)⟩
    refine xT_iload_n p_q260 d260_50 (hL2) ?_
    refine xT_iload_n p_q260 d260_51 (hL1) ?_
    refine xT_if_icmpY p_q260 d260_52 (t := 165) (by decide) (decide_eq_true (nI_lt (by omega) (by omega))) ?_
    exact xT_return_ p_q260 d260_165 (by decide +kernel)
  | succ j ih =>
    intro h L H vx hj h2 hI z0 z1 hQ hL0 hL1 hL2
    have hp : 0 < 2 ^ s := Nat.two_pow_pos s
    have main := p_set (ot := ot) (dp := dp) (Fin := jFn H0 a s hn sx R) (v0 := vx) (h := h) (hn := hn) (H0 := H0) (a := a) (s := s) (sx := sx) (R := R) h2 (by omega) z1 (by
      by_cases e : h = 2
      · subst e
        exact z1
      · exact (hQ (h - 1) (by omega) (by omega)).1) ?_ (2 ^ s) 0 (x_st (L) 3 (.inl (nI 0))) H vx (by omega) hI (fun _ _ _ => rfl) (fun m hm => absurd hm (Nat.not_lt_zero _)) (fun z => absurd z (Nat.lt_irrefl _)) ⟨lkN (by decide) (hL0), lkN (by decide) (hL1), lkN (by decide) (hL2), lkY⟩
    · obtain ⟨v, H2, x, f⟩ := main
      refine ⟨v, H2, ?_, f⟩
      refine xT_iload_n p_q260 d260_50 (hL2) ?_
      refine xT_iload_n p_q260 d260_51 (hL1) ?_
      refine xT_if_icmpN p_q260 d260_52 (t := 165) (by decide) (decide_eq_false (nI_nlt (by omega) (by omega))) ?_
      refine xT_icV (y := nI 0) p_q260 d260_55 (by decide) ?_
      refine xT_istore_n p_q260 d260_56 (by decide) ?_
      exact x
    · intro L3 H3 v3 hI3 he3 hQ3 hL0 hL1 hL2
      obtain ⟨v, H2, x, f⟩ := ih (h + 1) (x_st (L3) 2 (.inl (x_bin 0 (nI h) (Int32.ofInt (1))))) H3 v3 (by omega) (by omega) hI3 ((he3 0 0 (by omega)).trans z0) ((he3 1 0 (by omega)).trans z1) (fun h3 y1 y2 => by
          by_cases e : h3 = h
          · subst e
            exact hQ3
          · obtain ⟨w1, w2⟩ := hQ h3 y1 (by omega)
            exact ⟨(he3 h3 0 e).trans w1, fun m hm => jQ_same (he3 h3 m e) (fun i => he3 1 i (by omega)) (fun i => he3 (h3 - 1) i (by omega)) (w2 m hm)⟩) (lkN (by decide) (hL0)) (lkN (by decide) (hL1)) (lkY.trans (congrArg (fun z => some (Sum.inl z)) (inc_nI h)))
      refine ⟨v, H2, ?_, f⟩
      refine xT_iinc p_q260 d260_159 (hL2) (by decide) ?_
      refine xT_goto p_q260 d260_162 (t := 50) (by decide) ?_
      exact x

set_option maxHeartbeats 8000000 in
theorem p_one {hn : Nat} (hh : hn < 4) (hh1 : 1 ≤ hn) : ∀ (j n : Nat) (L : List (Nat × XV Int32)) (H : List (XC Int32)) (vx : Nat → Nat → Int32), n + j = 2 ^ s → jI H0 H a s sx R vx → (0 < n → vx 0 0 = 1 ∧ vx 1 0 = 1) → x_lk L 0 = some (.inr (some a)) → x_lk L 1 = some (.inl (nI hn)) → x_lk L 2 = some (.inl (nI n)) → ∃ v H2, x_To x_tb x_tyl ot (dp + 1) 260 2 L [] H 0 0 v H2 ∧ jFn H0 a s hn sx R v H2 := by
  intro j
  induction j with
  | zero =>
    intro n L H vx hj hI hz hL0 hL1 hL2
    obtain ⟨fs, st, sr, hA, hM, h36, hs, h37, hst, hsl, hsr⟩ := id hI.1
    obtain ⟨fs2, cn, cr, -, hM2, h68, hcn, hcl, hcr, hRR, hinj⟩ := id hI.2.1
    obtain rfl : fs2 = fs := by
      rw [hM] at hM2
      cases hM2
      rfl
    obtain ⟨p1, p2, p3⟩ := b_shl s (by omega)
    obtain ⟨z0, z1⟩ := hz (by omega)
    obtain ⟨v, H2, x, f⟩ := p_h (ot := ot) (dp := dp + 1) hh (hn - 1) 2 (x_st (L) 2 (.inl (nI 2))) H vx (by omega) (Nat.le_refl 2) hI z0 z1 (fun h3 y1 y2 => by omega) (lkN (by decide) (hL0)) (lkN (by decide) (hL1)) (lkY)
    refine ⟨v, H2, ?_, f⟩
    refine xT_iload_n p_q260 d260_2 (hL2) ?_
    refine xT_icV (y := nI 1) p_q260 d260_3 (by decide) ?_
    refine xT_aload_n p_q260 d260_4 (hL0) ?_
    refine xT_getfield p_q260 d260_5 hA rfl hM rfl h36 ?_
    refine xT_ishl p_q260 d260_8 ?_
    refine xT_if_icmpY p_q260 d260_9 (t := 48) (by decide) (cmp_shY hs (by omega) (by omega)) ?_
    refine xT_icV (y := nI 2) p_q260 d260_48 (by decide) ?_
    refine xT_istore_n p_q260 d260_49 (by decide) ?_
    exact x
  | succ j ih =>
    intro n L H vx hj hI hz hL0 hL1 hL2
    have go : ∀ (x0 : Int32) (V0 : List (XV Int32)), (x0 = 0 ∨ x0 = 1) → (n = 0 → x0 = 1) → H[R 0]? = some (.inr (1, V0)) → n < 256 → ∃ v H2, x_To x_tb x_tyl ot (dp + 1) 260 29 L [] (H.set (R 0) (.inr (1, V0.set n (.inl x0)))) 0 0 v H2 ∧ jFn H0 a s hn sx R v H2 := by
      intro x0 V0 hx0 hn0 hV0 hnn
      have hI := jI_set hI (h := 0) (i := n) (by decide) hnn hx0 hV0
      generalize H.set (R 0) (.inr (1, V0.set n (.inl x0))) = H at hI
      obtain ⟨fs, st, sr, hA, hM, h36, hs, h37, hst, hsl, hsr⟩ := id hI.1
      obtain ⟨fs2, cn, cr, -, hM2, h68, hcn, hcl, hcr, hRR, hinj⟩ := id hI.2.1
      obtain rfl : fs2 = fs := by
        rw [hM] at hM2
        cases hM2
        rfl
      have hR1 := hRR 1 (by decide)
      obtain ⟨V1, v11, v21, v31⟩ := hR1.2
      obtain ⟨b, b1, b2, b3⟩ := m_meets0 (ot := ot) (dp := dp) hI.1 (m := n) (by omega)
      obtain ⟨v, H2, x, f⟩ := ih (n + 1) (x_st (L) 2 (.inl (x_bin 0 (nI n) (Int32.ofInt (1))))) (H.set (R 1) (.inr (1, V1.set n (.inl b)))) (vup (vup vx 0 n x0) 1 n b) (by omega) (jI_set hI (h := 1) (i := n) (by decide) hnn b1 v11) (fun _ => by
          by_cases en : n = 0
          · subst en
            exact ⟨(vup_ne (fun z => by omega)).trans (vup_eq.trans (hn0 rfl)), vup_eq.trans (b2 rfl)⟩
          · obtain ⟨z0, z1⟩ := hz (by omega)
            exact ⟨(vup_ne (fun z => by omega)).trans ((vup_ne (fun z => by omega)).trans z0), (vup_ne (fun z => by omega)).trans ((vup_ne (fun z => by omega)).trans z1)⟩) (lkN (by decide) (hL0)) (lkN (by decide) (hL1)) (lkY.trans (congrArg (fun z => some (Sum.inl z)) (inc_nI n)))
      refine ⟨v, H2, ?_, f⟩
      refine xT_aload_n p_q260 d260_29 (hL0) ?_
      refine xT_getfield p_q260 d260_30 hA rfl hM rfl h68 ?_
      refine xT_icV (y := nI 1) p_q260 d260_33 (by decide) ?_
      refine xT_aaload p_q260 d260_34 (by decide +kernel) hcn (ixN (n := 4) (by decide) hcl) (ixG (by decide) (hcr 1 (by decide))) ?_
      refine xT_iload_n p_q260 d260_35 (hL2) ?_
      refine xT_aload_n p_q260 d260_36 (hL0) ?_
      refine xT_iload_n p_q260 d260_37 (hL2) ?_
      refine xT_invokevirtual p_q260 d260_38 (j := 261) (so := 0) (r := [.inl (nI n), .inr (some (R 1))]) (by decide +kernel) p_q261 rfl (by
        rw [x_rcM hA hM]
        rfl) b3 ?_
      refine xT_basN p_q260 d260_41 (fitB b1) v11 v21 hnn ?_
      refine xT_iinc p_q260 d260_42 (hL2) (by decide) ?_
      refine xT_goto p_q260 d260_45 (t := 2) (by decide) ?_
      exact x
    obtain ⟨fs, st, sr, hA, hM, h36, hs, h37, hst, hsl, hsr⟩ := id hI.1
    obtain ⟨fs2, cn, cr, -, hM2, h68, hcn, hcl, hcr, hRR, hinj⟩ := id hI.2.1
    obtain rfl : fs2 = fs := by
      rw [hM] at hM2
      cases hM2
      rfl
    have hR0 := hRR 0 (by decide)
    obtain ⟨V0, v10, v20, v30⟩ := hR0.2
    obtain ⟨p1, p2, p3⟩ := b_shl s (by omega)
    by_cases hz : n = 0
    · subst hz
      obtain ⟨v, H2, x, f⟩ := go (nI 1) V0 (Or.inr rfl) (fun _ => rfl) v10 (by omega)
      refine ⟨v, H2, ?_, f⟩
      refine xT_iload_n p_q260 d260_2 (hL2) ?_
      refine xT_icV (y := nI 1) p_q260 d260_3 (by decide) ?_
      refine xT_aload_n p_q260 d260_4 (hL0) ?_
      refine xT_getfield p_q260 d260_5 hA rfl hM rfl h36 ?_
      refine xT_ishl p_q260 d260_8 ?_
      refine xT_if_icmpN p_q260 d260_9 (t := 48) (by decide) (cmp_sh hs (by omega)) ?_
      refine xT_aload_n p_q260 d260_12 (hL0) ?_
      refine xT_getfield p_q260 d260_13 hA rfl hM rfl h68 ?_
      refine xT_icV (y := nI 0) p_q260 d260_16 (by decide) ?_
      refine xT_aaload p_q260 d260_17 (by decide +kernel) hcn (ixN (n := 4) (by decide) hcl) (ixG (by decide) (hcr 0 (by decide))) ?_
      refine xT_iload_n p_q260 d260_18 (hL2) ?_
      refine xT_iload_n p_q260 d260_19 (hL2) ?_
      refine xT_ifCondN p_q260 d260_20 (t := 27) (by decide) ((by decide)) ?_
      refine xT_icV (y := nI 1) p_q260 d260_23 (by decide) ?_
      refine xT_goto p_q260 d260_24 (t := 28) (by decide) ?_
      exact xT_basN p_q260 d260_28 (fitB (Or.inr rfl)) v10 v20 (by omega) x
    · obtain ⟨v, H2, x, f⟩ := go (nI 0) V0 (Or.inl rfl) (fun z => absurd z hz) v10 (by omega)
      refine ⟨v, H2, ?_, f⟩
      refine xT_iload_n p_q260 d260_2 (hL2) ?_
      refine xT_icV (y := nI 1) p_q260 d260_3 (by decide) ?_
      refine xT_aload_n p_q260 d260_4 (hL0) ?_
      refine xT_getfield p_q260 d260_5 hA rfl hM rfl h36 ?_
      refine xT_ishl p_q260 d260_8 ?_
      refine xT_if_icmpN p_q260 d260_9 (t := 48) (by decide) (cmp_sh hs (by omega)) ?_
      refine xT_aload_n p_q260 d260_12 (hL0) ?_
      refine xT_getfield p_q260 d260_13 hA rfl hM rfl h68 ?_
      refine xT_icV (y := nI 0) p_q260 d260_16 (by decide) ?_
      refine xT_aaload p_q260 d260_17 (by decide +kernel) hcn (ixN (n := 4) (by decide) hcl) (ixG (by decide) (hcr 0 (by decide))) ?_
      refine xT_iload_n p_q260 d260_18 (hL2) ?_
      refine xT_iload_n p_q260 d260_19 (hL2) ?_
      refine xT_ifCondY p_q260 d260_20 (t := 27) (by decide) (cmp_ne0 hz (by omega)) ?_
      refine xT_icV (y := nI 0) p_q260 d260_27 (by decide) ?_
      exact xT_basN p_q260 d260_28 (fitB (Or.inl rfl)) v10 v20 (by omega) x
theorem m_find {hn : Nat} {H : List (XC Int32)} {vx : Nat → Nat → Int32} (hh : hn < 4) (hh1 : 1 ≤ hn) (hI : jI H0 H a s sx R vx) : ∃ v H2, x_To x_tb x_tyl ot (dp + 1) 260 0 (x_en 0 [.inr (some a), .inl (nI hn)]) [] H 0 0 v H2 ∧ jFn H0 a s hn sx R v H2 := by
  obtain ⟨v, H2, x, f⟩ := p_one (ot := ot) (dp := dp) hh hh1 (2 ^ s) 0 (x_st (x_en 0 [.inr (some a), .inl (nI hn)]) 2 (.inl (nI 0))) H vx (by omega) hI (fun z => absurd z (Nat.lt_irrefl _)) (lkN (by decide) (rfl)) (lkN (by decide) (rfl)) (lkY)
  refine ⟨v, H2, ?_, f⟩
  refine xT_icV (y := nI 0) p_q260 d260_0 (by decide) ?_
  refine xT_istore_n p_q260 d260_1 (by decide) ?_
  exact x
/-! posts. -/
theorem sub2 {hn h : Nat} (h1 : h + 1 ≤ hn) (h2 : hn < 2 ^ 31) : x_bin 1 (x_bin 1 (nI hn) (nI 1)) (nI h) = nI (hn - 1 - h) := by
  rw [sub1 (by omega) h2]
  obtain ⟨d, e⟩ : ∃ d, hn - 1 = d + h := ⟨hn - 1 - h, by omega⟩
  rw [show hn - 1 - h = d by omega, e, ← nI_add]
  show nI d + nI h - nI h = nI d
  rw [Int32.add_sub_cancel]
theorem sub3 {w : Nat} (h : 2 ≤ w) : x_bin 1 (nI w) (nI 2) = nI (w - 2) := by
  obtain ⟨d, rfl⟩ : ∃ d, w = d + 2 := ⟨w - 2, by omega⟩
  rw [show d + 2 - 2 = d from rfl, ← nI_add]
  show nI d + nI 2 - nI 2 = nI d
  rw [Int32.add_sub_cancel]
def jP (a hn wh b n : Nat) (mo : Int32) (L : List (Nat × XV Int32)) : Prop := x_lk L 0 = some (.inr (some a)) ∧ x_lk L 1 = some (.inl (nI hn)) ∧ x_lk L 2 = some (.inl (nI wh)) ∧ x_lk L 3 = some (.inl (nI b)) ∧ x_lk L 4 = some (.inl mo) ∧ x_lk L 5 = some (.inl (nI n))

set_option maxHeartbeats 8000000 in
theorem p_sum {hn wh b n : Nat} {mo : Int32} {H : List (XC Int32)} {vx : Nat → Nat → Int32} (hI : jI H0 H a s sx R vx) (hnn : n < 256)
    (kk : ∀ (L : List (Nat × XV Int32)) (u : Int32), jP a hn wh b n mo L → x_lk L 6 = some (.inl u) → ∃ r : Int32, x_To x_tb x_tyl ot dp 259 106 L [] H 0 0 (some (.inl r)) H) :
    ∀ (j k : Nat) (L : List (Nat × XV Int32)) (u : Int32), k + j = s → jP a hn wh b n mo L → x_lk L 6 = some (.inl u) → x_lk L 7 = some (.inl (nI k)) → ∃ r : Int32, x_To x_tb x_tyl ot dp 259 62 L [] H 0 0 (some (.inl r)) H := by
  obtain ⟨fs, st, sr, hA, hM, h36, hs, h37, hst, hsl, hsr⟩ := id hI.1
  obtain ⟨fs2, cn, cr, -, hM2, h68, hcn, hcl, hcr, hRR, hinj⟩ := id hI.2.1
  obtain rfl : fs2 = fs := by
    rw [hM] at hM2
    cases hM2
    rfl
  intro j
  induction j with
  | zero =>
    intro k L u hj hP hL6 hL7
    obtain ⟨hL0, hL1, hL2, hL3, hL4, hL5⟩ := id hP
    obtain ⟨r, x⟩ := kk L u hP hL6
    refine ⟨r, ?_⟩
    refine xT_iload p_q259 d259_62 (hL7) ?_
    refine xT_aload_n p_q259 d259_64 (hL0) ?_
    refine xT_getfield p_q259 d259_65 hA rfl hM rfl h36 ?_
    refine xT_if_icmpY p_q259 d259_68 (t := 106) (by decide) (cmp_geY (by omega) (by omega)) ?_
    exact x
  | succ j ih =>
    intro k L u hj hP hL6 hL7
    obtain ⟨hL0, hL1, hL2, hL3, hL4, hL5⟩ := id hP
    have nx : ∀ {L2 : List (Nat × XV Int32)}, x_lk (x_st L2 7 (.inl (x_bin 0 (nI k) (Int32.ofInt (1))))) 7 = some (.inl (nI (k + 1))) := lkY.trans (congrArg (fun z => some (Sum.inl z)) (inc_nI k))
    by_cases hb : (n >>> k) &&& 1 = 1
    · obtain ⟨r1, v, hr, e1, e2, e3, e4⟩ := hsr k (by omega)
      obtain ⟨r, x⟩ := ih (k + 1) (x_st (x_st (L) 6 (.inl (x_bin 0 (u) (sx k 3)))) 7 (.inl (x_bin 0 (nI k) (Int32.ofInt (1))))) _ (by omega) ⟨lkN (by decide) (lkN (by decide) (hL0)), lkN (by decide) (lkN (by decide) (hL1)), lkN (by decide) (lkN (by decide) (hL2)), lkN (by decide) (lkN (by decide) (hL3)), lkN (by decide) (lkN (by decide) (hL4)), lkN (by decide) (lkN (by decide) (hL5))⟩ (lkN (by decide) (lkY)) nx
      refine ⟨r, ?_⟩
      refine xT_iload p_q259 d259_62 (hL7) ?_
      refine xT_aload_n p_q259 d259_64 (hL0) ?_
      refine xT_getfield p_q259 d259_65 hA rfl hM rfl h36 ?_
      refine xT_if_icmpN p_q259 d259_68 (t := 106) (by decide) (cmp_ge (by omega) (by omega)) ?_
      refine xT_iload p_q259 d259_71 (hL6) ?_
      refine xT_iload p_q259 d259_73 (hL5) ?_
      refine xT_iload p_q259 d259_75 (hL7) ?_
      refine xT_ishr p_q259 d259_77 ?_
      refine xT_icV (y := nI 1) p_q259 d259_78 (by decide) ?_
      refine xT_iand p_q259 d259_79 ?_
      refine xT_icV (y := nI 1) p_q259 d259_80 (by decide) ?_
      refine xT_if_icmpN p_q259 d259_81 (t := 96) (by decide) (b_bitY (by omega) (by omega) hb) ?_
      refine xT_aload_n p_q259 d259_84 (hL0) ?_
      refine xT_getfield p_q259 d259_85 hA rfl hM rfl h37 ?_
      refine xT_iload p_q259 d259_88 (hL7) ?_
      refine xT_aaload p_q259 d259_90 (by decide +kernel) hst (ixN (by omega) hsl) (ixG (by omega) e1) ?_
      refine xT_icV (y := nI 3) p_q259 d259_91 (by decide) ?_
      refine xT_iaload p_q259 d259_92 hr e2 (ixN (n := 4) (by decide) e3) (ixG (by decide) (e4 3 (by decide))) ?_
      refine xT_goto p_q259 d259_93 (t := 97) (by decide) ?_
      refine xT_iadd p_q259 d259_97 ?_
      refine xT_istore p_q259 d259_98 (by decide) ?_
      refine xT_iinc p_q259 d259_100 (lkN (by decide) (hL7)) (by decide) ?_
      refine xT_goto p_q259 d259_103 (t := 62) (by decide) ?_
      exact x
    · obtain ⟨r, x⟩ := ih (k + 1) (x_st (x_st (L) 6 (.inl (x_bin 0 (u) (nI 0)))) 7 (.inl (x_bin 0 (nI k) (Int32.ofInt (1))))) _ (by omega) ⟨lkN (by decide) (lkN (by decide) (hL0)), lkN (by decide) (lkN (by decide) (hL1)), lkN (by decide) (lkN (by decide) (hL2)), lkN (by decide) (lkN (by decide) (hL3)), lkN (by decide) (lkN (by decide) (hL4)), lkN (by decide) (lkN (by decide) (hL5))⟩ (lkN (by decide) (lkY)) nx
      refine ⟨r, ?_⟩
      refine xT_iload p_q259 d259_62 (hL7) ?_
      refine xT_aload_n p_q259 d259_64 (hL0) ?_
      refine xT_getfield p_q259 d259_65 hA rfl hM rfl h36 ?_
      refine xT_if_icmpN p_q259 d259_68 (t := 106) (by decide) (cmp_ge (by omega) (by omega)) ?_
      refine xT_iload p_q259 d259_71 (hL6) ?_
      refine xT_iload p_q259 d259_73 (hL5) ?_
      refine xT_iload p_q259 d259_75 (hL7) ?_
      refine xT_ishr p_q259 d259_77 ?_
      refine xT_icV (y := nI 1) p_q259 d259_78 (by decide) ?_
      refine xT_iand p_q259 d259_79 ?_
      refine xT_icV (y := nI 1) p_q259 d259_80 (by decide) ?_
      refine xT_if_icmpY p_q259 d259_81 (t := 96) (by decide) (b_bitN (by omega) (by omega) hb) ?_
      refine xT_icV (y := nI 0) p_q259 d259_96 (by decide) ?_
      refine xT_iadd p_q259 d259_97 ?_
      refine xT_istore p_q259 d259_98 (by decide) ?_
      refine xT_iinc p_q259 d259_100 (lkN (by decide) (hL7)) (by decide) ?_
      refine xT_goto p_q259 d259_103 (t := 62) (by decide) ?_
      exact x
set_option maxHeartbeats 8000000 in
theorem p_best {hn wh : Nat} {H : List (XC Int32)} {vx : Nat → Nat → Int32} (hI : jI H0 H a s sx R vx) (hh : hn < 4)
    (kk : ∀ (L : List (Nat × XV Int32)) (b : Nat) (mo : Int32), b < 2 ^ s → vx hn b = 1 → x_lk L 0 = some (.inr (some a)) → x_lk L 1 = some (.inl (nI hn)) → x_lk L 2 = some (.inl (nI wh)) → x_lk L 3 = some (.inl (nI b)) → x_lk L 4 = some (.inl mo) → ∃ r : Int32, x_To x_tb x_tyl ot dp 259 138 L [] H 0 0 (some (.inl r)) H) :
    ∀ (j n : Nat) (L : List (Nat × XV Int32)) (b : Nat) (mo : Int32), n + j = 2 ^ s → b < 2 ^ s → vx hn b = 1 → jP a hn wh b n mo L → ∃ r : Int32, x_To x_tb x_tyl ot dp 259 45 L [] H 0 0 (some (.inl r)) H := by
  obtain ⟨fs, st, sr, hA, hM, h36, hs, h37, hst, hsl, hsr⟩ := id hI.1
  obtain ⟨fs2, cn, cr, -, hM2, h68, hcn, hcl, hcr, hRR, hinj⟩ := id hI.2.1
  obtain rfl : fs2 = fs := by
    rw [hM] at hM2
    cases hM2
    rfl
  obtain ⟨p1, p2, p3⟩ := b_shl s (by omega)
  have hRh := hRR hn (by omega)
  obtain ⟨Vh, v1h, v2h, v3h⟩ := hRh.2
  intro j
  induction j with
  | zero =>
    intro n L b mo hj hb1 hb2 hP
    obtain ⟨hL0, hL1, hL2, hL3, hL4, hL5⟩ := id hP
    obtain ⟨r, x⟩ := kk L b mo hb1 hb2 hL0 hL1 hL2 hL3 hL4
    refine ⟨r, ?_⟩
    refine xT_iload p_q259 d259_45 (hL5) ?_
    refine xT_icV (y := nI 1) p_q259 d259_47 (by decide) ?_
    refine xT_aload_n p_q259 d259_48 (hL0) ?_
    refine xT_getfield p_q259 d259_49 hA rfl hM rfl h36 ?_
    refine xT_ishl p_q259 d259_52 ?_
    refine xT_if_icmpY p_q259 d259_53 (t := 138) (by decide) (cmp_shY hs (by omega) (by omega)) ?_
    exact x
  | succ j ih =>
    intro n L b mo hj hb1 hb2 hP
    obtain ⟨hL0, hL1, hL2, hL3, hL4, hL5⟩ := id hP
    have main := p_sum (ot := ot) (dp := dp) (n := n) (hn := hn) (wh := wh) (b := b) (mo := mo) hI (by omega) ?_ s 0 (x_st (x_st (L) 6 (.inl (nI 0))) 7 (.inl (nI 0))) (nI 0) (by omega) ⟨lkN (by decide) (lkN (by decide) (hL0)), lkN (by decide) (lkN (by decide) (hL1)), lkN (by decide) (lkN (by decide) (hL2)), lkN (by decide) (lkN (by decide) (hL3)), lkN (by decide) (lkN (by decide) (hL4)), lkN (by decide) (lkN (by decide) (hL5))⟩ (lkN (by decide) (lkY)) (lkY)
    · obtain ⟨r, x⟩ := main
      refine ⟨r, ?_⟩
      refine xT_iload p_q259 d259_45 (hL5) ?_
      refine xT_icV (y := nI 1) p_q259 d259_47 (by decide) ?_
      refine xT_aload_n p_q259 d259_48 (hL0) ?_
      refine xT_getfield p_q259 d259_49 hA rfl hM rfl h36 ?_
      refine xT_ishl p_q259 d259_52 ?_
      refine xT_if_icmpN p_q259 d259_53 (t := 138) (by decide) (cmp_sh hs (by omega)) ?_
      refine xT_icV (y := nI 0) p_q259 d259_56 (by decide) ?_
      refine xT_istore p_q259 d259_57 (by decide) ?_
      refine xT_icV (y := nI 0) p_q259 d259_59 (by decide) ?_
      refine xT_istore p_q259 d259_60 (by decide) ?_
      exact x
    · intro L u hP hL6
      obtain ⟨hL0, hL1, hL2, hL3, hL4, hL5⟩ := id hP
      by_cases c1 : vx hn n = 1
      rotate_left
      · obtain ⟨r, x⟩ := ih (n + 1) (x_st (L) 5 (.inl (x_bin 0 (nI n) (Int32.ofInt (1))))) b mo (by omega) hb1 hb2 ⟨lkN (by decide) (hL0), lkN (by decide) (hL1), lkN (by decide) (hL2), lkN (by decide) (hL3), lkN (by decide) (hL4), lkY.trans (congrArg (fun z => some (Sum.inl z)) (inc_nI n))⟩
        refine ⟨r, ?_⟩
        refine xT_aload_n p_q259 d259_106 (hL0) ?_
        refine xT_getfield p_q259 d259_107 hA rfl hM rfl h68 ?_
        refine xT_iload_n p_q259 d259_110 (hL1) ?_
        refine xT_aaload p_q259 d259_111 (by decide +kernel) hcn (ixN (n := 4) (by omega) hcl) (ixG (by omega) (hcr hn (by omega))) ?_
        refine xT_iload p_q259 d259_112 (hL5) ?_
        refine xT_baload p_q259 d259_114 (hRh).1 v1h (ixN (n := 256) (by omega) v2h) (ixG (by omega) (v3h n (by omega))) ?_
        refine xT_ifCondY p_q259 d259_115 (t := 132) (by decide) ((cmp_b (hI.2.2.1 hn (by omega) n (by omega)) false (decide_eq_false c1)).2) ?_
        refine xT_iinc p_q259 d259_132 (hL5) (by decide) ?_
        refine xT_goto p_q259 d259_135 (t := 45) (by decide) ?_
        exact x
      rcases c2 : x_cmp 5 u mo with _ | _
      · obtain ⟨r, x⟩ := ih (n + 1) (x_st (x_st (x_st (L) 4 (.inl (u))) 3 (.inl (nI n))) 5 (.inl (x_bin 0 (nI n) (Int32.ofInt (1))))) n u (by omega) (by omega) c1 ⟨lkN (by decide) (lkN (by decide) (lkN (by decide) (hL0))), lkN (by decide) (lkN (by decide) (lkN (by decide) (hL1))), lkN (by decide) (lkN (by decide) (lkN (by decide) (hL2))), lkN (by decide) (lkY), lkN (by decide) (lkN (by decide) (lkY)), lkY.trans (congrArg (fun z => some (Sum.inl z)) (inc_nI n))⟩
        refine ⟨r, ?_⟩
        refine xT_aload_n p_q259 d259_106 (hL0) ?_
        refine xT_getfield p_q259 d259_107 hA rfl hM rfl h68 ?_
        refine xT_iload_n p_q259 d259_110 (hL1) ?_
        refine xT_aaload p_q259 d259_111 (by decide +kernel) hcn (ixN (n := 4) (by omega) hcl) (ixG (by omega) (hcr hn (by omega))) ?_
        refine xT_iload p_q259 d259_112 (hL5) ?_
        refine xT_baload p_q259 d259_114 (hRh).1 v1h (ixN (n := 256) (by omega) v2h) (ixG (by omega) (v3h n (by omega))) ?_
        refine xT_ifCondN p_q259 d259_115 (t := 132) (by decide) ((cmp_b (hI.2.2.1 hn (by omega) n (by omega)) true (decide_eq_true c1)).2) ?_
        refine xT_iload p_q259 d259_118 (hL6) ?_
        refine xT_iload p_q259 d259_120 (hL4) ?_
        refine xT_if_icmpN p_q259 d259_122 (t := 132) (by decide) (c2) ?_
        refine xT_iload p_q259 d259_125 (hL6) ?_
        refine xT_istore p_q259 d259_127 (by decide) ?_
        refine xT_iload p_q259 d259_129 (lkN (by decide) (hL5)) ?_
        refine xT_istore_n p_q259 d259_131 (by decide) ?_
        refine xT_iinc p_q259 d259_132 (lkN (by decide) (lkN (by decide) (hL5))) (by decide) ?_
        refine xT_goto p_q259 d259_135 (t := 45) (by decide) ?_
        exact x
      · obtain ⟨r, x⟩ := ih (n + 1) (x_st (L) 5 (.inl (x_bin 0 (nI n) (Int32.ofInt (1))))) b mo (by omega) hb1 hb2 ⟨lkN (by decide) (hL0), lkN (by decide) (hL1), lkN (by decide) (hL2), lkN (by decide) (hL3), lkN (by decide) (hL4), lkY.trans (congrArg (fun z => some (Sum.inl z)) (inc_nI n))⟩
        refine ⟨r, ?_⟩
        refine xT_aload_n p_q259 d259_106 (hL0) ?_
        refine xT_getfield p_q259 d259_107 hA rfl hM rfl h68 ?_
        refine xT_iload_n p_q259 d259_110 (hL1) ?_
        refine xT_aaload p_q259 d259_111 (by decide +kernel) hcn (ixN (n := 4) (by omega) hcl) (ixG (by omega) (hcr hn (by omega))) ?_
        refine xT_iload p_q259 d259_112 (hL5) ?_
        refine xT_baload p_q259 d259_114 (hRh).1 v1h (ixN (n := 256) (by omega) v2h) (ixG (by omega) (v3h n (by omega))) ?_
        refine xT_ifCondN p_q259 d259_115 (t := 132) (by decide) ((cmp_b (hI.2.2.1 hn (by omega) n (by omega)) true (decide_eq_true c1)).2) ?_
        refine xT_iload p_q259 d259_118 (hL6) ?_
        refine xT_iload p_q259 d259_120 (hL4) ?_
        refine xT_if_icmpY p_q259 d259_122 (t := 132) (by decide) (c2) ?_
        refine xT_iinc p_q259 d259_132 (hL5) (by decide) ?_
        refine xT_goto p_q259 d259_135 (t := 45) (by decide) ?_
        exact x
def jH (a hn wh lf h : Nat) (L : List (Nat × XV Int32)) : Prop := x_lk L 0 = some (.inr (some a)) ∧ x_lk L 1 = some (.inl (nI hn)) ∧ x_lk L 2 = some (.inl (nI wh)) ∧ x_lk L 5 = some (.inl (nI lf)) ∧ x_lk L 6 = some (.inl (nI h))
set_option maxHeartbeats 8000000 in
theorem p_part {hn wh lf h w : Nat} {H : List (XC Int32)} {vx : Nat → Nat → Int32} (hI : jI H0 H a s sx R vx) (hh : hn < 4) (hh2 : h + 1 ≤ hn) (hlf : lf < 256) (w1 : andn w lf = 0) (w2 : vx 1 w = 1) (w3 : vx (hn - 1 - h) (andn lf w) = 1)
    (kk : ∀ (L : List (Nat × XV Int32)) (o : Nat), o ≤ lf → vx (hn - 1 - h) (andn lf o) = 1 → jH a hn wh lf h L → x_lk L 7 = some (.inl (nI o)) → ∃ r : Int32, x_To x_tb x_tyl ot dp 259 214 L [] H 0 0 (some (.inl r)) H) :
    ∀ (j o : Nat) (L : List (Nat × XV Int32)), o = w + j → o ≤ lf → jH a hn wh lf h L → x_lk L 7 = some (.inl (nI o)) → ∃ r : Int32, x_To x_tb x_tyl ot dp 259 164 L [] H 0 0 (some (.inl r)) H := by
  obtain ⟨fs, st, sr, hA, hM, h36, hs, h37, hst, hsl, hsr⟩ := id hI.1
  obtain ⟨fs2, cn, cr, -, hM2, h68, hcn, hcl, hcr, hRR, hinj⟩ := id hI.2.1
  obtain rfl : fs2 = fs := by
    rw [hM] at hM2
    cases hM2
    rfl
  have hR1 := hRR 1 (by decide)
  obtain ⟨V1, v11, v21, v31⟩ := hR1.2
  have hRm := hRR (hn - 1 - h) (by omega)
  obtain ⟨Vm, v1m, v2m, v3m⟩ := hRm.2
  have good : ∀ (o : Nat) (L : List (Nat × XV Int32)), o ≤ lf → jH a hn wh lf h L → x_lk L 7 = some (.inl (nI o)) → andn o lf = 0 → vx 1 o = 1 → vx (hn - 1 - h) (andn lf o) = 1 → ∃ r : Int32, x_To x_tb x_tyl ot dp 259 164 L [] H 0 0 (some (.inl r)) H := by
      intro o L ho hP hL7 c1 c2 c3
      obtain ⟨hL0, hL1, hL2, hL5, hL6⟩ := id hP
      obtain ⟨r, x⟩ := kk L o ho c3 hP hL7
      refine ⟨r, ?_⟩
      refine xT_iload p_q259 d259_164 (hL7) ?_
      refine xT_iload p_q259 d259_166 (hL5) ?_
      refine xT_icV (y := -1) p_q259 d259_168 (by decide) ?_
      refine xT_ixor p_q259 d259_169 ?_
      refine xT_iand p_q259 d259_170 ?_
      refine xT_ifCondN p_q259 d259_171 (t := 208) (by decide) ((cmp_sub (o := o) (m := lf) (by omega) (by omega)).trans (by rw [decide_eq_true c1]; rfl)) ?_
      refine xT_aload_n p_q259 d259_174 (hL0) ?_
      refine xT_getfield p_q259 d259_175 hA rfl hM rfl h68 ?_
      refine xT_icV (y := nI 1) p_q259 d259_178 (by decide) ?_
      refine xT_aaload p_q259 d259_179 (by decide +kernel) hcn (ixN (n := 4) (by decide) hcl) (ixG (by decide) (hcr 1 (by decide))) ?_
      refine xT_iload p_q259 d259_180 (hL7) ?_
      refine xT_baload p_q259 d259_182 (hR1).1 v11 (ixN (n := 256) (by omega) v21) (ixG (by omega) (v31 o (by omega))) ?_
      refine xT_ifCondN p_q259 d259_183 (t := 208) (by decide) ((cmp_b (hI.2.2.1 1 (by decide) o (by omega)) true (decide_eq_true c2)).2) ?_
      refine xT_aload_n p_q259 d259_186 (hL0) ?_
      refine xT_getfield p_q259 d259_187 hA rfl hM rfl h68 ?_
      refine xT_iload_n p_q259 d259_190 (hL1) ?_
      refine xT_icV (y := nI 1) p_q259 d259_191 (by decide) ?_
      refine xT_isub p_q259 d259_192 ?_
      refine xT_iload p_q259 d259_193 (hL6) ?_
      refine xT_isub p_q259 d259_195 ?_
      refine xT_aaload p_q259 d259_196 (by decide +kernel) hcn (ixE (n := 4) (sub2 (hn := hn) (h := h) (by omega) (by omega)) (by omega) hcl) (ixF (sub2 (hn := hn) (h := h) (by omega) (by omega)) (by omega) (hcr (hn - 1 - h) (by omega))) ?_
      refine xT_iload p_q259 d259_197 (hL5) ?_
      refine xT_iload p_q259 d259_199 (hL7) ?_
      refine xT_icV (y := -1) p_q259 d259_201 (by decide) ?_
      refine xT_ixor p_q259 d259_202 ?_
      refine xT_iand p_q259 d259_203 ?_
      refine xT_baload p_q259 d259_204 (hRm).1 v1m (ixE (n := 256) (b_andn (o := lf) (m := o) (by omega) (by omega)) (by have := andn_le lf o; omega) v2m) (ixF (b_andn (o := lf) (m := o) (by omega) (by omega)) (by have := andn_le lf o; omega) (v3m _ (by have := andn_le lf o; omega))) ?_
      refine xT_ifCondY p_q259 d259_205 (t := 214) (by decide) ((cmp_b (hI.2.2.1 (hn - 1 - h) (by omega) (andn lf o) (by have := andn_le lf o; omega)) true (decide_eq_true c3)).1) ?_
      exact x
  intro j
  induction j with
  | zero =>
    intro o L hj ho hP hL7
    subst hj
    exact good _ L ho hP hL7 (by exact w1) (by exact w2) (by exact w3)
  | succ j ih =>
    intro o L hj ho hP hL7
    obtain ⟨hL0, hL1, hL2, hL5, hL6⟩ := id hP
    have nx : ∀ {L2 : List (Nat × XV Int32)}, x_lk (x_st L2 7 (.inl (x_bin 0 (nI o) (Int32.ofInt (-1))))) 7 = some (.inl (nI (o - 1))) := lkY.trans (congrArg (fun z => some (Sum.inl z)) (dec_nI (by omega)))
    by_cases c1 : andn o lf = 0
    rotate_left
    · obtain ⟨r, x⟩ := ih (o - 1) (x_st (L) 7 (.inl (x_bin 0 (nI o) (Int32.ofInt ((-1)))))) (by omega) (by omega) ⟨lkN (by decide) (hL0), lkN (by decide) (hL1), lkN (by decide) (hL2), lkN (by decide) (hL5), lkN (by decide) (hL6)⟩ nx
      refine ⟨r, ?_⟩
      refine xT_iload p_q259 d259_164 (hL7) ?_
      refine xT_iload p_q259 d259_166 (hL5) ?_
      refine xT_icV (y := -1) p_q259 d259_168 (by decide) ?_
      refine xT_ixor p_q259 d259_169 ?_
      refine xT_iand p_q259 d259_170 ?_
      refine xT_ifCondY p_q259 d259_171 (t := 208) (by decide) ((cmp_sub (o := o) (m := lf) (by omega) (by omega)).trans (by rw [decide_eq_false c1]; rfl)) ?_
      refine xT_iinc p_q259 d259_208 (hL7) (by decide) ?_
      refine xT_goto p_q259 d259_211 (t := 164) (by decide) ?_
      exact x
    by_cases c2 : vx 1 o = 1
    rotate_left
    · obtain ⟨r, x⟩ := ih (o - 1) (x_st (L) 7 (.inl (x_bin 0 (nI o) (Int32.ofInt ((-1)))))) (by omega) (by omega) ⟨lkN (by decide) (hL0), lkN (by decide) (hL1), lkN (by decide) (hL2), lkN (by decide) (hL5), lkN (by decide) (hL6)⟩ nx
      refine ⟨r, ?_⟩
      refine xT_iload p_q259 d259_164 (hL7) ?_
      refine xT_iload p_q259 d259_166 (hL5) ?_
      refine xT_icV (y := -1) p_q259 d259_168 (by decide) ?_
      refine xT_ixor p_q259 d259_169 ?_
      refine xT_iand p_q259 d259_170 ?_
      refine xT_ifCondN p_q259 d259_171 (t := 208) (by decide) ((cmp_sub (o := o) (m := lf) (by omega) (by omega)).trans (by rw [decide_eq_true c1]; rfl)) ?_
      refine xT_aload_n p_q259 d259_174 (hL0) ?_
      refine xT_getfield p_q259 d259_175 hA rfl hM rfl h68 ?_
      refine xT_icV (y := nI 1) p_q259 d259_178 (by decide) ?_
      refine xT_aaload p_q259 d259_179 (by decide +kernel) hcn (ixN (n := 4) (by decide) hcl) (ixG (by decide) (hcr 1 (by decide))) ?_
      refine xT_iload p_q259 d259_180 (hL7) ?_
      refine xT_baload p_q259 d259_182 (hR1).1 v11 (ixN (n := 256) (by omega) v21) (ixG (by omega) (v31 o (by omega))) ?_
      refine xT_ifCondY p_q259 d259_183 (t := 208) (by decide) ((cmp_b (hI.2.2.1 1 (by decide) o (by omega)) false (decide_eq_false c2)).2) ?_
      refine xT_iinc p_q259 d259_208 (hL7) (by decide) ?_
      refine xT_goto p_q259 d259_211 (t := 164) (by decide) ?_
      exact x
    by_cases c3 : vx (hn - 1 - h) (andn lf o) = 1
    · exact good o L ho hP hL7 c1 c2 c3
    · obtain ⟨r, x⟩ := ih (o - 1) (x_st (L) 7 (.inl (x_bin 0 (nI o) (Int32.ofInt ((-1)))))) (by omega) (by omega) ⟨lkN (by decide) (hL0), lkN (by decide) (hL1), lkN (by decide) (hL2), lkN (by decide) (hL5), lkN (by decide) (hL6)⟩ nx
      refine ⟨r, ?_⟩
      refine xT_iload p_q259 d259_164 (hL7) ?_
      refine xT_iload p_q259 d259_166 (hL5) ?_
      refine xT_icV (y := -1) p_q259 d259_168 (by decide) ?_
      refine xT_ixor p_q259 d259_169 ?_
      refine xT_iand p_q259 d259_170 ?_
      refine xT_ifCondN p_q259 d259_171 (t := 208) (by decide) ((cmp_sub (o := o) (m := lf) (by omega) (by omega)).trans (by rw [decide_eq_true c1]; rfl)) ?_
      refine xT_aload_n p_q259 d259_174 (hL0) ?_
      refine xT_getfield p_q259 d259_175 hA rfl hM rfl h68 ?_
      refine xT_icV (y := nI 1) p_q259 d259_178 (by decide) ?_
      refine xT_aaload p_q259 d259_179 (by decide +kernel) hcn (ixN (n := 4) (by decide) hcl) (ixG (by decide) (hcr 1 (by decide))) ?_
      refine xT_iload p_q259 d259_180 (hL7) ?_
      refine xT_baload p_q259 d259_182 (hR1).1 v11 (ixN (n := 256) (by omega) v21) (ixG (by omega) (v31 o (by omega))) ?_
      refine xT_ifCondN p_q259 d259_183 (t := 208) (by decide) ((cmp_b (hI.2.2.1 1 (by decide) o (by omega)) true (decide_eq_true c2)).2) ?_
      refine xT_aload_n p_q259 d259_186 (hL0) ?_
      refine xT_getfield p_q259 d259_187 hA rfl hM rfl h68 ?_
      refine xT_iload_n p_q259 d259_190 (hL1) ?_
      refine xT_icV (y := nI 1) p_q259 d259_191 (by decide) ?_
      refine xT_isub p_q259 d259_192 ?_
      refine xT_iload p_q259 d259_193 (hL6) ?_
      refine xT_isub p_q259 d259_195 ?_
      refine xT_aaload p_q259 d259_196 (by decide +kernel) hcn (ixE (n := 4) (sub2 (hn := hn) (h := h) (by omega) (by omega)) (by omega) hcl) (ixF (sub2 (hn := hn) (h := h) (by omega) (by omega)) (by omega) (hcr (hn - 1 - h) (by omega))) ?_
      refine xT_iload p_q259 d259_197 (hL5) ?_
      refine xT_iload p_q259 d259_199 (hL7) ?_
      refine xT_icV (y := -1) p_q259 d259_201 (by decide) ?_
      refine xT_ixor p_q259 d259_202 ?_
      refine xT_iand p_q259 d259_203 ?_
      refine xT_baload p_q259 d259_204 (hRm).1 v1m (ixE (n := 256) (b_andn (o := lf) (m := o) (by omega) (by omega)) (by have := andn_le lf o; omega) v2m) (ixF (b_andn (o := lf) (m := o) (by omega) (by omega)) (by have := andn_le lf o; omega) (v3m _ (by have := andn_le lf o; omega))) ?_
      refine xT_ifCondN p_q259 d259_205 (t := 214) (by decide) ((cmp_b (hI.2.2.1 (hn - 1 - h) (by omega) (andn lf o) (by have := andn_le lf o; omega)) false (decide_eq_false c3)).1) ?_
      refine xT_iinc p_q259 d259_208 (hL7) (by decide) ?_
      refine xT_goto p_q259 d259_211 (t := 164) (by decide) ?_
      exact x
set_option maxHeartbeats 8000000 in
theorem p_hand1 {hn wh : Nat} {H : List (XC Int32)} {vx : Nat → Nat → Int32} (hI : jI H0 H a s sx R vx) (hh : hn < 4) (hw2 : 2 ≤ wh) (hw : wh ≤ 1 + hn) (z0 : vx 0 0 = 1) (hQ : ∀ h, 2 ≤ h → h ≤ hn → jQs s vx h) (h lf : Nat) (L : List (Nat × XV Int32)) (hj : h + 2 ≤ wh) (hlf : lf < 2 ^ s) (hv : vx (hn - h) lf = 1) (hP : jH a hn wh lf h L)
    (kk : ∀ (L : List (Nat × XV Int32)) (l2 : Nat), h + 3 ≤ wh → l2 < 2 ^ s → vx (hn - (h + 1)) l2 = 1 → jH a hn wh l2 (h + 1) L → ∃ r : Int32, x_To x_tb x_tyl ot dp 259 160 L [] H 0 0 (some (.inl r)) H) : ∃ r : Int32, x_To x_tb x_tyl ot dp 259 160 L [] H 0 0 (some (.inl r)) H := by
  obtain ⟨fs, st, sr, hA, hM, h36, hs, h37, hst, hsl, hsr⟩ := id hI.1
  obtain ⟨fs2, cn, cr, -, hM2, h68, hcn, hcl, hcr, hRR, hinj⟩ := id hI.2.1
  obtain rfl : fs2 = fs := by
    rw [hM] at hM2
    cases hM2
    rfl
  obtain ⟨p1, p2, p3⟩ := b_shl s (by omega)
  obtain ⟨hL0, hL1, hL2, hL5, hL6⟩ := id hP
  obtain ⟨w, w0, w1, w2, w3⟩ : ∃ w, w ≤ lf ∧ andn w lf = 0 ∧ vx 1 w = 1 ∧ vx (hn - 1 - h) (andn lf w) = 1 := by
    by_cases c : hn - h = 1
    · refine ⟨lf, Nat.le_refl _, (b_self lf (by omega)).1, by rw [← c]; exact hv, ?_⟩
      rw [(b_self lf (by omega)).1, show hn - 1 - h = 0 by omega]
      exact z0
    · obtain ⟨w, q1, q2, q3, q4⟩ := (hQ (hn - h) (by omega) (by omega)).2 lf hlf hv
      exact ⟨w, q1, q2, q3, by rw [show hn - 1 - h = hn - h - 1 by omega]; exact q4⟩
  have main := p_part (ot := ot) (dp := dp) (wh := wh) hI hh (h := h) (lf := lf) (by omega) (by omega) w1 w2 w3 ?_ (lf - w) lf (x_st (L) 7 (.inl (nI lf))) (by omega) (Nat.le_refl _) ⟨lkN (by decide) (hL0), lkN (by decide) (hL1), lkN (by decide) (hL2), lkN (by decide) (hL5), lkN (by decide) (hL6)⟩ (lkY)
  · obtain ⟨r, x⟩ := main
    refine ⟨r, ?_⟩
    refine xT_iload p_q259 d259_160 (hL5) ?_
    refine xT_istore p_q259 d259_162 (by decide) ?_
    exact x
  · intro L o ho hv2 hP hL7
    obtain ⟨hL0, hL1, hL2, hL5, hL6⟩ := id hP
    by_cases hz : h = wh - 2
    · refine ⟨nI o, ?_⟩
      refine xT_iload p_q259 d259_214 (hL6) ?_
      refine xT_iload_n p_q259 d259_216 (hL2) ?_
      refine xT_icV (y := nI 2) p_q259 d259_217 (by decide) ?_
      refine xT_isub p_q259 d259_218 ?_
      refine xT_if_icmpN p_q259 d259_219 (t := 225) (by decide) ((by show x_cmp 1 (nI h) (x_bin 1 (nI wh) (nI 2)) = false; rw [sub3 (by omega)]; exact decide_eq_false (fun z => z (by rw [hz])))) ?_
      refine xT_iload p_q259 d259_222 (hL7) ?_
      exact xT_ireturn p_q259 d259_224 (by
        have e : x_retOk dC (mR xm259) (.inl (nI o)) = true := rfl
        rw [e]
        decide +kernel)
    · have hle := andn_le lf o
      obtain ⟨r, x⟩ := kk (x_st (x_st (L) 5 (.inl (x_bin 3 (nI lf) (x_bin 5 (nI o) (-1))))) 6 (.inl (x_bin 0 (nI h) (Int32.ofInt (1))))) (andn lf o) (by omega) (by omega) (by rw [show hn - (h + 1) = hn - 1 - h by omega]; exact hv2) ⟨lkN (by decide) (lkN (by decide) (hL0)), lkN (by decide) (lkN (by decide) (hL1)), lkN (by decide) (lkN (by decide) (hL2)), (lkN (by decide) lkY).trans (congrArg (fun z => some (Sum.inl z)) (b_andn (by omega) (by omega))), lkY.trans (congrArg (fun z => some (Sum.inl z)) (inc_nI h))⟩
      refine ⟨r, ?_⟩
      refine xT_iload p_q259 d259_214 (hL6) ?_
      refine xT_iload_n p_q259 d259_216 (hL2) ?_
      refine xT_icV (y := nI 2) p_q259 d259_217 (by decide) ?_
      refine xT_isub p_q259 d259_218 ?_
      refine xT_if_icmpY p_q259 d259_219 (t := 225) (by decide) ((by show x_cmp 1 (nI h) (x_bin 1 (nI wh) (nI 2)) = true; rw [sub3 (by omega)]; exact decide_eq_true (fun z => hz ((nI_eq (by omega) (by omega)).mp z)))) ?_
      refine xT_iload p_q259 d259_225 (hL5) ?_
      refine xT_iload p_q259 d259_227 (hL7) ?_
      refine xT_icV (y := -1) p_q259 d259_229 (by decide) ?_
      refine xT_ixor p_q259 d259_230 ?_
      refine xT_iand p_q259 d259_231 ?_
      refine xT_istore p_q259 d259_232 (by decide) ?_
      refine xT_iinc p_q259 d259_234 (lkN (by decide) (hL6)) (by decide) ?_
      refine xT_goto p_q259 d259_237 (t := 160) (by decide) ?_
      exact x
set_option maxHeartbeats 8000000 in
theorem p_hands {hn wh : Nat} {H : List (XC Int32)} {vx : Nat → Nat → Int32} (hI : jI H0 H a s sx R vx) (hh : hn < 4) (hw2 : 2 ≤ wh) (hw : wh ≤ 1 + hn) (z0 : vx 0 0 = 1) (hQ : ∀ h, 2 ≤ h → h ≤ hn → jQs s vx h) : ∀ (j h lf : Nat) (L : List (Nat × XV Int32)), h + j + 2 = wh → lf < 2 ^ s → vx (hn - h) lf = 1 → jH a hn wh lf h L → ∃ r : Int32, x_To x_tb x_tyl ot dp 259 160 L [] H 0 0 (some (.inl r)) H := by
  obtain ⟨fs, st, sr, hA, hM, h36, hs, h37, hst, hsl, hsr⟩ := id hI.1
  obtain ⟨fs2, cn, cr, -, hM2, h68, hcn, hcl, hcr, hRR, hinj⟩ := id hI.2.1
  obtain rfl : fs2 = fs := by
    rw [hM] at hM2
    cases hM2
    rfl
  obtain ⟨p1, p2, p3⟩ := b_shl s (by omega)
  intro j
  induction j with
  | zero =>
    intro h lf L hj hlf hv hP
    exact p_hand1 hI hh hw2 hw z0 hQ h lf L (by omega) hlf hv hP (fun L2 o h1 _ _ _ => absurd h1 (by omega))
  | succ j ih =>
    intro h lf L hj hlf hv hP
    exact p_hand1 hI hh hw2 hw z0 hQ h lf L (by omega) hlf hv hP (fun L2 l2 h1 h2 h3 h4 => ih (h + 1) l2 L2 (by omega) h2 h3 h4)
set_option maxHeartbeats 8000000 in
theorem p_rest {hn wh : Nat} {H : List (XC Int32)} {vx : Nat → Nat → Int32} (hI : jI H0 H a s sx R vx) (hh : hn < 4) (hh1 : 1 ≤ hn) (hw : wh ≤ 1 + hn) (z0 : vx 0 0 = 1) (z1 : vx 1 0 = 1) (hQ : ∀ h, 2 ≤ h → h ≤ hn → jQs s vx h) (L : List (Nat × XV Int32)) (hL0 : x_lk L 0 = some (.inr (some a))) (hL1 : x_lk L 1 = some (.inl (nI hn))) (hL2 : x_lk L 2 = some (.inl (nI wh))) : ∃ r : Int32, x_To x_tb x_tyl ot dp 259 37 L [] H 0 0 (some (.inl r)) H := by
  have hb0 : vx hn 0 = 1 := by
    by_cases c : hn = 1
    · rw [c]
      exact z1
    · exact (hQ hn (by omega) (Nat.le_refl _)).1
  have hp : 0 < 2 ^ s := Nat.two_pow_pos s
  have main := p_best (ot := ot) (dp := dp) (hn := hn) (wh := wh) hI hh ?_ (2 ^ s) 0 (x_st (x_st (x_st (L) 3 (.inl (nI 0))) 4 (.inl (nI 0))) 5 (.inl (nI 0))) 0 (nI 0) (by omega) hp hb0 ⟨lkN (by decide) (lkN (by decide) (lkN (by decide) (hL0))), lkN (by decide) (lkN (by decide) (lkN (by decide) (hL1))), lkN (by decide) (lkN (by decide) (lkN (by decide) (hL2))), lkN (by decide) (lkN (by decide) (lkY)), lkN (by decide) (lkY), lkY⟩
  · obtain ⟨r, x⟩ := main
    refine ⟨r, ?_⟩
    refine xT_icV (y := nI 0) p_q259 d259_37 (by decide) ?_
    refine xT_istore_n p_q259 d259_38 (by decide) ?_
    refine xT_icV (y := nI 0) p_q259 d259_39 (by decide) ?_
    refine xT_istore p_q259 d259_40 (by decide) ?_
    refine xT_icV (y := nI 0) p_q259 d259_42 (by decide) ?_
    refine xT_istore p_q259 d259_43 (by decide) ?_
    exact x
  · intro L b mo hb1 hb2 hL0 hL1 hL2 hL3 hL4
    by_cases h2 : wh < 2
    · by_cases hz : wh = 0
      · refine ⟨mo, ?_⟩
        refine xT_iload_n p_q259 d259_138 (hL2) ?_
        refine xT_icV (y := nI 2) p_q259 d259_139 (by decide) ?_
        refine xT_if_icmpN p_q259 d259_140 (t := 154) (by decide) (cmp_ge (by omega) (by omega)) ?_
        refine xT_iload_n p_q259 d259_143 (hL2) ?_
        refine xT_ifCondN p_q259 d259_144 (t := 152) (by decide) ((by subst hz; decide)) ?_
        refine xT_iload p_q259 d259_147 (hL4) ?_
        refine xT_goto p_q259 d259_149 (t := 153) (by decide) ?_
        exact xT_ireturn p_q259 d259_153 (by
          have e : ∀ z : Int32, x_retOk dC (mR xm259) (.inl z) = true := fun _ => rfl
          rw [e]
          decide +kernel)
      · refine ⟨nI b, ?_⟩
        refine xT_iload_n p_q259 d259_138 (hL2) ?_
        refine xT_icV (y := nI 2) p_q259 d259_139 (by decide) ?_
        refine xT_if_icmpN p_q259 d259_140 (t := 154) (by decide) (cmp_ge (by omega) (by omega)) ?_
        refine xT_iload_n p_q259 d259_143 (hL2) ?_
        refine xT_ifCondY p_q259 d259_144 (t := 152) (by decide) (cmp_ne0 hz (by omega)) ?_
        refine xT_iload_n p_q259 d259_152 (hL3) ?_
        exact xT_ireturn p_q259 d259_153 (by
          have e : ∀ z : Int32, x_retOk dC (mR xm259) (.inl z) = true := fun _ => rfl
          rw [e]
          decide +kernel)
    · obtain ⟨r, x⟩ := p_hands (ot := ot) (dp := dp) hI hh (by omega) hw z0 hQ (wh - 2) 0 b (x_st (x_st (L) 5 (.inl (nI b))) 6 (.inl (nI 0))) (by omega) hb1 hb2 ⟨lkN (by decide) (lkN (by decide) (hL0)), lkN (by decide) (lkN (by decide) (hL1)), lkN (by decide) (lkN (by decide) (hL2)), lkN (by decide) (lkY), lkY⟩
      refine ⟨r, ?_⟩
      refine xT_iload_n p_q259 d259_138 (hL2) ?_
      refine xT_icV (y := nI 2) p_q259 d259_139 (by decide) ?_
      refine xT_if_icmpY p_q259 d259_140 (t := 154) (by decide) (cmp_geY (by omega) (by omega)) ?_
      refine xT_iload_n p_q259 d259_154 (hL3) ?_
      refine xT_istore p_q259 d259_155 (by decide) ?_
      refine xT_icV (y := nI 0) p_q259 d259_157 (by decide) ?_
      refine xT_istore p_q259 d259_158 (by decide) ?_
      exact x
end XPosts