/-! Text constants at the law's entry. -/
noncomputable section XStr
def x_strs : List (Nat × Nat × String × List Int32 × Nat) := [(2, 22, "now", [110, 111, 119], 2132), (2, 24, "in", [105, 110], 2133), (2, 26, "out", [111, 117, 116], 2134), (2, 28, "set", [115, 101, 116], 2135), (2, 30, "mov", [109, 111, 118], 2136), (2, 32, "add", [97, 100, 100], 2137), (2, 34, "sub", [115, 117, 98], 2138), (2, 36, "if", [105, 102], 2139), (2, 38, "leap", [108, 101, 97, 112], 2140), (2, 40, "go", [103, 111], 2141), (2, 42, "end", [101, 110, 100], 2142), (12, 233, "now ", [110, 111, 119, 32], 6188), (12, 228, "f ", [102, 32], 6215), (12, 226, " ", [32], 6216), (12, 238, "n ", [110, 32], 6225), (12, 240, "out ", [111, 117, 116, 32], 6226), (12, 242, "ub ", [117, 98, 32], 6227), (12, 247, "et ", [101, 116, 32], 6232), (12, 249, "mov ", [109, 111, 118, 32], 6233), (12, 251, "add ", [97, 100, 100, 32], 6234), (12, 253, "leap ", [108, 101, 97, 112, 32], 6235), (12, 255, "go ", [103, 111, 32], 6236), (12, 257, "end", [101, 110, 100], 6237)]
def x_F0 : List Jvm.Cond := flatC (Jvm.Cond.and given_1 narrow_1)
def x_stm (e : Nat × Nat × String × List Int32 × Nat) : Jvm.Term := .string (x_nm e.1) e.2.1
def x_schk (e : Nat × Nat × String × List Int32 × Nat) : Bool := decide (Jvm.Cond.exactly (x_stm e) "java/lang/String" ∈ x_F0) && decide (Jvm.Cond.eq (.field (x_stm e) "java/lang/String" "coder" "B") (.int 0) ∈ x_F0) && decide (Jvm.Cond.arrayOf (.field (x_stm e) "java/lang/String" "value" "[B") .byte ∈ x_F0) && decide (Jvm.Cond.eq (.length (.field (x_stm e) "java/lang/String" "value" "[B")) (.int (Int32.ofNat e.2.2.2.1.length)) ∈ x_F0) && (List.range e.2.2.2.1.length).all (fun j => decide (Jvm.Cond.eq (.elem (.field (x_stm e) "java/lang/String" "value" "[B") (.int (Int32.ofNat j))) (.int (e.2.2.2.1.getD j 0)) ∈ x_F0)) && decide ((x_seg.getD (e.2.2.2.2 / 1000) [])[e.2.2.2.2 % 1000]? = some (Jvm.Cond.stringRef (x_nm e.1) e.2.1 e.2.2.1)) && decide (e.2.2.2.1.length < 2 ^ 31)
set_option maxRecDepth 100000 in
theorem x_k_st : x_strs.all x_schk = true := by decide +kernel
def x_StrF (A : Nat → Prop) (e : Nat × Nat × String × List Int32 × Nat) (q : Nat × Nat) (U : State) (H : Heap) : Prop := vk_R (x_nm e.1) e.2.1 e.2.2.1 q.1 U ∧ va_O "java/lang/String" q.1 A U H ∧ va_OF "java/lang/String" "coder" "B" (.int 0) q.1 A U H ∧ va_OF "java/lang/String" "value" "[B" (.ref q.2) q.1 A U H ∧ va_T .byte q.2 e.2.2.2.1.length (fun j => .int (e.2.2.2.1.getD j 0)) A U H
theorem x_StrF_moved {A : Nat → Prop} {e : Nat × Nat × String × List Int32 × Nat} {q : Nat × Nat} {u U : State} {H H1 : Heap} (hW : u.WarmedH U.vm) (hq : ∀ a : Nat, a < H.size → ¬ A a → H1[a]? = H[a]?) (h : x_StrF A e q u H) : x_StrF A e q U H1 :=
  ⟨vk_R.warm hW h.1, (va_O.moved hW.alike h.2.1).kept hq, (va_OF.moved hW.alike h.2.2.1).kept hq, (va_OF.moved hW.alike h.2.2.2.1).kept hq, (va_T.moved hW.alike h.2.2.2.2).kept hq⟩
theorem x_str1 {b : Nat} {s : State} {A : Nat → Prop} (hA : ∀ a : Nat, a < s.heap.size → ¬ A a) (hgv : (Jvm.Cond.and given_1 narrow_1).before #[Value.ref b] s = true) (hts : ∀ w ∈ lw_tbl, w.before #[Value.ref b] s = true) {e : Nat × Nat × String × List Int32 × Nat} (he : x_schk e = true) : ∃ q : Nat × Nat, x_StrF A e q s s.heap := by
  unfold x_schk at he
  simp only [Bool.and_eq_true, decide_eq_true_eq, List.all_eq_true, List.mem_range] at he
  obtain ⟨⟨⟨⟨⟨⟨h1, h2⟩, h3⟩, h4⟩, h5⟩, h6⟩, h7⟩ := he
  have hs := flat_of_before _ hgv
  obtain ⟨adK, adV, hS, hev⟩ := vk_Sof (args := #[Value.ref b]) (s := s) (N := 1) (tm := fun _ => x_stm e) (len := [e.2.2.2.1.length]) (byt := [e.2.2.2.1]) (A := A) (fun i hi => by rw [show i = 0 by omega]; exact h7) (fun i hi => hs _ h1) (fun i hi => hs _ h2) (fun i hi => hs _ h3) (fun i hi => by rw [show i = 0 by omega]; exact hs _ h4) (fun i hi j hj => by
      rw [show i = 0 by omega] at hj ⊢
      exact hs _ (h5 j hj)) (fun i j hi hj hne => absurd (by omega) hne) hA
  have h0 := hS.1 0 (by omega)
  exact ⟨(adK 0, adV 0), vk_R.of (hts _ (x_seg_spec _ _ (List.mem_of_getElem? h6))) (hev 0 (by omega)), h0.1, h0.2.1, h0.2.2.1, h0.2.2.2⟩
def x_dS : Nat × Nat × String × List Int32 × Nat := (0, 0, "", [], 0)
/-- the outside with its text constants: 1000001 + k: the k-th; 1100000 + k: its bytes; sf: the formatter that a wrong index would ask -/
def x_fS (o ix : Nat) : Nat → List (Nat × Nat × String × List Int32 × Nat) → Option Nat
  | _, [] => none
  | k, e :: r => if e.1 = o ∧ e.2.1 = ix then some (1000001 + k) else x_fS o ix (k + 1) r
def x_ovS (sf : Option Nat) : vOt := (fun o ix => x_fS o ix 0 x_strs, fun a o ix => if o = 15 ∧ 1000001 ≤ a ∧ a < 1000001 + 23 then (if ix = 9 then some (.inr (some (1100000 + (a - 1000001)))) else if ix = 15 then some (.inl 0) else none) else none, fun o ix => if o = 15 ∧ ix = 38 then some (.inl 1) else if o = 15 ∧ ix = 1053 then some (.inr sf) else none, fun a => if 1100000 ≤ a then (x_strs[a - 1100000]?).map (fun e => e.2.2.2.1) else none, fun a => if 1000001 ≤ a ∧ a < 1000001 + 23 then some 115 else none)
def x_otS (xs : Nat → Int32) (n : Nat) (sf : Option Nat) : XO Int32 := (fun o ix => x_fS o ix 0 x_strs, fun a o ix => if o = 15 ∧ 1000001 ≤ a ∧ a < 1000001 + 23 then (if ix = 9 then some (.inr (some (1100000 + (a - 1000001)))) else if ix = 15 then some (.inl 0) else none) else none, fun o ix => if o = 15 ∧ ix = 38 then some (.inl 1) else if o = 15 ∧ ix = 1053 then some (.inr sf) else none, fun a => if 1100000 ≤ a then (x_strs[a - 1100000]?).map (fun e => e.2.2.2.1) else none, (n, xs), fun a => if 1000001 ≤ a ∧ a < 1000001 + 23 then some 115 else none)
theorem x_o4S (xs : Nat → Int32) (n : Nat) (sf : Option Nat) : o4 (x_otS xs n sf) = x_ovS sf := rfl
def x_ov0 : vOt := (fun o ix => x_fS o ix 0 x_strs, fun a o ix => if o = 15 ∧ 1000001 ≤ a ∧ a < 1000001 + 23 then (if ix = 9 then some (.inr (some (1100000 + (a - 1000001)))) else if ix = 15 then some (.inl 0) else none) else none, fun o ix => if o = 15 ∧ ix = 38 then some (.inl 1) else none, fun a => if 1100000 ≤ a then (x_strs[a - 1100000]?).map (fun e => e.2.2.2.1) else none, fun a => if 1000001 ≤ a ∧ a < 1000001 + 23 then some 115 else none)
theorem x_ov0_gs (sf : Option Nat) (a b : Nat) (d : Int32 ⊕ Option Nat) (h : x_ov0.2.2.1 a b = some d) : (x_ovS sf).2.2.1 a b = some d := by
  have h : (if a = 15 ∧ b = 38 then some (.inl 1) else none) = some d := h
  show (if a = 15 ∧ b = 38 then some (.inl 1) else if a = 15 ∧ b = 1053 then some (.inr sf) else none) = some d
  by_cases hc : a = 15 ∧ b = 38
  · rw [if_pos hc] at h ⊢
    exact h
  · rw [if_neg hc] at h
    cases h
theorem x_ov0_le (sf : Option Nat) : vOvLe x_ov0 (x_ovS sf) := ⟨fun _ _ _ h => h, fun _ _ _ _ h => h, x_ov0_gs sf, fun _ _ h => h, fun _ _ h => h⟩
theorem x_fS_spec {o ix : Nat} : ∀ {l : List (Nat × Nat × String × List Int32 × Nat)} {k a : Nat}, x_fS o ix k l = some a → ∃ i e, l[i]? = some e ∧ a = 1000001 + (k + i) ∧ e.1 = o ∧ e.2.1 = ix
  | [], _, _, h => by cases h
  | e :: r, k, a, h => by
    simp only [x_fS] at h
    split at h
    · rename_i he
      simp only [Option.some.injEq] at h
      exact ⟨0, e, rfl, by omega, he.1, he.2⟩
    · obtain ⟨i, e2, h1, h2, h3, h4⟩ := x_fS_spec h
      exact ⟨i + 1, e2, by simpa using h1, by omega, h3, h4⟩
def x_sa (b : Nat) (g : Nat → Nat × Nat) (t : Nat) (a : Nat) : Nat := if a = 1000000 then b else if a < 1100000 then (g (a - 1000001)).1 else if a < 1200000 then (g (a - 1100000)).2 else t
set_option maxRecDepth 100000 in
theorem x_k_sf : (x_w 8076 (.fieldLink (x_nm 15) 9 "java/lang/String" "value" "[B") && x_w 8077 (.fieldLink (x_nm 15) 15 "java/lang/String" "coder" "B") && x_w 2155 (.fieldLink (x_nm 15) 38 "java/lang/String" "COMPACT_STRINGS" "Z") && x_w 2171 (.fieldLink (x_nm 15) 1053 "jdk/internal/util/Preconditions" "SIOOBE_FORMATTER" "Ljava/util/function/BiFunction;")) = true := by decide +kernel
set_option maxRecDepth 100000 in
theorem x_k_sl : (decide ((x_seg.getD (2156 / 1000) [])[2156 % 1000]? = some (Jvm.Cond.laysStatic "java/lang/String" "COMPACT_STRINGS" "Z")) && decide ((x_seg.getD (2172 / 1000) [])[2172 % 1000]? = some (Jvm.Cond.laysStatic "jdk/internal/util/Preconditions" "SIOOBE_FORMATTER" "Ljava/util/function/BiFunction;")) && decide ((x_seg.getD (1012 / 1000) [])[1012 % 1000]? = some (Jvm.Cond.initialized "java/lang/String")) && decide ((x_seg.getD (1014 / 1000) [])[1014 % 1000]? = some (Jvm.Cond.initialized "jdk/internal/util/Preconditions")) && decide (Jvm.Cond.eq (.static "java/lang/String" "COMPACT_STRINGS" "Z") (.int 1) ∈ x_F0) && decide (Jvm.Cond.isRef (.static "jdk/internal/util/Preconditions" "SIOOBE_FORMATTER" "Ljava/util/function/BiFunction;") ∈ x_F0)) = true := by decide +kernel
theorem x_rcS : ∀ q ∈ x_mths, mRc q = 115 → (mY q).cls = "java/lang/String" := by decide +kernel
end XStr
