/-! The law's start. -/
noncomputable section XLs
def kT2 (T : List (List (Option Nat))) (a : Nat) : Option Nat := (T.getD (a / 32) []).getD (a % 32) none
def kFit2 (ty : Nat → Option Nat) : vF → XV Int32 → Bool
  | .inl p, .inl x => decide (p.1 ≤ x.toInt) && decide (x.toInt ≤ p.2)
  | .inr p, .inr none => p.1
  | .inr p, .inr (some a) => decide (ty a = some p.2)
  | _, _ => false
theorem kFit2_spec {ty : Nat → Option Nat} {f : vF} {u : XV Int32} (h : kFit2 ty f u = true) : vFit ty f u := by
  rcases f with p | p <;> rcases u with x | (_ | a)
  · have h2 := Bool.and_eq_true_iff.mp h
    exact ⟨of_decide_eq_true h2.1, of_decide_eq_true h2.2⟩
  · cases h
  · cases h
  · cases h
  · exact h
  · exact (of_decide_eq_true h : ty a = some p.2)
def kFs2 (ty : Nat → Option Nat) : List vF → List (XV Int32) → Bool
  | [], [] => true
  | f :: fs, u :: us => kFit2 ty f u && kFs2 ty fs us
  | _, _ => false
theorem kFs2_spec {ty : Nat → Option Nat} : ∀ {fs : List vF} {us : List (XV Int32)}, kFs2 ty fs us = true → us.length = fs.length ∧ ∀ (j : Nat) (f : vF) (u : XV Int32), fs[j]? = some f → us[j]? = some u → vFit ty f u
  | [], [], _ => ⟨rfl, fun j f u h _ => by cases h⟩
  | [], _ :: _, h => by cases h
  | _ :: _, [], h => by cases h
  | f :: fs, u :: us, h => by
    have h2 := Bool.and_eq_true_iff.mp h
    obtain ⟨e, ih⟩ := kFs2_spec h2.2
    refine ⟨congrArg (· + 1) e, fun j f2 u2 hf hu => ?_⟩
    rcases j with _ | j
    · cases hf
      cases hu
      exact kFit2_spec h2.1
    · exact ih j f2 u2 hf hu
def kEs2 (ty : Nat → Option Nat) (fl : List vF) : Nat → List (XV Int32) → Bool
  | _, [] => true
  | j, u :: us => (match vEl fl j with
    | some f => kFit2 ty f u
    | none => true) && kEs2 ty fl (j + 1) us
theorem kEs2_spec {ty : Nat → Option Nat} {fl : List vF} : ∀ {us : List (XV Int32)} {n : Nat}, kEs2 ty fl n us = true → ∀ (j : Nat) (f : vF) (u : XV Int32), vEl fl (n + j) = some f → us[j]? = some u → vFit ty f u
  | [], _, _ => fun j f u _ h => by cases h
  | u :: us, n, h => by
    have h2 := Bool.and_eq_true_iff.mp h
    intro j f2 u2 hf hu
    rcases j with _ | j
    · cases hu
      have h3 := h2.1
      rw [Nat.add_zero] at hf
      rw [hf] at h3
      exact kFit2_spec h3
    · exact kEs2_spec h2.2 j f2 u2 (by rw [← hf]; congr 1; omega) hu
def kCell2 (ty : Nat → Option Nat) : vKd → XC Int32 → Bool
  | .inl o, .inl z => decide (z.1 = o.1) && kFs2 ty o.2 z.2
  | .inr o, .inr z => decide (z.1 = o.1) && decide (z.2.length = o.2.1) && (if o.2.2.all vZero && z.2.all vZr then true else kEs2 ty o.2.2 0 z.2)
  | _, _ => false
theorem kCell2_spec {ty : Nat → Option Nat} {kd : vKd} {z : XC Int32} (h : kCell2 ty kd z = true) : vCell ty kd z := by
  rcases kd with o | o <;> rcases z with z | z
  · have h2 := Bool.and_eq_true_iff.mp h
    obtain ⟨e, g⟩ := kFs2_spec h2.2
    exact ⟨of_decide_eq_true h2.1, e, g⟩
  · cases h
  · cases h
  · have h2 := Bool.and_eq_true_iff.mp h
    have h3 := Bool.and_eq_true_iff.mp h2.1
    refine ⟨of_decide_eq_true h3.1, of_decide_eq_true h3.2, fun j f u hf hu => ?_⟩
    have h4 := h2.2
    split at h4
    · rename_i h5
      have h6 := Bool.and_eq_true_iff.mp h5
      have h7 := List.all_eq_true.mp h6.2 u (List.mem_of_getElem? hu)
      rcases u with x | x
      · have e : x = 0 := of_decide_eq_true h7
        subst e
        exact vZero_fit h6.1 hf
      · cases h7
    · exact kEs2_spec h4 j f u (by rw [Nat.zero_add]; exact hf) hu
def kMor2 (KT : vKT) (ty : Nat → Option Nat) (H : List (XC Int32)) (c : Nat) (z : XC Int32) : Bool :=
  decide (kRaw KT c = none) && (!decide (c = KT.2.1.1) || (match z with
    | .inl o => (match o.2[KT.2.1.2.1]?, o.2[KT.2.1.2.2.1]? with
      | some (.inl n), some (.inr (some b)) => decide (n.toInt ≤ 0) && decide (ty b = some KT.2.1.2.2.2.1) && (match H[b]? with
        | some (.inr _) => true
        | _ => false)
      | _, _ => false)
    | _ => false)) && (!decide (c = KT.2.1.2.2.2.2) || (match z with
    | .inr o => o.2.all vZr
    | _ => false))
def kOk2 (KT : vKT) (ty : Nat → Option Nat) (H0 : List (XC Int32)) : Nat → List (XC Int32) → Bool
  | _, [] => true
  | a, z :: H => (match ty a with
    | none => true
    | some c => match KT.1[c]? with
      | some kd => kCell2 ty kd z && kMor2 KT ty H0 c z
      | none => false) && kOk2 KT ty H0 (a + 1) H
theorem kOk2_all {KT : vKT} {ty : Nat → Option Nat} {H0 : List (XC Int32)} : ∀ {H : List (XC Int32)} {n : Nat}, kOk2 KT ty H0 n H = true → ∀ a z c, H[a]? = some z → ty (n + a) = some c → ∃ kd, KT.1[c]? = some kd ∧ kCell2 ty kd z = true ∧ kMor2 KT ty H0 c z = true
  | [], _, _ => fun a z c h => by cases h
  | z :: H, n, h => fun a y c hy hc => by
    have h2 := Bool.and_eq_true_iff.mp h
    rcases a with _ | a
    · cases hy
      have h3 := h2.1
      rw [Nat.add_zero] at hc
      rw [hc] at h3
      dsimp only at h3
      split at h3
      · rename_i kd hk
        have h4 := Bool.and_eq_true_iff.mp h3
        exact ⟨kd, hk, h4.1, h4.2⟩
      · cases h3
    · exact kOk2_all h2.2 a y c hy (by rw [← hc]; congr 1; omega)
theorem kOk2_spec {KT : vKT} {ty : Nat → Option Nat} {H : List (XC Int32)} (h : kOk2 KT ty H 0 H = true) (hl : ∀ a c, ty a = some c → a < H.length) : vHp (fun c => KT.1[c]?) ty H ∧ vNN KT ty H ∧ vGp KT ty H ∧ ∀ a c, ty a = some c → kRaw KT c = none := by
  have hs : ∀ a c, ty a = some c → ∃ kd z, KT.1[c]? = some kd ∧ H[a]? = some z ∧ kCell2 ty kd z = true ∧ kMor2 KT ty H c z = true := fun a c hc => by
    have hz : H[a]? = some (H[a]'(hl a c hc)) := List.getElem?_eq_getElem (hl a c hc)
    obtain ⟨kd, h1, h2, h3⟩ := kOk2_all h a _ c hz (by rw [Nat.zero_add]; exact hc)
    exact ⟨kd, _, h1, hz, h2, h3⟩
  refine ⟨fun a c ha => ?_, fun a ha => ?_, fun a t vs ha hz => ?_, fun a c ha => ?_⟩
  · obtain ⟨kd, z, h1, h2, h3, -⟩ := hs a c ha
    exact ⟨kd, z, h1, h2, kCell2_spec h3⟩
  · obtain ⟨kd, z, h1, h2, -, h4⟩ := hs a _ ha
    unfold kMor2 at h4
    simp only [Bool.and_eq_true] at h4
    have h5 := h4.1.2
    simp only [decide_true, Bool.not_true, Bool.false_or] at h5
    rcases z with ⟨ci, fs⟩ | z
    rotate_left
    · cases h5
    dsimp only at h5
    split at h5
    rotate_left
    · cases h5
    rename_i n b hn hb
    simp only [Bool.and_eq_true] at h5
    obtain ⟨⟨q1, q2⟩, q3⟩ := h5
    have q1 := of_decide_eq_true q1
    have q2 := of_decide_eq_true q2
    split at q3
    rotate_left
    · cases q3
    rename_i z hz
    refine ⟨ci, fs, n, b, z.1, z.2, h2, hn, hb, q2, hz, fun i hi => ?_⟩
    omega
  · obtain ⟨kd, z, h1, h2, -, h4⟩ := hs a _ ha
    rw [hz] at h2
    cases h2
    unfold kMor2 at h4
    simp only [Bool.and_eq_true] at h4
    have h5 := h4.2
    simp only [decide_true, Bool.not_true, Bool.false_or] at h5
    have all0 : ∀ (j : Nat) (x : Int32), vs[j]? = some (.inl x) → x = 0 := fun j x hj => of_decide_eq_true (List.all_eq_true.mp h5 _ (List.mem_of_getElem? hj))
    intro b o hb ho
    have e0 := all0 b o ho
    subst e0
    refine ⟨fun _ f hf => ?_, fun h4 _ => ?_⟩
    · rw [all0 _ f hf]
      decide
    · exact absurd h4 (by decide)
  · obtain ⟨kd, z, h1, h2, -, h4⟩ := hs a _ ha
    unfold kMor2 at h4
    simp only [Bool.and_eq_true] at h4
    exact of_decide_eq_true h4.1.1
theorem kT2_lt {T : List (List (Option Nat))} {n : Nat} (h : 32 * T.length ≤ n + 31) (h2 : ∀ a, n ≤ a → a < 32 * T.length → kT2 T a = none) (a c : Nat) (ha : kT2 T a = some c) : a < n := by
  by_cases c1 : a < n
  · exact c1
  by_cases c2 : a < 32 * T.length
  · rw [h2 a (by omega) c2] at ha
    cases ha
  · unfold kT2 at ha
    rw [List.getD_eq_getElem?_getD (l := T), List.getElem?_eq_none (by omega)] at ha
    cases ha
def kRo (n : Nat) (iv : List Int) (i : Nat) : Int := if i = 0 then (n : Int) else iv.getD i 0
def kZl (iv : List Int) (l : lT) (x : Int32) : Bool := l.2.all (fun p => decide (p.1 ≠ 0)) && decide (x = Int32.ofInt (lEv (fun i => iv.getD i 0) l))
theorem kZl_spec {n : Nat} {iv : List Int} {l : lT} {x : Int32} (h : kZl iv l x = true) : x = Int32.ofInt (lEv (kRo n iv) l) := by
  have h2 := Bool.and_eq_true_iff.mp h
  have hz : ∀ r : List (Nat × Int), r.all (fun p => decide (p.1 ≠ 0)) = true → lS (kRo n iv) r = lS (fun i => iv.getD i 0) r := by
    intro r
    induction r with
    | nil => intro _; rfl
    | cons p r ih =>
      intro hp
      rw [List.all_cons] at hp
      have hp2 := Bool.and_eq_true_iff.mp hp
      have h0 : p.1 ≠ 0 := of_decide_eq_true hp2.1
      show p.2 * (if p.1 = 0 then (n : Int) else iv.getD p.1 0) + lS (kRo n iv) r = p.2 * iv.getD p.1 0 + lS (fun i => iv.getD i 0) r
      rw [if_neg h0, ih hp2.2]
  have e := of_decide_eq_true h2.2
  rw [e]
  show Int32.ofInt (l.1 + lS _ l.2) = Int32.ofInt (l.1 + lS _ l.2)
  rw [hz l.2 h2.1]
def kVl (iv : List Int) (sg : List Nat) (v : vA) (u : XV Int32) : Bool := match v, u with
  | .inl l, .inl x => kZl iv l x
  | .inr (some s), .inr (some a) => decide (s < 1000000) && decide (a = sg.getD s 0)
  | _, _ => false
theorem kVl_spec {n : Nat} {iv : List Int} {sg : List Nat} {v : vA} {u : XV Int32} (h : kVl iv sg v u = true) : u = cv (kRo n iv) (fun i => sg.getD i 0) v := by
  unfold kVl at h
  split at h
  · exact congrArg Sum.inl (kZl_spec h)
  · rename_i s a
    have h2 := Bool.and_eq_true_iff.mp h
    have e := of_decide_eq_true h2.2
    subst e
    show Sum.inr (some (sg.getD s 0)) = Sum.inr (some (sR (fun i => sg.getD i 0) s))
    rw [show sR (fun i => sg.getD i 0) s = sg.getD s 0 from if_pos (of_decide_eq_true h2.1)]
  · cases h
def kFc (H : List (XC Int32)) (iv : List Int) (sg : List Nat) (f : vK) : Bool := decide (f.1 < 1000000) && (match f.2.1, H[sg.getD f.1 0]? with
  | .inl j, some (.inl o) => (match (o.2[j]? : Option (XV Int32)) with
    | some u => kVl iv sg f.2.2 u
    | none => false)
  | .inr e, some (.inr o) => decide (e.2 = []) && decide (0 ≤ e.1) && (match (o.2[e.1.toNat]? : Option (XV Int32)) with
    | some u => kVl iv sg f.2.2 u
    | none => false)
  | _, _ => false)
theorem kFc_spec {n : Nat} {H : List (XC Int32)} {iv : List Int} {sg : List Nat} {f : vK} (h : kFc H iv sg f = true) : vHolds (kRo n iv) (fun i => sg.getD i 0) H f := by
  obtain ⟨i, key, v⟩ := f
  have h2 := Bool.and_eq_true_iff.mp h
  have hi : i < 1000000 := of_decide_eq_true h2.1
  have hs : sR (fun i => sg.getD i 0) i = sg.getD i 0 := if_pos hi
  have h3 := h2.2
  dsimp only at h3
  split at h3
  · rename_i j o ho
    split at h3
    rotate_left
    · cases h3
    rename_i u hu
    exact Or.inl ⟨o.1, o.2, by rw [hs]; exact ho, by rw [hu, kVl_spec (n := n) h3]⟩
  · rename_i e o ho
    have h4 := Bool.and_eq_true_iff.mp h3
    have h5 := Bool.and_eq_true_iff.mp h4.1
    have h6 := h4.2
    split at h6
    rotate_left
    · cases h6
    rename_i u hu
    obtain ⟨e1, e2⟩ := e
    have he : e2 = [] := of_decide_eq_true h5.1
    subst he
    have e0 : lEv (kRo n iv) (e1, []) = e1 := Int.add_zero e1
    exact Or.inl ⟨o.1, o.2, by rw [hs]; exact ho, by rw [e0]; exact of_decide_eq_true h5.2, by rw [e0, hu, kVl_spec (n := n) h6]⟩
  · cases h3
def lwT : List (List (Option Nat)) := [[some 47, some 26, some 0, some 27, some 1, some 2, some 3, some 4, some 23, some 29, some 5, some 6, some 29, some 5, some 6, some 29, some 5, some 6, some 33, some 7, some 31, some 8, some 27, some 1, some 2, some 3, some 4, some 29, some 5, some 6, some 34, some 7],
  [some 31, some 8, some 27, some 1, some 2, some 3, some 4, some 29, some 5, some 6, some 35, some 9, some 24, some 36, some 10, some 37, some 11, some 38, some 12, some 39, some 13, some 14, some 15, some 16, some 17, some 18, some 40, some 19, some 20, some 21, some 25, some 41],
  [some 22, some 42, some 22, some 43, some 22, some 117, some 48, some 50, some 49, some 49, some 49, some 49, some 49, some 49, some 49, some 49, some 49, some 49, some 49, some 49, some 49, some 52, some 51, some 51, some 51, some 51, some 51, some 51, some 51, some 51, some 51, some 51],
  [some 51, some 51, some 54, some 53, some 53, some 53, some 53, some 53, some 53, some 53, some 53, some 53, some 53, some 53, some 53, some 55, some 56, some 57, some 57, some 58, some 59, some 61, some 60, some 60, some 60, some 60, some 60, some 60, some 60, some 60, some 60, some 60],
  [some 60, some 60, some 62, some 64, some 63, some 63, some 63, some 63, some 63, some 63, some 63, some 63, some 63, some 63, some 63, some 63, some 65, some 67, some 66, some 66, some 66, some 66, some 66, some 66, some 66, some 66, some 66, some 66, some 66, some 66, some 68, some 70],
  [some 69, some 69, some 69, some 69, some 69, some 69, some 69, some 69, some 69, some 69, some 69, some 69, some 71, some 72, some 73, some 75, some 74, some 74, some 74, some 74, some 74, some 74, some 74, some 74, some 74, some 74, some 74, some 74, some 74, some 74, some 74, some 74],
  [some 74, some 74, some 74, some 74, some 74, some 74, some 74, some 74, some 74, some 74, some 74, some 74, some 74, some 74, some 74, some 74, some 74, some 74, some 74, some 74, some 74, some 74, some 74, some 74, some 74, some 74, some 74, some 74, some 74, some 74, some 74, some 74],
  [some 74, some 74, some 74, some 74, some 74, some 74, some 74, some 74, some 74, some 74, some 74, some 74, some 74, some 74, some 74, some 74, some 74, some 74, some 74, some 74, some 74, some 74, some 74, some 74, some 74, some 74, some 74, some 74, some 74, some 74, some 74, some 74],
  [some 74, some 74, some 74, some 74, some 74, some 74, some 74, some 74, some 74, some 74, some 74, some 74, some 74, some 74, some 74, some 74, some 74, some 74, some 74, some 74, some 74, some 74, some 74, some 74, some 74, some 74, some 74, some 74, some 74, some 74, some 74, some 74],
  [some 74, some 74, some 74, some 74, some 74, some 74, some 74, some 74, some 74, some 74, some 74, some 74, some 74, some 74, some 74, some 74, some 74, some 74, some 74, some 74, some 74, some 74, some 74, some 74, some 74, some 74, some 74, some 74, some 74, some 74, some 74, some 74],
  [some 74, some 74, some 74, some 74, some 74, some 74, some 74, some 74, some 74, some 74, some 74, some 74, some 74, some 74, some 74, some 74, some 74, some 74, some 74, some 74, some 74, some 74, some 74, some 74, some 74, some 74, some 74, some 74, some 74, some 74, some 74, some 74],
  [some 74, some 74, some 74, some 74, some 74, some 74, some 74, some 74, some 74, some 74, some 74, some 74, some 74, some 74, some 74, some 74, some 74, some 74, some 74, some 74, some 74, some 74, some 74, some 74, some 76, some 77, some 78, some 80, some 79, some 79, some 79, some 79],
  [some 79, some 79, some 82, some 81, some 81, some 81, some 81, some 81, some 81, some 81, some 81, some 81, some 81, some 81, some 81, some 81, some 81, some 81, some 81, some 81, some 81, some 81, some 81, some 81, some 81, some 81, some 81, some 81, some 81, some 81, some 81, some 81],
  [some 81, some 81, some 81, some 81, some 81, some 81, some 81, some 81, some 81, some 81, some 81, some 81, some 81, some 81, some 81, some 81, some 81, some 81, some 81, some 81, some 81, some 81, some 81, some 81, some 81, some 81, some 81, some 81, some 81, some 81, some 81, some 83],
  [some 85, some 84, some 84, some 84, some 84, some 84, some 84, some 84, some 84, some 87, some 86, some 86, some 86, some 86, some 86, some 86, some 86, some 86, some 88, some 89, some 90, some 91, some 93, some 92, some 92, some 92, some 94, some 95, some 97, some 96, some 96, some 98],
  [some 99, some 100, some 101, some 103, some 102, some 102, some 104, some 105, some 64, some 63, some 63, some 63, some 63, some 63, some 63, some 63, some 63, some 63, some 63, some 63, some 63, some 67, some 66, some 66, some 66, some 66, some 66, some 66, some 66, some 66, some 66, some 66],
  [some 66, some 66, some 65, some 68, some 107, some 106, some 106, some 106, some 106, some 106, some 106, some 106, some 106, some 106, some 106, some 106, some 106, some 108, some 109, some 114, some 110, some 111, some 112, some 113, none, none, none, none, none, none, none, none]]
theorem lwT_hi : ∀ a, a < 32 → 536 ≤ a + 512 → kT2 lwT (a + 512) = none := by decide +kernel
theorem lwT_lt (a c : Nat) (h : kT2 lwT a = some c) : a < 536 := kT2_lt (T := lwT) (n := 536) (by decide +kernel) (fun a h1 h2 => by
  have h3 : 32 * lwT.length = 544 := by decide +kernel
  have := lwT_hi (a - 512) (by omega) (by omega)
  rw [show a - 512 + 512 = a by omega] at this
  exact this) a c h
def lw0 : List (XC Int32) := [.inl (0, (tFt x_tb 0).map (fun t => x_def dC t.1))]
def lw1 : XC Int32 := .inl (12, (tFt x_tb 12).map (fun t => x_def dC t.1))
def lwSg : List Nat := [0, 69, 1, 2, 174, 475, 8, 18, 19, 20, 21, 30, 31, 32, 33, 12, 15, 16, 17, 42, 62, 63, 64, 65, 66, 67, 68, 470, 471, 472, 473, 476, 477, 478, 483, 484, 485, 479, 480, 481, 482, 486, 487, 71, 70, 85, 98, 111, 112, 115, 116, 113, 114, 117, 130, 131, 144, 145, 158, 468, 469, 529, 488, 501, 514, 515, 43, 175]
def lwIv : List Int := [(0), (0), (0), (0), (0)]
def lwC (H : List (XC Int32)) : Bool := kOk2 x_KT (kT2 lwT) H 0 H && decide (H.length = 536) && (List.range (aG lwN).length).all (fun i => decide (kT2 lwT (lwSg.getD i 0) = (aG lwN)[i]?)) && (aF lwN).all (kFc H lwIv lwSg) && wIn0 H lwSg lwFS lwWs lwTA lwTB && lwPr.all (fun p => decide (p.1 < 1000000) && decide (p.2 < 1000000) && (match H[lwSg.getD p.1 0]?, H[lwSg.getD p.2 0]? with
  | some (.inr x), some (.inr y) => decide (x = y)
  | _, _ => false))
def lwSt : Bool := match cGo x_tb x_tyl 20000 1299 1 0 (x_en 0 [.inr (some 0)]) [] lw0 0 0 with
  | none => false
  | some H1 => match cGo x_tb x_tyl 20000 1299 179 0 (x_en 0 [.inr (some H1.length)]) [] (H1 ++ [lw1]) 0 0 with
    | none => false
    | some H2 => decide (H1.length = 69) && lwC H2
set_option maxRecDepth 1000000 in
theorem lwSt_ok : lwSt = true := by decide +kernel
theorem d0_0 : mC xm0 0 = some (.new 7, 3) := by decide +kernel
theorem d0_3 : mC xm0 3 = some (.dup, 1) := by decide +kernel
theorem d0_4 : mC xm0 4 = some (.invokespecial 9, 3) := by decide +kernel
theorem d0_7 : mC xm0 7 = some (.astore_n 1, 1) := by decide +kernel
theorem d0_8 : mC xm0 8 = some (.new 10, 3) := by decide +kernel
theorem d0_11 : mC xm0 11 = some (.dup, 1) := by decide +kernel
theorem d0_12 : mC xm0 12 = some (.invokespecial 12, 3) := by decide +kernel
theorem d0_15 : mC xm0 15 = some (.astore_n 2, 1) := by decide +kernel
theorem d0_16 : mC xm0 16 = some (.iconst 0, 1) := by decide +kernel
theorem d0_17 : mC xm0 17 = some (.istore_n 3, 1) := by decide +kernel
set_option maxRecDepth 1000000 in
theorem p_q0 : tMth x_tb 0 = some xm0 := rfl
set_option maxRecDepth 1000000 in
theorem p_qA : tMth x_tb 1 = some xm1 := rfl
set_option maxRecDepth 1000000 in
theorem p_qB : tMth x_tb 179 = some xm179 := rfl
theorem lw_fA : (tFt x_tb 0).length = 19 := by decide +kernel
theorem lw_fB : (tFt x_tb 12).length = 69 := by decide +kernel
/-- what is asked of a block that is proved by itself -/
def lwBk (ot : XO Int32) (pc : Nat) : Prop := ∀ (ρ : Nat → Int) (σ : Nat → Nat) (ty : Nat → Option Nat) (H : List (XC Int32)) (Lc : List (Nat × XV Int32)) (cn2 sn2 : Nat), lwAt x_KT ot lwN lwP ρ σ ty H Lc cn2 sn2 → 0 ≤ ρ 1 → ρ 1 + 7 ≤ ρ 0 → (∀ (ρ2 : Nat → Int) (σ2 : Nat → Nat) (ty2 : Nat → Option Nat) (H2 : List (XC Int32)) (Lc2 : List (Nat × XV Int32)) (cn3 sn3 : Nat), ρ2 1 = ρ 1 + 7 → lwAt x_KT ot lwN lwP ρ2 σ2 ty2 H2 Lc2 cn3 sn3 → ∃ H3, x_To x_tb x_tyl ot 1300 0 18 Lc2 [] H2 cn3 sn3 (some (.inl 1)) H3) → ∃ H3, x_To x_tb x_tyl ot 1300 0 pc Lc [] H cn2 sn2 (some (.inl 1)) H3
theorem lw_start {xs : Nat → Int32} {n : Nat} {sf : Option Nat} (hn : n ≤ 3584) (hCT : ∀ j c, c ∈ x_CTl j → vCtSem x_KT x_tb x_tyl (x_otS xs n sf) j c) (hk : vLw3 x_KT x_tb x_tyl (x_ovS sf) x_CTl x_hs x_knd x_WP 100 (lwU 68 lwN x_WP 18 lwCb) lwR 60 1 [] 18 (aL lwN) (aS lwN) (aSt lwN) (aCn lwN) (aSn lwN) = true) (hCb : ∀ pc ∈ lwCb, lwBk (x_otS xs n sf) pc) :
    ∃ H2, x_To x_tb x_tyl (x_otS xs n sf) 1300 0 0 (x_en 0 [.inr (some 1000000)]) [] [] 0 0 (some (.inl 1)) H2 := by
  have hs := lwSt_ok
  unfold lwSt at hs
  split at hs
  · cases hs
  rename_i H1 h1
  split at hs
  · cases hs
  rename_i H2 h2
  obtain ⟨hl0, hs⟩ := Bool.and_eq_true_iff.mp hs
  have hl0 := of_decide_eq_true hl0
  have hl1 : H1.length + 1 ≤ 1000000 := by omega
  unfold lwC at hs
  simp only [Bool.and_eq_true] at hs
  obtain ⟨⟨⟨⟨⟨k1, k4⟩, k2⟩, k5⟩, k7⟩, k6⟩ := hs
  have k4 := of_decide_eq_true k4
  obtain ⟨q1, q2, q3, q4⟩ := kOk2_spec k1 (fun a c hc => by
    rw [k4]
    exact lwT_lt a c hc)
  have g1 := cGo_spec (ot := x_otS xs n sf) 20000 h1
  have g2 := cGo_spec (ot := x_otS xs n sf) 20000 h2
  let ρ : Nat → Int := kRo n lwIv
  let σ : Nat → Nat := fun i => lwSg.getD i 0
  have hrel : vRel x_KT ρ σ (kT2 lwT) H2 (aSt lwN) := by
    refine ⟨q1, fun i c hc => ?_, fun f hf => kFc_spec (List.all_eq_true.mp k5 f hf), zipI_spec.mpr (fun i p hp => ?_), fun c hc => ?_, fun m hm => (by cases hm), ⟨q2, q3⟩, fun a c d ha hd => (by rw [q4 a c ha] at hd; cases hd)⟩
    · have hc : (aG lwN)[i]? = some c := hc
      have hi := (List.getElem?_eq_some_iff.mp hc).1
      have hlt : (aG lwN).length < 1000000 := by decide +kernel
      have e := of_decide_eq_true (List.all_eq_true.mp k2 i (List.mem_range.mpr hi))
      rw [hc] at e
      have hs : sR σ i = lwSg.getD i 0 := if_pos (by omega)
      rw [hs]
      exact e
    · rw [Nat.zero_add]
      rcases i with _ | i
      · cases hp
        show (0 : Int) ≤ (n : Int) ∧ (n : Int) ≤ 3584
        omega
      · have hz : (List.range (aI lwN).length).all (fun i => match (aI lwN)[i]? with | some p => decide (i = 0) || (decide (p.1 ≤ lwIv.getD i 0) && decide (lwIv.getD i 0 ≤ p.2)) | none => true) = true := by decide +kernel
        have h1 := List.all_eq_true.mp hz (i + 1) (List.mem_range.mpr (List.getElem?_eq_some_iff.mp hp).1)
        rw [hp] at h1
        dsimp only at h1
        rw [decide_eq_false (Nat.succ_ne_zero i), Bool.false_or] at h1
        have h2 := Bool.and_eq_true_iff.mp h1
        exact ⟨of_decide_eq_true h2.1, of_decide_eq_true h2.2⟩
    · have hc : c ∈ ([lSub (lSy 0) (lSy 1), lSub (lSy 1) (lSy 2)] : List lT) := hc
      simp only [List.mem_cons, List.not_mem_nil, or_false] at hc
      rcases hc with rfl | rfl
      · rw [lSub_ev, lSy_ev, lSy_ev]
        show (0 : Int) ≤ (n : Int) - 0
        omega
      · rw [lSub_ev, lSy_ev, lSy_ev]
        show (0 : Int) ≤ 0 - 0
        omega
  let L1 : List (Nat × XV Int32) := x_st (x_st (x_st (x_en 0 [.inr (some 1000000)]) 1 (.inr (some 0))) 2 (.inr (some H1.length))) 3 (.inl (Int32.ofInt 0))
  have hcov : vCov ρ σ (aL lwN) L1 := fun j v hj => by
    have hj : x_lk ([(0, .inr (some 1000000)), (1, .inr (some 0)), (2, .inr (some 1)), (3, .inl (lSy 1))] : List (Nat × vA)) j = some v := hj
    rcases j with _ | _ | _ | _ | j
    · cases hj
      rfl
    · cases hj
      rfl
    · cases hj
      show some (Sum.inr (some H1.length)) = some (Sum.inr (some 69))
      rw [hl0]
    · cases hj
      show some (Sum.inl (Int32.ofInt 0)) = some (Sum.inl (Int32.ofInt (lEv ρ (lSy 1))))
      rw [lSy_ev]
      rfl
    · simp only [x_lk_eq] at hj
      simp at hj
  have hPs1 : lwP1 σ (kT2 lwT) H2 := fun p hp => by
    have k := List.all_eq_true.mp k6 p hp
    simp only [Bool.and_eq_true] at k
    obtain ⟨⟨k1, k2⟩, k3⟩ := k
    have k1 := of_decide_eq_true k1
    have k2 := of_decide_eq_true k2
    have e : ∀ i, i < 1000000 → sR σ i = lwSg.getD i 0 := fun i hi => if_pos hi
    rw [e _ k1, e _ k2]
    split at k3
    · rename_i x y hx hy
      have k3 := of_decide_eq_true k3
      subst k3
      exact ⟨x.1, x.2, hx, hy⟩
    · cases k3
  have hPs : lwP σ (kT2 lwT) H2 := ⟨hPs1, wIn0_spec k7 (kT2 lwT)⟩
  obtain ⟨H3, h3⟩ := vLaw3_spec (ot := x_otS xs n sf) (dp2 := 1300) (q := xm0) hCT p_q0 (by decide) (by decide +kernel) (show n < 1000000 by omega) lwN_ok (by decide +kernel) (by decide +kernel) (m0 := 68) (by decide) hk lwP_keep hCb (n + 1) (ρ := ρ) (σ := σ) (ty := kT2 lwT) (H := H2) (Lc := L1) (cn2 := 0 + 1 + mMc xm1 + 1 + mMc xm179) (sn2 := 0 + (tFt x_tb 0).length + mMs xm1 + (tFt x_tb 12).length + mMs xm179) (by
      show ((n : Int) - 0).toNat < n + 1
      omega) ⟨rfl, (by
      have : (0 + 1 + mMc xm1 + 1 + mMc xm179 : Nat) = 536 := rfl
      omega), (by omega), hrel, hcov, (by
      show ((0 + 1 + mMc xm1 + 1 + mMc xm179 : Nat) : Int) ≤ lEv ρ (lAdd (lK 536) (lSc 58 (lSy 1)))
      rw [lAdd_ev, lK_ev, lSc_ev, lSy_ev]
      show ((536 : Nat) : Int) ≤ 536 + 58 * 0
      omega), (by
      show ((0 + (tFt x_tb 0).length + mMs xm1 + (tFt x_tb 12).length + mMs xm179 : Nat) : Int) ≤ lEv ρ (lAdd (lK 9690) (lSc 229 (lSy 1)))
      rw [lAdd_ev, lK_ev, lSc_ev, lSy_ev, lw_fA, lw_fB]
      show ((9690 : Nat) : Int) ≤ 9690 + 229 * 0
      omega), hPs⟩
  refine ⟨H3, ?_⟩
  refine xT_new p_q0 d0_0 (ci := 0) (by decide +kernel) (by decide +kernel) ?_
  refine xT_dup p_q0 d0_3 ?_
  refine xT_invokespecial (u := none) (a := 0) (r := [.inr (some 0)]) p_q0 d0_4 (j := 1) (so := 1) (by decide +kernel) (by decide +kernel) p_qA rfl (by decide +kernel) g1 ?_
  refine xT_astore_n p_q0 d0_7 (by decide) ?_
  refine xT_new p_q0 d0_8 (ci := 12) (by decide +kernel) (by
    rw [decide_eq_true hl1]
    decide +kernel) ?_
  refine xT_dup p_q0 d0_11 ?_
  refine xT_invokespecial (u := none) (a := H1.length) (r := [.inr (some H1.length)]) p_q0 d0_12 (j := 179) (so := 1) (by decide +kernel) (by decide +kernel) p_qB rfl (by rfl) g2 ?_
  refine xT_astore_n p_q0 d0_15 (by decide) ?_
  refine xT_iconst p_q0 d0_16 ?_
  refine xT_istore_n p_q0 d0_17 (by decide) ?_
  exact h3
end XLs
