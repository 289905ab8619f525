/-! A heap that is known is of its kinds. -/
section XKok
def kTy (T : List (Option Nat)) (a : Nat) : Option Nat := (T[a]?).getD none
def kCh : List vF → List (XV Int32) → List (Nat × Nat)
  | f :: fs, u :: us => (match f, u with
    | .inr p, .inr (some a) => (a, p.2) :: kCh fs us
    | _, _ => kCh fs us)
  | _, _ => []
def kCha (fl : List vF) : Nat → List (XV Int32) → List (Nat × Nat)
  | _, [] => []
  | j, u :: us => match vEl fl j, u with
    | some (.inr p), .inr (some a) => (a, p.2) :: kCha fl (j + 1) us
    | _, _ => kCha fl (j + 1) us
/-- kinds of cells, from the first on -/
def kInf (KT : vKT) (H : List (XC Int32)) : Nat → List (Nat × Nat) → List (Option Nat) → List (Option Nat)
  | 0, _, T => T
  | _ + 1, [], T => T
  | f + 1, p :: r, T => match T[p.1]? with
    | some none => kInf KT H f ((match KT.1[p.2]?, H[p.1]? with
      | some (.inl o), some (.inl z) => kCh o.2 z.2
      | some (.inr o), some (.inr z) => kCha o.2.2 0 z.2
      | _, _ => []) ++ r) (T.set p.1 (some p.2))
    | _ => kInf KT H f r T
def kFit (T : List (Option Nat)) : vF → XV Int32 → Bool
  | .inl p, .inl x => decide (p.1 ≤ x.toInt) && decide (x.toInt ≤ p.2)
  | .inr p, .inr none => p.1
  | .inr p, .inr (some a) => decide (kTy T a = some p.2)
  | _, _ => false
theorem kFit_spec {T : List (Option Nat)} {f : vF} {u : XV Int32} (h : kFit T f u = true) : vFit (kTy T) f u := by
  rcases f with p | p <;> rcases u with x | (_ | a)
  · have h2 := Bool.and_eq_true_iff.mp h
    exact ⟨of_decide_eq_true h2.1, of_decide_eq_true h2.2⟩
  · cases h
  · cases h
  · cases h
  · exact h
  · exact (of_decide_eq_true h : kTy T a = some p.2)
def kFs (T : List (Option Nat)) : List vF → List (XV Int32) → Bool
  | [], [] => true
  | f :: fs, u :: us => kFit T f u && kFs T fs us
  | _, _ => false
theorem kFs_spec {T : List (Option Nat)} : ∀ {fs : List vF} {us : List (XV Int32)}, kFs T fs us = true → us.length = fs.length ∧ ∀ (j : Nat) (f : vF) (u : XV Int32), fs[j]? = some f → us[j]? = some u → vFit (kTy T) f u
  | [], [], _ => ⟨rfl, fun j f u h _ => by cases h⟩
  | [], _ :: _, h => by cases h
  | _ :: _, [], h => by cases h
  | f :: fs, u :: us, h => by
    have h2 := Bool.and_eq_true_iff.mp h
    obtain ⟨e, ih⟩ := kFs_spec h2.2
    refine ⟨congrArg (· + 1) e, fun j f2 u2 hf hu => ?_⟩
    rcases j with _ | j
    · cases hf
      cases hu
      exact kFit_spec h2.1
    · exact ih j f2 u2 hf hu
def kEs (T : List (Option Nat)) (fl : List vF) : Nat → List (XV Int32) → Bool
  | _, [] => true
  | j, u :: us => (match vEl fl j with
    | some f => kFit T f u
    | none => true) && kEs T fl (j + 1) us
theorem kEs_spec {T : List (Option Nat)} {fl : List vF} : ∀ {us : List (XV Int32)} {n : Nat}, kEs T fl n us = true → ∀ (j : Nat) (f : vF) (u : XV Int32), vEl fl (n + j) = some f → us[j]? = some u → vFit (kTy T) f u
  | [], _, _ => fun j f u _ h => by cases h
  | u :: us, n, h => by
    have h2 := Bool.and_eq_true_iff.mp h
    intro j f2 u2 hf hu
    rcases j with _ | j
    · cases hu
      have h3 := h2.1
      rw [Nat.add_zero] at hf
      rw [hf] at h3
      exact kFit_spec h3
    · exact kEs_spec h2.2 j f2 u2 (by rw [← hf]; congr 1; omega) hu
def kCell (T : List (Option Nat)) : vKd → XC Int32 → Bool
  | .inl o, .inl z => decide (z.1 = o.1) && kFs T o.2 z.2
  | .inr o, .inr z => decide (z.1 = o.1) && decide (z.2.length = o.2.1) && kEs T o.2.2 0 z.2
  | _, _ => false
theorem kCell_spec {T : List (Option Nat)} {kd : vKd} {z : XC Int32} (h : kCell T kd z = true) : vCell (kTy T) kd z := by
  rcases kd with o | o <;> rcases z with z | z
  · have h2 := Bool.and_eq_true_iff.mp h
    obtain ⟨e, g⟩ := kFs_spec h2.2
    exact ⟨of_decide_eq_true h2.1, e, g⟩
  · cases h
  · cases h
  · have h2 := Bool.and_eq_true_iff.mp h
    have h3 := Bool.and_eq_true_iff.mp h2.1
    refine ⟨of_decide_eq_true h3.1, of_decide_eq_true h3.2, fun j f u hf hu => kEs_spec h2.2 j f u ?_ hu⟩
    rw [Nat.zero_add]
    exact hf
/-- what is asked of a cell besides -/
def kMor (KT : vKT) (T : List (Option Nat)) (H : List (XC Int32)) (c : Nat) (z : XC Int32) : Bool :=
  decide (kRaw KT c = none) && (!decide (c = KT.2.1.1) || (match z with
    | .inl o => (match o.2[KT.2.1.2.1]?, o.2[KT.2.1.2.2.1]? with
      | some (.inl n), some (.inr (some b)) => decide (n.toInt ≤ 0) && decide (kTy T b = some KT.2.1.2.2.2.1) && (match H[b]? with
        | some (.inr _) => true
        | _ => false)
      | _, _ => false)
    | _ => false)) && (!decide (c = KT.2.1.2.2.2.2) || (match z with
    | .inr o => o.2.all vZr
    | _ => false))
def kOk1 (KT : vKT) (T0 : List (Option Nat)) (H0 : List (XC Int32)) : List (Option Nat) → List (XC Int32) → Bool
  | [], _ => true
  | none :: T, _ :: H => kOk1 KT T0 H0 T H
  | some c :: T, z :: H => (match KT.1[c]? with
    | some kd => kCell T0 kd z && kMor KT T0 H0 c z
    | none => false) && kOk1 KT T0 H0 T H
  | _ :: _, [] => false
theorem kOk1_spec {KT : vKT} {T0 : List (Option Nat)} {H0 : List (XC Int32)} : ∀ {T : List (Option Nat)} {H : List (XC Int32)}, kOk1 KT T0 H0 T H = true → ∀ a c, kTy T a = some c → ∃ kd z, KT.1[c]? = some kd ∧ H[a]? = some z ∧ kCell T0 kd z = true ∧ kMor KT T0 H0 c z = true
  | [], _, _ => fun a c h => by cases h
  | none :: T, [], h => by cases h
  | some c :: T, [], h => by cases h
  | none :: T, z :: H, h => fun a c hc => by
    rcases a with _ | a
    · cases hc
    · exact kOk1_spec (T := T) (H := H) h a c hc
  | some d :: T, z :: H, h => fun a c hc => by
    have h2 := Bool.and_eq_true_iff.mp h
    rcases a with _ | a
    · cases hc
      have h3 := h2.1
      split at h3
      · rename_i kd hk
        have h4 := Bool.and_eq_true_iff.mp h3
        exact ⟨kd, z, hk, rfl, h4.1, h4.2⟩
      · cases h3
    · exact kOk1_spec (T := T) (H := H) h2.2 a c hc
theorem kOk_spec {KT : vKT} {T : List (Option Nat)} {H : List (XC Int32)} (h : kOk1 KT T H T H = true) : vHp (fun c => KT.1[c]?) (kTy T) H ∧ vNN KT (kTy T) H ∧ vGp KT (kTy T) H ∧ ∀ a c, kTy T a = some c → kRaw KT c = none := by
  have hs := kOk1_spec h
  refine ⟨fun a c ha => ?_, fun a ha => ?_, fun a t vs ha hz => ?_, fun a c ha => ?_⟩
  · obtain ⟨kd, z, h1, h2, h3, -⟩ := hs a c ha
    exact ⟨kd, z, h1, h2, kCell_spec h3⟩
  · obtain ⟨kd, z, h1, h2, -, h4⟩ := hs a _ ha
    unfold kMor at h4
    simp only [Bool.and_eq_true] at h4
    have h5 := h4.1.2
    simp only [decide_true, Bool.not_true, Bool.false_or] at h5
    rcases z with ⟨ci, fs⟩ | z
    rotate_left
    · cases h5
    dsimp only at h5
    split at h5
    rotate_left
    · cases h5
    rename_i n b hn hb
    simp only [Bool.and_eq_true] at h5
    obtain ⟨⟨q1, q2⟩, q3⟩ := h5
    have q1 := of_decide_eq_true q1
    have q2 := of_decide_eq_true q2
    split at q3
    rotate_left
    · cases q3
    rename_i z hz
    refine ⟨ci, fs, n, b, z.1, z.2, h2, hn, hb, q2, hz, fun i hi => ?_⟩
    omega
  · obtain ⟨kd, z, h1, h2, -, h4⟩ := hs a _ ha
    rw [hz] at h2
    cases h2
    unfold kMor at h4
    simp only [Bool.and_eq_true] at h4
    have h5 := h4.2
    simp only [decide_true, Bool.not_true, Bool.false_or] at h5
    have all0 : ∀ (j : Nat) (x : Int32), vs[j]? = some (.inl x) → x = 0 := fun j x hj => of_decide_eq_true (List.all_eq_true.mp h5 _ (List.mem_of_getElem? hj))
    intro b o hb ho
    have e0 := all0 b o ho
    subst e0
    refine ⟨fun _ f hf => ?_, fun h4 _ => ?_⟩
    · rw [all0 _ f hf]
      decide
    · exact absurd h4 (by decide)
  · obtain ⟨kd, z, h1, h2, -, h4⟩ := hs a _ ha
    unfold kMor at h4
    simp only [Bool.and_eq_true] at h4
    exact of_decide_eq_true h4.1.1
end XKok
