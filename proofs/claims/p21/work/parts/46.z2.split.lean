/-! A heap of two sorts of cells: each sort alone, and both again. -/
noncomputable section XSplit
def tyP (p : Nat → Bool) (ty : Nat → Option Nat) : Nat → Option Nat := fun a => match ty a with
  | some c => if p c = true then some c else none
  | none => none
theorem tyP_iff {p : Nat → Bool} {ty : Nat → Option Nat} {a c : Nat} : tyP p ty a = some c ↔ ty a = some c ∧ p c = true := by
  unfold tyP
  rcases ty a with _ | d
  · exact ⟨fun h => (by cases h), fun h => (by cases h.1)⟩
  · dsimp only
    by_cases hp : p d = true
    · rw [if_pos hp]
      exact ⟨fun h => (by cases h; exact ⟨rfl, hp⟩), fun h => h.1⟩
    · rw [if_neg hp]
      exact ⟨fun h => (by cases h), fun h => (by
        obtain ⟨h1, h2⟩ := h
        cases h1
        exact absurd h2 hp)⟩
def zKp (ty : Nat → Option Nat) (H : List (XC Int32)) : List (XC Int32) := H.mapIdx (fun a z => if (ty a).isSome = true then z else zJ)
def zD (ty : Nat → Option Nat) (n : Nat) : Nat → Bool := fun a => decide (a < n) && (ty a).isNone
theorem zKp_len (ty : Nat → Option Nat) (H : List (XC Int32)) : (zKp ty H).length = H.length := List.length_mapIdx
theorem zKp_at (ty : Nat → Option Nat) (H : List (XC Int32)) (a : Nat) : (zKp ty H)[a]? = (H[a]?).map (fun z => if (ty a).isSome = true then z else zJ) := List.getElem?_mapIdx
theorem zKp_ty {ty : Nat → Option Nat} (H : List (XC Int32)) {a c : Nat} (h : ty a = some c) : (zKp ty H)[a]? = H[a]? := by
  rw [zKp_at, h]
  rcases H[a]? with _ | z <;> rfl
theorem zKp_tr (ty : Nat → Option Nat) (H : List (XC Int32)) : zTr (zD ty H.length) (zKp ty H) := fun a ha => by
  unfold zD at ha
  have h := Bool.and_eq_true_iff.mp ha
  have h1 := of_decide_eq_true h.1
  rw [zKp_at, List.getElem?_eq_getElem h1]
  rcases ht : ty a with _ | c
  · rfl
  · rw [ht] at h
    exact absurd h.2 (by simp)
theorem zKp_mx (ty : Nat → Option Nat) (H : List (XC Int32)) : zMx (zD ty H.length) H (zKp ty H) = H := List.ext_getElem? fun a => by
  rw [zMx_at, zKp_at]
  by_cases h1 : a < H.length
  · rw [List.getElem?_eq_getElem h1]
    unfold zD
    rw [decide_eq_true h1]
    rcases ht : ty a with _ | c <;> rfl
  · rw [List.getElem?_eq_none (by omega)]
    rfl
theorem zMx_old {D : Nat → Bool} {H0 G : List (XC Int32)} (h : zTr D G) {a : Nat} (ha : D a = true) (hl : a < H0.length) : (zMx D H0 G)[a]? = H0[a]? := by
  rw [zMx_at, h a ha, ha, List.getElem?_eq_getElem hl]
  rfl
def kClF (p : Nat → Bool) : vF → Bool
  | .inl _ => true
  | .inr q => p q.2
/-- kinds of one sort name kinds of that sort alone -/
def kCl (K : List vKd) (p : Nat → Bool) : Bool := (List.range K.length).all (fun c => !(p c) || (match K[c]? with
  | some (.inl o) => o.2.all (kClF p)
  | some (.inr o) => o.2.2.all (kClF p)
  | none => true))
theorem vFit_kp {p : Nat → Bool} {ty : Nat → Option Nat} {f : vF} {u : XV Int32} (h : vFit ty f u) (hf : kClF p f = true) : vFit (tyP p ty) f u := by
  rcases f with q | q <;> rcases u with x | (_ | a)
  · exact h
  · exact h
  · exact h
  · exact h
  · exact h
  · exact tyP_iff.mpr ⟨h, hf⟩
theorem vCell_kp {p : Nat → Bool} {ty : Nat → Option Nat} {K : List vKd} (hc : kCl K p = true) {c : Nat} (hp : p c = true) {kd : vKd} (hk : K[c]? = some kd) {z : XC Int32} (h : vCell ty kd z) : vCell (tyP p ty) kd z := by
  have h1 := List.all_eq_true.mp hc c (List.mem_range.mpr (List.getElem?_eq_some_iff.mp hk).1)
  rw [hp, hk] at h1
  rcases kd with o | o <;> rcases z with z | z
  · have h1 : o.2.all (kClF p) = true := by simpa using h1
    exact ⟨h.1, h.2.1, fun j f u a b => vFit_kp (h.2.2 j f u a b) (List.all_eq_true.mp h1 f (List.mem_of_getElem? a))⟩
  · exact h.elim
  · exact h.elim
  · have h1 : o.2.2.all (kClF p) = true := by simpa using h1
    exact ⟨h.1, h.2.1, fun j f u a b => vFit_kp (h.2.2 j f u a b) (List.all_eq_true.mp h1 f (List.mem_of_getElem? (show o.2.2[j % o.2.2.length]? = some f from a)))⟩
theorem vPlace_eq {ρ : Nat → Int} {σ : Nat → Nat} {H H2 : List (XC Int32)} {i : Nat} {key : Nat ⊕ lT} {u : XV Int32} (h : vPlace ρ σ H i key u) (e : H2[sR σ i]? = H[sR σ i]?) : vPlace ρ σ H2 i key u := by
  rcases key with j | k
  · obtain ⟨ci, fs, h1, h2⟩ := h
    exact ⟨ci, fs, by rw [e]; exact h1, h2⟩
  · obtain ⟨t, vs, h1, h0, h2⟩ := h
    exact ⟨t, vs, by rw [e]; exact h1, h0, h2⟩
/-- one sort alone -/
theorem vRel_kp {KT : vKT} {p : Nat → Bool} (hc : kCl KT.1 p = true) (hq : p KT.2.1.1 = true → p KT.2.1.2.2.2.1 = true) {ρ : Nat → Int} {σ : Nat → Nat} {ty : Nat → Option Nat} {H : List (XC Int32)} {s : vSt} (h : vRel KT ρ σ ty H s) (hg : (sG s).all p = true) (hf : (sF s).all (fun f => decide (f.1 < (sG s).length)) = true) : vRel KT ρ σ (tyP p ty) (zKp (tyP p ty) H) s := by
  obtain ⟨h1, h2, h3, h4, h5, h6, ⟨h7, h8⟩, h9⟩ := h
  have hs : ∀ i c, (sG s)[i]? = some c → tyP p ty (sR σ i) = some c := fun i c hi => tyP_iff.mpr ⟨h2 i c hi, List.all_eq_true.mp hg c (List.mem_of_getElem? hi)⟩
  refine ⟨fun a c ha => ?_, hs, fun f hm => ?_, h4, h5, h6, ⟨fun a ha => ?_, fun a t vs ha hH => ?_⟩, fun a c d ha hd => h9 a c d (tyP_iff.mp ha).1 hd⟩
  · obtain ⟨ha1, ha2⟩ := tyP_iff.mp ha
    obtain ⟨kd, z, k1, k2, k3⟩ := h1 a c ha1
    exact ⟨kd, z, k1, by rw [zKp_ty H ha]; exact k2, vCell_kp hc ha2 k1 k3⟩
  · have hl := of_decide_eq_true (List.all_eq_true.mp hf f hm)
    have hi : (sG s)[f.1]? = some ((sG s)[f.1]'hl) := List.getElem?_eq_getElem hl
    exact (h3 f hm).imp_left (fun z => vPlace_eq z (zKp_ty H (hs _ _ hi)))
  · obtain ⟨ha1, ha2⟩ := tyP_iff.mp ha
    obtain ⟨ci, fs, n, b, t, vs, y1, y2, y3, y4, y5, y6⟩ := h7 a ha1
    have hb : tyP p ty b = some KT.2.1.2.2.2.1 := tyP_iff.mpr ⟨y4, hq ha2⟩
    exact ⟨ci, fs, n, b, t, vs, by rw [zKp_ty H ha]; exact y1, y2, y3, hb, by rw [zKp_ty H hb]; exact y5, y6⟩
  · exact h8 a t vs (tyP_iff.mp ha).1 (by rw [← zKp_ty H ha]; exact hH)
theorem vRel_pad {KT : vKT} {ρ : Nat → Int} {σ : Nat → Nat} {ty : Nat → Option Nat} {H : List (XC Int32)} {s : vSt} (h : vRel KT ρ σ ty H s) (hf : (sF s).all (fun f => decide (f.1 < (sG s).length)) = true) (l : List (XC Int32)) : vRel KT ρ σ ty (H ++ l) s := by
  obtain ⟨h1, h2, h3, h4, h5, h6, ⟨h7, h8⟩, h9⟩ := h
  have e : ∀ a c, ty a = some c → (H ++ l)[a]? = H[a]? := fun a c ha => List.getElem?_append_left (vHp_lt h1 ha)
  refine ⟨fun a c ha => ?_, h2, fun f hm => ?_, h4, h5, h6, ⟨fun a ha => ?_, fun a t vs ha hH => ?_⟩, h9⟩
  · obtain ⟨kd, z, k1, k2, k3⟩ := h1 a c ha
    exact ⟨kd, z, k1, by rw [e a c ha]; exact k2, k3⟩
  · have hl := of_decide_eq_true (List.all_eq_true.mp hf f hm)
    have hi : (sG s)[f.1]? = some ((sG s)[f.1]'hl) := List.getElem?_eq_getElem hl
    exact (h3 f hm).imp_left (fun z => vPlace_eq z (e _ _ (h2 _ _ hi)))
  · obtain ⟨ci, fs, n, b, t, vs, y1, y2, y3, y4, y5, y6⟩ := h7 a ha
    exact ⟨ci, fs, n, b, t, vs, by rw [e a _ ha]; exact y1, y2, y3, y4, by rw [e b _ y4]; exact y5, y6⟩
  · exact h8 a t vs ha (by rw [← e a _ ha]; exact hH)
/-- both again: symbols of the second behind those of the first -/
def vShf (n : Nat) : vA → vA
  | .inr (some i) => .inr (some (if i < 1000000 then n + i else i))
  | v => v
def jSt (X Y : vAn) : vSt := ((aI X).length, aG X ++ aG Y, aF X ++ (aF Y).map (fun f => ((aG X).length + f.1, f.2.1, vShf (aG X).length f.2.2)), zipI 0 (aI X), aC X, aM X, [])
def sJo (n : Nat) (σA σB : Nat → Nat) (i : Nat) : Nat := if i < n then sR σA i else sR σB (i - n)
theorem vRel_jn {KT : vKT} {ρ : Nat → Int} {σA σB : Nat → Nat} {tyA tyB ty : Nat → Option Nat} {GA GB H : List (XC Int32)} {X Y : vAn} (hA : vRel KT ρ σA tyA GA (aSt X)) (hB : vRel KT ρ σB tyB GB (aSt Y)) (bX : aBd X = true) (bY : aBd Y = true) (hn : (aG X).length + (aG Y).length < 1000000)
    (h1 : ∀ a c, tyA a = some c → ty a = some c ∧ H[a]? = GA[a]?) (h2 : ∀ a c, tyB a = some c → ty a = some c ∧ H[a]? = GB[a]?) (h3 : ∀ a c, ty a = some c → tyA a = some c ∨ tyB a = some c) : vRel KT ρ (sJo (aG X).length σA σB) ty H (jSt X Y) := by
  obtain ⟨a1, a2, a3, a4, a5, a6, ⟨a7, a8⟩, a9⟩ := hA
  obtain ⟨b1, b2, b3, b4, b5, b6, ⟨b7, b8⟩, b9⟩ := hB
  have sA : ∀ i, i < (aG X).length → sR (sJo (aG X).length σA σB) i = sR σA i := fun i hi => by
    show (if i < 1000000 then sJo (aG X).length σA σB i else i) = _
    rw [if_pos (by omega)]
    exact if_pos hi
  have sB : ∀ i, i < (aG Y).length → sR (sJo (aG X).length σA σB) ((aG X).length + i) = sR σB i := fun i hi => by
    show (if (aG X).length + i < 1000000 then sJo (aG X).length σA σB ((aG X).length + i) else (aG X).length + i) = _
    rw [if_pos (by omega)]
    unfold sJo
    rw [if_neg (by omega), Nat.add_sub_cancel_left]
  unfold aBd at bX bY
  simp only [Bool.and_eq_true] at bX bY
  have cA : ∀ v, vBd (aI X).length (aG X).length v = true → cv ρ (sJo (aG X).length σA σB) v = cv ρ σA v := fun v hv => by
    rcases v with e | (_ | i)
    · rfl
    · rfl
    · have hv : (decide (i < (aG X).length) || decide (1000000 ≤ i)) = true := hv
      show (Sum.inr (some (sR _ i)) : XV Int32) = .inr (some (sR σA i))
      rcases Bool.or_eq_true_iff.mp hv with hv | hv
      · rw [sA i (of_decide_eq_true hv)]
      · have := of_decide_eq_true hv
        unfold sR
        rw [if_neg (by omega), if_neg (by omega)]
  have cB : ∀ v, vBd (aI Y).length (aG Y).length v = true → cv ρ (sJo (aG X).length σA σB) (vShf (aG X).length v) = cv ρ σB v := fun v hv => by
    rcases v with e | (_ | i)
    · rfl
    · rfl
    · have hv : (decide (i < (aG Y).length) || decide (1000000 ≤ i)) = true := hv
      show (Sum.inr (some (sR _ (if i < 1000000 then (aG X).length + i else i))) : XV Int32) = .inr (some (sR σB i))
      rcases Bool.or_eq_true_iff.mp hv with hv | hv
      · have hv := of_decide_eq_true hv
        rw [if_pos (by omega), sB i hv]
      · have := of_decide_eq_true hv
        rw [if_neg (by omega)]
        unfold sR
        rw [if_neg (by omega), if_neg (by omega)]
  refine ⟨fun a c ha => ?_, fun i c hc => ?_, fun f hm => ?_, a4, a5, a6, ⟨fun a ha => ?_, fun a t vs ha hH => ?_⟩, fun a c d ha hd => ?_⟩
  · rcases h3 a c ha with h | h
    · obtain ⟨kd, z, k1, k2, k3⟩ := a1 a c h
      exact ⟨kd, z, k1, by rw [(h1 a c h).2]; exact k2, vCell_le (fun x y hx => (h1 x y hx).1) k3⟩
    · obtain ⟨kd, z, k1, k2, k3⟩ := b1 a c h
      exact ⟨kd, z, k1, by rw [(h2 a c h).2]; exact k2, vCell_le (fun x y hx => (h2 x y hx).1) k3⟩
  · have hc : (aG X ++ aG Y)[i]? = some c := hc
    by_cases hi : i < (aG X).length
    · rw [List.getElem?_append_left hi] at hc
      rw [sA i hi]
      exact (h1 _ _ (a2 i c hc)).1
    · rw [List.getElem?_append_right (by omega)] at hc
      have hl := (List.getElem?_eq_some_iff.mp hc).1
      have e : i = (aG X).length + (i - (aG X).length) := by omega
      rw [e, sB _ hl]
      exact (h2 _ _ (b2 _ c hc)).1
  · rcases List.mem_append.mp hm with hm | hm
    · have h0 := List.all_eq_true.mp bX.1.1.1.1 f hm
      simp only [Bool.and_eq_true] at h0
      have hl := of_decide_eq_true h0.1.1
      have hi : (aG X)[f.1]? = some ((aG X)[f.1]'hl) := List.getElem?_eq_getElem hl
      rcases a3 f hm with h4 | ⟨k, k1, k2, k3⟩
      rotate_left
      · have h6 := h0.2
        rw [k2] at h6
        have h6 : (decide (k < (aG X).length) || decide (1000000 ≤ k)) = true := h6
        refine Or.inr ⟨k, k1, k2, ?_⟩
        have e2 : sR (sJo (aG X).length σA σB) k = sR σA k := by
          rcases Bool.or_eq_true_iff.mp h6 with h6 | h6
          · exact sA k (of_decide_eq_true h6)
          · have := of_decide_eq_true h6
            unfold sR
            rw [if_neg (by omega), if_neg (by omega)]
        rw [sA _ hl, e2]
        exact k3
      refine Or.inl ?_
      have h5 := vPlace_eq (H2 := H) h4 (h1 _ _ (a2 _ _ hi)).2
      show vPlace ρ (sJo (aG X).length σA σB) H f.1 f.2.1 (cv ρ (sJo (aG X).length σA σB) f.2.2)
      rw [cA _ h0.2]
      obtain ⟨i, key, v⟩ := f
      rcases key with j | k
      · obtain ⟨ci, fs, y1, y2⟩ := h5
        exact ⟨ci, fs, by rw [sA i hl]; exact y1, y2⟩
      · obtain ⟨t, vs, y1, y0, y2⟩ := h5
        exact ⟨t, vs, by rw [sA i hl]; exact y1, y0, y2⟩
    · obtain ⟨g, hg, rfl⟩ := List.mem_map.mp hm
      have h0 := List.all_eq_true.mp bY.1.1.1.1 g hg
      simp only [Bool.and_eq_true] at h0
      have hl := of_decide_eq_true h0.1.1
      have hi : (aG Y)[g.1]? = some ((aG Y)[g.1]'hl) := List.getElem?_eq_getElem hl
      rcases b3 g hg with h4 | ⟨k, k1, k2, k3⟩
      rotate_left
      · have h6 := h0.2
        rw [k2] at h6
        have h6 : (decide (k < (aG Y).length) || decide (1000000 ≤ k)) = true := h6
        refine Or.inr ⟨if k < 1000000 then (aG X).length + k else k, k1, by
          show vShf (aG X).length g.2.2 = _
          rw [k2]
          rfl, ?_⟩
        have e2 : sR (sJo (aG X).length σA σB) (if k < 1000000 then (aG X).length + k else k) = sR σB k := by
          rcases Bool.or_eq_true_iff.mp h6 with h6 | h6
          · have h6 := of_decide_eq_true h6
            rw [if_pos (by omega), sB k h6]
          · have := of_decide_eq_true h6
            rw [if_neg (by omega)]
            unfold sR
            rw [if_neg (by omega), if_neg (by omega)]
        show sR _ ((aG X).length + g.1) ≠ _
        rw [sB _ hl, e2]
        exact k3
      refine Or.inl ?_
      have h5 := vPlace_eq (H2 := H) h4 (h2 _ _ (b2 _ _ hi)).2
      show vPlace ρ (sJo (aG X).length σA σB) H ((aG X).length + g.1) g.2.1 (cv ρ (sJo (aG X).length σA σB) (vShf (aG X).length g.2.2))
      rw [cB _ h0.2]
      obtain ⟨i, key, v⟩ := g
      rcases key with j | k
      · obtain ⟨ci, fs, y1, y2⟩ := h5
        exact ⟨ci, fs, by rw [sB i hl]; exact y1, y2⟩
      · obtain ⟨t, vs, y1, y0, y2⟩ := h5
        exact ⟨t, vs, by rw [sB i hl]; exact y1, y0, y2⟩
  · rcases h3 a _ ha with h | h
    · obtain ⟨ci, fs, n, b, t, vs, y1, y2, y3, y4, y5, y6⟩ := a7 a h
      exact ⟨ci, fs, n, b, t, vs, by rw [(h1 a _ h).2]; exact y1, y2, y3, (h1 b _ y4).1, by rw [(h1 b _ y4).2]; exact y5, y6⟩
    · obtain ⟨ci, fs, n, b, t, vs, y1, y2, y3, y4, y5, y6⟩ := b7 a h
      exact ⟨ci, fs, n, b, t, vs, by rw [(h2 a _ h).2]; exact y1, y2, y3, (h2 b _ y4).1, by rw [(h2 b _ y4).2]; exact y5, y6⟩
  · rcases h3 a _ ha with h | h
    · exact a8 a t vs h (by rw [← (h1 a _ h).2]; exact hH)
    · exact b8 a t vs h (by rw [← (h2 a _ h).2]; exact hH)
  · rcases h3 a c ha with h | h
    · obtain ⟨i, hi, -⟩ := a9 a c d h hd
      cases hi
    · obtain ⟨i, hi, -⟩ := b9 a c d h hd
      cases hi
/-- a run on its own cells is that run on all -/
theorem x_To_fr {tb : XT} {tyl : List FieldType} {ot : XO Int32} {dp k pc cn sn : Nat} {L : List (Nat × XV Int32)} {S : List (XV Int32)} {v : Option (XV Int32)} {G G2 HX : List (XC Int32)} {D : Nat → Bool} (h : x_To tb tyl ot dp k pc L S G cn sn v G2) (ht : zTr D G) (hm : zMx D HX G = HX) : x_To tb tyl ot dp k pc L S HX cn sn v (zMx D HX G2) ∧ zTr D G2 := by
  obtain ⟨f1, h⟩ := h
  obtain ⟨t0, -⟩ := h f1 (Nat.le_refl _) D HX ht
  have hlen : HX.length = G.length := by
    rw [← hm, zMx_len]
  refine ⟨⟨f1, fun f hf D2 H3 ht2 => ?_⟩, t0⟩
  have hg : ∀ a, D a = false → HX[a]? = G[a]? := fun a ha => by
    rw [← hm, zMx_get HX ha]
  have hx : ∀ a, D a = true → ∃ z, HX[a]? = some z := fun a ha => ⟨_, List.getElem?_eq_getElem (by rw [hlen]; exact zTr_lt ht ha)⟩
  have ht3 : zTr (fun a => D a || D2 a) G := fun a ha => by
    rcases hd : D a with _ | _
    · rw [← hg a hd]
      exact ht2 a (by simpa [hd] using ha)
    · exact ht a hd
  have e1 : zMx (fun a => D a || D2 a) (zMx D2 H3 HX) G = zMx D2 H3 HX := List.ext_getElem? fun a => by
    rw [zMx_at]
    rcases hd : D a with _ | _
    · rw [← hg a hd]
      rcases hd2 : D2 a with _ | _
      · rw [zMx_get H3 hd2]
        rcases HX[a]? with _ | z <;> rfl
      · rw [zMx_at, ht2 a hd2, hd2]
        rfl
    · obtain ⟨z, hz⟩ := hx a hd
      rw [ht a hd, zMx_at, hz]
      rcases D2 a <;> rfl
  obtain ⟨t1, h1⟩ := h f hf (fun a => D a || D2 a) (zMx D2 H3 HX) ht3
  have e2 : zMx (fun a => D a || D2 a) (zMx D2 H3 HX) G2 = zMx D2 H3 (zMx D HX G2) := List.ext_getElem? fun a => by
    rcases hd : D a with _ | _
    · rcases hd2 : D2 a with _ | _
      · rw [zMx_get (D := fun a => D a || D2 a) _ (show (D a || D2 a) = false by rw [hd, hd2]; rfl), zMx_get H3 hd2, zMx_get HX hd]
      · have g2 : G2[a]? = some zJ := t1 a (show (D a || D2 a) = true by rw [hd, hd2]; rfl)
        rw [zMx_at, g2, zMx_at D2 H3 (zMx D HX G2), zMx_get HX hd, g2, zMx_at D2 H3 HX, ht2 a hd2]
        simp [hd2]
    · obtain ⟨z, hz⟩ := hx a hd
      rw [zMx_at, t0 a hd, zMx_at D2 H3 (zMx D HX G2), zMx_at D HX G2, t0 a hd, zMx_at D2 H3 HX, hz]
      simp [hd]
  refine ⟨fun a ha => ?_, fun w post => ?_⟩
  · rcases hd : D a with _ | _
    · rw [zMx_get HX hd]
      exact t1 a (show (D a || D2 a) = true by rw [hd, ha]; rfl)
    · obtain ⟨z, hz⟩ := hx a hd
      rw [zMx_at, t0 a hd, hd, hz]
      show some z = some zJ
      rw [← hz]
      exact ht2 a ha
  · have h2 := h1 w post
    rw [e1, e2] at h2
    exact h2
/-- one behind the other, on all cells -/
theorem pSeq {tb : XT} {tyl : List FieldType} {ot : XO Int32} {dA dB kA kB : Nat} {LA LB : List (Nat × XV Int32)} {SA SB : List (XV Int32)} {tyA tyB : Nat → Option Nat} {H : List (XC Int32)} (hAB : ∀ a c, tyB a = some c → tyA a = none ∧ a < H.length)
    {Q : Option (XV Int32) → List (XC Int32) → Option (XV Int32) → List (XC Int32) → Prop} (hlen : ∀ vA H1 vB H2, Q vA H1 vB H2 → ∀ a c, tyA a = some c → a < H1.length)
    (hP : ∀ n, ∃ vA H1 vB H2, x_To tb tyl ot dA kA 0 LA SA (zKp tyA H) 0 0 vA H1 ∧ x_To tb tyl ot dB kB 0 LB SB (zKp tyB H ++ List.replicate n zJ) 0 0 vB H2 ∧ Q vA H1 vB H2) :
    ∃ vA H1 vB H2 HA HH, x_To tb tyl ot dA kA 0 LA SA H 0 0 vA HA ∧ x_To tb tyl ot dB kB 0 LB SB HA 0 0 vB HH ∧ Q vA H1 vB H2 ∧ HA.length = H1.length ∧ H.length ≤ H1.length ∧ HH.length = H2.length ∧ (∀ a, (a < H.length ∧ tyA a = none → HA[a]? = H[a]?) ∧ (¬ (a < H.length ∧ tyA a = none) → HA[a]? = H1[a]?)) ∧ (∀ a, (a < HA.length ∧ tyB a = none → HH[a]? = HA[a]?) ∧ (¬ (a < HA.length ∧ tyB a = none) → HH[a]? = H2[a]?)) := by
  obtain ⟨vA, H1, v0, H0, p1, -, p3⟩ := hP 0
  obtain ⟨wA, J1, vB, H2, q1, q2, q3⟩ := hP (H1.length - H.length)
  obtain ⟨e1, e2⟩ := x_To_one p1 q1
  subst e1
  subst e2
  have dT : ∀ (ty : Nat → Option Nat) (n a : Nat), a < n ∧ ty a = none → zD ty n a = true := fun ty n a h => by
    unfold zD
    rw [decide_eq_true h.1, h.2]
    rfl
  have dF : ∀ (ty : Nat → Option Nat) (n a : Nat), ¬ (a < n ∧ ty a = none) → zD ty n a = false := fun ty n a h => by
    unfold zD
    by_cases c : a < n
    · rw [decide_eq_true c]
      rcases ht : ty a with _ | d
      · exact absurd ⟨c, ht⟩ h
      · rfl
    · rw [decide_eq_false c]
      rfl
  obtain ⟨a1, a2⟩ := x_To_fr p1 (zKp_tr tyA H) (zKp_mx tyA H)
  have hle : H.length ≤ J1.length := Classical.byContradiction fun hc => by
    rcases ht : tyA J1.length with _ | c
    · exact absurd (zTr_lt a2 (dT tyA H.length J1.length ⟨by omega, ht⟩)) (by omega)
    · exact absurd (hlen _ _ _ _ q3 _ c ht) (by omega)
  have hA1 : ∀ a, a < H.length ∧ tyA a = none → (zMx (zD tyA H.length) H J1)[a]? = H[a]? := fun a h => zMx_old a2 (dT _ _ _ h) h.1
  have hA2 : ∀ a, ¬ (a < H.length ∧ tyA a = none) → (zMx (zD tyA H.length) H J1)[a]? = J1[a]? := fun a h => zMx_get H (dF _ _ _ h)
  have hlA : (zMx (zD tyA H.length) H J1).length = J1.length := zMx_len _ _ _
  have hG : ∀ a, tyB a = none → a < J1.length → (zKp tyB H ++ List.replicate (J1.length - H.length) zJ)[a]? = some zJ := fun a h1 h2 => by
    by_cases c : a < H.length
    · rw [List.getElem?_append_left (by rw [zKp_len]; exact c)]
      exact zKp_tr tyB H a (dT tyB H.length a ⟨c, h1⟩)
    · rw [List.getElem?_append_right (by rw [zKp_len]; omega), zKp_len, List.getElem?_replicate, if_pos (by omega)]
  obtain ⟨b1, b2⟩ := x_To_fr (D := zD tyB J1.length) (HX := zMx (zD tyA H.length) H J1) q2 (fun a ha => by
      unfold zD at ha
      have h := Bool.and_eq_true_iff.mp ha
      exact hG a (by simpa using h.2) (of_decide_eq_true h.1)) (List.ext_getElem? fun a => by
      by_cases c : a < J1.length
      · rcases ht : tyB a with _ | d
        · rw [zMx_at, hG a ht c, dT tyB J1.length a ⟨c, ht⟩, List.getElem?_eq_getElem (by rw [hlA]; exact c)]
          rfl
        · obtain ⟨g1, g2⟩ := hAB a d ht
          rw [zMx_get _ (dF tyB J1.length a (fun h => by rw [ht] at h; cases h.2)), hA1 a ⟨g2, g1⟩, List.getElem?_append_left (by rw [zKp_len]; exact g2), zKp_ty H ht]
      · rw [List.getElem?_eq_none (by rw [zMx_len, List.length_append, zKp_len, List.length_replicate]; omega), List.getElem?_eq_none (by rw [hlA]; omega)])
  refine ⟨_, J1, vB, H2, _, _, a1, b1, q3, hlA, hle, zMx_len _ _ _, fun a => ⟨hA1 a, hA2 a⟩, fun a => ⟨fun h => ?_, fun h => ?_⟩⟩
  · rw [hlA] at h
    exact zMx_old b2 (dT _ _ _ h) (by rw [hlA]; exact h.1)
  · rw [hlA] at h
    exact zMx_get _ (dF _ _ _ h)
end XSplit
