/-! Families at the head over calls that are known from elsewhere. -/
noncomputable section XHead2
theorem wNz {ρ : Nat → Int} {σ : Nat → Nat} {H : List (XC Int32)} {f : vK} (h : vPlace ρ σ H f.1 f.2.1 (cv ρ σ f.2.2)) : H[sR σ f.1]? ≠ some zJ ∧ ∃ z, H[sR σ f.1]? = some z := by
  obtain ⟨i, j | l, v⟩ := f
  · obtain ⟨ci, fs, y1, y2⟩ := h
    have y1 : H[sR σ i]? = some (.inl (ci, fs)) := y1
    refine ⟨fun e => ?_, _, y1⟩
    have e : H[sR σ i]? = some zJ := e
    rw [y1] at e
    cases e
  · obtain ⟨t, vs, y1, y0, y2⟩ := h
    have y1 : H[sR σ i]? = some (.inr (t, vs)) := y1
    refine ⟨fun e => ?_, _, y1⟩
    have e : H[sR σ i]? = some zJ := e
    rw [y1] at e
    cases e
    cases y2
/-- families over a pair of calls that went, on the heap of both, by the calls gone through again on heaps apart -/
theorem wJn {KT : vKT} {tb : XT} {tyl : List FieldType} {ot : XO Int32} {NE : vAn} {FS : List wN} {GA0 GB0 : List Nat} (hFS : ∀ u ∈ FS, wOk KT GA0 GB0 u = true) (hFB : wFB FS = true) {pA pB : Nat → Bool} (cA : kCl KT.1 pA = true) (cB : kCl KT.1 pB = true) (qA : pA KT.2.1.1 = true → pA KT.2.1.2.2.2.1 = true) (qB : pB KT.2.1.1 = true → pB KT.2.1.2.2.2.1 = true) (hd : ∀ c, pA c = true → pB c = true → False)
    {τA τB : List Nat} {e : wE} (mA1 : vMc (aNl (wNA e)) ((List.range (aI NE).length).map lSy) τA [] [] (aSt NE) = true) (mB1 : vMc (aNl (wNB e)) ((List.range (aI NE).length).map lSy) τB [] [] (aSt NE) = true) (gA : (aG (wNA e)).all pA = true) (gB : (aG (wNB e)).all pB = true) (bA : aBd (wNA e) = true) (bB : aBd (wNB e) = true) (hE : wEn e = true) (kG : aG (wNA e) = GA0) (kH : aG (wNB e) = GB0) (kL : τA.length = GA0.length) (kM : τB.length = GB0.length) (kU : wUs e = List.range FS.length)
    {kA kB d dpA dpB : Nat} {xA xB : XM} (hxA : tMth tb kA = some xA) (hxB : tMth tb kB = some xB) (hdA : dpA ≤ d) (hdB : dpB ≤ d)
    {ρ : Nat → Int} {σ : Nat → Nat} {ty : Nat → Option Nat} {H : List (XC Int32)} (h : vRel KT ρ σ ty H (aSt NE)) (hP : lwPw FS τA τB σ ty H) (hlen : H.length + (mMc xA + mMc xB) ≤ 1000000) {LA LB : List (Nat × XV Int32)} (cvA : vCov (rO ρ ((List.range (aI NE).length).map lSy)) (sO σ τA) (aL (wNA e)) LA) (cvB : vCov (rO ρ ((List.range (aI NE).length).map lSy)) (sO σ τB) (aL (wNB e)) LB) (z4 : aCn (wNA e) = lK 0 ∧ aSn (wNA e) = lK 0 ∧ aCn (wNB e) = lK 0 ∧ aSn (wNB e) = lK 0)
    {u : wN} (hu : u ∈ FS) (hRe : wRe KT tb tyl ot FS GA0.length GB0.length kA kB dpA dpB true e u) {vA vB : Option (XV Int32)} (hvv : vA = vB) {HA HH : List (XC Int32)} (z1 : x_To tb tyl ot d kA 0 LA [] H 0 0 vA HA) (z2 : x_To tb tyl ot d kB 0 LB [] HA 0 0 vB HH)
    {σ2 : Nat → Nat} (hs : ∀ i, i ∈ τA ∨ i ∈ τB → sR σ2 i = sR σ i) : wHd GA0.length GB0.length u (sO σ2 τA) (sO σ2 τB) HH HH := by
  obtain ⟨eA, -, -, -, -, -⟩ := vMc_spec h mA1
  obtain ⟨eB, -, -, -, -, -⟩ := vMc_spec h mB1
  have fA : (sF (aSt (wNA e))).all (fun f => decide (f.1 < (sG (aSt (wNA e))).length)) = true := by
    unfold aBd at bA
    simp only [Bool.and_eq_true] at bA
    refine List.all_eq_true.mpr fun f hf => ?_
    have h0 := List.all_eq_true.mp bA.1.1.1.1 f hf
    simp only [Bool.and_eq_true] at h0
    exact h0.1.1
  have fB : (sF (aSt (wNB e))).all (fun f => decide (f.1 < (sG (aSt (wNB e))).length)) = true := by
    unfold aBd at bB
    simp only [Bool.and_eq_true] at bB
    refine List.all_eq_true.mpr fun f hf => ?_
    have h0 := List.all_eq_true.mp bB.1.1.1.1 f hf
    simp only [Bool.and_eq_true] at h0
    exact h0.1.1
  have rA := vRel_kp (s := aSt (wNA e)) cA qA eA gA fA
  have rB := vRel_kp (s := aSt (wNB e)) cB qB eB gB fB
  have hlt : ∀ a c, ty a = some c → a < H.length := fun a c ha => vHp_lt h.1 ha
  have hAB : ∀ a c, tyP pB ty a = some c → tyP pA ty a = none ∧ a < H.length := fun a c hc => by
    obtain ⟨z1, z2⟩ := tyP_iff.mp hc
    refine ⟨?_, hlt a c z1⟩
    rcases hx : tyP pA ty a with _ | e
    · rfl
    · obtain ⟨z3, z4⟩ := tyP_iff.mp hx
      rw [z1] at z3
      cases z3
      exact (hd c z4 z2).elim
  unfold wEn at hE
  simp only [Bool.and_eq_true] at hE
  obtain ⟨⟨⟨n1, n2⟩, n3⟩, n4⟩ := hE
  have n1 := of_decide_eq_true n1
  have n2 := of_decide_eq_true n2
  obtain ⟨w1, w2, w3, w4⟩ := z4
  let b : Nat → pC := fun n => (rO ρ ((List.range (aI NE).length).map lSy), sO σ τA, sO σ τB, tyP pA ty, tyP pB ty, zKp (tyP pA ty) H, zKp (tyP pB ty) H ++ List.replicate n zJ)
  have hb2 : ∀ n a c, tyP pB ty a = some c → (zKp (tyP pB ty) H ++ List.replicate n zJ)[a]? = H[a]? := fun n a c ha => by
    rw [List.getElem?_append_left (by rw [zKp_len]; exact (hAB a c ha).2), zKp_ty H ha]
  have hpAb : vHp (fun c => KT.1[c]?) (tyP pA ty) H := fun a c ha => by
    obtain ⟨kd, z, g1, g2, g3⟩ := rA.1 a c ha
    rw [zKp_ty H ha] at g2
    exact ⟨kd, z, g1, g2, g3⟩
  have hpBb : vHp (fun c => KT.1[c]?) (tyP pB ty) H := fun a c ha => by
    obtain ⟨kd, z, g1, g2, g3⟩ := rB.1 a c ha
    rw [zKp_ty H ha] at g2
    exact ⟨kd, z, g1, g2, g3⟩
  have bsA : ∀ (i c : Nat), GA0[i]? = some c → tyP pA ty (sR (sO σ τA) i) = some c := fun i c hc => rA.2.1 i c (by
    rw [← kG] at hc
    exact hc)
  have bsB : ∀ (i c : Nat), GB0[i]? = some c → tyP pB ty (sR (sO σ τB) i) = some c := fun i c hc => rB.2.1 i c (by
    rw [← kH] at hc
    exact hc)
  have at_ : ∀ n, n ≤ mMc xA → wAt KT FS GA0.length GB0.length (mMc xA) (mMc xB) H.length (H.length + n) e (b n) LA LB 0 0 0 0 := fun n hn => ⟨rA, vRel_pad rB fB _, by
      rw [n1]
      refine ⟨⟨by
        show (zKp (tyP pA ty) H).length ≤ H.length + 0
        rw [zKp_len]
        exact Nat.le_refl _, by
        show (zKp (tyP pA ty) H).length ≤ 1000000
        rw [zKp_len]
        omega⟩, cvA, ?_, ?_⟩
      · rw [w1, lK_ev]
        exact Int.le_refl _
      · rw [w2, lK_ev]
        exact Int.le_refl _, by
      rw [n2]
      refine ⟨⟨by
        show (zKp (tyP pB ty) H ++ List.replicate n zJ).length ≤ H.length + n + 0
        rw [List.length_append, zKp_len, List.length_replicate]
        omega, by
        show (zKp (tyP pB ty) H ++ List.replicate n zJ).length ≤ 1000000
        rw [List.length_append, zKp_len, List.length_replicate]
        omega⟩, cvB, ?_, ?_⟩
      · rw [w3, lK_ev]
        exact Int.le_refl _
      · rw [w4, lK_ev]
        exact Int.le_refl _, fun i hi v hv => by
      have hv := List.mem_of_getElem? hv
      have w := hP v hv
      rw [kL, kM] at w
      exact wHd_typ (hFS v hv) (List.all_eq_true.mp hFB v hv) hpAb hpBb bsA bsB (fun a c ha => zKp_ty H ha) (hb2 n) w⟩
  have dT : ∀ (ty : Nat → Option Nat) (n a : Nat), a < n ∧ ty a = none → zD ty n a = true := fun ty n a h => by
    unfold zD
    rw [decide_eq_true h.1, h.2]
    rfl
  have dF : ∀ (ty : Nat → Option Nat) (n a : Nat), ¬ (a < n ∧ ty a = none) → zD ty n a = false := fun ty n a h => by
    unfold zD
    by_cases c : a < n
    · rw [decide_eq_true c]
      rcases ht : ty a with _ | d
      · exact absurd ⟨c, ht⟩ h
      · rfl
    · rw [decide_eq_false c]
      rfl
  intro ρ9 p1 p2 p3
  have sxA : ∀ i, i < GA0.length → sR (sO σ2 τA) i = sR (sO σ τA) i := fun i hi => by
    unfold sR
    by_cases c : i < 1000000
    · rw [if_pos c, if_pos c]
      unfold sO
      have e0 : τA[i]? = some (τA[i]'(by omega)) := List.getElem?_eq_getElem (by omega)
      rw [List.getD_eq_getElem?_getD, e0]
      exact hs _ (Or.inl (List.mem_of_getElem? e0))
    · rw [if_neg c, if_neg c]
  have sxB : ∀ i, i < GB0.length → sR (sO σ2 τB) i = sR (sO σ τB) i := fun i hi => by
    unfold sR
    by_cases c : i < 1000000
    · rw [if_pos c, if_pos c]
      unfold sO
      have e0 : τB[i]? = some (τB[i]'(by omega)) := List.getElem?_eq_getElem (by omega)
      rw [List.getD_eq_getElem?_getD, e0]
      exact hs _ (Or.inr (List.mem_of_getElem? e0))
    · rw [if_neg c, if_neg c]
  have go : ∀ n, n ≤ mMc xA → _ := fun n hn => hRe xA xB d d H.length (H.length + n) hxA hxB hdA hdB (by omega) (by omega) (b n) LA LB 0 0 0 0 (at_ n hn) (fun j => ρ9 ((wPi u).length + j)) p2
  obtain ⟨v0, J1, u0, K1, x1, -, x3, -⟩ := go 0 (Nat.zero_le _)
  have x1 : x_To tb tyl ot d kA 0 LA [] (zKp (tyP pA ty) H) 0 0 v0 J1 := x1
  have l1 : J1.length ≤ H.length + mMc xA := x3.1
  obtain ⟨a1, a2⟩ := x_To_fr x1 (zKp_tr (tyP pA ty) H) (zKp_mx (tyP pA ty) H)
  obtain ⟨evA, eHA⟩ := x_To_one z1 a1
  obtain ⟨v1, H1, u1, H2, q1, q2, -, q3⟩ := go (J1.length - H.length) (by omega)
  have q1 : x_To tb tyl ot d kA 0 LA [] (zKp (tyP pA ty) H) 0 0 v1 H1 := q1
  obtain ⟨evA2, e2⟩ := x_To_one x1 q1
  subst e2
  have lenH : (zMx (zD (tyP pA ty) H.length) H H1).length = H1.length := zMx_len _ _ _
  have hA1 : ∀ a, a < H.length ∧ tyP pA ty a = none → (zMx (zD (tyP pA ty) H.length) H H1)[a]? = H[a]? := fun a h => zMx_old a2 (dT _ _ _ h) h.1
  have hA2 : ∀ a, ¬ (a < H.length ∧ tyP pA ty a = none) → (zMx (zD (tyP pA ty) H.length) H H1)[a]? = H1[a]? := fun a h => zMx_get H (dF _ _ _ h)
  have hG : ∀ a, tyP pB ty a = none → a < H1.length → (zKp (tyP pB ty) H ++ List.replicate (H1.length - H.length) zJ)[a]? = some zJ := fun a h1 h2 => by
    by_cases c : a < H.length
    · rw [List.getElem?_append_left (by rw [zKp_len]; exact c)]
      exact zKp_tr (tyP pB ty) H a (dT (tyP pB ty) H.length a ⟨c, h1⟩)
    · rw [List.getElem?_append_right (by rw [zKp_len]; omega), zKp_len, List.getElem?_replicate, if_pos (by omega)]
  -- the heap grows: a cell of the first's kinds stands at its end, or there is none more
  have hle : H.length ≤ H1.length := Classical.byContradiction fun hc => by
    rcases ht : tyP pA ty H1.length with _ | c
    · exact absurd (zTr_lt a2 (dT (tyP pA ty) H.length H1.length ⟨by omega, ht⟩)) (by omega)
    · obtain ⟨W, yF⟩ := x3.2.2
      obtain ⟨z2, k3, -⟩ := yF H1.length c _ ht (by
        show (zKp (tyP pA ty) H)[H1.length]? = some (H[H1.length]'(by omega))
        rw [zKp_ty H ht]
        exact List.getElem?_eq_getElem (by omega))
      exact absurd (List.getElem?_eq_some_iff.mp k3).1 (by omega)
  obtain ⟨b1, b2⟩ := x_To_fr (D := zD (tyP pB ty) H1.length) (HX := zMx (zD (tyP pA ty) H.length) H H1) q2 (fun a ha => by
      unfold zD at ha
      have h := Bool.and_eq_true_iff.mp ha
      exact hG a (by simpa using h.2) (of_decide_eq_true h.1)) (List.ext_getElem? fun a => by
      show (zMx (zD (tyP pB ty) H1.length) (zMx (zD (tyP pA ty) H.length) H H1) (zKp (tyP pB ty) H ++ List.replicate (H1.length - H.length) zJ))[a]? = _
      by_cases c : a < H1.length
      · rcases ht : tyP pB ty a with _ | d
        · rw [zMx_at, hG a ht c, dT (tyP pB ty) H1.length a ⟨c, ht⟩, List.getElem?_eq_getElem (by rw [lenH]; exact c)]
          rfl
        · obtain ⟨g1, g2⟩ := hAB a d ht
          rw [zMx_get _ (dF (tyP pB ty) H1.length a (fun h => by rw [ht] at h; cases h.2)), hA1 a ⟨g2, g1⟩, List.getElem?_append_left (by rw [zKp_len]; exact g2), zKp_ty H ht]
      · rw [List.getElem?_eq_none (by rw [zMx_len, List.length_append, zKp_len, List.length_replicate]; omega), List.getElem?_eq_none (by rw [lenH]; omega)])
  rw [eHA] at b1 lenH hA1 hA2
  obtain ⟨evB, eHH⟩ := x_To_one z2 b1
  have q3 := q3 (fun _ => by rw [evA2, evA, evB, hvv])
  have hB1 : ∀ a, a < H1.length ∧ tyP pB ty a = none → HH[a]? = HA[a]? := fun a h => by
    rw [← eHH]
    exact zMx_old b2 (dT _ _ _ h) (by rw [lenH]; exact h.1)
  have hB2 : ∀ a, ¬ (a < H1.length ∧ tyP pB ty a = none) → HH[a]? = H2[a]? := fun a h => by
    rw [← eHH]
    exact zMx_get _ (dF _ _ _ h)
  have TA : ∀ a, (∃ z, H1[a]? = some z) → H1[a]? ≠ some zJ → HH[a]? = H1[a]? := fun a hz hn => by
    have hD : ¬ (a < H.length ∧ tyP pA ty a = none) := fun hc => hn (a2 a (dT _ _ _ hc))
    obtain ⟨z, hz⟩ := hz
    have hl := (List.getElem?_eq_some_iff.mp hz).1
    rw [hB1 a ⟨hl, ?_⟩, hA2 a hD]
    rcases ht : tyP pB ty a with _ | c
    · rfl
    · obtain ⟨g1, g2⟩ := hAB a c ht
      exact absurd ⟨g2, g1⟩ hD
  have TB : ∀ a, H2[a]? ≠ some zJ → HH[a]? = H2[a]? := fun a hn => hB2 a (fun hc => hn (b2 a (dT _ _ _ hc)))
  have hp := (wOk_a (hFS u hu)).1
  obtain ⟨x, hx, ρ3, σA3, σB3, c1, c2, c3, c4, c5, c6⟩ := q3 ρ9 (fun i p hp2 => by
    obtain ⟨g1, ci, fs, g2, g3⟩ := p1 i p hp2
    have hl := hp p (List.mem_of_getElem? hp2)
    rw [sxA p.1 hl] at g2
    refine ⟨g1, ci, fs, ?_, g3⟩
    have t1 := bsA p.1 _ (List.getElem?_eq_getElem hl)
    have t2 : sR (sO σ τA) p.1 < H.length := hlt _ _ (tyP_iff.mp t1).1
    rw [← hA2 (sR (sO σ τA) p.1) (fun hc => by rw [t1] at hc; cases hc.2), ← hB1 _ ⟨by omega, ?_⟩]
    · exact g2
    · rcases ht : tyP pB ty (sR (sO σ τA) p.1) with _ | c
      · rfl
      · obtain ⟨g1, -⟩ := hAB _ c ht
        rw [t1] at g1
        cases g1) (fun _ _ => rfl) p3
  refine ⟨x, hx, ρ3, σA3, σB3, c1, fun i hi => (c2 i hi).trans (sxA i hi).symm, fun i hi => (c3 i hi).trans (sxB i hi).symm, fun f hf => ?_, fun f hf => ?_, c6⟩
  · rcases c4 f hf with g | g
    · obtain ⟨g1, g2⟩ := wNz g
      exact vHolds_eq (TA _ g2 g1) (Or.inl g)
    · exact Or.inr g
  · rcases c5 f hf with g | g
    · obtain ⟨g1, g2⟩ := wNz g
      exact vHolds_eq (TB _ g1) (Or.inl g)
    · exact Or.inr g
theorem wBlk2 {KT : vKT} {tb : XT} {tyl : List FieldType} {ot : XO Int32} {N : vAn} {FS : List wN} {GA0 GB0 : List Nat} (hFS : ∀ u ∈ FS, wOk KT GA0 GB0 u = true) (hFB : wFB FS = true) {pA pB : Nat → Bool} (cA : kCl KT.1 pA = true) (cB : kCl KT.1 pB = true) (qA : pA KT.2.1.1 = true → pA KT.2.1.2.2.2.1 = true) (qB : pB KT.2.1.1 = true → pB KT.2.1.2.2.2.1 = true) (hd : ∀ c, pA c = true → pB c = true → False)
    {τA τB : List Nat} {ps : List (Bool × Nat)} {n n0 mA mB kA kB d dpA dpB : Nat} {e : wE} (hk : wBc N FS.length n τA τB GA0 GB0 n0 mA mB ps pA pB e [] = true) {xA xB : XM} (hxA : tMth tb kA = some xA) (hxB : tMth tb kB = some xB) (hdA : dpA ≤ d) (hdB : dpB ≤ d)
    {P : (Nat → Nat) → (Nat → Option Nat) → List (XC Int32) → Prop} {m : Nat} {W : List (Nat × Nat)} {rA rB : Nat} (hQ : bPQ KT tb tyl ot N P m W d kA kB n (mMc xA + mMc xB) rA rB) (hm : ps.length = m) (l2 : 2 ≤ m) (hRe : ∀ u ∈ FS, wRe KT tb tyl ot FS GA0.length GB0.length kA kB dpA dpB true e u) :
    bPP KT tb tyl ot N (fun σ ty H => P σ ty H ∧ lwPw FS τA τB σ ty H) d kA kB n (mMc xA + mMc xB) rA rB True := by
  unfold wBc at hk
  simp only [Bool.and_eq_true] at hk
  obtain ⟨⟨⟨⟨⟨⟨⟨⟨⟨⟨⟨⟨⟨⟨⟨⟨⟨⟨⟨⟨⟨⟨⟨⟨⟨⟨⟨⟨⟨⟨k1, k2⟩, k3⟩, k4⟩, k5⟩, k6⟩, k7⟩, k8⟩, k9⟩, k10⟩, k11⟩, k12⟩, k13⟩, k14⟩, k15⟩, k16⟩, k17⟩, k18⟩, k19⟩, k20⟩, k21⟩, k22⟩, k23⟩, k24⟩, k25⟩, k26⟩, k27⟩, k28⟩, k29⟩, k30⟩, k31⟩ := hk
  have k2 := of_decide_eq_true k2
  have k3 := of_decide_eq_true k3
  have k4 := of_decide_eq_true k4
  have k5 := of_decide_eq_true k5
  have k6 := of_decide_eq_true k6
  have k7 := of_decide_eq_true k7
  have k8 := of_decide_eq_true k8
  have k9 := of_decide_eq_true k9
  have k10 := of_decide_eq_true k10
  have k11 := of_decide_eq_true k11
  have k12 := of_decide_eq_true k12
  have k15 := of_decide_eq_true k15
  have k16 := of_decide_eq_true k16
  have k23 := of_decide_eq_true k23
  have k24 := of_decide_eq_true k24
  have k30 := of_decide_eq_true k30
  intro ρ σ ty H t h0 h1 ht hlen h hP0
  obtain ⟨hP1, hP⟩ := hP0
  obtain ⟨a, HA, HH, ρ2, σ2, ty2, z0, z1, z2, z3, z4, z5, z6, z7, z8, zf, z9⟩ := hQ ρ σ ty H t h0 h1 ht hlen h hP1
  let ρ1 : Nat → Int := fun j => if j < (aI N).length then ρ j else (oSc ot (t + (1 + (j - (aI N).length)))).toInt
  have eρ : ∀ j, j < (aI N).length → ρ1 j = ρ j := fun j hj => if_pos hj
  have eV : ∀ j, j < n → ρ1 ((aI N).length + j) = (oSc ot (t + (1 + j))).toInt := fun j _ => by
    show (if (aI N).length + j < (aI N).length then _ else (oSc ot (t + (1 + ((aI N).length + j - (aI N).length)))).toInt) = _
    rw [if_neg (by omega), Nat.add_sub_cancel_left]
  have hA1 := vRel_arg h k29 (by omega) k30 (n := n) (vals := fun j => oSc ot (t + (1 + j))) eρ eV
  have lenA : (aI (aArg n N)).length = (aI N).length + n := by
    show (aI N ++ List.replicate n _).length = _
    rw [List.length_append, List.length_replicate]
  have bv : ∀ i, i < n → rO ρ1 ((List.range (aI (aArg n N)).length).map lSy) ((aI N).length + i) = (oSc ot (t + (1 + i))).toInt := fun i hi => by
    unfold rO
    rw [List.getD_eq_getElem?_getD, List.getElem?_map, List.getElem?_range (by omega)]
    show lEv ρ1 (lSy ((aI N).length + i)) = _
    rw [lSy_ev]
    exact eV i hi
  have u0 : sR (sO σ τA) 0 = sR σ 0 := sOx k15 (by omega)
  have u1 : sR (sO σ τB) 0 = sR σ 1 := sOx k16 (by omega)
  have lA2 : (.inr (some 0) :: argVs (aI N).length n : List vA).map (cv (rO ρ1 ((List.range (aI (aArg n N)).length).map lSy)) (sO σ τA)) = .inr (some (sR σ 0)) :: bVs ot t n 1 := by
    rw [List.map_cons, argVs_cv n _ 1 bv, ← u0]
    rfl
  have lB2 : (.inr (some 0) :: argVs (aI N).length n : List vA).map (cv (rO ρ1 ((List.range (aI (aArg n N)).length).map lSy)) (sO σ τB)) = .inr (some (sR σ 1)) :: bVs ot t n 1 := by
    rw [List.map_cons, argVs_cv n _ 1 bv, ← u1]
    rfl
  refine ⟨a, a, HA, HH, ρ2, σ2, ty2, z0, z1, z2, z3, fun _ => rfl, z4, z5, z6 0 (by omega), z6 1 (by omega), z7, ⟨z8, fun u hu => ?_⟩, z9⟩
  rw [k11, k12]
  exact wJn hFS hFB cA cB qA qB hd (NE := aArg n N) k17 k18 k19 k20 k21 k22 k1 k9 k10 k11 k12 k8 hxA hxB hdA hdB hA1 hP hlen (by
    rw [k2, ← lA2]
    exact vCov_en _ 0) (by
    rw [k3, ← lB2]
    exact vCov_en _ 0) ⟨k4, k5, k6, k7⟩ hu (hRe u hu) rfl z1 z3 (fun i hi => z6 i (by
    rcases hi with hi | hi
    · have := of_decide_eq_true (List.all_eq_true.mp k26 i hi)
      omega
    · have := of_decide_eq_true (List.all_eq_true.mp k27 i hi)
      omega))
theorem wBlk3 {KT : vKT} {tb : XT} {tyl : List FieldType} {ot : XO Int32} {N : vAn} {FS : List wN} {GA0 GB0 : List Nat} (hFS : ∀ u ∈ FS, wOk KT GA0 GB0 u = true) {τA τB : List Nat} {n kA kB d mc rA rB m : Nat} {W : List (Nat × Nat)} (hk : (FS.all (wFk W W GA0) && decide (τA.length = GA0.length) && decide (τB.length = GB0.length) && τA.all (fun i => decide (i < m)) && τB.all (fun i => decide (i < m)) && decide (m ≤ 1000000) && (List.range GA0.length).all (fun i => decide ((aG N)[τA.getD i 0]? = GA0[i]?)) && (List.range GB0.length).all (fun i => decide ((aG N)[τB.getD i 0]? = GB0[i]?))) = true)
    {P : (Nat → Nat) → (Nat → Option Nat) → List (XC Int32) → Prop} (hQ : bPQ KT tb tyl ot N P m W d kA kB n mc rA rB) (l2 : 2 ≤ m) : bPP KT tb tyl ot N (fun σ ty H => P σ ty H ∧ lwPw FS τA τB σ ty H) d kA kB n mc rA rB True := by
  intro ρ σ ty H t h0 h1 ht hlen h hP0
  obtain ⟨hP1, hP⟩ := hP0
  obtain ⟨a, HA, HH, ρ2, σ2, ty2, z0, z1, z2, z3, z4, z5, z6, z7, z8, zf, z9⟩ := hQ ρ σ ty H t h0 h1 ht hlen h hP1
  have hm : m ≤ 1000000 := by
    simp only [Bool.and_eq_true] at hk
    exact of_decide_eq_true hk.1.1.2
  -- the same symbols below m
  let σ3 : Nat → Nat := fun i => if i < m then σ i else σ2 i
  have e3 : ∀ i, i < m → σ3 i = σ i := fun i hi => if_pos hi
  have e4 : ∀ i, sR σ3 i = sR σ2 i := fun i => by
    by_cases c : i < m
    · have := z6 i c
      unfold sR at this ⊢
      rw [if_pos (by omega)] at this ⊢
      rw [if_pos (by omega)] at this ⊢
      rw [e3 i c, ← this]
    · unfold sR
      show (if i < 1000000 then (if i < m then σ i else σ2 i) else i) = _
      rw [if_neg c]
  have g : lwPw FS τA τB σ3 ty2 HH := lwPw_kp (m0 := m) (W := W) hFS hk ρ σ ty H σ3 ty2 HH h hP e3 zf
  refine ⟨a, a, HA, HH, ρ2, σ2, ty2, z0, z1, z2, z3, fun _ => rfl, z4, z5, z6 0 (by omega), z6 1 (by omega), z7, ⟨z8, fun u hu => ?_⟩, z9⟩
  have es : ∀ (τ : List Nat) (i : Nat), sR (sO σ2 τ) i = sR (sO σ3 τ) i := fun τ i => by
    unfold sR
    split
    · unfold sO
      rw [e4]
    · rfl
  have w := g u hu
  have hl : τA.length = GA0.length := by
    simp only [Bool.and_eq_true] at hk
    exact of_decide_eq_true hk.1.1.1.1.1.1.2
  refine wHd_ext (fun p hp => ?_) w (fun i _ => es τA i) (fun i _ => es τB i)
  rw [hl]
  exact (wOk_a (hFS u hu)).1 p hp
theorem bPQ_cv {KT : vKT} {tb : XT} {tyl : List FieldType} {ot : XO Int32} {N : vAn} {P P' : (Nat → Nat) → (Nat → Option Nat) → List (XC Int32) → Prop} {m : Nat} {W : List (Nat × Nat)} {dp kA kB n mc rA rB : Nat} (h : bPQ KT tb tyl ot N P m W dp kA kB n mc rA rB) (hp : ∀ σ ty H, P σ ty H ↔ P' σ ty H) : bPQ KT tb tyl ot N P' m W dp kA kB n mc rA rB := by
  intro ρ σ ty H t h0 h1 ht hlen hr hP
  obtain ⟨a, HA, HH, ρ2, σ2, ty2, z0, z1, z2, z3, z4, z5, z6, z7, z8, zf, z9⟩ := h ρ σ ty H t h0 h1 ht hlen hr ((hp σ ty H).mpr hP)
  exact ⟨a, HA, HH, ρ2, σ2, ty2, z0, z1, z2, z3, z4, z5, z6, z7, (hp σ2 ty2 HH).mp z8, zf, z9⟩
end XHead2
