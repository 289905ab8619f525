/-! An edge over which rows that are alike are told to the second: what the first read there is known. -/
noncomputable section XTl
theorem eAt_cov (ρ : Nat → Int) (σ : Nat → Nat) (e : Option Nat) (B mc : Nat) (A : vAn) (H : List (XC Int32)) (Lc : List (Nat × XV Int32)) (c s : Nat) : eAt ρ σ e B mc A H Lc c s ↔ eCov ρ σ e B mc (aL A) (aCn A) (aSn A) H Lc c s := by
  rcases e with _ | p <;> exact Iff.rfl
def wEdT (KT : vKT) (tb : XT) (tyl : List FieldType) (ov : vOt) (CT : Nat → List vCt) (hs : Nat → Nat → Option (List vHn)) (kn : Nat → Nat → Option Nat) (FS : List wN) (GA0 GB0 : List Nat) (n0 mA mB : Nat) (WA WB : List (Nat × Nat)) (tl : vTl) (f goA dpA kA goB dpB kB : Nat) (e : wE) (outs : List (Bool × wE)) : Bool :=
  wSd n0 mA mB GA0 GB0 e && outs.all (fun o => wKp FS GA0 WA WB (wUs e) o.2) && (match wQA e, wQB e with
    | some pcA, some pcB => vPe KT tb tyl ov CT hs kn WA WB n0 mA mB tl f goA dpA kA pcA goB dpB kB pcB (wNA e) (wNB e) (outs.map (fun o => (wQA o.2, wQB o.2, wNA o.2, wNB o.2, o.1)))
    | _, _ => false)
theorem wEdT_spec {KT : vKT} {tb : XT} {tyl : List FieldType} {ot : XO Int32} {ov : vOt} (hov : vOvLe ov (o4 ot)) {CT : Nat → List vCt} {hs : Nat → Nat → Option (List vHn)} {kn : Nat → Nat → Option Nat} (hCT : ∀ j c, c ∈ CT j → vCtSem KT tb tyl ot j c) {FS : List wN} {GA0 GB0 : List Nat} (hFS : ∀ u ∈ FS, wOk KT GA0 GB0 u = true) {n0 mA mB : Nat} {WA WB : List (Nat × Nat)} {tl : vTl} {f goA dpA kA goB dpB kB : Nat} {e : wE} {outs : List (Bool × wE)}
    (hT : ∀ c : pC, vHp (fun c => KT.1[c]?) (cTA c) (cHA c) → vHp (fun c => KT.1[c]?) (cTB c) (cHB c) → (∀ (i k : Nat), GA0[i]? = some k → cTA c (sR (cSA c) i) = some k) → (∀ (i k : Nat), GB0[i]? = some k → cTB c (sR (cSB c) i) = some k) → wHs FS GA0.length GB0.length (wUs e) c → tHd tl (cSA c) (cSB c) (cHA c) (cHB c))
    (hk : wEdT KT tb tyl ov CT hs kn FS GA0 GB0 n0 mA mB WA WB tl f goA dpA kA goB dpB kB e outs = true) : wGoes KT tb tyl ot FS GA0.length GB0.length n0 mA mB WA WB kA kB dpA dpB e outs := by
  intro qA qB dA dB BA BB hqA hqB hdA hdB hBA hBB c LA LB a1 a2 b1 b2 hat R hout
  obtain ⟨h1, h2, h3, h4, h5⟩ := hat
  unfold wEdT at hk
  simp only [Bool.and_eq_true] at hk
  obtain ⟨⟨k1, k2⟩, k3⟩ := hk
  unfold wSd at k1
  simp only [Bool.and_eq_true] at k1
  obtain ⟨⟨⟨⟨⟨⟨⟨⟨⟨⟨⟨⟨⟨⟨⟨⟨⟨e1, e2⟩, e3⟩, e4⟩, e5⟩, e6⟩, e7⟩, e8⟩, e9⟩, e10⟩, e11⟩, e12⟩, e13⟩, e14⟩, e15⟩, e16⟩, e17⟩, e18⟩ := k1
  have e6 := of_decide_eq_true e6
  have e7 := of_decide_eq_true e7
  have e8 := of_decide_eq_true e8
  have e9 := of_decide_eq_true e9
  split at k3
  rotate_left
  · cases k3
  rename_i pcA pcB hpA hpB
  rw [hpA] at h3
  rw [hpB] at h4
  have gA := take_at e8
  have gB := take_at e9
  obtain ⟨vA, H1, vB, H2, z1, z2, z3⟩ := vPe_spec (R := R) hov hCT k3 hqA hqB hdA hdB hBA hBB h1 h2 (hT c h1.1 h2.1 (fun i k hk => h1.2.1 i k (gA i k hk)) (fun i k hk => h2.2.1 i k (gB i k hk)) h5) ((eAt_cov _ _ _ _ _ _ _ _ _ _).mpr h3) ((eAt_cov _ _ _ _ _ _ _ _ _ _).mpr h4) (fun o ho ρ2 σA2 σB2 tyA2 tyB2 HA HB La Lb ca sa cb sb r1 r2 r3 r4 l1 l2 f1 f2 g1 g2 u1 u2 => by
    obtain ⟨x, hx, rfl⟩ := List.mem_map.mp ho
    refine hout x hx (ρ2, σA2, σB2, tyA2, tyB2, HA, HB) La Lb ca sa cb sb ⟨g1, g2, (eAt_cov _ _ _ _ _ _ _ _ _ _).mp u1, (eAt_cov _ _ _ _ _ _ _ _ _ _).mp u2, fun i hi u hu => ?_⟩ ⟨r1, r2, r3, l1, l2, f1, f2⟩ r4
    have k4 := List.all_eq_true.mp (List.all_eq_true.mp k2 x hx) i hi
    rw [hu] at k4
    have hoku := hFS u (List.mem_of_getElem? hu)
    rcases Bool.or_eq_true_iff.mp k4 with k4 | k4
    · obtain ⟨k5, k6⟩ := Bool.and_eq_true_iff.mp k4
      obtain ⟨j, hj, k5⟩ := List.any_eq_true.mp k5
      have k5 : i = j := Nat.eq_of_beq_eq_true k5
      subst k5
      have w := h5 i hj u hu
      have w2 := wHd_frm hoku k6 h1.1 h2.1 (fun i c hc => h1.2.1 i c (gA i c hc)) (fun i c hc => h2.2.1 i c (gB i c hc)) f1 f2 w
      exact wHd_ext (wOk_a hoku).1 w2 (fun i hi => by
        unfold sR
        show (if i < 1000000 then σA2 i else i) = (if i < 1000000 then cSA c i else i)
        rw [show σA2 i = cSA c i from r2 i (by omega)]) (fun i hi => by
        unfold sR
        show (if i < 1000000 then σB2 i else i) = (if i < 1000000 then cSB c i else i)
        rw [show σB2 i = cSB c i from r3 i (by omega)])
    · exact wVc_spec g1 k4)
  exact ⟨vA, H1, vB, H2, by rw [hpA]; exact z1, by rw [hpB]; exact z2, z3⟩
/-- a family that tells of each place of two rows -/
def wTpk (KT : vKT) (GA0 GB0 : List Nat) (iu cA cB m : Nat) (us : List Nat) (FS : List wN) : Bool := us.any (Nat.beq iu) && (match FS[iu]? with
  | some u => (wPi u).isEmpty && decide (wBd u = [((0 : Int), (m : Int) - 1)]) && (wPr u).isEmpty && (wAl u).all (fun x => fKs (aF x.1) [(cA, .inr (lSy 0), .inl (lSy 1))] && fKs (aF x.2) [(cB, .inr (lSy 0), .inl (lSy 1))])
  | none => false) && decide (cA < 1000000) && decide (cB < 1000000) && (match GA0[cA]? with
  | some k => (match KT.1[k]? with
    | some (.inr o) => decide (o.2.1 = m)
    | _ => false)
  | none => false) && (match GB0[cB]? with
  | some k => (match KT.1[k]? with
    | some (.inr _) => true
    | _ => false)
  | none => false)
theorem wTp_hd {KT : vKT} {GA0 GB0 : List Nat} {iu cA cB m : Nat} {us : List Nat} {FS : List wN} (hk : wTpk KT GA0 GB0 iu cA cB m us FS = true) {c : pC} (pA : vHp (fun c => KT.1[c]?) (cTA c) (cHA c)) (pB : vHp (fun c => KT.1[c]?) (cTB c) (cHB c)) (bA : ∀ (i k : Nat), GA0[i]? = some k → cTA c (sR (cSA c) i) = some k) (bB : ∀ (i k : Nat), GB0[i]? = some k → cTB c (sR (cSB c) i) = some k) (h5 : wHs FS GA0.length GB0.length us c) : tHd [(cA, cB, 1, 0)] (cSA c) (cSB c) (cHA c) (cHB c) := by
  unfold wTpk at hk
  simp only [Bool.and_eq_true] at hk
  obtain ⟨⟨⟨⟨⟨k1, k2⟩, k3⟩, k4⟩, k5⟩, k6⟩ := hk
  obtain ⟨i0, hi, k1⟩ := List.any_eq_true.mp k1
  have k1 : iu = i0 := Nat.eq_of_beq_eq_true k1
  subst k1
  have k3 := of_decide_eq_true k3
  have k4 := of_decide_eq_true k4
  split at k2
  rotate_left
  · cases k2
  rename_i u hu
  simp only [Bool.and_eq_true] at k2
  obtain ⟨⟨⟨q1, q2⟩, q3⟩, q4⟩ := k2
  have q1 : wPi u = [] := List.isEmpty_iff.mp q1
  have q2 := of_decide_eq_true q2
  have q3 : wPr u = [] := List.isEmpty_iff.mp q3
  split at k5
  rotate_left
  · cases k5
  rename_i ka hka
  split at k5
  rotate_left
  · cases k5
  rename_i oa hoa
  have k5 := of_decide_eq_true k5
  split at k6
  rotate_left
  · cases k6
  rename_i kb hkb
  split at k6
  rotate_left
  · cases k6
  rename_i ob hob
  have lA : cA < GA0.length := (List.getElem?_eq_some_iff.mp hka).1
  have lB : cB < GB0.length := (List.getElem?_eq_some_iff.mp hkb).1
  intro p hp t vs hv
  rcases List.mem_singleton.mp hp with rfl
  have hv : (cHA c)[sR (cSA c) cA]? = some (.inr (t, vs)) := hv
  obtain ⟨kd, z, y1, y2, y3⟩ := pA _ _ (bA cA ka hka)
  rw [hv] at y2
  cases y2
  have y1 : KT.1[ka]? = some kd := y1
  rw [hoa] at y1
  cases y1
  obtain ⟨ta, ma, fa⟩ := oa
  obtain ⟨-, y4, -⟩ := y3
  have y4 : vs.length = ma := y4
  have k5 : ma = m := k5
  obtain ⟨kd2, z2, w1, w2, w3⟩ := pB _ _ (bB cB kb hkb)
  have w1 : KT.1[kb]? = some kd2 := w1
  rw [hob] at w1
  cases w1
  obtain ⟨tb_, mb, fb⟩ := ob
  rcases z2 with z2 | ⟨t2, us2⟩
  · exact w3.elim
  refine ⟨t2, us2, w2, fun j x hx => ?_⟩
  have hj : j < vs.length := (List.getElem?_eq_some_iff.mp hx).1
  obtain ⟨al, hal, ρ2, σA2, σB2, a1, a2, a3, a4, a5, -, -⟩ := h5 iu hi u hu (fun _ => (j : Int)) (fun i p hp => by
    rw [q1] at hp
    cases hp) (fun i p hp => by
    rw [q2] at hp
    rcases i with _ | i
    · cases hp
      show (0 : Int) ≤ (j : Int) ∧ (j : Int) ≤ (m : Int) - 1
      omega
    · cases hp) (fun x hx => by
    rw [q3] at hx
    cases hx)
  have q5 := Bool.and_eq_true_iff.mp (List.all_eq_true.mp q4 al hal)
  have f1 := fKs_spec q5.1
  have f2 := fKs_spec q5.2
  have hn : 0 < wNp u := by
    unfold wNp
    rw [q2]
    exact Nat.succ_pos _
  have e0 : lEv ρ2 (lSy 0) = (j : Int) := by
    rw [lSy_ev]
    exact a1 0 hn
  obtain ⟨t3, vs3, b1, -, b3⟩ := vHolds_int (a4 (cA, .inr (lSy 0), .inl (lSy 1)) (by rw [f1]; exact List.mem_singleton.mpr rfl))
  obtain ⟨t4, vs4, d1, -, d3⟩ := vHolds_int (a5 (cB, .inr (lSy 0), .inl (lSy 1)) (by rw [f2]; exact List.mem_singleton.mpr rfl))
  have sA : sR σA2 cA = sR (cSA c) cA := by
    rw [← a2 cA lA]
    unfold sR
    rw [if_pos k3]
  have sB : sR σB2 cB = sR (cSB c) cB := by
    rw [← a3 cB lB]
    unfold sR
    rw [if_pos k4]
  have b1 : (cHA c)[sR σA2 cA]? = some (.inr (t3, vs3)) := b1
  have d1 : (cHB c)[sR σB2 cB]? = some (.inr (t4, vs4)) := d1
  rw [sA, hv] at b1
  rw [sB, w2] at d1
  cases b1
  cases d1
  have b3 : vs[(lEv ρ2 (lSy 0)).toNat]? = some (cv ρ2 σA2 (.inl (lSy 1))) := b3
  have d3 : us2[(lEv ρ2 (lSy 0)).toNat]? = some (cv ρ2 σB2 (.inl (lSy 1))) := d3
  rw [e0, Int.toNat_natCast] at b3 d3
  rw [hx] at b3
  show us2[1 * j + 0]? = some x
  rw [Nat.one_mul, Nat.add_zero, d3]
  exact b3.symm
end XTl
