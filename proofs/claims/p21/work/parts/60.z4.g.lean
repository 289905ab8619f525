/-! Families of pairs: blocks whose arguments are pushed in other ways. -/
noncomputable section XNdG
/-- as bPP, at any ints -/
def bPA (KT : vKT) (tb : XT) (tyl : List FieldType) (ot : XO Int32) (N : vAn) (P : (Nat → Nat) → (Nat → Option Nat) → List (XC Int32) → Prop) (dp kA kB n mc : Nat) (rA rB : Nat) (cmp : Prop) : Prop :=
  ∀ (ρ : Nat → Int) (σ : Nat → Nat) (ty : Nat → Option Nat) (H : List (XC Int32)) (t : Nat) (as : List Int32), as.length = n → ρ 0 = (oSn ot : Int) → ρ 1 = (t : Int) → t + 7 ≤ oSn ot → H.length + mc ≤ 1000000 → vRel KT ρ σ ty H (aSt N) → P σ ty H →
    ∃ (a b : Int32) (HA HH : List (XC Int32)) (ρ2 : Nat → Int) (σ2 : Nat → Nat) (ty2 : Nat → Option Nat), x_rc ot H (sR σ 0) = some rA ∧ x_To tb tyl ot dp kA 0 (x_en 0 (.inr (some (sR σ 0)) :: as.map Sum.inl)) [] H 0 0 (some (.inl a)) HA ∧ x_rc ot HA (sR σ 1) = some rB ∧ x_To tb tyl ot dp kB 0 (x_en 0 (.inr (some (sR σ 1)) :: as.map Sum.inl)) [] HA 0 0 (some (.inl b)) HH ∧ (cmp → a = b) ∧
      ρ2 0 = ρ 0 ∧ ρ2 1 = ρ 1 + 7 ∧ sR σ2 0 = sR σ 0 ∧ sR σ2 1 = sR σ 1 ∧ vRel KT ρ2 σ2 ty2 HH (aSt N) ∧ P σ2 ty2 HH ∧ HH.length ≤ H.length + mc
theorem argVs_as {ρ : Nat → Int} {σ : Nat → Nat} : ∀ {as : List Int32} {n k : Nat}, as.length = n → (∀ i, i < n → ρ (k + i) = (as.getD i 0).toInt) → (argVs k n).map (cv ρ σ) = as.map Sum.inl
  | [], n, k, hl, _ => by
    have hl : 0 = n := hl
    rw [← hl]
    rfl
  | a :: as, n, k, hl, h => by
    obtain ⟨m, rfl⟩ : ∃ m, n = m + 1 := ⟨as.length, hl.symm⟩
    show Sum.inl (Int32.ofInt (lEv ρ (lSy k))) :: (argVs (k + 1) m).map (cv ρ σ) = Sum.inl a :: as.map Sum.inl
    have h0 : ρ (k + 0) = a.toInt := h 0 (by omega)
    rw [Nat.add_zero] at h0
    rw [lSy_ev, h0, Int32.ofInt_toInt, argVs_as (as := as) (n := m) (k := k + 1) (Nat.succ.inj hl) (fun i hi => by
      have := h (i + 1) (by omega)
      rw [show k + 1 + i = k + (i + 1) by omega]
      exact this)]
theorem wBlkA {KT : vKT} {tb : XT} {tyl : List FieldType} {ot : XO Int32} {N : vAn} {FS : List wN} {GA0 GB0 : List Nat} (hFS : ∀ u ∈ FS, wOk KT GA0 GB0 u = true) (hFB : wFB FS = true) {pA pB : Nat → Bool} (cA : kCl KT.1 pA = true) (cB : kCl KT.1 pB = true) (qA : pA KT.2.1.1 = true → pA KT.2.1.2.2.2.1 = true) (qB : pB KT.2.1.1 = true → pB KT.2.1.2.2.2.1 = true) (hd : ∀ c, pA c = true → pB c = true → False) (hJ : KT.1.all (fun kd => match kd with | .inr o => decide (o.1 ≠ 77) | _ => true) = true)
    {τA τB : List Nat} {ps : List (Bool × Nat)} {n n0 mA mB kA kB d dpA dpB : Nat} {WA WB : List (Nat × Nat)} {e : wE} {OX : List ((Bool × wE) × List lT)} (hk : wBc N FS.length n τA τB GA0 GB0 n0 mA mB ps pA pB e OX = true) (hG : wGoes KT tb tyl ot FS GA0.length GB0.length n0 mA mB WA WB kA kB dpA dpB e (OX.map (fun x => x.1))) {xA xB : XM} (hxA : tMth tb kA = some xA) (hxB : tMth tb kB = some xB) (hdA : dpA ≤ d) (hdB : dpB ≤ d)
    {P : (Nat → Nat) → (Nat → Option Nat) → List (XC Int32) → Prop} (hkeep : ∀ (ρ : Nat → Int) (σ : Nat → Nat) (ty : Nat → Option Nat) (H : List (XC Int32)) (ρ2 : Nat → Int) (σ2 : Nat → Nat) (ty2 : Nat → Option Nat) (HH : List (XC Int32)), vRel KT ρ σ ty H (aSt N) → P σ ty H → (∀ i, i < ps.length → sR σ2 i = sR σ i) → vRel KT ρ2 σ2 ty2 HH (aSt N) → vFrm WA (tyP pA ty) H HH → vFrm WB (tyP pB ty) H HH → P σ2 ty2 HH)
    {rA rB : Nat} (hrA : gRc KT N 0 = some rA) (hrB : gRc KT N 1 = some rB) (hpB : ∀ c, (aG N)[1]? = some c → pB c = true) :
    bPA KT tb tyl ot N (fun σ ty H => P σ ty H ∧ lwPw FS τA τB σ ty H) d kA kB n (mMc xA + mMc xB) rA rB True := by
  unfold wBc at hk
  simp only [Bool.and_eq_true] at hk
  obtain ⟨⟨⟨⟨⟨⟨⟨⟨⟨⟨⟨⟨⟨⟨⟨⟨⟨⟨⟨⟨⟨⟨⟨⟨⟨⟨⟨⟨⟨⟨k1, k2⟩, k3⟩, k4⟩, k5⟩, k6⟩, k7⟩, k8⟩, k9⟩, k10⟩, k11⟩, k12⟩, k13⟩, k14⟩, k15⟩, k16⟩, k17⟩, k18⟩, k19⟩, k20⟩, k21⟩, k22⟩, k23⟩, k24⟩, k25⟩, k26⟩, k27⟩, k28⟩, k29⟩, k30⟩, k31⟩ := hk
  unfold wEn at k1
  simp only [Bool.and_eq_true] at k1
  obtain ⟨⟨⟨n1, n2⟩, n3⟩, n4⟩ := k1
  have n1 := of_decide_eq_true n1
  have n2 := of_decide_eq_true n2
  have n3 := of_decide_eq_true n3
  have n4 := of_decide_eq_true n4
  have k2 := of_decide_eq_true k2
  have k3 := of_decide_eq_true k3
  have k4 := of_decide_eq_true k4
  have k5 := of_decide_eq_true k5
  have k6 := of_decide_eq_true k6
  have k7 := of_decide_eq_true k7
  have k8 := of_decide_eq_true k8
  have k9 := of_decide_eq_true k9
  have k10 := of_decide_eq_true k10
  have k11 := of_decide_eq_true k11
  have k12 := of_decide_eq_true k12
  have k13 := of_decide_eq_true k13
  have k14 := of_decide_eq_true k14
  have k15 := of_decide_eq_true k15
  have k16 := of_decide_eq_true k16
  have k23 := of_decide_eq_true k23
  have k24 := of_decide_eq_true k24
  have k25 := of_decide_eq_true k25
  have k28 := of_decide_eq_true k28
  have k30 := of_decide_eq_true k30
  obtain ⟨c0, o0, y1, y2, y3⟩ := gRc_spec hrA
  obtain ⟨c1, o1, x1, x2, x3⟩ := gRc_spec hrB
  have l2 : 2 ≤ ps.length := by
    rw [k24]
    have := (List.getElem?_eq_some_iff.mp x1).1
    omega
  intro ρ σ ty H t as hasl h0 h1 ht hlen h hP0
  obtain ⟨hP9, hP⟩ := hP0
  let ρ1 : Nat → Int := fun j => if j < (aI N).length then ρ j else (as.getD (j - (aI N).length) 0).toInt
  have eρ : ∀ j, j < (aI N).length → ρ1 j = ρ j := fun j hj => if_pos hj
  have eV : ∀ j, j < n → ρ1 ((aI N).length + j) = (as.getD j 0).toInt := fun j _ => by
    show (if (aI N).length + j < (aI N).length then _ else (as.getD ((aI N).length + j - (aI N).length) 0).toInt) = _
    rw [if_neg (by omega), Nat.add_sub_cancel_left]
  have hA1 := vRel_arg h k29 (by omega) k30 (n := n) (vals := fun j => as.getD j 0) eρ eV
  have lenA : (aI (aArg n N)).length = (aI N).length + n := by
    show (aI N ++ List.replicate n _).length = _
    rw [List.length_append, List.length_replicate]
  have bas : ∀ {p : Nat → Bool} {G0 G : List Nat} {ρ' : Nat → Int} {σ' : Nat → Nat} {ty' : Nat → Option Nat} {H' : List (XC Int32)} {A : vAn}, aG A = G0 → vRel KT ρ' σ' ty' H' (aSt A) → ∀ (i c : Nat), G0[i]? = some c → ty' (sR σ' i) = some c := fun {p G0 G ρ' σ' ty' H' A} e hA i c hc => hA.2.1 i c (by
    rw [← e] at hc
    exact hc)
  obtain ⟨a, HA, HH, ρ2, σ2, ty2, d0, q1, q2, q3, q4, q5, q6, q7, q8, q9, q10, q11, q12, q13, q14, q15, q16, q17, q18, q19⟩ := pJoinW (tb := tb) (tyl := tyl) (ot := ot) (N := N) (NE := aArg n N) (EA := wNA e) (EB := wNB e) (pA := pA) (pB := pB) cA cB qA qB hd hJ (τA := τA) (τB := τB) (ps := ps) k17 k18 k19 k20 k21 k22 k23 k24 k25 (List.all_eq_true.mpr fun i hi => by
      have := of_decide_eq_true (List.all_eq_true.mp k26 i hi)
      exact decide_eq_true (by omega)) (List.all_eq_true.mpr fun i hi => by
      have := of_decide_eq_true (List.all_eq_true.mp k27 i hi)
      exact decide_eq_true (by omega)) (n0 := n0) (mA := mA) (mB := mB) (kA := kA) (kB := kB) (d := d) (mcA := mMc xA) (mcB := mMc xB) (WA := WA) (WB := WB) (XS := OX.map (fun x => (wNA x.1.2, wNB x.1.2, x.2))) k28 (by
      rw [List.all_map]
      refine List.all_eq_true.mpr fun x hx => ?_
      have k := List.all_eq_true.mp k31 x hx
      simp only [Bool.and_eq_true] at k
      exact k.2) hA1 (LA := x_en 0 (.inr (some (sR σ 0)) :: as.map Sum.inl)) (LB := x_en 0 (.inr (some (sR σ 1)) :: as.map Sum.inl))
      (Φ := fun d0 => wHs FS GA0.length GB0.length (List.range FS.length) d0 ∧ vLe (tyP pA ty) (cTA d0) ∧ vLe (tyP pB ty) (cTB d0) ∧ (∀ (i c : Nat), GA0[i]? = some c → tyP pA ty (sR (sO σ τA) i) = some c) ∧ (∀ (i c : Nat), GB0[i]? = some c → tyP pB ty (sR (sO σ τB) i) = some c)) (fun b hb e1 e2 e3 e4 e5 e6 e7 e8 e9 => by
    have bv : ∀ i, i < n → b.1 ((aI N).length + i) = (as.getD i 0).toInt := fun i hi => by
      rw [e1]
      unfold rO
      rw [List.getD_eq_getElem?_getD, List.getElem?_map, List.getElem?_range (by omega)]
      show lEv ρ1 (lSy ((aI N).length + i)) = _
      rw [lSy_ev]
      exact eV i hi
    have u0 : sR b.2.1 0 = sR σ 0 := by rw [e2]; exact sOx k15 (by omega)
    have u1 : sR b.2.2.1 0 = sR σ 1 := by rw [e3]; exact sOx k16 (by omega)
    have lA2 : (.inr (some 0) :: argVs (aI N).length n : List vA).map (cv b.1 b.2.1) = .inr (some (sR σ 0)) :: as.map Sum.inl := by
      rw [List.map_cons, argVs_as hasl bv, ← u0]
      rfl
    have lB2 : (.inr (some 0) :: argVs (aI N).length n : List vA).map (cv b.1 b.2.2.1) = .inr (some (sR σ 1)) :: as.map Sum.inl := by
      rw [List.map_cons, argVs_as hasl bv, ← u1]
      rfl
    have hpAb : vHp (fun c => KT.1[c]?) (tyP pA ty) H := fun a c ha => by
      rw [← e4] at ha
      obtain ⟨kd, z, g1, g2, g3⟩ := hb.1.1 a c ha
      rw [e4] at ha g3
      exact ⟨kd, z, g1, by rw [← e6 a c ha]; exact g2, g3⟩
    have hpBb : vHp (fun c => KT.1[c]?) (tyP pB ty) H := fun a c ha => by
      rw [← e5] at ha
      obtain ⟨kd, z, g1, g2, g3⟩ := hb.2.1.1 a c ha
      rw [e5] at ha g3
      exact ⟨kd, z, g1, by rw [← e7 a c ha]; exact g2, g3⟩
    have bsA : ∀ (i c : Nat), GA0[i]? = some c → tyP pA ty (sR (sO σ τA) i) = some c := fun i c hc => by
      have g := hb.1.2.1 i c (by
        rw [← k9] at hc
        exact hc)
      rw [e4, e2] at g
      exact g
    have bsB : ∀ (i c : Nat), GB0[i]? = some c → tyP pB ty (sR (sO σ τB) i) = some c := fun i c hc => by
      have g := hb.2.1.2.1 i c (by
        rw [← k10] at hc
        exact hc)
      rw [e5, e3] at g
      exact g
    have hFSb : ∀ u ∈ FS, wHd GA0.length GB0.length u b.2.1 b.2.2.1 b.2.2.2.2.2.1 b.2.2.2.2.2.2 := fun u hu => by
      have w := hP u hu
      rw [k11, k12] at w
      rw [e2, e3]
      exact wHd_typ (hFS u hu) (List.all_eq_true.mp hFB u hu) hpAb hpBb bsA bsB e6 e7 w
    obtain ⟨vA, H1, vB, H2, z1, z2, z3⟩ := hG xA xB d d b.2.2.2.2.2.1.length b.2.2.2.2.2.2.length hxA hxB hdA hdB (by rw [e8]; omega) (by omega) b (x_en 0 (.inr (some (sR σ 0)) :: as.map Sum.inl)) (x_en 0 (.inr (some (sR σ 1)) :: as.map Sum.inl)) 0 0 0 0 ⟨hb.1, hb.2.1, by
        rw [n1]
        refine ⟨⟨Nat.le_refl _, by
          show b.2.2.2.2.2.1.length ≤ 1000000
          rw [e8]
          omega⟩, ?_, ?_, ?_⟩
        · rw [k2, ← lA2]
          exact vCov_en _ 0
        · rw [k4, lK_ev]
          exact Int.le_refl _
        · rw [k5, lK_ev]
          exact Int.le_refl _, by
        rw [n2]
        refine ⟨⟨Nat.le_refl _, by
          show b.2.2.2.2.2.2.length ≤ 1000000
          omega⟩, ?_, ?_, ?_⟩
        · rw [k3, ← lB2]
          exact vCov_en _ 0
        · rw [k6, lK_ev]
          exact Int.le_refl _
        · rw [k7, lK_ev]
          exact Int.le_refl _, fun i hi u hu => hFSb u (List.mem_of_getElem? hu)⟩ (fun vA H1 vB H2 => pW KT n0 mA mB WA WB (mMc xA) (mMc xB) ((OX.map (fun x => (wNA x.1.2, wNB x.1.2, x.2))).map (fun x => (x.1, x.2.1))) (fun d0 => wHs FS GA0.length GB0.length (List.range FS.length) d0 ∧ vLe (tyP pA ty) (cTA d0) ∧ vLe (tyP pB ty) (cTB d0) ∧ (∀ (i c : Nat), GA0[i]? = some c → tyP pA ty (sR (sO σ τA) i) = some c) ∧ (∀ (i c : Nat), GB0[i]? = some c → tyP pB ty (sR (sO σ τB) i) = some c)) b vA H1 vB H2) (fun o ho d2 LA2 LB2 c1 c2 d1 d3 w1 w2 w3 => by
      obtain ⟨x, hx, hxo⟩ := List.mem_map.mp ho
      have k := List.all_eq_true.mp k31 x hx
      simp only [Bool.and_eq_true] at k
      obtain ⟨⟨⟨kx, -⟩, ku⟩, -⟩ := k
      have hxo : x.1 = o := hxo
      rw [hxo] at kx ku
      unfold wEx at kx
      simp only [Bool.and_eq_true] at kx
      obtain ⟨⟨⟨f1, f2⟩, f3⟩, f4⟩ := kx
      have f1 := of_decide_eq_true f1
      have f2 := of_decide_eq_true f2
      obtain ⟨wA, hwA⟩ := optOf (S := (aS (wNA o.2)).map (cv (cR d2) (cSA d2))) (by rw [List.length_map]; exact of_decide_eq_true f3)
      obtain ⟨wC, hwC⟩ := optOf (S := (aS (wNB o.2)).map (cv (cR d2) (cSB d2))) (by rw [List.length_map]; exact of_decide_eq_true f4)
      obtain ⟨u1', u2', u3', u4', u5'⟩ := w1
      rw [f1] at u3'
      rw [f2] at u4'
      refine ⟨wA, cHA d2, wC, cHB d2, ?_, ?_, (wNA o.2, wNB o.2), ?_, d2, rfl, rfl, ⟨u1', u2', w2.1, w2.2.1, w2.2.2.1, w2.2.2.2.1, w2.2.2.2.2.1, w2.2.2.2.2.2.1, w2.2.2.2.2.2.2⟩, ⟨fun i hi u hu => ?_, ?_, ?_, bsA, bsB⟩, hwA, hwC, u3', u4'⟩
      · rw [f1]
        exact ⟨hwA, rfl⟩
      · rw [f2]
        exact ⟨hwC, rfl⟩
      · rw [List.map_map]
        exact List.mem_map.mpr ⟨x, hx, by rw [← hxo]; rfl⟩
      · have kk := List.all_eq_true.mp ku i hi
        obtain ⟨j, hj, ej⟩ := List.any_eq_true.mp kk
        have ej : i = j := Nat.eq_of_beq_eq_true ej
        rw [← ej] at hj
        exact u5' i hj u hu
      · have g : vLe b.2.2.2.1 (cTA d2) := w2.2.2.2.1
        rw [e4] at g
        exact g
      · have g : vLe b.2.2.2.2.1 (cTB d2) := w2.2.2.2.2.1
        rw [e5] at g
        exact g)
    rw [n1, n3] at z1
    rw [n2, n4] at z2
    exact ⟨vA, H1, vB, H2, z1, z2, z3⟩)
  obtain ⟨p1, p2, p3, p4, p5⟩ := q8
  have sx : ∀ {m : Nat} {τ : List Nat} {σ' : Nat → Nat}, τ.length < 1000000 → τ.all (fun i => decide (i < ps.length)) = true → τ.length ≤ m → (∀ i, i < m → σ' i = sO σ τ i) → ∀ i, i < τ.length → sR (sO σ2 τ) i = sR σ' i := fun {m τ σ'} hl ha hm hs i hi => by
    have e0 : τ[i]? = some (τ[i]'hi) := List.getElem?_eq_getElem hi
    have l0 := of_decide_eq_true (List.all_eq_true.mp ha _ (List.mem_of_getElem? e0))
    unfold sR
    rw [if_pos (by omega), if_pos (by omega), hs i (by omega)]
    unfold sO
    rw [List.getD_eq_getElem?_getD, e0]
    exact q5 _ l0
  have lA9 : GA0.length < 1000000 ∧ GB0.length < 1000000 := by
    have a1 := (vMc_spec hA1 k17).2.2.2.2.1
    have a2 := (vMc_spec hA1 k18).2.2.2.2.1
    have b1 : (aG (aNl (wNA e))).length < 1000000 := by
      have k := k17
      unfold vMc at k
      simp only [Bool.and_eq_true] at k
      exact of_decide_eq_true k.2
    have b2 : (aG (aNl (wNB e))).length < 1000000 := by
      have k := k18
      unfold vMc at k
      simp only [Bool.and_eq_true] at k
      exact of_decide_eq_true k.2
    omega
  refine ⟨a, a, HA, HH, ρ2, σ2, ty2, ?_, q1, ?_, q2, fun _ => rfl, q3.trans (eρ 0 (by omega)), q4.trans (by rw [eρ 1 (by omega)]), q5 0 (by omega), q5 1 (by omega), q6, ⟨hkeep ρ σ ty H ρ2 σ2 ty2 HH h hP9 q5 q6 q18 q19, fun u hu => ?_⟩, q7⟩
  · rw [xRc h (by omega) (show (sG (aSt N))[0]? = some c0 from y1) y2 rfl, y3]
  · rw [xRc h (by omega) (show (sG (aSt N))[1]? = some c1 from x1) x2 (q15 _ c1 (tyP_iff.mpr ⟨h.2.1 1 c1 x1, hpB c1 x1⟩)), x3]
  · obtain ⟨i, hi, hiu⟩ := List.getElem_of_mem hu
    have w := p1 i (List.mem_range.mpr hi) u (by rw [List.getElem?_eq_getElem hi, hiu])
    have hok := hFS u hu
    rw [k11, k12]
    have bd1 : ∀ (i c : Nat), GA0[i]? = some c → cTA d0 (sR (cSA d0) i) = some c := fun i c hc => by
      have hlt := (List.getElem?_eq_some_iff.mp hc).1
      have g := p2 _ _ (p4 i c hc)
      have e9 : sR (cSA d0) i = sR (sO σ τA) i := by
        unfold sR
        rw [if_pos (by omega), if_pos (by omega)]
        exact q9 i (by omega)
      rw [e9]
      exact g
    have bd2 : ∀ (i c : Nat), GB0[i]? = some c → cTB d0 (sR (cSB d0) i) = some c := fun i c hc => by
      have hlt := (List.getElem?_eq_some_iff.mp hc).1
      have g := p3 _ _ (p5 i c hc)
      have e9 : sR (cSB d0) i = sR (sO σ τB) i := by
        unfold sR
        rw [if_pos (by omega), if_pos (by omega)]
        exact q10 i (by omega)
      rw [e9]
      exact g
    exact wHd_ext (wOk_a hok).1 (wHd_typ hok (List.all_eq_true.mp hFB u hu) q11 q12 bd1 bd2 q16 q17 w) (fun i hi => sx (by omega) k26 k13 q9 i (by omega)) (fun i hi => sx (by omega) k27 k14 q10 i (by omega))

/-- the script's ints pushed, or what is made of them -/
def bPush (tb : XT) (tyl : List FieldType) (ot : XO Int32) (dp pc p2 : Nat) (as : Nat → List Int32) : Prop :=
  ∀ (t : Nat) (L : List (Nat × XV Int32)) (S : List (XV Int32)) (H : List (XC Int32)) (cn sn : Nat) (v : Option (XV Int32)) (H2 : List (XC Int32)) (i : Int32), x_lk L 0 = some (.inr (some 1000000)) → x_lk L 3 = some (.inl i) → i.toInt = (t : Int) → t + 7 ≤ oSn ot → oSn ot < 1000000 →
    x_To tb tyl ot dp 0 p2 L (((as t).map Sum.inl).reverse ++ S) H cn sn v H2 → x_To tb tyl ot dp 0 pc L S H cn sn v H2
def bIs (ot : XO Int32) (t : Nat) : Nat → Nat → List Int32
  | 0, _ => []
  | n + 1, j => oSc ot (t + j) :: bIs ot t n (j + 1)
theorem bIs_len (ot : XO Int32) (t : Nat) : ∀ n j, (bIs ot t n j).length = n
  | 0, _ => rfl
  | n + 1, j => congrArg (· + 1) (bIs_len ot t n (j + 1))
theorem bIs_vs (ot : XO Int32) (t : Nat) : ∀ n j, bVs ot t n j = (bIs ot t n j).map Sum.inl
  | 0, _ => rfl
  | n + 1, j => by
    show _ :: bVs ot t n (j + 1) = _ :: (bIs ot t n (j + 1)).map Sum.inl
    rw [bIs_vs ot t n (j + 1)]
theorem bPush_args {tb : XT} {tyl : List FieldType} {ot : XO Int32} {dp n j pc p2 : Nat} {q : XM} (hq : tMth tb 0 = some q) (hb : bArgs q n j pc = some p2) (h : j + n ≤ 7) : bPush tb tyl ot dp pc p2 (fun t => bIs ot t n j) :=
  fun t L S H cn sn v H2 i l0 l3 e1 ht hn g => bArgs_to hq l0 l3 e1 hn n j _ _ _ hb (by omega) (by
    rw [bIs_vs]
    exact g)
theorem bPush_app {tb : XT} {tyl : List FieldType} {ot : XO Int32} {dp pc p2 p3 : Nat} {as bs : Nat → List Int32} (h1 : bPush tb tyl ot dp pc p2 as) (h2 : bPush tb tyl ot dp p2 p3 bs) : bPush tb tyl ot dp pc p3 (fun t => as t ++ bs t) :=
  fun t L S H cn sn v H2 i l0 l3 e1 ht hn g => h1 t L S H cn sn v H2 i l0 l3 e1 ht hn (h2 t L _ H cn sn v H2 i l0 l3 e1 ht hn (by
    rw [List.map_append, List.reverse_append, List.append_assoc] at g
    exact g))
/-- an int of the script as a boolean -/
theorem bPush_mask {tb : XT} {tyl : List FieldType} {ot : XO Int32} {dp j pc p1 p3 p4 n1 n2 n3 n4 : Nat} {x y : Int} {q : XM} (hq : tMth tb 0 = some q) (hb : bArg q pc j = some p1) (h : j < 7) (c1 : mC q p1 = some (.ifCond .eq x, n1)) (c2 : x_jp p1 x = some p3) (c3 : mC q (p1 + 3) = some (.iconst 1, n2)) (c4 : mC q (p1 + 3 + 1) = some (.goto y, n3)) (c5 : x_jp (p1 + 3 + 1) y = some p4) (c6 : mC q p3 = some (.iconst 0, n4)) (c7 : p3 + 1 = p4) :
    bPush tb tyl ot dp pc p4 (fun t => [if x_cmp (x_cn .eq) (oSc ot (t + j)) (dKc dC 0) = true then dKc dC (Int32.ofInt 0) else dKc dC (Int32.ofInt 1)]) :=
  fun t L S H cn sn v H2 i l0 l3 e1 ht hn g => bArg_to hb hq l0 l3 e1 (by omega) hn (by
    have g : x_To tb tyl ot dp 0 p4 L (.inl (if x_cmp (x_cn .eq) (oSc ot (t + j)) (dKc dC 0) = true then dKc dC (Int32.ofInt 0) else dKc dC (Int32.ofInt 1)) :: S) H cn sn v H2 := g
    by_cases h : x_cmp (x_cn .eq) (oSc ot (t + j)) (dKc dC 0) = true
    · rw [if_pos h] at g
      exact xT_ifCondY hq c1 c2 h (xT_iconst hq c6 (by rw [c7]; exact g))
    · rw [if_neg h] at g
      exact xT_ifCondN hq c1 c2 (Bool.eq_false_iff.mpr h) (xT_iconst hq c3 (xT_goto hq c4 c5 g)))
/-- a block that throws the answers away -/
theorem cBlkPA {KT : vKT} {tb : XT} {tyl : List FieldType} {ot : XO Int32} {N : vAn} {P : (Nat → Nat) → (Nat → Option Nat) → List (XC Int32) → Prop} {dp hd pc p1 p2 pi n kA kB ixA ixB n1 n2 n3 n4 n5 n6 n7 n8 n9 : Nat} {x6 x7 x8 : Int} {q qA qB : XM} {cmp : Prop} {as : Nat → List Int32} (hlen : ∀ t, (as t).length = n) (hq : tMth tb 0 = some q) (hL : aL N = bLs) (hqA : tMth tb kA = some qA) (hqB : tMth tb kB = some qB) (hn : oSn ot < 1000000) (hn7 : n ≤ 6)
    (c1 : mC q pc = some (.aload_n 1, n1)) (c2 : bPush tb tyl ot (dp + 1) (pc + 1) p1 as) (c3 : mC q p1 = some (.invokevirtual ixA, n2)) (c4 : tCal tb (mO q) ixA = some (kA, 0)) (c5 : mC q (p1 + 3) = some (.pop, n3)) (c6 : mC q (p1 + 3 + 1) = some (.aload_n 2, n4)) (c7 : bPush tb tyl ot (dp + 1) (p1 + 3 + 1 + 1) p2 as) (c8 : mC q p2 = some (.invokevirtual ixB, n5)) (c9 : tCal tb (mO q) ixB = some (kB, 0)) (c10 : mC q (p2 + 3) = some (.pop, n6)) (c11 : mC q (p2 + 3 + 1) = some (.goto x6, n7)) (c12 : x_jp (p2 + 3 + 1) x6 = some pi)
    (i1 : mC q pi = some (.iinc 3 x7, n8)) (i2 : mC q (pi + 3) = some (.goto x8, n9)) (i3 : x_jp (pi + 3) x8 = some hd) (i4 : (Int32.ofInt x7).toInt = 7) (i5 : 3 < mL q) (a1 : mNp qA = n) (a2 : n + 1 ≤ mL qA) (b1 : mNp qB = n) (b2 : n + 1 ≤ mL qB)
    (hcn : ∀ ρ : Nat → Int, 0 ≤ ρ 1 → ρ 1 + 7 ≤ ρ 0 → ρ 0 ≤ 3584 → lEv ρ (aCn N) + ((mMc qA + mMc qB : Nat) : Int) ≤ ((mMc q : Nat) : Int) ∧ lEv ρ (aSn N) + ((mMs qA + mMs qB : Nat) : Int) ≤ ((mMs q : Nat) : Int)) (hcm : mMc q ≤ 1000000) (hcd : ∀ ρ ρ2 : Nat → Int, ρ2 0 = ρ 0 → ρ2 1 = ρ 1 + 7 → lEv ρ (aCn N) + ((mMc qA + mMc qB : Nat) : Int) ≤ lEv ρ2 (aCn N) ∧ lEv ρ (aSn N) + ((mMs qA + mMs qB : Nat) : Int) ≤ lEv ρ2 (aSn N)) (hs : oSn ot ≤ 3584)
    (hPP : bPA KT tb tyl ot N P dp kA kB n (mMc qA + mMc qB) (mRc qA) (mRc qB) cmp)
    {ρ : Nat → Int} {σ : Nat → Nat} {ty : Nat → Option Nat} {H : List (XC Int32)} {Lc : List (Nat × XV Int32)} {cn2 sn2 : Nat} (hat : lwAt KT ot N P ρ σ ty H Lc cn2 sn2) (h0 : 0 ≤ ρ 1) (h7 : ρ 1 + 7 ≤ ρ 0)
    (cont : ∀ ρ2 σ2 ty2 H2 Lc2 cn3 sn3, ρ2 1 = ρ 1 + 7 → lwAt KT ot N P ρ2 σ2 ty2 H2 Lc2 cn3 sn3 → ∃ H3, x_To tb tyl ot (dp + 1) 0 hd Lc2 [] H2 cn3 sn3 (some (.inl 1)) H3) : ∃ H3, x_To tb tyl ot (dp + 1) 0 pc Lc [] H cn2 sn2 (some (.inl 1)) H3 := by
  obtain ⟨g0, g1, g2, g3, g4, g5, g6, g7⟩ := hat
  obtain ⟨t, ht⟩ : ∃ t : Nat, ρ 1 = (t : Int) := ⟨(ρ 1).toNat, by omega⟩
  obtain ⟨m1, m2⟩ := hcn ρ h0 h7 (by omega)
  have hmc : H.length + (mMc qA + mMc qB) ≤ 1000000 := by omega
  obtain ⟨a, b, HA, HH, ρ2, σ2, ty2, y1, y2, y3, y4, y5, y6, y7, y8, y9, y10, y11, y12⟩ := hPP ρ σ ty H t (as t) (hlen t) g0 ht (by omega) hmc g3 g7
  have l0 : x_lk Lc 0 = some (.inr (some 1000000)) := g4 0 (.inr (some 1000000)) (by rw [hL]; rfl)
  have l1 : x_lk Lc 1 = some (.inr (some (sR σ 0))) := g4 1 (.inr (some 0)) (by rw [hL]; rfl)
  have l2 : x_lk Lc 2 = some (.inr (some (sR σ 1))) := g4 2 (.inr (some 1)) (by rw [hL]; rfl)
  have l3 : x_lk Lc 3 = some (.inl (Int32.ofInt (ρ 1))) := by
    rw [g4 3 (.inl (lSy 1)) (by rw [hL]; rfl)]
    exact congrArg (fun z => some (Sum.inl (Int32.ofInt z))) (lSy_ev ρ 1)
  have e1 : (Int32.ofInt (ρ 1)).toInt = (t : Int) := by
    rw [ht]
    exact ofInt_toInt (by omega) (by omega)
  obtain ⟨d1, d2⟩ := hcd ρ ρ2 y6 y7
  obtain ⟨H3, h3⟩ := bEnd (cn := cn2) (sn := sn2) (mc := mMc qA + mMc qB) (ms := mMs qA + mMs qB) hq hL i1 i2 i3 i4 i5 hn g4 ht (by omega) (y6.trans g0) y7 y8 y9 y10 y11 y12 g1 hmc (by omega) (by omega) cont
  refine ⟨H3, xT_aload_n hq c1 l1 (c2 t _ _ _ _ _ _ _ _ l0 l3 e1 (by omega) hn (bCall hq c3 c4 hqA a1 (by rw [List.length_map]; exact hlen t) (by decide) a2 y1 (by omega) (by omega) y2 (xT_pop hq c5 (xT_aload_n hq c6 l2 (c7 t _ _ _ _ _ _ _ _ l0 l3 e1 (by omega) hn (bCall hq c8 c9 hqB b1 (by rw [List.length_map]; exact hlen t) (by decide) b2 y3 (by omega) (by omega) y4 (xT_pop hq c10 (xT_goto hq c11 c12 ?_))))))))⟩
  rw [Nat.add_assoc cn2, Nat.add_assoc sn2]
  exact h3
/-- a block that compares the answers, and goes straight on -/
theorem cBlkDA {KT : vKT} {tb : XT} {tyl : List FieldType} {ot : XO Int32} {N : vAn} {P : (Nat → Nat) → (Nat → Option Nat) → List (XC Int32) → Prop} {dp hd pc p1 p2 pi n kA kB ixA ixB n1 n2 n4 n5 n6 n8 n9 : Nat} {x5 x7 x8 : Int} {q qA qB : XM} {cmp : Prop} {as : Nat → List Int32} (hlen : ∀ t, (as t).length = n) (hc : cmp) (hq : tMth tb 0 = some q) (hL : aL N = bLs) (hqA : tMth tb kA = some qA) (hqB : tMth tb kB = some qB) (hn : oSn ot < 1000000) (hn7 : n ≤ 6)
    (c1 : mC q pc = some (.aload_n 1, n1)) (c2 : bPush tb tyl ot (dp + 1) (pc + 1) p1 as) (c3 : mC q p1 = some (.invokevirtual ixA, n2)) (c4 : tCal tb (mO q) ixA = some (kA, 0)) (c6 : mC q (p1 + 3) = some (.aload_n 2, n4)) (c7 : bPush tb tyl ot (dp + 1) (p1 + 3 + 1) p2 as) (c8 : mC q p2 = some (.invokevirtual ixB, n5)) (c9 : tCal tb (mO q) ixB = some (kB, 0)) (c10 : mC q (p2 + 3) = some (.if_icmp .eq x5, n6)) (c13 : x_jp (p2 + 3) x5 = some pi)
    (i1 : mC q pi = some (.iinc 3 x7, n8)) (i2 : mC q (pi + 3) = some (.goto x8, n9)) (i3 : x_jp (pi + 3) x8 = some hd) (i4 : (Int32.ofInt x7).toInt = 7) (i5 : 3 < mL q) (a1 : mNp qA = n) (a2 : n + 1 ≤ mL qA) (b1 : mNp qB = n) (b2 : n + 1 ≤ mL qB)
    (hcn : ∀ ρ : Nat → Int, 0 ≤ ρ 1 → ρ 1 + 7 ≤ ρ 0 → ρ 0 ≤ 3584 → lEv ρ (aCn N) + ((mMc qA + mMc qB : Nat) : Int) ≤ ((mMc q : Nat) : Int) ∧ lEv ρ (aSn N) + ((mMs qA + mMs qB : Nat) : Int) ≤ ((mMs q : Nat) : Int)) (hcm : mMc q ≤ 1000000) (hcd : ∀ ρ ρ2 : Nat → Int, ρ2 0 = ρ 0 → ρ2 1 = ρ 1 + 7 → lEv ρ (aCn N) + ((mMc qA + mMc qB : Nat) : Int) ≤ lEv ρ2 (aCn N) ∧ lEv ρ (aSn N) + ((mMs qA + mMs qB : Nat) : Int) ≤ lEv ρ2 (aSn N)) (hs : oSn ot ≤ 3584)
    (hPP : bPA KT tb tyl ot N P dp kA kB n (mMc qA + mMc qB) (mRc qA) (mRc qB) cmp)
    {ρ : Nat → Int} {σ : Nat → Nat} {ty : Nat → Option Nat} {H : List (XC Int32)} {Lc : List (Nat × XV Int32)} {cn2 sn2 : Nat} (hat : lwAt KT ot N P ρ σ ty H Lc cn2 sn2) (h0 : 0 ≤ ρ 1) (h7 : ρ 1 + 7 ≤ ρ 0)
    (cont : ∀ ρ2 σ2 ty2 H2 Lc2 cn3 sn3, ρ2 1 = ρ 1 + 7 → lwAt KT ot N P ρ2 σ2 ty2 H2 Lc2 cn3 sn3 → ∃ H3, x_To tb tyl ot (dp + 1) 0 hd Lc2 [] H2 cn3 sn3 (some (.inl 1)) H3) : ∃ H3, x_To tb tyl ot (dp + 1) 0 pc Lc [] H cn2 sn2 (some (.inl 1)) H3 := by
  obtain ⟨g0, g1, g2, g3, g4, g5, g6, g7⟩ := hat
  obtain ⟨t, ht⟩ : ∃ t : Nat, ρ 1 = (t : Int) := ⟨(ρ 1).toNat, by omega⟩
  obtain ⟨m1, m2⟩ := hcn ρ h0 h7 (by omega)
  have hmc : H.length + (mMc qA + mMc qB) ≤ 1000000 := by omega
  obtain ⟨a, b, HA, HH, ρ2, σ2, ty2, y1, y2, y3, y4, y5, y6, y7, y8, y9, y10, y11, y12⟩ := hPP ρ σ ty H t (as t) (hlen t) g0 ht (by omega) hmc g3 g7
  have l0 : x_lk Lc 0 = some (.inr (some 1000000)) := g4 0 (.inr (some 1000000)) (by rw [hL]; rfl)
  have l1 : x_lk Lc 1 = some (.inr (some (sR σ 0))) := g4 1 (.inr (some 0)) (by rw [hL]; rfl)
  have l2 : x_lk Lc 2 = some (.inr (some (sR σ 1))) := g4 2 (.inr (some 1)) (by rw [hL]; rfl)
  have l3 : x_lk Lc 3 = some (.inl (Int32.ofInt (ρ 1))) := by
    rw [g4 3 (.inl (lSy 1)) (by rw [hL]; rfl)]
    exact congrArg (fun z => some (Sum.inl (Int32.ofInt z))) (lSy_ev ρ 1)
  have e1 : (Int32.ofInt (ρ 1)).toInt = (t : Int) := by
    rw [ht]
    exact ofInt_toInt (by omega) (by omega)
  obtain ⟨d1, d2⟩ := hcd ρ ρ2 y6 y7
  obtain ⟨H3, h3⟩ := bEnd (cn := cn2) (sn := sn2) (mc := mMc qA + mMc qB) (ms := mMs qA + mMs qB) hq hL i1 i2 i3 i4 i5 hn g4 ht (by omega) (y6.trans g0) y7 y8 y9 y10 y11 y12 g1 hmc (by omega) (by omega) cont
  refine ⟨H3, xT_aload_n hq c1 l1 (c2 t _ _ _ _ _ _ _ _ l0 l3 e1 (by omega) hn (bCall hq c3 c4 hqA a1 (by rw [List.length_map]; exact hlen t) (by decide) a2 y1 (by omega) (by omega) y2 (xT_aload_n hq c6 l2 (c7 t _ _ _ _ _ _ _ _ l0 l3 e1 (by omega) hn (bCall hq c8 c9 hqB b1 (by rw [List.length_map]; exact hlen t) (Nat.le_of_ble_eq_true rfl) b2 y3 (by omega) (by omega) y4 (xT_if_icmpY hq c10 c13 (by rw [y5 hc]; exact decide_eq_true rfl) ?_))))))⟩
  rw [Nat.add_assoc cn2, Nat.add_assoc sn2]
  exact h3
end XNdG
