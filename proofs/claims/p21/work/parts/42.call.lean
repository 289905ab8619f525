/-! Contracts of methods, and what a caller knows behind a call. -/
noncomputable section XCall
/-- a contract: depth that it wants, places that it writes, the note at its entry, those at its ends (the answer is their stack), those at its loops by place -/
abbrev vCt : Type := Nat × List (Nat × Nat) × vAn × List vAn × List (Nat × List vAn)
abbrev cD (c : vCt) : Nat := c.1
abbrev cW (c : vCt) : List (Nat × Nat) := c.2.1
abbrev cE (c : vCt) : vAn := c.2.2.1
abbrev cX (c : vCt) : List vAn := c.2.2.2.1
abbrev cU (c : vCt) : List (Nat × List vAn) := c.2.2.2.2
def vPost (KT : vKT) (W : List (Nat × Nat)) (X : List vAn) (n0 m0 mc : Nat) (ρ : Nat → Int) (σ : Nat → Nat) (ty : Nat → Option Nat) (H : List (XC Int32)) (v : Option (XV Int32)) (H2 : List (XC Int32)) : Prop :=
  ∃ A ∈ X, ∃ ρ2 σ2 ty2, (∀ i, i < n0 → ρ2 i = ρ i) ∧ (∀ i, i < m0 → σ2 i = σ i) ∧ vRel KT ρ2 σ2 ty2 H2 (aSt A) ∧ v.toList = (aS A).map (cv ρ2 σ2) ∧ vLe ty ty2 ∧ vFrm W ty H H2 ∧ H2.length ≤ H.length + mc
/-- the method keeps its contract -/
def vCtSem (KT : vKT) (tb : XT) (tyl : List FieldType) (ot : XO Int32) (j : Nat) (c : vCt) : Prop :=
  ∀ (dp : Nat) (q : XM) (ρ : Nat → Int) (σ : Nat → Nat) (ty : Nat → Option Nat) (H : List (XC Int32)) (Lc : List (Nat × XV Int32)), cD c ≤ dp → tMth tb j = some q → vRel KT ρ σ ty H (aSt (cE c)) → vCov ρ σ (aL (cE c)) Lc → H.length + mMc q ≤ 1000000 →
    ∃ v H2, x_To tb tyl ot dp j 0 Lc [] H 0 0 v H2 ∧ vPost KT (cW c) (cX c) (aI (cE c)).length (aG (cE c)).length (mMc q) ρ σ ty H v H2
/-- what stays known over a call -/
def fCal (W : List (Nat × Nat)) (G : List Nat) (F : List vK) : List vK := F.filter (fun f => match G[f.1]? with
  | none => false
  | some c => match f.2.1 with
    | .inl j => !(wIn W c (j + 1))
    | .inr _ => (!(wIn W c 0) && !(wIn W c 1)) || kyAp f.2.1)
theorem fCal_spec {ρ : Nat → Int} {σ : Nat → Nat} {ty : Nat → Option Nat} {W : List (Nat × Nat)} {G : List Nat} {H H2 : List (XC Int32)} (hs : vSym ty σ G) (hf : vFrm W ty H H2) {F : List vK} (hF : ∀ f ∈ F, vHolds ρ σ H f) : ∀ f ∈ fCal W G F, vHolds ρ σ H2 f := by
  intro f hm
  obtain ⟨h1, h2⟩ := List.mem_filter.mp hm
  have h3 := hF f h1
  split at h2
  · cases h2
  rename_i c hc
  have hty := hs _ _ hc
  rcases h3 with h3 | h3
  rotate_left
  · exact Or.inr h3
  refine Or.inl ?_
  obtain ⟨i, j | e, v⟩ := f
  · obtain ⟨ci, fs, y1, y2⟩ := h3
    have hw : wIn W c (j + 1) = false := by simpa using h2
    obtain ⟨z2, z1, z3⟩ := hf _ _ _ hty y1
    rcases z2 with ⟨c2, gs⟩ | z2
    · exact ⟨c2, gs, z1, by rw [z3.2.2 j hw]; exact y2⟩
    · exact z3.elim
  · obtain ⟨t, vs, y1, y0, y2⟩ := h3
    have y0' : 0 ≤ lEv ρ e := y0
    have h2 : (!(wIn W c 0) && !(wIn W c 1)) = true := by
      rcases Bool.or_eq_true_iff.mp h2 with h2 | h2
      · exact h2
      · have hk := Bool.and_eq_true_iff.mp h2
        have e1 : e.1 = -1 := of_decide_eq_true hk.1
        have e2 : e.2 = [] := List.isEmpty_iff.mp hk.2
        have h6 : lEv ρ e = e.1 + lS ρ e.2 := rfl
        rw [e1, e2] at h6
        have h7 : lS ρ [] = 0 := rfl
        omega
    have h4 := Bool.and_eq_true_iff.mp h2
    have hw : wIn W c 0 = false := by simpa using h4.1
    have hw1 : wIn W c 1 = false := by simpa using h4.2
    obtain ⟨z2, z1, z3⟩ := hf _ _ _ hty y1
    rcases z2 with z2 | ⟨t2, us⟩
    · exact z3.elim
    · have e : us = vs := by
        have z4 := z3.2 hw
        unfold vMonV at z4
        rw [hw1, if_neg (by decide)] at z4
        exact z4
      exact ⟨t2, us, z1, y0, by rw [e]; exact y2⟩
/-- a note names its own unknowns and symbols alone -/
def aBd (A : vAn) : Bool := (aF A).all (fun f => decide (f.1 < (aG A).length) && kyBd (aI A).length f.2.1 && vBd (aI A).length (aG A).length f.2.2) && (aC A).all (lBd (aI A).length) && (aM A).all (mBd (aI A).length) && (aS A).all (vBd (aI A).length (aG A).length) && decide ((aG A).length < 1000000)
def thX (n k : Nat) (θ : List lT) : List lT := θ ++ (List.range k).map (fun i => lSy (n + i))
def taX (m k : Nat) (τ : List Nat) : List Nat := τ ++ (List.range k).map (fun i => m + i)
/-- the state behind a call that ended so -/
def vExS (W : List (Nat × Nat)) (X : vAn) (n0 m0 : Nat) (θ : List lT) (τ : List Nat) (s : vSt) : vSt :=
  let kI := (aI X).length - n0
  let kG := (aG X).length - m0
  let th := thX (sN s) kI θ
  let ta := taX (sG s).length kG τ
  (sN s + kI, sG s ++ (aG X).drop m0, (aF X).map (fun f => (tSb ta f.1, kySb th f.2.1, vSb th ta f.2.2)) ++ fCal W (sG s) (sF s), zipI (sN s) ((aI X).drop n0) ++ sI s, (aC X).map (lSb th) ++ sC s, (aM X).map (fun m => (m.1, lSb th m.2.1, lSb th m.2.2.1, lSb th m.2.2.2)) ++ sM s, [])
def vExt1 (W : List (Nat × Nat)) (X : vAn) (n0 m0 : Nat) (θ : List lT) (τ : List Nat) (s : vSt) (kk : vSt → List vA → Bool) : Bool :=
  aBd X && decide (n0 ≤ (aI X).length) && decide (m0 ≤ (aG X).length) && decide (θ.length = n0) && decide (τ.length = m0) && θ.all (lBd (sN s)) && τ.all (fun i => decide (i < (sG s).length) || decide (1000000 ≤ i)) && sBd s && decide ((sG s).length + (aG X).length < 1000000) && kk (vExS W X n0 m0 θ τ s) ((aS X).map (vSb (thX (sN s) ((aI X).length - n0) θ) (taX (sG s).length ((aG X).length - m0) τ)))
theorem vExt1_spec {KT : vKT} {W : List (Nat × Nat)} {X : vAn} {n0 m0 : Nat} {θ : List lT} {τ : List Nat} {s : vSt} {kk : vSt → List vA → Bool} (hk : vExt1 W X n0 m0 θ τ s kk = true) {ρ ρ2 : Nat → Int} {σ σ2 : Nat → Nat} {ty ty2 : Nat → Option Nat} {H H2 : List (XC Int32)} (h : vRel KT ρ σ ty H s) (hρ : ∀ i, i < n0 → ρ2 i = rO ρ θ i) (hσ : ∀ i, i < m0 → σ2 i = sO σ τ i) (h2 : vRel KT ρ2 σ2 ty2 H2 (aSt X)) (hle : vLe ty ty2) (hf : vFrm W ty H H2) :
    ∃ ρ3 σ3 s3 S3, vExt s s3 ρ ρ3 σ σ3 ∧ vRel KT ρ3 σ3 ty2 H2 s3 ∧ S3.map (cv ρ3 σ3) = (aS X).map (cv ρ2 σ2) ∧ kk s3 S3 = true := by
  unfold vExt1 at hk
  simp only [Bool.and_eq_true] at hk
  obtain ⟨⟨⟨⟨⟨⟨⟨⟨⟨k0, k1⟩, k2⟩, k3⟩, k4⟩, k5⟩, k6⟩, k7⟩, k8⟩, k9⟩ := hk
  have k1 := of_decide_eq_true k1
  have k2 := of_decide_eq_true k2
  have k3 := of_decide_eq_true k3
  have k4 := of_decide_eq_true k4
  have k8 := of_decide_eq_true k8
  unfold aBd at k0
  simp only [Bool.and_eq_true] at k0
  obtain ⟨⟨⟨⟨b1, b2⟩, b3⟩, b4⟩, b5⟩ := k0
  have b5 := of_decide_eq_true b5
  let ρ3 : Nat → Int := fun i => if i < sN s then ρ i else ρ2 (n0 + (i - sN s))
  let σ3 : Nat → Nat := fun i => if i < (sG s).length then σ i else σ2 (m0 + (i - (sG s).length))
  have e1 : ∀ i, i < sN s → ρ3 i = ρ i := fun i hi => if_pos hi
  have e2 : ∀ i, i < (sG s).length → σ3 i = σ i := fun i hi => if_pos hi
  have t1 : ∀ i, i < (aI X).length → rO ρ3 (thX (sN s) ((aI X).length - n0) θ) i = ρ2 i := fun i hi => by
    unfold rO thX
    by_cases c : i < n0
    · rw [List.getD_eq_getElem?_getD, List.getElem?_append_left (by omega), hρ i c]
      have hl : θ[i]? = some (θ[i]'(by omega)) := List.getElem?_eq_getElem (by omega)
      unfold rO
      rw [List.getD_eq_getElem?_getD, hl]
      exact lBd_spec e1 (List.all_eq_true.mp k5 _ (List.mem_of_getElem? hl))
    · rw [List.getD_eq_getElem?_getD, List.getElem?_append_right (by omega), List.getElem?_map, List.getElem?_range (by omega)]
      show lEv ρ3 (lSy (sN s + (i - θ.length))) = ρ2 i
      rw [lSy_ev]
      show (if sN s + (i - θ.length) < sN s then _ else ρ2 (n0 + (sN s + (i - θ.length) - sN s))) = ρ2 i
      rw [if_neg (by omega)]
      congr 1
      omega
  have t2 : ∀ i, i < (aG X).length → sO σ3 (taX (sG s).length ((aG X).length - m0) τ) i = σ2 i := fun i hi => by
    unfold sO taX
    by_cases c : i < m0
    · rw [List.getD_eq_getElem?_getD, List.getElem?_append_left (by omega), hσ i c]
      have hl : τ[i]? = some (τ[i]'(by omega)) := List.getElem?_eq_getElem (by omega)
      unfold sO
      rw [List.getD_eq_getElem?_getD, hl]
      exact sR_spec e2 (List.all_eq_true.mp k6 _ (List.mem_of_getElem? hl))
    · rw [List.getD_eq_getElem?_getD, List.getElem?_append_right (by omega), List.getElem?_map, List.getElem?_range (by omega)]
      show (if (sG s).length + (i - τ.length) < 1000000 then (if (sG s).length + (i - τ.length) < (sG s).length then _ else σ2 (m0 + ((sG s).length + (i - τ.length) - (sG s).length))) else _) = σ2 i
      rw [if_pos (by omega), if_neg (by omega)]
      congr 1
      omega
  have u1 : ∀ l, lBd (aI X).length l = true → lEv ρ3 (lSb (thX (sN s) ((aI X).length - n0) θ) l) = lEv ρ2 l := fun l hl => by
    rw [lSb_ev]
    exact lBd_spec t1 hl
  have u2 : ∀ i, (decide (i < (aG X).length) || decide (1000000 ≤ i)) = true → sR σ3 (tSb (taX (sG s).length ((aG X).length - m0) τ) i) = sR σ2 i := fun i hi => by
    rw [tSb_spec]
    exact sR_spec t2 hi
  have u3 : ∀ v, vBd (aI X).length (aG X).length v = true → cv ρ3 σ3 (vSb (thX (sN s) ((aI X).length - n0) θ) (taX (sG s).length ((aG X).length - m0) τ) v) = cv ρ2 σ2 v := fun v hv => by
    rw [vSb_cv]
    exact vBd_spec t1 t2 hv
  obtain ⟨g1, g2, g3, g4, g5, g6, g7, g8⟩ := h2
  obtain ⟨f1, f2, f3, f4, f5, f6, f7, f8⟩ := vRel_ext h k7 e1 e2
  refine ⟨ρ3, σ3, _, _, ⟨e1, e2, Nat.le_add_right _ _, ?_⟩, ⟨g1, fun i c hc => ?_, fun f hm => ?_, fun q hq => ?_, fun c hc => ?_, fun m hm => ?_, g7, fun a c d ha hd => (by obtain ⟨i, hi, -⟩ := g8 a c d ha hd; cases hi)⟩, ?_, k9⟩
  · show (sG s).length ≤ (sG s ++ _).length
    rw [List.length_append]
    exact Nat.le_add_right _ _
  · have hc : (sG s ++ (aG X).drop m0)[i]? = some c := hc
    by_cases c1 : i < (sG s).length
    · rw [List.getElem?_append_left c1] at hc
      exact hle _ _ (f2 i c hc)
    · rw [List.getElem?_append_right (by omega), List.getElem?_drop] at hc
      have hlt : m0 + (i - (sG s).length) < (aG X).length := (List.getElem?_eq_some_iff.mp hc).1
      have z := g2 _ c hc
      have e : sR σ3 i = sR σ2 (m0 + (i - (sG s).length)) := by
        show (if i < 1000000 then (if i < (sG s).length then _ else σ2 (m0 + (i - (sG s).length))) else i) = (if m0 + (i - (sG s).length) < 1000000 then σ2 (m0 + (i - (sG s).length)) else _)
        rw [if_pos (by omega), if_neg c1, if_pos (by omega)]
      rw [e]
      exact z
  · rcases List.mem_append.mp hm with hm | hm
    · obtain ⟨f0, y1, rfl⟩ := List.mem_map.mp hm
      have y2 := List.all_eq_true.mp b1 f0 y1
      simp only [Bool.and_eq_true] at y2
      obtain ⟨⟨y3, y4⟩, y5⟩ := y2
      have y6 := g3 f0 y1
      obtain ⟨x, key, v⟩ := f0
      rcases y6 with y6 | ⟨k, n1, n2, n3⟩
      rotate_left
      · have n1 : key = .inr (lK (-1)) := n1
        have n2 : v = .inr (some k) := n2
        subst n1
        subst n2
        have y5 : (decide (k < (aG X).length) || decide (1000000 ≤ k)) = true := y5
        refine Or.inr ⟨tSb (taX (sG s).length ((aG X).length - m0) τ) k, rfl, rfl, ?_⟩
        have hx := u2 x (by rw [show decide (x < (aG X).length) = true from y3]; rfl)
        have hy := u2 k y5
        show sR σ3 (tSb (taX (sG s).length ((aG X).length - m0) τ) x) ≠ sR σ3 (tSb (taX (sG s).length ((aG X).length - m0) τ) k)
        rw [hx, hy]
        exact n3
      refine Or.inl ?_
      unfold vPlace at y6 ⊢
      dsimp only at y3 y4 y5 y6 ⊢
      rw [u3 v y5]
      have hx := u2 x (by rw [y3]; rfl)
      rcases key with j | e
      · obtain ⟨ci, fs, z1, z2⟩ := y6
        exact ⟨ci, fs, by rw [hx]; exact z1, z2⟩
      · obtain ⟨t, vs, z1, z0, z2⟩ := y6
        have he := u1 e y4
        exact ⟨t, vs, by rw [hx]; exact z1, by rw [he]; exact z0, by rw [he]; exact z2⟩
    · exact fCal_spec f2 hf f3 f hm
  · rcases List.mem_append.mp hq with hq | hq
    · refine zipI_spec.mpr (fun i p hp => ?_) q hq
      rw [List.getElem?_drop] at hp
      have z := zipI_spec.mp g4 _ p hp
      rw [Nat.zero_add] at z
      show p.1 ≤ (if sN s + i < sN s then _ else ρ2 (n0 + (sN s + i - sN s))) ∧ (if sN s + i < sN s then _ else ρ2 (n0 + (sN s + i - sN s))) ≤ p.2
      rw [if_neg (by omega), Nat.add_sub_cancel_left]
      exact z
    · exact f4 q hq
  · rcases List.mem_append.mp hc with hc | hc
    · obtain ⟨c0, y1, rfl⟩ := List.mem_map.mp hc
      rw [u1 c0 (List.all_eq_true.mp b2 c0 y1)]
      exact g5 c0 y1
    · exact f5 c hc
  · rcases List.mem_append.mp hm with hm | hm
    · obtain ⟨m0', y1, rfl⟩ := List.mem_map.mp hm
      have y2 := List.all_eq_true.mp b3 m0' y1
      have y3 := Bool.and_eq_true_iff.mp y2
      have y4 := Bool.and_eq_true_iff.mp y3.1
      have y5 := g6 m0' y1
      unfold mHd at y5 ⊢
      dsimp only
      rw [u1 _ y4.1, u1 _ y4.2, u1 _ y3.2]
      exact y5
    · exact f6 m hm
  · rw [List.map_map]
    exact List.map_congr_left fun v hv => u3 v (List.all_eq_true.mp b4 v hv)
/-- a call by one of its contracts -/
def wSub (W2 W : List (Nat × Nat)) : Bool := W2.all (fun w => wIn W w.1 w.2)
theorem wSub_spec {W2 W : List (Nat × Nat)} (h : wSub W2 W = true) (c k : Nat) (hk : wIn W2 c k = true) : wIn W c k = true := by
  obtain ⟨w, hw, h1⟩ := List.any_eq_true.mp hk
  have h2 := Bool.and_eq_true_iff.mp h1
  have h3 := List.all_eq_true.mp h w hw
  rw [Nat.eq_of_beq_eq_true h2.1, Nat.eq_of_beq_eq_true h2.2] at h3
  exact h3
def vCal (W : List (Nat × Nat)) (dp : Nat) (as : List vA) (s : vSt) (kk : vSt → List vA → Bool) : List vCt → Bool
  | [] => false
  | c :: r => (match vMt (cE c) 0 0 (x_en 0 as) [] s with
    | none => vCal W dp as s kk r
    | some p => decide (cD c ≤ dp) && wSub (cW c) W && (cX c).all (fun X => vExt1 (cW c) X (aI (cE c)).length (aG (cE c)).length p.1 p.2 s kk))
theorem vCal_spec {KT : vKT} {tb : XT} {tyl : List FieldType} {ot : XO Int32} {j : Nat} {W : List (Nat × Nat)} {dp dp2 : Nat} {as : List vA} {s : vSt} {kk : vSt → List vA → Bool} {q : XM} {ρ : Nat → Int} {σ : Nat → Nat} {ty ty0 : Nat → Option Nat} {H H0 : List (XC Int32)} (hq : tMth tb j = some q) (hd : dp ≤ dp2) (h : vRel KT ρ σ ty H s) (hlen : H.length + mMc q ≤ 1000000) (hle : vLe ty0 ty) (hf : vFrm W ty0 H0 H) : ∀ {l : List vCt}, (∀ c ∈ l, vCtSem KT tb tyl ot j c) → vCal W dp as s kk l = true →
    ∃ v H2 ρ3 σ3 ty3 s3 S3, x_To tb tyl ot dp2 j 0 (x_en 0 (as.map (cv ρ σ))) [] H 0 0 v H2 ∧ vExt s s3 ρ ρ3 σ σ3 ∧ vRel KT ρ3 σ3 ty3 H2 s3 ∧ S3.map (cv ρ3 σ3) = v.toList ∧ vLe ty0 ty3 ∧ vFrm W ty0 H0 H2 ∧ H2.length ≤ H.length + mMc q ∧ kk s3 S3 = true
  | [], _, hk => by cases hk
  | c :: r, hc, hk => by
    unfold vCal at hk
    split at hk
    · exact vCal_spec hq hd h hlen hle hf (fun z hz => hc z (List.mem_cons_of_mem _ hz)) hk
    · rename_i p hp
      simp only [Bool.and_eq_true] at hk
      obtain ⟨⟨k1, k2⟩, k3⟩ := hk
      have k1 := of_decide_eq_true k1
      obtain ⟨g1, g2, -, -, -, -, -, -⟩ := vMt_spec h hp (by decide)
      obtain ⟨v, H2, x1, A, hA, ρ2, σ2, ty2, a1, a2, a3, a4, a5, a6, a7⟩ := hc c List.mem_cons_self dp2 q _ _ ty H (x_en 0 (as.map (cv ρ σ))) (Nat.le_trans k1 hd) hq g1 (g2 _ (vCov_en as 0)) hlen
      obtain ⟨ρ3, σ3, s3, S3, b1, b2, b3, b4⟩ := vExt1_spec (List.all_eq_true.mp k3 A hA) h a1 a2 a3 a5 a6
      exact ⟨v, H2, ρ3, σ3, ty2, s3, S3, x1, b1, b2, b3.trans a4.symm, vLe_tr hle a5, vFrm_tr hf hle (wSub_spec k2) a6, a7, b4⟩
end XCall
