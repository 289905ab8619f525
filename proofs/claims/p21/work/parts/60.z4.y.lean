/-! Edges whose frames are looked up in a table: which families speak of a place of a kind. -/
noncomputable section XTch
def fTh (tch : Nat → Nat → List Nat) (i : Nat) (G : List Nat) (f : vK) : Bool := match G[f.1]? with
  | none => false
  | some c => match f.2.1 with
    | .inl j => (tch c (j + 1)).any (Nat.beq i)
    | .inr _ => ((tch c 0).any (Nat.beq i) && (tch c 1).any (Nat.beq i)) || kyAp f.2.1
def yTh (tch : Nat → Nat → List Nat) (i : Nat) (A : vAn) : Bool := (aF A).all (fTh tch i (aG A))
def wTh (tch : Nat → Nat → List Nat) (GA0 : List Nat) (i : Nat) (u : wN) : Bool := (wPi u).all (fun p => match GA0[p.1]? with
  | some c => (tch c (p.2 + 1)).any (Nat.beq i)
  | none => false) && (wAl u).all (fun x => yTh tch i x.1 && yTh tch i x.2)
/-- the table is right, for all families -/
def wThs (tch : Nat → Nat → List Nat) (GA0 : List Nat) (nF : Nat) (FS : List wN) : Bool := decide (FS.length = nF) && (List.range nF).all (fun i => match FS[i]? with
  | some u => wTh tch GA0 i u
  | none => false)
/-- nothing of W is spoken of by the family i -/
def nTh (tch : Nat → Nat → List Nat) (i : Nat) (W : List (Nat × Nat)) : Prop := ∀ w ∈ W, (tch w.1 w.2).any (Nat.beq i) = false
theorem nTh_in {tch : Nat → Nat → List Nat} {i : Nat} {W : List (Nat × Nat)} (h : nTh tch i W) {c k : Nat} (hk : (tch c k).any (Nat.beq i) = true) : wIn W c k = false := by
  rcases hw : wIn W c k with _ | _
  · rfl
  · exfalso
    unfold wIn at hw
    obtain ⟨w, hm, e⟩ := List.any_eq_true.mp hw
    obtain ⟨e1, e2⟩ := Bool.and_eq_true_iff.mp e
    have e1 := Nat.eq_of_beq_eq_true e1
    have e2 := Nat.eq_of_beq_eq_true e2
    have h1 := h w hm
    rw [e1, e2, hk] at h1
    cases h1
theorem yTh_fk {tch : Nat → Nat → List Nat} {i : Nat} {W : List (Nat × Nat)} (h : nTh tch i W) {A : vAn} (hk : yTh tch i A = true) : uFk W A = true := by
  unfold uFk
  refine List.all_eq_true.mpr (fun f hf => decide_eq_true ?_)
  have k := List.all_eq_true.mp hk f hf
  have hm : fCal W (aG A) [f] = [f] := by
    unfold fCal
    refine List.filter_eq_self.mpr (fun g hg => ?_)
    rcases List.mem_singleton.mp hg with rfl
    unfold fTh at k
    rcases hG : (aG A)[g.1]? with _ | c
    · rw [hG] at k
      cases k
    · rw [hG] at k
      dsimp only at k ⊢
      rcases hy : g.2.1 with j | e
      · rw [hy] at k
        dsimp only at k ⊢
        rw [nTh_in h k]
        rfl
      · rw [hy] at k
        dsimp only at k ⊢
        rcases Bool.or_eq_true_iff.mp k with k | k
        · obtain ⟨k1, k2⟩ := Bool.and_eq_true_iff.mp k
          rw [nTh_in h k1, nTh_in h k2]
          rfl
        · rw [k]
          exact Bool.or_true _
  rw [hm]
  rfl
theorem wTh_fk {tch : Nat → Nat → List Nat} {i : Nat} {WA WB : List (Nat × Nat)} (hA : nTh tch i WA) (hB : nTh tch i WB) {GA0 : List Nat} {u : wN} (hk : wTh tch GA0 i u = true) : wFk WA WB GA0 u = true := by
  unfold wTh at hk
  unfold wFk
  obtain ⟨k1, k2⟩ := Bool.and_eq_true_iff.mp hk
  refine Bool.and_eq_true_iff.mpr ⟨List.all_eq_true.mpr (fun p hp => ?_), List.all_eq_true.mpr (fun x hx => ?_)⟩
  · have k := List.all_eq_true.mp k1 p hp
    rcases hc : GA0[p.1]? with _ | c
    · rw [hc] at k
      cases k
    · rw [hc] at k
      dsimp only at k ⊢
      rw [nTh_in hA k]
      rfl
  · obtain ⟨a, b⟩ := Bool.and_eq_true_iff.mp (List.all_eq_true.mp k2 x hx)
    exact Bool.and_eq_true_iff.mpr ⟨yTh_fk hA a, yTh_fk hB b⟩
section
/-- a part of a list, in the same order -/
noncomputable def sbQ (bs : List Nat) : List Nat → Bool := List.rec (motive := fun _ => List Nat → Bool) (fun as => as.isEmpty) (fun b _ h as => List.rec (motive := fun _ => Bool) true (fun a r _ => Bool.rec (motive := fun _ => Bool) (h as) (h r) (Nat.beq a b)) as) bs
theorem sbQ_mem : ∀ (bs as : List Nat), sbQ bs as = true → ∀ i ∈ as, i ∈ bs := by
  intro bs
  induction bs with
  | nil =>
    intro as h i hi
    rcases as with _ | ⟨a, r⟩
    · exact hi
    · cases h
  | cons b bs ih =>
    intro as h i hi
    rcases as with _ | ⟨a, r⟩
    · exact absurd hi List.not_mem_nil
    · have h : Bool.rec (motive := fun _ => Bool) (sbQ bs (a :: r)) (sbQ bs r) (Nat.beq a b) = true := h
      rcases e : Nat.beq a b with _ | _
      · rw [e] at h
        exact List.mem_cons_of_mem _ (ih (a :: r) h i hi)
      · rw [e] at h
        have e := Nat.eq_of_beq_eq_true e
        rcases List.mem_cons.mp hi with rfl | hi
        · rw [e]
          exact List.mem_cons_self
        · exact List.mem_cons_of_mem _ (ih r h i hi)
noncomputable def wKpQ (tch : Nat → Nat → List Nat) (nF : Nat) (FS : List wN) (GA0 : List Nat) (WA WB : List (Nat × Nat)) (us : List Nat) (o : wE) : Bool := (sbQ us (wUs o) && (wUs o).all (fun i => Nat.blt i nF) && WA.all (fun w => (tch w.1 w.2).all (fun i => !((wUs o).any (Nat.beq i)))) && WB.all (fun w => (tch w.1 w.2).all (fun i => !((wUs o).any (Nat.beq i))))) || wKp FS GA0 WA WB us o
theorem nTh_of {tch : Nat → Nat → List Nat} {us : List Nat} {W : List (Nat × Nat)} (h : W.all (fun w => (tch w.1 w.2).all (fun i => !(us.any (Nat.beq i)))) = true) {i : Nat} (hi : i ∈ us) : nTh tch i W := fun w hw => by
  rcases e : (tch w.1 w.2).any (Nat.beq i) with _ | _
  · rfl
  · exfalso
    obtain ⟨j, hj, ej⟩ := List.any_eq_true.mp e
    have ej : i = j := Nat.eq_of_beq_eq_true ej
    subst ej
    have k := List.all_eq_true.mp (List.all_eq_true.mp h w hw) i hj
    have k2 : us.any (Nat.beq i) = true := List.any_eq_true.mpr ⟨i, hi, Nat.beq_refl i⟩
    rw [k2] at k
    cases k
theorem wKpQ_ok {tch : Nat → Nat → List Nat} {nF : Nat} {FS : List wN} {GA0 : List Nat} (hT : wThs tch GA0 nF FS = true) {WA WB : List (Nat × Nat)} {us : List Nat} {o : wE} (h : wKpQ tch nF FS GA0 WA WB us o = true) : wKp FS GA0 WA WB us o = true := by
  unfold wKpQ at h
  rcases Bool.or_eq_true_iff.mp h with h | h
  rotate_left
  · exact h
  obtain ⟨h, h4⟩ := Bool.and_eq_true_iff.mp h
  obtain ⟨h, h3⟩ := Bool.and_eq_true_iff.mp h
  obtain ⟨h1, h2⟩ := Bool.and_eq_true_iff.mp h
  unfold wThs at hT
  obtain ⟨t1, t2⟩ := Bool.and_eq_true_iff.mp hT
  have t1 := of_decide_eq_true t1
  unfold wKp
  refine List.all_eq_true.mpr (fun i hi => ?_)
  have hlt : i < nF := Nat.lt_of_succ_le (Nat.le_of_ble_eq_true (List.all_eq_true.mp h2 i hi))
  have k := List.all_eq_true.mp t2 i (List.mem_range.mpr hlt)
  rcases e : FS[i]? with _ | u
  · rw [e] at k
    cases k
  · rw [e] at k
    dsimp only at k ⊢
    refine Bool.or_eq_true_iff.mpr (Or.inl (Bool.and_eq_true_iff.mpr ⟨List.any_eq_true.mpr ⟨i, sbQ_mem us (wUs o) h1 i hi, Nat.beq_refl i⟩, wTh_fk (nTh_of h3 hi) (nTh_of h4 hi) k⟩))
noncomputable def wEdQ (tch : Nat → Nat → List Nat) (nF : Nat) (KT : vKT) (tb : XT) (tyl : List FieldType) (ov : vOt) (CT : Nat → List vCt) (hs : Nat → Nat → Option (List vHn)) (kn : Nat → Nat → Option Nat) (FS : List wN) (GA0 GB0 : List Nat) (n0 mA mB : Nat) (WA WB : List (Nat × Nat)) (f goA dpA kA goB dpB kB : Nat) (e : wE) (ops : List uOp) (outs : List (Bool × wE)) : Bool :=
  wSd n0 mA mB GA0 GB0 e && outs.all (fun o => wKpQ tch nF FS GA0 WA WB (wUs e) o.2) && (match wQA e, wQB e with
    | some pcA, some pcB => wGo GA0 GB0 (wSel FS (wUs e)) (fun _ s g => wPx KT tb tyl ov CT hs kn WA WB f goA dpA kA pcA goB dpB kB pcB (aL (wNA e)) (aS (wNA e)) (aCn (wNA e)) (aSn (wNA e)) (aL (wNB e)) (aS (wNB e)) (aCn (wNB e)) (aSn (wNB e)) (fun pc => outs.any (fun o => decide (wQA o.2 = some pc))) (fun pc => outs.any (fun o => decide (wQB o.2 = some pc)))
      (fun xA L S s1 cn sn xB L2 S2 s2 cn2 sn2 => outs.any (fun o => wMt n0 mA mB (aRk (wNA e)) o xA L S s1 cn sn xB L2 S2 s2 cn2 sn2)) s g) ops [] false (aSt (wNA e)) (aG (wNB e), aF (wNB e))
    | _, _ => false)
theorem wEdQ_ok {tch : Nat → Nat → List Nat} {nF : Nat} {KT : vKT} {tb : XT} {tyl : List FieldType} {ov : vOt} {CT : Nat → List vCt} {hs : Nat → Nat → Option (List vHn)} {kn : Nat → Nat → Option Nat} {FS : List wN} {GA0 GB0 : List Nat} {n0 mA mB : Nat} {WA WB : List (Nat × Nat)} {f goA dpA kA goB dpB kB : Nat} {e : wE} {ops : List uOp} {outs : List (Bool × wE)} (hT : wThs tch GA0 nF FS = true) (h : wEdQ tch nF KT tb tyl ov CT hs kn FS GA0 GB0 n0 mA mB WA WB f goA dpA kA goB dpB kB e ops outs = true) : wEd KT tb tyl ov CT hs kn FS GA0 GB0 n0 mA mB WA WB f goA dpA kA goB dpB kB e ops outs = true := by
  unfold wEdQ at h
  unfold wEd
  obtain ⟨h1, c⟩ := Bool.and_eq_true_iff.mp h
  obtain ⟨a, b⟩ := Bool.and_eq_true_iff.mp h1
  exact Bool.and_eq_true_iff.mpr ⟨Bool.and_eq_true_iff.mpr ⟨a, List.all_eq_true.mpr (fun o ho => wKpQ_ok hT (List.all_eq_true.mp b o ho))⟩, c⟩
noncomputable def wEdFQ (tch : Nat → Nat → List Nat) (nF : Nat) (es : List lT) (i : Nat) (KT : vKT) (tb : XT) (tyl : List FieldType) (ov : vOt) (CT : Nat → List vCt) (hs : Nat → Nat → Option (List vHn)) (kn : Nat → Nat → Option Nat) (FS : List wN) (GA0 GB0 : List Nat) (n0 mA mB : Nat) (WA WB : List (Nat × Nat)) (f goA dpA kA goB dpB kB : Nat) (e : wE) (ops : List uOp) (outs : List (Bool × wE)) : Bool :=
  wSd n0 mA mB GA0 GB0 e && outs.all (fun o => wKpQ tch nF FS GA0 WA WB (wUs e) o.2) && (match wQA e, wQB e with
    | some pcA, some pcB => wGo GA0 GB0 (wSel FS (wUs e)) (fun _ s g => !(Nat.beq (wSg es s) i) || wPx KT tb tyl ov CT hs kn WA WB f goA dpA kA pcA goB dpB kB pcB (aL (wNA e)) (aS (wNA e)) (aCn (wNA e)) (aSn (wNA e)) (aL (wNB e)) (aS (wNB e)) (aCn (wNB e)) (aSn (wNB e)) (fun pc => outs.any (fun o => decide (wQA o.2 = some pc))) (fun pc => outs.any (fun o => decide (wQB o.2 = some pc)))
      (fun xA L S s1 cn sn xB L2 S2 s2 cn2 sn2 => outs.any (fun o => wMt n0 mA mB (aRk (wNA e)) o xA L S s1 cn sn xB L2 S2 s2 cn2 sn2)) s g) ops [] false (aSt (wNA e)) (aG (wNB e), aF (wNB e))
    | _, _ => false)
theorem wEdFQ_ok {tch : Nat → Nat → List Nat} {nF : Nat} {es : List lT} {i : Nat} {KT : vKT} {tb : XT} {tyl : List FieldType} {ov : vOt} {CT : Nat → List vCt} {hs : Nat → Nat → Option (List vHn)} {kn : Nat → Nat → Option Nat} {FS : List wN} {GA0 GB0 : List Nat} {n0 mA mB : Nat} {WA WB : List (Nat × Nat)} {f goA dpA kA goB dpB kB : Nat} {e : wE} {ops : List uOp} {outs : List (Bool × wE)} (hT : wThs tch GA0 nF FS = true) (h : wEdFQ tch nF es i KT tb tyl ov CT hs kn FS GA0 GB0 n0 mA mB WA WB f goA dpA kA goB dpB kB e ops outs = true) : wEdF es i KT tb tyl ov CT hs kn FS GA0 GB0 n0 mA mB WA WB f goA dpA kA goB dpB kB e ops outs = true := by
  unfold wEdFQ at h
  unfold wEdF
  obtain ⟨h1, c⟩ := Bool.and_eq_true_iff.mp h
  obtain ⟨a, b⟩ := Bool.and_eq_true_iff.mp h1
  exact Bool.and_eq_true_iff.mpr ⟨Bool.and_eq_true_iff.mpr ⟨a, List.all_eq_true.mpr (fun o ho => wKpQ_ok hT (List.all_eq_true.mp b o ho))⟩, c⟩
noncomputable def wEdTQ (tch : Nat → Nat → List Nat) (nF : Nat) (KT : vKT) (tb : XT) (tyl : List FieldType) (ov : vOt) (CT : Nat → List vCt) (hs : Nat → Nat → Option (List vHn)) (kn : Nat → Nat → Option Nat) (FS : List wN) (GA0 GB0 : List Nat) (n0 mA mB : Nat) (WA WB : List (Nat × Nat)) (tl : vTl) (f goA dpA kA goB dpB kB : Nat) (e : wE) (outs : List (Bool × wE)) : Bool :=
  wSd n0 mA mB GA0 GB0 e && outs.all (fun o => wKpQ tch nF FS GA0 WA WB (wUs e) o.2) && (match wQA e, wQB e with
    | some pcA, some pcB => vPe KT tb tyl ov CT hs kn WA WB n0 mA mB tl f goA dpA kA pcA goB dpB kB pcB (wNA e) (wNB e) (outs.map (fun o => (wQA o.2, wQB o.2, wNA o.2, wNB o.2, o.1)))
    | _, _ => false)
theorem wEdTQ_ok {tch : Nat → Nat → List Nat} {nF : Nat} {KT : vKT} {tb : XT} {tyl : List FieldType} {ov : vOt} {CT : Nat → List vCt} {hs : Nat → Nat → Option (List vHn)} {kn : Nat → Nat → Option Nat} {FS : List wN} {GA0 GB0 : List Nat} {n0 mA mB : Nat} {WA WB : List (Nat × Nat)} {tl : vTl} {f goA dpA kA goB dpB kB : Nat} {e : wE} {outs : List (Bool × wE)} (hT : wThs tch GA0 nF FS = true) (h : wEdTQ tch nF KT tb tyl ov CT hs kn FS GA0 GB0 n0 mA mB WA WB tl f goA dpA kA goB dpB kB e outs = true) : wEdT KT tb tyl ov CT hs kn FS GA0 GB0 n0 mA mB WA WB tl f goA dpA kA goB dpB kB e outs = true := by
  unfold wEdTQ at h
  unfold wEdT
  obtain ⟨h1, c⟩ := Bool.and_eq_true_iff.mp h
  obtain ⟨a, b⟩ := Bool.and_eq_true_iff.mp h1
  exact Bool.and_eq_true_iff.mpr ⟨Bool.and_eq_true_iff.mpr ⟨a, List.all_eq_true.mpr (fun o ho => wKpQ_ok hT (List.all_eq_true.mp b o ho))⟩, c⟩
end
end XTch
