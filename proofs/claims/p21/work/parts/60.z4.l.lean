/-! Edges gone once more: stands as they are. -/
noncomputable section XEdT
/-- a stand without some families -/
def wNo (V : List Nat) (o : Bool × wE) : Bool × wE := (o.1, wQA o.2, wQB o.2, wNA o.2, wNB o.2, (wUs o.2).filter (fun i => !(V.any (Nat.beq i))))
theorem wNo_us {V : List Nat} {o : Bool × wE} {i : Nat} (h : i ∈ wUs o.2) : i ∈ wUs (wAdd V (wNo V o)).2 := by
  show i ∈ V ++ (wUs o.2).filter (fun i => !(V.any (Nat.beq i)))
  by_cases c : V.any (Nat.beq i) = true
  · obtain ⟨j, hj, e⟩ := List.any_eq_true.mp c
    have e : i = j := Nat.eq_of_beq_eq_true e
    rw [e]
    exact List.mem_append.mpr (Or.inl hj)
  · refine List.mem_append.mpr (Or.inr (List.mem_filter.mpr ⟨h, ?_⟩))
    rw [Bool.eq_false_iff.mpr c]
    rfl
theorem wGoes_no {KT : vKT} {tb : XT} {tyl : List FieldType} {ot : XO Int32} {FS : List wN} {gA gB n0 mA mB : Nat} {WA WB : List (Nat × Nat)} {kA kB dpA dpB : Nat} {e : wE} {outs : List (Bool × wE)} {V : List Nat} (h : wGoes KT tb tyl ot FS gA gB n0 mA mB WA WB kA kB dpA dpB e ((outs.map (wNo V)).map (wAdd V))) : wGoes KT tb tyl ot FS gA gB n0 mA mB WA WB kA kB dpA dpB e outs := by
  intro qA qB dA dB BA BB hqA hqB hdA hdB hBA hBB c LA LB a1 a2 b1 b2 hat R hout
  refine h qA qB dA dB BA BB hqA hqB hdA hdB hBA hBB c LA LB a1 a2 b1 b2 hat R (fun o ho d LA2 LB2 c1 c2 d1 d2 w1 w2 w3 => ?_)
  obtain ⟨o1, ho1, rfl⟩ := List.mem_map.mp ho
  obtain ⟨o2, ho2, rfl⟩ := List.mem_map.mp ho1
  exact hout o2 ho2 d LA2 LB2 c1 c2 d1 d2 ⟨w1.1, w1.2.1, w1.2.2.1, w1.2.2.2.1, fun i hi u hu => w1.2.2.2.2 i (wNo_us hi) u hu⟩ w2 w3
theorem wFamE2 {KT : vKT} {tb : XT} {tyl : List FieldType} {ot : XO Int32} {ov : vOt} (hov : vOvLe ov (o4 ot)) {CT : Nat → List vCt} {hs : Nat → Nat → Option (List vHn)} {kn : Nat → Nat → Option Nat} (hCT : ∀ j c, c ∈ CT j → vCtSem KT tb tyl ot j c) {FS : List wN} {GA0 GB0 : List Nat} (hFS : ∀ u ∈ FS, wOk KT GA0 GB0 u = true) {n0 mA mB : Nat} {WA WB : List (Nat × Nat)} {f goA dpA kA goB dpB kB : Nat} {e : wE} {ops : List uOp} {outs : List (Bool × wE)} {V : List Nat}
    (hk : wEd KT tb tyl ov CT hs kn FS GA0 GB0 n0 mA mB WA WB f goA dpA kA goB dpB kB e ops (outs.map (wNo V)) = true) (gA : GA0.length ≤ mA) (gB : GB0.length ≤ mB) (hV : ∀ i ∈ V, ∀ u, FS[i]? = some u → wReE KT tb tyl ot FS GA0.length GB0.length kA kB dpA dpB goA goB (outs.map (wNo V)) e u) : wGoes KT tb tyl ot FS GA0.length GB0.length n0 mA mB WA WB kA kB dpA dpB e outs :=
  wGoes_no (wFamE hov hCT hFS hk gA gB hV)
end XEdT
