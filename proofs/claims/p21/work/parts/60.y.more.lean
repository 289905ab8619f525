/-! A state of which more is known. -/
noncomputable section XMore
/-- a state of which more is known -/
theorem vRel_more {KT : vKT} {ρ ρ2 : Nat → Int} {σ : Nat → Nat} {ty : Nat → Option Nat} {H : List (XC Int32)} {A V : vAn} (h : vRel KT ρ σ ty H (aSt A)) (hb : sBd (aSt A) = true) {eI : List (Int × Int)} {eF : List vK} {eC : List lT} (hV : aSt V = ((aI A ++ eI).length, aG A, eF ++ aF A, zipI 0 (aI A ++ eI), eC ++ aC A, aM A, [])) (hρ : ∀ i, i < (aI A).length → ρ2 i = ρ i) (hI : ∀ j p, eI[j]? = some p → p.1 ≤ ρ2 ((aI A).length + j) ∧ ρ2 ((aI A).length + j) ≤ p.2) (hF : ∀ f ∈ eF, vHolds ρ2 σ H f) (hC : ∀ c ∈ eC, 0 ≤ lEv ρ2 c) : vRel KT ρ2 σ ty H (aSt V) := by
  have g := vRel_ext h hb (fun i hi => hρ i hi) (fun _ _ => rfl)
  rw [hV]
  refine ⟨g.1, g.2.1, fun f hf => ?_, zipI_spec.mpr (fun j p hp => ?_), fun c hc => ?_, g.2.2.2.2.2⟩
  · rcases List.mem_append.mp hf with hf | hf
    · exact hF f hf
    · exact g.2.2.1 f hf
  · rw [Nat.zero_add]
    by_cases hj : j < (aI A).length
    · rw [List.getElem?_append_left hj] at hp
      have q := zipI_spec.mp g.2.2.2.1 j p hp
      rw [Nat.zero_add] at q
      exact q
    · rw [List.getElem?_append_right (by omega)] at hp
      have q := hI _ p hp
      rw [show (aI A).length + (j - (aI A).length) = j by omega] at q
      exact q
  · rcases List.mem_append.mp hc with hc | hc
    · exact hC c hc
    · exact g.2.2.2.2.1 c hc
end XMore
