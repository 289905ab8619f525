/-! Calls at the head beside each other: notes, checks. -/
section XArN
def x_ha (k pc : Nat) : Option (List vHn) := if k = 160 ∧ pc = 41 then some [(8, 0, [])] else if k = 162 ∧ pc = 0 then some [(0, 1, [])] else if k = 164 ∧ pc = 0 then some [(0, 1, [])] else if k = 165 ∧ pc = 0 then some [(0, 1, [])] else if k = 169 ∧ pc = 0 then some [(0, 0, []), (0, 1, [])] else x_hs k pc
def x_ca (_ : Nat) : List vCt := []
theorem x_caS {ot : XO Int32} : ∀ j c, c ∈ x_ca j → vCtSem x_KT x_tb x_tyl ot j c := fun _ _ h => absurd h List.not_mem_nil
def arPA (c : Nat) : Bool := decide (c ≤ 47)
def arPB (c : Nat) : Bool := decide (48 ≤ c)
def thingWA : List (Nat × Nat) := [(19, 0), (20, 0), (40, 4)]
def thingWB : List (Nat × Nat) := [(88, 0), (89, 0), (117, 39)]
def thingTl : vTl := []
def thingEA : vAn := ([47, 40, 19, 20], [((0), (3584)), ((0), (3584)), ((0), (5000)), ((0), (40)), ((-2147483648), (2147483647)), ((-2147483648), (2147483647))], [(0, .inr (some 0)), (1, .inl (lSy 4)), (2, .inl (lSy 5))], [], [(0, .inl 17, .inr (some 1)), (1, .inl 3, .inl (lSy 3)), (1, .inl 0, .inr (some 2)), (1, .inl 1, .inr (some 3))], [(lAdd (lAdd (lK (-7)) (lSy 0)) (lSc (-1) (lSy 1))), (lAdd (lSy 0) (lSc (-1) (lSy 1))), (lAdd (lSy 1) (lSc (-1) (lSy 2)))], [], ((lK 0), lK 0, lK 0, 0, 0, [], none), [])
def thingEB : vAn := ([117, 88, 89], [((0), (3584)), ((0), (3584)), ((0), (5000)), ((0), (40)), ((-2147483648), (2147483647)), ((-2147483648), (2147483647))], [(0, .inr (some 0)), (1, .inl (lSy 4)), (2, .inl (lSy 5))], [], [(0, .inl 23, .inl (lSy 2)), (0, .inl 38, .inl (lSy 3)), (0, .inl 39, .inr (some 1)), (0, .inl 40, .inr (some 2))], [(lAdd (lAdd (lK (-7)) (lSy 0)) (lSc (-1) (lSy 1))), (lAdd (lSy 0) (lSc (-1) (lSy 1))), (lAdd (lSy 1) (lSc (-1) (lSy 2)))], [], ((lK 0), lK 0, lK 0, 0, 0, [], none), [])
def thingXA : vAn := ([47, 40, 19, 20], [((0), (3584)), ((0), (3584)), ((0), (5000)), ((0), (40)), ((-2147483648), (2147483647)), ((-2147483648), (2147483647)), ((-2147483648), (2147483647)), ((0), (40))], [], [.inl (lSy 6)], [(0, .inl 17, .inr (some 1)), (1, .inl 3, .inl (lSy 7)), (1, .inl 0, .inr (some 2)), (1, .inl 1, .inr (some 3))], [(lAdd (lAdd (lK (-7)) (lSy 0)) (lSc (-1) (lSy 1))), (lAdd (lSy 0) (lSc (-1) (lSy 1))), (lAdd (lSy 1) (lSc (-1) (lSy 2)))], [], ((lK 0), lK 0, lK 0, 0, 0, [], none), [(false, .inl 1000), (false, .inr (.inl (1, .inl 3)))])
def thingXB : vAn := ([117, 88, 89], [((0), (3584)), ((0), (3584)), ((0), (5000)), ((0), (40)), ((-2147483648), (2147483647)), ((-2147483648), (2147483647)), ((-2147483648), (2147483647)), ((0), (40))], [], [.inl (lSy 6)], [(0, .inl 23, .inl (lSy 2)), (0, .inl 38, .inl (lSy 7)), (0, .inl 39, .inr (some 1)), (0, .inl 40, .inr (some 2))], [(lAdd (lAdd (lK (-7)) (lSy 0)) (lSc (-1) (lSy 1))), (lAdd (lSy 0) (lSc (-1) (lSy 1))), (lAdd (lSy 1) (lSc (-1) (lSy 2)))], [], ((lK 0), lK 0, lK 0, 0, 0, [], none), [])
def thingXS : List (vAn × vAn × List lT) := [(thingXA, thingXB, [(lSy 0), (lAdd (lK 7) (lSy 1)), (lSy 2), (lSy 7)])]
set_option maxRecDepth 1000000 in
theorem thingE : vPe x_KT x_tb x_tyl x_ov0 x_ca x_ha x_knd thingWA thingWB 6 4 3 thingTl 8000 0 60 157 0 0 60 262 0 thingEA thingEB (thingXS.map (fun x => (none, none, x.1, x.2.1, false))) = true := by decide +kernel
def thingR0Ky : Nat → lT
  | 0 => (lAdd (lAdd (lK (-1)) (lSy 3)) (lSc (-1) (lSy 7)))
  | 1 => (lSy 3)
  | _ => (lAdd (lAdd (lK 1) (lSy 3)) (lSy 7))
def thingR0VA (v : Nat) : vAn := ([47, 40, 19, 20], [((0), (3584)), ((0), (3584)), ((0), (5000)), ((0), (40)), ((-2147483648), (2147483647)), ((-2147483648), (2147483647)), ((-2147483648), (2147483647)), ((0), (40))], [(0, .inr (some 0)), (1, .inl (lSy 4)), (2, .inl (lSy 5))], [], [(2, .inr (thingR0Ky v), .inl (lSy 6)), (0, .inl 17, .inr (some 1)), (1, .inl 3, .inl (lSy 3)), (1, .inl 0, .inr (some 2)), (1, .inl 1, .inr (some 3))], [(lAdd (lAdd (lK (-7)) (lSy 0)) (lSc (-1) (lSy 1))), (lAdd (lSy 0) (lSc (-1) (lSy 1))), (lAdd (lSy 1) (lSc (-1) (lSy 2)))], [], ((lK 0), lK 0, lK 0, 0, 0, [], none), [])
def thingR0VB (v : Nat) : vAn := ([117, 88, 89], [((0), (3584)), ((0), (3584)), ((0), (5000)), ((0), (40)), ((-2147483648), (2147483647)), ((-2147483648), (2147483647)), ((-2147483648), (2147483647)), ((0), (40))], [(0, .inr (some 0)), (1, .inl (lSy 4)), (2, .inl (lSy 5))], [], [(1, .inr (thingR0Ky v), .inl (lSy 6)), (0, .inl 23, .inl (lSy 2)), (0, .inl 38, .inl (lSy 3)), (0, .inl 39, .inr (some 1)), (0, .inl 40, .inr (some 2))], [(lAdd (lAdd (lK (-7)) (lSy 0)) (lSc (-1) (lSy 1))), (lAdd (lSy 0) (lSc (-1) (lSy 1))), (lAdd (lSy 1) (lSc (-1) (lSy 2)))], [], ((lK 0), lK 0, lK 0, 0, 0, [], none), [])
def thingR0YA (v : Nat) : vAn := ([47, 40, 19, 20], [((0), (3584)), ((0), (3584)), ((0), (5000)), ((0), (40)), ((-2147483648), (2147483647)), ((-2147483648), (2147483647)), ((-2147483648), (2147483647)), ((0), (40)), ((-2147483648), (2147483647)), ((-2147483648), (2147483647))], [], [.inl (lSy 9)], [(2, .inr (thingR0Ky v), .inl (lSy 8)), (0, .inl 17, .inr (some 1)), (1, .inl 0, .inr (some 2)), (1, .inl 1, .inr (some 3))], [(lAdd (lAdd (lK (-7)) (lSy 0)) (lSc (-1) (lSy 1))), (lAdd (lSy 0) (lSc (-1) (lSy 1))), (lAdd (lSy 1) (lSc (-1) (lSy 2)))], [], ((lK 0), lK 0, lK 0, 0, 0, [], none), [(false, .inr (.inl (2, .inr (thingR0Ky v)))), (false, .inl 1000)])
def thingR0YB (v : Nat) : vAn := ([117, 88, 89], [((0), (3584)), ((0), (3584)), ((0), (5000)), ((0), (40)), ((-2147483648), (2147483647)), ((-2147483648), (2147483647)), ((-2147483648), (2147483647)), ((0), (40)), ((-2147483648), (2147483647)), ((-2147483648), (2147483647))], [], [.inl (lSy 9)], [(1, .inr (thingR0Ky v), .inl (lSy 8)), (0, .inl 23, .inl (lSy 2)), (0, .inl 39, .inr (some 1)), (0, .inl 40, .inr (some 2))], [(lAdd (lAdd (lK (-7)) (lSy 0)) (lSc (-1) (lSy 1))), (lAdd (lSy 0) (lSc (-1) (lSy 1))), (lAdd (lSy 1) (lSc (-1) (lSy 2)))], [], ((lK 0), lK 0, lK 0, 0, 0, [], none), [])
set_option maxRecDepth 1000000 in
theorem thingR0Ea : (List.range 3).all (fun v => vPe x_KT x_tb x_tyl x_ov0 x_ca x_ha x_knd thingWA thingWB 8 4 3 thingTl 8000 0 60 157 0 0 60 262 0 (thingR0VA v) (thingR0VB v) [(none, none, thingR0YA v, thingR0YB v, false)]) = true := by decide +kernel
theorem thingR0E (v : Nat) (hv : v < 3) : vPe x_KT x_tb x_tyl x_ov0 x_ca x_ha x_knd thingWA thingWB 8 4 3 thingTl 8000 0 60 157 0 0 60 262 0 (thingR0VA v) (thingR0VB v) [(none, none, thingR0YA v, thingR0YB v, false)] = true := List.all_eq_true.mp thingR0Ea v (List.mem_range.mpr hv)
theorem thingR0Pk : ∀ ρ : Nat → Int, iHd ρ (zipI 0 (aI thingEA)) → ∀ J : Nat, J < 40 → ∃ v : Nat, v < 3 ∧ ∃ δ : Int, (0 ≤ δ ∧ δ ≤ 40) ∧ ∀ ρ2 : Nat → Int, (∀ k, k < 6 → ρ2 k = ρ k) → ρ2 (6 + 1) = δ → lEv ρ2 (thingR0Ky v) = (J : Int) := fun ρ h J hJ => by
  have hz := zipI_spec.mp h 3 ((0 : Int), (40 : Int)) rfl
  rw [Nat.zero_add] at hz
  have hz : (0 : Int) ≤ ρ 3 ∧ ρ 3 ≤ 40 := hz
  by_cases h1 : (J : Int) < ρ 3
  · refine ⟨0, by decide, ρ 3 - 1 - J, ⟨by omega, by omega⟩, fun ρ2 e1 e2 => ?_⟩
    have e2 : ρ2 7 = ρ 3 - 1 - J := e2
    simp only [thingR0Ky, lAdd_ev, lSc_ev, lSy_ev, lK_ev, e1 3 (by decide), e2]
    omega
  by_cases h2 : (J : Int) = ρ 3
  · refine ⟨1, by decide, 0, ⟨by omega, by omega⟩, fun ρ2 e1 e2 => ?_⟩
    simp only [thingR0Ky, lAdd_ev, lSc_ev, lSy_ev, lK_ev, e1 3 (by decide)]
    omega
  · refine ⟨2, by decide, J - ρ 3 - 1, ⟨by omega, by omega⟩, fun ρ2 e1 e2 => ?_⟩
    have e2 : ρ2 7 = J - ρ 3 - 1 := e2
    simp only [thingR0Ky, lAdd_ev, lSc_ev, lSy_ev, lK_ev, e1 3 (by decide), e2]
    omega
def thingR1Ky : Nat → lT
  | 0 => (lAdd (lAdd (lK (-1)) (lSy 3)) (lSc (-1) (lSy 7)))
  | 1 => (lSy 3)
  | _ => (lAdd (lAdd (lK 1) (lSy 3)) (lSy 7))
def thingR1VA (v : Nat) : vAn := ([47, 40, 19, 20], [((0), (3584)), ((0), (3584)), ((0), (5000)), ((0), (40)), ((-2147483648), (2147483647)), ((-2147483648), (2147483647)), ((-2147483648), (2147483647)), ((0), (40))], [(0, .inr (some 0)), (1, .inl (lSy 4)), (2, .inl (lSy 5))], [], [(3, .inr (thingR1Ky v), .inl (lSy 6)), (0, .inl 17, .inr (some 1)), (1, .inl 3, .inl (lSy 3)), (1, .inl 0, .inr (some 2)), (1, .inl 1, .inr (some 3))], [(lAdd (lAdd (lK (-7)) (lSy 0)) (lSc (-1) (lSy 1))), (lAdd (lSy 0) (lSc (-1) (lSy 1))), (lAdd (lSy 1) (lSc (-1) (lSy 2)))], [], ((lK 0), lK 0, lK 0, 0, 0, [], none), [])
def thingR1VB (v : Nat) : vAn := ([117, 88, 89], [((0), (3584)), ((0), (3584)), ((0), (5000)), ((0), (40)), ((-2147483648), (2147483647)), ((-2147483648), (2147483647)), ((-2147483648), (2147483647)), ((0), (40))], [(0, .inr (some 0)), (1, .inl (lSy 4)), (2, .inl (lSy 5))], [], [(2, .inr (thingR1Ky v), .inl (lSy 6)), (0, .inl 23, .inl (lSy 2)), (0, .inl 38, .inl (lSy 3)), (0, .inl 39, .inr (some 1)), (0, .inl 40, .inr (some 2))], [(lAdd (lAdd (lK (-7)) (lSy 0)) (lSc (-1) (lSy 1))), (lAdd (lSy 0) (lSc (-1) (lSy 1))), (lAdd (lSy 1) (lSc (-1) (lSy 2)))], [], ((lK 0), lK 0, lK 0, 0, 0, [], none), [])
def thingR1YA (v : Nat) : vAn := ([47, 40, 19, 20], [((0), (3584)), ((0), (3584)), ((0), (5000)), ((0), (40)), ((-2147483648), (2147483647)), ((-2147483648), (2147483647)), ((-2147483648), (2147483647)), ((0), (40)), ((-2147483648), (2147483647)), ((-2147483648), (2147483647))], [], [.inl (lSy 9)], [(3, .inr (thingR1Ky v), .inl (lSy 8)), (0, .inl 17, .inr (some 1)), (1, .inl 0, .inr (some 2)), (1, .inl 1, .inr (some 3))], [(lAdd (lAdd (lK (-7)) (lSy 0)) (lSc (-1) (lSy 1))), (lAdd (lSy 0) (lSc (-1) (lSy 1))), (lAdd (lSy 1) (lSc (-1) (lSy 2)))], [], ((lK 0), lK 0, lK 0, 0, 0, [], none), [(false, .inr (.inl (3, .inr (thingR1Ky v)))), (false, .inl 1000)])
def thingR1YB (v : Nat) : vAn := ([117, 88, 89], [((0), (3584)), ((0), (3584)), ((0), (5000)), ((0), (40)), ((-2147483648), (2147483647)), ((-2147483648), (2147483647)), ((-2147483648), (2147483647)), ((0), (40)), ((-2147483648), (2147483647)), ((-2147483648), (2147483647))], [], [.inl (lSy 9)], [(2, .inr (thingR1Ky v), .inl (lSy 8)), (0, .inl 23, .inl (lSy 2)), (0, .inl 39, .inr (some 1)), (0, .inl 40, .inr (some 2))], [(lAdd (lAdd (lK (-7)) (lSy 0)) (lSc (-1) (lSy 1))), (lAdd (lSy 0) (lSc (-1) (lSy 1))), (lAdd (lSy 1) (lSc (-1) (lSy 2)))], [], ((lK 0), lK 0, lK 0, 0, 0, [], none), [])
set_option maxRecDepth 1000000 in
theorem thingR1Ea : (List.range 3).all (fun v => vPe x_KT x_tb x_tyl x_ov0 x_ca x_ha x_knd thingWA thingWB 8 4 3 thingTl 8000 0 60 157 0 0 60 262 0 (thingR1VA v) (thingR1VB v) [(none, none, thingR1YA v, thingR1YB v, false)]) = true := by decide +kernel
theorem thingR1E (v : Nat) (hv : v < 3) : vPe x_KT x_tb x_tyl x_ov0 x_ca x_ha x_knd thingWA thingWB 8 4 3 thingTl 8000 0 60 157 0 0 60 262 0 (thingR1VA v) (thingR1VB v) [(none, none, thingR1YA v, thingR1YB v, false)] = true := List.all_eq_true.mp thingR1Ea v (List.mem_range.mpr hv)
theorem thingR1Pk : ∀ ρ : Nat → Int, iHd ρ (zipI 0 (aI thingEA)) → ∀ J : Nat, J < 40 → ∃ v : Nat, v < 3 ∧ ∃ δ : Int, (0 ≤ δ ∧ δ ≤ 40) ∧ ∀ ρ2 : Nat → Int, (∀ k, k < 6 → ρ2 k = ρ k) → ρ2 (6 + 1) = δ → lEv ρ2 (thingR1Ky v) = (J : Int) := fun ρ h J hJ => by
  have hz := zipI_spec.mp h 3 ((0 : Int), (40 : Int)) rfl
  rw [Nat.zero_add] at hz
  have hz : (0 : Int) ≤ ρ 3 ∧ ρ 3 ≤ 40 := hz
  by_cases h1 : (J : Int) < ρ 3
  · refine ⟨0, by decide, ρ 3 - 1 - J, ⟨by omega, by omega⟩, fun ρ2 e1 e2 => ?_⟩
    have e2 : ρ2 7 = ρ 3 - 1 - J := e2
    simp only [thingR1Ky, lAdd_ev, lSc_ev, lSy_ev, lK_ev, e1 3 (by decide), e2]
    omega
  by_cases h2 : (J : Int) = ρ 3
  · refine ⟨1, by decide, 0, ⟨by omega, by omega⟩, fun ρ2 e1 e2 => ?_⟩
    simp only [thingR1Ky, lAdd_ev, lSc_ev, lSy_ev, lK_ev, e1 3 (by decide)]
    omega
  · refine ⟨2, by decide, J - ρ 3 - 1, ⟨by omega, by omega⟩, fun ρ2 e1 e2 => ?_⟩
    have e2 : ρ2 7 = J - ρ 3 - 1 := e2
    simp only [thingR1Ky, lAdd_ev, lSc_ev, lSy_ev, lK_ev, e1 3 (by decide), e2]
    omega
def actWA : List (Nat × Nat) := [(21, 0), (40, 5), (40, 6), (40, 7), (40, 8)]
def actWB : List (Nat × Nat) := [(94, 0), (117, 46)]
def actTl : vTl := [(2, 1, 1, 0), (3, 2, 1, 0)]
def actEA : vAn := ([47, 40, 19, 20], [((0), (3584)), ((0), (3584)), ((0), (5000)), ((0), (40)), ((-2147483648), (2147483647)), ((-2147483648), (2147483647)), ((-2147483648), (2147483647))], [(0, .inr (some 0)), (1, .inl (lSy 4)), (2, .inl (lSy 5)), (3, .inl (lSy 6))], [], [(0, .inl 17, .inr (some 1)), (1, .inl 3, .inl (lSy 3)), (1, .inl 0, .inr (some 2)), (1, .inl 1, .inr (some 3))], [(lAdd (lAdd (lK (-7)) (lSy 0)) (lSc (-1) (lSy 1))), (lAdd (lSy 0) (lSc (-1) (lSy 1))), (lAdd (lSy 1) (lSc (-1) (lSy 2)))], [], ((lK 0), lK 0, lK 0, 0, 0, [], none), [])
def actEB : vAn := ([117, 88, 89], [((0), (3584)), ((0), (3584)), ((0), (5000)), ((0), (40)), ((-2147483648), (2147483647)), ((-2147483648), (2147483647)), ((-2147483648), (2147483647))], [(0, .inr (some 0)), (1, .inl (lSy 4)), (2, .inl (lSy 5)), (3, .inl (lSy 6))], [], [(0, .inl 23, .inl (lSy 2)), (0, .inl 38, .inl (lSy 3)), (0, .inl 39, .inr (some 1)), (0, .inl 40, .inr (some 2))], [(lAdd (lAdd (lK (-7)) (lSy 0)) (lSc (-1) (lSy 1))), (lAdd (lSy 0) (lSc (-1) (lSy 1))), (lAdd (lSy 1) (lSc (-1) (lSy 2)))], [], ((lK 0), lK 0, lK 0, 0, 0, [], none), [])
def actXA : vAn := ([47, 40, 19, 20], [((0), (3584)), ((0), (3584)), ((0), (5000)), ((0), (40)), ((-2147483648), (2147483647)), ((-2147483648), (2147483647)), ((-2147483648), (2147483647)), ((-2147483648), (2147483647)), ((0), (40))], [], [.inl (lSy 7)], [(0, .inl 17, .inr (some 1)), (1, .inl 3, .inl (lSy 8)), (1, .inl 0, .inr (some 2)), (1, .inl 1, .inr (some 3))], [(lAdd (lAdd (lK (-7)) (lSy 0)) (lSc (-1) (lSy 1))), (lAdd (lSy 0) (lSc (-1) (lSy 1))), (lAdd (lSy 1) (lSc (-1) (lSy 2)))], [], ((lK 0), lK 0, lK 0, 0, 0, [], none), [(false, .inl 1000), (false, .inr (.inl (1, .inl 3)))])
def actXB : vAn := ([117, 88, 89], [((0), (3584)), ((0), (3584)), ((0), (5000)), ((0), (40)), ((-2147483648), (2147483647)), ((-2147483648), (2147483647)), ((-2147483648), (2147483647)), ((-2147483648), (2147483647)), ((0), (40))], [], [.inl (lSy 7)], [(0, .inl 23, .inl (lSy 2)), (0, .inl 38, .inl (lSy 8)), (0, .inl 39, .inr (some 1)), (0, .inl 40, .inr (some 2))], [(lAdd (lAdd (lK (-7)) (lSy 0)) (lSc (-1) (lSy 1))), (lAdd (lSy 0) (lSc (-1) (lSy 1))), (lAdd (lSy 1) (lSc (-1) (lSy 2)))], [], ((lK 0), lK 0, lK 0, 0, 0, [], none), [])
def actXS : List (vAn × vAn × List lT) := [(actXA, actXB, [(lSy 0), (lAdd (lK 7) (lSy 1)), (lSy 2), (lSy 8)])]
set_option maxRecDepth 1000000 in
theorem actE : vPe x_KT x_tb x_tyl x_ov0 x_ca x_ha x_knd actWA actWB 7 4 3 actTl 8000 0 60 159 0 0 60 263 0 actEA actEB (actXS.map (fun x => (none, none, x.1, x.2.1, false))) = true := by decide +kernel
end XArN
