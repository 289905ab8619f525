/-! Calls at the head beside each other: notes, checks. -/
section XArN
def x_ha (k pc : Nat) : Option (List vHn) := if k = 160 ∧ pc = 41 then some [(8, 0, [])] else if k = 162 ∧ pc = 0 then some [(0, 1, [])] else if k = 164 ∧ pc = 0 then some [(0, 1, [])] else if k = 165 ∧ pc = 0 then some [(0, 1, [])] else if k = 169 ∧ pc = 0 then some [(0, 0, []), (0, 1, [])] else x_hs k pc
def x_ca (_ : Nat) : List vCt := []
theorem x_caS {ot : XO Int32} : ∀ j c, c ∈ x_ca j → vCtSem x_KT x_tb x_tyl ot j c := fun _ _ h => absurd h List.not_mem_nil
def arPA (c : Nat) : Bool := decide (c ≤ 47)
def arPB (c : Nat) : Bool := decide (48 ≤ c)
def thingWA : List (Nat × Nat) := [(19, 0), (20, 0), (40, 4)]
def thingWB : List (Nat × Nat) := [(88, 0), (89, 0), (117, 39)]
def thingTl : vTl := [(4, 3, 1, 0)]
def thingEA : vAn := ([47, 40, 19, 20, 21], [((0), (3584)), ((0), (3584)), ((0), (5000)), ((0), (40)), ((0), (1000)), ((-2147483648), (2147483647)), ((-2147483648), (2147483647))], [(0, .inr (some 0)), (1, .inl (lSy 5)), (2, .inl (lSy 6))], [], [(0, .inl 17, .inr (some 1)), (1, .inl 3, .inl (lSy 3)), (1, .inl 4, .inl (lSy 4)), (1, .inl 0, .inr (some 2)), (1, .inl 1, .inr (some 3)), (1, .inl 2, .inr (some 4))], [(lAdd (lAdd (lK (-7)) (lSy 0)) (lSc (-1) (lSy 1))), (lAdd (lSy 0) (lSc (-1) (lSy 1))), (lAdd (lSy 1) (lSc (-1) (lSy 2)))], [], ((lK 0), lK 0, lK 0, 0, 0, [], none), [])
def thingEB : vAn := ([117, 88, 89, 94], [((0), (3584)), ((0), (3584)), ((0), (5000)), ((0), (40)), ((0), (1000)), ((-2147483648), (2147483647)), ((-2147483648), (2147483647))], [(0, .inr (some 0)), (1, .inl (lSy 5)), (2, .inl (lSy 6))], [], [(0, .inl 23, .inl (lSy 2)), (0, .inl 38, .inl (lSy 3)), (0, .inl 45, .inl (lSy 4)), (0, .inl 39, .inr (some 1)), (0, .inl 40, .inr (some 2)), (0, .inl 44, .inr (some 3))], [(lAdd (lAdd (lK (-7)) (lSy 0)) (lSc (-1) (lSy 1))), (lAdd (lSy 0) (lSc (-1) (lSy 1))), (lAdd (lSy 1) (lSc (-1) (lSy 2)))], [], ((lK 0), lK 0, lK 0, 0, 0, [], none), [])
def thingXA : vAn := ([47, 40, 19, 20, 21], [((0), (3584)), ((0), (3584)), ((0), (5000)), ((0), (40)), ((0), (1000)), ((-2147483648), (2147483647)), ((-2147483648), (2147483647)), ((-2147483648), (2147483647)), ((0), (40)), ((0), (1000))], [], [.inl (lSy 7)], [(0, .inl 17, .inr (some 1)), (1, .inl 3, .inl (lSy 8)), (1, .inl 4, .inl (lSy 9)), (1, .inl 0, .inr (some 2)), (1, .inl 1, .inr (some 3)), (1, .inl 2, .inr (some 4))], [(lAdd (lAdd (lK (-7)) (lSy 0)) (lSc (-1) (lSy 1))), (lAdd (lSy 0) (lSc (-1) (lSy 1))), (lAdd (lSy 1) (lSc (-1) (lSy 2)))], [], ((lK 0), lK 0, lK 0, 0, 0, [], none), [(false, .inl 1000), (false, .inr (.inl (1, .inl 3))), (false, .inr (.inl (1, .inl 4)))])
def thingXB : vAn := ([117, 88, 89, 94], [((0), (3584)), ((0), (3584)), ((0), (5000)), ((0), (40)), ((0), (1000)), ((-2147483648), (2147483647)), ((-2147483648), (2147483647)), ((-2147483648), (2147483647)), ((0), (40)), ((0), (1000))], [], [.inl (lSy 7)], [(0, .inl 23, .inl (lSy 2)), (0, .inl 38, .inl (lSy 8)), (0, .inl 45, .inl (lSy 9)), (0, .inl 39, .inr (some 1)), (0, .inl 40, .inr (some 2)), (0, .inl 44, .inr (some 3))], [(lAdd (lAdd (lK (-7)) (lSy 0)) (lSc (-1) (lSy 1))), (lAdd (lSy 0) (lSc (-1) (lSy 1))), (lAdd (lSy 1) (lSc (-1) (lSy 2)))], [], ((lK 0), lK 0, lK 0, 0, 0, [], none), [])
def thingXS : List (vAn × vAn × List lT) := [(thingXA, thingXB, [(lSy 0), (lAdd (lK 7) (lSy 1)), (lSy 2), (lSy 8), (lSy 9)])]
set_option maxRecDepth 1000000 in
theorem thingE : vPe x_KT x_tb x_tyl x_ov0 x_ca x_ha x_knd thingWA thingWB 7 5 4 thingTl 8000 0 60 157 0 0 60 262 0 thingEA thingEB (thingXS.map (fun x => (none, none, x.1, x.2.1, false))) = true := by decide +kernel
def thingR0Ky : Nat → lT
  | 0 => (lAdd (lAdd (lK (-1)) (lSy 3)) (lSc (-1) (lSy 8)))
  | 1 => (lSy 3)
  | _ => (lAdd (lAdd (lK 1) (lSy 3)) (lSy 8))
def thingR0VA (v : Nat) : vAn := ([47, 40, 19, 20, 21], [((0), (3584)), ((0), (3584)), ((0), (5000)), ((0), (40)), ((0), (1000)), ((-2147483648), (2147483647)), ((-2147483648), (2147483647)), ((-2147483648), (2147483647)), ((0), (40))], [(0, .inr (some 0)), (1, .inl (lSy 5)), (2, .inl (lSy 6))], [], [(2, .inr (thingR0Ky v), .inl (lSy 7)), (0, .inl 17, .inr (some 1)), (1, .inl 3, .inl (lSy 3)), (1, .inl 4, .inl (lSy 4)), (1, .inl 0, .inr (some 2)), (1, .inl 1, .inr (some 3)), (1, .inl 2, .inr (some 4))], [(lAdd (lAdd (lK (-7)) (lSy 0)) (lSc (-1) (lSy 1))), (lAdd (lSy 0) (lSc (-1) (lSy 1))), (lAdd (lSy 1) (lSc (-1) (lSy 2)))], [], ((lK 0), lK 0, lK 0, 0, 0, [], none), [])
def thingR0VB (v : Nat) : vAn := ([117, 88, 89, 94], [((0), (3584)), ((0), (3584)), ((0), (5000)), ((0), (40)), ((0), (1000)), ((-2147483648), (2147483647)), ((-2147483648), (2147483647)), ((-2147483648), (2147483647)), ((0), (40))], [(0, .inr (some 0)), (1, .inl (lSy 5)), (2, .inl (lSy 6))], [], [(1, .inr (thingR0Ky v), .inl (lSy 7)), (0, .inl 23, .inl (lSy 2)), (0, .inl 38, .inl (lSy 3)), (0, .inl 45, .inl (lSy 4)), (0, .inl 39, .inr (some 1)), (0, .inl 40, .inr (some 2)), (0, .inl 44, .inr (some 3))], [(lAdd (lAdd (lK (-7)) (lSy 0)) (lSc (-1) (lSy 1))), (lAdd (lSy 0) (lSc (-1) (lSy 1))), (lAdd (lSy 1) (lSc (-1) (lSy 2)))], [], ((lK 0), lK 0, lK 0, 0, 0, [], none), [])
def thingR0YA (v : Nat) : vAn := ([47, 40, 19, 20, 21], [((0), (3584)), ((0), (3584)), ((0), (5000)), ((0), (40)), ((0), (1000)), ((-2147483648), (2147483647)), ((-2147483648), (2147483647)), ((-2147483648), (2147483647)), ((0), (40)), ((-2147483648), (2147483647)), ((-2147483648), (2147483647))], [], [.inl (lSy 10)], [(2, .inr (thingR0Ky v), .inl (lSy 9)), (0, .inl 17, .inr (some 1)), (1, .inl 0, .inr (some 2)), (1, .inl 1, .inr (some 3)), (1, .inl 2, .inr (some 4))], [(lAdd (lAdd (lK (-7)) (lSy 0)) (lSc (-1) (lSy 1))), (lAdd (lSy 0) (lSc (-1) (lSy 1))), (lAdd (lSy 1) (lSc (-1) (lSy 2)))], [], ((lK 0), lK 0, lK 0, 0, 0, [], none), [(false, .inr (.inl (2, .inr (thingR0Ky v)))), (false, .inl 1000)])
def thingR0YB (v : Nat) : vAn := ([117, 88, 89, 94], [((0), (3584)), ((0), (3584)), ((0), (5000)), ((0), (40)), ((0), (1000)), ((-2147483648), (2147483647)), ((-2147483648), (2147483647)), ((-2147483648), (2147483647)), ((0), (40)), ((-2147483648), (2147483647)), ((-2147483648), (2147483647))], [], [.inl (lSy 10)], [(1, .inr (thingR0Ky v), .inl (lSy 9)), (0, .inl 23, .inl (lSy 2)), (0, .inl 39, .inr (some 1)), (0, .inl 40, .inr (some 2)), (0, .inl 44, .inr (some 3))], [(lAdd (lAdd (lK (-7)) (lSy 0)) (lSc (-1) (lSy 1))), (lAdd (lSy 0) (lSc (-1) (lSy 1))), (lAdd (lSy 1) (lSc (-1) (lSy 2)))], [], ((lK 0), lK 0, lK 0, 0, 0, [], none), [])
set_option maxRecDepth 1000000 in
theorem thingR0Ea : (List.range 3).all (fun v => vPe x_KT x_tb x_tyl x_ov0 x_ca x_ha x_knd thingWA thingWB 9 5 4 thingTl 8000 0 60 157 0 0 60 262 0 (thingR0VA v) (thingR0VB v) [(none, none, thingR0YA v, thingR0YB v, false)]) = true := by decide +kernel
theorem thingR0E (v : Nat) (hv : v < 3) : vPe x_KT x_tb x_tyl x_ov0 x_ca x_ha x_knd thingWA thingWB 9 5 4 thingTl 8000 0 60 157 0 0 60 262 0 (thingR0VA v) (thingR0VB v) [(none, none, thingR0YA v, thingR0YB v, false)] = true := List.all_eq_true.mp thingR0Ea v (List.mem_range.mpr hv)
theorem thingR0Pk : ∀ ρ : Nat → Int, iHd ρ (zipI 0 (aI thingEA)) → ∀ J : Nat, J < 40 → ∃ v : Nat, v < 3 ∧ ∃ δ : Int, (0 ≤ δ ∧ δ ≤ 40) ∧ ∀ ρ2 : Nat → Int, (∀ k, k < 7 → ρ2 k = ρ k) → ρ2 (7 + 1) = δ → lEv ρ2 (thingR0Ky v) = (J : Int) := fun ρ h J hJ => by
  have hz := zipI_spec.mp h 3 ((0 : Int), (40 : Int)) rfl
  rw [Nat.zero_add] at hz
  have hz : (0 : Int) ≤ ρ 3 ∧ ρ 3 ≤ 40 := hz
  by_cases h1 : (J : Int) < ρ 3
  · refine ⟨0, by decide, ρ 3 - 1 - J, ⟨by omega, by omega⟩, fun ρ2 e1 e2 => ?_⟩
    have e2 : ρ2 8 = ρ 3 - 1 - J := e2
    simp only [thingR0Ky, lAdd_ev, lSc_ev, lSy_ev, lK_ev, e1 3 (by decide), e2]
    omega
  by_cases h2 : (J : Int) = ρ 3
  · refine ⟨1, by decide, 0, ⟨by omega, by omega⟩, fun ρ2 e1 e2 => ?_⟩
    simp only [thingR0Ky, lAdd_ev, lSc_ev, lSy_ev, lK_ev, e1 3 (by decide)]
    omega
  · refine ⟨2, by decide, J - ρ 3 - 1, ⟨by omega, by omega⟩, fun ρ2 e1 e2 => ?_⟩
    have e2 : ρ2 8 = J - ρ 3 - 1 := e2
    simp only [thingR0Ky, lAdd_ev, lSc_ev, lSy_ev, lK_ev, e1 3 (by decide), e2]
    omega
def thingR1Ky : Nat → lT
  | 0 => (lAdd (lAdd (lK (-1)) (lSy 3)) (lSc (-1) (lSy 8)))
  | 1 => (lSy 3)
  | _ => (lAdd (lAdd (lK 1) (lSy 3)) (lSy 8))
def thingR1VA (v : Nat) : vAn := ([47, 40, 19, 20, 21], [((0), (3584)), ((0), (3584)), ((0), (5000)), ((0), (40)), ((0), (1000)), ((-2147483648), (2147483647)), ((-2147483648), (2147483647)), ((-2147483648), (2147483647)), ((0), (40))], [(0, .inr (some 0)), (1, .inl (lSy 5)), (2, .inl (lSy 6))], [], [(3, .inr (thingR1Ky v), .inl (lSy 7)), (0, .inl 17, .inr (some 1)), (1, .inl 3, .inl (lSy 3)), (1, .inl 4, .inl (lSy 4)), (1, .inl 0, .inr (some 2)), (1, .inl 1, .inr (some 3)), (1, .inl 2, .inr (some 4))], [(lAdd (lAdd (lK (-7)) (lSy 0)) (lSc (-1) (lSy 1))), (lAdd (lSy 0) (lSc (-1) (lSy 1))), (lAdd (lSy 1) (lSc (-1) (lSy 2)))], [], ((lK 0), lK 0, lK 0, 0, 0, [], none), [])
def thingR1VB (v : Nat) : vAn := ([117, 88, 89, 94], [((0), (3584)), ((0), (3584)), ((0), (5000)), ((0), (40)), ((0), (1000)), ((-2147483648), (2147483647)), ((-2147483648), (2147483647)), ((-2147483648), (2147483647)), ((0), (40))], [(0, .inr (some 0)), (1, .inl (lSy 5)), (2, .inl (lSy 6))], [], [(2, .inr (thingR1Ky v), .inl (lSy 7)), (0, .inl 23, .inl (lSy 2)), (0, .inl 38, .inl (lSy 3)), (0, .inl 45, .inl (lSy 4)), (0, .inl 39, .inr (some 1)), (0, .inl 40, .inr (some 2)), (0, .inl 44, .inr (some 3))], [(lAdd (lAdd (lK (-7)) (lSy 0)) (lSc (-1) (lSy 1))), (lAdd (lSy 0) (lSc (-1) (lSy 1))), (lAdd (lSy 1) (lSc (-1) (lSy 2)))], [], ((lK 0), lK 0, lK 0, 0, 0, [], none), [])
def thingR1YA (v : Nat) : vAn := ([47, 40, 19, 20, 21], [((0), (3584)), ((0), (3584)), ((0), (5000)), ((0), (40)), ((0), (1000)), ((-2147483648), (2147483647)), ((-2147483648), (2147483647)), ((-2147483648), (2147483647)), ((0), (40)), ((-2147483648), (2147483647)), ((-2147483648), (2147483647))], [], [.inl (lSy 10)], [(3, .inr (thingR1Ky v), .inl (lSy 9)), (0, .inl 17, .inr (some 1)), (1, .inl 0, .inr (some 2)), (1, .inl 1, .inr (some 3)), (1, .inl 2, .inr (some 4))], [(lAdd (lAdd (lK (-7)) (lSy 0)) (lSc (-1) (lSy 1))), (lAdd (lSy 0) (lSc (-1) (lSy 1))), (lAdd (lSy 1) (lSc (-1) (lSy 2)))], [], ((lK 0), lK 0, lK 0, 0, 0, [], none), [(false, .inr (.inl (3, .inr (thingR1Ky v)))), (false, .inl 1000)])
def thingR1YB (v : Nat) : vAn := ([117, 88, 89, 94], [((0), (3584)), ((0), (3584)), ((0), (5000)), ((0), (40)), ((0), (1000)), ((-2147483648), (2147483647)), ((-2147483648), (2147483647)), ((-2147483648), (2147483647)), ((0), (40)), ((-2147483648), (2147483647)), ((-2147483648), (2147483647))], [], [.inl (lSy 10)], [(2, .inr (thingR1Ky v), .inl (lSy 9)), (0, .inl 23, .inl (lSy 2)), (0, .inl 39, .inr (some 1)), (0, .inl 40, .inr (some 2)), (0, .inl 44, .inr (some 3))], [(lAdd (lAdd (lK (-7)) (lSy 0)) (lSc (-1) (lSy 1))), (lAdd (lSy 0) (lSc (-1) (lSy 1))), (lAdd (lSy 1) (lSc (-1) (lSy 2)))], [], ((lK 0), lK 0, lK 0, 0, 0, [], none), [])
set_option maxRecDepth 1000000 in
theorem thingR1Ea : (List.range 3).all (fun v => vPe x_KT x_tb x_tyl x_ov0 x_ca x_ha x_knd thingWA thingWB 9 5 4 thingTl 8000 0 60 157 0 0 60 262 0 (thingR1VA v) (thingR1VB v) [(none, none, thingR1YA v, thingR1YB v, false)]) = true := by decide +kernel
theorem thingR1E (v : Nat) (hv : v < 3) : vPe x_KT x_tb x_tyl x_ov0 x_ca x_ha x_knd thingWA thingWB 9 5 4 thingTl 8000 0 60 157 0 0 60 262 0 (thingR1VA v) (thingR1VB v) [(none, none, thingR1YA v, thingR1YB v, false)] = true := List.all_eq_true.mp thingR1Ea v (List.mem_range.mpr hv)
theorem thingR1Pk : ∀ ρ : Nat → Int, iHd ρ (zipI 0 (aI thingEA)) → ∀ J : Nat, J < 40 → ∃ v : Nat, v < 3 ∧ ∃ δ : Int, (0 ≤ δ ∧ δ ≤ 40) ∧ ∀ ρ2 : Nat → Int, (∀ k, k < 7 → ρ2 k = ρ k) → ρ2 (7 + 1) = δ → lEv ρ2 (thingR1Ky v) = (J : Int) := fun ρ h J hJ => by
  have hz := zipI_spec.mp h 3 ((0 : Int), (40 : Int)) rfl
  rw [Nat.zero_add] at hz
  have hz : (0 : Int) ≤ ρ 3 ∧ ρ 3 ≤ 40 := hz
  by_cases h1 : (J : Int) < ρ 3
  · refine ⟨0, by decide, ρ 3 - 1 - J, ⟨by omega, by omega⟩, fun ρ2 e1 e2 => ?_⟩
    have e2 : ρ2 8 = ρ 3 - 1 - J := e2
    simp only [thingR1Ky, lAdd_ev, lSc_ev, lSy_ev, lK_ev, e1 3 (by decide), e2]
    omega
  by_cases h2 : (J : Int) = ρ 3
  · refine ⟨1, by decide, 0, ⟨by omega, by omega⟩, fun ρ2 e1 e2 => ?_⟩
    simp only [thingR1Ky, lAdd_ev, lSc_ev, lSy_ev, lK_ev, e1 3 (by decide)]
    omega
  · refine ⟨2, by decide, J - ρ 3 - 1, ⟨by omega, by omega⟩, fun ρ2 e1 e2 => ?_⟩
    have e2 : ρ2 8 = J - ρ 3 - 1 := e2
    simp only [thingR1Ky, lAdd_ev, lSc_ev, lSy_ev, lK_ev, e1 3 (by decide), e2]
    omega
def actWA : List (Nat × Nat) := [(21, 0), (40, 5), (40, 6), (40, 7), (40, 8)]
def actWB : List (Nat × Nat) := [(94, 0), (117, 46)]
def actTl : vTl := [(2, 1, 1, 0), (3, 2, 1, 0)]
def actEA : vAn := ([47, 40, 19, 20, 21], [((0), (3584)), ((0), (3584)), ((0), (5000)), ((0), (40)), ((0), (1000)), ((-2147483648), (2147483647)), ((-2147483648), (2147483647)), ((-2147483648), (2147483647))], [(0, .inr (some 0)), (1, .inl (lSy 5)), (2, .inl (lSy 6)), (3, .inl (lSy 7))], [], [(0, .inl 17, .inr (some 1)), (1, .inl 3, .inl (lSy 3)), (1, .inl 4, .inl (lSy 4)), (1, .inl 0, .inr (some 2)), (1, .inl 1, .inr (some 3)), (1, .inl 2, .inr (some 4))], [(lAdd (lAdd (lK (-7)) (lSy 0)) (lSc (-1) (lSy 1))), (lAdd (lSy 0) (lSc (-1) (lSy 1))), (lAdd (lSy 1) (lSc (-1) (lSy 2)))], [], ((lK 0), lK 0, lK 0, 0, 0, [], none), [])
def actEB : vAn := ([117, 88, 89, 94], [((0), (3584)), ((0), (3584)), ((0), (5000)), ((0), (40)), ((0), (1000)), ((-2147483648), (2147483647)), ((-2147483648), (2147483647)), ((-2147483648), (2147483647))], [(0, .inr (some 0)), (1, .inl (lSy 5)), (2, .inl (lSy 6)), (3, .inl (lSy 7))], [], [(0, .inl 23, .inl (lSy 2)), (0, .inl 38, .inl (lSy 3)), (0, .inl 45, .inl (lSy 4)), (0, .inl 39, .inr (some 1)), (0, .inl 40, .inr (some 2)), (0, .inl 44, .inr (some 3))], [(lAdd (lAdd (lK (-7)) (lSy 0)) (lSc (-1) (lSy 1))), (lAdd (lSy 0) (lSc (-1) (lSy 1))), (lAdd (lSy 1) (lSc (-1) (lSy 2)))], [], ((lK 0), lK 0, lK 0, 0, 0, [], none), [])
def actXA : vAn := ([47, 40, 19, 20, 21], [((0), (3584)), ((0), (3584)), ((0), (5000)), ((0), (40)), ((0), (1000)), ((-2147483648), (2147483647)), ((-2147483648), (2147483647)), ((-2147483648), (2147483647)), ((-2147483648), (2147483647)), ((0), (40)), ((0), (1000))], [], [.inl (lSy 8)], [(0, .inl 17, .inr (some 1)), (1, .inl 3, .inl (lSy 9)), (1, .inl 4, .inl (lSy 10)), (1, .inl 0, .inr (some 2)), (1, .inl 1, .inr (some 3)), (1, .inl 2, .inr (some 4))], [(lAdd (lAdd (lK (-7)) (lSy 0)) (lSc (-1) (lSy 1))), (lAdd (lSy 0) (lSc (-1) (lSy 1))), (lAdd (lSy 1) (lSc (-1) (lSy 2)))], [], ((lK 0), lK 0, lK 0, 0, 0, [], none), [(false, .inl 1000), (false, .inr (.inl (1, .inl 3))), (false, .inr (.inl (1, .inl 4)))])
def actXB : vAn := ([117, 88, 89, 94], [((0), (3584)), ((0), (3584)), ((0), (5000)), ((0), (40)), ((0), (1000)), ((-2147483648), (2147483647)), ((-2147483648), (2147483647)), ((-2147483648), (2147483647)), ((-2147483648), (2147483647)), ((0), (40)), ((0), (1000))], [], [.inl (lSy 8)], [(0, .inl 23, .inl (lSy 2)), (0, .inl 38, .inl (lSy 9)), (0, .inl 45, .inl (lSy 10)), (0, .inl 39, .inr (some 1)), (0, .inl 40, .inr (some 2)), (0, .inl 44, .inr (some 3))], [(lAdd (lAdd (lK (-7)) (lSy 0)) (lSc (-1) (lSy 1))), (lAdd (lSy 0) (lSc (-1) (lSy 1))), (lAdd (lSy 1) (lSc (-1) (lSy 2)))], [], ((lK 0), lK 0, lK 0, 0, 0, [], none), [])
def actXS : List (vAn × vAn × List lT) := [(actXA, actXB, [(lSy 0), (lAdd (lK 7) (lSy 1)), (lSy 2), (lSy 9), (lSy 10)])]
set_option maxRecDepth 1000000 in
theorem actE : vPe x_KT x_tb x_tyl x_ov0 x_ca x_ha x_knd actWA actWB 8 5 4 actTl 8000 0 60 159 0 0 60 263 0 actEA actEB (actXS.map (fun x => (none, none, x.1, x.2.1, false))) = true := by decide +kernel
def actR2Ky : Nat → lT
  | 0 => (lK 0)
  | 1 => (lK 1)
  | 2 => (lK 2)
  | 3 => (lK 3)
  | 4 => (lK 4)
  | 5 => (lK 5)
  | 6 => (lK 6)
  | 7 => (lK 7)
  | 8 => (lK 8)
  | _ => (lAdd (lK 9) (lSy 9))
def actR2VA (v : Nat) : vAn := ([47, 40, 19, 20, 21], [((0), (3584)), ((0), (3584)), ((0), (5000)), ((0), (40)), ((0), (1000)), ((-2147483648), (2147483647)), ((-2147483648), (2147483647)), ((-2147483648), (2147483647)), ((-2147483648), (2147483647)), ((0), (10))], [(0, .inr (some 0)), (1, .inl (lSy 5)), (2, .inl (lSy 6)), (3, .inl (lSy 7))], [], [(4, .inr (actR2Ky v), .inl (lSy 8)), (0, .inl 17, .inr (some 1)), (1, .inl 3, .inl (lSy 3)), (1, .inl 4, .inl (lSy 4)), (1, .inl 0, .inr (some 2)), (1, .inl 1, .inr (some 3)), (1, .inl 2, .inr (some 4))], [(lAdd (lAdd (lK (-7)) (lSy 0)) (lSc (-1) (lSy 1))), (lAdd (lSy 0) (lSc (-1) (lSy 1))), (lAdd (lSy 1) (lSc (-1) (lSy 2)))], [], ((lK 0), lK 0, lK 0, 0, 0, [], none), [])
def actR2VB (v : Nat) : vAn := ([117, 88, 89, 94], [((0), (3584)), ((0), (3584)), ((0), (5000)), ((0), (40)), ((0), (1000)), ((-2147483648), (2147483647)), ((-2147483648), (2147483647)), ((-2147483648), (2147483647)), ((-2147483648), (2147483647)), ((0), (10))], [(0, .inr (some 0)), (1, .inl (lSy 5)), (2, .inl (lSy 6)), (3, .inl (lSy 7))], [], [(3, .inr (actR2Ky v), .inl (lSy 8)), (0, .inl 23, .inl (lSy 2)), (0, .inl 38, .inl (lSy 3)), (0, .inl 45, .inl (lSy 4)), (0, .inl 39, .inr (some 1)), (0, .inl 40, .inr (some 2)), (0, .inl 44, .inr (some 3))], [(lAdd (lAdd (lK (-7)) (lSy 0)) (lSc (-1) (lSy 1))), (lAdd (lSy 0) (lSc (-1) (lSy 1))), (lAdd (lSy 1) (lSc (-1) (lSy 2)))], [], ((lK 0), lK 0, lK 0, 0, 0, [], none), [])
def actR2YA (v : Nat) : vAn := ([47, 40, 19, 20, 21], [((0), (3584)), ((0), (3584)), ((0), (5000)), ((0), (40)), ((0), (1000)), ((-2147483648), (2147483647)), ((-2147483648), (2147483647)), ((-2147483648), (2147483647)), ((-2147483648), (2147483647)), ((0), (10)), ((-2147483648), (2147483647)), ((-2147483648), (2147483647))], [], [.inl (lSy 11)], [(4, .inr (actR2Ky v), .inl (lSy 10)), (0, .inl 17, .inr (some 1)), (1, .inl 0, .inr (some 2)), (1, .inl 1, .inr (some 3)), (1, .inl 2, .inr (some 4))], [(lAdd (lAdd (lK (-7)) (lSy 0)) (lSc (-1) (lSy 1))), (lAdd (lSy 0) (lSc (-1) (lSy 1))), (lAdd (lSy 1) (lSc (-1) (lSy 2)))], [], ((lK 0), lK 0, lK 0, 0, 0, [], none), [(false, .inr (.inl (4, .inr (actR2Ky v)))), (false, .inl 1000)])
def actR2YB (v : Nat) : vAn := ([117, 88, 89, 94], [((0), (3584)), ((0), (3584)), ((0), (5000)), ((0), (40)), ((0), (1000)), ((-2147483648), (2147483647)), ((-2147483648), (2147483647)), ((-2147483648), (2147483647)), ((-2147483648), (2147483647)), ((0), (10)), ((-2147483648), (2147483647)), ((-2147483648), (2147483647))], [], [.inl (lSy 11)], [(3, .inr (actR2Ky v), .inl (lSy 10)), (0, .inl 23, .inl (lSy 2)), (0, .inl 39, .inr (some 1)), (0, .inl 40, .inr (some 2)), (0, .inl 44, .inr (some 3))], [(lAdd (lAdd (lK (-7)) (lSy 0)) (lSc (-1) (lSy 1))), (lAdd (lSy 0) (lSc (-1) (lSy 1))), (lAdd (lSy 1) (lSc (-1) (lSy 2)))], [], ((lK 0), lK 0, lK 0, 0, 0, [], none), [])
set_option maxRecDepth 1000000 in
theorem actR2E0 : vPe x_KT x_tb x_tyl x_ov0 x_ca x_ha x_knd actWA actWB 10 5 4 actTl 8000 0 60 159 0 0 60 263 0 (actR2VA 0) (actR2VB 0) [(none, none, actR2YA 0, actR2YB 0, false)] = true := by decide +kernel
set_option maxRecDepth 1000000 in
theorem actR2E1 : vPe x_KT x_tb x_tyl x_ov0 x_ca x_ha x_knd actWA actWB 10 5 4 actTl 8000 0 60 159 0 0 60 263 0 (actR2VA 1) (actR2VB 1) [(none, none, actR2YA 1, actR2YB 1, false)] = true := by decide +kernel
set_option maxRecDepth 1000000 in
theorem actR2E2 : vPe x_KT x_tb x_tyl x_ov0 x_ca x_ha x_knd actWA actWB 10 5 4 actTl 8000 0 60 159 0 0 60 263 0 (actR2VA 2) (actR2VB 2) [(none, none, actR2YA 2, actR2YB 2, false)] = true := by decide +kernel
set_option maxRecDepth 1000000 in
theorem actR2E3 : vPe x_KT x_tb x_tyl x_ov0 x_ca x_ha x_knd actWA actWB 10 5 4 actTl 8000 0 60 159 0 0 60 263 0 (actR2VA 3) (actR2VB 3) [(none, none, actR2YA 3, actR2YB 3, false)] = true := by decide +kernel
set_option maxRecDepth 1000000 in
theorem actR2E4 : vPe x_KT x_tb x_tyl x_ov0 x_ca x_ha x_knd actWA actWB 10 5 4 actTl 8000 0 60 159 0 0 60 263 0 (actR2VA 4) (actR2VB 4) [(none, none, actR2YA 4, actR2YB 4, false)] = true := by decide +kernel
set_option maxRecDepth 1000000 in
theorem actR2E5 : vPe x_KT x_tb x_tyl x_ov0 x_ca x_ha x_knd actWA actWB 10 5 4 actTl 8000 0 60 159 0 0 60 263 0 (actR2VA 5) (actR2VB 5) [(none, none, actR2YA 5, actR2YB 5, false)] = true := by decide +kernel
set_option maxRecDepth 1000000 in
theorem actR2E6 : vPe x_KT x_tb x_tyl x_ov0 x_ca x_ha x_knd actWA actWB 10 5 4 actTl 8000 0 60 159 0 0 60 263 0 (actR2VA 6) (actR2VB 6) [(none, none, actR2YA 6, actR2YB 6, false)] = true := by decide +kernel
set_option maxRecDepth 1000000 in
theorem actR2E7 : vPe x_KT x_tb x_tyl x_ov0 x_ca x_ha x_knd actWA actWB 10 5 4 actTl 8000 0 60 159 0 0 60 263 0 (actR2VA 7) (actR2VB 7) [(none, none, actR2YA 7, actR2YB 7, false)] = true := by decide +kernel
set_option maxRecDepth 1000000 in
theorem actR2E8 : vPe x_KT x_tb x_tyl x_ov0 x_ca x_ha x_knd actWA actWB 10 5 4 actTl 8000 0 60 159 0 0 60 263 0 (actR2VA 8) (actR2VB 8) [(none, none, actR2YA 8, actR2YB 8, false)] = true := by decide +kernel
set_option maxRecDepth 1000000 in
theorem actR2E9 : vPe x_KT x_tb x_tyl x_ov0 x_ca x_ha x_knd actWA actWB 10 5 4 actTl 8000 0 60 159 0 0 60 263 0 (actR2VA 9) (actR2VB 9) [(none, none, actR2YA 9, actR2YB 9, false)] = true := by decide +kernel
theorem actR2E (v : Nat) (hv : v < 10) : vPe x_KT x_tb x_tyl x_ov0 x_ca x_ha x_knd actWA actWB 10 5 4 actTl 8000 0 60 159 0 0 60 263 0 (actR2VA v) (actR2VB v) [(none, none, actR2YA v, actR2YB v, false)] = true := by
  have h : v = 0 ∨ v = 1 ∨ v = 2 ∨ v = 3 ∨ v = 4 ∨ v = 5 ∨ v = 6 ∨ v = 7 ∨ v = 8 ∨ v = 9 := by omega
  rcases h with rfl | rfl | rfl | rfl | rfl | rfl | rfl | rfl | rfl | rfl
  · exact actR2E0
  · exact actR2E1
  · exact actR2E2
  · exact actR2E3
  · exact actR2E4
  · exact actR2E5
  · exact actR2E6
  · exact actR2E7
  · exact actR2E8
  · exact actR2E9
theorem actR2Pk : ∀ ρ : Nat → Int, iHd ρ (zipI 0 (aI actEA)) → ∀ J : Nat, J < 20 → ∃ v : Nat, v < 10 ∧ ∃ δ : Int, (0 ≤ δ ∧ δ ≤ 10) ∧ ∀ ρ2 : Nat → Int, (∀ k, k < 8 → ρ2 k = ρ k) → ρ2 (8 + 1) = δ → lEv ρ2 (actR2Ky v) = (J : Int) := fun ρ _ J hJ => by
  have h : J = 0 ∨ J = 1 ∨ J = 2 ∨ J = 3 ∨ J = 4 ∨ J = 5 ∨ J = 6 ∨ J = 7 ∨ J = 8 ∨ 9 ≤ J := by omega
  rcases h with rfl | rfl | rfl | rfl | rfl | rfl | rfl | rfl | rfl | h
  · refine ⟨0, by decide, 0, ⟨by omega, by omega⟩, fun ρ2 _ _ => ?_⟩
    exact lK_ev ρ2 _
  · refine ⟨1, by decide, 0, ⟨by omega, by omega⟩, fun ρ2 _ _ => ?_⟩
    exact lK_ev ρ2 _
  · refine ⟨2, by decide, 0, ⟨by omega, by omega⟩, fun ρ2 _ _ => ?_⟩
    exact lK_ev ρ2 _
  · refine ⟨3, by decide, 0, ⟨by omega, by omega⟩, fun ρ2 _ _ => ?_⟩
    exact lK_ev ρ2 _
  · refine ⟨4, by decide, 0, ⟨by omega, by omega⟩, fun ρ2 _ _ => ?_⟩
    exact lK_ev ρ2 _
  · refine ⟨5, by decide, 0, ⟨by omega, by omega⟩, fun ρ2 _ _ => ?_⟩
    exact lK_ev ρ2 _
  · refine ⟨6, by decide, 0, ⟨by omega, by omega⟩, fun ρ2 _ _ => ?_⟩
    exact lK_ev ρ2 _
  · refine ⟨7, by decide, 0, ⟨by omega, by omega⟩, fun ρ2 _ _ => ?_⟩
    exact lK_ev ρ2 _
  · refine ⟨8, by decide, 0, ⟨by omega, by omega⟩, fun ρ2 _ _ => ?_⟩
    exact lK_ev ρ2 _
  · refine ⟨9, by decide, (J : Int) - 9, ⟨by omega, by omega⟩, fun ρ2 _ e2 => ?_⟩
    have e2 : ρ2 9 = (J : Int) - 9 := e2
    simp only [actR2Ky, lAdd_ev, lSy_ev, lK_ev, e2]
    omega
def traceWA : List (Nat × Nat) := []
def traceWB : List (Nat × Nat) := []
def traceTl : vTl := [(2, 1, 1, 0), (3, 2, 1, 0), (4, 3, 1, 0)]
def traceEA : vAn := ([47, 40, 19, 20, 21], [((0), (3584)), ((0), (3584)), ((0), (5000)), ((0), (40)), ((0), (1000)), ((-2147483648), (2147483647))], [(0, .inr (some 0)), (1, .inl (lSy 5))], [], [(0, .inl 17, .inr (some 1)), (1, .inl 3, .inl (lSy 3)), (1, .inl 4, .inl (lSy 4)), (1, .inl 0, .inr (some 2)), (1, .inl 1, .inr (some 3)), (1, .inl 2, .inr (some 4))], [(lAdd (lAdd (lK (-7)) (lSy 0)) (lSc (-1) (lSy 1))), (lAdd (lSy 0) (lSc (-1) (lSy 1))), (lAdd (lSy 1) (lSc (-1) (lSy 2)))], [], ((lK 0), lK 0, lK 0, 0, 0, [], none), [])
def traceEB : vAn := ([117, 88, 89, 94], [((0), (3584)), ((0), (3584)), ((0), (5000)), ((0), (40)), ((0), (1000)), ((-2147483648), (2147483647))], [(0, .inr (some 0)), (1, .inl (lSy 5))], [], [(0, .inl 23, .inl (lSy 2)), (0, .inl 38, .inl (lSy 3)), (0, .inl 45, .inl (lSy 4)), (0, .inl 39, .inr (some 1)), (0, .inl 40, .inr (some 2)), (0, .inl 44, .inr (some 3))], [(lAdd (lAdd (lK (-7)) (lSy 0)) (lSc (-1) (lSy 1))), (lAdd (lSy 0) (lSc (-1) (lSy 1))), (lAdd (lSy 1) (lSc (-1) (lSy 2)))], [], ((lK 0), lK 0, lK 0, 0, 0, [], none), [])
def traceXA : vAn := ([47, 40, 19, 20, 21], [((0), (3584)), ((0), (3584)), ((0), (5000)), ((0), (40)), ((0), (1000)), ((-2147483648), (2147483647)), ((-2147483648), (2147483647)), ((0), (40)), ((0), (1000))], [], [.inl (lSy 6)], [(0, .inl 17, .inr (some 1)), (1, .inl 3, .inl (lSy 7)), (1, .inl 4, .inl (lSy 8)), (1, .inl 0, .inr (some 2)), (1, .inl 1, .inr (some 3)), (1, .inl 2, .inr (some 4))], [(lAdd (lAdd (lK (-7)) (lSy 0)) (lSc (-1) (lSy 1))), (lAdd (lSy 0) (lSc (-1) (lSy 1))), (lAdd (lSy 1) (lSc (-1) (lSy 2)))], [], ((lK 0), lK 0, lK 0, 0, 0, [], none), [(false, .inl 1000), (false, .inr (.inl (1, .inl 3))), (false, .inr (.inl (1, .inl 4)))])
def traceXB : vAn := ([117, 88, 89, 94], [((0), (3584)), ((0), (3584)), ((0), (5000)), ((0), (40)), ((0), (1000)), ((-2147483648), (2147483647)), ((-2147483648), (2147483647)), ((0), (40)), ((0), (1000))], [], [.inl (lSy 6)], [(0, .inl 23, .inl (lSy 2)), (0, .inl 38, .inl (lSy 7)), (0, .inl 45, .inl (lSy 8)), (0, .inl 39, .inr (some 1)), (0, .inl 40, .inr (some 2)), (0, .inl 44, .inr (some 3))], [(lAdd (lAdd (lK (-7)) (lSy 0)) (lSc (-1) (lSy 1))), (lAdd (lSy 0) (lSc (-1) (lSy 1))), (lAdd (lSy 1) (lSc (-1) (lSy 2)))], [], ((lK 0), lK 0, lK 0, 0, 0, [], none), [])
def traceXS : List (vAn × vAn × List lT) := [(traceXA, traceXB, [(lSy 0), (lAdd (lK 7) (lSy 1)), (lSy 2), (lSy 7), (lSy 8)])]
set_option maxRecDepth 1000000 in
theorem traceE : vPe x_KT x_tb x_tyl x_ov0 x_ca x_ha x_knd traceWA traceWB 6 5 4 traceTl 8000 0 60 166 0 0 60 268 0 traceEA traceEB (traceXS.map (fun x => (none, none, x.1, x.2.1, false))) = true := by decide +kernel
end XArN
