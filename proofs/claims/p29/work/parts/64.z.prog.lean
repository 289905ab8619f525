/-! program beside program, feed beside feed: the runs. -/
section XProg
set_option maxRecDepth 1000000 in
theorem pgqA : tMth x_tb 13 = some xm13 := rfl
set_option maxRecDepth 1000000 in
theorem pgqB : tMth x_tb 182 = some xm182 := rfl
set_option maxRecDepth 1000000 in
theorem pgqC : tMth x_tb 14 = some xm14 := rfl
set_option maxRecDepth 1000000 in
theorem pgqD : tMth x_tb 183 = some xm183 := rfl
set_option maxRecDepth 1000000 in
theorem fdqA : tMth x_tb 11 = some xm11 := rfl
set_option maxRecDepth 1000000 in
theorem fdqB : tMth x_tb 180 = some xm180 := rfl
theorem pgc1 : mMc xm13 = 19 := by decide +kernel
theorem pgc2 : mMc xm182 = 0 := by decide +kernel
theorem pgc3 : mMc xm14 = 0 := by decide +kernel
theorem pgc4 : mMc xm183 = 0 := by decide +kernel
theorem pgs3 : mMs xm14 = 0 := by decide +kernel
theorem pgs4 : mMs xm183 = 0 := by decide +kernel
theorem fdc1 : mMc xm11 = 0 := by decide +kernel
theorem fdc2 : mMc xm180 = 0 := by decide +kernel
theorem pgd1 : mC xm13 20 = some (.invokevirtual 110, 3) := by decide +kernel
theorem pgd2 : mC xm182 17 = some (.invokevirtual 268, 3) := by decide +kernel
theorem pgt1 : tCal x_tb (mO xm13) 110 = some (14, 0) := by decide +kernel
theorem pgt2 : tCal x_tb (mO xm182) 268 = some (183, 0) := by decide +kernel
/-- the class of an object that a symbol names -/
theorem bRc {ot : XO Int32} {ρ : Nat → Int} {σ : Nat → Nat} {ty : Nat → Option Nat} {H : List (XC Int32)} {s : vSt} (h : vRel x_KT ρ σ ty H s) (hl : H.length ≤ 1000000) {i c : Nat} {o : Nat × List vF} (hi : (sG s)[i]? = some c) (hk : x_KT.1[c]? = some (.inl o)) {G : List (XC Int32)} (hG : G[sR σ i]? = H[sR σ i]?) : x_rc ot G (sR σ i) = some o.1 := by
  have ha := h.2.1 i c hi
  obtain ⟨fs, f1, -, -⟩ := vHp_obj h.1 ha (show (fun c => x_KT.1[c]?) c = some (.inl (o.1, o.2)) from hk)
  have hlt := vHp_lt h.1 ha
  unfold x_rc
  rw [if_neg (by omega), hG, f1]
theorem lk1 {ρ : Nat → Int} {σ : Nat → Nat} {i : Nat} {L : List (Nat × XV Int32)} (h : x_lk L 0 = some (.inr (some (sR σ i)))) : vCov ρ σ [(0, .inr (some i))] L := fun j v hj => by
  rcases j with _ | j
  · cases hj
    exact h
  · unfold x_lk at hj
    simp at hj
theorem lk2 {ρ : Nat → Int} {σ : Nat → Nat} {u w : vA} : vCov ρ σ [(0, u), (1, w)] (x_en 0 [cv ρ σ u, cv ρ σ w]) := vCov_en [u, w] 0
/-- what is asked behind the reading of the tape -/
def pgR (ot : XO Int32) (b : pC) (LA LB : List (Nat × XV Int32)) (u1 : Option (XV Int32)) (J1 : List (XC Int32)) (u2 : Option (XV Int32)) (J2 : List (XC Int32)) : Prop :=
  ∃ vA H1 vB H2, x_To x_tb x_tyl ot 1299 13 (20 + 3) LA (x_push u1 []) J1 0 0 vA H1 ∧ x_To x_tb x_tyl ot 1299 182 (17 + 3) LB (x_push u2 []) J2 0 0 vB H2 ∧ pQ x_KT 6 4 2 pgWA pgWB 19 0 (pgXS.map (fun x => (x.1, x.2.1))) b vA H1 vB H2
theorem pgXS1 : (pgFA, pgFB) ∈ pgXS.map (fun x => (x.1, x.2.1)) := List.mem_map.mpr ⟨_, List.mem_cons_self, rfl⟩
theorem pgXS2 : (pgOA, pgOB) ∈ pgXS.map (fun x => (x.1, x.2.1)) := List.mem_map.mpr ⟨_, List.mem_cons_of_mem _ List.mem_cons_self, rfl⟩
theorem pgXS3 : (pgBA, pgBB) ∈ pgXS.map (fun x => (x.1, x.2.1)) := List.mem_map.mpr ⟨_, List.mem_cons_of_mem _ (List.mem_cons_of_mem _ List.mem_cons_self), rfl⟩
theorem pgZ {ρ : Nat → Int} {n : Nat} (h : (n : Int) ≤ lEv ρ (lK 0)) : n = 0 := by
  rw [lK_ev] at h
  omega
theorem pgZ0 (ρ : Nat → Int) : ((0 : Nat) : Int) ≤ lEv ρ (lK 0) := by
  rw [lK_ev]
  exact Int.le_refl _
section
variable {xs : Nat → Int32} {n : Nat} {sf : Option Nat}
/-- the tape was a program -/
theorem pg_k1 (hsf : sf = none ∨ sf = some 1200000) {b d : pC} (hl : pTl x_KT 4 2 pgWA pgWB pgTl b) (hp : pSt x_KT 6 4 2 pgWA pgWB b d pgR1A pgR1B) (hA : b.2.2.2.2.2.1.length + 19 ≤ 1000000) (hB : b.2.2.2.2.2.2.length + 0 ≤ 1000000) (lA : d.2.2.2.2.2.1.length ≤ b.2.2.2.2.2.1.length) (lB : d.2.2.2.2.2.2.length ≤ b.2.2.2.2.2.2.length) {LA LB : List (Nat × XV Int32)} (cA : x_lk LA 0 = some (.inr (some (sR d.2.1 0)))) (cB : x_lk LB 0 = some (.inr (some (sR d.2.2.1 0)))) :
    pgR (x_otS xs n sf) b LA LB (some (cv d.1 d.2.1 (.inl (lK (-1))))) d.2.2.2.2.2.1 (some (cv d.1 d.2.2.1 (.inl (lK 1)))) d.2.2.2.2.2.2 := by
  refine vPe_st (x_ov0_le sf) (x_ckS hsf) pgE4 pgqA pgqB (dA := 1299) (dB := 1299) (by decide) (by decide) (BA := b.2.2.2.2.2.1.length) (BB := b.2.2.2.2.2.2.length) (by rw [pgc1]; exact hA) (by rw [pgc2]; exact hB) hl (c := d) hp (cA := 0) (sA := 0) (cB := 0) (sB := 0) ⟨⟨lA, by omega⟩, lk1 cA, pgZ0 _, pgZ0 _⟩ ⟨⟨lB, by omega⟩, lk1 cB, pgZ0 _, pgZ0 _⟩ ?_
  intro o ho d2 LA2 LB2 cA2 sA2 cB2 sB2 h1 h2 h3 h4
  rcases List.mem_singleton.mp ho with rfl
  exact pQ_end pgXS2 h1 rfl rfl (by rw [← pgc1]; exact h3) (by rw [← pgc2]; exact h4)
/-- it was none -/
theorem pg_k2 (hsf : sf = none ∨ sf = some 1200000) {b d : pC} (hl : pTl x_KT 4 2 pgWA pgWB pgTl b) (hp : pSt x_KT 6 4 2 pgWA pgWB b d pgR2A pgR2B) (hA : b.2.2.2.2.2.1.length + 19 ≤ 1000000) (hB : b.2.2.2.2.2.2.length + 0 ≤ 1000000) (lA : d.2.2.2.2.2.1.length ≤ b.2.2.2.2.2.1.length) (lB : d.2.2.2.2.2.2.length ≤ b.2.2.2.2.2.2.length) {LA LB : List (Nat × XV Int32)} (cA : x_lk LA 0 = some (.inr (some (sR d.2.1 0)))) (cB : x_lk LB 0 = some (.inr (some (sR d.2.2.1 0)))) :
    pgR (x_otS xs n sf) b LA LB (some (cv d.1 d.2.1 (.inl (lSy 6)))) d.2.2.2.2.2.1 (some (cv d.1 d.2.2.1 (.inl (lK 0)))) d.2.2.2.2.2.2 := by
  refine vPe_st (x_ov0_le sf) (x_ckS hsf) pgE5 pgqA pgqB (dA := 1299) (dB := 1299) (by decide) (by decide) (BA := b.2.2.2.2.2.1.length) (BB := b.2.2.2.2.2.2.length) (by rw [pgc1]; exact hA) (by rw [pgc2]; exact hB) hl (c := d) hp (cA := 0) (sA := 0) (cB := 0) (sB := 0) ⟨⟨lA, by omega⟩, lk1 cA, pgZ0 _, pgZ0 _⟩ ⟨⟨lB, by omega⟩, lk1 cB, pgZ0 _, pgZ0 _⟩ ?_
  intro o ho d2 LA2 LB2 cA2 sA2 cB2 sB2 h1 h2 h3 h4
  rcases List.mem_singleton.mp ho with rfl
  exact pQ_end pgXS3 h1 rfl rfl (by rw [← pgc1]; exact h3) (by rw [← pgc2]; exact h4)
/-- what is asked of a state at the heads, its bytes known so far -/
def pgV (b d : pC) : Prop := ∃ (ρ2 : Nat → Int) (VA VB : vAn), pSt x_KT 6 4 2 pgWA pgWB b (ρ2, d.2) VA VB ∧ (∀ j, j < 8 → ρ2 j = d.1 j) ∧ vPe x_KT x_tb x_tyl x_ov0 x_cp x_hp x_knd pgWA pgWB 6 4 2 pgTl 20000 1 60 14 12 1 60 183 12 VA VB pgO3 = true ∧ aL VA = aL pgHA ∧ aL VB = aL pgHB ∧ aS VA = [] ∧ aS VB = [] ∧ aRk VA = aRk pgHA ∧ (aCn VA = lK 0 ∧ aSn VA = lK 0 ∧ aCn VB = lK 0 ∧ aSn VB = lK 0)
def pgBt (d : pC) (k : Nat) (x : Int32) : Prop := ∃ t vs, d.2.2.2.2.2.1[sR d.2.1 3]? = some (.inr (t, vs)) ∧ vs[(d.1 6 + k).toNat]? = some (.inl x)
theorem pg_rng {b d : pC} (hp : pSt x_KT 6 4 2 pgWA pgWB b d pgHA pgHB) : 0 ≤ d.1 6 ∧ d.1 6 ≤ d.1 4 ∧ d.1 4 ≤ 160 := by
  have c1 : 0 ≤ lEv d.1 (lAdd (lSy 4) (lSc (-1) (lSy 6))) := hp.1.2.2.2.2.1 _ (by
    show _ ∈ ([(lAdd (lAdd (lK (-7)) (lSy 0)) (lSc (-1) (lSy 1))), (lAdd (lSy 1) (lSc (-1) (lSy 2))), (lAdd (lSy 4) (lSc (-1) (lSy 6)))] : List lT)
    exact List.mem_cons_of_mem _ (List.mem_cons_of_mem _ List.mem_cons_self))
  simp only [lAdd_ev, lK_ev, lSc_ev, lSy_ev] at c1
  have i1 := zipI_spec.mp hp.1.2.2.2.1 6 ((0 : Int), (160 : Int)) rfl
  rw [Nat.zero_add] at i1
  have i2 := zipI_spec.mp hp.1.2.2.2.1 4 ((0 : Int), (160 : Int)) rfl
  rw [Nat.zero_add] at i2
  have i1 : 0 ≤ d.1 6 ∧ d.1 6 ≤ 160 := i1
  have i2 : 0 ≤ d.1 4 ∧ d.1 4 ≤ 160 := i2
  omega
theorem pg_byte {b d : pC} (hp : pSt x_KT 6 4 2 pgWA pgWB b d pgHA pgHB) (k : Nat) (hk : d.1 6 + k < d.1 4) : ∃ x : Int32, pgBt d k x ∧ 0 ≤ x.toInt ∧ x.toInt ≤ 255 := by
  obtain ⟨i1, i2, i3⟩ := pg_rng hp
  have tA : d.2.2.2.1 (sR d.2.1 3) = some 0 := hp.1.2.1 3 0 rfl
  obtain ⟨vs, f1, f2, f3⟩ := vHp_arr hp.1.1 tA (show (fun c => x_KT.1[c]?) 0 = some (.inr (0, 160, [.inl ((0), (255))])) from rfl)
  obtain ⟨u, v1, v2⟩ := f3 (d.1 6 + k).toNat (.inl ((0), (255))) (by omega) (by
    show ([.inl ((0), (255))] : List vF)[(d.1 6 + k).toNat % 1]? = _
    rw [Nat.mod_one]
    rfl)
  rcases u with x | u
  rotate_left
  · exact v2.elim
  have v2 : 0 ≤ x.toInt ∧ x.toInt ≤ 255 := v2
  exact ⟨x, ⟨0, vs, f1, v1⟩, v2.1, v2.2⟩
theorem pg_var {b d : pC} (hp : pSt x_KT 6 4 2 pgWA pgWB b d pgHA pgHB) (bs : List (Nat × Int × Int)) (sh : Option Nat) (ys : List Int32) (hb : ∀ (j : Nat) (p : Nat × Int × Int), bs[j]? = some p → ∃ x : Int32, ys[j]? = some x ∧ p.2.1 ≤ x.toInt ∧ x.toInt ≤ p.2.2 ∧ d.1 6 + p.1 < d.1 4 ∧ pgBt d p.1 x) (hs : ∀ k, sh = some k → d.1 4 ≤ d.1 6 + k) (he : vPe x_KT x_tb x_tyl x_ov0 x_cp x_hp x_knd pgWA pgWB 6 4 2 pgTl 20000 1 60 14 12 1 60 183 12 (pgXA bs sh) (pgXB bs sh) pgO3 = true) : pgV b d := by
  obtain ⟨i1, i2, i3⟩ := pg_rng hp
  obtain ⟨p1, p2, p3, p4, p5, p6, p7, p8, p9⟩ := hp
  have bA : sBd (aSt pgHA) = true := by decide +kernel
  have bB : sBd (aSt pgHB) = true := by decide +kernel
  let ρ2 : Nat → Int := fun j => if j < 8 then d.1 j else ((ys[j - 8]?).map Int32.toInt).getD 0
  have eρ : ∀ j, j < 8 → ρ2 j = d.1 j := fun j hj => if_pos hj
  have eY : ∀ j x, ys[j]? = some x → ρ2 (8 + j) = x.toInt := fun j x hx => by
    show (if 8 + j < 8 then _ else ((ys[8 + j - 8]?).map Int32.toInt).getD 0) = _
    rw [if_neg (by omega), Nat.add_sub_cancel_left, hx]
    rfl
  have hI : ∀ j p, (bs.map (fun p => p.2))[j]? = some p → p.1 ≤ ρ2 (8 + j) ∧ ρ2 (8 + j) ≤ p.2 := fun j p hj => by
    rw [List.getElem?_map] at hj
    obtain ⟨q, hq, rfl⟩ := Option.map_eq_some_iff.mp hj
    obtain ⟨x, x1, x2, x3, -, -⟩ := hb j q hq
    rw [eY j x x1]
    exact ⟨x2, x3⟩
  have hC : ∀ c ∈ pgXC bs sh, 0 ≤ lEv ρ2 c := fun c hc => by
    rcases List.mem_append.mp hc with hc | hc
    · obtain ⟨p, hp, rfl⟩ := List.mem_map.mp hc
      obtain ⟨j, hj⟩ := List.getElem?_of_mem hp
      obtain ⟨x, -, -, -, x4, -⟩ := hb j p hj
      rw [lSub_ev, lSub_ev, lSy_ev, lSy_ev, lK_ev, eρ 6 (by decide), eρ 4 (by decide)]
      omega
    · rcases sh with _ | k
      · cases hc
      · rcases List.mem_singleton.mp hc with rfl
        have := hs k rfl
        rw [lAdd_ev, lSub_ev, lSy_ev, lSy_ev, lK_ev, eρ 6 (by decide), eρ 4 (by decide)]
        omega
  have hF : ∀ f ∈ pgXF bs, vHolds ρ2 d.2.1 d.2.2.2.2.2.1 f := fun f hf => by
    obtain ⟨j, hj⟩ := List.getElem?_of_mem hf
    unfold pgXF at hj
    rw [List.getElem?_mapIdx] at hj
    obtain ⟨p, hp, rfl⟩ := Option.map_eq_some_iff.mp hj
    obtain ⟨x, x1, -, -, x4, t, vs, x5, x6⟩ := hb j p hp
    refine ⟨t, vs, x5, ?_, ?_⟩
    · show 0 ≤ lEv ρ2 (lAdd (lSy 6) (lK (p.1 : Int)))
      rw [lAdd_ev, lSy_ev, lK_ev, eρ 6 (by decide)]
      omega
    · show vs[(lEv ρ2 (lAdd (lSy 6) (lK (p.1 : Int)))).toNat]? = some (.inl (Int32.ofInt (lEv ρ2 (lSy (8 + j)))))
      rw [lAdd_ev, lSy_ev, lK_ev, lSy_ev, eρ 6 (by decide), eY j x x1, Int32.ofInt_toInt]
      exact x6
  exact ⟨ρ2, pgXA bs sh, pgXB bs sh, ⟨vRel_more p1 bA (eI := bs.map (fun p => p.2)) (eF := pgXF bs) (eC := pgXC bs sh) rfl eρ hI hF hC, vRel_more p2 bB (eI := bs.map (fun p => p.2)) (eF := []) (eC := pgXC bs sh) rfl eρ hI (fun f hf => absurd hf List.not_mem_nil) hC, fun j hj => (eρ j (by omega)).trans (p3 j hj), p4, p5, p6, p7, p8, p9⟩, eρ, he, rfl, rfl, rfl, rfl, rfl, rfl, rfl, rfl, rfl⟩
/-- by its bytes -/
theorem pg_edge {b d : pC} (hp : pSt x_KT 6 4 2 pgWA pgWB b d pgHA pgHB) : pgV b d := by
  by_cases h0 : d.1 6 + 0 < d.1 4
  · obtain ⟨x0, v0, l0, m0⟩ := pg_byte hp 0 h0
    have c0 : (0 ≤ x0.toInt ∧ x0.toInt ≤ 96) ∨ (97 ≤ x0.toInt ∧ x0.toInt ≤ 97) ∨ (98 ≤ x0.toInt ∧ x0.toInt ≤ 100) ∨ (101 ≤ x0.toInt ∧ x0.toInt ≤ 101) ∨ (102 ≤ x0.toInt ∧ x0.toInt ≤ 102) ∨ (103 ≤ x0.toInt ∧ x0.toInt ≤ 103) ∨ (104 ≤ x0.toInt ∧ x0.toInt ≤ 104) ∨ (105 ≤ x0.toInt ∧ x0.toInt ≤ 105) ∨ (106 ≤ x0.toInt ∧ x0.toInt ≤ 107) ∨ (108 ≤ x0.toInt ∧ x0.toInt ≤ 108) ∨ (109 ≤ x0.toInt ∧ x0.toInt ≤ 109) ∨ (110 ≤ x0.toInt ∧ x0.toInt ≤ 110) ∨ (111 ≤ x0.toInt ∧ x0.toInt ≤ 111) ∨ (112 ≤ x0.toInt ∧ x0.toInt ≤ 114) ∨ (115 ≤ x0.toInt ∧ x0.toInt ≤ 115) ∨ (116 ≤ x0.toInt ∧ x0.toInt ≤ 255) := by omega
    rcases c0 with ⟨a0, b0⟩ | ⟨a0, b0⟩ | ⟨a0, b0⟩ | ⟨a0, b0⟩ | ⟨a0, b0⟩ | ⟨a0, b0⟩ | ⟨a0, b0⟩ | ⟨a0, b0⟩ | ⟨a0, b0⟩ | ⟨a0, b0⟩ | ⟨a0, b0⟩ | ⟨a0, b0⟩ | ⟨a0, b0⟩ | ⟨a0, b0⟩ | ⟨a0, b0⟩ | ⟨a0, b0⟩
    · exact pg_var hp [(0, (0), (96))] none [x0] (fun j p hj => by
          rcases j with _ | j
          · cases hj
            exact ⟨x0, rfl, a0, b0, h0, v0⟩
          · cases hj) (fun k hk => by cases hk) pgE3_0
    · exact pg_var hp [(0, (97), (97))] none [x0] (fun j p hj => by
          rcases j with _ | j
          · cases hj
            exact ⟨x0, rfl, a0, b0, h0, v0⟩
          · cases hj) (fun k hk => by cases hk) pgE3_1
    · exact pg_var hp [(0, (98), (100))] none [x0] (fun j p hj => by
          rcases j with _ | j
          · cases hj
            exact ⟨x0, rfl, a0, b0, h0, v0⟩
          · cases hj) (fun k hk => by cases hk) pgE3_2
    · exact pg_var hp [(0, (101), (101))] none [x0] (fun j p hj => by
          rcases j with _ | j
          · cases hj
            exact ⟨x0, rfl, a0, b0, h0, v0⟩
          · cases hj) (fun k hk => by cases hk) pgE3_3
    · exact pg_var hp [(0, (102), (102))] none [x0] (fun j p hj => by
          rcases j with _ | j
          · cases hj
            exact ⟨x0, rfl, a0, b0, h0, v0⟩
          · cases hj) (fun k hk => by cases hk) pgE3_4
    · exact pg_var hp [(0, (103), (103))] none [x0] (fun j p hj => by
          rcases j with _ | j
          · cases hj
            exact ⟨x0, rfl, a0, b0, h0, v0⟩
          · cases hj) (fun k hk => by cases hk) pgE3_5
    · exact pg_var hp [(0, (104), (104))] none [x0] (fun j p hj => by
          rcases j with _ | j
          · cases hj
            exact ⟨x0, rfl, a0, b0, h0, v0⟩
          · cases hj) (fun k hk => by cases hk) pgE3_6
    · by_cases h1 : d.1 6 + 1 < d.1 4
      · obtain ⟨x1, v1, l1, m1⟩ := pg_byte hp 1 h1
        have c1 : (0 ≤ x1.toInt ∧ x1.toInt ≤ 101) ∨ (102 ≤ x1.toInt ∧ x1.toInt ≤ 102) ∨ (103 ≤ x1.toInt ∧ x1.toInt ≤ 109) ∨ (110 ≤ x1.toInt ∧ x1.toInt ≤ 110) ∨ (111 ≤ x1.toInt ∧ x1.toInt ≤ 255) := by omega
        rcases c1 with ⟨a1, b1⟩ | ⟨a1, b1⟩ | ⟨a1, b1⟩ | ⟨a1, b1⟩ | ⟨a1, b1⟩
        · exact pg_var hp [(0, (105), (105)), (1, (0), (101))] none [x0, x1] (fun j p hj => by
              rcases j with _ | _ | j
              · cases hj
                exact ⟨x0, rfl, a0, b0, h0, v0⟩
              · cases hj
                exact ⟨x1, rfl, a1, b1, h1, v1⟩
              · cases hj) (fun k hk => by cases hk) pgE3_7
        · by_cases h4 : d.1 6 + 4 < d.1 4
          · obtain ⟨x4, v4, l4, m4⟩ := pg_byte hp 4 h4
            have c4 : (0 ≤ x4.toInt ∧ x4.toInt ≤ 59) ∨ (60 ≤ x4.toInt ∧ x4.toInt ≤ 60) ∨ (61 ≤ x4.toInt ∧ x4.toInt ≤ 61) ∨ (62 ≤ x4.toInt ∧ x4.toInt ≤ 255) := by omega
            rcases c4 with ⟨a4, b4⟩ | ⟨a4, b4⟩ | ⟨a4, b4⟩ | ⟨a4, b4⟩
            · exact pg_var hp [(0, (105), (105)), (1, (102), (102)), (4, (0), (59))] none [x0, x1, x4] (fun j p hj => by
                  rcases j with _ | _ | _ | j
                  · cases hj
                    exact ⟨x0, rfl, a0, b0, h0, v0⟩
                  · cases hj
                    exact ⟨x1, rfl, a1, b1, h1, v1⟩
                  · cases hj
                    exact ⟨x4, rfl, a4, b4, h4, v4⟩
                  · cases hj) (fun k hk => by cases hk) pgE3_8
            · exact pg_var hp [(0, (105), (105)), (1, (102), (102)), (4, (60), (60))] none [x0, x1, x4] (fun j p hj => by
                  rcases j with _ | _ | _ | j
                  · cases hj
                    exact ⟨x0, rfl, a0, b0, h0, v0⟩
                  · cases hj
                    exact ⟨x1, rfl, a1, b1, h1, v1⟩
                  · cases hj
                    exact ⟨x4, rfl, a4, b4, h4, v4⟩
                  · cases hj) (fun k hk => by cases hk) pgE3_9
            · exact pg_var hp [(0, (105), (105)), (1, (102), (102)), (4, (61), (61))] none [x0, x1, x4] (fun j p hj => by
                  rcases j with _ | _ | _ | j
                  · cases hj
                    exact ⟨x0, rfl, a0, b0, h0, v0⟩
                  · cases hj
                    exact ⟨x1, rfl, a1, b1, h1, v1⟩
                  · cases hj
                    exact ⟨x4, rfl, a4, b4, h4, v4⟩
                  · cases hj) (fun k hk => by cases hk) pgE3_10
            · exact pg_var hp [(0, (105), (105)), (1, (102), (102)), (4, (62), (255))] none [x0, x1, x4] (fun j p hj => by
                  rcases j with _ | _ | _ | j
                  · cases hj
                    exact ⟨x0, rfl, a0, b0, h0, v0⟩
                  · cases hj
                    exact ⟨x1, rfl, a1, b1, h1, v1⟩
                  · cases hj
                    exact ⟨x4, rfl, a4, b4, h4, v4⟩
                  · cases hj) (fun k hk => by cases hk) pgE3_11
          · exact pg_var hp [(0, (105), (105)), (1, (102), (102))] (some 4) [x0, x1] (fun j p hj => by
                rcases j with _ | _ | j
                · cases hj
                  exact ⟨x0, rfl, a0, b0, h0, v0⟩
                · cases hj
                  exact ⟨x1, rfl, a1, b1, h1, v1⟩
                · cases hj) (fun k hk => by
                cases hk
                omega) pgE3_12
        · exact pg_var hp [(0, (105), (105)), (1, (103), (109))] none [x0, x1] (fun j p hj => by
              rcases j with _ | _ | j
              · cases hj
                exact ⟨x0, rfl, a0, b0, h0, v0⟩
              · cases hj
                exact ⟨x1, rfl, a1, b1, h1, v1⟩
              · cases hj) (fun k hk => by cases hk) pgE3_13
        · exact pg_var hp [(0, (105), (105)), (1, (110), (110))] none [x0, x1] (fun j p hj => by
              rcases j with _ | _ | j
              · cases hj
                exact ⟨x0, rfl, a0, b0, h0, v0⟩
              · cases hj
                exact ⟨x1, rfl, a1, b1, h1, v1⟩
              · cases hj) (fun k hk => by cases hk) pgE3_14
        · exact pg_var hp [(0, (105), (105)), (1, (111), (255))] none [x0, x1] (fun j p hj => by
              rcases j with _ | _ | j
              · cases hj
                exact ⟨x0, rfl, a0, b0, h0, v0⟩
              · cases hj
                exact ⟨x1, rfl, a1, b1, h1, v1⟩
              · cases hj) (fun k hk => by cases hk) pgE3_15
      · exact pg_var hp [(0, (105), (105))] (some 1) [x0] (fun j p hj => by
            rcases j with _ | j
            · cases hj
              exact ⟨x0, rfl, a0, b0, h0, v0⟩
            · cases hj) (fun k hk => by
            cases hk
            omega) pgE3_16
    · exact pg_var hp [(0, (106), (107))] none [x0] (fun j p hj => by
          rcases j with _ | j
          · cases hj
            exact ⟨x0, rfl, a0, b0, h0, v0⟩
          · cases hj) (fun k hk => by cases hk) pgE3_17
    · by_cases h7 : d.1 6 + 7 < d.1 4
      · obtain ⟨x7, v7, l7, m7⟩ := pg_byte hp 7 h7
        have c7 : (0 ≤ x7.toInt ∧ x7.toInt ≤ 47) ∨ (48 ≤ x7.toInt ∧ x7.toInt ≤ 57) ∨ (58 ≤ x7.toInt ∧ x7.toInt ≤ 255) := by omega
        rcases c7 with ⟨a7, b7⟩ | ⟨a7, b7⟩ | ⟨a7, b7⟩
        · exact pg_var hp [(0, (108), (108)), (7, (0), (47))] none [x0, x7] (fun j p hj => by
              rcases j with _ | _ | j
              · cases hj
                exact ⟨x0, rfl, a0, b0, h0, v0⟩
              · cases hj
                exact ⟨x7, rfl, a7, b7, h7, v7⟩
              · cases hj) (fun k hk => by cases hk) pgE3_18
        · exact pg_var hp [(0, (108), (108)), (7, (48), (57))] none [x0, x7] (fun j p hj => by
              rcases j with _ | _ | j
              · cases hj
                exact ⟨x0, rfl, a0, b0, h0, v0⟩
              · cases hj
                exact ⟨x7, rfl, a7, b7, h7, v7⟩
              · cases hj) (fun k hk => by cases hk) pgE3_19
        · exact pg_var hp [(0, (108), (108)), (7, (58), (255))] none [x0, x7] (fun j p hj => by
              rcases j with _ | _ | j
              · cases hj
                exact ⟨x0, rfl, a0, b0, h0, v0⟩
              · cases hj
                exact ⟨x7, rfl, a7, b7, h7, v7⟩
              · cases hj) (fun k hk => by cases hk) pgE3_20
      · exact pg_var hp [(0, (108), (108))] (some 7) [x0] (fun j p hj => by
            rcases j with _ | j
            · cases hj
              exact ⟨x0, rfl, a0, b0, h0, v0⟩
            · cases hj) (fun k hk => by
            cases hk
            omega) pgE3_21
    · exact pg_var hp [(0, (109), (109))] none [x0] (fun j p hj => by
          rcases j with _ | j
          · cases hj
            exact ⟨x0, rfl, a0, b0, h0, v0⟩
          · cases hj) (fun k hk => by cases hk) pgE3_22
    · exact pg_var hp [(0, (110), (110))] none [x0] (fun j p hj => by
          rcases j with _ | j
          · cases hj
            exact ⟨x0, rfl, a0, b0, h0, v0⟩
          · cases hj) (fun k hk => by cases hk) pgE3_23
    · exact pg_var hp [(0, (111), (111))] none [x0] (fun j p hj => by
          rcases j with _ | j
          · cases hj
            exact ⟨x0, rfl, a0, b0, h0, v0⟩
          · cases hj) (fun k hk => by cases hk) pgE3_24
    · exact pg_var hp [(0, (112), (114))] none [x0] (fun j p hj => by
          rcases j with _ | j
          · cases hj
            exact ⟨x0, rfl, a0, b0, h0, v0⟩
          · cases hj) (fun k hk => by cases hk) pgE3_25
    · by_cases h1 : d.1 6 + 1 < d.1 4
      · obtain ⟨x1, v1, l1, m1⟩ := pg_byte hp 1 h1
        have c1 : (0 ≤ x1.toInt ∧ x1.toInt ≤ 100) ∨ (101 ≤ x1.toInt ∧ x1.toInt ≤ 101) ∨ (102 ≤ x1.toInt ∧ x1.toInt ≤ 116) ∨ (117 ≤ x1.toInt ∧ x1.toInt ≤ 117) ∨ (118 ≤ x1.toInt ∧ x1.toInt ≤ 255) := by omega
        rcases c1 with ⟨a1, b1⟩ | ⟨a1, b1⟩ | ⟨a1, b1⟩ | ⟨a1, b1⟩ | ⟨a1, b1⟩
        · exact pg_var hp [(0, (115), (115)), (1, (0), (100))] none [x0, x1] (fun j p hj => by
              rcases j with _ | _ | j
              · cases hj
                exact ⟨x0, rfl, a0, b0, h0, v0⟩
              · cases hj
                exact ⟨x1, rfl, a1, b1, h1, v1⟩
              · cases hj) (fun k hk => by cases hk) pgE3_26
        · by_cases h7 : d.1 6 + 7 < d.1 4
          · obtain ⟨x7, v7, l7, m7⟩ := pg_byte hp 7 h7
            have c7 : (0 ≤ x7.toInt ∧ x7.toInt ≤ 47) ∨ (48 ≤ x7.toInt ∧ x7.toInt ≤ 57) ∨ (58 ≤ x7.toInt ∧ x7.toInt ≤ 255) := by omega
            rcases c7 with ⟨a7, b7⟩ | ⟨a7, b7⟩ | ⟨a7, b7⟩
            · exact pg_var hp [(0, (115), (115)), (1, (101), (101)), (7, (0), (47))] none [x0, x1, x7] (fun j p hj => by
                  rcases j with _ | _ | _ | j
                  · cases hj
                    exact ⟨x0, rfl, a0, b0, h0, v0⟩
                  · cases hj
                    exact ⟨x1, rfl, a1, b1, h1, v1⟩
                  · cases hj
                    exact ⟨x7, rfl, a7, b7, h7, v7⟩
                  · cases hj) (fun k hk => by cases hk) pgE3_27
            · by_cases h8 : d.1 6 + 8 < d.1 4
              · obtain ⟨x8, v8, l8, m8⟩ := pg_byte hp 8 h8
                have c8 : (0 ≤ x8.toInt ∧ x8.toInt ≤ 47) ∨ (48 ≤ x8.toInt ∧ x8.toInt ≤ 57) ∨ (58 ≤ x8.toInt ∧ x8.toInt ≤ 255) := by omega
                rcases c8 with ⟨a8, b8⟩ | ⟨a8, b8⟩ | ⟨a8, b8⟩
                · exact pg_var hp [(0, (115), (115)), (1, (101), (101)), (7, (48), (57)), (8, (0), (47))] none [x0, x1, x7, x8] (fun j p hj => by
                      rcases j with _ | _ | _ | _ | j
                      · cases hj
                        exact ⟨x0, rfl, a0, b0, h0, v0⟩
                      · cases hj
                        exact ⟨x1, rfl, a1, b1, h1, v1⟩
                      · cases hj
                        exact ⟨x7, rfl, a7, b7, h7, v7⟩
                      · cases hj
                        exact ⟨x8, rfl, a8, b8, h8, v8⟩
                      · cases hj) (fun k hk => by cases hk) pgE3_28
                · exact pg_var hp [(0, (115), (115)), (1, (101), (101)), (7, (48), (57)), (8, (48), (57))] none [x0, x1, x7, x8] (fun j p hj => by
                      rcases j with _ | _ | _ | _ | j
                      · cases hj
                        exact ⟨x0, rfl, a0, b0, h0, v0⟩
                      · cases hj
                        exact ⟨x1, rfl, a1, b1, h1, v1⟩
                      · cases hj
                        exact ⟨x7, rfl, a7, b7, h7, v7⟩
                      · cases hj
                        exact ⟨x8, rfl, a8, b8, h8, v8⟩
                      · cases hj) (fun k hk => by cases hk) pgE3_29
                · exact pg_var hp [(0, (115), (115)), (1, (101), (101)), (7, (48), (57)), (8, (58), (255))] none [x0, x1, x7, x8] (fun j p hj => by
                      rcases j with _ | _ | _ | _ | j
                      · cases hj
                        exact ⟨x0, rfl, a0, b0, h0, v0⟩
                      · cases hj
                        exact ⟨x1, rfl, a1, b1, h1, v1⟩
                      · cases hj
                        exact ⟨x7, rfl, a7, b7, h7, v7⟩
                      · cases hj
                        exact ⟨x8, rfl, a8, b8, h8, v8⟩
                      · cases hj) (fun k hk => by cases hk) pgE3_30
              · exact pg_var hp [(0, (115), (115)), (1, (101), (101)), (7, (48), (57))] (some 8) [x0, x1, x7] (fun j p hj => by
                    rcases j with _ | _ | _ | j
                    · cases hj
                      exact ⟨x0, rfl, a0, b0, h0, v0⟩
                    · cases hj
                      exact ⟨x1, rfl, a1, b1, h1, v1⟩
                    · cases hj
                      exact ⟨x7, rfl, a7, b7, h7, v7⟩
                    · cases hj) (fun k hk => by
                    cases hk
                    omega) pgE3_31
            · exact pg_var hp [(0, (115), (115)), (1, (101), (101)), (7, (58), (255))] none [x0, x1, x7] (fun j p hj => by
                  rcases j with _ | _ | _ | j
                  · cases hj
                    exact ⟨x0, rfl, a0, b0, h0, v0⟩
                  · cases hj
                    exact ⟨x1, rfl, a1, b1, h1, v1⟩
                  · cases hj
                    exact ⟨x7, rfl, a7, b7, h7, v7⟩
                  · cases hj) (fun k hk => by cases hk) pgE3_32
          · exact pg_var hp [(0, (115), (115)), (1, (101), (101))] (some 7) [x0, x1] (fun j p hj => by
                rcases j with _ | _ | j
                · cases hj
                  exact ⟨x0, rfl, a0, b0, h0, v0⟩
                · cases hj
                  exact ⟨x1, rfl, a1, b1, h1, v1⟩
                · cases hj) (fun k hk => by
                cases hk
                omega) pgE3_33
        · exact pg_var hp [(0, (115), (115)), (1, (102), (116))] none [x0, x1] (fun j p hj => by
              rcases j with _ | _ | j
              · cases hj
                exact ⟨x0, rfl, a0, b0, h0, v0⟩
              · cases hj
                exact ⟨x1, rfl, a1, b1, h1, v1⟩
              · cases hj) (fun k hk => by cases hk) pgE3_34
        · exact pg_var hp [(0, (115), (115)), (1, (117), (117))] none [x0, x1] (fun j p hj => by
              rcases j with _ | _ | j
              · cases hj
                exact ⟨x0, rfl, a0, b0, h0, v0⟩
              · cases hj
                exact ⟨x1, rfl, a1, b1, h1, v1⟩
              · cases hj) (fun k hk => by cases hk) pgE3_35
        · exact pg_var hp [(0, (115), (115)), (1, (118), (255))] none [x0, x1] (fun j p hj => by
              rcases j with _ | _ | j
              · cases hj
                exact ⟨x0, rfl, a0, b0, h0, v0⟩
              · cases hj
                exact ⟨x1, rfl, a1, b1, h1, v1⟩
              · cases hj) (fun k hk => by cases hk) pgE3_36
      · exact pg_var hp [(0, (115), (115))] (some 1) [x0] (fun j p hj => by
            rcases j with _ | j
            · cases hj
              exact ⟨x0, rfl, a0, b0, h0, v0⟩
            · cases hj) (fun k hk => by
            cases hk
            omega) pgE3_37
    · exact pg_var hp [(0, (116), (255))] none [x0] (fun j p hj => by
          rcases j with _ | j
          · cases hj
            exact ⟨x0, rfl, a0, b0, h0, v0⟩
          · cases hj) (fun k hk => by cases hk) pgE3_38
  · exact pg_var hp [] (some 0) [] (fun j p hj => by
        rcases j with j
        · cases hj) (fun k hk => by
        cases hk
        omega) pgE3_39
/-- line by line -/
theorem pg_loop (hsf : sf = none ∨ sf = some 1200000) {b : pC} (hl : pTl x_KT 4 2 pgWA pgWB pgTl b) (hA : b.2.2.2.2.2.1.length + 19 ≤ 1000000) (hB : b.2.2.2.2.2.2.length + 0 ≤ 1000000) {LA LB : List (Nat × XV Int32)} (cA : x_lk LA 0 = some (.inr (some (sR b.2.1 0)))) (cB : x_lk LB 0 = some (.inr (some (sR b.2.2.1 0)))) :
    ∀ (m : Nat) (d : pC) (MA MB : List (Nat × XV Int32)), (lEv d.1 (aRk pgHA)).toNat < m → pSt x_KT 6 4 2 pgWA pgWB b d pgHA pgHB → vCov d.1 d.2.1 (aL pgHA) MA → vCov d.1 d.2.2.1 (aL pgHB) MB → d.2.2.2.2.2.1.length ≤ b.2.2.2.2.2.1.length → d.2.2.2.2.2.2.length ≤ b.2.2.2.2.2.2.length →
      ∃ vA H1 vB H2, x_To x_tb x_tyl (x_otS xs n sf) 1298 14 12 MA [] d.2.2.2.2.2.1 0 0 vA H1 ∧ x_To x_tb x_tyl (x_otS xs n sf) 1298 183 12 MB [] d.2.2.2.2.2.2 0 0 vB H2 ∧ pgR (x_otS xs n sf) b LA LB vA H1 vB H2
  | 0, _, _, _, hm, _, _, _, _, _ => absurd hm (Nat.not_lt_zero _)
  | m + 1, d, MA, MB, hm, hp, vA, vB, lA, lB => by
    have b3 := hl.2.1
    obtain ⟨ρ2, VA, VB, w1, w2, w3, w4, w5, w6, w7, w8, w9, w10, w11, w12⟩ := pg_edge hp
    have gA := vBd_loc (n := 8) (m := 1000000) (σ := d.2.1) (σ2 := d.2.1) w2 (fun _ _ => rfl) (show (aL pgHA).all (fun q => vBd 8 1000000 q.2) = true by decide +kernel) vA
    have gB := vBd_loc (n := 8) (m := 1000000) (σ := d.2.2.1) (σ2 := d.2.2.1) w2 (fun _ _ => rfl) (show (aL pgHB).all (fun q => vBd 8 1000000 q.2) = true by decide +kernel) vB
    have gR : lEv ρ2 (aRk pgHA) = lEv d.1 (aRk pgHA) := lBd_spec (n := 8) w2 (by decide +kernel)
    have key := vPe_st (ot := x_otS xs n sf) (R := pgR (x_otS xs n sf) b LA LB) (x_ov0_le sf) (x_ckS hsf) w3 pgqC pgqD (dA := 1298) (dB := 1298) (by decide) (by decide) (BA := b.2.2.2.2.2.1.length) (BB := b.2.2.2.2.2.2.length) (by rw [pgc3]; omega) (by rw [pgc4]; omega) hl (c := (ρ2, d.2)) w1 (LA := MA) (LB := MB) (cA := 0) (sA := 0) (cB := 0) (sB := 0) ⟨⟨lA, show d.2.2.2.2.2.1.length ≤ 1000000 by omega⟩, by rw [w4]; exact gA, by rw [w9]; exact pgZ0 _, by rw [w10]; exact pgZ0 _⟩ ⟨⟨lB, show d.2.2.2.2.2.2.length ≤ 1000000 by omega⟩, by rw [w5]; exact gB, by rw [w11]; exact pgZ0 _, by rw [w12]; exact pgZ0 _⟩ ?_
    · rw [w6, w7] at key
      exact key
    intro o ho d2 LA2 LB2 cA2 sA2 cB2 sB2 h1 h2 h3 h4
    have eA : x_lk LA 0 = some (.inr (some (sR d2.2.1 0))) := by
      rw [cA]
      show some (Sum.inr (some (b.2.1 0))) = some (Sum.inr (some (d2.2.1 0)))
      rw [h1.2.2.2.1 0 (by decide)]
    have eB : x_lk LB 0 = some (.inr (some (sR d2.2.2.1 0))) := by
      rw [cB]
      show some (Sum.inr (some (b.2.2.1 0))) = some (Sum.inr (some (d2.2.2.1 0)))
      rw [h1.2.2.2.2.1 0 (by decide)]
    have ho : o ∈ [(some 12, some 12, pgHA, pgHB, true), (none, none, pgR1A, pgR1B, false), (none, none, pgR2A, pgR2B, false)] := ho
    simp only [List.mem_cons, List.not_mem_nil, or_false] at ho
    rcases ho with rfl | rfl | rfl
    · obtain ⟨⟨x1, x2⟩, x3, x4, x5⟩ := h3
      obtain ⟨⟨y1, y2⟩, y3, y4, y5⟩ := h4
      have z1 := pgZ x4
      have z2 := pgZ x5
      have z3 := pgZ y4
      have z4 := pgZ y5
      subst z1
      subst z2
      subst z3
      subst z4
      have hr := h2 rfl
      exact pg_loop hsf hl hA hB cA cB m d2 LA2 LB2 (by
        have hr : 0 ≤ lEv d2.1 (aRk pgHA) ∧ lEv d2.1 (aRk pgHA) < lEv ρ2 (aRk VA) := hr
        rw [w8, gR] at hr
        omega) h1 x3 y3 x1 y1
    · have h3 : d2.2.2.2.2.2.1.length ≤ b.2.2.2.2.2.1.length + mMc xm14 := h3
      have h4 : d2.2.2.2.2.2.2.length ≤ b.2.2.2.2.2.2.length + mMc xm183 := h4
      rw [pgc3] at h3
      rw [pgc4] at h4
      exact ⟨some (cv d2.1 d2.2.1 (.inl (lK (-1)))), _, some (cv d2.1 d2.2.2.1 (.inl (lK 1))), _, ⟨rfl, rfl⟩, ⟨rfl, rfl⟩, pg_k1 hsf hl h1 hA hB h3 h4 eA eB⟩
    · have h3 : d2.2.2.2.2.2.1.length ≤ b.2.2.2.2.2.1.length + mMc xm14 := h3
      have h4 : d2.2.2.2.2.2.2.length ≤ b.2.2.2.2.2.2.length + mMc xm183 := h4
      rw [pgc3] at h3
      rw [pgc4] at h4
      exact ⟨some (cv d2.1 d2.2.1 (.inl (lSy 6))), _, some (cv d2.1 d2.2.2.1 (.inl (lK 0))), _, ⟨rfl, rfl⟩, ⟨rfl, rfl⟩, pg_k2 hsf hl h1 hA hB h3 h4 eA eB⟩
/-- the whole call -/
theorem pg_run (hsf : sf = none ∨ sf = some 1200000) {b : pC} (hl : pTl x_KT 4 2 pgWA pgWB pgTl b) (hb : pSt x_KT 6 4 2 pgWA pgWB b b pgEA pgEB) (hA : b.2.2.2.2.2.1.length + 19 ≤ 1000000) (hB : b.2.2.2.2.2.2.length + 0 ≤ 1000000) :
    ∃ vA H1 vB H2, x_To x_tb x_tyl (x_otS xs n sf) 1299 13 0 (x_en 0 [.inr (some (sR b.2.1 0))]) [] b.2.2.2.2.2.1 0 0 vA H1 ∧ x_To x_tb x_tyl (x_otS xs n sf) 1299 182 0 (x_en 0 [.inr (some (sR b.2.2.1 0))]) [] b.2.2.2.2.2.2 0 0 vB H2 ∧ pQ x_KT 6 4 2 pgWA pgWB 19 0 (pgXS.map (fun x => (x.1, x.2.1))) b vA H1 vB H2 := by
  refine vPe_st (x_ov0_le sf) (x_ckS hsf) pgE1 pgqA pgqB (dA := 1299) (dB := 1299) (by decide) (by decide) (BA := b.2.2.2.2.2.1.length) (BB := b.2.2.2.2.2.2.length) (by rw [pgc1]; exact hA) (by rw [pgc2]; exact hB) hl (c := b) hb (cA := 0) (sA := 0) (cB := 0) (sB := 0) ⟨⟨Nat.le_refl _, by omega⟩, lk1 rfl, pgZ0 _, pgZ0 _⟩ ⟨⟨Nat.le_refl _, by omega⟩, lk1 rfl, pgZ0 _, pgZ0 _⟩ ?_
  intro o ho d LA2 LB2 cA2 sA2 cB2 sB2 h1 h2 h3 h4
  have ho : o ∈ [(none, none, pgFA, pgFB, false), (some 20, some 17, pgCA, pgCB, false)] := ho
  simp only [List.mem_cons, List.not_mem_nil, or_false] at ho
  rcases ho with rfl | rfl
  · exact pQ_end pgXS1 h1 rfl rfl (by rw [← pgc1]; exact h3) (by rw [← pgc2]; exact h4)
  · obtain ⟨⟨x1, x2⟩, x3, x4, x5⟩ := h3
    obtain ⟨⟨y1, y2⟩, y3, y4, y5⟩ := h4
    have z1 := pgZ x4
    have z2 := pgZ x5
    have z3 := pgZ y4
    have z4 := pgZ y5
    subst z1
    subst z2
    subst z3
    subst z4
    have cA : x_lk LA2 0 = some (.inr (some (sR b.2.1 0))) := by
      rw [x3 0 (.inr (some 0)) rfl]
      show some (Sum.inr (some (d.2.1 0))) = some (Sum.inr (some (b.2.1 0)))
      rw [h1.2.2.2.1 0 (by decide)]
    have cB : x_lk LB2 0 = some (.inr (some (sR b.2.2.1 0))) := by
      rw [y3 0 (.inr (some 0)) rfl]
      show some (Sum.inr (some (d.2.2.1 0))) = some (Sum.inr (some (b.2.2.1 0)))
      rw [h1.2.2.2.2.1 0 (by decide)]
    have x1 : d.2.2.2.2.2.1.length ≤ b.2.2.2.2.2.1.length := x1
    have y1 : d.2.2.2.2.2.2.length ≤ b.2.2.2.2.2.2.length := y1
    obtain ⟨u1, J1, u2, J2, g1, g2, vA, H1, vB, H2, g3, g4, g5⟩ : ∃ u1 J1 u2 J2, x_To x_tb x_tyl (x_otS xs n sf) 1298 14 0 (x_en 0 [cv d.1 d.2.1 (.inr (some 1)), cv d.1 d.2.1 (.inr (some 4))]) [] d.2.2.2.2.2.1 0 0 u1 J1 ∧ x_To x_tb x_tyl (x_otS xs n sf) 1298 183 0 (x_en 0 [cv d.1 d.2.2.1 (.inr (some 0)), cv d.1 d.2.2.1 (.inl (lSy 3))]) [] d.2.2.2.2.2.2 0 0 u2 J2 ∧ pgR (x_otS xs n sf) b LA2 LB2 u1 J1 u2 J2 := by
      refine vPe_st (x_ov0_le sf) (x_ckS hsf) pgE2 pgqC pgqD (dA := 1298) (dB := 1298) (by decide) (by decide) (BA := b.2.2.2.2.2.1.length) (BB := b.2.2.2.2.2.2.length) (by rw [pgc3]; omega) (by rw [pgc4]; omega) hl (c := d) h1 (cA := 0) (sA := 0) (cB := 0) (sB := 0) ⟨⟨x1, by omega⟩, lk2, pgZ0 _, pgZ0 _⟩ ⟨⟨y1, by omega⟩, lk2, pgZ0 _, pgZ0 _⟩ ?_
      intro o ho d2 LA3 LB3 cA3 sA3 cB3 sB3 k1 k2 k3 k4
      rcases List.mem_singleton.mp ho with rfl
      obtain ⟨⟨w1, w2⟩, w3, w4, w5⟩ := k3
      obtain ⟨⟨r1, r2⟩, r3, r4, r5⟩ := k4
      have z1 := pgZ w4
      have z2 := pgZ w5
      have z3 := pgZ r4
      have z4 := pgZ r5
      subst z1
      subst z2
      subst z3
      subst z4
      exact pg_loop hsf hl hA hB cA cB _ d2 LA3 LB3 (Nat.lt_succ_self _) k1 w3 r3 w1 r1
    have rA : x_rc (x_otS xs n sf) d.2.2.2.2.2.1 (sR d.2.1 1) = some (mRc xm14) := by
      rw [bRc (s := aSt pgCA) h1.1 x2 (i := 1) rfl rfl rfl]
      decide +kernel
    have rB : x_rc (x_otS xs n sf) d.2.2.2.2.2.2 (sR d.2.2.1 0) = some (mRc xm183) := by
      rw [bRc (s := aSt pgCB) h1.2.1 y2 (i := 0) rfl rfl rfl]
      decide +kernel
    refine ⟨vA, H1, vB, H2, ?_, ?_, g5⟩
    · exact bCall (as := [cv d.1 d.2.1 (.inr (some 4))]) (r := []) pgqA pgd1 pgt1 pgqC rfl rfl (by decide) (by decide +kernel) rA (by decide +kernel) (by decide +kernel) g1 g3
    · exact bCall (as := [cv d.1 d.2.2.1 (.inl (lSy 3))]) (r := []) pgqB pgd2 pgt2 pgqD rfl rfl (by decide) (by decide +kernel) rB (by decide +kernel) (by decide +kernel) g2 g4
end
theorem pgcn : ∀ ρ : Nat → Int, 0 ≤ ρ 1 → ρ 1 + 7 ≤ ρ 0 → ρ 0 ≤ 3584 → lEv ρ (aCn lwN) + ((mMc xm13 + mMc xm182 : Nat) : Int) ≤ ((mMc xm0 : Nat) : Int) ∧ lEv ρ (aSn lwN) + ((mMs xm13 + mMs xm182 : Nat) : Int) ≤ ((mMs xm0 : Nat) : Int) := fun ρ h1 h2 h3 => by
  have e1 : lEv ρ (aCn lwN) = 536 + 58 * ρ 1 := by
    show lEv ρ (lAdd (lK 536) (lSc 58 (lSy 1))) = _
    rw [lAdd_ev, lK_ev, lSc_ev, lSy_ev]
  have e2 : lEv ρ (aSn lwN) = 9690 + 229 * ρ 1 := by
    show lEv ρ (lAdd (lK 9690) (lSc 229 (lSy 1))) = _
    rw [lAdd_ev, lK_ev, lSc_ev, lSy_ev]
  have k : 536 + 58 * 3577 + (mMc xm13 + mMc xm182) ≤ mMc xm0 ∧ 9690 + 229 * 3577 + (mMs xm13 + mMs xm182) ≤ mMs xm0 := by decide +kernel
  rw [e1, e2]
  constructor <;> omega
theorem pgcd : ∀ ρ ρ2 : Nat → Int, ρ2 0 = ρ 0 → ρ2 1 = ρ 1 + 7 → lEv ρ (aCn lwN) + ((mMc xm13 + mMc xm182 : Nat) : Int) ≤ lEv ρ2 (aCn lwN) ∧ lEv ρ (aSn lwN) + ((mMs xm13 + mMs xm182 : Nat) : Int) ≤ lEv ρ2 (aSn lwN) := fun ρ ρ2 _ h => by
  have e1 : ∀ ρ : Nat → Int, lEv ρ (aCn lwN) = 536 + 58 * ρ 1 := fun ρ => by
    show lEv ρ (lAdd (lK 536) (lSc 58 (lSy 1))) = _
    rw [lAdd_ev, lK_ev, lSc_ev, lSy_ev]
  have e2 : ∀ ρ : Nat → Int, lEv ρ (aSn lwN) = 9690 + 229 * ρ 1 := fun ρ => by
    show lEv ρ (lAdd (lK 9690) (lSc 229 (lSy 1))) = _
    rw [lAdd_ev, lK_ev, lSc_ev, lSy_ev]
  have k : mMc xm13 + mMc xm182 ≤ 406 ∧ mMs xm13 + mMs xm182 ≤ 1603 := by decide +kernel
  rw [e1, e1, e2, e2, h]
  constructor <;> omega
theorem fdcn : ∀ ρ : Nat → Int, 0 ≤ ρ 1 → ρ 1 + 7 ≤ ρ 0 → ρ 0 ≤ 3584 → lEv ρ (aCn lwN) + ((mMc xm11 + mMc xm180 : Nat) : Int) ≤ ((mMc xm0 : Nat) : Int) ∧ lEv ρ (aSn lwN) + ((mMs xm11 + mMs xm180 : Nat) : Int) ≤ ((mMs xm0 : Nat) : Int) := fun ρ h1 h2 h3 => by
  have g := pgcn ρ h1 h2 h3
  have k : mMc xm11 + mMc xm180 ≤ mMc xm13 + mMc xm182 ∧ mMs xm11 + mMs xm180 ≤ mMs xm13 + mMs xm182 := by decide +kernel
  constructor <;> omega
theorem fdcd : ∀ ρ ρ2 : Nat → Int, ρ2 0 = ρ 0 → ρ2 1 = ρ 1 + 7 → lEv ρ (aCn lwN) + ((mMc xm11 + mMc xm180 : Nat) : Int) ≤ lEv ρ2 (aCn lwN) ∧ lEv ρ (aSn lwN) + ((mMs xm11 + mMs xm180 : Nat) : Int) ≤ lEv ρ2 (aSn lwN) := fun ρ ρ2 h0 h => by
  have g := pgcd ρ ρ2 h0 h
  have k : mMc xm11 + mMc xm180 ≤ mMc xm13 + mMc xm182 ∧ mMs xm11 + mMs xm180 ≤ mMs xm13 + mMs xm182 := by decide +kernel
  constructor <;> omega
theorem pgKa : kCl x_KT.1 pgPA = true := by decide +kernel
theorem pgKb : kCl x_KT.1 pgPB = true := by decide +kernel
theorem pgKj : x_KT.1.all (fun kd => match kd with | .inr o => decide (o.1 ≠ 77) | _ => true) = true := by decide +kernel
theorem pgKd : ∀ c, pgPA c = true → pgPB c = true → False := fun c h1 h2 => by
  have h1 := of_decide_eq_true h1
  have h2 := of_decide_eq_true h2
  omega
theorem sO0 {σ : Nat → Nat} {τ : List Nat} {i j : Nat} (h : τ[i]? = some j) (hi : i < 1000000) : sR (sO σ τ) i = sR σ j := by
  show (if i < 1000000 then sR σ (τ.getD i 0) else i) = _
  rw [if_pos hi, List.getD_eq_getElem?_getD, h]
  rfl
/-- program beside program -/
theorem pgPP {xs : Nat → Int32} {n : Nat} {sf : Option Nat} (hsf : sf = none ∨ sf = some 1200000) (hn : n ≤ 3584) : bPP x_KT x_tb x_tyl (x_otS xs n sf) lwN lwP 1299 13 182 0 (mMc xm13 + mMc xm182) (mRc xm13) (mRc xm182) True := by
  intro ρ σ ty H t h0 h1 ht hlen h hP
  rw [pgc1, pgc2] at hlen
  obtain ⟨tt, vs, p3, p4⟩ := hP
  have k0 : (oSn (x_otS xs n sf) : Int) = ρ 0 := h0.symm
  have hNE : vRel x_KT ρ σ ty H (aSt pgNE) := ⟨h.1, h.2.1, h.2.2.1, h.2.2.2.1, fun c hc => by
    have hc : c ∈ ([lAdd (lAdd (lK (-7)) (lSy 0)) (lSc (-1) (lSy 1)), lAdd (lSy 1) (lSc (-1) (lSy 2))] : List lT) := hc
    simp only [List.mem_cons, List.not_mem_nil, or_false] at hc
    rcases hc with rfl | rfl
    · simp only [lAdd_ev, lK_ev, lSc_ev, lSy_ev]
      omega
    · have q := h.2.2.2.2.1 (lSub (lSy 1) (lSy 2)) (by
        show _ ∈ ([lSub (lSy 0) (lSy 1), lSub (lSy 1) (lSy 2)] : List lT)
        exact List.mem_cons_of_mem _ List.mem_cons_self)
      rw [lSub_ev, lSy_ev, lSy_ev] at q
      simp only [lAdd_ev, lK_ev, lSc_ev, lSy_ev]
      omega, h.2.2.2.2.2⟩
  obtain ⟨b, H1, H2, a, HA, HH, ρ2, σ2, ty2, q1, q2, q3, q4, q5, q6, q7, ⟨vA, vB, q8⟩, q9, q10, q11, q12, q13, q14, q15, q16, q17⟩ := pJoin (tb := x_tb) (tyl := x_tyl) (ot := x_otS xs n sf) (N := lwN) (NE := pgNE) (EA := pgEA) (EB := pgEB) (pA := pgPA) (pB := pgPB) pgKa pgKb (by decide +kernel) (by decide +kernel) pgKd pgKj (τA := [0, 2, 3, 4]) (τB := [1, 5]) (ps := [(false, 0), (true, 0), (false, 1), (false, 2), (false, 3), (true, 1)]) (by decide +kernel) (by decide +kernel) (by decide +kernel) (by decide +kernel) (by decide +kernel) (by decide +kernel) (by decide +kernel) (by decide +kernel) (by decide +kernel) (by decide +kernel) (by decide +kernel) (n0 := 6) (mA := 4) (mB := 2) (kA := 13) (kB := 182) (d := 1299) (mcA := 19) (mcB := 0) (WA := pgWA) (WB := pgWB) (XS := pgXS) (by decide +kernel) (by decide +kernel) hNE (LA := x_en 0 [.inr (some (sR σ 0))]) (LB := x_en 0 [.inr (some (sR σ 1))]) (Q := fun b vA H1 vB H2 => pQ x_KT 6 4 2 pgWA pgWB 19 0 (pgXS.map (fun x => (x.1, x.2.1))) b vA H1 vB H2) (fun _ _ _ _ _ z => z) (fun b hb e1 e2 e3 e4 e5 e6 e7 e8 e9 => by
    have tA : b.2.2.2.1 (sR b.2.1 3) = some 0 := hb.1.2.1 3 0 rfl
    have tB : b.2.2.2.2.1 (sR b.2.2.1 1) = some 73 := hb.2.1.2.1 1 73 rfl
    have sA : sR b.2.1 3 = sR σ 4 := by rw [e2]; exact sO0 rfl (by decide)
    have sB : sR b.2.2.1 1 = sR σ 5 := by rw [e3]; exact sO0 rfl (by decide)
    have r := pg_run (xs := xs) (n := n) hsf (b := b) ⟨hb.1.1, by decide, by decide, fun p hp => by
        rcases List.mem_singleton.mp hp with rfl
        exact ⟨by decide, by decide, ⟨0, tA, by decide +kernel, by decide +kernel⟩, 73, tB, by decide +kernel, by decide +kernel⟩, fun p hp t2 ws hw => by
        rcases List.mem_singleton.mp hp with rfl
        have hw : b.2.2.2.2.2.1[sR b.2.1 3]? = some (.inr (t2, ws)) := hw
        have f1 := e6 _ _ (e4 ▸ tA)
        have f2 := e7 _ _ (e5 ▸ tB)
        rw [sA] at f1 hw
        rw [f1, p3] at hw
        cases hw
        refine ⟨tt, vs, ?_, fun j u hu => ?_⟩
        · show b.2.2.2.2.2.2[sR b.2.2.1 1]? = _
          rw [f2, sB]
          exact p4
        · show vs[1 * j + 0]? = some u
          rw [Nat.one_mul, Nat.add_zero]
          exact hu⟩ hb (by rw [e8]; omega) (by omega)
    have u0 : sR b.2.1 0 = sR σ 0 := by rw [e2]; exact sO0 rfl (by decide)
    have u1 : sR b.2.2.1 0 = sR σ 1 := by rw [e3]; exact sO0 rfl (by decide)
    rw [u0, u1] at r
    exact r)
  have w0 : tyP pgPB ty (sR σ 1) = some 117 := tyP_iff.mpr ⟨h.2.1 1 117 rfl, by decide⟩
  have w3 : tyP pgPA ty (sR σ 4) = some 0 := tyP_iff.mpr ⟨h.2.1 4 0 rfl, by decide⟩
  have w4 : tyP pgPB ty (sR σ 5) = some 73 := tyP_iff.mpr ⟨h.2.1 5 73 rfl, by decide⟩
  obtain ⟨x, hx, ρ3, σA3, σB3, tyA3, tyB3, ⟨-, -, -, -, -, -, -, z8, z9⟩, -, -, -, -⟩ := q8
  have z8 : vFrm pgWA b.2.2.2.1 b.2.2.2.2.2.1 H1 := z8
  have z9 : vFrm pgWB b.2.2.2.2.1 b.2.2.2.2.2.2 H2 := z9
  refine ⟨a, a, HA, HH, ρ2, σ2, ty2, ?_, q1, ?_, q2, fun _ => rfl, q3, q4, q5 0 (by decide), q5 1 (by decide), q6, ⟨tt, vs, ?_, ?_⟩, ?_⟩
  · rw [bRc (s := aSt lwN) h (by omega) (i := 0) rfl rfl rfl]
    decide +kernel
  · rw [bRc (s := aSt lwN) h (by omega) (i := 1) rfl rfl ((q15 _ _ w0).2)]
    decide +kernel
  · rw [q5 4 (by decide), q16 _ _ w3]
    exact vFrm_row z8 (by rw [q12]; exact w3) (by decide +kernel) (by decide +kernel) (by rw [q14 _ _ w3]; exact p3)
  · rw [q5 5 (by decide), q17 _ _ w4]
    exact vFrm_row z9 (by rw [q13]; exact w4) (by decide +kernel) (by decide +kernel) (by rw [(q15 _ _ w4).1]; exact p4)
  · rw [pgc1, pgc2]
    exact q7
theorem fdL {ρ : Nat → Int} {σ : Nat → Nat} {x5 x6 : Int32} (c5 : Int32.ofInt (ρ 6) = x5) (c6 : Int32.ofInt (ρ 7) = x6) : vCov ρ σ [(0, .inr (some 0)), (1, .inl (lSy 6)), (2, .inl (lSy 7))] (x_en 0 [.inr (some (sR σ 0)), .inl x5, .inl x6]) := by
  have h := vCov_en (ρ := ρ) (σ := σ) [.inr (some 0), .inl (lSy 6), .inl (lSy 7)] 0
  have e : ([.inr (some 0), .inl (lSy 6), .inl (lSy 7)] : List vA).map (cv ρ σ) = [.inr (some (sR σ 0)), .inl x5, .inl x6] := by
    show [Sum.inr (some (sR σ 0)), Sum.inl (Int32.ofInt (lEv ρ (lSy 6))), Sum.inl (Int32.ofInt (lEv ρ (lSy 7)))] = _
    rw [lSy_ev, lSy_ev, c5, c6]
  rw [e] at h
  exact h
/-- feed: what both answer, how many bytes there are -/
theorem fd_run {xs : Nat → Int32} {n : Nat} {sf : Option Nat} (hsf : sf = none ∨ sf = some 1200000) {b : pC} (hb : pSt x_KT 8 4 2 fdWA fdWB b b fdEA fdEB) (hA : b.2.2.2.2.2.1.length + 0 ≤ 1000000) (hB : b.2.2.2.2.2.2.length + 0 ≤ 1000000) {x5 x6 : Int32} (c5 : Int32.ofInt (b.1 6) = x5) (c6 : Int32.ofInt (b.1 7) = x6) :
    ∃ vA H1 vB H2, x_To x_tb x_tyl (x_otS xs n sf) 1299 11 0 (x_en 0 [.inr (some (sR b.2.1 0)), .inl x5, .inl x6]) [] b.2.2.2.2.2.1 0 0 vA H1 ∧ x_To x_tb x_tyl (x_otS xs n sf) 1299 180 0 (x_en 0 [.inr (some (sR b.2.2.1 0)), .inl x5, .inl x6]) [] b.2.2.2.2.2.2 0 0 vB H2 ∧ pQ x_KT 8 4 2 fdWA fdWB 0 0 (fdXS.map (fun x => (x.1, x.2.1))) b vA H1 vB H2 := by
  refine vPe_st (tl := []) (x_ov0_le sf) (x_ckS hsf) fdE fdqA fdqB (dA := 1299) (dB := 1299) (by decide) (by decide) (BA := b.2.2.2.2.2.1.length) (BB := b.2.2.2.2.2.2.length) (by rw [fdc1]; exact hA) (by rw [fdc2]; exact hB) ⟨hb.1.1, by decide, by decide, fun p hp => absurd hp List.not_mem_nil, fun p hp => absurd hp List.not_mem_nil⟩ (c := b) hb (cA := 0) (sA := 0) (cB := 0) (sB := 0) ⟨⟨Nat.le_refl _, by omega⟩, fdL c5 c6, pgZ0 _, pgZ0 _⟩ ⟨⟨Nat.le_refl _, by omega⟩, fdL c5 c6, pgZ0 _, pgZ0 _⟩ ?_
  intro o ho d LA2 LB2 cA2 sA2 cB2 sB2 h1 h2 h3 h4
  rcases List.mem_singleton.mp ho with rfl
  exact pQ_end (List.mem_map.mpr ⟨_, List.mem_cons_self, rfl⟩) h1 rfl rfl (by rw [← fdc1]; exact h3) (by rw [← fdc2]; exact h4)
/-- which of the places: before the end, the next four, behind them -/
theorem fdPick {z : Int} (hz : 0 ≤ z ∧ z ≤ 160) {J : Nat} (hJ : J < 160) : ∃ i, i < 6 ∧ ∃ δ : Int, (0 ≤ δ ∧ δ ≤ 160) ∧ ∀ ρ : Nat → Int, ρ 4 = z → ρ 9 = δ → lEv ρ (fdKy i) = (J : Int) := by
  by_cases h1 : (J : Int) < z
  · refine ⟨0, by decide, z - 1 - J, ⟨by omega, by omega⟩, fun ρ e1 e2 => ?_⟩
    simp only [fdKy, lAdd_ev, lSc_ev, lSy_ev, lK_ev, e1, e2]
    omega
  by_cases h2 : (J : Int) < z + 4
  · have h3 : (J : Int) = z ∨ (J : Int) = z + 1 ∨ (J : Int) = z + 2 ∨ (J : Int) = z + 3 := by omega
    rcases h3 with h3 | h3 | h3 | h3
    · refine ⟨1, by decide, 0, ⟨by omega, by omega⟩, fun ρ e1 e2 => ?_⟩
      simp only [fdKy, lAdd_ev, lSc_ev, lSy_ev, lK_ev, e1, e2]
      omega
    · refine ⟨2, by decide, 0, ⟨by omega, by omega⟩, fun ρ e1 e2 => ?_⟩
      simp only [fdKy, lAdd_ev, lSc_ev, lSy_ev, lK_ev, e1, e2]
      omega
    · refine ⟨3, by decide, 0, ⟨by omega, by omega⟩, fun ρ e1 e2 => ?_⟩
      simp only [fdKy, lAdd_ev, lSc_ev, lSy_ev, lK_ev, e1, e2]
      omega
    · refine ⟨4, by decide, 0, ⟨by omega, by omega⟩, fun ρ e1 e2 => ?_⟩
      simp only [fdKy, lAdd_ev, lSc_ev, lSy_ev, lK_ev, e1, e2]
      omega
  · refine ⟨5, by decide, J - z - 4, ⟨by omega, by omega⟩, fun ρ e1 e2 => ?_⟩
    simp only [fdKy, lAdd_ev, lSc_ev, lSy_ev, lK_ev, e1, e2]
    omega
/-- a state with an element and its place more -/
theorem fdMore {i : Nat} {ρ ρ2 : Nat → Int} {σ : Nat → Nat} {ty : Nat → Option Nat} {H : List (XC Int32)} {E V : vAn} {a t : Nat} {vs : List (XV Int32)} (h : vRel x_KT ρ σ ty H (aSt E)) (hE : sBd (aSt E) = true) (hI : (aI E).length = 8) (hV : aSt V = (10, aG E, (a, .inr (fdKy i), .inl (lSy 8)) :: aF E, zipI 0 (aI E ++ [((-2147483648), (2147483647)), ((0), (160))]), aC E, aM E, [])) (hρ : ∀ i, i < 8 → ρ2 i = ρ i) (h7 : -2147483648 ≤ ρ2 8 ∧ ρ2 8 ≤ 2147483647) (h8 : 0 ≤ ρ2 9 ∧ ρ2 9 ≤ 160) (hr : H[sR σ a]? = some (.inr (t, vs))) {J : Nat} (hJ : lEv ρ2 (fdKy i) = (J : Int)) (hu : vs[J]? = some (.inl (Int32.ofInt (ρ2 8)))) : vRel x_KT ρ2 σ ty H (aSt V) := by
  have g := vRel_ext h hE (fun i hi => hρ i (by
    have hi : i < (aI E).length := hi
    omega)) (fun _ _ => rfl)
  rw [hV]
  refine ⟨g.1, g.2.1, fun f hf => ?_, zipI_spec.mpr (fun j p hp => ?_), g.2.2.2.2⟩
  · rcases List.mem_cons.mp hf with rfl | hf
    · refine ⟨t, vs, hr, ?_, ?_⟩
      · rw [hJ]
        exact Int.natCast_nonneg _
      · show vs[(lEv ρ2 (fdKy i)).toNat]? = some (.inl (Int32.ofInt (lEv ρ2 (lSy 8))))
        rw [hJ, lSy_ev, Int.toNat_natCast]
        exact hu
    · exact g.2.2.1 f hf
  · rw [Nat.zero_add]
    by_cases hj : j < 8
    · rw [List.getElem?_append_left (by omega)] at hp
      have q := zipI_spec.mp g.2.2.2.1 j p hp
      rw [Nat.zero_add] at q
      exact q
    · rw [List.getElem?_append_right (by omega), hI] at hp
      have hj2 : j = 8 ∨ j = 9 ∨ 10 ≤ j := by omega
      rcases hj2 with rfl | rfl | hj2
      · cases hp
        exact h7
      · cases hp
        exact h8
      · rw [List.getElem?_eq_none (by
          show 2 ≤ j - 8
          omega)] at hp
        cases hp
/-- feed: element by element -/
theorem fd_J {xs : Nat → Int32} {n : Nat} {sf : Option Nat} (hsf : sf = none ∨ sf = some 1200000) {b : pC} (hb : pSt x_KT 8 4 2 fdWA fdWB b b fdEA fdEB) (hA : b.2.2.2.2.2.1.length + 0 ≤ 1000000) (hB : b.2.2.2.2.2.2.length + 0 ≤ 1000000) {x5 x6 : Int32} (c5 : Int32.ofInt (b.1 6) = x5) (c6 : Int32.ofInt (b.1 7) = x6) {t t2 : Nat} {vs : List (XV Int32)} (r1 : b.2.2.2.2.2.1[sR b.2.1 3]? = some (.inr (t, vs))) (r2 : b.2.2.2.2.2.2[sR b.2.2.1 1]? = some (.inr (t2, vs))) {J : Nat} (hJ : J < 160) {x : Int32} (hx : vs[J]? = some (.inl x)) :
    ∃ vA H1 vB H2, x_To x_tb x_tyl (x_otS xs n sf) 1299 11 0 (x_en 0 [.inr (some (sR b.2.1 0)), .inl x5, .inl x6]) [] b.2.2.2.2.2.1 0 0 vA H1 ∧ x_To x_tb x_tyl (x_otS xs n sf) 1299 180 0 (x_en 0 [.inr (some (sR b.2.2.1 0)), .inl x5, .inl x6]) [] b.2.2.2.2.2.2 0 0 vB H2 ∧ ∃ t vs t2 us u, H1[sR b.2.1 3]? = some (.inr (t, vs)) ∧ H2[sR b.2.2.1 1]? = some (.inr (t2, us)) ∧ vs[J]? = some u ∧ us[J]? = some u := by
  have hz : 0 ≤ b.1 4 ∧ b.1 4 ≤ 160 := by
    have q := zipI_spec.mp hb.1.2.2.2.1 4 ((0 : Int), (160 : Int)) rfl
    exact q
  obtain ⟨i, hi, δ, hδ, hk⟩ := fdPick hz hJ
  let ρ2 : Nat → Int := fun j => if j = 8 then x.toInt else if j = 9 then δ else b.1 j
  have e7 : ρ2 8 = x.toInt := rfl
  have e8 : ρ2 9 = δ := rfl
  have eρ : ∀ j, j < 8 → ρ2 j = b.1 j := fun j hj => by
    show (if j = 8 then x.toInt else if j = 9 then δ else b.1 j) = b.1 j
    rw [if_neg (by omega), if_neg (by omega)]
  have hkey : lEv ρ2 (fdKy i) = (J : Int) := hk ρ2 rfl rfl
  have hx2 : vs[J]? = some (.inl (Int32.ofInt (ρ2 8))) := by
    rw [e7, Int32.ofInt_toInt]
    exact hx
  have b7 : -2147483648 ≤ ρ2 8 ∧ ρ2 8 ≤ 2147483647 := by
    rw [e7]
    exact vTop_spec x
  have vA := fdMore (i := i) (V := fdVA i) hb.1 (by decide +kernel) rfl rfl eρ b7 (by rw [e8]; exact hδ) r1 hkey hx2
  have vB := fdMore (i := i) (V := fdVB i) hb.2.1 (by decide +kernel) rfl rfl eρ b7 (by rw [e8]; exact hδ) r2 hkey hx2
  refine vPe_st (tl := []) (b := (ρ2, b.2)) (c := (ρ2, b.2)) (R := fun _ H1 _ H2 => ∃ t vs t2 us u, H1[sR b.2.1 3]? = some (.inr (t, vs)) ∧ H2[sR b.2.2.1 1]? = some (.inr (t2, us)) ∧ vs[J]? = some u ∧ us[J]? = some u) (x_ov0_le sf) (x_ckS hsf) (fdV i hi) fdqA fdqB (dA := 1299) (dB := 1299) (by decide) (by decide) (BA := b.2.2.2.2.2.1.length) (BB := b.2.2.2.2.2.2.length) (by rw [fdc1]; exact hA) (by rw [fdc2]; exact hB) ⟨hb.1.1, by decide, by decide, fun p hp => absurd hp List.not_mem_nil, fun p hp => absurd hp List.not_mem_nil⟩ ⟨vA, vB, fun _ _ => rfl, fun _ _ => rfl, fun _ _ => rfl, vLe_rf _, vLe_rf _, vFrm_rf _ _ _, vFrm_rf _ _ _⟩ (cA := 0) (sA := 0) (cB := 0) (sB := 0) ⟨⟨Nat.le_refl _, by omega⟩, fdL c5 c6, pgZ0 _, pgZ0 _⟩ ⟨⟨Nat.le_refl _, by omega⟩, fdL c5 c6, pgZ0 _, pgZ0 _⟩ ?_
  intro o ho d LA2 LB2 cA2 sA2 cB2 sB2 h1 h2 h3 h4
  rcases List.mem_singleton.mp ho with rfl
  have d4 : d.1 4 = b.1 4 := h1.2.2.1 4 (by decide)
  have d8 : d.1 9 = δ := h1.2.2.1 9 (by decide)
  have dk := hk d.1 d4 d8
  obtain ⟨ta, va, k1, -, k2⟩ := h1.1.2.2.1 (3, .inr (fdKy i), .inl (lSy 10)) List.mem_cons_self
  obtain ⟨tb, vb, j1, -, j2⟩ := h1.2.1.2.2.1 (1, .inr (fdKy i), .inl (lSy 10)) List.mem_cons_self
  have k2 : va[(lEv d.1 (fdKy i)).toNat]? = some (cv d.1 d.2.1 (.inl (lSy 10))) := k2
  have j2 : vb[(lEv d.1 (fdKy i)).toNat]? = some (cv d.1 d.2.2.1 (.inl (lSy 10))) := j2
  rw [dk, Int.toNat_natCast] at k2 j2
  have sA : sR d.2.1 3 = sR b.2.1 3 := h1.2.2.2.1 3 (by decide)
  have sB : sR d.2.2.1 1 = sR b.2.2.1 1 := h1.2.2.2.2.1 1 (by decide)
  have k1 : d.2.2.2.2.2.1[sR d.2.1 3]? = some (.inr (ta, va)) := k1
  have j1 : d.2.2.2.2.2.2[sR d.2.2.1 1]? = some (.inr (tb, vb)) := j1
  rw [sA] at k1
  rw [sB] at j1
  exact ⟨some (cv d.1 d.2.1 (.inl (lSy 11))), _, some (cv d.1 d.2.2.1 (.inl (lSy 11))), _, ⟨rfl, rfl⟩, ⟨rfl, rfl⟩, ta, va, tb, vb, _, k1, j1, k2, j2⟩
/-- feed beside feed -/
theorem fdPP {xs : Nat → Int32} {n : Nat} {sf : Option Nat} (hsf : sf = none ∨ sf = some 1200000) (hn : n ≤ 3584) : bPP x_KT x_tb x_tyl (x_otS xs n sf) lwN lwP 1299 11 180 2 (mMc xm11 + mMc xm180) (mRc xm11) (mRc xm180) True := by
  intro ρ σ ty H t h0 h1 ht hlen h hP
  rw [fdc1, fdc2] at hlen
  obtain ⟨tt, vs, p3, p4⟩ := hP
  have k0 : (oSn (x_otS xs n sf) : Int) = ρ 0 := h0.symm
  let y5 : Int32 := oSc (x_otS xs n sf) (t + 1)
  let y6 : Int32 := oSc (x_otS xs n sf) (t + (1 + 1))
  let ρ2 : Nat → Int := fun j => if j = 6 then y5.toInt else if j = 7 then y6.toInt else ρ j
  have eρ : ∀ j, j < 6 → ρ2 j = ρ j := fun j hj => by
    show (if j = 6 then y5.toInt else if j = 7 then y6.toInt else ρ j) = ρ j
    rw [if_neg (by omega), if_neg (by omega)]
  have g := vRel_ext h (show sBd (aSt lwN) = true by decide +kernel) (fun i hi => eρ i hi) (fun _ _ => rfl)
  have hNE : vRel x_KT ρ2 σ ty H (aSt fdNE) := ⟨g.1, g.2.1, g.2.2.1, zipI_spec.mpr (fun j p hp => by
    rw [Nat.zero_add]
    by_cases hj : j < 6
    · have hp : (aI lwN ++ [((-2147483648), (2147483647)), ((-2147483648), (2147483647))])[j]? = some p := hp
      rw [List.getElem?_append_left (show j < (aI lwN).length from hj)] at hp
      have q := zipI_spec.mp g.2.2.2.1 j p hp
      rw [Nat.zero_add] at q
      exact q
    · have hp : (aI lwN ++ [((-2147483648), (2147483647)), ((-2147483648), (2147483647))])[j]? = some p := hp
      rw [List.getElem?_append_right (show (aI lwN).length ≤ j from (by
        show 6 ≤ j
        omega))] at hp
      have hp : ([((-2147483648), (2147483647)), ((-2147483648), (2147483647))] : List (Int × Int))[j - 6]? = some p := hp
      have hj2 : j = 6 ∨ j = 7 ∨ 8 ≤ j := by omega
      rcases hj2 with rfl | rfl | hj2
      · cases hp
        exact vTop_spec y5
      · cases hp
        exact vTop_spec y6
      · rw [List.getElem?_eq_none (by
          show 2 ≤ j - 6
          omega)] at hp
        cases hp), fun c hc => by
    have hc : c ∈ ([lAdd (lAdd (lK (-7)) (lSy 0)) (lSc (-1) (lSy 1)), lAdd (lSy 1) (lSc (-1) (lSy 2))] : List lT) := hc
    simp only [List.mem_cons, List.not_mem_nil, or_false] at hc
    rcases hc with rfl | rfl
    · simp only [lAdd_ev, lK_ev, lSc_ev, lSy_ev, eρ 0 (by decide), eρ 1 (by decide)]
      omega
    · have q := h.2.2.2.2.1 (lSub (lSy 1) (lSy 2)) (by
        show _ ∈ ([lSub (lSy 0) (lSy 1), lSub (lSy 1) (lSy 2)] : List lT)
        exact List.mem_cons_of_mem _ List.mem_cons_self)
      rw [lSub_ev, lSy_ev, lSy_ev] at q
      simp only [lAdd_ev, lK_ev, lSc_ev, lSy_ev, eρ 1 (by decide), eρ 2 (by decide)]
      omega, g.2.2.2.2.2⟩
  have w0 : tyP pgPB ty (sR σ 1) = some 117 := tyP_iff.mpr ⟨h.2.1 1 117 rfl, by decide⟩
  have w3 : tyP pgPA ty (sR σ 4) = some 0 := tyP_iff.mpr ⟨h.2.1 4 0 rfl, by decide⟩
  have w4 : tyP pgPB ty (sR σ 5) = some 73 := tyP_iff.mpr ⟨h.2.1 5 73 rfl, by decide⟩
  obtain ⟨b, H1, H2, a, HA, HH, ρ3, σ2, ty2, q1, q2, q3, q4, q5, q6, q7, ⟨vA, vB, q8, q8J⟩, q9, q10, q11, q12, q13, q14, q15, q16, q17⟩ := pJoin (tb := x_tb) (tyl := x_tyl) (ot := x_otS xs n sf) (N := lwN) (NE := fdNE) (EA := fdEA) (EB := fdEB) (pA := pgPA) (pB := pgPB) pgKa pgKb (by decide +kernel) (by decide +kernel) pgKd pgKj (τA := [0, 2, 3, 4]) (τB := [1, 5]) (ps := [(false, 0), (true, 0), (false, 1), (false, 2), (false, 3), (true, 1)]) (by decide +kernel) (by decide +kernel) (by decide +kernel) (by decide +kernel) (by decide +kernel) (by decide +kernel) (by decide +kernel) (by decide +kernel) (by decide +kernel) (by decide +kernel) (by decide +kernel) (n0 := 8) (mA := 4) (mB := 2) (kA := 11) (kB := 180) (d := 1299) (mcA := 0) (mcB := 0) (WA := fdWA) (WB := fdWB) (XS := fdXS) (by decide +kernel) (by decide +kernel) hNE (LA := x_en 0 [.inr (some (sR σ 0)), .inl y5, .inl y6]) (LB := x_en 0 [.inr (some (sR σ 1)), .inl y5, .inl y6]) (Q := fun b vA H1 vB H2 => pQ x_KT 8 4 2 fdWA fdWB 0 0 (fdXS.map (fun x => (x.1, x.2.1))) b vA H1 vB H2 ∧ ∀ J, J < 160 → ∃ t vs t2 us u, H1[sR b.2.1 3]? = some (.inr (t, vs)) ∧ H2[sR b.2.2.1 1]? = some (.inr (t2, us)) ∧ vs[J]? = some u ∧ us[J]? = some u) (fun _ _ _ _ _ z => z.1) (fun b hb e1 e2 e3 e4 e5 e6 e7 e8 e9 => by
    have tA : b.2.2.2.1 (sR b.2.1 3) = some 0 := hb.1.2.1 3 0 rfl
    have tB : b.2.2.2.2.1 (sR b.2.2.1 1) = some 73 := hb.2.1.2.1 1 73 rfl
    have sA : sR b.2.1 3 = sR σ 4 := by rw [e2]; exact sO0 rfl (by decide)
    have sB : sR b.2.2.1 1 = sR σ 5 := by rw [e3]; exact sO0 rfl (by decide)
    have u0 : sR b.2.1 0 = sR σ 0 := by rw [e2]; exact sO0 rfl (by decide)
    have u1 : sR b.2.2.1 0 = sR σ 1 := by rw [e3]; exact sO0 rfl (by decide)
    have c5 : Int32.ofInt (b.1 6) = y5 := by
      rw [e1]
      show Int32.ofInt (lEv ρ2 (lSy 6)) = y5
      rw [lSy_ev]
      show Int32.ofInt y5.toInt = y5
      exact Int32.ofInt_toInt y5
    have c6 : Int32.ofInt (b.1 7) = y6 := by
      rw [e1]
      show Int32.ofInt (lEv ρ2 (lSy 7)) = y6
      rw [lSy_ev]
      show Int32.ofInt y6.toInt = y6
      exact Int32.ofInt_toInt y6
    have r1 : b.2.2.2.2.2.1[sR b.2.1 3]? = some (.inr (tt, vs)) := by
      rw [e6 _ _ (e4 ▸ tA), sA]
      exact p3
    have r2 : b.2.2.2.2.2.2[sR b.2.2.1 1]? = some (.inr (tt, vs)) := by
      rw [e7 _ _ (e5 ▸ tB), sB]
      exact p4
    obtain ⟨vA, H1, vB, H2, g1, g2, g3⟩ := fd_run (xs := xs) (n := n) hsf hb (by rw [e8]; omega) (by omega) c5 c6
    refine ⟨vA, H1, vB, H2, by rw [← u0]; exact g1, by rw [← u1]; exact g2, g3, fun J hJ => ?_⟩
    obtain ⟨us, f1, f2, f3⟩ := vHp_arr hb.1.1 tA (show (fun c => x_KT.1[c]?) 0 = some (.inr (0, 160, [.inl ((0), (255))])) from rfl)
    rw [r1] at f1
    cases f1
    obtain ⟨u, v1, v2⟩ := f3 J (.inl ((0), (255))) hJ (by
      show ([.inl ((0), (255))] : List vF)[J % 1]? = _
      rw [Nat.mod_one]
      rfl)
    rcases u with x | u
    rotate_left
    · exact v2.elim
    obtain ⟨wA, J1, wB, J2, k1, k2, k3⟩ := fd_J (xs := xs) (n := n) hsf hb (by rw [e8]; omega) (by omega) c5 c6 r1 r2 hJ v1
    obtain ⟨-, m2⟩ := x_To_one g1 k1
    obtain ⟨-, m4⟩ := x_To_one g2 k2
    rw [m2, m4] at k3
    exact k3)
  obtain ⟨x, hx, ρ4, σA3, σB3, tyA3, tyB3, ⟨z1, z2, -, -, -, z6, z7, -, -⟩, -, -, -, -⟩ := q8
  have z1 : vRel x_KT ρ4 σA3 tyA3 H1 (aSt x.1) := z1
  have z2 : vRel x_KT ρ4 σB3 tyB3 H2 (aSt x.2) := z2
  have sA : sR b.2.1 3 = sR σ 4 := by rw [q10]; exact sO0 rfl (by decide)
  have sB : sR b.2.2.1 1 = sR σ 5 := by rw [q11]; exact sO0 rfl (by decide)
  have tA3 : tyA3 (sR σ 4) = some 0 := z6 _ _ (by
    show b.2.2.2.1 (sR σ 4) = some 0
    rw [q12]
    exact w3)
  have tB4 : tyB3 (sR σ 5) = some 73 := z7 _ _ (by
    show b.2.2.2.2.1 (sR σ 5) = some 73
    rw [q13]
    exact w4)
  obtain ⟨wa, f1, f2, -⟩ := vHp_arr z1.1 tA3 (show (fun c => x_KT.1[c]?) 0 = some (.inr (0, 160, [.inl ((0), (255))])) from rfl)
  obtain ⟨wb, f3, f4, -⟩ := vHp_arr z2.1 tB4 (show (fun c => x_KT.1[c]?) 73 = some (.inr (0, 160, [.inl ((0), (255))])) from rfl)
  have hw : wb = wa := List.ext_getElem? fun J => by
    by_cases hJ : J < 160
    · obtain ⟨t1, v1, t2, v2, u, m1, m2, m3, m4⟩ := q8J J hJ
      rw [sA, f1] at m1
      rw [sB, f3] at m2
      cases m1
      cases m2
      rw [m3, m4]
    · rw [List.getElem?_eq_none (by omega), List.getElem?_eq_none (by omega)]
  refine ⟨a, a, HA, HH, ρ3, σ2, ty2, ?_, q1, ?_, q2, fun _ => rfl, q3, q4, q5 0 (by decide), q5 1 (by decide), q6, ⟨0, wa, ?_, ?_⟩, ?_⟩
  · rw [bRc (s := aSt lwN) h (by omega) (i := 0) rfl rfl rfl]
    decide +kernel
  · rw [bRc (s := aSt lwN) h (by omega) (i := 1) rfl rfl ((q15 _ _ w0).2)]
    decide +kernel
  · rw [q5 4 (by decide), q16 _ _ w3]
    exact f1
  · rw [q5 5 (by decide), q17 _ _ w4, f3, hw]
  · rw [fdc1, fdc2]
    exact q7

theorem fd_blk {xs : Nat → Int32} {n : Nat} {sf : Option Nat} (hsf : sf = none ∨ sf = some 1200000) (hn : n ≤ 3584) : lwBk (x_otS xs n sf) 216 := fun ρ σ ty H Lc cn2 sn2 hat h0 h7 cont =>
  cBlkP (p1 := 227) (p2 := 242) (pi := 1906) (n := 2) (ixA := 13) (ixB := 17) (n1 := 1) (n2 := 3) (n3 := 1) (n4 := 1) (n5 := 3) (n6 := 1) (n7 := 3) (n8 := 3) (n9 := 3) (x6 := (1660)) (x7 := (7)) (x8 := (-1891)) (dp := 1299) (hd := 18) (cmp := True) p_q0 rfl fdqA fdqB (show n < 1000000 by omega) (by decide) (by decide +kernel) (by decide +kernel) (by decide +kernel) (by decide +kernel) (by decide +kernel) (by decide +kernel) (by decide +kernel) (by decide +kernel) (by decide +kernel) (by decide +kernel) (by decide +kernel) (by decide +kernel) (by decide +kernel) (by decide +kernel) (by decide +kernel) (by decide +kernel) (by decide +kernel) rfl (by decide +kernel) rfl (by decide +kernel) fdcn (by decide +kernel) fdcd hn (fdPP hsf hn) hat h0 h7 cont
theorem pg_blk {xs : Nat → Int32} {n : Nat} {sf : Option Nat} (hsf : sf = none ∨ sf = some 1200000) (hn : n ≤ 3584) : lwBk (x_otS xs n sf) 249 := fun ρ σ ty H Lc cn2 sn2 hat h0 h7 cont =>
  cBlkP (p1 := 250) (p2 := 255) (pi := 1906) (n := 0) (ixA := 18) (ixB := 22) (n1 := 1) (n2 := 3) (n3 := 1) (n4 := 1) (n5 := 3) (n6 := 1) (n7 := 3) (n8 := 3) (n9 := 3) (x6 := (1647)) (x7 := (7)) (x8 := (-1891)) (dp := 1299) (hd := 18) (cmp := True) p_q0 rfl pgqA pgqB (show n < 1000000 by omega) (by decide) (by decide +kernel) (by decide +kernel) (by decide +kernel) (by decide +kernel) (by decide +kernel) (by decide +kernel) (by decide +kernel) (by decide +kernel) (by decide +kernel) (by decide +kernel) (by decide +kernel) (by decide +kernel) (by decide +kernel) (by decide +kernel) (by decide +kernel) (by decide +kernel) (by decide +kernel) rfl (by decide +kernel) rfl (by decide +kernel) pgcn (by decide +kernel) pgcd hn (pgPP hsf hn) hat h0 h7 cont
theorem p_blk (xs : Nat → Int32) (n : Nat) (hn : n ≤ 3584) {sf : Option Nat} (hsf : sf = none ∨ sf = some 1200000) : ∀ pc ∈ lwCb, lwBk (x_otS xs n sf) pc := by
  intro pc hpc
  have hpc : pc ∈ ([216, 249] : List Nat) := hpc
  simp only [List.mem_cons, List.not_mem_nil, or_false] at hpc
  rcases hpc with rfl | rfl
  · exact fd_blk hsf hn
  · exact pg_blk hsf hn
end XProg
