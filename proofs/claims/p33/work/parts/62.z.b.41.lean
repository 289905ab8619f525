/-! The class's night that is thought of: what stands, what each program's run leaves. -/
noncomputable section XK33
/-- addresses: programs, codes, shelves, files, twins, rows of trials and their items (written, twin); the object, its programs, its settings (as at first, as twins), its runners and their numbers -/
abbrev Ka : Type := (Nat → Nat) × (Nat → Nat) × (Nat → Nat) × (Nat → Nat) × (Nat → Nat) × (Nat → Nat) × (Nat → Nat) × (Nat → Nat) × (Nat → Nat) × Nat × Nat × Nat × Nat × Nat × Nat × Nat × Nat
abbrev aP (K : Ka) : Nat → Nat := K.1
abbrev a3C (K : Ka) : Nat → Nat := K.2.1
abbrev aH (K : Ka) : Nat → Nat := K.2.2.1
abbrev a3W (K : Ka) : Nat → Nat := K.2.2.2.1
abbrev aT (K : Ka) : Nat → Nat := K.2.2.2.2.1
abbrev aV (K : Ka) : Nat → Nat := K.2.2.2.2.2.1
abbrev aVi (K : Ka) : Nat → Nat := K.2.2.2.2.2.2.1
abbrev aX (K : Ka) : Nat → Nat := K.2.2.2.2.2.2.2.1
abbrev aXi (K : Ka) : Nat → Nat := K.2.2.2.2.2.2.2.2.1
abbrev aB (K : Ka) : Nat := K.2.2.2.2.2.2.2.2.2.1
abbrev aPA (K : Ka) : Nat := K.2.2.2.2.2.2.2.2.2.2.1
abbrev aF1 (K : Ka) : Nat := K.2.2.2.2.2.2.2.2.2.2.2.1
abbrev aTw (K : Ka) : Nat := K.2.2.2.2.2.2.2.2.2.2.2.2.1
abbrev aOu (K : Ka) : Nat := K.2.2.2.2.2.2.2.2.2.2.2.2.2.1
abbrev a3N1 (K : Ka) : Nat := K.2.2.2.2.2.2.2.2.2.2.2.2.2.2.1
abbrev aOt (K : Ka) : Nat := K.2.2.2.2.2.2.2.2.2.2.2.2.2.2.2.1
abbrev a3N2 (K : Ka) : Nat := K.2.2.2.2.2.2.2.2.2.2.2.2.2.2.2.2
variable {n : Nat} {d : Ld} {K : Ka} {WL As Bs : List Nat} {rp rt : Nat → rS} {H0 H G : List (XC Int32)} {col : Nat → Nat}
-- what is told and not written, from one heap to another
theorem c3R_mv (hf : ∀ (x : Nat) z, c3R H0 Bs x z → G[x]? = some z) (hs : ∀ x, x ∈ As → x ∈ Bs) {x : Nat} {z : XC Int32} (h : c3R H0 Bs x z) : c3R G As x z := ⟨hf x z h, fun k hk => by
  obtain ⟨j, hj⟩ := List.getElem?_of_mem (hs x (List.mem_of_getElem? hk))
  exact h.2 j hj⟩
theorem c3W_mv (mv : ∀ (x : Nat) z, c3R H0 Bs x z → c3R G As x z) {r len m : Nat} {f : Nat → Int32} (h : c3W H0 Bs r len f m) : c3W G As r len f m := by
  obtain ⟨a, l, b, c⟩ := h
  exact ⟨a, l, mv _ _ b, c⟩
theorem cC_mv (mv : ∀ (x : Nat) z, c3R H0 Bs x z → c3R G As x z) {co : Nat} {p : rP} (h : cC H0 Bs co p) : cC G As co p := by
  obtain ⟨a, ro, rl, rr, rn, b, c1, c2, c3, c4⟩ := h
  exact ⟨a, ro, rl, rr, rn, mv _ _ b, c3W_mv mv c1, c3W_mv mv c2, c3W_mv mv c3, c3W_mv mv c4⟩
theorem cS_mv (mv : ∀ (x : Nat) z, c3R H0 Bs x z → c3R G As x z) {se : Nat} {p : rP} (h : cS H0 Bs se p) : cS G As se p := by
  obtain ⟨a, b⟩ := h
  refine ⟨a, ?_⟩
  rcases b with ⟨dr, pr, b1, b2, b3, b4⟩ | ⟨dr, pr, b1, b2⟩
  · exact Or.inl ⟨dr, pr, mv _ _ b1, c3W_mv mv b2, c3W_mv mv b3, b4⟩
  · exact Or.inr ⟨dr, pr, mv _ _ b1, b2⟩
theorem cC_pt {co q : Nat} {x : Nat × (Nat → Int32)} (h : cC G As co (pgP d q x)) : cC G As co (pgT d q x) := by
  obtain ⟨a, ro, rl, rr, rn, b, c1, c2, c3, c4⟩ := h
  exact ⟨a, ro, rl, rr, rn, b, c1, c2, c3, c4⟩
/-- a row: how many, which -/
def cRw (H0 : List (XC Int32)) (As : List Nat) (r nn : Nat) (vv : Nat → Int32) : Prop := ¬ 1000000 < r ∧ ∃ it, c3R H0 As r (.inl (5, [.inr (some it), .inl (nI nn)])) ∧ c3W H0 As it 12 vv nn
theorem cRw_mv (mv : ∀ (x : Nat) z, c3R H0 Bs x z → c3R G As x z) {r nn : Nat} {vv : Nat → Int32} (h : cRw H0 Bs r nn vv) : cRw G As r nn vv := by
  obtain ⟨a, it, b, c⟩ := h
  exact ⟨a, it, mv _ _ b, c3W_mv mv c⟩
theorem c3R_ne {x y : Nat} {z : XC Int32} (h : c3R H0 Bs x z) (hy : y ∈ Bs) : x ≠ y := fun e => by
  obtain ⟨j, hj⟩ := List.getElem?_of_mem hy
  exact h.2 j (by rw [e]; exact hj)
/-- four addresses are as many -/
theorem inj4 {a b c e : Nat} (h1 : a ≠ b) (h2 : a ≠ c) (h3 : a ≠ e) (h4 : b ≠ c) (h5 : b ≠ e) (h6 : c ≠ e) : ∀ (i j : Nat) x, [a, b, c, e][i]? = some x → [a, b, c, e][j]? = some x → i = j := by
  intro i j x hi hj
  rcases i with _ | _ | _ | _ | i
  all_goals rcases j with _ | _ | _ | _ | j
  all_goals first
    | rfl
    | (cases hi; cases hj; contradiction)
    | (cases hi; contradiction)
    | cases hi
    | cases hj
theorem na4 {a b c e x : Nat} (h1 : x ≠ a) (h2 : x ≠ b) (h3 : x ≠ c) (h4 : x ≠ e) : ∀ k : Nat, [a, b, c, e][k]? ≠ some x := fun k hk => by
  rcases k with _ | _ | _ | _ | k
  · cases hk
    exact h1 rfl
  · cases hk
    exact h2 rfl
  · cases hk
    exact h3 rfl
  · cases hk
    exact h4 rfl
  · cases hk
theorem cne {x y u w : Nat} (h1 : col x = u) (h2 : col y = w) (h : u ≠ w) : x ≠ y := fun e => h (by rw [← h1, ← h2, e])
theorem lt_of {a : Nat} {z : XC Int32} (h : H[a]? = some z) (hl : H.length ≤ 1000000) : a < 1000000 := by
  have := (List.getElem?_eq_some_iff.mp h).1
  omega
-- cells
def kRn (H : List (XC Int32)) (R nu : Nat) : Prop := ∃ (sp : Nat) (c2 c3 c4 c5 c6 c7 c8 c9 c10 : XV Int32) (hw lw : Int32) (nf : List (XV Int32)), H[R]? = some (.inl (4, [.inr (some nu), .inr (some sp), c2, c3, c4, c5, c6, c7, c8, c9, c10, .inl hw, .inl lw])) ∧ H[nu]? = some (.inr (0, nf)) ∧ nf.length = 6
def kRw (H : List (XC Int32)) (r it : Nat) : Prop := ∃ (bs : XV Int32) (of : List (XV Int32)), H[r]? = some (.inl (5, [.inr (some it), bs])) ∧ H[it]? = some (.inr (0, of)) ∧ of.length = 12
def k3Ro (H : List (XC Int32)) (r it : Nat) (s : rS) : Prop := ∃ of : List (XV Int32), H[r]? = some (.inl (5, [.inr (some it), .inl (nI (rOs s))])) ∧ H[it]? = some (.inr (0, of)) ∧ of.length = 12 ∧ ∀ k, k < rOs s → of[k]? = some (.inl (rOv s k))
def pcF (d : Ld) (K : Ka) (q : Nat) (fs : List (XV Int32)) (y st : Int32) : Prop := fs.length = 20 ∧ fs[0]? = some (.inr (some (a3C K q))) ∧ fs[2]? = some (.inr (some (aH K q))) ∧ fs[3]? = some (.inr (some (a3W K q))) ∧ fs[4]? = some (.inr (some (aT K q))) ∧ fs[5]? = some (.inr (some (aV K q))) ∧ fs[6]? = some (.inr (some (aX K q))) ∧ fs[7]? = some (.inl y) ∧ fs[8]? = some (.inl (svI (dSv d q))) ∧ fs[9]? = some (.inl st) ∧ fs[11]? = some (.inl (dWt d q))
def kPc (d : Ld) (K : Ka) (q : Nat) (H : List (XC Int32)) : Prop := ∃ (fs : List (XV Int32)) (y st : Int32), H[aP K q]? = some (.inl (10, fs)) ∧ pcF d K q fs y st
def kTe (H : List (XC Int32)) (p : Nat) (x : Int32) : Prop := ∃ fs : List (XV Int32), H[p]? = some (.inl (10, fs)) ∧ fs[7]? = some (.inl x)
/-- what no run of the night writes -/
def kSt (n : Nat) (d : Ld) (K : Ka) (WL : List Nat) (H0 : List (XC Int32)) : Prop :=
  (∃ fs : List (XV Int32), c3R H0 WL (aB K) (.inl (0, fs)) ∧ fs[2]? = some (.inr (some (aPA K))) ∧ fs[3]? = some (.inl (nI n)) ∧ fs[5]? = some (.inr (some (aF1 K))) ∧ fs[6]? = some (.inr (some (aTw K))) ∧ fs[8]? = some (.inr (some (aOu K))) ∧ fs[9]? = some (.inr (some (aOt K)))) ∧
  (∃ ps : List (XV Int32), c3R H0 WL (aPA K) (.inr (2, ps)) ∧ ps.length = 12 ∧ ∀ q, q < n → ps[q]? = some (.inr (some (aP K q)))) ∧
  (∀ q, q < n → (∀ x, cC H0 WL (a3C K q) (pgP d q x)) ∧ cRw H0 WL (aH K q) (dHn d q) (dHv d q) ∧ cRw H0 WL (a3W K q) (dWn d q) (dWv d q) ∧ cRw H0 WL (aT K q) (dTn d q) (dTv d q)) ∧
  (∀ q x, cS H0 WL (aF1 K) (pgP d q x)) ∧ ∀ q x, cS H0 WL (aTw K) (pgT d q x)
/-- what is written is told, and apart -/
def kNe (n : Nat) (K : Ka) (WL : List Nat) (col : Nat → Nat) : Prop :=
  (aOt K ∈ WL ∧ a3N2 K ∈ WL ∧ aOu K ∈ WL ∧ a3N1 K ∈ WL ∧ ∀ q, q < n → aP K q ∈ WL ∧ aX K q ∈ WL ∧ aXi K q ∈ WL ∧ aV K q ∈ WL ∧ aVi K q ∈ WL) ∧
  (col (aOt K) = 0 ∧ col (aOu K) = 0 ∧ col (a3N1 K) = 1 ∧ col (a3N2 K) = 1 ∧ ∀ q, q < n → col (aP K q) = 4 ∧ col (aV K q) = 2 ∧ col (aX K q) = 2 ∧ col (aVi K q) = 3 ∧ col (aXi K q) = 3) ∧
  aOt K ≠ aOu K ∧ a3N1 K ≠ a3N2 K ∧ ∀ q k, q < n → k < n → (aV K q ≠ aX K k ∧ aVi K q ≠ aXi K k) ∧ (q ≠ k → aP K q ≠ aP K k ∧ aV K q ≠ aV K k ∧ aX K q ≠ aX K k ∧ aVi K q ≠ aVi K k ∧ aXi K q ≠ aXi K k)
/-- i twins are rehearsed, j programs -/
def kPh (n : Nat) (d : Ld) (K : Ka) (WL : List Nat) (rp rt : Nat → rS) (H0 H : List (XC Int32)) (i j : Nat) : Prop :=
  (∀ (x : Nat) z, c3R H0 WL x z → H[x]? = some z) ∧ H.length = H0.length ∧ kRn H (aOt K) (a3N2 K) ∧ kRn H (aOu K) (a3N1 K) ∧ (∀ q, q < n → kPc d K q H ∧ kRw H (aV K q) (aVi K q) ∧ kRw H (aX K q) (aXi K q)) ∧ (∀ q, q < i → k3Ro H (aX K q) (aXi K q) (rt q) ∧ kTe H (aP K q) (rEn (rt q))) ∧ ∀ q, q < j → k3Ro H (aV K q) (aVi K q) (rp q)
theorem kRn_mv {R nu : Nat} (h : kRn H R nu) (h1 : ∀ z, H[R]? = some z → G[R]? = some z) (h2 : ∀ z, H[nu]? = some z → G[nu]? = some z) : kRn G R nu := by
  obtain ⟨sp, c2, c3, c4, c5, c6, c7, c8, c9, c10, hw, lw, nf, a, b, c⟩ := h
  exact ⟨sp, c2, c3, c4, c5, c6, c7, c8, c9, c10, hw, lw, nf, h1 _ a, h2 _ b, c⟩
theorem kRw_mv {r it : Nat} (h : kRw H r it) (h1 : ∀ z, H[r]? = some z → G[r]? = some z) (h2 : ∀ z, H[it]? = some z → G[it]? = some z) : kRw G r it := by
  obtain ⟨bs, of, a, b, c⟩ := h
  exact ⟨bs, of, h1 _ a, h2 _ b, c⟩
theorem k3Ro_mv {r it : Nat} {s : rS} (h : k3Ro H r it s) (h1 : ∀ z, H[r]? = some z → G[r]? = some z) (h2 : ∀ z, H[it]? = some z → G[it]? = some z) : k3Ro G r it s := by
  obtain ⟨of, a, b, c⟩ := h
  exact ⟨of, h1 _ a, h2 _ b, c⟩
theorem kPc_mv {q : Nat} (h : kPc d K q H) (h1 : ∀ z, H[aP K q]? = some z → G[aP K q]? = some z) : kPc d K q G := by
  obtain ⟨fs, y, st, a, b⟩ := h
  exact ⟨fs, y, st, h1 _ a, b⟩
theorem kTe_mv {p : Nat} {x : Int32} (h : kTe H p x) (h1 : ∀ z, H[p]? = some z → G[p]? = some z) : kTe G p x := by
  obtain ⟨fs, a, b⟩ := h
  exact ⟨fs, h1 _ a, b⟩
theorem pcF_set {q : Nat} {fs : List (XV Int32)} {y st x : Int32} (h : pcF d K q fs y st) : pcF d K q (fs.set 7 (.inl x)) x st := by
  obtain ⟨a, b0, b2, b3, b4, b5, b6, b7, b8, b9, b11⟩ := h
  have ne : ∀ {j : Nat} {u : XV Int32}, j ≠ 7 → fs[j]? = some u → (fs.set 7 (.inl x))[j]? = some u := fun hj hu => (List.getElem?_set_ne (fun z => hj z.symm)).trans hu
  exact ⟨by rw [List.length_set]; exact a, ne (by decide) b0, ne (by decide) b2, ne (by decide) b3, ne (by decide) b4, ne (by decide) b5, ne (by decide) b6, List.getElem?_set_self (by omega), ne (by decide) b8, ne (by decide) b9, ne (by decide) b11⟩
/-- the cells that a run leaves -/
theorem cN_run {R nu ob oi sp co se inp : Nat} {p : rP} {s : rS} (h : cN H G R nu ob oi sp co se inp p s) : kRn G R nu ∧ k3Ro G ob oi s ∧ G.length = H.length ∧ ∀ (x : Nat) z, H[x]? = some z → x ≠ R → x ≠ nu → x ≠ ob → x ≠ oi → G[x]? = some z := by
  obtain ⟨nf, of, ln, hw, lw, h1, -, h3, -, h5, h6⟩ := h
  exact ⟨⟨_, _, _, _, _, _, _, _, _, _, _, _, _, hm_at h1 (i := 0) rfl rfl, hm_at h1 (i := 1) rfl rfl, h3⟩, ⟨_, hm_at h1 (i := 2) rfl rfl, hm_at h1 (i := 3) rfl rfl, h5, h6⟩, hm_len h1, fun x z hx a b c e => hm_ro h1 hx (na4 a b c e)⟩
theorem k3Ro_w {r it : Nat} {s : rS} (h : k3Ro H r it s) : kRw H r it := by
  obtain ⟨of, a, b, c, -⟩ := h
  exact ⟨_, of, a, b, c⟩
/-- a twin has run, its end stands in the program -/
theorem kPh_1 (hN : kNe n K WL col) {i j : Nat} (hP : kPh n d K WL rp rt H0 H i j) (hi : i < n) {sp co se inp : Nat} {p : rP} (hq : cN H G (aOt K) (a3N2 K) (aX K i) (aXi K i) sp co se inp p (rt i)) {fs : List (XV Int32)} {y st : Int32} (hfs : H[aP K i]? = some (.inl (10, fs))) (hpf : pcF d K i fs y st) (hj : j ≤ n) : kPh n d K WL rp rt H0 (G.set (aP K i) (.inl (10, fs.set 7 (.inl (rEn (rt i)))))) (i + 1) j := by
  obtain ⟨⟨m1, m2, m3, m4, m5⟩, ⟨c1, c2, c3, c4, c5⟩, e1, e2, e3⟩ := hN
  obtain ⟨p1, p2, p3, p4, p5, p6, p7⟩ := hP
  obtain ⟨g1, g2, g3, g4⟩ := cN_run hq
  obtain ⟨ci1, ci2, ci3, ci4, ci5⟩ := c5 i hi
  obtain ⟨mi1, mi2, mi3, mi4, mi5⟩ := m5 i hi
  have hG : G[aP K i]? = some (.inl (10, fs)) := g4 _ _ hfs (cne ci1 c1 (by decide)) (cne ci1 c4 (by decide)) (cne ci1 ci3 (by decide)) (cne ci1 ci5 (by decide))
  have kp : ∀ (x : Nat) z, H[x]? = some z → x ≠ aOt K → x ≠ a3N2 K → x ≠ aX K i → x ≠ aXi K i → x ≠ aP K i → (G.set (aP K i) (.inl (10, fs.set 7 (.inl (rEn (rt i))))))[x]? = some z := fun x z h a b c e f => gne (g4 x z h a b c e) (fun w => f w.symm)
  have kg : ∀ (x : Nat) z, G[x]? = some z → x ≠ aP K i → (G.set (aP K i) (.inl (10, fs.set 7 (.inl (rEn (rt i))))))[x]? = some z := fun x z h f => gne h (fun w => f w.symm)
  have kX : ∀ q, q < n → q ≠ i → (∀ z, H[aX K q]? = some z → (G.set (aP K i) (.inl (10, fs.set 7 (.inl (rEn (rt i))))))[aX K q]? = some z) ∧ ∀ z, H[aXi K q]? = some z → (G.set (aP K i) (.inl (10, fs.set 7 (.inl (rEn (rt i))))))[aXi K q]? = some z := fun q hq hqi => by
    obtain ⟨cq1, cq2, cq3, cq4, cq5⟩ := c5 q hq
    obtain ⟨-, eq⟩ := e3 q i hq hi
    obtain ⟨-, -, x3, -, x5⟩ := eq hqi
    exact ⟨fun z h => kp _ z h (cne cq3 c1 (by decide)) (cne cq3 c4 (by decide)) x3 (cne cq3 ci5 (by decide)) (cne cq3 ci1 (by decide)), fun z h => kp _ z h (cne cq5 c1 (by decide)) (cne cq5 c4 (by decide)) (cne cq5 ci3 (by decide)) x5 (cne cq5 ci1 (by decide))⟩
  have kV : ∀ q, q < n → (∀ z, H[aV K q]? = some z → (G.set (aP K i) (.inl (10, fs.set 7 (.inl (rEn (rt i))))))[aV K q]? = some z) ∧ ∀ z, H[aVi K q]? = some z → (G.set (aP K i) (.inl (10, fs.set 7 (.inl (rEn (rt i))))))[aVi K q]? = some z := fun q hq => by
    obtain ⟨cq1, cq2, cq3, cq4, cq5⟩ := c5 q hq
    obtain ⟨⟨v1, v2⟩, -⟩ := e3 q i hq hi
    exact ⟨fun z h => kp _ z h (cne cq2 c1 (by decide)) (cne cq2 c4 (by decide)) v1 (cne cq2 ci5 (by decide)) (cne cq2 ci1 (by decide)), fun z h => kp _ z h (cne cq4 c1 (by decide)) (cne cq4 c4 (by decide)) (cne cq4 ci3 (by decide)) v2 (cne cq4 ci1 (by decide))⟩
  have kP_ : ∀ q, q < n → q ≠ i → ∀ z, H[aP K q]? = some z → (G.set (aP K i) (.inl (10, fs.set 7 (.inl (rEn (rt i))))))[aP K q]? = some z := fun q hq hqi z h => by
    obtain ⟨cq1, cq2, cq3, cq4, cq5⟩ := c5 q hq
    exact kp _ z h (cne cq1 c1 (by decide)) (cne cq1 c4 (by decide)) (cne cq1 ci3 (by decide)) (cne cq1 ci5 (by decide)) ((e3 q i hq hi).2 hqi).1
  have hPi : (G.set (aP K i) (.inl (10, fs.set 7 (.inl (rEn (rt i))))))[aP K i]? = some (.inl (10, fs.set 7 (.inl (rEn (rt i))))) := gself hG
  refine ⟨fun x z h => kp x z (p1 x z h) (c3R_ne h m1) (c3R_ne h m2) (c3R_ne h mi2) (c3R_ne h mi3) (c3R_ne h mi1), by rw [List.length_set, g3]; exact p2, kRn_mv g1 (fun z h => kg _ z h (cne c1 ci1 (by decide))) (fun z h => kg _ z h (cne c4 ci1 (by decide))), kRn_mv p4 (fun z h => kp _ z h (fun w => e1 w.symm) (cne c2 c4 (by decide)) (cne c2 ci3 (by decide)) (cne c2 ci5 (by decide)) (cne c2 ci1 (by decide))) (fun z h => kp _ z h (cne c3 c1 (by decide)) e2 (cne c3 ci3 (by decide)) (cne c3 ci5 (by decide)) (cne c3 ci1 (by decide))), fun q hq => ?_, fun q hq => ?_, fun q hq => ?_⟩
  · obtain ⟨q1, q2, q3⟩ := p5 q hq
    by_cases c : q = i
    · subst c
      exact ⟨⟨_, _, st, hPi, pcF_set hpf⟩, kRw_mv q2 (kV q hq).1 (kV q hq).2, kRw_mv (k3Ro_w g2) (fun z h => kg _ z h (cne ci3 ci1 (by decide))) (fun z h => kg _ z h (cne ci5 ci1 (by decide)))⟩
    · exact ⟨kPc_mv q1 (kP_ q hq c), kRw_mv q2 (kV q hq).1 (kV q hq).2, kRw_mv q3 (kX q hq c).1 (kX q hq c).2⟩
  · by_cases c : q = i
    · subst c
      exact ⟨k3Ro_mv g2 (fun z h => kg _ z h (cne ci3 ci1 (by decide))) (fun z h => kg _ z h (cne ci5 ci1 (by decide))), _, hPi, (pcF_set hpf).2.2.2.2.2.2.2.1⟩
    · have hq2 : q < n := by omega
      obtain ⟨q1, q2⟩ := p6 q (by omega)
      exact ⟨k3Ro_mv q1 (kX q hq2 c).1 (kX q hq2 c).2, kTe_mv q2 (kP_ q hq2 c)⟩
  · exact k3Ro_mv (p7 q hq) (kV q (by omega)).1 (kV q (by omega)).2
/-- a program has run -/
theorem kPh_2 (hN : kNe n K WL col) {i j : Nat} (hP : kPh n d K WL rp rt H0 H i j) (hj : j < n) {sp co se inp : Nat} {p : rP} (hq : cN H G (aOu K) (a3N1 K) (aV K j) (aVi K j) sp co se inp p (rp j)) (hi : i ≤ n) : kPh n d K WL rp rt H0 G i (j + 1) := by
  obtain ⟨⟨m1, m2, m3, m4, m5⟩, ⟨c1, c2, c3, c4, c5⟩, e1, e2, e3⟩ := hN
  obtain ⟨p1, p2, p3, p4, p5, p6, p7⟩ := hP
  obtain ⟨g1, g2, g3, g4⟩ := cN_run hq
  obtain ⟨ci1, ci2, ci3, ci4, ci5⟩ := c5 j hj
  obtain ⟨mi1, mi2, mi3, mi4, mi5⟩ := m5 j hj
  have kX : ∀ q, q < n → (∀ z, H[aX K q]? = some z → G[aX K q]? = some z) ∧ ∀ z, H[aXi K q]? = some z → G[aXi K q]? = some z := fun q hq => by
    obtain ⟨cq1, cq2, cq3, cq4, cq5⟩ := c5 q hq
    obtain ⟨⟨v1, v2⟩, -⟩ := e3 j q hj hq
    exact ⟨fun z h => g4 _ z h (cne cq3 c2 (by decide)) (cne cq3 c3 (by decide)) (fun w => v1 w.symm) (cne cq3 ci4 (by decide)), fun z h => g4 _ z h (cne cq5 c2 (by decide)) (cne cq5 c3 (by decide)) (cne cq5 ci2 (by decide)) (fun w => v2 w.symm)⟩
  have kV : ∀ q, q < n → q ≠ j → (∀ z, H[aV K q]? = some z → G[aV K q]? = some z) ∧ ∀ z, H[aVi K q]? = some z → G[aVi K q]? = some z := fun q hq hqj => by
    obtain ⟨cq1, cq2, cq3, cq4, cq5⟩ := c5 q hq
    obtain ⟨-, eq⟩ := e3 q j hq hj
    obtain ⟨-, x2, -, x4, -⟩ := eq hqj
    exact ⟨fun z h => g4 _ z h (cne cq2 c2 (by decide)) (cne cq2 c3 (by decide)) x2 (cne cq2 ci4 (by decide)), fun z h => g4 _ z h (cne cq4 c2 (by decide)) (cne cq4 c3 (by decide)) (cne cq4 ci2 (by decide)) x4⟩
  have kP_ : ∀ q, q < n → ∀ z, H[aP K q]? = some z → G[aP K q]? = some z := fun q hq z h => by
    obtain ⟨cq1, cq2, cq3, cq4, cq5⟩ := c5 q hq
    exact g4 _ z h (cne cq1 c2 (by decide)) (cne cq1 c3 (by decide)) (cne cq1 ci2 (by decide)) (cne cq1 ci4 (by decide))
  refine ⟨fun x z h => g4 x z (p1 x z h) (c3R_ne h m3) (c3R_ne h m4) (c3R_ne h mi4) (c3R_ne h mi5), by rw [g3]; exact p2, kRn_mv p3 (fun z h => g4 _ z h e1 (cne c1 c3 (by decide)) (cne c1 ci2 (by decide)) (cne c1 ci4 (by decide))) (fun z h => g4 _ z h (cne c4 c2 (by decide)) (fun w => e2 w.symm) (cne c4 ci2 (by decide)) (cne c4 ci4 (by decide))), g1, fun q hq => ?_, fun q hq => ?_, fun q hq => ?_⟩
  · obtain ⟨q1, q2, q3⟩ := p5 q hq
    refine ⟨kPc_mv q1 (kP_ q hq), ?_, kRw_mv q3 (kX q hq).1 (kX q hq).2⟩
    by_cases c : q = j
    · subst c
      exact k3Ro_w g2
    · exact kRw_mv q2 (kV q hq c).1 (kV q hq c).2
  · have hq2 : q < n := by omega
    obtain ⟨q1, q2⟩ := p6 q hq
    exact ⟨k3Ro_mv q1 (kX q hq2).1 (kX q hq2).2, kTe_mv q2 (kP_ q hq2)⟩
  · by_cases c : q = j
    · subst c
      exact g2
    · exact k3Ro_mv (p7 q (by omega)) (kV q (by omega) c).1 (kV q (by omega) c).2
/-- the row that a program's input is: of twins, of programs -/
def tIn (d : Ld) (K : Ka) (i : Nat) : Nat := if dSv d i = 0 then aH K i else if dSv d i ≤ i then aX K (dSv d i - 1) else aT K (dSv d i - 1)
def pIn (d : Ld) (K : Ka) (i : Nat) : Nat := if dSv d i = 0 then aH K i else if dSv d i ≤ i then aV K (dSv d i - 1) else a3W K (dSv d i - 1)
theorem ro_cRw {r it : Nat} {s : rS} (hl : H.length ≤ 1000000) (h : k3Ro H r it s) (h1 : ∀ k : Nat, As[k]? ≠ some r) (h2 : ∀ k : Nat, As[k]? ≠ some it) : cRw H As r (rOs s) (rOv s) := by
  obtain ⟨of, a, b, c, e⟩ := h
  have := lt_of a hl
  have := lt_of b hl
  exact ⟨by omega, it, ⟨a, h1⟩, by omega, of, ⟨b, h2⟩, c, e⟩
theorem tIn_at (hd : dOk n d) (hL : H0.length ≤ 1000000) (hS : kSt n d K WL H0) (hN : kNe n K WL col) {i j : Nat} (hP : kPh n d K WL rp rt H0 H i j) (hi : i < n) : cRw H [aOt K, a3N2 K, aX K i, aXi K i] (tIn d K i) (inX d (dTn d) (dTv d) rt i).1 (inX d (dTn d) (dTv d) rt i).2 := by
  obtain ⟨⟨m1, m2, m3, m4, m5⟩, ⟨c1, c2, c3, c4, c5⟩, e1, e2, e3⟩ := hN
  obtain ⟨p1, p2, p3, p4, p5, p6, p7⟩ := hP
  obtain ⟨-, -, s3, -, -⟩ := hS
  obtain ⟨mi1, mi2, mi3, mi4, mi5⟩ := m5 i hi
  have mv : ∀ (x : Nat) z, c3R H0 WL x z → c3R H [aOt K, a3N2 K, aX K i, aXi K i] x z := fun x z h => c3R_mv p1 (fun y hy => by
    simp only [List.mem_cons, List.not_mem_nil, or_false] at hy
    rcases hy with rfl | rfl | rfl | rfl
    · exact m1
    · exact m2
    · exact mi2
    · exact mi3) h
  obtain ⟨-, -, -, -, -, b1, b2, -⟩ := hd.2 i hi
  unfold tIn inX
  by_cases c : dSv d i = 0
  · rw [if_pos c, if_pos c]
    exact cRw_mv mv (s3 i hi).2.1
  · rw [if_neg c, if_neg c]
    have hs : dSv d i - 1 < n := by omega
    by_cases e : dSv d i ≤ i
    · rw [if_pos e, if_pos e]
      obtain ⟨q1, -⟩ := p6 (dSv d i - 1) (by omega)
      obtain ⟨cq1, cq2, cq3, cq4, cq5⟩ := c5 _ hs
      obtain ⟨ci1, ci2, ci3, ci4, ci5⟩ := c5 i hi
      obtain ⟨-, eq⟩ := e3 _ i hs hi
      obtain ⟨-, -, x3, -, x5⟩ := eq (by omega)
      exact ro_cRw (by omega) q1 (na4 (cne cq3 c1 (by decide)) (cne cq3 c4 (by decide)) x3 (cne cq3 ci5 (by decide))) (na4 (cne cq5 c1 (by decide)) (cne cq5 c4 (by decide)) (cne cq5 ci3 (by decide)) x5)
    · rw [if_neg e, if_neg e]
      exact cRw_mv mv (s3 _ hs).2.2.2
theorem pIn_at (hd : dOk n d) (hL : H0.length ≤ 1000000) (hS : kSt n d K WL H0) (hN : kNe n K WL col) {i j : Nat} (hP : kPh n d K WL rp rt H0 H i j) (hj : j < n) : cRw H [aOu K, a3N1 K, aV K j, aVi K j] (pIn d K j) (inX d (dWn d) (dWv d) rp j).1 (inX d (dWn d) (dWv d) rp j).2 := by
  obtain ⟨⟨m1, m2, m3, m4, m5⟩, ⟨c1, c2, c3, c4, c5⟩, e1, e2, e3⟩ := hN
  obtain ⟨p1, p2, p3, p4, p5, p6, p7⟩ := hP
  obtain ⟨-, -, s3, -, -⟩ := hS
  obtain ⟨mi1, mi2, mi3, mi4, mi5⟩ := m5 j hj
  have mv : ∀ (x : Nat) z, c3R H0 WL x z → c3R H [aOu K, a3N1 K, aV K j, aVi K j] x z := fun x z h => c3R_mv p1 (fun y hy => by
    simp only [List.mem_cons, List.not_mem_nil, or_false] at hy
    rcases hy with rfl | rfl | rfl | rfl
    · exact m3
    · exact m4
    · exact mi4
    · exact mi5) h
  obtain ⟨-, -, -, -, -, b1, b2, -⟩ := hd.2 j hj
  unfold pIn inX
  by_cases c : dSv d j = 0
  · rw [if_pos c, if_pos c]
    exact cRw_mv mv (s3 j hj).2.1
  · rw [if_neg c, if_neg c]
    have hs : dSv d j - 1 < n := by omega
    by_cases e : dSv d j ≤ j
    · rw [if_pos e, if_pos e]
      have q1 := p7 (dSv d j - 1) (by omega)
      obtain ⟨cq1, cq2, cq3, cq4, cq5⟩ := c5 _ hs
      obtain ⟨ci1, ci2, ci3, ci4, ci5⟩ := c5 j hj
      obtain ⟨-, eq⟩ := e3 _ j hs hj
      obtain ⟨-, x2, -, x4, -⟩ := eq (by omega)
      exact ro_cRw (by omega) q1 (na4 (cne cq2 c2 (by decide)) (cne cq2 c3 (by decide)) x2 (cne cq2 ci4 (by decide))) (na4 (cne cq4 c2 (by decide)) (cne cq4 c3 (by decide)) (cne cq4 ci2 (by decide)) x4)
    · rw [if_neg e, if_neg e]
      exact cRw_mv mv (s3 _ hs).2.2.1
/-- the four cells of a run, before it -/
theorem run4 {R nu ob oi : Nat} (h1 : kRn H R nu) (h2 : kRw H ob oi) (hi : ∀ (i j : Nat) x, [R, nu, ob, oi][i]? = some x → [R, nu, ob, oi][j]? = some x → i = j) : ∃ (sp : Nat) (c2 c3 c4 c5 c6 c7 c8 c9 c10 bs : XV Int32) (hw lw : Int32) (nf of : List (XV Int32)), nf.length = 6 ∧ of.length = 12 ∧ hm H H [R, nu, ob, oi] [.inl (4, [.inr (some nu), .inr (some sp), c2, c3, c4, c5, c6, c7, c8, c9, c10, .inl hw, .inl lw]), .inr (0, nf), .inl (5, [.inr (some oi), bs]), .inr (0, of)] := by
  obtain ⟨sp, c2, c3, c4, c5, c6, c7, c8, c9, c10, hw, lw, nf, a, b, c⟩ := h1
  obtain ⟨bs, of, e, f, g⟩ := h2
  exact ⟨sp, c2, c3, c4, c5, c6, c7, c8, c9, c10, bs, hw, lw, nf, of, c, g, hm_rf hi rfl (fun k x z hk hz => by
    rcases k with _ | _ | _ | _ | k
    · cases hk
      cases hz
      exact a
    · cases hk
      cases hz
      exact b
    · cases hk
      cases hz
      exact e
    · cases hk
      cases hz
      exact f
    · cases hk)⟩
end XK33
/-! p33 by hand, 41. -/
noncomputable section XH33_41
variable {ot : XO Int32} {dp : Nat} {H H0 : List (XC Int32)}
theorem t35Y {v l u : Int32} (h1 : ¬ v < l) (h2 : ¬ u < v) : x_To x_tb x_tyl ot dp 35 0 (x_en 0 [.inl v, .inl l, .inl u]) [] H 0 0 (some (.inl (nI 1))) H := by
  refine xT_iload_n g_q35 g35_0 (rfl) ?_
  refine xT_iload_n g_q35 g35_1 (rfl) ?_
  refine xT_if_icmpN g_q35 g35_2 (t := 14) (by decide) (decide_eq_false h1) ?_
  refine xT_iload_n g_q35 g35_5 (rfl) ?_
  refine xT_iload_n g_q35 g35_6 (rfl) ?_
  refine xT_if_icmpN g_q35 g35_7 (t := 14) (by decide) (decide_eq_false h2) ?_
  refine xT_icV (y := nI (1)) g_q35 g35_10 (by decide) ?_
  refine xT_goto g_q35 g35_11 (t := 15) (by decide) ?_
  exact xT_ireturn g_q35 g35_15 (by decide +kernel)
theorem t35N {v l u : Int32} (h : v < l ∨ u < v) : x_To x_tb x_tyl ot dp 35 0 (x_en 0 [.inl v, .inl l, .inl u]) [] H 0 0 (some (.inl (nI 0))) H := by
  by_cases h1 : v < l
  · skip
    refine xT_iload_n g_q35 g35_0 (rfl) ?_
    refine xT_iload_n g_q35 g35_1 (rfl) ?_
    refine xT_if_icmpY g_q35 g35_2 (t := 14) (by decide) (decide_eq_true h1) ?_
    refine xT_icV (y := nI (0)) g_q35 g35_14 (by decide) ?_
    exact xT_ireturn g_q35 g35_15 (by decide +kernel)
  · have h2 : u < v := h.resolve_left h1
    refine xT_iload_n g_q35 g35_0 (rfl) ?_
    refine xT_iload_n g_q35 g35_1 (rfl) ?_
    refine xT_if_icmpN g_q35 g35_2 (t := 14) (by decide) (decide_eq_false h1) ?_
    refine xT_iload_n g_q35 g35_5 (rfl) ?_
    refine xT_iload_n g_q35 g35_6 (rfl) ?_
    refine xT_if_icmpY g_q35 g35_7 (t := 14) (by decide) (decide_eq_true h2) ?_
    refine xT_icV (y := nI (0)) g_q35 g35_14 (by decide) ?_
    exact xT_ireturn g_q35 g35_15 (by decide +kernel)
theorem t63Y {w : Int32} (h1 : ¬ w < nI 1900) (h2 : ¬ nI 2099 < w) : x_To x_tb x_tyl ot (dp + 1) 63 0 (x_en 0 [.inl w]) [] H 0 0 (some (.inl (nI 1))) H := by
  refine xT_iload_n g_q63 g63_0 (rfl) ?_
  refine xT_siV (y := nI (1900)) g_q63 g63_1 (by decide) ?_
  refine xT_siV (y := nI (2099)) g_q63 g63_4 (by decide) ?_
  refine xT_invokestatic (r := []) (u := some (.inl (nI (1)))) g_q63 g63_7 (j := 35) (so := 2) (by decide +kernel) g_q35 (rfl) (t35Y h1 h2) ?_
  exact xT_ireturn g_q63 g63_10 (by decide +kernel)
theorem t63N {w : Int32} (h : w < nI 1900 ∨ nI 2099 < w) : x_To x_tb x_tyl ot (dp + 1) 63 0 (x_en 0 [.inl w]) [] H 0 0 (some (.inl (nI 0))) H := by
  refine xT_iload_n g_q63 g63_0 (rfl) ?_
  refine xT_siV (y := nI (1900)) g_q63 g63_1 (by decide) ?_
  refine xT_siV (y := nI (2099)) g_q63 g63_4 (by decide) ?_
  refine xT_invokestatic (r := []) (u := some (.inl (nI (0)))) g_q63 g63_7 (j := 35) (so := 2) (by decide +kernel) g_q35 (rfl) (t35N h) ?_
  exact xT_ireturn g_q63 g63_10 (by decide +kernel)
end XH33_41
/-! p33 by hand, 42. -/
noncomputable section XH33_42
variable {ot : XO Int32} {dp : Nat} {H H0 : List (XC Int32)}
theorem t181Y {v l u : Int32} (h1 : ¬ v < l) (h2 : ¬ u < v) : x_To x_tb x_tyl ot dp 181 0 (x_en 0 [.inl v, .inl l, .inl u]) [] H 0 0 (some (.inl (nI 1))) H := by
  refine xT_iload_n g_q181 g181_0 (rfl) ?_
  refine xT_iload_n g_q181 g181_1 (rfl) ?_
  refine xT_if_icmpN g_q181 g181_2 (t := 14) (by decide) (decide_eq_false h1) ?_
  refine xT_iload_n g_q181 g181_5 (rfl) ?_
  refine xT_iload_n g_q181 g181_6 (rfl) ?_
  refine xT_if_icmpN g_q181 g181_7 (t := 14) (by decide) (decide_eq_false h2) ?_
  refine xT_icV (y := nI (1)) g_q181 g181_10 (by decide) ?_
  refine xT_goto g_q181 g181_11 (t := 15) (by decide) ?_
  exact xT_ireturn g_q181 g181_15 (by decide +kernel)
theorem t181N {v l u : Int32} (h : v < l ∨ u < v) : x_To x_tb x_tyl ot dp 181 0 (x_en 0 [.inl v, .inl l, .inl u]) [] H 0 0 (some (.inl (nI 0))) H := by
  by_cases h1 : v < l
  · skip
    refine xT_iload_n g_q181 g181_0 (rfl) ?_
    refine xT_iload_n g_q181 g181_1 (rfl) ?_
    refine xT_if_icmpY g_q181 g181_2 (t := 14) (by decide) (decide_eq_true h1) ?_
    refine xT_icV (y := nI (0)) g_q181 g181_14 (by decide) ?_
    exact xT_ireturn g_q181 g181_15 (by decide +kernel)
  · have h2 : u < v := h.resolve_left h1
    refine xT_iload_n g_q181 g181_0 (rfl) ?_
    refine xT_iload_n g_q181 g181_1 (rfl) ?_
    refine xT_if_icmpN g_q181 g181_2 (t := 14) (by decide) (decide_eq_false h1) ?_
    refine xT_iload_n g_q181 g181_5 (rfl) ?_
    refine xT_iload_n g_q181 g181_6 (rfl) ?_
    refine xT_if_icmpY g_q181 g181_7 (t := 14) (by decide) (decide_eq_true h2) ?_
    refine xT_icV (y := nI (0)) g_q181 g181_14 (by decide) ?_
    exact xT_ireturn g_q181 g181_15 (by decide +kernel)
theorem t196Y {w : Int32} (h1 : ¬ w < nI 1900) (h2 : ¬ nI 2099 < w) : x_To x_tb x_tyl ot (dp + 1) 196 0 (x_en 0 [.inl w]) [] H 0 0 (some (.inl (nI 1))) H := by
  refine xT_iload_n g_q196 g196_0 (rfl) ?_
  refine xT_siV (y := nI (1900)) g_q196 g196_1 (by decide) ?_
  refine xT_siV (y := nI (2099)) g_q196 g196_4 (by decide) ?_
  refine xT_invokestatic (r := []) (u := some (.inl (nI (1)))) g_q196 g196_7 (j := 181) (so := 2) (by decide +kernel) g_q181 (rfl) (t181Y h1 h2) ?_
  exact xT_ireturn g_q196 g196_10 (by decide +kernel)
theorem t196N {w : Int32} (h : w < nI 1900 ∨ nI 2099 < w) : x_To x_tb x_tyl ot (dp + 1) 196 0 (x_en 0 [.inl w]) [] H 0 0 (some (.inl (nI 0))) H := by
  refine xT_iload_n g_q196 g196_0 (rfl) ?_
  refine xT_siV (y := nI (1900)) g_q196 g196_1 (by decide) ?_
  refine xT_siV (y := nI (2099)) g_q196 g196_4 (by decide) ?_
  refine xT_invokestatic (r := []) (u := some (.inl (nI (0)))) g_q196 g196_7 (j := 181) (so := 2) (by decide +kernel) g_q181 (rfl) (t181N h) ?_
  exact xT_ireturn g_q196 g196_10 (by decide +kernel)
end XH33_42
/-! p33 by hand, 43. -/
noncomputable section XH33_43
variable {ot : XO Int32} {dp : Nat} {H H0 : List (XC Int32)}
theorem t42_0 {n : Nat} {d : Ld} {K : Ka} {WL : List Nat} {rp rt : Nat → rS} {col : Nat → Nat} (hd : dOk n d) (hL : H0.length ≤ 1000000) (hS : kSt n d K WL H0) (hN : kNe n K WL col) {i j : Nat} (hP : kPh n d K WL rp rt H0 H i j) : x_To x_tb x_tyl ot dp 42 0 (x_en 0 [.inr (some (aB K)), .inl (-1)]) [] H 0 0 (some (.inr none)) H := by
  have hd12 := hd.1
  have hlen := hP.2.1
  obtain ⟨⟨bf, cb, bf2, bf3, bf5, bf6, bf8, bf9⟩, ⟨pa, cpa, pal, pae⟩, -⟩ := id hS
  have hb := hP.1 _ _ cb
  have hpa := hP.1 _ _ cpa
  have hbl : ¬ 1000000 < aB K := by
    have := lt_of hb (by omega)
    omega
  refine xT_iload_n g_q42 g42_0 (rfl) ?_
  refine xT_ifCondY g_q42 g42_1 (t := 21) (by decide) ((by decide +kernel)) ?_
  refine xT_aconst_null g_q42 g42_21 ?_
  exact xT_areturn g_q42 g42_22 (rfl)
theorem t42_1 {n : Nat} {d : Ld} {K : Ka} {WL : List Nat} {rp rt : Nat → rS} {col : Nat → Nat} (hd : dOk n d) (hL : H0.length ≤ 1000000) (hS : kSt n d K WL H0) (hN : kNe n K WL col) {i j : Nat} (hP : kPh n d K WL rp rt H0 H i j) {s : Nat} (hs : s < n) : x_To x_tb x_tyl ot dp 42 0 (x_en 0 [.inr (some (aB K)), .inl (nI (s))]) [] H 0 0 (some (.inr (some (aP K (s))))) H := by
  have hd12 := hd.1
  have hlen := hP.2.1
  obtain ⟨⟨bf, cb, bf2, bf3, bf5, bf6, bf8, bf9⟩, ⟨pa, cpa, pal, pae⟩, -⟩ := id hS
  have hb := hP.1 _ _ cb
  have hpa := hP.1 _ _ cpa
  have hbl : ¬ 1000000 < aB K := by
    have := lt_of hb (by omega)
    omega
  refine xT_iload_n g_q42 g42_0 (rfl) ?_
  refine xT_ifCondN g_q42 g42_1 (t := 21) (by decide) (c2N (b := 0) (Nat.zero_le _) (by omega) (by omega)) ?_
  refine xT_iload_n g_q42 g42_4 (rfl) ?_
  refine xT_aload_n g_q42 g42_5 (rfl) ?_
  refine xT_getfield g_q42 g42_6 hbl rfl hb rfl bf3 ?_
  refine xT_if_icmpN g_q42 g42_9 (t := 21) (by decide) (c3N (a := s) (b := n) (by omega) (by omega) (by omega)) ?_
  refine xT_aload_n g_q42 g42_12 (rfl) ?_
  refine xT_getfield g_q42 g42_13 hbl rfl hb rfl bf2 ?_
  refine xT_iload_n g_q42 g42_16 (rfl) ?_
  refine xT_aaload g_q42 g42_17 (by decide +kernel) hpa (ixN (n := 12) (by omega) pal) (ixG (by omega) (pae _ (by omega))) ?_
  refine xT_goto g_q42 g42_18 (t := 22) (by decide) ?_
  exact xT_areturn g_q42 g42_22 (rfl)
set_option maxRecDepth 1000000 in
theorem sh1 : ∀ s, s < 12 → x_bin 7 (-1) (nI s) = -1 := by decide +kernel
set_option maxRecDepth 1000000 in
theorem sh0 : ∀ s, s < 12 → x_bin 7 (nI 0) (nI s) = nI 0 := by decide +kernel
theorem t48_1 {s : Nat} (hs : s < 12) : x_To x_tb x_tyl ot dp 48 0 (x_en 0 [.inl (-1), .inl (nI (s))]) [] H 0 0 (some (.inl (nI 1))) H := by
  refine xT_iload_n g_q48 g48_0 (rfl) ?_
  refine xT_ifCondN g_q48 g48_1 (t := 23) (by decide) (c2N (b := 0) (Nat.zero_le _) (by omega) (by omega)) ?_
  refine xT_iload_n g_q48 g48_4 (rfl) ?_
  refine xT_biV (y := nI (32)) g_q48 g48_5 (by decide) ?_
  refine xT_if_icmpN g_q48 g48_7 (t := 23) (by decide) (c3N (a := s) (b := 32) (by omega) (by omega) (by omega)) ?_
  refine xT_iload_n g_q48 g48_10 (rfl) ?_
  refine xT_iload_n g_q48 g48_11 (rfl) ?_
  refine xT_ishrV (y := -1) g_q48 g48_12 (sh1 s hs) ?_
  refine xT_icV (y := nI (1)) g_q48 g48_13 (by decide) ?_
  refine xT_iandV (y := nI (1)) g_q48 g48_14 (by decide) ?_
  refine xT_icV (y := nI (1)) g_q48 g48_15 (by decide) ?_
  refine xT_if_icmpN g_q48 g48_16 (t := 23) (by decide) (c1N (a := 1) (b := 1) rfl) ?_
  refine xT_icV (y := nI (1)) g_q48 g48_19 (by decide) ?_
  refine xT_goto g_q48 g48_20 (t := 24) (by decide) ?_
  exact xT_ireturn g_q48 g48_24 (by decide +kernel)
theorem t48_0 {s : Nat} (hs : s < 12) : x_To x_tb x_tyl ot dp 48 0 (x_en 0 [.inl (nI (0)), .inl (nI (s))]) [] H 0 0 (some (.inl (nI 0))) H := by
  refine xT_iload_n g_q48 g48_0 (rfl) ?_
  refine xT_ifCondN g_q48 g48_1 (t := 23) (by decide) (c2N (b := 0) (Nat.zero_le _) (by omega) (by omega)) ?_
  refine xT_iload_n g_q48 g48_4 (rfl) ?_
  refine xT_biV (y := nI (32)) g_q48 g48_5 (by decide) ?_
  refine xT_if_icmpN g_q48 g48_7 (t := 23) (by decide) (c3N (a := s) (b := 32) (by omega) (by omega) (by omega)) ?_
  refine xT_iload_n g_q48 g48_10 (rfl) ?_
  refine xT_iload_n g_q48 g48_11 (rfl) ?_
  refine xT_ishrV (y := nI (0)) g_q48 g48_12 (sh0 s hs) ?_
  refine xT_icV (y := nI (1)) g_q48 g48_13 (by decide) ?_
  refine xT_iandV (y := nI (0)) g_q48 g48_14 (by decide) ?_
  refine xT_icV (y := nI (1)) g_q48 g48_15 (by decide) ?_
  refine xT_if_icmpY g_q48 g48_16 (t := 23) (by decide) (c1Y (a := 0) (b := 1) (by omega) (by omega) (by omega)) ?_
  refine xT_icV (y := nI (0)) g_q48 g48_23 (by decide) ?_
  exact xT_ireturn g_q48 g48_24 (by decide +kernel)
end XH33_43
/-! p33 by hand, 44. -/
noncomputable section XH33_44
variable {ot : XO Int32} {dp : Nat} {H H0 : List (XC Int32)}
theorem t142_t {n : Nat} {d : Ld} {K : Ka} {WL : List Nat} {rp rt : Nat → rS} {col : Nat → Nat} (hd : dOk n d) (hL : H0.length ≤ 1000000) (hS : kSt n d K WL H0) (hN : kNe n K WL col) {i ix jx : Nat} (hP : kPh n d K WL rp rt H0 H ix jx) (hi : i < n) : x_To x_tb x_tyl ot (dp + 1) 142 0 (x_en 0 [.inr (some (aB K)), .inl (nI (i)), .inl (-1)]) [] H 0 0 (some (.inr (some (tIn d K i)))) H := by
  have hd12 := hd.1
  have hlen := hP.2.1
  obtain ⟨⟨bf, cb, bf2, bf3, bf5, bf6, bf8, bf9⟩, ⟨pa, cpa, pal, pae⟩, -⟩ := id hS
  have hb := hP.1 _ _ cb
  have hpa := hP.1 _ _ cpa
  have hbl : ¬ 1000000 < aB K := by
    have := lt_of hb (by omega)
    omega
  obtain ⟨fsi, yi, sti, hpi, hfi⟩ := (hP.2.2.2.2.1 i hi).1
  obtain ⟨pli, pci_0, pci_2, pci_3, pci_4, pci_5, pci_6, pci_7, pci_8, pci_9, pci_11⟩ := id hfi
  have hpli : ¬ 1000000 < aP K (i) := by
    have := lt_of hpi (by omega)
    omega
  obtain ⟨-, -, -, -, -, b1, b2, -⟩ := hd.2 i hi
  rcases hz : dSv d i with _ | s
  · rw [show tIn d K i = aH K (i) from if_pos hz]
    have pci_8 : fsi[8]? = some (.inl (-1)) := by
      rw [pci_8, hz]
      rfl
    refine xT_aload_n g_q142 g142_0 (rfl) ?_
    refine xT_getfield g_q142 g142_1 hbl rfl hb rfl bf2 ?_
    refine xT_iload_n g_q142 g142_4 (rfl) ?_
    refine xT_aaload g_q142 g142_5 (by decide +kernel) hpa (ixN (n := 12) (by omega) pal) (ixG (by omega) (pae _ (by omega))) ?_
    refine xT_getfield g_q142 g142_6 hpli rfl hpi rfl pci_8 ?_
    refine xT_istore_n g_q142 g142_9 (by decide) ?_
    refine xT_aload_n g_q142 g142_10 (lkN (by decide) (rfl)) ?_
    refine xT_iload_n g_q142 g142_11 (lkY) ?_
    refine xT_invokevirtual (r := []) (u := some (.inr none)) g_q142 g142_12 (j := 42) (so := 0) (by decide +kernel) g_q42 rfl (by rw [x_rcM hbl hb]; rfl) (t42_0 hd hL hS hN hP) ?_
    refine xT_astore g_q142 g142_15 (by decide) ?_
    refine xT_aload g_q142 g142_17 (lkY) ?_
    refine xT_ifnonnull0 g_q142 g142_19 (t := 32) (by decide) ?_
    refine xT_aload_n g_q142 g142_22 (lkN (by decide) (lkN (by decide) (rfl))) ?_
    refine xT_getfield g_q142 g142_23 hbl rfl hb rfl bf2 ?_
    refine xT_iload_n g_q142 g142_26 (lkN (by decide) (lkN (by decide) (rfl))) ?_
    refine xT_aaload g_q142 g142_27 (by decide +kernel) hpa (ixN (n := 12) (by omega) pal) (ixG (by omega) (pae _ (by omega))) ?_
    refine xT_getfield g_q142 g142_28 hpli rfl hpi rfl pci_2 ?_
    exact xT_areturn g_q142 g142_31 (rfl)
  · have hs : s < n := by omega
    have pci_8 : fsi[8]? = some (.inl (nI s)) := by
      rw [pci_8, hz]
      rfl
    obtain ⟨fss, ys, sts, hps, hfs⟩ := (hP.2.2.2.2.1 s hs).1
    obtain ⟨pls, pcs_0, pcs_2, pcs_3, pcs_4, pcs_5, pcs_6, pcs_7, pcs_8, pcs_9, pcs_11⟩ := id hfs
    have hpls : ¬ 1000000 < aP K (s) := by
      have := lt_of hps (by omega)
      omega
    by_cases e : s < i
    · rw [show tIn d K i = aX K (s) by
        unfold tIn
        rw [if_neg (by omega), if_pos (by omega), hz]
        rfl]
      refine xT_aload_n g_q142 g142_0 (rfl) ?_
      refine xT_getfield g_q142 g142_1 hbl rfl hb rfl bf2 ?_
      refine xT_iload_n g_q142 g142_4 (rfl) ?_
      refine xT_aaload g_q142 g142_5 (by decide +kernel) hpa (ixN (n := 12) (by omega) pal) (ixG (by omega) (pae _ (by omega))) ?_
      refine xT_getfield g_q142 g142_6 hpli rfl hpi rfl pci_8 ?_
      refine xT_istore_n g_q142 g142_9 (by decide) ?_
      refine xT_aload_n g_q142 g142_10 (lkN (by decide) (rfl)) ?_
      refine xT_iload_n g_q142 g142_11 (lkY) ?_
      refine xT_invokevirtual (r := []) (u := some (.inr (some (aP K (s))))) g_q142 g142_12 (j := 42) (so := 0) (by decide +kernel) g_q42 rfl (by rw [x_rcM hbl hb]; rfl) (t42_1 hd hL hS hN hP (s := s) (by omega)) ?_
      refine xT_astore g_q142 g142_15 (by decide) ?_
      refine xT_aload g_q142 g142_17 (lkY) ?_
      refine xT_ifnonnull1 g_q142 g142_19 (t := 32) (by decide) ?_
      refine xT_iload_n g_q142 g142_32 (lkN (by decide) (lkN (by decide) (rfl))) ?_
      refine xT_iload_n g_q142 g142_33 (lkN (by decide) (lkY)) ?_
      refine xT_invokestatic (r := []) (u := some (.inl (nI (1)))) g_q142 g142_34 (j := 48) (so := 2) (by decide +kernel) g_q48 (rfl) (t48_1 (by omega)) ?_
      refine xT_ifCondN g_q142 g142_37 (t := 59) (by decide) (c0N (a := 1) (b := 0) (by omega) (by omega) (by omega)) ?_
      refine xT_iload_n g_q142 g142_40 (lkN (by decide) (lkY)) ?_
      refine xT_iload_n g_q142 g142_41 (lkN (by decide) (lkN (by decide) (rfl))) ?_
      refine xT_if_icmpN g_q142 g142_42 (t := 53) (by decide) (c3N (a := s) (b := i) (by omega) (by omega) (by omega)) ?_
      refine xT_aload g_q142 g142_45 (lkY) ?_
      refine xT_getfield g_q142 g142_47 hpls rfl hps rfl pcs_6 ?_
      refine xT_goto g_q142 g142_50 (t := 58) (by decide) ?_
      exact xT_areturn g_q142 g142_58 (rfl)
    · rw [show tIn d K i = aT K (s) by
        unfold tIn
        rw [if_neg (by omega), if_neg (by omega), hz]
        rfl]
      refine xT_aload_n g_q142 g142_0 (rfl) ?_
      refine xT_getfield g_q142 g142_1 hbl rfl hb rfl bf2 ?_
      refine xT_iload_n g_q142 g142_4 (rfl) ?_
      refine xT_aaload g_q142 g142_5 (by decide +kernel) hpa (ixN (n := 12) (by omega) pal) (ixG (by omega) (pae _ (by omega))) ?_
      refine xT_getfield g_q142 g142_6 hpli rfl hpi rfl pci_8 ?_
      refine xT_istore_n g_q142 g142_9 (by decide) ?_
      refine xT_aload_n g_q142 g142_10 (lkN (by decide) (rfl)) ?_
      refine xT_iload_n g_q142 g142_11 (lkY) ?_
      refine xT_invokevirtual (r := []) (u := some (.inr (some (aP K (s))))) g_q142 g142_12 (j := 42) (so := 0) (by decide +kernel) g_q42 rfl (by rw [x_rcM hbl hb]; rfl) (t42_1 hd hL hS hN hP (s := s) (by omega)) ?_
      refine xT_astore g_q142 g142_15 (by decide) ?_
      refine xT_aload g_q142 g142_17 (lkY) ?_
      refine xT_ifnonnull1 g_q142 g142_19 (t := 32) (by decide) ?_
      refine xT_iload_n g_q142 g142_32 (lkN (by decide) (lkN (by decide) (rfl))) ?_
      refine xT_iload_n g_q142 g142_33 (lkN (by decide) (lkY)) ?_
      refine xT_invokestatic (r := []) (u := some (.inl (nI (1)))) g_q142 g142_34 (j := 48) (so := 2) (by decide +kernel) g_q48 (rfl) (t48_1 (by omega)) ?_
      refine xT_ifCondN g_q142 g142_37 (t := 59) (by decide) (c0N (a := 1) (b := 0) (by omega) (by omega) (by omega)) ?_
      refine xT_iload_n g_q142 g142_40 (lkN (by decide) (lkY)) ?_
      refine xT_iload_n g_q142 g142_41 (lkN (by decide) (lkN (by decide) (rfl))) ?_
      refine xT_if_icmpY g_q142 g142_42 (t := 53) (by decide) (c3Y (a := s) (b := i) (by omega) (by omega) (by omega)) ?_
      refine xT_aload g_q142 g142_53 (lkY) ?_
      refine xT_getfield g_q142 g142_55 hpls rfl hps rfl pcs_4 ?_
      exact xT_areturn g_q142 g142_58 (rfl)
theorem t142_p {n : Nat} {d : Ld} {K : Ka} {WL : List Nat} {rp rt : Nat → rS} {col : Nat → Nat} (hd : dOk n d) (hL : H0.length ≤ 1000000) (hS : kSt n d K WL H0) (hN : kNe n K WL col) {i ix jx : Nat} (hP : kPh n d K WL rp rt H0 H ix jx) (hi : i < n) : x_To x_tb x_tyl ot (dp + 1) 142 0 (x_en 0 [.inr (some (aB K)), .inl (nI (i)), .inl (nI (0))]) [] H 0 0 (some (.inr (some (pIn d K i)))) H := by
  have hd12 := hd.1
  have hlen := hP.2.1
  obtain ⟨⟨bf, cb, bf2, bf3, bf5, bf6, bf8, bf9⟩, ⟨pa, cpa, pal, pae⟩, -⟩ := id hS
  have hb := hP.1 _ _ cb
  have hpa := hP.1 _ _ cpa
  have hbl : ¬ 1000000 < aB K := by
    have := lt_of hb (by omega)
    omega
  obtain ⟨fsi, yi, sti, hpi, hfi⟩ := (hP.2.2.2.2.1 i hi).1
  obtain ⟨pli, pci_0, pci_2, pci_3, pci_4, pci_5, pci_6, pci_7, pci_8, pci_9, pci_11⟩ := id hfi
  have hpli : ¬ 1000000 < aP K (i) := by
    have := lt_of hpi (by omega)
    omega
  obtain ⟨-, -, -, -, -, b1, b2, -⟩ := hd.2 i hi
  rcases hz : dSv d i with _ | s
  · rw [show pIn d K i = aH K (i) from if_pos hz]
    have pci_8 : fsi[8]? = some (.inl (-1)) := by
      rw [pci_8, hz]
      rfl
    refine xT_aload_n g_q142 g142_0 (rfl) ?_
    refine xT_getfield g_q142 g142_1 hbl rfl hb rfl bf2 ?_
    refine xT_iload_n g_q142 g142_4 (rfl) ?_
    refine xT_aaload g_q142 g142_5 (by decide +kernel) hpa (ixN (n := 12) (by omega) pal) (ixG (by omega) (pae _ (by omega))) ?_
    refine xT_getfield g_q142 g142_6 hpli rfl hpi rfl pci_8 ?_
    refine xT_istore_n g_q142 g142_9 (by decide) ?_
    refine xT_aload_n g_q142 g142_10 (lkN (by decide) (rfl)) ?_
    refine xT_iload_n g_q142 g142_11 (lkY) ?_
    refine xT_invokevirtual (r := []) (u := some (.inr none)) g_q142 g142_12 (j := 42) (so := 0) (by decide +kernel) g_q42 rfl (by rw [x_rcM hbl hb]; rfl) (t42_0 hd hL hS hN hP) ?_
    refine xT_astore g_q142 g142_15 (by decide) ?_
    refine xT_aload g_q142 g142_17 (lkY) ?_
    refine xT_ifnonnull0 g_q142 g142_19 (t := 32) (by decide) ?_
    refine xT_aload_n g_q142 g142_22 (lkN (by decide) (lkN (by decide) (rfl))) ?_
    refine xT_getfield g_q142 g142_23 hbl rfl hb rfl bf2 ?_
    refine xT_iload_n g_q142 g142_26 (lkN (by decide) (lkN (by decide) (rfl))) ?_
    refine xT_aaload g_q142 g142_27 (by decide +kernel) hpa (ixN (n := 12) (by omega) pal) (ixG (by omega) (pae _ (by omega))) ?_
    refine xT_getfield g_q142 g142_28 hpli rfl hpi rfl pci_2 ?_
    exact xT_areturn g_q142 g142_31 (rfl)
  · have hs : s < n := by omega
    have pci_8 : fsi[8]? = some (.inl (nI s)) := by
      rw [pci_8, hz]
      rfl
    obtain ⟨fss, ys, sts, hps, hfs⟩ := (hP.2.2.2.2.1 s hs).1
    obtain ⟨pls, pcs_0, pcs_2, pcs_3, pcs_4, pcs_5, pcs_6, pcs_7, pcs_8, pcs_9, pcs_11⟩ := id hfs
    have hpls : ¬ 1000000 < aP K (s) := by
      have := lt_of hps (by omega)
      omega
    by_cases e : s < i
    · rw [show pIn d K i = aV K (s) by
        unfold pIn
        rw [if_neg (by omega), if_pos (by omega), hz]
        rfl]
      refine xT_aload_n g_q142 g142_0 (rfl) ?_
      refine xT_getfield g_q142 g142_1 hbl rfl hb rfl bf2 ?_
      refine xT_iload_n g_q142 g142_4 (rfl) ?_
      refine xT_aaload g_q142 g142_5 (by decide +kernel) hpa (ixN (n := 12) (by omega) pal) (ixG (by omega) (pae _ (by omega))) ?_
      refine xT_getfield g_q142 g142_6 hpli rfl hpi rfl pci_8 ?_
      refine xT_istore_n g_q142 g142_9 (by decide) ?_
      refine xT_aload_n g_q142 g142_10 (lkN (by decide) (rfl)) ?_
      refine xT_iload_n g_q142 g142_11 (lkY) ?_
      refine xT_invokevirtual (r := []) (u := some (.inr (some (aP K (s))))) g_q142 g142_12 (j := 42) (so := 0) (by decide +kernel) g_q42 rfl (by rw [x_rcM hbl hb]; rfl) (t42_1 hd hL hS hN hP (s := s) (by omega)) ?_
      refine xT_astore g_q142 g142_15 (by decide) ?_
      refine xT_aload g_q142 g142_17 (lkY) ?_
      refine xT_ifnonnull1 g_q142 g142_19 (t := 32) (by decide) ?_
      refine xT_iload_n g_q142 g142_32 (lkN (by decide) (lkN (by decide) (rfl))) ?_
      refine xT_iload_n g_q142 g142_33 (lkN (by decide) (lkY)) ?_
      refine xT_invokestatic (r := []) (u := some (.inl (nI (0)))) g_q142 g142_34 (j := 48) (so := 2) (by decide +kernel) g_q48 (rfl) (t48_0 (by omega)) ?_
      refine xT_ifCondY g_q142 g142_37 (t := 59) (by decide) (c0Y (a := 0) (b := 0) rfl) ?_
      refine xT_iload_n g_q142 g142_59 (lkN (by decide) (lkY)) ?_
      refine xT_iload_n g_q142 g142_60 (lkN (by decide) (lkN (by decide) (rfl))) ?_
      refine xT_if_icmpN g_q142 g142_61 (t := 72) (by decide) (c3N (a := s) (b := i) (by omega) (by omega) (by omega)) ?_
      refine xT_aload g_q142 g142_64 (lkY) ?_
      refine xT_getfield g_q142 g142_66 hpls rfl hps rfl pcs_5 ?_
      refine xT_goto g_q142 g142_69 (t := 77) (by decide) ?_
      exact xT_areturn g_q142 g142_77 (rfl)
    · rw [show pIn d K i = a3W K (s) by
        unfold pIn
        rw [if_neg (by omega), if_neg (by omega), hz]
        rfl]
      refine xT_aload_n g_q142 g142_0 (rfl) ?_
      refine xT_getfield g_q142 g142_1 hbl rfl hb rfl bf2 ?_
      refine xT_iload_n g_q142 g142_4 (rfl) ?_
      refine xT_aaload g_q142 g142_5 (by decide +kernel) hpa (ixN (n := 12) (by omega) pal) (ixG (by omega) (pae _ (by omega))) ?_
      refine xT_getfield g_q142 g142_6 hpli rfl hpi rfl pci_8 ?_
      refine xT_istore_n g_q142 g142_9 (by decide) ?_
      refine xT_aload_n g_q142 g142_10 (lkN (by decide) (rfl)) ?_
      refine xT_iload_n g_q142 g142_11 (lkY) ?_
      refine xT_invokevirtual (r := []) (u := some (.inr (some (aP K (s))))) g_q142 g142_12 (j := 42) (so := 0) (by decide +kernel) g_q42 rfl (by rw [x_rcM hbl hb]; rfl) (t42_1 hd hL hS hN hP (s := s) (by omega)) ?_
      refine xT_astore g_q142 g142_15 (by decide) ?_
      refine xT_aload g_q142 g142_17 (lkY) ?_
      refine xT_ifnonnull1 g_q142 g142_19 (t := 32) (by decide) ?_
      refine xT_iload_n g_q142 g142_32 (lkN (by decide) (lkN (by decide) (rfl))) ?_
      refine xT_iload_n g_q142 g142_33 (lkN (by decide) (lkY)) ?_
      refine xT_invokestatic (r := []) (u := some (.inl (nI (0)))) g_q142 g142_34 (j := 48) (so := 2) (by decide +kernel) g_q48 (rfl) (t48_0 (by omega)) ?_
      refine xT_ifCondY g_q142 g142_37 (t := 59) (by decide) (c0Y (a := 0) (b := 0) rfl) ?_
      refine xT_iload_n g_q142 g142_59 (lkN (by decide) (lkY)) ?_
      refine xT_iload_n g_q142 g142_60 (lkN (by decide) (lkN (by decide) (rfl))) ?_
      refine xT_if_icmpY g_q142 g142_61 (t := 72) (by decide) (c3Y (a := s) (b := i) (by omega) (by omega) (by omega)) ?_
      refine xT_aload g_q142 g142_72 (lkY) ?_
      refine xT_getfield g_q142 g142_74 hpls rfl hps rfl pcs_3 ?_
      exact xT_areturn g_q142 g142_77 (rfl)
end XH33_44
/-! p33 by hand, 45. -/
noncomputable section XH33_45
variable {ot : XO Int32} {dp : Nat} {H H0 : List (XC Int32)}
theorem t141_l {n : Nat} {d : Ld} {K : Ka} {WL : List Nat} {rp rt : Nat → rS} {col : Nat → Nat} (hd : dOk n d) (hL : H0.length ≤ 1000000) (hS : kSt n d K WL H0) (hN : kNe n K WL col) (hrt : rdT d rt) : ∀ (k i : Nat) (H : List (XC Int32)) (L : List (Nat × XV Int32)), i + k = n → kPh n d K WL rp rt H0 H i 0 → x_lk L 0 = some (.inr (some (aB K))) → x_lk L 1 = some (.inl ((dYr d))) → x_lk L 2 = some (.inl (nI (1))) → x_lk L 3 = some (.inl (nI (i))) → ∃ H2, x_To x_tb x_tyl ot (dp + 5) 141 2 L [] H 0 0 none H2 ∧ kPh n d K WL rp rt H0 H2 n 0 := by
  intro k
  induction k with
  | zero =>
    intro i H L hi hP l0 l1 l2 l3
    obtain rfl : n = i := by omega
    have hd12 := hd.1
    have hlen := hP.2.1
    obtain ⟨⟨bf, cb, bf2, bf3, bf5, bf6, bf8, bf9⟩, ⟨pa, cpa, pal, pae⟩, -⟩ := id hS
    have hb := hP.1 _ _ cb
    have hpa := hP.1 _ _ cpa
    have hbl : ¬ 1000000 < aB K := by
      have := lt_of hb (by omega)
      omega
    refine ⟨H, ?_, hP⟩
    refine xT_iload_n g_q141 g141_2 (l3) ?_
    refine xT_aload_n g_q141 g141_3 (l0) ?_
    refine xT_getfield g_q141 g141_4 hbl rfl hb rfl bf3 ?_
    refine xT_if_icmpY g_q141 g141_7 (t := 88) (by decide) (c3Y (a := n) (b := n) (Nat.le_refl _) (by omega) (by omega)) ?_
    exact xT_return_ g_q141 g141_88 (rfl)
  | succ k ih =>
    intro i H L hi hP l0 l1 l2 l3
    have hin : i < n := by omega
    have hd12 := hd.1
    have hlen := hP.2.1
    obtain ⟨⟨bf, cb, bf2, bf3, bf5, bf6, bf8, bf9⟩, ⟨pa, cpa, pal, pae⟩, -⟩ := id hS
    have hb := hP.1 _ _ cb
    have hpa := hP.1 _ _ cpa
    have hbl : ¬ 1000000 < aB K := by
      have := lt_of hb (by omega)
      omega
    obtain ⟨fsi, yi, sti, hpi, hfi⟩ := (hP.2.2.2.2.1 i hin).1
    obtain ⟨pli, pci_0, pci_2, pci_3, pci_4, pci_5, pci_6, pci_7, pci_8, pci_9, pci_11⟩ := id hfi
    have hpli : ¬ 1000000 < aP K (i) := by
      have := lt_of hpi (by omega)
      omega
    have y1_ := t142_t (ot := ot) (dp := dp + 3) hd hL hS hN hP hin
    have hI := tIn_at hd hL hS hN hP hin
    obtain ⟨⟨mW1, mW2, mW3, mW4, mW5⟩, ⟨cc1, cc2, cc3, cc4, cc5⟩, -, -, -⟩ := id hN
    obtain ⟨mi1, mi2, mi3, mi4, mi5⟩ := mW5 i hin
    obtain ⟨ci1, ci2, ci3, ci4, ci5⟩ := cc5 i hin
    have mv : ∀ (x : Nat) z, c3R H0 WL x z → c3R H [aOt K, a3N2 K, aX K i, aXi K i] x z := fun x z h => c3R_mv hP.1 (fun y hy => by
      simp only [List.mem_cons, List.not_mem_nil, or_false] at hy
      rcases hy with rfl | rfl | rfl | rfl
      · exact mW1
      · exact mW2
      · exact mi2
      · exact mi3) h
    have hok := pgT_ok hd hrt hin
    have hC := cC_mv mv ((hS.2.2.1 i hin).1 (inX d (dTn d) (dTv d) rt i))
    have hC := cC_pt hC
    have hSe := cS_mv mv (hS.2.2.2.2 i (inX d (dTn d) (dTv d) rt i))
    obtain ⟨sp, c2, c3, c4, c5, c6, c7, c8, c9, c10, bs, hw, lw, nf, of, hnl, hol, h4⟩ := run4 hP.2.2.1 (hP.2.2.2.2.1 i hin).2.2 (inj4 (cne cc1 cc4 (by decide)) (cne cc1 ci3 (by decide)) (cne cc1 ci5 (by decide)) (cne cc4 ci3 (by decide)) (cne cc4 ci5 (by decide)) (cne ci3 ci5 (by decide)))
    have hot := hm_at h4 (i := 0) rfl rfl
    have hot_ := lt_of hot (by omega)
    have hnu_ := lt_of (hm_at h4 (i := 1) rfl rfl) (by omega)
    have hob_ := lt_of (hm_at h4 (i := 2) rfl rfl) (by omega)
    have hoi_ := lt_of (hm_at h4 (i := 3) rfl rfl) (by omega)
    have hot0 : ¬ 1000000 < aOt K := by omega
    obtain ⟨G1, y2_, hN1⟩ := t66 (ot := ot) (dp := dp + 3) (se := aTw K) (inp := tIn d K i) (p := pgT d i (inX d (dTn d) (dTv d) rt i)) hot0 (by omega) (by omega) (by omega) hC hok.1 hok.2.1 hnl hol h4
    obtain ⟨nf1, of1, ln1, hw1, lw1, h41, -⟩ := id hN1
    have hot1 := hm_at h41 (i := 0) rfl rfl
    obtain ⟨G2, y3_, hN2⟩ := t116 (ot := ot) (dp := dp) hot0 (by omega) (by omega) (by omega) hC hSe hI hok hN1
    rw [← hrt i] at y3_ hN2
    obtain ⟨-, -, -, kp1⟩ := cN_run hN1
    obtain ⟨-, -, -, kp2⟩ := cN_run hN2
    have hp2 := kp2 _ _ hpi (cne ci1 cc1 (by decide)) (cne ci1 cc4 (by decide)) (cne ci1 ci3 (by decide)) (cne ci1 ci5 (by decide))
    have hb1 := kp1 _ _ hb (c3R_ne cb mW1) (c3R_ne cb mW2) (c3R_ne cb mi2) (c3R_ne cb mi3)
    have hbl1 := hbl
    have hP3 := kPh_1 hN hP hin hN2 hpi hfi (Nat.zero_le n)
    obtain ⟨H3, x3, x4⟩ := ih (i + 1) _ (x_st (x_st (L) 4 (.inr (some (aP K (i))))) 3 (.inl (nI (i + 1)))) (by omega) hP3 (lkN (by decide) (lkN (by decide) (l0))) (lkN (by decide) (lkN (by decide) (l1))) (lkN (by decide) (lkN (by decide) (l2))) (lkY)
    refine ⟨H3, ?_, x4⟩
    have pre : x_To x_tb x_tyl ot (dp + 5) 141 42 (x_st (L) 4 (.inr (some (aP K (i))))) [] H 0 0 none H3 → x_To x_tb x_tyl ot (dp + 5) 141 2 L [] H 0 0 none H3 := fun hk => by
      by_cases cst : sti = nI 5
      · skip
        refine xT_iload_n g_q141 g141_2 (l3) ?_
        refine xT_aload_n g_q141 g141_3 (l0) ?_
        refine xT_getfield g_q141 g141_4 hbl rfl hb rfl bf3 ?_
        refine xT_if_icmpN g_q141 g141_7 (t := 88) (by decide) (c3N (a := i) (b := n) (by omega) (by omega) (by omega)) ?_
        refine xT_aload_n g_q141 g141_10 (l0) ?_
        refine xT_getfield g_q141 g141_11 hbl rfl hb rfl bf2 ?_
        refine xT_iload_n g_q141 g141_14 (l3) ?_
        refine xT_aaload g_q141 g141_15 (by decide +kernel) hpa (ixN (n := 12) (by omega) pal) (ixG (by omega) (pae _ (by omega))) ?_
        refine xT_astore g_q141 g141_16 (by decide) ?_
        refine xT_aload g_q141 g141_18 (lkY) ?_
        refine xT_getfield g_q141 g141_20 hpli rfl hpi rfl pci_9 ?_
        refine xT_icV (y := nI (5)) g_q141 g141_23 (by decide) ?_
        refine xT_if_icmpN g_q141 g141_24 (t := 42) (by decide) (decide_eq_false (fun z => z cst)) ?_
        refine xT_iload_n g_q141 g141_27 (lkN (by decide) (l2)) ?_
        refine xT_ifCondY g_q141 g141_28 (t := 42) (by decide) (c1Y (a := 1) (b := 0) (by omega) (by omega) (by omega)) ?_
        exact hk
      · skip
        refine xT_iload_n g_q141 g141_2 (l3) ?_
        refine xT_aload_n g_q141 g141_3 (l0) ?_
        refine xT_getfield g_q141 g141_4 hbl rfl hb rfl bf3 ?_
        refine xT_if_icmpN g_q141 g141_7 (t := 88) (by decide) (c3N (a := i) (b := n) (by omega) (by omega) (by omega)) ?_
        refine xT_aload_n g_q141 g141_10 (l0) ?_
        refine xT_getfield g_q141 g141_11 hbl rfl hb rfl bf2 ?_
        refine xT_iload_n g_q141 g141_14 (l3) ?_
        refine xT_aaload g_q141 g141_15 (by decide +kernel) hpa (ixN (n := 12) (by omega) pal) (ixG (by omega) (pae _ (by omega))) ?_
        refine xT_astore g_q141 g141_16 (by decide) ?_
        refine xT_aload g_q141 g141_18 (lkY) ?_
        refine xT_getfield g_q141 g141_20 hpli rfl hpi rfl pci_9 ?_
        refine xT_icV (y := nI (5)) g_q141 g141_23 (by decide) ?_
        refine xT_if_icmpY g_q141 g141_24 (t := 42) (by decide) (decide_eq_true cst) ?_
        exact hk
    refine pre ?_
    refine xT_aload_n g_q141 g141_42 (lkN (by decide) (l0)) ?_
    refine xT_getfield g_q141 g141_43 hbl rfl hb rfl bf9 ?_
    refine xT_aload g_q141 g141_46 (lkY) ?_
    refine xT_getfield g_q141 g141_48 hpli rfl hpi rfl pci_0 ?_
    refine xT_aload_n g_q141 g141_51 (lkN (by decide) (l0)) ?_
    refine xT_getfield g_q141 g141_52 hbl rfl hb rfl bf6 ?_
    refine xT_aload_n g_q141 g141_55 (lkN (by decide) (l0)) ?_
    refine xT_iload_n g_q141 g141_56 (lkN (by decide) (l3)) ?_
    refine xT_icV (y := -1) g_q141 g141_57 (by decide) ?_
    refine xT_invokevirtual (r := [.inr (some (aTw K)), .inr (some (a3C K (i))), .inr (some (aOt K))]) (u := some (.inr (some (tIn d K i)))) g_q141 g141_58 (j := 142) (so := 0) (by decide +kernel) g_q142 rfl (by rw [x_rcM hbl hb]; rfl) (y1_) ?_
    refine xT_aload g_q141 g141_61 (lkY) ?_
    refine xT_getfield g_q141 g141_63 hpli rfl hpi rfl pci_6 ?_
    refine xT_iload_n g_q141 g141_66 (lkN (by decide) (l1)) ?_
    refine xT_invokevirtual (r := []) (u := none) g_q141 g141_67 (j := 66) (so := 0) (by decide +kernel) g_q66 rfl (by rw [x_rcM hot0 hot]; rfl) (y2_) ?_
    refine xT_aload g_q141 g141_70 (lkY) ?_
    refine xT_aload_n g_q141 g141_72 (lkN (by decide) (l0)) ?_
    refine xT_getfield g_q141 g141_73 hbl1 rfl hb1 rfl bf9 ?_
    refine xT_invokevirtual (r := [.inr (some (aP K (i)))]) (u := some (.inl ((rEn (rt i))))) g_q141 g141_76 (j := 116) (so := 0) (by decide +kernel) g_q116 rfl (by rw [x_rcM hot0 hot1]; rfl) (y3_) ?_
    refine xT_putfield g_q141 g141_79 (ci := 10) (j := 7) rfl hp2 rfl (by rw [decide_eq_true (show 7 < fsi.length by omega)]; rfl) ?_
    refine xT_iincV (y := nI (i + 1)) g_q141 g141_82 (lkN (by decide) (l3)) (by decide) (bIncN _) ?_
    refine xT_goto g_q141 g141_85 (t := 2) (by decide) ?_
    exact x3
end XH33_45
/-! p33 by hand, 46. -/
noncomputable section XH33_46
variable {ot : XO Int32} {dp : Nat} {H H0 : List (XC Int32)}
theorem t141 {n : Nat} {d : Ld} {K : Ka} {WL : List Nat} {rp rt : Nat → rS} {col : Nat → Nat} (hd : dOk n d) (hL : H0.length ≤ 1000000) (hS : kSt n d K WL H0) (hN : kNe n K WL col) (hrt : rdT d rt) (hP : kPh n d K WL rp rt H0 H 0 0) : ∃ H2, x_To x_tb x_tyl ot (dp + 5) 141 0 (x_en 0 [.inr (some (aB K)), .inl ((dYr d)), .inl (nI (1))]) [] H 0 0 none H2 ∧ kPh n d K WL rp rt H0 H2 n 0 := by
  obtain ⟨H2, x1, x2⟩ := t141_l (ot := ot) (dp := dp) hd hL hS hN hrt n 0 H (x_st ((x_en 0 [.inr (some (aB K)), .inl ((dYr d)), .inl (nI (1))])) 3 (.inl (nI (0)))) (by omega) hP (lkN (by decide) (rfl)) (lkN (by decide) (rfl)) (lkN (by decide) (rfl)) (lkY)
  refine ⟨H2, ?_, x2⟩
  refine xT_icV (y := nI (0)) g_q141 g141_0 (by decide) ?_
  refine xT_istore_n g_q141 g141_1 (by decide) ?_
  exact x1
end XH33_46
/-! p33 by hand, 47. -/
noncomputable section XH33_47
variable {ot : XO Int32} {dp : Nat} {H H0 : List (XC Int32)}
theorem t144_l {n : Nat} {d : Ld} {K : Ka} {WL : List Nat} {rp rt : Nat → rS} {col : Nat → Nat} (hd : dOk n d) (hL : H0.length ≤ 1000000) (hS : kSt n d K WL H0) (hN : kNe n K WL col) (hrp : rdP d rp) (hrt : rdT d rt) : ∀ (k i : Nat) (H : List (XC Int32)) (L : List (Nat × XV Int32)), i + k = n → kPh n d K WL rp rt H0 H n i → x_lk L 0 = some (.inr (some (aB K))) → x_lk L 1 = some (.inl (nI (0))) → x_lk L 2 = some (.inl ((dYr d))) → x_lk L 3 = some (.inl (nI (1))) → x_lk L 4 = some (.inl ((hrm d rp rt i))) → x_lk L 5 = some (.inl (nI (i))) → ∃ H2, x_To x_tb x_tyl ot (dp + 5) 144 6 L [] H 0 0 (some (.inl (hrm d rp rt n))) H2 ∧ kPh n d K WL rp rt H0 H2 n n := by
  intro k
  induction k with
  | zero =>
    intro i H L hi hP l0 l1 l2 l3 l4 l5
    obtain rfl : n = i := by omega
    have hd12 := hd.1
    have hlen := hP.2.1
    obtain ⟨⟨bf, cb, bf2, bf3, bf5, bf6, bf8, bf9⟩, ⟨pa, cpa, pal, pae⟩, -⟩ := id hS
    have hb := hP.1 _ _ cb
    have hpa := hP.1 _ _ cpa
    have hbl : ¬ 1000000 < aB K := by
      have := lt_of hb (by omega)
      omega
    refine ⟨H, ?_, hP⟩
    refine xT_iload g_q144 g144_6 (l5) ?_
    refine xT_aload_n g_q144 g144_8 (l0) ?_
    refine xT_getfield g_q144 g144_9 hbl rfl hb rfl bf3 ?_
    refine xT_if_icmpY g_q144 g144_12 (t := 159) (by decide) (c3Y (a := n) (b := n) (Nat.le_refl _) (by omega) (by omega)) ?_
    refine xT_iload g_q144 g144_159 (l4) ?_
    exact xT_ireturn g_q144 g144_161 (rfl)
  | succ k ih =>
    intro i H L hi hP l0 l1 l2 l3 l4 l5
    have hin : i < n := by omega
    have hd12 := hd.1
    have hlen := hP.2.1
    obtain ⟨⟨bf, cb, bf2, bf3, bf5, bf6, bf8, bf9⟩, ⟨pa, cpa, pal, pae⟩, -⟩ := id hS
    have hb := hP.1 _ _ cb
    have hpa := hP.1 _ _ cpa
    have hbl : ¬ 1000000 < aB K := by
      have := lt_of hb (by omega)
      omega
    obtain ⟨fsi, yi, sti, hpi, hfi⟩ := (hP.2.2.2.2.1 i hin).1
    obtain ⟨pli, pci_0, pci_2, pci_3, pci_4, pci_5, pci_6, pci_7, pci_8, pci_9, pci_11⟩ := id hfi
    have hpli : ¬ 1000000 < aP K (i) := by
      have := lt_of hpi (by omega)
      omega
    have y1_ := t142_p (ot := ot) (dp := dp + 3) hd hL hS hN hP hin
    have hI := pIn_at hd hL hS hN hP hin
    obtain ⟨⟨mW1, mW2, mW3, mW4, mW5⟩, ⟨cc1, cc2, cc3, cc4, cc5⟩, -, -, eq9⟩ := id hN
    obtain ⟨mi1, mi2, mi3, mi4, mi5⟩ := mW5 i hin
    obtain ⟨ci1, ci2, ci3, ci4, ci5⟩ := cc5 i hin
    have mv : ∀ (x : Nat) z, c3R H0 WL x z → c3R H [aOu K, a3N1 K, aV K i, aVi K i] x z := fun x z h => c3R_mv hP.1 (fun y hy => by
      simp only [List.mem_cons, List.not_mem_nil, or_false] at hy
      rcases hy with rfl | rfl | rfl | rfl
      · exact mW3
      · exact mW4
      · exact mi4
      · exact mi5) h
    have hok := pgP_ok hd hrp hin
    have hC := cC_mv mv ((hS.2.2.1 i hin).1 (inX d (dWn d) (dWv d) rp i))
    have hSe := cS_mv mv (hS.2.2.2.1 i (inX d (dWn d) (dWv d) rp i))
    obtain ⟨sp, c2, c3, c4, c5, c6, c7, c8, c9, c10, bs, hw, lw, nf, of, hnl, hol, h4⟩ := run4 hP.2.2.2.1 (hP.2.2.2.2.1 i hin).2.1 (inj4 (cne cc2 cc3 (by decide)) (cne cc2 ci2 (by decide)) (cne cc2 ci4 (by decide)) (cne cc3 ci2 (by decide)) (cne cc3 ci4 (by decide)) (cne ci2 ci4 (by decide)))
    have hot := hm_at h4 (i := 0) rfl rfl
    have hot_ := lt_of hot (by omega)
    have hnu_ := lt_of (hm_at h4 (i := 1) rfl rfl) (by omega)
    have hob_ := lt_of (hm_at h4 (i := 2) rfl rfl) (by omega)
    have hoi_ := lt_of (hm_at h4 (i := 3) rfl rfl) (by omega)
    have hot0 : ¬ 1000000 < aOu K := by omega
    obtain ⟨G1, y2_, hN1⟩ := t66 (ot := ot) (dp := dp + 3) (se := aF1 K) (inp := pIn d K i) (p := pgP d i (inX d (dWn d) (dWv d) rp i)) hot0 (by omega) (by omega) (by omega) hC hok.1 hok.2.1 hnl hol h4
    obtain ⟨nf1, of1, ln1, hw1, lw1, h41, -⟩ := id hN1
    have hot1 := hm_at h41 (i := 0) rfl rfl
    obtain ⟨G2, y3_, hN2⟩ := t116 (ot := ot) (dp := dp) hot0 (by omega) (by omega) (by omega) hC hSe hI hok hN1
    rw [← hrp i] at y3_ hN2
    obtain ⟨-, -, -, kp1⟩ := cN_run hN1
    have hb1 := kp1 _ _ hb (c3R_ne cb mW3) (c3R_ne cb mW4) (c3R_ne cb mi4) (c3R_ne cb mi5)
    have hbl1 := hbl
    have hP3 := kPh_2 hN hP hin hN2 (Nat.le_refl n)
    have hb2 := hP3.1 _ _ cb
    have hlen2 := hP3.2.1
    have hbl2 := hbl
    have hpa2 := hP3.1 _ _ cpa
    obtain ⟨fs2, y2, st2, hp2, hf2⟩ := (hP3.2.2.2.2.1 i hin).1
    obtain ⟨pl2, pc2_0, pc2_2, pc2_3, pc2_4, pc2_5, pc2_6, pc2_7, pc2_8, pc2_9, pc2_11⟩ := id hf2
    have hpl2 : ¬ 1000000 < aP K (i) := by
      have := lt_of hp2 (by omega)
      omega
    obtain ⟨⟨oX, hx1, hx2, hx3, hx4⟩, fst, hpt, pt7⟩ := hP3.2.2.2.2.2.1 i hin
    obtain ⟨oV, hv1, hv2, hv3, hv4⟩ := hP3.2.2.2.2.2.2 i (Nat.lt_succ_self i)
    have hov := hv1
    have z1 := lt_of hv1 (by omega)
    have z2 := lt_of hv2 (by omega)
    have z3 := lt_of hx1 (by omega)
    have z4 := lt_of hx2 (by omega)
    have hov0 : ¬ 1000000 < aV K i := by omega
    have y4 := t83 (ot := ot) (dp := dp + 4) (by omega) (by omega) hv2 hx2 hv3 hx3 (rdP_12 hd hrp hin) hv4 (fun em k hk => hx4 k (by omega)) hov0 (by omega) hv1 hx1 (rdT_12 hd hrt hin)
    have pre : ∀ H3, x_To x_tb x_tyl ot (dp + 5) 144 58 (x_st (L) 6 (.inr (some (aP K (i))))) [] H 0 0 (some (.inl (hrm d rp rt n))) H3 → x_To x_tb x_tyl ot (dp + 5) 144 6 L [] H 0 0 (some (.inl (hrm d rp rt n))) H3 := fun H3 hk => by
      by_cases cst : sti = nI 5
      · skip
        refine xT_iload g_q144 g144_6 (l5) ?_
        refine xT_aload_n g_q144 g144_8 (l0) ?_
        refine xT_getfield g_q144 g144_9 hbl rfl hb rfl bf3 ?_
        refine xT_if_icmpN g_q144 g144_12 (t := 159) (by decide) (c3N (a := i) (b := n) (by omega) (by omega) (by omega)) ?_
        refine xT_aload_n g_q144 g144_15 (l0) ?_
        refine xT_getfield g_q144 g144_16 hbl rfl hb rfl bf2 ?_
        refine xT_iload g_q144 g144_19 (l5) ?_
        refine xT_aaload g_q144 g144_21 (by decide +kernel) hpa (ixN (n := 12) (by omega) pal) (ixG (by omega) (pae _ (by omega))) ?_
        refine xT_astore g_q144 g144_22 (by decide) ?_
        refine xT_aload g_q144 g144_24 (lkY) ?_
        refine xT_getfield g_q144 g144_26 hpli rfl hpi rfl pci_9 ?_
        refine xT_icV (y := nI (5)) g_q144 g144_29 (by decide) ?_
        refine xT_if_icmpN g_q144 g144_30 (t := 58) (by decide) (decide_eq_false (fun z => z cst)) ?_
        refine xT_iload_n g_q144 g144_33 (lkN (by decide) (l3)) ?_
        refine xT_ifCondY g_q144 g144_34 (t := 58) (by decide) (c1Y (a := 1) (b := 0) (by omega) (by omega) (by omega)) ?_
        exact hk
      · skip
        refine xT_iload g_q144 g144_6 (l5) ?_
        refine xT_aload_n g_q144 g144_8 (l0) ?_
        refine xT_getfield g_q144 g144_9 hbl rfl hb rfl bf3 ?_
        refine xT_if_icmpN g_q144 g144_12 (t := 159) (by decide) (c3N (a := i) (b := n) (by omega) (by omega) (by omega)) ?_
        refine xT_aload_n g_q144 g144_15 (l0) ?_
        refine xT_getfield g_q144 g144_16 hbl rfl hb rfl bf2 ?_
        refine xT_iload g_q144 g144_19 (l5) ?_
        refine xT_aaload g_q144 g144_21 (by decide +kernel) hpa (ixN (n := 12) (by omega) pal) (ixG (by omega) (pae _ (by omega))) ?_
        refine xT_astore g_q144 g144_22 (by decide) ?_
        refine xT_aload g_q144 g144_24 (lkY) ?_
        refine xT_getfield g_q144 g144_26 hpli rfl hpi rfl pci_9 ?_
        refine xT_icV (y := nI (5)) g_q144 g144_29 (by decide) ?_
        refine xT_if_icmpY g_q144 g144_30 (t := 58) (by decide) (decide_eq_true cst) ?_
        exact hk
    by_cases ce : rEn (rp i) = rEn (rt i)
    rotate_left
    · skip
      have eh := hrm_y (d := d) (wrg_e ce)
      obtain ⟨H3, x3, x4⟩ := ih (i + 1) G2 (x_st (x_st (x_st (x_st (L) 6 (.inr (some (aP K (i))))) 7 (.inl ((rEn (rp i))))) 4 (.inl ((x_bin 0 (hrm d rp rt i) (dWt d i))))) 5 (.inl (nI (i + 1)))) (by omega) hP3 (lkN (by decide) (lkN (by decide) (lkN (by decide) (lkN (by decide) (l0))))) (lkN (by decide) (lkN (by decide) (lkN (by decide) (lkN (by decide) (l1))))) (lkN (by decide) (lkN (by decide) (lkN (by decide) (lkN (by decide) (l2))))) (lkN (by decide) (lkN (by decide) (lkN (by decide) (lkN (by decide) (l3))))) (by rw [eh]; exact (lkN (by decide) (lkY))) (lkY)
      refine ⟨H3, pre H3 ?_, x4⟩
      refine xT_iload_n g_q144 g144_58 (lkN (by decide) (l1)) ?_
      refine xT_iload g_q144 g144_59 (lkN (by decide) (l5)) ?_
      refine xT_invokestatic (r := []) (u := some (.inl (nI (0)))) g_q144 g144_61 (j := 48) (so := 2) (by decide +kernel) g_q48 (rfl) (t48_0 (by omega)) ?_
      refine xT_ifCondN g_q144 g144_64 (t := 153) (by decide) (c1N (a := 0) (b := 0) rfl) ?_
      refine xT_aload_n g_q144 g144_67 (lkN (by decide) (l0)) ?_
      refine xT_getfield g_q144 g144_68 hbl rfl hb rfl bf8 ?_
      refine xT_aload g_q144 g144_71 (lkY) ?_
      refine xT_getfield g_q144 g144_73 hpli rfl hpi rfl pci_0 ?_
      refine xT_iload_n g_q144 g144_76 (lkN (by decide) (l3)) ?_
      refine xT_ifCondN g_q144 g144_77 (t := 87) (by decide) (c0N (a := 1) (b := 0) (by omega) (by omega) (by omega)) ?_
      refine xT_aload_n g_q144 g144_80 (lkN (by decide) (l0)) ?_
      refine xT_getfield g_q144 g144_81 hbl rfl hb rfl bf5 ?_
      refine xT_goto g_q144 g144_84 (t := 92) (by decide) ?_
      refine xT_aload_n g_q144 g144_92 (lkN (by decide) (l0)) ?_
      refine xT_iload g_q144 g144_93 (lkN (by decide) (l5)) ?_
      refine xT_iload_n g_q144 g144_95 (lkN (by decide) (l1)) ?_
      refine xT_invokevirtual (r := [.inr (some (aF1 K)), .inr (some (a3C K (i))), .inr (some (aOu K))]) (u := some (.inr (some (pIn d K i)))) g_q144 g144_96 (j := 142) (so := 0) (by decide +kernel) g_q142 rfl (by rw [x_rcM hbl hb]; rfl) (y1_) ?_
      refine xT_aload g_q144 g144_99 (lkY) ?_
      refine xT_getfield g_q144 g144_101 hpli rfl hpi rfl pci_5 ?_
      refine xT_iload_n g_q144 g144_104 (lkN (by decide) (l2)) ?_
      refine xT_invokevirtual (r := []) (u := none) g_q144 g144_105 (j := 66) (so := 0) (by decide +kernel) g_q66 rfl (by rw [x_rcM hot0 hot]; rfl) (y2_) ?_
      refine xT_aload_n g_q144 g144_108 (lkN (by decide) (l0)) ?_
      refine xT_getfield g_q144 g144_109 hbl1 rfl hb1 rfl bf8 ?_
      refine xT_invokevirtual (r := []) (u := some (.inl ((rEn (rp i))))) g_q144 g144_112 (j := 116) (so := 0) (by decide +kernel) g_q116 rfl (by rw [x_rcM hot0 hot1]; rfl) (y3_) ?_
      refine xT_istore g_q144 g144_115 (by decide) ?_
      refine xT_iload g_q144 g144_117 (lkY) ?_
      refine xT_aload g_q144 g144_119 (lkN (by decide) (lkY)) ?_
      refine xT_getfield g_q144 g144_121 hpl2 rfl hpt rfl pt7 ?_
      refine xT_if_icmpY g_q144 g144_124 (t := 143) (by decide) (decide_eq_true ce) ?_
      refine xT_iload g_q144 g144_143 (lkN (by decide) (lkN (by decide) (l4))) ?_
      refine xT_aload g_q144 g144_145 (lkN (by decide) (lkY)) ?_
      refine xT_getfield g_q144 g144_147 hpl2 rfl hp2 rfl pc2_11 ?_
      refine xT_iaddV (y := (x_bin 0 (hrm d rp rt i) (dWt d i))) g_q144 g144_150 (rfl) ?_
      refine xT_istore g_q144 g144_151 (by decide) ?_
      refine xT_iincV (y := nI (i + 1)) g_q144 g144_153 (lkN (by decide) (lkN (by decide) (lkN (by decide) (l5)))) (by decide) (bIncN _) ?_
      refine xT_goto g_q144 g144_156 (t := 6) (by decide) ?_
      exact x3
    by_cases cl : lkB (rOs (rp i)) (rOv (rp i)) (rOs (rt i)) (rOv (rt i)) = true
    · have y4_ : x_To x_tb x_tyl ot (dp + 4) 83 0 (x_en 0 [.inr (some (aV K i)), .inr (some (aX K i))]) [] G2 0 0 (some (.inl (nI 1))) G2 := by
        rw [if_pos cl] at y4
        exact y4
      have eh := hrm_n (d := d) (wrg_n ce cl)
      obtain ⟨H3, x3, x4⟩ := ih (i + 1) G2 (x_st (x_st (x_st (L) 6 (.inr (some (aP K (i))))) 7 (.inl ((rEn (rp i))))) 5 (.inl (nI (i + 1)))) (by omega) hP3 (lkN (by decide) (lkN (by decide) (lkN (by decide) (l0)))) (lkN (by decide) (lkN (by decide) (lkN (by decide) (l1)))) (lkN (by decide) (lkN (by decide) (lkN (by decide) (l2)))) (lkN (by decide) (lkN (by decide) (lkN (by decide) (l3)))) (by rw [eh]; exact (lkN (by decide) (lkN (by decide) (lkN (by decide) (l4))))) (lkY)
      refine ⟨H3, pre H3 ?_, x4⟩
      refine xT_iload_n g_q144 g144_58 (lkN (by decide) (l1)) ?_
      refine xT_iload g_q144 g144_59 (lkN (by decide) (l5)) ?_
      refine xT_invokestatic (r := []) (u := some (.inl (nI (0)))) g_q144 g144_61 (j := 48) (so := 2) (by decide +kernel) g_q48 (rfl) (t48_0 (by omega)) ?_
      refine xT_ifCondN g_q144 g144_64 (t := 153) (by decide) (c1N (a := 0) (b := 0) rfl) ?_
      refine xT_aload_n g_q144 g144_67 (lkN (by decide) (l0)) ?_
      refine xT_getfield g_q144 g144_68 hbl rfl hb rfl bf8 ?_
      refine xT_aload g_q144 g144_71 (lkY) ?_
      refine xT_getfield g_q144 g144_73 hpli rfl hpi rfl pci_0 ?_
      refine xT_iload_n g_q144 g144_76 (lkN (by decide) (l3)) ?_
      refine xT_ifCondN g_q144 g144_77 (t := 87) (by decide) (c0N (a := 1) (b := 0) (by omega) (by omega) (by omega)) ?_
      refine xT_aload_n g_q144 g144_80 (lkN (by decide) (l0)) ?_
      refine xT_getfield g_q144 g144_81 hbl rfl hb rfl bf5 ?_
      refine xT_goto g_q144 g144_84 (t := 92) (by decide) ?_
      refine xT_aload_n g_q144 g144_92 (lkN (by decide) (l0)) ?_
      refine xT_iload g_q144 g144_93 (lkN (by decide) (l5)) ?_
      refine xT_iload_n g_q144 g144_95 (lkN (by decide) (l1)) ?_
      refine xT_invokevirtual (r := [.inr (some (aF1 K)), .inr (some (a3C K (i))), .inr (some (aOu K))]) (u := some (.inr (some (pIn d K i)))) g_q144 g144_96 (j := 142) (so := 0) (by decide +kernel) g_q142 rfl (by rw [x_rcM hbl hb]; rfl) (y1_) ?_
      refine xT_aload g_q144 g144_99 (lkY) ?_
      refine xT_getfield g_q144 g144_101 hpli rfl hpi rfl pci_5 ?_
      refine xT_iload_n g_q144 g144_104 (lkN (by decide) (l2)) ?_
      refine xT_invokevirtual (r := []) (u := none) g_q144 g144_105 (j := 66) (so := 0) (by decide +kernel) g_q66 rfl (by rw [x_rcM hot0 hot]; rfl) (y2_) ?_
      refine xT_aload_n g_q144 g144_108 (lkN (by decide) (l0)) ?_
      refine xT_getfield g_q144 g144_109 hbl1 rfl hb1 rfl bf8 ?_
      refine xT_invokevirtual (r := []) (u := some (.inl ((rEn (rp i))))) g_q144 g144_112 (j := 116) (so := 0) (by decide +kernel) g_q116 rfl (by rw [x_rcM hot0 hot1]; rfl) (y3_) ?_
      refine xT_istore g_q144 g144_115 (by decide) ?_
      refine xT_iload g_q144 g144_117 (lkY) ?_
      refine xT_aload g_q144 g144_119 (lkN (by decide) (lkY)) ?_
      refine xT_getfield g_q144 g144_121 hpl2 rfl hpt rfl pt7 ?_
      refine xT_if_icmpN g_q144 g144_124 (t := 143) (by decide) (decide_eq_false (fun z => z ce)) ?_
      refine xT_aload g_q144 g144_127 (lkN (by decide) (lkY)) ?_
      refine xT_getfield g_q144 g144_129 hpl2 rfl hp2 rfl pc2_5 ?_
      refine xT_aload g_q144 g144_132 (lkN (by decide) (lkY)) ?_
      refine xT_getfield g_q144 g144_134 hpl2 rfl hp2 rfl pc2_6 ?_
      refine xT_invokevirtual (r := []) (u := some (.inl (nI (1)))) g_q144 g144_137 (j := 83) (so := 0) (by decide +kernel) g_q83 rfl (by rw [x_rcM hov0 hov]; rfl) (y4_) ?_
      refine xT_ifCondY g_q144 g144_140 (t := 153) (by decide) (c1Y (a := 1) (b := 0) (by omega) (by omega) (by omega)) ?_
      refine xT_iincV (y := nI (i + 1)) g_q144 g144_153 (lkN (by decide) (lkN (by decide) (l5))) (by decide) (bIncN _) ?_
      refine xT_goto g_q144 g144_156 (t := 6) (by decide) ?_
      exact x3
    · have y4_ : x_To x_tb x_tyl ot (dp + 4) 83 0 (x_en 0 [.inr (some (aV K i)), .inr (some (aX K i))]) [] G2 0 0 (some (.inl (nI 0))) G2 := by
        rw [if_neg cl] at y4
        exact y4
      have eh := hrm_y (d := d) (wrg_l ce cl)
      obtain ⟨H3, x3, x4⟩ := ih (i + 1) G2 (x_st (x_st (x_st (x_st (L) 6 (.inr (some (aP K (i))))) 7 (.inl ((rEn (rp i))))) 4 (.inl ((x_bin 0 (hrm d rp rt i) (dWt d i))))) 5 (.inl (nI (i + 1)))) (by omega) hP3 (lkN (by decide) (lkN (by decide) (lkN (by decide) (lkN (by decide) (l0))))) (lkN (by decide) (lkN (by decide) (lkN (by decide) (lkN (by decide) (l1))))) (lkN (by decide) (lkN (by decide) (lkN (by decide) (lkN (by decide) (l2))))) (lkN (by decide) (lkN (by decide) (lkN (by decide) (lkN (by decide) (l3))))) (by rw [eh]; exact (lkN (by decide) (lkY))) (lkY)
      refine ⟨H3, pre H3 ?_, x4⟩
      refine xT_iload_n g_q144 g144_58 (lkN (by decide) (l1)) ?_
      refine xT_iload g_q144 g144_59 (lkN (by decide) (l5)) ?_
      refine xT_invokestatic (r := []) (u := some (.inl (nI (0)))) g_q144 g144_61 (j := 48) (so := 2) (by decide +kernel) g_q48 (rfl) (t48_0 (by omega)) ?_
      refine xT_ifCondN g_q144 g144_64 (t := 153) (by decide) (c1N (a := 0) (b := 0) rfl) ?_
      refine xT_aload_n g_q144 g144_67 (lkN (by decide) (l0)) ?_
      refine xT_getfield g_q144 g144_68 hbl rfl hb rfl bf8 ?_
      refine xT_aload g_q144 g144_71 (lkY) ?_
      refine xT_getfield g_q144 g144_73 hpli rfl hpi rfl pci_0 ?_
      refine xT_iload_n g_q144 g144_76 (lkN (by decide) (l3)) ?_
      refine xT_ifCondN g_q144 g144_77 (t := 87) (by decide) (c0N (a := 1) (b := 0) (by omega) (by omega) (by omega)) ?_
      refine xT_aload_n g_q144 g144_80 (lkN (by decide) (l0)) ?_
      refine xT_getfield g_q144 g144_81 hbl rfl hb rfl bf5 ?_
      refine xT_goto g_q144 g144_84 (t := 92) (by decide) ?_
      refine xT_aload_n g_q144 g144_92 (lkN (by decide) (l0)) ?_
      refine xT_iload g_q144 g144_93 (lkN (by decide) (l5)) ?_
      refine xT_iload_n g_q144 g144_95 (lkN (by decide) (l1)) ?_
      refine xT_invokevirtual (r := [.inr (some (aF1 K)), .inr (some (a3C K (i))), .inr (some (aOu K))]) (u := some (.inr (some (pIn d K i)))) g_q144 g144_96 (j := 142) (so := 0) (by decide +kernel) g_q142 rfl (by rw [x_rcM hbl hb]; rfl) (y1_) ?_
      refine xT_aload g_q144 g144_99 (lkY) ?_
      refine xT_getfield g_q144 g144_101 hpli rfl hpi rfl pci_5 ?_
      refine xT_iload_n g_q144 g144_104 (lkN (by decide) (l2)) ?_
      refine xT_invokevirtual (r := []) (u := none) g_q144 g144_105 (j := 66) (so := 0) (by decide +kernel) g_q66 rfl (by rw [x_rcM hot0 hot]; rfl) (y2_) ?_
      refine xT_aload_n g_q144 g144_108 (lkN (by decide) (l0)) ?_
      refine xT_getfield g_q144 g144_109 hbl1 rfl hb1 rfl bf8 ?_
      refine xT_invokevirtual (r := []) (u := some (.inl ((rEn (rp i))))) g_q144 g144_112 (j := 116) (so := 0) (by decide +kernel) g_q116 rfl (by rw [x_rcM hot0 hot1]; rfl) (y3_) ?_
      refine xT_istore g_q144 g144_115 (by decide) ?_
      refine xT_iload g_q144 g144_117 (lkY) ?_
      refine xT_aload g_q144 g144_119 (lkN (by decide) (lkY)) ?_
      refine xT_getfield g_q144 g144_121 hpl2 rfl hpt rfl pt7 ?_
      refine xT_if_icmpN g_q144 g144_124 (t := 143) (by decide) (decide_eq_false (fun z => z ce)) ?_
      refine xT_aload g_q144 g144_127 (lkN (by decide) (lkY)) ?_
      refine xT_getfield g_q144 g144_129 hpl2 rfl hp2 rfl pc2_5 ?_
      refine xT_aload g_q144 g144_132 (lkN (by decide) (lkY)) ?_
      refine xT_getfield g_q144 g144_134 hpl2 rfl hp2 rfl pc2_6 ?_
      refine xT_invokevirtual (r := []) (u := some (.inl (nI (0)))) g_q144 g144_137 (j := 83) (so := 0) (by decide +kernel) g_q83 rfl (by rw [x_rcM hov0 hov]; rfl) (y4_) ?_
      refine xT_ifCondN g_q144 g144_140 (t := 153) (by decide) (c1N (a := 0) (b := 0) rfl) ?_
      refine xT_iload g_q144 g144_143 (lkN (by decide) (lkN (by decide) (l4))) ?_
      refine xT_aload g_q144 g144_145 (lkN (by decide) (lkY)) ?_
      refine xT_getfield g_q144 g144_147 hpl2 rfl hp2 rfl pc2_11 ?_
      refine xT_iaddV (y := (x_bin 0 (hrm d rp rt i) (dWt d i))) g_q144 g144_150 (rfl) ?_
      refine xT_istore g_q144 g144_151 (by decide) ?_
      refine xT_iincV (y := nI (i + 1)) g_q144 g144_153 (lkN (by decide) (lkN (by decide) (lkN (by decide) (l5)))) (by decide) (bIncN _) ?_
      refine xT_goto g_q144 g144_156 (t := 6) (by decide) ?_
      exact x3
end XH33_47
