/-! The class's night that is thought of: what stands, what each program's run leaves. -/
noncomputable section XK33
/-- addresses: programs, codes, shelves, files, twins, rows of trials and their items (written, twin); the object, its programs, its settings (as at first, as twins), its runners and their numbers -/
abbrev Ka : Type := (Nat → Nat) × (Nat → Nat) × (Nat → Nat) × (Nat → Nat) × (Nat → Nat) × (Nat → Nat) × (Nat → Nat) × (Nat → Nat) × (Nat → Nat) × Nat × Nat × Nat × Nat × Nat × Nat × Nat × Nat
abbrev aP (K : Ka) : Nat → Nat := K.1
abbrev a3C (K : Ka) : Nat → Nat := K.2.1
abbrev aH (K : Ka) : Nat → Nat := K.2.2.1
abbrev a3W (K : Ka) : Nat → Nat := K.2.2.2.1
abbrev aT (K : Ka) : Nat → Nat := K.2.2.2.2.1
abbrev aV (K : Ka) : Nat → Nat := K.2.2.2.2.2.1
abbrev aVi (K : Ka) : Nat → Nat := K.2.2.2.2.2.2.1
abbrev aX (K : Ka) : Nat → Nat := K.2.2.2.2.2.2.2.1
abbrev aXi (K : Ka) : Nat → Nat := K.2.2.2.2.2.2.2.2.1
abbrev aB (K : Ka) : Nat := K.2.2.2.2.2.2.2.2.2.1
abbrev aPA (K : Ka) : Nat := K.2.2.2.2.2.2.2.2.2.2.1
abbrev aF1 (K : Ka) : Nat := K.2.2.2.2.2.2.2.2.2.2.2.1
abbrev aTw (K : Ka) : Nat := K.2.2.2.2.2.2.2.2.2.2.2.2.1
abbrev aOu (K : Ka) : Nat := K.2.2.2.2.2.2.2.2.2.2.2.2.2.1
abbrev a3N1 (K : Ka) : Nat := K.2.2.2.2.2.2.2.2.2.2.2.2.2.2.1
abbrev aOt (K : Ka) : Nat := K.2.2.2.2.2.2.2.2.2.2.2.2.2.2.2.1
abbrev a3N2 (K : Ka) : Nat := K.2.2.2.2.2.2.2.2.2.2.2.2.2.2.2.2
variable {n : Nat} {d : Ld} {K : Ka} {WL As Bs : List Nat} {rp rt : Nat → rS} {H0 H G : List (XC Int32)} {col : Nat → Nat}
-- what is told and not written, from one heap to another
theorem c3R_mv (hf : ∀ (x : Nat) z, c3R H0 Bs x z → G[x]? = some z) (hs : ∀ x, x ∈ As → x ∈ Bs) {x : Nat} {z : XC Int32} (h : c3R H0 Bs x z) : c3R G As x z := ⟨hf x z h, fun k hk => by
  obtain ⟨j, hj⟩ := List.getElem?_of_mem (hs x (List.mem_of_getElem? hk))
  exact h.2 j hj⟩
theorem c3W_mv (mv : ∀ (x : Nat) z, c3R H0 Bs x z → c3R G As x z) {r len m : Nat} {f : Nat → Int32} (h : c3W H0 Bs r len f m) : c3W G As r len f m := by
  obtain ⟨a, l, b, c⟩ := h
  exact ⟨a, l, mv _ _ b, c⟩
theorem cC_mv (mv : ∀ (x : Nat) z, c3R H0 Bs x z → c3R G As x z) {co : Nat} {p : rP} (h : cC H0 Bs co p) : cC G As co p := by
  obtain ⟨a, ro, rl, rr, rn, b, c1, c2, c3, c4⟩ := h
  exact ⟨a, ro, rl, rr, rn, mv _ _ b, c3W_mv mv c1, c3W_mv mv c2, c3W_mv mv c3, c3W_mv mv c4⟩
theorem cS_mv (mv : ∀ (x : Nat) z, c3R H0 Bs x z → c3R G As x z) {se : Nat} {p : rP} (h : cS H0 Bs se p) : cS G As se p := by
  obtain ⟨a, b⟩ := h
  refine ⟨a, ?_⟩
  rcases b with ⟨dr, pr, b1, b2, b3, b4⟩ | ⟨dr, pr, b1, b2⟩
  · exact Or.inl ⟨dr, pr, mv _ _ b1, c3W_mv mv b2, c3W_mv mv b3, b4⟩
  · exact Or.inr ⟨dr, pr, mv _ _ b1, b2⟩
theorem cC_pt {co q : Nat} {x : Nat × (Nat → Int32)} (h : cC G As co (pgP d q x)) : cC G As co (pgT d q x) := by
  obtain ⟨a, ro, rl, rr, rn, b, c1, c2, c3, c4⟩ := h
  exact ⟨a, ro, rl, rr, rn, b, c1, c2, c3, c4⟩
/-- a row: how many, which -/
def cRw (H0 : List (XC Int32)) (As : List Nat) (r nn : Nat) (vv : Nat → Int32) : Prop := ¬ 1000000 < r ∧ ∃ it, c3R H0 As r (.inl (5, [.inr (some it), .inl (nI nn)])) ∧ c3W H0 As it 12 vv nn
theorem cRw_mv (mv : ∀ (x : Nat) z, c3R H0 Bs x z → c3R G As x z) {r nn : Nat} {vv : Nat → Int32} (h : cRw H0 Bs r nn vv) : cRw G As r nn vv := by
  obtain ⟨a, it, b, c⟩ := h
  exact ⟨a, it, mv _ _ b, c3W_mv mv c⟩
theorem c3R_ne {x y : Nat} {z : XC Int32} (h : c3R H0 Bs x z) (hy : y ∈ Bs) : x ≠ y := fun e => by
  obtain ⟨j, hj⟩ := List.getElem?_of_mem hy
  exact h.2 j (by rw [e]; exact hj)
/-- four addresses are as many -/
theorem inj4 {a b c e : Nat} (h1 : a ≠ b) (h2 : a ≠ c) (h3 : a ≠ e) (h4 : b ≠ c) (h5 : b ≠ e) (h6 : c ≠ e) : ∀ (i j : Nat) x, [a, b, c, e][i]? = some x → [a, b, c, e][j]? = some x → i = j := by
  intro i j x hi hj
  rcases i with _ | _ | _ | _ | i
  all_goals rcases j with _ | _ | _ | _ | j
  all_goals first
    | rfl
    | (cases hi; cases hj; contradiction)
    | (cases hi; contradiction)
    | cases hi
    | cases hj
theorem na4 {a b c e x : Nat} (h1 : x ≠ a) (h2 : x ≠ b) (h3 : x ≠ c) (h4 : x ≠ e) : ∀ k : Nat, [a, b, c, e][k]? ≠ some x := fun k hk => by
  rcases k with _ | _ | _ | _ | k
  · cases hk
    exact h1 rfl
  · cases hk
    exact h2 rfl
  · cases hk
    exact h3 rfl
  · cases hk
    exact h4 rfl
  · cases hk
theorem cne {x y u w : Nat} (h1 : col x = u) (h2 : col y = w) (h : u ≠ w) : x ≠ y := fun e => h (by rw [← h1, ← h2, e])
theorem lt_of {a : Nat} {z : XC Int32} (h : H[a]? = some z) (hl : H.length ≤ 1000000) : a < 1000000 := by
  have := (List.getElem?_eq_some_iff.mp h).1
  omega
-- cells
def kRn (H : List (XC Int32)) (R nu : Nat) : Prop := ∃ (sp : Nat) (c2 c3 c4 c5 c6 c7 c8 c9 c10 : XV Int32) (hw lw : Int32) (nf : List (XV Int32)), H[R]? = some (.inl (4, [.inr (some nu), .inr (some sp), c2, c3, c4, c5, c6, c7, c8, c9, c10, .inl hw, .inl lw])) ∧ H[nu]? = some (.inr (0, nf)) ∧ nf.length = 6
def kRw (H : List (XC Int32)) (r it : Nat) : Prop := ∃ (bs : XV Int32) (of : List (XV Int32)), H[r]? = some (.inl (5, [.inr (some it), bs])) ∧ H[it]? = some (.inr (0, of)) ∧ of.length = 12
def k3Ro (H : List (XC Int32)) (r it : Nat) (s : rS) : Prop := ∃ of : List (XV Int32), H[r]? = some (.inl (5, [.inr (some it), .inl (nI (rOs s))])) ∧ H[it]? = some (.inr (0, of)) ∧ of.length = 12 ∧ ∀ k, k < rOs s → of[k]? = some (.inl (rOv s k))
def pcF (d : Ld) (K : Ka) (q : Nat) (fs : List (XV Int32)) (y st : Int32) : Prop := fs.length = 20 ∧ fs[0]? = some (.inr (some (a3C K q))) ∧ fs[2]? = some (.inr (some (aH K q))) ∧ fs[3]? = some (.inr (some (a3W K q))) ∧ fs[4]? = some (.inr (some (aT K q))) ∧ fs[5]? = some (.inr (some (aV K q))) ∧ fs[6]? = some (.inr (some (aX K q))) ∧ fs[7]? = some (.inl y) ∧ fs[8]? = some (.inl (svI (dSv d q))) ∧ fs[9]? = some (.inl st) ∧ fs[11]? = some (.inl (dWt d q))
def kPc (d : Ld) (K : Ka) (q : Nat) (H : List (XC Int32)) : Prop := ∃ (fs : List (XV Int32)) (y st : Int32), H[aP K q]? = some (.inl (10, fs)) ∧ pcF d K q fs y st
def kTe (H : List (XC Int32)) (p : Nat) (x : Int32) : Prop := ∃ fs : List (XV Int32), H[p]? = some (.inl (10, fs)) ∧ fs[7]? = some (.inl x)
/-- what no run of the night writes -/
def kSt (n : Nat) (d : Ld) (K : Ka) (WL : List Nat) (H0 : List (XC Int32)) : Prop :=
  (∃ fs : List (XV Int32), c3R H0 WL (aB K) (.inl (0, fs)) ∧ fs[2]? = some (.inr (some (aPA K))) ∧ fs[3]? = some (.inl (nI n)) ∧ fs[5]? = some (.inr (some (aF1 K))) ∧ fs[6]? = some (.inr (some (aTw K))) ∧ fs[8]? = some (.inr (some (aOu K))) ∧ fs[9]? = some (.inr (some (aOt K)))) ∧
  (∃ ps : List (XV Int32), c3R H0 WL (aPA K) (.inr (2, ps)) ∧ ps.length = 12 ∧ ∀ q, q < n → ps[q]? = some (.inr (some (aP K q)))) ∧
  (∀ q, q < n → (∀ x, cC H0 WL (a3C K q) (pgP d q x)) ∧ cRw H0 WL (aH K q) (dHn d q) (dHv d q) ∧ cRw H0 WL (a3W K q) (dWn d q) (dWv d q) ∧ cRw H0 WL (aT K q) (dTn d q) (dTv d q)) ∧
  (∀ q x, cS H0 WL (aF1 K) (pgP d q x)) ∧ ∀ q x, cS H0 WL (aTw K) (pgT d q x)
/-- what is written is told, and apart -/
def kNe (n : Nat) (K : Ka) (WL : List Nat) (col : Nat → Nat) : Prop :=
  (aOt K ∈ WL ∧ a3N2 K ∈ WL ∧ aOu K ∈ WL ∧ a3N1 K ∈ WL ∧ ∀ q, q < n → aP K q ∈ WL ∧ aX K q ∈ WL ∧ aXi K q ∈ WL ∧ aV K q ∈ WL ∧ aVi K q ∈ WL) ∧
  (col (aOt K) = 0 ∧ col (aOu K) = 0 ∧ col (a3N1 K) = 1 ∧ col (a3N2 K) = 1 ∧ ∀ q, q < n → col (aP K q) = 4 ∧ col (aV K q) = 2 ∧ col (aX K q) = 2 ∧ col (aVi K q) = 3 ∧ col (aXi K q) = 3) ∧
  aOt K ≠ aOu K ∧ a3N1 K ≠ a3N2 K ∧ ∀ q k, q < n → k < n → (aV K q ≠ aX K k ∧ aVi K q ≠ aXi K k) ∧ (q ≠ k → aP K q ≠ aP K k ∧ aV K q ≠ aV K k ∧ aX K q ≠ aX K k ∧ aVi K q ≠ aVi K k ∧ aXi K q ≠ aXi K k)
/-- i twins are rehearsed, j programs -/
def kPh (n : Nat) (d : Ld) (K : Ka) (WL : List Nat) (rp rt : Nat → rS) (H0 H : List (XC Int32)) (i j : Nat) : Prop :=
  (∀ (x : Nat) z, c3R H0 WL x z → H[x]? = some z) ∧ H.length = H0.length ∧ kRn H (aOt K) (a3N2 K) ∧ kRn H (aOu K) (a3N1 K) ∧ (∀ q, q < n → kPc d K q H ∧ kRw H (aV K q) (aVi K q) ∧ kRw H (aX K q) (aXi K q)) ∧ (∀ q, q < i → k3Ro H (aX K q) (aXi K q) (rt q) ∧ kTe H (aP K q) (rEn (rt q))) ∧ ∀ q, q < j → k3Ro H (aV K q) (aVi K q) (rp q)
theorem kRn_mv {R nu : Nat} (h : kRn H R nu) (h1 : ∀ z, H[R]? = some z → G[R]? = some z) (h2 : ∀ z, H[nu]? = some z → G[nu]? = some z) : kRn G R nu := by
  obtain ⟨sp, c2, c3, c4, c5, c6, c7, c8, c9, c10, hw, lw, nf, a, b, c⟩ := h
  exact ⟨sp, c2, c3, c4, c5, c6, c7, c8, c9, c10, hw, lw, nf, h1 _ a, h2 _ b, c⟩
theorem kRw_mv {r it : Nat} (h : kRw H r it) (h1 : ∀ z, H[r]? = some z → G[r]? = some z) (h2 : ∀ z, H[it]? = some z → G[it]? = some z) : kRw G r it := by
  obtain ⟨bs, of, a, b, c⟩ := h
  exact ⟨bs, of, h1 _ a, h2 _ b, c⟩
theorem k3Ro_mv {r it : Nat} {s : rS} (h : k3Ro H r it s) (h1 : ∀ z, H[r]? = some z → G[r]? = some z) (h2 : ∀ z, H[it]? = some z → G[it]? = some z) : k3Ro G r it s := by
  obtain ⟨of, a, b, c⟩ := h
  exact ⟨of, h1 _ a, h2 _ b, c⟩
theorem kPc_mv {q : Nat} (h : kPc d K q H) (h1 : ∀ z, H[aP K q]? = some z → G[aP K q]? = some z) : kPc d K q G := by
  obtain ⟨fs, y, st, a, b⟩ := h
  exact ⟨fs, y, st, h1 _ a, b⟩
theorem kTe_mv {p : Nat} {x : Int32} (h : kTe H p x) (h1 : ∀ z, H[p]? = some z → G[p]? = some z) : kTe G p x := by
  obtain ⟨fs, a, b⟩ := h
  exact ⟨fs, h1 _ a, b⟩
theorem pcF_set {q : Nat} {fs : List (XV Int32)} {y st x : Int32} (h : pcF d K q fs y st) : pcF d K q (fs.set 7 (.inl x)) x st := by
  obtain ⟨a, b0, b2, b3, b4, b5, b6, b7, b8, b9, b11⟩ := h
  have ne : ∀ {j : Nat} {u : XV Int32}, j ≠ 7 → fs[j]? = some u → (fs.set 7 (.inl x))[j]? = some u := fun hj hu => (List.getElem?_set_ne (fun z => hj z.symm)).trans hu
  exact ⟨by rw [List.length_set]; exact a, ne (by decide) b0, ne (by decide) b2, ne (by decide) b3, ne (by decide) b4, ne (by decide) b5, ne (by decide) b6, List.getElem?_set_self (by omega), ne (by decide) b8, ne (by decide) b9, ne (by decide) b11⟩
/-- the cells that a run leaves -/
theorem cN_run {R nu ob oi sp co se inp : Nat} {p : rP} {s : rS} (h : cN H G R nu ob oi sp co se inp p s) : kRn G R nu ∧ k3Ro G ob oi s ∧ G.length = H.length ∧ ∀ (x : Nat) z, H[x]? = some z → x ≠ R → x ≠ nu → x ≠ ob → x ≠ oi → G[x]? = some z := by
  obtain ⟨nf, of, ln, hw, lw, h1, -, h3, -, h5, h6⟩ := h
  exact ⟨⟨_, _, _, _, _, _, _, _, _, _, _, _, _, hm_at h1 (i := 0) rfl rfl, hm_at h1 (i := 1) rfl rfl, h3⟩, ⟨_, hm_at h1 (i := 2) rfl rfl, hm_at h1 (i := 3) rfl rfl, h5, h6⟩, hm_len h1, fun x z hx a b c e => hm_ro h1 hx (na4 a b c e)⟩
theorem k3Ro_w {r it : Nat} {s : rS} (h : k3Ro H r it s) : kRw H r it := by
  obtain ⟨of, a, b, c, -⟩ := h
  exact ⟨_, of, a, b, c⟩
/-- a twin has run, its end stands in the program -/
theorem kPh_1 (hN : kNe n K WL col) {i j : Nat} (hP : kPh n d K WL rp rt H0 H i j) (hi : i < n) {sp co se inp : Nat} {p : rP} (hcn : cN H G (aOt K) (a3N2 K) (aX K i) (aXi K i) sp co se inp p (rt i)) {fs : List (XV Int32)} {y st : Int32} (hfs : H[aP K i]? = some (.inl (10, fs))) (hpf : pcF d K i fs y st) (hj : j ≤ n) : kPh n d K WL rp rt H0 (G.set (aP K i) (.inl (10, fs.set 7 (.inl (rEn (rt i)))))) (i + 1) j := by
  obtain ⟨⟨m1, m2, m3, m4, m5⟩, ⟨c1, c2, c3, c4, c5⟩, e1, e2, e3⟩ := hN
  obtain ⟨p1, p2, p3, p4, p5, p6, p7⟩ := hP
  obtain ⟨g1, g2, g3, g4⟩ := cN_run hcn
  obtain ⟨ci1, ci2, ci3, ci4, ci5⟩ := c5 i hi
  obtain ⟨mi1, mi2, mi3, mi4, mi5⟩ := m5 i hi
  have hG : G[aP K i]? = some (.inl (10, fs)) := g4 _ _ hfs (cne ci1 c1 (by decide)) (cne ci1 c4 (by decide)) (cne ci1 ci3 (by decide)) (cne ci1 ci5 (by decide))
  have kp : ∀ (x : Nat) z, H[x]? = some z → x ≠ aOt K → x ≠ a3N2 K → x ≠ aX K i → x ≠ aXi K i → x ≠ aP K i → (G.set (aP K i) (.inl (10, fs.set 7 (.inl (rEn (rt i))))))[x]? = some z := fun x z h a b c e f => gne (g4 x z h a b c e) (fun w => f w.symm)
  have kg : ∀ (x : Nat) z, G[x]? = some z → x ≠ aP K i → (G.set (aP K i) (.inl (10, fs.set 7 (.inl (rEn (rt i))))))[x]? = some z := fun x z h f => gne h (fun w => f w.symm)
  have kX : ∀ q, q < n → q ≠ i → (∀ z, H[aX K q]? = some z → (G.set (aP K i) (.inl (10, fs.set 7 (.inl (rEn (rt i))))))[aX K q]? = some z) ∧ ∀ z, H[aXi K q]? = some z → (G.set (aP K i) (.inl (10, fs.set 7 (.inl (rEn (rt i))))))[aXi K q]? = some z := fun q hq hqi => by
    obtain ⟨cq1, cq2, cq3, cq4, cq5⟩ := c5 q hq
    obtain ⟨-, eq⟩ := e3 q i hq hi
    obtain ⟨-, -, x3, -, x5⟩ := eq hqi
    exact ⟨fun z h => kp _ z h (cne cq3 c1 (by decide)) (cne cq3 c4 (by decide)) x3 (cne cq3 ci5 (by decide)) (cne cq3 ci1 (by decide)), fun z h => kp _ z h (cne cq5 c1 (by decide)) (cne cq5 c4 (by decide)) (cne cq5 ci3 (by decide)) x5 (cne cq5 ci1 (by decide))⟩
  have kV : ∀ q, q < n → (∀ z, H[aV K q]? = some z → (G.set (aP K i) (.inl (10, fs.set 7 (.inl (rEn (rt i))))))[aV K q]? = some z) ∧ ∀ z, H[aVi K q]? = some z → (G.set (aP K i) (.inl (10, fs.set 7 (.inl (rEn (rt i))))))[aVi K q]? = some z := fun q hq => by
    obtain ⟨cq1, cq2, cq3, cq4, cq5⟩ := c5 q hq
    obtain ⟨⟨v1, v2⟩, -⟩ := e3 q i hq hi
    exact ⟨fun z h => kp _ z h (cne cq2 c1 (by decide)) (cne cq2 c4 (by decide)) v1 (cne cq2 ci5 (by decide)) (cne cq2 ci1 (by decide)), fun z h => kp _ z h (cne cq4 c1 (by decide)) (cne cq4 c4 (by decide)) (cne cq4 ci3 (by decide)) v2 (cne cq4 ci1 (by decide))⟩
  have kP_ : ∀ q, q < n → q ≠ i → ∀ z, H[aP K q]? = some z → (G.set (aP K i) (.inl (10, fs.set 7 (.inl (rEn (rt i))))))[aP K q]? = some z := fun q hq hqi z h => by
    obtain ⟨cq1, cq2, cq3, cq4, cq5⟩ := c5 q hq
    exact kp _ z h (cne cq1 c1 (by decide)) (cne cq1 c4 (by decide)) (cne cq1 ci3 (by decide)) (cne cq1 ci5 (by decide)) ((e3 q i hq hi).2 hqi).1
  have hPi : (G.set (aP K i) (.inl (10, fs.set 7 (.inl (rEn (rt i))))))[aP K i]? = some (.inl (10, fs.set 7 (.inl (rEn (rt i))))) := gself hG
  refine ⟨fun x z h => kp x z (p1 x z h) (c3R_ne h m1) (c3R_ne h m2) (c3R_ne h mi2) (c3R_ne h mi3) (c3R_ne h mi1), by rw [List.length_set, g3]; exact p2, kRn_mv g1 (fun z h => kg _ z h (cne c1 ci1 (by decide))) (fun z h => kg _ z h (cne c4 ci1 (by decide))), kRn_mv p4 (fun z h => kp _ z h (fun w => e1 w.symm) (cne c2 c4 (by decide)) (cne c2 ci3 (by decide)) (cne c2 ci5 (by decide)) (cne c2 ci1 (by decide))) (fun z h => kp _ z h (cne c3 c1 (by decide)) e2 (cne c3 ci3 (by decide)) (cne c3 ci5 (by decide)) (cne c3 ci1 (by decide))), fun q hq => ?_, fun q hq => ?_, fun q hq => ?_⟩
  · obtain ⟨q1, q2, q3⟩ := p5 q hq
    by_cases c : q = i
    · subst c
      exact ⟨⟨_, _, st, hPi, pcF_set hpf⟩, kRw_mv q2 (kV q hq).1 (kV q hq).2, kRw_mv (k3Ro_w g2) (fun z h => kg _ z h (cne ci3 ci1 (by decide))) (fun z h => kg _ z h (cne ci5 ci1 (by decide)))⟩
    · exact ⟨kPc_mv q1 (kP_ q hq c), kRw_mv q2 (kV q hq).1 (kV q hq).2, kRw_mv q3 (kX q hq c).1 (kX q hq c).2⟩
  · by_cases c : q = i
    · subst c
      exact ⟨k3Ro_mv g2 (fun z h => kg _ z h (cne ci3 ci1 (by decide))) (fun z h => kg _ z h (cne ci5 ci1 (by decide))), _, hPi, (pcF_set hpf).2.2.2.2.2.2.2.1⟩
    · have hq2 : q < n := by omega
      obtain ⟨q1, q2⟩ := p6 q (by omega)
      exact ⟨k3Ro_mv q1 (kX q hq2 c).1 (kX q hq2 c).2, kTe_mv q2 (kP_ q hq2 c)⟩
  · exact k3Ro_mv (p7 q hq) (kV q (by omega)).1 (kV q (by omega)).2
/-- a program has run -/
theorem kPh_2 (hN : kNe n K WL col) {i j : Nat} (hP : kPh n d K WL rp rt H0 H i j) (hj : j < n) {sp co se inp : Nat} {p : rP} (hcn : cN H G (aOu K) (a3N1 K) (aV K j) (aVi K j) sp co se inp p (rp j)) (hi : i ≤ n) : kPh n d K WL rp rt H0 G i (j + 1) := by
  obtain ⟨⟨m1, m2, m3, m4, m5⟩, ⟨c1, c2, c3, c4, c5⟩, e1, e2, e3⟩ := hN
  obtain ⟨p1, p2, p3, p4, p5, p6, p7⟩ := hP
  obtain ⟨g1, g2, g3, g4⟩ := cN_run hcn
  obtain ⟨ci1, ci2, ci3, ci4, ci5⟩ := c5 j hj
  obtain ⟨mi1, mi2, mi3, mi4, mi5⟩ := m5 j hj
  have kX : ∀ q, q < n → (∀ z, H[aX K q]? = some z → G[aX K q]? = some z) ∧ ∀ z, H[aXi K q]? = some z → G[aXi K q]? = some z := fun q hq => by
    obtain ⟨cq1, cq2, cq3, cq4, cq5⟩ := c5 q hq
    obtain ⟨⟨v1, v2⟩, -⟩ := e3 j q hj hq
    exact ⟨fun z h => g4 _ z h (cne cq3 c2 (by decide)) (cne cq3 c3 (by decide)) (fun w => v1 w.symm) (cne cq3 ci4 (by decide)), fun z h => g4 _ z h (cne cq5 c2 (by decide)) (cne cq5 c3 (by decide)) (cne cq5 ci2 (by decide)) (fun w => v2 w.symm)⟩
  have kV : ∀ q, q < n → q ≠ j → (∀ z, H[aV K q]? = some z → G[aV K q]? = some z) ∧ ∀ z, H[aVi K q]? = some z → G[aVi K q]? = some z := fun q hq hqj => by
    obtain ⟨cq1, cq2, cq3, cq4, cq5⟩ := c5 q hq
    obtain ⟨-, eq⟩ := e3 q j hq hj
    obtain ⟨-, x2, -, x4, -⟩ := eq hqj
    exact ⟨fun z h => g4 _ z h (cne cq2 c2 (by decide)) (cne cq2 c3 (by decide)) x2 (cne cq2 ci4 (by decide)), fun z h => g4 _ z h (cne cq4 c2 (by decide)) (cne cq4 c3 (by decide)) (cne cq4 ci2 (by decide)) x4⟩
  have kP_ : ∀ q, q < n → ∀ z, H[aP K q]? = some z → G[aP K q]? = some z := fun q hq z h => by
    obtain ⟨cq1, cq2, cq3, cq4, cq5⟩ := c5 q hq
    exact g4 _ z h (cne cq1 c2 (by decide)) (cne cq1 c3 (by decide)) (cne cq1 ci2 (by decide)) (cne cq1 ci4 (by decide))
  refine ⟨fun x z h => g4 x z (p1 x z h) (c3R_ne h m3) (c3R_ne h m4) (c3R_ne h mi4) (c3R_ne h mi5), by rw [g3]; exact p2, kRn_mv p3 (fun z h => g4 _ z h e1 (cne c1 c3 (by decide)) (cne c1 ci2 (by decide)) (cne c1 ci4 (by decide))) (fun z h => g4 _ z h (cne c4 c2 (by decide)) (fun w => e2 w.symm) (cne c4 ci2 (by decide)) (cne c4 ci4 (by decide))), g1, fun q hq => ?_, fun q hq => ?_, fun q hq => ?_⟩
  · obtain ⟨q1, q2, q3⟩ := p5 q hq
    refine ⟨kPc_mv q1 (kP_ q hq), ?_, kRw_mv q3 (kX q hq).1 (kX q hq).2⟩
    by_cases c : q = j
    · subst c
      exact k3Ro_w g2
    · exact kRw_mv q2 (kV q hq c).1 (kV q hq c).2
  · have hq2 : q < n := by omega
    obtain ⟨q1, q2⟩ := p6 q hq
    exact ⟨k3Ro_mv q1 (kX q hq2).1 (kX q hq2).2, kTe_mv q2 (kP_ q hq2)⟩
  · by_cases c : q = j
    · subst c
      exact g2
    · exact k3Ro_mv (p7 q (by omega)) (kV q (by omega) c).1 (kV q (by omega) c).2
/-- the row that a program's input is: of twins, of programs -/
def tIn (d : Ld) (K : Ka) (i : Nat) : Nat := if dSv d i = 0 then aH K i else if dSv d i ≤ i then aX K (dSv d i - 1) else aT K (dSv d i - 1)
def pIn (d : Ld) (K : Ka) (i : Nat) : Nat := if dSv d i = 0 then aH K i else if dSv d i ≤ i then aV K (dSv d i - 1) else a3W K (dSv d i - 1)
theorem ro_cRw {r it : Nat} {s : rS} (hl : H.length ≤ 1000000) (h : k3Ro H r it s) (h1 : ∀ k : Nat, As[k]? ≠ some r) (h2 : ∀ k : Nat, As[k]? ≠ some it) : cRw H As r (rOs s) (rOv s) := by
  obtain ⟨of, a, b, c, e⟩ := h
  have := lt_of a hl
  have := lt_of b hl
  exact ⟨by omega, it, ⟨a, h1⟩, by omega, of, ⟨b, h2⟩, c, e⟩
theorem tIn_at (hd : dOk n d) (hL : H0.length ≤ 1000000) (hS : kSt n d K WL H0) (hN : kNe n K WL col) {i j : Nat} (hP : kPh n d K WL rp rt H0 H i j) (hi : i < n) : cRw H [aOt K, a3N2 K, aX K i, aXi K i] (tIn d K i) (inX d (dTn d) (dTv d) rt i).1 (inX d (dTn d) (dTv d) rt i).2 := by
  obtain ⟨⟨m1, m2, m3, m4, m5⟩, ⟨c1, c2, c3, c4, c5⟩, e1, e2, e3⟩ := hN
  obtain ⟨p1, p2, p3, p4, p5, p6, p7⟩ := hP
  obtain ⟨-, -, s3, -, -⟩ := hS
  obtain ⟨mi1, mi2, mi3, mi4, mi5⟩ := m5 i hi
  have mv : ∀ (x : Nat) z, c3R H0 WL x z → c3R H [aOt K, a3N2 K, aX K i, aXi K i] x z := fun x z h => c3R_mv p1 (fun y hy => by
    simp only [List.mem_cons, List.not_mem_nil, or_false] at hy
    rcases hy with rfl | rfl | rfl | rfl
    · exact m1
    · exact m2
    · exact mi2
    · exact mi3) h
  obtain ⟨-, -, -, -, -, b1, b2, -⟩ := hd.2 i hi
  unfold tIn inX
  by_cases c : dSv d i = 0
  · rw [if_pos c, if_pos c]
    exact cRw_mv mv (s3 i hi).2.1
  · rw [if_neg c, if_neg c]
    have hs : dSv d i - 1 < n := by omega
    by_cases e : dSv d i ≤ i
    · rw [if_pos e, if_pos e]
      obtain ⟨q1, -⟩ := p6 (dSv d i - 1) (by omega)
      obtain ⟨cq1, cq2, cq3, cq4, cq5⟩ := c5 _ hs
      obtain ⟨ci1, ci2, ci3, ci4, ci5⟩ := c5 i hi
      obtain ⟨-, eq⟩ := e3 _ i hs hi
      obtain ⟨-, -, x3, -, x5⟩ := eq (by omega)
      exact ro_cRw (by omega) q1 (na4 (cne cq3 c1 (by decide)) (cne cq3 c4 (by decide)) x3 (cne cq3 ci5 (by decide))) (na4 (cne cq5 c1 (by decide)) (cne cq5 c4 (by decide)) (cne cq5 ci3 (by decide)) x5)
    · rw [if_neg e, if_neg e]
      exact cRw_mv mv (s3 _ hs).2.2.2
theorem pIn_at (hd : dOk n d) (hL : H0.length ≤ 1000000) (hS : kSt n d K WL H0) (hN : kNe n K WL col) {i j : Nat} (hP : kPh n d K WL rp rt H0 H i j) (hj : j < n) : cRw H [aOu K, a3N1 K, aV K j, aVi K j] (pIn d K j) (inX d (dWn d) (dWv d) rp j).1 (inX d (dWn d) (dWv d) rp j).2 := by
  obtain ⟨⟨m1, m2, m3, m4, m5⟩, ⟨c1, c2, c3, c4, c5⟩, e1, e2, e3⟩ := hN
  obtain ⟨p1, p2, p3, p4, p5, p6, p7⟩ := hP
  obtain ⟨-, -, s3, -, -⟩ := hS
  obtain ⟨mi1, mi2, mi3, mi4, mi5⟩ := m5 j hj
  have mv : ∀ (x : Nat) z, c3R H0 WL x z → c3R H [aOu K, a3N1 K, aV K j, aVi K j] x z := fun x z h => c3R_mv p1 (fun y hy => by
    simp only [List.mem_cons, List.not_mem_nil, or_false] at hy
    rcases hy with rfl | rfl | rfl | rfl
    · exact m3
    · exact m4
    · exact mi4
    · exact mi5) h
  obtain ⟨-, -, -, -, -, b1, b2, -⟩ := hd.2 j hj
  unfold pIn inX
  by_cases c : dSv d j = 0
  · rw [if_pos c, if_pos c]
    exact cRw_mv mv (s3 j hj).2.1
  · rw [if_neg c, if_neg c]
    have hs : dSv d j - 1 < n := by omega
    by_cases e : dSv d j ≤ j
    · rw [if_pos e, if_pos e]
      have q1 := p7 (dSv d j - 1) (by omega)
      obtain ⟨cq1, cq2, cq3, cq4, cq5⟩ := c5 _ hs
      obtain ⟨ci1, ci2, ci3, ci4, ci5⟩ := c5 j hj
      obtain ⟨-, eq⟩ := e3 _ j hs hj
      obtain ⟨-, x2, -, x4, -⟩ := eq (by omega)
      exact ro_cRw (by omega) q1 (na4 (cne cq2 c2 (by decide)) (cne cq2 c3 (by decide)) x2 (cne cq2 ci4 (by decide))) (na4 (cne cq4 c2 (by decide)) (cne cq4 c3 (by decide)) (cne cq4 ci2 (by decide)) x4)
    · rw [if_neg e, if_neg e]
      exact cRw_mv mv (s3 _ hs).2.2.1
/-- the four cells of a run, before it -/
theorem run4 {R nu ob oi : Nat} (h1 : kRn H R nu) (h2 : kRw H ob oi) (hi : ∀ (i j : Nat) x, [R, nu, ob, oi][i]? = some x → [R, nu, ob, oi][j]? = some x → i = j) : ∃ (sp : Nat) (c2 c3 c4 c5 c6 c7 c8 c9 c10 bs : XV Int32) (hw lw : Int32) (nf of : List (XV Int32)), nf.length = 6 ∧ of.length = 12 ∧ hm H H [R, nu, ob, oi] [.inl (4, [.inr (some nu), .inr (some sp), c2, c3, c4, c5, c6, c7, c8, c9, c10, .inl hw, .inl lw]), .inr (0, nf), .inl (5, [.inr (some oi), bs]), .inr (0, of)] := by
  obtain ⟨sp, c2, c3, c4, c5, c6, c7, c8, c9, c10, hw, lw, nf, a, b, c⟩ := h1
  obtain ⟨bs, of, e, f, g⟩ := h2
  exact ⟨sp, c2, c3, c4, c5, c6, c7, c8, c9, c10, bs, hw, lw, nf, of, c, g, hm_rf hi rfl (fun k x z hk hz => by
    rcases k with _ | _ | _ | _ | k
    · cases hk
      cases hz
      exact a
    · cases hk
      cases hz
      exact b
    · cases hk
      cases hz
      exact e
    · cases hk
      cases hz
      exact f
    · cases hk)⟩
end XK33
