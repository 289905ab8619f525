/-! The reference's night that is thought of: what stands before it, copies, new settings. -/
noncomputable section XR33b
variable {n : Nat} {d : Ld} {A FR TR FS TS : Nat → Nat} {WL As Bs : List Nat} {rp rt : Nat → rS} {Hs H G : List (XC Int32)} {gs gz : List (XV Int32)} {col : Nat → Nat} {lF lT : Nat → List (XV Int32)}
theorem add0 (a : Int32) : x_bin 0 a (nI 0) = a := by
  show a + nI 0 = a
  rw [show nI 0 = (0 : Int32) from rfl]
  exact Int32.add_zero a
/-- the object's places: lines, codes, inputs, weights, shelves, their sizes, files (23), their sizes (24), twins (25), their sizes (26), what runs write, the rows of a night that is thought of -/
def tabG : List (Nat × Nat) := [(1, 13), (2, 14), (6, 15), (7, 22), (11, 16), (12, 17), (13, 23), (14, 24), (15, 25), (16, 26), (50, 20), (51, 3), (52, 4), (53, 5), (54, 6), (55, 21), (56, 9), (57, 10), (59, 18), (60, 19), (61, 11), (62, 12)]
def mG (n : Nat) (A : Nat → Nat) (gs : List (XV Int32)) : Prop := 62 < gs.length ∧ gs[0]? = some (.inl (nI n)) ∧ ∀ j k, (j, k) ∈ tabG → gs[j]? = some (.inr (some (A k)))
def mIr (H : List (XC Int32)) (r : Nat) : Prop := ∃ l : List (XV Int32), H[r]? = some (.inr (0, l)) ∧ l.length = 12
/-- what stands before: all but the settings -/
def mS0 (n : Nat) (d : Ld) (A FR TR FS TS : Nat → Nat) (lF lT : Nat → List (XV Int32)) (WL : List Nat) (H : List (XC Int32)) : Prop :=
  (rQ H WL (A 20) 5 2 0 (A 1) ∧ rQ H WL (A 20) 5 2 1 (A 2)) ∧ (rQ H WL (A 21) 5 2 0 (A 7) ∧ rQ H WL (A 21) 5 2 1 (A 8)) ∧
  (∀ q, q < 12 → (rQ H WL (A 18) 5 12 q (FR q) ∧ rQ H WL (A 19) 5 12 q (TR q) ∧ rQ H WL (A 23) 5 12 q (FS q) ∧ rQ H WL (A 25) 5 12 q (TS q)) ∧ (c3R H WL (FS q) (.inr (0, lF q)) ∧ wLf (lF q) ∧ c3R H WL (TS q) (.inr (0, lT q)) ∧ wLf (lT q)) ∧ mIr H (FR q) ∧ mIr H (TR q)) ∧
  (∃ lz, c3R H WL (A 24) (.inr (0, lz)) ∧ wLf lz ∧ ∀ q, q < n → lz[q]? = some (.inl (nI (dWn d q)))) ∧ (∃ lz, c3R H WL (A 26) (.inr (0, lz)) ∧ wLf lz ∧ ∀ q, q < n → lz[q]? = some (.inl (nI (dTn d q)))) ∧ mIr H (A 11) ∧ mIr H (A 12) ∧ mRn A H ∧
  ∀ q, q < n → (∀ x, rC H WL (A 13) (A 14) q (pgP d q x)) ∧ rI H WL (A 15) 12 q (svI (dSv d q)) ∧ rI H WL (A 17) 12 q (nI (dHn d q)) ∧ (∃ r w, rQ H WL (A 16) 5 12 q r ∧ ¬ r = 1000000 ∧ c3R H WL r (.inr (0, w)) ∧ w.length = 12 ∧ ∀ k, k < dHn d q → ∃ x : Int32, w[k]? = some (.inl x) ∧ dHv d q k = if x = -1 then 0 else x) ∧ rI H WL (A 22) 12 q (dWt d q) ∧ (∀ k, k < dWn d q → (lF q)[k]? = some (.inl (dWv d q k))) ∧ ∀ k, k < dTn d q → (lT q)[k]? = some (.inl (dTv d q k))
/-- the settings as at first, new -/
def mD (n D V U : Nat) (WL : List Nat) (H : List (XC Int32)) : Prop := ∀ q, q < 12 → ∃ dr pr, rQ H WL D 5 12 q dr ∧ rQ H WL V 5 12 q pr ∧ c3W H WL dr 6 (fun _ => nI 2) 6 ∧ c3W H WL pr 6 (fun _ => -1) 6 ∧ rI H WL U 12 q (nI 0)
theorem mRn_mv (h : mRn A H) (mv : ∀ (j : Nat) z, 0 < j → j < 11 → H[A j]? = some z → G[A j]? = some z) : mRn A G := by
  obtain ⟨f0, f1, w0, w1, a0, a1, b0, b1, c0, c1, d0, d1, e0, e1, h0, h1, hh, k1, k2, k3, k4, k5, k6, k7, k8, k9, k10⟩ := h
  exact ⟨f0, f1, w0, w1, a0, a1, b0, b1, c0, c1, d0, d1, e0, e1, h0, h1, hh, mv 1 _ (by decide) (by decide) k1, mv 2 _ (by decide) (by decide) k2, mv 3 _ (by decide) (by decide) k3, mv 4 _ (by decide) (by decide) k4, mv 5 _ (by decide) (by decide) k5, mv 6 _ (by decide) (by decide) k6, mv 7 _ (by decide) (by decide) k7, mv 8 _ (by decide) (by decide) k8, mv 9 _ (by decide) (by decide) k9, mv 10 _ (by decide) (by decide) k10⟩
/-- the rows of p programs are copied -/
def cPh (FR TR : Nat → Nat) (lF lT : Nat → List (XV Int32)) (H G : List (XC Int32)) (p : Nat) : Prop := (∀ (x : Nat) z, H[x]? = some z → (∀ q, q < 12 → x ≠ FR q ∧ x ≠ TR q) → G[x]? = some z) ∧ G.length = H.length ∧ ∀ q, q < 12 → (∃ l : List (XV Int32), G[FR q]? = some (.inr (0, l)) ∧ l.length = 12 ∧ (q < p → l = lF q)) ∧ ∃ l : List (XV Int32), G[TR q]? = some (.inr (0, l)) ∧ l.length = 12 ∧ (q < p → l = lT q)
theorem cPh_0 (hF : ∀ q, q < 12 → mIr H (FR q)) (hT : ∀ q, q < 12 → mIr H (TR q)) : cPh FR TR lF lT H H 0 := ⟨fun _ _ h _ => h, rfl, fun q hq => by
  obtain ⟨l, a, b⟩ := hF q hq
  obtain ⟨m, c, e⟩ := hT q hq
  exact ⟨⟨l, a, b, fun z => absurd z (Nat.not_lt_zero q)⟩, ⟨m, c, e, fun z => absurd z (Nat.not_lt_zero q)⟩⟩⟩
theorem cPh_s {p : Nat} {K : List (XC Int32)} (h : cPh FR TR lF lT H G p) (hp : p < 12) (hN : mNe A FR TR WL col) (hF : (lF p).length = 12) (hT : (lT p).length = 12) (g : hm G K [FR p, TR p] [.inr (0, lF p), .inr (0, lT p)]) : cPh FR TR lF lT H K (p + 1) := by
  obtain ⟨h1, h2, h3⟩ := h
  obtain ⟨-, n2, n3⟩ := hN
  have no : ∀ {x : Nat}, x ≠ FR p → x ≠ TR p → ∀ k : Nat, [FR p, TR p][k]? ≠ some x := fun a b k hk => by
    rcases k with _ | _ | k
    · cases hk
      exact a rfl
    · cases hk
      exact b rfl
    · cases hk
  obtain ⟨-, -, p13, p14⟩ := n2 p hp
  refine ⟨fun x z hx hn => hm_ro g (h1 x z hx hn) (no (hn p hp).1 (hn p hp).2), (hm_len g).trans h2, fun q hq => ?_⟩
  obtain ⟨⟨l, a, b, c⟩, ⟨m, e, f, i⟩⟩ := h3 q hq
  by_cases w : q = p
  · subst w
    exact ⟨⟨_, hm_at g (i := 0) rfl rfl, hF, fun _ => rfl⟩, ⟨_, hm_at g (i := 1) rfl rfl, hT, fun _ => rfl⟩⟩
  · obtain ⟨-, -, q13, q14⟩ := n2 q hq
    obtain ⟨u, v⟩ := n3 q p hq hp w
    exact ⟨⟨l, hm_ro g a (no u (cne q13 p14 (by decide))), b, fun z => c (by omega)⟩, ⟨m, hm_ro g e (no (cne q14 p13 (by decide)) v), f, fun z => i (by omega)⟩⟩
/-- what stands is still there -/
theorem mS0_mv (mv : ∀ (x : Nat) z, c3R H WL x z → c3R G WL x z) (hN : mNe A FR TR WL col) (h : mS0 n d A FR TR FS TS lF lT WL H) (mw : ∀ (x : Nat) z, x ∈ WL → x ≠ A 0 → H[x]? = some z → G[x]? = some z) : mS0 n d A FR TR FS TS lF lT WL G := by
  obtain ⟨⟨a1, a2⟩, ⟨b1, b2⟩, c, ⟨l1, e1, e2, e3⟩, ⟨l2, f1, f2, f3⟩, ⟨l3, g1, g2⟩, ⟨l4, h1, h2⟩, r, s⟩ := h
  have k0 := (hN.1 0 (by decide)).2
  have ne0 : ∀ j, 0 < j → j < 13 → A j ≠ A 0 := fun j j1 j2 => cne (hN.1 j j2).2 k0 (by omega)
  refine ⟨⟨rQ_mv mv a1, rQ_mv mv a2⟩, ⟨rQ_mv mv b1, rQ_mv mv b2⟩, fun q hq => ?_, ⟨l1, mv _ _ e1, e2, e3⟩, ⟨l2, mv _ _ f1, f2, f3⟩, ⟨l3, mw _ _ (hN.1 11 (by decide)).1 (ne0 11 (by decide) (by decide)) g1, g2⟩, ⟨l4, mw _ _ (hN.1 12 (by decide)).1 (ne0 12 (by decide) (by decide)) h1, h2⟩, mRn_mv r (fun j z j1 j2 hz => mw _ _ (hN.1 j (by omega)).1 (ne0 j j1 (by omega)) hz), fun q hq => ?_⟩
  · obtain ⟨⟨c1, c2, c3, c4⟩, ⟨c5, c6, c7, c8⟩, ⟨m1, m2, m3⟩, ⟨m4, m5, m6⟩⟩ := c q hq
    obtain ⟨n1, n2, n3, n4⟩ := hN.2.1 q hq
    exact ⟨⟨rQ_mv mv c1, rQ_mv mv c2, rQ_mv mv c3, rQ_mv mv c4⟩, ⟨mv _ _ c5, c6, mv _ _ c7, c8⟩, ⟨m1, mw _ _ n1 (cne n3 k0 (by decide)) m2, m3⟩, ⟨m4, mw _ _ n2 (cne n4 k0 (by decide)) m5, m6⟩⟩
  · obtain ⟨s1, s2, s3, ⟨r, w, u1, u2, u3, u4, u5⟩, s5, s6, s7⟩ := s q hq
    exact ⟨fun x => rC_mv mv (s1 x), rI_mv mv s2, rI_mv mv s3, ⟨r, w, rQ_mv mv u1, u2, mv _ _ u3, u4, u5⟩, rI_mv mv s5, s6, s7⟩
theorem mD_mv {D V U : Nat} (mv : ∀ (x : Nat) z, c3R H WL x z → c3R G WL x z) (h : mD n D V U WL H) : mD n D V U WL G := fun q hq => by
  obtain ⟨dr, pr, a, b, c, e, f⟩ := h q hq
  exact ⟨dr, pr, rQ_mv mv a, rQ_mv mv b, c3W_mv mv c, c3W_mv mv e, rI_mv mv f⟩
/-- the object's fields as the night reads them -/
def gN (A : Nat → Nat) (gs : List (XV Int32)) : List (XV Int32) := (((gs.set 13 (.inr (some (A 18)))).set 15 (.inr (some (A 19)))).set 14 (.inr (some (A 11)))).set 16 (.inr (some (A 12)))
theorem gN_len : (gN A gs).length = gs.length := by
  unfold gN
  rw [List.length_set, List.length_set, List.length_set, List.length_set]
theorem gN_ne {j : Nat} (h : j ≠ 13 ∧ j ≠ 14 ∧ j ≠ 15 ∧ j ≠ 16) : (gN A gs)[j]? = gs[j]? := by
  unfold gN
  rw [List.getElem?_set_ne (by omega), List.getElem?_set_ne (by omega), List.getElem?_set_ne (by omega), List.getElem?_set_ne (by omega)]
theorem gN_at (hl : 62 < gs.length) : (gN A gs)[13]? = some (.inr (some (A 18))) ∧ (gN A gs)[14]? = some (.inr (some (A 11))) ∧ (gN A gs)[15]? = some (.inr (some (A 19))) ∧ (gN A gs)[16]? = some (.inr (some (A 12))) := by
  unfold gN
  refine ⟨?_, ?_, ?_, ?_⟩
  · rw [List.getElem?_set_ne (by decide), List.getElem?_set_ne (by decide), List.getElem?_set_ne (by decide)]
    exact List.getElem?_set_self (by omega)
  · rw [List.getElem?_set_ne (by decide)]
    exact List.getElem?_set_self (by rw [List.length_set, List.length_set]; omega)
  · rw [List.getElem?_set_ne (by decide), List.getElem?_set_ne (by decide)]
    exact List.getElem?_set_self (by rw [List.length_set]; omega)
  · exact List.getElem?_set_self (by rw [List.length_set, List.length_set, List.length_set]; omega)
/-- what the night wants, out of what stands -/
theorem mSt_of (hd : dOk n d) {D V U : Nat} (hG : mG n A gs) (g3 : gs[3]? = some (.inr (some D))) (g4 : gs[4]? = some (.inr (some V))) (g5 : gs[5]? = some (.inr (some U))) (h : mS0 n d A FR TR FS TS lF lT WL H) (hD : mD n D V U WL H) : mSt n d A FR TR WL (gN A gs) H := by
  obtain ⟨hl, g0, hg⟩ := hG
  obtain ⟨a, b, c, -, -, -, -, -, s⟩ := h
  have hd12 := hd.1
  obtain ⟨z13, z14, z15, z16⟩ := gN_at (A := A) hl
  have at_ : ∀ {j k : Nat}, (j, k) ∈ tabG → (j ≠ 13 ∧ j ≠ 14 ∧ j ≠ 15 ∧ j ≠ 16) → (gN A gs)[j]? = some (.inr (some (A k))) := fun hj hn => (gN_ne hn).trans (hg _ _ hj)
  refine ⟨⟨at_ (by decide) (by decide), at_ (by decide) (by decide), at_ (by decide) (by decide), at_ (by decide) (by decide), at_ (by decide) (by decide), z13, z14, z15, z16, at_ (by decide) (by decide), at_ (by decide) (by decide), at_ (by decide) (by decide), at_ (by decide) (by decide), at_ (by decide) (by decide), at_ (by decide) (by decide), at_ (by decide) (by decide), at_ (by decide) (by decide), by rw [gN_len]; omega⟩, ⟨(gN_ne (by decide)).trans g0, at_ (by decide) (by decide)⟩, a, b, fun q hq => ?_⟩
  obtain ⟨⟨c1, c2, -, -⟩, -, -, -⟩ := c q (by omega)
  obtain ⟨s1, s2, s3, s4, s5, -, -⟩ := s q hq
  obtain ⟨dr, pr, e1, e2, e3, e4, e5⟩ := hD q (by omega)
  exact ⟨s1, fun x => Or.inr ⟨rfl, rfl, rfl, D, V, U, dr, pr, (gN_ne (by decide)).trans g3, (gN_ne (by decide)).trans g4, (gN_ne (by decide)).trans g5, e1, e2, e3, e4, e5⟩, s2, s3, s4, c1, c2, s5⟩
/-- the night begins -/
theorem mPh_0 (hd : dOk n d) (h : mS0 n d A FR TR FS TS lF lT WL H) {gz : List (XV Int32)} (hb : H[A 0]? = some (.inl (12, gz))) (c : ∀ q, q < 12 → H[FR q]? = some (.inr (0, lF q)) ∧ H[TR q]? = some (.inr (0, lT q))) (z1 : mRz H (A 11) n (dWn d)) (z2 : mRz H (A 12) n (dTn d)) : mPh n d A FR TR WL rp rt gz H H 0 := by
  obtain ⟨-, -, e, -, -, -, -, r, s⟩ := h
  have hd12 := hd.1
  refine ⟨fun _ _ h => h.1, rfl, ⟨gz, hb, rS9_rf gz⟩, r, ?_, ?_, fun q hq => ?_⟩
  · obtain ⟨l, a, b, f⟩ := z1
    exact ⟨l, a, b, fun q hq => by
      rw [f q hq]
      rfl⟩
  · obtain ⟨l, a, b, f⟩ := z2
    exact ⟨l, a, b, fun q hq => by
      rw [f q hq]
      rfl⟩
  · obtain ⟨-, ⟨-, w1, -, w2⟩, -⟩ := e q (by omega)
    obtain ⟨-, -, -, -, -, s6, s7⟩ := s q hq
    obtain ⟨c1, c2⟩ := c q (by omega)
    exact ⟨⟨lF q, c1, w1, s6⟩, ⟨lT q, c2, w2, s7⟩⟩
/-- all is ready for the night -/
theorem n_begin (hd : dOk n d) (hN : mNe A FR TR WL col) {D V U : Nat} (hG : mG n A gs) (g3 : gs[3]? = some (.inr (some D))) (g4 : gs[4]? = some (.inr (some V))) (g5 : gs[5]? = some (.inr (some U))) (hS : mS0 n d A FR TR FS TS lF lT WL H) (hD : mD n D V U WL H) (hc : cPh FR TR lF lT H G 12) {l24 l26 : List (XV Int32)} (w24 : wLf l24 ∧ ∀ q, q < n → l24[q]? = some (.inl (nI (dWn d q)))) (w26 : wLf l26 ∧ ∀ q, q < n → l26[q]? = some (.inl (nI (dTn d q)))) (g : hm G Hs [A 0, A 11, A 12] [.inl (12, gN A gs), .inr (0, l24), .inr (0, l26)]) :
    mSt n d A FR TR WL (gN A gs) Hs ∧ mPh n d A FR TR WL rp rt (gN A gs) Hs Hs 0 ∧ Hs.length = H.length := by
  obtain ⟨h1, h2, h3⟩ := hc
  have k0 := hN.1 0 (by decide)
  have k11 := hN.1 11 (by decide)
  have k12 := hN.1 12 (by decide)
  have no : ∀ {x : Nat}, x ≠ A 0 → x ≠ A 11 → x ≠ A 12 → ∀ k : Nat, [A 0, A 11, A 12][k]? ≠ some x := fun a b c k hk => by
    rcases k with _ | _ | _ | k
    · cases hk
      exact a rfl
    · cases hk
      exact b rfl
    · cases hk
      exact c rfl
    · cases hk
  have mv : ∀ (x : Nat) z, c3R H WL x z → c3R Hs WL x z := fun x z h => ⟨hm_ro g (h1 x z h.1 (fun q hq => ⟨c3R_ne h (hN.2.1 q hq).1, c3R_ne h (hN.2.1 q hq).2.1⟩)) (no (c3R_ne h k0.1) (c3R_ne h k11.1) (c3R_ne h k12.1)), h.2⟩
  have fr : ∀ q, q < 12 → Hs[FR q]? = some (.inr (0, lF q)) ∧ Hs[TR q]? = some (.inr (0, lT q)) := fun q hq => by
    obtain ⟨-, -, q13, q14⟩ := hN.2.1 q hq
    obtain ⟨⟨l, a, b, c⟩, ⟨m, e, f, i⟩⟩ := h3 q hq
    rw [c hq] at a
    rw [i hq] at e
    exact ⟨hm_ro g a (no (cne q13 k0.2 (by decide)) (cne q13 k11.2 (by decide)) (cne q13 k12.2 (by decide))), hm_ro g e (no (cne q14 k0.2 (by decide)) (cne q14 k11.2 (by decide)) (cne q14 k12.2 (by decide)))⟩
  have hS2 : mS0 n d A FR TR FS TS lF lT WL Hs := by
    obtain ⟨⟨a1, a2⟩, ⟨b1, b2⟩, c, ⟨l1, e1, e2, e3⟩, ⟨l2, f1, f2, f3⟩, -, -, r, s⟩ := hS
    refine ⟨⟨rQ_mv mv a1, rQ_mv mv a2⟩, ⟨rQ_mv mv b1, rQ_mv mv b2⟩, fun q hq => ?_, ⟨l1, mv _ _ e1, e2, e3⟩, ⟨l2, mv _ _ f1, f2, f3⟩, ⟨l24, hm_at g (i := 1) rfl rfl, w24.1.1⟩, ⟨l26, hm_at g (i := 2) rfl rfl, w26.1.1⟩, mRn_mv r (fun j z j1 j2 hz => ?_), fun q hq => ?_⟩
    · obtain ⟨⟨c1, c2, c3, c4⟩, ⟨c5, c6, c7, c8⟩, -⟩ := c q hq
      exact ⟨⟨rQ_mv mv c1, rQ_mv mv c2, rQ_mv mv c3, rQ_mv mv c4⟩, ⟨mv _ _ c5, c6, mv _ _ c7, c8⟩, ⟨lF q, (fr q hq).1, c6.1⟩, ⟨lT q, (fr q hq).2, c8.1⟩⟩
    · have kj := (hN.1 j (by omega)).2
      exact hm_ro g (h1 _ z hz (fun q hq => ⟨cne kj (hN.2.1 q hq).2.2.1 (by omega), cne kj (hN.2.1 q hq).2.2.2 (by omega)⟩)) (no (cne kj k0.2 (by omega)) (cne kj k11.2 (by omega)) (cne kj k12.2 (by omega)))
    · obtain ⟨s1, s2, s3, ⟨r, w, u1, u2, u3, u4, u5⟩, s5, s6, s7⟩ := s q hq
      exact ⟨fun x => rC_mv mv (s1 x), rI_mv mv s2, rI_mv mv s3, ⟨r, w, rQ_mv mv u1, u2, mv _ _ u3, u4, u5⟩, rI_mv mv s5, s6, s7⟩
  exact ⟨mSt_of hd hG g3 g4 g5 hS2 (mD_mv mv hD), mPh_0 hd hS2 (hm_at g (i := 0) rfl rfl) fr ⟨l24, hm_at g (i := 1) rfl rfl, w24.1.1, w24.2⟩ ⟨l26, hm_at g (i := 2) rfl rfl, w26.1.1, w26.2⟩, (hm_len g).trans h2⟩
theorem six_v {nf : List (XV Int32)} {v : Int32} (hnl : nf.length = 6) : ∀ k, k < 6 → ((((((nf.set (0) (.inl v)).set (0 + 1) (.inl v)).set (0 + 1 + 1) (.inl v)).set (0 + 1 + 1 + 1) (.inl v)).set (0 + 1 + 1 + 1 + 1) (.inl v)).set (0 + 1 + 1 + 1 + 1 + 1) (.inl v))[k]? = some (.inl v) := fun k hk => by
  rcases nf with _ | ⟨a0, _ | ⟨a1, _ | ⟨a2, _ | ⟨a3, _ | ⟨a4, _ | ⟨a5, _ | ⟨a6, nf⟩⟩⟩⟩⟩⟩⟩
  rotate_left 6
  · rcases (show k = 0 ∨ k = 1 ∨ k = 2 ∨ k = 3 ∨ k = 4 ∨ k = 5 by omega) with rfl | rfl | rfl | rfl | rfl | rfl
    all_goals rfl
  all_goals exact absurd hnl (by simp)
-- new rows
variable {ot : XO Int32} {dp pc m b cn sn : Nat} {X : List (XC Int32)} {L : List (Nat × XV Int32)} {v : Option (XV Int32)} {H2 : List (XC Int32)} {fs : List (XV Int32)}
theorem al_heap {z z0 z1 : XC Int32} {rows : List (XC Int32)} (hX : X.length = m) (hb : X[b]? = some z0) : ((X ++ z :: rows).set b z1).length = m + 1 + rows.length ∧ ((X ++ z :: rows).set b z1)[b]? = some z1 ∧ (∀ x, x < m → x ≠ b → ((X ++ z :: rows).set b z1)[x]? = X[x]?) ∧ ((X ++ z :: rows).set b z1)[m]? = some z ∧ ∀ q, ((X ++ z :: rows).set b z1)[m + 1 + q]? = rows[q]? := by
  have hbl : b < m := hX ▸ (List.getElem?_eq_some_iff.mp hb).1
  have e : ∀ q, m ≤ q → ((X ++ z :: rows).set b z1)[q]? = (z :: rows)[q - m]? := fun q hq => by
    rw [List.getElem?_set_ne (by omega), List.getElem?_append_right (by omega), hX]
  refine ⟨by rw [List.length_set, List.length_append, List.length_cons, hX]; omega, List.getElem?_set_self (by rw [List.length_append]; omega), fun x hx hn => by rw [List.getElem?_set_ne (fun w => hn w.symm), List.getElem?_append_left (by omega)], ?_, fun q => ?_⟩
  · rw [e m (Nat.le_refl m), Nat.sub_self]
    rfl
  · rw [e _ (by omega), show m + 1 + q - m = q + 1 by omega]
    rfl
theorem al_b {z z0 : XC Int32} {rows : List (XC Int32)} (hb : X[b]? = some z0) : (X ++ z :: rows)[b]? = some z0 := by
  rw [List.getElem?_append_left (List.getElem?_eq_some_iff.mp hb).1]
  exact hb
end XR33b
