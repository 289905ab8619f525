/-! What holds of the chips between calls. -/
noncomputable section XP25
variable {H H2 : List (XC Int32)} {W : List (Nat × Nat)} {ty : Nat → Option Nat}
def kf (c j : Nat) : Option vF := match x_KT.1[c]? with
  | some (.inl o) => o.2[j]?
  | _ => none
def ke (c : Nat) : Option (List vF) := match x_KT.1[c]? with
  | some (.inr o) => some o.2.2
  | _ => none
theorem cell_f (hp : vHp (fun c => x_KT.1[c]?) ty H) {a c c2 ci j u : Nat} {z : Bool} {fs : List (XV Int32)} (ha : ty a = some c) (hk : kf c j = some (.inr (z, c2))) (hH : H[a]? = some (.inl (ci, fs))) (hf : fs[j]? = some (.inr (some u))) : ty u = some c2 := by
  obtain ⟨kd, w, h1, h2, h3⟩ := hp a c ha
  rw [hH] at h2
  cases h2
  have h1 : x_KT.1[c]? = some kd := h1
  unfold kf at hk
  rw [h1] at hk
  rcases kd with o | o
  · exact h3.2.2 j _ _ hk hf
  · cases hk
theorem cell_e (hp : vHp (fun c => x_KT.1[c]?) ty H) {a c c2 t j u : Nat} {z : Bool} {vs : List (XV Int32)} (ha : ty a = some c) (hk : ke c = some [.inr (z, c2)]) (hH : H[a]? = some (.inr (t, vs))) (hf : vs[j]? = some (.inr (some u))) : ty u = some c2 := by
  obtain ⟨kd, w, h1, h2, h3⟩ := hp a c ha
  rw [hH] at h2
  cases h2
  have h1 : x_KT.1[c]? = some kd := h1
  unfold ke at hk
  rw [h1] at hk
  rcases kd with o | o
  · cases hk
  · injection hk with hk
    refine h3.2.2 j (.inr (z, c2)) _ ?_ hf
    have hk : o.2.2 = [.inr (z, c2)] := hk
    unfold vEl
    rw [hk]
    show ([.inr (z, c2)] : List vF)[j % 1]? = _
    rw [Nat.mod_one]
    rfl
theorem cell_fx (hp : vHp (fun c => x_KT.1[c]?) ty H) {a c c2 ci j : Nat} {fs : List (XV Int32)} (ha : ty a = some c) (hk : kf c j = some (.inr (false, c2))) (hH : H[a]? = some (.inl (ci, fs))) : ∃ u, fs[j]? = some (.inr (some u)) ∧ ty u = some c2 := by
  obtain ⟨kd, w, h1, h2, h3⟩ := hp a c ha
  rw [hH] at h2
  cases h2
  have h1 : x_KT.1[c]? = some kd := h1
  unfold kf at hk
  rw [h1] at hk
  rcases kd with o | o
  · have hl : fs.length = o.2.length := h3.2.1
    have hj : j < o.2.length := (List.getElem?_eq_some_iff.mp hk).1
    have hu : fs[j]? = some (fs[j]'(by omega)) := List.getElem?_eq_getElem (by omega)
    have hf := h3.2.2 j _ _ hk hu
    rcases hx : fs[j]'(by omega) with x | (_ | u)
    · rw [hx] at hf
      exact hf.elim
    · rw [hx] at hf
      cases hf
    · rw [hx] at hf hu
      exact ⟨u, hu, hf⟩
  · cases hk
def kr (c : Nat) : Option (Nat × Nat) := match x_KT.1[c]? with
  | some (.inr o) => some (o.1, o.2.1)
  | _ => none
theorem cell_r (hp : vHp (fun c => x_KT.1[c]?) ty H) {a c t m : Nat} (ha : ty a = some c) (hk : kr c = some (t, m)) : ∃ vs, H[a]? = some (.inr (t, vs)) ∧ vs.length = m := by
  obtain ⟨kd, w, h1, h2, h3⟩ := hp a c ha
  have h1 : x_KT.1[c]? = some kd := h1
  unfold kr at hk
  rw [h1] at hk
  rcases kd with o | o
  · cases hk
  · injection hk with hk
    injection hk with e1 e2
    rcases w with z | z
    · exact h3.elim
    · refine ⟨z.2, ?_, ?_⟩
      · rw [h2, ← e1, ← h3.1]
      · rw [← e2]
        exact h3.2.1
theorem frm_obj (hf : vFrm W ty H H2) {a c ci : Nat} {fs : List (XV Int32)} (ha : ty a = some c) (hH : H[a]? = some (.inl (ci, fs))) : ∃ fs2, H2[a]? = some (.inl (ci, fs2)) ∧ fs2.length = fs.length ∧ ∀ j, wIn W c (j + 1) = false → fs2[j]? = fs[j]? := by
  obtain ⟨z2, h1, h2⟩ := hf a c _ ha hH
  rcases z2 with ⟨ci2, fs2⟩ | z2
  · obtain ⟨e, l, g⟩ := h2
    have e : ci2 = ci := e
    subst e
    exact ⟨fs2, h1, l, g⟩
  · exact h2.elim
def pA (H : List (XC Int32)) (a m : Nat) (r : Nat → Nat) (d : Nat → Nat → Nat) : Prop := ∃ ca vs, isTwo H a m ca vs ∧ (∀ i, i < m → vs[i]? = some (.inr (some (r i))) ∧ isChip H (r i) (d i 0) (d i 1) (d i 2) (d i 3) (d i 4) (d i 5)) ∧ ∀ i j, i < m → j < m → r i = r j → i = j
def pB (H : List (XC Int32)) (b m : Nat) (d : Nat → Nat → Nat) (y : Nat → Nat → Nat) : Prop := ∃ (gs vp vr va vy : List (XV Int32)) (cp cr sa ya : Nat) (row : Nat → Nat), (¬ 1000000 < b ∧ H[b]? = some (.inl (12, gs)) ∧ gs[25]? = some (.inl (nI m)) ∧ gs[26]? = some (.inr (some cp)) ∧ gs[27]? = some (.inr (some cr)) ∧ gs[28]? = some (.inr (some sa)) ∧ gs[29]? = some (.inr (some ya))) ∧ (cp < 1000000 ∧ cr < 1000000 ∧ sa < 1000000 ∧ cp ≠ cr ∧ sa ≠ cp ∧ sa ≠ cr) ∧ (H[cp]? = some (.inr (0, vp)) ∧ vp.length = 6) ∧ (H[cr]? = some (.inr (0, vr)) ∧ vr.length = 6) ∧ (H[sa]? = some (.inr (0, va)) ∧ va.length = 6) ∧ (H[ya]? = some (.inr (5, vy)) ∧ vy.length = 6) ∧ (∀ i, i < m → vp[i]? = some (.inl (nI (d i 0))) ∧ vr[i]? = some (.inl (nI (d i 1))) ∧ va[i]? = some (.inl (nI (d i 2)))) ∧ (∀ i, m ≤ i → i < 6 → va[i]? = some (.inl (nI 0))) ∧ (∀ i, i < 6 → vy[i]? = some (.inr (some (row i))) ∧ row i < 1000000 ∧ (row i ≠ sa ∧ row i ≠ cp ∧ row i ≠ cr) ∧ ∃ w, H[row i]? = some (.inr (0, w)) ∧ w.length = 30 ∧ ∀ k, i < m → k < d i 2 → w[k]? = some (.inl (nI (y i k)))) ∧ ∀ i j, i < 6 → j < 6 → row i = row j → i = j
def chD (d : Nat → Nat) (y : Nat → Nat) : Prop := chOk (d 0) (d 1) (d 3) (d 4) (d 5) (d 2) y
def hP (a b : Nat) (H : List (XC Int32)) : Prop := ∃ m r d y, pA H a m r d ∧ pB H b m d y ∧ ∀ i, i < m → chD (d i) (y i)
def nW (W : List (Nat × Nat)) : Bool := [(47, 12), (47, 13), (24, 0), (24, 1), (46, 1), (46, 2), (46, 3), (46, 4), (46, 5), (46, 6), (117, 26), (117, 27), (117, 28), (117, 29), (117, 30), (76, 0), (76, 1), (77, 0), (77, 1), (78, 0), (78, 1), (80, 0), (80, 1), (79, 0), (79, 1)].all (fun p => !wIn W p.1 p.2)
theorem nW_at (h : nW W = true) {c k : Nat} (hm : (c, k) ∈ ([(47, 12), (47, 13), (24, 0), (24, 1), (46, 1), (46, 2), (46, 3), (46, 4), (46, 5), (46, 6), (117, 26), (117, 27), (117, 28), (117, 29), (117, 30), (76, 0), (76, 1), (77, 0), (77, 1), (78, 0), (78, 1), (80, 0), (80, 1), (79, 0), (79, 1)] : List (Nat × Nat))) : wIn W c k = false := by
  have := List.all_eq_true.mp h _ hm
  simpa using this
theorem hP_keep (hp : vHp (fun c => x_KT.1[c]?) ty H) {a b : Nat} (ha : ty a = some 47) (hb : ty b = some 117) (hW : nW W = true) (hf : vFrm W ty H H2) (h : hP a b H) : hP a b H2 := by
  obtain ⟨m, r, d, y, ⟨ca, vs, ⟨fs, a1, a2, a3, a4, a5, a6, a7⟩, hc, hr⟩, ⟨gs, vp, vr, va, vy, cp, cr, sa, ya, row, ⟨b1, b2, b3, b4, b5, b6, b7⟩, bn, ⟨p1, p2⟩, ⟨r1, r2⟩, ⟨s1, s2⟩, ⟨y1, y2⟩, e1, e2, e3, e4⟩, ok⟩ := h
  have tca : ty ca = some 24 := cell_f hp (z := false) ha (by rfl) a2 a4
  have tcp : ty cp = some 76 := cell_f hp (z := false) hb (by rfl) b2 b4
  have tcr : ty cr = some 77 := cell_f hp (z := false) hb (by rfl) b2 b5
  have tsa : ty sa = some 78 := cell_f hp (z := false) hb (by rfl) b2 b6
  have tya : ty ya = some 80 := cell_f hp (z := false) hb (by rfl) b2 b7
  obtain ⟨fs2, f1, -, f3⟩ := frm_obj hf ha a2
  obtain ⟨gs2, g1, -, g3⟩ := frm_obj hf hb b2
  refine ⟨m, r, d, y, ⟨ca, vs, ⟨fs2, a1, f1, by rw [f3 12 (nW_at hW (by decide))]; exact a3, by rw [f3 11 (nW_at hW (by decide))]; exact a4, vFrm_row hf tca (nW_at hW (by decide)) (nW_at hW (by decide)) a5, a6, a7⟩, fun i hi => ?_, hr⟩, ⟨gs2, vp, vr, va, vy, cp, cr, sa, ya, row, ⟨b1, g1, by rw [g3 25 (nW_at hW (by decide))]; exact b3, by rw [g3 26 (nW_at hW (by decide))]; exact b4, by rw [g3 27 (nW_at hW (by decide))]; exact b5, by rw [g3 28 (nW_at hW (by decide))]; exact b6, by rw [g3 29 (nW_at hW (by decide))]; exact b7⟩, bn, ⟨vFrm_row hf tcp (nW_at hW (by decide)) (nW_at hW (by decide)) p1, p2⟩, ⟨vFrm_row hf tcr (nW_at hW (by decide)) (nW_at hW (by decide)) r1, r2⟩, ⟨vFrm_row hf tsa (nW_at hW (by decide)) (nW_at hW (by decide)) s1, s2⟩, ⟨vFrm_row hf tya (nW_at hW (by decide)) (nW_at hW (by decide)) y1, y2⟩, e1, e2, fun i hi => ?_, e4⟩, ok⟩
  · obtain ⟨h1, h2, h3⟩ := hc i hi
    have tr : ty (r i) = some 46 := cell_e hp (z := true) tca (by rfl) a5 h1
    obtain ⟨cs2, c1, c2, c3⟩ := frm_obj hf tr h3
    refine ⟨h1, h2, ?_⟩
    rw [c1]
    congr 3
    refine List.ext_getElem? fun j => ?_
    by_cases c : j < 6
    · refine c3 j (nW_at hW ?_)
      rcases (show j = 0 ∨ j = 1 ∨ j = 2 ∨ j = 3 ∨ j = 4 ∨ j = 5 by omega) with rfl | rfl | rfl | rfl | rfl | rfl <;> decide
    · rw [List.getElem?_eq_none (by rw [c2]; show 6 ≤ j; omega), List.getElem?_eq_none (by show 6 ≤ j; omega)]
  · obtain ⟨h1, h2, h3, w, w1, w2, w3⟩ := e3 i hi
    have tr : ty (row i) = some 79 := cell_e hp (z := false) tya (by rfl) y1 h1
    exact ⟨h1, h2, h3, w, vFrm_row hf tr (nW_at hW (by decide)) (nW_at hW (by decide)) w1, w2, w3⟩
/-! of which cells these speak -/
def tgA : XC Int32 → Bool
  | .inl z => z.1 == 0 || z.1 == 11
  | .inr z => z.1 == 3
def tgB : XC Int32 → Bool
  | .inl z => z.1 == 12
  | .inr z => z.1 == 0 || z.1 == 5
theorem pA_tag {a m : Nat} {r : Nat → Nat} {d : Nat → Nat → Nat} (e : ∀ (x : Nat) (z : XC Int32), H[x]? = some z → tgA z = true → H2[x]? = some z) (h : pA H a m r d) : pA H2 a m r d := by
  obtain ⟨ca, vs, ⟨fs, a1, a2, a3, a4, a5, a6, a7⟩, hc, hr⟩ := h
  exact ⟨ca, vs, ⟨fs, a1, e _ _ a2 rfl, a3, a4, e _ _ a5 rfl, a6, a7⟩, fun i hi => ⟨(hc i hi).1, (hc i hi).2.1, e _ _ (hc i hi).2.2 rfl⟩, hr⟩
theorem pB_tag {b m : Nat} {d : Nat → Nat → Nat} {y : Nat → Nat → Nat} (e : ∀ (x : Nat) (z : XC Int32), H[x]? = some z → tgB z = true → H2[x]? = some z) (h : pB H b m d y) : pB H2 b m d y := by
  obtain ⟨gs, vp, vr, va, vy, cp, cr, sa, ya, row, ⟨b1, b2, b3, b4, b5, b6, b7⟩, bn, ⟨p1, p2⟩, ⟨r1, r2⟩, ⟨s1, s2⟩, ⟨y1, y2⟩, e1, e2, e3, e4⟩ := h
  exact ⟨gs, vp, vr, va, vy, cp, cr, sa, ya, row, ⟨b1, e _ _ b2 rfl, b3, b4, b5, b6, b7⟩, bn, ⟨e _ _ p1 rfl, p2⟩, ⟨e _ _ r1 rfl, r2⟩, ⟨e _ _ s1 rfl, s2⟩, ⟨e _ _ y1 rfl, y2⟩, e1, e2, fun i hi => by
    obtain ⟨h1, h2, h3, w, w1, w2, w3⟩ := e3 i hi
    exact ⟨h1, h2, h3, w, e _ _ w1 rfl, w2, w3⟩, e4⟩
theorem tag_set {p : XC Int32 → Bool} {i : Nat} {x w : XC Int32} (hi : H[i]? = some x) (hx : p x = false) : ∀ (j : Nat) (z : XC Int32), H[j]? = some z → p z = true → (H.set i w)[j]? = some z := fun j z hj hz => gtag hi hj (fun e => by
  subst e
  rw [hx] at hz
  cases hz)
/-! ask -/
def upC (d : Nat → Nat → Nat) (i : Nat) (l : Nat → Nat) : Nat → Nat → Nat := fun j => if j = i then l else d j
def upY (y : Nat → Nat → Nat) (i n Y : Nat) : Nat → Nat → Nat := fun j k => if j = i ∧ k = n then Y else y j k
def askD (d : Nat → Nat) (f : Nat) : Nat → Nat
  | 0 => d 0
  | 1 => d 1
  | 2 => d 2 + 1
  | 3 => lo2 (d 0) (d 3) f
  | 4 => hi2 (d 0) (d 4) f
  | 5 => R2 (d 0) (d 1) (d 5) f
  | _ => 0
theorem pA_ask {a m : Nat} {r : Nat → Nat} {d : Nat → Nat → Nat} (h : pA H a m r d) {i : Nat} (hi : i < m) (f : Nat) : pA (H.set (r i) (.inl (11, chL (d i 0) (d i 1) (d i 2 + 1) (lo2 (d i 0) (d i 3) f) (hi2 (d i 0) (d i 4) f) (R2 (d i 0) (d i 1) (d i 5) f)))) a m r (upC d i (askD (d i) f)) := by
  obtain ⟨ca, vs, ⟨fs, a1, a2, a3, a4, a5, a6, a7⟩, hc, hr⟩ := h
  have hi0 := (hc i hi).2.2
  refine ⟨ca, vs, ⟨fs, a1, gtag hi0 a2 (fun e => by cases e), a3, a4, gtag hi0 a5 (fun e => by cases e), a6, a7⟩, fun j hj => ⟨(hc j hj).1, (hc j hj).2.1, ?_⟩, hr⟩
  by_cases e : j = i
  · subst e
    have : upC d j (askD (d j) f) j = askD (d j) f := if_pos rfl
    rw [this]
    exact gself hi0
  · have : upC d i (askD (d i) f) j = d j := if_neg e
    rw [this]
    exact gne (hc j hj).2.2 (fun q => e (hr j i hj hi q.symm))
theorem pB_ask {b m : Nat} {d : Nat → Nat → Nat} {y : Nat → Nat → Nat} (h : pB H b m d y) {i : Nat} (hi : i < m) (h6 : m ≤ 6) (hn : d i 2 < 30) (f Y : Nat) : ∃ row w sa va, H[row]? = some (.inr (0, w)) ∧ H[sa]? = some (.inr (0, va)) ∧ row ≠ sa ∧ (∀ dp (ot : XO Int32), d i 0 < 2 ^ 31 → d i 1 < 3 → 1900 ≤ Y → Y ≤ 2099 → x_To x_tb x_tyl ot (dp + 2) 251 0 (x_en 0 [.inr (some b), .inl (nI i), .inl (nI Y)]) [] H 0 0 (some (.inl (nI (ansN (d i 0) (d i 1) Y)))) ((H.set row (.inr (0, w.set (d i 2) (.inl (nI Y))))).set sa (.inr (0, va.set i (.inl (nI (d i 2 + 1))))))) ∧ pB ((H.set row (.inr (0, w.set (d i 2) (.inl (nI Y))))).set sa (.inr (0, va.set i (.inl (nI (d i 2 + 1)))))) b m (upC d i (askD (d i) f)) (upY y i (d i 2) Y) := by
  obtain ⟨gs, vp, vr, va, vy, cp, cr, sa, ya, row, ⟨b1, b2, b3, b4, b5, b6, b7⟩, bn, ⟨p1, p2⟩, ⟨r1, r2⟩, ⟨s1, s2⟩, ⟨y1, y2⟩, e1, e2, e3, e4⟩ := h
  obtain ⟨q1, q2, q3, w, w1, w2, w3⟩ := e3 i (by omega)
  obtain ⟨v1, v2, v3⟩ := e1 i hi
  have n1 : row i ≠ sa := q3.1
  have s1' : (H.set (row i) (.inr (0, w.set (d i 2) (.inl (nI Y)))))[sa]? = some (.inr (0, va)) := gne s1 n1
  refine ⟨row i, w, sa, va, w1, s1, n1, fun dp ot hpv hrl hY hY2 => t251 b1 b2 b3 b4 b5 b6 b7 ⟨bn.1, bn.2.1, bn.2.2.1, q2⟩ ⟨q3.1, q3.2.1, q3.2.2, bn.2.2.2.2.1, bn.2.2.2.2.2⟩ p1 p2 v1 r1 r2 v2 s1 s2 v3 y1 y2 q1 w1 w2 h6 hi hn hpv hrl hY hY2, gs, vp, vr, _, vy, cp, cr, sa, ya, row, ⟨b1, gtag s1' (gtag w1 b2 (fun e => by cases e)) (fun e => by cases e), b3, b4, b5, b6, b7⟩, bn, ⟨gne (gne p1 q3.2.1) bn.2.2.2.2.1, p2⟩, ⟨gne (gne r1 q3.2.2) bn.2.2.2.2.2, r2⟩, ⟨gself s1', by rw [List.length_set]; exact s2⟩, ⟨gtag s1' (gtag w1 y1 (fun e => by cases e)) (fun e => by cases e), y2⟩, fun j hj => ?_, fun j hj h6 => ?_, fun j hj => ?_, e4⟩
  · obtain ⟨x1, x2, x3⟩ := e1 j hj
    by_cases e : j = i
    · subst e
      rw [show upC d j (askD (d j) f) j = askD (d j) f from if_pos rfl]
      exact ⟨x1, x2, List.getElem?_set_self (by omega)⟩
    · rw [show upC d i (askD (d i) f) j = d j from if_neg e]
      exact ⟨x1, x2, by rw [List.getElem?_set_ne (fun z => e z.symm)]; exact x3⟩
  · rw [List.getElem?_set_ne (by omega)]
    exact e2 j hj h6
  · obtain ⟨x1, x2, x3, w', z1, z2, z3⟩ := e3 j hj
    refine ⟨x1, x2, x3, ?_⟩
    by_cases e : j = i
    · subst e
      rw [w1] at z1
      cases z1
      refine ⟨_, gne (gself w1) (fun z => n1 z.symm), by rw [List.length_set]; exact w2, fun k hk hk2 => ?_⟩
      rw [show upC d j (askD (d j) f) j = askD (d j) f from if_pos rfl] at hk2
      have hk2 : k < d j 2 + 1 := hk2
      by_cases ek : k = d j 2
      · subst ek
        rw [show upY y j (d j 2) Y j (d j 2) = Y from if_pos ⟨rfl, rfl⟩]
        exact List.getElem?_set_self (by omega)
      · rw [show upY y j (d j 2) Y j k = y j k from if_neg (fun z => ek z.2), List.getElem?_set_ne (fun z => ek z.symm)]
        exact z3 k hk (by omega)
    · refine ⟨w', gne (gne z1 (fun z => e (e4 j i hj (by omega) z.symm))) (fun z => x3.1 z.symm), z2, fun k hk hk2 => ?_⟩
      rw [show upC d i (askD (d i) f) j = d j from if_neg e] at hk2
      rw [show upY y i (d i 2) Y j k = y j k from if_neg (fun z => e z.1)]
      exact z3 k hk hk2
theorem b_7r : ∀ a, a < 8 → a &&& 7 = a ∧ a &&& (7 - 0) = a := by decide
theorem b_zr : ∀ r, r < 3 → (∀ p, p < 2 → (if leapN (if p = 0 then 1900 else 2000) r = 1 then 7 &&& lrN (if p = 0 then 1900 else 2000) else 7 &&& (7 - lrN (if p = 0 then 1900 else 2000))) = zrN p r ∧ (if leapN (if p = 0 then 1900 else 2000) r = 1 then zrN p r &&& lrN (if p = 0 then 1900 else 2000) else zrN p r &&& (7 - lrN (if p = 0 then 1900 else 2000))) = zrN p r) := by decide
theorem zr_1 {pv r : Nat} : zrN pv r = zrN (if pv = 0 then 0 else 1) r := by
  unfold zrN
  by_cases h : pv = 0
  · rw [if_pos h, if_pos h]
    rfl
  · rw [if_neg h, if_neg h]
    rfl
theorem R2_0 {pv rl : Nat} (hr : rl < 3) : R2 pv rl 7 0 = zrN pv rl ∧ R2 pv rl (zrN pv rl) 0 = zrN pv rl := by
  have e : meanN 0 pv = if (if pv = 0 then 0 else 1) = 0 then 1900 else 2000 := by
    unfold meanN
    by_cases h : pv = 0
    · rw [if_pos (by omega), if_pos h]
      rfl
    · rw [if_neg (by omega), if_neg h]
      rfl
  obtain ⟨h1, h2⟩ := b_zr rl hr (if pv = 0 then 0 else 1) (by split <;> decide)
  unfold R2
  rw [e, zr_1]
  exact ⟨h1, h2⟩
theorem R2_n {pv rl R f : Nat} (hR : R < 8) (hf : f ≠ 0) (h1 : f < 100) : R2 pv rl R f = R := by
  have hY : meanN f pv % 100 ≠ 0 := by
    unfold meanN
    split <;> omega
  have e := leap_any (r := 0) (s := rl) hY
  have e1 := leap_any (r := 1) (s := rl) hY
  have e2 := leap_any (r := 2) (s := rl) hY
  obtain ⟨b1, b2⟩ := b_7r R hR
  unfold R2
  rcases leapN_le (meanN f pv) rl with z | z
  · rw [if_neg (by omega), show lrN (meanN f pv) = 0 from by unfold lrN; omega]
    exact b2
  · rw [if_pos z, show lrN (meanN f pv) = 7 from by unfold lrN; omega]
    exact b1
theorem chD_ask {d y : Nat → Nat} (h : chD d y) (hn : d 2 < 30) {Y : Nat} (hY : 1900 ≤ Y) (hY2 : Y ≤ 2099) : chD (askD d (Y % 100)) (fun k => if k = d 2 then Y else y k) := by
  have hf : Y % 100 < 100 := Nat.mod_lt _ (by decide)
  have lp := h.lp
  have ph := h.ph
  have h1 := h.h1
  have old : ∀ k, k < d 2 → (if k = d 2 then Y else y k) = y k := fun k hk => if_neg (by omega)
  have new : (if d 2 = d 2 then Y else y (d 2)) = Y := if_pos rfl
  have hl : lo2 (d 0) (d 3) (Y % 100) ≤ d 0 ∧ d 3 ≤ lo2 (d 0) (d 3) (Y % 100) ∧ (Y % 100 < d 0 → Y % 100 + 1 ≤ lo2 (d 0) (d 3) (Y % 100)) ∧ (lo2 (d 0) (d 3) (Y % 100) = d 3 ∨ lo2 (d 0) (d 3) (Y % 100) = Y % 100 + 1) := by
    unfold lo2 mxN
    split
    · omega
    · split <;> omega
  have hh : d 0 ≤ hi2 (d 0) (d 4) (Y % 100) ∧ hi2 (d 0) (d 4) (Y % 100) ≤ d 4 ∧ (d 0 ≤ Y % 100 → hi2 (d 0) (d 4) (Y % 100) ≤ Y % 100) ∧ (hi2 (d 0) (d 4) (Y % 100) = d 4 ∨ hi2 (d 0) (d 4) (Y % 100) = Y % 100) := by
    unfold hi2 minN
    split
    · split <;> omega
    · omega
  refine ⟨h.r3, hl.1, hh.1, Nat.le_trans hh.2.1 h1, hn, fun k hk => ?_, fun k hk => ?_, ?_, ?_, ?_⟩
  · have hk : k < d 2 + 1 := hk
    show 1900 ≤ (if k = d 2 then Y else y k) ∧ (if k = d 2 then Y else y k) < 2100
    by_cases e : k = d 2
    · rw [if_pos e]
      omega
    · rw [if_neg e]
      exact h.yr k (by omega)
  · have hk : k < d 2 + 1 := hk
    show (d 0 ≤ (if k = d 2 then Y else y k) % 100 → hi2 (d 0) (d 4) (Y % 100) ≤ (if k = d 2 then Y else y k) % 100) ∧ ((if k = d 2 then Y else y k) % 100 < d 0 → (if k = d 2 then Y else y k) % 100 + 1 ≤ lo2 (d 0) (d 3) (Y % 100))
    by_cases e : k = d 2
    · rw [if_pos e]
      exact ⟨hh.2.2.1, hl.2.2.1⟩
    · rw [if_neg e]
      obtain ⟨x1, x2⟩ := h.el k (by omega)
      exact ⟨fun z => Nat.le_trans hh.2.1 (x1 z), fun z => Nat.le_trans (x2 z) hl.2.1⟩
  · show (R2 (d 0) (d 1) (d 5) (Y % 100) = 7 ∧ ∀ k, k < d 2 + 1 → (if k = d 2 then Y else y k) % 100 ≠ 0) ∨ (R2 (d 0) (d 1) (d 5) (Y % 100) = zrN (d 0) (d 1) ∧ ∃ k, k < d 2 + 1 ∧ (if k = d 2 then Y else y k) % 100 = 0)
    by_cases f0 : Y % 100 = 0
    · refine Or.inr ⟨?_, d 2, Nat.lt_succ_self _, by rw [if_pos rfl]; exact f0⟩
      rw [f0]
      rcases h.zz with ⟨e, -⟩ | ⟨e, -⟩
      · rw [e]
        exact (R2_0 h.r3).1
      · rw [e]
        exact (R2_0 h.r3).2
    · rw [R2_n h.R8.1 f0 hf]
      rcases h.zz with ⟨e, nz⟩ | ⟨e, k, hk, z⟩
      · refine Or.inl ⟨e, fun k hk => ?_⟩
        by_cases ek : k = d 2
        · rw [if_pos ek]
          exact f0
        · rw [if_neg ek]
          exact nz k (by omega)
      · exact Or.inr ⟨e, k, by omega, by rw [if_neg (by omega)]; exact z⟩
  · show lo2 (d 0) (d 3) (Y % 100) = 0 ∨ ∃ k, k < d 2 + 1 ∧ (if k = d 2 then Y else y k) % 100 + 1 = lo2 (d 0) (d 3) (Y % 100)
    rcases hl.2.2.2 with e | e
    · rw [e]
      rcases h.wl with z | ⟨k, hk, z⟩
      · exact Or.inl z
      · exact Or.inr ⟨k, by omega, by rw [if_neg (by omega)]; exact z⟩
    · exact Or.inr ⟨d 2, Nat.lt_succ_self _, by rw [if_pos rfl, e]⟩
  · show hi2 (d 0) (d 4) (Y % 100) = 100 ∨ ∃ k, k < d 2 + 1 ∧ (if k = d 2 then Y else y k) % 100 = hi2 (d 0) (d 4) (Y % 100)
    rcases hh.2.2.2 with e | e
    · rw [e]
      rcases h.wh with z | ⟨k, hk, z⟩
      · exact Or.inl z
      · exact Or.inr ⟨k, by omega, by rw [if_neg (by omega)]; exact z⟩
    · exact Or.inr ⟨d 2, Nat.lt_succ_self _, by rw [if_pos rfl, e]⟩
end XP25
