/-! What holds of stops and hands between calls. -/
noncomputable section XP35
variable {H H2 : List (XC Int32)} {W : List (Nat × Nat)} {ty : Nat → Option Nat}
def kf (c j : Nat) : Option vF := match x_KT.1[c]? with
  | some (.inl o) => o.2[j]?
  | _ => none
def ke (c : Nat) : Option (List vF) := match x_KT.1[c]? with
  | some (.inr o) => some o.2.2
  | _ => none
theorem cell_f (hp : vHp (fun c => x_KT.1[c]?) ty H) {a c c2 ci j u : Nat} {z : Bool} {fs : List (XV Int32)} (ha : ty a = some c) (hk : kf c j = some (.inr (z, c2))) (hH : H[a]? = some (.inl (ci, fs))) (hf : fs[j]? = some (.inr (some u))) : ty u = some c2 := by
  obtain ⟨kd, w, h1, h2, h3⟩ := hp a c ha
  rw [hH] at h2
  cases h2
  have h1 : x_KT.1[c]? = some kd := h1
  unfold kf at hk
  rw [h1] at hk
  rcases kd with o | o
  · exact h3.2.2 j _ _ hk hf
  · cases hk
theorem cell_e (hp : vHp (fun c => x_KT.1[c]?) ty H) {a c c2 t j u : Nat} {z : Bool} {vs : List (XV Int32)} (ha : ty a = some c) (hk : ke c = some [.inr (z, c2)]) (hH : H[a]? = some (.inr (t, vs))) (hf : vs[j]? = some (.inr (some u))) : ty u = some c2 := by
  obtain ⟨kd, w, h1, h2, h3⟩ := hp a c ha
  rw [hH] at h2
  cases h2
  have h1 : x_KT.1[c]? = some kd := h1
  unfold ke at hk
  rw [h1] at hk
  rcases kd with o | o
  · cases hk
  · injection hk with hk
    refine h3.2.2 j (.inr (z, c2)) _ ?_ hf
    have hk : o.2.2 = [.inr (z, c2)] := hk
    unfold vEl
    rw [hk]
    show ([.inr (z, c2)] : List vF)[j % 1]? = _
    rw [Nat.mod_one]
    rfl
theorem cell_fx (hp : vHp (fun c => x_KT.1[c]?) ty H) {a c c2 ci j : Nat} {fs : List (XV Int32)} (ha : ty a = some c) (hk : kf c j = some (.inr (false, c2))) (hH : H[a]? = some (.inl (ci, fs))) : ∃ u, fs[j]? = some (.inr (some u)) ∧ ty u = some c2 := by
  obtain ⟨kd, w, h1, h2, h3⟩ := hp a c ha
  rw [hH] at h2
  cases h2
  have h1 : x_KT.1[c]? = some kd := h1
  unfold kf at hk
  rw [h1] at hk
  rcases kd with o | o
  · have hl : fs.length = o.2.length := h3.2.1
    have hj : j < o.2.length := (List.getElem?_eq_some_iff.mp hk).1
    have hu : fs[j]? = some (fs[j]'(by omega)) := List.getElem?_eq_getElem (by omega)
    have hf := h3.2.2 j _ _ hk hu
    rcases hx : fs[j]'(by omega) with x | (_ | u)
    · rw [hx] at hf
      exact hf.elim
    · rw [hx] at hf
      cases hf
    · rw [hx] at hf hu
      exact ⟨u, hu, hf⟩
  · cases hk
def kr (c : Nat) : Option (Nat × Nat) := match x_KT.1[c]? with
  | some (.inr o) => some (o.1, o.2.1)
  | _ => none
theorem cell_r (hp : vHp (fun c => x_KT.1[c]?) ty H) {a c t m : Nat} (ha : ty a = some c) (hk : kr c = some (t, m)) : ∃ vs, H[a]? = some (.inr (t, vs)) ∧ vs.length = m := by
  obtain ⟨kd, w, h1, h2, h3⟩ := hp a c ha
  have h1 : x_KT.1[c]? = some kd := h1
  unfold kr at hk
  rw [h1] at hk
  rcases kd with o | o
  · cases hk
  · injection hk with hk
    injection hk with e1 e2
    rcases w with z | z
    · exact h3.elim
    · refine ⟨z.2, ?_, ?_⟩
      · rw [h2, ← e1, ← h3.1]
      · rw [← e2]
        exact h3.2.1
theorem frm_obj (hf : vFrm W ty H H2) {a c ci : Nat} {fs : List (XV Int32)} (ha : ty a = some c) (hH : H[a]? = some (.inl (ci, fs))) : ∃ fs2, H2[a]? = some (.inl (ci, fs2)) ∧ fs2.length = fs.length ∧ ∀ j, wIn W c (j + 1) = false → fs2[j]? = fs[j]? := by
  obtain ⟨z2, h1, h2⟩ := hf a c _ ha hH
  rcases z2 with ⟨ci2, fs2⟩ | z2
  · obtain ⟨e, l, g⟩ := h2
    have e : ci2 = ci := e
    subst e
    exact ⟨fs2, h1, l, g⟩
  · exact h2.elim
def kel (c j : Nat) : Option vF := match x_KT.1[c]? with
  | some (.inr o) => vEl o.2.2 j
  | _ => none
theorem cell_ex (hp : vHp (fun c => x_KT.1[c]?) ty H) {a c c2 t j : Nat} {vs : List (XV Int32)} (ha : ty a = some c) (hk : kel c j = some (.inr (false, c2))) (hH : H[a]? = some (.inr (t, vs))) (hj : j < vs.length) : ∃ u, vs[j]? = some (.inr (some u)) ∧ ty u = some c2 := by
  obtain ⟨kd, w, h1, h2, h3⟩ := hp a c ha
  rw [hH] at h2
  cases h2
  have h1 : x_KT.1[c]? = some kd := h1
  unfold kel at hk
  rw [h1] at hk
  rcases kd with o | o
  · cases hk
  · have hu : vs[j]? = some (vs[j]'hj) := List.getElem?_eq_getElem hj
    have hf := h3.2.2 j _ _ hk hu
    rcases hx : vs[j]'hj with x | (_ | u)
    · rw [hx] at hf
      exact hf.elim
    · rw [hx] at hf
      cases hf
    · rw [hx] at hf hu
      exact ⟨u, hu, hf⟩
def kol (c : Nat) : Option Nat := match x_KT.1[c]? with
  | some (.inl o) => some o.2.length
  | _ => none
theorem cell_ol (hp : vHp (fun c => x_KT.1[c]?) ty H) {a c ci m : Nat} {fs : List (XV Int32)} (ha : ty a = some c) (hk : kol c = some m) (hH : H[a]? = some (.inl (ci, fs))) : fs.length = m := by
  obtain ⟨kd, w, h1, h2, h3⟩ := hp a c ha
  rw [hH] at h2
  cases h2
  have h1 : x_KT.1[c]? = some kd := h1
  unfold kol at hk
  rw [h1] at hk
  rcases kd with o | o
  · injection hk with hk
    rw [← hk]
    exact h3.2.1
  · cases hk
def hQ (a b : Nat) (H : List (XC Int32)) : Prop := ∃ (p n : Nat) (r : Nat → Nat) (pl mi la we ord hf : Nat → Nat) (fs : List (XV Int32)), (¬ 1000000 < a ∧ H[a]? = some (.inl (0, fs)) ∧ fs[16]? = some (.inr (some p))) ∧ isPo H p n r pl mi la we ord hf (2 ^ n) ∧ (∀ i j, i < 6 → j < 6 → r i = r j → i = j) ∧ isSt H b n pl mi la we ∧ stB pl mi la we ∧ ordOk n ord mi ∧ hfOk (fun s => mtD ord pl mi la s n 0 0 0) hf (2 ^ n) ∧ ∀ k, hf k ≤ 9
def nQ (W : List (Nat × Nat)) : Bool := [(47, 17), (39, 1), (39, 2), (39, 3), (39, 4), (39, 5), (39, 6), (39, 7), (13, 0), (13, 1), (14, 0), (14, 1), (15, 0), (15, 1), (16, 0), (16, 1), (17, 0), (17, 1), (18, 0), (18, 1), (117, 37), (117, 38), (86, 0), (86, 1), (87, 0), (87, 1)].all (fun p => !wIn W p.1 p.2)
theorem nQ_at (h : nQ W = true) {c k : Nat} (hm : (c, k) ∈ ([(47, 17), (39, 1), (39, 2), (39, 3), (39, 4), (39, 5), (39, 6), (39, 7), (13, 0), (13, 1), (14, 0), (14, 1), (15, 0), (15, 1), (16, 0), (16, 1), (17, 0), (17, 1), (18, 0), (18, 1), (117, 37), (117, 38), (86, 0), (86, 1), (87, 0), (87, 1)] : List (Nat × Nat))) : wIn W c k = false := by
  have := List.all_eq_true.mp h _ hm
  simpa using this
theorem isRw_frm (hf : vFrm W ty H H2) {r1 len c k : Nat} {f : Nat → Nat} (t : ty r1 = some k) (w0 : wIn W k 0 = false) (w1 : wIn W k 1 = false) (h : isRw H r1 len f c) : isRw H2 r1 len f c := by
  obtain ⟨h1, l, h2, h3, h4⟩ := h
  exact ⟨h1, l, vFrm_row hf t w0 w1 h2, h3, h4⟩
theorem hQ_keep (hp : vHp (fun c => x_KT.1[c]?) ty H) {a b : Nat} (ha : ty a = some 47) (hb : ty b = some 117) (hW : nQ W = true) (hf : vFrm W ty H H2) (h : hQ a b H) : hQ a b H2 := by
  obtain ⟨p, n, r, pl, mi, la, we, ord, hf', fs, ⟨a1, a2, a3⟩, ⟨⟨p1, p2, p3⟩, R0, R1, R2, R3, R4, R5⟩, inj, ⟨gs, sr, st, rr, ⟨b1, b2, b3, b4, b5, b6, b7⟩, c1, c2⟩, hB, hO, hh, h9⟩ := h
  have tp : ty p = some 39 := cell_f hp (z := false) ha (by rfl) a2 a3
  have t0 : ty (r 0) = some 13 := cell_f hp (z := false) (j := 0) tp (by rfl) p2 rfl
  have t1 : ty (r 1) = some 14 := cell_f hp (z := false) (j := 1) tp (by rfl) p2 rfl
  have t2 : ty (r 2) = some 15 := cell_f hp (z := false) (j := 2) tp (by rfl) p2 rfl
  have t3 : ty (r 3) = some 16 := cell_f hp (z := false) (j := 3) tp (by rfl) p2 rfl
  have t4 : ty (r 4) = some 17 := cell_f hp (z := false) (j := 4) tp (by rfl) p2 rfl
  have t5 : ty (r 5) = some 18 := cell_f hp (z := false) (j := 5) tp (by rfl) p2 rfl
  have tst : ty st = some 87 := cell_f hp (z := false) hb (by rfl) b2 b5
  obtain ⟨fs2, f1, -, f3⟩ := frm_obj hf ha a2
  obtain ⟨gs2, g1, -, g3⟩ := frm_obj hf hb b2
  obtain ⟨ps2, q1, q2, q3⟩ := frm_obj hf tp p2
  have eps : ps2 = [.inr (some (r 0)), .inr (some (r 1)), .inr (some (r 2)), .inr (some (r 3)), .inr (some (r 4)), .inr (some (r 5)), .inl (nI n)] := by
    refine List.ext_getElem? fun j => ?_
    by_cases c : j < 7
    · refine q3 j (nQ_at hW ?_)
      rcases (show j = 0 ∨ j = 1 ∨ j = 2 ∨ j = 3 ∨ j = 4 ∨ j = 5 ∨ j = 6 by omega) with rfl | rfl | rfl | rfl | rfl | rfl | rfl <;> decide
    · rw [List.getElem?_eq_none (by rw [q2]; show 7 ≤ j; omega), List.getElem?_eq_none (by show 7 ≤ j; omega)]
  subst eps
  exact ⟨p, n, r, pl, mi, la, we, ord, hf', fs2, ⟨a1, f1, by rw [f3 16 (nQ_at hW (by decide))]; exact a3⟩, ⟨⟨p1, q1, p3⟩, isRw_frm hf t0 (nQ_at hW (by decide)) (nQ_at hW (by decide)) R0, isRw_frm hf t1 (nQ_at hW (by decide)) (nQ_at hW (by decide)) R1, isRw_frm hf t2 (nQ_at hW (by decide)) (nQ_at hW (by decide)) R2, isRw_frm hf t3 (nQ_at hW (by decide)) (nQ_at hW (by decide)) R3, isRw_frm hf t4 (nQ_at hW (by decide)) (nQ_at hW (by decide)) R4, isRw_frm hf t5 (nQ_at hW (by decide)) (nQ_at hW (by decide)) R5⟩, inj, ⟨gs2, sr, st, rr, ⟨b1, g1, by rw [g3 36 (nQ_at hW (by decide))]; exact b3, b4, by rw [g3 37 (nQ_at hW (by decide))]; exact b5, vFrm_row hf tst (nQ_at hW (by decide)) (nQ_at hW (by decide)) b6, b7⟩, fun x hx => by
    obtain ⟨d1, d2, w, d3, d4, d5⟩ := c1 x hx
    have tr : ty (rr x) = some 86 := cell_e hp (z := false) tst (by rfl) b6 d1
    exact ⟨d1, d2, w, vFrm_row hf tr (nQ_at hW (by decide)) (nQ_at hW (by decide)) d3, d4, d5⟩, c2⟩, hB, hO, hh, h9⟩
theorem isSt_tag {b n : Nat} {pl mi la we : Nat → Nat} (k : kp tgS H H2) (h : isSt H b n pl mi la we) : isSt H2 b n pl mi la we := by
  obtain ⟨gs, sr, st, rr, ⟨b1, b2, b3, b4, b5, b6, b7⟩, c1, c2⟩ := h
  refine ⟨gs, sr, st, rr, ⟨b1, k _ _ b2 rfl, b3, b4, b5, k _ _ b6 rfl, b7⟩, fun x hx => ?_, c2⟩
  obtain ⟨d1, d2, w, d3, d4, d5⟩ := c1 x hx
  refine ⟨d1, d2, w, k _ _ d3 ?_, d4, d5⟩
  show (w.length == 4) = true
  rw [d4]
  rfl
theorem isRw_tag {r1 len c : Nat} {f : Nat → Nat} (k : kp tgR H H2) (hl : len = 8 ∨ len = 256) (h : isRw H r1 len f c) : isRw H2 r1 len f c := by
  obtain ⟨h1, l, h2, h3, h4⟩ := h
  refine ⟨h1, l, k _ _ h2 ?_, h3, h4⟩
  show (l.length == 8 || l.length == 256) = true
  rw [h3]
  rcases hl with rfl | rfl
  · rfl
  · rfl
theorem isPo_tag {p n m : Nat} {r pl mi la we ord hf : Nat → Nat} (k : kp tgR H H2) (h : isPo H p n r pl mi la we ord hf m) : isPo H2 p n r pl mi la we ord hf m := by
  obtain ⟨⟨p1, p2, p3⟩, R0, R1, R2, R3, R4, R5⟩ := h
  exact ⟨⟨p1, k _ _ p2 rfl, p3⟩, isRw_tag k (Or.inl rfl) R0, isRw_tag k (Or.inl rfl) R1, isRw_tag k (Or.inl rfl) R2, isRw_tag k (Or.inl rfl) R3, isRw_tag k (Or.inl rfl) R4, isRw_tag k (Or.inr rfl) R5⟩
/-- the reference's table, by its kinds -/
theorem isCn_ty (hp : vHp (fun c => x_KT.1[c]?) ty H) {b : Nat} {fs : List (XV Int32)} (hb : ty b = some 117) (hbA : ¬ 1000000 < b) (hH : H[b]? = some (.inl (12, fs))) (hl : H.length ≤ 1000000) (cv : Nat → Nat → Nat) : ∃ R, isCn H b R (fun _ _ => False) cv := by
  obtain ⟨cn, c1, c2⟩ := cell_fx hp (j := 68) hb (by rfl) hH
  obtain ⟨cr, d1, d2⟩ := cell_r hp c2 (t := 6) (m := 4) (by rfl)
  obtain ⟨r0, x0, y0⟩ := cell_ex hp (j := 0) (c2 := 110) c2 (by rfl) d1 (by omega)
  obtain ⟨r1, x1, y1⟩ := cell_ex hp (j := 1) (c2 := 111) c2 (by rfl) d1 (by omega)
  obtain ⟨r2, x2, y2⟩ := cell_ex hp (j := 2) (c2 := 112) c2 (by rfl) d1 (by omega)
  obtain ⟨r3, x3, y3⟩ := cell_ex hp (j := 3) (c2 := 113) c2 (by rfl) d1 (by omega)
  obtain ⟨v0, z0, u0⟩ := cell_r hp y0 (t := 1) (m := 256) (by rfl)
  obtain ⟨v1, z1, u1⟩ := cell_r hp y1 (t := 1) (m := 256) (by rfl)
  obtain ⟨v2, z2, u2⟩ := cell_r hp y2 (t := 1) (m := 256) (by rfl)
  obtain ⟨v3, z3, u3⟩ := cell_r hp y3 (t := 1) (m := 256) (by rfl)
  have lt : ∀ {x : Nat} {w : XC Int32}, H[x]? = some w → ¬ 1000000 < x := fun h => by
    have := (List.getElem?_eq_some_iff.mp h).1
    omega
  let R : Nat → Nat := fun h => if h = 0 then r0 else if h = 1 then r1 else if h = 2 then r2 else r3
  have tR : ∀ h, h < 4 → ty (R h) = some (110 + h) := fun h hh => by
    rcases (show h = 0 ∨ h = 1 ∨ h = 2 ∨ h = 3 by omega) with rfl | rfl | rfl | rfl
    · exact y0
    · exact y1
    · exact y2
    · exact y3
  refine ⟨R, fs, cr, cn, ⟨hbA, hH, c1, d1, d2⟩, fun h hh => ?_, fun h k hh hk e => ?_⟩
  · rcases (show h = 0 ∨ h = 1 ∨ h = 2 ∨ h = 3 by omega) with rfl | rfl | rfl | rfl
    · exact ⟨x0, lt z0, v0, z0, u0, fun _ _ z => z.elim⟩
    · exact ⟨x1, lt z1, v1, z1, u1, fun _ _ z => z.elim⟩
    · exact ⟨x2, lt z2, v2, z2, u2, fun _ _ z => z.elim⟩
    · exact ⟨x3, lt z3, v3, z3, u3, fun _ _ z => z.elim⟩
  · have h1 := tR h hh
    have h2 := tR k hk
    rw [e, h2] at h1
    injection h1 with h1
    omega
end XP35
