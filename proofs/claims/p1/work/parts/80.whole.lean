/-! The law's walk, out of the runs. -/
section XWhole
theorem x_wcP {xs : Nat → Int32} {c : Int32} (h : xs 0 &&& 63 = c) : XPa (tHd xs) (x_wc c) := fun k hk => by
  rcases List.mem_singleton.mp hk with rfl
  exact decide_eq_true h
theorem x_wdP {xs : Nat → Int32} {j : Nat} (h : xs 0 &&& 63 = nI j) (h1 : 42 ≤ j) (h2 : j < 64) : XPa (tHd xs) x_wd := fun k hk => by
  rcases List.mem_singleton.mp hk with rfl
  show decide (xs 0 &&& 63 < 42) = false
  rw [h]
  exact decide_eq_false (fun z => by
    have z2 : nI j < nI 42 := z
    exact nI_nlt h1 (by omega) z2)
theorem x_w39P {xs : Nat → Int32} {r : List TK} (h : xs 0 &&& 63 = 39) (hr : XPa (tHd xs) r) : XPa (tHd xs) (x_w39 r) := fun k hk => by
  rcases List.mem_append.mp hk with hk | hk
  · exact hr k hk
  · exact x_wcP h k hk
theorem x_one {xs : Nat → Int32} {k : TK} (h : tHd xs k) : XPa (tHd xs) [k] := fun z hz => by
  rcases List.mem_singleton.mp hz with rfl
  exact h
theorem x_c39all {xs : Nat → Int32} (h : xs 0 &&& 63 = 39) : ∃ (f : Nat) (w : List TK), XPa (tHd xs) w ∧ x_go 7 f w = [] := by
  by_cases a1 : xs 1 < 0
  · exact ⟨40000, x_w39 [(true, .arg 1, .int 0, true)], x_w39P h (x_one (decide_eq_true a1)), x_c39a⟩
  by_cases a2 : 2 < xs 1
  · exact ⟨40000, x_w39 [(true, .int 2, .arg 1, true)], x_w39P h (x_one (decide_eq_true a2)), x_c39b⟩
  obtain ⟨j, hj, e⟩ := nI_of2 (x := xs 1) (M := 2) (n := 2) (by decide +kernel) a1 (Int32.not_lt.mp a2)
  have two : ∀ (k : Int32) (t : Bool), xs 1 = k → decide (xs 2 < 0) = t → XPa (tHd xs) (x_w39 [(false, .arg 1, .int k, true), (true, .arg 2, .int 0, t)]) := fun k t e1 e2 => x_w39P h (tCons (x_one (show tHd xs (true, .arg 2, .int 0, t) from e2)) (show decide (xs 1 = k) = true from decide_eq_true e1))
  by_cases s0 : xs 2 < 0
  · rcases (show j = 0 ∨ j = 1 ∨ j = 2 by omega) with rfl | rfl | rfl
    · exact ⟨40000, _, two 0 true e (decide_eq_true s0), x_c39c0⟩
    · exact ⟨40000, _, two 1 true e (decide_eq_true s0), x_c39c1⟩
    · exact ⟨40000, _, two 2 true e (decide_eq_true s0), x_c39c2⟩
  · rcases (show j = 0 ∨ j = 1 ∨ j = 2 by omega) with rfl | rfl | rfl
    · exact ⟨40000, _, two 0 false e (decide_eq_false s0), x_c39d0⟩
    · exact ⟨40000, _, two 1 false e (decide_eq_false s0), x_c39d1⟩
    · exact ⟨40000, _, two 2 false e (decide_eq_false s0), x_c39d2⟩
theorem x_cases {xs : Nat → Int32} : ∀ j : Nat, j < 64 → xs 0 &&& 63 = nI j → j ≠ 1 → ∃ (f : Nat) (w : List TK), XPa (tHd xs) w ∧ x_go 7 f w = []
  | 0, _, h, _ => ⟨40000, x_wc 0, x_wcP h, x_c0⟩
  | 1, _, _, h => absurd rfl h
  | 2, _, h, _ => ⟨40000, x_wc 2, x_wcP h, x_c2⟩
  | 3, _, h, _ => ⟨40000, x_wc 3, x_wcP h, x_c3⟩
  | 4, _, h, _ => ⟨40000, x_wc 4, x_wcP h, x_c4⟩
  | 5, _, h, _ => ⟨40000, x_wc 5, x_wcP h, x_c5⟩
  | 6, _, h, _ => ⟨40000, x_wc 6, x_wcP h, x_c6⟩
  | 7, _, h, _ => ⟨40000, x_wc 7, x_wcP h, x_c7⟩
  | 8, _, h, _ => ⟨40000, x_wc 8, x_wcP h, x_c8⟩
  | 9, _, h, _ => ⟨40000, x_wc 9, x_wcP h, x_c9⟩
  | 10, _, h, _ => ⟨40000, x_wc 10, x_wcP h, x_c10⟩
  | 11, _, h, _ => ⟨40000, x_wc 11, x_wcP h, x_c11⟩
  | 12, _, h, _ => ⟨40000, x_wc 12, x_wcP h, x_c12⟩
  | 13, _, h, _ => ⟨40000, x_wc 13, x_wcP h, x_c13⟩
  | 14, _, h, _ => ⟨40000, x_wc 14, x_wcP h, x_c14⟩
  | 15, _, h, _ => ⟨40000, x_wc 15, x_wcP h, x_c15⟩
  | 16, _, h, _ => ⟨40000, x_wc 16, x_wcP h, x_c16⟩
  | 17, _, h, _ => ⟨40000, x_wc 17, x_wcP h, x_c17⟩
  | 18, _, h, _ => ⟨40000, x_wc 18, x_wcP h, x_c18⟩
  | 19, _, h, _ => ⟨40000, x_wc 19, x_wcP h, x_c19⟩
  | 20, _, h, _ => ⟨40000, x_wc 20, x_wcP h, x_c20⟩
  | 21, _, h, _ => ⟨40000, x_wc 21, x_wcP h, x_c21⟩
  | 22, _, h, _ => ⟨40000, x_wc 22, x_wcP h, x_c22⟩
  | 23, _, h, _ => ⟨40000, x_wc 23, x_wcP h, x_c23⟩
  | 24, _, h, _ => ⟨40000, x_wc 24, x_wcP h, x_c24⟩
  | 25, _, h, _ => ⟨40000, x_wc 25, x_wcP h, x_c25⟩
  | 26, _, h, _ => ⟨40000, x_wc 26, x_wcP h, x_c26⟩
  | 27, _, h, _ => ⟨40000, x_wc 27, x_wcP h, x_c27⟩
  | 28, _, h, _ => ⟨40000, x_wc 28, x_wcP h, x_c28⟩
  | 29, _, h, _ => ⟨40000, x_wc 29, x_wcP h, x_c29⟩
  | 30, _, h, _ => ⟨40000, x_wc 30, x_wcP h, x_c30⟩
  | 31, _, h, _ => ⟨40000, x_wc 31, x_wcP h, x_c31⟩
  | 32, _, h, _ => ⟨40000, x_wc 32, x_wcP h, x_c32⟩
  | 33, _, h, _ => ⟨40000, x_wc 33, x_wcP h, x_c33⟩
  | 34, _, h, _ => ⟨40000, x_wc 34, x_wcP h, x_c34⟩
  | 35, _, h, _ => ⟨40000, x_wc 35, x_wcP h, x_c35⟩
  | 36, _, h, _ => ⟨40000, x_wc 36, x_wcP h, x_c36⟩
  | 37, _, h, _ => ⟨40000, x_wc 37, x_wcP h, x_c37⟩
  | 38, _, h, _ => ⟨40000, x_wc 38, x_wcP h, x_c38⟩
  | 39, _, h, _ => x_c39all h
  | 40, _, h, _ => ⟨40000, x_wc 40, x_wcP h, x_c40⟩
  | 41, _, h, _ => ⟨40000, x_wc 41, x_wcP h, x_c41⟩
  | j + 42, h2, h, _ => ⟨40000, x_wd, x_wdP h (by omega) h2, x_cd⟩
theorem whole_start {p : Program} {e : Env} {s : State} {m : MethodId} {below : List Frame} {meth : Method} {c : Code} (l : Launch) (hflags : l.flags = flags0) {b L : Nat} {xs : Nat → Int32} (hL : L ≤ 7) (C0 : lw_At p s m meth c b L xs) : W p l e room_1 s m #[Value.ref b] below meth c s.heap [] 0 0 (lw_Z below #[Value.ref b] s) (entryFrame m ([Value.ref b] : List Value).toArray 4) := by
  have nil : XPa (tHd xs) [] := fun k hk => absurd hk List.not_mem_nil
  rcases (show L = 0 ∨ L = 1 ∨ L = 2 ∨ L = 3 ∨ L = 4 ∨ L = 5 ∨ L = 6 ∨ L = 7 by omega) with rfl | rfl | rfl | rfl | rfl | rfl | rfl | rfl
  · exact x_law0 l C0 20000 [] nil x_go0
  · exact x_law0 l C0 20000 [] nil x_go1
  · exact x_law0 l C0 20000 [] nil x_go2
  · exact x_law0 l C0 20000 [] nil x_go3
  · exact x_law0 l C0 20000 [] nil x_go4
  · exact x_law0 l C0 20000 [] nil x_go5
  · exact x_law0 l C0 20000 [] nil x_go6
  · obtain ⟨j, hj, h⟩ := pk_andE (xs 0) (m := 63) 6 (by decide +kernel)
    by_cases h1 : j = 1
    · subst h1
      exact x_law1 l C0 40000 (x_wc 1) (x_wcP h) (fun sf hsf => by
        rcases hsf with rfl | rfl
        · exact x_c1a
        · exact x_c1b)
    · obtain ⟨f, w, hw, hr⟩ := x_cases j hj h h1
      exact x_law0 l C0 f w hw hr
end XWhole
