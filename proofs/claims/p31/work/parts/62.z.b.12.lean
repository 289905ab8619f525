/-! p31 by hand, 11. -/
noncomputable section XH31_11
variable {ot : XO Int32} {dp : Nat} {H : List (XC Int32)} {a b tr tc fr r n m : Nat} {vs wl : List (XV Int32)}
theorem t249_e (hM : kM H b n m) (hY : isBy H r wl) {B : Nat → Int32} (hB : ∀ t, t < n → wl[t]? = some (.inl (B t))) {w : Nat} (hw : w = 0 ∨ w = 1) {L : List (Nat × XV Int32)} (l0 : x_lk L 0 = some (.inr (some (b)))) (l1 : x_lk L 1 = some (.inl (nI (w)))) (l2 : x_lk L 2 = some (.inr (some (r)))) (l3 : x_lk L 3 = some (.inl ((fA B n 0 0)))) : x_To x_tb x_tyl ot (dp + 1) 249 87 L [] H 1 8 (some (.inl (if w = 0 then nI (mnU (pS B n) fC (2 ^ n) 0 (2 ^ n - 1)) else bcI (fA B n 0 0)))) H := by
  obtain ⟨hbA, hn8, hm8, hs, hb0, h32, h34⟩ := id hM
  obtain ⟨hrA, hr0, hrl⟩ := id hY
  obtain ⟨-, h256, h0⟩ := b_sh n hn8
  refine xT_icV (y := nI (1)) g_q249 g249_87 (by decide) ?_
  refine xT_aload_n g_q249 g249_88 (l0) ?_
  refine xT_getfield g_q249 g249_89 hbA rfl hb0 rfl h32 ?_
  refine xT_ishlV (y := nI (2 ^ n)) g_q249 g249_92 ((b_sh n hn8).1) ?_
  refine xT_icV (y := nI (1)) g_q249 g249_93 (by decide) ?_
  refine xT_isubV (y := nI (2 ^ n - 1)) g_q249 g249_94 (bSubN (b_sh n hn8).2.2) ?_
  refine xT_istore g_q249 g249_95 (by decide) ?_
  refine xT_icV (y := nI (0)) g_q249 g249_97 (by decide) ?_
  refine xT_istore g_q249 g249_98 (by decide) ?_
  refine t249_s (Z := mnU (pS B n) fC (2 ^ n) 0 (2 ^ n - 1)) hM hY hB (fun L m0 m1 m2 m3 m4 => ?_) (2 ^ n) 0 (2 ^ n - 1) _ (by omega) (by omega) rfl (lkN (by decide) (lkN (by decide) (l0))) (lkN (by decide) (lkN (by decide) (l1))) (lkN (by decide) (lkN (by decide) (l2))) (lkN (by decide) (lkN (by decide) (l3))) (lkN (by decide) (lkY)) (lkY)
  rcases hw with rfl | rfl
  · rw [if_pos rfl]
    refine xT_iload_n g_q249 g249_207 (m1) ?_
    refine xT_ifCondN g_q249 g249_208 (t := 216) (by decide) (c1N (b := 0) rfl) ?_
    refine xT_iload g_q249 g249_211 (m4) ?_
    refine xT_goto g_q249 g249_213 (t := 220) (by decide) ?_
    exact xT_ireturn g_q249 g249_220 (rfl)
  · rw [if_neg (by decide)]
    refine xT_iload_n g_q249 g249_207 (m1) ?_
    refine xT_ifCondY g_q249 g249_208 (t := 216) (by decide) (c1Y (a := 1) (b := 0) (by omega) (by omega) (by omega)) ?_
    refine xT_iload_n g_q249 g249_216 (m3) ?_
    refine xT_invokestatic (r := []) (u := some (.inl (bcI (fA B n 0 0)))) g_q249 g249_217 (j := 126) (so := 2) (by decide +kernel) g_q126 (rfl) (t126) ?_
    exact xT_ireturn g_q249 g249_220 (rfl)
end XH31_11
