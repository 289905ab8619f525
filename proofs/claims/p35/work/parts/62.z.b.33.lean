/-! p35 by hand, 32. -/
noncomputable section XH3532
variable {ot : XO Int32} {dp : Nat} {H : List (XC Int32)} {p n m : Nat} {r : Nat → Nat} {pl mi la we ord hf : Nat → Nat}
theorem t259_o {b g z met : Nat} {R : Nat → Nat} (hS : isSt H b n pl mi la we) (hC : isCn H b R (fun h i => (h ≤ 1 ∨ h ≤ g) ∧ i < 2 ^ n) (canN (fun s => mtD ord pl mi la s n 0 0 0))) (hh : hfOk (fun s => mtD ord pl mi la s n 0 0 0) hf (2 ^ n)) (hg : g ≤ 3) (hz : z < g) (hme : met < 2 ^ n) (hmk : hf met ≤ g) : ∀ (d h q : Nat) (L : List (Nat × XV Int32)), h + d = z → q = rsN hf g met h → x_lk L 0 = some (.inr (some b)) → x_lk L 1 = some (.inl (nI g)) → x_lk L 2 = some (.inl (nI (z + 2))) → x_lk L 5 = some (.inl (nI q)) → x_lk L 6 = some (.inl (nI h)) → x_To x_tb x_tyl ot dp 259 160 L [] H 0 0 (some (.inl (nI (gpN hf (rsN hf g met z) (g - 1 - z) (rsN hf g met z))))) H := by
  obtain ⟨-, -, -, -, ⟨-, -, -, h8, -⟩, -⟩ := id hS
  obtain ⟨s1, s2, s3⟩ := b_shl n (by omega)
  intro d
  induction d with
  | zero =>
    intro h q L hd hq l0 l1 l2 l5 l6
    have hhz : h = z := by omega
    have hql := rsN_le (hf := hf) (hands := g) (met := met) h
    have hqh := rs_hf s2 hh hg hme hmk h (by omega)
    rw [← hq] at hql hqh
    rw [show (gpN hf (rsN hf g met z) (g - 1 - z) (rsN hf g met z)) = gpN hf q (g - 1 - h) q by rw [hq, hhz]]
    refine xT_iload g_q259 g259_160 (l5) ?_
    refine xT_istore g_q259 g259_162 (by decide) ?_
    refine t259_p (dp := dp) (w := nI (z + 2)) hS hC hh hg (h := h) (q := q) (by omega) (by omega) hqh (fun L m0 m1 m2 m5 m6 m7 => ?_) q _ (Nat.le_refl q) rfl (lkN (by decide) (l0)) (lkN (by decide) (l1)) (lkN (by decide) (l2)) (lkN (by decide) (l5)) (lkN (by decide) (l6)) (lkY)
    · skip
      refine xT_iload g_q259 g259_214 (m6) ?_
      refine xT_iload_n g_q259 g259_216 (m2) ?_
      refine xT_icV (y := nI (2)) g_q259 g259_217 (by decide) ?_
      refine xT_isubV (y := nI (z)) g_q259 g259_218 (bSubN (by omega)) ?_
      refine xT_if_icmpN g_q259 g259_219 (t := 225) (by decide) (c1N (a := h) (b := z) hhz) ?_
      refine xT_iload g_q259 g259_222 (m7) ?_
      exact xT_ireturn g_q259 g259_224 (rfl)
  | succ d ih =>
    intro h q L hd hq l0 l1 l2 l5 l6
    have hhz : h ≠ z := by omega
    have hql := rsN_le (hf := hf) (hands := g) (met := met) h
    have hqh := rs_hf s2 hh hg hme hmk h (by omega)
    rw [← hq] at hql hqh
    obtain ⟨g1, g2⟩ := gpN_sub (hf := hf) (rest := q) (k := g - 1 - h) (by omega) q
    refine xT_iload g_q259 g259_160 (l5) ?_
    refine xT_istore g_q259 g259_162 (by decide) ?_
    refine t259_p (dp := dp) (w := nI (z + 2)) hS hC hh hg (h := h) (q := q) (by omega) (by omega) hqh (fun L m0 m1 m2 m5 m6 m7 => ?_) q _ (Nat.le_refl q) rfl (lkN (by decide) (l0)) (lkN (by decide) (l1)) (lkN (by decide) (l2)) (lkN (by decide) (l5)) (lkN (by decide) (l6)) (lkY)
    · skip
      refine xT_iload g_q259 g259_214 (m6) ?_
      refine xT_iload_n g_q259 g259_216 (m2) ?_
      refine xT_icV (y := nI (2)) g_q259 g259_217 (by decide) ?_
      refine xT_isubV (y := nI (z)) g_q259 g259_218 (bSubN (by omega)) ?_
      refine xT_if_icmpY g_q259 g259_219 (t := 225) (by decide) (c1Y (a := h) (b := z) hhz (by omega) (by omega)) ?_
      refine xT_iload g_q259 g259_225 (m5) ?_
      refine xT_iload g_q259 g259_227 (m7) ?_
      refine xT_icV (y := -1) g_q259 g259_229 (by decide) ?_
      refine xT_ixorV (y := x_bin 5 (nI (gpN hf q (g - 1 - h) q)) (-1)) g_q259 g259_230 (rfl) ?_
      refine xT_iandV (y := nI (q - gpN hf q (g - 1 - h) q)) g_q259 g259_231 ((b_andn (by omega) (by omega)).trans (congrArg nI (b_sub (by omega) (by omega) g1).2.2)) ?_
      refine xT_istore g_q259 g259_232 (by decide) ?_
      refine xT_iincV (y := nI (h + 1)) g_q259 g259_234 (lkN (by decide) (m6)) (by decide) (bIncN _) ?_
      refine xT_goto g_q259 g259_237 (t := 160) (by decide) ?_
      exact ih (h + 1) (q - gpN hf q (g - 1 - h) q) _ (by omega) (by rw [hq]; rfl) (lkN (by decide) (lkN (by decide) (m0))) (lkN (by decide) (lkN (by decide) (m1))) (lkN (by decide) (lkN (by decide) (m2))) (lkN (by decide) (lkY)) (lkY)
end XH3532
