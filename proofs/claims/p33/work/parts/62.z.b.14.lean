/-! p33 by hand, 13. -/
noncomputable section XH33_13
variable {ot : XO Int32} {dp : Nat} {H H0 : List (XC Int32)}
theorem t76 {R nu ob oi sp co se inp : Nat} {nf of : List (XV Int32)} {yr ln nx dn en hw lw : Int32} {os : Nat} {p : rP} {nu_ : Nat → Int32} (hA0 : ¬ 1000000 < R) (hA2 : ¬ 1000000 < ob) (hN1 : ¬ nu = 1000000) (hN3 : ¬ oi = 1000000) (hnl : nf.length = 6) (hol : of.length = 12) (hS : cS H0 [R, nu, ob, oi] se p) (hnf : ∀ k, k < 6 → nf[k]? = some (.inl (nu_ k))) {f : Nat} (hf : f < 6) (h : hm H0 H [R, nu, ob, oi] [.inl (4, [.inr (some (nu)), .inr (some (sp)), .inr (some (co)), .inr (some (se)), .inr (some (inp)), .inr (some (ob)), .inl (yr), .inl (ln), .inl (nx), .inl (dn), .inl (en), .inl (hw), .inl (lw)]), .inr (0, nf), .inl (5, [.inr (some (oi)), .inl (nI (os))]), .inr (0, of)]) : x_To x_tb x_tyl ot (dp + 1) 76 0 (x_en 0 [.inr (some (R)), .inl (nI (f))]) [] H 0 0 (some (.inl (nu_ f))) H := by
  obtain ⟨hsA, sfs, hsR⟩ : ¬ 1000000 < se ∧ ∃ sfs, c3R H0 [R, nu, ob, oi] se (.inl (3, sfs)) := by
    obtain ⟨q, ⟨dr, pr, z, -⟩ | ⟨dr, pr, z, -⟩⟩ := hS
    · exact ⟨q, _, z⟩
    · exact ⟨q, _, z⟩
  refine xT_aload_n g_q76 g76_0 (rfl) ?_
  refine xT_getfield g_q76 g76_1 hA0 rfl (hm_at h (i := 0) rfl rfl) rfl rfl ?_
  refine xT_iload_n g_q76 g76_4 (rfl) ?_
  refine xT_aload_n g_q76 g76_5 (rfl) ?_
  refine xT_getfield g_q76 g76_6 hA0 rfl (hm_at h (i := 0) rfl rfl) rfl rfl ?_
  refine xT_iload_n g_q76 g76_9 (rfl) ?_
  refine xT_iaload g_q76 g76_10 hN1 (hm_at h (i := 1) rfl rfl) (ixN (n := 6) (by omega) hnl) (ixG (by omega) (hnf _ (by omega))) ?_
  refine xT_invokevirtual (r := []) (u := some (.inl ((nu_ (f))))) g_q76 g76_11 (j := 77) (so := 0) (by decide +kernel) g_q77 rfl (by rw [x_rcM hsA (hm_c h hsR)]; rfl) (t77 h hS hf) ?_
  exact xT_ireturn g_q76 g76_14 (rfl)
end XH33_13
