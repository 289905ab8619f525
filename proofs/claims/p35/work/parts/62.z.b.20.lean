/-! p35 by hand, 19. -/
noncomputable section XH3519
variable {ot : XO Int32} {dp : Nat} {H : List (XC Int32)} {p n m : Nat} {r : Nat → Nat} {pl mi la we ord hf : Nat → Nat}
theorem t148_l {Mn : Nat} {Fin : Option (XV Int32) → List (XC Int32) → Prop} {V0 : List (XV Int32)} (hpA : ¬ 1000000 < p) (hp : H[p]? = some (.inl (7, [.inr (some (r 0)), .inr (some (r 1)), .inr (some (r 2)), .inr (some (r 3)), .inr (some (r 4)), .inr (some (r 5)), .inl (nI n)]))) (R1 : isRw H (r 1) 8 mi n) (h14 : r 1 ≠ r 4) (A4 : r 4 < 1000000) (h4 : H[r 4]? = some (.inr (0, V0))) (hn : n < 8) (hmi : ∀ k, mi k ≤ 899) (ho : ∀ k, k < n → ord k < n) (hM : Mn ≤ 899)
    (kk : ∀ (k : Nat) (V : List (XV Int32)) (L : List (Nat × XV Int32)), k ≤ n → V.length = 8 → (∀ j, j < k → V[j]? = some (.inl (nI (ord j)))) → (∀ j, k < j → j ≤ n → V[j]? = some (.inl (nI (ord (j - 1))))) → (∀ j, k ≤ j → j < n → Mn < mi (ord j)) → (k = 0 ∨ mi (ord (k - 1)) ≤ Mn) → x_lk L 0 = some (.inr (some p)) → x_lk L 5 = some (.inl (nI n)) → x_lk L 6 = some (.inl (nI k)) → ∃ v H2, x_To x_tb x_tyl ot dp 148 100 L [] (H.set (r 4) (.inr (0, V))) 0 0 v H2 ∧ Fin v H2) :
    ∀ (k : Nat) (V : List (XV Int32)) (L : List (Nat × XV Int32)), k ≤ n → V.length = 8 → (∀ j, j < k → V[j]? = some (.inl (nI (ord j)))) → (∀ j, k < j → j ≤ n → V[j]? = some (.inl (nI (ord (j - 1))))) → (∀ j, k ≤ j → j < n → Mn < mi (ord j)) → x_lk L 0 = some (.inr (some p)) → x_lk L 2 = some (.inl (nI Mn)) → x_lk L 5 = some (.inl (nI n)) → x_lk L 6 = some (.inl (nI k)) → ∃ v H2, x_To x_tb x_tyl ot dp 148 55 L [] (H.set (r 4) (.inr (0, V))) 0 0 v H2 ∧ Fin v H2 := by
  intro k
  induction k with
  | zero =>
    intro V L hk hVl lo hi hm l0 l2 l5 l6
    obtain ⟨v, H2, x, f⟩ := kk 0 V L hk hVl lo hi hm (Or.inl rfl) l0 l5 l6
    refine ⟨v, H2, ?_, f⟩
    refine xT_iload g_q148 g148_55 (l6) ?_
    refine xT_ifCondY g_q148 g148_57 (t := 100) (by decide) (c5Y (a := 0) (b := 0) (Nat.le_refl 0) (by omega) (by omega)) ?_
    exact x
  | succ k ih =>
    intro V L hk hVl lo hi hm l0 l2 l5 l6
    have hpG : (H.set (r 4) (.inr (0, V)))[p]? = some (.inl (7, [.inr (some (r 0)), .inr (some (r 1)), .inr (some (r 2)), .inr (some (r 3)), .inr (some (r 4)), .inr (some (r 5)), .inl (nI n)])) := gtag h4 hp (fun e => by cases e)
    obtain ⟨d1, v1, a1, b1, e1⟩ := isRw_ne (w := .inr (0, V)) R1 h14
    have a4 : (H.set (r 4) (.inr (0, V)))[r 4]? = some (.inr (0, V)) := gself h4
    have hok := ho k (by omega)
    have hmk := hmi (ord k)
    by_cases hc : mi (ord k) ≤ Mn
    · obtain ⟨v, H2, x, f⟩ := kk (k + 1) V L hk hVl lo hi hm (Or.inr hc) l0 l5 l6
      refine ⟨v, H2, ?_, f⟩
      refine xT_iload g_q148 g148_55 (l6) ?_
      refine xT_ifCondN g_q148 g148_57 (t := 100) (by decide) (c5N (a := k + 1) (b := 0) (by omega) (by omega) (by omega)) ?_
      refine xT_aload_n g_q148 g148_60 (l0) ?_
      refine xT_getfield g_q148 g148_61 hpA rfl hpG rfl rfl ?_
      refine xT_aload_n g_q148 g148_64 (l0) ?_
      refine xT_getfield g_q148 g148_65 hpA rfl hpG rfl rfl ?_
      refine xT_iload g_q148 g148_68 (l6) ?_
      refine xT_icV (y := nI (1)) g_q148 g148_70 (by decide) ?_
      refine xT_isubV (y := nI (k)) g_q148 g148_71 (bSubN (by omega)) ?_
      refine xT_iaload g_q148 g148_72 (by omega) a4 (ixN (n := 8) (by omega) hVl) (ixG (by omega) (lo k (by omega))) ?_
      refine xT_iaload g_q148 g148_73 (by omega) a1 (ixN (n := 8) (by omega) b1) (ixG (by omega) (e1 _ (by omega))) ?_
      refine xT_iload_n g_q148 g148_74 (l2) ?_
      refine xT_if_icmpY g_q148 g148_75 (t := 100) (by decide) (c5Y (a := mi (ord k)) (b := Mn) hc (by omega) (by omega)) ?_
      exact x
    · have hc := Nat.lt_of_not_le hc
      obtain ⟨v, H2, x, f⟩ := ih (V.set (k + 1) (.inl (nI (ord k)))) (x_st (L) 6 (.inl (nI (k)))) (by omega) (by rw [List.length_set]; exact hVl) (fun j hj => by
        rw [List.getElem?_set_ne (by omega)]
        exact lo j (by omega)) (fun j hj hjn => by
        by_cases e : j = k + 1
        · subst e
          rw [Nat.add_sub_cancel]
          exact List.getElem?_set_self (by omega)
        · rw [List.getElem?_set_ne (fun z => e z.symm)]
          exact hi j (by omega) hjn) (fun j hj hjn => by
        by_cases e : j = k
        · rw [e]
          exact hc
        · exact hm j (by omega) hjn) (lkN (by decide) (l0)) (lkN (by decide) (l2)) (lkN (by decide) (l5)) (lkY)
      refine ⟨v, H2, ?_, f⟩
      refine xT_iload g_q148 g148_55 (l6) ?_
      refine xT_ifCondN g_q148 g148_57 (t := 100) (by decide) (c5N (a := k + 1) (b := 0) (by omega) (by omega) (by omega)) ?_
      refine xT_aload_n g_q148 g148_60 (l0) ?_
      refine xT_getfield g_q148 g148_61 hpA rfl hpG rfl rfl ?_
      refine xT_aload_n g_q148 g148_64 (l0) ?_
      refine xT_getfield g_q148 g148_65 hpA rfl hpG rfl rfl ?_
      refine xT_iload g_q148 g148_68 (l6) ?_
      refine xT_icV (y := nI (1)) g_q148 g148_70 (by decide) ?_
      refine xT_isubV (y := nI (k)) g_q148 g148_71 (bSubN (by omega)) ?_
      refine xT_iaload g_q148 g148_72 (by omega) a4 (ixN (n := 8) (by omega) hVl) (ixG (by omega) (lo k (by omega))) ?_
      refine xT_iaload g_q148 g148_73 (by omega) a1 (ixN (n := 8) (by omega) b1) (ixG (by omega) (e1 _ (by omega))) ?_
      refine xT_iload_n g_q148 g148_74 (l2) ?_
      refine xT_if_icmpN g_q148 g148_75 (t := 100) (by decide) (c5N (a := mi (ord k)) (b := Mn) hc (by omega) (by omega)) ?_
      refine xT_aload_n g_q148 g148_78 (l0) ?_
      refine xT_getfield g_q148 g148_79 hpA rfl hpG rfl rfl ?_
      refine xT_iload g_q148 g148_82 (l6) ?_
      refine xT_aload_n g_q148 g148_84 (l0) ?_
      refine xT_getfield g_q148 g148_85 hpA rfl hpG rfl rfl ?_
      refine xT_iload g_q148 g148_88 (l6) ?_
      refine xT_icV (y := nI (1)) g_q148 g148_90 (by decide) ?_
      refine xT_isubV (y := nI (k)) g_q148 g148_91 (bSubN (by omega)) ?_
      refine xT_iaload g_q148 g148_92 (by omega) a4 (ixN (n := 8) (by omega) hVl) (ixG (by omega) (lo k (by omega))) ?_
      refine xT_iaN g_q148 g148_93 a4 hVl (by omega) ?_
      rw [set_set]
      refine xT_iincV (y := nI (k)) g_q148 g148_94 (l6) (by decide) (bDecN (Nat.succ_pos k)) ?_
      refine xT_goto g_q148 g148_97 (t := 55) (by decide) ?_
      exact x
end XH3519
