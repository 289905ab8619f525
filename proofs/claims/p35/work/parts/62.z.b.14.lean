/-! p35 by hand, 13. -/
noncomputable section XH3513
variable {ot : XO Int32} {dp : Nat} {H : List (XC Int32)} {p n m : Nat} {r : Nat → Nat} {pl mi la we ord hf : Nat → Nat}
/-- the part that is looked at next -/
def owI : Nat → Int32
  | 0 => -1
  | o + 1 => nI o
theorem owI_dec {o : Nat} : x_bin 0 (nI o) (Int32.ofInt (-1)) = owI o := by
  rcases o with _ | o
  · decide
  · exact bDecN (Nat.succ_pos o)
theorem t260_own {b hn : Nat} {R : Nat → Nat} {Fin : Option (XV Int32) → List (XC Int32) → Prop} {g s : Nat} (hg : g + 2 < 4) (hn8 : n ≤ 8) (hs : s < 2 ^ n) {kn : Nat → Nat → Prop} (hkn : ∀ o, o < 2 ^ n → kn 1 o ∧ kn (g + 1) o) (hks : ¬ kn (g + 2) s)
    (kk : ∀ (L : List (Nat × XV Int32)) (H : List (XC Int32)), isSt H b n pl mi la we → isCn H b R (fun h i => kn h i ∨ (h = g + 2 ∧ i = s)) (canN (fun s => mtD ord pl mi la s n 0 0 0)) → x_lk L 0 = some (.inr (some b)) → x_lk L 1 = some (.inl (nI hn)) → x_lk L 2 = some (.inl (nI (g + 2))) → x_lk L 3 = some (.inl (nI s)) → ∃ v H2, x_To x_tb x_tyl ot (dp + 1) 260 153 L [] H 0 0 v H2 ∧ Fin v H2) :
    ∀ (j : Nat) (c : Nat) (V : List (XV Int32)) (L : List (Nat × XV Int32)) (H : List (XC Int32)), j ≤ s + 1 → isSt H b n pl mi la we → isCn H b R kn (canN (fun s => mtD ord pl mi la s n 0 0 0)) → H[R (g + 2)]? = some (.inr (1, V)) → V.length = 256 → V[s]? = some (.inl (nI c)) → (c = 0 ∨ c = 1) → (if c = 1 then 1 else exD (fun o => decide (andn o s = 0) && decide (mtD ord pl mi la o n 0 0 0 = 1) && decide ((canN (fun s => mtD ord pl mi la s n 0 0 0)) (g + 1) (s - o) = 1)) j) = (canN (fun s => mtD ord pl mi la s n 0 0 0)) (g + 2) s → x_lk L 0 = some (.inr (some b)) → x_lk L 1 = some (.inl (nI hn)) → x_lk L 2 = some (.inl (nI (g + 2))) → x_lk L 3 = some (.inl (nI s)) → x_lk L 4 = some (.inl (owI j)) → ∃ v H2, x_To x_tb x_tyl ot (dp + 1) 260 79 L [] H 0 0 v H2 ∧ Fin v H2 := by
  intro j
  induction j with
  | zero =>
    intro c V L H hj hS hC f1 f2 f3 hc he l0 l1 l2 l3 l4
    obtain ⟨fs, cr, cn, ⟨hbA, hb, h68, hcn, hcl⟩, hcr, hinj⟩ := id hC
    obtain ⟨fs9, -, -, -, ⟨-, hb9, h36, h8, -⟩, -⟩ := id hS
    obtain rfl : fs9 = fs := by
      rw [hb] at hb9
      cases hb9
      rfl
    obtain ⟨s1, s2, s3⟩ := b_shl n (by omega)
    have l4 : x_lk L 4 = some (.inl (-1)) := l4
    have e : c = (canN (fun s => mtD ord pl mi la s n 0 0 0)) (g + 2) s := by
      rw [← he]
      rcases hc with rfl | rfl
      · rfl
      · rfl
    obtain ⟨v, H2, x, f⟩ := kk L H hS (isCn_kn hC (by omega) f1 (by rw [← e]; exact f3) (fun h' i' z => z.elim Or.inr Or.inl)) l0 l1 l2 l3
    refine ⟨v, H2, ?_, f⟩
    · skip
      refine xT_iload g_q260 g260_79 (l4) ?_
      refine xT_ifCondY g_q260 g260_81 (t := 153) (by decide) (by decide +kernel) ?_
      exact x
  | succ o ih =>
    intro c V L H hj hS hC f1 f2 f3 hc he l0 l1 l2 l3 l4
    obtain ⟨fs, cr, cn, ⟨hbA, hb, h68, hcn, hcl⟩, hcr, hinj⟩ := id hC
    obtain ⟨fs9, -, -, -, ⟨-, hb9, h36, h8, -⟩, -⟩ := id hS
    obtain rfl : fs9 = fs := by
      rw [hb] at hb9
      cases hb9
      rfl
    obtain ⟨s1, s2, s3⟩ := b_shl n (by omega)
    have l4 : x_lk L 4 = some (.inl (nI o)) := l4
    obtain ⟨-, -, V1, g1, g2, g3⟩ := hcr 1 (by decide)
    obtain ⟨-, -, V2, k1, k2, k3⟩ := hcr (g + 1) (by omega)
    rcases hc with hc0 | hc1
    rotate_left
    · have e : c = (canN (fun s => mtD ord pl mi la s n 0 0 0)) (g + 2) s := by
        rw [← he, if_pos hc1, hc1]
      obtain ⟨v, H2, x, f⟩ := kk L H hS (isCn_kn hC (by omega) f1 (by rw [← e]; exact f3) (fun h' i' z => z.elim Or.inr Or.inl)) l0 l1 l2 l3
      refine ⟨v, H2, ?_, f⟩
      refine xT_iload g_q260 g260_79 (l4) ?_
      refine xT_ifCondN g_q260 g260_81 (t := 153) (by decide) (c2N (b := 0) (Nat.zero_le _) (by omega) (by omega)) ?_
      refine xT_aload_n g_q260 g260_84 (l0) ?_
      refine xT_getfield g_q260 g260_85 hbA rfl hb rfl h68 ?_
      refine xT_iload_n g_q260 g260_88 (l2) ?_
      refine xT_aaload g_q260 g260_89 (by decide +kernel) hcn (ixN (n := 4) (by omega) hcl) (ixG (by omega) (hcr _ (by omega)).1) ?_
      refine xT_iload_n g_q260 g260_90 (l3) ?_
      refine xT_baload g_q260 g260_91 (hcr (g + 2) (by omega)).2.1 f1 (ixN (n := 256) (by omega) f2) (ixG (by omega) f3) ?_
      refine xT_ifCondY g_q260 g260_92 (t := 153) (by decide) (c1Y (a := c) (b := 0) (by omega) (by omega) (by omega)) ?_
      exact x
    rw [if_neg (by omega)] at he
    have step : ∀ x : Nat, (x = 0 ∨ x = 1) → (x = if (fun o => decide (andn o s = 0) && decide (mtD ord pl mi la o n 0 0 0 = 1) && decide ((canN (fun s => mtD ord pl mi la s n 0 0 0)) (g + 1) (s - o) = 1)) o = true then 1 else 0) → ∃ v H2, x_To x_tb x_tyl ot (dp + 1) 260 146 L [.inl (nI x), .inl (nI s), .inr (some (R (g + 2)))] H 0 0 v H2 ∧ Fin v H2 := by
      intro x hx hxP
      obtain ⟨v, H2, x2, f⟩ := ih x (V.set s (.inl (nI x))) (x_st (L) 4 (.inl (owI o))) (H.set (R (g + 2)) (.inr (1, V.set s (.inl (nI x))))) (by omega) (isSt_set hS f1) (isCn_put hC (by omega) (by omega) f1 (fun h' i' z => Or.inr ⟨z, fun q => by
        obtain ⟨rfl, rfl⟩ := q
        exact hks z⟩)) (gself f1) (by rw [List.length_set]; exact f2) (List.getElem?_set_self (by omega)) hx (by
        rw [← he]
        show _ = if (fun o => decide (andn o s = 0) && decide (mtD ord pl mi la o n 0 0 0 = 1) && decide ((canN (fun s => mtD ord pl mi la s n 0 0 0)) (g + 1) (s - o) = 1)) o = true then 1 else exD (fun o => decide (andn o s = 0) && decide (mtD ord pl mi la o n 0 0 0 = 1) && decide ((canN (fun s => mtD ord pl mi la s n 0 0 0)) (g + 1) (s - o) = 1)) o
        rw [hxP]
        split
        · rfl
        · rfl) (lkN (by decide) (l0)) (lkN (by decide) (l1)) (lkN (by decide) (l2)) (lkN (by decide) (l3)) (lkY)
      refine ⟨v, H2, ?_, f⟩
      refine xT_b256 g_q260 g260_146 hx f1 f2 (by omega) ?_
      refine xT_iincV (y := owI o) g_q260 g260_147 (l4) (by decide) (owI_dec) ?_
      refine xT_goto g_q260 g260_150 (t := 79) (by decide) ?_
      exact x2
    have hcb := canN_b (M := fun s => mtD ord pl mi la s n 0 0 0) (fun s => mtD_b _ _ _ _) (g + 1) (s - o)
    have hmb := mtD_b (ord := ord) (pl := pl) (mi := mi) (la := la) (s := o) n 0 0 0
    by_cases p1 : andn o s = 0
    rotate_left
    · obtain ⟨v, H2, x, f⟩ := step 0 (Or.inl rfl) (if_neg (fun z => by simp [p1] at z)).symm
      refine ⟨v, H2, ?_, f⟩
      refine xT_iload g_q260 g260_79 (l4) ?_
      refine xT_ifCondN g_q260 g260_81 (t := 153) (by decide) (c2N (b := 0) (Nat.zero_le _) (by omega) (by omega)) ?_
      refine xT_aload_n g_q260 g260_84 (l0) ?_
      refine xT_getfield g_q260 g260_85 hbA rfl hb rfl h68 ?_
      refine xT_iload_n g_q260 g260_88 (l2) ?_
      refine xT_aaload g_q260 g260_89 (by decide +kernel) hcn (ixN (n := 4) (by omega) hcl) (ixG (by omega) (hcr _ (by omega)).1) ?_
      refine xT_iload_n g_q260 g260_90 (l3) ?_
      refine xT_baload g_q260 g260_91 (hcr (g + 2) (by omega)).2.1 f1 (ixN (n := 256) (by omega) f2) (ixG (by omega) f3) ?_
      refine xT_ifCondN g_q260 g260_92 (t := 153) (by decide) (c1N (b := 0) hc0) ?_
      refine xT_aload_n g_q260 g260_95 (l0) ?_
      refine xT_getfield g_q260 g260_96 hbA rfl hb rfl h68 ?_
      refine xT_iload_n g_q260 g260_99 (l2) ?_
      refine xT_aaload g_q260 g260_100 (by decide +kernel) hcn (ixN (n := 4) (by omega) hcl) (ixG (by omega) (hcr _ (by omega)).1) ?_
      refine xT_iload_n g_q260 g260_101 (l3) ?_
      refine xT_iload g_q260 g260_102 (l4) ?_
      refine xT_iload_n g_q260 g260_104 (l3) ?_
      refine xT_icV (y := -1) g_q260 g260_105 (by decide) ?_
      refine xT_ixorV (y := x_bin 5 (nI s) (-1)) g_q260 g260_106 (rfl) ?_
      refine xT_iandV (y := nI (andn o s)) g_q260 g260_107 (b_andn (by omega) (by omega)) ?_
      refine xT_ifCondY g_q260 g260_108 (t := 145) (by decide) (c1Y (a := andn o s) (b := 0) p1 (by have := andn_le o s; omega) (by omega)) ?_
      refine xT_icV (y := nI (0)) g_q260 g260_145 (by decide) ?_
      exact x
    have hso := (b_sub (s := s) (o := o) (by omega) (by omega) p1).1
    rcases hmb with p2 | p2
    · obtain ⟨v, H2, x, f⟩ := step 0 (Or.inl rfl) (if_neg (fun z => by simp [p2] at z)).symm
      refine ⟨v, H2, ?_, f⟩
      refine xT_iload g_q260 g260_79 (l4) ?_
      refine xT_ifCondN g_q260 g260_81 (t := 153) (by decide) (c2N (b := 0) (Nat.zero_le _) (by omega) (by omega)) ?_
      refine xT_aload_n g_q260 g260_84 (l0) ?_
      refine xT_getfield g_q260 g260_85 hbA rfl hb rfl h68 ?_
      refine xT_iload_n g_q260 g260_88 (l2) ?_
      refine xT_aaload g_q260 g260_89 (by decide +kernel) hcn (ixN (n := 4) (by omega) hcl) (ixG (by omega) (hcr _ (by omega)).1) ?_
      refine xT_iload_n g_q260 g260_90 (l3) ?_
      refine xT_baload g_q260 g260_91 (hcr (g + 2) (by omega)).2.1 f1 (ixN (n := 256) (by omega) f2) (ixG (by omega) f3) ?_
      refine xT_ifCondN g_q260 g260_92 (t := 153) (by decide) (c1N (b := 0) hc0) ?_
      refine xT_aload_n g_q260 g260_95 (l0) ?_
      refine xT_getfield g_q260 g260_96 hbA rfl hb rfl h68 ?_
      refine xT_iload_n g_q260 g260_99 (l2) ?_
      refine xT_aaload g_q260 g260_100 (by decide +kernel) hcn (ixN (n := 4) (by omega) hcl) (ixG (by omega) (hcr _ (by omega)).1) ?_
      refine xT_iload_n g_q260 g260_101 (l3) ?_
      refine xT_iload g_q260 g260_102 (l4) ?_
      refine xT_iload_n g_q260 g260_104 (l3) ?_
      refine xT_icV (y := -1) g_q260 g260_105 (by decide) ?_
      refine xT_ixorV (y := x_bin 5 (nI s) (-1)) g_q260 g260_106 (rfl) ?_
      refine xT_iandV (y := nI (andn o s)) g_q260 g260_107 (b_andn (by omega) (by omega)) ?_
      refine xT_ifCondN g_q260 g260_108 (t := 145) (by decide) (c1N (b := 0) p1) ?_
      refine xT_aload_n g_q260 g260_111 (l0) ?_
      refine xT_getfield g_q260 g260_112 hbA rfl hb rfl h68 ?_
      refine xT_icV (y := nI (1)) g_q260 g260_115 (by decide) ?_
      refine xT_aaload g_q260 g260_116 (by decide +kernel) hcn (ixN (n := 4) (by omega) hcl) (ixG (by omega) (hcr _ (by omega)).1) ?_
      refine xT_iload g_q260 g260_117 (l4) ?_
      refine xT_baload g_q260 g260_119 (hcr 1 (by decide)).2.1 g1 (ixN (n := 256) (by omega) g2) (ixG (by omega) (g3 o (by omega) (hkn o (by omega)).1)) ?_
      refine xT_ifCondY g_q260 g260_120 (t := 145) (by decide) (c0Y (b := 0) p2) ?_
      refine xT_icV (y := nI (0)) g_q260 g260_145 (by decide) ?_
      exact x
    rcases hcb with p3 | p3
    · obtain ⟨v, H2, x, f⟩ := step 0 (Or.inl rfl) (if_neg (fun z => by simp [p3] at z)).symm
      refine ⟨v, H2, ?_, f⟩
      refine xT_iload g_q260 g260_79 (l4) ?_
      refine xT_ifCondN g_q260 g260_81 (t := 153) (by decide) (c2N (b := 0) (Nat.zero_le _) (by omega) (by omega)) ?_
      refine xT_aload_n g_q260 g260_84 (l0) ?_
      refine xT_getfield g_q260 g260_85 hbA rfl hb rfl h68 ?_
      refine xT_iload_n g_q260 g260_88 (l2) ?_
      refine xT_aaload g_q260 g260_89 (by decide +kernel) hcn (ixN (n := 4) (by omega) hcl) (ixG (by omega) (hcr _ (by omega)).1) ?_
      refine xT_iload_n g_q260 g260_90 (l3) ?_
      refine xT_baload g_q260 g260_91 (hcr (g + 2) (by omega)).2.1 f1 (ixN (n := 256) (by omega) f2) (ixG (by omega) f3) ?_
      refine xT_ifCondN g_q260 g260_92 (t := 153) (by decide) (c1N (b := 0) hc0) ?_
      refine xT_aload_n g_q260 g260_95 (l0) ?_
      refine xT_getfield g_q260 g260_96 hbA rfl hb rfl h68 ?_
      refine xT_iload_n g_q260 g260_99 (l2) ?_
      refine xT_aaload g_q260 g260_100 (by decide +kernel) hcn (ixN (n := 4) (by omega) hcl) (ixG (by omega) (hcr _ (by omega)).1) ?_
      refine xT_iload_n g_q260 g260_101 (l3) ?_
      refine xT_iload g_q260 g260_102 (l4) ?_
      refine xT_iload_n g_q260 g260_104 (l3) ?_
      refine xT_icV (y := -1) g_q260 g260_105 (by decide) ?_
      refine xT_ixorV (y := x_bin 5 (nI s) (-1)) g_q260 g260_106 (rfl) ?_
      refine xT_iandV (y := nI (andn o s)) g_q260 g260_107 (b_andn (by omega) (by omega)) ?_
      refine xT_ifCondN g_q260 g260_108 (t := 145) (by decide) (c1N (b := 0) p1) ?_
      refine xT_aload_n g_q260 g260_111 (l0) ?_
      refine xT_getfield g_q260 g260_112 hbA rfl hb rfl h68 ?_
      refine xT_icV (y := nI (1)) g_q260 g260_115 (by decide) ?_
      refine xT_aaload g_q260 g260_116 (by decide +kernel) hcn (ixN (n := 4) (by omega) hcl) (ixG (by omega) (hcr _ (by omega)).1) ?_
      refine xT_iload g_q260 g260_117 (l4) ?_
      refine xT_baload g_q260 g260_119 (hcr 1 (by decide)).2.1 g1 (ixN (n := 256) (by omega) g2) (ixG (by omega) (g3 o (by omega) (hkn o (by omega)).1)) ?_
      refine xT_ifCondN g_q260 g260_120 (t := 145) (by decide) (c0N (a := mtD ord pl mi la o n 0 0 0) (b := 0) (by omega) (by omega) (by omega)) ?_
      refine xT_aload_n g_q260 g260_123 (l0) ?_
      refine xT_getfield g_q260 g260_124 hbA rfl hb rfl h68 ?_
      refine xT_iload_n g_q260 g260_127 (l2) ?_
      refine xT_icV (y := nI (1)) g_q260 g260_128 (by decide) ?_
      refine xT_isubV (y := nI (g + 1)) g_q260 g260_129 (bSubN (by omega)) ?_
      refine xT_aaload g_q260 g260_130 (by decide +kernel) hcn (ixN (n := 4) (by omega) hcl) (ixG (by omega) (hcr _ (by omega)).1) ?_
      refine xT_iload_n g_q260 g260_131 (l3) ?_
      refine xT_iload g_q260 g260_132 (l4) ?_
      refine xT_icV (y := -1) g_q260 g260_134 (by decide) ?_
      refine xT_ixorV (y := x_bin 5 (nI o) (-1)) g_q260 g260_135 (rfl) ?_
      refine xT_iandV (y := nI (s - o)) g_q260 g260_136 ((b_andn (by omega) (by omega)).trans (congrArg nI (b_sub (by omega) (by omega) p1).2.2)) ?_
      refine xT_baload g_q260 g260_137 (hcr (g + 1) (by omega)).2.1 k1 (ixN (n := 256) (by omega) k2) (ixG (by omega) (k3 (s - o) (by omega) (hkn (s - o) (by omega)).2)) ?_
      refine xT_ifCondY g_q260 g260_138 (t := 145) (by decide) (c0Y (b := 0) p3) ?_
      refine xT_icV (y := nI (0)) g_q260 g260_145 (by decide) ?_
      exact x
    · obtain ⟨v, H2, x, f⟩ := step 1 (Or.inr rfl) (if_pos (by simp [p1, p2, p3])).symm
      refine ⟨v, H2, ?_, f⟩
      refine xT_iload g_q260 g260_79 (l4) ?_
      refine xT_ifCondN g_q260 g260_81 (t := 153) (by decide) (c2N (b := 0) (Nat.zero_le _) (by omega) (by omega)) ?_
      refine xT_aload_n g_q260 g260_84 (l0) ?_
      refine xT_getfield g_q260 g260_85 hbA rfl hb rfl h68 ?_
      refine xT_iload_n g_q260 g260_88 (l2) ?_
      refine xT_aaload g_q260 g260_89 (by decide +kernel) hcn (ixN (n := 4) (by omega) hcl) (ixG (by omega) (hcr _ (by omega)).1) ?_
      refine xT_iload_n g_q260 g260_90 (l3) ?_
      refine xT_baload g_q260 g260_91 (hcr (g + 2) (by omega)).2.1 f1 (ixN (n := 256) (by omega) f2) (ixG (by omega) f3) ?_
      refine xT_ifCondN g_q260 g260_92 (t := 153) (by decide) (c1N (b := 0) hc0) ?_
      refine xT_aload_n g_q260 g260_95 (l0) ?_
      refine xT_getfield g_q260 g260_96 hbA rfl hb rfl h68 ?_
      refine xT_iload_n g_q260 g260_99 (l2) ?_
      refine xT_aaload g_q260 g260_100 (by decide +kernel) hcn (ixN (n := 4) (by omega) hcl) (ixG (by omega) (hcr _ (by omega)).1) ?_
      refine xT_iload_n g_q260 g260_101 (l3) ?_
      refine xT_iload g_q260 g260_102 (l4) ?_
      refine xT_iload_n g_q260 g260_104 (l3) ?_
      refine xT_icV (y := -1) g_q260 g260_105 (by decide) ?_
      refine xT_ixorV (y := x_bin 5 (nI s) (-1)) g_q260 g260_106 (rfl) ?_
      refine xT_iandV (y := nI (andn o s)) g_q260 g260_107 (b_andn (by omega) (by omega)) ?_
      refine xT_ifCondN g_q260 g260_108 (t := 145) (by decide) (c1N (b := 0) p1) ?_
      refine xT_aload_n g_q260 g260_111 (l0) ?_
      refine xT_getfield g_q260 g260_112 hbA rfl hb rfl h68 ?_
      refine xT_icV (y := nI (1)) g_q260 g260_115 (by decide) ?_
      refine xT_aaload g_q260 g260_116 (by decide +kernel) hcn (ixN (n := 4) (by omega) hcl) (ixG (by omega) (hcr _ (by omega)).1) ?_
      refine xT_iload g_q260 g260_117 (l4) ?_
      refine xT_baload g_q260 g260_119 (hcr 1 (by decide)).2.1 g1 (ixN (n := 256) (by omega) g2) (ixG (by omega) (g3 o (by omega) (hkn o (by omega)).1)) ?_
      refine xT_ifCondN g_q260 g260_120 (t := 145) (by decide) (c0N (a := mtD ord pl mi la o n 0 0 0) (b := 0) (by omega) (by omega) (by omega)) ?_
      refine xT_aload_n g_q260 g260_123 (l0) ?_
      refine xT_getfield g_q260 g260_124 hbA rfl hb rfl h68 ?_
      refine xT_iload_n g_q260 g260_127 (l2) ?_
      refine xT_icV (y := nI (1)) g_q260 g260_128 (by decide) ?_
      refine xT_isubV (y := nI (g + 1)) g_q260 g260_129 (bSubN (by omega)) ?_
      refine xT_aaload g_q260 g260_130 (by decide +kernel) hcn (ixN (n := 4) (by omega) hcl) (ixG (by omega) (hcr _ (by omega)).1) ?_
      refine xT_iload_n g_q260 g260_131 (l3) ?_
      refine xT_iload g_q260 g260_132 (l4) ?_
      refine xT_icV (y := -1) g_q260 g260_134 (by decide) ?_
      refine xT_ixorV (y := x_bin 5 (nI o) (-1)) g_q260 g260_135 (rfl) ?_
      refine xT_iandV (y := nI (s - o)) g_q260 g260_136 ((b_andn (by omega) (by omega)).trans (congrArg nI (b_sub (by omega) (by omega) p1).2.2)) ?_
      refine xT_baload g_q260 g260_137 (hcr (g + 1) (by omega)).2.1 k1 (ixN (n := 256) (by omega) k2) (ixG (by omega) (k3 (s - o) (by omega) (hkn (s - o) (by omega)).2)) ?_
      refine xT_ifCondN g_q260 g260_138 (t := 145) (by decide) (c0N (a := (canN (fun s => mtD ord pl mi la s n 0 0 0)) (g + 1) (s - o)) (b := 0) (by omega) (by omega) (by omega)) ?_
      refine xT_icV (y := nI (1)) g_q260 g260_141 (by decide) ?_
      refine xT_goto g_q260 g260_142 (t := 146) (by decide) ?_
      exact x
end XH3513
