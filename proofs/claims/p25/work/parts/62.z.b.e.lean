/-! p25 by hand, 3. -/
noncomputable section XH253
variable {ot : XO Int32} {dp : Nat} {H : List (XC Int32)} {c pv rl n lo hi hi_ R : Nat} {a cnt ca : Nat} {vs : List (XV Int32)} {b i : Nat} {y : Nat → Nat}
/-- the class: its count of chips, the row of its chips -/
def isTwo (H : List (XC Int32)) (a cnt ca : Nat) (vs : List (XV Int32)) : Prop := ∃ fs, ¬ 1000000 < a ∧ H[a]? = some (.inl (0, fs)) ∧ fs[12]? = some (.inl (nI cnt)) ∧ fs[11]? = some (.inr (some ca)) ∧ H[ca]? = some (.inr (3, vs)) ∧ vs.length = 6 ∧ cnt ≤ 6
theorem t120 (hT : isTwo H a cnt ca vs) {i c : Nat} (hi : i < cnt) (hci : vs[i]? = some (.inr (some c))) : x_To x_tb x_tyl ot dp 120 0 (x_en 0 [.inr (some (a)), .inl (nI (i))]) [] H 0 0 (some (.inr (some c))) H := by
  obtain ⟨fs, haA, ha, ha12, ha11, hca, hcl, h6⟩ := hT
  refine xT_iload_n g_q120 g120_0 (rfl) ?_
  refine xT_ifCondN g_q120 g120_1 (t := 21) (by decide) (c2N (b := 0) (Nat.zero_le _) (by omega) (by omega)) ?_
  refine xT_iload_n g_q120 g120_4 (rfl) ?_
  refine xT_aload_n g_q120 g120_5 (rfl) ?_
  refine xT_getfield g_q120 g120_6 haA rfl ha rfl ha12 ?_
  refine xT_if_icmpN g_q120 g120_9 (t := 21) (by decide) (c3N (a := i) (b := cnt) (by omega) (by omega) (by omega)) ?_
  refine xT_aload_n g_q120 g120_12 (rfl) ?_
  refine xT_getfield g_q120 g120_13 haA rfl ha rfl ha11 ?_
  refine xT_iload_n g_q120 g120_16 (rfl) ?_
  refine xT_aaload g_q120 g120_17 (by decide +kernel) hca (ixN (n := 6) (by omega) hcl) (ixG (by omega) hci) ?_
  refine xT_goto g_q120 g120_18 (t := 22) (by decide) ?_
  exact xT_areturn g_q120 g120_22 (rfl)
theorem t120N (hT : isTwo H a cnt ca vs) {x : Int32} (hx : x < 0 ∨ nI cnt ≤ x) : x_To x_tb x_tyl ot dp 120 0 (x_en 0 [.inr (some a), .inl x]) [] H 0 0 (some (.inr none)) H := by
  obtain ⟨fs, haA, ha, ha12, ha11, hca, hcl, h6⟩ := hT
  by_cases h : x < 0
  · skip
    refine xT_iload_n g_q120 g120_0 (rfl) ?_
    refine xT_ifCondY g_q120 g120_1 (t := 21) (by decide) (decide_eq_true h) ?_
    refine xT_aconst_null g_q120 g120_21 ?_
    exact xT_areturn g_q120 g120_22 (rfl)
  · have hx : nI cnt ≤ x := hx.resolve_left h
    refine xT_iload_n g_q120 g120_0 (rfl) ?_
    refine xT_ifCondN g_q120 g120_1 (t := 21) (by decide) (decide_eq_false h) ?_
    refine xT_iload_n g_q120 g120_4 (rfl) ?_
    refine xT_aload_n g_q120 g120_5 (rfl) ?_
    refine xT_getfield g_q120 g120_6 haA rfl ha rfl ha12 ?_
    refine xT_if_icmpY g_q120 g120_9 (t := 21) (by decide) (decide_eq_true hx) ?_
    refine xT_aconst_null g_q120 g120_21 ?_
    exact xT_areturn g_q120 g120_22 (rfl)
theorem t124_0 (hT : isTwo H a cnt ca vs) {i : Nat} (hi : i < cnt) (hci : vs[i]? = some (.inr (some c))) (hC : isChip H c pv rl n lo hi_ R) (hR : R < 8) (hR0 : R ≠ 0) (hlh : lo ≤ hi_) (hhi : hi_ ≤ 100) : x_To x_tb x_tyl ot (dp + 7) 124 0 (x_en 0 [.inr (some (a)), .inl (nI (i)), .inl (nI (0))]) [] H 0 0 (some (.inl (nI ((hi_ - lo + 1) * popN R)))) H := by
  obtain ⟨fs, haA, ha, ha12, ha11, hca, hcl, h6⟩ := id hT
  obtain ⟨hcA, hc⟩ := id hC
  refine xT_aload_n g_q124 g124_0 (rfl) ?_
  refine xT_iload_n g_q124 g124_1 (rfl) ?_
  refine xT_invokevirtual (r := []) (u := some (.inr (some (c)))) g_q124 g124_2 (j := 120) (so := 0) (by decide +kernel) g_q120 rfl (by rw [x_rcM haA ha]; rfl) (t120 hT hi hci) ?_
  refine xT_astore_n g_q124 g124_5 (by decide) ?_
  refine xT_aload_n g_q124 g124_6 (lkY) ?_
  refine xT_ifnonnull1 g_q124 g124_7 (t := 12) (by decide) ?_
  refine xT_iload_n g_q124 g124_12 (lkN (by decide) (rfl)) ?_
  refine xT_tableswitch g_q124 g124_13 (t := 44) (by decide +kernel) (by decide +kernel) (by decide +kernel) ?_
  refine xT_aload_n g_q124 g124_44 (lkY) ?_
  refine xT_invokevirtual (r := []) (u := some (.inl (nI ((hi_ - lo + 1) * popN R)))) g_q124 g124_45 (j := 125) (so := 0) (by decide +kernel) g_q125 rfl (by rw [x_rcM hcA hc]; rfl) (t125 (dp := dp + 5) hC hR hlh) ?_
  exact xT_ireturn g_q124 g124_48 (rfl)
theorem t124_1 (hT : isTwo H a cnt ca vs) {i : Nat} (hi : i < cnt) (hci : vs[i]? = some (.inr (some c))) (hC : isChip H c pv rl n lo hi_ R) (hR : R < 8) (hR0 : R ≠ 0) (hlh : lo ≤ hi_) (hhi : hi_ ≤ 100) : x_To x_tb x_tyl ot (dp + 7) 124 0 (x_en 0 [.inr (some (a)), .inl (nI (i)), .inl (nI (1))]) [] H 0 0 (some (.inl (nI (lo * 3 + lowB R)))) H := by
  obtain ⟨fs, haA, ha, ha12, ha11, hca, hcl, h6⟩ := id hT
  obtain ⟨hcA, hc⟩ := id hC
  refine xT_aload_n g_q124 g124_0 (rfl) ?_
  refine xT_iload_n g_q124 g124_1 (rfl) ?_
  refine xT_invokevirtual (r := []) (u := some (.inr (some (c)))) g_q124 g124_2 (j := 120) (so := 0) (by decide +kernel) g_q120 rfl (by rw [x_rcM haA ha]; rfl) (t120 hT hi hci) ?_
  refine xT_astore_n g_q124 g124_5 (by decide) ?_
  refine xT_aload_n g_q124 g124_6 (lkY) ?_
  refine xT_ifnonnull1 g_q124 g124_7 (t := 12) (by decide) ?_
  refine xT_iload_n g_q124 g124_12 (lkN (by decide) (rfl)) ?_
  refine xT_tableswitch g_q124 g124_13 (t := 49) (by decide +kernel) (by decide +kernel) (by decide +kernel) ?_
  refine xT_aload_n g_q124 g124_49 (lkY) ?_
  refine xT_invokevirtual (r := []) (u := some (.inl (nI (lo * 3 + lowB R)))) g_q124 g124_50 (j := 127) (so := 0) (by decide +kernel) g_q127 rfl (by rw [x_rcM hcA hc]; rfl) (t127 (dp := dp + 5) hC hR hR0) ?_
  exact xT_ireturn g_q124 g124_53 (rfl)
theorem t124_2 (hT : isTwo H a cnt ca vs) {i : Nat} (hi : i < cnt) (hci : vs[i]? = some (.inr (some c))) (hC : isChip H c pv rl n lo hi_ R) (hR : R < 8) (hR0 : R ≠ 0) (hlh : lo ≤ hi_) (hhi : hi_ ≤ 100) : x_To x_tb x_tyl ot (dp + 7) 124 0 (x_en 0 [.inr (some (a)), .inl (nI (i)), .inl (nI (2))]) [] H 0 0 (some (.inl (nI (1900 + bstN lo hi_ R 100)))) H := by
  obtain ⟨fs, haA, ha, ha12, ha11, hca, hcl, h6⟩ := id hT
  obtain ⟨hcA, hc⟩ := id hC
  refine xT_aload_n g_q124 g124_0 (rfl) ?_
  refine xT_iload_n g_q124 g124_1 (rfl) ?_
  refine xT_invokevirtual (r := []) (u := some (.inr (some (c)))) g_q124 g124_2 (j := 120) (so := 0) (by decide +kernel) g_q120 rfl (by rw [x_rcM haA ha]; rfl) (t120 hT hi hci) ?_
  refine xT_astore_n g_q124 g124_5 (by decide) ?_
  refine xT_aload_n g_q124 g124_6 (lkY) ?_
  refine xT_ifnonnull1 g_q124 g124_7 (t := 12) (by decide) ?_
  refine xT_iload_n g_q124 g124_12 (lkN (by decide) (rfl)) ?_
  refine xT_tableswitch g_q124 g124_13 (t := 54) (by decide +kernel) (by decide +kernel) (by decide +kernel) ?_
  refine xT_siV (y := nI (1900)) g_q124 g124_54 (by decide) ?_
  refine xT_aload_n g_q124 g124_57 (lkY) ?_
  refine xT_invokevirtual (r := [.inl (nI (1900))]) (u := some (.inl (nI (bstN lo hi_ R 100)))) g_q124 g124_58 (j := 128) (so := 0) (by decide +kernel) g_q128 rfl (by rw [x_rcM hcA hc]; rfl) (t128 (dp := dp + 2) hC hR hlh hhi) ?_
  refine xT_iaddV (y := nI (1900 + (bstN lo hi_ R 100))) g_q124 g124_61 (bAddN _ _) ?_
  exact xT_ireturn g_q124 g124_62 (rfl)
theorem t124_3 (hT : isTwo H a cnt ca vs) {i : Nat} (hi : i < cnt) (hci : vs[i]? = some (.inr (some c))) (hC : isChip H c pv rl n lo hi_ R) (hR : R < 8) (hR0 : R ≠ 0) (hlh : lo ≤ hi_) (hhi : hi_ ≤ 100) : x_To x_tb x_tyl ot (dp + 7) 124 0 (x_en 0 [.inr (some (a)), .inl (nI (i)), .inl (nI (3))]) [] H 0 0 (some (.inl (nI (maN lo hi_ R (bstN lo hi_ R 100))))) H := by
  obtain ⟨fs, haA, ha, ha12, ha11, hca, hcl, h6⟩ := id hT
  obtain ⟨hcA, hc⟩ := id hC
  refine xT_aload_n g_q124 g124_0 (rfl) ?_
  refine xT_iload_n g_q124 g124_1 (rfl) ?_
  refine xT_invokevirtual (r := []) (u := some (.inr (some (c)))) g_q124 g124_2 (j := 120) (so := 0) (by decide +kernel) g_q120 rfl (by rw [x_rcM haA ha]; rfl) (t120 hT hi hci) ?_
  refine xT_astore_n g_q124 g124_5 (by decide) ?_
  refine xT_aload_n g_q124 g124_6 (lkY) ?_
  refine xT_ifnonnull1 g_q124 g124_7 (t := 12) (by decide) ?_
  refine xT_iload_n g_q124 g124_12 (lkN (by decide) (rfl)) ?_
  refine xT_tableswitch g_q124 g124_13 (t := 63) (by decide +kernel) (by decide +kernel) (by decide +kernel) ?_
  refine xT_aload_n g_q124 g124_63 (lkY) ?_
  refine xT_aload_n g_q124 g124_64 (lkY) ?_
  refine xT_invokevirtual (r := [.inr (some (c))]) (u := some (.inl (nI (bstN lo hi_ R 100)))) g_q124 g124_65 (j := 128) (so := 0) (by decide +kernel) g_q128 rfl (by rw [x_rcM hcA hc]; rfl) (t128 (dp := dp + 2) hC hR hlh hhi) ?_
  refine xT_invokevirtual (r := []) (u := some (.inl (nI (maN lo hi_ R (bstN lo hi_ R 100))))) g_q124 g124_68 (j := 129) (so := 0) (by decide +kernel) g_q129 rfl (by rw [x_rcM hcA hc]; rfl) (t129 (dp := dp + 3) hC hR hlh hhi (bst_lt 100 (Nat.le_refl _))) ?_
  exact xT_ireturn g_q124 g124_71 (rfl)
theorem t124N (hT : isTwo H a cnt ca vs) {x w : Int32} (hx : x < 0 ∨ nI cnt ≤ x) : x_To x_tb x_tyl ot (dp + 1) 124 0 (x_en 0 [.inr (some a), .inl x, .inl w]) [] H 0 0 (some (.inl (-1))) H := by
  obtain ⟨fs, haA, ha, ha12, ha11, hca, hcl, h6⟩ := id hT
  refine xT_aload_n g_q124 g124_0 (rfl) ?_
  refine xT_iload_n g_q124 g124_1 (rfl) ?_
  refine xT_invokevirtual (r := []) (u := some (.inr none)) g_q124 g124_2 (j := 120) (so := 0) (by decide +kernel) g_q120 rfl (by rw [x_rcM haA ha]; rfl) (t120N hT hx) ?_
  refine xT_astore_n g_q124 g124_5 (by decide) ?_
  refine xT_aload_n g_q124 g124_6 (lkY) ?_
  refine xT_ifnonnull0 g_q124 g124_7 (t := 12) (by decide) ?_
  refine xT_icV (y := -1) g_q124 g124_10 (by decide) ?_
  exact xT_ireturn g_q124 g124_11 (rfl)
theorem t124W (hT : isTwo H a cnt ca vs) {i : Nat} (hi : i < cnt) (hci : vs[i]? = some (.inr (some c))) {w : Int32} (hw : ¬ w = 0 ∧ ¬ w = 1 ∧ ¬ w = 2 ∧ ¬ w = 3) : x_To x_tb x_tyl ot (dp + 1) 124 0 (x_en 0 [.inr (some a), .inl (nI i), .inl w]) [] H 0 0 (some (.inl (-1))) H := by
  obtain ⟨fs, haA, ha, ha12, ha11, hca, hcl, h6⟩ := id hT
  have hs : x_jp 13 (x_swo w 59 (x_tp 0 [31, 36, 41, 50])) = some 72 := by
    obtain ⟨w0, w1, w2, w3⟩ := hw
    simp [x_swo, x_tp, w0, w1, w2, w3, x_jp]
  refine xT_aload_n g_q124 g124_0 (rfl) ?_
  refine xT_iload_n g_q124 g124_1 (rfl) ?_
  refine xT_invokevirtual (r := []) (u := some (.inr (some (c)))) g_q124 g124_2 (j := 120) (so := 0) (by decide +kernel) g_q120 rfl (by rw [x_rcM haA ha]; rfl) (t120 hT hi hci) ?_
  refine xT_astore_n g_q124 g124_5 (by decide) ?_
  refine xT_aload_n g_q124 g124_6 (lkY) ?_
  refine xT_ifnonnull1 g_q124 g124_7 (t := 12) (by decide) ?_
  refine xT_iload_n g_q124 g124_12 (lkN (by decide) (rfl)) ?_
  refine xT_tableswitch g_q124 g124_13 (t := 72) (by decide) (by decide) hs ?_
  refine xT_icV (y := -1) g_q124 g124_72 (by decide) ?_
  exact xT_ireturn g_q124 g124_73 (rfl)
end XH253
