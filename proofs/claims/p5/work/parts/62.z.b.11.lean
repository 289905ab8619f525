/-! p5 by hand, 10. -/
noncomputable section XH5_10
variable {ot : XO Int32} {dp : Nat} {H : List (XC Int32)} {a n m : Nat} {P C nl sv S : Nat → Nat} {op lf rt : Nat → Nat → Nat}
theorem t46_p {Fin : Option (XV Int32) → List (XC Int32) → Prop} {H0 : List (XC Int32)} {r : Nat} (ho : cdOk n op lf rt nl) (hsv : svOk n sv) (hS : ∀ q, q < n → S q < 64) (kk : ∀ (L : List (Nat × XV Int32)) (H : List (XC Int32)), kA H a n P C op lf rt nl sv (psN op lf rt nl sv S n) n → kp tgP H0 H → x_lk L 0 = some (.inr (some (a))) → x_lk L 1 = some (.inl (nI (chN op lf rt nl sv S n))) → x_lk L 2 = some (.inl (nI (r))) → ∃ v H2, x_To x_tb x_tyl ot (dp + 3) 46 149 L [] H 0 0 v H2 ∧ Fin v H2) : ∀ (d q : Nat) (L : List (Nat × XV Int32)) (H : List (XC Int32)), q + d = n → kA H a n P C op lf rt nl sv (psN op lf rt nl sv S q) n → kp tgP H0 H → x_lk L 0 = some (.inr (some (a))) → x_lk L 1 = some (.inl (nI (chN op lf rt nl sv S q))) → x_lk L 2 = some (.inl (nI (r))) → x_lk L 3 = some (.inl (nI (q))) → ∃ v H2, x_To x_tb x_tyl ot (dp + 3) 46 44 L [] H 0 0 v H2 ∧ Fin v H2 := by
  intro d
  induction d with
  | zero =>
    intro q L H hqd hA hk l0 l1 l2 l3
    obtain ⟨⟨haA, hn12, gs, pa, vs, ha, g3, g2, hpa, hvl, hvs⟩, hP, hC, inj⟩ := id hA
    obtain rfl : n = q := by omega
    obtain ⟨v, H2, x, f⟩ := kk L H hA hk l0 l1 l2
    refine ⟨v, H2, ?_, f⟩
    refine xT_iload_n g_q46 g46_44 (l3) ?_
    refine xT_aload_n g_q46 g46_45 (l0) ?_
    refine xT_getfield g_q46 g46_46 haA rfl ha rfl g3 ?_
    refine xT_if_icmpY g_q46 g46_49 (t := 149) (by decide) (c3Y (a := n) (b := n) (Nat.le_refl _) (by omega) (by omega)) ?_
    exact x
  | succ d ih =>
    intro q L H hqd hA hk l0 l1 l2 l3
    have hq : q < n := by omega
    obtain ⟨⟨haA, hn12, gs, pa, vs, ha, g3, g2, hpa, hvl, hvs⟩, hP, hC, inj⟩ := id hA
    obtain ⟨p1, po, hpo, hpl, p4, p5, p6⟩ := hP q hq
    obtain ⟨c1, co, ro, rl, rr, c2, -⟩ := id (hC q hq)
    have h64 := ps_64 (sv := sv) ho hS q (by omega)
    have hcb := ch_b (op := op) (lf := lf) (rt := rt) (nl := nl) (sv := sv) (S := S) q
    have hnw64 := (nw_p (sv := sv) ho hq (h64 q hq)).1
    have h6q := h64 q hq
    have hput : (decide (10 = 10) && x_fit dC .int (.inl (nI (nwN op lf rt nl sv (psN op lf rt nl sv S q) q)) : XV Int32) && decide (19 < po.length) && (!false || (mI xm46 && decide (mRc xm46 = 10)))) = true := by
      rw [hpl]
      rfl
    have tail : ∀ (rd : Nat) (L : List (Nat × XV Int32)), rd = rdN op lf nl (psN op lf rt nl sv S q) (sv q) → x_lk L 0 = some (.inr (some (a))) → x_lk L 1 = some (.inl (nI (chN op lf rt nl sv S q))) → x_lk L 2 = some (.inl (nI (r))) → x_lk L 3 = some (.inl (nI (q))) → x_lk L 4 = some (.inr (some ((P (q))))) → x_lk L 6 = some (.inl (nI (rd))) → ∃ v H2, x_To x_tb x_tyl ot (dp + 3) 46 99 L [] H 0 0 v H2 ∧ Fin v H2 := by
      intro rd L hrd m0 m1 m2 m3 m4 m6
      have hrd2 : rd = 0 ∨ rd = 1 := by
        rw [hrd]
        exact rd_b _
      have hnw : nwN op lf rt nl sv (psN op lf rt nl sv S q) q = saN (op q) (lf q) (rt q) rd (nl q) 0 ((psN op lf rt nl sv S q) q) := by
        unfold nwN
        rw [← hrd]
      rcases hcb with hg | hg
      rotate_left
      · have hch : nI 1 = nI (chN op lf rt nl sv S (q + 1)) := by
          have : chN op lf rt nl sv S (q + 1) = 1 := by
            show (if nwN op lf rt nl sv (psN op lf rt nl sv S q) q = (psN op lf rt nl sv S q) q then chN op lf rt nl sv S q else 1) = 1
            split
            · exact hg
            · rfl
          rw [this]
        obtain ⟨v, H2, x, f⟩ := ih (q + 1) (x_st (x_st (x_st (L) 7 (.inl (nI (nwN op lf rt nl sv (psN op lf rt nl sv S q) q)))) 1 (.inl (nI (chN op lf rt nl sv S (q + 1))))) 3 (.inl (nI (q + 1)))) (H.set (P q) (.inl (10, po.set 19 (.inl (nI (nwN op lf rt nl sv (psN op lf rt nl sv S q) q)))))) (by omega) (kA_set hA hq hpo (fun k hk => Or.inr hk)) (kp_set hk hpo rfl) (lkN (by decide) (lkN (by decide) (lkN (by decide) (m0)))) (lkN (by decide) (lkY)) (lkN (by decide) (lkN (by decide) (lkN (by decide) (m2)))) (lkY)
        refine ⟨v, H2, ?_, f⟩
        refine xT_aload g_q46 g46_99 (m4) ?_
        refine xT_getfield g_q46 g46_101 p1 rfl hpo rfl p4 ?_
        refine xT_aload g_q46 g46_104 (m4) ?_
        refine xT_getfield g_q46 g46_106 p1 rfl hpo rfl (p6 hq) ?_
        refine xT_iload g_q46 g46_109 (m6) ?_
        refine xT_invokevirtual (r := []) (u := some (.inl (nI (nwN op lf rt nl sv (psN op lf rt nl sv S q) q)))) g_q46 g46_111 (j := 49) (so := 0) (by decide +kernel) g_q49 rfl (by rw [x_rcM c1 c2]; rfl) ((by rw [hnw]; exact t49 (hC q hq) (ho q hq).1 (ho q hq).2 hrd2 (h64 q hq))) ?_
        refine xT_istore g_q46 g46_114 (by decide) ?_
        refine xT_iload_n g_q46 g46_116 (lkN (by decide) (m1)) ?_
        refine xT_ifCondY g_q46 g46_117 (t := 130) (by decide) (c1Y (a := chN op lf rt nl sv S q) (b := 0) (by omega) (by omega) (by omega)) ?_
        refine xT_icV (y := nI (1)) g_q46 g46_130 (by decide) ?_
        refine xT_goto g_q46 g46_131 (t := 135) (by decide) ?_
        rw [show nI (1) = nI (chN op lf rt nl sv S (q + 1)) from hch]
        refine xT_istore_n g_q46 g46_135 (by decide) ?_
        refine xT_aload g_q46 g46_136 (lkN (by decide) (lkN (by decide) (m4))) ?_
        refine xT_iload g_q46 g46_138 (lkN (by decide) (lkY)) ?_
        refine xT_putfield g_q46 g46_140 (ci := 10) (j := 19) (ty := (.int, false)) rfl hpo rfl hput ?_
        refine xT_iincV (y := nI (q + 1)) g_q46 g46_143 (lkN (by decide) (lkN (by decide) (m3))) (by decide) (bIncN _) ?_
        refine xT_goto g_q46 g46_146 (t := 44) (by decide) ?_
        exact x
      by_cases he : nwN op lf rt nl sv (psN op lf rt nl sv S q) q = (psN op lf rt nl sv S q) q
      · have hch : nI 0 = nI (chN op lf rt nl sv S (q + 1)) := by
          have : chN op lf rt nl sv S (q + 1) = 0 := (if_pos he).trans hg
          rw [this]
        obtain ⟨v, H2, x, f⟩ := ih (q + 1) (x_st (x_st (x_st (L) 7 (.inl (nI (nwN op lf rt nl sv (psN op lf rt nl sv S q) q)))) 1 (.inl (nI (chN op lf rt nl sv S (q + 1))))) 3 (.inl (nI (q + 1)))) (H.set (P q) (.inl (10, po.set 19 (.inl (nI (nwN op lf rt nl sv (psN op lf rt nl sv S q) q)))))) (by omega) (kA_set hA hq hpo (fun k hk => Or.inr hk)) (kp_set hk hpo rfl) (lkN (by decide) (lkN (by decide) (lkN (by decide) (m0)))) (lkN (by decide) (lkY)) (lkN (by decide) (lkN (by decide) (lkN (by decide) (m2)))) (lkY)
        refine ⟨v, H2, ?_, f⟩
        refine xT_aload g_q46 g46_99 (m4) ?_
        refine xT_getfield g_q46 g46_101 p1 rfl hpo rfl p4 ?_
        refine xT_aload g_q46 g46_104 (m4) ?_
        refine xT_getfield g_q46 g46_106 p1 rfl hpo rfl (p6 hq) ?_
        refine xT_iload g_q46 g46_109 (m6) ?_
        refine xT_invokevirtual (r := []) (u := some (.inl (nI (nwN op lf rt nl sv (psN op lf rt nl sv S q) q)))) g_q46 g46_111 (j := 49) (so := 0) (by decide +kernel) g_q49 rfl (by rw [x_rcM c1 c2]; rfl) ((by rw [hnw]; exact t49 (hC q hq) (ho q hq).1 (ho q hq).2 hrd2 (h64 q hq))) ?_
        refine xT_istore g_q46 g46_114 (by decide) ?_
        refine xT_iload_n g_q46 g46_116 (lkN (by decide) (m1)) ?_
        refine xT_ifCondN g_q46 g46_117 (t := 130) (by decide) (c1N (a := chN op lf rt nl sv S q) (b := 0) (by omega)) ?_
        refine xT_iload g_q46 g46_120 (lkY) ?_
        refine xT_aload g_q46 g46_122 (lkN (by decide) (m4)) ?_
        refine xT_getfield g_q46 g46_124 p1 rfl hpo rfl (p6 hq) ?_
        refine xT_if_icmpY g_q46 g46_127 (t := 134) (by decide) (c0Y (a := nwN op lf rt nl sv (psN op lf rt nl sv S q) q) (b := (psN op lf rt nl sv S q) q) he) ?_
        refine xT_icV (y := nI (0)) g_q46 g46_134 (by decide) ?_
        rw [show nI (0) = nI (chN op lf rt nl sv S (q + 1)) from hch]
        refine xT_istore_n g_q46 g46_135 (by decide) ?_
        refine xT_aload g_q46 g46_136 (lkN (by decide) (lkN (by decide) (m4))) ?_
        refine xT_iload g_q46 g46_138 (lkN (by decide) (lkY)) ?_
        refine xT_putfield g_q46 g46_140 (ci := 10) (j := 19) (ty := (.int, false)) rfl hpo rfl hput ?_
        refine xT_iincV (y := nI (q + 1)) g_q46 g46_143 (lkN (by decide) (lkN (by decide) (m3))) (by decide) (bIncN _) ?_
        refine xT_goto g_q46 g46_146 (t := 44) (by decide) ?_
        exact x
      · have hch : nI 1 = nI (chN op lf rt nl sv S (q + 1)) := by
          have : chN op lf rt nl sv S (q + 1) = 1 := if_neg he
          rw [this]
        obtain ⟨v, H2, x, f⟩ := ih (q + 1) (x_st (x_st (x_st (L) 7 (.inl (nI (nwN op lf rt nl sv (psN op lf rt nl sv S q) q)))) 1 (.inl (nI (chN op lf rt nl sv S (q + 1))))) 3 (.inl (nI (q + 1)))) (H.set (P q) (.inl (10, po.set 19 (.inl (nI (nwN op lf rt nl sv (psN op lf rt nl sv S q) q)))))) (by omega) (kA_set hA hq hpo (fun k hk => Or.inr hk)) (kp_set hk hpo rfl) (lkN (by decide) (lkN (by decide) (lkN (by decide) (m0)))) (lkN (by decide) (lkY)) (lkN (by decide) (lkN (by decide) (lkN (by decide) (m2)))) (lkY)
        refine ⟨v, H2, ?_, f⟩
        refine xT_aload g_q46 g46_99 (m4) ?_
        refine xT_getfield g_q46 g46_101 p1 rfl hpo rfl p4 ?_
        refine xT_aload g_q46 g46_104 (m4) ?_
        refine xT_getfield g_q46 g46_106 p1 rfl hpo rfl (p6 hq) ?_
        refine xT_iload g_q46 g46_109 (m6) ?_
        refine xT_invokevirtual (r := []) (u := some (.inl (nI (nwN op lf rt nl sv (psN op lf rt nl sv S q) q)))) g_q46 g46_111 (j := 49) (so := 0) (by decide +kernel) g_q49 rfl (by rw [x_rcM c1 c2]; rfl) ((by rw [hnw]; exact t49 (hC q hq) (ho q hq).1 (ho q hq).2 hrd2 (h64 q hq))) ?_
        refine xT_istore g_q46 g46_114 (by decide) ?_
        refine xT_iload_n g_q46 g46_116 (lkN (by decide) (m1)) ?_
        refine xT_ifCondN g_q46 g46_117 (t := 130) (by decide) (c1N (a := chN op lf rt nl sv S q) (b := 0) (by omega)) ?_
        refine xT_iload g_q46 g46_120 (lkY) ?_
        refine xT_aload g_q46 g46_122 (lkN (by decide) (m4)) ?_
        refine xT_getfield g_q46 g46_124 p1 rfl hpo rfl (p6 hq) ?_
        refine xT_if_icmpN g_q46 g46_127 (t := 134) (by decide) (c0N (a := nwN op lf rt nl sv (psN op lf rt nl sv S q) q) (b := (psN op lf rt nl sv S q) q) he (by omega) (by omega)) ?_
        refine xT_icV (y := nI (1)) g_q46 g46_130 (by decide) ?_
        refine xT_goto g_q46 g46_131 (t := 135) (by decide) ?_
        rw [show nI (1) = nI (chN op lf rt nl sv S (q + 1)) from hch]
        refine xT_istore_n g_q46 g46_135 (by decide) ?_
        refine xT_aload g_q46 g46_136 (lkN (by decide) (lkN (by decide) (m4))) ?_
        refine xT_iload g_q46 g46_138 (lkN (by decide) (lkY)) ?_
        refine xT_putfield g_q46 g46_140 (ci := 10) (j := 19) (ty := (.int, false)) rfl hpo rfl hput ?_
        refine xT_iincV (y := nI (q + 1)) g_q46 g46_143 (lkN (by decide) (lkN (by decide) (m3))) (by decide) (bIncN _) ?_
        refine xT_goto g_q46 g46_146 (t := 44) (by decide) ?_
        exact x
    rcases hv : sv q with _ | s
    · rw [hv] at p5
      have p5 : po[8]? = some (.inl (-1)) := p5
      · obtain ⟨v, H2, x, f⟩ := tail 0 (x_st (x_st (x_st (L) 4 (.inr (some ((P (q)))))) 5 (.inr none)) 6 (.inl (nI (0)))) (by rw [hv]; rfl) (lkN (by decide) (lkN (by decide) (lkN (by decide) (l0)))) (lkN (by decide) (lkN (by decide) (lkN (by decide) (l1)))) (lkN (by decide) (lkN (by decide) (lkN (by decide) (l2)))) (lkN (by decide) (lkN (by decide) (lkN (by decide) (l3)))) (lkN (by decide) (lkN (by decide) (lkY))) (lkY)
        refine ⟨v, H2, ?_, f⟩
        refine xT_iload_n g_q46 g46_44 (l3) ?_
        refine xT_aload_n g_q46 g46_45 (l0) ?_
        refine xT_getfield g_q46 g46_46 haA rfl ha rfl g3 ?_
        refine xT_if_icmpN g_q46 g46_49 (t := 149) (by decide) (c3N (a := q) (b := n) (by omega) (by omega) (by omega)) ?_
        refine xT_aload_n g_q46 g46_52 (l0) ?_
        refine xT_getfield g_q46 g46_53 haA rfl ha rfl g2 ?_
        refine xT_iload_n g_q46 g46_56 (l3) ?_
        refine xT_aaload g_q46 g46_57 (by decide +kernel) hpa (ixN (n := 12) (by omega) hvl) (ixG (by omega) (hvs _ (by omega))) ?_
        refine xT_astore g_q46 g46_58 (by decide) ?_
        refine xT_aload_n g_q46 g46_60 (lkN (by decide) (l0)) ?_
        refine xT_aload g_q46 g46_61 (lkY) ?_
        refine xT_getfield g_q46 g46_63 p1 rfl hpo rfl p5 ?_
        refine xT_invokevirtual (r := []) (u := some (.inr none)) g_q46 g46_66 (j := 42) (so := 0) (by decide +kernel) g_q42 rfl (by rw [x_rcM haA ha]; rfl) (t42_n (Or.inl (by decide)) hA) ?_
        refine xT_astore g_q46 g46_69 (by decide) ?_
        refine xT_aload g_q46 g46_71 (lkY) ?_
        refine xT_ifnull0 g_q46 g46_73 (t := 96) (by decide) ?_
        refine xT_icV (y := nI (0)) g_q46 g46_96 (by decide) ?_
        refine xT_istore g_q46 g46_97 (by decide) ?_
        exact x
    · rw [hv] at p5
      have p5 : po[8]? = some (.inl (nI s)) := p5
      have hs : s < n := by
        have := (hsv q hq).1
        omega
      obtain ⟨s1, so, hso, hsl, s4, s5, s6⟩ := hP s hs
      obtain ⟨q1, cq, rq1, rq2, rq3, q2, -⟩ := id (hC s hs)
      rcases wr_b (op := op s) (lf := lf s) (s := (psN op lf rt nl sv S q) s) (nl s) 0 with hw | hw
      · obtain ⟨v, H2, x, f⟩ := tail 0 (x_st (x_st (x_st (L) 4 (.inr (some ((P (q)))))) 5 (.inr (some ((P s))))) 6 (.inl (nI (0)))) (by rw [hv]; exact hw.symm) (lkN (by decide) (lkN (by decide) (lkN (by decide) (l0)))) (lkN (by decide) (lkN (by decide) (lkN (by decide) (l1)))) (lkN (by decide) (lkN (by decide) (lkN (by decide) (l2)))) (lkN (by decide) (lkN (by decide) (lkN (by decide) (l3)))) (lkN (by decide) (lkN (by decide) (lkY))) (lkY)
        refine ⟨v, H2, ?_, f⟩
        refine xT_iload_n g_q46 g46_44 (l3) ?_
        refine xT_aload_n g_q46 g46_45 (l0) ?_
        refine xT_getfield g_q46 g46_46 haA rfl ha rfl g3 ?_
        refine xT_if_icmpN g_q46 g46_49 (t := 149) (by decide) (c3N (a := q) (b := n) (by omega) (by omega) (by omega)) ?_
        refine xT_aload_n g_q46 g46_52 (l0) ?_
        refine xT_getfield g_q46 g46_53 haA rfl ha rfl g2 ?_
        refine xT_iload_n g_q46 g46_56 (l3) ?_
        refine xT_aaload g_q46 g46_57 (by decide +kernel) hpa (ixN (n := 12) (by omega) hvl) (ixG (by omega) (hvs _ (by omega))) ?_
        refine xT_astore g_q46 g46_58 (by decide) ?_
        refine xT_aload_n g_q46 g46_60 (lkN (by decide) (l0)) ?_
        refine xT_aload g_q46 g46_61 (lkY) ?_
        refine xT_getfield g_q46 g46_63 p1 rfl hpo rfl p5 ?_
        refine xT_invokevirtual (r := []) (u := some (.inr (some ((P s))))) g_q46 g46_66 (j := 42) (so := 0) (by decide +kernel) g_q42 rfl (by rw [x_rcM haA ha]; rfl) (t42_s hs hA) ?_
        refine xT_astore g_q46 g46_69 (by decide) ?_
        refine xT_aload g_q46 g46_71 (lkY) ?_
        refine xT_ifnull1 g_q46 g46_73 (t := 96) (by decide) ?_
        refine xT_aload g_q46 g46_76 (lkY) ?_
        refine xT_getfield g_q46 g46_78 s1 rfl hso rfl s4 ?_
        refine xT_aload g_q46 g46_81 (lkY) ?_
        refine xT_getfield g_q46 g46_83 s1 rfl hso rfl (s6 hs) ?_
        refine xT_invokevirtual (r := []) (u := some (.inl (nI (wrN (op s) (lf s) ((psN op lf rt nl sv S q) s) (nl s) 0)))) g_q46 g46_86 (j := 47) (so := 0) (by decide +kernel) g_q47 rfl (by rw [x_rcM q1 q2]; rfl) (t47 (hC s hs) (ho s hs).1 (ho s hs).2 (h64 s hs)) ?_
        refine xT_ifCondY g_q46 g46_89 (t := 96) (by decide) (c0Y (a := wrN (op s) (lf s) ((psN op lf rt nl sv S q) s) (nl s) 0) (b := 0) (by omega)) ?_
        refine xT_icV (y := nI (0)) g_q46 g46_96 (by decide) ?_
        refine xT_istore g_q46 g46_97 (by decide) ?_
        exact x
      · obtain ⟨v, H2, x, f⟩ := tail 1 (x_st (x_st (x_st (L) 4 (.inr (some ((P (q)))))) 5 (.inr (some ((P s))))) 6 (.inl (nI (1)))) (by rw [hv]; exact hw.symm) (lkN (by decide) (lkN (by decide) (lkN (by decide) (l0)))) (lkN (by decide) (lkN (by decide) (lkN (by decide) (l1)))) (lkN (by decide) (lkN (by decide) (lkN (by decide) (l2)))) (lkN (by decide) (lkN (by decide) (lkN (by decide) (l3)))) (lkN (by decide) (lkN (by decide) (lkY))) (lkY)
        refine ⟨v, H2, ?_, f⟩
        refine xT_iload_n g_q46 g46_44 (l3) ?_
        refine xT_aload_n g_q46 g46_45 (l0) ?_
        refine xT_getfield g_q46 g46_46 haA rfl ha rfl g3 ?_
        refine xT_if_icmpN g_q46 g46_49 (t := 149) (by decide) (c3N (a := q) (b := n) (by omega) (by omega) (by omega)) ?_
        refine xT_aload_n g_q46 g46_52 (l0) ?_
        refine xT_getfield g_q46 g46_53 haA rfl ha rfl g2 ?_
        refine xT_iload_n g_q46 g46_56 (l3) ?_
        refine xT_aaload g_q46 g46_57 (by decide +kernel) hpa (ixN (n := 12) (by omega) hvl) (ixG (by omega) (hvs _ (by omega))) ?_
        refine xT_astore g_q46 g46_58 (by decide) ?_
        refine xT_aload_n g_q46 g46_60 (lkN (by decide) (l0)) ?_
        refine xT_aload g_q46 g46_61 (lkY) ?_
        refine xT_getfield g_q46 g46_63 p1 rfl hpo rfl p5 ?_
        refine xT_invokevirtual (r := []) (u := some (.inr (some ((P s))))) g_q46 g46_66 (j := 42) (so := 0) (by decide +kernel) g_q42 rfl (by rw [x_rcM haA ha]; rfl) (t42_s hs hA) ?_
        refine xT_astore g_q46 g46_69 (by decide) ?_
        refine xT_aload g_q46 g46_71 (lkY) ?_
        refine xT_ifnull1 g_q46 g46_73 (t := 96) (by decide) ?_
        refine xT_aload g_q46 g46_76 (lkY) ?_
        refine xT_getfield g_q46 g46_78 s1 rfl hso rfl s4 ?_
        refine xT_aload g_q46 g46_81 (lkY) ?_
        refine xT_getfield g_q46 g46_83 s1 rfl hso rfl (s6 hs) ?_
        refine xT_invokevirtual (r := []) (u := some (.inl (nI (wrN (op s) (lf s) ((psN op lf rt nl sv S q) s) (nl s) 0)))) g_q46 g46_86 (j := 47) (so := 0) (by decide +kernel) g_q47 rfl (by rw [x_rcM q1 q2]; rfl) (t47 (hC s hs) (ho s hs).1 (ho s hs).2 (h64 s hs)) ?_
        refine xT_ifCondN g_q46 g46_89 (t := 96) (by decide) (c0N (a := wrN (op s) (lf s) ((psN op lf rt nl sv S q) s) (nl s) 0) (b := 0) (by omega) (by omega) (by omega)) ?_
        refine xT_icV (y := nI (1)) g_q46 g46_92 (by decide) ?_
        refine xT_goto g_q46 g46_93 (t := 97) (by decide) ?_
        refine xT_istore g_q46 g46_97 (by decide) ?_
        exact x
end XH5_10
