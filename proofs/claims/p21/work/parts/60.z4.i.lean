/-! What is first reached: calls, returns, the checker. -/
noncomputable section XRs
variable {tb : XT} {tyl : List FieldType} {ot : XO Int32} {dp k pc n cn sn : Nat} {q : XM} {L : List (Nat × XV Int32)} {S : List (XV Int32)} {H : List (XC Int32)} {cu : Nat → Bool} {g : Bool} {o : XOu}
theorem xR_invokestatic (hg : (g || !cu pc) = true) {ix j so : Nat} {q2 : XM} {r : List (XV Int32)} {u : Option (XV Int32)} {H1 : List (XC Int32)} (hq : tMth tb k = some q) (hi : mC q pc = some (.invokestatic ix, n)) (hc : tCal tb (mO q) ix = some (j, so)) (hm : tMth tb j = some q2) (h1 : (decide (mNp q2 ≤ S.length) && decide (2 ≤ so) && decide ((S.drop (mNp q2)).length ≤ 8) && decide (mNp q2 ≤ mL q2) && decide (cn + mMc q2 ≤ mMc q) && decide (sn + mMs q2 ≤ mMs q)) = true) (g1 : x_To tb tyl ot dp j 0 (x_en 0 (S.take (mNp q2)).reverse) [] H 0 0 u H1) (g2 : xRC tb tyl ot (dp + 1) k cu false (pc + 3) L (x_push u (S.drop (mNp q2))) H1 (cn + mMc q2) (sn + mMs q2) o) : xRC tb tyl ot (dp + 1) k cu g pc L S H cn sn o :=
  xRC_call hg (by simp only [nx, hq, hi, hc]) (by simp only [ca, hq, hi, hc, hm, h1, if_true]) rfl g1 (fun _ _ h => xT_invokestatic (r := r) hq hi hc hm h1 g1 h) g2
theorem xR_invokevirtual (hg : (g || !cu pc) = true) {ix j so : Nat} {a : Nat} {q2 : XM} {r : List (XV Int32)} {u : Option (XV Int32)} {H1 : List (XC Int32)} (hq : tMth tb k = some q) (hi : mC q pc = some (.invokevirtual ix, n)) (hc : tCal tb (mO q) ix = some (j, so)) (hm : tMth tb j = some q2) (hd : S.drop (mNp q2) = .inr (some a) :: r) (h1 : (decide (mNp q2 + 1 ≤ S.length) && decide (so = 0) && decide (x_rc ot H a = some (mRc q2)) && decide (r.length ≤ 8) && decide (mNp q2 + 1 ≤ mL q2) && decide (cn + mMc q2 ≤ mMc q) && decide (sn + mMs q2 ≤ mMs q)) = true) (g1 : x_To tb tyl ot dp j 0 (x_en 0 (.inr (some a) :: (S.take (mNp q2)).reverse)) [] H 0 0 u H1) (g2 : xRC tb tyl ot (dp + 1) k cu false (pc + 3) L (x_push u r) H1 (cn + mMc q2) (sn + mMs q2) o) : xRC tb tyl ot (dp + 1) k cu g pc L S H cn sn o :=
  xRC_call hg (by simp only [nx, hq, hi]) (by simp only [ca, hq, hi, hc, hm, hd, h1, if_true]) rfl g1 (fun _ _ h => xT_invokevirtual hq hi hc hm hd h1 g1 h) g2
theorem xR_invokespecial (hg : (g || !cu pc) = true) {ix j so : Nat} {a : Nat} {q2 : XM} {r : List (XV Int32)} {u : Option (XV Int32)} {H1 : List (XC Int32)} (hq : tMth tb k = some q) (hi : mC q pc = some (.invokespecial ix, n)) (hb : tBi tb (mO q) ix = none) (hc : tCal tb (mO q) ix = some (j, so)) (hm : tMth tb j = some q2) (hd : S.drop (mNp q2) = .inr (some a) :: r) (h1 : (decide (mNp q2 + 1 ≤ S.length) && decide (so = 1) && decide (r.length ≤ 8) && decide (mNp q2 + 1 ≤ mL q2) && decide (cn + mMc q2 ≤ mMc q) && decide (sn + mMs q2 ≤ mMs q)) = true) (g1 : x_To tb tyl ot dp j 0 (x_en 0 (.inr (some a) :: (S.take (mNp q2)).reverse)) [] H 0 0 u H1) (g2 : xRC tb tyl ot (dp + 1) k cu false (pc + 3) L (x_push u r) H1 (cn + mMc q2) (sn + mMs q2) o) : xRC tb tyl ot (dp + 1) k cu g pc L S H cn sn o :=
  xRC_call hg (by simp only [nx, hq, hi, hb]) (by simp only [ca, hq, hi, hb, hc, hm, hd, h1, if_true]) rfl g1 (fun _ _ h => xT_invokespecial hq hi hb hc hm hd h1 g1 h) g2
theorem xR_ireturn (hg : (g || !cu pc) = true) {e : Int32} (hq : tMth tb k = some q) (hi : mC q pc = some (.ireturn, n)) (h1 : (x_retOk dC (mR q) (.inl e) && decide (cn ≤ mMc q) && decide (sn ≤ mMs q)) = true) : xRC tb tyl ot dp k cu g pc L [.inl e] H cn sn (.inr (some (.inl e), H)) :=
  xRC_ret hg (by simp only [nx, hq, hi]) (by simp only [ca, hq, hi]) (xT_ireturn hq hi h1)
theorem xR_areturn (hg : (g || !cu pc) = true) {e : Option Nat} (hq : tMth tb k = some q) (hi : mC q pc = some (.areturn, n)) (h1 : (x_retOk dC (mR q) (.inr e) && decide (cn ≤ mMc q) && decide (sn ≤ mMs q)) = true) : xRC tb tyl ot dp k cu g pc L [.inr e] H cn sn (.inr (some (.inr e), H)) :=
  xRC_ret hg (by simp only [nx, hq, hi]) (by simp only [ca, hq, hi]) (xT_areturn hq hi h1)
theorem xR_return_ (hg : (g || !cu pc) = true) (hq : tMth tb k = some q) (hi : mC q pc = some (.return_, n)) (h1 : (decide (mR q = none) && decide (cn ≤ mMc q) && decide (sn ≤ mMs q)) = true) : xRC tb tyl ot dp k cu g pc L [] H cn sn (.inr (none, H)) :=
  xRC_ret hg (by simp only [nx, hq, hi]) (by simp only [ca, hq, hi]) (xT_return_ hq hi h1)
theorem xRC_g (h : xRC tb tyl ot dp k cu true pc L S H cn sn o) (hg : (g || !cu pc) = true) : xRC tb tyl ot dp k cu g pc L S H cn sn o := by
  obtain ⟨n, ⟨c, -, -⟩ | ⟨-, h⟩⟩ := h
  · cases c
  · exact ⟨n, Or.inr ⟨hg, h⟩⟩
/-- notes come to what is asked -/
def vCutR (KT : vKT) (W : List (Nat × Nat)) (ty0 : Nat → Option Nat) (H0 : List (XC Int32)) (B : Nat) (s : vSt) (ρ : Nat → Int) (σ : Nat → Nat) (cu : vCu) (Post : XOu → Prop) : Prop :=
  ∀ pc g, cu pc = some g → ∀ ρ2 σ2 ty2 H2 s2 L S cn sn Lc cn2 sn2, vExt s s2 ρ ρ2 σ σ2 → vAt KT W ty0 H0 B L s2 cn sn ρ2 σ2 ty2 H2 Lc cn2 sn2 → g L S s2 cn sn = true → Post (.inl (pc, Lc, S.map (cv ρ2 σ2), H2, cn2, sn2))
theorem vCutR_ext {KT : vKT} {W : List (Nat × Nat)} {ty0 : Nat → Option Nat} {H0 : List (XC Int32)} {B : Nat} {s s2 : vSt} {ρ ρ2 : Nat → Int} {σ σ2 : Nat → Nat} {cu : vCu} {Post : XOu → Prop} (g : vExt s s2 ρ ρ2 σ σ2) (h : vCutR KT W ty0 H0 B s ρ σ cu Post) : vCutR KT W ty0 H0 B s2 ρ2 σ2 cu Post :=
  fun pc c hc ρ3 σ3 ty3 H3 s3 L S cn sn Lc cn2 sn2 e1 e2 e3 => h pc c hc ρ3 σ3 ty3 H3 s3 L S cn sn Lc cn2 sn2 (vExt_tr g e1) e2 e3
end XRs
noncomputable section XRck
theorem vChkR_spec {KT : vKT} {tb : XT} {tyl : List FieldType} {ot : XO Int32} {ov : vOt} (hov : vOvLe ov (o4 ot)) {CT : Nat → List vCt} {hs : Nat → Nat → Option (List vHn)} {kn : Nat → Nat → Option Nat} {W : List (Nat × Nat)} (hCT : ∀ j c, c ∈ CT j → vCtSem KT tb tyl ot j c) {ty0 : Nat → Option Nat} {H0 : List (XC Int32)} (hr0 : ∀ a c, ty0 a = some c → kRaw KT c = none) : ∀ (f go : Nat) {dp k pc dp2' B : Nat} {q : XM} {L : List (Nat × vA)} {S : List vA} {s : vSt} {cn sn : lT} {cu : vCu} {ret : vSt → Option vA → Bool} {ρ : Nat → Int} {σ : Nat → Nat} {ty : Nat → Option Nat} {H : List (XC Int32)} {Lc : List (Nat × XV Int32)} {cn2 sn2 : Nat} {Post : XOu → Prop}
    (_ : tMth tb k = some q) (_ : dp ≤ dp2') (_ : B + mMc q ≤ 1000000) (_ : vAt KT W ty0 H0 B L s cn sn ρ σ ty H Lc cn2 sn2) (_ : vChkO KT tb tyl ov CT hs kn W f go dp k pc L S s cn sn cu ret = true) (_ : vRetOk KT W ty0 H0 (B + mMc q) s ρ σ ret (fun v H => Post (.inr (v, H)))) (_ : vCutR KT W ty0 H0 B s ρ σ cu Post),
    ∃ o, xRC tb tyl ot dp2' k (fun pc => (cu pc).isSome) (Nat.ble 1 go) pc Lc (S.map (cv ρ σ)) H cn2 sn2 o ∧ Post o := by
  intro f
  induction f with
  | zero =>
    intro go dp k pc dp2' B q L S s cn sn cu ret ρ σ ty H Lc cn2 sn2 Post hq hdp hB hat hk
    cases hk
  | succ f ih0 =>
  intro go dp k pc dp2' B q L S s cn sn cu ret ρ σ ty H Lc cn2 sn2 Post hq hdp hB hat hk hret hcut
  have ih := fun {pc : Nat} {L : List (Nat × vA)} {S : List vA} {s : vSt} {cn sn : lT} {ρ : Nat → Int} {σ : Nat → Nat} {ty : Nat → Option Nat} {H : List (XC Int32)} {Lc : List (Nat × XV Int32)} {cn2 sn2 : Nat} => @ih0 0 dp k pc dp2' B q L S s cn sn cu ret ρ σ ty H Lc cn2 sn2 Post hq hdp hB
  rw [vChkO.eq_def] at hk
  dsimp only at hk
  rcases hg : (if go = 0 then cu pc else none) with _ | g
  rotate_left
  · rw [hg] at hk
    by_cases h0 : go = 0
    rotate_left
    · rw [if_neg h0] at hg
      cases hg
    rw [if_pos h0] at hg
    subst h0
    exact ⟨_, xRC_cut (by
      show (cu pc).isSome = true
      rw [hg]
      rfl), hcut pc g hg ρ σ ty H s L S cn sn Lc cn2 sn2 (vExt_rf s ρ σ) hat hk⟩
  rw [hg] at hk
  dsimp only at hk
  have hgu : (Nat.ble 1 go || !((fun pc => (cu pc).isSome) pc)) = true := by
    by_cases h0 : go = 0
    · rw [if_pos h0] at hg
      show (Nat.ble 1 go || !(cu pc).isSome) = true
      rw [hg]
      exact Bool.or_true _
    · have h1 : Nat.ble 1 go = true := Nat.ble_eq_true_of_le (by omega)
      rw [h1]
      rfl
  rcases hh : (if go ≤ 1 then hs k pc else none) with _ | x
  rotate_left
  · rw [hh] at hk
    dsimp only at hk
    obtain ⟨ρ2, σ2, ty2, s2, g1, g2, g3, g4, g5⟩ := vHnA_spec hr0 x hat.2.2.2.1 hat.2.1 hk
    obtain ⟨oo, h1, h2⟩ := ih0 2 hq hdp hB ⟨hat.1, g3, hat.2.2.1, g2, g4.1 _ hat.2.2.2.2.1, by rw [g4.2.2.1]; exact hat.2.2.2.2.2.1, by rw [g4.2.2.2]; exact hat.2.2.2.2.2.2⟩ g5 (vRetOk_ext g1 hret) (vCutR_ext g1 hcut)
    rw [g4.2.1] at h1
    exact ⟨oo, xRC_g h1 hgu, h2⟩
  rw [hh] at hk
  dsimp only at hk
  rw [hq] at hk
  dsimp only at hk
  rcases hc : mC q pc with _ | ⟨i, n⟩
  · rw [hc] at hk
    cases hk
  rw [hc] at hk
  dsimp only at hk
  cases i
  case iconst x =>
    try dsimp only at hk
    obtain ⟨oo, h1, h2⟩ := ih hat hk hret hcut
    refine ⟨oo, xR_iconst hgu hq hc ?_, h2⟩
    rw [List.map_cons, show cv ρ σ (.inl (lK (Int32.ofInt x).toInt)) = .inl (Int32.ofInt x) from cv_lK ρ σ _] at h1
    exact h1
  case bipush x =>
    try dsimp only at hk
    obtain ⟨oo, h1, h2⟩ := ih hat hk hret hcut
    refine ⟨oo, xR_bipush hgu hq hc ?_, h2⟩
    rw [List.map_cons, show cv ρ σ (.inl (lK ((Int8.ofInt x).toInt32).toInt)) = .inl ((Int8.ofInt x).toInt32) from cv_lK ρ σ _] at h1
    exact h1
  case sipush x =>
    try dsimp only at hk
    obtain ⟨oo, h1, h2⟩ := ih hat hk hret hcut
    refine ⟨oo, xR_sipush hgu hq hc ?_, h2⟩
    rw [List.map_cons, show cv ρ σ (.inl (lK ((Int16.ofInt x).toInt32).toInt)) = .inl ((Int16.ofInt x).toInt32) from cv_lK ρ σ _] at h1
    exact h1
  case aconst_null =>
    try dsimp only at hk
    obtain ⟨oo, h1, h2⟩ := ih hat hk hret hcut
    refine ⟨oo, xR_aconst_null hgu hq hc ?_, h2⟩
    exact h1
  case iload_n j =>
    try dsimp only at hk
    rcases ha : x_lk L ↑j with _ | (a | a)
    · rw [ha] at hk
      cases hk
    · rw [ha] at hk
      obtain ⟨oo, h1, h2⟩ := ih hat hk hret hcut
      rw [List.map_cons, show cv ρ σ (.inl (lNm (sI s) a)) = cv ρ σ (.inl a) from congrArg (fun z => Sum.inl (Int32.ofInt z)) (lNm_ev hat.2.2.2.1.2.2.2.1 a)] at h1
      exact ⟨oo, xR_iload_n hgu hq hc (hat.2.2.2.2.1 _ _ ha) h1, h2⟩
    · rw [ha] at hk
      cases hk
  case iload j =>
    try dsimp only at hk
    rcases ha : x_lk L ↑j with _ | (a | a)
    · rw [ha] at hk
      cases hk
    · rw [ha] at hk
      obtain ⟨oo, h1, h2⟩ := ih hat hk hret hcut
      rw [List.map_cons, show cv ρ σ (.inl (lNm (sI s) a)) = cv ρ σ (.inl a) from congrArg (fun z => Sum.inl (Int32.ofInt z)) (lNm_ev hat.2.2.2.1.2.2.2.1 a)] at h1
      exact ⟨oo, xR_iload hgu hq hc (hat.2.2.2.2.1 _ _ ha) h1, h2⟩
    · rw [ha] at hk
      cases hk
  case aload_n j =>
    try dsimp only at hk
    rcases ha : x_lk L ↑j with _ | (a | a)
    · rw [ha] at hk
      cases hk
    · rw [ha] at hk
      cases hk
    · rw [ha] at hk
      obtain ⟨oo, h1, h2⟩ := ih hat hk hret hcut
      rcases a with _ | a
      · exact ⟨oo, xR_aload_n hgu hq hc (a := none) (hat.2.2.2.2.1 _ _ ha) h1, h2⟩
      · exact ⟨oo, xR_aload_n hgu hq hc (a := some (sR σ a)) (hat.2.2.2.2.1 _ _ ha) h1, h2⟩
  case aload j =>
    try dsimp only at hk
    rcases ha : x_lk L ↑j with _ | (a | a)
    · rw [ha] at hk
      cases hk
    · rw [ha] at hk
      cases hk
    · rw [ha] at hk
      obtain ⟨oo, h1, h2⟩ := ih hat hk hret hcut
      rcases a with _ | a
      · exact ⟨oo, xR_aload hgu hq hc (a := none) (hat.2.2.2.2.1 _ _ ha) h1, h2⟩
      · exact ⟨oo, xR_aload hgu hq hc (a := some (sR σ a)) (hat.2.2.2.2.1 _ _ ha) h1, h2⟩
  case iadd =>
    try dsimp only at hk
    rcases S with _ | ⟨b | b, _ | ⟨a | a, r⟩⟩ <;> first | (cases hk; done) | skip
    obtain ⟨ρ2, s2, t, g1, g2, g3, g4, g5⟩ := vBinF_spec hat.2.2.2.1 hk
    obtain ⟨oo, h1, h2⟩ := ih (vAt_ext hat g2 g4) g5 (vRetOk_ext g1 hret) (vCutR_ext g1 hcut)
    refine ⟨oo, xR_iadd hgu hq hc (a := Int32.ofInt (lEv ρ a)) (b := Int32.ofInt (lEv ρ b)) ?_, h2⟩
    rw [List.map_cons, g4.2.1, show cv ρ2 σ (.inl t) = .inl (x_bin 0 (Int32.ofInt (lEv ρ a)) (Int32.ofInt (lEv ρ b))) from congrArg Sum.inl g3.symm] at h1
    exact h1
  case isub =>
    try dsimp only at hk
    rcases S with _ | ⟨b | b, _ | ⟨a | a, r⟩⟩ <;> first | (cases hk; done) | skip
    obtain ⟨ρ2, s2, t, g1, g2, g3, g4, g5⟩ := vBinF_spec hat.2.2.2.1 hk
    obtain ⟨oo, h1, h2⟩ := ih (vAt_ext hat g2 g4) g5 (vRetOk_ext g1 hret) (vCutR_ext g1 hcut)
    refine ⟨oo, xR_isub hgu hq hc (a := Int32.ofInt (lEv ρ a)) (b := Int32.ofInt (lEv ρ b)) ?_, h2⟩
    rw [List.map_cons, g4.2.1, show cv ρ2 σ (.inl t) = .inl (x_bin 1 (Int32.ofInt (lEv ρ a)) (Int32.ofInt (lEv ρ b))) from congrArg Sum.inl g3.symm] at h1
    exact h1
  case imul =>
    try dsimp only at hk
    rcases S with _ | ⟨b | b, _ | ⟨a | a, r⟩⟩ <;> first | (cases hk; done) | skip
    obtain ⟨ρ2, s2, t, g1, g2, g3, g4, g5⟩ := vBinF_spec hat.2.2.2.1 hk
    obtain ⟨oo, h1, h2⟩ := ih (vAt_ext hat g2 g4) g5 (vRetOk_ext g1 hret) (vCutR_ext g1 hcut)
    refine ⟨oo, xR_imul hgu hq hc (a := Int32.ofInt (lEv ρ a)) (b := Int32.ofInt (lEv ρ b)) ?_, h2⟩
    rw [List.map_cons, g4.2.1, show cv ρ2 σ (.inl t) = .inl (x_bin 2 (Int32.ofInt (lEv ρ a)) (Int32.ofInt (lEv ρ b))) from congrArg Sum.inl g3.symm] at h1
    exact h1
  case iand =>
    try dsimp only at hk
    rcases S with _ | ⟨b | b, _ | ⟨a | a, r⟩⟩ <;> first | (cases hk; done) | skip
    obtain ⟨ρ2, s2, t, g1, g2, g3, g4, g5⟩ := vBinF_spec hat.2.2.2.1 hk
    obtain ⟨oo, h1, h2⟩ := ih (vAt_ext hat g2 g4) g5 (vRetOk_ext g1 hret) (vCutR_ext g1 hcut)
    refine ⟨oo, xR_iand hgu hq hc (a := Int32.ofInt (lEv ρ a)) (b := Int32.ofInt (lEv ρ b)) ?_, h2⟩
    rw [List.map_cons, g4.2.1, show cv ρ2 σ (.inl t) = .inl (x_bin 3 (Int32.ofInt (lEv ρ a)) (Int32.ofInt (lEv ρ b))) from congrArg Sum.inl g3.symm] at h1
    exact h1
  case ior =>
    try dsimp only at hk
    rcases S with _ | ⟨b | b, _ | ⟨a | a, r⟩⟩ <;> first | (cases hk; done) | skip
    obtain ⟨ρ2, s2, t, g1, g2, g3, g4, g5⟩ := vBinF_spec hat.2.2.2.1 hk
    obtain ⟨oo, h1, h2⟩ := ih (vAt_ext hat g2 g4) g5 (vRetOk_ext g1 hret) (vCutR_ext g1 hcut)
    refine ⟨oo, xR_ior hgu hq hc (a := Int32.ofInt (lEv ρ a)) (b := Int32.ofInt (lEv ρ b)) ?_, h2⟩
    rw [List.map_cons, g4.2.1, show cv ρ2 σ (.inl t) = .inl (x_bin 4 (Int32.ofInt (lEv ρ a)) (Int32.ofInt (lEv ρ b))) from congrArg Sum.inl g3.symm] at h1
    exact h1
  case ixor =>
    try dsimp only at hk
    rcases S with _ | ⟨b | b, _ | ⟨a | a, r⟩⟩ <;> first | (cases hk; done) | skip
    obtain ⟨ρ2, s2, t, g1, g2, g3, g4, g5⟩ := vBinF_spec hat.2.2.2.1 hk
    obtain ⟨oo, h1, h2⟩ := ih (vAt_ext hat g2 g4) g5 (vRetOk_ext g1 hret) (vCutR_ext g1 hcut)
    refine ⟨oo, xR_ixor hgu hq hc (a := Int32.ofInt (lEv ρ a)) (b := Int32.ofInt (lEv ρ b)) ?_, h2⟩
    rw [List.map_cons, g4.2.1, show cv ρ2 σ (.inl t) = .inl (x_bin 5 (Int32.ofInt (lEv ρ a)) (Int32.ofInt (lEv ρ b))) from congrArg Sum.inl g3.symm] at h1
    exact h1
  case ishl =>
    try dsimp only at hk
    rcases S with _ | ⟨b | b, _ | ⟨a | a, r⟩⟩ <;> first | (cases hk; done) | skip
    obtain ⟨ρ2, s2, t, g1, g2, g3, g4, g5⟩ := vBinF_spec hat.2.2.2.1 hk
    obtain ⟨oo, h1, h2⟩ := ih (vAt_ext hat g2 g4) g5 (vRetOk_ext g1 hret) (vCutR_ext g1 hcut)
    refine ⟨oo, xR_ishl hgu hq hc (a := Int32.ofInt (lEv ρ a)) (b := Int32.ofInt (lEv ρ b)) ?_, h2⟩
    rw [List.map_cons, g4.2.1, show cv ρ2 σ (.inl t) = .inl (x_bin 6 (Int32.ofInt (lEv ρ a)) (Int32.ofInt (lEv ρ b))) from congrArg Sum.inl g3.symm] at h1
    exact h1
  case ishr =>
    try dsimp only at hk
    rcases S with _ | ⟨b | b, _ | ⟨a | a, r⟩⟩ <;> first | (cases hk; done) | skip
    obtain ⟨ρ2, s2, t, g1, g2, g3, g4, g5⟩ := vBinF_spec hat.2.2.2.1 hk
    obtain ⟨oo, h1, h2⟩ := ih (vAt_ext hat g2 g4) g5 (vRetOk_ext g1 hret) (vCutR_ext g1 hcut)
    refine ⟨oo, xR_ishr hgu hq hc (a := Int32.ofInt (lEv ρ a)) (b := Int32.ofInt (lEv ρ b)) ?_, h2⟩
    rw [List.map_cons, g4.2.1, show cv ρ2 σ (.inl t) = .inl (x_bin 7 (Int32.ofInt (lEv ρ a)) (Int32.ofInt (lEv ρ b))) from congrArg Sum.inl g3.symm] at h1
    exact h1
  case iushr =>
    try dsimp only at hk
    rcases S with _ | ⟨b | b, _ | ⟨a | a, r⟩⟩ <;> first | (cases hk; done) | skip
    obtain ⟨ρ2, s2, t, g1, g2, g3, g4, g5⟩ := vBinF_spec hat.2.2.2.1 hk
    obtain ⟨oo, h1, h2⟩ := ih (vAt_ext hat g2 g4) g5 (vRetOk_ext g1 hret) (vCutR_ext g1 hcut)
    refine ⟨oo, xR_iushr hgu hq hc (a := Int32.ofInt (lEv ρ a)) (b := Int32.ofInt (lEv ρ b)) ?_, h2⟩
    rw [List.map_cons, g4.2.1, show cv ρ2 σ (.inl t) = .inl (x_bin 10 (Int32.ofInt (lEv ρ a)) (Int32.ofInt (lEv ρ b))) from congrArg Sum.inl g3.symm] at h1
    exact h1
  case idiv =>
    try dsimp only at hk
    rcases S with _ | ⟨b | b, _ | ⟨a | a, r⟩⟩ <;> first | (cases hk; done) | skip
    obtain ⟨s1, f0, f1, f2⟩ := vBr_spec hat.2.2.2.1 hk
    rcases f2 with ⟨e, f2⟩ | ⟨e, f2⟩
    · cases f2
    have hat1 := vAt_same hat f0
    have x1 := vSame0_ext f1 ρ σ
    obtain ⟨ρ2, s2, t, g1, g2, g3, g4, g5⟩ := vBinF_spec f0 f2
    obtain ⟨oo, h1, h2⟩ := ih (vAt_ext hat1 g2 g4) g5 (vRetOk_ext g1 (vRetOk_ext x1 hret)) (vCutR_ext g1 (vCutR_ext x1 hcut))
    rw [lK_ev] at e
    refine ⟨oo, xR_idiv hgu hq hc (a := Int32.ofInt (lEv ρ a)) (b := Int32.ofInt (lEv ρ b)) e ?_, h2⟩
    rw [List.map_cons, g4.2.1, show cv ρ2 σ (.inl t) = .inl (x_bin 8 (Int32.ofInt (lEv ρ a)) (Int32.ofInt (lEv ρ b))) from congrArg Sum.inl g3.symm] at h1
    exact h1
  case irem =>
    try dsimp only at hk
    rcases S with _ | ⟨b | b, _ | ⟨a | a, r⟩⟩ <;> first | (cases hk; done) | skip
    obtain ⟨s1, f0, f1, f2⟩ := vBr_spec hat.2.2.2.1 hk
    rcases f2 with ⟨e, f2⟩ | ⟨e, f2⟩
    · cases f2
    have hat1 := vAt_same hat f0
    have x1 := vSame0_ext f1 ρ σ
    obtain ⟨ρ2, s2, t, g1, g2, g3, g4, g5⟩ := vBinF_spec f0 f2
    obtain ⟨oo, h1, h2⟩ := ih (vAt_ext hat1 g2 g4) g5 (vRetOk_ext g1 (vRetOk_ext x1 hret)) (vCutR_ext g1 (vCutR_ext x1 hcut))
    rw [lK_ev] at e
    refine ⟨oo, xR_irem hgu hq hc (a := Int32.ofInt (lEv ρ a)) (b := Int32.ofInt (lEv ρ b)) e ?_, h2⟩
    rw [List.map_cons, g4.2.1, show cv ρ2 σ (.inl t) = .inl (x_bin 9 (Int32.ofInt (lEv ρ a)) (Int32.ofInt (lEv ρ b))) from congrArg Sum.inl g3.symm] at h1
    exact h1
  case i2b =>
    try dsimp only at hk
    rcases S with _ | ⟨a | a, r⟩ <;> first | (cases hk; done) | skip
    have hk2 := Bool.and_eq_true_iff.mp hk
    obtain ⟨ρ2, s2, t, g1, g2, g3, g5⟩ := vUn_spec hat.2.2.2.1 hk2.2
    have g4 := vFr_spec g1 hk2.1
    obtain ⟨oo, h1, h2⟩ := ih (vAt_ext hat g2 g4) g5 (vRetOk_ext g1 hret) (vCutR_ext g1 hcut)
    refine ⟨oo, xR_i2b hgu hq hc (a := Int32.ofInt (lEv ρ a)) ?_, h2⟩
    rw [List.map_cons, g4.2.1, show cv ρ2 σ (.inl t) = .inl (x_un 0 (Int32.ofInt (lEv ρ a))) from congrArg Sum.inl g3.symm] at h1
    exact h1
  case i2s =>
    try dsimp only at hk
    rcases S with _ | ⟨a | a, r⟩ <;> first | (cases hk; done) | skip
    have hk2 := Bool.and_eq_true_iff.mp hk
    obtain ⟨ρ2, s2, t, g1, g2, g3, g5⟩ := vUn_spec hat.2.2.2.1 hk2.2
    have g4 := vFr_spec g1 hk2.1
    obtain ⟨oo, h1, h2⟩ := ih (vAt_ext hat g2 g4) g5 (vRetOk_ext g1 hret) (vCutR_ext g1 hcut)
    refine ⟨oo, xR_i2s hgu hq hc (a := Int32.ofInt (lEv ρ a)) ?_, h2⟩
    rw [List.map_cons, g4.2.1, show cv ρ2 σ (.inl t) = .inl (x_un 1 (Int32.ofInt (lEv ρ a))) from congrArg Sum.inl g3.symm] at h1
    exact h1
  case i2c =>
    try dsimp only at hk
    rcases S with _ | ⟨a | a, r⟩ <;> first | (cases hk; done) | skip
    have hk2 := Bool.and_eq_true_iff.mp hk
    obtain ⟨ρ2, s2, t, g1, g2, g3, g5⟩ := vUn_spec hat.2.2.2.1 hk2.2
    have g4 := vFr_spec g1 hk2.1
    obtain ⟨oo, h1, h2⟩ := ih (vAt_ext hat g2 g4) g5 (vRetOk_ext g1 hret) (vCutR_ext g1 hcut)
    refine ⟨oo, xR_i2c hgu hq hc (a := Int32.ofInt (lEv ρ a)) ?_, h2⟩
    rw [List.map_cons, g4.2.1, show cv ρ2 σ (.inl t) = .inl (x_un 2 (Int32.ofInt (lEv ρ a))) from congrArg Sum.inl g3.symm] at h1
    exact h1
  case ineg =>
    try dsimp only at hk
    rcases S with _ | ⟨a | a, r⟩ <;> first | (cases hk; done) | skip
    have hk2 := Bool.and_eq_true_iff.mp hk
    obtain ⟨ρ2, s2, t, g1, g2, g3, g5⟩ := vUn_spec hat.2.2.2.1 hk2.2
    have g4 := vFr_spec g1 hk2.1
    obtain ⟨oo, h1, h2⟩ := ih (vAt_ext hat g2 g4) g5 (vRetOk_ext g1 hret) (vCutR_ext g1 hcut)
    refine ⟨oo, xR_ineg hgu hq hc (a := Int32.ofInt (lEv ρ a)) ?_, h2⟩
    rw [List.map_cons, g4.2.1, show cv ρ2 σ (.inl t) = .inl (x_un 3 (Int32.ofInt (lEv ρ a))) from congrArg Sum.inl g3.symm] at h1
    exact h1
  case goto x =>
    try dsimp only at hk
    rcases ht : x_jp pc x with _ | t
    · rw [ht] at hk
      cases hk
    · rw [ht] at hk
      obtain ⟨oo, h1, h2⟩ := ih hat hk hret hcut
      exact ⟨oo, xR_goto hgu hq hc ht h1, h2⟩
  case if_icmp c x =>
    try dsimp only at hk
    rcases ht : x_jp pc x with _ | t
    · rw [ht] at hk
      cases hk
    rw [ht] at hk
    rcases S with _ | ⟨b | b, _ | ⟨a | a, r⟩⟩ <;> first | (cases hk; done) | skip
    obtain ⟨s2, g0, g1, g2⟩ := vBr_spec hat.2.2.2.1 hk
    have x1 := vSame0_ext g1 ρ σ
    rcases g2 with ⟨e, g2⟩ | ⟨e, g2⟩
    · obtain ⟨oo, h1, h2⟩ := ih (vAt_same hat g0) g2 (vRetOk_ext x1 hret) (vCutR_ext x1 hcut)
      exact ⟨oo, xR_if_icmpY hgu hq hc (a := Int32.ofInt (lEv ρ a)) (b := Int32.ofInt (lEv ρ b)) ht e h1, h2⟩
    · obtain ⟨oo, h1, h2⟩ := ih (vAt_same hat g0) g2 (vRetOk_ext x1 hret) (vCutR_ext x1 hcut)
      exact ⟨oo, xR_if_icmpN hgu hq hc (a := Int32.ofInt (lEv ρ a)) (b := Int32.ofInt (lEv ρ b)) ht e h1, h2⟩
  case ifCond c x =>
    try dsimp only at hk
    rcases ht : x_jp pc x with _ | t
    · rw [ht] at hk
      cases hk
    rw [ht] at hk
    rcases S with _ | ⟨a | a, r⟩ <;> first | (cases hk; done) | skip
    obtain ⟨s2, g0, g1, g2⟩ := vBr_spec hat.2.2.2.1 hk
    rw [lK_ev] at g2
    have x1 := vSame0_ext g1 ρ σ
    rcases g2 with ⟨e, g2⟩ | ⟨e, g2⟩
    · obtain ⟨oo, h1, h2⟩ := ih (vAt_same hat g0) g2 (vRetOk_ext x1 hret) (vCutR_ext x1 hcut)
      exact ⟨oo, xR_ifCondY hgu hq hc (a := Int32.ofInt (lEv ρ a)) ht e h1, h2⟩
    · obtain ⟨oo, h1, h2⟩ := ih (vAt_same hat g0) g2 (vRetOk_ext x1 hret) (vCutR_ext x1 hcut)
      exact ⟨oo, xR_ifCondN hgu hq hc (a := Int32.ofInt (lEv ρ a)) ht e h1, h2⟩
  case istore_n j =>
    try dsimp only at hk
    rcases S with _ | ⟨a | a, r⟩ <;> first | (cases hk; done) | skip
    have hk2 := Bool.and_eq_true_iff.mp hk
    obtain ⟨oo, h1, h2⟩ := ih (vAt_st hat j (.inl a)) hk2.2 hret hcut
    exact ⟨oo, xR_istore_n hgu hq hc (a := Int32.ofInt (lEv ρ a)) (of_decide_eq_true hk2.1) h1, h2⟩
  case istore j =>
    try dsimp only at hk
    rcases S with _ | ⟨a | a, r⟩ <;> first | (cases hk; done) | skip
    have hk2 := Bool.and_eq_true_iff.mp hk
    obtain ⟨oo, h1, h2⟩ := ih (vAt_st hat j (.inl a)) hk2.2 hret hcut
    exact ⟨oo, xR_istore hgu hq hc (a := Int32.ofInt (lEv ρ a)) (of_decide_eq_true hk2.1) h1, h2⟩
  case astore_n j =>
    try dsimp only at hk
    rcases S with _ | ⟨a | a, r⟩ <;> first | (cases hk; done) | skip
    have hk2 := Bool.and_eq_true_iff.mp hk
    obtain ⟨oo, h1, h2⟩ := ih (vAt_st hat j (.inr a)) hk2.2 hret hcut
    rcases a with _ | a
    · exact ⟨oo, xR_astore_n hgu hq hc (a := none) (of_decide_eq_true hk2.1) h1, h2⟩
    · exact ⟨oo, xR_astore_n hgu hq hc (a := some (sR σ a)) (of_decide_eq_true hk2.1) h1, h2⟩
  case astore j =>
    try dsimp only at hk
    rcases S with _ | ⟨a | a, r⟩ <;> first | (cases hk; done) | skip
    have hk2 := Bool.and_eq_true_iff.mp hk
    obtain ⟨oo, h1, h2⟩ := ih (vAt_st hat j (.inr a)) hk2.2 hret hcut
    rcases a with _ | a
    · exact ⟨oo, xR_astore hgu hq hc (a := none) (of_decide_eq_true hk2.1) h1, h2⟩
    · exact ⟨oo, xR_astore hgu hq hc (a := some (sR σ a)) (of_decide_eq_true hk2.1) h1, h2⟩
  case iinc j x =>
    try dsimp only at hk
    rcases ha : x_lk L j with _ | (a | a)
    · rw [ha] at hk
      cases hk
    · rw [ha] at hk
      have hk2 := Bool.and_eq_true_iff.mp hk
      obtain ⟨ρ2, s2, t, g1, g2, g3, g4, g5⟩ := vBinF_spec hat.2.2.2.1 hk2.2
      obtain ⟨oo, h1, h2⟩ := ih (vAt_st (vAt_ext hat g2 g4) j (.inl t)) g5 (vRetOk_ext g1 hret) (vCutR_ext g1 hcut)
      refine ⟨oo, xR_iinc hgu hq hc (a := Int32.ofInt (lEv ρ a)) (hat.2.2.2.2.1 _ _ ha) (of_decide_eq_true hk2.1) ?_, h2⟩
      rw [lK_ev, Int32.ofInt_toInt] at g3
      rw [g4.2.1, show cv ρ2 σ (.inl t) = .inl (x_bin 0 (Int32.ofInt (lEv ρ a)) (Int32.ofInt x)) from congrArg Sum.inl g3.symm] at h1
      exact h1
    · rw [ha] at hk
      cases hk
  case dup =>
    try dsimp only at hk
    rcases S with _ | ⟨a, r⟩ <;> first | (cases hk; done) | skip
    obtain ⟨oo, h1, h2⟩ := ih hat hk hret hcut
    exact ⟨oo, xR_dup hgu hq hc h1, h2⟩
  case dup_x1 =>
    try dsimp only at hk
    rcases S with _ | ⟨a, _ | ⟨b, r⟩⟩ <;> first | (cases hk; done) | skip
    obtain ⟨oo, h1, h2⟩ := ih hat hk hret hcut
    exact ⟨oo, xR_dup_x1 hgu hq hc h1, h2⟩
  case dup2 =>
    try dsimp only at hk
    rcases S with _ | ⟨a, _ | ⟨b, r⟩⟩ <;> first | (cases hk; done) | skip
    obtain ⟨oo, h1, h2⟩ := ih hat hk hret hcut
    exact ⟨oo, xR_dup2 hgu hq hc h1, h2⟩
  case pop =>
    try dsimp only at hk
    rcases S with _ | ⟨a, r⟩ <;> first | (cases hk; done) | skip
    obtain ⟨oo, h1, h2⟩ := ih hat hk hret hcut
    exact ⟨oo, xR_pop hgu hq hc h1, h2⟩
  case ifnull x =>
    try dsimp only at hk
    rcases ht : x_jp pc x with _ | t
    · rw [ht] at hk
      cases hk
    rw [ht] at hk
    rcases S with _ | ⟨a | (_ | a), r⟩
    · cases hk
    · cases hk
    · obtain ⟨oo, h1, h2⟩ := ih hat hk hret hcut
      exact ⟨oo, xR_ifnull0 hgu hq hc ht h1, h2⟩
    · obtain ⟨oo, h1, h2⟩ := ih hat hk hret hcut
      exact ⟨oo, xR_ifnull1 hgu hq hc (a := sR σ a) ht h1, h2⟩
  case ifnonnull x =>
    try dsimp only at hk
    rcases ht : x_jp pc x with _ | t
    · rw [ht] at hk
      cases hk
    rw [ht] at hk
    rcases S with _ | ⟨a | (_ | a), r⟩
    · cases hk
    · cases hk
    · obtain ⟨oo, h1, h2⟩ := ih hat hk hret hcut
      exact ⟨oo, xR_ifnonnull0 hgu hq hc ht h1, h2⟩
    · obtain ⟨oo, h1, h2⟩ := ih hat hk hret hcut
      exact ⟨oo, xR_ifnonnull1 hgu hq hc (a := sR σ a) ht h1, h2⟩
  case ireturn =>
    try dsimp only at hk
    rcases S with _ | ⟨e | e, _ | ⟨z, r⟩⟩ <;> first | (cases hk; done) | skip
    have k0 := Bool.and_eq_true_iff.mp hk
    have k1 := Bool.and_eq_true_iff.mp k0.1
    have k2 := Bool.and_eq_true_iff.mp k1.2
    have c1 := cOk_spec hat.2.2.2.1 hat.2.2.2.2.2.1 k2.1
    have c2 := cOk_spec hat.2.2.2.1 hat.2.2.2.2.2.2 k2.2
    refine ⟨.inr (some (.inl (Int32.ofInt (lEv ρ e))), H), xR_ireturn hgu hq hc ?_, hret ρ σ ty H s (some (.inl e)) (vExt_rf s ρ σ) hat.2.1 hat.2.2.1 hat.2.2.2.1 (Nat.le_trans hat.1.1 (by omega)) k0.2⟩
    rw [vRt_spec hat.2.2.2.1 k1.1, decide_eq_true c1, decide_eq_true c2]
    rfl
  case return_ =>
    try dsimp only at hk
    rcases S with _ | ⟨e, r⟩ <;> first | (cases hk; done) | skip
    have k0 := Bool.and_eq_true_iff.mp hk
    have k1 := Bool.and_eq_true_iff.mp k0.1
    have k2 := Bool.and_eq_true_iff.mp k1.2
    have c1 := cOk_spec hat.2.2.2.1 hat.2.2.2.2.2.1 k2.1
    have c2 := cOk_spec hat.2.2.2.1 hat.2.2.2.2.2.2 k2.2
    refine ⟨.inr (none, H), xR_return_ hgu hq hc ?_, hret ρ σ ty H s none (vExt_rf s ρ σ) hat.2.1 hat.2.2.1 hat.2.2.2.1 (Nat.le_trans hat.1.1 (by omega)) k0.2⟩
    rw [k1.1, decide_eq_true c1, decide_eq_true c2]
    rfl
  case areturn =>
    try dsimp only at hk
    rcases S with _ | ⟨e | o, _ | ⟨z, r⟩⟩ <;> first | (cases hk; done) | skip
    have k0 := Bool.and_eq_true_iff.mp hk
    have k1 := Bool.and_eq_true_iff.mp k0.1
    have k2 := Bool.and_eq_true_iff.mp k1.2
    have c1 := cOk_spec hat.2.2.2.1 hat.2.2.2.2.2.1 k2.1
    have c2 := cOk_spec hat.2.2.2.1 hat.2.2.2.2.2.2 k2.2
    have hp := hret ρ σ ty H s (some (.inr o)) (vExt_rf s ρ σ) hat.2.1 hat.2.2.1 hat.2.2.2.1 (Nat.le_trans hat.1.1 (by omega)) k0.2
    have hm : ∀ u : Option Nat, x_retOk dC (mR q) (.inr u) = true := fun u => by
      have k3 := k1.1
      generalize mR q = m at k3 ⊢
      rcases m with _ | t
      · cases k3
      · cases t <;> first | rfl | (cases k3; done)
    rcases o with _ | a
    · exact ⟨.inr (some (.inr none), H), xR_areturn hgu hq hc (by rw [hm, decide_eq_true c1, decide_eq_true c2]; rfl), hp⟩
    · exact ⟨.inr (some (.inr (some (sR σ a))), H), xR_areturn hgu hq hc (by rw [hm, decide_eq_true c1, decide_eq_true c2]; rfl), hp⟩
  case getfield ix =>
    try dsimp only at hk
    rcases S with _ | ⟨b | (_ | a), r⟩ <;> first | (cases hk; done) | skip
    try dsimp only at hk
    by_cases ho : 1000000 < a
    · rw [if_pos ho] at hk
      rcases hu : ov.2.1 a (mO q) ix with _ | u
      · rw [hu] at hk
        cases hk
      rw [hu] at hk
      try dsimp only at hk
      rcases hv : vOv u with _ | v0
      · rw [hv] at hk
        cases hk
      rw [hv] at hk
      obtain ⟨oo, h1, h2⟩ := ih hat hk hret hcut
      have e : sR σ a = a := if_neg (by omega)
      refine ⟨oo, xR_getfieldO hgu hq hc (a := sR σ a) (u := u) (by rw [e]; exact ho) (by rw [e]; exact hov.2.1 _ _ _ _ hu) ?_, h2⟩
      rw [← vOv_spec ρ σ hv]
      exact h1
    rw [if_neg ho] at hk
    rcases hf : tFld tb (mO q) ix with _ | ⟨ci, j⟩
    · rw [hf] at hk
      cases hk
    rw [hf] at hk
    try dsimp only at hk
    rcases hG : (sG s)[a]? with _ | c
    · rw [hG] at hk
      cases hk
    rw [hG] at hk
    try dsimp only at hk
    rcases hK : KT.1[c]? with _ | (⟨c2, fl⟩ | o)
    · rw [hK] at hk
      cases hk
    rotate_left
    · rw [hK] at hk
      cases hk
    rw [hK] at hk
    try dsimp only at hk
    rcases hz : fl[j]? with _ | fz
    · rw [hz] at hk
      cases hk
    rw [hz] at hk
    have hk2 := Bool.and_eq_true_iff.mp hk
    have hci : c2 = ci := of_decide_eq_true hk2.1
    have ha := hat.2.2.2.1.2.1 a c hG
    obtain ⟨fs, f1, f2, f3⟩ := vHp_obj hat.2.2.2.1.1 ha hK
    obtain ⟨u, u1, u2⟩ := f3 j fz hz
    obtain ⟨ρ2, σ2, s2, v0, g0, g1, g2, g4, g3⟩ := vRdF_spec hat.2.2.2.1 (i := a) (key := .inl j) (u := u) ⟨c2, fs, f1, u1⟩ u2 (fun z => by cases z) hk2.2
    obtain ⟨oo, h1, h2⟩ := ih (vAt_ext hat g1 g4) g3 (vRetOk_ext g0 hret) (vCutR_ext g0 hcut)
    have hlt := vHp_lt hat.2.2.2.1.1 ha
    have hl2 := hat.1.2
    rw [List.map_cons, g2, g4.2.1] at h1
    exact ⟨oo, xR_getfield hgu hq hc (a := sR σ a) (by omega) hf f1 hci u1 h1, h2⟩
  case iaload =>
    try dsimp only at hk
    rcases S with _ | ⟨e | e, _ | ⟨b | (_ | a), r⟩⟩ <;> first | (cases hk; done) | skip
    try dsimp only at hk
    rcases hG : (sG s)[a]? with _ | c
    · rw [hG] at hk
      cases hk
    rw [hG] at hk
    try dsimp only at hk
    rcases hK : KT.1[c]? with _ | (o | ⟨t, m, fl⟩)
    · rw [hK] at hk
      cases hk
    · rw [hK] at hk
      cases hk
    rw [hK] at hk
    have hk2 := Bool.and_eq_true_iff.mp hk
    have hk4 := Bool.and_eq_true_iff.mp hk2.1
    have ht : t = 0 := of_decide_eq_true hk4.1
    subst ht
    rcases hz : vRes fl e with _ | fz
    · have hk3 := hk2.2
      rw [hz] at hk3
      cases hk3
    have hk3 := hk2.2
    rw [hz] at hk3
    have ha := hat.2.2.2.1.2.1 a c hG
    obtain ⟨vs, f1, f2, f3⟩ := vHp_arr hat.2.2.2.1.1 ha hK
    obtain ⟨x1, x2, x3, x4⟩ := vIdx_spec hat.2.2.2.1 hk4.2
    obtain ⟨u, u1, u2⟩ := f3 _ fz x2 (vRes_spec x3 hz)
    obtain ⟨ρ2, σ2, s2, v0, g0, g1, g2, g4, g3⟩ := vRdF_spec hat.2.2.2.1 (i := a) (key := .inr e) (u := u) ⟨_, vs, f1, x3, u1⟩ u2 (fun z => by cases z) hk3
    obtain ⟨oo, h1, h2⟩ := ih (vAt_ext hat g1 g4) g3 (vRetOk_ext g0 hret) (vCutR_ext g0 hcut)
    have hlt := vHp_lt hat.2.2.2.1.1 ha
    have hl2 := hat.1.2
    rw [List.map_cons, g2, g4.2.1] at h1
    exact ⟨oo, xR_iaload hgu hq hc (a := sR σ a) (e := Int32.ofInt (lEv ρ e)) (by omega) f1 (by rw [f2]; exact x1) (by rw [x4]; exact u1) h1, h2⟩
  case baload =>
    try dsimp only at hk
    rcases S with _ | ⟨e | e, _ | ⟨b | (_ | a), r⟩⟩ <;> first | (cases hk; done) | skip
    try dsimp only at hk
    by_cases ho : 1000000 < a
    · rw [if_pos ho] at hk
      rcases hu : ov.2.2.2.1 a with _ | bs
      · rw [hu] at hk
        cases hk
      rw [hu] at hk
      have hk2 := Bool.and_eq_true_iff.mp hk
      have hk3 := Bool.and_eq_true_iff.mp hk2.1
      obtain ⟨x1, x2, x3, x4⟩ := vIdx_spec hat.2.2.2.1 hk3.2
      obtain ⟨oo, h1, h2⟩ := ih hat hk2.2 hret hcut
      have e0 : sR σ a = a := if_neg (by omega)
      refine ⟨oo, xR_baloadO hgu hq hc (a := sR σ a) (e := Int32.ofInt (lEv ρ e)) (by rw [e0]; exact ho) (by rw [e0]; exact hov.2.2.2.1 _ _ hu) x1 ?_, h2⟩
      obtain ⟨e1, e2⟩ := e
      have he : e2 = [] := of_decide_eq_true hk3.1
      subst he
      have e3 : lEv ρ (e1, []) = e1 := Int.add_zero e1
      rw [x4, e3]
      rw [List.map_cons, cv_lK] at h1
      exact h1
    rw [if_neg ho] at hk
    rcases hG : (sG s)[a]? with _ | c
    · rw [hG] at hk
      cases hk
    rw [hG] at hk
    try dsimp only at hk
    rcases hK : KT.1[c]? with _ | (o | ⟨t, m, fl⟩)
    · rw [hK] at hk
      cases hk
    · rw [hK] at hk
      cases hk
    rw [hK] at hk
    have hk2 := Bool.and_eq_true_iff.mp hk
    have hk4 := Bool.and_eq_true_iff.mp hk2.1
    have ht : t = 1 := of_decide_eq_true hk4.1
    subst ht
    rcases hz : vRes fl e with _ | fz
    · have hk3 := hk2.2
      rw [hz] at hk3
      cases hk3
    have hk3 := hk2.2
    rw [hz] at hk3
    have ha := hat.2.2.2.1.2.1 a c hG
    obtain ⟨vs, f1, f2, f3⟩ := vHp_arr hat.2.2.2.1.1 ha hK
    obtain ⟨x1, x2, x3, x4⟩ := vIdx_spec hat.2.2.2.1 hk4.2
    obtain ⟨u, u1, u2⟩ := f3 _ fz x2 (vRes_spec x3 hz)
    obtain ⟨ρ2, σ2, s2, v0, g0, g1, g2, g4, g3⟩ := vRdF_spec hat.2.2.2.1 (i := a) (key := .inr e) (u := u) ⟨_, vs, f1, x3, u1⟩ u2 (fun z => by cases z) hk3
    obtain ⟨oo, h1, h2⟩ := ih (vAt_ext hat g1 g4) g3 (vRetOk_ext g0 hret) (vCutR_ext g0 hcut)
    have hlt := vHp_lt hat.2.2.2.1.1 ha
    have hl2 := hat.1.2
    rw [List.map_cons, g2, g4.2.1] at h1
    exact ⟨oo, xR_baload hgu hq hc (a := sR σ a) (e := Int32.ofInt (lEv ρ e)) (by omega) f1 (by rw [f2]; exact x1) (by rw [x4]; exact u1) h1, h2⟩
  case aaload =>
    try dsimp only at hk
    rcases S with _ | ⟨e | e, _ | ⟨b | (_ | a), r⟩⟩ <;> first | (cases hk; done) | skip
    try dsimp only at hk
    rcases hG : (sG s)[a]? with _ | c
    · rw [hG] at hk
      cases hk
    rw [hG] at hk
    try dsimp only at hk
    rcases hK : KT.1[c]? with _ | (o | ⟨t, m, fl⟩)
    · rw [hK] at hk
      cases hk
    · rw [hK] at hk
      cases hk
    rw [hK] at hk
    have hk2 := Bool.and_eq_true_iff.mp hk
    have hk4 := Bool.and_eq_true_iff.mp hk2.1
    try skip
    rcases hz : vRes fl e with _ | fz
    · have hk3 := hk2.2
      rw [hz] at hk3
      cases hk3
    have hk3 := hk2.2
    rw [hz] at hk3
    have ha := hat.2.2.2.1.2.1 a c hG
    obtain ⟨vs, f1, f2, f3⟩ := vHp_arr hat.2.2.2.1.1 ha hK
    obtain ⟨x1, x2, x3, x4⟩ := vIdx_spec hat.2.2.2.1 hk4.2
    obtain ⟨u, u1, u2⟩ := f3 _ fz x2 (vRes_spec x3 hz)
    obtain ⟨ρ2, σ2, s2, v0, g0, g1, g2, g4, g3⟩ := vRdF_spec hat.2.2.2.1 (i := a) (key := .inr e) (u := u) ⟨_, vs, f1, x3, u1⟩ u2 (fun z => by
      have z2 := Bool.and_eq_true_iff.mp z
      obtain ⟨t2, ws, p, w1, w2⟩ := vNnQ_spec hat.2.2.2.1 z2.2 x3
      rw [f1] at w1
      cases w1
      rw [u1] at w2
      cases w2
      intro w3
      cases w3) hk3
    obtain ⟨oo, h1, h2⟩ := ih (vAt_ext hat g1 g4) g3 (vRetOk_ext g0 hret) (vCutR_ext g0 hcut)
    have hlt := vHp_lt hat.2.2.2.1.1 ha
    have hl2 := hat.1.2
    rw [List.map_cons, g2, g4.2.1] at h1
    exact ⟨oo, xR_aaload hgu hq hc (a := sR σ a) (e := Int32.ofInt (lEv ρ e)) (of_decide_eq_true hk4.1) f1 (by rw [f2]; exact x1) (by rw [x4]; exact u1) h1, h2⟩
  case iastore =>
    try dsimp only at hk
    rcases S with _ | ⟨x | x, _ | ⟨e | e, _ | ⟨b | (_ | a), r⟩⟩⟩ <;> first | (cases hk; done) | skip
    try dsimp only at hk
    rcases hG : (sG s)[a]? with _ | c
    · rw [hG] at hk
      cases hk
    rw [hG] at hk
    try dsimp only at hk
    rcases hK : KT.1[c]? with _ | (o | ⟨t, m, fl⟩)
    · rw [hK] at hk
      cases hk
    · rw [hK] at hk
      cases hk
    rw [hK] at hk
    have hk2 := Bool.and_eq_true_iff.mp hk
    have hk3 := Bool.and_eq_true_iff.mp hk2.1
    have hk4 := hk3.1
    simp only [Bool.and_eq_true] at hk4
    obtain ⟨⟨⟨⟨q1, q2⟩, q2g⟩, q3⟩, q4⟩ := hk4
    have q2g := of_decide_eq_true q2g
    have hk5 := hk3.2
    rcases hz : vRes fl e with _ | fz
    · rw [hz] at hk5
      cases hk5
    rw [hz] at hk5
    have hk6 := Bool.and_eq_true_iff.mp hk5
    have ht : t = 0 := of_decide_eq_true q1
    subst ht
    have q2 := of_decide_eq_true q2
    have ha := hat.2.2.2.1.2.1 a c hG
    obtain ⟨vs, f1, f2, f3⟩ := vHp_arr hat.2.2.2.1.1 ha hK
    obtain ⟨x1, x2, x3, x4⟩ := vIdx_spec hat.2.2.2.1 q4
    have hr := vSto_rel hat.2.2.2.1 ha hK f1 (e := e) (v := .inl x) x3 (by rw [f2]; exact x2) (vRes_spec x3 hz) (vFits_spec hat.2.2.2.1 hk6.1) (fun z => (q2 z).elim) q2g
    have g0 : vExt s (vSto a e (.inl x) s) ρ ρ σ σ := vExt_eq ρ σ rfl rfl
    obtain ⟨oo, h1, h2⟩ := ih (vAt_set hat hr ha f1 ⟨rfl, fun z => by rw [q3] at z; cases z⟩) hk2.2 (vRetOk_ext g0 hret) (vCutR_ext g0 hcut)
    refine ⟨oo, xR_iastore hgu hq hc (a := sR σ a) (e := Int32.ofInt (lEv ρ e)) (x := Int32.ofInt (lEv ρ x)) f1 (by rw [f2]; exact x1) ?_, h2⟩
    rw [x4]
    exact h1
  case bastore =>
    try dsimp only at hk
    rcases S with _ | ⟨x | x, _ | ⟨e | e, _ | ⟨b | (_ | a), r⟩⟩⟩ <;> first | (cases hk; done) | skip
    try dsimp only at hk
    rcases hG : (sG s)[a]? with _ | c
    · rw [hG] at hk
      cases hk
    rw [hG] at hk
    try dsimp only at hk
    rcases hK : KT.1[c]? with _ | (o | ⟨t, m, fl⟩)
    · rw [hK] at hk
      cases hk
    · rw [hK] at hk
      cases hk
    rw [hK] at hk
    have hk2 := Bool.and_eq_true_iff.mp hk
    have hk3 := Bool.and_eq_true_iff.mp hk2.1
    have hk4 := hk3.1
    simp only [Bool.and_eq_true] at hk4
    obtain ⟨⟨⟨⟨q1, q2⟩, q2g⟩, q3⟩, q4⟩ := hk4
    have q2g := of_decide_eq_true q2g
    have hk5 := hk3.2
    rcases hz : vRes fl e with _ | fz
    · rw [hz] at hk5
      cases hk5
    rw [hz] at hk5
    have hk6 := Bool.and_eq_true_iff.mp hk5
    have ht : t = 1 := of_decide_eq_true q1
    subst ht
    have q2 := of_decide_eq_true q2
    have ha := hat.2.2.2.1.2.1 a c hG
    obtain ⟨vs, f1, f2, f3⟩ := vHp_arr hat.2.2.2.1.1 ha hK
    obtain ⟨x1, x2, x3, x4⟩ := vIdx_spec hat.2.2.2.1 q4
    have hr := vSto_rel hat.2.2.2.1 ha hK f1 (e := e) (v := .inl x) x3 (by rw [f2]; exact x2) (vRes_spec x3 hz) (vFits_spec hat.2.2.2.1 hk6.1) (fun z => (q2 z).elim) q2g
    have g0 : vExt s (vSto a e (.inl x) s) ρ ρ σ σ := vExt_eq ρ σ rfl rfl
    obtain ⟨oo, h1, h2⟩ := ih (vAt_set hat hr ha f1 (vMonB q3)) hk2.2 (vRetOk_ext g0 hret) (vCutR_ext g0 hcut)
    refine ⟨oo, xR_bastore hgu hq hc (a := sR σ a) (e := Int32.ofInt (lEv ρ e)) (x := Int32.ofInt (lEv ρ x)) (vB01_fit hat.2.2.2.1 hk6.2) f1 (by rw [f2]; exact x1) ?_, h2⟩
    rw [x4]
    exact h1
  case aastore =>
    try dsimp only at hk
    rcases S with _ | ⟨x | (_ | x), _ | ⟨e | e, _ | ⟨b | (_ | a), r⟩⟩⟩ <;> first | (cases hk; done) | skip
    try dsimp only at hk
    rcases hG : (sG s)[a]? with _ | c
    · rw [hG] at hk
      cases hk
    rw [hG] at hk
    try dsimp only at hk
    rcases hK : KT.1[c]? with _ | (o | ⟨t, m, fl⟩)
    · rw [hK] at hk
      cases hk
    · rw [hK] at hk
      cases hk
    rw [hK] at hk
    have hk2 := Bool.and_eq_true_iff.mp hk
    have hk3 := Bool.and_eq_true_iff.mp hk2.1
    obtain ⟨q5, q4⟩ := Bool.and_eq_true_iff.mp hk3.1
    obtain ⟨q2g, q3⟩ := Bool.and_eq_true_iff.mp q5
    have q2g := of_decide_eq_true q2g
    have hk5 := hk3.2
    rcases hz : vRes fl e with _ | fz
    · rw [hz] at hk5
      cases hk5
    rw [hz] at hk5
    have hk7 := hk2.2
    rcases hX : (sG s)[x]? with _ | d
    · rw [hX] at hk7
      cases hk7
    rw [hX] at hk7
    try dsimp only at hk7
    rcases hP : KT.1[d]? with _ | (⟨ci, gl⟩ | p)
    · rw [hP] at hk7
      cases hk7
    rotate_left
    · rw [hP] at hk7
      cases hk7
    rw [hP] at hk7
    try dsimp only at hk7
    split at hk7
    rotate_left
    · cases hk7
    rename_i nm hnm
    have hk8 := Bool.and_eq_true_iff.mp hk7
    have ha := hat.2.2.2.1.2.1 a c hG
    have hx := hat.2.2.2.1.2.1 x d hX
    obtain ⟨vs, f1, f2, f3⟩ := vHp_arr hat.2.2.2.1.1 ha hK
    obtain ⟨gs, y1, y2, y3⟩ := vHp_obj hat.2.2.2.1.1 hx hP
    obtain ⟨x1, x2, x3, x4⟩ := vIdx_spec hat.2.2.2.1 q4
    have hr := vSto_rel hat.2.2.2.1 ha hK f1 (e := e) (v := .inr (some x)) x3 (by rw [f2]; exact x2) (vRes_spec x3 hz) (vFits_spec hat.2.2.2.1 hk5) (fun _ => ⟨sR σ x, rfl⟩) q2g
    have g0 : vExt s (vSto a e (.inr (some x)) s) ρ ρ σ σ := vExt_eq ρ σ rfl rfl
    obtain ⟨oo, h1, h2⟩ := ih (vAt_set hat hr ha f1 ⟨rfl, fun z => by rw [q3] at z; cases z⟩) hk8.2 (vRetOk_ext g0 hret) (vCutR_ext g0 hcut)
    refine ⟨oo, xR_aastore hgu hq hc (a := sR σ a) (u := sR σ x) (e := Int32.ofInt (lEv ρ e)) f1 y1 hnm hk8.1 (by rw [f2]; exact x1) ?_, h2⟩
    rw [x4]
    exact h1
  case putfield ix =>
    try dsimp only at hk
    rcases S with _ | ⟨x, _ | ⟨b | (_ | a), r⟩⟩ <;> first | (cases hk; done) | skip
    try dsimp only at hk
    rcases hf : tFld tb (mO q) ix with _ | ⟨ci, j⟩
    · rw [hf] at hk
      cases hk
    rw [hf] at hk
    try dsimp only at hk
    rcases hG : (sG s)[a]? with _ | c
    · rw [hG] at hk
      cases hk
    rw [hG] at hk
    try dsimp only at hk
    rcases hK : KT.1[c]? with _ | (⟨c2, fl⟩ | o)
    · rw [hK] at hk
      cases hk
    rotate_left
    · rw [hK] at hk
      cases hk
    rw [hK] at hk
    try dsimp only at hk
    rcases hz : fl[j]? with _ | fz
    · rw [hz] at hk
      cases hk
    rw [hz] at hk
    try dsimp only at hk
    rcases hT : (tFt tb ci)[j]? with _ | tt
    · rw [hT] at hk
      cases hk
    rw [hT] at hk
    have hk2 := Bool.and_eq_true_iff.mp hk
    have hk3 := Bool.and_eq_true_iff.mp hk2.1
    have hk6 := Bool.and_eq_true_iff.mp hk3.2
    have hk7 := Bool.and_eq_true_iff.mp hk3.1
    have hk4 := Bool.and_eq_true_iff.mp hk7.2
    have hk5 := Bool.and_eq_true_iff.mp hk4.2
    have hci : c2 = ci := of_decide_eq_true hk7.1
    subst hci
    have ha := hat.2.2.2.1.2.1 a c hG
    obtain ⟨fs, f1, f2, f3⟩ := vHp_obj hat.2.2.2.1.1 ha hK
    have hj := (List.getElem?_eq_some_iff.mp hz).1
    have hr := vPut_rel hat.2.2.2.1 ha hK f1 hz (by rw [f2]; exact hj) (vFits_spec hat.2.2.2.1 hk4.1) hk6.2
    have g0 : vExt s (vPut a j x s) ρ ρ σ σ := vExt_eq ρ σ rfl rfl
    obtain ⟨oo, h1, h2⟩ := ih (vAt_set hat hr ha f1 ⟨rfl, List.length_set .., fun i hi => by
      show (fs.set j (cv ρ σ x))[i]? = fs[i]?
      rw [List.getElem?_set_ne]
      intro e
      rw [← e, hk6.1] at hi
      cases hi⟩) hk2.2 (vRetOk_ext g0 hret) (vCutR_ext g0 hcut)
    refine ⟨oo, xR_putfield hgu hq hc (a := sR σ a) hf f1 hT ?_ h1, h2⟩
    rw [vTyp_spec hat.2.2.2.1 hk5.1, hk5.2, decide_eq_true (show c2 = c2 from rfl), decide_eq_true (show j < fs.length by rw [f2]; exact hj)]
    rfl
  case ldc ix =>
    try dsimp only at hk
    rcases hx : tLi tb (mO q) ix with _ | x
    · rw [hx] at hk
      try dsimp only at hk
      rcases hs : ov.1 (mO q) ix with _ | a
      · rw [hs] at hk
        cases hk
      rw [hs] at hk
      have hk2 := Bool.and_eq_true_iff.mp hk
      obtain ⟨oo, h1, h2⟩ := ih hat hk2.2 hret hcut
      have := of_decide_eq_true hk2.1
      have e0 : sR σ a = a := if_neg (by omega)
      refine ⟨oo, xR_ldcT hgu hq hc (a := a) hx (hov.1 _ _ _ hs) ?_, h2⟩
      rw [List.map_cons, show cv ρ σ (.inr (some a)) = .inr (some a) from congrArg (fun z => Sum.inr (some z)) e0] at h1
      exact h1
    rw [hx] at hk
    obtain ⟨oo, h1, h2⟩ := ih hat hk hret hcut
    refine ⟨oo, xR_ldc hgu hq hc hx ?_, h2⟩
    rw [List.map_cons, cv_lK] at h1
    exact h1
  case ldc_w ix =>
    try dsimp only at hk
    rcases hx : tLi tb (mO q) ix with _ | x
    · rw [hx] at hk
      try dsimp only at hk
      rcases hs : ov.1 (mO q) ix with _ | a
      · rw [hs] at hk
        cases hk
      rw [hs] at hk
      have hk2 := Bool.and_eq_true_iff.mp hk
      obtain ⟨oo, h1, h2⟩ := ih hat hk2.2 hret hcut
      have := of_decide_eq_true hk2.1
      have e0 : sR σ a = a := if_neg (by omega)
      refine ⟨oo, xR_ldc_wT hgu hq hc (a := a) hx (hov.1 _ _ _ hs) ?_, h2⟩
      rw [List.map_cons, show cv ρ σ (.inr (some a)) = .inr (some a) from congrArg (fun z => Sum.inr (some z)) e0] at h1
      exact h1
    rw [hx] at hk
    obtain ⟨oo, h1, h2⟩ := ih hat hk hret hcut
    refine ⟨oo, xR_ldc_w hgu hq hc hx ?_, h2⟩
    rw [List.map_cons, cv_lK] at h1
    exact h1
  case i2l =>
    try dsimp only at hk
    rcases S with _ | ⟨a | a, r⟩ <;> first | (cases hk; done) | skip
    rcases hql : x_lq q pc with _ | ⟨j, j0, ix, j2⟩
    · rw [hql] at hk
      cases hk
    rw [hql] at hk
    try dsimp only at hk
    rcases hj : x_lk L j with _ | (b | b)
    · rw [hj] at hk
      cases hk
    rotate_left
    · rw [hj] at hk
      cases hk
    rw [hj] at hk
    rcases hj0 : x_lk L j0 with _ | (o | (_ | o))
    · rw [hj0] at hk
      cases hk
    · rw [hj0] at hk
      cases hk
    · rw [hj0] at hk
      cases hk
    rw [hj0] at hk
    rcases hj2 : x_lk L j2 with _ | (e | e)
    · rw [hj2] at hk
      cases hk
    rotate_left
    · rw [hj2] at hk
      cases hk
    rw [hj2] at hk
    try dsimp only at hk
    have hjE : x_lk Lc j2 = some (cv ρ σ (.inl (lNm (sI s) e))) := by
      rw [show cv ρ σ (.inl (lNm (sI s) e)) = cv ρ σ (.inl e) from congrArg (fun z => Sum.inl (Int32.ofInt z)) (lNm_ev hat.2.2.2.1.2.2.2.1 e)]
      exact hat.2.2.2.2.1 _ _ hj2
    rcases hf : tFld tb (mO q) ix with _ | ⟨ci, fj⟩
    · rw [hf] at hk
      cases hk
    rw [hf] at hk
    try dsimp only at hk
    generalize lNm (sI s) e = e at hk hjE
    rcases hG : (sG s)[o]? with _ | c
    · rw [hG] at hk
      cases hk
    rw [hG] at hk
    try dsimp only at hk
    rcases hK : KT.1[c]? with _ | (⟨c2, fl⟩ | ob)
    · rw [hK] at hk
      cases hk
    rotate_left
    · rw [hK] at hk
      cases hk
    rw [hK] at hk
    try dsimp only at hk
    rcases hz : fl[fj]? with _ | fz
    · rw [hz] at hk
      cases hk
    rw [hz] at hk
    have hk2 := Bool.and_eq_true_iff.mp hk
    have hci : c2 = ci := of_decide_eq_true hk2.1
    have ha := hat.2.2.2.1.2.1 o c hG
    obtain ⟨fs, f1, f2, f3⟩ := vHp_obj hat.2.2.2.1.1 ha hK
    obtain ⟨u, u1, u2⟩ := f3 fj fz hz
    obtain ⟨ρ2, σ2, s2, v0, g0, g1, g2, g4, g3⟩ := vRdF_spec hat.2.2.2.1 (i := o) (key := .inl fj) (u := u) ⟨c2, fs, f1, u1⟩ u2 (fun z => by cases z) hk2.2
    have hat2 := vAt_ext hat g1 g4
    rcases v0 with v0 | (_ | ar)
    · cases g3
    · cases g3
    try dsimp only at g3
    rcases hG2 : (sG s2)[ar]? with _ | c3
    · rw [hG2] at g3
      cases g3
    rw [hG2] at g3
    try dsimp only at g3
    rcases hK2 : KT.1[c3]? with _ | (oo | ⟨t, m, fl2⟩)
    · rw [hK2] at g3
      cases g3
    · rw [hK2] at g3
      cases g3
    rw [hK2] at g3
    have q2 := Bool.and_eq_true_iff.mp g3
    have q4 := Bool.and_eq_true_iff.mp q2.1
    have ht : t = 0 := of_decide_eq_true q4.1
    subst ht
    rcases hz2 : vRes fl2 e with _ | fz2
    · have q3 := q2.2
      rw [hz2] at q3
      cases q3
    have q3 := q2.2
    rw [hz2] at q3
    try dsimp only at q3
    have ha2 := hat2.2.2.2.1.2.1 ar c3 hG2
    obtain ⟨vs, y1, y2, y3⟩ := vHp_arr hat2.2.2.2.1.1 ha2 hK2
    obtain ⟨x1, x2, x3, x4⟩ := vIdx_spec hat2.2.2.2.1 q4.2
    obtain ⟨u', w1, w2⟩ := y3 _ fz2 x2 (vRes_spec x3 hz2)
    obtain ⟨ρ3, σ3, s3, v3, k0, k1, k2, k4, k3⟩ := vRdF_spec hat2.2.2.2.1 (i := ar) (key := .inr e) (u := u') ⟨_, vs, y1, x3, w1⟩ w2 (fun z => by cases z) q3
    have hat3 := vAt_ext hat2 k1 k4
    rcases v3 with lv | v3
    rotate_left
    · cases k3
    obtain ⟨s4, z1, z2, xi, z3, z4⟩ := vL3_spec k1 k3
    have xx := vSame0_ext z2 ρ3 σ3
    obtain ⟨oo, h1, h2⟩ := ih (vAt_same hat3 z1) z3 (vRetOk_ext xx (vRetOk_ext k0 (vRetOk_ext g0 hret))) (vCutR_ext xx (vCutR_ext k0 (vCutR_ext g0 hcut)))
    have m1 := g4.2.1
    have m2 := k4.2.1
    simp only [List.map_cons, List.cons.injEq] at m1 m2
    have eA : cv ρ3 σ3 (.inl a) = cv ρ σ (.inl a) := m2.1.trans m1.1
    have eB : cv ρ3 σ3 (.inl b) = cv ρ σ (.inl b) := m2.2.1.trans m1.2.1
    have eE : cv ρ2 σ2 (.inl e) = cv ρ σ (.inl e) := m1.2.2.1
    have eR : r.map (cv ρ3 σ3) = r.map (cv ρ σ) := m2.2.2.trans m1.2.2.2
    have fA : Int32.ofInt (lEv ρ3 a) = Int32.ofInt (lEv ρ a) := Sum.inl.inj eA
    have fB : Int32.ofInt (lEv ρ3 b) = Int32.ofInt (lEv ρ b) := Sum.inl.inj eB
    have fE : Int32.ofInt (lEv ρ2 e) = Int32.ofInt (lEv ρ e) := Sum.inl.inj eE
    have hlt := vHp_lt hat.2.2.2.1.1 ha
    have hl2 := hat.1.2
    have uA : fs[fj]? = some (.inr (some (sR σ2 ar))) := by rw [u1, ← g2]; rfl
    rw [List.map_cons, eR] at h1
    refine ⟨oo, xR_l3 hgu hq hc (a := Int32.ofInt (lEv ρ a)) (b := Int32.ofInt (lEv ρ b)) (e := Int32.ofInt (lEv ρ e)) (u := Int32.ofInt (lEv ρ3 lv)) (ob := sR σ o) (y := sR σ2 ar) hql (hat.2.2.2.2.1 _ _ hj) (hat.2.2.2.2.1 _ _ hj0) hjE hf f1 hci uA y1 (by rw [y2, ← fE]; exact x1) (by rw [← fE, x4, w1, ← k2]; rfl) ?_, h2⟩
    rw [z4, fA, fB] at h1
    exact h1
  case getstatic ix =>
    try dsimp only at hk
    rcases hx : ov.2.2.1 (mO q) ix with _ | u
    · rw [hx] at hk
      cases hk
    rw [hx] at hk
    try dsimp only at hk
    rcases hv : vOv u with _ | v0
    · rw [hv] at hk
      cases hk
    rw [hv] at hk
    obtain ⟨oo, h1, h2⟩ := ih hat hk hret hcut
    refine ⟨oo, xR_getstatic hgu hq hc (hov.2.2.1 _ _ _ hx) ?_, h2⟩
    rw [← vOv_spec ρ σ hv]
    exact h1
  case arraylength =>
    try dsimp only at hk
    rcases S with _ | ⟨b | (_ | a), r⟩ <;> first | (cases hk; done) | skip
    try dsimp only at hk
    by_cases ho : 1000000 < a
    · rw [if_pos ho] at hk
      rcases hu : ov.2.2.2.1 a with _ | bs
      · rw [hu] at hk
        cases hk
      rw [hu] at hk
      obtain ⟨oo, h1, h2⟩ := ih hat hk hret hcut
      have e : sR σ a = a := if_neg (by omega)
      refine ⟨oo, xR_arraylengthB hgu hq hc (a := sR σ a) (by rw [e]; omega) (by rw [e]; exact hov.2.2.2.1 _ _ hu) (by rw [e]; exact ho) ?_, h2⟩
      rw [List.map_cons, cv_lK] at h1
      exact h1
    · rw [if_neg ho] at hk
      cases hk
  case tableswitch df lo up os =>
    try dsimp only at hk
    rcases S with _ | ⟨a | a, r⟩ <;> first | (cases hk; done) | skip
    have hk2 := Bool.and_eq_true_iff.mp hk
    have hk3 := Bool.and_eq_true_iff.mp hk2.1
    obtain ⟨s2, g0, g1, g2⟩ := vSw_spec _ hat.2.2.2.1 hk2.2
    rcases ht : x_jp pc (x_swo (Int32.ofInt (lEv ρ a)) df (x_tp lo os.toList)) with _ | t
    · rw [ht] at g2
      cases g2
    rw [ht] at g2
    have x1 := vSame0_ext g1 ρ σ
    obtain ⟨oo, h1, h2⟩ := ih (vAt_same hat g0) g2 (vRetOk_ext x1 hret) (vCutR_ext x1 hcut)
    exact ⟨oo, xR_tableswitch hgu hq hc (a := Int32.ofInt (lEv ρ a)) (of_decide_eq_true hk3.1) hk3.2 ht h1, h2⟩
  case lookupswitch df ps =>
    try dsimp only at hk
    rcases S with _ | ⟨a | a, r⟩ <;> first | (cases hk; done) | skip
    have hk2 := Bool.and_eq_true_iff.mp hk
    have hk3 := Bool.and_eq_true_iff.mp hk2.1
    obtain ⟨s2, g0, g1, g2⟩ := vSw_spec _ hat.2.2.2.1 hk2.2
    rcases ht : x_jp pc (x_swo (Int32.ofInt (lEv ρ a)) df ps.toList) with _ | t
    · rw [ht] at g2
      cases g2
    rw [ht] at g2
    have x1 := vSame0_ext g1 ρ σ
    obtain ⟨oo, h1, h2⟩ := ih (vAt_same hat g0) g2 (vRetOk_ext x1 hret) (vCutR_ext x1 hcut)
    exact ⟨oo, xR_lookupswitch hgu hq hc (a := Int32.ofInt (lEv ρ a)) (hk3.1) hk3.2 ht h1, h2⟩
  case new ix =>
    try dsimp only at hk
    rcases hx : tNw tb (mO q) ix with _ | ci
    · rw [hx] at hk
      cases hk
    rw [hx] at hk
    try dsimp only at hk
    rcases hn : kn k pc with _ | c
    · rw [hn] at hk
      cases hk
    rw [hn] at hk
    try dsimp only at hk
    rcases hK : KT.1[c]? with _ | (⟨c2, fl⟩ | o)
    · rw [hK] at hk
      cases hk
    rotate_left
    · rw [hK] at hk
      cases hk
    rw [hK] at hk
    simp only [Bool.and_eq_true] at hk
    obtain ⟨⟨⟨⟨⟨k1, k2⟩, k3, k3g⟩, k4, k5⟩, k6, k7⟩, k8⟩ := hk
    have k3g := of_decide_eq_true k3g
    have k1 : c2 = ci := of_decide_eq_true k1
    subst k1
    have k3 := of_decide_eq_true k3
    obtain ⟨σ2, g0, g1, g2, g3⟩ := vMkD_rel hat.2.2.2.1 k7 hK (vDefs_cell (c2 := c2) (ty := vAdd ty H.length c) k2) k3 k3g
    have cc1 := cOk_spec (n := cn2 + 1) hat.2.2.2.1 (by rw [lAdd_ev, lK_ev]; have := hat.2.2.2.2.2.1; omega) k4
    have cc2 := cOk_spec (n := sn2 + (tFt tb c2).length) hat.2.2.2.1 (by rw [lAdd_ev, lK_ev]; have := hat.2.2.2.2.2.2; omega) k5
    have hl := hat.1.1
    have hl2 := hat.1.2
    have g4 := vFr_spec g0 k6
    have hat2 : vAt KT W ty0 H0 B L (vMkD KT c (tFt tb c2) s) (lAdd cn (lK 1)) (lAdd sn (lK (((tFt tb c2).length : Int) : Int))) ρ σ2 (vAdd ty H.length c) (H ++ [.inl (c2, (tFt tb c2).map (fun t => x_def dC t.1))]) Lc (cn2 + 1) (sn2 + (tFt tb c2).length) := by
      refine ⟨?_, vLe_tr hat.2.1 g3, vFrm_app hat.2.2.1 _, g1, g4.1 _ hat.2.2.2.2.1, ?_, ?_⟩
      · rw [List.length_append]
        show H.length + 1 ≤ B + (cn2 + 1) ∧ H.length + 1 ≤ 1000000
        omega
      · rw [lAdd_ev, lK_ev, g4.2.2.1]
        have := hat.2.2.2.2.2.1
        omega
      · rw [lAdd_ev, lK_ev, g4.2.2.2]
        have := hat.2.2.2.2.2.2
        omega
    obtain ⟨oo, h1, h2⟩ := ih hat2 k8 (vRetOk_ext g0 hret) (vCutR_ext g0 hcut)
    rw [List.map_cons, g4.2.1, show cv ρ σ2 (.inr (some (sG s).length)) = .inr (some H.length) from congrArg (fun z => Sum.inr (some z)) g2] at h1
    refine ⟨oo, xR_new hgu hq hc hx ?_ h1, h2⟩
    rw [decide_eq_true cc1, decide_eq_true cc2, decide_eq_true (show H.length + 1 ≤ 1000000 by omega)]
    rfl
  case newarray at_ =>
    try dsimp only at hk
    rcases S with _ | ⟨e | e, r⟩ <;> first | (cases hk; done) | skip
    try dsimp only at hk
    rcases hn : kn k pc with _ | c
    · rw [hn] at hk
      cases hk
    rw [hn] at hk
    try dsimp only at hk
    rcases hK : KT.1[c]? with _ | (o | ⟨t, m, fl⟩)
    · rw [hK] at hk
      cases hk
    · rw [hK] at hk
      cases hk
    rw [hK] at hk
    simp only [Bool.and_eq_true] at hk
    obtain ⟨⟨⟨⟨⟨⟨⟨⟨k0, k1⟩, k2⟩, k3⟩, k4⟩, k5, k5g⟩, k6, k7⟩, k8, k9⟩, k10⟩ := hk
    have k5g := of_decide_eq_true k5g
    have k1 := of_decide_eq_true k1
    have k2 := of_decide_eq_true k2
    have k3 : m ≤ 100000 := of_decide_eq_true k3
    have k5 := of_decide_eq_true k5
    obtain ⟨σ2, g0, g1, g2, g3⟩ := vMkA_rel hat.2.2.2.1 k9 hK (vZero_cell (t := t) (m := m) (ty := vAdd ty H.length c) k4) k5 k5g
    have cc1 := cOk_spec (n := cn2 + 1) hat.2.2.2.1 (by rw [lAdd_ev, lK_ev]; have := hat.2.2.2.2.2.1; omega) k6
    have cc2 := cOk_spec (n := sn2 + m) hat.2.2.2.1 (by rw [lAdd_ev, lK_ev]; have := hat.2.2.2.2.2.2; omega) k7
    have hl := hat.1.1
    have hl2 := hat.1.2
    have g4 := vFr_spec g0 k8
    have hat2 : vAt KT W ty0 H0 B L (vMkA KT c s) (lAdd cn (lK 1)) (lAdd sn (lK ((m : Int) : Int))) ρ σ2 (vAdd ty H.length c) (H ++ [.inr (t, List.replicate m (.inl 0))]) Lc (cn2 + 1) (sn2 + m) := by
      refine ⟨?_, vLe_tr hat.2.1 g3, vFrm_app hat.2.2.1 _, g1, g4.1 _ hat.2.2.2.2.1, ?_, ?_⟩
      · rw [List.length_append]
        show H.length + 1 ≤ B + (cn2 + 1) ∧ H.length + 1 ≤ 1000000
        omega
      · rw [lAdd_ev, lK_ev, g4.2.2.1]
        have := hat.2.2.2.2.2.1
        omega
      · rw [lAdd_ev, lK_ev, g4.2.2.2]
        have := hat.2.2.2.2.2.2
        omega
    obtain ⟨oo, h1, h2⟩ := ih hat2 k10 (vRetOk_ext g0 hret) (vCutR_ext g0 hcut)
    rw [List.map_cons, g4.2.1, show cv ρ σ2 (.inr (some (sG s).length)) = .inr (some H.length) from congrArg (fun z => Sum.inr (some z)) g2] at h1
    obtain ⟨e1, e2⟩ := e
    have k1 : e2 = [] := k1
    have k2 : e1 = (m : Int) := k2
    subst k1
    subst k2
    have e3 : lEv ρ ((m : Int), []) = (m : Int) := Int.add_zero _
    have e4 : (Int32.ofInt (m : Int)).toInt = (m : Int) := ofInt_toInt (by omega) (by omega)
    have e5 : (Int32.ofInt (m : Int)).toNatClampNeg = m := by
      show (Int32.ofInt (m : Int)).toInt.toNat = m
      omega
    have e6 : ¬ Int32.ofInt (m : Int) < 0 := fun z => by
      have z2 : (Int32.ofInt (m : Int)).toInt < (0 : Int) := Int32.lt_iff_toInt_lt.mp z
      omega
    have e7 : (decide (¬ Int32.ofInt (m : Int) < 0) && decide ((Int32.ofInt (m : Int)).toNatClampNeg ≤ 100000) && decide (cn2 + 1 ≤ mMc q) && decide (sn2 + (Int32.ofInt (m : Int)).toNatClampNeg ≤ mMs q) && decide (H.length + 1 ≤ 1000000)) = true := by
      rw [e5, decide_eq_true e6, decide_eq_true k3, decide_eq_true cc1, decide_eq_true cc2, decide_eq_true (show H.length + 1 ≤ 1000000 by omega)]
      rfl
    rcases at_ with _ | _ | _ | _ | _ | _ | _ | _ <;> first | (cases k0; done) | skip
    all_goals
      have k0 := of_decide_eq_true k0
      have k0 : t = _ := k0
      subst k0
      first
      | exact ⟨oo, xR_newarrayI hgu hq hc (e := Int32.ofInt (lEv ρ ((m : Int), []))) (by rw [e3]; exact e7) (by rw [e3, e5]; exact h1), h2⟩
      | exact ⟨oo, xR_newarrayZ hgu hq hc (e := Int32.ofInt (lEv ρ ((m : Int), []))) (by rw [e3]; exact e7) (by rw [e3, e5]; exact h1), h2⟩
  case multianewarray ix dm =>
    try dsimp only at hk
    rcases S with _ | ⟨e2 | e2, _ | ⟨e1 | e1, r⟩⟩ <;> first | (cases hk; done) | skip
    try dsimp only at hk
    rcases hM : tMn tb (mO q) ix with _ | ⟨y2, y1⟩
    · rw [hM] at hk
      cases hk
    rw [hM] at hk
    try dsimp only at hk
    rcases hn : kn k pc with _ | c
    · rw [hn] at hk
      cases hk
    rw [hn] at hk
    try dsimp only at hk
    rcases hK : KT.1[c]? with _ | (o | ⟨t2, n1, fw⟩)
    · rw [hK] at hk
      cases hk
    · rw [hK] at hk
      cases hk
    rw [hK] at hk
    try dsimp only at hk
    rcases fw with _ | ⟨w | ⟨wn, c1⟩, _ | ⟨w2, fw⟩⟩ <;> first | (cases hk; done) | skip
    try dsimp only at hk
    rcases hP : KT.1[c1]? with _ | (o | ⟨t1, n2, fl⟩)
    · rw [hP] at hk
      cases hk
    · rw [hP] at hk
      cases hk
    rw [hP] at hk
    simp only [Bool.and_eq_true] at hk
    obtain ⟨⟨⟨⟨⟨⟨⟨⟨⟨⟨⟨⟨⟨⟨⟨⟨⟨⟨b1, b2⟩, b3⟩, b4⟩, b5⟩, b6⟩, b7⟩, b8⟩, b9⟩, b10⟩, b11⟩, b12⟩, b13⟩, b14⟩, b15⟩, b16⟩, k6, k7⟩, k8, k9, k9b⟩, k10⟩ := hk
    have b1 : dm = 2 := of_decide_eq_true b1
    have b2 : y2 = t2 := of_decide_eq_true b2
    have b3 : y1 = t1 := of_decide_eq_true b3
    have b4 : t1 < 2 := of_decide_eq_true b4
    have b7 : n1 ≤ 1000 := of_decide_eq_true b7
    have b8 : n2 ≤ 1000 := of_decide_eq_true b8
    have b9 : wn = false := of_decide_eq_true b9
    have b11 : kRaw KT c = none := by simpa using b11
    have b12 : kRaw KT c1 = none := by simpa using b12
    subst b2
    subst b3
    subst b9
    obtain ⟨σ2, g0, g1, g2, g3⟩ := vMuM_rel hat.2.2.2.1 k9 hK hP b10 b11 b12 (of_decide_eq_true b13) (of_decide_eq_true b14) (of_decide_eq_true b15) (of_decide_eq_true b16) (of_decide_eq_true k9b)
    have cc1 := cOk_spec (n := cn2 + (1 + n1)) hat.2.2.2.1 (by rw [lAdd_ev, lK_ev]; have := hat.2.2.2.2.2.1; show ((cn2 + (1 + n1) : Nat) : Int) ≤ lEv ρ cn + ((1 + n1 : Nat) : Int); omega) k6
    have cc2 := cOk_spec (n := sn2 + (n1 + n1 * n2)) hat.2.2.2.1 (by rw [lAdd_ev, lK_ev]; have := hat.2.2.2.2.2.2; show ((sn2 + (n1 + n1 * n2) : Nat) : Int) ≤ lEv ρ sn + ((n1 + n1 * n2 : Nat) : Int); generalize n1 * n2 = z; omega) k7
    have hl := hat.1.1
    have hl2 := hat.1.2
    have g4 := vFr_spec g0 k8
    have hlen : (H ++ .inr (y2, x_refs (H.length + 1) n1) :: x_rows y1 (List.replicate n2 (.inl 0)) n1 : List (XC Int32)).length = H.length + 1 + n1 := by
      rw [List.length_append, List.length_cons, xrow_len]
      omega
    have hat2 : vAt KT W ty0 H0 B L (vMuM c c1 n1 s) (lAdd cn (lK ((1 + n1 : Nat) : Int))) (lAdd sn (lK ((n1 + n1 * n2 : Nat) : Int))) ρ σ2 (vAdd2 ty H.length n1 c c1) (H ++ .inr (y2, x_refs (H.length + 1) n1) :: x_rows y1 (List.replicate n2 (.inl 0)) n1) Lc (cn2 + 1 + n1) (sn2 + n1 + n1 * n2) := by
      refine ⟨?_, vLe_tr hat.2.1 g3, vFrm_app hat.2.2.1 _, g1, g4.1 _ hat.2.2.2.2.1, ?_, ?_⟩
      · rw [hlen]
        omega
      · rw [lAdd_ev, lK_ev, g4.2.2.1]
        have := hat.2.2.2.2.2.1
        omega
      · rw [lAdd_ev, lK_ev, g4.2.2.2]
        have := hat.2.2.2.2.2.2
        generalize n1 * n2 = z
        omega
    obtain ⟨oo, h1, h2⟩ := ih hat2 k10 (vRetOk_ext g0 hret) (vCutR_ext g0 hcut)
    rw [List.map_cons, g4.2.1, show cv ρ σ2 (.inr (some (sG s).length)) = .inr (some H.length) from congrArg (fun z => Sum.inr (some z)) g2] at h1
    have q1 : lEv ρ e1 = (n1 : Int) := by
      have z := congrArg (lEv ρ) (lEq_spec b5)
      rw [lK_ev] at z
      exact z
    have q2 : lEv ρ e2 = (n2 : Int) := by
      have z := congrArg (lEv ρ) (lEq_spec b6)
      rw [lK_ev] at z
      exact z
    have f1 : (Int32.ofInt (lEv ρ e1)).toNatClampNeg = n1 := by
      show (Int32.ofInt (lEv ρ e1)).toInt.toNat = n1
      rw [q1, ofInt_toInt (by omega) (by omega)]
      omega
    have f2 : (Int32.ofInt (lEv ρ e2)).toNatClampNeg = n2 := by
      show (Int32.ofInt (lEv ρ e2)).toInt.toNat = n2
      rw [q2, ofInt_toInt (by omega) (by omega)]
      omega
    have p1 : ¬ Int32.ofInt (lEv ρ e1) < 0 := fun z => by
      have z2 : (Int32.ofInt (lEv ρ e1)).toInt < (0 : Int) := Int32.lt_iff_toInt_lt.mp z
      rw [q1, ofInt_toInt (by omega) (by omega)] at z2
      omega
    have p2 : ¬ Int32.ofInt (lEv ρ e2) < 0 := fun z => by
      have z2 : (Int32.ofInt (lEv ρ e2)).toInt < (0 : Int) := Int32.lt_iff_toInt_lt.mp z
      rw [q2, ofInt_toInt (by omega) (by omega)] at z2
      omega
    refine ⟨oo, xR_multianewarray hgu hq hc (e1 := Int32.ofInt (lEv ρ e1)) (e2 := Int32.ofInt (lEv ρ e2)) hM ?_ ?_, h2⟩
    · rw [f1, f2, decide_eq_true b1, decide_eq_true p1, decide_eq_true p2, decide_eq_true (show n1 ≤ 100000 by omega), decide_eq_true (show n2 ≤ 100000 by omega), decide_eq_true b4, decide_eq_true cc1, decide_eq_true cc2, decide_eq_true (show H.length + 1 + n1 ≤ 1000000 by omega)]
      rfl
    · rw [f1, f2]
      exact h1
  case invokevirtual ix =>
    try dsimp only at hk
    rcases hy : tCal tb (mO q) ix with _ | y
    · rw [hy] at hk
      cases hk
    rw [hy] at hk
    try dsimp only at hk
    rcases dp with _ | dp2
    · cases hk
    try dsimp only at hk
    rcases hm : tMth tb y.1 with _ | q2
    · rw [hm] at hk
      cases hk
    rw [hm] at hk
    try dsimp only at hk
    rcases hd : S.drop (mNp q2) with _ | ⟨z | (_ | a), r⟩
    · rw [hd] at hk
      cases hk
    · rw [hd] at hk
      cases hk
    · rw [hd] at hk
      cases hk
    rw [hd] at hk
    obtain ⟨hk3, hkB⟩ := Bool.and_eq_true_iff.mp hk
    simp only [Bool.and_eq_true] at hk3
    obtain ⟨⟨⟨⟨⟨k1, k2⟩, k3⟩, k4⟩, k5⟩, kc1, kc2⟩ := hk3
    obtain ⟨dq, rfl⟩ : ∃ dq, dp2' = dq + 1 := ⟨dp2' - 1, by omega⟩
    have hdq : dp2 ≤ dq := by omega
    have c1 := cOk_spec (n := cn2 + mMc q2) hat.2.2.2.1 (by rw [lAdd_ev, lK_ev]; have := hat.2.2.2.2.2.1; omega) kc1
    have c2 := cOk_spec (n := sn2 + mMs q2) hat.2.2.2.1 (by rw [lAdd_ev, lK_ev]; have := hat.2.2.2.2.2.2; omega) kc2
    have hargs : ((.inr (some a) :: (S.take (mNp q2)).reverse) : List vA).map (cv ρ σ) = (.inr (some (sR σ a)) :: ((S.map (cv ρ σ)).take (mNp q2)).reverse) := by
      rw [List.map_cons, List.map_reverse, List.map_take]
      rfl
    have hgo : ∀ {ρ3 : Nat → Int} {σ3 : Nat → Nat} {ty3 : Nat → Option Nat} {H1 : List (XC Int32)} {s3 : vSt} {R3 : List vA} {u : Option (XV Int32)}, vExt s s3 ρ ρ3 σ σ3 → vLe ty0 ty3 → vFrm W ty0 H0 H1 → vRel KT ρ3 σ3 ty3 H1 s3 → H1.length ≤ H.length + mMc q2 → vFrP L r cn sn ρ σ ρ3 σ3 → R3.map (cv ρ3 σ3) = x_push u (r.map (cv ρ σ)) → vChkO KT tb tyl ov CT hs kn W f 0 (dp2 + 1) k (pc + 3) L R3 s3 (lAdd cn (lK (mMc q2 : Int))) (lAdd sn (lK (mMs q2 : Int))) cu ret = true → ∃ o, xRC tb tyl ot (dq + 1) k (fun pc => (cu pc).isSome) false (pc + 3) Lc (x_push u (r.map (cv ρ σ))) H1 (cn2 + mMc q2) (sn2 + mMs q2) o ∧ Post o := by
      intro ρ3 σ3 ty3 H1 s3 R3 u e1 e2 e3 e4 e5 e6 e7 e8
      have hat3 : vAt KT W ty0 H0 B L s3 (lAdd cn (lK (mMc q2 : Int))) (lAdd sn (lK (mMs q2 : Int))) ρ3 σ3 ty3 H1 Lc (cn2 + mMc q2) (sn2 + mMs q2) := by
        refine ⟨by have := hat.1.1; omega, e2, e3, e4, e6.1 _ hat.2.2.2.2.1, ?_, ?_⟩
        · rw [lAdd_ev, lK_ev, e6.2.2.1]
          have := hat.2.2.2.2.2.1
          omega
        · rw [lAdd_ev, lK_ev, e6.2.2.2]
          have := hat.2.2.2.2.2.2
          omega
      obtain ⟨oo, h1, h2⟩ := ih hat3 e8 (vRetOk_ext e1 hret) (vCutR_ext e1 hcut)
      rw [e7] at h1
      exact ⟨oo, h1, h2⟩
    have hcall : ∃ u H1 o, x_To tb tyl ot dq y.1 0 (x_en 0 (.inr (some (sR σ a)) :: ((S.map (cv ρ σ)).take (mNp q2)).reverse)) [] H 0 0 u H1 ∧ xRC tb tyl ot (dq + 1) k (fun pc => (cu pc).isSome) false (pc + 3) Lc (x_push u (r.map (cv ρ σ))) H1 (cn2 + mMc q2) (sn2 + mMs q2) o ∧ Post o := by
      by_cases hC : (CT y.1).isEmpty = true
      · rw [if_pos hC] at hkB
        have hkB2 := Bool.and_eq_true_iff.mp hkB
        have hat2 : vAt KT W ty0 H0 H.length (x_en 0 (.inr (some a) :: (S.take (mNp q2)).reverse)) s (lK 0) (lK 0) ρ σ ty H (x_en 0 (((.inr (some a) :: (S.take (mNp q2)).reverse) : List vA).map (cv ρ σ))) 0 0 := ⟨⟨Nat.le_refl _, hat.1.2⟩, hat.2.1, hat.2.2.1, hat.2.2.2.1, vCov_en _ 0, Int.le_refl _, Int.le_refl _⟩
        obtain ⟨u, H1, h1, oo, h2, h3⟩ := vChkO_spec hov hCT hr0 f 0 hm hdq (show H.length + mMc q2 ≤ 1000000 by have := hat.1.1; omega) hat2 hkB2.2 (Post := fun u H1 => ∃ o, xRC tb tyl ot (dq + 1) k (fun pc => (cu pc).isSome) false (pc + 3) Lc (x_push u (r.map (cv ρ σ))) H1 (cn2 + mMc q2) (sn2 + mMs q2) o ∧ Post o) (fun ρ3 σ3 ty3 H1 s3 av e1 e2 e3 e4 e5 e6 => hgo e1 e2 e3 e4 e5 (vFr_spec e1 hkB2.1) (by
            rcases av with _ | av
            · exact (vFr_spec e1 hkB2.1).2.1
            · show cv ρ3 σ3 av :: List.map (cv ρ3 σ3) r = cv ρ3 σ3 av :: _
              rw [(vFr_spec e1 hkB2.1).2.1]) e6) (fun pc3 c3 hc3 => by cases hc3)
        rw [hargs] at h1
        exact ⟨u, H1, oo, h1, h2, h3⟩
      · rw [if_neg hC] at hkB
        have hkB2 := Bool.and_eq_true_iff.mp hkB
        obtain ⟨u, H1, ρ3, σ3, ty3, s3, S3, h1, e1, e4, e7, e2, e3, e5, e6⟩ := vCal_spec hm hdq hat.2.2.2.1 (show H.length + mMc q2 ≤ 1000000 by have := hat.1.1; omega) hat.2.1 hat.2.2.1 (fun c hc => hCT y.1 c hc) hkB2.2
        rw [hargs] at h1
        have e8 := vFr_spec e1 hkB2.1
        rcases S3 with _ | ⟨av, _ | ⟨bv, S3⟩⟩
        · rcases u with _ | u
          · obtain ⟨oo, h2, h3⟩ := hgo (u := none) e1 e2 e3 e4 e5 e8 e8.2.1 e6
            exact ⟨none, H1, oo, h1, h2, h3⟩
          · cases e7
        · rcases u with _ | u
          · cases e7
          · obtain ⟨oo, h2, h3⟩ := hgo (u := some u) (R3 := av :: r) e1 e2 e3 e4 e5 e8 (by
              have e9 : cv ρ3 σ3 av = u := (List.cons.inj e7).1
              rw [List.map_cons, e9, e8.2.1]
              rfl) e6
            exact ⟨some u, H1, oo, h1, h2, h3⟩
        · cases e6
    obtain ⟨u, H1, oo, h1, h2, h3⟩ := hcall
    refine ⟨oo, xR_invokevirtual hgu hq hc (a := sR σ a) (u := u) (H1 := H1) (r := r.map (cv ρ σ)) (j := y.1) (so := y.2) hy hm (by rw [← List.map_drop, hd]; rfl) ?_ h1 h2, h3⟩
    rw [List.length_map, List.length_map, k1, k2, k4, k5, decide_eq_true c1, decide_eq_true c2, decide_eq_true (vCls_spec hov hat.2.2.2.1 hat.1.2 k3)]
    rfl
  case invokespecial ix =>
    try dsimp only at hk
    by_cases hb : tBi tb (mO q) ix = some 0
    · rw [if_pos hb] at hk
      rcases S with _ | ⟨a | (_ | a), r⟩ <;> first | (cases hk; done) | skip
      have hk2 := Bool.and_eq_true_iff.mp hk
      obtain ⟨oo, h1, h2⟩ := ih hat hk2.2 hret hcut
      exact ⟨oo, xR_objectInit hgu hq hc (a := sR σ a) hb (by rw [List.length_map]; exact hk2.1) h1, h2⟩
    · rw [if_neg hb] at hk
      by_cases hn : tBi tb (mO q) ix = none
      rotate_left
      · rw [if_neg hn] at hk
        cases hk
      rw [if_pos hn] at hk
      try dsimp only at hk
      rcases hy : tCal tb (mO q) ix with _ | y
      · rw [hy] at hk
        cases hk
      rw [hy] at hk
      try dsimp only at hk
      rcases dp with _ | dp2
      · cases hk
      try dsimp only at hk
      rcases hm : tMth tb y.1 with _ | q2
      · rw [hm] at hk
        cases hk
      rw [hm] at hk
      try dsimp only at hk
      rcases hd : S.drop (mNp q2) with _ | ⟨z | (_ | a), r⟩
      · rw [hd] at hk
        cases hk
      · rw [hd] at hk
        cases hk
      · rw [hd] at hk
        cases hk
      rw [hd] at hk
      obtain ⟨hk3, hkB⟩ := Bool.and_eq_true_iff.mp hk
      simp only [Bool.and_eq_true] at hk3
      obtain ⟨⟨⟨⟨⟨k1, k2⟩, k3⟩, k4⟩, k5⟩, kc1, kc2⟩ := hk3
      obtain ⟨dq, rfl⟩ : ∃ dq, dp2' = dq + 1 := ⟨dp2' - 1, by omega⟩
      have hdq : dp2 ≤ dq := by omega
      have c1 := cOk_spec (n := cn2 + mMc q2) hat.2.2.2.1 (by rw [lAdd_ev, lK_ev]; have := hat.2.2.2.2.2.1; omega) kc1
      have c2 := cOk_spec (n := sn2 + mMs q2) hat.2.2.2.1 (by rw [lAdd_ev, lK_ev]; have := hat.2.2.2.2.2.2; omega) kc2
      have hargs : ((.inr (some a) :: (S.take (mNp q2)).reverse) : List vA).map (cv ρ σ) = (.inr (some (sR σ a)) :: ((S.map (cv ρ σ)).take (mNp q2)).reverse) := by
        rw [List.map_cons, List.map_reverse, List.map_take]
        rfl
      have hgo : ∀ {ρ3 : Nat → Int} {σ3 : Nat → Nat} {ty3 : Nat → Option Nat} {H1 : List (XC Int32)} {s3 : vSt} {R3 : List vA} {u : Option (XV Int32)}, vExt s s3 ρ ρ3 σ σ3 → vLe ty0 ty3 → vFrm W ty0 H0 H1 → vRel KT ρ3 σ3 ty3 H1 s3 → H1.length ≤ H.length + mMc q2 → vFrP L r cn sn ρ σ ρ3 σ3 → R3.map (cv ρ3 σ3) = x_push u (r.map (cv ρ σ)) → vChkO KT tb tyl ov CT hs kn W f 0 (dp2 + 1) k (pc + 3) L R3 s3 (lAdd cn (lK (mMc q2 : Int))) (lAdd sn (lK (mMs q2 : Int))) cu ret = true → ∃ o, xRC tb tyl ot (dq + 1) k (fun pc => (cu pc).isSome) false (pc + 3) Lc (x_push u (r.map (cv ρ σ))) H1 (cn2 + mMc q2) (sn2 + mMs q2) o ∧ Post o := by
        intro ρ3 σ3 ty3 H1 s3 R3 u e1 e2 e3 e4 e5 e6 e7 e8
        have hat3 : vAt KT W ty0 H0 B L s3 (lAdd cn (lK (mMc q2 : Int))) (lAdd sn (lK (mMs q2 : Int))) ρ3 σ3 ty3 H1 Lc (cn2 + mMc q2) (sn2 + mMs q2) := by
          refine ⟨by have := hat.1.1; omega, e2, e3, e4, e6.1 _ hat.2.2.2.2.1, ?_, ?_⟩
          · rw [lAdd_ev, lK_ev, e6.2.2.1]
            have := hat.2.2.2.2.2.1
            omega
          · rw [lAdd_ev, lK_ev, e6.2.2.2]
            have := hat.2.2.2.2.2.2
            omega
        obtain ⟨oo, h1, h2⟩ := ih hat3 e8 (vRetOk_ext e1 hret) (vCutR_ext e1 hcut)
        rw [e7] at h1
        exact ⟨oo, h1, h2⟩
      have hcall : ∃ u H1 o, x_To tb tyl ot dq y.1 0 (x_en 0 (.inr (some (sR σ a)) :: ((S.map (cv ρ σ)).take (mNp q2)).reverse)) [] H 0 0 u H1 ∧ xRC tb tyl ot (dq + 1) k (fun pc => (cu pc).isSome) false (pc + 3) Lc (x_push u (r.map (cv ρ σ))) H1 (cn2 + mMc q2) (sn2 + mMs q2) o ∧ Post o := by
        by_cases hC : (CT y.1).isEmpty = true
        · rw [if_pos hC] at hkB
          have hkB2 := Bool.and_eq_true_iff.mp hkB
          have hat2 : vAt KT W ty0 H0 H.length (x_en 0 (.inr (some a) :: (S.take (mNp q2)).reverse)) s (lK 0) (lK 0) ρ σ ty H (x_en 0 (((.inr (some a) :: (S.take (mNp q2)).reverse) : List vA).map (cv ρ σ))) 0 0 := ⟨⟨Nat.le_refl _, hat.1.2⟩, hat.2.1, hat.2.2.1, hat.2.2.2.1, vCov_en _ 0, Int.le_refl _, Int.le_refl _⟩
          obtain ⟨u, H1, h1, oo, h2, h3⟩ := vChkO_spec hov hCT hr0 f 0 hm hdq (show H.length + mMc q2 ≤ 1000000 by have := hat.1.1; omega) hat2 hkB2.2 (Post := fun u H1 => ∃ o, xRC tb tyl ot (dq + 1) k (fun pc => (cu pc).isSome) false (pc + 3) Lc (x_push u (r.map (cv ρ σ))) H1 (cn2 + mMc q2) (sn2 + mMs q2) o ∧ Post o) (fun ρ3 σ3 ty3 H1 s3 av e1 e2 e3 e4 e5 e6 => hgo e1 e2 e3 e4 e5 (vFr_spec e1 hkB2.1) (by
              rcases av with _ | av
              · exact (vFr_spec e1 hkB2.1).2.1
              · show cv ρ3 σ3 av :: List.map (cv ρ3 σ3) r = cv ρ3 σ3 av :: _
                rw [(vFr_spec e1 hkB2.1).2.1]) e6) (fun pc3 c3 hc3 => by cases hc3)
          rw [hargs] at h1
          exact ⟨u, H1, oo, h1, h2, h3⟩
        · rw [if_neg hC] at hkB
          have hkB2 := Bool.and_eq_true_iff.mp hkB
          obtain ⟨u, H1, ρ3, σ3, ty3, s3, S3, h1, e1, e4, e7, e2, e3, e5, e6⟩ := vCal_spec hm hdq hat.2.2.2.1 (show H.length + mMc q2 ≤ 1000000 by have := hat.1.1; omega) hat.2.1 hat.2.2.1 (fun c hc => hCT y.1 c hc) hkB2.2
          rw [hargs] at h1
          have e8 := vFr_spec e1 hkB2.1
          rcases S3 with _ | ⟨av, _ | ⟨bv, S3⟩⟩
          · rcases u with _ | u
            · obtain ⟨oo, h2, h3⟩ := hgo (u := none) e1 e2 e3 e4 e5 e8 e8.2.1 e6
              exact ⟨none, H1, oo, h1, h2, h3⟩
            · cases e7
          · rcases u with _ | u
            · cases e7
            · obtain ⟨oo, h2, h3⟩ := hgo (u := some u) (R3 := av :: r) e1 e2 e3 e4 e5 e8 (by
                have e9 : cv ρ3 σ3 av = u := (List.cons.inj e7).1
                rw [List.map_cons, e9, e8.2.1]
                rfl) e6
              exact ⟨some u, H1, oo, h1, h2, h3⟩
          · cases e6
      obtain ⟨u, H1, oo, h1, h2, h3⟩ := hcall
      refine ⟨oo, xR_invokespecial hgu hq hc (a := sR σ a) (u := u) (H1 := H1) (r := r.map (cv ρ σ)) (j := y.1) (so := y.2) hn hy hm (by rw [← List.map_drop, hd]; rfl) ?_ h1 h2, h3⟩
      rw [List.length_map, List.length_map, k1, k2, k4, k5, decide_eq_true c1, decide_eq_true c2]
      rfl
  case invokestatic ix =>
    try dsimp only at hk
    rcases hy : tCal tb (mO q) ix with _ | y
    · rw [hy] at hk
      try dsimp only at hk
      by_cases hb : tBi tb (mO q) ix = some 1
      · rw [if_pos hb] at hk
        rcases S with _ | ⟨n | n, _ | ⟨d | d, _ | ⟨bd | (_ | bd), _ | ⟨e | e, _ | ⟨bs | (_ | bs), r⟩⟩⟩⟩⟩ <;> first | (cases hk; done) | skip
        have hk2 := Bool.and_eq_true_iff.mp hk
        have hk3 := Bool.and_eq_true_iff.mp hk2.1
        obtain ⟨us, vs, c, y1, y2, y4, y5, y6, y7⟩ := vCpQ_spec hat.2.2.2.1 hk3.2
        have y5 := vCpz_rel (bs := bs) (n := n) (d := d) (e := e) hat.2.2.2.1 y1 y2 (of_decide_eq_true (by have := y4 true rfl; simp only [Bool.and_eq_true] at this; exact this.1.1.1.2)) (of_decide_eq_true (by have := y4 true rfl; simp only [Bool.and_eq_true] at this; exact this.1.1.2)) y5
        have g0 : vExt s (vCpz bd bs n d e s) ρ ρ σ σ := vExt_eq ρ σ (vCpz_n bd bs n d e s).1 (congrArg List.length (vCpz_n bd bs n d e s).2.1)
        obtain ⟨oo, h1, h2⟩ := ih (vAt_set hat y5 y6 y2 ⟨rfl, fun z => by rw [y7] at z; cases z⟩) hk2.2 (vRetOk_ext g0 hret) (vCutR_ext g0 hcut)
        refine ⟨oo, xR_arraycopy hgu hq hc (n1 := Int32.ofInt (lEv ρ n)) (d1 := Int32.ofInt (lEv ρ d)) (s1 := Int32.ofInt (lEv ρ e)) (bd := sR σ bd) (bs := sR σ bs) hy hb y1 y2 ?_ h1, h2⟩
        rw [List.length_map]
        exact y4 _ hk3.1
      rw [if_neg hb] at hk
      clear hb
      by_cases hb : tBi tb (mO q) ix = some 2
      · rw [if_pos hb] at hk
        rcases S with _ | ⟨b | b, _ | ⟨a | a, r⟩⟩ <;> first | (cases hk; done) | skip
        have hk2 := Bool.and_eq_true_iff.mp hk
        have hk3 := Bool.and_eq_true_iff.mp hk2.1
        have hk4 := Bool.and_eq_true_iff.mp hk3.2
        have c1 := cOk_spec hat.2.2.2.1 hat.2.2.2.2.2.1 hk4.1
        have c2 := cOk_spec hat.2.2.2.1 hat.2.2.2.2.2.2 hk4.2
        obtain ⟨s2, g0, g1, g2⟩ := vBr_spec hat.2.2.2.1 hk2.2
        have x1 := vSame0_ext g1 ρ σ
        have hcnd : (decide ((r.map (cv ρ σ)).length ≤ 8) && decide (cn2 ≤ mMc q) && decide (sn2 ≤ mMs q)) = true := by
          rw [List.length_map, hk3.1, decide_eq_true c1, decide_eq_true c2]
          rfl
        rcases g2 with ⟨e, g2⟩ | ⟨e, g2⟩
        · obtain ⟨oo, h1, h2⟩ := ih (vAt_same hat g0) g2 (vRetOk_ext x1 hret) (vCutR_ext x1 hcut)
          exact ⟨oo, xR_maxY hgu hq hc (a := Int32.ofInt (lEv ρ a)) (b := Int32.ofInt (lEv ρ b)) hy hb hcnd e h1, h2⟩
        · obtain ⟨oo, h1, h2⟩ := ih (vAt_same hat g0) g2 (vRetOk_ext x1 hret) (vCutR_ext x1 hcut)
          exact ⟨oo, xR_maxN hgu hq hc (a := Int32.ofInt (lEv ρ a)) (b := Int32.ofInt (lEv ρ b)) hy hb hcnd e h1, h2⟩
      rw [if_neg hb] at hk
      clear hb
      by_cases hb : tBi tb (mO q) ix = some 3
      · rw [if_pos hb] at hk
        rcases S with _ | ⟨b | b, _ | ⟨a | a, r⟩⟩ <;> first | (cases hk; done) | skip
        have hk2 := Bool.and_eq_true_iff.mp hk
        have hk3 := Bool.and_eq_true_iff.mp hk2.1
        have hk4 := Bool.and_eq_true_iff.mp hk3.2
        have c1 := cOk_spec hat.2.2.2.1 hat.2.2.2.2.2.1 hk4.1
        have c2 := cOk_spec hat.2.2.2.1 hat.2.2.2.2.2.2 hk4.2
        obtain ⟨s2, g0, g1, g2⟩ := vBr_spec hat.2.2.2.1 hk2.2
        have x1 := vSame0_ext g1 ρ σ
        have hcnd : (decide ((r.map (cv ρ σ)).length ≤ 8) && decide (cn2 ≤ mMc q) && decide (sn2 ≤ mMs q)) = true := by
          rw [List.length_map, hk3.1, decide_eq_true c1, decide_eq_true c2]
          rfl
        rcases g2 with ⟨e, g2⟩ | ⟨e, g2⟩
        · obtain ⟨oo, h1, h2⟩ := ih (vAt_same hat g0) g2 (vRetOk_ext x1 hret) (vCutR_ext x1 hcut)
          exact ⟨oo, xR_minY hgu hq hc (a := Int32.ofInt (lEv ρ a)) (b := Int32.ofInt (lEv ρ b)) hy hb hcnd e h1, h2⟩
        · obtain ⟨oo, h1, h2⟩ := ih (vAt_same hat g0) g2 (vRetOk_ext x1 hret) (vCutR_ext x1 hcut)
          exact ⟨oo, xR_minN hgu hq hc (a := Int32.ofInt (lEv ρ a)) (b := Int32.ofInt (lEv ρ b)) hy hb hcnd e h1, h2⟩
      rw [if_neg hb] at hk
      clear hb
      by_cases hb : tBi tb (mO q) ix = some 4
      · rw [if_pos hb] at hk
        rcases S with _ | ⟨a | a, r⟩ <;> first | (cases hk; done) | skip
        have hk2 := Bool.and_eq_true_iff.mp hk
        have hk3 := Bool.and_eq_true_iff.mp hk2.1
        have hk4 := Bool.and_eq_true_iff.mp hk3.2
        have c1 := cOk_spec hat.2.2.2.1 hat.2.2.2.2.2.1 hk4.1
        have c2 := cOk_spec hat.2.2.2.1 hat.2.2.2.2.2.2 hk4.2
        obtain ⟨s2, g0, g1, g2⟩ := vBr_spec hat.2.2.2.1 hk2.2
        rw [lK_ev] at g2
        have x1 := vSame0_ext g1 ρ σ
        have hcnd : (decide ((r.map (cv ρ σ)).length ≤ 8) && decide (cn2 ≤ mMc q) && decide (sn2 ≤ mMs q)) = true := by
          rw [List.length_map, hk3.1, decide_eq_true c1, decide_eq_true c2]
          rfl
        rcases g2 with ⟨e, g2⟩ | ⟨e, g2⟩
        · obtain ⟨oo, h1, h2⟩ := ih (vAt_same hat g0) g2 (vRetOk_ext x1 hret) (vCutR_ext x1 hcut)
          exact ⟨oo, xR_absY hgu hq hc (a := Int32.ofInt (lEv ρ a)) hy hb hcnd e h1, h2⟩
        · obtain ⟨oo, h1, h2⟩ := ih (vAt_same hat g0) g2 (vRetOk_ext x1 hret) (vCutR_ext x1 hcut)
          refine ⟨oo, xR_absN hgu hq hc (a := Int32.ofInt (lEv ρ a)) hy hb hcnd e ?_, h2⟩
          rw [List.map_cons, show cv ρ σ (.inl (lSub (lK 0) a)) = .inl (x_bin 1 0 (Int32.ofInt (lEv ρ a))) from congrArg Sum.inl (by rw [lSub_ev, lK_ev, Int32.ofInt_sub]; rfl)] at h1
          exact h1
      rw [if_neg hb] at hk
      cases hk
    rw [hy] at hk
    try dsimp only at hk
    rcases dp with _ | dp2
    · cases hk
    try dsimp only at hk
    rcases hm : tMth tb y.1 with _ | q2
    · rw [hm] at hk
      cases hk
    rw [hm] at hk
    obtain ⟨hk3, hkB⟩ := Bool.and_eq_true_iff.mp hk
    simp only [Bool.and_eq_true] at hk3
    obtain ⟨⟨⟨⟨k1, k2⟩, k4⟩, k5⟩, kc1, kc2⟩ := hk3
    obtain ⟨dq, rfl⟩ : ∃ dq, dp2' = dq + 1 := ⟨dp2' - 1, by omega⟩
    have hdq : dp2 ≤ dq := by omega
    have c1 := cOk_spec (n := cn2 + mMc q2) hat.2.2.2.1 (by rw [lAdd_ev, lK_ev]; have := hat.2.2.2.2.2.1; omega) kc1
    have c2 := cOk_spec (n := sn2 + mMs q2) hat.2.2.2.1 (by rw [lAdd_ev, lK_ev]; have := hat.2.2.2.2.2.2; omega) kc2
    have hargs : ((S.take (mNp q2)).reverse : List vA).map (cv ρ σ) = ((S.map (cv ρ σ)).take (mNp q2)).reverse := by
      rw [List.map_reverse, List.map_take]
    have hgo : ∀ {ρ3 : Nat → Int} {σ3 : Nat → Nat} {ty3 : Nat → Option Nat} {H1 : List (XC Int32)} {s3 : vSt} {R3 : List vA} {u : Option (XV Int32)}, vExt s s3 ρ ρ3 σ σ3 → vLe ty0 ty3 → vFrm W ty0 H0 H1 → vRel KT ρ3 σ3 ty3 H1 s3 → H1.length ≤ H.length + mMc q2 → vFrP L (S.drop (mNp q2)) cn sn ρ σ ρ3 σ3 → R3.map (cv ρ3 σ3) = x_push u ((S.drop (mNp q2)).map (cv ρ σ)) → vChkO KT tb tyl ov CT hs kn W f 0 (dp2 + 1) k (pc + 3) L R3 s3 (lAdd cn (lK (mMc q2 : Int))) (lAdd sn (lK (mMs q2 : Int))) cu ret = true → ∃ o, xRC tb tyl ot (dq + 1) k (fun pc => (cu pc).isSome) false (pc + 3) Lc (x_push u ((S.drop (mNp q2)).map (cv ρ σ))) H1 (cn2 + mMc q2) (sn2 + mMs q2) o ∧ Post o := by
      intro ρ3 σ3 ty3 H1 s3 R3 u e1 e2 e3 e4 e5 e6 e7 e8
      have hat3 : vAt KT W ty0 H0 B L s3 (lAdd cn (lK (mMc q2 : Int))) (lAdd sn (lK (mMs q2 : Int))) ρ3 σ3 ty3 H1 Lc (cn2 + mMc q2) (sn2 + mMs q2) := by
        refine ⟨by have := hat.1.1; omega, e2, e3, e4, e6.1 _ hat.2.2.2.2.1, ?_, ?_⟩
        · rw [lAdd_ev, lK_ev, e6.2.2.1]
          have := hat.2.2.2.2.2.1
          omega
        · rw [lAdd_ev, lK_ev, e6.2.2.2]
          have := hat.2.2.2.2.2.2
          omega
      obtain ⟨oo, h1, h2⟩ := ih hat3 e8 (vRetOk_ext e1 hret) (vCutR_ext e1 hcut)
      rw [e7] at h1
      exact ⟨oo, h1, h2⟩
    have hcall : ∃ u H1 o, x_To tb tyl ot dq y.1 0 (x_en 0 ((S.map (cv ρ σ)).take (mNp q2)).reverse) [] H 0 0 u H1 ∧ xRC tb tyl ot (dq + 1) k (fun pc => (cu pc).isSome) false (pc + 3) Lc (x_push u ((S.drop (mNp q2)).map (cv ρ σ))) H1 (cn2 + mMc q2) (sn2 + mMs q2) o ∧ Post o := by
      by_cases hC : (CT y.1).isEmpty = true
      · rw [if_pos hC] at hkB
        have hkB2 := Bool.and_eq_true_iff.mp hkB
        have hat2 : vAt KT W ty0 H0 H.length (x_en 0 (S.take (mNp q2)).reverse) s (lK 0) (lK 0) ρ σ ty H (x_en 0 (((S.take (mNp q2)).reverse : List vA).map (cv ρ σ))) 0 0 := ⟨⟨Nat.le_refl _, hat.1.2⟩, hat.2.1, hat.2.2.1, hat.2.2.2.1, vCov_en _ 0, Int.le_refl _, Int.le_refl _⟩
        obtain ⟨u, H1, h1, oo, h2, h3⟩ := vChkO_spec hov hCT hr0 f 0 hm hdq (show H.length + mMc q2 ≤ 1000000 by have := hat.1.1; omega) hat2 hkB2.2 (Post := fun u H1 => ∃ o, xRC tb tyl ot (dq + 1) k (fun pc => (cu pc).isSome) false (pc + 3) Lc (x_push u ((S.drop (mNp q2)).map (cv ρ σ))) H1 (cn2 + mMc q2) (sn2 + mMs q2) o ∧ Post o) (fun ρ3 σ3 ty3 H1 s3 av e1 e2 e3 e4 e5 e6 => hgo e1 e2 e3 e4 e5 (vFr_spec e1 hkB2.1) (by
            rcases av with _ | av
            · exact (vFr_spec e1 hkB2.1).2.1
            · show cv ρ3 σ3 av :: List.map (cv ρ3 σ3) (S.drop (mNp q2)) = cv ρ3 σ3 av :: _
              rw [(vFr_spec e1 hkB2.1).2.1]) e6) (fun pc3 c3 hc3 => by cases hc3)
        rw [hargs] at h1
        exact ⟨u, H1, oo, h1, h2, h3⟩
      · rw [if_neg hC] at hkB
        have hkB2 := Bool.and_eq_true_iff.mp hkB
        obtain ⟨u, H1, ρ3, σ3, ty3, s3, S3, h1, e1, e4, e7, e2, e3, e5, e6⟩ := vCal_spec hm hdq hat.2.2.2.1 (show H.length + mMc q2 ≤ 1000000 by have := hat.1.1; omega) hat.2.1 hat.2.2.1 (fun c hc => hCT y.1 c hc) hkB2.2
        rw [hargs] at h1
        have e8 := vFr_spec e1 hkB2.1
        rcases S3 with _ | ⟨av, _ | ⟨bv, S3⟩⟩
        · rcases u with _ | u
          · obtain ⟨oo, h2, h3⟩ := hgo (u := none) e1 e2 e3 e4 e5 e8 e8.2.1 e6
            exact ⟨none, H1, oo, h1, h2, h3⟩
          · cases e7
        · rcases u with _ | u
          · cases e7
          · obtain ⟨oo, h2, h3⟩ := hgo (u := some u) (R3 := av :: (S.drop (mNp q2))) e1 e2 e3 e4 e5 e8 (by
              have e9 : cv ρ3 σ3 av = u := (List.cons.inj e7).1
              rw [List.map_cons, e9, e8.2.1]
              rfl) e6
            exact ⟨some u, H1, oo, h1, h2, h3⟩
        · cases e6
    obtain ⟨u, H1, oo, h1, h2, h3⟩ := hcall
    refine ⟨oo, xR_invokestatic hgu hq hc (u := u) (H1 := H1) (r := []) (j := y.1) (so := y.2) hy hm ?_ h1 ?_, h3⟩
    · rw [← List.map_drop, List.length_map, List.length_map, k1, k2, k4, k5, decide_eq_true c1, decide_eq_true c2]
      rfl
    · rw [← List.map_drop]
      exact h2
  all_goals (cases hk; done)
end XRck
