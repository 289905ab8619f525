/-! The checker (under way: not all instructions yet), and that it is right. -/
section XChk
abbrev vCu : Type := Nat → Option (List (Nat × vA) → List vA → vSt → Nat → Nat → Bool)
def vChk (KT : Nat → Option vKd) (tb : XT) (tyl : List FieldType) : Nat → Bool → Nat → Nat → Nat → List (Nat × vA) → List vA → vSt → Nat → Nat → vCu → (vSt → Option vA → Bool) → Bool
  | 0, _, _, _, _, _, _, _, _, _, _, _ => false
  | f + 1, go, dp, k, pc, L, S, s, cn, sn, cu, ret =>
    match (if go = true then none else cu pc) with
    | some g => g L S s cn sn
    | none => match tMth tb k with
    | none => false
    | some q => match mC q pc with
    | none => false
    | some (i, _) => match i with
      | .iconst x => vChk KT tb tyl f false dp k (pc + 1) L (.inl (.int (Int32.ofInt x)) :: S) s cn sn cu ret
      | .bipush x => vChk KT tb tyl f false dp k (pc + 2) L (.inl (.int (Int8.ofInt x).toInt32) :: S) s cn sn cu ret
      | .sipush x => vChk KT tb tyl f false dp k (pc + 3) L (.inl (.int (Int16.ofInt x).toInt32) :: S) s cn sn cu ret
      | .aconst_null => vChk KT tb tyl f false dp k (pc + 1) L (.inr none :: S) s cn sn cu ret
      | .iload_n j => match x_lk L j with
        | some (.inl a) => vChk KT tb tyl f false dp k (pc + 1) L (.inl a :: S) s cn sn cu ret
        | _ => false
      | .iload j => match x_lk L j with
        | some (.inl a) => vChk KT tb tyl f false dp k (pc + 2) L (.inl a :: S) s cn sn cu ret
        | _ => false
      | .aload_n j => match x_lk L j with
        | some (.inr a) => vChk KT tb tyl f false dp k (pc + 1) L (.inr a :: S) s cn sn cu ret
        | _ => false
      | .aload j => match x_lk L j with
        | some (.inr a) => vChk KT tb tyl f false dp k (pc + 2) L (.inr a :: S) s cn sn cu ret
        | _ => false
      | .iadd => match S with
        | .inl b :: .inl a :: r => vChk KT tb tyl f false dp k (pc + 1) L (.inl (tBin 0 a b) :: r) s cn sn cu ret
        | _ => false
      | .isub => match S with
        | .inl b :: .inl a :: r => vChk KT tb tyl f false dp k (pc + 1) L (.inl (tBin 1 a b) :: r) s cn sn cu ret
        | _ => false
      | .imul => match S with
        | .inl b :: .inl a :: r => vChk KT tb tyl f false dp k (pc + 1) L (.inl (tBin 2 a b) :: r) s cn sn cu ret
        | _ => false
      | .iand => match S with
        | .inl b :: .inl a :: r => vChk KT tb tyl f false dp k (pc + 1) L (.inl (tBin 3 a b) :: r) s cn sn cu ret
        | _ => false
      | .ior => match S with
        | .inl b :: .inl a :: r => vChk KT tb tyl f false dp k (pc + 1) L (.inl (tBin 4 a b) :: r) s cn sn cu ret
        | _ => false
      | .ixor => match S with
        | .inl b :: .inl a :: r => vChk KT tb tyl f false dp k (pc + 1) L (.inl (tBin 5 a b) :: r) s cn sn cu ret
        | _ => false
      | .ishl => match S with
        | .inl b :: .inl a :: r => vChk KT tb tyl f false dp k (pc + 1) L (.inl (tBin 6 a b) :: r) s cn sn cu ret
        | _ => false
      | .ishr => match S with
        | .inl b :: .inl a :: r => vChk KT tb tyl f false dp k (pc + 1) L (.inl (tBin 7 a b) :: r) s cn sn cu ret
        | _ => false
      | .iushr => match S with
        | .inl b :: .inl a :: r => vChk KT tb tyl f false dp k (pc + 1) L (.inl (tBin 10 a b) :: r) s cn sn cu ret
        | _ => false
      | .goto x => match x_jp pc x with
        | some t => vChk KT tb tyl f false dp k t L S s cn sn cu ret
        | none => false
      | .if_icmp c x => match S, x_jp pc x with
        | .inl b :: .inl a :: r, some t => vBr (x_cn c) a b s (fun s2 => vChk KT tb tyl f false dp k t L r s2 cn sn cu ret) (fun s2 => vChk KT tb tyl f false dp k (pc + 3) L r s2 cn sn cu ret)
        | _, _ => false
      | _ => false
/-- returns come to what is asked -/
def vRetOk (KT : Nat → Option vKd) (ty : Nat → Option Nat) (n : Nat) (s : vSt) (ρ : Nat → Int32) (σ : Nat → Nat) (ret : vSt → Option vA → Bool) (Post : Option (XV Int32) → List (XC Int32) → Prop) : Prop :=
  ∀ ρ2 σ2 ty2 H2 s2 av, vExt s s2 ρ ρ2 σ σ2 → vLe ty ty2 → vRel KT ρ2 σ2 ty2 H2 s2 → n ≤ H2.length → ret s2 av = true → Post (av.map (cv ρ2 σ2)) H2
/-- cuts come to what is asked -/
def vCutOk (KT : Nat → Option vKd) (tb : XT) (tyl : List FieldType) (ot : XO Int32) (dp k : Nat) (ty : Nat → Option Nat) (n : Nat) (s : vSt) (ρ : Nat → Int32) (σ : Nat → Nat) (cu : vCu) (Post : Option (XV Int32) → List (XC Int32) → Prop) : Prop :=
  ∀ pc g, cu pc = some g → ∀ ρ2 σ2 ty2 H2 s2 L S cn sn, vExt s s2 ρ ρ2 σ σ2 → vLe ty ty2 → vRel KT ρ2 σ2 ty2 H2 s2 → n ≤ H2.length → H2.length ≤ 1000000 → g L S s2 cn sn = true → ∃ v H3, x_To tb tyl ot dp k pc (cvL ρ2 σ2 L) (S.map (cv ρ2 σ2)) H2 cn sn v H3 ∧ Post v H3
theorem vRetOk_ext {KT : Nat → Option vKd} {ty : Nat → Option Nat} {n : Nat} {s s2 : vSt} {ρ ρ2 : Nat → Int32} {σ σ2 : Nat → Nat} {ret : vSt → Option vA → Bool} {Post : Option (XV Int32) → List (XC Int32) → Prop} (g : vExt s s2 ρ ρ2 σ σ2) (h : vRetOk KT ty n s ρ σ ret Post) : vRetOk KT ty n s2 ρ2 σ2 ret Post :=
  fun ρ3 σ3 ty3 H3 s3 av e1 e2 e3 e4 e5 => h ρ3 σ3 ty3 H3 s3 av (vExt_tr g e1) e2 e3 e4 e5
theorem vCutOk_ext {KT : Nat → Option vKd} {tb : XT} {tyl : List FieldType} {ot : XO Int32} {dp k : Nat} {ty : Nat → Option Nat} {n : Nat} {s s2 : vSt} {ρ ρ2 : Nat → Int32} {σ σ2 : Nat → Nat} {cu : vCu} {Post : Option (XV Int32) → List (XC Int32) → Prop} (g : vExt s s2 ρ ρ2 σ σ2) (h : vCutOk KT tb tyl ot dp k ty n s ρ σ cu Post) : vCutOk KT tb tyl ot dp k ty n s2 ρ2 σ2 cu Post :=
  fun pc c hc ρ3 σ3 ty3 H3 s3 L S cn sn e1 e2 e3 e4 e5 e6 => h pc c hc ρ3 σ3 ty3 H3 s3 L S cn sn (vExt_tr g e1) e2 e3 e4 e5 e6
theorem vChk_spec {KT : Nat → Option vKd} {tb : XT} {tyl : List FieldType} {ot : XO Int32} : ∀ (f : Nat) (go : Bool) {dp k pc : Nat} {L : List (Nat × vA)} {S : List vA} {s : vSt} {cn sn : Nat} {cu : vCu} {ret : vSt → Option vA → Bool} {ρ : Nat → Int32} {σ : Nat → Nat} {ty : Nat → Option Nat} {H : List (XC Int32)} {Post : Option (XV Int32) → List (XC Int32) → Prop}
    (_ : H.length ≤ 1000000) (_ : vRel KT ρ σ ty H s) (_ : vChk KT tb tyl f go dp k pc L S s cn sn cu ret = true) (_ : vRetOk KT ty H.length s ρ σ ret Post) (_ : vCutOk KT tb tyl ot dp k ty H.length s ρ σ cu Post),
    ∃ v H2, x_To tb tyl ot dp k pc (cvL ρ σ L) (S.map (cv ρ σ)) H cn sn v H2 ∧ Post v H2 := by
  intro f
  induction f with
  | zero =>
    intro go dp k pc L S s cn sn cu ret ρ σ ty H Post hl h hk
    cases hk
  | succ f ih0 =>
  intro go dp k pc L S s cn sn cu ret ρ σ ty H Post hl h hk hret hcut
  have ih := fun {dp k pc : Nat} {L : List (Nat × vA)} {S : List vA} {s : vSt} {cn sn : Nat} {cu : vCu} {ret : vSt → Option vA → Bool} {ρ : Nat → Int32} {σ : Nat → Nat} {ty : Nat → Option Nat} {H : List (XC Int32)} {Post : Option (XV Int32) → List (XC Int32) → Prop} => @ih0 false dp k pc L S s cn sn cu ret ρ σ ty H Post
  rw [vChk.eq_def] at hk
  dsimp only at hk
  rcases hg : (if go = true then none else cu pc) with _ | g
  rotate_left
  · rw [hg] at hk
    have hcu : cu pc = some g := by
      cases go
      · exact hg
      · cases hg
    exact hcut pc g hcu ρ σ ty H s L S cn sn (vExt_rf s ρ σ) (fun _ _ z => z) h (Nat.le_refl _) hl hk
  rw [hg] at hk
  dsimp only at hk
  rcases hq : tMth tb k with _ | q
  · rw [hq] at hk
    cases hk
  rw [hq] at hk
  dsimp only at hk
  rcases hc : mC q pc with _ | ⟨i, n⟩
  · rw [hc] at hk
    cases hk
  rw [hc] at hk
  dsimp only at hk
  cases i
  case iconst x =>
    try dsimp only at hk
    obtain ⟨v, H2, h1, h2⟩ := ih hl h hk hret hcut
    exact ⟨v, H2, xT_iconst hq hc h1, h2⟩
  case bipush x =>
    try dsimp only at hk
    obtain ⟨v, H2, h1, h2⟩ := ih hl h hk hret hcut
    exact ⟨v, H2, xT_bipush hq hc h1, h2⟩
  case sipush x =>
    try dsimp only at hk
    obtain ⟨v, H2, h1, h2⟩ := ih hl h hk hret hcut
    exact ⟨v, H2, xT_sipush hq hc h1, h2⟩
  case aconst_null =>
    try dsimp only at hk
    obtain ⟨v, H2, h1, h2⟩ := ih hl h hk hret hcut
    exact ⟨v, H2, xT_aconst_null hq hc h1, h2⟩
  case iload_n j =>
    try dsimp only at hk
    rcases ha : x_lk L ↑j with _ | (a | a)
    · rw [ha] at hk
      cases hk
    · rw [ha] at hk
      obtain ⟨v, H2, h1, h2⟩ := ih hl h hk hret hcut
      exact ⟨v, H2, xT_iload_n hq hc (by rw [cv_lk, ha]; rfl) h1, h2⟩
    · rw [ha] at hk
      cases hk
  case iload j =>
    try dsimp only at hk
    rcases ha : x_lk L ↑j with _ | (a | a)
    · rw [ha] at hk
      cases hk
    · rw [ha] at hk
      obtain ⟨v, H2, h1, h2⟩ := ih hl h hk hret hcut
      exact ⟨v, H2, xT_iload hq hc (by rw [cv_lk, ha]; rfl) h1, h2⟩
    · rw [ha] at hk
      cases hk
  case aload_n j =>
    try dsimp only at hk
    rcases ha : x_lk L ↑j with _ | (a | a)
    · rw [ha] at hk
      cases hk
    · rw [ha] at hk
      cases hk
    · rw [ha] at hk
      obtain ⟨v, H2, h1, h2⟩ := ih hl h hk hret hcut
      rcases a with _ | a
      · exact ⟨v, H2, xT_aload_n hq hc (a := none) (by rw [cv_lk, ha]; rfl) h1, h2⟩
      · exact ⟨v, H2, xT_aload_n hq hc (a := some (σ a)) (by rw [cv_lk, ha]; rfl) h1, h2⟩
  case aload j =>
    try dsimp only at hk
    rcases ha : x_lk L ↑j with _ | (a | a)
    · rw [ha] at hk
      cases hk
    · rw [ha] at hk
      cases hk
    · rw [ha] at hk
      obtain ⟨v, H2, h1, h2⟩ := ih hl h hk hret hcut
      rcases a with _ | a
      · exact ⟨v, H2, xT_aload hq hc (a := none) (by rw [cv_lk, ha]; rfl) h1, h2⟩
      · exact ⟨v, H2, xT_aload hq hc (a := some (σ a)) (by rw [cv_lk, ha]; rfl) h1, h2⟩
  case iadd =>
    try dsimp only at hk
    rcases S with _ | ⟨b | b, _ | ⟨a | a, r⟩⟩ <;> first | (cases hk; done) | skip
    obtain ⟨v, H2, h1, h2⟩ := ih hl h hk hret hcut
    refine ⟨v, H2, xT_iadd hq hc (a := tEv ρ a) (b := tEv ρ b) ?_, h2⟩
    rw [List.map_cons, show cv ρ σ (.inl (tBin 0 a b)) = .inl (x_bin 0 (tEv ρ a) (tEv ρ b)) from congrArg Sum.inl (tBin_spec ρ 0 a b)] at h1
    exact h1
  case isub =>
    try dsimp only at hk
    rcases S with _ | ⟨b | b, _ | ⟨a | a, r⟩⟩ <;> first | (cases hk; done) | skip
    obtain ⟨v, H2, h1, h2⟩ := ih hl h hk hret hcut
    refine ⟨v, H2, xT_isub hq hc (a := tEv ρ a) (b := tEv ρ b) ?_, h2⟩
    rw [List.map_cons, show cv ρ σ (.inl (tBin 1 a b)) = .inl (x_bin 1 (tEv ρ a) (tEv ρ b)) from congrArg Sum.inl (tBin_spec ρ 1 a b)] at h1
    exact h1
  case imul =>
    try dsimp only at hk
    rcases S with _ | ⟨b | b, _ | ⟨a | a, r⟩⟩ <;> first | (cases hk; done) | skip
    obtain ⟨v, H2, h1, h2⟩ := ih hl h hk hret hcut
    refine ⟨v, H2, xT_imul hq hc (a := tEv ρ a) (b := tEv ρ b) ?_, h2⟩
    rw [List.map_cons, show cv ρ σ (.inl (tBin 2 a b)) = .inl (x_bin 2 (tEv ρ a) (tEv ρ b)) from congrArg Sum.inl (tBin_spec ρ 2 a b)] at h1
    exact h1
  case iand =>
    try dsimp only at hk
    rcases S with _ | ⟨b | b, _ | ⟨a | a, r⟩⟩ <;> first | (cases hk; done) | skip
    obtain ⟨v, H2, h1, h2⟩ := ih hl h hk hret hcut
    refine ⟨v, H2, xT_iand hq hc (a := tEv ρ a) (b := tEv ρ b) ?_, h2⟩
    rw [List.map_cons, show cv ρ σ (.inl (tBin 3 a b)) = .inl (x_bin 3 (tEv ρ a) (tEv ρ b)) from congrArg Sum.inl (tBin_spec ρ 3 a b)] at h1
    exact h1
  case ior =>
    try dsimp only at hk
    rcases S with _ | ⟨b | b, _ | ⟨a | a, r⟩⟩ <;> first | (cases hk; done) | skip
    obtain ⟨v, H2, h1, h2⟩ := ih hl h hk hret hcut
    refine ⟨v, H2, xT_ior hq hc (a := tEv ρ a) (b := tEv ρ b) ?_, h2⟩
    rw [List.map_cons, show cv ρ σ (.inl (tBin 4 a b)) = .inl (x_bin 4 (tEv ρ a) (tEv ρ b)) from congrArg Sum.inl (tBin_spec ρ 4 a b)] at h1
    exact h1
  case ixor =>
    try dsimp only at hk
    rcases S with _ | ⟨b | b, _ | ⟨a | a, r⟩⟩ <;> first | (cases hk; done) | skip
    obtain ⟨v, H2, h1, h2⟩ := ih hl h hk hret hcut
    refine ⟨v, H2, xT_ixor hq hc (a := tEv ρ a) (b := tEv ρ b) ?_, h2⟩
    rw [List.map_cons, show cv ρ σ (.inl (tBin 5 a b)) = .inl (x_bin 5 (tEv ρ a) (tEv ρ b)) from congrArg Sum.inl (tBin_spec ρ 5 a b)] at h1
    exact h1
  case ishl =>
    try dsimp only at hk
    rcases S with _ | ⟨b | b, _ | ⟨a | a, r⟩⟩ <;> first | (cases hk; done) | skip
    obtain ⟨v, H2, h1, h2⟩ := ih hl h hk hret hcut
    refine ⟨v, H2, xT_ishl hq hc (a := tEv ρ a) (b := tEv ρ b) ?_, h2⟩
    rw [List.map_cons, show cv ρ σ (.inl (tBin 6 a b)) = .inl (x_bin 6 (tEv ρ a) (tEv ρ b)) from congrArg Sum.inl (tBin_spec ρ 6 a b)] at h1
    exact h1
  case ishr =>
    try dsimp only at hk
    rcases S with _ | ⟨b | b, _ | ⟨a | a, r⟩⟩ <;> first | (cases hk; done) | skip
    obtain ⟨v, H2, h1, h2⟩ := ih hl h hk hret hcut
    refine ⟨v, H2, xT_ishr hq hc (a := tEv ρ a) (b := tEv ρ b) ?_, h2⟩
    rw [List.map_cons, show cv ρ σ (.inl (tBin 7 a b)) = .inl (x_bin 7 (tEv ρ a) (tEv ρ b)) from congrArg Sum.inl (tBin_spec ρ 7 a b)] at h1
    exact h1
  case iushr =>
    try dsimp only at hk
    rcases S with _ | ⟨b | b, _ | ⟨a | a, r⟩⟩ <;> first | (cases hk; done) | skip
    obtain ⟨v, H2, h1, h2⟩ := ih hl h hk hret hcut
    refine ⟨v, H2, xT_iushr hq hc (a := tEv ρ a) (b := tEv ρ b) ?_, h2⟩
    rw [List.map_cons, show cv ρ σ (.inl (tBin 10 a b)) = .inl (x_bin 10 (tEv ρ a) (tEv ρ b)) from congrArg Sum.inl (tBin_spec ρ 10 a b)] at h1
    exact h1
  case goto x =>
    try dsimp only at hk
    rcases ht : x_jp pc x with _ | t
    · rw [ht] at hk
      cases hk
    · rw [ht] at hk
      obtain ⟨v, H2, h1, h2⟩ := ih hl h hk hret hcut
      exact ⟨v, H2, xT_goto hq hc ht h1, h2⟩
  case if_icmp c x =>
    try dsimp only at hk
    rcases ht : x_jp pc x with _ | t
    · rw [ht] at hk
      rcases S with _ | ⟨b | b, _ | ⟨a | a, r⟩⟩ <;> (cases hk; done)
    rw [ht] at hk
    rcases S with _ | ⟨b | b, _ | ⟨a | a, r⟩⟩ <;> first | (cases hk; done) | skip
    obtain ⟨s2, g0, g1, g2⟩ := vBr_spec h hk
    have hret2 : vRetOk KT ty H.length s2 ρ σ ret Post := vRetOk_ext g1 hret
    have hcut2 : vCutOk KT tb tyl ot dp k ty H.length s2 ρ σ cu Post := vCutOk_ext g1 hcut
    rcases g2 with ⟨e, g2⟩ | ⟨e, g2⟩
    · obtain ⟨v, H2, h1, h2⟩ := ih hl g0 g2 hret2 hcut2
      exact ⟨v, H2, xT_if_icmpY hq hc (a := tEv ρ a) (b := tEv ρ b) ht e h1, h2⟩
    · obtain ⟨v, H2, h1, h2⟩ := ih hl g0 g2 hret2 hcut2
      exact ⟨v, H2, xT_if_icmpN hq hc (a := tEv ρ a) (b := tEv ρ b) ht e h1, h2⟩
  all_goals (cases hk; done)
end XChk
