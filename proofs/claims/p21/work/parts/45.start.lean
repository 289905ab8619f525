/-! Constructors, run straight at known ints. -/
noncomputable section XStart
theorem xT_anewarray {tb : XT} {tyl : List FieldType} {ot : XO Int32} {dp k pc n cn sn : Nat} {q : XM} {L : List (Nat × XV Int32)} {S : List (XV Int32)} {H H2 : List (XC Int32)} {v : Option (XV Int32)} {ix t : Nat} {e : Int32} (hq : tMth tb k = some q) (hi : mC q pc = some (.anewarray ix, n)) (h1 : tAn tb (mO q) ix = some t) (h2 : (decide (¬ e < 0) && decide (e.toNatClampNeg ≤ 100000) && decide (cn + 1 ≤ mMc q) && decide (sn + e.toNatClampNeg ≤ mMs q) && decide (H.length + 1 ≤ 1000000)) = true) (h : x_To tb tyl ot dp k (pc + 3) L (.inr (some H.length) :: S) (H ++ [.inr (t, List.replicate e.toNatClampNeg (.inr none))]) (cn + 1) (sn + e.toNatClampNeg) v H2) : x_To tb tyl ot dp k pc L (.inl e :: S) H cn sn v H2 := x_toG (fun D H0 ht => ⟨zTr_app ht _, fun f w post => by
  rw [zMx_app H0 _ ht]
  simp only [x_run, zMx_len, hq, hi, h1, dC_kst, h2, if_true]⟩) h
/-- what a constructor comes to -/
def cGo (tb : XT) (tyl : List FieldType) : Nat → Nat → Nat → Nat → List (Nat × XV Int32) → List (XV Int32) → List (XC Int32) → Nat → Nat → Option (List (XC Int32))
  | 0, _, _, _, _, _, _, _, _ => none
  | f + 1, dp, k, pc, L, S, H, cn, sn =>
    match tMth tb k with
    | none => none
    | some q =>
      match mC q pc with
      | none => none
      | some (i, _) =>
        match i with
        | .aload_n j => match x_lk L j with
          | some (.inr a) => cGo tb tyl f dp k (pc + 1) L (.inr a :: S) H cn sn
          | _ => none
        | .iload_n j => match x_lk L j with
          | some (.inl a) => cGo tb tyl f dp k (pc + 1) L (.inl a :: S) H cn sn
          | _ => none
        | .iconst x => cGo tb tyl f dp k (pc + 1) L (.inl (Int32.ofInt x) :: S) H cn sn
        | .bipush x => cGo tb tyl f dp k (pc + 2) L (.inl (Int8.ofInt x).toInt32 :: S) H cn sn
        | .sipush x => cGo tb tyl f dp k (pc + 3) L (.inl (Int16.ofInt x).toInt32 :: S) H cn sn
        | .dup => match S with
          | a :: r => cGo tb tyl f dp k (pc + 1) L (a :: a :: r) H cn sn
          | _ => none
        | .imul => match S with
          | .inl b :: .inl a :: r => cGo tb tyl f dp k (pc + 1) L (.inl (a * b) :: r) H cn sn
          | _ => none
        | .goto x => match x_jp pc x with
          | some t => cGo tb tyl f dp k t L S H cn sn
          | none => none
        | .ifCond c x => match S, x_jp pc x with
          | .inl a :: r, some t => if x_cmp (x_cn c) a 0 = true then cGo tb tyl f dp k t L r H cn sn else cGo tb tyl f dp k (pc + 3) L r H cn sn
          | _, _ => none
        | .getfield ix => match S with
          | .inr (some a) :: r => if 1000000 < a then none else match tFld tb (mO q) ix with
            | some (ci, j) => match H[a]? with
              | some (.inl (c2, fs)) => if c2 = ci then (match fs[j]? with
                | some u => cGo tb tyl f dp k (pc + 3) L (u :: r) H cn sn
                | none => none) else none
              | _ => none
            | none => none
          | _ => none
        | .putfield ix => match S, tFld tb (mO q) ix with
          | u :: .inr (some a) :: r, some (ci, j) => match H[a]? with
            | some (.inl (c2, fs)) => match (tFt tb ci)[j]? with
              | some ty => if (decide (c2 = ci) && x_fit dC ty.1 u && decide (j < fs.length) && (!ty.2 || (mI q && decide (mRc q = ci)))) = true then cGo tb tyl f dp k (pc + 3) L r (H.set a (.inl (c2, fs.set j u))) cn sn else none
              | none => none
            | _ => none
          | _, _ => none
        | .iastore => match S with
          | .inl x :: .inl e :: .inr (some a) :: r => match H[a]? with
            | some (.inr (t, vs)) => if t = 0 ∧ (decide (e < 0) || decide (vs.length ≤ e.toNatClampNeg)) = false then cGo tb tyl f dp k (pc + 1) L r (H.set a (.inr (0, vs.set e.toNatClampNeg (.inl x)))) cn sn else none
            | _ => none
          | _ => none
        | .aastore => match S with
          | .inr (some u) :: .inl e :: .inr (some a) :: r => match H[a]?, H[u]? with
            | some (.inr (t, vs)), some (.inl (ci, _)) => match tyl[t]? with
              | some (.object C) => if decide (C = tNm tb ci) = true ∧ (decide (e < 0) || decide (vs.length ≤ e.toNatClampNeg)) = false then cGo tb tyl f dp k (pc + 1) L r (H.set a (.inr (t, vs.set e.toNatClampNeg (.inr (some u))))) cn sn else none
              | _ => none
            | _, _ => none
          | _ => none
        | .new ix => match tNw tb (mO q) ix with
          | some ci => if (decide (cn + 1 ≤ mMc q) && decide (sn + (tFt tb ci).length ≤ mMs q) && decide (H.length + 1 ≤ 1000000)) = true then cGo tb tyl f dp k (pc + 3) L (.inr (some H.length) :: S) (H ++ [.inl (ci, (tFt tb ci).map (fun t => x_def dC t.1))]) (cn + 1) (sn + (tFt tb ci).length) else none
          | none => none
        | .newarray ty => match ty, S with
          | .int, .inl e :: r => if (decide (¬ e < 0) && decide (e.toNatClampNeg ≤ 100000) && decide (cn + 1 ≤ mMc q) && decide (sn + e.toNatClampNeg ≤ mMs q) && decide (H.length + 1 ≤ 1000000)) = true then cGo tb tyl f dp k (pc + 2) L (.inr (some H.length) :: r) (H ++ [.inr (0, List.replicate e.toNatClampNeg (.inl 0))]) (cn + 1) (sn + e.toNatClampNeg) else none
          | .boolean, .inl e :: r => if (decide (¬ e < 0) && decide (e.toNatClampNeg ≤ 100000) && decide (cn + 1 ≤ mMc q) && decide (sn + e.toNatClampNeg ≤ mMs q) && decide (H.length + 1 ≤ 1000000)) = true then cGo tb tyl f dp k (pc + 2) L (.inr (some H.length) :: r) (H ++ [.inr (1, List.replicate e.toNatClampNeg (.inl 0))]) (cn + 1) (sn + e.toNatClampNeg) else none
          | _, _ => none
        | .anewarray ix => match S, tAn tb (mO q) ix with
          | .inl e :: r, some t => if (decide (¬ e < 0) && decide (e.toNatClampNeg ≤ 100000) && decide (cn + 1 ≤ mMc q) && decide (sn + e.toNatClampNeg ≤ mMs q) && decide (H.length + 1 ≤ 1000000)) = true then cGo tb tyl f dp k (pc + 3) L (.inr (some H.length) :: r) (H ++ [.inr (t, List.replicate e.toNatClampNeg (.inr none))]) (cn + 1) (sn + e.toNatClampNeg) else none
          | _, _ => none
        | .multianewarray ix dm => match S, tMn tb (mO q) ix with
          | .inl e2 :: .inl e1 :: r, some (t2, t1) => if (decide (dm = 2) && decide (¬ e1 < 0) && decide (¬ e2 < 0) && decide (e1.toNatClampNeg ≤ 100000) && decide (e2.toNatClampNeg ≤ 100000) && decide (t1 < 2) && decide (cn + (1 + e1.toNatClampNeg) ≤ mMc q) && decide (sn + (e1.toNatClampNeg + e1.toNatClampNeg * e2.toNatClampNeg) ≤ mMs q) && decide (H.length + 1 + e1.toNatClampNeg ≤ 1000000)) = true then
              cGo tb tyl f dp k (pc + 4) L (.inr (some H.length) :: r) (H ++ .inr (t2, x_refs (H.length + 1) e1.toNatClampNeg) :: x_rows t1 (List.replicate e2.toNatClampNeg (.inl 0)) e1.toNatClampNeg) (cn + 1 + e1.toNatClampNeg) (sn + e1.toNatClampNeg + e1.toNatClampNeg * e2.toNatClampNeg) else none
          | _, _ => none
        | .invokespecial ix => match tBi tb (mO q) ix with
          | some b => if b = 0 then (match S with
            | .inr (some _) :: r => if decide (r.length ≤ 8) = true then cGo tb tyl f dp k (pc + 3) L r H cn sn else none
            | _ => none) else none
          | none => match dp, tCal tb (mO q) ix with
            | dp2 + 1, some (j, so) => match tMth tb j with
              | some q2 => match S.drop (mNp q2) with
                | .inr (some a) :: r => if (decide (mNp q2 + 1 ≤ S.length) && decide (so = 1) && decide (r.length ≤ 8) && decide (mNp q2 + 1 ≤ mL q2) && decide (cn + mMc q2 ≤ mMc q) && decide (sn + mMs q2 ≤ mMs q)) = true then
                    (match cGo tb tyl f dp2 j 0 (x_en 0 (.inr (some a) :: (S.take (mNp q2)).reverse)) [] H 0 0 with
                    | some H1 => cGo tb tyl f (dp2 + 1) k (pc + 3) L r H1 (cn + mMc q2) (sn + mMs q2)
                    | none => none) else none
                | _ => none
              | none => none
            | _, _ => none
        | .return_ => match S with
          | [] => if (decide (mR q = none) && decide (cn ≤ mMc q) && decide (sn ≤ mMs q)) = true then some H else none
          | _ => none
        | _ => none
set_option maxHeartbeats 2000000 in
theorem cGo_spec {tb : XT} {tyl : List FieldType} {ot : XO Int32} : ∀ (f : Nat) {dp k pc : Nat} {L : List (Nat × XV Int32)} {S : List (XV Int32)} {H H2 : List (XC Int32)} {cn sn : Nat}, cGo tb tyl f dp k pc L S H cn sn = some H2 → x_To tb tyl ot dp k pc L S H cn sn none H2 := by
  intro f
  induction f with
  | zero =>
    intro dp k pc L S H H2 cn sn h
    cases h
  | succ f ih =>
  intro dp k pc L S H H2 cn sn h
  rw [cGo.eq_def] at h
  try dsimp only at h
  rcases hq : tMth tb k with _ | q
  · rw [hq] at h
    cases h
  rw [hq] at h
  try dsimp only at h
  rcases hc : mC q pc with _ | ⟨i, n⟩
  · rw [hc] at h
    cases h
  rw [hc] at h
  try dsimp only at h
  cases i
  case aload_n j =>
    try dsimp only at h
    rcases h1 : x_lk L ↑j with _ | (a | a)
    · rw [h1] at h
      cases h
    · rw [h1] at h
      cases h
    · rw [h1] at h
      exact xT_aload_n hq hc h1 (ih h)
  case iload_n j =>
    try dsimp only at h
    rcases h1 : x_lk L ↑j with _ | (a | a)
    · rw [h1] at h
      cases h
    · rw [h1] at h
      exact xT_iload_n hq hc h1 (ih h)
    · rw [h1] at h
      cases h
  case iconst x => exact xT_iconst hq hc (ih h)
  case bipush x => exact xT_bipush hq hc (ih h)
  case sipush x => exact xT_sipush hq hc (ih h)
  case dup =>
    rcases S with _ | ⟨a, r⟩
    · cases h
    · exact xT_dup hq hc (ih h)
  case imul =>
    rcases S with _ | ⟨b | b, _ | ⟨a | a, r⟩⟩ <;> first | (cases h; done) | skip
    exact xT_imul hq hc (ih h)
  case goto x =>
    try dsimp only at h
    rcases h1 : x_jp pc x with _ | t
    · rw [h1] at h
      cases h
    · rw [h1] at h
      exact xT_goto hq hc h1 (ih h)
  case ifCond c x =>
    try dsimp only at h
    rcases S with _ | ⟨a | a, r⟩ <;> first | (cases h; done) | skip
    rcases h1 : x_jp pc x with _ | t
    · rw [h1] at h
      cases h
    rw [h1] at h
    try dsimp only at h
    rcases h2 : x_cmp (x_cn c) a 0 with _ | _
    · rw [h2, if_neg (by decide)] at h
      exact xT_ifCondN hq hc h1 h2 (ih h)
    · rw [h2, if_pos rfl] at h
      exact xT_ifCondY hq hc h1 h2 (ih h)
  case getfield ix =>
    try dsimp only at h
    rcases S with _ | ⟨a | (_ | a), r⟩ <;> first | (cases h; done) | skip
    try dsimp only at h
    by_cases h0 : 1000000 < a
    · rw [if_pos h0] at h
      cases h
    rw [if_neg h0] at h
    rcases h1 : tFld tb (mO q) ix with _ | ⟨ci, j⟩
    · rw [h1] at h
      cases h
    rw [h1] at h
    try dsimp only at h
    rcases h2 : H[a]? with _ | (⟨c2, fs⟩ | z)
    · rw [h2] at h
      cases h
    · rw [h2] at h
      try dsimp only at h
      by_cases h3 : c2 = ci
      · rw [if_pos h3] at h
        rcases h4 : fs[j]? with _ | u
        · rw [h4] at h
          cases h
        · rw [h4] at h
          exact xT_getfield hq hc h0 h1 h2 h3 h4 (ih h)
      · rw [if_neg h3] at h
        cases h
    · rw [h2] at h
      cases h
  case putfield ix =>
    try dsimp only at h
    rcases S with _ | ⟨u, _ | ⟨a | (_ | a), r⟩⟩ <;> first | (cases h; done) | skip
    rcases h1 : tFld tb (mO q) ix with _ | ⟨ci, j⟩
    · rw [h1] at h
      cases h
    rw [h1] at h
    try dsimp only at h
    rcases h2 : H[a]? with _ | (⟨c2, fs⟩ | z)
    · rw [h2] at h
      cases h
    · rw [h2] at h
      try dsimp only at h
      rcases h3 : (tFt tb ci)[j]? with _ | ty
      · rw [h3] at h
        cases h
      rw [h3] at h
      try dsimp only at h
      split at h
      · rename_i h4
        exact xT_putfield hq hc h1 h2 h3 h4 (ih h)
      · cases h
    · rw [h2] at h
      cases h
  case iastore =>
    try dsimp only at h
    rcases S with _ | ⟨x | x, _ | ⟨e | e, _ | ⟨a | (_ | a), r⟩⟩⟩ <;> first | (cases h; done) | skip
    try dsimp only at h
    rcases h2 : H[a]? with _ | (z | ⟨t, vs⟩)
    · rw [h2] at h
      cases h
    · rw [h2] at h
      cases h
    · rw [h2] at h
      try dsimp only at h
      split at h
      · rename_i h4
        obtain ⟨rfl, h4⟩ := h4
        exact xT_iastore hq hc h2 h4 (ih h)
      · cases h
  case aastore =>
    try dsimp only at h
    rcases S with _ | ⟨u | (_ | u), _ | ⟨e | e, _ | ⟨a | (_ | a), r⟩⟩⟩ <;> first | (cases h; done) | skip
    try dsimp only at h
    rcases h2 : H[a]? with _ | (z | ⟨t, vs⟩)
    · rw [h2] at h
      cases h
    · rw [h2] at h
      cases h
    rw [h2] at h
    rcases h3 : H[u]? with _ | (⟨ci, gs⟩ | z)
    · rw [h3] at h
      cases h
    rotate_left
    · rw [h3] at h
      cases h
    rw [h3] at h
    try dsimp only at h
    rcases h4 : tyl[t]? with _ | ty
    · rw [h4] at h
      cases h
    rw [h4] at h
    cases ty <;> first | (cases h; done) | skip
    try dsimp only at h
    split at h
    · rename_i h5
      exact xT_aastore hq hc h2 h3 h4 h5.1 h5.2 (ih h)
    · cases h
  case new ix =>
    try dsimp only at h
    rcases h1 : tNw tb (mO q) ix with _ | ci
    · rw [h1] at h
      cases h
    rw [h1] at h
    try dsimp only at h
    split at h
    · rename_i h2
      exact xT_new hq hc h1 h2 (ih h)
    · cases h
  case newarray ty =>
    try dsimp only at h
    cases ty <;> first | (cases h; done) | skip
    all_goals
      rcases S with _ | ⟨e | e, r⟩ <;> first | (cases h; done) | skip
      try dsimp only at h
      split at h
      · rename_i h2
        first | exact xT_newarrayI hq hc h2 (ih h) | exact xT_newarrayZ hq hc h2 (ih h)
      · cases h
  case anewarray ix =>
    try dsimp only at h
    rcases S with _ | ⟨e | e, r⟩ <;> first | (cases h; done) | skip
    rcases h1 : tAn tb (mO q) ix with _ | t
    · rw [h1] at h
      cases h
    rw [h1] at h
    try dsimp only at h
    split at h
    · rename_i h2
      exact xT_anewarray hq hc h1 h2 (ih h)
    · cases h
  case multianewarray ix dm =>
    try dsimp only at h
    rcases S with _ | ⟨e2 | e2, _ | ⟨e1 | e1, r⟩⟩ <;> first | (cases h; done) | skip
    rcases h1 : tMn tb (mO q) ix with _ | ⟨t2, t1⟩
    · rw [h1] at h
      cases h
    rw [h1] at h
    try dsimp only at h
    split at h
    · rename_i h2
      exact xT_multianewarray hq hc h1 h2 (ih h)
    · cases h
  case invokespecial ix =>
    try dsimp only at h
    rcases h1 : tBi tb (mO q) ix with _ | b
    · rw [h1] at h
      try dsimp only at h
      rcases dp with _ | dp2
      · cases h
      try dsimp only at h
      rcases h2 : tCal tb (mO q) ix with _ | ⟨j, so⟩
      · rw [h2] at h
        cases h
      rw [h2] at h
      try dsimp only at h
      rcases h3 : tMth tb j with _ | q2
      · rw [h3] at h
        cases h
      rw [h3] at h
      try dsimp only at h
      rcases h4 : S.drop (mNp q2) with _ | ⟨a | (_ | a), r⟩
      · rw [h4] at h
        cases h
      · rw [h4] at h
        cases h
      · rw [h4] at h
        cases h
      rw [h4] at h
      try dsimp only at h
      split at h
      rotate_left
      · cases h
      rename_i h5
      rcases h6 : cGo tb tyl f dp2 j 0 (x_en 0 (.inr (some a) :: (S.take (mNp q2)).reverse)) [] H 0 0 with _ | H1
      · rw [h6] at h
        cases h
      rw [h6] at h
      exact xT_invokespecial hq hc h1 h2 h3 h4 h5 (ih h6) (ih h)
    · rw [h1] at h
      try dsimp only at h
      split at h
      rotate_left
      · cases h
      rename_i h0
      subst h0
      rcases S with _ | ⟨a | (_ | a), r⟩ <;> first | (cases h; done) | skip
      try dsimp only at h
      split at h
      · rename_i h5
        exact xT_objectInit hq hc h1 h5 (ih h)
      · cases h
  case return_ =>
    try dsimp only at h
    rcases S with _ | ⟨a, r⟩
    rotate_left
    · cases h
    try dsimp only at h
    split at h
    · rename_i h5
      cases h
      exact xT_return_ hq hc h5
    · cases h
  all_goals (cases h; done)
end XStart
