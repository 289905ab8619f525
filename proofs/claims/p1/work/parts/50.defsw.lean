/-! The evaluator once more, with text constants that lie far back in a pool. -/
section XDefsW
variable {E K : Type}
/-- THE EVALUATOR: fuel, depth, method, place, locals, stack, heap, cells and slots made, what holds on this way; behind it: what is answered -/
def x_runW (d : XD E K) (tb : XT) (tyl : List FieldType) (ot : XO E) : Nat → Nat → Nat → Nat → List (Nat × XV E) → List (XV E) → List (XC E) → Nat → Nat → List K → (List K → Option (XV E) → List (XC E) → XR K) → XR K
  | 0, _, _, _, _, _, _, _, _, w, _ => [w]
  | f + 1, dp, k, pc, L, S, h, cn, sn, w, post =>
    match tMth tb k with
    | none => [w]
    | some q =>
      match mC q pc with
      | none => [w]
      | some (i, n) =>
        match i with
        | .iconst v => x_runW d tb tyl ot f dp k (pc + 1) L (.inl (dKc d (Int32.ofInt v)) :: S) h cn sn w post
        | .bipush v => x_runW d tb tyl ot f dp k (pc + 2) L (.inl (dKc d (Int8.ofInt v).toInt32) :: S) h cn sn w post
        | .sipush v => x_runW d tb tyl ot f dp k (pc + 3) L (.inl (dKc d (Int16.ofInt v).toInt32) :: S) h cn sn w post
        | .ldc ix => match tLi tb (mO q) ix with
          | some v => x_runW d tb tyl ot f dp k (pc + 2) L (.inl (dKc d v) :: S) h cn sn w post
          | none => match oSl ot (mO q) ix with
            | some a => x_runW d tb tyl ot f dp k (pc + 2) L (.inr (some a) :: S) h cn sn w post
            | none => [w]
        | .ldc_w ix => match tLi tb (mO q) ix with
          | some v => x_runW d tb tyl ot f dp k (pc + 3) L (.inl (dKc d v) :: S) h cn sn w post
          | none => match oSl ot (mO q) ix with
            | some a => x_runW d tb tyl ot f dp k (pc + 3) L (.inr (some a) :: S) h cn sn w post
            | none => [w]
        | .aconst_null => x_runW d tb tyl ot f dp k (pc + 1) L (.inr none :: S) h cn sn w post
        | .iload_n j => match x_lk L j with
          | some (.inl a) => x_runW d tb tyl ot f dp k (pc + 1) L (.inl a :: S) h cn sn w post
          | _ => [w]
        | .iload j => match x_lk L j with
          | some (.inl a) => x_runW d tb tyl ot f dp k (pc + 2) L (.inl a :: S) h cn sn w post
          | _ => [w]
        | .aload_n j => match x_lk L j with
          | some (.inr a) => x_runW d tb tyl ot f dp k (pc + 1) L (.inr a :: S) h cn sn w post
          | _ => [w]
        | .aload j => match x_lk L j with
          | some (.inr a) => x_runW d tb tyl ot f dp k (pc + 2) L (.inr a :: S) h cn sn w post
          | _ => [w]
        | .istore_n j => match S with
          | .inl a :: r => if (j : Nat) < mL q then x_runW d tb tyl ot f dp k (pc + 1) (x_st L j (.inl a)) r h cn sn w post else [w]
          | _ => [w]
        | .istore j => match S with
          | .inl a :: r => if j < mL q then x_runW d tb tyl ot f dp k (pc + 2) (x_st L j (.inl a)) r h cn sn w post else [w]
          | _ => [w]
        | .astore_n j => match S with
          | .inr a :: r => if (j : Nat) < mL q then x_runW d tb tyl ot f dp k (pc + 1) (x_st L j (.inr a)) r h cn sn w post else [w]
          | _ => [w]
        | .astore j => match S with
          | .inr a :: r => if j < mL q then x_runW d tb tyl ot f dp k (pc + 2) (x_st L j (.inr a)) r h cn sn w post else [w]
          | _ => [w]
        | .iinc j v => match x_lk L j with
          | some (.inl a) => if j < mL q then x_runW d tb tyl ot f dp k (pc + 3) (x_st L j (.inl (dBin d 0 a (dKc d (Int32.ofInt v))))) S h cn sn w post else [w]
          | _ => [w]
        | .dup => match S with
          | a :: r => x_runW d tb tyl ot f dp k (pc + 1) L (a :: a :: r) h cn sn w post
          | _ => [w]
        | .dup_x1 => match S with
          | a :: b :: r => x_runW d tb tyl ot f dp k (pc + 1) L (a :: b :: a :: r) h cn sn w post
          | _ => [w]
        | .dup2 => match S with
          | a :: b :: r => x_runW d tb tyl ot f dp k (pc + 1) L (a :: b :: a :: b :: r) h cn sn w post
          | _ => [w]
        | .pop => match S with
          | _ :: r => x_runW d tb tyl ot f dp k (pc + 1) L r h cn sn w post
          | _ => [w]
        | .iadd => match S with
          | .inl b :: .inl a :: r => x_runW d tb tyl ot f dp k (pc + 1) L (.inl (dBin d 0 a b) :: r) h cn sn w post
          | _ => [w]
        | .isub => match S with
          | .inl b :: .inl a :: r => x_runW d tb tyl ot f dp k (pc + 1) L (.inl (dBin d 1 a b) :: r) h cn sn w post
          | _ => [w]
        | .imul => match S with
          | .inl b :: .inl a :: r => x_runW d tb tyl ot f dp k (pc + 1) L (.inl (dBin d 2 a b) :: r) h cn sn w post
          | _ => [w]
        | .iand => match S with
          | .inl b :: .inl a :: r => x_runW d tb tyl ot f dp k (pc + 1) L (.inl (dBin d 3 a b) :: r) h cn sn w post
          | _ => [w]
        | .ior => match S with
          | .inl b :: .inl a :: r => x_runW d tb tyl ot f dp k (pc + 1) L (.inl (dBin d 4 a b) :: r) h cn sn w post
          | _ => [w]
        | .ixor => match S with
          | .inl b :: .inl a :: r => x_runW d tb tyl ot f dp k (pc + 1) L (.inl (dBin d 5 a b) :: r) h cn sn w post
          | _ => [w]
        | .ishl => match S with
          | .inl b :: .inl a :: r => x_runW d tb tyl ot f dp k (pc + 1) L (.inl (dBin d 6 a b) :: r) h cn sn w post
          | _ => [w]
        | .ishr => match S with
          | .inl b :: .inl a :: r => x_runW d tb tyl ot f dp k (pc + 1) L (.inl (dBin d 7 a b) :: r) h cn sn w post
          | _ => [w]
        | .idiv => match S with
          | .inl b :: .inl a :: r => dBr d 0 b (dKc d 0) w (fun w2 => [w2]) (fun w2 => x_runW d tb tyl ot f dp k (pc + 1) L (.inl (dBin d 8 a b) :: r) h cn sn w2 post)
          | _ => [w]
        | .irem => match S with
          | .inl b :: .inl a :: r => dBr d 0 b (dKc d 0) w (fun w2 => [w2]) (fun w2 => x_runW d tb tyl ot f dp k (pc + 1) L (.inl (dBin d 9 a b) :: r) h cn sn w2 post)
          | _ => [w]
        | .i2b => match S with
          | .inl a :: r => x_runW d tb tyl ot f dp k (pc + 1) L (.inl (dUn d 0 a) :: r) h cn sn w post
          | _ => [w]
        | .i2s => match S with
          | .inl a :: r => x_runW d tb tyl ot f dp k (pc + 1) L (.inl (dUn d 1 a) :: r) h cn sn w post
          | _ => [w]
        | .goto o => match x_jp pc o with
          | some t => x_runW d tb tyl ot f dp k t L S h cn sn w post
          | none => [w]
        | .ifCond c o => match S, x_jp pc o with
          | .inl a :: r, some t => dBr d (x_cn c) a (dKc d 0) w (fun w2 => x_runW d tb tyl ot f dp k t L r h cn sn w2 post) (fun w2 => x_runW d tb tyl ot f dp k (pc + 3) L r h cn sn w2 post)
          | _, _ => [w]
        | .if_icmp c o => match S, x_jp pc o with
          | .inl b :: .inl a :: r, some t => dBr d (x_cn c) a b w (fun w2 => x_runW d tb tyl ot f dp k t L r h cn sn w2 post) (fun w2 => x_runW d tb tyl ot f dp k (pc + 3) L r h cn sn w2 post)
          | _, _ => [w]
        | .ifnull o => match S, x_jp pc o with
          | .inr none :: r, some t => x_runW d tb tyl ot f dp k t L r h cn sn w post
          | .inr (some _) :: r, _ => x_runW d tb tyl ot f dp k (pc + 3) L r h cn sn w post
          | _, _ => [w]
        | .ifnonnull o => match S, x_jp pc o with
          | .inr (some _) :: r, some t => x_runW d tb tyl ot f dp k t L r h cn sn w post
          | .inr none :: r, _ => x_runW d tb tyl ot f dp k (pc + 3) L r h cn sn w post
          | _, _ => [w]
        | .tableswitch df lo hi os => match S with
          | .inl a :: r => if hi + 1 = lo + os.size then x_sw d a df (fun o w2 => match x_jp pc o with
              | some t => x_runW d tb tyl ot f dp k t L r h cn sn w2 post
              | none => [w2]) (x_tp lo os.toList) w else [w]
          | _ => [w]
        | .lookupswitch df ps => match S with
          | .inl a :: r => if (ps.toList.zip (ps.toList.drop 1)).all (fun (a, next) => a.1 < next.1) = true then x_sw d a df (fun o w2 => match x_jp pc o with
              | some t => x_runW d tb tyl ot f dp k t L r h cn sn w2 post
              | none => [w2]) ps.toList w else [w]
          | _ => [w]
        | .getfield ix => match S with
          | .inr (some a) :: r => if 1000000 < a then (match oFl ot a (mO q) ix with
              | some v => x_runW d tb tyl ot f dp k (pc + 3) L (x_ov d v :: r) h cn sn w post
              | none => [w]) else match tFld tb (mO q) ix with
            | some (ci, j) => match h[a]? with
              | some (.inl (c2, fs)) => match decide (c2 = ci), fs[j]? with
                | true, some v => x_runW d tb tyl ot f dp k (pc + 3) L (v :: r) h cn sn w post
                | _, _ => [w]
              | _ => [w]
            | none => [w]
          | _ => [w]
        | .getstatic ix => match oGs ot (mO q) ix with
          | some v => x_runW d tb tyl ot f dp k (pc + 3) L (x_ov d v :: S) h cn sn w post
          | none => [w]
        | .arraylength => match S with
          | .inr (some a) :: r => if a = 1000000 then x_runW d tb tyl ot f dp k (pc + 1) L (.inl (dKc d (Int32.ofNat (oSn ot))) :: r) h cn sn w post else match oBy ot a with
            | some bs => if 1000000 < a then x_runW d tb tyl ot f dp k (pc + 1) L (.inl (dKc d (Int32.ofNat bs.length)) :: r) h cn sn w post else [w]
            | none => [w]
          | _ => [w]
        | .i2c => match S with
          | .inl a :: r => x_runW d tb tyl ot f dp k (pc + 1) L (.inl (dUn d 2 a) :: r) h cn sn w post
          | _ => [w]
        | .ineg => match S with
          | .inl a :: r => x_runW d tb tyl ot f dp k (pc + 1) L (.inl (dUn d 3 a) :: r) h cn sn w post
          | _ => [w]
        | .iushr => match S with
          | .inl b :: .inl a :: r => x_runW d tb tyl ot f dp k (pc + 1) L (.inl (dBin d 10 a b) :: r) h cn sn w post
          | _ => [w]
        | .putfield ix => match S, tFld tb (mO q) ix with
          | v :: .inr (some a) :: r, some (ci, j) => match h[a]? with
            | some (.inl (c2, fs)) => match (tFt tb ci)[j]? with
              | some ty => if decide (c2 = ci) && x_fit d ty.1 v && decide (j < fs.length) && (!ty.2 || (mI q && decide (mRc q = ci))) then x_runW d tb tyl ot f dp k (pc + 3) L r (h.set a (.inl (c2, fs.set j v))) cn sn w post else [w]
              | none => [w]
            | _ => [w]
          | _, _ => [w]
        | .iaload => match S with
          | .inl e :: .inr (some a) :: r => if a = 1000000 then x_ix d e (oSn ot) w (fun j w2 => x_runW d tb tyl ot f dp k (pc + 1) L (.inl (oSc ot j) :: r) h cn sn w2 post) else match h[a]? with
            | some (.inr (0, vs)) => x_ix d e vs.length w (fun j w2 => match vs[j]? with
              | some v => x_runW d tb tyl ot f dp k (pc + 1) L (v :: r) h cn sn w2 post
              | none => [w2])
            | _ => [w]
          | _ => [w]
        | .baload => match S with
          | .inl e :: .inr (some a) :: r => if 1000000 < a then (match oBy ot a with
              | some bs => x_ix d e bs.length w (fun j w2 => x_runW d tb tyl ot f dp k (pc + 1) L (.inl (dKc d (bs.getD j 0)) :: r) h cn sn w2 post)
              | none => [w]) else match h[a]? with
            | some (.inr (1, vs)) => x_ix d e vs.length w (fun j w2 => match vs[j]? with
              | some v => x_runW d tb tyl ot f dp k (pc + 1) L (v :: r) h cn sn w2 post
              | none => [w2])
            | _ => [w]
          | _ => [w]
        | .aaload => match S with
          | .inl e :: .inr (some a) :: r => match h[a]? with
            | some (.inr (t, vs)) => if (tyl[t]?.map x_isRef) = some true then x_ix d e vs.length w (fun j w2 => match vs[j]? with
              | some v => x_runW d tb tyl ot f dp k (pc + 1) L (v :: r) h cn sn w2 post
              | none => [w2]) else [w]
            | _ => [w]
          | _ => [w]
        | .iastore => match S with
          | .inl v :: .inl e :: .inr (some a) :: r => match h[a]? with
            | some (.inr (0, vs)) => x_ix d e vs.length w (fun j w2 => x_runW d tb tyl ot f dp k (pc + 1) L r (h.set a (.inr (0, vs.set j (.inl v)))) cn sn w2 post)
            | _ => [w]
          | _ => [w]
        | .bastore => match S with
          | .inl v :: .inl e :: .inr (some a) :: r => match h[a]? with
            | some (.inr (1, vs)) => if x_fit d .boolean (.inl v) then x_ix d e vs.length w (fun j w2 => x_runW d tb tyl ot f dp k (pc + 1) L r (h.set a (.inr (1, vs.set j (.inl v)))) cn sn w2 post) else [w]
            | _ => [w]
          | _ => [w]
        | .aastore => match S with
          | .inr (some v) :: .inl e :: .inr (some a) :: r => match h[a]?, h[v]? with
            | some (.inr (t, vs)), some (.inl (ci, _)) => match tyl[t]? with
              | some (.object C) => if decide (C = tNm tb ci) then x_ix d e vs.length w (fun j w2 => x_runW d tb tyl ot f dp k (pc + 1) L r (h.set a (.inr (t, vs.set j (.inr (some v))))) cn sn w2 post) else [w]
              | _ => [w]
            | _, _ => [w]
          | _ => [w]
        | .new ix => match tNw tb (mO q) ix with
          | some ci => if decide (cn + 1 ≤ mMc q) && decide (sn + (tFt tb ci).length ≤ mMs q) && decide (h.length + 1 ≤ 1000000) then
              x_runW d tb tyl ot f dp k (pc + 3) L (.inr (some h.length) :: S) (h ++ [.inl (ci, (tFt tb ci).map (fun t => x_def d t.1))]) (cn + 1) (sn + (tFt tb ci).length) w post else [w]
          | none => [w]
        | .newarray ty => match S, (match ty with | .int => some 0 | .boolean => some 1 | _ => none) with
          | .inl e :: r, some t => match dKst d e with
            | some v => if decide (¬ v < 0) && decide (v.toNatClampNeg ≤ 100000) && decide (cn + 1 ≤ mMc q) && decide (sn + v.toNatClampNeg ≤ mMs q) && decide (h.length + 1 ≤ 1000000) then
                x_runW d tb tyl ot f dp k (pc + 2) L (.inr (some h.length) :: r) (h ++ [.inr (t, List.replicate v.toNatClampNeg (.inl (dKc d 0)))]) (cn + 1) (sn + v.toNatClampNeg) w post else [w]
            | none => [w]
          | _, _ => [w]
        | .anewarray ix => match S, tAn tb (mO q) ix with
          | .inl e :: r, some t => match dKst d e with
            | some v => if decide (¬ v < 0) && decide (v.toNatClampNeg ≤ 100000) && decide (cn + 1 ≤ mMc q) && decide (sn + v.toNatClampNeg ≤ mMs q) && decide (h.length + 1 ≤ 1000000) then
                x_runW d tb tyl ot f dp k (pc + 3) L (.inr (some h.length) :: r) (h ++ [.inr (t, List.replicate v.toNatClampNeg (.inr none))]) (cn + 1) (sn + v.toNatClampNeg) w post else [w]
            | none => [w]
          | _, _ => [w]
        | .multianewarray ix dm => match S, tMn tb (mO q) ix with
          | .inl e2 :: .inl e1 :: r, some (t2, t1) => match dKst d e1, dKst d e2 with
            | some v1, some v2 => if decide (dm = 2) && decide (¬ v1 < 0) && decide (¬ v2 < 0) && decide (v1.toNatClampNeg ≤ 100000) && decide (v2.toNatClampNeg ≤ 100000) && decide (t1 < 2) && decide (cn + (1 + v1.toNatClampNeg) ≤ mMc q) && decide (sn + (v1.toNatClampNeg + v1.toNatClampNeg * v2.toNatClampNeg) ≤ mMs q) && decide (h.length + 1 + v1.toNatClampNeg ≤ 1000000) then
                x_runW d tb tyl ot f dp k (pc + 4) L (.inr (some h.length) :: r) (h ++ .inr (t2, x_refs (h.length + 1) v1.toNatClampNeg) :: x_rows t1 (List.replicate v2.toNatClampNeg (.inl (dKc d 0))) v1.toNatClampNeg) (cn + 1 + v1.toNatClampNeg) (sn + v1.toNatClampNeg + v1.toNatClampNeg * v2.toNatClampNeg) w post else [w]
            | _, _ => [w]
          | _, _ => [w]
        | .invokestatic ix => match tCal tb (mO q) ix with
          | some (j, so) => match dp with
            | dp2 + 1 => match tMth tb j with
              | some q2 => if decide (mNp q2 ≤ S.length) && decide (2 ≤ so) && decide ((S.drop (mNp q2)).length ≤ 8) && decide (mNp q2 ≤ mL q2) && decide (cn + mMc q2 ≤ mMc q) && decide (sn + mMs q2 ≤ mMs q) then
                  x_runW d tb tyl ot f dp2 j 0 (x_en 0 (S.take (mNp q2)).reverse) [] h 0 0 w (fun w2 v h2 => x_runW d tb tyl ot f dp k (pc + 3) L (x_push v (S.drop (mNp q2))) h2 (cn + mMc q2) (sn + mMs q2) w2 post) else [w]
              | none => [w]
            | 0 => [w]
          | none => if tBi tb (mO q) ix = some 1 then match S with
            | .inl n0 :: .inl pd :: .inr (some bd) :: .inl ps :: .inr (some bs) :: r => match h[bs]?, h[bd]?, dKst d n0, dKst d pd, dKst d ps with
              | some (.inr (0, us)), some (.inr (0, vs)), some n1, some d1, some s1 => if decide (¬ n1 < 0) && decide (¬ d1 < 0) && decide (¬ s1 < 0) && decide (s1.toNatClampNeg + n1.toNatClampNeg ≤ us.length) && decide (d1.toNatClampNeg + n1.toNatClampNeg ≤ vs.length) && decide (r.length ≤ 8) && us.all (fun u => u.isLeft) then
                  x_runW d tb tyl ot f dp k (pc + 3) L r (h.set bd (.inr (0, vs.take d1.toNatClampNeg ++ (us.drop s1.toNatClampNeg).take n1.toNatClampNeg ++ vs.drop (d1.toNatClampNeg + n1.toNatClampNeg)))) cn sn w post else [w]
              | _, _, _, _, _ => [w]
            | _ => [w] else if tBi tb (mO q) ix = some 2 then match S with
            | .inl b :: .inl a :: r => if decide (r.length ≤ 8) && decide (cn ≤ mMc q) && decide (sn ≤ mMs q) then dBr d 2 a b w (fun w2 => x_runW d tb tyl ot f dp k (pc + 3) L (.inl b :: r) h cn sn w2 post) (fun w2 => x_runW d tb tyl ot f dp k (pc + 3) L (.inl a :: r) h cn sn w2 post) else [w]
            | _ => [w] else if tBi tb (mO q) ix = some 3 then match S with
            | .inl b :: .inl a :: r => if decide (r.length ≤ 8) && decide (cn ≤ mMc q) && decide (sn ≤ mMs q) then dBr d 2 b a w (fun w2 => x_runW d tb tyl ot f dp k (pc + 3) L (.inl b :: r) h cn sn w2 post) (fun w2 => x_runW d tb tyl ot f dp k (pc + 3) L (.inl a :: r) h cn sn w2 post) else [w]
            | _ => [w] else if tBi tb (mO q) ix = some 4 then match S with
            | .inl a :: r => if decide (r.length ≤ 8) && decide (cn ≤ mMc q) && decide (sn ≤ mMs q) then dBr d 3 a (dKc d 0) w (fun w2 => x_runW d tb tyl ot f dp k (pc + 3) L (.inl a :: r) h cn sn w2 post) (fun w2 => x_runW d tb tyl ot f dp k (pc + 3) L (.inl (dBin d 1 (dKc d 0) a) :: r) h cn sn w2 post) else [w]
            | _ => [w] else [w]
        | .invokevirtual ix => match dp, tCal tb (mO q) ix with
          | dp2 + 1, some (j, so) => match tMth tb j with
            | some q2 => match S.drop (mNp q2) with
              | .inr (some a) :: r => if decide (mNp q2 + 1 ≤ S.length) && decide (so = 0) && decide (x_rc ot h a = some (mRc q2)) && decide (r.length ≤ 8) && decide (mNp q2 + 1 ≤ mL q2) && decide (cn + mMc q2 ≤ mMc q) && decide (sn + mMs q2 ≤ mMs q) then
                    x_runW d tb tyl ot f dp2 j 0 (x_en 0 (.inr (some a) :: (S.take (mNp q2)).reverse)) [] h 0 0 w (fun w2 v h2 => x_runW d tb tyl ot f dp k (pc + 3) L (x_push v r) h2 (cn + mMc q2) (sn + mMs q2) w2 post) else [w]
              | _ => [w]
            | none => [w]
          | _, _ => [w]
        | .invokespecial ix => match tBi tb (mO q) ix with
          | some 0 => match S with
            | .inr (some _) :: r => if decide (r.length ≤ 8) then x_runW d tb tyl ot f dp k (pc + 3) L r h cn sn w post else [w]
            | _ => [w]
          | _ => match dp, tCal tb (mO q) ix with
            | dp2 + 1, some (j, so) => match tMth tb j with
              | some q2 => match S.drop (mNp q2) with
                | .inr (some a) :: r => if decide (mNp q2 + 1 ≤ S.length) && decide (so = 1) && decide (r.length ≤ 8) && decide (mNp q2 + 1 ≤ mL q2) && decide (cn + mMc q2 ≤ mMc q) && decide (sn + mMs q2 ≤ mMs q) then
                    x_runW d tb tyl ot f dp2 j 0 (x_en 0 (.inr (some a) :: (S.take (mNp q2)).reverse)) [] h 0 0 w (fun w2 v h2 => x_runW d tb tyl ot f dp k (pc + 3) L (x_push v r) h2 (cn + mMc q2) (sn + mMs q2) w2 post) else [w]
                | _ => [w]
              | none => [w]
            | _, _ => [w]
        | .ireturn => match S with
          | [.inl e] => if x_retOk d (mR q) (.inl e) && decide (cn ≤ mMc q) && decide (sn ≤ mMs q) then post w (some (.inl e)) h else [w]
          | _ => [w]
        | .areturn => match S with
          | [.inr a] => if x_retOk d (mR q) (.inr a) && decide (cn ≤ mMc q) && decide (sn ≤ mMs q) then post w (some (.inr a)) h else [w]
          | _ => [w]
        | .return_ => match S with
          | [] => if decide (mR q = none) && decide (cn ≤ mMc q) && decide (sn ≤ mMs q) then post w none h else [w]
          | _ => [w]
        | _ => [w]
end XDefsW
