/-! One instruction at known ints, as a function; reached. -/
noncomputable section XNx
abbrev XSt : Type := Nat × List (Nat × XV Int32) × List (XV Int32) × List (XC Int32) × Nat × Nat
def nx (tb : XT) (tyl : List FieldType) (ot : XO Int32) (k pc : Nat) (L : List (Nat × XV Int32)) (S : List (XV Int32)) (h : List (XC Int32)) (cn sn : Nat) : Option XSt :=
    match tMth tb k with
    | none => none
    | some q =>
      match mC q pc with
      | none => none
      | some (i, n) =>
        match i with
        | .iconst v => some ((pc + 1), L, (.inl (dKc dC (Int32.ofInt v)) :: S), h, cn, sn)
        | .bipush v => some ((pc + 2), L, (.inl (dKc dC (Int8.ofInt v).toInt32) :: S), h, cn, sn)
        | .sipush v => some ((pc + 3), L, (.inl (dKc dC (Int16.ofInt v).toInt32) :: S), h, cn, sn)
        | .ldc ix => match tLi tb (mO q) ix with
          | some v => some ((pc + 2), L, (.inl (dKc dC v) :: S), h, cn, sn)
          | none => match oSl ot (mO q) ix with
            | some a => some ((pc + 2), L, (.inr (some a) :: S), h, cn, sn)
            | none => none
        | .ldc_w ix => match tLi tb (mO q) ix with
          | some v => some ((pc + 3), L, (.inl (dKc dC v) :: S), h, cn, sn)
          | none => match oSl ot (mO q) ix with
            | some a => some ((pc + 3), L, (.inr (some a) :: S), h, cn, sn)
            | none => none
        | .i2l => match S, x_lq q pc with
          | .inl a :: r, some (j, j0, ix, j2) => match x_lk L j, x_lk L j0, x_lk L j2, tFld tb (mO q) ix with
            | some (.inl b), some (.inr (some o)), some (.inl e), some (ci, fj) => match h[o]? with
              | some (.inl (c2, fs)) => match decide (c2 = ci), fs[fj]? with
                | true, some (.inr (some y)) => match h[y]? with
                  | some (.inr (0, vs)) => match dKst dC e with
                    | some e1 => if decide (e1 < 0) || decide (vs.length ≤ e1.toNatClampNeg) then none else match vs[e1.toNatClampNeg]? with
                      | some (.inl v) => match dKst dC a, dKst dC b, dKst dC v with
                        | some a1, some b1, some v1 => some ((pc + 13), L, (.inl (dKc dC (x_l3 a1 b1 v1)) :: r), h, cn, sn)
                        | _, _, _ => none
                      | _ => none
                    | none => none
                  | _ => none
                | _, _ => none
              | _ => none
            | _, _, _, _ => none
          | _, _ => none
        | .aconst_null => some ((pc + 1), L, (.inr none :: S), h, cn, sn)
        | .iload_n j => match x_lk L j with
          | some (.inl a) => some ((pc + 1), L, (.inl a :: S), h, cn, sn)
          | _ => none
        | .iload j => match x_lk L j with
          | some (.inl a) => some ((pc + 2), L, (.inl a :: S), h, cn, sn)
          | _ => none
        | .aload_n j => match x_lk L j with
          | some (.inr a) => some ((pc + 1), L, (.inr a :: S), h, cn, sn)
          | _ => none
        | .aload j => match x_lk L j with
          | some (.inr a) => some ((pc + 2), L, (.inr a :: S), h, cn, sn)
          | _ => none
        | .istore_n j => match S with
          | .inl a :: r => if (j : Nat) < mL q then some ((pc + 1), (x_st L j (.inl a)), r, h, cn, sn) else none
          | _ => none
        | .istore j => match S with
          | .inl a :: r => if j < mL q then some ((pc + 2), (x_st L j (.inl a)), r, h, cn, sn) else none
          | _ => none
        | .astore_n j => match S with
          | .inr a :: r => if (j : Nat) < mL q then some ((pc + 1), (x_st L j (.inr a)), r, h, cn, sn) else none
          | _ => none
        | .astore j => match S with
          | .inr a :: r => if j < mL q then some ((pc + 2), (x_st L j (.inr a)), r, h, cn, sn) else none
          | _ => none
        | .iinc j v => match x_lk L j with
          | some (.inl a) => if j < mL q then some ((pc + 3), (x_st L j (.inl (dBin dC 0 a (dKc dC (Int32.ofInt v))))), S, h, cn, sn) else none
          | _ => none
        | .dup => match S with
          | a :: r => some ((pc + 1), L, (a :: a :: r), h, cn, sn)
          | _ => none
        | .dup_x1 => match S with
          | a :: b :: r => some ((pc + 1), L, (a :: b :: a :: r), h, cn, sn)
          | _ => none
        | .dup2 => match S with
          | a :: b :: r => some ((pc + 1), L, (a :: b :: a :: b :: r), h, cn, sn)
          | _ => none
        | .pop => match S with
          | _ :: r => some ((pc + 1), L, r, h, cn, sn)
          | _ => none
        | .iadd => match S with
          | .inl b :: .inl a :: r => some ((pc + 1), L, (.inl (dBin dC 0 a b) :: r), h, cn, sn)
          | _ => none
        | .isub => match S with
          | .inl b :: .inl a :: r => some ((pc + 1), L, (.inl (dBin dC 1 a b) :: r), h, cn, sn)
          | _ => none
        | .imul => match S with
          | .inl b :: .inl a :: r => some ((pc + 1), L, (.inl (dBin dC 2 a b) :: r), h, cn, sn)
          | _ => none
        | .iand => match S with
          | .inl b :: .inl a :: r => some ((pc + 1), L, (.inl (dBin dC 3 a b) :: r), h, cn, sn)
          | _ => none
        | .ior => match S with
          | .inl b :: .inl a :: r => some ((pc + 1), L, (.inl (dBin dC 4 a b) :: r), h, cn, sn)
          | _ => none
        | .ixor => match S with
          | .inl b :: .inl a :: r => some ((pc + 1), L, (.inl (dBin dC 5 a b) :: r), h, cn, sn)
          | _ => none
        | .ishl => match S with
          | .inl b :: .inl a :: r => some ((pc + 1), L, (.inl (dBin dC 6 a b) :: r), h, cn, sn)
          | _ => none
        | .ishr => match S with
          | .inl b :: .inl a :: r => some ((pc + 1), L, (.inl (dBin dC 7 a b) :: r), h, cn, sn)
          | _ => none
        | .idiv => match S with
          | .inl b :: .inl a :: r => (if x_cmp 0 b (dKc dC 0) = true then none else some ((pc + 1), L, (.inl (dBin dC 8 a b) :: r), h, cn, sn))
          | _ => none
        | .irem => match S with
          | .inl b :: .inl a :: r => (if x_cmp 0 b (dKc dC 0) = true then none else some ((pc + 1), L, (.inl (dBin dC 9 a b) :: r), h, cn, sn))
          | _ => none
        | .i2b => match S with
          | .inl a :: r => some ((pc + 1), L, (.inl (dUn dC 0 a) :: r), h, cn, sn)
          | _ => none
        | .i2s => match S with
          | .inl a :: r => some ((pc + 1), L, (.inl (dUn dC 1 a) :: r), h, cn, sn)
          | _ => none
        | .goto o => match x_jp pc o with
          | some t => some (t, L, S, h, cn, sn)
          | none => none
        | .ifCond c o => match S, x_jp pc o with
          | .inl a :: r, some t => (if x_cmp (x_cn c) a (dKc dC 0) = true then some (t, L, r, h, cn, sn) else some ((pc + 3), L, r, h, cn, sn))
          | _, _ => none
        | .if_icmp c o => match S, x_jp pc o with
          | .inl b :: .inl a :: r, some t => (if x_cmp (x_cn c) a b = true then some (t, L, r, h, cn, sn) else some ((pc + 3), L, r, h, cn, sn))
          | _, _ => none
        | .ifnull o => match S, x_jp pc o with
          | .inr none :: r, some t => some (t, L, r, h, cn, sn)
          | .inr (some _) :: r, _ => some ((pc + 3), L, r, h, cn, sn)
          | _, _ => none
        | .ifnonnull o => match S, x_jp pc o with
          | .inr (some _) :: r, some t => some (t, L, r, h, cn, sn)
          | .inr none :: r, _ => some ((pc + 3), L, r, h, cn, sn)
          | _, _ => none
        | .tableswitch df lo hi os => match S with
          | .inl a :: r => if hi + 1 = lo + os.size then (if x_swk (x_tp lo os.toList) = true then (match x_jp pc (x_swo a df (x_tp lo os.toList)) with
              | some t => some (t, L, r, h, cn, sn)
              | none => none) else none) else none
          | _ => none
        | .lookupswitch df ps => match S with
          | .inl a :: r => if (ps.toList.zip (ps.toList.drop 1)).all (fun (a, next) => a.1 < next.1) = true then (if x_swk (ps.toList) = true then (match x_jp pc (x_swo a df (ps.toList)) with
              | some t => some (t, L, r, h, cn, sn)
              | none => none) else none) else none
          | _ => none
        | .getfield ix => match S with
          | .inr (some a) :: r => if 1000000 < a then (match oFl ot a (mO q) ix with
              | some v => some ((pc + 3), L, (x_ov dC v :: r), h, cn, sn)
              | none => none) else match tFld tb (mO q) ix with
            | some (ci, j) => match h[a]? with
              | some (.inl (c2, fs)) => match decide (c2 = ci), fs[j]? with
                | true, some v => some ((pc + 3), L, (v :: r), h, cn, sn)
                | _, _ => none
              | _ => none
            | none => none
          | _ => none
        | .getstatic ix => match oGs ot (mO q) ix with
          | some v => some ((pc + 3), L, (x_ov dC v :: S), h, cn, sn)
          | none => none
        | .arraylength => match S with
          | .inr (some a) :: r => if a = 1000000 then some ((pc + 1), L, (.inl (dKc dC (Int32.ofNat (oSn ot))) :: r), h, cn, sn) else match oBy ot a with
            | some bs => if 1000000 < a then some ((pc + 1), L, (.inl (dKc dC (Int32.ofNat bs.length)) :: r), h, cn, sn) else none
            | none => none
          | _ => none
        | .i2c => match S with
          | .inl a :: r => some ((pc + 1), L, (.inl (dUn dC 2 a) :: r), h, cn, sn)
          | _ => none
        | .ineg => match S with
          | .inl a :: r => some ((pc + 1), L, (.inl (dUn dC 3 a) :: r), h, cn, sn)
          | _ => none
        | .iushr => match S with
          | .inl b :: .inl a :: r => some ((pc + 1), L, (.inl (dBin dC 10 a b) :: r), h, cn, sn)
          | _ => none
        | .putfield ix => match S, tFld tb (mO q) ix with
          | v :: .inr (some a) :: r, some (ci, j) => match h[a]? with
            | some (.inl (c2, fs)) => match (tFt tb ci)[j]? with
              | some ty => if decide (c2 = ci) && x_fit dC ty.1 v && decide (j < fs.length) && (!ty.2 || (mI q && decide (mRc q = ci))) then some ((pc + 3), L, r, (h.set a (.inl (c2, fs.set j v))), cn, sn) else none
              | none => none
            | _ => none
          | _, _ => none
        | .iaload => match S with
          | .inl e :: .inr (some a) :: r => if a = 1000000 then (if (decide (e < 0) || decide ((oSn ot) ≤ e.toNatClampNeg)) = true then none else some ((pc + 1), L, (.inl (oSc ot e.toNatClampNeg) :: r), h, cn, sn)) else match h[a]? with
            | some (.inr (0, vs)) => (if (decide (e < 0) || decide (vs.length ≤ e.toNatClampNeg)) = true then none else match vs[e.toNatClampNeg]? with
              | some v => some ((pc + 1), L, (v :: r), h, cn, sn)
              | none => none)
            | _ => none
          | _ => none
        | .baload => match S with
          | .inl e :: .inr (some a) :: r => if 1000000 < a then (match oBy ot a with
              | some bs => (if (decide (e < 0) || decide (bs.length ≤ e.toNatClampNeg)) = true then none else some ((pc + 1), L, (.inl (dKc dC (bs.getD e.toNatClampNeg 0)) :: r), h, cn, sn))
              | none => none) else match h[a]? with
            | some (.inr (1, vs)) => (if (decide (e < 0) || decide (vs.length ≤ e.toNatClampNeg)) = true then none else match vs[e.toNatClampNeg]? with
              | some v => some ((pc + 1), L, (v :: r), h, cn, sn)
              | none => none)
            | _ => none
          | _ => none
        | .aaload => match S with
          | .inl e :: .inr (some a) :: r => match h[a]? with
            | some (.inr (t, vs)) => if (tyl[t]?.map x_isRef) = some true then (if (decide (e < 0) || decide (vs.length ≤ e.toNatClampNeg)) = true then none else match vs[e.toNatClampNeg]? with
              | some v => some ((pc + 1), L, (v :: r), h, cn, sn)
              | none => none) else none
            | _ => none
          | _ => none
        | .iastore => match S with
          | .inl v :: .inl e :: .inr (some a) :: r => match h[a]? with
            | some (.inr (0, vs)) => (if (decide (e < 0) || decide (vs.length ≤ e.toNatClampNeg)) = true then none else some ((pc + 1), L, r, (h.set a (.inr (0, vs.set e.toNatClampNeg (.inl v)))), cn, sn))
            | _ => none
          | _ => none
        | .bastore => match S with
          | .inl v :: .inl e :: .inr (some a) :: r => match h[a]? with
            | some (.inr (1, vs)) => if x_fit dC .boolean (.inl v) then (if (decide (e < 0) || decide (vs.length ≤ e.toNatClampNeg)) = true then none else some ((pc + 1), L, r, (h.set a (.inr (1, vs.set e.toNatClampNeg (.inl v)))), cn, sn)) else none
            | _ => none
          | _ => none
        | .aastore => match S with
          | .inr (some v) :: .inl e :: .inr (some a) :: r => match h[a]?, h[v]? with
            | some (.inr (t, vs)), some (.inl (ci, _)) => match tyl[t]? with
              | some (.object C) => if decide (C = tNm tb ci) then (if (decide (e < 0) || decide (vs.length ≤ e.toNatClampNeg)) = true then none else some ((pc + 1), L, r, (h.set a (.inr (t, vs.set e.toNatClampNeg (.inr (some v))))), cn, sn)) else none
              | _ => none
            | _, _ => none
          | _ => none
        | .new ix => match tNw tb (mO q) ix with
          | some ci => if decide (cn + 1 ≤ mMc q) && decide (sn + (tFt tb ci).length ≤ mMs q) && decide (h.length + 1 ≤ 1000000) then
              some ((pc + 3), L, (.inr (some h.length) :: S), (h ++ [.inl (ci, (tFt tb ci).map (fun t => x_def dC t.1))]), (cn + 1), (sn + (tFt tb ci).length)) else none
          | none => none
        | .newarray ty => match S, (match ty with | .int => some 0 | .boolean => some 1 | _ => none) with
          | .inl e :: r, some t => match dKst dC e with
            | some v => if decide (¬ v < 0) && decide (v.toNatClampNeg ≤ 100000) && decide (cn + 1 ≤ mMc q) && decide (sn + v.toNatClampNeg ≤ mMs q) && decide (h.length + 1 ≤ 1000000) then
                some ((pc + 2), L, (.inr (some h.length) :: r), (h ++ [.inr (t, List.replicate v.toNatClampNeg (.inl (dKc dC 0)))]), (cn + 1), (sn + v.toNatClampNeg)) else none
            | none => none
          | _, _ => none
        | .anewarray ix => match S, tAn tb (mO q) ix with
          | .inl e :: r, some t => match dKst dC e with
            | some v => if decide (¬ v < 0) && decide (v.toNatClampNeg ≤ 100000) && decide (cn + 1 ≤ mMc q) && decide (sn + v.toNatClampNeg ≤ mMs q) && decide (h.length + 1 ≤ 1000000) then
                some ((pc + 3), L, (.inr (some h.length) :: r), (h ++ [.inr (t, List.replicate v.toNatClampNeg (.inr none))]), (cn + 1), (sn + v.toNatClampNeg)) else none
            | none => none
          | _, _ => none
        | .multianewarray ix dm => match S, tMn tb (mO q) ix with
          | .inl e2 :: .inl e1 :: r, some (t2, t1) => match dKst dC e1, dKst dC e2 with
            | some v1, some v2 => if decide (dm = 2) && decide (¬ v1 < 0) && decide (¬ v2 < 0) && decide (v1.toNatClampNeg ≤ 100000) && decide (v2.toNatClampNeg ≤ 100000) && decide (t1 < 2) && decide (cn + (1 + v1.toNatClampNeg) ≤ mMc q) && decide (sn + (v1.toNatClampNeg + v1.toNatClampNeg * v2.toNatClampNeg) ≤ mMs q) && decide (h.length + 1 + v1.toNatClampNeg ≤ 1000000) then
                some ((pc + 4), L, (.inr (some h.length) :: r), (h ++ .inr (t2, x_refs (h.length + 1) v1.toNatClampNeg) :: x_rows t1 (List.replicate v2.toNatClampNeg (.inl (dKc dC 0))) v1.toNatClampNeg), (cn + 1 + v1.toNatClampNeg), (sn + v1.toNatClampNeg + v1.toNatClampNeg * v2.toNatClampNeg)) else none
            | _, _ => none
          | _, _ => none
        | .invokestatic ix => match tCal tb (mO q) ix with
          | some _ => none
          | none => if tBi tb (mO q) ix = some 1 then match S with
            | .inl n0 :: .inl pd :: .inr (some bd) :: .inl ps :: .inr (some bs) :: r => match h[bs]?, h[bd]?, dKst dC n0, dKst dC pd, dKst dC ps with
              | some (.inr (0, us)), some (.inr (0, vs)), some n1, some d1, some s1 => if decide (¬ n1 < 0) && decide (¬ d1 < 0) && decide (¬ s1 < 0) && decide (s1.toNatClampNeg + n1.toNatClampNeg ≤ us.length) && decide (d1.toNatClampNeg + n1.toNatClampNeg ≤ vs.length) && decide (r.length ≤ 8) && us.all (fun u => u.isLeft) then
                  some ((pc + 3), L, r, (h.set bd (.inr (0, vs.take d1.toNatClampNeg ++ (us.drop s1.toNatClampNeg).take n1.toNatClampNeg ++ vs.drop (d1.toNatClampNeg + n1.toNatClampNeg)))), cn, sn) else none
              | _, _, _, _, _ => none
            | _ => none else if tBi tb (mO q) ix = some 2 then match S with
            | .inl b :: .inl a :: r => if decide (r.length ≤ 8) && decide (cn ≤ mMc q) && decide (sn ≤ mMs q) then (if x_cmp 2 a b = true then some ((pc + 3), L, (.inl b :: r), h, cn, sn) else some ((pc + 3), L, (.inl a :: r), h, cn, sn)) else none
            | _ => none else if tBi tb (mO q) ix = some 3 then match S with
            | .inl b :: .inl a :: r => if decide (r.length ≤ 8) && decide (cn ≤ mMc q) && decide (sn ≤ mMs q) then (if x_cmp 2 b a = true then some ((pc + 3), L, (.inl b :: r), h, cn, sn) else some ((pc + 3), L, (.inl a :: r), h, cn, sn)) else none
            | _ => none else if tBi tb (mO q) ix = some 4 then match S with
            | .inl a :: r => if decide (r.length ≤ 8) && decide (cn ≤ mMc q) && decide (sn ≤ mMs q) then (if x_cmp 3 a (dKc dC 0) = true then some ((pc + 3), L, (.inl a :: r), h, cn, sn) else some ((pc + 3), L, (.inl (dBin dC 1 (dKc dC 0) a) :: r), h, cn, sn)) else none
            | _ => none else none
        | .invokespecial ix => match tBi tb (mO q) ix with
          | some 0 => match S with
            | .inr (some _) :: r => if decide (r.length ≤ 8) then some ((pc + 3), L, r, h, cn, sn) else none
            | _ => none
          | _ => none
        | _ => none
end XNx
noncomputable section XRc
/-- a call's: which, its locals, what is left of the stack, cells and slots behind it -/
def ca (tb : XT) (ot : XO Int32) (k pc : Nat) (L : List (Nat × XV Int32)) (S : List (XV Int32)) (h : List (XC Int32)) (cn sn : Nat) : Option (Nat × List (Nat × XV Int32) × List (XV Int32) × Nat × Nat) :=
  match tMth tb k with
  | none => none
  | some q =>
    match mC q pc with
    | some (.invokestatic ix, _) => (match tCal tb (mO q) ix with
      | some (j, so) => (match tMth tb j with
        | some q2 => if decide (mNp q2 ≤ S.length) && decide (2 ≤ so) && decide ((S.drop (mNp q2)).length ≤ 8) && decide (mNp q2 ≤ mL q2) && decide (cn + mMc q2 ≤ mMc q) && decide (sn + mMs q2 ≤ mMs q) then some (j, x_en 0 (S.take (mNp q2)).reverse, S.drop (mNp q2), cn + mMc q2, sn + mMs q2) else none
        | none => none)
      | none => none)
    | some (.invokevirtual ix, _) => (match tCal tb (mO q) ix with
      | some (j, so) => (match tMth tb j with
        | some q2 => (match S.drop (mNp q2) with
          | .inr (some a) :: r => if decide (mNp q2 + 1 ≤ S.length) && decide (so = 0) && decide (x_rc ot h a = some (mRc q2)) && decide (r.length ≤ 8) && decide (mNp q2 + 1 ≤ mL q2) && decide (cn + mMc q2 ≤ mMc q) && decide (sn + mMs q2 ≤ mMs q) then some (j, x_en 0 (.inr (some a) :: (S.take (mNp q2)).reverse), r, cn + mMc q2, sn + mMs q2) else none
          | _ => none)
        | none => none)
      | none => none)
    | some (.invokespecial ix, _) => (match tBi tb (mO q) ix with
      | some 0 => none
      | _ => (match tCal tb (mO q) ix with
        | some (j, so) => (match tMth tb j with
          | some q2 => (match S.drop (mNp q2) with
            | .inr (some a) :: r => if decide (mNp q2 + 1 ≤ S.length) && decide (so = 1) && decide (r.length ≤ 8) && decide (mNp q2 + 1 ≤ mL q2) && decide (cn + mMc q2 ≤ mMc q) && decide (sn + mMs q2 ≤ mMs q) then some (j, x_en 0 (.inr (some a) :: (S.take (mNp q2)).reverse), r, cn + mMc q2, sn + mMs q2) else none
            | _ => none)
          | none => none)
        | none => none))
    | _ => none
/-- where a run stands: at a cut, or at its end -/
abbrev XOu : Type := XSt ⊕ (Option (XV Int32) × List (XC Int32))
/-- one instruction on: a cut (where it counts), an end, a step, a call; K: from there on -/
def xRl (tb : XT) (tyl : List FieldType) (ot : XO Int32) (dp k : Nat) (cu : Nat → Bool) (KK : Nat → List (Nat × XV Int32) → List (XV Int32) → List (XC Int32) → Nat → Nat → XOu → Prop) (g : Bool) (pc : Nat) (L : List (Nat × XV Int32)) (S : List (XV Int32)) (H : List (XC Int32)) (cn sn : Nat) (o : XOu) : Prop :=
  (g = false ∧ cu pc = true ∧ o = .inl (pc, L, S, H, cn, sn)) ∨ ((g || !cu pc) = true ∧
    ((nx tb tyl ot k pc L S H cn sn = none ∧ ca tb ot k pc L S H cn sn = none ∧ ∃ v H2, x_To tb tyl ot dp k pc L S H cn sn v H2 ∧ o = .inr (v, H2)) ∨
     (∃ pc2 L2 S2 H2 cn2 sn2, nx tb tyl ot k pc L S H cn sn = some (pc2, L2, S2, H2, cn2, sn2) ∧ (∀ v H3, x_To tb tyl ot dp k pc2 L2 S2 H2 cn2 sn2 v H3 → x_To tb tyl ot dp k pc L S H cn sn v H3) ∧ KK pc2 L2 S2 H2 cn2 sn2 o) ∨
     (∃ dq j L0 r cn2 sn2 u H1, nx tb tyl ot k pc L S H cn sn = none ∧ ca tb ot k pc L S H cn sn = some (j, L0, r, cn2, sn2) ∧ dp = dq + 1 ∧ x_To tb tyl ot dq j 0 L0 [] H 0 0 u H1 ∧ (∀ v H3, x_To tb tyl ot dp k (pc + 3) L (x_push u r) H1 cn2 sn2 v H3 → x_To tb tyl ot dp k pc L S H cn sn v H3) ∧ KK (pc + 3) L (x_push u r) H1 cn2 sn2 o)))
def xRn (tb : XT) (tyl : List FieldType) (ot : XO Int32) (dp k : Nat) (cu : Nat → Bool) : Nat → Nat → List (Nat × XV Int32) → List (XV Int32) → List (XC Int32) → Nat → Nat → XOu → Prop
  | 0 => fun _ _ _ _ _ _ _ => False
  | n + 1 => fun pc L S H cn sn o => xRl tb tyl ot dp k cu (xRn tb tyl ot dp k cu n) false pc L S H cn sn o
/-- from here on (g: the cut here doesn't count) the run first comes to that cut, or to that end -/
def xRC (tb : XT) (tyl : List FieldType) (ot : XO Int32) (dp k : Nat) (cu : Nat → Bool) (g : Bool) (pc : Nat) (L : List (Nat × XV Int32)) (S : List (XV Int32)) (H : List (XC Int32)) (cn sn : Nat) (o : XOu) : Prop := ∃ n, xRl tb tyl ot dp k cu (xRn tb tyl ot dp k cu n) g pc L S H cn sn o
theorem xRC_cut {tb : XT} {tyl : List FieldType} {ot : XO Int32} {dp k : Nat} {cu : Nat → Bool} {pc : Nat} {L : List (Nat × XV Int32)} {S : List (XV Int32)} {H : List (XC Int32)} {cn sn : Nat} (h : cu pc = true) : xRC tb tyl ot dp k cu false pc L S H cn sn (.inl (pc, L, S, H, cn, sn)) := ⟨0, Or.inl ⟨rfl, h, rfl⟩⟩
theorem xRC_ret {tb : XT} {tyl : List FieldType} {ot : XO Int32} {dp k : Nat} {cu : Nat → Bool} {g : Bool} {pc : Nat} {L : List (Nat × XV Int32)} {S : List (XV Int32)} {H : List (XC Int32)} {cn sn : Nat} {v : Option (XV Int32)} {H2 : List (XC Int32)} (hg : (g || !cu pc) = true) (h1 : nx tb tyl ot k pc L S H cn sn = none) (h2 : ca tb ot k pc L S H cn sn = none) (h3 : x_To tb tyl ot dp k pc L S H cn sn v H2) : xRC tb tyl ot dp k cu g pc L S H cn sn (.inr (v, H2)) := ⟨0, Or.inr ⟨hg, Or.inl ⟨h1, h2, v, H2, h3, rfl⟩⟩⟩
theorem xRC_step {tb : XT} {tyl : List FieldType} {ot : XO Int32} {dp k : Nat} {cu : Nat → Bool} {g : Bool} {pc : Nat} {L : List (Nat × XV Int32)} {S : List (XV Int32)} {H : List (XC Int32)} {cn sn : Nat} {o : XOu} {pc2 : Nat} {L2 : List (Nat × XV Int32)} {S2 : List (XV Int32)} {H2 : List (XC Int32)} {cn2 sn2 : Nat} (hg : (g || !cu pc) = true) (h1 : nx tb tyl ot k pc L S H cn sn = some (pc2, L2, S2, H2, cn2, sn2)) (h2 : ∀ v H3, x_To tb tyl ot dp k pc2 L2 S2 H2 cn2 sn2 v H3 → x_To tb tyl ot dp k pc L S H cn sn v H3) (h3 : xRC tb tyl ot dp k cu false pc2 L2 S2 H2 cn2 sn2 o) : xRC tb tyl ot dp k cu g pc L S H cn sn o := by
  obtain ⟨n, h3⟩ := h3
  exact ⟨n + 1, Or.inr ⟨hg, Or.inr (Or.inl ⟨pc2, L2, S2, H2, cn2, sn2, h1, h2, h3⟩)⟩⟩
theorem xRC_call {tb : XT} {tyl : List FieldType} {ot : XO Int32} {dp k : Nat} {cu : Nat → Bool} {g : Bool} {pc : Nat} {L : List (Nat × XV Int32)} {S : List (XV Int32)} {H : List (XC Int32)} {cn sn : Nat} {o : XOu} {dq j : Nat} {L0 : List (Nat × XV Int32)} {r : List (XV Int32)} {cn2 sn2 : Nat} {u : Option (XV Int32)} {H1 : List (XC Int32)} (hg : (g || !cu pc) = true) (h0 : nx tb tyl ot k pc L S H cn sn = none) (h1 : ca tb ot k pc L S H cn sn = some (j, L0, r, cn2, sn2)) (hd : dp = dq + 1) (h2 : x_To tb tyl ot dq j 0 L0 [] H 0 0 u H1) (h3 : ∀ v H3, x_To tb tyl ot dp k (pc + 3) L (x_push u r) H1 cn2 sn2 v H3 → x_To tb tyl ot dp k pc L S H cn sn v H3) (h4 : xRC tb tyl ot dp k cu false (pc + 3) L (x_push u r) H1 cn2 sn2 o) : xRC tb tyl ot dp k cu g pc L S H cn sn o := by
  obtain ⟨n, h4⟩ := h4
  exact ⟨n + 1, Or.inr ⟨hg, Or.inr (Or.inr ⟨dq, j, L0, r, cn2, sn2, u, H1, h0, h1, hd, h2, h3, h4⟩)⟩⟩
theorem xRl_one {tb : XT} {tyl : List FieldType} {ot : XO Int32} {dp k : Nat} {cu : Nat → Bool} {K1 K2 : Nat → List (Nat × XV Int32) → List (XV Int32) → List (XC Int32) → Nat → Nat → XOu → Prop} (hK : ∀ pc L S H cn sn o o2, K1 pc L S H cn sn o → K2 pc L S H cn sn o2 → o2 = o) {g : Bool} {pc : Nat} {L : List (Nat × XV Int32)} {S : List (XV Int32)} {H : List (XC Int32)} {cn sn : Nat} {o o2 : XOu} (h1 : xRl tb tyl ot dp k cu K1 g pc L S H cn sn o) (h2 : xRl tb tyl ot dp k cu K2 g pc L S H cn sn o2) : o2 = o := by
  rcases h1 with ⟨g1, c1, e1⟩ | ⟨hg, h1⟩
  · rcases h2 with ⟨-, -, e2⟩ | ⟨hg2, -⟩
    · rw [e1, e2]
    · rw [g1, c1] at hg2
      exact absurd hg2 (by decide)
  · rcases h2 with ⟨g2, c2, -⟩ | ⟨-, h2⟩
    · rw [g2, c2] at hg
      exact absurd hg (by decide)
    · rcases h1 with ⟨a1, a2, v, H2, a3, a4⟩ | ⟨pc2, L2, S2, H2, cn2, sn2, a1, a2, a3⟩ | ⟨dq, j, L0, r, cn2, sn2, u, H1, a1, a2, a3, a4, a5, a6⟩
      · rcases h2 with ⟨b1, b2, w, J2, b3, b4⟩ | ⟨_, _, _, _, _, _, b1, -, -⟩ | ⟨_, _, _, _, _, _, _, _, b1, b2, -, -, -, -⟩
        · obtain ⟨x, y⟩ := x_To_one a3 b3
          rw [a4, b4, x, y]
        · rw [a1] at b1
          cases b1
        · rw [a2] at b2
          cases b2
      · rcases h2 with ⟨b1, b2, w, J2, b3, b4⟩ | ⟨_, _, _, _, _, _, b1, -, b3⟩ | ⟨_, _, _, _, _, _, _, _, b1, b2, -, -, -, -⟩
        · rw [a1] at b1
          cases b1
        · rw [a1] at b1
          cases b1
          exact hK _ _ _ _ _ _ _ _ a3 b3
        · rw [a1] at b1
          cases b1
      · rcases h2 with ⟨b1, b2, w, J2, b3, b4⟩ | ⟨_, _, _, _, _, _, b1, -, b3⟩ | ⟨_, _, _, _, _, _, _, _, b1, b2, b3, b4, -, b6⟩
        · rw [a2] at b2
          cases b2
        · rw [a1] at b1
          cases b1
        · rw [a2] at b2
          cases b2
          have e4 := Nat.succ.inj (a3.symm.trans b3)
          subst e4
          obtain ⟨x, y⟩ := x_To_one a4 b4
          subst x
          subst y
          exact hK _ _ _ _ _ _ _ _ a6 b6
theorem xRn_one {tb : XT} {tyl : List FieldType} {ot : XO Int32} {dp k : Nat} {cu : Nat → Bool} : ∀ (n m : Nat) (pc : Nat) (L : List (Nat × XV Int32)) (S : List (XV Int32)) (H : List (XC Int32)) (cn sn : Nat) (o o2 : XOu), xRn tb tyl ot dp k cu n pc L S H cn sn o → xRn tb tyl ot dp k cu m pc L S H cn sn o2 → o2 = o
  | 0, _, _, _, _, _, _, _, _, _, h, _ => h.elim
  | _ + 1, 0, _, _, _, _, _, _, _, _, _, h => h.elim
  | n + 1, m + 1, _, _, _, _, _, _, _, _, h, h2 => xRl_one (xRn_one n m) h h2
theorem xRC_one {tb : XT} {tyl : List FieldType} {ot : XO Int32} {dp k : Nat} {cu : Nat → Bool} {g : Bool} {pc : Nat} {L : List (Nat × XV Int32)} {S : List (XV Int32)} {H : List (XC Int32)} {cn sn : Nat} {o : XOu} (h : xRC tb tyl ot dp k cu g pc L S H cn sn o) : ∀ {o2 : XOu}, xRC tb tyl ot dp k cu g pc L S H cn sn o2 → o2 = o := fun h9 => by
  obtain ⟨n, h⟩ := h
  obtain ⟨m, h9⟩ := h9
  exact xRl_one (xRn_one n m) h h9
/-- what comes of it -/
def xFin (tb : XT) (tyl : List FieldType) (ot : XO Int32) (dp k : Nat) (o : XOu) (v : Option (XV Int32)) (H : List (XC Int32)) : Prop := match o with
  | .inl (pc, L, S, H1, cn, sn) => x_To tb tyl ot dp k pc L S H1 cn sn v H
  | .inr (v1, H1) => v = v1 ∧ H = H1
theorem xRl_to {tb : XT} {tyl : List FieldType} {ot : XO Int32} {dp k : Nat} {cu : Nat → Bool} {K1 : Nat → List (Nat × XV Int32) → List (XV Int32) → List (XC Int32) → Nat → Nat → XOu → Prop} {v : Option (XV Int32)} {H9 : List (XC Int32)} (hK : ∀ pc L S H cn sn o, K1 pc L S H cn sn o → xFin tb tyl ot dp k o v H9 → x_To tb tyl ot dp k pc L S H cn sn v H9) {g : Bool} {pc : Nat} {L : List (Nat × XV Int32)} {S : List (XV Int32)} {H : List (XC Int32)} {cn sn : Nat} {o : XOu} (h1 : xRl tb tyl ot dp k cu K1 g pc L S H cn sn o) (h9 : xFin tb tyl ot dp k o v H9) : x_To tb tyl ot dp k pc L S H cn sn v H9 := by
  rcases h1 with ⟨-, -, e1⟩ | ⟨-, ⟨-, -, w, H2, a3, a4⟩ | ⟨pc2, L2, S2, H2, cn2, sn2, -, a2, a3⟩ | ⟨dq, j, L0, r, cn2, sn2, u, H1, -, -, -, -, a5, a6⟩⟩
  · subst e1
    exact h9
  · subst a4
    obtain ⟨e1, e2⟩ := h9
    rw [e1, e2]
    exact a3
  · exact a2 _ _ (hK _ _ _ _ _ _ _ a3 h9)
  · exact a5 _ _ (hK _ _ _ _ _ _ _ a6 h9)
theorem xRn_to {tb : XT} {tyl : List FieldType} {ot : XO Int32} {dp k : Nat} {cu : Nat → Bool} {v : Option (XV Int32)} {H9 : List (XC Int32)} : ∀ (n : Nat) (pc : Nat) (L : List (Nat × XV Int32)) (S : List (XV Int32)) (H : List (XC Int32)) (cn sn : Nat) (o : XOu), xRn tb tyl ot dp k cu n pc L S H cn sn o → xFin tb tyl ot dp k o v H9 → x_To tb tyl ot dp k pc L S H cn sn v H9
  | 0, _, _, _, _, _, _, _, h, _ => h.elim
  | n + 1, _, _, _, _, _, _, _, h, h9 => xRl_to (xRn_to n) h h9
theorem xRC_to {tb : XT} {tyl : List FieldType} {ot : XO Int32} {dp k : Nat} {cu : Nat → Bool} {g : Bool} {pc : Nat} {L : List (Nat × XV Int32)} {S : List (XV Int32)} {H : List (XC Int32)} {cn sn : Nat} {o : XOu} (h : xRC tb tyl ot dp k cu g pc L S H cn sn o) {v : Option (XV Int32)} {H9 : List (XC Int32)} : xFin tb tyl ot dp k o v H9 → x_To tb tyl ot dp k pc L S H cn sn v H9 := fun h9 => by
  obtain ⟨n, h⟩ := h
  exact xRl_to (xRn_to n) h h9
variable {tb : XT} {tyl : List FieldType} {ot : XO Int32} {dp k pc n cn sn : Nat} {q : XM} {L : List (Nat × XV Int32)} {S : List (XV Int32)} {H : List (XC Int32)} {cu : Nat → Bool} {g : Bool} {o : XOu}
theorem xN_iconst {x : Int} (hq : tMth tb k = some q) (hi : mC q pc = some (.iconst x, n)) : nx tb tyl ot k pc L S H cn sn = some ((pc + 1), L, (.inl (dKc dC (Int32.ofInt x)) :: S), H, cn, sn) := by
  simp only [nx, hq, hi]
theorem xR_iconst (hg : (g || !cu pc) = true) {x : Int} (hq : tMth tb k = some q) (hi : mC q pc = some (.iconst x, n)) (h : xRC tb tyl ot dp k cu false (pc + 1) L (.inl (dKc dC (Int32.ofInt x)) :: S) H cn sn o) : xRC tb tyl ot dp k cu g pc L S H cn sn o := xRC_step hg (xN_iconst (x := x) hq hi) (fun _ _ h => xT_iconst (x := x) hq hi h) h
theorem xN_bipush {x : _} (hq : tMth tb k = some q) (hi : mC q pc = some (.bipush x, n)) : nx tb tyl ot k pc L S H cn sn = some ((pc + 2), L, (.inl (dKc dC (Int8.ofInt x).toInt32) :: S), H, cn, sn) := by
  simp only [nx, hq, hi]
theorem xR_bipush (hg : (g || !cu pc) = true) {x : _} (hq : tMth tb k = some q) (hi : mC q pc = some (.bipush x, n)) (h : xRC tb tyl ot dp k cu false (pc + 2) L (.inl (dKc dC (Int8.ofInt x).toInt32) :: S) H cn sn o) : xRC tb tyl ot dp k cu g pc L S H cn sn o := xRC_step hg (xN_bipush (x := x) hq hi) (fun _ _ h => xT_bipush (x := x) hq hi h) h
theorem xN_sipush {x : _} (hq : tMth tb k = some q) (hi : mC q pc = some (.sipush x, n)) : nx tb tyl ot k pc L S H cn sn = some ((pc + 3), L, (.inl (dKc dC (Int16.ofInt x).toInt32) :: S), H, cn, sn) := by
  simp only [nx, hq, hi]
theorem xR_sipush (hg : (g || !cu pc) = true) {x : _} (hq : tMth tb k = some q) (hi : mC q pc = some (.sipush x, n)) (h : xRC tb tyl ot dp k cu false (pc + 3) L (.inl (dKc dC (Int16.ofInt x).toInt32) :: S) H cn sn o) : xRC tb tyl ot dp k cu g pc L S H cn sn o := xRC_step hg (xN_sipush (x := x) hq hi) (fun _ _ h => xT_sipush (x := x) hq hi h) h
theorem xN_ldc {ix : _} {x : Int32} (hq : tMth tb k = some q) (hi : mC q pc = some (.ldc ix, n)) (h1 : tLi tb (mO q) ix = some x) : nx tb tyl ot k pc L S H cn sn = some ((pc + 2), L, (.inl (dKc dC x) :: S), H, cn, sn) := by
  simp only [nx, hq, hi, h1]
theorem xR_ldc (hg : (g || !cu pc) = true) {ix : _} {x : Int32} (hq : tMth tb k = some q) (hi : mC q pc = some (.ldc ix, n)) (h1 : tLi tb (mO q) ix = some x) (h : xRC tb tyl ot dp k cu false (pc + 2) L (.inl (dKc dC x) :: S) H cn sn o) : xRC tb tyl ot dp k cu g pc L S H cn sn o := xRC_step hg (xN_ldc (ix := ix) (x := x) hq hi h1) (fun _ _ h => xT_ldc (ix := ix) (x := x) hq hi h1 h) h
theorem xN_ldcT {ix : _} {a : Nat} (hq : tMth tb k = some q) (hi : mC q pc = some (.ldc ix, n)) (h1 : tLi tb (mO q) ix = none) (h2 : oSl ot (mO q) ix = some a) : nx tb tyl ot k pc L S H cn sn = some ((pc + 2), L, (.inr (some a) :: S), H, cn, sn) := by
  simp only [nx, hq, hi, h1, h2]
theorem xR_ldcT (hg : (g || !cu pc) = true) {ix : _} {a : Nat} (hq : tMth tb k = some q) (hi : mC q pc = some (.ldc ix, n)) (h1 : tLi tb (mO q) ix = none) (h2 : oSl ot (mO q) ix = some a) (h : xRC tb tyl ot dp k cu false (pc + 2) L (.inr (some a) :: S) H cn sn o) : xRC tb tyl ot dp k cu g pc L S H cn sn o := xRC_step hg (xN_ldcT (ix := ix) (a := a) hq hi h1 h2) (fun _ _ h => xT_ldcT (ix := ix) (a := a) hq hi h1 h2 h) h
theorem xN_ldc_w {ix : _} {x : Int32} (hq : tMth tb k = some q) (hi : mC q pc = some (.ldc_w ix, n)) (h1 : tLi tb (mO q) ix = some x) : nx tb tyl ot k pc L S H cn sn = some ((pc + 3), L, (.inl (dKc dC x) :: S), H, cn, sn) := by
  simp only [nx, hq, hi, h1]
theorem xR_ldc_w (hg : (g || !cu pc) = true) {ix : _} {x : Int32} (hq : tMth tb k = some q) (hi : mC q pc = some (.ldc_w ix, n)) (h1 : tLi tb (mO q) ix = some x) (h : xRC tb tyl ot dp k cu false (pc + 3) L (.inl (dKc dC x) :: S) H cn sn o) : xRC tb tyl ot dp k cu g pc L S H cn sn o := xRC_step hg (xN_ldc_w (ix := ix) (x := x) hq hi h1) (fun _ _ h => xT_ldc_w (ix := ix) (x := x) hq hi h1 h) h
theorem xN_ldc_wT {ix : _} {a : Nat} (hq : tMth tb k = some q) (hi : mC q pc = some (.ldc_w ix, n)) (h1 : tLi tb (mO q) ix = none) (h2 : oSl ot (mO q) ix = some a) : nx tb tyl ot k pc L S H cn sn = some ((pc + 3), L, (.inr (some a) :: S), H, cn, sn) := by
  simp only [nx, hq, hi, h1, h2]
theorem xR_ldc_wT (hg : (g || !cu pc) = true) {ix : _} {a : Nat} (hq : tMth tb k = some q) (hi : mC q pc = some (.ldc_w ix, n)) (h1 : tLi tb (mO q) ix = none) (h2 : oSl ot (mO q) ix = some a) (h : xRC tb tyl ot dp k cu false (pc + 3) L (.inr (some a) :: S) H cn sn o) : xRC tb tyl ot dp k cu g pc L S H cn sn o := xRC_step hg (xN_ldc_wT (ix := ix) (a := a) hq hi h1 h2) (fun _ _ h => xT_ldc_wT (ix := ix) (a := a) hq hi h1 h2 h) h
theorem xN_l3 {a b e u : Int32} {j j0 ix j2 ob y ci fj c2 : Nat} {fs vs : List (XV Int32)} (hq : tMth tb k = some q) (hi : mC q pc = some (.i2l, n)) (h0 : x_lq q pc = some (j, j0, ix, j2)) (h1 : x_lk L j = some (.inl b)) (h2 : x_lk L j0 = some (.inr (some ob))) (h3 : x_lk L j2 = some (.inl e)) (h4 : tFld tb (mO q) ix = some (ci, fj)) (h5 : H[ob]? = some (.inl (c2, fs))) (h6 : c2 = ci) (h7 : fs[fj]? = some (.inr (some y))) (h8 : H[y]? = some (.inr (0, vs))) (h9 : (decide (e < 0) || decide (vs.length ≤ e.toNatClampNeg)) = false) (h10 : vs[e.toNatClampNeg]? = some (.inl u)) : nx tb tyl ot k pc L (.inl a :: S) H cn sn = some ((pc + 13), L, (.inl (x_l3 a b u) :: S), H, cn, sn) := by
  simp only [nx, hq, hi, h0, h1, h2, h3, h4, h5, h6, h7, h8, h9, h10, decide_true, dC_kst, Bool.false_eq_true, if_false, show ∀ z : Int32, dKc dC z = z from fun _ => rfl]
theorem xR_l3 (hg : (g || !cu pc) = true) {a b e u : Int32} {j j0 ix j2 ob y ci fj c2 : Nat} {fs vs : List (XV Int32)} (hq : tMth tb k = some q) (hi : mC q pc = some (.i2l, n)) (h0 : x_lq q pc = some (j, j0, ix, j2)) (h1 : x_lk L j = some (.inl b)) (h2 : x_lk L j0 = some (.inr (some ob))) (h3 : x_lk L j2 = some (.inl e)) (h4 : tFld tb (mO q) ix = some (ci, fj)) (h5 : H[ob]? = some (.inl (c2, fs))) (h6 : c2 = ci) (h7 : fs[fj]? = some (.inr (some y))) (h8 : H[y]? = some (.inr (0, vs))) (h9 : (decide (e < 0) || decide (vs.length ≤ e.toNatClampNeg)) = false) (h10 : vs[e.toNatClampNeg]? = some (.inl u)) (h : xRC tb tyl ot dp k cu false (pc + 13) L (.inl (x_l3 a b u) :: S) H cn sn o) : xRC tb tyl ot dp k cu g pc L (.inl a :: S) H cn sn o := xRC_step hg (xN_l3 (a := a) (b := b) (e := e) (u := u) (j := j) (j0 := j0) (ix := ix) (j2 := j2) (ob := ob) (y := y) (ci := ci) (fj := fj) (c2 := c2) (fs := fs) (vs := vs) hq hi h0 h1 h2 h3 h4 h5 h6 h7 h8 h9 h10) (fun _ _ h => xT_l3 (a := a) (b := b) (e := e) (u := u) (j := j) (j0 := j0) (ix := ix) (j2 := j2) (ob := ob) (y := y) (ci := ci) (fj := fj) (c2 := c2) (fs := fs) (vs := vs) hq hi h0 h1 h2 h3 h4 h5 h6 h7 h8 h9 h10 h) h
theorem xN_aconst_null  (hq : tMth tb k = some q) (hi : mC q pc = some (.aconst_null, n)) : nx tb tyl ot k pc L S H cn sn = some ((pc + 1), L, (.inr none :: S), H, cn, sn) := by
  simp only [nx, hq, hi]
theorem xR_aconst_null (hg : (g || !cu pc) = true)  (hq : tMth tb k = some q) (hi : mC q pc = some (.aconst_null, n)) (h : xRC tb tyl ot dp k cu false (pc + 1) L (.inr none :: S) H cn sn o) : xRC tb tyl ot dp k cu g pc L S H cn sn o := xRC_step hg (xN_aconst_null  hq hi) (fun _ _ h => xT_aconst_null  hq hi h) h
theorem xN_iload_n {j : _} {a : Int32} (hq : tMth tb k = some q) (hi : mC q pc = some (.iload_n j, n)) (h1 : x_lk L j = some (.inl a)) : nx tb tyl ot k pc L S H cn sn = some ((pc + 1), L, (.inl a :: S), H, cn, sn) := by
  simp only [nx, hq, hi, h1]
theorem xR_iload_n (hg : (g || !cu pc) = true) {j : _} {a : Int32} (hq : tMth tb k = some q) (hi : mC q pc = some (.iload_n j, n)) (h1 : x_lk L j = some (.inl a)) (h : xRC tb tyl ot dp k cu false (pc + 1) L (.inl a :: S) H cn sn o) : xRC tb tyl ot dp k cu g pc L S H cn sn o := xRC_step hg (xN_iload_n (j := j) (a := a) hq hi h1) (fun _ _ h => xT_iload_n (j := j) (a := a) hq hi h1 h) h
theorem xN_iload {j : _} {a : Int32} (hq : tMth tb k = some q) (hi : mC q pc = some (.iload j, n)) (h1 : x_lk L j = some (.inl a)) : nx tb tyl ot k pc L S H cn sn = some ((pc + 2), L, (.inl a :: S), H, cn, sn) := by
  simp only [nx, hq, hi, h1]
theorem xR_iload (hg : (g || !cu pc) = true) {j : _} {a : Int32} (hq : tMth tb k = some q) (hi : mC q pc = some (.iload j, n)) (h1 : x_lk L j = some (.inl a)) (h : xRC tb tyl ot dp k cu false (pc + 2) L (.inl a :: S) H cn sn o) : xRC tb tyl ot dp k cu g pc L S H cn sn o := xRC_step hg (xN_iload (j := j) (a := a) hq hi h1) (fun _ _ h => xT_iload (j := j) (a := a) hq hi h1 h) h
theorem xN_aload_n {j : _} {a : Option Nat} (hq : tMth tb k = some q) (hi : mC q pc = some (.aload_n j, n)) (h1 : x_lk L j = some (.inr a)) : nx tb tyl ot k pc L S H cn sn = some ((pc + 1), L, (.inr a :: S), H, cn, sn) := by
  simp only [nx, hq, hi, h1]
theorem xR_aload_n (hg : (g || !cu pc) = true) {j : _} {a : Option Nat} (hq : tMth tb k = some q) (hi : mC q pc = some (.aload_n j, n)) (h1 : x_lk L j = some (.inr a)) (h : xRC tb tyl ot dp k cu false (pc + 1) L (.inr a :: S) H cn sn o) : xRC tb tyl ot dp k cu g pc L S H cn sn o := xRC_step hg (xN_aload_n (j := j) (a := a) hq hi h1) (fun _ _ h => xT_aload_n (j := j) (a := a) hq hi h1 h) h
theorem xN_aload {j : _} {a : Option Nat} (hq : tMth tb k = some q) (hi : mC q pc = some (.aload j, n)) (h1 : x_lk L j = some (.inr a)) : nx tb tyl ot k pc L S H cn sn = some ((pc + 2), L, (.inr a :: S), H, cn, sn) := by
  simp only [nx, hq, hi, h1]
theorem xR_aload (hg : (g || !cu pc) = true) {j : _} {a : Option Nat} (hq : tMth tb k = some q) (hi : mC q pc = some (.aload j, n)) (h1 : x_lk L j = some (.inr a)) (h : xRC tb tyl ot dp k cu false (pc + 2) L (.inr a :: S) H cn sn o) : xRC tb tyl ot dp k cu g pc L S H cn sn o := xRC_step hg (xN_aload (j := j) (a := a) hq hi h1) (fun _ _ h => xT_aload (j := j) (a := a) hq hi h1 h) h
theorem xN_istore_n {j : _} {a : Int32} (hq : tMth tb k = some q) (hi : mC q pc = some (.istore_n j, n)) (h1 : (j : Nat) < mL q) : nx tb tyl ot k pc L (.inl a :: S) H cn sn = some ((pc + 1), (x_st L j (.inl a)), S, H, cn, sn) := by
  simp only [nx, hq, hi, if_pos h1]
theorem xR_istore_n (hg : (g || !cu pc) = true) {j : _} {a : Int32} (hq : tMth tb k = some q) (hi : mC q pc = some (.istore_n j, n)) (h1 : (j : Nat) < mL q) (h : xRC tb tyl ot dp k cu false (pc + 1) (x_st L j (.inl a)) S H cn sn o) : xRC tb tyl ot dp k cu g pc L (.inl a :: S) H cn sn o := xRC_step hg (xN_istore_n (j := j) (a := a) hq hi h1) (fun _ _ h => xT_istore_n (j := j) (a := a) hq hi h1 h) h
theorem xN_istore {j : _} {a : Int32} (hq : tMth tb k = some q) (hi : mC q pc = some (.istore j, n)) (h1 : (j : Nat) < mL q) : nx tb tyl ot k pc L (.inl a :: S) H cn sn = some ((pc + 2), (x_st L j (.inl a)), S, H, cn, sn) := by
  simp only [nx, hq, hi, if_pos h1]
theorem xR_istore (hg : (g || !cu pc) = true) {j : _} {a : Int32} (hq : tMth tb k = some q) (hi : mC q pc = some (.istore j, n)) (h1 : (j : Nat) < mL q) (h : xRC tb tyl ot dp k cu false (pc + 2) (x_st L j (.inl a)) S H cn sn o) : xRC tb tyl ot dp k cu g pc L (.inl a :: S) H cn sn o := xRC_step hg (xN_istore (j := j) (a := a) hq hi h1) (fun _ _ h => xT_istore (j := j) (a := a) hq hi h1 h) h
theorem xN_astore_n {j : _} {a : Option Nat} (hq : tMth tb k = some q) (hi : mC q pc = some (.astore_n j, n)) (h1 : (j : Nat) < mL q) : nx tb tyl ot k pc L (.inr a :: S) H cn sn = some ((pc + 1), (x_st L j (.inr a)), S, H, cn, sn) := by
  simp only [nx, hq, hi, if_pos h1]
theorem xR_astore_n (hg : (g || !cu pc) = true) {j : _} {a : Option Nat} (hq : tMth tb k = some q) (hi : mC q pc = some (.astore_n j, n)) (h1 : (j : Nat) < mL q) (h : xRC tb tyl ot dp k cu false (pc + 1) (x_st L j (.inr a)) S H cn sn o) : xRC tb tyl ot dp k cu g pc L (.inr a :: S) H cn sn o := xRC_step hg (xN_astore_n (j := j) (a := a) hq hi h1) (fun _ _ h => xT_astore_n (j := j) (a := a) hq hi h1 h) h
theorem xN_astore {j : _} {a : Option Nat} (hq : tMth tb k = some q) (hi : mC q pc = some (.astore j, n)) (h1 : (j : Nat) < mL q) : nx tb tyl ot k pc L (.inr a :: S) H cn sn = some ((pc + 2), (x_st L j (.inr a)), S, H, cn, sn) := by
  simp only [nx, hq, hi, if_pos h1]
theorem xR_astore (hg : (g || !cu pc) = true) {j : _} {a : Option Nat} (hq : tMth tb k = some q) (hi : mC q pc = some (.astore j, n)) (h1 : (j : Nat) < mL q) (h : xRC tb tyl ot dp k cu false (pc + 2) (x_st L j (.inr a)) S H cn sn o) : xRC tb tyl ot dp k cu g pc L (.inr a :: S) H cn sn o := xRC_step hg (xN_astore (j := j) (a := a) hq hi h1) (fun _ _ h => xT_astore (j := j) (a := a) hq hi h1 h) h
theorem xN_iinc {j : _} {x : _} {a : Int32} (hq : tMth tb k = some q) (hi : mC q pc = some (.iinc j x, n)) (h1 : x_lk L j = some (.inl a)) (h2 : j < mL q) : nx tb tyl ot k pc L S H cn sn = some ((pc + 3), (x_st L j (.inl (dBin dC 0 a (dKc dC (Int32.ofInt x))))), S, H, cn, sn) := by
  simp only [nx, hq, hi, h1, if_pos h2]
theorem xR_iinc (hg : (g || !cu pc) = true) {j : _} {x : _} {a : Int32} (hq : tMth tb k = some q) (hi : mC q pc = some (.iinc j x, n)) (h1 : x_lk L j = some (.inl a)) (h2 : j < mL q) (h : xRC tb tyl ot dp k cu false (pc + 3) (x_st L j (.inl (dBin dC 0 a (dKc dC (Int32.ofInt x))))) S H cn sn o) : xRC tb tyl ot dp k cu g pc L S H cn sn o := xRC_step hg (xN_iinc (j := j) (x := x) (a := a) hq hi h1 h2) (fun _ _ h => xT_iinc (j := j) (x := x) (a := a) hq hi h1 h2 h) h
theorem xN_dup {a : XV Int32} (hq : tMth tb k = some q) (hi : mC q pc = some (.dup, n)) : nx tb tyl ot k pc L (a :: S) H cn sn = some ((pc + 1), L, (a :: a :: S), H, cn, sn) := by
  simp only [nx, hq, hi]
theorem xR_dup (hg : (g || !cu pc) = true) {a : XV Int32} (hq : tMth tb k = some q) (hi : mC q pc = some (.dup, n)) (h : xRC tb tyl ot dp k cu false (pc + 1) L (a :: a :: S) H cn sn o) : xRC tb tyl ot dp k cu g pc L (a :: S) H cn sn o := xRC_step hg (xN_dup (a := a) hq hi) (fun _ _ h => xT_dup (a := a) hq hi h) h
theorem xN_dup_x1 {a b : XV Int32} (hq : tMth tb k = some q) (hi : mC q pc = some (.dup_x1, n)) : nx tb tyl ot k pc L (a :: b :: S) H cn sn = some ((pc + 1), L, (a :: b :: a :: S), H, cn, sn) := by
  simp only [nx, hq, hi]
theorem xR_dup_x1 (hg : (g || !cu pc) = true) {a b : XV Int32} (hq : tMth tb k = some q) (hi : mC q pc = some (.dup_x1, n)) (h : xRC tb tyl ot dp k cu false (pc + 1) L (a :: b :: a :: S) H cn sn o) : xRC tb tyl ot dp k cu g pc L (a :: b :: S) H cn sn o := xRC_step hg (xN_dup_x1 (a := a) (b := b) hq hi) (fun _ _ h => xT_dup_x1 (a := a) (b := b) hq hi h) h
theorem xN_dup2 {a b : XV Int32} (hq : tMth tb k = some q) (hi : mC q pc = some (.dup2, n)) : nx tb tyl ot k pc L (a :: b :: S) H cn sn = some ((pc + 1), L, (a :: b :: a :: b :: S), H, cn, sn) := by
  simp only [nx, hq, hi]
theorem xR_dup2 (hg : (g || !cu pc) = true) {a b : XV Int32} (hq : tMth tb k = some q) (hi : mC q pc = some (.dup2, n)) (h : xRC tb tyl ot dp k cu false (pc + 1) L (a :: b :: a :: b :: S) H cn sn o) : xRC tb tyl ot dp k cu g pc L (a :: b :: S) H cn sn o := xRC_step hg (xN_dup2 (a := a) (b := b) hq hi) (fun _ _ h => xT_dup2 (a := a) (b := b) hq hi h) h
theorem xN_pop {a : XV Int32} (hq : tMth tb k = some q) (hi : mC q pc = some (.pop, n)) : nx tb tyl ot k pc L (a :: S) H cn sn = some ((pc + 1), L, S, H, cn, sn) := by
  simp only [nx, hq, hi]
theorem xR_pop (hg : (g || !cu pc) = true) {a : XV Int32} (hq : tMth tb k = some q) (hi : mC q pc = some (.pop, n)) (h : xRC tb tyl ot dp k cu false (pc + 1) L S H cn sn o) : xRC tb tyl ot dp k cu g pc L (a :: S) H cn sn o := xRC_step hg (xN_pop (a := a) hq hi) (fun _ _ h => xT_pop (a := a) hq hi h) h
theorem xN_iadd {a b : Int32} (hq : tMth tb k = some q) (hi : mC q pc = some (.iadd, n)) : nx tb tyl ot k pc L (.inl b :: .inl a :: S) H cn sn = some ((pc + 1), L, (.inl (dBin dC 0 a b) :: S), H, cn, sn) := by
  simp only [nx, hq, hi]
theorem xR_iadd (hg : (g || !cu pc) = true) {a b : Int32} (hq : tMth tb k = some q) (hi : mC q pc = some (.iadd, n)) (h : xRC tb tyl ot dp k cu false (pc + 1) L (.inl (dBin dC 0 a b) :: S) H cn sn o) : xRC tb tyl ot dp k cu g pc L (.inl b :: .inl a :: S) H cn sn o := xRC_step hg (xN_iadd (a := a) (b := b) hq hi) (fun _ _ h => xT_iadd (a := a) (b := b) hq hi h) h
theorem xN_isub {a b : Int32} (hq : tMth tb k = some q) (hi : mC q pc = some (.isub, n)) : nx tb tyl ot k pc L (.inl b :: .inl a :: S) H cn sn = some ((pc + 1), L, (.inl (dBin dC 1 a b) :: S), H, cn, sn) := by
  simp only [nx, hq, hi]
theorem xR_isub (hg : (g || !cu pc) = true) {a b : Int32} (hq : tMth tb k = some q) (hi : mC q pc = some (.isub, n)) (h : xRC tb tyl ot dp k cu false (pc + 1) L (.inl (dBin dC 1 a b) :: S) H cn sn o) : xRC tb tyl ot dp k cu g pc L (.inl b :: .inl a :: S) H cn sn o := xRC_step hg (xN_isub (a := a) (b := b) hq hi) (fun _ _ h => xT_isub (a := a) (b := b) hq hi h) h
theorem xN_imul {a b : Int32} (hq : tMth tb k = some q) (hi : mC q pc = some (.imul, n)) : nx tb tyl ot k pc L (.inl b :: .inl a :: S) H cn sn = some ((pc + 1), L, (.inl (dBin dC 2 a b) :: S), H, cn, sn) := by
  simp only [nx, hq, hi]
theorem xR_imul (hg : (g || !cu pc) = true) {a b : Int32} (hq : tMth tb k = some q) (hi : mC q pc = some (.imul, n)) (h : xRC tb tyl ot dp k cu false (pc + 1) L (.inl (dBin dC 2 a b) :: S) H cn sn o) : xRC tb tyl ot dp k cu g pc L (.inl b :: .inl a :: S) H cn sn o := xRC_step hg (xN_imul (a := a) (b := b) hq hi) (fun _ _ h => xT_imul (a := a) (b := b) hq hi h) h
theorem xN_iand {a b : Int32} (hq : tMth tb k = some q) (hi : mC q pc = some (.iand, n)) : nx tb tyl ot k pc L (.inl b :: .inl a :: S) H cn sn = some ((pc + 1), L, (.inl (dBin dC 3 a b) :: S), H, cn, sn) := by
  simp only [nx, hq, hi]
theorem xR_iand (hg : (g || !cu pc) = true) {a b : Int32} (hq : tMth tb k = some q) (hi : mC q pc = some (.iand, n)) (h : xRC tb tyl ot dp k cu false (pc + 1) L (.inl (dBin dC 3 a b) :: S) H cn sn o) : xRC tb tyl ot dp k cu g pc L (.inl b :: .inl a :: S) H cn sn o := xRC_step hg (xN_iand (a := a) (b := b) hq hi) (fun _ _ h => xT_iand (a := a) (b := b) hq hi h) h
theorem xN_ior {a b : Int32} (hq : tMth tb k = some q) (hi : mC q pc = some (.ior, n)) : nx tb tyl ot k pc L (.inl b :: .inl a :: S) H cn sn = some ((pc + 1), L, (.inl (dBin dC 4 a b) :: S), H, cn, sn) := by
  simp only [nx, hq, hi]
theorem xR_ior (hg : (g || !cu pc) = true) {a b : Int32} (hq : tMth tb k = some q) (hi : mC q pc = some (.ior, n)) (h : xRC tb tyl ot dp k cu false (pc + 1) L (.inl (dBin dC 4 a b) :: S) H cn sn o) : xRC tb tyl ot dp k cu g pc L (.inl b :: .inl a :: S) H cn sn o := xRC_step hg (xN_ior (a := a) (b := b) hq hi) (fun _ _ h => xT_ior (a := a) (b := b) hq hi h) h
theorem xN_ixor {a b : Int32} (hq : tMth tb k = some q) (hi : mC q pc = some (.ixor, n)) : nx tb tyl ot k pc L (.inl b :: .inl a :: S) H cn sn = some ((pc + 1), L, (.inl (dBin dC 5 a b) :: S), H, cn, sn) := by
  simp only [nx, hq, hi]
theorem xR_ixor (hg : (g || !cu pc) = true) {a b : Int32} (hq : tMth tb k = some q) (hi : mC q pc = some (.ixor, n)) (h : xRC tb tyl ot dp k cu false (pc + 1) L (.inl (dBin dC 5 a b) :: S) H cn sn o) : xRC tb tyl ot dp k cu g pc L (.inl b :: .inl a :: S) H cn sn o := xRC_step hg (xN_ixor (a := a) (b := b) hq hi) (fun _ _ h => xT_ixor (a := a) (b := b) hq hi h) h
theorem xN_ishl {a b : Int32} (hq : tMth tb k = some q) (hi : mC q pc = some (.ishl, n)) : nx tb tyl ot k pc L (.inl b :: .inl a :: S) H cn sn = some ((pc + 1), L, (.inl (dBin dC 6 a b) :: S), H, cn, sn) := by
  simp only [nx, hq, hi]
theorem xR_ishl (hg : (g || !cu pc) = true) {a b : Int32} (hq : tMth tb k = some q) (hi : mC q pc = some (.ishl, n)) (h : xRC tb tyl ot dp k cu false (pc + 1) L (.inl (dBin dC 6 a b) :: S) H cn sn o) : xRC tb tyl ot dp k cu g pc L (.inl b :: .inl a :: S) H cn sn o := xRC_step hg (xN_ishl (a := a) (b := b) hq hi) (fun _ _ h => xT_ishl (a := a) (b := b) hq hi h) h
theorem xN_ishr {a b : Int32} (hq : tMth tb k = some q) (hi : mC q pc = some (.ishr, n)) : nx tb tyl ot k pc L (.inl b :: .inl a :: S) H cn sn = some ((pc + 1), L, (.inl (dBin dC 7 a b) :: S), H, cn, sn) := by
  simp only [nx, hq, hi]
theorem xR_ishr (hg : (g || !cu pc) = true) {a b : Int32} (hq : tMth tb k = some q) (hi : mC q pc = some (.ishr, n)) (h : xRC tb tyl ot dp k cu false (pc + 1) L (.inl (dBin dC 7 a b) :: S) H cn sn o) : xRC tb tyl ot dp k cu g pc L (.inl b :: .inl a :: S) H cn sn o := xRC_step hg (xN_ishr (a := a) (b := b) hq hi) (fun _ _ h => xT_ishr (a := a) (b := b) hq hi h) h
theorem xN_iushr {a b : Int32} (hq : tMth tb k = some q) (hi : mC q pc = some (.iushr, n)) : nx tb tyl ot k pc L (.inl b :: .inl a :: S) H cn sn = some ((pc + 1), L, (.inl (dBin dC 10 a b) :: S), H, cn, sn) := by
  simp only [nx, hq, hi]
theorem xR_iushr (hg : (g || !cu pc) = true) {a b : Int32} (hq : tMth tb k = some q) (hi : mC q pc = some (.iushr, n)) (h : xRC tb tyl ot dp k cu false (pc + 1) L (.inl (dBin dC 10 a b) :: S) H cn sn o) : xRC tb tyl ot dp k cu g pc L (.inl b :: .inl a :: S) H cn sn o := xRC_step hg (xN_iushr (a := a) (b := b) hq hi) (fun _ _ h => xT_iushr (a := a) (b := b) hq hi h) h
theorem xN_idiv {a b : Int32} (hq : tMth tb k = some q) (hi : mC q pc = some (.idiv, n)) (h1 : x_cmp 0 b (dKc dC 0) = false) : nx tb tyl ot k pc L (.inl b :: .inl a :: S) H cn sn = some ((pc + 1), L, (.inl (dBin dC 8 a b) :: S), H, cn, sn) := by
  simp only [nx, hq, hi, h1, Bool.false_eq_true, if_false, if_true]
theorem xR_idiv (hg : (g || !cu pc) = true) {a b : Int32} (hq : tMth tb k = some q) (hi : mC q pc = some (.idiv, n)) (h1 : x_cmp 0 b (dKc dC 0) = false) (h : xRC tb tyl ot dp k cu false (pc + 1) L (.inl (dBin dC 8 a b) :: S) H cn sn o) : xRC tb tyl ot dp k cu g pc L (.inl b :: .inl a :: S) H cn sn o := xRC_step hg (xN_idiv (a := a) (b := b) hq hi h1) (fun _ _ h => xT_idiv (a := a) (b := b) hq hi h1 h) h
theorem xN_irem {a b : Int32} (hq : tMth tb k = some q) (hi : mC q pc = some (.irem, n)) (h1 : x_cmp 0 b (dKc dC 0) = false) : nx tb tyl ot k pc L (.inl b :: .inl a :: S) H cn sn = some ((pc + 1), L, (.inl (dBin dC 9 a b) :: S), H, cn, sn) := by
  simp only [nx, hq, hi, h1, Bool.false_eq_true, if_false, if_true]
theorem xR_irem (hg : (g || !cu pc) = true) {a b : Int32} (hq : tMth tb k = some q) (hi : mC q pc = some (.irem, n)) (h1 : x_cmp 0 b (dKc dC 0) = false) (h : xRC tb tyl ot dp k cu false (pc + 1) L (.inl (dBin dC 9 a b) :: S) H cn sn o) : xRC tb tyl ot dp k cu g pc L (.inl b :: .inl a :: S) H cn sn o := xRC_step hg (xN_irem (a := a) (b := b) hq hi h1) (fun _ _ h => xT_irem (a := a) (b := b) hq hi h1 h) h
theorem xN_i2b {a : Int32} (hq : tMth tb k = some q) (hi : mC q pc = some (.i2b, n)) : nx tb tyl ot k pc L (.inl a :: S) H cn sn = some ((pc + 1), L, (.inl (dUn dC 0 a) :: S), H, cn, sn) := by
  simp only [nx, hq, hi]
theorem xR_i2b (hg : (g || !cu pc) = true) {a : Int32} (hq : tMth tb k = some q) (hi : mC q pc = some (.i2b, n)) (h : xRC tb tyl ot dp k cu false (pc + 1) L (.inl (dUn dC 0 a) :: S) H cn sn o) : xRC tb tyl ot dp k cu g pc L (.inl a :: S) H cn sn o := xRC_step hg (xN_i2b (a := a) hq hi) (fun _ _ h => xT_i2b (a := a) hq hi h) h
theorem xN_i2s {a : Int32} (hq : tMth tb k = some q) (hi : mC q pc = some (.i2s, n)) : nx tb tyl ot k pc L (.inl a :: S) H cn sn = some ((pc + 1), L, (.inl (dUn dC 1 a) :: S), H, cn, sn) := by
  simp only [nx, hq, hi]
theorem xR_i2s (hg : (g || !cu pc) = true) {a : Int32} (hq : tMth tb k = some q) (hi : mC q pc = some (.i2s, n)) (h : xRC tb tyl ot dp k cu false (pc + 1) L (.inl (dUn dC 1 a) :: S) H cn sn o) : xRC tb tyl ot dp k cu g pc L (.inl a :: S) H cn sn o := xRC_step hg (xN_i2s (a := a) hq hi) (fun _ _ h => xT_i2s (a := a) hq hi h) h
theorem xN_i2c {a : Int32} (hq : tMth tb k = some q) (hi : mC q pc = some (.i2c, n)) : nx tb tyl ot k pc L (.inl a :: S) H cn sn = some ((pc + 1), L, (.inl (dUn dC 2 a) :: S), H, cn, sn) := by
  simp only [nx, hq, hi]
theorem xR_i2c (hg : (g || !cu pc) = true) {a : Int32} (hq : tMth tb k = some q) (hi : mC q pc = some (.i2c, n)) (h : xRC tb tyl ot dp k cu false (pc + 1) L (.inl (dUn dC 2 a) :: S) H cn sn o) : xRC tb tyl ot dp k cu g pc L (.inl a :: S) H cn sn o := xRC_step hg (xN_i2c (a := a) hq hi) (fun _ _ h => xT_i2c (a := a) hq hi h) h
theorem xN_ineg {a : Int32} (hq : tMth tb k = some q) (hi : mC q pc = some (.ineg, n)) : nx tb tyl ot k pc L (.inl a :: S) H cn sn = some ((pc + 1), L, (.inl (dUn dC 3 a) :: S), H, cn, sn) := by
  simp only [nx, hq, hi]
theorem xR_ineg (hg : (g || !cu pc) = true) {a : Int32} (hq : tMth tb k = some q) (hi : mC q pc = some (.ineg, n)) (h : xRC tb tyl ot dp k cu false (pc + 1) L (.inl (dUn dC 3 a) :: S) H cn sn o) : xRC tb tyl ot dp k cu g pc L (.inl a :: S) H cn sn o := xRC_step hg (xN_ineg (a := a) hq hi) (fun _ _ h => xT_ineg (a := a) hq hi h) h
theorem xN_goto {x : _} {t : Nat} (hq : tMth tb k = some q) (hi : mC q pc = some (.goto x, n)) (h1 : x_jp pc x = some t) : nx tb tyl ot k pc L S H cn sn = some (t, L, S, H, cn, sn) := by
  simp only [nx, hq, hi, h1]
theorem xR_goto (hg : (g || !cu pc) = true) {x : _} {t : Nat} (hq : tMth tb k = some q) (hi : mC q pc = some (.goto x, n)) (h1 : x_jp pc x = some t) (h : xRC tb tyl ot dp k cu false t L S H cn sn o) : xRC tb tyl ot dp k cu g pc L S H cn sn o := xRC_step hg (xN_goto (x := x) (t := t) hq hi h1) (fun _ _ h => xT_goto (x := x) (t := t) hq hi h1 h) h
theorem xN_ifCondY {c : _} {x : _} {t : Nat} {a : Int32} (hq : tMth tb k = some q) (hi : mC q pc = some (.ifCond c x, n)) (h0 : x_jp pc x = some t) (h1 : x_cmp (x_cn c) a (dKc dC 0) = true) : nx tb tyl ot k pc L (.inl a :: S) H cn sn = some (t, L, S, H, cn, sn) := by
  simp only [nx, hq, hi, h0, h1, Bool.false_eq_true, if_false, if_true]
theorem xR_ifCondY (hg : (g || !cu pc) = true) {c : _} {x : _} {t : Nat} {a : Int32} (hq : tMth tb k = some q) (hi : mC q pc = some (.ifCond c x, n)) (h0 : x_jp pc x = some t) (h1 : x_cmp (x_cn c) a (dKc dC 0) = true) (h : xRC tb tyl ot dp k cu false t L S H cn sn o) : xRC tb tyl ot dp k cu g pc L (.inl a :: S) H cn sn o := xRC_step hg (xN_ifCondY (c := c) (x := x) (t := t) (a := a) hq hi h0 h1) (fun _ _ h => xT_ifCondY (c := c) (x := x) (t := t) (a := a) hq hi h0 h1 h) h
theorem xN_if_icmpY {c : _} {x : _} {t : Nat} {a b : Int32} (hq : tMth tb k = some q) (hi : mC q pc = some (.if_icmp c x, n)) (h0 : x_jp pc x = some t) (h1 : x_cmp (x_cn c) a b = true) : nx tb tyl ot k pc L (.inl b :: .inl a :: S) H cn sn = some (t, L, S, H, cn, sn) := by
  simp only [nx, hq, hi, h0, h1, Bool.false_eq_true, if_false, if_true]
theorem xR_if_icmpY (hg : (g || !cu pc) = true) {c : _} {x : _} {t : Nat} {a b : Int32} (hq : tMth tb k = some q) (hi : mC q pc = some (.if_icmp c x, n)) (h0 : x_jp pc x = some t) (h1 : x_cmp (x_cn c) a b = true) (h : xRC tb tyl ot dp k cu false t L S H cn sn o) : xRC tb tyl ot dp k cu g pc L (.inl b :: .inl a :: S) H cn sn o := xRC_step hg (xN_if_icmpY (c := c) (x := x) (t := t) (a := a) (b := b) hq hi h0 h1) (fun _ _ h => xT_if_icmpY (c := c) (x := x) (t := t) (a := a) (b := b) hq hi h0 h1 h) h
theorem xN_ifCondN {c : _} {x : _} {t : Nat} {a : Int32} (hq : tMth tb k = some q) (hi : mC q pc = some (.ifCond c x, n)) (h0 : x_jp pc x = some t) (h1 : x_cmp (x_cn c) a (dKc dC 0) = false) : nx tb tyl ot k pc L (.inl a :: S) H cn sn = some ((pc + 3), L, S, H, cn, sn) := by
  simp only [nx, hq, hi, h0, h1, Bool.false_eq_true, if_false, if_true]
theorem xR_ifCondN (hg : (g || !cu pc) = true) {c : _} {x : _} {t : Nat} {a : Int32} (hq : tMth tb k = some q) (hi : mC q pc = some (.ifCond c x, n)) (h0 : x_jp pc x = some t) (h1 : x_cmp (x_cn c) a (dKc dC 0) = false) (h : xRC tb tyl ot dp k cu false (pc + 3) L S H cn sn o) : xRC tb tyl ot dp k cu g pc L (.inl a :: S) H cn sn o := xRC_step hg (xN_ifCondN (c := c) (x := x) (t := t) (a := a) hq hi h0 h1) (fun _ _ h => xT_ifCondN (c := c) (x := x) (t := t) (a := a) hq hi h0 h1 h) h
theorem xN_if_icmpN {c : _} {x : _} {t : Nat} {a b : Int32} (hq : tMth tb k = some q) (hi : mC q pc = some (.if_icmp c x, n)) (h0 : x_jp pc x = some t) (h1 : x_cmp (x_cn c) a b = false) : nx tb tyl ot k pc L (.inl b :: .inl a :: S) H cn sn = some ((pc + 3), L, S, H, cn, sn) := by
  simp only [nx, hq, hi, h0, h1, Bool.false_eq_true, if_false, if_true]
theorem xR_if_icmpN (hg : (g || !cu pc) = true) {c : _} {x : _} {t : Nat} {a b : Int32} (hq : tMth tb k = some q) (hi : mC q pc = some (.if_icmp c x, n)) (h0 : x_jp pc x = some t) (h1 : x_cmp (x_cn c) a b = false) (h : xRC tb tyl ot dp k cu false (pc + 3) L S H cn sn o) : xRC tb tyl ot dp k cu g pc L (.inl b :: .inl a :: S) H cn sn o := xRC_step hg (xN_if_icmpN (c := c) (x := x) (t := t) (a := a) (b := b) hq hi h0 h1) (fun _ _ h => xT_if_icmpN (c := c) (x := x) (t := t) (a := a) (b := b) hq hi h0 h1 h) h
theorem xN_ifnull0 {x : _} {t : Nat} (hq : tMth tb k = some q) (hi : mC q pc = some (.ifnull x, n)) (h0 : x_jp pc x = some t) : nx tb tyl ot k pc L (.inr none :: S) H cn sn = some (t, L, S, H, cn, sn) := by
  simp only [nx, hq, hi, h0]
theorem xR_ifnull0 (hg : (g || !cu pc) = true) {x : _} {t : Nat} (hq : tMth tb k = some q) (hi : mC q pc = some (.ifnull x, n)) (h0 : x_jp pc x = some t) (h : xRC tb tyl ot dp k cu false t L S H cn sn o) : xRC tb tyl ot dp k cu g pc L (.inr none :: S) H cn sn o := xRC_step hg (xN_ifnull0 (x := x) (t := t) hq hi h0) (fun _ _ h => xT_ifnull0 (x := x) (t := t) hq hi h0 h) h
theorem xN_ifnull1 {x : _} {t a : Nat} (hq : tMth tb k = some q) (hi : mC q pc = some (.ifnull x, n)) (h0 : x_jp pc x = some t) : nx tb tyl ot k pc L (.inr (some a) :: S) H cn sn = some ((pc + 3), L, S, H, cn, sn) := by
  simp only [nx, hq, hi, h0]
theorem xR_ifnull1 (hg : (g || !cu pc) = true) {x : _} {t a : Nat} (hq : tMth tb k = some q) (hi : mC q pc = some (.ifnull x, n)) (h0 : x_jp pc x = some t) (h : xRC tb tyl ot dp k cu false (pc + 3) L S H cn sn o) : xRC tb tyl ot dp k cu g pc L (.inr (some a) :: S) H cn sn o := xRC_step hg (xN_ifnull1 (x := x) (t := t) (a := a) hq hi h0) (fun _ _ h => xT_ifnull1 (x := x) (t := t) (a := a) hq hi h0 h) h
theorem xN_ifnonnull0 {x : _} {t : Nat} (hq : tMth tb k = some q) (hi : mC q pc = some (.ifnonnull x, n)) (h0 : x_jp pc x = some t) : nx tb tyl ot k pc L (.inr none :: S) H cn sn = some ((pc + 3), L, S, H, cn, sn) := by
  simp only [nx, hq, hi, h0]
theorem xR_ifnonnull0 (hg : (g || !cu pc) = true) {x : _} {t : Nat} (hq : tMth tb k = some q) (hi : mC q pc = some (.ifnonnull x, n)) (h0 : x_jp pc x = some t) (h : xRC tb tyl ot dp k cu false (pc + 3) L S H cn sn o) : xRC tb tyl ot dp k cu g pc L (.inr none :: S) H cn sn o := xRC_step hg (xN_ifnonnull0 (x := x) (t := t) hq hi h0) (fun _ _ h => xT_ifnonnull0 (x := x) (t := t) hq hi h0 h) h
theorem xN_ifnonnull1 {x : _} {t a : Nat} (hq : tMth tb k = some q) (hi : mC q pc = some (.ifnonnull x, n)) (h0 : x_jp pc x = some t) : nx tb tyl ot k pc L (.inr (some a) :: S) H cn sn = some (t, L, S, H, cn, sn) := by
  simp only [nx, hq, hi, h0]
theorem xR_ifnonnull1 (hg : (g || !cu pc) = true) {x : _} {t a : Nat} (hq : tMth tb k = some q) (hi : mC q pc = some (.ifnonnull x, n)) (h0 : x_jp pc x = some t) (h : xRC tb tyl ot dp k cu false t L S H cn sn o) : xRC tb tyl ot dp k cu g pc L (.inr (some a) :: S) H cn sn o := xRC_step hg (xN_ifnonnull1 (x := x) (t := t) (a := a) hq hi h0) (fun _ _ h => xT_ifnonnull1 (x := x) (t := t) (a := a) hq hi h0 h) h
theorem xN_tableswitch {df lo up : Int} {os : _} {t : Nat} {a : Int32} (hq : tMth tb k = some q) (hi : mC q pc = some (.tableswitch df lo up os, n)) (h0 : up + 1 = lo + os.size) (h1 : x_swk (x_tp lo os.toList) = true) (h2 : x_jp pc (x_swo a df (x_tp lo os.toList)) = some t) : nx tb tyl ot k pc L (.inl a :: S) H cn sn = some (t, L, S, H, cn, sn) := by
  simp only [nx, hq, hi, if_pos h0, h1, if_true, h2]
theorem xR_tableswitch (hg : (g || !cu pc) = true) {df lo up : Int} {os : _} {t : Nat} {a : Int32} (hq : tMth tb k = some q) (hi : mC q pc = some (.tableswitch df lo up os, n)) (h0 : up + 1 = lo + os.size) (h1 : x_swk (x_tp lo os.toList) = true) (h2 : x_jp pc (x_swo a df (x_tp lo os.toList)) = some t) (h : xRC tb tyl ot dp k cu false t L S H cn sn o) : xRC tb tyl ot dp k cu g pc L (.inl a :: S) H cn sn o := xRC_step hg (xN_tableswitch (df := df) (lo := lo) (up := up) (os := os) (t := t) (a := a) hq hi h0 h1 h2) (fun _ _ h => xT_tableswitch (df := df) (lo := lo) (up := up) (os := os) (t := t) (a := a) hq hi h0 h1 h2 h) h
theorem xN_lookupswitch {df : Int} {ps : _} {t : Nat} {a : Int32} (hq : tMth tb k = some q) (hi : mC q pc = some (.lookupswitch df ps, n)) (h0 : (ps.toList.zip (ps.toList.drop 1)).all (fun (a, next) => a.1 < next.1) = true) (h1 : x_swk ps.toList = true) (h2 : x_jp pc (x_swo a df ps.toList) = some t) : nx tb tyl ot k pc L (.inl a :: S) H cn sn = some (t, L, S, H, cn, sn) := by
  simp only [nx, hq, hi, if_pos h0, h1, if_true, h2]
theorem xR_lookupswitch (hg : (g || !cu pc) = true) {df : Int} {ps : _} {t : Nat} {a : Int32} (hq : tMth tb k = some q) (hi : mC q pc = some (.lookupswitch df ps, n)) (h0 : (ps.toList.zip (ps.toList.drop 1)).all (fun (a, next) => a.1 < next.1) = true) (h1 : x_swk ps.toList = true) (h2 : x_jp pc (x_swo a df ps.toList) = some t) (h : xRC tb tyl ot dp k cu false t L S H cn sn o) : xRC tb tyl ot dp k cu g pc L (.inl a :: S) H cn sn o := xRC_step hg (xN_lookupswitch (df := df) (ps := ps) (t := t) (a := a) hq hi h0 h1 h2) (fun _ _ h => xT_lookupswitch (df := df) (ps := ps) (t := t) (a := a) hq hi h0 h1 h2 h) h
theorem xN_getfield {ix a ci j c2 : Nat} {fs : List (XV Int32)} {u : XV Int32} (hq : tMth tb k = some q) (hi : mC q pc = some (.getfield ix, n)) (h0 : ¬ 1000000 < a) (h1 : tFld tb (mO q) ix = some (ci, j)) (h2 : H[a]? = some (.inl (c2, fs))) (h3 : c2 = ci) (h4 : fs[j]? = some u) : nx tb tyl ot k pc L (.inr (some a) :: S) H cn sn = some ((pc + 3), L, (u :: S), H, cn, sn) := by
  simp only [nx, hq, hi, if_neg h0, h1, h2, h3, h4, decide_true]
theorem xR_getfield (hg : (g || !cu pc) = true) {ix a ci j c2 : Nat} {fs : List (XV Int32)} {u : XV Int32} (hq : tMth tb k = some q) (hi : mC q pc = some (.getfield ix, n)) (h0 : ¬ 1000000 < a) (h1 : tFld tb (mO q) ix = some (ci, j)) (h2 : H[a]? = some (.inl (c2, fs))) (h3 : c2 = ci) (h4 : fs[j]? = some u) (h : xRC tb tyl ot dp k cu false (pc + 3) L (u :: S) H cn sn o) : xRC tb tyl ot dp k cu g pc L (.inr (some a) :: S) H cn sn o := xRC_step hg (xN_getfield (ix := ix) (a := a) (ci := ci) (j := j) (c2 := c2) (fs := fs) (u := u) hq hi h0 h1 h2 h3 h4) (fun _ _ h => xT_getfield (ix := ix) (a := a) (ci := ci) (j := j) (c2 := c2) (fs := fs) (u := u) hq hi h0 h1 h2 h3 h4 h) h
theorem xN_getfieldO {ix a : Nat} {u : _} (hq : tMth tb k = some q) (hi : mC q pc = some (.getfield ix, n)) (h0 : 1000000 < a) (h1 : oFl ot a (mO q) ix = some u) : nx tb tyl ot k pc L (.inr (some a) :: S) H cn sn = some ((pc + 3), L, (x_ov dC u :: S), H, cn, sn) := by
  simp only [nx, hq, hi, if_pos h0, h1]
theorem xR_getfieldO (hg : (g || !cu pc) = true) {ix a : Nat} {u : _} (hq : tMth tb k = some q) (hi : mC q pc = some (.getfield ix, n)) (h0 : 1000000 < a) (h1 : oFl ot a (mO q) ix = some u) (h : xRC tb tyl ot dp k cu false (pc + 3) L (x_ov dC u :: S) H cn sn o) : xRC tb tyl ot dp k cu g pc L (.inr (some a) :: S) H cn sn o := xRC_step hg (xN_getfieldO (ix := ix) (a := a) (u := u) hq hi h0 h1) (fun _ _ h => xT_getfieldO (ix := ix) (a := a) (u := u) hq hi h0 h1 h) h
theorem xN_getstatic {ix : Nat} {u : _} (hq : tMth tb k = some q) (hi : mC q pc = some (.getstatic ix, n)) (h1 : oGs ot (mO q) ix = some u) : nx tb tyl ot k pc L S H cn sn = some ((pc + 3), L, (x_ov dC u :: S), H, cn, sn) := by
  simp only [nx, hq, hi, h1]
theorem xR_getstatic (hg : (g || !cu pc) = true) {ix : Nat} {u : _} (hq : tMth tb k = some q) (hi : mC q pc = some (.getstatic ix, n)) (h1 : oGs ot (mO q) ix = some u) (h : xRC tb tyl ot dp k cu false (pc + 3) L (x_ov dC u :: S) H cn sn o) : xRC tb tyl ot dp k cu g pc L S H cn sn o := xRC_step hg (xN_getstatic (ix := ix) (u := u) hq hi h1) (fun _ _ h => xT_getstatic (ix := ix) (u := u) hq hi h1 h) h
theorem xN_arraylengthS  (hq : tMth tb k = some q) (hi : mC q pc = some (.arraylength, n)) : nx tb tyl ot k pc L (.inr (some 1000000) :: S) H cn sn = some ((pc + 1), L, (.inl (dKc dC (Int32.ofNat (oSn ot))) :: S), H, cn, sn) := by
  simp only [nx, hq, hi, if_true]
theorem xR_arraylengthS (hg : (g || !cu pc) = true)  (hq : tMth tb k = some q) (hi : mC q pc = some (.arraylength, n)) (h : xRC tb tyl ot dp k cu false (pc + 1) L (.inl (dKc dC (Int32.ofNat (oSn ot))) :: S) H cn sn o) : xRC tb tyl ot dp k cu g pc L (.inr (some 1000000) :: S) H cn sn o := xRC_step hg (xN_arraylengthS  hq hi) (fun _ _ h => xT_arraylengthS  hq hi h) h
theorem xN_arraylengthB {a : Nat} {bs : List Int32} (hq : tMth tb k = some q) (hi : mC q pc = some (.arraylength, n)) (h0 : ¬ a = 1000000) (h1 : oBy ot a = some bs) (h2 : 1000000 < a) : nx tb tyl ot k pc L (.inr (some a) :: S) H cn sn = some ((pc + 1), L, (.inl (dKc dC (Int32.ofNat bs.length)) :: S), H, cn, sn) := by
  simp only [nx, hq, hi, if_neg h0, h1, if_pos h2]
theorem xR_arraylengthB (hg : (g || !cu pc) = true) {a : Nat} {bs : List Int32} (hq : tMth tb k = some q) (hi : mC q pc = some (.arraylength, n)) (h0 : ¬ a = 1000000) (h1 : oBy ot a = some bs) (h2 : 1000000 < a) (h : xRC tb tyl ot dp k cu false (pc + 1) L (.inl (dKc dC (Int32.ofNat bs.length)) :: S) H cn sn o) : xRC tb tyl ot dp k cu g pc L (.inr (some a) :: S) H cn sn o := xRC_step hg (xN_arraylengthB (a := a) (bs := bs) hq hi h0 h1 h2) (fun _ _ h => xT_arraylengthB (a := a) (bs := bs) hq hi h0 h1 h2 h) h
theorem xN_putfield {ix a ci j c2 : Nat} {fs : List (XV Int32)} {u : XV Int32} {ty : FieldType × Bool} (hq : tMth tb k = some q) (hi : mC q pc = some (.putfield ix, n)) (h1 : tFld tb (mO q) ix = some (ci, j)) (h2 : H[a]? = some (.inl (c2, fs))) (h3 : (tFt tb ci)[j]? = some ty) (h4 : (decide (c2 = ci) && x_fit dC ty.1 u && decide (j < fs.length) && (!ty.2 || (mI q && decide (mRc q = ci)))) = true) : nx tb tyl ot k pc L (u :: .inr (some a) :: S) H cn sn = some ((pc + 3), L, S, (H.set a (.inl (c2, fs.set j u))), cn, sn) := by
  simp only [nx, hq, hi, h1, h2, h3, h4, if_true]
theorem xR_putfield (hg : (g || !cu pc) = true) {ix a ci j c2 : Nat} {fs : List (XV Int32)} {u : XV Int32} {ty : FieldType × Bool} (hq : tMth tb k = some q) (hi : mC q pc = some (.putfield ix, n)) (h1 : tFld tb (mO q) ix = some (ci, j)) (h2 : H[a]? = some (.inl (c2, fs))) (h3 : (tFt tb ci)[j]? = some ty) (h4 : (decide (c2 = ci) && x_fit dC ty.1 u && decide (j < fs.length) && (!ty.2 || (mI q && decide (mRc q = ci)))) = true) (h : xRC tb tyl ot dp k cu false (pc + 3) L S (H.set a (.inl (c2, fs.set j u))) cn sn o) : xRC tb tyl ot dp k cu g pc L (u :: .inr (some a) :: S) H cn sn o := xRC_step hg (xN_putfield (ix := ix) (a := a) (ci := ci) (j := j) (c2 := c2) (fs := fs) (u := u) (ty := ty) hq hi h1 h2 h3 h4) (fun _ _ h => xT_putfield (ix := ix) (a := a) (ci := ci) (j := j) (c2 := c2) (fs := fs) (u := u) (ty := ty) hq hi h1 h2 h3 h4 h) h
theorem xN_ialoadS {e : Int32} (hq : tMth tb k = some q) (hi : mC q pc = some (.iaload, n)) (h2 : (decide (e < 0) || decide (oSn ot ≤ e.toNatClampNeg)) = false) : nx tb tyl ot k pc L (.inl e :: .inr (some 1000000) :: S) H cn sn = some ((pc + 1), L, (.inl (oSc ot e.toNatClampNeg) :: S), H, cn, sn) := by
  simp only [nx, hq, hi, if_true, h2, Bool.false_eq_true, if_false]
theorem xR_ialoadS (hg : (g || !cu pc) = true) {e : Int32} (hq : tMth tb k = some q) (hi : mC q pc = some (.iaload, n)) (h2 : (decide (e < 0) || decide (oSn ot ≤ e.toNatClampNeg)) = false) (h : xRC tb tyl ot dp k cu false (pc + 1) L (.inl (oSc ot e.toNatClampNeg) :: S) H cn sn o) : xRC tb tyl ot dp k cu g pc L (.inl e :: .inr (some 1000000) :: S) H cn sn o := xRC_step hg (xN_ialoadS (e := e) hq hi h2) (fun _ _ h => xT_ialoadS (e := e) hq hi h2 h) h
theorem xN_iaload {e : Int32} {a : Nat} {vs : List (XV Int32)} {u : XV Int32} (hq : tMth tb k = some q) (hi : mC q pc = some (.iaload, n)) (h0 : ¬ a = 1000000) (h1 : H[a]? = some (.inr (0, vs))) (h2 : (decide (e < 0) || decide (vs.length ≤ e.toNatClampNeg)) = false) (h3 : vs[e.toNatClampNeg]? = some u) : nx tb tyl ot k pc L (.inl e :: .inr (some a) :: S) H cn sn = some ((pc + 1), L, (u :: S), H, cn, sn) := by
  simp only [nx, hq, hi, if_neg h0, h1, h2, Bool.false_eq_true, if_false, h3]
theorem xR_iaload (hg : (g || !cu pc) = true) {e : Int32} {a : Nat} {vs : List (XV Int32)} {u : XV Int32} (hq : tMth tb k = some q) (hi : mC q pc = some (.iaload, n)) (h0 : ¬ a = 1000000) (h1 : H[a]? = some (.inr (0, vs))) (h2 : (decide (e < 0) || decide (vs.length ≤ e.toNatClampNeg)) = false) (h3 : vs[e.toNatClampNeg]? = some u) (h : xRC tb tyl ot dp k cu false (pc + 1) L (u :: S) H cn sn o) : xRC tb tyl ot dp k cu g pc L (.inl e :: .inr (some a) :: S) H cn sn o := xRC_step hg (xN_iaload (e := e) (a := a) (vs := vs) (u := u) hq hi h0 h1 h2 h3) (fun _ _ h => xT_iaload (e := e) (a := a) (vs := vs) (u := u) hq hi h0 h1 h2 h3 h) h
theorem xN_baloadO {e : Int32} {a : Nat} {bs : List Int32} (hq : tMth tb k = some q) (hi : mC q pc = some (.baload, n)) (h0 : 1000000 < a) (h1 : oBy ot a = some bs) (h2 : (decide (e < 0) || decide (bs.length ≤ e.toNatClampNeg)) = false) : nx tb tyl ot k pc L (.inl e :: .inr (some a) :: S) H cn sn = some ((pc + 1), L, (.inl (dKc dC (bs.getD e.toNatClampNeg 0)) :: S), H, cn, sn) := by
  simp only [nx, hq, hi, if_pos h0, h1, h2, Bool.false_eq_true, if_false]
theorem xR_baloadO (hg : (g || !cu pc) = true) {e : Int32} {a : Nat} {bs : List Int32} (hq : tMth tb k = some q) (hi : mC q pc = some (.baload, n)) (h0 : 1000000 < a) (h1 : oBy ot a = some bs) (h2 : (decide (e < 0) || decide (bs.length ≤ e.toNatClampNeg)) = false) (h : xRC tb tyl ot dp k cu false (pc + 1) L (.inl (dKc dC (bs.getD e.toNatClampNeg 0)) :: S) H cn sn o) : xRC tb tyl ot dp k cu g pc L (.inl e :: .inr (some a) :: S) H cn sn o := xRC_step hg (xN_baloadO (e := e) (a := a) (bs := bs) hq hi h0 h1 h2) (fun _ _ h => xT_baloadO (e := e) (a := a) (bs := bs) hq hi h0 h1 h2 h) h
theorem xN_baload {e : Int32} {a : Nat} {vs : List (XV Int32)} {u : XV Int32} (hq : tMth tb k = some q) (hi : mC q pc = some (.baload, n)) (h0 : ¬ 1000000 < a) (h1 : H[a]? = some (.inr (1, vs))) (h2 : (decide (e < 0) || decide (vs.length ≤ e.toNatClampNeg)) = false) (h3 : vs[e.toNatClampNeg]? = some u) : nx tb tyl ot k pc L (.inl e :: .inr (some a) :: S) H cn sn = some ((pc + 1), L, (u :: S), H, cn, sn) := by
  simp only [nx, hq, hi, if_neg h0, h1, h2, Bool.false_eq_true, if_false, h3]
theorem xR_baload (hg : (g || !cu pc) = true) {e : Int32} {a : Nat} {vs : List (XV Int32)} {u : XV Int32} (hq : tMth tb k = some q) (hi : mC q pc = some (.baload, n)) (h0 : ¬ 1000000 < a) (h1 : H[a]? = some (.inr (1, vs))) (h2 : (decide (e < 0) || decide (vs.length ≤ e.toNatClampNeg)) = false) (h3 : vs[e.toNatClampNeg]? = some u) (h : xRC tb tyl ot dp k cu false (pc + 1) L (u :: S) H cn sn o) : xRC tb tyl ot dp k cu g pc L (.inl e :: .inr (some a) :: S) H cn sn o := xRC_step hg (xN_baload (e := e) (a := a) (vs := vs) (u := u) hq hi h0 h1 h2 h3) (fun _ _ h => xT_baload (e := e) (a := a) (vs := vs) (u := u) hq hi h0 h1 h2 h3 h) h
theorem xN_aaload {e : Int32} {a t : Nat} {vs : List (XV Int32)} {u : XV Int32} (hq : tMth tb k = some q) (hi : mC q pc = some (.aaload, n)) (h0 : (tyl[t]?.map x_isRef) = some true) (h1 : H[a]? = some (.inr (t, vs))) (h2 : (decide (e < 0) || decide (vs.length ≤ e.toNatClampNeg)) = false) (h3 : vs[e.toNatClampNeg]? = some u) : nx tb tyl ot k pc L (.inl e :: .inr (some a) :: S) H cn sn = some ((pc + 1), L, (u :: S), H, cn, sn) := by
  simp only [nx, hq, hi, h1, if_pos h0, h2, Bool.false_eq_true, if_false, h3]
theorem xR_aaload (hg : (g || !cu pc) = true) {e : Int32} {a t : Nat} {vs : List (XV Int32)} {u : XV Int32} (hq : tMth tb k = some q) (hi : mC q pc = some (.aaload, n)) (h0 : (tyl[t]?.map x_isRef) = some true) (h1 : H[a]? = some (.inr (t, vs))) (h2 : (decide (e < 0) || decide (vs.length ≤ e.toNatClampNeg)) = false) (h3 : vs[e.toNatClampNeg]? = some u) (h : xRC tb tyl ot dp k cu false (pc + 1) L (u :: S) H cn sn o) : xRC tb tyl ot dp k cu g pc L (.inl e :: .inr (some a) :: S) H cn sn o := xRC_step hg (xN_aaload (e := e) (a := a) (t := t) (vs := vs) (u := u) hq hi h0 h1 h2 h3) (fun _ _ h => xT_aaload (e := e) (a := a) (t := t) (vs := vs) (u := u) hq hi h0 h1 h2 h3 h) h
theorem xN_iastore {x e : Int32} {a : Nat} {vs : List (XV Int32)} (hq : tMth tb k = some q) (hi : mC q pc = some (.iastore, n)) (h1 : H[a]? = some (.inr (0, vs))) (h2 : (decide (e < 0) || decide (vs.length ≤ e.toNatClampNeg)) = false) : nx tb tyl ot k pc L (.inl x :: .inl e :: .inr (some a) :: S) H cn sn = some ((pc + 1), L, S, (H.set a (.inr (0, vs.set e.toNatClampNeg (.inl x)))), cn, sn) := by
  simp only [nx, hq, hi, h1, h2, Bool.false_eq_true, if_false]
theorem xR_iastore (hg : (g || !cu pc) = true) {x e : Int32} {a : Nat} {vs : List (XV Int32)} (hq : tMth tb k = some q) (hi : mC q pc = some (.iastore, n)) (h1 : H[a]? = some (.inr (0, vs))) (h2 : (decide (e < 0) || decide (vs.length ≤ e.toNatClampNeg)) = false) (h : xRC tb tyl ot dp k cu false (pc + 1) L S (H.set a (.inr (0, vs.set e.toNatClampNeg (.inl x)))) cn sn o) : xRC tb tyl ot dp k cu g pc L (.inl x :: .inl e :: .inr (some a) :: S) H cn sn o := xRC_step hg (xN_iastore (x := x) (e := e) (a := a) (vs := vs) hq hi h1 h2) (fun _ _ h => xT_iastore (x := x) (e := e) (a := a) (vs := vs) hq hi h1 h2 h) h
theorem xN_bastore {x e : Int32} {a : Nat} {vs : List (XV Int32)} (hq : tMth tb k = some q) (hi : mC q pc = some (.bastore, n)) (h0 : x_fit dC .boolean (.inl x) = true) (h1 : H[a]? = some (.inr (1, vs))) (h2 : (decide (e < 0) || decide (vs.length ≤ e.toNatClampNeg)) = false) : nx tb tyl ot k pc L (.inl x :: .inl e :: .inr (some a) :: S) H cn sn = some ((pc + 1), L, S, (H.set a (.inr (1, vs.set e.toNatClampNeg (.inl x)))), cn, sn) := by
  simp only [nx, hq, hi, h1, if_pos h0, h2, Bool.false_eq_true, if_false]
theorem xR_bastore (hg : (g || !cu pc) = true) {x e : Int32} {a : Nat} {vs : List (XV Int32)} (hq : tMth tb k = some q) (hi : mC q pc = some (.bastore, n)) (h0 : x_fit dC .boolean (.inl x) = true) (h1 : H[a]? = some (.inr (1, vs))) (h2 : (decide (e < 0) || decide (vs.length ≤ e.toNatClampNeg)) = false) (h : xRC tb tyl ot dp k cu false (pc + 1) L S (H.set a (.inr (1, vs.set e.toNatClampNeg (.inl x)))) cn sn o) : xRC tb tyl ot dp k cu g pc L (.inl x :: .inl e :: .inr (some a) :: S) H cn sn o := xRC_step hg (xN_bastore (x := x) (e := e) (a := a) (vs := vs) hq hi h0 h1 h2) (fun _ _ h => xT_bastore (x := x) (e := e) (a := a) (vs := vs) hq hi h0 h1 h2 h) h
theorem xN_aastore {e : Int32} {a u t ci : Nat} {gs vs : List (XV Int32)} {C : String} (hq : tMth tb k = some q) (hi : mC q pc = some (.aastore, n)) (h1 : H[a]? = some (.inr (t, vs))) (h2 : H[u]? = some (.inl (ci, gs))) (h3 : tyl[t]? = some (.object C)) (h4 : decide (C = tNm tb ci) = true) (h5 : (decide (e < 0) || decide (vs.length ≤ e.toNatClampNeg)) = false) : nx tb tyl ot k pc L (.inr (some u) :: .inl e :: .inr (some a) :: S) H cn sn = some ((pc + 1), L, S, (H.set a (.inr (t, vs.set e.toNatClampNeg (.inr (some u))))), cn, sn) := by
  simp only [nx, hq, hi, h1, h2, h3, h4, if_true, h5, Bool.false_eq_true, if_false]
theorem xR_aastore (hg : (g || !cu pc) = true) {e : Int32} {a u t ci : Nat} {gs vs : List (XV Int32)} {C : String} (hq : tMth tb k = some q) (hi : mC q pc = some (.aastore, n)) (h1 : H[a]? = some (.inr (t, vs))) (h2 : H[u]? = some (.inl (ci, gs))) (h3 : tyl[t]? = some (.object C)) (h4 : decide (C = tNm tb ci) = true) (h5 : (decide (e < 0) || decide (vs.length ≤ e.toNatClampNeg)) = false) (h : xRC tb tyl ot dp k cu false (pc + 1) L S (H.set a (.inr (t, vs.set e.toNatClampNeg (.inr (some u))))) cn sn o) : xRC tb tyl ot dp k cu g pc L (.inr (some u) :: .inl e :: .inr (some a) :: S) H cn sn o := xRC_step hg (xN_aastore (e := e) (a := a) (u := u) (t := t) (ci := ci) (gs := gs) (vs := vs) (C := C) hq hi h1 h2 h3 h4 h5) (fun _ _ h => xT_aastore (e := e) (a := a) (u := u) (t := t) (ci := ci) (gs := gs) (vs := vs) (C := C) hq hi h1 h2 h3 h4 h5 h) h
theorem xN_new {ix ci : Nat} (hq : tMth tb k = some q) (hi : mC q pc = some (.new ix, n)) (h1 : tNw tb (mO q) ix = some ci) (h2 : (decide (cn + 1 ≤ mMc q) && decide (sn + (tFt tb ci).length ≤ mMs q) && decide (H.length + 1 ≤ 1000000)) = true) : nx tb tyl ot k pc L S H cn sn = some ((pc + 3), L, (.inr (some H.length) :: S), (H ++ [.inl (ci, (tFt tb ci).map (fun t => x_def dC t.1))]), (cn + 1), (sn + (tFt tb ci).length)) := by
  simp only [nx, hq, hi, h1, h2, if_true]
theorem xR_new (hg : (g || !cu pc) = true) {ix ci : Nat} (hq : tMth tb k = some q) (hi : mC q pc = some (.new ix, n)) (h1 : tNw tb (mO q) ix = some ci) (h2 : (decide (cn + 1 ≤ mMc q) && decide (sn + (tFt tb ci).length ≤ mMs q) && decide (H.length + 1 ≤ 1000000)) = true) (h : xRC tb tyl ot dp k cu false (pc + 3) L (.inr (some H.length) :: S) (H ++ [.inl (ci, (tFt tb ci).map (fun t => x_def dC t.1))]) (cn + 1) (sn + (tFt tb ci).length) o) : xRC tb tyl ot dp k cu g pc L S H cn sn o := xRC_step hg (xN_new (ix := ix) (ci := ci) hq hi h1 h2) (fun _ _ h => xT_new (ix := ix) (ci := ci) hq hi h1 h2 h) h
theorem xN_newarrayI {e : Int32} (hq : tMth tb k = some q) (hi : mC q pc = some (.newarray .int, n)) (h2 : (decide (¬ e < 0) && decide (e.toNatClampNeg ≤ 100000) && decide (cn + 1 ≤ mMc q) && decide (sn + e.toNatClampNeg ≤ mMs q) && decide (H.length + 1 ≤ 1000000)) = true) : nx tb tyl ot k pc L (.inl e :: S) H cn sn = some ((pc + 2), L, (.inr (some H.length) :: S), (H ++ [.inr (0, List.replicate e.toNatClampNeg (.inl (dKc dC 0)))]), (cn + 1), (sn + e.toNatClampNeg)) := by
  simp only [nx, hq, hi, dC_kst, h2, if_true]
theorem xR_newarrayI (hg : (g || !cu pc) = true) {e : Int32} (hq : tMth tb k = some q) (hi : mC q pc = some (.newarray .int, n)) (h2 : (decide (¬ e < 0) && decide (e.toNatClampNeg ≤ 100000) && decide (cn + 1 ≤ mMc q) && decide (sn + e.toNatClampNeg ≤ mMs q) && decide (H.length + 1 ≤ 1000000)) = true) (h : xRC tb tyl ot dp k cu false (pc + 2) L (.inr (some H.length) :: S) (H ++ [.inr (0, List.replicate e.toNatClampNeg (.inl (dKc dC 0)))]) (cn + 1) (sn + e.toNatClampNeg) o) : xRC tb tyl ot dp k cu g pc L (.inl e :: S) H cn sn o := xRC_step hg (xN_newarrayI (e := e) hq hi h2) (fun _ _ h => xT_newarrayI (e := e) hq hi h2 h) h
theorem xN_newarrayZ {e : Int32} (hq : tMth tb k = some q) (hi : mC q pc = some (.newarray .boolean, n)) (h2 : (decide (¬ e < 0) && decide (e.toNatClampNeg ≤ 100000) && decide (cn + 1 ≤ mMc q) && decide (sn + e.toNatClampNeg ≤ mMs q) && decide (H.length + 1 ≤ 1000000)) = true) : nx tb tyl ot k pc L (.inl e :: S) H cn sn = some ((pc + 2), L, (.inr (some H.length) :: S), (H ++ [.inr (1, List.replicate e.toNatClampNeg (.inl (dKc dC 0)))]), (cn + 1), (sn + e.toNatClampNeg)) := by
  simp only [nx, hq, hi, dC_kst, h2, if_true]
theorem xR_newarrayZ (hg : (g || !cu pc) = true) {e : Int32} (hq : tMth tb k = some q) (hi : mC q pc = some (.newarray .boolean, n)) (h2 : (decide (¬ e < 0) && decide (e.toNatClampNeg ≤ 100000) && decide (cn + 1 ≤ mMc q) && decide (sn + e.toNatClampNeg ≤ mMs q) && decide (H.length + 1 ≤ 1000000)) = true) (h : xRC tb tyl ot dp k cu false (pc + 2) L (.inr (some H.length) :: S) (H ++ [.inr (1, List.replicate e.toNatClampNeg (.inl (dKc dC 0)))]) (cn + 1) (sn + e.toNatClampNeg) o) : xRC tb tyl ot dp k cu g pc L (.inl e :: S) H cn sn o := xRC_step hg (xN_newarrayZ (e := e) hq hi h2) (fun _ _ h => xT_newarrayZ (e := e) hq hi h2 h) h
theorem xN_multianewarray {ix : _} {dm : _} {t2 t1 : Nat} {e1 e2 : Int32} (hq : tMth tb k = some q) (hi : mC q pc = some (.multianewarray ix dm, n)) (h1 : tMn tb (mO q) ix = some (t2, t1)) (h2 : (decide (dm = 2) && decide (¬ e1 < 0) && decide (¬ e2 < 0) && decide (e1.toNatClampNeg ≤ 100000) && decide (e2.toNatClampNeg ≤ 100000) && decide (t1 < 2) && decide (cn + (1 + e1.toNatClampNeg) ≤ mMc q) && decide (sn + (e1.toNatClampNeg + e1.toNatClampNeg * e2.toNatClampNeg) ≤ mMs q) && decide (H.length + 1 + e1.toNatClampNeg ≤ 1000000)) = true) : nx tb tyl ot k pc L (.inl e2 :: .inl e1 :: S) H cn sn = some ((pc + 4), L, (.inr (some H.length) :: S), (H ++ .inr (t2, x_refs (H.length + 1) e1.toNatClampNeg) :: x_rows t1 (List.replicate e2.toNatClampNeg (.inl (dKc dC 0))) e1.toNatClampNeg), (cn + 1 + e1.toNatClampNeg), (sn + e1.toNatClampNeg + e1.toNatClampNeg * e2.toNatClampNeg)) := by
  simp only [nx, hq, hi, h1, dC_kst, h2, if_true]
theorem xR_multianewarray (hg : (g || !cu pc) = true) {ix : _} {dm : _} {t2 t1 : Nat} {e1 e2 : Int32} (hq : tMth tb k = some q) (hi : mC q pc = some (.multianewarray ix dm, n)) (h1 : tMn tb (mO q) ix = some (t2, t1)) (h2 : (decide (dm = 2) && decide (¬ e1 < 0) && decide (¬ e2 < 0) && decide (e1.toNatClampNeg ≤ 100000) && decide (e2.toNatClampNeg ≤ 100000) && decide (t1 < 2) && decide (cn + (1 + e1.toNatClampNeg) ≤ mMc q) && decide (sn + (e1.toNatClampNeg + e1.toNatClampNeg * e2.toNatClampNeg) ≤ mMs q) && decide (H.length + 1 + e1.toNatClampNeg ≤ 1000000)) = true) (h : xRC tb tyl ot dp k cu false (pc + 4) L (.inr (some H.length) :: S) (H ++ .inr (t2, x_refs (H.length + 1) e1.toNatClampNeg) :: x_rows t1 (List.replicate e2.toNatClampNeg (.inl (dKc dC 0))) e1.toNatClampNeg) (cn + 1 + e1.toNatClampNeg) (sn + e1.toNatClampNeg + e1.toNatClampNeg * e2.toNatClampNeg) o) : xRC tb tyl ot dp k cu g pc L (.inl e2 :: .inl e1 :: S) H cn sn o := xRC_step hg (xN_multianewarray (ix := ix) (dm := dm) (t2 := t2) (t1 := t1) (e1 := e1) (e2 := e2) hq hi h1 h2) (fun _ _ h => xT_multianewarray (ix := ix) (dm := dm) (t2 := t2) (t1 := t1) (e1 := e1) (e2 := e2) hq hi h1 h2 h) h
theorem xN_objectInit {ix : _} {a : Nat} (hq : tMth tb k = some q) (hi : mC q pc = some (.invokespecial ix, n)) (h1 : tBi tb (mO q) ix = some 0) (h2 : decide (S.length ≤ 8) = true) : nx tb tyl ot k pc L (.inr (some a) :: S) H cn sn = some ((pc + 3), L, S, H, cn, sn) := by
  simp only [nx, hq, hi, h1, h2, if_true]
theorem xR_objectInit (hg : (g || !cu pc) = true) {ix : _} {a : Nat} (hq : tMth tb k = some q) (hi : mC q pc = some (.invokespecial ix, n)) (h1 : tBi tb (mO q) ix = some 0) (h2 : decide (S.length ≤ 8) = true) (h : xRC tb tyl ot dp k cu false (pc + 3) L S H cn sn o) : xRC tb tyl ot dp k cu g pc L (.inr (some a) :: S) H cn sn o := xRC_step hg (xN_objectInit (ix := ix) (a := a) hq hi h1 h2) (fun _ _ h => xT_objectInit (ix := ix) (a := a) hq hi h1 h2 h) h
theorem xN_arraycopy {ix : _} {n1 d1 s1 : Int32} {bd bs : Nat} {us vs : List (XV Int32)} (hq : tMth tb k = some q) (hi : mC q pc = some (.invokestatic ix, n)) (h0 : tCal tb (mO q) ix = none) (h1 : tBi tb (mO q) ix = some 1) (h2 : H[bs]? = some (.inr (0, us))) (h3 : H[bd]? = some (.inr (0, vs))) (h4 : (decide (¬ n1 < 0) && decide (¬ d1 < 0) && decide (¬ s1 < 0) && decide (s1.toNatClampNeg + n1.toNatClampNeg ≤ us.length) && decide (d1.toNatClampNeg + n1.toNatClampNeg ≤ vs.length) && decide (S.length ≤ 8) && us.all (fun u => u.isLeft)) = true) : nx tb tyl ot k pc L (.inl n1 :: .inl d1 :: .inr (some bd) :: .inl s1 :: .inr (some bs) :: S) H cn sn = some ((pc + 3), L, S, (H.set bd (.inr (0, vs.take d1.toNatClampNeg ++ (us.drop s1.toNatClampNeg).take n1.toNatClampNeg ++ vs.drop (d1.toNatClampNeg + n1.toNatClampNeg)))), cn, sn) := by
  simp only [nx, hq, hi, h0, h1, h2, h3, dC_kst, h4, if_true]
theorem xR_arraycopy (hg : (g || !cu pc) = true) {ix : _} {n1 d1 s1 : Int32} {bd bs : Nat} {us vs : List (XV Int32)} (hq : tMth tb k = some q) (hi : mC q pc = some (.invokestatic ix, n)) (h0 : tCal tb (mO q) ix = none) (h1 : tBi tb (mO q) ix = some 1) (h2 : H[bs]? = some (.inr (0, us))) (h3 : H[bd]? = some (.inr (0, vs))) (h4 : (decide (¬ n1 < 0) && decide (¬ d1 < 0) && decide (¬ s1 < 0) && decide (s1.toNatClampNeg + n1.toNatClampNeg ≤ us.length) && decide (d1.toNatClampNeg + n1.toNatClampNeg ≤ vs.length) && decide (S.length ≤ 8) && us.all (fun u => u.isLeft)) = true) (h : xRC tb tyl ot dp k cu false (pc + 3) L S (H.set bd (.inr (0, vs.take d1.toNatClampNeg ++ (us.drop s1.toNatClampNeg).take n1.toNatClampNeg ++ vs.drop (d1.toNatClampNeg + n1.toNatClampNeg)))) cn sn o) : xRC tb tyl ot dp k cu g pc L (.inl n1 :: .inl d1 :: .inr (some bd) :: .inl s1 :: .inr (some bs) :: S) H cn sn o := xRC_step hg (xN_arraycopy (ix := ix) (n1 := n1) (d1 := d1) (s1 := s1) (bd := bd) (bs := bs) (us := us) (vs := vs) hq hi h0 h1 h2 h3 h4) (fun _ _ h => xT_arraycopy (ix := ix) (n1 := n1) (d1 := d1) (s1 := s1) (bd := bd) (bs := bs) (us := us) (vs := vs) hq hi h0 h1 h2 h3 h4 h) h
theorem xN_maxY {ix : _} {a b : Int32} (hq : tMth tb k = some q) (hi : mC q pc = some (.invokestatic ix, n)) (h0 : tCal tb (mO q) ix = none) (h1 : tBi tb (mO q) ix = some 2) (h2 : (decide (S.length ≤ 8) && decide (cn ≤ mMc q) && decide (sn ≤ mMs q)) = true) (h3 : x_cmp 2 a b = true) : nx tb tyl ot k pc L (.inl b :: .inl a :: S) H cn sn = some ((pc + 3), L, (.inl b :: S), H, cn, sn) := by
  simp only [nx, hq, hi, h0, h1, h2, if_true, h3, Bool.false_eq_true, if_false, x_n21, x_n31, x_n32]
theorem xR_maxY (hg : (g || !cu pc) = true) {ix : _} {a b : Int32} (hq : tMth tb k = some q) (hi : mC q pc = some (.invokestatic ix, n)) (h0 : tCal tb (mO q) ix = none) (h1 : tBi tb (mO q) ix = some 2) (h2 : (decide (S.length ≤ 8) && decide (cn ≤ mMc q) && decide (sn ≤ mMs q)) = true) (h3 : x_cmp 2 a b = true) (h : xRC tb tyl ot dp k cu false (pc + 3) L (.inl b :: S) H cn sn o) : xRC tb tyl ot dp k cu g pc L (.inl b :: .inl a :: S) H cn sn o := xRC_step hg (xN_maxY (ix := ix) (a := a) (b := b) hq hi h0 h1 h2 h3) (fun _ _ h => xT_maxY (ix := ix) (a := a) (b := b) hq hi h0 h1 h2 h3 h) h
theorem xN_maxN {ix : _} {a b : Int32} (hq : tMth tb k = some q) (hi : mC q pc = some (.invokestatic ix, n)) (h0 : tCal tb (mO q) ix = none) (h1 : tBi tb (mO q) ix = some 2) (h2 : (decide (S.length ≤ 8) && decide (cn ≤ mMc q) && decide (sn ≤ mMs q)) = true) (h3 : x_cmp 2 a b = false) : nx tb tyl ot k pc L (.inl b :: .inl a :: S) H cn sn = some ((pc + 3), L, (.inl a :: S), H, cn, sn) := by
  simp only [nx, hq, hi, h0, h1, h2, if_true, h3, Bool.false_eq_true, if_false, x_n21, x_n31, x_n32]
theorem xR_maxN (hg : (g || !cu pc) = true) {ix : _} {a b : Int32} (hq : tMth tb k = some q) (hi : mC q pc = some (.invokestatic ix, n)) (h0 : tCal tb (mO q) ix = none) (h1 : tBi tb (mO q) ix = some 2) (h2 : (decide (S.length ≤ 8) && decide (cn ≤ mMc q) && decide (sn ≤ mMs q)) = true) (h3 : x_cmp 2 a b = false) (h : xRC tb tyl ot dp k cu false (pc + 3) L (.inl a :: S) H cn sn o) : xRC tb tyl ot dp k cu g pc L (.inl b :: .inl a :: S) H cn sn o := xRC_step hg (xN_maxN (ix := ix) (a := a) (b := b) hq hi h0 h1 h2 h3) (fun _ _ h => xT_maxN (ix := ix) (a := a) (b := b) hq hi h0 h1 h2 h3 h) h
theorem xN_minY {ix : _} {a b : Int32} (hq : tMth tb k = some q) (hi : mC q pc = some (.invokestatic ix, n)) (h0 : tCal tb (mO q) ix = none) (h1 : tBi tb (mO q) ix = some 3) (h2 : (decide (S.length ≤ 8) && decide (cn ≤ mMc q) && decide (sn ≤ mMs q)) = true) (h3 : x_cmp 2 b a = true) : nx tb tyl ot k pc L (.inl b :: .inl a :: S) H cn sn = some ((pc + 3), L, (.inl b :: S), H, cn, sn) := by
  simp only [nx, hq, hi, h0, h1, h2, if_true, h3, Bool.false_eq_true, if_false, x_n21, x_n31, x_n32]
theorem xR_minY (hg : (g || !cu pc) = true) {ix : _} {a b : Int32} (hq : tMth tb k = some q) (hi : mC q pc = some (.invokestatic ix, n)) (h0 : tCal tb (mO q) ix = none) (h1 : tBi tb (mO q) ix = some 3) (h2 : (decide (S.length ≤ 8) && decide (cn ≤ mMc q) && decide (sn ≤ mMs q)) = true) (h3 : x_cmp 2 b a = true) (h : xRC tb tyl ot dp k cu false (pc + 3) L (.inl b :: S) H cn sn o) : xRC tb tyl ot dp k cu g pc L (.inl b :: .inl a :: S) H cn sn o := xRC_step hg (xN_minY (ix := ix) (a := a) (b := b) hq hi h0 h1 h2 h3) (fun _ _ h => xT_minY (ix := ix) (a := a) (b := b) hq hi h0 h1 h2 h3 h) h
theorem xN_minN {ix : _} {a b : Int32} (hq : tMth tb k = some q) (hi : mC q pc = some (.invokestatic ix, n)) (h0 : tCal tb (mO q) ix = none) (h1 : tBi tb (mO q) ix = some 3) (h2 : (decide (S.length ≤ 8) && decide (cn ≤ mMc q) && decide (sn ≤ mMs q)) = true) (h3 : x_cmp 2 b a = false) : nx tb tyl ot k pc L (.inl b :: .inl a :: S) H cn sn = some ((pc + 3), L, (.inl a :: S), H, cn, sn) := by
  simp only [nx, hq, hi, h0, h1, h2, if_true, h3, Bool.false_eq_true, if_false, x_n21, x_n31, x_n32]
theorem xR_minN (hg : (g || !cu pc) = true) {ix : _} {a b : Int32} (hq : tMth tb k = some q) (hi : mC q pc = some (.invokestatic ix, n)) (h0 : tCal tb (mO q) ix = none) (h1 : tBi tb (mO q) ix = some 3) (h2 : (decide (S.length ≤ 8) && decide (cn ≤ mMc q) && decide (sn ≤ mMs q)) = true) (h3 : x_cmp 2 b a = false) (h : xRC tb tyl ot dp k cu false (pc + 3) L (.inl a :: S) H cn sn o) : xRC tb tyl ot dp k cu g pc L (.inl b :: .inl a :: S) H cn sn o := xRC_step hg (xN_minN (ix := ix) (a := a) (b := b) hq hi h0 h1 h2 h3) (fun _ _ h => xT_minN (ix := ix) (a := a) (b := b) hq hi h0 h1 h2 h3 h) h
theorem xN_absY {ix : Nat} {a : Int32} (hq : tMth tb k = some q) (hi : mC q pc = some (.invokestatic ix, n)) (h0 : tCal tb (mO q) ix = none) (h1 : tBi tb (mO q) ix = some 4) (h2 : (decide (S.length ≤ 8) && decide (cn ≤ mMc q) && decide (sn ≤ mMs q)) = true) (h3 : x_cmp 3 a 0 = true) : nx tb tyl ot k pc L (.inl a :: S) H cn sn = some ((pc + 3), L, (.inl a :: S), H, cn, sn) := by
  simp only [nx, hq, hi, h0, h1, h2, if_true, show x_cmp 3 a (dKc dC 0) = true from h3, Bool.false_eq_true, if_false, x_n41, x_n42, x_n43]
theorem xR_absY (hg : (g || !cu pc) = true) {ix : Nat} {a : Int32} (hq : tMth tb k = some q) (hi : mC q pc = some (.invokestatic ix, n)) (h0 : tCal tb (mO q) ix = none) (h1 : tBi tb (mO q) ix = some 4) (h2 : (decide (S.length ≤ 8) && decide (cn ≤ mMc q) && decide (sn ≤ mMs q)) = true) (h3 : x_cmp 3 a 0 = true) (h : xRC tb tyl ot dp k cu false (pc + 3) L (.inl a :: S) H cn sn o) : xRC tb tyl ot dp k cu g pc L (.inl a :: S) H cn sn o := xRC_step hg (xN_absY (ix := ix) (a := a) hq hi h0 h1 h2 h3) (fun _ _ h => xT_absY (ix := ix) (a := a) hq hi h0 h1 h2 h3 h) h
theorem xN_absN {ix : Nat} {a : Int32} (hq : tMth tb k = some q) (hi : mC q pc = some (.invokestatic ix, n)) (h0 : tCal tb (mO q) ix = none) (h1 : tBi tb (mO q) ix = some 4) (h2 : (decide (S.length ≤ 8) && decide (cn ≤ mMc q) && decide (sn ≤ mMs q)) = true) (h3 : x_cmp 3 a 0 = false) : nx tb tyl ot k pc L (.inl a :: S) H cn sn = some ((pc + 3), L, (.inl (x_bin 1 0 a) :: S), H, cn, sn) := by
  simp only [nx, hq, hi, h0, h1, h2, if_true, show x_cmp 3 a (dKc dC 0) = false from h3, Bool.false_eq_true, if_false, x_n41, x_n42, x_n43]
  rfl
theorem xR_absN (hg : (g || !cu pc) = true) {ix : Nat} {a : Int32} (hq : tMth tb k = some q) (hi : mC q pc = some (.invokestatic ix, n)) (h0 : tCal tb (mO q) ix = none) (h1 : tBi tb (mO q) ix = some 4) (h2 : (decide (S.length ≤ 8) && decide (cn ≤ mMc q) && decide (sn ≤ mMs q)) = true) (h3 : x_cmp 3 a 0 = false) (h : xRC tb tyl ot dp k cu false (pc + 3) L (.inl (x_bin 1 0 a) :: S) H cn sn o) : xRC tb tyl ot dp k cu g pc L (.inl a :: S) H cn sn o := xRC_step hg (xN_absN (ix := ix) (a := a) hq hi h0 h1 h2 h3) (fun _ _ h => xT_absN (ix := ix) (a := a) hq hi h0 h1 h2 h3 h) h
end XRc
