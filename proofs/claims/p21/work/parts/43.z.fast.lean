/-! The checker with small bodies: the kernel copies a body whole at each step. -/
noncomputable section XFast
abbrev vRT : Type := Nat → Nat → Nat → Nat → List (Nat × vA) → List vA → vSt → lT → lT → vCu → (vSt → Option vA → Bool) → Bool
def vI_iconst (R : vRT) (dp : Nat) (k : Nat) (pc : Nat) (L : List (Nat × vA)) (S : List vA) (s : vSt) (cn : lT) (sn : lT) (cu : vCu) (ret : vSt → Option vA → Bool) (x : Int) : Bool := R 0 dp k (pc + 1) L (.inl (lK (Int32.ofInt x).toInt) :: S) s cn sn cu ret
def vI_bipush (R : vRT) (dp : Nat) (k : Nat) (pc : Nat) (L : List (Nat × vA)) (S : List vA) (s : vSt) (cn : lT) (sn : lT) (cu : vCu) (ret : vSt → Option vA → Bool) (x : Int) : Bool := R 0 dp k (pc + 2) L (.inl (lK (Int8.ofInt x).toInt32.toInt) :: S) s cn sn cu ret
def vI_sipush (R : vRT) (dp : Nat) (k : Nat) (pc : Nat) (L : List (Nat × vA)) (S : List vA) (s : vSt) (cn : lT) (sn : lT) (cu : vCu) (ret : vSt → Option vA → Bool) (x : Int) : Bool := R 0 dp k (pc + 3) L (.inl (lK (Int16.ofInt x).toInt32.toInt) :: S) s cn sn cu ret
def vI_aconst_null (R : vRT) (dp : Nat) (k : Nat) (pc : Nat) (L : List (Nat × vA)) (S : List vA) (s : vSt) (cn : lT) (sn : lT) (cu : vCu) (ret : vSt → Option vA → Bool) : Bool := R 0 dp k (pc + 1) L (.inr none :: S) s cn sn cu ret
def vI_iload_n (R : vRT) (dp : Nat) (k : Nat) (pc : Nat) (L : List (Nat × vA)) (S : List vA) (s : vSt) (cn : lT) (sn : lT) (cu : vCu) (ret : vSt → Option vA → Bool) (j : Nat) : Bool := match x_lk L j with
        | some (.inl a) => R 0 dp k (pc + 1) L (.inl (lNm (sI s) a) :: S) s cn sn cu ret
        | _ => false
def vI_iload (R : vRT) (dp : Nat) (k : Nat) (pc : Nat) (L : List (Nat × vA)) (S : List vA) (s : vSt) (cn : lT) (sn : lT) (cu : vCu) (ret : vSt → Option vA → Bool) (j : Nat) : Bool := match x_lk L j with
        | some (.inl a) => R 0 dp k (pc + 2) L (.inl (lNm (sI s) a) :: S) s cn sn cu ret
        | _ => false
def vI_aload_n (R : vRT) (dp : Nat) (k : Nat) (pc : Nat) (L : List (Nat × vA)) (S : List vA) (s : vSt) (cn : lT) (sn : lT) (cu : vCu) (ret : vSt → Option vA → Bool) (j : Nat) : Bool := match x_lk L j with
        | some (.inr a) => R 0 dp k (pc + 1) L (.inr a :: S) s cn sn cu ret
        | _ => false
def vI_aload (R : vRT) (dp : Nat) (k : Nat) (pc : Nat) (L : List (Nat × vA)) (S : List vA) (s : vSt) (cn : lT) (sn : lT) (cu : vCu) (ret : vSt → Option vA → Bool) (j : Nat) : Bool := match x_lk L j with
        | some (.inr a) => R 0 dp k (pc + 2) L (.inr a :: S) s cn sn cu ret
        | _ => false
def vI_iadd (R : vRT) (dp : Nat) (k : Nat) (pc : Nat) (L : List (Nat × vA)) (S : List vA) (s : vSt) (cn : lT) (sn : lT) (cu : vCu) (ret : vSt → Option vA → Bool) : Bool := match S with
        | .inl b :: .inl a :: r => vBinF L r cn sn 0 a b s (fun s2 t => R 0 dp k (pc + 1) L (.inl t :: r) s2 cn sn cu ret)
        | _ => false
def vI_isub (R : vRT) (dp : Nat) (k : Nat) (pc : Nat) (L : List (Nat × vA)) (S : List vA) (s : vSt) (cn : lT) (sn : lT) (cu : vCu) (ret : vSt → Option vA → Bool) : Bool := match S with
        | .inl b :: .inl a :: r => vBinF L r cn sn 1 a b s (fun s2 t => R 0 dp k (pc + 1) L (.inl t :: r) s2 cn sn cu ret)
        | _ => false
def vI_imul (R : vRT) (dp : Nat) (k : Nat) (pc : Nat) (L : List (Nat × vA)) (S : List vA) (s : vSt) (cn : lT) (sn : lT) (cu : vCu) (ret : vSt → Option vA → Bool) : Bool := match S with
        | .inl b :: .inl a :: r => vBinF L r cn sn 2 a b s (fun s2 t => R 0 dp k (pc + 1) L (.inl t :: r) s2 cn sn cu ret)
        | _ => false
def vI_iand (R : vRT) (dp : Nat) (k : Nat) (pc : Nat) (L : List (Nat × vA)) (S : List vA) (s : vSt) (cn : lT) (sn : lT) (cu : vCu) (ret : vSt → Option vA → Bool) : Bool := match S with
        | .inl b :: .inl a :: r => vBinF L r cn sn 3 a b s (fun s2 t => R 0 dp k (pc + 1) L (.inl t :: r) s2 cn sn cu ret)
        | _ => false
def vI_ior (R : vRT) (dp : Nat) (k : Nat) (pc : Nat) (L : List (Nat × vA)) (S : List vA) (s : vSt) (cn : lT) (sn : lT) (cu : vCu) (ret : vSt → Option vA → Bool) : Bool := match S with
        | .inl b :: .inl a :: r => vBinF L r cn sn 4 a b s (fun s2 t => R 0 dp k (pc + 1) L (.inl t :: r) s2 cn sn cu ret)
        | _ => false
def vI_ixor (R : vRT) (dp : Nat) (k : Nat) (pc : Nat) (L : List (Nat × vA)) (S : List vA) (s : vSt) (cn : lT) (sn : lT) (cu : vCu) (ret : vSt → Option vA → Bool) : Bool := match S with
        | .inl b :: .inl a :: r => vBinF L r cn sn 5 a b s (fun s2 t => R 0 dp k (pc + 1) L (.inl t :: r) s2 cn sn cu ret)
        | _ => false
def vI_ishl (R : vRT) (dp : Nat) (k : Nat) (pc : Nat) (L : List (Nat × vA)) (S : List vA) (s : vSt) (cn : lT) (sn : lT) (cu : vCu) (ret : vSt → Option vA → Bool) : Bool := match S with
        | .inl b :: .inl a :: r => vBinF L r cn sn 6 a b s (fun s2 t => R 0 dp k (pc + 1) L (.inl t :: r) s2 cn sn cu ret)
        | _ => false
def vI_ishr (R : vRT) (dp : Nat) (k : Nat) (pc : Nat) (L : List (Nat × vA)) (S : List vA) (s : vSt) (cn : lT) (sn : lT) (cu : vCu) (ret : vSt → Option vA → Bool) : Bool := match S with
        | .inl b :: .inl a :: r => vBinF L r cn sn 7 a b s (fun s2 t => R 0 dp k (pc + 1) L (.inl t :: r) s2 cn sn cu ret)
        | _ => false
def vI_iushr (R : vRT) (dp : Nat) (k : Nat) (pc : Nat) (L : List (Nat × vA)) (S : List vA) (s : vSt) (cn : lT) (sn : lT) (cu : vCu) (ret : vSt → Option vA → Bool) : Bool := match S with
        | .inl b :: .inl a :: r => vBinF L r cn sn 10 a b s (fun s2 t => R 0 dp k (pc + 1) L (.inl t :: r) s2 cn sn cu ret)
        | _ => false
def vI_idiv (R : vRT) (dp : Nat) (k : Nat) (pc : Nat) (L : List (Nat × vA)) (S : List vA) (s : vSt) (cn : lT) (sn : lT) (cu : vCu) (ret : vSt → Option vA → Bool) : Bool := match S with
        | .inl b :: .inl a :: r => vBr 0 b (lK 0) s (fun _ => false) (fun s1 => vBinF L r cn sn 8 a b s1 (fun s2 t => R 0 dp k (pc + 1) L (.inl t :: r) s2 cn sn cu ret))
        | _ => false
def vI_irem (R : vRT) (dp : Nat) (k : Nat) (pc : Nat) (L : List (Nat × vA)) (S : List vA) (s : vSt) (cn : lT) (sn : lT) (cu : vCu) (ret : vSt → Option vA → Bool) : Bool := match S with
        | .inl b :: .inl a :: r => vBr 0 b (lK 0) s (fun _ => false) (fun s1 => vBinF L r cn sn 9 a b s1 (fun s2 t => R 0 dp k (pc + 1) L (.inl t :: r) s2 cn sn cu ret))
        | _ => false
def vI_i2b (R : vRT) (dp : Nat) (k : Nat) (pc : Nat) (L : List (Nat × vA)) (S : List vA) (s : vSt) (cn : lT) (sn : lT) (cu : vCu) (ret : vSt → Option vA → Bool) : Bool := match S with
        | .inl a :: r => vFr L r cn sn s && vUn 0 a s (fun s2 t => R 0 dp k (pc + 1) L (.inl t :: r) s2 cn sn cu ret)
        | _ => false
def vI_i2s (R : vRT) (dp : Nat) (k : Nat) (pc : Nat) (L : List (Nat × vA)) (S : List vA) (s : vSt) (cn : lT) (sn : lT) (cu : vCu) (ret : vSt → Option vA → Bool) : Bool := match S with
        | .inl a :: r => vFr L r cn sn s && vUn 1 a s (fun s2 t => R 0 dp k (pc + 1) L (.inl t :: r) s2 cn sn cu ret)
        | _ => false
def vI_i2c (R : vRT) (dp : Nat) (k : Nat) (pc : Nat) (L : List (Nat × vA)) (S : List vA) (s : vSt) (cn : lT) (sn : lT) (cu : vCu) (ret : vSt → Option vA → Bool) : Bool := match S with
        | .inl a :: r => vFr L r cn sn s && vUn 2 a s (fun s2 t => R 0 dp k (pc + 1) L (.inl t :: r) s2 cn sn cu ret)
        | _ => false
def vI_ineg (R : vRT) (dp : Nat) (k : Nat) (pc : Nat) (L : List (Nat × vA)) (S : List vA) (s : vSt) (cn : lT) (sn : lT) (cu : vCu) (ret : vSt → Option vA → Bool) : Bool := match S with
        | .inl a :: r => vFr L r cn sn s && vUn 3 a s (fun s2 t => R 0 dp k (pc + 1) L (.inl t :: r) s2 cn sn cu ret)
        | _ => false
def vI_goto (R : vRT) (dp : Nat) (k : Nat) (pc : Nat) (L : List (Nat × vA)) (S : List vA) (s : vSt) (cn : lT) (sn : lT) (cu : vCu) (ret : vSt → Option vA → Bool) (x : Int) : Bool := match x_jp pc x with
        | some t => R 0 dp k t L S s cn sn cu ret
        | none => false
def vI_if_icmp (R : vRT) (dp : Nat) (k : Nat) (pc : Nat) (L : List (Nat × vA)) (S : List vA) (s : vSt) (cn : lT) (sn : lT) (cu : vCu) (ret : vSt → Option vA → Bool) (c : Jvm.ClassFile.Cond) (x : Int) : Bool := match x_jp pc x with
        | some t => match S with
          | .inl b :: .inl a :: r => vBr (x_cn c) a b s (fun s2 => R 0 dp k t L r s2 cn sn cu ret) (fun s2 => R 0 dp k (pc + 3) L r s2 cn sn cu ret)
          | _ => false
        | none => false
def vI_ifCond (R : vRT) (dp : Nat) (k : Nat) (pc : Nat) (L : List (Nat × vA)) (S : List vA) (s : vSt) (cn : lT) (sn : lT) (cu : vCu) (ret : vSt → Option vA → Bool) (c : Jvm.ClassFile.Cond) (x : Int) : Bool := match x_jp pc x with
        | some t => match S with
          | .inl a :: r => vBr (x_cn c) a (lK 0) s (fun s2 => R 0 dp k t L r s2 cn sn cu ret) (fun s2 => R 0 dp k (pc + 3) L r s2 cn sn cu ret)
          | _ => false
        | none => false
def vI_istore_n (q : XM) (R : vRT) (dp : Nat) (k : Nat) (pc : Nat) (L : List (Nat × vA)) (S : List vA) (s : vSt) (cn : lT) (sn : lT) (cu : vCu) (ret : vSt → Option vA → Bool) (j : Nat) : Bool := match S with
        | .inl a :: r => decide ((j : Nat) < mL q) && R 0 dp k (pc + 1) (x_st L j (.inl a)) r s cn sn cu ret
        | _ => false
def vI_istore (q : XM) (R : vRT) (dp : Nat) (k : Nat) (pc : Nat) (L : List (Nat × vA)) (S : List vA) (s : vSt) (cn : lT) (sn : lT) (cu : vCu) (ret : vSt → Option vA → Bool) (j : Nat) : Bool := match S with
        | .inl a :: r => decide ((j : Nat) < mL q) && R 0 dp k (pc + 2) (x_st L j (.inl a)) r s cn sn cu ret
        | _ => false
def vI_astore_n (q : XM) (R : vRT) (dp : Nat) (k : Nat) (pc : Nat) (L : List (Nat × vA)) (S : List vA) (s : vSt) (cn : lT) (sn : lT) (cu : vCu) (ret : vSt → Option vA → Bool) (j : Nat) : Bool := match S with
        | .inr a :: r => decide ((j : Nat) < mL q) && R 0 dp k (pc + 1) (x_st L j (.inr a)) r s cn sn cu ret
        | _ => false
def vI_astore (q : XM) (R : vRT) (dp : Nat) (k : Nat) (pc : Nat) (L : List (Nat × vA)) (S : List vA) (s : vSt) (cn : lT) (sn : lT) (cu : vCu) (ret : vSt → Option vA → Bool) (j : Nat) : Bool := match S with
        | .inr a :: r => decide ((j : Nat) < mL q) && R 0 dp k (pc + 2) (x_st L j (.inr a)) r s cn sn cu ret
        | _ => false
def vI_iinc (q : XM) (R : vRT) (dp : Nat) (k : Nat) (pc : Nat) (L : List (Nat × vA)) (S : List vA) (s : vSt) (cn : lT) (sn : lT) (cu : vCu) (ret : vSt → Option vA → Bool) (j : Nat) (x : Int) : Bool := match x_lk L j with
        | some (.inl a) => decide (j < mL q) && vBinF L S cn sn 0 a (lK (Int32.ofInt x).toInt) s (fun s2 t => R 0 dp k (pc + 3) (x_st L j (.inl t)) S s2 cn sn cu ret)
        | _ => false
def vI_dup (R : vRT) (dp : Nat) (k : Nat) (pc : Nat) (L : List (Nat × vA)) (S : List vA) (s : vSt) (cn : lT) (sn : lT) (cu : vCu) (ret : vSt → Option vA → Bool) : Bool := match S with
        | a :: r => R 0 dp k (pc + 1) L (a :: a :: r) s cn sn cu ret
        | _ => false
def vI_dup_x1 (R : vRT) (dp : Nat) (k : Nat) (pc : Nat) (L : List (Nat × vA)) (S : List vA) (s : vSt) (cn : lT) (sn : lT) (cu : vCu) (ret : vSt → Option vA → Bool) : Bool := match S with
        | a :: b :: r => R 0 dp k (pc + 1) L (a :: b :: a :: r) s cn sn cu ret
        | _ => false
def vI_dup2 (R : vRT) (dp : Nat) (k : Nat) (pc : Nat) (L : List (Nat × vA)) (S : List vA) (s : vSt) (cn : lT) (sn : lT) (cu : vCu) (ret : vSt → Option vA → Bool) : Bool := match S with
        | a :: b :: r => R 0 dp k (pc + 1) L (a :: b :: a :: b :: r) s cn sn cu ret
        | _ => false
def vI_pop (R : vRT) (dp : Nat) (k : Nat) (pc : Nat) (L : List (Nat × vA)) (S : List vA) (s : vSt) (cn : lT) (sn : lT) (cu : vCu) (ret : vSt → Option vA → Bool) : Bool := match S with
        | _ :: r => R 0 dp k (pc + 1) L (r) s cn sn cu ret
        | _ => false
def vI_ifnull (R : vRT) (dp : Nat) (k : Nat) (pc : Nat) (L : List (Nat × vA)) (S : List vA) (s : vSt) (cn : lT) (sn : lT) (cu : vCu) (ret : vSt → Option vA → Bool) (x : Int) : Bool := match x_jp pc x with
        | some t => match S with
          | .inr none :: r => R 0 dp k t L r s cn sn cu ret
          | .inr (some _) :: r => R 0 dp k (pc + 3) L r s cn sn cu ret
          | _ => false
        | none => false
def vI_ifnonnull (R : vRT) (dp : Nat) (k : Nat) (pc : Nat) (L : List (Nat × vA)) (S : List vA) (s : vSt) (cn : lT) (sn : lT) (cu : vCu) (ret : vSt → Option vA → Bool) (x : Int) : Bool := match x_jp pc x with
        | some t => match S with
          | .inr none :: r => R 0 dp k (pc + 3) L r s cn sn cu ret
          | .inr (some _) :: r => R 0 dp k t L r s cn sn cu ret
          | _ => false
        | none => false
def vI_ireturn (q : XM) (S : List vA) (s : vSt) (cn : lT) (sn : lT) (ret : vSt → Option vA → Bool) : Bool := match S with
        | [.inl e] => vRt (mR q) e s && (cOk s cn (mMc q) && cOk s sn (mMs q)) && ret s (some (.inl e))
        | _ => false
def vI_return_ (q : XM) (S : List vA) (s : vSt) (cn : lT) (sn : lT) (ret : vSt → Option vA → Bool) : Bool := match S with
        | [] => decide (mR q = none) && (cOk s cn (mMc q) && cOk s sn (mMs q)) && ret s none
        | _ => false
def vI_areturn (q : XM) (S : List vA) (s : vSt) (cn : lT) (sn : lT) (ret : vSt → Option vA → Bool) : Bool := match S with
        | [.inr o] => (match mR q with | some (.object _) => true | some (.array _) => true | _ => false) && (cOk s cn (mMc q) && cOk s sn (mMs q)) && ret s (some (.inr o))
        | _ => false
def vI_getfield (KT : vKT) (tb : XT) (ov : vOt) (q : XM) (R : vRT) (dp : Nat) (k : Nat) (pc : Nat) (L : List (Nat × vA)) (S : List vA) (s : vSt) (cn : lT) (sn : lT) (cu : vCu) (ret : vSt → Option vA → Bool) (ix : Nat) : Bool := match S with
        | .inr (some a) :: r => if 1000000 < a then (match ov.2.1 a (mO q) ix with
            | some u => match vOv u with
              | some v => R 0 dp k (pc + 3) L (v :: r) s cn sn cu ret
              | none => false
            | none => false) else match tFld tb (mO q) ix with
          | some y => match (sG s)[a]? with
            | some c => match KT.1[c]? with
              | some (.inl o) => match o.2[y.2]? with
                | some fz => decide (o.1 = y.1) && vRdF L r cn sn fz a (.inl y.2) false s (fun s2 v => R 0 dp k (pc + 3) L (v :: r) s2 cn sn cu ret)
                | none => false
              | _ => false
            | none => false
          | none => false
        | _ => false
def vI_iaload (KT : vKT) (R : vRT) (dp : Nat) (k : Nat) (pc : Nat) (L : List (Nat × vA)) (S : List vA) (s : vSt) (cn : lT) (sn : lT) (cu : vCu) (ret : vSt → Option vA → Bool) : Bool := match S with
        | .inl e :: .inr (some a) :: r => match (sG s)[a]? with
          | some c => match KT.1[c]? with
            | some (.inr o) => decide (o.1 = 0) && vIdx e o.2.1 s && (match vRes o.2.2 e with
              | some fz => vRdF L r cn sn fz a (.inr e) false s (fun s2 v => R 0 dp k (pc + 1) L (v :: r) s2 cn sn cu ret)
              | none => false)
            | _ => false
          | none => false
        | _ => false
def vI_baload (KT : vKT) (ov : vOt) (R : vRT) (dp : Nat) (k : Nat) (pc : Nat) (L : List (Nat × vA)) (S : List vA) (s : vSt) (cn : lT) (sn : lT) (cu : vCu) (ret : vSt → Option vA → Bool) : Bool := match S with
        | .inl e :: .inr (some a) :: r => if 1000000 < a then (match ov.2.2.2.1 a with
            | some bs => decide (e.2 = []) && vIdx e bs.length s && R 0 dp k (pc + 1) L (.inl (lK (bs.getD e.1.toNat 0).toInt) :: r) s cn sn cu ret
            | none => false) else match (sG s)[a]? with
          | some c => match KT.1[c]? with
            | some (.inr o) => decide (o.1 = 1) && vIdx e o.2.1 s && (match vRes o.2.2 e with
              | some fz => vRdF L r cn sn fz a (.inr e) false s (fun s2 v => R 0 dp k (pc + 1) L (v :: r) s2 cn sn cu ret)
              | none => false)
            | _ => false
          | none => false
        | _ => false
def vI_aaload (KT : vKT) (tyl : List FieldType) (R : vRT) (dp : Nat) (k : Nat) (pc : Nat) (L : List (Nat × vA)) (S : List vA) (s : vSt) (cn : lT) (sn : lT) (cu : vCu) (ret : vSt → Option vA → Bool) : Bool := match S with
        | .inl e :: .inr (some a) :: r => match (sG s)[a]? with
          | some c => match KT.1[c]? with
            | some (.inr o) => decide ((tyl[o.1]?.map x_isRef) = some true) && vIdx e o.2.1 s && (match vRes o.2.2 e with
              | some fz => vRdF L r cn sn fz a (.inr e) (decide (c = KT.2.1.2.2.2.1) && vNnQ KT a e s) s (fun s2 v => R 0 dp k (pc + 1) L (v :: r) s2 cn sn cu ret)
              | none => false)
            | _ => false
          | none => false
        | _ => false
def vI_iastore (KT : vKT) (W : List (Nat × Nat)) (R : vRT) (dp : Nat) (k : Nat) (pc : Nat) (L : List (Nat × vA)) (S : List vA) (s : vSt) (cn : lT) (sn : lT) (cu : vCu) (ret : vSt → Option vA → Bool) : Bool := match S with
        | .inl x :: .inl e :: .inr (some a) :: r => match (sG s)[a]? with
          | some c => match KT.1[c]? with
            | some (.inr o) => (decide (o.1 = 0) && decide (c ≠ KT.2.1.2.2.2.1) && decide (c ≠ KT.2.1.2.2.2.2) && wIn W c 0 && vIdx e o.2.1 s) && (match vRes o.2.2 e with
              | some fz => vFits fz (.inl x) s && true
              | none => false) && R 0 dp k (pc + 1) L r (vSto a e (.inl x) s) cn sn cu ret
            | _ => false
          | none => false
        | _ => false
def vI_bastore (KT : vKT) (W : List (Nat × Nat)) (R : vRT) (dp : Nat) (k : Nat) (pc : Nat) (L : List (Nat × vA)) (S : List vA) (s : vSt) (cn : lT) (sn : lT) (cu : vCu) (ret : vSt → Option vA → Bool) : Bool := match S with
        | .inl x :: .inl e :: .inr (some a) :: r => match (sG s)[a]? with
          | some c => match KT.1[c]? with
            | some (.inr o) => (decide (o.1 = 1) && decide (c ≠ KT.2.1.2.2.2.1) && decide (c ≠ KT.2.1.2.2.2.2) && (wIn W c 0 || (wIn W c 1 && lEq x (lK 1))) && vIdx e o.2.1 s) && (match vRes o.2.2 e with
              | some fz => vFits fz (.inl x) s && vB01 x s
              | none => false) && R 0 dp k (pc + 1) L r (vSto a e (.inl x) s) cn sn cu ret
            | _ => false
          | none => false
        | _ => false
def vI_aastore (KT : vKT) (tb : XT) (tyl : List FieldType) (W : List (Nat × Nat)) (R : vRT) (dp : Nat) (k : Nat) (pc : Nat) (L : List (Nat × vA)) (S : List vA) (s : vSt) (cn : lT) (sn : lT) (cu : vCu) (ret : vSt → Option vA → Bool) : Bool := match S with
        | .inr (some x) :: .inl e :: .inr (some a) :: r => match (sG s)[a]? with
          | some c => match KT.1[c]? with
            | some (.inr o) => (decide (c ≠ KT.2.1.2.2.2.2) && wIn W c 0 && vIdx e o.2.1 s) && (match vRes o.2.2 e with
              | some fz => vFits fz (.inr (some x)) s
              | none => false) && (match (sG s)[x]? with
                | some d => match KT.1[d]? with
                  | some (.inl p) => match tyl[o.1]? with
                    | some (.object nm) => decide (nm = tNm tb p.1) && R 0 dp k (pc + 1) L r (vSto a e (.inr (some x)) s) cn sn cu ret
                    | _ => false
                  | _ => false
                | none => false)
            | _ => false
          | none => false
        | _ => false
def vI_putfield (KT : vKT) (tb : XT) (W : List (Nat × Nat)) (q : XM) (R : vRT) (dp : Nat) (k : Nat) (pc : Nat) (L : List (Nat × vA)) (S : List vA) (s : vSt) (cn : lT) (sn : lT) (cu : vCu) (ret : vSt → Option vA → Bool) (ix : Nat) : Bool := match S with
        | v :: .inr (some a) :: r => match tFld tb (mO q) ix with
          | some y => match (sG s)[a]? with
            | some c => match KT.1[c]? with
              | some (.inl o) => match o.2[y.2]? with
                | some fz => match (tFt tb y.1)[y.2]? with
                  | some ty => decide (o.1 = y.1) && (vFits fz v s && (vTyp ty.1 v s && (!ty.2 || (mI q && decide (mRc q = y.1))))) && (wIn W c (y.2 + 1) && vPutQ KT c a y.2 v s) && R 0 dp k (pc + 3) L r (vPut a y.2 v s) cn sn cu ret
                  | none => false
                | none => false
              | _ => false
            | none => false
          | none => false
        | _ => false
def vI_ldc (tb : XT) (ov : vOt) (q : XM) (R : vRT) (dp : Nat) (k : Nat) (pc : Nat) (L : List (Nat × vA)) (S : List vA) (s : vSt) (cn : lT) (sn : lT) (cu : vCu) (ret : vSt → Option vA → Bool) (ix : Nat) : Bool := match tLi tb (mO q) ix with
        | some x => R 0 dp k (pc + 2) L (.inl (lK x.toInt) :: S) s cn sn cu ret
        | none => match ov.1 (mO q) ix with
          | some a => decide (1000000 ≤ a) && R 0 dp k (pc + 2) L (.inr (some a) :: S) s cn sn cu ret
          | none => false
def vI_ldc_w (tb : XT) (ov : vOt) (q : XM) (R : vRT) (dp : Nat) (k : Nat) (pc : Nat) (L : List (Nat × vA)) (S : List vA) (s : vSt) (cn : lT) (sn : lT) (cu : vCu) (ret : vSt → Option vA → Bool) (ix : Nat) : Bool := match tLi tb (mO q) ix with
        | some x => R 0 dp k (pc + 3) L (.inl (lK x.toInt) :: S) s cn sn cu ret
        | none => match ov.1 (mO q) ix with
          | some a => decide (1000000 ≤ a) && R 0 dp k (pc + 3) L (.inr (some a) :: S) s cn sn cu ret
          | none => false
def vI_i2l (KT : vKT) (tb : XT) (q : XM) (R : vRT) (dp : Nat) (k : Nat) (pc : Nat) (L : List (Nat × vA)) (S : List vA) (s : vSt) (cn : lT) (sn : lT) (cu : vCu) (ret : vSt → Option vA → Bool) : Bool := match S, x_lq q pc with
        | .inl a :: r, some (j, j0, ix, j2) => match x_lk L j, x_lk L j0, x_lk L j2, tFld tb (mO q) ix with
          | some (.inl b), some (.inr (some o)), some (.inl e), some y => (match (sG s)[o]? with
            | some c => match KT.1[c]? with
              | some (.inl ob) => match ob.2[y.2]? with
                | some fz => decide (ob.1 = y.1) && vRdF L (.inl a :: .inl b :: .inl (lNm (sI s) e) :: r) cn sn fz o (.inl y.2) false s (fun s2 v2 => match v2 with
                  | .inr (some ar) => match (sG s2)[ar]? with
                    | some c2 => match KT.1[c2]? with
                      | some (.inr oa) => decide (oa.1 = 0) && vIdx (lNm (sI s) e) oa.2.1 s2 && (match vRes oa.2.2 (lNm (sI s) e) with
                        | some fz2 => vRdF L (.inl a :: .inl b :: r) cn sn fz2 ar (.inr (lNm (sI s) e)) false s2 (fun s3 v3 => match v3 with
                          | .inl lv => vL3 a b lv s3 (fun x s4 => R 0 dp k (pc + 13) L (.inl (lK x) :: r) s4 cn sn cu ret)
                          | _ => false)
                        | none => false)
                      | _ => false
                    | none => false
                  | _ => false)
                | none => false
              | _ => false
            | none => false)
          | _, _, _, _ => false
        | _, _ => false
def vI_getstatic (ov : vOt) (q : XM) (R : vRT) (dp : Nat) (k : Nat) (pc : Nat) (L : List (Nat × vA)) (S : List vA) (s : vSt) (cn : lT) (sn : lT) (cu : vCu) (ret : vSt → Option vA → Bool) (ix : Nat) : Bool := match ov.2.2.1 (mO q) ix with
        | some u => match vOv u with
          | some v => R 0 dp k (pc + 3) L (v :: S) s cn sn cu ret
          | none => false
        | none => false
def vI_arraylength (ov : vOt) (R : vRT) (dp : Nat) (k : Nat) (pc : Nat) (L : List (Nat × vA)) (S : List vA) (s : vSt) (cn : lT) (sn : lT) (cu : vCu) (ret : vSt → Option vA → Bool) : Bool := match S with
        | .inr (some a) :: r => if 1000000 < a then (match ov.2.2.2.1 a with
            | some bs => R 0 dp k (pc + 1) L (.inl (lK (Int32.ofNat bs.length).toInt) :: r) s cn sn cu ret
            | none => false) else false
        | _ => false
def vI_tableswitch (R : vRT) (dp : Nat) (k : Nat) (pc : Nat) (L : List (Nat × vA)) (S : List vA) (s : vSt) (cn : lT) (sn : lT) (cu : vCu) (ret : vSt → Option vA → Bool) (df : Int) (lo : Int) (up : Int) (os : Array Int) : Bool := match S with
        | .inl a :: r => decide (up + 1 = lo + os.size) && x_swk (x_tp lo os.toList) && vSw a df (fun o s2 => match x_jp pc o with
          | some t => R 0 dp k t L r s2 cn sn cu ret
          | none => false) (x_tp lo os.toList) s
        | _ => false
def vI_lookupswitch (R : vRT) (dp : Nat) (k : Nat) (pc : Nat) (L : List (Nat × vA)) (S : List vA) (s : vSt) (cn : lT) (sn : lT) (cu : vCu) (ret : vSt → Option vA → Bool) (df : Int) (ps : Array (Int × Int)) : Bool := match S with
        | .inl a :: r => (ps.toList.zip (ps.toList.drop 1)).all (fun (a, next) => a.1 < next.1) && x_swk ps.toList && vSw a df (fun o s2 => match x_jp pc o with
          | some t => R 0 dp k t L r s2 cn sn cu ret
          | none => false) ps.toList s
        | _ => false
def vI_new (KT : vKT) (tb : XT) (kn : Nat → Nat → Option Nat) (q : XM) (R : vRT) (dp : Nat) (k : Nat) (pc : Nat) (L : List (Nat × vA)) (S : List vA) (s : vSt) (cn : lT) (sn : lT) (cu : vCu) (ret : vSt → Option vA → Bool) (ix : Nat) : Bool := match tNw tb (mO q) ix with
        | some ci => match kn k pc with
          | some c => match KT.1[c]? with
            | some (.inl o) => decide (o.1 = ci) && vDefs (tFt tb ci) o.2 && (decide (c ≠ KT.2.1.1) && decide (c ≠ KT.2.1.2.2.2.2)) && (cOk s (lAdd cn (lK 1)) (mMc q) && cOk s (lAdd sn (lK ((tFt tb ci).length : Int))) (mMs q)) && (vFr L S cn sn s && sBd s) && R 0 dp k (pc + 3) L (.inr (some (sG s).length) :: S) (vMkD KT c (tFt tb ci) s) (lAdd cn (lK 1)) (lAdd sn (lK ((tFt tb ci).length : Int))) cu ret
            | _ => false
          | none => false
        | none => false
def vI_newarray (KT : vKT) (kn : Nat → Nat → Option Nat) (q : XM) (R : vRT) (dp : Nat) (k : Nat) (pc : Nat) (L : List (Nat × vA)) (S : List vA) (s : vSt) (cn : lT) (sn : lT) (cu : vCu) (ret : vSt → Option vA → Bool) (at_ : Jvm.ClassFile.ArrayType) : Bool := match S with
        | .inl e :: r => match kn k pc with
          | some c => match KT.1[c]? with
            | some (.inr o) => (match at_ with | .int => decide (o.1 = 0) | .boolean => decide (o.1 = 1) | _ => false) && decide (e.2 = []) && decide (e.1 = (o.2.1 : Int)) && decide (o.2.1 ≤ 100000) && o.2.2.all vZero && (decide (c ≠ KT.2.1.1) && decide (c ≠ KT.2.1.2.2.2.2)) && (cOk s (lAdd cn (lK 1)) (mMc q) && cOk s (lAdd sn (lK (o.2.1 : Int))) (mMs q)) && (vFr L r cn sn s && sBd s) && R 0 dp k (pc + 2) L (.inr (some (sG s).length) :: r) (vMkA KT c s) (lAdd cn (lK 1)) (lAdd sn (lK (o.2.1 : Int))) cu ret
            | _ => false
          | none => false
        | _ => false
def vI_multianewarray (KT : vKT) (tb : XT) (kn : Nat → Nat → Option Nat) (q : XM) (R : vRT) (dp : Nat) (k : Nat) (pc : Nat) (L : List (Nat × vA)) (S : List vA) (s : vSt) (cn : lT) (sn : lT) (cu : vCu) (ret : vSt → Option vA → Bool) (ix : Nat) (dm : Nat) : Bool := match S with
        | .inl e2 :: .inl e1 :: r => match tMn tb (mO q) ix with
          | some y => match kn k pc with
            | some c => match KT.1[c]? with
              | some (.inr o) => match o.2.2 with
                | [.inr w] => match KT.1[w.2]? with
                  | some (.inr p) => (decide (dm = 2) && decide (y.1 = o.1) && decide (y.2 = p.1) && decide (p.1 < 2) && lEq e1 (lK (o.2.1 : Int)) && lEq e2 (lK (p.2.1 : Int)) && decide (o.2.1 ≤ 1000) && decide (p.2.1 ≤ 1000) && decide (w.1 = false) && p.2.2.all vZero && (kRaw KT c).isNone && (kRaw KT w.2).isNone && decide (c ≠ KT.2.1.1) && decide (w.2 ≠ KT.2.1.1) && decide (c ≠ KT.2.1.2.2.2.2) && decide (w.2 ≠ KT.2.1.2.2.2.2)) && (cOk s (lAdd cn (lK ((1 + o.2.1 : Nat) : Int))) (mMc q) && cOk s (lAdd sn (lK ((o.2.1 + o.2.1 * p.2.1 : Nat) : Int))) (mMs q)) && (vFr L r cn sn s && (sBd s && decide ((sG s).length + 1 + o.2.1 < 1000000))) && R 0 dp k (pc + 4) L (.inr (some (sG s).length) :: r) (vMuM c w.2 o.2.1 s) (lAdd cn (lK ((1 + o.2.1 : Nat) : Int))) (lAdd sn (lK ((o.2.1 + o.2.1 * p.2.1 : Nat) : Int))) cu ret
                  | _ => false
                | _ => false
              | _ => false
            | none => false
          | none => false
        | _ => false
def vI_invokevirtual (KT : vKT) (tb : XT) (ov : vOt) (CT : Nat → List vCt) (W : List (Nat × Nat)) (q : XM) (R : vRT) (dp : Nat) (k : Nat) (pc : Nat) (L : List (Nat × vA)) (S : List vA) (s : vSt) (cn : lT) (sn : lT) (cu : vCu) (ret : vSt → Option vA → Bool) (ix : Nat) : Bool := match tCal tb (mO q) ix with
        | some y => match dp with
          | dp2 + 1 => match tMth tb y.1 with
            | some q2 => match S.drop (mNp q2) with
              | .inr (some a) :: r => (decide (mNp q2 + 1 ≤ S.length) && decide (y.2 = 0) && vCls KT ov a (mRc q2) s && decide (r.length ≤ 8) && decide (mNp q2 + 1 ≤ mL q2) && (cOk s (lAdd cn (lK (mMc q2 : Int))) (mMc q) && cOk s (lAdd sn (lK (mMs q2 : Int))) (mMs q))) && (if (CT y.1).isEmpty then vFr L r cn sn s && R 0 dp2 y.1 0 (x_en 0 (.inr (some a) :: (S.take (mNp q2)).reverse)) [] s (lK 0) (lK 0) (fun _ => none) (fun s2 v => R 0 (dp2 + 1) k (pc + 3) L (x_push v r) s2 (lAdd cn (lK (mMc q2 : Int))) (lAdd sn (lK (mMs q2 : Int))) cu ret)
                else vFr L r cn sn s && vCal W dp2 (.inr (some a) :: (S.take (mNp q2)).reverse) s (fun s2 vs => match vs with
                  | [] => R 0 (dp2 + 1) k (pc + 3) L r s2 (lAdd cn (lK (mMc q2 : Int))) (lAdd sn (lK (mMs q2 : Int))) cu ret
                  | [v] => R 0 (dp2 + 1) k (pc + 3) L (v :: r) s2 (lAdd cn (lK (mMc q2 : Int))) (lAdd sn (lK (mMs q2 : Int))) cu ret
                  | _ => false) (CT y.1))
              | _ => false
            | none => false
          | 0 => false
        | none => false
def vI_invokespecial (tb : XT) (CT : Nat → List vCt) (W : List (Nat × Nat)) (q : XM) (R : vRT) (dp : Nat) (k : Nat) (pc : Nat) (L : List (Nat × vA)) (S : List vA) (s : vSt) (cn : lT) (sn : lT) (cu : vCu) (ret : vSt → Option vA → Bool) (ix : Nat) : Bool := if tBi tb (mO q) ix = some 0 then (match S with
        | .inr (some _) :: r => decide (r.length ≤ 8) && R 0 dp k (pc + 3) L r s cn sn cu ret
        | _ => false) else if tBi tb (mO q) ix = none then (match tCal tb (mO q) ix with
        | some y => match dp with
          | dp2 + 1 => match tMth tb y.1 with
            | some q2 => match S.drop (mNp q2) with
              | .inr (some a) :: r => (decide (mNp q2 + 1 ≤ S.length) && decide (y.2 = 1) && true && decide (r.length ≤ 8) && decide (mNp q2 + 1 ≤ mL q2) && (cOk s (lAdd cn (lK (mMc q2 : Int))) (mMc q) && cOk s (lAdd sn (lK (mMs q2 : Int))) (mMs q))) && (if (CT y.1).isEmpty then vFr L r cn sn s && R 0 dp2 y.1 0 (x_en 0 (.inr (some a) :: (S.take (mNp q2)).reverse)) [] s (lK 0) (lK 0) (fun _ => none) (fun s2 v => R 0 (dp2 + 1) k (pc + 3) L (x_push v r) s2 (lAdd cn (lK (mMc q2 : Int))) (lAdd sn (lK (mMs q2 : Int))) cu ret)
                else vFr L r cn sn s && vCal W dp2 (.inr (some a) :: (S.take (mNp q2)).reverse) s (fun s2 vs => match vs with
                  | [] => R 0 (dp2 + 1) k (pc + 3) L r s2 (lAdd cn (lK (mMc q2 : Int))) (lAdd sn (lK (mMs q2 : Int))) cu ret
                  | [v] => R 0 (dp2 + 1) k (pc + 3) L (v :: r) s2 (lAdd cn (lK (mMc q2 : Int))) (lAdd sn (lK (mMs q2 : Int))) cu ret
                  | _ => false) (CT y.1))
              | _ => false
            | none => false
          | 0 => false
        | none => false) else false
def vI_invokestatic (KT : vKT) (tb : XT) (CT : Nat → List vCt) (W : List (Nat × Nat)) (q : XM) (R : vRT) (dp : Nat) (k : Nat) (pc : Nat) (L : List (Nat × vA)) (S : List vA) (s : vSt) (cn : lT) (sn : lT) (cu : vCu) (ret : vSt → Option vA → Bool) (ix : Nat) : Bool := match tCal tb (mO q) ix with
        | some y => match dp with
          | dp2 + 1 => match tMth tb y.1 with
            | some q2 => (decide (mNp q2 ≤ S.length) && decide (2 ≤ y.2) && decide ((S.drop (mNp q2)).length ≤ 8) && decide (mNp q2 ≤ mL q2) && (cOk s (lAdd cn (lK (mMc q2 : Int))) (mMc q) && cOk s (lAdd sn (lK (mMs q2 : Int))) (mMs q))) && (if (CT y.1).isEmpty then vFr L (S.drop (mNp q2)) cn sn s && R 0 dp2 y.1 0 (x_en 0 (S.take (mNp q2)).reverse) [] s (lK 0) (lK 0) (fun _ => none) (fun s2 v => R 0 (dp2 + 1) k (pc + 3) L (x_push v (S.drop (mNp q2))) s2 (lAdd cn (lK (mMc q2 : Int))) (lAdd sn (lK (mMs q2 : Int))) cu ret)
                else vFr L (S.drop (mNp q2)) cn sn s && vCal W dp2 (S.take (mNp q2)).reverse s (fun s2 vs => match vs with
                  | [] => R 0 (dp2 + 1) k (pc + 3) L (S.drop (mNp q2)) s2 (lAdd cn (lK (mMc q2 : Int))) (lAdd sn (lK (mMs q2 : Int))) cu ret
                  | [v] => R 0 (dp2 + 1) k (pc + 3) L (v :: (S.drop (mNp q2))) s2 (lAdd cn (lK (mMc q2 : Int))) (lAdd sn (lK (mMs q2 : Int))) cu ret
                  | _ => false) (CT y.1))
            | none => false
          | 0 => false
        | none => (if tBi tb (mO q) ix = some 1 then (match S with
          | .inl n :: .inl d :: .inr (some bd) :: .inl e :: .inr (some bs) :: r => decide (r.length ≤ 8) && vCpQ KT W bd bs n d e s && R 0 dp k (pc + 3) L r (vCpz bd bs n d e s) cn sn cu ret
          | _ => false)
        else if tBi tb (mO q) ix = some 2 then (match S with
          | .inl b :: .inl a :: r => decide (r.length ≤ 8) && (cOk s cn (mMc q) && cOk s sn (mMs q)) && vBr 2 a b s (fun s2 => R 0 dp k (pc + 3) L (.inl b :: r) s2 cn sn cu ret) (fun s2 => R 0 dp k (pc + 3) L (.inl a :: r) s2 cn sn cu ret)
          | _ => false)
        else if tBi tb (mO q) ix = some 3 then (match S with
          | .inl b :: .inl a :: r => decide (r.length ≤ 8) && (cOk s cn (mMc q) && cOk s sn (mMs q)) && vBr 2 b a s (fun s2 => R 0 dp k (pc + 3) L (.inl b :: r) s2 cn sn cu ret) (fun s2 => R 0 dp k (pc + 3) L (.inl a :: r) s2 cn sn cu ret)
          | _ => false)
        else if tBi tb (mO q) ix = some 4 then (match S with
          | .inl a :: r => decide (r.length ≤ 8) && (cOk s cn (mMc q) && cOk s sn (mMs q)) && vBr 3 a (lK 0) s (fun s2 => R 0 dp k (pc + 3) L (.inl a :: r) s2 cn sn cu ret) (fun s2 => R 0 dp k (pc + 3) L (.inl (lSub (lK 0) a) :: r) s2 cn sn cu ret)
          | _ => false)
        else false)
def vDI (KT : vKT) (tb : XT) (tyl : List FieldType) (ov : vOt) (CT : Nat → List vCt) (kn : Nat → Nat → Option Nat) (W : List (Nat × Nat)) (q : XM) (R : vRT) (dp : Nat) (k : Nat) (pc : Nat) (L : List (Nat × vA)) (S : List vA) (s : vSt) (cn : lT) (sn : lT) (cu : vCu) (ret : vSt → Option vA → Bool) : Instr → Bool
  | .iconst x => vI_iconst R dp k pc L S s cn sn cu ret x
  | .bipush x => vI_bipush R dp k pc L S s cn sn cu ret x
  | .sipush x => vI_sipush R dp k pc L S s cn sn cu ret x
  | .aconst_null => vI_aconst_null R dp k pc L S s cn sn cu ret
  | .iload_n j => vI_iload_n R dp k pc L S s cn sn cu ret j
  | .iload j => vI_iload R dp k pc L S s cn sn cu ret j
  | .aload_n j => vI_aload_n R dp k pc L S s cn sn cu ret j
  | .aload j => vI_aload R dp k pc L S s cn sn cu ret j
  | .iadd => vI_iadd R dp k pc L S s cn sn cu ret
  | .isub => vI_isub R dp k pc L S s cn sn cu ret
  | .imul => vI_imul R dp k pc L S s cn sn cu ret
  | .iand => vI_iand R dp k pc L S s cn sn cu ret
  | .ior => vI_ior R dp k pc L S s cn sn cu ret
  | .ixor => vI_ixor R dp k pc L S s cn sn cu ret
  | .ishl => vI_ishl R dp k pc L S s cn sn cu ret
  | .ishr => vI_ishr R dp k pc L S s cn sn cu ret
  | .iushr => vI_iushr R dp k pc L S s cn sn cu ret
  | .idiv => vI_idiv R dp k pc L S s cn sn cu ret
  | .irem => vI_irem R dp k pc L S s cn sn cu ret
  | .i2b => vI_i2b R dp k pc L S s cn sn cu ret
  | .i2s => vI_i2s R dp k pc L S s cn sn cu ret
  | .i2c => vI_i2c R dp k pc L S s cn sn cu ret
  | .ineg => vI_ineg R dp k pc L S s cn sn cu ret
  | .goto x => vI_goto R dp k pc L S s cn sn cu ret x
  | .if_icmp c x => vI_if_icmp R dp k pc L S s cn sn cu ret c x
  | .ifCond c x => vI_ifCond R dp k pc L S s cn sn cu ret c x
  | .istore_n j => vI_istore_n q R dp k pc L S s cn sn cu ret j
  | .istore j => vI_istore q R dp k pc L S s cn sn cu ret j
  | .astore_n j => vI_astore_n q R dp k pc L S s cn sn cu ret j
  | .astore j => vI_astore q R dp k pc L S s cn sn cu ret j
  | .iinc j x => vI_iinc q R dp k pc L S s cn sn cu ret j x
  | .dup => vI_dup R dp k pc L S s cn sn cu ret
  | .dup_x1 => vI_dup_x1 R dp k pc L S s cn sn cu ret
  | .dup2 => vI_dup2 R dp k pc L S s cn sn cu ret
  | .pop => vI_pop R dp k pc L S s cn sn cu ret
  | .ifnull x => vI_ifnull R dp k pc L S s cn sn cu ret x
  | .ifnonnull x => vI_ifnonnull R dp k pc L S s cn sn cu ret x
  | .ireturn => vI_ireturn q S s cn sn ret
  | .return_ => vI_return_ q S s cn sn ret
  | .areturn => vI_areturn q S s cn sn ret
  | .getfield ix => vI_getfield KT tb ov q R dp k pc L S s cn sn cu ret ix
  | .iaload => vI_iaload KT R dp k pc L S s cn sn cu ret
  | .baload => vI_baload KT ov R dp k pc L S s cn sn cu ret
  | .aaload => vI_aaload KT tyl R dp k pc L S s cn sn cu ret
  | .iastore => vI_iastore KT W R dp k pc L S s cn sn cu ret
  | .bastore => vI_bastore KT W R dp k pc L S s cn sn cu ret
  | .aastore => vI_aastore KT tb tyl W R dp k pc L S s cn sn cu ret
  | .putfield ix => vI_putfield KT tb W q R dp k pc L S s cn sn cu ret ix
  | .ldc ix => vI_ldc tb ov q R dp k pc L S s cn sn cu ret ix
  | .ldc_w ix => vI_ldc_w tb ov q R dp k pc L S s cn sn cu ret ix
  | .i2l => vI_i2l KT tb q R dp k pc L S s cn sn cu ret
  | .getstatic ix => vI_getstatic ov q R dp k pc L S s cn sn cu ret ix
  | .arraylength => vI_arraylength ov R dp k pc L S s cn sn cu ret
  | .tableswitch df lo up os => vI_tableswitch R dp k pc L S s cn sn cu ret df lo up os
  | .lookupswitch df ps => vI_lookupswitch R dp k pc L S s cn sn cu ret df ps
  | .new ix => vI_new KT tb kn q R dp k pc L S s cn sn cu ret ix
  | .newarray at_ => vI_newarray KT kn q R dp k pc L S s cn sn cu ret at_
  | .multianewarray ix dm => vI_multianewarray KT tb kn q R dp k pc L S s cn sn cu ret ix dm
  | .invokevirtual ix => vI_invokevirtual KT tb ov CT W q R dp k pc L S s cn sn cu ret ix
  | .invokespecial ix => vI_invokespecial tb CT W q R dp k pc L S s cn sn cu ret ix
  | .invokestatic ix => vI_invokestatic KT tb CT W q R dp k pc L S s cn sn cu ret ix
  | _ => false
def vB4 (KT : vKT) (tb : XT) (tyl : List FieldType) (ov : vOt) (CT : Nat → List vCt) (kn : Nat → Nat → Option Nat) (W : List (Nat × Nat)) (q : XM) (R : vRT) (dp : Nat) (k : Nat) (pc : Nat) (L : List (Nat × vA)) (S : List vA) (s : vSt) (cn : lT) (sn : lT) (cu : vCu) (ret : vSt → Option vA → Bool) (o : Option (Instr × Nat)) : Bool := match o with
  | none => false
  | some (i, _) => vDI KT tb tyl ov CT kn W q R dp k pc L S s cn sn cu ret i
def vB3 (KT : vKT) (tb : XT) (tyl : List FieldType) (ov : vOt) (CT : Nat → List vCt) (kn : Nat → Nat → Option Nat) (W : List (Nat × Nat)) (R : vRT) (dp : Nat) (k : Nat) (pc : Nat) (L : List (Nat × vA)) (S : List vA) (s : vSt) (cn : lT) (sn : lT) (cu : vCu) (ret : vSt → Option vA → Bool) (o : Option XM) : Bool := match o with
  | none => false
  | some q => vB4 KT tb tyl ov CT kn W q R dp k pc L S s cn sn cu ret (mC q pc)
def vB2 (KT : vKT) (tb : XT) (tyl : List FieldType) (ov : vOt) (CT : Nat → List vCt) (kn : Nat → Nat → Option Nat) (W : List (Nat × Nat)) (R : vRT) (dp : Nat) (k : Nat) (pc : Nat) (L : List (Nat × vA)) (S : List vA) (s : vSt) (cn : lT) (sn : lT) (cu : vCu) (ret : vSt → Option vA → Bool) (o : Option (List vHn)) : Bool := match o with
  | some x => vHnA KT L S cn sn (fun s2 => R 2 dp k pc L S s2 cn sn cu ret) x s
  | none => vB3 KT tb tyl ov CT kn W R dp k pc L S s cn sn cu ret (tMth tb k)
def vB1 (KT : vKT) (tb : XT) (tyl : List FieldType) (ov : vOt) (CT : Nat → List vCt) (kn : Nat → Nat → Option Nat) (W : List (Nat × Nat)) (hs : Nat → Nat → Option (List vHn)) (R : vRT) (go : Nat) (dp : Nat) (k : Nat) (pc : Nat) (L : List (Nat × vA)) (S : List vA) (s : vSt) (cn : lT) (sn : lT) (cu : vCu) (ret : vSt → Option vA → Bool) (o : Option (List (Nat × vA) → List vA → vSt → lT → lT → Bool)) : Bool := match o with
  | some g => g L S s cn sn
  | none => vB2 KT tb tyl ov CT kn W R dp k pc L S s cn sn cu ret (if go ≤ 1 then hs k pc else none)
/-- the place as a number that is written out: what is known of it then is known for good -/
def vB0 (KT : vKT) (tb : XT) (tyl : List FieldType) (ov : vOt) (CT : Nat → List vCt) (kn : Nat → Nat → Option Nat) (W : List (Nat × Nat)) (hs : Nat → Nat → Option (List vHn)) (R : vRT) (go : Nat) (dp : Nat) (k : Nat) (L : List (Nat × vA)) (S : List vA) (s : vSt) (cn : lT) (sn : lT) (cu : vCu) (ret : vSt → Option vA → Bool) : Nat → Bool
  | 0 => vB1 KT tb tyl ov CT kn W hs R go dp k 0 L S s cn sn cu ret (if go = 0 then cu 0 else none)
  | pc + 1 => vB1 KT tb tyl ov CT kn W hs R go dp k (pc + 1) L S s cn sn cu ret (if go = 0 then cu (pc + 1) else none)
def vChk (KT : vKT) (tb : XT) (tyl : List FieldType) (ov : vOt) (CT : Nat → List vCt) (hs : Nat → Nat → Option (List vHn)) (kn : Nat → Nat → Option Nat) (W : List (Nat × Nat)) : Nat → Nat → Nat → Nat → Nat → List (Nat × vA) → List vA → vSt → lT → lT → vCu → (vSt → Option vA → Bool) → Bool
  | 0, _, _, _, _, _, _, _, _, _, _, _ => false
  | f + 1, go, dp, k, pc, L, S, s, cn, sn, cu, ret => vB0 KT tb tyl ov CT kn W hs (vChk KT tb tyl ov CT hs kn W f) go dp k L S s cn sn cu ret pc
theorem vB1_eq {KT : vKT} {tb : XT} {tyl : List FieldType} {ov : vOt} {CT : Nat → List vCt} {hs : Nat → Nat → Option (List vHn)} {kn : Nat → Nat → Option Nat} {W : List (Nat × Nat)} (f go dp k pc : Nat) (L : List (Nat × vA)) (S : List vA) (s : vSt) (cn sn : lT) (cu : vCu) (ret : vSt → Option vA → Bool) :
    vB1 KT tb tyl ov CT kn W hs (vChkO KT tb tyl ov CT hs kn W f) go dp k pc L S s cn sn cu ret (if go = 0 then cu pc else none) = vChkO KT tb tyl ov CT hs kn W (f + 1) go dp k pc L S s cn sn cu ret := by
  rw [vChkO.eq_def]
  dsimp only
  generalize (if go = 0 then cu pc else none) = a
  rcases a with _ | g
  rotate_left
  · rfl
  show vB2 KT tb tyl ov CT kn W (vChkO KT tb tyl ov CT hs kn W f) dp k pc L S s cn sn cu ret (if go ≤ 1 then hs k pc else none) = _
  dsimp only
  generalize (if go ≤ 1 then hs k pc else none) = b
  rcases b with _ | x
  rotate_left
  · rfl
  show vB3 KT tb tyl ov CT kn W (vChkO KT tb tyl ov CT hs kn W f) dp k pc L S s cn sn cu ret (tMth tb k) = _
  dsimp only
  generalize tMth tb k = c
  rcases c with _ | q
  · rfl
  show vB4 KT tb tyl ov CT kn W q (vChkO KT tb tyl ov CT hs kn W f) dp k pc L S s cn sn cu ret (mC q pc) = _
  dsimp only
  generalize mC q pc = d
  rcases d with _ | ⟨i, n⟩
  · rfl
  show vDI KT tb tyl ov CT kn W q (vChkO KT tb tyl ov CT hs kn W f) dp k pc L S s cn sn cu ret i = _
  cases i <;> rfl
theorem vChk_eq {KT : vKT} {tb : XT} {tyl : List FieldType} {ov : vOt} {CT : Nat → List vCt} {hs : Nat → Nat → Option (List vHn)} {kn : Nat → Nat → Option Nat} {W : List (Nat × Nat)} : ∀ f : Nat, vChk KT tb tyl ov CT hs kn W f = vChkO KT tb tyl ov CT hs kn W f
  | 0 => by
    funext go dp k pc L S s cn sn cu ret
    rfl
  | f + 1 => by
    funext go dp k pc L S s cn sn cu ret
    rw [← vB1_eq, ← vChk_eq f]
    cases pc <;> rfl
theorem vChk_spec {KT : vKT} {tb : XT} {tyl : List FieldType} {ot : XO Int32} {ov : vOt} (hov : vOvLe ov (o4 ot)) {CT : Nat → List vCt} {hs : Nat → Nat → Option (List vHn)} {kn : Nat → Nat → Option Nat} {W : List (Nat × Nat)} (hCT : ∀ j c, c ∈ CT j → vCtSem KT tb tyl ot j c) {ty0 : Nat → Option Nat} {H0 : List (XC Int32)} (hr0 : ∀ a c, ty0 a = some c → kRaw KT c = none) : ∀ (f go : Nat) {dp k pc dp2' B : Nat} {q : XM} {L : List (Nat × vA)} {S : List vA} {s : vSt} {cn sn : lT} {cu : vCu} {ret : vSt → Option vA → Bool} {ρ : Nat → Int} {σ : Nat → Nat} {ty : Nat → Option Nat} {H : List (XC Int32)} {Lc : List (Nat × XV Int32)} {cn2 sn2 : Nat} {Post : Option (XV Int32) → List (XC Int32) → Prop}
    (_ : tMth tb k = some q) (_ : dp ≤ dp2') (_ : B + mMc q ≤ 1000000) (_ : vAt KT W ty0 H0 B L s cn sn ρ σ ty H Lc cn2 sn2) (_ : vChk KT tb tyl ov CT hs kn W f go dp k pc L S s cn sn cu ret = true) (_ : vRetOk KT W ty0 H0 (B + mMc q) s ρ σ ret Post) (_ : vCutOk KT tb tyl ot W ty0 H0 B dp2' k s ρ σ cu Post),
    ∃ v H2, x_To tb tyl ot dp2' k pc Lc (S.map (cv ρ σ)) H cn2 sn2 v H2 ∧ Post v H2 := by
  simp only [vChk_eq]
  exact vChkO_spec hov hCT hr0
end XFast
