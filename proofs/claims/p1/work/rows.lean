section
/-! An evaluator of its own over an abstract heap: values, cells, instructions. Whatever it finds no fault with, the machine does (part 02). -/
section XDefs
variable {E K : Type}
/-- an int (as E has it), null, or a cell by its number -/
abbrev XV (E : Type) : Type := E ⊕ Option Nat
/-- an object (its class by number, its fields), or an array (its type by number, its elements) -/
abbrev XC (E : Type) : Type := (Nat × List (XV E)) ⊕ (Nat × List (XV E))
/-- the ways that are left: each a list of what holds on it -/
abbrev XR (K : Type) : Type := List (List K)
abbrev XD (E K : Type) : Type := (E → Int32) × (Int32 → E) × (Nat → E → E → E) × (Nat → E → E) × (E → Option Int32) × (K → Prop) × (Nat → E → E → List K → (List K → XR K) → (List K → XR K) → XR K)
abbrev dEv (d : XD E K) : E → Int32 := d.1
abbrev dKc (d : XD E K) : Int32 → E := d.2.1
abbrev dBin (d : XD E K) : Nat → E → E → E := d.2.2.1
abbrev dUn (d : XD E K) : Nat → E → E := d.2.2.2.1
abbrev dKst (d : XD E K) : E → Option Int32 := d.2.2.2.2.1
abbrev dHd (d : XD E K) : K → Prop := d.2.2.2.2.2.1
abbrev dBr (d : XD E K) : Nat → E → E → List K → (List K → XR K) → (List K → XR K) → XR K := d.2.2.2.2.2.2
/-- a method: name, bytes, locals, return, whose pool, the receiver's class, parameters, cells and slots that it may make, its instructions -/
abbrev XM : Type := MethodName × ByteArray × Nat × Option FieldType × Nat × Nat × Nat × Nat × Nat × Bool × (Nat → Option (Instr × Nat))
abbrev mY (q : XM) : MethodName := q.1
abbrev mB (q : XM) : ByteArray := q.2.1
abbrev mL (q : XM) : Nat := q.2.2.1
abbrev mR (q : XM) : Option FieldType := q.2.2.2.1
abbrev mO (q : XM) : Nat := q.2.2.2.2.1
abbrev mRc (q : XM) : Nat := q.2.2.2.2.2.1
abbrev mNp (q : XM) : Nat := q.2.2.2.2.2.2.1
abbrev mMc (q : XM) : Nat := q.2.2.2.2.2.2.2.1
abbrev mMs (q : XM) : Nat := q.2.2.2.2.2.2.2.2.1
abbrev mI (q : XM) : Bool := q.2.2.2.2.2.2.2.2.2.1
abbrev mC (q : XM) : Nat → Option (Instr × Nat) := q.2.2.2.2.2.2.2.2.2.2
/-- tables: methods; the names of the pools' classes; fields; new; calls (callee, sort); arrays of references; arrays of arrays; field types of a class; what is known of itself (Object's constructor, copying); ints of the pool -/
abbrev XT : Type := (Nat → Option XM) × (Nat → String) × (Nat → Nat → Option (Nat × Nat)) × (Nat → Nat → Option Nat) × (Nat → Nat → Option (Nat × Nat)) × (Nat → Nat → Option Nat) × (Nat → Nat → Option (Nat × Nat)) × (Nat → List (FieldType × Bool)) × (Nat → Nat → Option Nat) × (Nat → Nat → Option Int32)
abbrev tMth (t : XT) : Nat → Option XM := t.1
abbrev tNm (t : XT) : Nat → String := t.2.1
abbrev tFld (t : XT) : Nat → Nat → Option (Nat × Nat) := t.2.2.1
abbrev tNw (t : XT) : Nat → Nat → Option Nat := t.2.2.2.1
abbrev tCal (t : XT) : Nat → Nat → Option (Nat × Nat) := t.2.2.2.2.1
abbrev tAn (t : XT) : Nat → Nat → Option Nat := t.2.2.2.2.2.1
abbrev tMn (t : XT) : Nat → Nat → Option (Nat × Nat) := t.2.2.2.2.2.2.1
abbrev tFt (t : XT) : Nat → List (FieldType × Bool) := t.2.2.2.2.2.2.2.1
abbrev tBi (t : XT) : Nat → Nat → Option Nat := t.2.2.2.2.2.2.2.2.1
abbrev tLi (t : XT) : Nat → Nat → Option Int32 := t.2.2.2.2.2.2.2.2.2
/-- what lies outside (numbers from 1000000 on): constants of text by pool and place; their fields; static fields; rows of bytes; the script (its length, its ints); their classes -/
abbrev XO (E : Type) : Type := (Nat → Nat → Option Nat) × (Nat → Nat → Nat → Option (Int32 ⊕ Nat)) × (Nat → Nat → Option (Int32 ⊕ Nat)) × (Nat → Option (List Int32)) × (Nat × (Nat → E)) × (Nat → Option Nat)
abbrev oSl (t : XO E) : Nat → Nat → Option Nat := t.1
abbrev oFl (t : XO E) : Nat → Nat → Nat → Option (Int32 ⊕ Nat) := t.2.1
abbrev oGs (t : XO E) : Nat → Nat → Option (Int32 ⊕ Nat) := t.2.2.1
abbrev oBy (t : XO E) : Nat → Option (List Int32) := t.2.2.2.1
abbrev oSn (t : XO E) : Nat := t.2.2.2.2.1.1
abbrev oSc (t : XO E) : Nat → E := t.2.2.2.2.1.2
abbrev oCl (t : XO E) : Nat → Option Nat := t.2.2.2.2.2
def x_ov (d : XD E K) : Int32 ⊕ Nat → XV E
  | .inl v => .inl (dKc d v)
  | .inr a => .inr (some a)
def x_bin : Nat → Int32 → Int32 → Int32
  | 0, x, y => x + y
  | 1, x, y => x - y
  | 2, x, y => x * y
  | 3, x, y => x &&& y
  | 4, x, y => x ||| y
  | 5, x, y => x ^^^ y
  | 6, x, y => x <<< (y &&& 31)
  | 7, x, y => x >>> (y &&& 31)
  | 8, x, y => x / y
  | 9, x, y => x - x / y * y
  | _, x, y => (x.toUInt32 >>> (y.toUInt32 &&& Int32.toUInt32 31)).toInt32
def x_un : Nat → Int32 → Int32
  | 0, x => x.toInt8.toInt32
  | 1, x => x.toInt16.toInt32
  | 2, x => (x.toUInt32 % 65536).toInt32
  | _, x => -x
def x_cmp : Nat → Int32 → Int32 → Bool
  | 0, x, y => decide (x = y)
  | 1, x, y => decide (¬ x = y)
  | 2, x, y => decide (x < y)
  | 3, x, y => decide (y ≤ x)
  | 4, x, y => decide (y < x)
  | _, x, y => decide (x ≤ y)
def x_cn : Jvm.ClassFile.Cond → Nat
  | .eq => 0
  | .ne => 1
  | .lt => 2
  | .ge => 3
  | .gt => 4
  | .le => 5
/-- every way that is left can't be gone -/
def XOk (hd : K → Prop) (r : XR K) : Prop := ∀ b ∈ r, ∃ k ∈ b, ¬ hd k
def XPa (hd : K → Prop) (w : List K) : Prop := ∀ k ∈ w, hd k
def x_DmOk (d : XD E K) : Prop :=
  (∀ n, dEv d (dKc d n) = n) ∧ (∀ o a b, dEv d (dBin d o a b) = x_bin o (dEv d a) (dEv d b)) ∧ (∀ o a, dEv d (dUn d o a) = x_un o (dEv d a)) ∧ (∀ a n, dKst d a = some n → dEv d a = n) ∧
  (∀ o a b w kt kf, XOk (dHd d) (dBr d o a b w kt kf) → XPa (dHd d) w → ∃ w', XPa (dHd d) w' ∧ ((x_cmp o (dEv d a) (dEv d b) = true ∧ XOk (dHd d) (kt w')) ∨ (x_cmp o (dEv d a) (dEv d b) = false ∧ XOk (dHd d) (kf w'))))
/-- the length of an instruction, in bytes -/
def x_len : Instr → Nat
  | .iload _ => 2
  | .aload _ => 2
  | .istore _ => 2
  | .astore _ => 2
  | .bipush _ => 2
  | .newarray _ => 2
  | .ldc _ => 2
  | .sipush _ => 3
  | .iinc _ _ => 3
  | .getfield _ => 3
  | .putfield _ => 3
  | .new _ => 3
  | .anewarray _ => 3
  | .invokespecial _ => 3
  | .invokestatic _ => 3
  | .invokevirtual _ => 3
  | .goto _ => 3
  | .getstatic _ => 3
  | .ifCond _ _ => 3
  | .if_icmp _ _ => 3
  | .ifnull _ => 3
  | .ifnonnull _ => 3
  | .ldc_w _ => 3
  | .multianewarray _ _ => 4
  | _ => 1
def x_lenOk : Instr → Nat → Bool
  | .tableswitch _ _ _ _, _ => true
  | .lookupswitch _ _, _ => true
  | i, n => n == x_len i
def x_jp (pc : Nat) (off : Int) : Option Nat := if 0 ≤ (pc : Int) + off then some ((pc : Int) + off).toNat else none
def x_lk (L : List (Nat × XV E)) (i : Nat) : Option (XV E) := (L.find? (fun q => q.1 == i)).map (·.2)
def x_st (L : List (Nat × XV E)) (i : Nat) (v : XV E) : List (Nat × XV E) := (i, v) :: L.filter (fun q => !(q.1 == i))
def x_en : Nat → List (XV E) → List (Nat × XV E)
  | _, [] => []
  | i, v :: vs => (i, v) :: x_en (i + 1) vs
/-- an index, told apart where it isn't known: j of the n -/
def x_ixs (d : XD E K) (a : E) (kk : Nat → List K → XR K) : Nat → List K → XR K
  | 0, w => [w]
  | j + 1, w => dBr d 0 a (dKc d (nI j)) w (fun w2 => kk j w2) (fun w2 => x_ixs d a kk j w2)
def x_ix (d : XD E K) (a : E) (n : Nat) (w : List K) (kk : Nat → List K → XR K) : XR K :=
  match dKst d a with
  | some v => if decide (v < 0) || decide (n ≤ v.toNatClampNeg) then [w] else kk v.toNatClampNeg w
  | none => if n < 2000 then x_ixs d a kk n w else [w]
/-- a switch: its pairs one by one, then what is left -/
def x_sw (d : XD E K) (a : E) (dflt : Int) (kk : Int → List K → XR K) : List (Int × Int) → List K → XR K
  | [], w => kk dflt w
  | q :: r, w => if (Int32.ofInt q.1).toInt = q.1 then dBr d 0 a (dKc d (Int32.ofInt q.1)) w (fun w2 => kk q.2 w2) (fun w2 => x_sw d a dflt kk r w2) else [w]
def x_tp : Int → List Int → List (Int × Int)
  | _, [] => []
  | lo, o :: r => (lo, o) :: x_tp (lo + 1) r
def x_def (d : XD E K) : FieldType → XV E
  | .object _ => .inr none
  | .array _ => .inr none
  | _ => .inl (dKc d 0)
def x_isRef : FieldType → Bool
  | .object _ => true
  | .array _ => true
  | _ => false
/-- may a field or an element of that type keep this value, just as it is -/
def x_fit (d : XD E K) : FieldType → XV E → Bool
  | .int, .inl _ => true
  | .boolean, .inl e => match dKst d e with
    | some v => decide (v = 0) || decide (v = 1)
    | none => false
  | .object _, .inr _ => true
  | .array _, .inr _ => true
  | _, _ => false
def x_cat (S : List (XV E)) : Nat := S.length
/-- rows of an array of arrays -/
def x_rows (t : Nat) (r : List (XV E)) : Nat → List (XC E)
  | 0 => []
  | n + 1 => .inr (t, r) :: x_rows t r n
def x_refs : Nat → Nat → List (XV E)
  | _, 0 => []
  | a, n + 1 => .inr (some a) :: x_refs (a + 1) n
def x_push : Option (XV E) → List (XV E) → List (XV E)
  | none, S => S
  | some v, S => v :: S
/-- a return keeps what the method says that it answers -/
def x_retOk (d : XD E K) : Option FieldType → XV E → Bool
  | some .int, .inl _ => true
  | some .boolean, .inl e => match dKst d e with
    | some v => decide (v = 0) || decide (v = 1)
    | none => false
  | some .byte, .inl e => match dKst d e with
    | some v => decide (v.toInt8.toInt32 = v)
    | none => false
  | some .char, .inl e => match dKst d e with
    | some v => decide ((v.toUInt32 % 65536).toInt32 = v)
    | none => false
  | some (.object _), .inr _ => true
  | some (.array _), .inr _ => true
  | _, _ => false
/-- the class, by its number, of a receiver -/
def x_rc (ot : XO E) (h : List (XC E)) (a : Nat) : Option Nat := if 1000000 < a then oCl ot a else match h[a]? with
  | some (.inl (ci, _)) => some ci
  | _ => none
/-- THE EVALUATOR: fuel, depth, method, place, locals, stack, heap, cells and slots made, what holds on this way; behind it: what is answered -/
def x_run (d : XD E K) (tb : XT) (tyl : List FieldType) (ot : XO E) : Nat → Nat → Nat → Nat → List (Nat × XV E) → List (XV E) → List (XC E) → Nat → Nat → List K → (List K → Option (XV E) → List (XC E) → XR K) → XR K
  | 0, _, _, _, _, _, _, _, _, w, _ => [w]
  | f + 1, dp, k, pc, L, S, h, cn, sn, w, post =>
    match tMth tb k with
    | none => [w]
    | some q =>
      match mC q pc with
      | none => [w]
      | some (i, n) =>
        match i with
        | .iconst v => x_run d tb tyl ot f dp k (pc + 1) L (.inl (dKc d (Int32.ofInt v)) :: S) h cn sn w post
        | .bipush v => x_run d tb tyl ot f dp k (pc + 2) L (.inl (dKc d (Int8.ofInt v).toInt32) :: S) h cn sn w post
        | .sipush v => x_run d tb tyl ot f dp k (pc + 3) L (.inl (dKc d (Int16.ofInt v).toInt32) :: S) h cn sn w post
        | .ldc ix => match tLi tb (mO q) ix with
          | some v => x_run d tb tyl ot f dp k (pc + 2) L (.inl (dKc d v) :: S) h cn sn w post
          | none => match oSl ot (mO q) ix with
            | some a => x_run d tb tyl ot f dp k (pc + 2) L (.inr (some a) :: S) h cn sn w post
            | none => [w]
        | .ldc_w ix => match tLi tb (mO q) ix with
          | some v => x_run d tb tyl ot f dp k (pc + 3) L (.inl (dKc d v) :: S) h cn sn w post
          | none => [w]
        | .aconst_null => x_run d tb tyl ot f dp k (pc + 1) L (.inr none :: S) h cn sn w post
        | .iload_n j => match x_lk L j with
          | some (.inl a) => x_run d tb tyl ot f dp k (pc + 1) L (.inl a :: S) h cn sn w post
          | _ => [w]
        | .iload j => match x_lk L j with
          | some (.inl a) => x_run d tb tyl ot f dp k (pc + 2) L (.inl a :: S) h cn sn w post
          | _ => [w]
        | .aload_n j => match x_lk L j with
          | some (.inr a) => x_run d tb tyl ot f dp k (pc + 1) L (.inr a :: S) h cn sn w post
          | _ => [w]
        | .aload j => match x_lk L j with
          | some (.inr a) => x_run d tb tyl ot f dp k (pc + 2) L (.inr a :: S) h cn sn w post
          | _ => [w]
        | .istore_n j => match S with
          | .inl a :: r => if (j : Nat) < mL q then x_run d tb tyl ot f dp k (pc + 1) (x_st L j (.inl a)) r h cn sn w post else [w]
          | _ => [w]
        | .istore j => match S with
          | .inl a :: r => if j < mL q then x_run d tb tyl ot f dp k (pc + 2) (x_st L j (.inl a)) r h cn sn w post else [w]
          | _ => [w]
        | .astore_n j => match S with
          | .inr a :: r => if (j : Nat) < mL q then x_run d tb tyl ot f dp k (pc + 1) (x_st L j (.inr a)) r h cn sn w post else [w]
          | _ => [w]
        | .astore j => match S with
          | .inr a :: r => if j < mL q then x_run d tb tyl ot f dp k (pc + 2) (x_st L j (.inr a)) r h cn sn w post else [w]
          | _ => [w]
        | .iinc j v => match x_lk L j with
          | some (.inl a) => if j < mL q then x_run d tb tyl ot f dp k (pc + 3) (x_st L j (.inl (dBin d 0 a (dKc d (Int32.ofInt v))))) S h cn sn w post else [w]
          | _ => [w]
        | .dup => match S with
          | a :: r => x_run d tb tyl ot f dp k (pc + 1) L (a :: a :: r) h cn sn w post
          | _ => [w]
        | .dup_x1 => match S with
          | a :: b :: r => x_run d tb tyl ot f dp k (pc + 1) L (a :: b :: a :: r) h cn sn w post
          | _ => [w]
        | .dup2 => match S with
          | a :: b :: r => x_run d tb tyl ot f dp k (pc + 1) L (a :: b :: a :: b :: r) h cn sn w post
          | _ => [w]
        | .pop => match S with
          | _ :: r => x_run d tb tyl ot f dp k (pc + 1) L r h cn sn w post
          | _ => [w]
        | .iadd => match S with
          | .inl b :: .inl a :: r => x_run d tb tyl ot f dp k (pc + 1) L (.inl (dBin d 0 a b) :: r) h cn sn w post
          | _ => [w]
        | .isub => match S with
          | .inl b :: .inl a :: r => x_run d tb tyl ot f dp k (pc + 1) L (.inl (dBin d 1 a b) :: r) h cn sn w post
          | _ => [w]
        | .imul => match S with
          | .inl b :: .inl a :: r => x_run d tb tyl ot f dp k (pc + 1) L (.inl (dBin d 2 a b) :: r) h cn sn w post
          | _ => [w]
        | .iand => match S with
          | .inl b :: .inl a :: r => x_run d tb tyl ot f dp k (pc + 1) L (.inl (dBin d 3 a b) :: r) h cn sn w post
          | _ => [w]
        | .ior => match S with
          | .inl b :: .inl a :: r => x_run d tb tyl ot f dp k (pc + 1) L (.inl (dBin d 4 a b) :: r) h cn sn w post
          | _ => [w]
        | .ixor => match S with
          | .inl b :: .inl a :: r => x_run d tb tyl ot f dp k (pc + 1) L (.inl (dBin d 5 a b) :: r) h cn sn w post
          | _ => [w]
        | .ishl => match S with
          | .inl b :: .inl a :: r => x_run d tb tyl ot f dp k (pc + 1) L (.inl (dBin d 6 a b) :: r) h cn sn w post
          | _ => [w]
        | .ishr => match S with
          | .inl b :: .inl a :: r => x_run d tb tyl ot f dp k (pc + 1) L (.inl (dBin d 7 a b) :: r) h cn sn w post
          | _ => [w]
        | .idiv => match S with
          | .inl b :: .inl a :: r => dBr d 0 b (dKc d 0) w (fun w2 => [w2]) (fun w2 => x_run d tb tyl ot f dp k (pc + 1) L (.inl (dBin d 8 a b) :: r) h cn sn w2 post)
          | _ => [w]
        | .irem => match S with
          | .inl b :: .inl a :: r => dBr d 0 b (dKc d 0) w (fun w2 => [w2]) (fun w2 => x_run d tb tyl ot f dp k (pc + 1) L (.inl (dBin d 9 a b) :: r) h cn sn w2 post)
          | _ => [w]
        | .i2b => match S with
          | .inl a :: r => x_run d tb tyl ot f dp k (pc + 1) L (.inl (dUn d 0 a) :: r) h cn sn w post
          | _ => [w]
        | .i2s => match S with
          | .inl a :: r => x_run d tb tyl ot f dp k (pc + 1) L (.inl (dUn d 1 a) :: r) h cn sn w post
          | _ => [w]
        | .goto o => match x_jp pc o with
          | some t => x_run d tb tyl ot f dp k t L S h cn sn w post
          | none => [w]
        | .ifCond c o => match S, x_jp pc o with
          | .inl a :: r, some t => dBr d (x_cn c) a (dKc d 0) w (fun w2 => x_run d tb tyl ot f dp k t L r h cn sn w2 post) (fun w2 => x_run d tb tyl ot f dp k (pc + 3) L r h cn sn w2 post)
          | _, _ => [w]
        | .if_icmp c o => match S, x_jp pc o with
          | .inl b :: .inl a :: r, some t => dBr d (x_cn c) a b w (fun w2 => x_run d tb tyl ot f dp k t L r h cn sn w2 post) (fun w2 => x_run d tb tyl ot f dp k (pc + 3) L r h cn sn w2 post)
          | _, _ => [w]
        | .ifnull o => match S, x_jp pc o with
          | .inr none :: r, some t => x_run d tb tyl ot f dp k t L r h cn sn w post
          | .inr (some _) :: r, _ => x_run d tb tyl ot f dp k (pc + 3) L r h cn sn w post
          | _, _ => [w]
        | .ifnonnull o => match S, x_jp pc o with
          | .inr (some _) :: r, some t => x_run d tb tyl ot f dp k t L r h cn sn w post
          | .inr none :: r, _ => x_run d tb tyl ot f dp k (pc + 3) L r h cn sn w post
          | _, _ => [w]
        | .tableswitch df lo hi os => match S with
          | .inl a :: r => if hi + 1 = lo + os.size then x_sw d a df (fun o w2 => match x_jp pc o with
              | some t => x_run d tb tyl ot f dp k t L r h cn sn w2 post
              | none => [w2]) (x_tp lo os.toList) w else [w]
          | _ => [w]
        | .lookupswitch df ps => match S with
          | .inl a :: r => if (ps.toList.zip (ps.toList.drop 1)).all (fun (a, next) => a.1 < next.1) = true then x_sw d a df (fun o w2 => match x_jp pc o with
              | some t => x_run d tb tyl ot f dp k t L r h cn sn w2 post
              | none => [w2]) ps.toList w else [w]
          | _ => [w]
        | .getfield ix => match S with
          | .inr (some a) :: r => if 1000000 < a then (match oFl ot a (mO q) ix with
              | some v => x_run d tb tyl ot f dp k (pc + 3) L (x_ov d v :: r) h cn sn w post
              | none => [w]) else match tFld tb (mO q) ix with
            | some (ci, j) => match h[a]? with
              | some (.inl (c2, fs)) => match decide (c2 = ci), fs[j]? with
                | true, some v => x_run d tb tyl ot f dp k (pc + 3) L (v :: r) h cn sn w post
                | _, _ => [w]
              | _ => [w]
            | none => [w]
          | _ => [w]
        | .getstatic ix => match oGs ot (mO q) ix with
          | some v => x_run d tb tyl ot f dp k (pc + 3) L (x_ov d v :: S) h cn sn w post
          | none => [w]
        | .arraylength => match S with
          | .inr (some a) :: r => if a = 1000000 then x_run d tb tyl ot f dp k (pc + 1) L (.inl (dKc d (Int32.ofNat (oSn ot))) :: r) h cn sn w post else match oBy ot a with
            | some bs => if 1000000 < a then x_run d tb tyl ot f dp k (pc + 1) L (.inl (dKc d (Int32.ofNat bs.length)) :: r) h cn sn w post else [w]
            | none => [w]
          | _ => [w]
        | .i2c => match S with
          | .inl a :: r => x_run d tb tyl ot f dp k (pc + 1) L (.inl (dUn d 2 a) :: r) h cn sn w post
          | _ => [w]
        | .ineg => match S with
          | .inl a :: r => x_run d tb tyl ot f dp k (pc + 1) L (.inl (dUn d 3 a) :: r) h cn sn w post
          | _ => [w]
        | .iushr => match S with
          | .inl b :: .inl a :: r => x_run d tb tyl ot f dp k (pc + 1) L (.inl (dBin d 10 a b) :: r) h cn sn w post
          | _ => [w]
        | .putfield ix => match S, tFld tb (mO q) ix with
          | v :: .inr (some a) :: r, some (ci, j) => match h[a]? with
            | some (.inl (c2, fs)) => match (tFt tb ci)[j]? with
              | some ty => if decide (c2 = ci) && x_fit d ty.1 v && decide (j < fs.length) && (!ty.2 || (mI q && decide (mRc q = ci))) then x_run d tb tyl ot f dp k (pc + 3) L r (h.set a (.inl (c2, fs.set j v))) cn sn w post else [w]
              | none => [w]
            | _ => [w]
          | _, _ => [w]
        | .iaload => match S with
          | .inl e :: .inr (some a) :: r => if a = 1000000 then x_ix d e (oSn ot) w (fun j w2 => x_run d tb tyl ot f dp k (pc + 1) L (.inl (oSc ot j) :: r) h cn sn w2 post) else match h[a]? with
            | some (.inr (0, vs)) => x_ix d e vs.length w (fun j w2 => match vs[j]? with
              | some v => x_run d tb tyl ot f dp k (pc + 1) L (v :: r) h cn sn w2 post
              | none => [w2])
            | _ => [w]
          | _ => [w]
        | .baload => match S with
          | .inl e :: .inr (some a) :: r => if 1000000 < a then (match oBy ot a with
              | some bs => x_ix d e bs.length w (fun j w2 => x_run d tb tyl ot f dp k (pc + 1) L (.inl (dKc d (bs.getD j 0)) :: r) h cn sn w2 post)
              | none => [w]) else match h[a]? with
            | some (.inr (1, vs)) => x_ix d e vs.length w (fun j w2 => match vs[j]? with
              | some v => x_run d tb tyl ot f dp k (pc + 1) L (v :: r) h cn sn w2 post
              | none => [w2])
            | _ => [w]
          | _ => [w]
        | .aaload => match S with
          | .inl e :: .inr (some a) :: r => match h[a]? with
            | some (.inr (t, vs)) => if (tyl[t]?.map x_isRef) = some true then x_ix d e vs.length w (fun j w2 => match vs[j]? with
              | some v => x_run d tb tyl ot f dp k (pc + 1) L (v :: r) h cn sn w2 post
              | none => [w2]) else [w]
            | _ => [w]
          | _ => [w]
        | .iastore => match S with
          | .inl v :: .inl e :: .inr (some a) :: r => match h[a]? with
            | some (.inr (0, vs)) => x_ix d e vs.length w (fun j w2 => x_run d tb tyl ot f dp k (pc + 1) L r (h.set a (.inr (0, vs.set j (.inl v)))) cn sn w2 post)
            | _ => [w]
          | _ => [w]
        | .bastore => match S with
          | .inl v :: .inl e :: .inr (some a) :: r => match h[a]? with
            | some (.inr (1, vs)) => if x_fit d .boolean (.inl v) then x_ix d e vs.length w (fun j w2 => x_run d tb tyl ot f dp k (pc + 1) L r (h.set a (.inr (1, vs.set j (.inl v)))) cn sn w2 post) else [w]
            | _ => [w]
          | _ => [w]
        | .aastore => match S with
          | .inr (some v) :: .inl e :: .inr (some a) :: r => match h[a]?, h[v]? with
            | some (.inr (t, vs)), some (.inl (ci, _)) => match tyl[t]? with
              | some (.object C) => if decide (C = tNm tb ci) then x_ix d e vs.length w (fun j w2 => x_run d tb tyl ot f dp k (pc + 1) L r (h.set a (.inr (t, vs.set j (.inr (some v))))) cn sn w2 post) else [w]
              | _ => [w]
            | _, _ => [w]
          | _ => [w]
        | .new ix => match tNw tb (mO q) ix with
          | some ci => if decide (cn + 1 ≤ mMc q) && decide (sn + (tFt tb ci).length ≤ mMs q) && decide (h.length + 1 ≤ 1000000) then
              x_run d tb tyl ot f dp k (pc + 3) L (.inr (some h.length) :: S) (h ++ [.inl (ci, (tFt tb ci).map (fun t => x_def d t.1))]) (cn + 1) (sn + (tFt tb ci).length) w post else [w]
          | none => [w]
        | .newarray ty => match S, (match ty with | .int => some 0 | .boolean => some 1 | _ => none) with
          | .inl e :: r, some t => match dKst d e with
            | some v => if decide (¬ v < 0) && decide (v.toNatClampNeg ≤ 100000) && decide (cn + 1 ≤ mMc q) && decide (sn + v.toNatClampNeg ≤ mMs q) && decide (h.length + 1 ≤ 1000000) then
                x_run d tb tyl ot f dp k (pc + 2) L (.inr (some h.length) :: r) (h ++ [.inr (t, List.replicate v.toNatClampNeg (.inl (dKc d 0)))]) (cn + 1) (sn + v.toNatClampNeg) w post else [w]
            | none => [w]
          | _, _ => [w]
        | .anewarray ix => match S, tAn tb (mO q) ix with
          | .inl e :: r, some t => match dKst d e with
            | some v => if decide (¬ v < 0) && decide (v.toNatClampNeg ≤ 100000) && decide (cn + 1 ≤ mMc q) && decide (sn + v.toNatClampNeg ≤ mMs q) && decide (h.length + 1 ≤ 1000000) then
                x_run d tb tyl ot f dp k (pc + 3) L (.inr (some h.length) :: r) (h ++ [.inr (t, List.replicate v.toNatClampNeg (.inr none))]) (cn + 1) (sn + v.toNatClampNeg) w post else [w]
            | none => [w]
          | _, _ => [w]
        | .multianewarray ix dm => match S, tMn tb (mO q) ix with
          | .inl e2 :: .inl e1 :: r, some (t2, t1) => match dKst d e1, dKst d e2 with
            | some v1, some v2 => if decide (dm = 2) && decide (¬ v1 < 0) && decide (¬ v2 < 0) && decide (v1.toNatClampNeg ≤ 100000) && decide (v2.toNatClampNeg ≤ 100000) && decide (t1 < 2) && decide (cn + (1 + v1.toNatClampNeg) ≤ mMc q) && decide (sn + (v1.toNatClampNeg + v1.toNatClampNeg * v2.toNatClampNeg) ≤ mMs q) && decide (h.length + 1 + v1.toNatClampNeg ≤ 1000000) then
                x_run d tb tyl ot f dp k (pc + 4) L (.inr (some h.length) :: r) (h ++ .inr (t2, x_refs (h.length + 1) v1.toNatClampNeg) :: x_rows t1 (List.replicate v2.toNatClampNeg (.inl (dKc d 0))) v1.toNatClampNeg) (cn + 1 + v1.toNatClampNeg) (sn + v1.toNatClampNeg + v1.toNatClampNeg * v2.toNatClampNeg) w post else [w]
            | _, _ => [w]
          | _, _ => [w]
        | .invokestatic ix => match tCal tb (mO q) ix with
          | some (j, so) => match dp with
            | dp2 + 1 => match tMth tb j with
              | some q2 => if decide (mNp q2 ≤ S.length) && decide (2 ≤ so) && decide ((S.drop (mNp q2)).length ≤ 8) && decide (mNp q2 ≤ mL q2) && decide (cn + mMc q2 ≤ mMc q) && decide (sn + mMs q2 ≤ mMs q) then
                  x_run d tb tyl ot f dp2 j 0 (x_en 0 (S.take (mNp q2)).reverse) [] h 0 0 w (fun w2 v h2 => x_run d tb tyl ot f dp k (pc + 3) L (x_push v (S.drop (mNp q2))) h2 (cn + mMc q2) (sn + mMs q2) w2 post) else [w]
              | none => [w]
            | 0 => [w]
          | none => if tBi tb (mO q) ix = some 1 then match S with
            | .inl n0 :: .inl pd :: .inr (some bd) :: .inl ps :: .inr (some bs) :: r => match h[bs]?, h[bd]?, dKst d n0, dKst d pd, dKst d ps with
              | some (.inr (0, us)), some (.inr (0, vs)), some n1, some d1, some s1 => if decide (¬ n1 < 0) && decide (¬ d1 < 0) && decide (¬ s1 < 0) && decide (s1.toNatClampNeg + n1.toNatClampNeg ≤ us.length) && decide (d1.toNatClampNeg + n1.toNatClampNeg ≤ vs.length) && decide (r.length ≤ 8) && us.all (fun u => u.isLeft) then
                  x_run d tb tyl ot f dp k (pc + 3) L r (h.set bd (.inr (0, vs.take d1.toNatClampNeg ++ (us.drop s1.toNatClampNeg).take n1.toNatClampNeg ++ vs.drop (d1.toNatClampNeg + n1.toNatClampNeg)))) cn sn w post else [w]
              | _, _, _, _, _ => [w]
            | _ => [w] else [w]
        | .invokevirtual ix => match dp, tCal tb (mO q) ix with
          | dp2 + 1, some (j, so) => match tMth tb j with
            | some q2 => match S.drop (mNp q2) with
              | .inr (some a) :: r => if decide (mNp q2 + 1 ≤ S.length) && decide (so = 0) && decide (x_rc ot h a = some (mRc q2)) && decide (r.length ≤ 8) && decide (mNp q2 + 1 ≤ mL q2) && decide (cn + mMc q2 ≤ mMc q) && decide (sn + mMs q2 ≤ mMs q) then
                    x_run d tb tyl ot f dp2 j 0 (x_en 0 (.inr (some a) :: (S.take (mNp q2)).reverse)) [] h 0 0 w (fun w2 v h2 => x_run d tb tyl ot f dp k (pc + 3) L (x_push v r) h2 (cn + mMc q2) (sn + mMs q2) w2 post) else [w]
              | _ => [w]
            | none => [w]
          | _, _ => [w]
        | .invokespecial ix => match tBi tb (mO q) ix with
          | some 0 => match S with
            | .inr (some _) :: r => if decide (r.length ≤ 8) then x_run d tb tyl ot f dp k (pc + 3) L r h cn sn w post else [w]
            | _ => [w]
          | _ => match dp, tCal tb (mO q) ix with
            | dp2 + 1, some (j, so) => match tMth tb j with
              | some q2 => match S.drop (mNp q2) with
                | .inr (some a) :: r => if decide (mNp q2 + 1 ≤ S.length) && decide (so = 1) && decide (r.length ≤ 8) && decide (mNp q2 + 1 ≤ mL q2) && decide (cn + mMc q2 ≤ mMc q) && decide (sn + mMs q2 ≤ mMs q) then
                    x_run d tb tyl ot f dp2 j 0 (x_en 0 (.inr (some a) :: (S.take (mNp q2)).reverse)) [] h 0 0 w (fun w2 v h2 => x_run d tb tyl ot f dp k (pc + 3) L (x_push v r) h2 (cn + mMc q2) (sn + mMs q2) w2 post) else [w]
                | _ => [w]
              | none => [w]
            | _, _ => [w]
        | .ireturn => match S with
          | [.inl e] => if x_retOk d (mR q) (.inl e) && decide (cn ≤ mMc q) && decide (sn ≤ mMs q) then post w (some (.inl e)) h else [w]
          | _ => [w]
        | .areturn => match S with
          | [.inr a] => if x_retOk d (mR q) (.inr a) && decide (cn ≤ mMc q) && decide (sn ≤ mMs q) then post w (some (.inr a)) h else [w]
          | _ => [w]
        | .return_ => match S with
          | [] => if decide (mR q = none) && decide (cn ≤ mMc q) && decide (sn ≤ mMs q) then post w none h else [w]
          | _ => [w]
        | _ => [w]
end XDefs
end
section
/-! What the evaluator's heap is in the machine's, and what the tables must say. -/
section XOkDefs
variable {E K : Type}
def x_am (base : Nat) (sa : Nat → Nat) (k : Nat) : Nat := if k < 1000000 then base + k else sa k
def x_rv (d : XD E K) (am : Nat → Nat) : XV E → Value
  | .inl e => .int (dEv d e)
  | .inr none => .null
  | .inr (some k) => .ref (am k)
theorem x_rvc (d : XD E K) (am : Nat → Nat) (v : XV E) : (x_rv d am v).category = 1 := by
  rcases v with e | (_ | k) <;> rfl
def x_at (D : va_G) (tc : Nat → ClassId) (cl : List vw_C) (rv : XV E → Value) (a : Nat) (z : XC E) (H : Heap) : Prop := match z with
  | .inl o => ∃ r : vw_C, cl[o.1]? = some r ∧ o.2.length = r.2.2 ∧ t_OB a (D.1 o.1) r.2.2 (D.2 o.1) H (vp_V (o.2.map rv))
  | .inr o => H[a]? = some (arrV (tc o.1) o.2.length (fun j => rv (o.2.getD j (.inr none))))
theorem x_at_kept {D : va_G} {tc : Nat → ClassId} {cl : List vw_C} {rv : XV E → Value} {a : Nat} {z : XC E} {H H1 : Heap} (h : x_at D tc cl rv a z H) (hq : H1[a]? = H[a]?) : x_at D tc cl rv a z H1 := by
  rcases z with o | o
  · obtain ⟨r, h1, h2, h3⟩ := h
    exact ⟨r, h1, h2, h3.kept hq⟩
  · show H1[a]? = _
    rw [hq]
    exact h
def x_Inv (D : va_G) (tc : Nat → ClassId) (cl : List vw_C) (rv : XV E → Value) (base : Nat) (h : List (XC E)) (H : Heap) : Prop :=
  H.size = base + h.length ∧ h.length ≤ 1000000 ∧ ∀ (k : Nat) (z : XC E), h[k]? = some z → x_at D tc cl rv (base + k) z H
def x_TbOk (TS TN : List Jvm.Cond) (cl : List vw_C) (tyl : List FieldType) (tb : XT) : Prop :=
  (∀ k q, tMth tb k = some q → plainName (mY q).cls = true ∧ (k ≠ 0 → Jvm.Cond.code (mY q) (mB q) (mL q) (mR q) ∈ TS) ∧ (k ≠ 0 → Jvm.Cond.initialized (mY q).cls ∈ TS) ∧ ((mY q).cls ≠ "java/lang/invoke/MethodHandle" ∧ (mY q).cls ≠ "java/lang/invoke/VarHandle") ∧ mL q ≤ 40 ∧ tNm tb (mO q) = (mY q).cls ∧
    (parseMethodDescriptor (mY q).desc).map (fun d => d.parameters.length) = some (mNp q) ∧ (mI q = true → (mY q).name = "<init>") ∧ (mI q = true → ∀ r, cl[mRc q]? = some r → r.1 = (mY q).cls) ∧ (∀ pc i n, mC q pc = some (i, n) → decode (mB q) pc = .ok (i, n) ∧ x_lenOk i n = true)) ∧
  (∀ o ix ci j, tFld tb o ix = some (ci, j) → ∃ r, cl[ci]? = some r ∧ j < r.2.2 ∧ Jvm.Cond.fieldLink (tNm tb o) ix (r.2.1 j).1 (r.2.1 j).2.1 (r.2.1 j).2.2.1 ∈ TS) ∧
  (∀ ci r, cl[ci]? = some r → (∀ w ∈ u_ws r.1 r.2.1 r.2.2, w ∈ TS) ∧ (tFt tb ci).length = r.2.2 ∧ (∀ j t, (tFt tb ci)[j]? = some t → parseFieldDescriptor (r.2.1 j).2.2.1 = some t.1 ∧ (r.2.1 j).2.2.2 = t.2) ∧ (∀ a, a < r.2.2 → ∀ b, b < r.2.2 → a ≠ b → (r.2.1 a).2.1 ≠ (r.2.1 b).2.1) ∧
    Jvm.Cond.instantiable r.1 r.2.2 ∈ TS ∧ Jvm.Cond.initialized r.1 ∈ TS ∧ (∀ j, j < r.2.2 → (r.2.1 j).1 = r.1) ∧ tNm tb ci = r.1) ∧
  (∀ o ix ci, tNw tb o ix = some ci → ∃ r, cl[ci]? = some r ∧ Jvm.Cond.classLink (tNm tb o) ix r.1 ∈ TS) ∧
  (∀ o ix j so q, tCal tb o ix = some (j, so) → tMth tb j = some q → j ≠ 0 ∧
    (so = 0 → Jvm.Cond.methodLink (tNm tb o) ix (mY q) ∈ TS ∧ Jvm.Cond.instanceMethod (mY q) ∈ TS ∧ Jvm.Cond.selects (mY q).cls (mY q) (mY q) ∈ TS ∧ ∀ r, cl[mRc q]? = some r → r.1 = (mY q).cls) ∧
    (so = 1 → Jvm.Cond.methodLink (tNm tb o) ix (mY q) ∈ TS ∧ Jvm.Cond.instanceMethod (mY q) ∈ TS ∧ (mY q).name = "<init>" ∧ mR q = none) ∧
    (so = 2 → Jvm.Cond.methodLink (tNm tb o) ix (mY q) ∈ TS ∧ Jvm.Cond.static (mY q) ∈ TS) ∧
    (so = 3 → (∃ host, Jvm.Cond.methodLinkNest (tNm tb o) ix (mY q) host ∈ TN) ∧ Jvm.Cond.static (mY q) ∈ TS) ∧ so ≤ 3) ∧
  (Jvm.Cond.arrayClass .int ∈ TS ∧ Jvm.Cond.arrayClass .boolean ∈ TS ∧ tyl[0]? = some .int ∧ tyl[1]? = some .boolean) ∧
  (∀ o ix t, tAn tb o ix = some t → ∃ C, tyl[t]? = some (.object C) ∧ Jvm.Cond.classLink (tNm tb o) ix C ∈ TS ∧ Jvm.Cond.arrayOver (.object C) ∈ TN) ∧
  (∀ o ix t2 t1, tMn tb o ix = some (t2, t1) → ∃ ty, tyl[t1]? = some ty ∧ (ty = .int ∨ ty = .boolean) ∧ tyl[t2]? = some (.array ty) ∧ Jvm.Cond.classLink (tNm tb o) ix ("[" ++ (FieldType.array ty).toString) ∈ TS ∧ Jvm.Cond.arrayOver (.array ty) ∈ TN ∧ Jvm.Cond.arrayClass ty ∈ TS) ∧
  ((∀ o ix, tBi tb o ix = some 0 → Jvm.Cond.methodLink (tNm tb o) ix Lib.objectInit ∈ TS) ∧ (∀ o ix, tBi tb o ix = some 1 → Jvm.Cond.methodLink (tNm tb o) ix arraycopyName ∈ TS) ∧ Jvm.Cond.instanceMethod Lib.objectInit ∈ TS ∧ Jvm.Cond.code Lib.objectInit ⟨#[0xb1]⟩ 1 none ∈ TS ∧
    Jvm.Cond.native arraycopyName ∈ TS ∧ Jvm.Cond.static arraycopyName ∈ TS ∧ Jvm.Cond.initialized "java/lang/System" ∈ TS) ∧
  (∀ o ix v, tLi tb o ix = some v → Jvm.Cond.constant (tNm tb o) ix v ∈ TS) ∧
  (∀ w ∈ TS, ((w.onTables && w.keeps) = true ∨ ∃ ty, w = .arrayClass ty)) ∧
  (∀ w ∈ TN, ∀ u U : State, u.WarmedH U.vm → w.before #[] u = true → w.before #[] U = true) ∧ (∀ w ∈ TN, w.onTables = true) ∧
  (∀ ci, ∀ t ∈ tFt tb ci, t.1 = .int ∨ t.1 = .boolean ∨ x_isRef t.1 = true)
/-- what holds at a method's entry beside its own words -/
def x_Env (TN : List Jvm.Cond) (D : va_G) (cl : List vw_C) (tys : List (ClassId × FieldType)) (XE : State → Heap → Prop) (U : State) (H : Heap) : Prop :=
  va_K D cl tys U ∧ (∀ w ∈ TN, w.before #[] U = true) ∧ XE U H
def x_XeOk (XE : State → Heap → Prop) (base : Nat) : Prop := ∀ (u U : State) (H H1 : Heap), u.WarmedH U.vm → (∀ q : Nat, q < base → H1[q]? = H[q]?) → base ≤ H.size → XE u H → XE U H1
def x_rov (sa : Nat → Nat) : Int32 ⊕ Nat → Value
  | .inl v => .int v
  | .inr a => .ref (sa a)
/-- what lies outside is there -/
def x_OutOk (TS : List Jvm.Cond) (tb : XT) (ot : XO E) (d : XD E K) (XE : State → Heap → Prop) (base : Nat) (sa : Nat → Nat) : Prop :=
  (∀ o ix a, oSl ot o ix = some a → 1000000 < a ∧ ∀ U H, XE U H → ∃ tx, vk_R (tNm tb o) ix tx (sa a) U) ∧
  (∀ a o ix v, oFl ot a o ix = some v → (∀ b, v = .inr b → 1000000 ≤ b) ∧ ∃ C n dd, Jvm.Cond.fieldLink (tNm tb o) ix C n dd ∈ TS ∧ ∀ U H, XE U H → va_OF C n dd (x_rov sa v) (sa a) (fun q => base ≤ q) U H) ∧
  (∀ o ix v, oGs ot o ix = some v → (∀ b, v = .inr b → 1000000 ≤ b) ∧ ∃ C n dd, Jvm.Cond.fieldLink (tNm tb o) ix C n dd ∈ TS ∧ ∀ U H, XE U H → va_Z C n dd (x_rov sa v) (fun q => base ≤ q) U H) ∧
  (∀ a bs, oBy ot a = some bs → ∀ U H, XE U H → va_T .byte (sa a) bs.length (fun j => .int (bs.getD j 0)) (fun q => base ≤ q) U H) ∧
  (∀ U H, XE U H → va_X (sa 1000000) (oSn ot) (fun j => dEv d (oSc ot j)) U H ∧ sa 1000000 < base) ∧
  (∀ a rc q k, oCl ot a = some rc → tMth tb k = some q → mRc q = rc → ∀ U H, XE U H → va_O (mY q).cls (sa a) (fun q => base ≤ q) U H)
theorem x_ov_spec {d : XD E K} (hd : ∀ n, dEv d (dKc d n) = n) {base : Nat} {sa : Nat → Nat} {v : Int32 ⊕ Nat} (h : ∀ b, v = .inr b → 1000000 ≤ b) : x_rv d (x_am base sa) (x_ov d v) = x_rov sa v := by
  rcases v with v | b
  · exact congrArg Value.int (hd v)
  · have h1 := h b rfl
    show Value.ref (x_am base sa b) = Value.ref (sa b)
    unfold x_am
    rw [if_neg (by omega)]
/-- the frame of a method -/
def x_Cx (TS TN : List Jvm.Cond) (D : va_G) (cl : List vw_C) (tys : List (ClassId × FieldType)) (XE : State → Heap → Prop) (tb : XT) (q : XM) (p : Program) (R : Room) (s : State) (m : MethodId) (args : Array Value) (meth : Method) (c : Code) (base dp : Nat) : Prop :=
  p.tables.exec = Jvm.exec ∧ c.code = mB q ∧ c.maxLocals = mL q ∧ s.vm.findClass (tNm tb (mO q)) = some m.cls ∧ (∀ w ∈ TS, w.before args s = true) ∧ meth.sig.returnType = mR q ∧ meth.locks = false ∧ meth.name = (mY q).name ∧ x_Env TN D cl tys XE s s.heap ∧ base ≤ s.heap.size ∧
  dp + 1 ≤ R.frames ∧ 64 * (dp + 1) ≤ R.locals ∧ mMc q ≤ R.cells ∧ mMs q ≤ R.slots
/-- a method's answer -/
def x_Q (d : XD E K) (D : va_G) (tc : Nat → ClassId) (cl : List vw_C) (am : Nat → Nat) (base : Nat) (post : List K → Option (XV E) → List (XC E) → XR K) : Array Value → State → Outcome → State → Prop := fun _ st o t =>
  (∃ (w : List K) (v : Option (XV E)) (h : List (XC E)), XPa (dHd d) w ∧ XOk (dHd d) (post w v h) ∧ o = .returned (v.map (x_rv d am)) ∧ x_Inv D tc cl (x_rv d am) base h t.heap) ∧ va_F (fun q => base ≤ q) st t
theorem x_bad {hd : K → Prop} {w : List K} (h : XOk hd [w]) (hw : XPa hd w) : False := by
  obtain ⟨k, hk, hn⟩ := h w (List.mem_singleton.mpr rfl)
  exact hn (hw k hk)
theorem x_if {hd : K → Prop} {w : List K} {b : Prop} {i : Decidable b} {r : XR K} (h : XOk hd (@ite _ b i r [w])) (hw : XPa hd w) : b ∧ XOk hd r := by
  by_cases hb : b
  · rw [if_pos hb] at h
    exact ⟨hb, h⟩
  · rw [if_neg hb] at h
    exact (x_bad h hw).elim
theorem x_jp_spec {pc t : Nat} {off : Int} (h : x_jp pc off = some t) : (pc : Int) + off = (t : Int) := by
  unfold x_jp at h
  by_cases hz : 0 ≤ (pc : Int) + off
  · rw [if_pos hz] at h
    cases h
    omega
  · rw [if_neg hz] at h
    cases h
theorem x_len1 {i : Instr} {n m : Nat} (h : x_lenOk i n = true) (hm : x_lenOk i n = (n == m)) : n = m := by
  rw [hm] at h
  simpa using h
theorem x_lk_spec {d : XD E K} {am : Nat → Nat} {ls : Array Slot} {nL : Nat} {L : List (Nat × XV E)} {i : Nat} {v : XV E} (hl : lv_has ls nL (L.map (fun q => (q.1, x_rv d am q.2)))) (h : x_lk L i = some v) : ls[i]? = some (.val (x_rv d am v)) := by
  unfold x_lk at h
  obtain ⟨q, hq, rfl⟩ := Option.map_eq_some_iff.mp h
  have h1 := List.mem_of_find?_eq_some hq
  have h2 := List.find?_some hq
  simp only [beq_iff_eq] at h2
  subst h2
  exact hl.2.2 (q.1, x_rv d am q.2) (List.mem_map.mpr ⟨q, h1, rfl⟩)
theorem x_st_spec (d : XD E K) (am : Nat → Nat) (L : List (Nat × XV E)) (i : Nat) (v : XV E) : (i, x_rv d am v) :: (L.map (fun q => (q.1, x_rv d am q.2))).filter (fun q => !(q.1 == i) && !(q.1 + 1 == i && q.2.category == 2)) = (x_st L i v).map (fun q => (q.1, x_rv d am q.2)) := by
  unfold x_st
  rw [List.map_cons, List.filter_map]
  refine congrArg _ (congrArg _ (List.filter_congr fun q _ => ?_))
  have hc : ((x_rv d am q.2).category == 2) = false := by rw [x_rvc]; rfl
  simp [hc]
theorem x_en_spec (d : XD E K) (am : Nat → Nat) : ∀ (vs : List (XV E)) (i : Nat), lv_args i (vs.map (x_rv d am)) = (x_en i vs).map (fun q => (q.1, x_rv d am q.2))
  | [], _ => rfl
  | v :: vs, i => by
    show (i, x_rv d am v) :: lv_args (if (x_rv d am v).category = 2 then i + 2 else i + 1) (vs.map (x_rv d am)) = (i, x_rv d am v) :: _
    rw [x_rvc, if_neg (by decide), x_en_spec d am vs (i + 1)]
theorem x_sl (d : XD E K) (am : Nat → Nat) : ∀ vs : List (XV E), (lg_sl (vs.map (x_rv d am))).length = vs.length
  | [] => rfl
  | v :: vs => by
    have ih := x_sl d am vs
    unfold lg_sl at ih ⊢
    rw [List.map_cons, List.flatMap_cons, x_rvc, if_neg (by decide), List.length_append, ih]
    simp [Nat.add_comm]
theorem x_cats (d : XD E K) (am : Nat → Nat) : ∀ S : List (XV E), ((S.map (x_rv d am)).map fun v => v.category).sum = S.length
  | [] => rfl
  | v :: S => by
    rw [List.map_cons, List.map_cons, List.sum_cons, x_rvc, x_cats d am S, List.length_cons, Nat.add_comm]
/-- an index that is known, or told apart -/
theorem x_clamp (j : Nat) (h : j < 2000) : (nI j).toNatClampNeg = j ∧ ¬ nI j < 0 := ⟨nI_clamp (by omega), nI_pos (by omega)⟩
theorem x_ixs_spec {d : XD E K} (hd : x_DmOk d) {a : E} {kk : Nat → List K → XR K} : ∀ (n : Nat) (w : List K), n ≤ 2000 → XOk (dHd d) (x_ixs d a kk n w) → XPa (dHd d) w → ∃ w2, XPa (dHd d) w2 ∧ (dEv d a).toNatClampNeg < n ∧ ¬ dEv d a < 0 ∧ XOk (dHd d) (kk (dEv d a).toNatClampNeg w2)
  | 0, w, _, h, hw => (x_bad h hw).elim
  | n + 1, w, hn, h, hw => by
    obtain ⟨w2, h2, h3⟩ := hd.2.2.2.2 0 a (dKc d (nI n)) w _ _ h hw
    rw [hd.1] at h3
    rcases h3 with ⟨e, h3⟩ | ⟨-, h3⟩
    · have e2 : dEv d a = nI n := of_decide_eq_true e
      obtain ⟨c1, c2⟩ := x_clamp n (by omega)
      rw [e2, c1]
      exact ⟨w2, h2, Nat.lt_succ_self n, c2, h3⟩
    · obtain ⟨w3, g1, g2, g3, g4⟩ := x_ixs_spec hd n w2 (by omega) h3 h2
      exact ⟨w3, g1, by omega, g3, g4⟩
theorem x_ix_spec {d : XD E K} (hd : x_DmOk d) {a : E} {kk : Nat → List K → XR K} {n : Nat} {w : List K} (h : XOk (dHd d) (x_ix d a n w kk)) (hw : XPa (dHd d) w) : ∃ w2, XPa (dHd d) w2 ∧ (dEv d a).toNatClampNeg < n ∧ ¬ dEv d a < 0 ∧ XOk (dHd d) (kk (dEv d a).toNatClampNeg w2) := by
  unfold x_ix at h
  split at h
  · rename_i v hv
    have e := hd.2.2.2.1 a v hv
    rw [e]
    by_cases hb : (decide (v < 0) || decide (n ≤ v.toNatClampNeg)) = true
    · rw [if_pos hb] at h
      exact (x_bad h hw).elim
    · rw [if_neg hb] at h
      simp only [Bool.or_eq_true, decide_eq_true_eq, not_or] at hb
      exact ⟨w, hw, by omega, hb.1, h⟩
  · obtain ⟨hb, h⟩ := x_if h hw
    exact x_ixs_spec hd n w (by omega) h hw
/-- a switch's pairs: where it goes -/
theorem x_sw_spec {d : XD E K} (hd : x_DmOk d) {a : E} {dflt : Int} {kk : Int → List K → XR K} : ∀ (ps : List (Int × Int)) (w : List K), XOk (dHd d) (x_sw d a dflt kk ps w) → XPa (dHd d) w → ∃ w2, XPa (dHd d) w2 ∧ XOk (dHd d) (kk (Op.lookupswitch.offset ps dflt (dEv d a).toInt) w2)
  | [], w, h, hw => ⟨w, hw, h⟩
  | (k, o) :: r, w, h, hw => by
    obtain ⟨hk, h⟩ := x_if h hw
    obtain ⟨w2, h2, h3⟩ := hd.2.2.2.2 0 a (dKc d (Int32.ofInt k)) w _ _ h hw
    rw [hd.1] at h3
    rcases h3 with ⟨e, h3⟩ | ⟨e, h3⟩
    · have e2 : dEv d a = Int32.ofInt k := of_decide_eq_true e
      have e3 : Op.lookupswitch.offset ((k, o) :: r) dflt (dEv d a).toInt = o := by
        rw [e2, hk]
        simp [Op.lookupswitch.offset]
      rw [e3]
      exact ⟨w2, h2, h3⟩
    · have e2 : ¬ dEv d a = Int32.ofInt k := of_decide_eq_false e
      rw [lv_osw e2 hk]
      exact x_sw_spec hd r w2 h3 h2
theorem x_tp_out (dflt : Int) : ∀ (os : List Int) (lo x : Int), (x < lo ∨ lo + os.length ≤ x) → Op.lookupswitch.offset (x_tp lo os) dflt x = dflt
  | [], _, _, _ => rfl
  | o :: r, lo, x, h => by
    have ih := x_tp_out dflt r (lo + 1) x (by simp only [List.length_cons] at h; omega)
    have hne : ¬ x = lo := by simp only [List.length_cons] at h; omega
    have hne2 : ¬ lo = x := fun q => hne q.symm
    simp only [x_tp, Op.lookupswitch.offset] at ih ⊢
    first | (rw [if_neg hne]; exact ih) | (rw [if_neg hne2]; exact ih) | simp_all
theorem x_tp_in (dflt : Int) : ∀ (os : List Int) (lo x : Int), lo ≤ x → x < lo + os.length → os[(x - lo).toNat]? = some (Op.lookupswitch.offset (x_tp lo os) dflt x)
  | [], lo, x, h1, h2 => by simp only [List.length_nil] at h2; omega
  | o :: r, lo, x, h1, h2 => by
    by_cases he : x = lo
    · subst he
      simp [x_tp, Op.lookupswitch.offset]
    · have ih := x_tp_in dflt r (lo + 1) x (by omega) (by simp only [List.length_cons] at h2; omega)
      have e1 : (x - lo).toNat = (x - (lo + 1)).toNat + 1 := by omega
      have he2 : ¬ lo = x := fun q => he q.symm
      rw [e1, List.getElem?_cons_succ, ih]
      simp only [x_tp, Op.lookupswitch.offset]
      first | rw [if_neg he] | rw [if_neg he2] | simp_all
end XOkDefs
end
section
/-! The rows that touch the heap, over the evaluator's heap. -/
section XRows
variable {E K : Type}
variable {p : Program} {l : Launch} {e : Env} {R : Room} {s : State} {m : MethodId} {args : Array Value} {below : List Frame} {meth : Method} {c : Code} {H : Heap} {locs : List Loc} {cells slots : Nat} {Q : State → Prop}
variable {cc : ByteArray} {pc : Nat} {ls : Array Slot} {rest : List Value} {D : va_G} {tc : Nat → ClassId} {cl : List vw_C} {tys : List (ClassId × FieldType)} {tyl : List FieldType} {TS TN : List Jvm.Cond} {tb : XT}
variable {rv : XV E → Value} {base : Nat} {h : List (XC E)}
def x_Tys (tc : Nat → ClassId) (tys : List (ClassId × FieldType)) (tyl : List FieldType) : Prop := ∀ t ty, tyl[t]? = some ty → tys[t]? = some (tc t, ty)
theorem x_Inv_set {H1 : Heap} {k : Nat} {z0 z : XC E} (hI : x_Inv D tc cl rv base h H) (hz : h[k]? = some z0) (hs : H1.size = H.size) (oq : ∀ q : Nat, q ≠ base + k → H1[q]? = H[q]?) (hn : x_at D tc cl rv (base + k) z H1) : x_Inv D tc cl rv base (h.set k z) H1 := by
  obtain ⟨i1, i2, i3⟩ := hI
  refine ⟨by rw [hs, i1, List.length_set], by rw [List.length_set]; exact i2, fun j y hj => ?_⟩
  by_cases hjk : j = k
  · subst hjk
    rw [List.getElem?_set_self (List.getElem?_eq_some_iff.mp hz).1] at hj
    cases hj
    exact hn
  · rw [List.getElem?_set_ne (fun q => hjk q.symm)] at hj
    exact x_at_kept (i3 j y hj) (oq _ (by omega))
theorem x_Inv_app {H1 : Heap} {z : XC E} (hI : x_Inv D tc cl rv base h H) (hs : H1.size = H.size + 1) (oq : ∀ q : Nat, q < H.size → H1[q]? = H[q]?) (hl : h.length + 1 ≤ 1000000) (hn : x_at D tc cl rv (base + h.length) z H1) : x_Inv D tc cl rv base (h ++ [z]) H1 := by
  obtain ⟨i1, i2, i3⟩ := hI
  refine ⟨by rw [hs, i1, List.length_append, List.length_singleton]; omega, by rw [List.length_append, List.length_singleton]; exact hl, fun j y hj => ?_⟩
  by_cases hjl : j < h.length
  · rw [List.getElem?_append_left hjl] at hj
    exact x_at_kept (i3 j y hj) (oq _ (by omega))
  · rw [List.getElem?_append_right (by omega)] at hj
    have h0 : j - h.length < 1 := (List.getElem?_eq_some_iff.mp hj).1
    have h1 : j = h.length := by omega
    subst h1
    rw [Nat.sub_self] at hj
    cases hj
    exact hn
theorem x_S_app {A : Nat → Prop} {H0 H1 : Heap} (hS : va_S A H0 H locs) (hs : H.size ≤ H1.size) (oq : ∀ q : Nat, q < H.size → H1[q]? = H[q]?) : va_S A H0 H1 locs :=
  ⟨Nat.le_trans hS.1 hs, fun q h1 h2 => (oq q (Nat.lt_of_lt_of_le h1 hS.1)).trans (hS.2.1 q h1 h2), hS.2.2⟩
theorem x_getf {o ix a ci j : Nat} {fs : List (XV E)} {v : XV E} (hexec : p.tables.exec = Jvm.exec) (hb : c.code = cc) (hts : ∀ w ∈ TS, w.before args s = true) (hT : x_TbOk TS TN cl tyl tb) (hown : s.vm.findClass (tNm tb o) = some m.cls) (hK : va_K D cl tys s) (hI : x_Inv D tc cl rv base h H)
    (ha : h[a]? = some (.inl (ci, fs))) (hf : tFld tb o ix = some (ci, j)) (hv : fs[j]? = some v) (hdg : decode cc pc = .ok (.getfield ix, 3))
    (kk : W p l e R s m args below meth c H locs cells slots Q (F0 m (pc + 3) ls (rv v :: rest))) : W p l e R s m args below meth c H locs cells slots Q (F0 m pc ls (.ref (base + a) :: rest)) := by
  obtain ⟨r, h1, hlen, cell, q1, q2, q3, q4⟩ := hI.2.2 a _ ha
  obtain ⟨r2, g1, hk, hlink⟩ := hT.2.1 o ix ci j hf
  obtain rfl : r2 = r := Option.some.inj (g1.symm.trans h1)
  obtain ⟨C, T, N⟩ := r2
  obtain ⟨t1, t2, t3, t4, t5, t6, t7, t8⟩ := hT.2.2.1 ci _ h1
  obtain ⟨hS, hfc, kC, hkC, hkind⟩ := hK.1 ci _ h1
  obtain ⟨cf, kf, fi, f, hi, hsl⟩ := hS j hk
  refine W.getf hexec hb hown (hts _ hlink) hi (u_facts hfc hkC (u_lays hts t1 hk) hi).1 q1 (by rw [q3]; exact fun h => by cases h) (v := rv v) ?_ rfl rfl hdg kk
  rw [hsl, q4 j hk]
  simp [vp_V, hv]
theorem x_putf {o ix a ci j : Nat} {fs : List (XV E)} {v : XV E} {ty : FieldType × Bool} (hexec : p.tables.exec = Jvm.exec) (hb : c.code = cc) (hts : ∀ w ∈ TS, w.before args s = true) (hT : x_TbOk TS TN cl tyl tb) (hown : s.vm.findClass (tNm tb o) = some m.cls) (hK : va_K D cl tys s) (hI : x_Inv D tc cl rv base h H)
    (hS0 : va_S (fun q => base ≤ q) s.heap H locs) (ha : h[a]? = some (.inl (ci, fs))) (hf : tFld tb o ix = some (ci, j)) (hty : (tFt tb ci)[j]? = some ty) (hl : j < fs.length) (hn : narrow ty.1 (rv v) = rv v) (hfit : fits ty.1 (rv v) = true)
    (hfin : ty.2 = false ∨ (meth.name = "<init>" ∧ ∀ r, cl[ci]? = some r → r.1 = tNm tb o)) (hdg : decode cc pc = .ok (.putfield ix, 3))
    (kk : ∀ (H1 : Heap) (locs1 : List Loc), x_Inv D tc cl rv base (h.set a (.inl (ci, fs.set j v))) H1 → va_S (fun q => base ≤ q) s.heap H1 locs1 → W p l e R s m args below meth c H1 locs1 cells slots Q (F0 m (pc + 3) ls rest)) : W p l e R s m args below meth c H locs cells slots Q (F0 m pc ls (rv v :: .ref (base + a) :: rest)) := by
  obtain ⟨r, h1, hlen, cell, q1, q2, q3, q4⟩ := hI.2.2 a _ ha
  obtain ⟨r2, g1, hk, hlink⟩ := hT.2.1 o ix ci j hf
  obtain rfl : r2 = r := Option.some.inj (g1.symm.trans h1)
  obtain ⟨C, T, N⟩ := r2
  obtain ⟨t1, t2, t3, t4, t5, t6, t7, t8⟩ := hT.2.2.1 ci _ h1
  have hap : ∀ x y, x < N → y < N → x ≠ y → (D.2 ci) x ≠ (D.2 ci) y := by
    refine va_apart (own := C) (T := T) hts t1 (fun k => ((tFt tb ci).getD k (.int, false)).1) (fun k hk => ?_) t4 hK h1
    have hk2 : k < (tFt tb ci).length := by rw [t2]; exact hk
    have e1 : (tFt tb ci)[k]? = some ((tFt tb ci)[k]) := List.getElem?_eq_getElem hk2
    have e2 := (t3 k _ e1).1
    rw [e2, List.getD_eq_getElem?_getD, e1]
    rfl
  obtain ⟨hS, hfc, kC, hkC, hkind⟩ := hK.1 ci _ h1
  obtain ⟨cf, kf, fi, f, hi, hsl⟩ := hS j hk
  have hlay := hts _ (t1 _ (u_in_lay hk))
  obtain ⟨d1, d2⟩ := t3 j ty hty
  have fin : ∀ (H1 : Heap) (locs1 : List Loc), H1[base + a]? = some (cell.setSlot f.slot (rv v)) → H1.size = H.size → (∀ q : Nat, q ≠ base + a → H1[q]? = H[q]?) → locs1 = locs ++ [⟨base + a, f.slot⟩] → W p l e R s m args below meth c H1 locs1 cells slots Q (F0 m (pc + 3) ls rest) := by
    intro H1 locs1 e1 e2 e3 e4
    subst e4
    rw [hsl] at e1 ⊢
    refine kk H1 _ (x_Inv_set hI ha e2 e3 ⟨_, h1, by rw [List.length_set]; exact hlen, ?_⟩) (hS0.put e2 e3 (Nat.le_add_right _ _))
    refine t_OB.to (V := updV (vp_V (fs.map rv)) j (rv v)) ⟨_, e1, q2, q3, t_set q4 hap hk (rv v)⟩ (fun i _ => ?_)
    rw [vp_updV_set (by rw [List.length_map]; exact hl), List.map_set]
  by_cases hfz : ty.2 = false
  · unfold u_lay at hlay
    rw [if_neg (by show ¬ (T j).2.2.2 = true; rw [d2, hfz]; decide)] at hlay
    have h6 := u_store hfc hkC hkind hlay hi d1 hn hfit
    exact W.putK hexec hb (f := f) ⟨hown, hts _ hlink, ⟨_, _, _, hi⟩, (u_facts hfc hkC (u_lays hts t1 hk) hi).1⟩ (by rw [q2]; exact h6) q1 q3 (by rw [hsl]; exact k2_hasslot (q4 j hk)) rfl rfl hdg fun H' e1 e2 e3 => fin H' _ e1 e2 e3 rfl
  · obtain ⟨hin2, hdecl⟩ := hfin.resolve_left hfz
    have hCo : C = tNm tb o := hdecl _ h1
    have hto : (T j).1 = tNm tb o := (t7 j hk).trans hCo
    unfold u_lay at hlay
    rw [if_pos (by show (T j).2.2.2 = true; rw [d2]; simpa using hfz)] at hlay
    have hcf : m.cls = cf := by
      obtain ⟨_, _, c', _, _, _, -, -, hf', -, -, -, hown2, -⟩ := Cond.laysFinal_spec hlay
      have e1 : c' = cf := by have := hi.symm.trans hf'; simp at this; exact this.1.symm
      rw [hto] at hown2
      rw [← e1]; exact Option.some.inj (hown.symm.trans hown2)
    have h6 := u_fits hfc hkC hkind (Or.inr hlay) hi d1 hn hfit
    exact W.putFinK hexec hb hown (hts _ hlink) hi (u_facts hfc hkC (u_lays hts t1 hk) hi).1 hcf hin2 (by rw [q2]; exact h6) q1 q3 (by rw [hsl]; exact k2_hasslot (q4 j hk)) rfl rfl hdg fun H' e1 e2 e3 => fin H' _ e1 e2 e3 rfl
theorem x_arr {D : va_G} {a t : Nat} {vs : List (XV E)} {ty : FieldType} (hK : va_K D cl tys s) (hY : x_Tys tc tys tyl) (hI : x_Inv D tc cl rv base h H) (ha : h[a]? = some (.inr (t, vs))) (ht : tyl[t]? = some ty) :
    ∃ cell : Cell, H[base + a]? = some cell ∧ s.isArrayOf cell ty ∧ cell.vm = .none ∧ cell.slots.size = vs.length ∧ cell = arrV (tc t) vs.length (fun j => rv (vs.getD j (.inr none))) ∧ ∀ (j : Nat) (v : XV E), vs[j]? = some v → cell.slots[j]? = some (rv v) := by
  have hc := hI.2.2 a _ ha
  refine ⟨_, hc, (hK.2 t _ (hY t ty ht)).1 _ _, rfl, arrV_size _ _ _, rfl, fun j v hv => ?_⟩
  rw [arrV_read _ _ (List.getElem?_eq_some_iff.mp hv).1, List.getD_eq_getElem?_getD, hv]
  rfl
theorem x_stored {t j : Nat} {vs : List (XV E)} {v : XV E} (hj : j < vs.length) : (arrV (tc t) vs.length (fun j => rv (vs.getD j (.inr none)))).setSlot j (rv v) = arrV (tc t) (vs.set j v).length (fun i => rv ((vs.set j v).getD i (.inr none))) := by
  rw [arrV_store, List.length_set]
  refine congrArg (arrV (tc t) vs.length) (funext fun i => ?_)
  by_cases hij : i = j
  · subst hij
    simp [updV, List.getD_eq_getElem?_getD, List.getElem?_set_self hj]
  · simp [updV, hij, List.getD_eq_getElem?_getD, List.getElem?_set_ne (fun q => hij q.symm)]
theorem x_iald {a : Nat} {vs : List (XV E)} {i : Int32} {v : XV E} (hexec : p.tables.exec = Jvm.exec) (hb : c.code = cc) (hK : va_K D cl tys s) (hY : x_Tys tc tys tyl) (ht : tyl[0]? = some .int) (hI : x_Inv D tc cl rv base h H) (ha : h[a]? = some (.inr (0, vs))) (h0 : ¬ i < 0) (hi : i.toNatClampNeg < vs.length) (hv : vs[i.toNatClampNeg]? = some v)
    (hdg : decode cc pc = .ok (.iaload, 1)) (kk : W p l e R s m args below meth c H locs cells slots Q (F0 m (pc + 1) ls (rv v :: rest))) : W p l e R s m args below meth c H locs cells slots Q (F0 m pc ls (.int i :: .ref (base + a) :: rest)) := by
  obtain ⟨cell, c1, c2, c3, c4, -, c5⟩ := x_arr hK hY hI ha ht
  exact W.iald hexec hb c1 c2 (by rw [c3]; exact fun q => by cases q) (by rw [c4]; exact fun q => q.elim h0 (fun q => by omega)) (c5 _ _ hv) rfl rfl hdg kk
theorem x_zald {a : Nat} {vs : List (XV E)} {i : Int32} {v : XV E} (hexec : p.tables.exec = Jvm.exec) (hb : c.code = cc) (hK : va_K D cl tys s) (hY : x_Tys tc tys tyl) (ht : tyl[1]? = some .boolean) (hI : x_Inv D tc cl rv base h H) (ha : h[a]? = some (.inr (1, vs))) (h0 : ¬ i < 0) (hi : i.toNatClampNeg < vs.length) (hv : vs[i.toNatClampNeg]? = some v)
    (hdg : decode cc pc = .ok (.baload, 1)) (kk : W p l e R s m args below meth c H locs cells slots Q (F0 m (pc + 1) ls (rv v :: rest))) : W p l e R s m args below meth c H locs cells slots Q (F0 m pc ls (.int i :: .ref (base + a) :: rest)) := by
  obtain ⟨cell, c1, c2, c3, c4, -, c5⟩ := x_arr hK hY hI ha ht
  exact W.zald hexec hb c1 c2 (by rw [c3]; exact fun q => by cases q) (by rw [c4]; exact fun q => q.elim h0 (fun q => by omega)) (c5 _ _ hv) rfl rfl hdg kk
theorem x_aald {a t : Nat} {vs : List (XV E)} {i : Int32} {v : XV E} {ty : FieldType} (hexec : p.tables.exec = Jvm.exec) (hb : c.code = cc) (hK : va_K D cl tys s) (hY : x_Tys tc tys tyl) (ht : tyl[t]? = some ty) (hr : x_isRef ty = true) (hI : x_Inv D tc cl rv base h H) (ha : h[a]? = some (.inr (t, vs))) (h0 : ¬ i < 0) (hi : i.toNatClampNeg < vs.length) (hv : vs[i.toNatClampNeg]? = some v)
    (hdg : decode cc pc = .ok (.aaload, 1)) (kk : W p l e R s m args below meth c H locs cells slots Q (F0 m (pc + 1) ls (rv v :: rest))) : W p l e R s m args below meth c H locs cells slots Q (F0 m pc ls (.int i :: .ref (base + a) :: rest)) := by
  obtain ⟨cell, c1, c2, c3, c4, -, c5⟩ := x_arr hK hY hI ha ht
  exact W.aald hexec hb c1 c2 (by cases ty <;> first | rfl | (simp [x_isRef] at hr)) (by rw [c3]; exact fun q => by cases q) (by rw [c4]; exact fun q => q.elim h0 (fun q => by omega)) (c5 _ _ hv) rfl rfl hdg kk
theorem x_alen {a t : Nat} {vs : List (XV E)} {ty : FieldType} (hexec : p.tables.exec = Jvm.exec) (hb : c.code = cc) (hK : va_K D cl tys s) (hY : x_Tys tc tys tyl) (ht : tyl[t]? = some ty) (hI : x_Inv D tc cl rv base h H) (ha : h[a]? = some (.inr (t, vs)))
    (hdg : decode cc pc = .ok (.arraylength, 1)) (kk : W p l e R s m args below meth c H locs cells slots Q (F0 m (pc + 1) ls (.int vs.length.toInt32 :: rest))) : W p l e R s m args below meth c H locs cells slots Q (F0 m pc ls (.ref (base + a) :: rest)) := by
  obtain ⟨cell, c1, c2, c3, c4, -, c5⟩ := x_arr hK hY hI ha ht
  exact W.alen hexec hb c1 c2 (by rw [c4]) rfl rfl hdg kk
theorem x_iast {a : Nat} {vs : List (XV E)} {i x : Int32} {v : XV E} (hexec : p.tables.exec = Jvm.exec) (hb : c.code = cc) (hK : va_K D cl tys s) (hY : x_Tys tc tys tyl) (ht : tyl[0]? = some .int) (hI : x_Inv D tc cl rv base h H) (hS : va_S (fun q => base ≤ q) s.heap H locs) (ha : h[a]? = some (.inr (0, vs))) (h0 : ¬ i < 0) (hi : i.toNatClampNeg < vs.length) (hv : rv v = .int x)
    (hdg : decode cc pc = .ok (.iastore, 1)) (kk : ∀ (H1 : Heap) (locs1 : List Loc), x_Inv D tc cl rv base (h.set a (.inr (0, vs.set i.toNatClampNeg v))) H1 → va_S (fun q => base ≤ q) s.heap H1 locs1 → W p l e R s m args below meth c H1 locs1 cells slots Q (F0 m (pc + 1) ls rest)) : W p l e R s m args below meth c H locs cells slots Q (F0 m pc ls (.int x :: .int i :: .ref (base + a) :: rest)) := by
  obtain ⟨cell, c1, c2, c3, c4, c6, c5⟩ := x_arr hK hY hI ha ht
  refine W.iast hexec hb c1 c2 (by rw [c3]; exact fun q => by cases q) (by rw [c4]; exact fun q => q.elim h0 (fun q => by omega)) rfl rfl hdg fun H1 e1 z oq => ?_
  refine kk H1 _ (x_Inv_set hI ha z oq ?_) (hS.put z oq (Nat.le_add_right _ _))
  show H1[base + a]? = _
  rw [e1, c6, ← hv, x_stored hi]
theorem x_zast {a : Nat} {vs : List (XV E)} {i x : Int32} {v : XV E} (hexec : p.tables.exec = Jvm.exec) (hb : c.code = cc) (hK : va_K D cl tys s) (hY : x_Tys tc tys tyl) (ht : tyl[1]? = some .boolean) (hI : x_Inv D tc cl rv base h H) (hS : va_S (fun q => base ≤ q) s.heap H locs) (ha : h[a]? = some (.inr (1, vs))) (h0 : ¬ i < 0) (hi : i.toNatClampNeg < vs.length) (hv : rv v = .int x) (hx : x = 0 ∨ x = 1)
    (hdg : decode cc pc = .ok (.bastore, 1)) (kk : ∀ (H1 : Heap) (locs1 : List Loc), x_Inv D tc cl rv base (h.set a (.inr (1, vs.set i.toNatClampNeg v))) H1 → va_S (fun q => base ≤ q) s.heap H1 locs1 → W p l e R s m args below meth c H1 locs1 cells slots Q (F0 m (pc + 1) ls rest)) : W p l e R s m args below meth c H locs cells slots Q (F0 m pc ls (.int x :: .int i :: .ref (base + a) :: rest)) := by
  obtain ⟨cell, c1, c2, c3, c4, c6, c5⟩ := x_arr hK hY hI ha ht
  refine W.zast hexec hb c1 c2 (by rw [c3]; exact fun q => by cases q) (by rw [c4]; exact fun q => q.elim h0 (fun q => by omega)) rfl rfl hdg fun H1 e1 z oq => ?_
  refine kk H1 _ (x_Inv_set hI ha z oq ?_) (hS.put z oq (Nat.le_add_right _ _))
  have hn : narrow .boolean (.int x) = .int x := by rcases hx with rfl | rfl <;> rfl
  show H1[base + a]? = _
  rw [e1, c6, hn, ← hv, x_stored hi]
theorem x_aast {a k t ci : Nat} {vs fs : List (XV E)} {i : Int32} {C : String} {r : vw_C} {v : XV E} (hexec : p.tables.exec = Jvm.exec) (hb : c.code = cc) (hK : va_K D cl tys s) (hY : x_Tys tc tys tyl) (ht : tyl[t]? = some (.object C)) (hI : x_Inv D tc cl rv base h H) (hS : va_S (fun q => base ≤ q) s.heap H locs) (ha : h[a]? = some (.inr (t, vs))) (hk : h[k]? = some (.inl (ci, fs))) (hc : cl[ci]? = some r) (hr : r.1 = C) (h0 : ¬ i < 0) (hi : i.toNatClampNeg < vs.length) (hv : rv v = .ref (base + k))
    (hdg : decode cc pc = .ok (.aastore, 1)) (kk : ∀ (H1 : Heap) (locs1 : List Loc), x_Inv D tc cl rv base (h.set a (.inr (t, vs.set i.toNatClampNeg v))) H1 → va_S (fun q => base ≤ q) s.heap H1 locs1 → W p l e R s m args below meth c H1 locs1 cells slots Q (F0 m (pc + 1) ls rest)) : W p l e R s m args below meth c H locs cells slots Q (F0 m pc ls (.ref (base + k) :: .int i :: .ref (base + a) :: rest)) := by
  obtain ⟨cell, c1, c2, c3, c4, c6, c5⟩ := x_arr hK hY hI ha ht
  obtain ⟨r', hr', -, cellV, g1, g2, g3, -⟩ := hI.2.2 k _ hk
  obtain rfl : r' = r := Option.some.inj (hr'.symm.trans hc)
  have hcls := (hK.1 ci r' hc).2
  obtain ⟨kA, comp, k1, k2, k3, -⟩ := (hK.2 t _ (hY t _ ht)).2
  have hcomp : comp = D.1 ci := Option.some.inj (k3.symm.trans (by rw [← hr]; exact hcls.1))
  subst hcomp
  obtain ⟨kC, hkC, -⟩ := hcls.2
  refine W.aast hexec hb c1 (fun q h => by rw [c3] at h; cases h) (fun h => by rw [c3] at h; cases h) (by rw [c6]; exact k1) k2 rfl hkC ⟨h0, by rw [c4]; exact hi⟩ g1 (fun q h => by rw [g3] at h; cases h) (by rw [g2]; exact hkC) (by rw [g2]; exact va_assign hcls) rfl rfl hdg fun H1 e1 z oq => ?_
  refine kk H1 _ (x_Inv_set hI ha z oq ?_) (hS.put z oq (Nat.le_add_right _ _))
  show H1[base + a]? = _
  rw [e1, c6, ← hv, x_stored hi]
theorem x_new {o ix ci : Nat} {fs : List (XV E)} (hexec : p.tables.exec = Jvm.exec) (hb : c.code = cc) (hts : ∀ w ∈ TS, w.before args s = true) (hT : x_TbOk TS TN cl tyl tb) (hown : s.vm.findClass (tNm tb o) = some m.cls) (hK : va_K D cl tys s) (hI : x_Inv D tc cl rv base h H) (hS : va_S (fun q => base ≤ q) s.heap H locs)
    (hf : tNw tb o ix = some ci) (hl : h.length + 1 ≤ 1000000) (hcells : cells + 1 ≤ R.cells) (hslots : slots + (tFt tb ci).length ≤ R.slots) (hfs : fs.map rv = (tFt tb ci).map (fun t => defaultValue t.1)) (hdg : decode cc pc = .ok (.new ix, 3))
    (kk : ∀ (H1 : Heap), x_Inv D tc cl rv base (h ++ [.inl (ci, fs)]) H1 → va_S (fun q => base ≤ q) s.heap H1 locs → W p l e R s m args below meth c H1 locs (cells + 1) (slots + (tFt tb ci).length) Q (F0 m (pc + 3) ls (.ref (base + h.length) :: rest))) : W p l e R s m args below meth c H locs cells slots Q (F0 m pc ls rest) := by
  obtain ⟨r, hc, hlink⟩ := hT.2.2.2.1 o ix ci hf
  obtain ⟨C, T, N⟩ := r
  obtain ⟨t1, t2, t3, t4, t5, t6, t7, t8⟩ := hT.2.2.1 ci _ hc
  have hKn := hK.1 ci _ hc
  have t2' : (tFt tb ci).length = N := t2
  have hlen : fs.length = N := by
    have := congrArg List.length hfs
    rw [List.length_map, List.length_map] at this
    omega
  rw [t2'] at hslots kk
  refine W.newcK hexec hb hown (hts _ hlink) (hts _ t5) (hts _ t6) rfl hdg hcells hslots hKn.2.1 (h := base + h.length) hI.1 fun H1 kC hkC e1 z1 o1 => ?_
  rw [← hI.1] at o1 z1
  refine kk H1 (x_Inv_app hI z1 o1 hl ⟨_, hc, hlen, ?_⟩) (x_S_app hS (by omega) o1)
  refine (u_born (fun k => ((tFt tb ci).getD k (.int, false)).1) hts t1 hKn hkC e1 (fun k hk => ?_)).to (fun k hk => ?_)
  · have hk2 : k < (tFt tb ci).length := by rw [t2]; exact hk
    have e2 : (tFt tb ci)[k]? = some ((tFt tb ci)[k]) := List.getElem?_eq_getElem hk2
    have e3 := (t3 k _ e2).1
    rw [e3, List.getD_eq_getElem?_getD, e2]
    rfl
  · have hk2 : k < (tFt tb ci).length := by rw [t2]; exact hk
    have e2 : (tFt tb ci)[k]? = some ((tFt tb ci)[k]) := List.getElem?_eq_getElem hk2
    simp only [vp_V, hfs, List.getD_eq_getElem?_getD, List.getElem?_map, e2, Option.map_some, Option.getD_some]
theorem x_newa {atype : ArrayType} {t N : Nat} {n : Int32} {v : XV E} (hexec : p.tables.exec = Jvm.exec) (hb : c.code = cc) (hK : va_K D cl tys s) (hY : x_Tys tc tys tyl) (ht : tyl[t]? = some (newarray.typeOf atype)) (harr : (Jvm.Cond.arrayClass (newarray.typeOf atype)).before args s = true) (hat : atype = .int ∨ atype = .boolean) (hI : x_Inv D tc cl rv base h H) (hS : va_S (fun q => base ≤ q) s.heap H locs)
    (hl : h.length + 1 ≤ 1000000) (hn : ¬ n < 0) (hN : n.toNatClampNeg = N) (hN2 : N ≤ 100000) (hcells : cells + 1 ≤ R.cells) (hslots : slots + N ≤ R.slots) (hv : rv v = .int 0) (hdg : decode cc pc = .ok (.newarray atype, 2))
    (kk : ∀ (H1 : Heap), x_Inv D tc cl rv base (h ++ [.inr (t, List.replicate N v)]) H1 → va_S (fun q => base ≤ q) s.heap H1 locs → W p l e R s m args below meth c H1 locs (cells + 1) (slots + N) Q (F0 m (pc + 2) ls (.ref (base + h.length) :: rest))) : W p l e R s m args below meth c H locs cells slots Q (F0 m pc ls (.int n :: rest)) := by
  refine va_newaK hexec hb harr rfl hdg rfl hn hN (by rcases hat with rfl | rfl <;> simp [newarray.typeOf, componentBytes] <;> omega) hcells hslots (h := base + h.length) hI.1 fun H1 cA e1 z1 o1 hAr hNm => ?_
  have hcA : cA = tc t := by
    have h1 := (hK.2 t _ (hY t _ ht)).2
    have h2 : s.vm.findClass ("[" ++ (newarray.typeOf atype).toString) = some (tc t) := by rcases hat with rfl | rfl <;> exact h1
    exact Option.some.inj (hNm.symm.trans h2)
  have hdv : defaultValue (newarray.typeOf atype) = .int 0 := by rcases hat with rfl | rfl <;> rfl
  rw [← hI.1] at o1 z1
  refine kk H1 (x_Inv_app hI z1 o1 hl ?_) (x_S_app hS (by omega) o1)
  show H1[base + h.length]? = _
  rw [e1, hcA, hdv, List.length_replicate]
  have ho : ∀ (N : Nat) (f g : Nat → Value), (∀ j, j < N → f j = g j) → arrV (tc t) N f = arrV (tc t) N g := fun N f g q => by
    unfold arrV
    congr 1
    exact congrArg Array.ofFn (funext fun (j : Fin N) => q j.val j.isLt)
  rw [ho N (fun _ => .int 0) (fun j => rv ((List.replicate N v).getD j (.inr none))) (fun j hj => by simp [List.getD_eq_getElem?_getD, List.getElem?_replicate, hj, hv])]
theorem x_anew {o ix t N : Nat} {n : Int32} {v : XV E} {C : String} (hexec : p.tables.exec = Jvm.exec) (hb : c.code = cc) (hK : va_K D cl tys s) (hY : x_Tys tc tys tyl) (ht : tyl[t]? = some (.object C)) (hown : s.vm.findClass (tNm tb o) = some m.cls) (hlink : (Jvm.Cond.classLink (tNm tb o) ix C).before args s = true) (hover : (Jvm.Cond.arrayOver (.object C)).before args s = true) (hI : x_Inv D tc cl rv base h H) (hS : va_S (fun q => base ≤ q) s.heap H locs)
    (hl : h.length + 1 ≤ 1000000) (hn : ¬ n < 0) (hN : n.toNatClampNeg = N) (hN2 : N ≤ 100000) (hcells : cells + 1 ≤ R.cells) (hslots : slots + N ≤ R.slots) (hv : rv v = .null) (hdg : decode cc pc = .ok (.anewarray ix, 3))
    (kk : ∀ (H1 : Heap), x_Inv D tc cl rv base (h ++ [.inr (t, List.replicate N v)]) H1 → va_S (fun q => base ≤ q) s.heap H1 locs → W p l e R s m args below meth c H1 locs (cells + 1) (slots + N) Q (F0 m (pc + 3) ls (.ref (base + h.length) :: rest))) : W p l e R s m args below meth c H locs cells slots Q (F0 m pc ls (.int n :: rest)) := by
  subst hN
  refine W.anew hexec hb hown hlink hover rfl hdg rfl hn (by omega) hcells hslots fun cA kA comp f1 f2 f3 f4 => ?_
  rw [hI.1]
  have hcA : cA = tc t := by
    obtain ⟨_, _, -, -, -, h1⟩ := (hK.2 t _ (hY t _ ht)).2
    exact Option.some.inj (f1.symm.trans h1)
  generalize hH1 : H.push ({ cls := cA, slots := Array.replicate n.toNatClampNeg .null, vm := .none } : Cell) = H1
  have z1 : H1.size = H.size + 1 := by rw [← hH1, Array.size_push]
  have e1 : H1[H.size]? = some (arrV cA n.toNatClampNeg (fun _ => .null)) := by rw [← hH1, Array.getElem?_push_size, ← arrV_new]
  have o1 : ∀ q : Nat, q < H.size → H1[q]? = H[q]? := fun q hq => by rw [← hH1, Array.getElem?_push, if_neg (Nat.ne_of_lt hq)]
  refine kk H1 (x_Inv_app hI z1 o1 hl ?_) (x_S_app hS (by omega) o1)
  show H1[base + h.length]? = _
  rw [← hI.1, e1, hcA, List.length_replicate]
  have ho : ∀ (N : Nat) (f g : Nat → Value), (∀ j, j < N → f j = g j) → arrV (tc t) N f = arrV (tc t) N g := fun N f g q => by
    unfold arrV
    congr 1
    exact congrArg Array.ofFn (funext fun (j : Fin N) => q j.val j.isLt)
  rw [ho n.toNatClampNeg (fun _ => .null) (fun j => rv ((List.replicate n.toNatClampNeg v).getD j (.inr none))) (fun j hj => by simp [List.getD_eq_getElem?_getD, List.getElem?_replicate, hj, hv])]
end XRows
end
section
/-! new T[n][m], and copying, over the evaluator's heap. -/
section XMulti
variable {E K : Type}
variable {p : Program} {l : Launch} {e : Env} {R : Room} {s : State} {m : MethodId} {args : Array Value} {below : List Frame} {meth : Method} {c : Code} {H : Heap} {locs : List Loc} {cells slots : Nat} {Q : State → Prop}
variable {cc : ByteArray} {pc : Nat} {ls : Array Slot} {rest : List Value} {D : va_G} {tc : Nat → ClassId} {cl : List vw_C} {tys : List (ClassId × FieldType)} {tyl : List FieldType} {TS TN : List Jvm.Cond} {tb : XT}
variable {rv : XV E → Value} {base : Nat} {h : List (XC E)}
theorem x_rows_get (t : Nat) (r : List (XV E)) : ∀ (n i : Nat) (z : XC E), (x_rows t r n)[i]? = some z → i < n ∧ z = .inr (t, r)
  | 0, i, z, q => by simp [x_rows] at q
  | n + 1, 0, z, q => by
    simp only [x_rows, List.getElem?_cons_zero, Option.some.injEq] at q
    exact ⟨Nat.succ_pos n, q.symm⟩
  | n + 1, i + 1, z, q => by
    simp only [x_rows, List.getElem?_cons_succ] at q
    obtain ⟨a, b⟩ := x_rows_get t r n i z q
    exact ⟨Nat.succ_lt_succ a, b⟩
theorem x_rows_len (t : Nat) (r : List (XV E)) : ∀ n : Nat, (x_rows t r n).length = n
  | 0 => rfl
  | n + 1 => by
    show (x_rows t r n).length + 1 = n + 1
    rw [x_rows_len t r n]
theorem x_refs_len : ∀ n a : Nat, (x_refs (E := E) a n).length = n
  | 0, _ => rfl
  | n + 1, a => by
    show (x_refs (a + 1) n).length + 1 = n + 1
    rw [x_refs_len n (a + 1)]
theorem x_refs_get : ∀ n a i : Nat, i < n → (x_refs (E := E) a n)[i]? = some (.inr (some (a + i)))
  | 0, _, _, q => absurd q (Nat.not_lt_zero _)
  | n + 1, a, 0, _ => rfl
  | n + 1, a, i + 1, q => by
    show (x_refs (a + 1) n)[i]? = _
    rw [x_refs_get n (a + 1) i (Nat.lt_of_succ_lt_succ q), show a + 1 + i = a + (i + 1) by omega]
theorem x_outer (cI : ClassId) (N h0 : Nat) : ∀ i : Nat, Jvm.Free.Multi.outerC cI N h0 i = arrV cI N (fun j => if j < i then .ref (h0 + 1 + j) else .null)
  | 0 => by
    unfold Jvm.Free.Multi.outerC
    rw [arrV_new]
    exact congrArg (arrV cI N) (funext fun j => (if_neg (Nat.not_lt_zero j)).symm)
  | i + 1 => by
    unfold Jvm.Free.Multi.outerC
    rw [x_outer cI N h0 i, arrV_store]
    refine congrArg (arrV cI N) (funext fun j => ?_)
    by_cases e : j = i
    · subst e
      simp [updV]
    · by_cases q : j < i
      · simp [updV, e, q, Nat.lt_succ_of_lt q]
      · simp [updV, e, q, show ¬ j < i + 1 by omega]
theorem x_multi {o ix t2 t1 N M : Nat} {ty : FieldType} {n k : Int32} {v : XV E} (hexec : p.tables.exec = Jvm.exec) (hb : c.code = cc) (hK : va_K D cl tys s) (hY : x_Tys tc tys tyl) (ht1 : tyl[t1]? = some ty) (ht2 : tyl[t2]? = some (.array ty)) (hty : ty = .int ∨ ty = .boolean) (hown : s.vm.findClass (tNm tb o) = some m.cls)
    (hlink : (Jvm.Cond.classLink (tNm tb o) ix ("[" ++ (FieldType.array ty).toString)).before args s = true) (hover : (Jvm.Cond.arrayOver (.array ty)).before args s = true) (harr : (Jvm.Cond.arrayClass ty).before args s = true) (hI : x_Inv D tc cl rv base h H) (hS : va_S (fun q => base ≤ q) s.heap H locs)
    (hl : h.length + 1 + N ≤ 1000000) (hn : ¬ n < 0) (hk : ¬ k < 0) (hN : n.toNatClampNeg = N) (hM : k.toNatClampNeg = M) (hN2 : N ≤ 100000) (hM2 : M ≤ 100000) (hcells : cells + (1 + N) ≤ R.cells) (hslots : slots + (N + N * M) ≤ R.slots) (hv : rv v = .int 0) (hrf : ∀ j : Nat, j < N → rv (.inr (some (h.length + 1 + j))) = .ref (base + (h.length + 1 + j))) (hdg : decode cc pc = .ok (.multianewarray ix 2, 4))
    (kk : ∀ (H1 : Heap), x_Inv D tc cl rv base (h ++ .inr (t2, x_refs (h.length + 1) N) :: x_rows t1 (List.replicate M v) N) H1 → va_S (fun q => base ≤ q) s.heap H1 locs → W p l e R s m args below meth c H1 locs (cells + 1 + N) (slots + N + N * M) Q (F0 m (pc + 4) ls (.ref (base + h.length) :: rest))) : W p l e R s m args below meth c H locs cells slots Q (F0 m pc ls (.int k :: .int n :: rest)) := by
  subst hN
  subst hM
  intro T hT Xs
  obtain ⟨vm₁, cA, comp, -, fA, fC, -, -, X', step⟩ := Jvm.Stand.multianewarray2F Xs hexec hown hlink hover harr (g := F0 m pc ls (.int k :: .int n :: rest)) rfl (by rw [hb]; exact hdg) rfl hn hk (by omega) (by rcases hty with rfl | rfl <;> simp [componentBytes] <;> omega) (by omega) (by rcases hty with rfl | rfl <;> rfl) (by rcases hty with rfl | rfl <;> rfl) hcells hslots
  have eA : cA = tc t2 := Option.some.inj (fA.symm.trans (hK.2 t2 _ (hY t2 _ ht2)).2)
  have eC : comp = tc t1 := by
    have h1 := (hK.2 t1 _ (hY t1 _ ht1)).2
    have h2 : s.vm.findClass ((FieldType.array ty).toString) = some (tc t1) := by rcases hty with rfl | rfl <;> exact h1
    exact Option.some.inj (fC.symm.trans h2)
  subst eA eC
  have hdv : defaultValue ty = .int 0 := by rcases hty with rfl | rfl <;> rfl
  rw [hdv] at X' step
  generalize hF : Jvm.Free.Multi.fill (T.setVm vm₁) (tc t2) (tc t1) n.toNatClampNeg k.toNatClampNeg (.int 0) n.toNatClampNeg = F at X' step
  have hTh : (T.setVm vm₁).heap = H := hT
  obtain ⟨f1, f2, -, -⟩ := Jvm.Free.Multi.fill_facts (T.setVm vm₁) (tc t2) (tc t1) n.toNatClampNeg k.toNatClampNeg (.int 0) n.toNatClampNeg
  rw [hF, hTh] at f1 f2
  have hold : ∀ x : Nat, x < H.size → F.heap[x]? = H[x]? := fun x hx => by
    have := Jvm.Free.Multi.fill_old (T.setVm vm₁) (tc t2) (tc t1) n.toNatClampNeg k.toNatClampNeg (.int 0) (a := x) (by rw [hTh]; exact hx) n.toNatClampNeg
    rw [hF, hTh] at this
    exact this
  have hrow : ∀ j : Nat, j < n.toNatClampNeg → F.heap[H.size + 1 + j]? = some (arrV (tc t1) k.toNatClampNeg (fun _ => .int 0)) := fun j hj => by
    have := Jvm.Free.Multi.fill_inner (T.setVm vm₁) (tc t2) (tc t1) n.toNatClampNeg k.toNatClampNeg (.int 0) n.toNatClampNeg j hj
    rw [hF, hTh] at this
    rw [this, Jvm.Free.Multi.innerC, arrV_new]
  have ho : ∀ (cI : ClassId) (N : Nat) (f g : Nat → Value), (∀ j, j < N → f j = g j) → arrV cI N f = arrV cI N g := fun cI N f g q => by
    unfold arrV
    congr 1
    exact congrArg Array.ofFn (funext fun (j : Fin N) => q j.val j.isLt)
  have hout : Jvm.Free.Multi.outerC (tc t2) n.toNatClampNeg H.size n.toNatClampNeg = arrV (tc t2) n.toNatClampNeg (fun j => .ref (H.size + 1 + j)) := by
    rw [x_outer]
    exact ho _ _ _ _ fun j hj => if_pos hj
  rw [hout] at f2
  obtain ⟨i1, i2, i3⟩ := hI
  have hI1 : x_Inv D tc cl rv base (h ++ .inr (t2, x_refs (h.length + 1) n.toNatClampNeg) :: x_rows t1 (List.replicate k.toNatClampNeg v) n.toNatClampNeg) F.heap := by
    refine ⟨?_, ?_, fun j z hj => ?_⟩
    · rw [f1, i1, List.length_append, List.length_cons, x_rows_len]
      omega
    · rw [List.length_append, List.length_cons, x_rows_len]
      omega
    · by_cases hjl : j < h.length
      · rw [List.getElem?_append_left hjl] at hj
        exact x_at_kept (i3 j z hj) (hold _ (by omega))
      · rw [List.getElem?_append_right (by omega)] at hj
        by_cases hj0 : j = h.length
        · subst hj0
          rw [Nat.sub_self, List.getElem?_cons_zero] at hj
          cases hj
          show F.heap[base + h.length]? = _
          rw [← i1, f2, x_refs_len]
          refine congrArg some (ho _ _ _ _ fun j hj => ?_)
          rw [List.getD_eq_getElem?_getD, x_refs_get _ _ _ hj, Option.getD_some, hrf j hj, i1]
          rw [show base + h.length + 1 + j = base + (h.length + 1 + j) by omega]
        · obtain ⟨j2, hj2⟩ : ∃ j2, j - h.length = j2 + 1 := ⟨j - h.length - 1, by omega⟩
          rw [hj2, List.getElem?_cons_succ] at hj
          obtain ⟨g1, rfl⟩ := x_rows_get _ _ _ _ _ hj
          show F.heap[base + j]? = _
          rw [show base + j = H.size + 1 + j2 by omega, hrow j2 g1, List.length_replicate]
          exact congrArg some (ho _ _ _ _ fun j hj => by simp [List.getD_eq_getElem?_getD, List.getElem?_replicate, hj, hv])
  have hS1 : va_S (fun q => base ≤ q) s.heap F.heap locs := x_S_app hS (by omega) hold
  have hz : T.heap.size = base + h.length := by rw [hT]; exact i1
  rw [hz] at step
  obtain ⟨t, a1, b1⟩ := kk F.heap hI1 hS1 F rfl X'
  exact ⟨t, step t a1, b1⟩
theorem x_cpy (us vs : List (XV E)) (z : XV E) {sp dp n : Nat} (h4 : sp + n ≤ us.length) (h5 : dp + n ≤ vs.length) (j : Nat) : va_cpy (fun j => us.getD j z) (fun j => vs.getD j z) sp dp n j = (vs.take dp ++ (us.drop sp).take n ++ vs.drop (dp + n)).getD j z := by
  have l1 : (vs.take dp).length = dp := by rw [List.length_take]; omega
  have l2 : ((us.drop sp).take n).length = n := by rw [List.length_take, List.length_drop]; omega
  unfold va_cpy
  simp only [List.getD_eq_getElem?_getD]
  by_cases a : j < dp
  · rw [if_neg (by omega), List.append_assoc, List.getElem?_append_left (by omega), List.getElem?_take, if_pos a]
  · by_cases b : j < dp + n
    · rw [if_pos ⟨by omega, b⟩, List.append_assoc, List.getElem?_append_right (by omega), List.getElem?_append_left (by omega), l1, List.getElem?_take, if_pos (by omega), List.getElem?_drop]
    · rw [if_neg (by omega), List.getElem?_append_right (by rw [List.length_append]; omega), List.length_append, l1, l2, List.getElem?_drop, show dp + n + (j - (dp + n)) = j by omega]
theorem x_copy {o ix a0 a1 : Nat} {us vs : List (XV E)} {sp dp n : Int32} (hexec : p.tables.exec = Jvm.exec) (hb : c.code = cc) (hml : c.maxLocals = ls.size) (hown : s.vm.findClass (tNm tb o) = some m.cls) (hlink : (Jvm.Cond.methodLink (tNm tb o) ix arraycopyName).before args s = true) (hnat : (Jvm.Cond.native arraycopyName).before args s = true) (hstat : (Jvm.Cond.static arraycopyName).before args s = true) (hini : (Jvm.Cond.initialized "java/lang/System").before args s = true)
    (hK : va_K D cl tys s) (hY : x_Tys tc tys tyl) (ht : tyl[0]? = some .int) (hI : x_Inv D tc cl rv base h H) (hS : va_S (fun q => base ≤ q) s.heap H locs) (ha0 : h[a0]? = some (.inr (0, us))) (ha1 : h[a1]? = some (.inr (0, vs))) (hint : ∀ u ∈ us, ∃ x, rv u = .int x)
    (h1 : ¬ sp < 0) (h2 : ¬ dp < 0) (h3 : ¬ n < 0) (h4 : sp.toNatClampNeg + n.toNatClampNeg ≤ us.length) (h5 : dp.toNatClampNeg + n.toNatClampNeg ≤ vs.length) (hframes : 1 ≤ R.frames) (hlocals : (rest.map fun v => v.category).sum + (nativeFrameWords "java/lang/System" "arraycopy" 5 + 11) ≤ R.locals) (hdg : decode cc pc = .ok (.invokestatic ix, 3))
    (kk : ∀ (H1 : Heap) (locs1 : List Loc), x_Inv D tc cl rv base (h.set a1 (.inr (0, vs.take dp.toNatClampNeg ++ (us.drop sp.toNatClampNeg).take n.toNatClampNeg ++ vs.drop (dp.toNatClampNeg + n.toNatClampNeg)))) H1 → va_S (fun q => base ≤ q) s.heap H1 locs1 → W p l e R s m args below meth c H1 locs1 cells slots Q (F0 m (pc + 3) ls rest)) : W p l e R s m args below meth c H locs cells slots Q (F0 m pc ls (.int n :: .int dp :: .ref (base + a1) :: .int sp :: .ref (base + a0) :: rest)) := by
  have nn : ∀ z : Int32, ¬ z < 0 → z.toInt = (z.toNatClampNeg : Int) := by
    intro z hz
    have hz0 : (0 : Int) ≤ z.toInt := by
      have := Int32.not_lt.mp hz
      simpa using Int32.le_iff_toInt_le.mp this
    show z.toInt = ((z.toInt.toNat : Nat) : Int)
    omega
  intro T hT X
  have hc0 : H[base + a0]? = some (arrV (tc 0) us.length (fun j => rv (us.getD j (.inr none)))) := hI.2.2 a0 _ ha0
  have hc1 : H[base + a1]? = some (arrV (tc 0) vs.length (fun j => rv (vs.getD j (.inr none)))) := hI.2.2 a1 _ ha1
  obtain ⟨-, k0, hk0, cm0, hkk0⟩ := (hK.2 0 _ (hY 0 _ ht)).1 us.length (fun j => rv (us.getD j (.inr none)))
  obtain ⟨-, k1, hk1, cm1, hkk1⟩ := (hK.2 0 _ (hY 0 _ ht)).1 vs.length (fun j => rv (vs.getD j (.inr none)))
  obtain ⟨vm', X', step⟩ := X.arraycopy hexec hown hlink hnat hstat hini (src := base + a0) (dst := base + a1) (cs := arrV (tc 0) us.length (fun j => rv (us.getD j (.inr none)))) (cd := arrV (tc 0) vs.length (fun j => rv (vs.getD j (.inr none)))) (srcPos := sp) (destPos := dp) (n := n) (by rw [hT]; exact hc0) (by rw [hT]; exact hc1)
    (fun _ h => by cases h) (fun _ h => by cases h) (fun h => by cases h) (fun h => by cases h) hk0 hk1 hkk0 hkk1 (by simp [refKind]) h1 h2 h3
    (by rw [nn sp h1, nn n h3, arrV_size]; omega)
    (by rw [nn dp h2, nn n h3, arrV_size]; omega)
    (fun vm₁ _ i hi => by
      have hlt : sp.toNatClampNeg + i < us.length := by omega
      have e : (arrV (tc 0) us.length (fun j => rv (us.getD j (.inr none)))).slots.getD (sp.toNatClampNeg + i) .null = rv (us[sp.toNatClampNeg + i]) := by
        rw [Array.getD_eq_getD_getElem?, arrV_read _ _ hlt, List.getD_eq_getElem?_getD, List.getElem?_eq_getElem hlt]
        rfl
      obtain ⟨x, hx⟩ := hint _ (List.getElem_mem hlt)
      rw [e, hx]
      exact ⟨rfl, trivial⟩)
    (g := F0 m pc ls (.int n :: .int dp :: .ref (base + a1) :: .int sp :: .ref (base + a0) :: rest)) rfl (by rw [hml]) (rest := rest) rfl (by rw [hb]; exact hdg) hframes (by show 2 * 0 + _ + _ ≤ _; omega)
  have hlen : (vs.take dp.toNatClampNeg ++ (us.drop sp.toNatClampNeg).take n.toNatClampNeg ++ vs.drop (dp.toNatClampNeg + n.toNatClampNeg)).length = vs.length := by
    simp only [List.length_append, List.length_take, List.length_drop]
    omega
  have e1 : copied (arrV (tc 0) us.length (fun j => rv (us.getD j (.inr none)))) (arrV (tc 0) vs.length (fun j => rv (vs.getD j (.inr none)))) sp dp n = arrV (tc 0) (vs.take dp.toNatClampNeg ++ (us.drop sp.toNatClampNeg).take n.toNatClampNeg ++ vs.drop (dp.toNatClampNeg + n.toNatClampNeg)).length (fun j => rv ((vs.take dp.toNatClampNeg ++ (us.drop sp.toNatClampNeg).take n.toNatClampNeg ++ vs.drop (dp.toNatClampNeg + n.toNatClampNeg)).getD j (.inr none))) := by
    rw [hlen]
    refine (va_copied rv (tc 0) (tc 0) (fun j => us.getD j (.inr none)) (fun j => vs.getD j (.inr none)) h4).trans ?_
    exact congrArg (arrV (tc 0) vs.length) (funext fun j => congrArg rv (x_cpy us vs (.inr none) h4 h5 j))
  generalize hnew : (vs.take dp.toNatClampNeg ++ (us.drop sp.toNatClampNeg).take n.toNatClampNeg ++ vs.drop (dp.toNatClampNeg + n.toNatClampNeg)) = zs at e1 kk
  rw [e1] at X' step
  have hl : base + a1 < H.size := (Array.getElem?_eq_some_iff.mp hc1).1
  generalize hcell : arrV (tc 0) zs.length (fun j => rv (zs.getD j (.inr none))) = nc at X' step
  have hheap : ((T.setVm vm').setCell (base + a1) nc).heap = H.setIfInBounds (base + a1) nc := by rw [← hT]; rfl
  have oq : ∀ q : Nat, q ≠ base + a1 → (H.setIfInBounds (base + a1) nc)[q]? = H[q]? := fun q hq => by simp [Array.getElem?_setIfInBounds, Ne.symm hq]
  have hnc : (H.setIfInBounds (base + a1) nc)[base + a1]? = some nc := by simp [Array.getElem?_setIfInBounds, hl]
  obtain ⟨t, b1, b2⟩ := kk _ _ (x_Inv_set hI ha1 (by simp) oq (z := .inr (0, zs)) (by show _ = some (arrV (tc 0) zs.length _); rw [hnc, hcell])) ⟨by simp; exact hS.1, fun q g1 g2 => by
      rw [oq q (fun e => g2 (by rw [e]; exact Nat.le_add_right _ _))]
      exact hS.2.1 q g1 g2, fun q hq => by
      rcases List.mem_append.mp hq with h | h
      · exact hS.2.2 q h
      · obtain ⟨z, -, hz⟩ := List.mem_map.mp h
        rw [← hz]
        exact Nat.le_add_right _ _⟩ _ hheap X'
  exact ⟨t, step t b1, b2⟩
end XMulti
end
section
/-! THE EVALUATOR IS RIGHT: where it finds no way left, the machine goes as it says. -/
section XSound
variable {E K : Type}
theorem x_amh {D : va_G} {tc : Nat → ClassId} {cl : List vw_C} {rv : XV E → Value} {base a : Nat} {sa : Nat → Nat} {h : List (XC E)} {z : XC E} {H : Heap} (hI : x_Inv D tc cl rv base h H) (ha : h[a]? = some z) : x_am base sa a = base + a := by
  have h1 := (List.getElem?_eq_some_iff.mp ha).1
  have h2 := hI.2.1
  unfold x_am
  rw [if_pos (by omega)]
theorem x_amo {base a : Nat} {sa : Nat → Nat} (h : 1000000 ≤ a) : x_am base sa a = sa a := if_neg (by omega)
theorem x_aml {base a : Nat} {sa : Nat → Nat} (h : a < 1000000) : x_am base sa a = base + a := if_pos h
section XCallK
variable {p : Program} {l : Launch} {e : Env} {R : Room} {s : State} {m : MethodId} {args : Array Value} {below : List Frame} {meth : Method} {c : Code} {H : Heap} {locs : List Loc} {cells slots : Nat} {Q : State → Prop}
theorem x_callk {d : XD E K} {D : va_G} {tc : Nat → ClassId} {cl : List vw_C} {am : Nat → Nat} {base pc mc ms : Nat} {ls : Array Slot} {st0 rest : List Value} {post : List K → Option (XV E) → List (XC E) → XR K} {a : Array Value}
    (hr : va_Run p l e R s m args below meth c H locs cells slots mc ms (F0 m pc ls st0) rest (x_Q d D tc cl am base post a) (fun q => base ≤ q)) (hS : va_S (fun q => base ≤ q) s.heap H locs)
    (kk : ∀ (w : List K) (v : Option (XV E)) (h : List (XC E)) (H1 : Heap) (locs1 : List Loc), XPa (dHd d) w → XOk (dHd d) (post w v h) → x_Inv D tc cl (x_rv d am) base h H1 → va_S (fun q => base ≤ q) s.heap H1 locs1 → W p l e R s m args below meth c H1 locs1 (cells + mc) (slots + ms) Q (F0 m (pc + 3) ls ((v.map (x_rv d am)).toList ++ rest))) :
    W p l e R s m args below meth c H locs cells slots Q (F0 m pc ls st0) := by
  intro T hT X
  obtain ⟨v, st₀, t, T', L, h0, X', hL, e1, e2, ⟨⟨w, v2, h, hw, hp, hv, hI⟩, hz, hk⟩, st⟩ := hr T hT X
  cases hv
  rw [h0] at hz hk
  rw [← e1] at hI hz hk
  obtain ⟨t2, a1, b1⟩ := kk w v2 h T'.heap (locs ++ L) hw hp hI ⟨Nat.le_trans hS.1 hz, fun q h1 h2 => by rw [hk q (Nat.lt_of_lt_of_le h1 hS.1) h2]; exact hS.2.1 q h1 h2, fun q hq => by
      rcases List.mem_append.mp hq with g | g
      · exact hS.2.2 q g
      · exact hL q g⟩ T' rfl X'
  exact ⟨t2, st t2 a1, b1⟩
end XCallK
theorem x_fit_spec {d : XD E K} (hd : x_DmOk d) {am : Nat → Nat} {ty : FieldType} {v : XV E} (h : x_fit d ty v = true) : narrow ty (x_rv d am v) = x_rv d am v ∧ fits ty (x_rv d am v) = true := by
  cases ty <;> rcases v with a | (_ | k) <;> try (simp [x_fit] at h; done)
  all_goals try exact ⟨rfl, rfl⟩
  simp only [x_fit] at h
  split at h
  · rename_i n hn
    have e := hd.2.2.2.1 a n hn
    show narrow .boolean (.int (dEv d a)) = .int (dEv d a) ∧ fits .boolean (.int (dEv d a)) = true
    rw [e]
    simp only [Bool.or_eq_true, decide_eq_true_eq] at h
    rcases h with rfl | rfl <;> exact ⟨rfl, rfl⟩
  · cases h
theorem x_ret_spec {d : XD E K} (hd : x_DmOk d) {rt : Option FieldType} {a : E} (h : x_retOk d rt (.inl a) = true) : ∃ ty, rt = some ty ∧ narrow ty (.int (dEv d a)) = .int (dEv d a) := by
  rcases rt with _ | ty
  · simp [x_retOk] at h
  refine ⟨ty, rfl, ?_⟩
  cases ty <;> try (simp [x_retOk] at h; done)
  case int => rfl
  case boolean =>
    simp only [x_retOk] at h
    split at h
    · rename_i n hn
      rw [hd.2.2.2.1 a n hn]
      simp only [Bool.or_eq_true, decide_eq_true_eq] at h
      rcases h with rfl | rfl <;> rfl
    · cases h
  case byte =>
    simp only [x_retOk] at h
    split at h
    · rename_i n hn
      rw [hd.2.2.2.1 a n hn]
      have h2 := of_decide_eq_true h
      show Value.int n.toInt8.toInt32 = _
      rw [h2]
    · cases h
  case char =>
    simp only [x_retOk] at h
    split at h
    · rename_i n hn
      rw [hd.2.2.2.1 a n hn]
      have h2 := of_decide_eq_true h
      rw [← h2]
      exact pk_nc n
    · cases h
theorem x_retr_spec {d : XD E K} {rt : Option FieldType} {a : Option Nat} (h : x_retOk d rt (.inr a) = true) : ∃ ty, rt = some ty ∧ ((∃ n, ty = .object n) ∨ ∃ t, ty = .array t) := by
  rcases rt with _ | ty
  · simp [x_retOk] at h
  cases ty <;> first | exact ⟨_, rfl, Or.inl ⟨_, rfl⟩⟩ | exact ⟨_, rfl, Or.inr ⟨_, rfl⟩⟩ | (simp [x_retOk] at h; done)
theorem x_push_map (d : XD E K) (am : Nat → Nat) (v : Option (XV E)) (S : List (XV E)) : (v.map (x_rv d am)).toList ++ S.map (x_rv d am) = (x_push v S).map (x_rv d am) := by
  rcases v with _ | v <;> rfl
/-- what is claimed of the evaluator at a fuel -/
def x_P (l : Launch) (d : XD E K) (tb : XT) (tyl : List FieldType) (TS TN : List Jvm.Cond) (cl : List vw_C) (D : va_G) (tc : Nat → ClassId) (tys : List (ClassId × FieldType)) (XE : State → Heap → Prop) (base : Nat) (sa : Nat → Nat) (ot : XO E) (f : Nat) : Prop :=
  ∀ (dp k pc : Nat) (q : XM) (L : List (Nat × XV E)) (S : List (XV E)) (h : List (XC E)) (cn sn : Nat) (w : List K) (post : List K → Option (XV E) → List (XC E) → XR K) (p : Program) (e : Env) (R : Room) (s : State) (m : MethodId) (args : Array Value) (below : List Frame) (meth : Method) (c : Code) (H : Heap) (locs : List Loc) (ls : Array Slot),
    tMth tb k = some q → x_Cx TS TN D cl tys XE tb q p R s m args meth c base dp → XOk (dHd d) (x_run d tb tyl ot f dp k pc L S h cn sn w post) → XPa (dHd d) w → x_Inv D tc cl (x_rv d (x_am base sa)) base h H → lv_has ls (mL q) (L.map (fun z => (z.1, x_rv d (x_am base sa) z.2))) → va_S (fun q => base ≤ q) s.heap H locs →
    W p l e R s m args below meth c H locs cn sn (MQ below (x_Q d D tc cl (x_am base sa) base post) args s (mMc q) (mMs q) (fun q => base ≤ q)) (F0 m pc ls (S.map (x_rv d (x_am base sa))))
theorem x_env_moved {TN : List Jvm.Cond} {TS : List Jvm.Cond} {D : va_G} {cl : List vw_C} {tys : List (ClassId × FieldType)} {XE : State → Heap → Prop} {tyl : List FieldType} {tb : XT} {base : Nat} (hT : x_TbOk TS TN cl tyl tb) (hX : x_XeOk XE base) {u U : State} {H H1 : Heap} (hW : u.WarmedH U.vm) (hk : ∀ q : Nat, q < base → H1[q]? = H[q]?) (hb : base ≤ H.size) (h : x_Env TN D cl tys XE u H) : x_Env TN D cl tys XE U H1 :=
  ⟨va_K.moved hW.alike h.1, fun w hw => hT.2.2.2.2.2.2.2.2.2.2.2.1 w hw u U hW (h.2.1 w hw), hX u U H H1 hW hk hb h.2.2⟩
/-- a method's contract, out of the evaluator -/
theorem x_met {l : Launch} {d : XD E K} {tb : XT} {tyl : List FieldType} {TS TN : List Jvm.Cond} {cl : List vw_C} {D : va_G} {tc : Nat → ClassId} {tys : List (ClassId × FieldType)} {XE : State → Heap → Prop} {base : Nat} {sa : Nat → Nat} {ot : XO E} {f : Nat} (hT : x_TbOk TS TN cl tyl tb) (ih : x_P l d tb tyl TS TN cl D tc tys XE base sa ot f)
    {dp j : Nat} {q : XM} {As : List (XV E)} {h : List (XC E)} {w : List K} {post : List K → Option (XV E) → List (XC E) → XR K} (hq : tMth tb j = some q) (hlen : As.length ≤ mL q) (hOk : XOk (dHd d) (x_run d tb tyl ot f dp j 0 (x_en 0 As) [] h 0 0 w post)) (hw : XPa (dHd d) w) :
    Met l (mY q) (Jvm.Cond.code (mY q) (mB q) (mL q) (mR q) :: TS) ({ frames := dp + 1, cells := mMc q, slots := mMs q, locals := 64 * (dp + 1) }) (va_Pc (As.map (x_rv d (x_am base sa))) (fun U => x_Inv D tc cl (x_rv d (x_am base sa)) base h U.heap ∧ x_Env TN D cl tys XE U U.heap)) (x_Q d D tc cl (x_am base sa) base post) (mMc q) (mMs q) (fun q => base ≤ q) := by
  obtain ⟨g1, g2, g3, g4, g5, g6, g7, g8, g9, g10⟩ := hT.1 j q hq
  refine Met.ofW (cc := mB q) (maxL := mL q) (ret := mR q) g1 rfl ?_
  intro p e s m args below meth c s₁ B hml hv
  obtain ⟨rfl, hI, hE⟩ := hv
  have hts := atoms_spec (ws := Jvm.Cond.code (mY q) (mB q) (mL q) (mR q) :: TS) B.pre
  have hown : s.vm.findClass (tNm tb (mO q)) = some m.cls := by rw [g6]; exact findClass_of_methodNamed B.named
  have hl := lv_entry (As.map (x_rv d (x_am base sa))) (n := mL q) (by rw [x_sl]; exact hlen)
  rw [lg_entry_eq]
  rw [x_en_spec] at hl
  exact ih dp j 0 q (x_en 0 As) [] h 0 0 w post p e _ s m _ below meth c s.heap [] _ hq
    ⟨B.exec, B.bytes, hml, hown, fun z hz => hts z (List.mem_cons_of_mem _ hz), B.returns, B.notSynchronized, (name_of_methodNamed B.named B.method).1, hE, by rw [hI.1]; exact Nat.le_add_right _ _, Nat.le_refl _, Nat.le_refl _, Nat.le_refl _, Nat.le_refl _⟩ hOk hw hI hl va_S.rf
theorem x_blind {TN TS : List Jvm.Cond} {D : va_G} {tc : Nat → ClassId} {cl : List vw_C} {tys : List (ClassId × FieldType)} {XE : State → Heap → Prop} {tyl : List FieldType} {tb : XT} {base : Nat} (hT : x_TbOk TS TN cl tyl tb) (hX : x_XeOk XE base) (As : List Value) (rv : XV E → Value) (h : List (XC E)) : FrameBlind (va_Pc As (fun U => x_Inv D tc cl rv base h U.heap ∧ x_Env TN D cl tys XE U U.heap)) := by
  intro a U g mk hP
  obtain ⟨h1, h2, h3⟩ := hP
  exact ⟨h1, h2, x_env_moved hT hX (u := U) (U := U.calling g mk a) (State.WarmedH.refl U) (fun _ _ => rfl) (show base ≤ U.heap.size by rw [h2.1]; exact Nat.le_add_right _ _) h3⟩
theorem x_words {TS : List Jvm.Cond} {s : State} {args : Array Value} (hts : ∀ w ∈ TS, w.before args s = true) (hg : ∀ w ∈ TS, ((w.onTables && w.keeps) = true ∨ ∃ ty, w = .arrayClass ty)) : ∀ w ∈ TS, ∀ (a' : Array Value) (U : State), s.WarmedH U.vm → w.before a' U = true := fun w hw a' U hW => word_at hW (hg w hw) (hts w hw)

theorem x_lk_at (d : XD E K) (am : Nat → Nat) {L : List (Nat × XV E)} {j : Nat} {a : E} (h : x_lk L j = some (.inl a)) : ∃ k : Nat, (L.map (fun z => (z.1, x_rv d am z.2)))[k]? = some (j, .int (dEv d a)) := by
  unfold x_lk at h
  obtain ⟨z, hz, hv⟩ := Option.map_eq_some_iff.mp h
  have h1 := List.mem_of_find?_eq_some hz
  have h2 := List.find?_some hz
  simp only [beq_iff_eq] at h2
  obtain ⟨k, hk⟩ := List.mem_iff_getElem?.mp h1
  refine ⟨k, ?_⟩
  rw [List.getElem?_map, hk]
  show some (z.1, x_rv d am z.2) = _
  rw [h2, hv]
  rfl
theorem x_bool {d : XD E K} (hd : x_DmOk d) {v : E} (h : x_fit d .boolean (.inl v) = true) : dEv d v = 0 ∨ dEv d v = 1 := by
  simp only [x_fit] at h
  split at h
  · rename_i n hn
    rw [hd.2.2.2.1 v n hn]
    simpa using h
  · cases h
theorem x_def_spec {d : XD E K} (hd : x_DmOk d) {am : Nat → Nat} (t : FieldType) (ht : t = .int ∨ t = .boolean ∨ x_isRef t = true) : x_rv d am (x_def d t) = defaultValue t := by
  rcases ht with rfl | rfl | ht
  · exact congrArg Value.int (hd.1 0)
  · exact congrArg Value.int (hd.1 0)
  · cases t <;> first | rfl | (simp [x_isRef] at ht; done)
theorem x_tn {TN : List Jvm.Cond} {TS : List Jvm.Cond} {D : va_G} {cl : List vw_C} {tys : List (ClassId × FieldType)} {XE : State → Heap → Prop} {tyl : List FieldType} {tb : XT} (hT : x_TbOk TS TN cl tyl tb) {s : State} {H : Heap} (hE : x_Env TN D cl tys XE s H) {w : Jvm.Cond} (hw : w ∈ TN) {args : Array Value} : w.before args s = true := va_Nw.use (hT.2.2.2.2.2.2.2.2.2.2.2.2.1 w hw) (hE.2.1 w hw)
theorem x_ftok {TN : List Jvm.Cond} {TS : List Jvm.Cond} {cl : List vw_C} {tyl : List FieldType} {tb : XT} (hT : x_TbOk TS TN cl tyl tb) {o ix ci : Nat} (hf : tNw tb o ix = some ci) (t : FieldType × Bool) (h : t ∈ tFt tb ci) : t.1 = .int ∨ t.1 = .boolean ∨ x_isRef t.1 = true := hT.2.2.2.2.2.2.2.2.2.2.2.2.2 ci t h

set_option maxHeartbeats 8000000 in
set_option maxRecDepth 100000 in
theorem x_sound {l : Launch} {d : XD E K} {tb : XT} {tyl : List FieldType} {TS TN : List Jvm.Cond} {cl : List vw_C} {D : va_G} {tc : Nat → ClassId} {tys : List (ClassId × FieldType)} {XE : State → Heap → Prop} {base : Nat} {sa : Nat → Nat} {ot : XO E} (hd : x_DmOk d) (hT : x_TbOk TS TN cl tyl tb) (hX : x_XeOk XE base) (hY : x_Tys tc tys tyl) (hZ : x_OutOk TS tb ot d XE base sa) : ∀ f : Nat, x_P l d tb tyl TS TN cl D tc tys XE base sa ot f := by
  intro f
  induction f with
  | zero =>
    intro dp k pc q L S h cn sn w post p e R s m args below meth c H locs ls hq hC hOk hw
    exact (x_bad hOk hw).elim
  | succ f ih =>
  intro dp k pc q L S h cn sn w post p e R s m args below meth c H locs ls hq hC hOk hw hI hl hS
  obtain ⟨hx, hb, hml, hown, hts, hr, hlk, hnm, hE0, hbz, hR1, hR2, hR3, hR4⟩ := id hC
  have hE : x_Env TN D cl tys XE s s.heap := hE0
  rw [x_run.eq_def] at hOk
  dsimp only at hOk
  rw [hq] at hOk
  dsimp only at hOk
  rcases hc : mC q pc with _ | ⟨i, n⟩
  · rw [hc] at hOk
    exact (x_bad hOk hw).elim
  rw [hc] at hOk
  dsimp only at hOk
  obtain ⟨hdg, hlen⟩ := (hT.1 k q hq).2.2.2.2.2.2.2.2.2 pc i n hc
  clear hc
  cases i
  case iconst v =>
    obtain rfl := x_len1 hlen rfl
    try dsimp only at hOk
    exact lv_iconst hx hb hdg rfl (by rw [← hd.1 (Int32.ofInt v)]; exact ih dp k _ q _ _ h cn sn w post p e R s m args below meth c H locs ls hq hC hOk hw hI hl hS)
  case bipush v =>
    obtain rfl := x_len1 hlen rfl
    try dsimp only at hOk
    exact lv_bipush hx hb hdg rfl (by rw [← hd.1 (Int8.ofInt v).toInt32]; exact ih dp k _ q _ _ h cn sn w post p e R s m args below meth c H locs ls hq hC hOk hw hI hl hS)
  case sipush v =>
    obtain rfl := x_len1 hlen rfl
    try dsimp only at hOk
    exact lv_sipush hx hb hdg rfl (by rw [← hd.1 (Int16.ofInt v).toInt32]; exact ih dp k _ q _ _ h cn sn w post p e R s m args below meth c H locs ls hq hC hOk hw hI hl hS)
  case ldc ix =>
    obtain rfl := x_len1 hlen rfl
    try dsimp only at hOk
    rcases hv : tLi tb (mO q) ix with _ | v
    · rw [hv] at hOk
      try dsimp only at hOk
      rcases hsl : oSl ot (mO q) ix with _ | a
      · rw [hsl] at hOk
        exact (x_bad hOk hw).elim
      rw [hsl] at hOk
      try dsimp only at hOk
      obtain ⟨z1, z2⟩ := hZ.1 _ _ _ hsl
      obtain ⟨tx, z3⟩ := z2 s s.heap hE.2.2
      have g := ih dp k _ q _ _ h cn sn w post p e R s m args below meth c H locs ls hq hC hOk hw hI hl hS
      rw [List.map_cons] at g
      simp only [x_rv] at g
      rw [x_amo (by omega)] at g
      exact va_ldcS hx hb hown z3 hdg g
    rw [hv] at hOk
    try dsimp only at hOk
    exact lv_ldc hx hb hown (hts _ (hT.2.2.2.2.2.2.2.2.2.1 _ _ _ hv)) hdg (by rw [← hd.1 v]; exact ih dp k _ q _ _ h cn sn w post p e R s m args below meth c H locs ls hq hC hOk hw hI hl hS)
  case ldc_w ix =>
    obtain rfl := x_len1 hlen rfl
    try dsimp only at hOk
    rcases hv : tLi tb (mO q) ix with _ | v
    · rw [hv] at hOk
      exact (x_bad hOk hw).elim
    rw [hv] at hOk
    try dsimp only at hOk
    exact lv_ldcw hx hb hown (hts _ (hT.2.2.2.2.2.2.2.2.2.1 _ _ _ hv)) hdg (by rw [← hd.1 v]; exact ih dp k _ q _ _ h cn sn w post p e R s m args below meth c H locs ls hq hC hOk hw hI hl hS)
  case aconst_null =>
    obtain rfl := x_len1 hlen rfl
    try dsimp only at hOk
    exact lv_null hx hb hdg (ih dp k _ q _ _ h cn sn w post p e R s m args below meth c H locs ls hq hC hOk hw hI hl hS)
  case iload_n j =>
    obtain rfl := x_len1 hlen rfl
    try dsimp only at hOk
    rcases ha : x_lk L ↑j with _ | v
    · rw [ha] at hOk
      exact (x_bad hOk hw).elim
    rw [ha] at hOk
    rcases v with a | a
    rotate_left
    · exact (x_bad hOk hw).elim
    try dsimp only at hOk
    exact lv_iload_n hx hb hdg rfl (x_lk_spec hl ha) (ih dp k _ q _ _ h cn sn w post p e R s m args below meth c H locs ls hq hC hOk hw hI hl hS)
  case iload j =>
    obtain rfl := x_len1 hlen rfl
    try dsimp only at hOk
    rcases ha : x_lk L j with _ | v
    · rw [ha] at hOk
      exact (x_bad hOk hw).elim
    rw [ha] at hOk
    rcases v with a | a
    rotate_left
    · exact (x_bad hOk hw).elim
    try dsimp only at hOk
    exact lv_iload hx hb hdg (x_lk_spec hl ha) (ih dp k _ q _ _ h cn sn w post p e R s m args below meth c H locs ls hq hC hOk hw hI hl hS)
  case aload_n j =>
    obtain rfl := x_len1 hlen rfl
    try dsimp only at hOk
    rcases ha : x_lk L ↑j with _ | v
    · rw [ha] at hOk
      exact (x_bad hOk hw).elim
    rw [ha] at hOk
    rcases v with a | (_ | a)
    · exact (x_bad hOk hw).elim
    · dsimp only at hOk
      exact lv_aload_nN hx hb hdg rfl (x_lk_spec hl ha) (ih dp k _ q _ _ h cn sn w post p e R s m args below meth c H locs ls hq hC hOk hw hI hl hS)
    · dsimp only at hOk
      exact lv_aload_n hx hb hdg rfl (x_lk_spec hl ha) (ih dp k _ q _ _ h cn sn w post p e R s m args below meth c H locs ls hq hC hOk hw hI hl hS)
  case aload j =>
    obtain rfl := x_len1 hlen rfl
    try dsimp only at hOk
    rcases ha : x_lk L j with _ | v
    · rw [ha] at hOk
      exact (x_bad hOk hw).elim
    rw [ha] at hOk
    rcases v with a | (_ | a)
    · exact (x_bad hOk hw).elim
    · dsimp only at hOk
      exact lv_aloadN hx hb hdg (x_lk_spec hl ha) (ih dp k _ q _ _ h cn sn w post p e R s m args below meth c H locs ls hq hC hOk hw hI hl hS)
    · dsimp only at hOk
      exact lv_aload hx hb hdg (x_lk_spec hl ha) (ih dp k _ q _ _ h cn sn w post p e R s m args below meth c H locs ls hq hC hOk hw hI hl hS)
  case istore_n j =>
    obtain rfl := x_len1 hlen rfl
    try dsimp only at hOk
    rcases S with _ | ⟨a | a0, S⟩
    · exact (x_bad hOk hw).elim
    rotate_left
    · exact (x_bad hOk hw).elim
    try dsimp only at hOk
    obtain ⟨hj, hO⟩ := x_if hOk hw
    exact lv_istore_n hx hb hdg rfl hl hj (x_st_spec d (x_am base sa) L _ (.inl a)) (fun ls' hl' => ih dp k _ q _ _ h cn sn w post p e R s m args below meth c H locs ls' hq hC hO hw hI hl' hS)
  case istore j =>
    obtain rfl := x_len1 hlen rfl
    try dsimp only at hOk
    rcases S with _ | ⟨a | a0, S⟩
    · exact (x_bad hOk hw).elim
    rotate_left
    · exact (x_bad hOk hw).elim
    try dsimp only at hOk
    obtain ⟨hj, hO⟩ := x_if hOk hw
    exact lv_istore hx hb hdg hl hj (x_st_spec d (x_am base sa) L _ (.inl a)) (fun ls' hl' => ih dp k _ q _ _ h cn sn w post p e R s m args below meth c H locs ls' hq hC hO hw hI hl' hS)
  case astore_n j =>
    obtain rfl := x_len1 hlen rfl
    try dsimp only at hOk
    rcases S with _ | ⟨a0 | a, S⟩
    · exact (x_bad hOk hw).elim
    · exact (x_bad hOk hw).elim
    try dsimp only at hOk
    obtain ⟨hj, hO⟩ := x_if hOk hw
    rcases a with _ | a
    · exact lv_astore_nN hx hb hdg rfl hl hj (x_st_spec d (x_am base sa) L _ (.inr none)) (fun ls' hl' => ih dp k _ q _ _ h cn sn w post p e R s m args below meth c H locs ls' hq hC hO hw hI hl' hS)
    · exact lv_astore_n hx hb hdg rfl hl hj (x_st_spec d (x_am base sa) L _ (.inr (some a))) (fun ls' hl' => ih dp k _ q _ _ h cn sn w post p e R s m args below meth c H locs ls' hq hC hO hw hI hl' hS)
  case astore j =>
    obtain rfl := x_len1 hlen rfl
    try dsimp only at hOk
    rcases S with _ | ⟨a0 | a, S⟩
    · exact (x_bad hOk hw).elim
    · exact (x_bad hOk hw).elim
    try dsimp only at hOk
    obtain ⟨hj, hO⟩ := x_if hOk hw
    rcases a with _ | a
    · exact lv_astoreN hx hb hdg hl hj (x_st_spec d (x_am base sa) L _ (.inr none)) (fun ls' hl' => ih dp k _ q _ _ h cn sn w post p e R s m args below meth c H locs ls' hq hC hO hw hI hl' hS)
    · exact lv_astore hx hb hdg hl hj (x_st_spec d (x_am base sa) L _ (.inr (some a))) (fun ls' hl' => ih dp k _ q _ _ h cn sn w post p e R s m args below meth c H locs ls' hq hC hO hw hI hl' hS)
  case iinc j v =>
    obtain rfl := x_len1 hlen rfl
    try dsimp only at hOk
    rcases ha : x_lk L j with _ | v2
    · rw [ha] at hOk
      exact (x_bad hOk hw).elim
    rw [ha] at hOk
    rcases v2 with a | a
    rotate_left
    · exact (x_bad hOk hw).elim
    try dsimp only at hOk
    obtain ⟨hj, hO⟩ := x_if hOk hw
    obtain ⟨kk, hk⟩ := x_lk_at d (x_am base sa) ha
    exact lv_iinc (v := dEv d (dBin d 0 a (dKc d (Int32.ofInt v)))) hx hb hdg hl hk (by rw [hd.2.1, hd.1]; rfl) hj (x_st_spec d (x_am base sa) L j (.inl (dBin d 0 a (dKc d (Int32.ofInt v))))) (fun ls' hl' => ih dp k _ q _ _ h cn sn w post p e R s m args below meth c H locs ls' hq hC hO hw hI hl' hS)
  case dup =>
    obtain rfl := x_len1 hlen rfl
    try dsimp only at hOk
    rcases S with _ | ⟨a, S⟩
    · exact (x_bad hOk hw).elim
    try dsimp only at hOk
    exact lv_dup hx hb hdg (x_rvc _ _ _) (ih dp k _ q _ _ h cn sn w post p e R s m args below meth c H locs ls hq hC hOk hw hI hl hS)
  case dup_x1 =>
    obtain rfl := x_len1 hlen rfl
    try dsimp only at hOk
    rcases S with _ | ⟨a, S⟩
    · exact (x_bad hOk hw).elim
    try dsimp only at hOk
    rcases S with _ | ⟨b, S⟩
    · exact (x_bad hOk hw).elim
    try dsimp only at hOk
    exact lv_dup_x1 hx hb hdg (x_rvc _ _ _) (x_rvc _ _ _) (ih dp k _ q _ _ h cn sn w post p e R s m args below meth c H locs ls hq hC hOk hw hI hl hS)
  case dup2 =>
    obtain rfl := x_len1 hlen rfl
    try dsimp only at hOk
    rcases S with _ | ⟨a, S⟩
    · exact (x_bad hOk hw).elim
    try dsimp only at hOk
    rcases S with _ | ⟨b, S⟩
    · exact (x_bad hOk hw).elim
    try dsimp only at hOk
    exact lv_dup2_11 hx hb hdg (x_rvc _ _ _) (x_rvc _ _ _) (ih dp k _ q _ _ h cn sn w post p e R s m args below meth c H locs ls hq hC hOk hw hI hl hS)
  case pop =>
    obtain rfl := x_len1 hlen rfl
    try dsimp only at hOk
    rcases S with _ | ⟨a, S⟩
    · exact (x_bad hOk hw).elim
    try dsimp only at hOk
    exact lv_pop hx hb hdg (x_rvc _ _ _) (ih dp k _ q _ _ h cn sn w post p e R s m args below meth c H locs ls hq hC hOk hw hI hl hS)
  case iadd =>
    obtain rfl := x_len1 hlen rfl
    try dsimp only at hOk
    rcases S with _ | ⟨b | a0, S⟩
    · exact (x_bad hOk hw).elim
    rotate_left
    · exact (x_bad hOk hw).elim
    try dsimp only at hOk
    rcases S with _ | ⟨a | a0, S⟩
    · exact (x_bad hOk hw).elim
    rotate_left
    · exact (x_bad hOk hw).elim
    try dsimp only at hOk
    have eb : dEv d (dBin d 0 a b) = x_bin 0 (dEv d a) (dEv d b) := hd.2.1 0 a b
    refine lv_iadd hx hb hdg (x := dEv d a) (y := dEv d b) ?_
    have g := ih dp k _ q _ _ h cn sn w post p e R s m args below meth c H locs ls hq hC hOk hw hI hl hS
    rw [List.map_cons] at g
    simp only [x_rv] at g
    rw [eb] at g
    exact g
  case isub =>
    obtain rfl := x_len1 hlen rfl
    try dsimp only at hOk
    rcases S with _ | ⟨b | a0, S⟩
    · exact (x_bad hOk hw).elim
    rotate_left
    · exact (x_bad hOk hw).elim
    try dsimp only at hOk
    rcases S with _ | ⟨a | a0, S⟩
    · exact (x_bad hOk hw).elim
    rotate_left
    · exact (x_bad hOk hw).elim
    try dsimp only at hOk
    have eb : dEv d (dBin d 1 a b) = x_bin 1 (dEv d a) (dEv d b) := hd.2.1 1 a b
    refine lv_isub hx hb hdg (x := dEv d a) (y := dEv d b) ?_
    have g := ih dp k _ q _ _ h cn sn w post p e R s m args below meth c H locs ls hq hC hOk hw hI hl hS
    rw [List.map_cons] at g
    simp only [x_rv] at g
    rw [eb] at g
    exact g
  case imul =>
    obtain rfl := x_len1 hlen rfl
    try dsimp only at hOk
    rcases S with _ | ⟨b | a0, S⟩
    · exact (x_bad hOk hw).elim
    rotate_left
    · exact (x_bad hOk hw).elim
    try dsimp only at hOk
    rcases S with _ | ⟨a | a0, S⟩
    · exact (x_bad hOk hw).elim
    rotate_left
    · exact (x_bad hOk hw).elim
    try dsimp only at hOk
    have eb : dEv d (dBin d 2 a b) = x_bin 2 (dEv d a) (dEv d b) := hd.2.1 2 a b
    refine lv_imul hx hb hdg (x := dEv d a) (y := dEv d b) ?_
    have g := ih dp k _ q _ _ h cn sn w post p e R s m args below meth c H locs ls hq hC hOk hw hI hl hS
    rw [List.map_cons] at g
    simp only [x_rv] at g
    rw [eb] at g
    exact g
  case iand =>
    obtain rfl := x_len1 hlen rfl
    try dsimp only at hOk
    rcases S with _ | ⟨b | a0, S⟩
    · exact (x_bad hOk hw).elim
    rotate_left
    · exact (x_bad hOk hw).elim
    try dsimp only at hOk
    rcases S with _ | ⟨a | a0, S⟩
    · exact (x_bad hOk hw).elim
    rotate_left
    · exact (x_bad hOk hw).elim
    try dsimp only at hOk
    have eb : dEv d (dBin d 3 a b) = x_bin 3 (dEv d a) (dEv d b) := hd.2.1 3 a b
    refine lv_iand hx hb hdg (x := dEv d a) (y := dEv d b) ?_
    have g := ih dp k _ q _ _ h cn sn w post p e R s m args below meth c H locs ls hq hC hOk hw hI hl hS
    rw [List.map_cons] at g
    simp only [x_rv] at g
    rw [eb] at g
    exact g
  case ior =>
    obtain rfl := x_len1 hlen rfl
    try dsimp only at hOk
    rcases S with _ | ⟨b | a0, S⟩
    · exact (x_bad hOk hw).elim
    rotate_left
    · exact (x_bad hOk hw).elim
    try dsimp only at hOk
    rcases S with _ | ⟨a | a0, S⟩
    · exact (x_bad hOk hw).elim
    rotate_left
    · exact (x_bad hOk hw).elim
    try dsimp only at hOk
    have eb : dEv d (dBin d 4 a b) = x_bin 4 (dEv d a) (dEv d b) := hd.2.1 4 a b
    refine lv_ior hx hb hdg (x := dEv d a) (y := dEv d b) ?_
    have g := ih dp k _ q _ _ h cn sn w post p e R s m args below meth c H locs ls hq hC hOk hw hI hl hS
    rw [List.map_cons] at g
    simp only [x_rv] at g
    rw [eb] at g
    exact g
  case ixor =>
    obtain rfl := x_len1 hlen rfl
    try dsimp only at hOk
    rcases S with _ | ⟨b | a0, S⟩
    · exact (x_bad hOk hw).elim
    rotate_left
    · exact (x_bad hOk hw).elim
    try dsimp only at hOk
    rcases S with _ | ⟨a | a0, S⟩
    · exact (x_bad hOk hw).elim
    rotate_left
    · exact (x_bad hOk hw).elim
    try dsimp only at hOk
    have eb : dEv d (dBin d 5 a b) = x_bin 5 (dEv d a) (dEv d b) := hd.2.1 5 a b
    refine lv_ixor hx hb hdg (x := dEv d a) (y := dEv d b) ?_
    have g := ih dp k _ q _ _ h cn sn w post p e R s m args below meth c H locs ls hq hC hOk hw hI hl hS
    rw [List.map_cons] at g
    simp only [x_rv] at g
    rw [eb] at g
    exact g
  case ishl =>
    obtain rfl := x_len1 hlen rfl
    try dsimp only at hOk
    rcases S with _ | ⟨b | a0, S⟩
    · exact (x_bad hOk hw).elim
    rotate_left
    · exact (x_bad hOk hw).elim
    try dsimp only at hOk
    rcases S with _ | ⟨a | a0, S⟩
    · exact (x_bad hOk hw).elim
    rotate_left
    · exact (x_bad hOk hw).elim
    try dsimp only at hOk
    have eb : dEv d (dBin d 6 a b) = x_bin 6 (dEv d a) (dEv d b) := hd.2.1 6 a b
    refine lv_ishl hx hb hdg (x := dEv d a) (y := dEv d b) ?_
    have g := ih dp k _ q _ _ h cn sn w post p e R s m args below meth c H locs ls hq hC hOk hw hI hl hS
    rw [List.map_cons] at g
    simp only [x_rv] at g
    rw [eb] at g
    exact g
  case ishr =>
    obtain rfl := x_len1 hlen rfl
    try dsimp only at hOk
    rcases S with _ | ⟨b | a0, S⟩
    · exact (x_bad hOk hw).elim
    rotate_left
    · exact (x_bad hOk hw).elim
    try dsimp only at hOk
    rcases S with _ | ⟨a | a0, S⟩
    · exact (x_bad hOk hw).elim
    rotate_left
    · exact (x_bad hOk hw).elim
    try dsimp only at hOk
    have eb : dEv d (dBin d 7 a b) = x_bin 7 (dEv d a) (dEv d b) := hd.2.1 7 a b
    refine lv_ishr hx hb hdg (x := dEv d a) (y := dEv d b) ?_
    have g := ih dp k _ q _ _ h cn sn w post p e R s m args below meth c H locs ls hq hC hOk hw hI hl hS
    rw [List.map_cons] at g
    simp only [x_rv] at g
    rw [eb] at g
    exact g
  case idiv =>
    obtain rfl := x_len1 hlen rfl
    try dsimp only at hOk
    rcases S with _ | ⟨b | a0, S⟩
    · exact (x_bad hOk hw).elim
    rotate_left
    · exact (x_bad hOk hw).elim
    try dsimp only at hOk
    rcases S with _ | ⟨a | a0, S⟩
    · exact (x_bad hOk hw).elim
    rotate_left
    · exact (x_bad hOk hw).elim
    try dsimp only at hOk
    have eb : dEv d (dBin d 8 a b) = x_bin 8 (dEv d a) (dEv d b) := hd.2.1 8 a b
    obtain ⟨w2, hw2, h3⟩ := hd.2.2.2.2 0 b (dKc d 0) w _ _ hOk hw
    rw [hd.1] at h3
    rcases h3 with ⟨_, h3⟩ | ⟨hne, h3⟩
    · exact (x_bad h3 hw2).elim
    refine lv_idiv hx hb hdg (x := dEv d a) (y := dEv d b) (of_decide_eq_false hne) ?_
    have g := ih dp k _ q _ _ h cn sn w2 post p e R s m args below meth c H locs ls hq hC h3 hw2 hI hl hS
    rw [List.map_cons] at g
    simp only [x_rv] at g
    rw [eb] at g
    exact g
  case irem =>
    obtain rfl := x_len1 hlen rfl
    try dsimp only at hOk
    rcases S with _ | ⟨b | a0, S⟩
    · exact (x_bad hOk hw).elim
    rotate_left
    · exact (x_bad hOk hw).elim
    try dsimp only at hOk
    rcases S with _ | ⟨a | a0, S⟩
    · exact (x_bad hOk hw).elim
    rotate_left
    · exact (x_bad hOk hw).elim
    try dsimp only at hOk
    have eb : dEv d (dBin d 9 a b) = x_bin 9 (dEv d a) (dEv d b) := hd.2.1 9 a b
    obtain ⟨w2, hw2, h3⟩ := hd.2.2.2.2 0 b (dKc d 0) w _ _ hOk hw
    rw [hd.1] at h3
    rcases h3 with ⟨_, h3⟩ | ⟨hne, h3⟩
    · exact (x_bad h3 hw2).elim
    refine lv_irem hx hb hdg (x := dEv d a) (y := dEv d b) (of_decide_eq_false hne) ?_
    have g := ih dp k _ q _ _ h cn sn w2 post p e R s m args below meth c H locs ls hq hC h3 hw2 hI hl hS
    rw [List.map_cons] at g
    simp only [x_rv] at g
    rw [eb] at g
    exact g
  case i2b =>
    obtain rfl := x_len1 hlen rfl
    try dsimp only at hOk
    rcases S with _ | ⟨a | a0, S⟩
    · exact (x_bad hOk hw).elim
    rotate_left
    · exact (x_bad hOk hw).elim
    try dsimp only at hOk
    exact lv_i2b hx hb (v := dEv d (dUn d 0 a)) hdg (by rw [hd.2.2.1]; rfl) (ih dp k _ q _ _ h cn sn w post p e R s m args below meth c H locs ls hq hC hOk hw hI hl hS)
  case i2s =>
    obtain rfl := x_len1 hlen rfl
    try dsimp only at hOk
    rcases S with _ | ⟨a | a0, S⟩
    · exact (x_bad hOk hw).elim
    rotate_left
    · exact (x_bad hOk hw).elim
    try dsimp only at hOk
    exact lv_i2s hx hb (v := dEv d (dUn d 1 a)) hdg (by rw [hd.2.2.1]; rfl) (ih dp k _ q _ _ h cn sn w post p e R s m args below meth c H locs ls hq hC hOk hw hI hl hS)
  case goto o =>
    obtain rfl := x_len1 hlen rfl
    try dsimp only at hOk
    rcases ht : x_jp pc o with _ | t
    · rw [ht] at hOk
      exact (x_bad hOk hw).elim
    rw [ht] at hOk
    try dsimp only at hOk
    exact lv_goto hx hb hdg (x_jp_spec ht) (ih dp k _ q _ _ h cn sn w post p e R s m args below meth c H locs ls hq hC hOk hw hI hl hS)
  case ifCond cc2 o =>
    obtain rfl := x_len1 hlen rfl
    try dsimp only at hOk
    rcases S with _ | ⟨a | a0, S⟩
    · exact (x_bad hOk hw).elim
    rotate_left
    · exact (x_bad hOk hw).elim
    try dsimp only at hOk
    rcases ht : x_jp pc o with _ | t
    · rw [ht] at hOk
      exact (x_bad hOk hw).elim
    rw [ht] at hOk
    try dsimp only at hOk
    obtain ⟨w2, hw2, h3⟩ := hd.2.2.2.2 _ a (dKc d 0) w _ _ hOk hw
    rw [hd.1] at h3
    cases cc2 <;> rcases h3 with ⟨hc, h3⟩ | ⟨hc, h3⟩
    · exact lv_if_eq hx hb hdg (x_jp_spec ht) (fun _ => ih dp k _ q _ _ h cn sn w2 post p e R s m args below meth c H locs ls hq hC h3 hw2 hI hl hS) (fun z => absurd (of_decide_eq_true hc) z)
    · exact lv_if_eq hx hb hdg (x_jp_spec ht) (fun z => absurd z (of_decide_eq_false hc)) (fun _ => ih dp k _ q _ _ h cn sn w2 post p e R s m args below meth c H locs ls hq hC h3 hw2 hI hl hS)
    · exact lv_if_ne hx hb hdg (x_jp_spec ht) (fun _ => ih dp k _ q _ _ h cn sn w2 post p e R s m args below meth c H locs ls hq hC h3 hw2 hI hl hS) (fun z => absurd z (of_decide_eq_true hc))
    · exact lv_if_ne hx hb hdg (x_jp_spec ht) (fun z => absurd (Decidable.not_not.mp (of_decide_eq_false hc)) z) (fun _ => ih dp k _ q _ _ h cn sn w2 post p e R s m args below meth c H locs ls hq hC h3 hw2 hI hl hS)
    · exact lv_if_lt hx hb hdg (x_jp_spec ht) (fun _ => ih dp k _ q _ _ h cn sn w2 post p e R s m args below meth c H locs ls hq hC h3 hw2 hI hl hS) (fun z => absurd (of_decide_eq_true hc) z)
    · exact lv_if_lt hx hb hdg (x_jp_spec ht) (fun z => absurd z (of_decide_eq_false hc)) (fun _ => ih dp k _ q _ _ h cn sn w2 post p e R s m args below meth c H locs ls hq hC h3 hw2 hI hl hS)
    · exact lv_if_ge hx hb hdg (x_jp_spec ht) (fun _ => ih dp k _ q _ _ h cn sn w2 post p e R s m args below meth c H locs ls hq hC h3 hw2 hI hl hS) (fun z => absurd (of_decide_eq_true hc) z)
    · exact lv_if_ge hx hb hdg (x_jp_spec ht) (fun z => absurd z (of_decide_eq_false hc)) (fun _ => ih dp k _ q _ _ h cn sn w2 post p e R s m args below meth c H locs ls hq hC h3 hw2 hI hl hS)
    · exact lv_if_gt hx hb hdg (x_jp_spec ht) (fun _ => ih dp k _ q _ _ h cn sn w2 post p e R s m args below meth c H locs ls hq hC h3 hw2 hI hl hS) (fun z => absurd (of_decide_eq_true hc) z)
    · exact lv_if_gt hx hb hdg (x_jp_spec ht) (fun z => absurd z (of_decide_eq_false hc)) (fun _ => ih dp k _ q _ _ h cn sn w2 post p e R s m args below meth c H locs ls hq hC h3 hw2 hI hl hS)
    · exact lv_if_le hx hb hdg (x_jp_spec ht) (fun _ => ih dp k _ q _ _ h cn sn w2 post p e R s m args below meth c H locs ls hq hC h3 hw2 hI hl hS) (fun z => absurd (of_decide_eq_true hc) z)
    · exact lv_if_le hx hb hdg (x_jp_spec ht) (fun z => absurd z (of_decide_eq_false hc)) (fun _ => ih dp k _ q _ _ h cn sn w2 post p e R s m args below meth c H locs ls hq hC h3 hw2 hI hl hS)
  case if_icmp cc2 o =>
    obtain rfl := x_len1 hlen rfl
    try dsimp only at hOk
    rcases S with _ | ⟨b | a0, S⟩
    · exact (x_bad hOk hw).elim
    rotate_left
    · exact (x_bad hOk hw).elim
    try dsimp only at hOk
    rcases S with _ | ⟨a | a0, S⟩
    · exact (x_bad hOk hw).elim
    rotate_left
    · exact (x_bad hOk hw).elim
    try dsimp only at hOk
    rcases ht : x_jp pc o with _ | t
    · rw [ht] at hOk
      exact (x_bad hOk hw).elim
    rw [ht] at hOk
    try dsimp only at hOk
    obtain ⟨w2, hw2, h3⟩ := hd.2.2.2.2 _ a b w _ _ hOk hw
    cases cc2 <;> rcases h3 with ⟨hc, h3⟩ | ⟨hc, h3⟩
    · exact lv_icmp_eq hx hb hdg (x_jp_spec ht) (fun _ => ih dp k _ q _ _ h cn sn w2 post p e R s m args below meth c H locs ls hq hC h3 hw2 hI hl hS) (fun z => absurd (of_decide_eq_true hc) z)
    · exact lv_icmp_eq hx hb hdg (x_jp_spec ht) (fun z => absurd z (of_decide_eq_false hc)) (fun _ => ih dp k _ q _ _ h cn sn w2 post p e R s m args below meth c H locs ls hq hC h3 hw2 hI hl hS)
    · exact lv_icmp_ne hx hb hdg (x_jp_spec ht) (fun _ => ih dp k _ q _ _ h cn sn w2 post p e R s m args below meth c H locs ls hq hC h3 hw2 hI hl hS) (fun z => absurd z (of_decide_eq_true hc))
    · exact lv_icmp_ne hx hb hdg (x_jp_spec ht) (fun z => absurd (Decidable.not_not.mp (of_decide_eq_false hc)) z) (fun _ => ih dp k _ q _ _ h cn sn w2 post p e R s m args below meth c H locs ls hq hC h3 hw2 hI hl hS)
    · exact lv_icmp_lt hx hb hdg (x_jp_spec ht) (fun _ => ih dp k _ q _ _ h cn sn w2 post p e R s m args below meth c H locs ls hq hC h3 hw2 hI hl hS) (fun z => absurd (of_decide_eq_true hc) z)
    · exact lv_icmp_lt hx hb hdg (x_jp_spec ht) (fun z => absurd z (of_decide_eq_false hc)) (fun _ => ih dp k _ q _ _ h cn sn w2 post p e R s m args below meth c H locs ls hq hC h3 hw2 hI hl hS)
    · exact lv_icmp_ge hx hb hdg (x_jp_spec ht) (fun _ => ih dp k _ q _ _ h cn sn w2 post p e R s m args below meth c H locs ls hq hC h3 hw2 hI hl hS) (fun z => absurd (of_decide_eq_true hc) z)
    · exact lv_icmp_ge hx hb hdg (x_jp_spec ht) (fun z => absurd z (of_decide_eq_false hc)) (fun _ => ih dp k _ q _ _ h cn sn w2 post p e R s m args below meth c H locs ls hq hC h3 hw2 hI hl hS)
    · exact lv_icmp_gt hx hb hdg (x_jp_spec ht) (fun _ => ih dp k _ q _ _ h cn sn w2 post p e R s m args below meth c H locs ls hq hC h3 hw2 hI hl hS) (fun z => absurd (of_decide_eq_true hc) z)
    · exact lv_icmp_gt hx hb hdg (x_jp_spec ht) (fun z => absurd z (of_decide_eq_false hc)) (fun _ => ih dp k _ q _ _ h cn sn w2 post p e R s m args below meth c H locs ls hq hC h3 hw2 hI hl hS)
    · exact lv_icmp_le hx hb hdg (x_jp_spec ht) (fun _ => ih dp k _ q _ _ h cn sn w2 post p e R s m args below meth c H locs ls hq hC h3 hw2 hI hl hS) (fun z => absurd (of_decide_eq_true hc) z)
    · exact lv_icmp_le hx hb hdg (x_jp_spec ht) (fun z => absurd z (of_decide_eq_false hc)) (fun _ => ih dp k _ q _ _ h cn sn w2 post p e R s m args below meth c H locs ls hq hC h3 hw2 hI hl hS)
  case ifnull o =>
    obtain rfl := x_len1 hlen rfl
    try dsimp only at hOk
    rcases S with _ | ⟨a0 | a, S⟩
    · exact (x_bad hOk hw).elim
    · exact (x_bad hOk hw).elim
    try dsimp only at hOk
    rcases ht : x_jp pc o with _ | t
    · rw [ht] at hOk
      rcases a with _ | a
      · exact (x_bad hOk hw).elim
      · exact lv_ifnull hx hb hdg (ih dp k _ q _ _ h cn sn w post p e R s m args below meth c H locs ls hq hC hOk hw hI hl hS)
    rw [ht] at hOk
    rcases a with _ | a
    · exact lv_ifnullN hx hb hdg (x_jp_spec ht) (ih dp k _ q _ _ h cn sn w post p e R s m args below meth c H locs ls hq hC hOk hw hI hl hS)
    · exact lv_ifnull hx hb hdg (ih dp k _ q _ _ h cn sn w post p e R s m args below meth c H locs ls hq hC hOk hw hI hl hS)
  case ifnonnull o =>
    obtain rfl := x_len1 hlen rfl
    try dsimp only at hOk
    rcases S with _ | ⟨a0 | a, S⟩
    · exact (x_bad hOk hw).elim
    · exact (x_bad hOk hw).elim
    try dsimp only at hOk
    rcases ht : x_jp pc o with _ | t
    · rw [ht] at hOk
      rcases a with _ | a
      · exact lv_ifnonnullN hx hb hdg (ih dp k _ q _ _ h cn sn w post p e R s m args below meth c H locs ls hq hC hOk hw hI hl hS)
      · exact (x_bad hOk hw).elim
    rw [ht] at hOk
    rcases a with _ | a
    · exact lv_ifnonnullN hx hb hdg (ih dp k _ q _ _ h cn sn w post p e R s m args below meth c H locs ls hq hC hOk hw hI hl hS)
    · exact lv_ifnonnull hx hb hdg (x_jp_spec ht) (ih dp k _ q _ _ h cn sn w post p e R s m args below meth c H locs ls hq hC hOk hw hI hl hS)
  case lookupswitch df ps =>
    try dsimp only at hOk
    rcases S with _ | ⟨a | a0, S⟩
    · exact (x_bad hOk hw).elim
    rotate_left
    · exact (x_bad hOk hw).elim
    try dsimp only at hOk
    obtain ⟨hsr, hO⟩ := x_if hOk hw
    obtain ⟨w2, hw2, h3⟩ := x_sw_spec hd _ w hO hw
    try dsimp only at h3
    rcases ht : x_jp pc (Op.lookupswitch.offset ps.toList df (dEv d a).toInt) with _ | t
    · rw [ht] at h3
      exact (x_bad h3 hw2).elim
    rw [ht] at h3
    try dsimp only at h3
    exact lv_lookup hx hb hdg hsr rfl (x_jp_spec ht) (ih dp k _ q _ _ h cn sn w2 post p e R s m args below meth c H locs ls hq hC h3 hw2 hI hl hS)
  case tableswitch df lo hi os =>
    try dsimp only at hOk
    rcases S with _ | ⟨a | a0, S⟩
    · exact (x_bad hOk hw).elim
    rotate_left
    · exact (x_bad hOk hw).elim
    try dsimp only at hOk
    obtain ⟨hsr, hO⟩ := x_if hOk hw
    obtain ⟨w2, hw2, h3⟩ := x_sw_spec hd _ w hO hw
    try dsimp only at h3
    rcases ht : x_jp pc (Op.lookupswitch.offset (x_tp lo os.toList) df (dEv d a).toInt) with _ | t
    · rw [ht] at h3
      exact (x_bad h3 hw2).elim
    rw [ht] at h3
    try dsimp only at h3
    have hsz : os.toList.length = os.size := by simp
    by_cases hin : (dEv d a).toInt < lo ∨ hi < (dEv d a).toInt
    · rw [x_tp_out df os.toList lo (dEv d a).toInt (by omega)] at ht
      exact lv_tableOut hx hb hdg hin (x_jp_spec ht) (ih dp k _ q _ _ h cn sn w2 post p e R s m args below meth c H locs ls hq hC h3 hw2 hI hl hS)
    · have hg := x_tp_in df os.toList lo (dEv d a).toInt (by omega) (by omega)
      exact lv_tableIn hx hb hdg (by omega) (by omega) (by rw [← Array.getElem?_toList]; exact hg) (x_jp_spec ht) (ih dp k _ q _ _ h cn sn w2 post p e R s m args below meth c H locs ls hq hC h3 hw2 hI hl hS)
  case getfield ix =>
    obtain rfl := x_len1 hlen rfl
    try dsimp only at hOk
    rcases S with _ | ⟨a0 | (_ | a), S⟩
    · exact (x_bad hOk hw).elim
    · exact (x_bad hOk hw).elim
    · exact (x_bad hOk hw).elim
    try dsimp only at hOk
    by_cases hba : 1000000 < a
    · rw [if_pos hba] at hOk
      rcases hf : oFl ot a (mO q) ix with _ | v
      · rw [hf] at hOk
        exact (x_bad hOk hw).elim
      rw [hf] at hOk
      try dsimp only at hOk
      obtain ⟨z1, C, n, dd, z2, z3⟩ := hZ.2.1 _ _ _ _ hf
      have g := ih dp k _ q _ _ h cn sn w post p e R s m args below meth c H locs ls hq hC hOk hw hI hl hS
      rw [List.map_cons, x_ov_spec hd.1 z1] at g
      rw [List.map_cons]
      simp only [x_rv]
      rw [x_amo (by omega)]
      exact vk_getf hx hb (z3 s s.heap hE.2.2) hS hown (hts _ z2) (fun _ z => z) hdg g
    rw [if_neg hba] at hOk
    rcases hf : tFld tb (mO q) ix with _ | ⟨ci, j⟩
    · rw [hf] at hOk
      exact (x_bad hOk hw).elim
    rw [hf] at hOk
    try dsimp only at hOk
    rcases ha : h[a]? with _ | z
    · rw [ha] at hOk
      exact (x_bad hOk hw).elim
    rw [ha] at hOk
    rcases z with ⟨c2, fs⟩ | ⟨z1, z2⟩
    rotate_left
    · exact (x_bad hOk hw).elim
    try dsimp only at hOk
    rcases hcc : decide (c2 = ci) with _ | _
    · rw [hcc] at hOk
      exact (x_bad hOk hw).elim
    rw [hcc] at hOk
    rcases hv : fs[j]? with _ | v
    · rw [hv] at hOk
      exact (x_bad hOk hw).elim
    rw [hv] at hOk
    try dsimp only at hOk
    have hcc2 := of_decide_eq_true hcc
    subst hcc2
    rw [List.map_cons]
    simp only [x_rv]
    rw [x_amh hI ha]
    exact x_getf hx hb hts hT hown hE.1 hI ha hf hv hdg (ih dp k _ q _ _ h cn sn w post p e R s m args below meth c H locs ls hq hC hOk hw hI hl hS)
  case getstatic ix =>
    obtain rfl := x_len1 hlen rfl
    try dsimp only at hOk
    rcases hf : oGs ot (mO q) ix with _ | v
    · rw [hf] at hOk
      exact (x_bad hOk hw).elim
    rw [hf] at hOk
    try dsimp only at hOk
    obtain ⟨z1, C, n, dd, z2, z3⟩ := hZ.2.2.1 _ _ _ hf
    have g := ih dp k _ q _ _ h cn sn w post p e R s m args below meth c H locs ls hq hC hOk hw hI hl hS
    rw [List.map_cons, x_ov_spec hd.1 z1] at g
    exact va_gets hx hb (z3 s s.heap hE.2.2) hS hown (hts _ z2) (fun _ z => z) hdg g
  case arraylength =>
    obtain rfl := x_len1 hlen rfl
    try dsimp only at hOk
    rcases S with _ | ⟨a0 | (_ | a), S⟩
    · exact (x_bad hOk hw).elim
    · exact (x_bad hOk hw).elim
    · exact (x_bad hOk hw).elim
    try dsimp only at hOk
    by_cases hba : a = 1000000
    · subst hba
      rw [if_pos rfl] at hOk
      obtain ⟨z1, z2⟩ := hZ.2.2.2.2.1 s s.heap hE.2.2
      have g := ih dp k _ q _ _ h cn sn w post p e R s m args below meth c H locs ls hq hC hOk hw hI hl hS
      rw [List.map_cons] at g
      simp only [x_rv] at g
      rw [hd.1] at g
      rw [List.map_cons]
      simp only [x_rv]
      rw [x_amo (by omega)]
      exact va_slen hx hb z1 (Nat.lt_of_lt_of_le z2 hbz) (Nat.not_le.mpr z2) hS hdg g
    rw [if_neg hba] at hOk
    rcases hf : oBy ot a with _ | bs
    · rw [hf] at hOk
      exact (x_bad hOk hw).elim
    rw [hf] at hOk
    try dsimp only at hOk
    obtain ⟨hb6, hO⟩ := x_if hOk hw
    have g := ih dp k _ q _ _ h cn sn w post p e R s m args below meth c H locs ls hq hC hO hw hI hl hS
    rw [List.map_cons] at g
    simp only [x_rv] at g
    rw [hd.1] at g
    rw [List.map_cons]
    simp only [x_rv]
    rw [x_amo (by omega)]
    exact va_tlen hx hb (hZ.2.2.2.1 _ _ hf s s.heap hE.2.2) hS rfl hdg g
  case i2c =>
    obtain rfl := x_len1 hlen rfl
    try dsimp only at hOk
    rcases S with _ | ⟨a | a0, S⟩
    · exact (x_bad hOk hw).elim
    rotate_left
    · exact (x_bad hOk hw).elim
    try dsimp only at hOk
    exact lv_i2c hx hb (v := dEv d (dUn d 2 a)) hdg (by rw [hd.2.2.1]; rfl) (ih dp k _ q _ _ h cn sn w post p e R s m args below meth c H locs ls hq hC hOk hw hI hl hS)
  case ineg =>
    obtain rfl := x_len1 hlen rfl
    try dsimp only at hOk
    rcases S with _ | ⟨a | a0, S⟩
    · exact (x_bad hOk hw).elim
    rotate_left
    · exact (x_bad hOk hw).elim
    try dsimp only at hOk
    have eb : dEv d (dUn d 3 a) = x_un 3 (dEv d a) := hd.2.2.1 3 a
    refine lv_ineg hx hb hdg (x := dEv d a) ?_
    have g := ih dp k _ q _ _ h cn sn w post p e R s m args below meth c H locs ls hq hC hOk hw hI hl hS
    rw [List.map_cons] at g
    simp only [x_rv] at g
    rw [eb] at g
    exact g
  case iushr =>
    obtain rfl := x_len1 hlen rfl
    try dsimp only at hOk
    rcases S with _ | ⟨b | a0, S⟩
    · exact (x_bad hOk hw).elim
    rotate_left
    · exact (x_bad hOk hw).elim
    try dsimp only at hOk
    rcases S with _ | ⟨a | a0, S⟩
    · exact (x_bad hOk hw).elim
    rotate_left
    · exact (x_bad hOk hw).elim
    try dsimp only at hOk
    exact lv_iushr hx hb (v := dEv d (dBin d 10 a b)) hdg (by rw [hd.2.1]; rfl) (ih dp k _ q _ _ h cn sn w post p e R s m args below meth c H locs ls hq hC hOk hw hI hl hS)
  case putfield ix =>
    obtain rfl := x_len1 hlen rfl
    try dsimp only at hOk
    rcases S with _ | ⟨v, S⟩
    · exact (x_bad hOk hw).elim
    try dsimp only at hOk
    rcases S with _ | ⟨a0 | (_ | a), S⟩
    · exact (x_bad hOk hw).elim
    · exact (x_bad hOk hw).elim
    · exact (x_bad hOk hw).elim
    try dsimp only at hOk
    rcases hf : tFld tb (mO q) ix with _ | ⟨ci, j⟩
    · rw [hf] at hOk
      exact (x_bad hOk hw).elim
    rw [hf] at hOk
    try dsimp only at hOk
    rcases ha : h[a]? with _ | z
    · rw [ha] at hOk
      exact (x_bad hOk hw).elim
    rw [ha] at hOk
    rcases z with ⟨c2, fs⟩ | ⟨z1, z2⟩
    rotate_left
    · exact (x_bad hOk hw).elim
    try dsimp only at hOk
    rcases hty : (tFt tb ci)[j]? with _ | ty
    · rw [hty] at hOk
      exact (x_bad hOk hw).elim
    rw [hty] at hOk
    try dsimp only at hOk
    obtain ⟨hcs, hO⟩ := x_if hOk hw
    simp only [Bool.and_eq_true, Bool.or_eq_true, decide_eq_true_eq, Bool.not_eq_true'] at hcs
    obtain ⟨⟨⟨e1, e2⟩, e3⟩, e4⟩ := hcs
    clear hOk
    subst e1
    obtain ⟨f1, f2⟩ := x_fit_spec hd (am := x_am base sa) e2
    rw [List.map_cons, List.map_cons]
    have ea : x_rv d (x_am base sa) (.inr (some a)) = .ref (base + a) := congrArg Value.ref (x_amh hI ha)
    rw [ea]
    have hqq := hT.1 k q hq
    refine x_putf hx hb hts hT hown hE.1 hI hS ha hf hty e3 f1 f2 (e4.imp id (fun z => ⟨by rw [hnm]; exact hqq.2.2.2.2.2.2.2.1 z.1, fun r' hr' => ?_⟩)) hdg (fun H1 locs1 hI1 hS1 => ih dp k _ q _ _ _ cn sn w post p e R s m args below meth c H1 locs1 ls hq hC hO hw hI1 hl hS1)
    rw [hqq.2.2.2.2.2.1]
    rw [← z.2] at hr'
    exact hqq.2.2.2.2.2.2.2.2.1 z.1 r' hr'
  case iaload =>
    obtain rfl := x_len1 hlen rfl
    try dsimp only at hOk
    rcases S with _ | ⟨b | a0, S⟩
    · exact (x_bad hOk hw).elim
    rotate_left
    · exact (x_bad hOk hw).elim
    try dsimp only at hOk
    rcases S with _ | ⟨a0 | (_ | a), S⟩
    · exact (x_bad hOk hw).elim
    · exact (x_bad hOk hw).elim
    · exact (x_bad hOk hw).elim
    try dsimp only at hOk
    by_cases hba : a = 1000000
    · subst hba
      rw [if_pos rfl] at hOk
      obtain ⟨w2, hw2, hi, h0, h3⟩ := x_ix_spec hd hOk hw
      obtain ⟨z1, z2⟩ := hZ.2.2.2.2.1 s s.heap hE.2.2
      have g := ih dp k _ q _ _ h cn sn w2 post p e R s m args below meth c H locs ls hq hC h3 hw2 hI hl hS
      rw [List.map_cons] at g
      simp only [x_rv] at g
      rw [List.map_cons, List.map_cons]
      simp only [x_rv]
      rw [x_amo (by omega)]
      exact va_sld hx hb z1 (Nat.lt_of_lt_of_le z2 hbz) (Nat.not_le.mpr z2) hS (fun z => z.elim h0 (fun z => by omega)) hdg g
    rw [if_neg hba] at hOk
    rcases ha : h[a]? with _ | z
    · rw [ha] at hOk
      exact (x_bad hOk hw).elim
    rw [ha] at hOk
    rcases z with ⟨z1, z2⟩ | ⟨t, vs⟩
    · exact (x_bad hOk hw).elim
    rcases t with _ | t
    rotate_left
    · exact (x_bad hOk hw).elim
    try dsimp only at hOk
    obtain ⟨w2, hw2, hi, h0, h3⟩ := x_ix_spec hd hOk hw
    rcases hv : vs[(dEv d b).toNatClampNeg]? with _ | v
    · rw [hv] at h3
      exact (x_bad h3 hw2).elim
    rw [hv] at h3
    try dsimp only at h3
    rw [List.map_cons, List.map_cons]
    have ea : x_rv d (x_am base sa) (.inr (some a)) = .ref (base + a) := congrArg Value.ref (x_amh hI ha)
    rw [ea]
    exact x_iald hx hb hE.1 hY hT.2.2.2.2.2.1.2.2.1 hI ha h0 hi hv hdg (ih dp k _ q _ _ h cn sn w2 post p e R s m args below meth c H locs ls hq hC h3 hw2 hI hl hS)
  case baload =>
    obtain rfl := x_len1 hlen rfl
    try dsimp only at hOk
    rcases S with _ | ⟨b | a0, S⟩
    · exact (x_bad hOk hw).elim
    rotate_left
    · exact (x_bad hOk hw).elim
    try dsimp only at hOk
    rcases S with _ | ⟨a0 | (_ | a), S⟩
    · exact (x_bad hOk hw).elim
    · exact (x_bad hOk hw).elim
    · exact (x_bad hOk hw).elim
    try dsimp only at hOk
    by_cases hba : 1000000 < a
    · rw [if_pos hba] at hOk
      rcases hf : oBy ot a with _ | bs
      · rw [hf] at hOk
        exact (x_bad hOk hw).elim
      rw [hf] at hOk
      try dsimp only at hOk
      obtain ⟨w2, hw2, hi, h0, h3⟩ := x_ix_spec hd hOk hw
      have g := ih dp k _ q _ _ h cn sn w2 post p e R s m args below meth c H locs ls hq hC h3 hw2 hI hl hS
      rw [List.map_cons] at g
      simp only [x_rv] at g
      rw [hd.1] at g
      rw [List.map_cons, List.map_cons]
      simp only [x_rv]
      rw [x_amo (by omega)]
      exact va_tb hx hb (hZ.2.2.2.1 _ _ hf s s.heap hE.2.2) hS (fun z => z.elim h0 (fun z => by omega)) rfl hdg g
    rw [if_neg hba] at hOk
    rcases ha : h[a]? with _ | z
    · rw [ha] at hOk
      exact (x_bad hOk hw).elim
    rw [ha] at hOk
    rcases z with ⟨z1, z2⟩ | ⟨t, vs⟩
    · exact (x_bad hOk hw).elim
    rcases t with _ | _ | t
    · exact (x_bad hOk hw).elim
    rotate_left
    · exact (x_bad hOk hw).elim
    try dsimp only at hOk
    obtain ⟨w2, hw2, hi, h0, h3⟩ := x_ix_spec hd hOk hw
    rcases hv : vs[(dEv d b).toNatClampNeg]? with _ | v
    · rw [hv] at h3
      exact (x_bad h3 hw2).elim
    rw [hv] at h3
    try dsimp only at h3
    rw [List.map_cons, List.map_cons]
    have ea : x_rv d (x_am base sa) (.inr (some a)) = .ref (base + a) := congrArg Value.ref (x_amh hI ha)
    rw [ea]
    exact x_zald hx hb hE.1 hY hT.2.2.2.2.2.1.2.2.2 hI ha h0 hi hv hdg (ih dp k _ q _ _ h cn sn w2 post p e R s m args below meth c H locs ls hq hC h3 hw2 hI hl hS)
  case aaload =>
    obtain rfl := x_len1 hlen rfl
    try dsimp only at hOk
    rcases S with _ | ⟨b | a0, S⟩
    · exact (x_bad hOk hw).elim
    rotate_left
    · exact (x_bad hOk hw).elim
    try dsimp only at hOk
    rcases S with _ | ⟨a0 | (_ | a), S⟩
    · exact (x_bad hOk hw).elim
    · exact (x_bad hOk hw).elim
    · exact (x_bad hOk hw).elim
    try dsimp only at hOk
    rcases ha : h[a]? with _ | z
    · rw [ha] at hOk
      exact (x_bad hOk hw).elim
    rw [ha] at hOk
    rcases z with ⟨z1, z2⟩ | ⟨t, vs⟩
    · exact (x_bad hOk hw).elim
    try dsimp only at hOk
    obtain ⟨hty, hO⟩ := x_if hOk hw
    obtain ⟨ty, ht, hr2⟩ := Option.map_eq_some_iff.mp hty
    obtain ⟨w2, hw2, hi, h0, h3⟩ := x_ix_spec hd hO hw
    rcases hv : vs[(dEv d b).toNatClampNeg]? with _ | v
    · rw [hv] at h3
      exact (x_bad h3 hw2).elim
    rw [hv] at h3
    try dsimp only at h3
    rw [List.map_cons, List.map_cons]
    have ea : x_rv d (x_am base sa) (.inr (some a)) = .ref (base + a) := congrArg Value.ref (x_amh hI ha)
    rw [ea]
    exact x_aald hx hb hE.1 hY ht hr2 hI ha h0 hi hv hdg (ih dp k _ q _ _ h cn sn w2 post p e R s m args below meth c H locs ls hq hC h3 hw2 hI hl hS)
  case iastore =>
    obtain rfl := x_len1 hlen rfl
    try dsimp only at hOk
    rcases S with _ | ⟨v | a0, S⟩
    · exact (x_bad hOk hw).elim
    rotate_left
    · exact (x_bad hOk hw).elim
    try dsimp only at hOk
    rcases S with _ | ⟨b | a0, S⟩
    · exact (x_bad hOk hw).elim
    rotate_left
    · exact (x_bad hOk hw).elim
    try dsimp only at hOk
    rcases S with _ | ⟨a0 | (_ | a), S⟩
    · exact (x_bad hOk hw).elim
    · exact (x_bad hOk hw).elim
    · exact (x_bad hOk hw).elim
    try dsimp only at hOk
    rcases ha : h[a]? with _ | z
    · rw [ha] at hOk
      exact (x_bad hOk hw).elim
    rw [ha] at hOk
    rcases z with ⟨z1, z2⟩ | ⟨t, vs⟩
    · exact (x_bad hOk hw).elim
    rcases t with _ | t
    rotate_left
    · exact (x_bad hOk hw).elim
    try dsimp only at hOk
    obtain ⟨w2, hw2, hi, h0, h3⟩ := x_ix_spec hd hOk hw
    rw [List.map_cons, List.map_cons, List.map_cons]
    have ea : x_rv d (x_am base sa) (.inr (some a)) = .ref (base + a) := congrArg Value.ref (x_amh hI ha)
    rw [ea]
    exact x_iast (v := .inl v) hx hb hE.1 hY hT.2.2.2.2.2.1.2.2.1 hI hS ha h0 hi rfl hdg (fun H1 locs1 hI1 hS1 => ih dp k _ q _ _ _ cn sn w2 post p e R s m args below meth c H1 locs1 ls hq hC h3 hw2 hI1 hl hS1)
  case bastore =>
    obtain rfl := x_len1 hlen rfl
    try dsimp only at hOk
    rcases S with _ | ⟨v | a0, S⟩
    · exact (x_bad hOk hw).elim
    rotate_left
    · exact (x_bad hOk hw).elim
    try dsimp only at hOk
    rcases S with _ | ⟨b | a0, S⟩
    · exact (x_bad hOk hw).elim
    rotate_left
    · exact (x_bad hOk hw).elim
    try dsimp only at hOk
    rcases S with _ | ⟨a0 | (_ | a), S⟩
    · exact (x_bad hOk hw).elim
    · exact (x_bad hOk hw).elim
    · exact (x_bad hOk hw).elim
    try dsimp only at hOk
    rcases ha : h[a]? with _ | z
    · rw [ha] at hOk
      exact (x_bad hOk hw).elim
    rw [ha] at hOk
    rcases z with ⟨z1, z2⟩ | ⟨t, vs⟩
    · exact (x_bad hOk hw).elim
    rcases t with _ | _ | t
    · exact (x_bad hOk hw).elim
    rotate_left
    · exact (x_bad hOk hw).elim
    try dsimp only at hOk
    obtain ⟨hfit, hO⟩ := x_if hOk hw
    have hx01 : dEv d v = 0 ∨ dEv d v = 1 := x_bool hd hfit
    obtain ⟨w2, hw2, hi, h0, h3⟩ := x_ix_spec hd hO hw
    rw [List.map_cons, List.map_cons, List.map_cons]
    have ea : x_rv d (x_am base sa) (.inr (some a)) = .ref (base + a) := congrArg Value.ref (x_amh hI ha)
    rw [ea]
    exact x_zast (v := .inl v) hx hb hE.1 hY hT.2.2.2.2.2.1.2.2.2 hI hS ha h0 hi rfl hx01 hdg (fun H1 locs1 hI1 hS1 => ih dp k _ q _ _ _ cn sn w2 post p e R s m args below meth c H1 locs1 ls hq hC h3 hw2 hI1 hl hS1)
  case aastore =>
    obtain rfl := x_len1 hlen rfl
    try dsimp only at hOk
    rcases S with _ | ⟨a0 | (_ | v), S⟩
    · exact (x_bad hOk hw).elim
    · exact (x_bad hOk hw).elim
    · exact (x_bad hOk hw).elim
    try dsimp only at hOk
    rcases S with _ | ⟨b | a0, S⟩
    · exact (x_bad hOk hw).elim
    rotate_left
    · exact (x_bad hOk hw).elim
    try dsimp only at hOk
    rcases S with _ | ⟨a0 | (_ | a), S⟩
    · exact (x_bad hOk hw).elim
    · exact (x_bad hOk hw).elim
    · exact (x_bad hOk hw).elim
    try dsimp only at hOk
    rcases ha : h[a]? with _ | z
    · rw [ha] at hOk
      exact (x_bad hOk hw).elim
    rw [ha] at hOk
    rcases z with ⟨z1, z2⟩ | ⟨t, vs⟩
    · exact (x_bad hOk hw).elim
    rcases hv : h[v]? with _ | z
    · rw [hv] at hOk
      exact (x_bad hOk hw).elim
    rw [hv] at hOk
    rcases z with ⟨ci, fs⟩ | ⟨z1, z2⟩
    rotate_left
    · exact (x_bad hOk hw).elim
    try dsimp only at hOk
    rcases ht : tyl[t]? with _ | ty
    · rw [ht] at hOk
      exact (x_bad hOk hw).elim
    rw [ht] at hOk
    cases ty
    case object C =>
      try dsimp only at hOk
      obtain ⟨hC2, hO⟩ := x_if hOk hw
      obtain ⟨w2, hw2, hi, h0, h3⟩ := x_ix_spec hd hO hw
      rw [List.map_cons, List.map_cons, List.map_cons]
      have ea : x_rv d (x_am base sa) (.inr (some a)) = .ref (base + a) := congrArg Value.ref (x_amh hI ha)
      rw [ea]
      have ev : x_rv d (x_am base sa) (.inr (some v)) = .ref (base + v) := congrArg Value.ref (x_amh hI hv)
      rw [ev]
      obtain ⟨r2, hr2, -⟩ := hI.2.2 v _ hv
      exact x_aast (v := .inr (some v)) hx hb hE.1 hY ht hI hS ha hv hr2 (by rw [of_decide_eq_true hC2]; exact (hT.2.2.1 ci r2 hr2).2.2.2.2.2.2.2.symm) h0 hi ev hdg (fun H1 locs1 hI1 hS1 => ih dp k _ q _ _ _ cn sn w2 post p e R s m args below meth c H1 locs1 ls hq hC h3 hw2 hI1 hl hS1)
    all_goals exact (x_bad hOk hw).elim
  case new ix =>
    obtain rfl := x_len1 hlen rfl
    try dsimp only at hOk
    rcases hf : tNw tb (mO q) ix with _ | ci
    · rw [hf] at hOk
      exact (x_bad hOk hw).elim
    rw [hf] at hOk
    try dsimp only at hOk
    obtain ⟨hcs, hO⟩ := x_if hOk hw
    simp only [Bool.and_eq_true, decide_eq_true_eq] at hcs
    obtain ⟨⟨e1, e2⟩, e3⟩ := hcs
    refine x_new (fs := (tFt tb ci).map (fun t => x_def d t.1)) hx hb hts hT hown hE.1 hI hS hf e3 (Nat.le_trans e1 hR3) (Nat.le_trans e2 hR4) ?_ hdg (fun H1 hI1 hS1 => ?_)
    · rw [List.map_map]
      refine List.map_congr_left fun t ht => ?_
      show x_rv d (x_am base sa) (x_def d t.1) = defaultValue t.1
      exact x_def_spec hd t.1 (x_ftok hT hf t ht)
    · have g := ih dp k _ q _ _ _ (cn + 1) (sn + (tFt tb ci).length) w post p e R s m args below meth c H1 locs ls hq hC hO hw hI1 hl hS1
      rw [List.map_cons] at g
      simp only [x_rv] at g
      rw [x_aml (by omega)] at g
      exact g
  case newarray ty =>
    obtain rfl := x_len1 hlen rfl
    try dsimp only at hOk
    rcases S with _ | ⟨b | a0, S⟩
    · exact (x_bad hOk hw).elim
    rotate_left
    · exact (x_bad hOk hw).elim
    try dsimp only at hOk
    cases ty
    case int =>
      try dsimp only at hOk
      rcases hv : dKst d b with _ | v
      · rw [hv] at hOk
        exact (x_bad hOk hw).elim
      rw [hv] at hOk
      try dsimp only at hOk
      obtain ⟨hcs, hO⟩ := x_if hOk hw
      simp only [Bool.and_eq_true, decide_eq_true_eq] at hcs
      obtain ⟨⟨⟨⟨e0, e1⟩, e2⟩, e3⟩, e4⟩ := hcs
      have eb := hd.2.2.2.1 b v hv
      have ez : x_rv d (x_am base sa) (.inl (dKc d 0)) = .int 0 := congrArg Value.int (hd.1 0)
      rw [List.map_cons]
      simp only [x_rv]
      rw [eb]
      refine x_newa (atype := .int) (t := 0) (v := .inl (dKc d 0)) hx hb hE.1 hY hT.2.2.2.2.2.1.2.2.1 (hts _ hT.2.2.2.2.2.1.1) (Or.inl rfl) hI hS e4 e0 rfl e1 (Nat.le_trans e2 hR3) (Nat.le_trans e3 hR4) ez hdg (fun H1 hI1 hS1 => ?_)
      have g := ih dp k _ q _ _ _ (cn + 1) (sn + v.toNatClampNeg) w post p e R s m args below meth c H1 locs ls hq hC hO hw hI1 hl hS1
      rw [List.map_cons] at g
      simp only [x_rv] at g
      rw [x_aml (by omega)] at g
      exact g
    case boolean =>
      try dsimp only at hOk
      rcases hv : dKst d b with _ | v
      · rw [hv] at hOk
        exact (x_bad hOk hw).elim
      rw [hv] at hOk
      try dsimp only at hOk
      obtain ⟨hcs, hO⟩ := x_if hOk hw
      simp only [Bool.and_eq_true, decide_eq_true_eq] at hcs
      obtain ⟨⟨⟨⟨e0, e1⟩, e2⟩, e3⟩, e4⟩ := hcs
      have eb := hd.2.2.2.1 b v hv
      have ez : x_rv d (x_am base sa) (.inl (dKc d 0)) = .int 0 := congrArg Value.int (hd.1 0)
      rw [List.map_cons]
      simp only [x_rv]
      rw [eb]
      refine x_newa (atype := .boolean) (t := 1) (v := .inl (dKc d 0)) hx hb hE.1 hY hT.2.2.2.2.2.1.2.2.2 (hts _ hT.2.2.2.2.2.1.2.1) (Or.inr rfl) hI hS e4 e0 rfl e1 (Nat.le_trans e2 hR3) (Nat.le_trans e3 hR4) ez hdg (fun H1 hI1 hS1 => ?_)
      have g := ih dp k _ q _ _ _ (cn + 1) (sn + v.toNatClampNeg) w post p e R s m args below meth c H1 locs ls hq hC hO hw hI1 hl hS1
      rw [List.map_cons] at g
      simp only [x_rv] at g
      rw [x_aml (by omega)] at g
      exact g
    all_goals exact (x_bad hOk hw).elim
  case anewarray ix =>
    obtain rfl := x_len1 hlen rfl
    try dsimp only at hOk
    rcases S with _ | ⟨b | a0, S⟩
    · exact (x_bad hOk hw).elim
    rotate_left
    · exact (x_bad hOk hw).elim
    try dsimp only at hOk
    rcases hty : tAn tb (mO q) ix with _ | t
    · rw [hty] at hOk
      exact (x_bad hOk hw).elim
    rw [hty] at hOk
    try dsimp only at hOk
    rcases hv : dKst d b with _ | v
    · rw [hv] at hOk
      exact (x_bad hOk hw).elim
    rw [hv] at hOk
    try dsimp only at hOk
    obtain ⟨hcs, hO⟩ := x_if hOk hw
    simp only [Bool.and_eq_true, decide_eq_true_eq] at hcs
    obtain ⟨⟨⟨⟨e0, e1⟩, e2⟩, e3⟩, e4⟩ := hcs
    have eb := hd.2.2.2.1 b v hv
    obtain ⟨C, k1, k2, k3⟩ := hT.2.2.2.2.2.2.1 _ _ _ hty
    rw [List.map_cons]
    simp only [x_rv]
    rw [eb]
    refine x_anew (v := .inr none) hx hb hE.1 hY k1 hown (hts _ k2) (x_tn hT hE k3) hI hS e4 e0 rfl e1 (Nat.le_trans e2 hR3) (Nat.le_trans e3 hR4) rfl hdg (fun H1 hI1 hS1 => ?_)
    have g := ih dp k _ q _ _ _ (cn + 1) (sn + v.toNatClampNeg) w post p e R s m args below meth c H1 locs ls hq hC hO hw hI1 hl hS1
    rw [List.map_cons] at g
    simp only [x_rv] at g
    rw [x_aml (by omega)] at g
    exact g
  case multianewarray ix dm =>
    obtain rfl := x_len1 hlen rfl
    try dsimp only at hOk
    rcases S with _ | ⟨b2 | a0, S⟩
    · exact (x_bad hOk hw).elim
    rotate_left
    · exact (x_bad hOk hw).elim
    try dsimp only at hOk
    rcases S with _ | ⟨b1 | a0, S⟩
    · exact (x_bad hOk hw).elim
    rotate_left
    · exact (x_bad hOk hw).elim
    try dsimp only at hOk
    rcases hty : tMn tb (mO q) ix with _ | ⟨t2, t1⟩
    · rw [hty] at hOk
      exact (x_bad hOk hw).elim
    rw [hty] at hOk
    try dsimp only at hOk
    rcases hv1 : dKst d b1 with _ | v1
    · rw [hv1] at hOk
      exact (x_bad hOk hw).elim
    rw [hv1] at hOk
    try dsimp only at hOk
    rcases hv2 : dKst d b2 with _ | v2
    · rw [hv2] at hOk
      exact (x_bad hOk hw).elim
    rw [hv2] at hOk
    try dsimp only at hOk
    obtain ⟨hcs, hO⟩ := x_if hOk hw
    simp only [Bool.and_eq_true, decide_eq_true_eq] at hcs
    obtain ⟨⟨⟨⟨⟨⟨⟨⟨e0, e1⟩, e2⟩, e3⟩, e4⟩, e5⟩, e6⟩, e7⟩, e8⟩ := hcs
    clear hOk
    subst e0
    have eb1 := hd.2.2.2.1 b1 v1 hv1
    have eb2 := hd.2.2.2.1 b2 v2 hv2
    obtain ⟨ty, k1, k2, k3, k4, k5, k6⟩ := hT.2.2.2.2.2.2.2.1 _ _ _ _ hty
    rw [List.map_cons, List.map_cons]
    simp only [x_rv]
    rw [eb1, eb2]
    refine x_multi (v := .inl (dKc d 0)) hx hb hE.1 hY k1 k3 k2 hown (hts _ k4) (x_tn hT hE k5) (hts _ k6) hI hS e8 e1 e2 rfl rfl e3 e4 (Nat.le_trans e6 hR3) (Nat.le_trans e7 hR4) (congrArg Value.int (hd.1 0)) (fun j hj => congrArg Value.ref (x_aml (by omega))) hdg (fun H1 hI1 hS1 => ?_)
    have g := ih dp k _ q _ _ _ (cn + 1 + v1.toNatClampNeg) (sn + v1.toNatClampNeg + v1.toNatClampNeg * v2.toNatClampNeg) w post p e R s m args below meth c H1 locs ls hq hC hO hw hI1 hl hS1
    rw [List.map_cons] at g
    simp only [x_rv] at g
    rw [x_aml (by omega)] at g
    exact g
  case ireturn =>
    obtain rfl := x_len1 hlen rfl
    try dsimp only at hOk
    rcases S with _ | ⟨b | a0, S⟩
    · exact (x_bad hOk hw).elim
    rotate_left
    · exact (x_bad hOk hw).elim
    try dsimp only at hOk
    rcases S with _ | ⟨b2, S⟩
    rotate_left
    · exact (x_bad hOk hw).elim
    try dsimp only at hOk
    obtain ⟨hcs, hO⟩ := x_if hOk hw
    simp only [Bool.and_eq_true, decide_eq_true_eq] at hcs
    obtain ⟨⟨e0, e1⟩, e2⟩ := hcs
    obtain ⟨ty, k1, k2⟩ := x_ret_spec hd e0
    exact W.widen e1 e2 (W.zret hx hb (hr.trans k1) k2 (fun t ht _ => ⟨⟨w, some (.inl b), h, hw, hO, rfl, by rw [ht]; exact hI⟩, hS.F ht⟩) hS.2.2 hdg hlk)
  case areturn =>
    obtain rfl := x_len1 hlen rfl
    try dsimp only at hOk
    rcases S with _ | ⟨a0 | b, S⟩
    · exact (x_bad hOk hw).elim
    · exact (x_bad hOk hw).elim
    try dsimp only at hOk
    rcases S with _ | ⟨b2, S⟩
    rotate_left
    · exact (x_bad hOk hw).elim
    try dsimp only at hOk
    obtain ⟨hcs, hO⟩ := x_if hOk hw
    simp only [Bool.and_eq_true, decide_eq_true_eq] at hcs
    obtain ⟨⟨e0, e1⟩, e2⟩ := hcs
    obtain ⟨ty, k1, k2⟩ := x_retr_spec e0
    have hvv : x_rv d (x_am base sa) (.inr b) = .null ∨ ∃ a, x_rv d (x_am base sa) (.inr b) = .ref a := by
      rcases b with _ | b
      · exact Or.inl rfl
      · exact Or.inr ⟨_, rfl⟩
    exact W.widen e1 e2 (W.aret hx hb (hr.trans k1) k2 hvv (fun t ht _ => ⟨⟨w, some (.inr b), h, hw, hO, rfl, by rw [ht]; exact hI⟩, hS.F ht⟩) hS.2.2 hdg hlk)
  case return_ =>
    obtain rfl := x_len1 hlen rfl
    try dsimp only at hOk
    rcases S with _ | ⟨b2, S⟩
    rotate_left
    · exact (x_bad hOk hw).elim
    try dsimp only at hOk
    obtain ⟨hcs, hO⟩ := x_if hOk hw
    simp only [Bool.and_eq_true, decide_eq_true_eq] at hcs
    obtain ⟨⟨e0, e1⟩, e2⟩ := hcs
    exact W.widen e1 e2 (W.vret hx hb (hr.trans e0) (fun t ht _ => ⟨⟨w, none, h, hw, hO, rfl, by rw [ht]; exact hI⟩, hS.F ht⟩) hS.2.2 hdg hlk)
  case invokespecial ix =>
    obtain rfl := x_len1 hlen rfl
    try dsimp only at hOk
    have htn := hT.1 k q hq
    rcases hz : tBi tb (mO q) ix with _ | _ | z
    rotate_left
    · rw [hz] at hOk
      rcases S with _ | ⟨a0 | (_ | a), S⟩
      · exact (x_bad hOk hw).elim
      · exact (x_bad hOk hw).elim
      · exact (x_bad hOk hw).elim
      try dsimp only at hOk
      obtain ⟨hS8, hO⟩ := x_if hOk hw
      have hS8 := of_decide_eq_true hS8
      have hbi := hT.2.2.2.2.2.2.2.2.1
      exact W.objInit hx hb hown (hts _ (hbi.1 _ _ hz)) (hts _ hbi.2.2.1) (hts _ hbi.2.2.2.1) rfl (hl.1.trans hml.symm) rfl hdg (by omega) (by rw [x_cats]; show 2 * 0 + _ + _ ≤ R.locals; omega) (ih dp k _ q _ _ h cn sn w post p e R s m args below meth c H locs ls hq hC hO hw hI hl hS)
    all_goals (
      rw [hz] at hOk
      try dsimp only at hOk
      rcases dp with _ | dp2
      · exact (x_bad hOk hw).elim
      rcases hcal : tCal tb (mO q) ix with _ | ⟨j, so⟩
      · rw [hcal] at hOk
        exact (x_bad hOk hw).elim
      rw [hcal] at hOk
      try dsimp only at hOk
      rcases hq2 : tMth tb j with _ | q2
      · rw [hq2] at hOk
        exact (x_bad hOk hw).elim
      rw [hq2] at hOk
      try dsimp only at hOk
      rcases hdr : S.drop (mNp q2) with _ | ⟨a0 | (_ | a), r⟩
      · rw [hdr] at hOk
        exact (x_bad hOk hw).elim
      · rw [hdr] at hOk
        exact (x_bad hOk hw).elim
      · rw [hdr] at hOk
        exact (x_bad hOk hw).elim
      rw [hdr] at hOk
      try dsimp only at hOk
      obtain ⟨hcs, hO⟩ := x_if hOk hw
      simp only [Bool.and_eq_true, decide_eq_true_eq] at hcs
      obtain ⟨⟨⟨⟨⟨e0, e1⟩, e2⟩, e3⟩, e4⟩, e5⟩ := hcs
      obtain ⟨k1, k2, k3, k4⟩ := (hT.2.2.2.2.1 _ _ _ _ _ hcal hq2).2.2.1 e1
      have hj0 := (hT.2.2.2.2.1 _ _ _ _ _ hcal hq2).1
      obtain ⟨g1, g2, g3, g4, g5, g6, g7, g8, g9, g10⟩ := hT.1 j q2 hq2
      have g2 := g2 hj0
      have g3 := g3 hj0
      have hlen2 : ((S.take (mNp q2)).reverse).length = mNp q2 := by rw [List.length_reverse, List.length_take]; omega
      have hM := x_met (As := .inr (some a) :: (S.take (mNp q2)).reverse) hT ih hq2 (by rw [List.length_cons, hlen2]; exact e3) hO hw
      have hgood := hT.2.2.2.2.2.2.2.2.2.2.1
      have hwds : ∀ z ∈ Jvm.Cond.code (mY q2) (mB q2) (mL q2) (mR q2) :: TS, ∀ (a' : Array Value) (U : State), s.WarmedH U.vm → z.before a' U = true := fun z hz => x_words hts hgood z (by rcases List.mem_cons.mp hz with rfl | hz; exact g2; exact hz)
      have hmS : S.map (x_rv d (x_am base sa)) = (((S.take (mNp q2)).reverse).map (x_rv d (x_am base sa))).reverse ++ Value.ref (x_am base sa a) :: r.map (x_rv d (x_am base sa)) := by
        have h1 : S = S.take (mNp q2) ++ (.inr (some a) :: r) := by rw [← hdr, List.take_append_drop]
        have h2 := congrArg (List.map (x_rv d (x_am base sa))) h1
        rw [List.map_append, List.map_cons] at h2
        rw [h2, List.map_reverse, List.reverse_reverse]
        rfl
      rw [k4] at hM hwds
      refine x_callk (va_runI (nL := mL q) (own := tNm tb (mO q)) (Ts := TS) (As := ((S.take (mNp q2)).reverse).map (x_rv d (x_am base sa))) (rest := r.map (x_rv d (x_am base sa))) (n := mNp q2) (ws := Jvm.Cond.code (mY q2) (mB q2) (mL q2) none :: TS) (bytes := mB q2) (maxL := mL q2) ⟨hx, hb, hml, hown, hts⟩ hM ⟨⟨rfl, rfl, hR1, by show 8 + (mL q2 + 11) + 64 * (dp2 + 1) ≤ R.locals; omega, hwds, List.mem_cons_self, hts _ (by rw [← k4]; exact g2), hts _ g3, g4, fun sig hs => by rw [hs] at g7; exact (Option.some.inj g7).symm, hts _ k1⟩, k3, hts _ k2⟩
        ⟨x_blind hT hX _ _ h, fun U hU hW => ⟨rfl, by rw [hU]; exact hI, by rw [hU]; exact x_env_moved hT hX hW (fun q0 hq0 => hS.2.1 q0 (Nat.lt_of_lt_of_le hq0 hbz) (Nat.not_le.mpr hq0)) hbz hE0⟩⟩ rfl (by rw [List.length_map]; exact hlen2) hl.1 hmS (lv_room (by rw [x_cats]; exact e2)) hdg ⟨Nat.le_trans e4 hR3, Nat.le_trans e5 hR4⟩) hS (fun w2 v h2 H1 locs1 hw2 hO2 hI2 hS2 => ?_)
      rw [x_push_map]
      exact ih (dp2 + 1) k _ q _ _ h2 _ _ w2 post p e R s m args below meth c H1 locs1 ls hq hC hO2 hw2 hI2 hl hS2)
  case invokevirtual ix =>
    obtain rfl := x_len1 hlen rfl
    try dsimp only at hOk
    rcases dp with _ | dp2
    · exact (x_bad hOk hw).elim
    rcases hcal : tCal tb (mO q) ix with _ | ⟨j, so⟩
    · rw [hcal] at hOk
      exact (x_bad hOk hw).elim
    rw [hcal] at hOk
    try dsimp only at hOk
    rcases hq2 : tMth tb j with _ | q2
    · rw [hq2] at hOk
      exact (x_bad hOk hw).elim
    rw [hq2] at hOk
    try dsimp only at hOk
    rcases hdr : S.drop (mNp q2) with _ | ⟨a0 | (_ | a), r⟩
    · rw [hdr] at hOk
      exact (x_bad hOk hw).elim
    · rw [hdr] at hOk
      exact (x_bad hOk hw).elim
    · rw [hdr] at hOk
      exact (x_bad hOk hw).elim
    rw [hdr] at hOk
    try dsimp only at hOk
    obtain ⟨hcs, hO⟩ := x_if hOk hw
    simp only [Bool.and_eq_true, decide_eq_true_eq] at hcs
    obtain ⟨⟨⟨⟨⟨⟨e0, e1⟩, e6⟩, e2⟩, e3⟩, e4⟩, e5⟩ := hcs
    obtain ⟨k1, k2, k3, k4⟩ := (hT.2.2.2.2.1 _ _ _ _ _ hcal hq2).2.1 e1
    have hj0 := (hT.2.2.2.2.1 _ _ _ _ _ hcal hq2).1
    obtain ⟨g1, g2, g3, g4, g5, g6, g7, g8, g9, g10⟩ := hT.1 j q2 hq2
    have g2 := g2 hj0
    have g3 := g3 hj0
    have hlen2 : ((S.take (mNp q2)).reverse).length = mNp q2 := by rw [List.length_reverse, List.length_take]; omega
    have hM := x_met (As := .inr (some a) :: (S.take (mNp q2)).reverse) hT ih hq2 (by rw [List.length_cons, hlen2]; exact e3) hO hw
    have hgood := hT.2.2.2.2.2.2.2.2.2.2.1
    have hwds : ∀ z ∈ Jvm.Cond.code (mY q2) (mB q2) (mL q2) (mR q2) :: TS, ∀ (a' : Array Value) (U : State), s.WarmedH U.vm → z.before a' U = true := fun z hz => x_words hts hgood z (by rcases List.mem_cons.mp hz with rfl | hz; exact g2; exact hz)
    have hmS : S.map (x_rv d (x_am base sa)) = (((S.take (mNp q2)).reverse).map (x_rv d (x_am base sa))).reverse ++ Value.ref (x_am base sa a) :: r.map (x_rv d (x_am base sa)) := by
      have h1 : S = S.take (mNp q2) ++ (.inr (some a) :: r) := by rw [← hdr, List.take_append_drop]
      have h2 := congrArg (List.map (x_rv d (x_am base sa))) h1
      rw [List.map_append, List.map_cons] at h2
      rw [h2, List.map_reverse, List.reverse_reverse]
      rfl
    have hrecv : ∃ cellB : Cell, H[x_am base sa a]? = some cellB ∧ cellB.vm.isStatics = false ∧ s.vm.findClass (mY q2).cls = some cellB.cls := by
      unfold x_rc at e6
      by_cases hba : 1000000 < a
      · rw [if_pos hba] at e6
        obtain ⟨cell, f1, f2, f3, -⟩ := (hZ.2.2.2.2.2 a _ q2 j e6 hq2 rfl s s.heap hE0.2.2).kept hS.2.1
        rw [x_amo (by omega)]
        exact ⟨cell, f1, f2, f3⟩
      · rw [if_neg hba] at e6
        rcases ha : h[a]? with _ | (⟨ci, fs⟩ | z)
        · rw [ha] at e6
          cases e6
        rotate_left
        · rw [ha] at e6
          cases e6
        rw [ha] at e6
        have e7 : ci = mRc q2 := Option.some.inj e6
        obtain ⟨r2, f1, f2, cell, f3, f4, f5, -⟩ := hI.2.2 a _ ha
        rw [x_amh hI ha]
        exact ⟨cell, f3, by rw [f5]; rfl, by rw [f4, ← k4 r2 (by rw [← e7]; exact f1)]; exact (hE.1.1 ci r2 f1).2.1⟩
    refine x_callk (va_runV (nL := mL q) (own := tNm tb (mO q)) (C := (mY q2).cls) (Ts := TS) (As := ((S.take (mNp q2)).reverse).map (x_rv d (x_am base sa))) (rest := r.map (x_rv d (x_am base sa))) (n := mNp q2) (ws := Jvm.Cond.code (mY q2) (mB q2) (mL q2) (mR q2) :: TS) (bytes := mB q2) (maxL := mL q2) (ret := mR q2) ⟨hx, hb, hml, hown, hts⟩ hM ⟨⟨rfl, rfl, hR1, by show 8 + (mL q2 + 11) + 64 * (dp2 + 1) ≤ R.locals; omega, hwds, List.mem_cons_self, hts _ g2, hts _ g3, g4, fun sig hs => by rw [hs] at g7; exact (Option.some.inj g7).symm, hts _ k1⟩, hts _ k2, hts _ k3⟩
      ⟨x_blind hT hX _ _ h, hrecv, fun U hU hW => ⟨rfl, by rw [hU]; exact hI, by rw [hU]; exact x_env_moved hT hX hW (fun q0 hq0 => hS.2.1 q0 (Nat.lt_of_lt_of_le hq0 hbz) (Nat.not_le.mpr hq0)) hbz hE0⟩⟩ rfl (by rw [List.length_map]; exact hlen2) hl.1 hmS (lv_room (by rw [x_cats]; exact e2)) hdg ⟨Nat.le_trans e4 hR3, Nat.le_trans e5 hR4⟩) hS (fun w2 v h2 H1 locs1 hw2 hO2 hI2 hS2 => ?_)
    rw [x_push_map]
    exact ih (dp2 + 1) k _ q _ _ h2 _ _ w2 post p e R s m args below meth c H1 locs1 ls hq hC hO2 hw2 hI2 hl hS2
  case invokestatic ix =>
    obtain rfl := x_len1 hlen rfl
    try dsimp only at hOk
    rcases hcal : tCal tb (mO q) ix with _ | ⟨j, so⟩
    · rw [hcal] at hOk
      try dsimp only at hOk
      have hOk1 := x_if hOk hw
      clear hOk
      obtain ⟨hz, hOk⟩ := hOk1
      rcases S with _ | ⟨n0 | a0, S⟩
      · exact (x_bad hOk hw).elim
      rotate_left
      · exact (x_bad hOk hw).elim
      rcases S with _ | ⟨pd | a0, S⟩
      · exact (x_bad hOk hw).elim
      rotate_left
      · exact (x_bad hOk hw).elim
      rcases S with _ | ⟨a0 | (_ | bd), S⟩
      · exact (x_bad hOk hw).elim
      · exact (x_bad hOk hw).elim
      · exact (x_bad hOk hw).elim
      rcases S with _ | ⟨ps | a0, S⟩
      · exact (x_bad hOk hw).elim
      rotate_left
      · exact (x_bad hOk hw).elim
      rcases S with _ | ⟨a0 | (_ | bs), S⟩
      · exact (x_bad hOk hw).elim
      · exact (x_bad hOk hw).elim
      · exact (x_bad hOk hw).elim
      try dsimp only at hOk
      rcases ha0 : h[bs]? with _ | (z | ⟨t0, us⟩)
      · rw [ha0] at hOk
        exact (x_bad hOk hw).elim
      · rw [ha0] at hOk
        exact (x_bad hOk hw).elim
      rw [ha0] at hOk
      rcases ha1 : h[bd]? with _ | (z | ⟨t1, vs⟩)
      · rw [ha1] at hOk
        rcases t0 with _ | t0 <;> exact (x_bad hOk hw).elim
      · rw [ha1] at hOk
        rcases t0 with _ | t0 <;> exact (x_bad hOk hw).elim
      rw [ha1] at hOk
      rcases hv1 : dKst d n0 with _ | n1
      · rw [hv1] at hOk
        rcases t0 with _ | t0 <;> rcases t1 with _ | t1 <;> exact (x_bad hOk hw).elim
      rw [hv1] at hOk
      rcases hv2 : dKst d pd with _ | d1
      · rw [hv2] at hOk
        rcases t0 with _ | t0 <;> rcases t1 with _ | t1 <;> exact (x_bad hOk hw).elim
      rw [hv2] at hOk
      rcases hv3 : dKst d ps with _ | s1
      · rw [hv3] at hOk
        rcases t0 with _ | t0 <;> rcases t1 with _ | t1 <;> exact (x_bad hOk hw).elim
      rw [hv3] at hOk
      rcases t0 with _ | t0
      rotate_left
      · exact (x_bad hOk hw).elim
      rcases t1 with _ | t1
      rotate_left
      · exact (x_bad hOk hw).elim
      try dsimp only at hOk
      obtain ⟨hcs, hO⟩ := x_if hOk hw
      simp only [Bool.and_eq_true, decide_eq_true_eq] at hcs
      obtain ⟨⟨⟨⟨⟨⟨e0, e1⟩, e2⟩, e3⟩, e4⟩, e5⟩, e6⟩ := hcs
      have en := hd.2.2.2.1 n0 n1 hv1
      have ed := hd.2.2.2.1 pd d1 hv2
      have es := hd.2.2.2.1 ps s1 hv3
      have hbi := hT.2.2.2.2.2.2.2.2.1
      have hmS : (Sum.inl n0 :: Sum.inl pd :: Sum.inr (some bd) :: Sum.inl ps :: Sum.inr (some bs) :: S : List (XV E)).map (x_rv d (x_am base sa)) = .int n1 :: .int d1 :: .ref (base + bd) :: .int s1 :: .ref (base + bs) :: S.map (x_rv d (x_am base sa)) := by
        simp only [List.map_cons, x_rv]
        rw [en, ed, es, x_amh hI ha0, x_amh hI ha1]
      rw [hmS]
      exact x_copy hx hb (hml.trans hl.1.symm) hown (hts _ (hbi.2.1 _ _ hz)) (hts _ hbi.2.2.2.2.1) (hts _ hbi.2.2.2.2.2.1) (hts _ hbi.2.2.2.2.2.2) hE.1 hY hT.2.2.2.2.2.1.2.2.1 hI hS ha0 ha1 (fun u hu => by
          have h1 := List.all_eq_true.mp e6 u hu
          rcases u with u | u
          · exact ⟨_, rfl⟩
          · cases h1) e2 e1 e0 e3 e4 (by omega) (by rw [x_cats]; show _ + (7 + 11) ≤ R.locals; omega) hdg (fun H1 locs1 hI1 hS1 => ih dp k _ q _ _ _ cn sn w post p e R s m args below meth c H1 locs1 ls hq hC hO hw hI1 hl hS1)
    rw [hcal] at hOk
    try dsimp only at hOk
    rcases dp with _ | dp2
    · exact (x_bad hOk hw).elim
    try dsimp only at hOk
    rcases hq2 : tMth tb j with _ | q2
    · rw [hq2] at hOk
      exact (x_bad hOk hw).elim
    rw [hq2] at hOk
    try dsimp only at hOk
    obtain ⟨hcs, hO⟩ := x_if hOk hw
    simp only [Bool.and_eq_true, decide_eq_true_eq] at hcs
    obtain ⟨⟨⟨⟨⟨e0, e1⟩, e2⟩, e3⟩, e4⟩, e5⟩ := hcs
    obtain ⟨hj0, -, -, kS2, kS3, kS4⟩ := hT.2.2.2.2.1 _ _ _ _ _ hcal hq2
    obtain ⟨g1, g2, g3, g4, g5, g6, g7, g8, g9, g10⟩ := hT.1 j q2 hq2
    have g2 := g2 hj0
    have g3 := g3 hj0
    have hlen2 : ((S.take (mNp q2)).reverse).length = mNp q2 := by rw [List.length_reverse, List.length_take]; omega
    have hM := x_met (As := (S.take (mNp q2)).reverse) hT ih hq2 (by rw [hlen2]; exact e3) hO hw
    have hgood := hT.2.2.2.2.2.2.2.2.2.2.1
    have hwds : ∀ z ∈ Jvm.Cond.code (mY q2) (mB q2) (mL q2) (mR q2) :: TS, ∀ (a' : Array Value) (U : State), s.WarmedH U.vm → z.before a' U = true := fun z hz => x_words hts hgood z (by rcases List.mem_cons.mp hz with rfl | hz; exact g2; exact hz)
    have hmS : S.map (x_rv d (x_am base sa)) = (((S.take (mNp q2)).reverse).map (x_rv d (x_am base sa))).reverse ++ (S.drop (mNp q2)).map (x_rv d (x_am base sa)) := by
      have h2 := congrArg (List.map (x_rv d (x_am base sa))) (List.take_append_drop (mNp q2) S)
      rw [List.map_append] at h2
      rw [← h2, List.map_reverse, List.reverse_reverse]
    have hpre : PreS s H (va_Pc (((S.take (mNp q2)).reverse).map (x_rv d (x_am base sa))) (fun U => x_Inv D tc cl (x_rv d (x_am base sa)) base h U.heap ∧ x_Env TN D cl tys XE U U.heap)) (((S.take (mNp q2)).reverse).map (x_rv d (x_am base sa))) :=
      ⟨x_blind hT hX _ _ h, fun U hU hW => ⟨rfl, by rw [hU]; exact hI, by rw [hU]; exact x_env_moved hT hX hW (fun q0 hq0 => hS.2.1 q0 (Nat.lt_of_lt_of_le hq0 hbz) (Nat.not_le.mpr hq0)) hbz hE0⟩⟩
    have fin : ∀ (w2 : List K) (v : Option (XV E)) (h2 : List (XC E)) (H1 : Heap) (locs1 : List Loc), XPa (dHd d) w2 → XOk (dHd d) (x_run d tb tyl ot f (dp2 + 1) k (pc + 3) L (x_push v (S.drop (mNp q2))) h2 (cn + mMc q2) (sn + mMs q2) w2 post) → x_Inv D tc cl (x_rv d (x_am base sa)) base h2 H1 → va_S (fun q => base ≤ q) s.heap H1 locs1 → W p l e R s m args below meth c H1 locs1 (cn + mMc q2) (sn + mMs q2) (MQ below (x_Q d D tc cl (x_am base sa) base post) args s (mMc q) (mMs q) (fun q => base ≤ q)) (F0 m (pc + 3) ls ((v.map (x_rv d (x_am base sa))).toList ++ (S.drop (mNp q2)).map (x_rv d (x_am base sa)))) := fun w2 v h2 H1 locs1 hw2 hO2 hI2 hS2 => by
      rw [x_push_map]
      exact ih (dp2 + 1) k _ q _ _ h2 _ _ w2 post p e R s m args below meth c H1 locs1 ls hq hC hO2 hw2 hI2 hl hS2
    rcases (show so = 2 ∨ so = 3 by omega) with hso | hso
    · obtain ⟨k1, k2⟩ := kS2 hso
      exact x_callk (va_runS (nL := mL q) (own := tNm tb (mO q)) (Ts := TS) (As := ((S.take (mNp q2)).reverse).map (x_rv d (x_am base sa))) (rest := (S.drop (mNp q2)).map (x_rv d (x_am base sa))) (n := mNp q2) (ws := Jvm.Cond.code (mY q2) (mB q2) (mL q2) (mR q2) :: TS) (bytes := mB q2) (maxL := mL q2) (ret := mR q2) ⟨hx, hb, hml, hown, hts⟩ hM ⟨⟨rfl, rfl, hR1, by show 8 + (mL q2 + 11) + 64 * (dp2 + 1) ≤ R.locals; omega, hwds, List.mem_cons_self, hts _ g2, hts _ g3, g4, fun sig hs => by rw [hs] at g7; exact (Option.some.inj g7).symm, hts _ k1⟩, hts _ k2⟩
        hpre rfl (by rw [List.length_map]; exact hlen2) hl.1 hmS (lv_room (by rw [x_cats]; exact e2)) hdg ⟨Nat.le_trans e4 hR3, Nat.le_trans e5 hR4⟩) hS fin
    · obtain ⟨⟨host, k1⟩, k2⟩ := kS3 hso
      exact x_callk (va_runSN (nL := mL q) (own := tNm tb (mO q)) (host := host) (Ts := TS) (As := ((S.take (mNp q2)).reverse).map (x_rv d (x_am base sa))) (rest := (S.drop (mNp q2)).map (x_rv d (x_am base sa))) (n := mNp q2) (ws := Jvm.Cond.code (mY q2) (mB q2) (mL q2) (mR q2) :: TS) (bytes := mB q2) (maxL := mL q2) (ret := mR q2) ⟨hx, hb, hml, hown, hts⟩ hM ⟨⟨⟨rfl, rfl, hR1, by show 8 + (mL q2 + 11) + 64 * (dp2 + 1) ≤ R.locals; omega, hwds, List.mem_cons_self⟩, hts _ g2, hts _ g3, g4, fun sig hs => by rw [hs] at g7; exact (Option.some.inj g7).symm, x_tn hT hE0 k1⟩, hts _ k2, trivial⟩
        hpre rfl (by rw [List.length_map]; exact hlen2) hl.1 hmS (lv_room (by rw [x_cats]; exact e2)) hdg ⟨Nat.le_trans e4 hR3, Nat.le_trans e5 hR4⟩) hS fin

  all_goals exact (x_bad hOk hw).elim
end XSound
end
section
/-! Ints as terms over unknowns: known where they can be known; a question whose answer isn't known goes both ways. -/
section XSym
/-- .arg i: an unknown; .elem (.add (.index o) a) b: operation o of a and b; .length (.add (.index o) a): of a -/
def tEv (ρ : Nat → Int32) : Jvm.Term → Int32
  | .int v => v
  | .arg i => ρ i
  | .elem (.add (.index o) a) b => x_bin o (tEv ρ a) (tEv ρ b)
  | .length (.add (.index o) a) => x_un o (tEv ρ a)
  | _ => 0
def tBin (o : Nat) (a b : Jvm.Term) : Jvm.Term := match a, b with
  | .int x, .int y => .int (x_bin o x y)
  | a, b => if o = 3 ∧ b = .int (-1) then a else .elem (.add (.index o) a) b
def tUn (o : Nat) (a : Jvm.Term) : Jvm.Term := match a with
  | .int x => .int (x_un o x)
  | a => .length (.add (.index o) a)
def tKst : Jvm.Term → Option Int32
  | .int v => some v
  | _ => none
/-- what holds on a way: (less, not equal), a, b, whether it is so -/
abbrev TK : Type := Bool × Jvm.Term × Jvm.Term × Bool
def tRel (ρ : Nat → Int32) (k : TK) : Bool := if k.1 then decide (tEv ρ k.2.1 < tEv ρ k.2.2.1) else decide (tEv ρ k.2.1 = tEv ρ k.2.2.1)
def tHd (ρ : Nat → Int32) (k : TK) : Prop := tRel ρ k = k.2.2.2
/-- what one entry says of e from below, from above -/
def tLo (e : Jvm.Term) (k : TK) : Int := match k with
  | (true, a, .int v, false) => if a = e then v.toInt else -2147483648
  | (true, .int v, b, true) => if b = e then v.toInt + 1 else -2147483648
  | (false, a, .int v, true) => if a = e then v.toInt else -2147483648
  | _ => -2147483648
def tHi (e : Jvm.Term) (k : TK) : Int := match k with
  | (true, a, .int v, true) => if a = e then v.toInt - 1 else 2147483647
  | (true, .int v, b, false) => if b = e then v.toInt else 2147483647
  | (false, a, .int v, true) => if a = e then v.toInt else 2147483647
  | _ => 2147483647
def tLb (e : Jvm.Term) : List TK → Int
  | [] => -2147483648
  | k :: w => let m := tLb e w; let x := tLo e k; if m ≤ x then x else m
def tUb (e : Jvm.Term) : List TK → Int
  | [] => 2147483647
  | k :: w => let m := tUb e w; let x := tHi e k; if x ≤ m then x else m
def tL (e : Jvm.Term) (w : List TK) : Int := match e with
  | .int v => v.toInt
  | e => tLb e w
def tU (e : Jvm.Term) (w : List TK) : Int := match e with
  | .int v => v.toInt
  | e => tUb e w
theorem tRng (x : Int32) : -2147483648 ≤ x.toInt ∧ x.toInt ≤ 2147483647 := by
  have h1 := Int32.le_toInt x
  have h2 := Int32.toInt_lt x
  constructor <;> omega
theorem tLo_spec {ρ : Nat → Int32} {e : Jvm.Term} {k : TK} (h : tHd ρ k) : tLo e k ≤ (tEv ρ e).toInt := by
  have hr := (tRng (tEv ρ e)).1
  unfold tLo
  split
  · split
    · rename_i a v he
      subst he
      have h1 : decide (tEv ρ a < v) = false := h
      have h2 := of_decide_eq_false h1
      have h3 := Int32.not_lt.mp h2
      exact Int32.le_iff_toInt_le.mp h3
    · exact hr
  · split
    · rename_i v b he
      subst he
      have h1 : decide (v < tEv ρ b) = true := h
      have h2 := Int32.lt_iff_toInt_lt.mp (of_decide_eq_true h1)
      omega
    · exact hr
  · split
    · rename_i a v he
      subst he
      have h1 : decide (tEv ρ a = v) = true := h
      have h2 := of_decide_eq_true h1
      rw [h2]
      exact Int.le_refl _
    · exact hr
  · exact hr
theorem tHi_spec {ρ : Nat → Int32} {e : Jvm.Term} {k : TK} (h : tHd ρ k) : (tEv ρ e).toInt ≤ tHi e k := by
  have hr := (tRng (tEv ρ e)).2
  unfold tHi
  split
  · split
    · rename_i a v he
      subst he
      have h1 : decide (tEv ρ a < v) = true := h
      have h2 := Int32.lt_iff_toInt_lt.mp (of_decide_eq_true h1)
      omega
    · exact hr
  · split
    · rename_i v b he
      subst he
      have h1 : decide (v < tEv ρ b) = false := h
      have h2 := Int32.not_lt.mp (of_decide_eq_false h1)
      exact Int32.le_iff_toInt_le.mp h2
    · exact hr
  · split
    · rename_i a v he
      subst he
      have h1 : decide (tEv ρ a = v) = true := h
      have h2 := of_decide_eq_true h1
      rw [h2]
      exact Int.le_refl _
    · exact hr
  · exact hr
theorem tLb_spec {ρ : Nat → Int32} {e : Jvm.Term} : ∀ {w : List TK}, XPa (tHd ρ) w → tLb e w ≤ (tEv ρ e).toInt
  | [], _ => (tRng _).1
  | k :: w, h => by
    have h1 := tLb_spec (e := e) (w := w) (fun z hz => h z (List.mem_cons_of_mem _ hz))
    have h2 := tLo_spec (e := e) (h k List.mem_cons_self)
    show (if tLb e w ≤ tLo e k then tLo e k else tLb e w) ≤ _
    split <;> assumption
theorem tUb_spec {ρ : Nat → Int32} {e : Jvm.Term} : ∀ {w : List TK}, XPa (tHd ρ) w → (tEv ρ e).toInt ≤ tUb e w
  | [], _ => (tRng _).2
  | k :: w, h => by
    have h1 := tUb_spec (e := e) (w := w) (fun z hz => h z (List.mem_cons_of_mem _ hz))
    have h2 := tHi_spec (e := e) (h k List.mem_cons_self)
    show _ ≤ (if tHi e k ≤ tUb e w then tHi e k else tUb e w)
    split <;> assumption
theorem tL_spec {ρ : Nat → Int32} {e : Jvm.Term} {w : List TK} (h : XPa (tHd ρ) w) : tL e w ≤ (tEv ρ e).toInt := by
  unfold tL
  split
  · exact Int.le_refl _
  · exact tLb_spec h
theorem tU_spec {ρ : Nat → Int32} {e : Jvm.Term} {w : List TK} (h : XPa (tHd ρ) w) : (tEv ρ e).toInt ≤ tU e w := by
  unfold tU
  split
  · exact Int.le_refl _
  · exact tUb_spec h
/-- the value where what holds tells it -/
def tKv (w : List TK) : Jvm.Term → Option Int32
  | .int v => some v
  | .arg i => if tLb (.arg i) w = tUb (.arg i) w then some (Int32.ofInt (tLb (.arg i) w)) else none
  | .elem (.add (.index o) a) b => match tKv w a, tKv w b with
    | some x, some y => some (x_bin o x y)
    | _, _ => none
  | .length (.add (.index o) a) => match tKv w a with
    | some x => some (x_un o x)
    | none => none
  | _ => none
theorem tKv_spec {ρ : Nat → Int32} {w : List TK} (h : XPa (tHd ρ) w) : ∀ (e : Jvm.Term) (v : Int32), tKv w e = some v → tEv ρ e = v
  | .int v, u, hv => by
    simp only [tKv, Option.some.injEq] at hv
    exact hv
  | .arg i, u, hv => by
    simp only [tKv] at hv
    split at hv
    · rename_i he
      have h1 := tLb_spec (e := .arg i) h
      have h2 := tUb_spec (e := .arg i) h
      have h3 : (tEv ρ (.arg i)).toInt = tLb (.arg i) w := by omega
      simp only [Option.some.injEq] at hv
      rw [← hv, ← h3]
      exact (Int32.ofInt_toInt _).symm
    · cases hv
  | .elem (.add (.index o) a) b, u, hv => by
    simp only [tKv] at hv
    split at hv
    · rename_i x y hx hy
      simp only [Option.some.injEq] at hv
      rw [← hv, ← tKv_spec h a x hx, ← tKv_spec h b y hy]
      rfl
    · cases hv
  | .length (.add (.index o) a), u, hv => by
    simp only [tKv] at hv
    split at hv
    · rename_i x hx
      simp only [Option.some.injEq] at hv
      rw [← hv, ← tKv_spec h a x hx]
      rfl
    · cases hv
/-- an unknown of a term that has only few values left -/
def tFew (w : List TK) : Jvm.Term → Option (Nat × Int × Nat)
  | .arg i => let l := tLb (.arg i) w; let u := tUb (.arg i) w; if l < u ∧ u ≤ l + 8 then some (i, l, (u - l).toNat + 1) else none
  | .elem (.add (.index _) a) b => match tFew w a with
    | some q => some q
    | none => tFew w b
  | .length (.add (.index _) a) => tFew w a
  | _ => none
def tPlain : Jvm.Term → Bool
  | .int _ => true
  | .arg _ => true
  | _ => false
theorem tFew_spec {ρ : Nat → Int32} {w : List TK} (h : XPa (tHd ρ) w) : ∀ (e : Jvm.Term) (i : Nat) (l : Int) (n : Nat), tFew w e = some (i, l, n) → l ≤ (ρ i).toInt ∧ (ρ i).toInt < l + n
  | .arg j, i, l, n, hv => by
    simp only [tFew] at hv
    split at hv
    · rename_i he
      simp only [Option.some.injEq, Prod.mk.injEq] at hv
      obtain ⟨rfl, rfl, rfl⟩ := hv
      have h1 := tLb_spec (e := .arg j) h
      have h2 := tUb_spec (e := .arg j) h
      have h3 : tEv ρ (.arg j) = ρ j := rfl
      rw [h3] at h1 h2
      omega
    · cases hv
  | .elem (.add (.index o) a) b, i, l, n, hv => by
    simp only [tFew] at hv
    split at hv
    · rename_i q hq
      simp only [Option.some.injEq] at hv
      subst hv
      exact tFew_spec h a i l n hq
    · exact tFew_spec h b i l n hv
  | .length (.add (.index o) a), i, l, n, hv => by
    simp only [tFew] at hv
    exact tFew_spec h a i l n hv
def tFork (kk : List TK → XR TK) (i : Nat) (l : Int) (w : List TK) : Nat → XR TK
  | 0 => []
  | n + 1 => kk ((false, .arg i, .int (Int32.ofInt (l + n)), true) :: w) ++ tFork kk i l w n
def tFind (b : Bool) (x y : Jvm.Term) : List TK → Option Bool
  | [] => none
  | k :: w => if k.1 = b ∧ k.2.1 = x ∧ k.2.2.1 = y then some k.2.2.2 else tFind b x y w
theorem tFind_spec {ρ : Nat → Int32} {b t : Bool} {x y : Jvm.Term} : ∀ {w : List TK}, XPa (tHd ρ) w → tFind b x y w = some t → tRel ρ (b, x, y, true) = t
  | [], _, h => by cases h
  | k :: w, hw, h => by
    simp only [tFind] at h
    split at h
    · rename_i he
      obtain ⟨e1, e2, e3⟩ := he
      have h1 : tRel ρ k = k.2.2.2 := hw k List.mem_cons_self
      simp only [Option.some.injEq] at h
      rw [← h, ← h1]
      unfold tRel
      rw [e1, e2, e3]
    · exact tFind_spec (fun z hz => hw z (List.mem_cons_of_mem _ hz)) h
/-- the question: less (or equal), a, b -/
def tAsk : Nat → Bool → Jvm.Term → Jvm.Term → List TK → (List TK → XR TK) → (List TK → XR TK) → XR TK
  | 0, _, _, _, w, _, _ => [w]
  | f + 1, b, x, y, w, kt, kf => match tKv w x, tKv w y with
    | some u, some v => if (if b then decide (u < v) else decide (u = v)) then kt w else kf w
    | _, _ =>
      if b then
        if tU x w < tL y w then kt w else if tU y w ≤ tL x w then kf w else match tFind b x y w with
          | some true => kt w
          | some false => kf w
          | none => match (if tPlain x && tPlain y then none else match tFew w x with | some q => some q | none => tFew w y) with
            | some (i, l, n) => tFork (fun w2 => tAsk f b x y w2 kt kf) i l w n
            | none => kt ((b, x, y, true) :: w) ++ kf ((b, x, y, false) :: w)
      else
        if tU x w < tL y w then kf w else if tU y w < tL x w then kf w else match tFind b x y w with
          | some true => kt w
          | some false => kf w
          | none => match (if tPlain x && tPlain y then none else match tFew w x with | some q => some q | none => tFew w y) with
            | some (i, l, n) => tFork (fun w2 => tAsk f b x y w2 kt kf) i l w n
            | none => kt ((b, x, y, true) :: w) ++ kf ((b, x, y, false) :: w)
theorem tOkApp {ρ : Nat → Int32} {r1 r2 : XR TK} (h : XOk (tHd ρ) (r1 ++ r2)) : XOk (tHd ρ) r1 ∧ XOk (tHd ρ) r2 := ⟨fun b hb => h b (List.mem_append_left _ hb), fun b hb => h b (List.mem_append_right _ hb)⟩
theorem tFork_spec {ρ : Nat → Int32} {kk : List TK → XR TK} {i : Nat} {l : Int} {w : List TK} (hw : XPa (tHd ρ) w) : ∀ n : Nat, XOk (tHd ρ) (tFork kk i l w n) → l ≤ (ρ i).toInt → (ρ i).toInt < l + n → ∃ w2, XPa (tHd ρ) w2 ∧ XOk (tHd ρ) (kk w2)
  | 0, _, h1, h2 => by omega
  | n + 1, h, h1, h2 => by
    obtain ⟨g1, g2⟩ := tOkApp h
    by_cases he : (ρ i).toInt = l + n
    · refine ⟨_, ?_, g1⟩
      intro k hk
      rcases List.mem_cons.mp hk with rfl | hk
      · show decide (ρ i = Int32.ofInt (l + n)) = true
        rw [← he, Int32.ofInt_toInt]
        simp
      · exact hw k hk
    · exact tFork_spec hw n g2 h1 (by omega)
theorem tCons {ρ : Nat → Int32} {w : List TK} {k : TK} (hw : XPa (tHd ρ) w) (h : tHd ρ k) : XPa (tHd ρ) (k :: w) := fun z hz => by
  rcases List.mem_cons.mp hz with rfl | hz
  · exact h
  · exact hw z hz
theorem tAsk_spec {ρ : Nat → Int32} {b : Bool} {x y : Jvm.Term} {kt kf : List TK → XR TK} : ∀ (f : Nat) (w : List TK), XOk (tHd ρ) (tAsk f b x y w kt kf) → XPa (tHd ρ) w → ∃ w2, XPa (tHd ρ) w2 ∧ ((tRel ρ (b, x, y, true) = true ∧ XOk (tHd ρ) (kt w2)) ∨ (tRel ρ (b, x, y, true) = false ∧ XOk (tHd ρ) (kf w2)))
  | 0, w, h, hw => (x_bad h hw).elim
  | f + 1, w, h, hw => by
    have both : XOk (tHd ρ) (kt ((b, x, y, true) :: w) ++ kf ((b, x, y, false) :: w)) → ∃ w2, XPa (tHd ρ) w2 ∧ ((tRel ρ (b, x, y, true) = true ∧ XOk (tHd ρ) (kt w2)) ∨ (tRel ρ (b, x, y, true) = false ∧ XOk (tHd ρ) (kf w2))) := fun h => by
      obtain ⟨g1, g2⟩ := tOkApp h
      by_cases hr : tRel ρ (b, x, y, true) = true
      · exact ⟨_, tCons hw hr, Or.inl ⟨hr, g1⟩⟩
      · have hr2 : tRel ρ (b, x, y, true) = false := by simpa using hr
        exact ⟨_, tCons hw (show tRel ρ (b, x, y, false) = false from hr2), Or.inr ⟨hr2, g2⟩⟩
    have found : ∀ t, tFind b x y w = some t → XOk (tHd ρ) (if t then kt w else kf w) → ∃ w2, XPa (tHd ρ) w2 ∧ ((tRel ρ (b, x, y, true) = true ∧ XOk (tHd ρ) (kt w2)) ∨ (tRel ρ (b, x, y, true) = false ∧ XOk (tHd ρ) (kf w2))) := fun t ht h => by
      have h1 := tFind_spec hw ht
      cases t
      · exact ⟨w, hw, Or.inr ⟨h1, h⟩⟩
      · exact ⟨w, hw, Or.inl ⟨h1, h⟩⟩
    have few : ∀ i l n, (if tPlain x && tPlain y then none else match tFew w x with | some q => some q | none => tFew w y) = some (i, l, n) → XOk (tHd ρ) (tFork (fun w2 => tAsk f b x y w2 kt kf) i l w n) → ∃ w2, XPa (tHd ρ) w2 ∧ ((tRel ρ (b, x, y, true) = true ∧ XOk (tHd ρ) (kt w2)) ∨ (tRel ρ (b, x, y, true) = false ∧ XOk (tHd ρ) (kf w2))) := fun i l n hq h => by
      have hr : l ≤ (ρ i).toInt ∧ (ρ i).toInt < l + n := by
        split at hq
        · cases hq
        · split at hq
          · rename_i q hq1
            simp only [Option.some.injEq] at hq
            subst hq
            exact tFew_spec hw x i l n hq1
          · exact tFew_spec hw y i l n hq
      obtain ⟨w2, g1, g2⟩ := tFork_spec hw n h hr.1 hr.2
      exact tAsk_spec f w2 g2 g1
    have hx1 := tL_spec (e := x) hw
    have hx2 := tU_spec (e := x) hw
    have hy1 := tL_spec (e := y) hw
    have hy2 := tU_spec (e := y) hw
    rw [tAsk.eq_def] at h
    dsimp only at h
    split at h
    · rename_i u v hu hv
      have e1 := tKv_spec hw x u hu
      have e2 := tKv_spec hw y v hv
      have e3 : tRel ρ (b, x, y, true) = (if b then decide (u < v) else decide (u = v)) := by
        unfold tRel
        rw [e1, e2]
      rw [e3]
      by_cases hc : (if b then decide (u < v) else decide (u = v)) = true
      · rw [if_pos hc] at h
        exact ⟨w, hw, Or.inl ⟨hc, h⟩⟩
      · rw [if_neg hc] at h
        exact ⟨w, hw, Or.inr ⟨Bool.eq_false_iff.mpr hc, h⟩⟩
    · split at h
      · rename_i hb
        split at h
        · refine ⟨w, hw, Or.inl ⟨?_, h⟩⟩
          unfold tRel
          rw [if_pos hb]
          exact decide_eq_true (Int32.lt_iff_toInt_lt.mpr (show (tEv ρ x).toInt < (tEv ρ y).toInt by omega))
        · split at h
          · refine ⟨w, hw, Or.inr ⟨?_, h⟩⟩
            unfold tRel
            rw [if_pos hb]
            exact decide_eq_false (fun z => by have z2 : (tEv ρ x).toInt < (tEv ρ y).toInt := Int32.lt_iff_toInt_lt.mp z; omega)
          · split at h
            · rename_i ht
              exact found true ht h
            · rename_i ht
              exact found false ht h
            · split at h
              · rename_i i l n hq
                exact few i l n hq h
              · exact both h
      · rename_i hb
        split at h
        · refine ⟨w, hw, Or.inr ⟨?_, h⟩⟩
          unfold tRel
          rw [if_neg hb]
          exact decide_eq_false (fun z => by have z2 : (tEv ρ x).toInt = (tEv ρ y).toInt := congrArg Int32.toInt z; omega)
        · split at h
          · refine ⟨w, hw, Or.inr ⟨?_, h⟩⟩
            unfold tRel
            rw [if_neg hb]
            exact decide_eq_false (fun z => by have z2 : (tEv ρ x).toInt = (tEv ρ y).toInt := congrArg Int32.toInt z; omega)
          · split at h
            · rename_i ht
              exact found true ht h
            · rename_i ht
              exact found false ht h
            · split at h
              · rename_i i l n hq
                exact few i l n hq h
              · exact both h
def tBr (o : Nat) (a b : Jvm.Term) (w : List TK) (kt kf : List TK → XR TK) : XR TK := match o with
  | 0 => tAsk 4 false a b w kt kf
  | 1 => tAsk 4 false a b w kf kt
  | 2 => tAsk 4 true a b w kt kf
  | 3 => tAsk 4 true a b w kf kt
  | 4 => tAsk 4 true b a w kt kf
  | _ => tAsk 4 true b a w kf kt
def tD (ρ : Nat → Int32) : XD Jvm.Term TK := (tEv ρ, fun v => .int v, tBin, tUn, tKst, tHd ρ, tBr)
theorem tBin_spec (ρ : Nat → Int32) (o : Nat) (a b : Jvm.Term) : tEv ρ (tBin o a b) = x_bin o (tEv ρ a) (tEv ρ b) := by
  unfold tBin
  split
  · rfl
  · split
    · rename_i h
      obtain ⟨rfl, rfl⟩ := h
      show tEv ρ a = tEv ρ a &&& (-1)
      apply Int32.toBitVec_inj.mp
      simp
    · rfl
theorem tUn_spec (ρ : Nat → Int32) (o : Nat) (a : Jvm.Term) : tEv ρ (tUn o a) = x_un o (tEv ρ a) := by
  unfold tUn
  split <;> rfl
theorem tBr_spec (ρ : Nat → Int32) (o : Nat) (a b : Jvm.Term) (w : List TK) (kt kf : List TK → XR TK) (h : XOk (tHd ρ) (tBr o a b w kt kf)) (hw : XPa (tHd ρ) w) : ∃ w', XPa (tHd ρ) w' ∧ ((x_cmp o (tEv ρ a) (tEv ρ b) = true ∧ XOk (tHd ρ) (kt w')) ∨ (x_cmp o (tEv ρ a) (tEv ρ b) = false ∧ XOk (tHd ρ) (kf w'))) := by
  have neg : ∀ (p : Prop) (i : Decidable p) (q : Prop) (j : Decidable q), (q ↔ ¬ p) → @decide p i = !(@decide q j) := fun p i q j hq => by
    by_cases hp : p
    · simp [hp, hq]
    · simp [hp, hq]
  unfold tBr at h
  split at h
  · exact tAsk_spec 4 w h hw
  · obtain ⟨w2, g1, g2⟩ := tAsk_spec 4 w h hw
    have e : tRel ρ (false, a, b, true) = !(x_cmp 1 (tEv ρ a) (tEv ρ b)) := neg _ _ _ _ Iff.rfl
    rw [e] at g2
    refine ⟨w2, g1, ?_⟩
    rcases g2 with ⟨z1, z2⟩ | ⟨z1, z2⟩
    · exact Or.inr ⟨by simpa using z1, z2⟩
    · exact Or.inl ⟨by simpa using z1, z2⟩
  · exact tAsk_spec 4 w h hw
  · obtain ⟨w2, g1, g2⟩ := tAsk_spec 4 w h hw
    have e : tRel ρ (true, a, b, true) = !(x_cmp 3 (tEv ρ a) (tEv ρ b)) := neg _ _ _ _ Int32.not_lt.symm
    rw [e] at g2
    refine ⟨w2, g1, ?_⟩
    rcases g2 with ⟨z1, z2⟩ | ⟨z1, z2⟩
    · exact Or.inr ⟨by simpa using z1, z2⟩
    · exact Or.inl ⟨by simpa using z1, z2⟩
  · exact tAsk_spec 4 w h hw
  · rename_i o' h0 h1 h2 h3 h4
    obtain ⟨w2, g1, g2⟩ := tAsk_spec 4 w h hw
    have e0 : x_cmp o (tEv ρ a) (tEv ρ b) = decide (tEv ρ a ≤ tEv ρ b) := by
      unfold x_cmp
      split <;> first | rfl | (exfalso; simp_all; done)
    have e : tRel ρ (true, b, a, true) = !(decide (tEv ρ a ≤ tEv ρ b)) := neg _ _ _ _ Int32.not_lt.symm
    rw [e] at g2
    rw [e0]
    refine ⟨w2, g1, ?_⟩
    rcases g2 with ⟨z1, z2⟩ | ⟨z1, z2⟩
    · exact Or.inr ⟨by simpa using z1, z2⟩
    · exact Or.inl ⟨by simpa using z1, z2⟩
theorem tD_ok (ρ : Nat → Int32) : x_DmOk (tD ρ) := by
  refine ⟨fun _ => rfl, tBin_spec ρ, tUn_spec ρ, fun a n h => ?_, tBr_spec ρ⟩
  cases a <;> simp [tD, dKst, tKst] at h
  subst h
  rfl
end XSym
end
