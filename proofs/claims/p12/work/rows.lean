section
/-! Methods and their instructions, as a table has them. -/
section XBase
/-- a method: name, bytes, locals, return, whose pool, the receiver's class, parameters, cells and slots that it may make, its instructions -/
abbrev XM : Type := MethodName × ByteArray × Nat × Option FieldType × Nat × Nat × Nat × Nat × Nat × Bool × (Nat → Option (Instr × Nat))
abbrev mY (q : XM) : MethodName := q.1
abbrev mB (q : XM) : ByteArray := q.2.1
abbrev mL (q : XM) : Nat := q.2.2.1
abbrev mR (q : XM) : Option FieldType := q.2.2.2.1
abbrev mO (q : XM) : Nat := q.2.2.2.2.1
abbrev mRc (q : XM) : Nat := q.2.2.2.2.2.1
abbrev mNp (q : XM) : Nat := q.2.2.2.2.2.2.1
abbrev mMc (q : XM) : Nat := q.2.2.2.2.2.2.2.1
abbrev mMs (q : XM) : Nat := q.2.2.2.2.2.2.2.2.1
abbrev mI (q : XM) : Bool := q.2.2.2.2.2.2.2.2.2.1
abbrev mC (q : XM) : Nat → Option (Instr × Nat) := q.2.2.2.2.2.2.2.2.2.2
/-- the length of an instruction, in bytes -/
def x_len : Instr → Nat
  | .iload _ => 2
  | .aload _ => 2
  | .istore _ => 2
  | .astore _ => 2
  | .bipush _ => 2
  | .newarray _ => 2
  | .ldc _ => 2
  | .sipush _ => 3
  | .iinc _ _ => 3
  | .getfield _ => 3
  | .putfield _ => 3
  | .new _ => 3
  | .anewarray _ => 3
  | .invokespecial _ => 3
  | .invokestatic _ => 3
  | .invokevirtual _ => 3
  | .goto _ => 3
  | .getstatic _ => 3
  | .ifCond _ _ => 3
  | .if_icmp _ _ => 3
  | .ifnull _ => 3
  | .ifnonnull _ => 3
  | .ldc_w _ => 3
  | .multianewarray _ _ => 4
  | _ => 1
def x_lenOk : Instr → Nat → Bool
  | .tableswitch _ _ _ _, _ => true
  | .lookupswitch _ _, _ => true
  | i, n => n == x_len i
def x_at2 : Nat → List (Nat × Instr × Nat) → Option (Instr × Nat)
  | _, [] => none
  | pc, q :: r => if q.1 = pc then some q.2 else x_at2 pc r
def x_cOk (b : ByteArray) (l : List (Nat × Instr × Nat)) : Bool := l.all (fun q => decide (decode b q.1 = .ok q.2) && x_lenOk q.2.1 q.2.2)
theorem x_cOk_spec {b : ByteArray} {pc n : Nat} {i : Instr} : ∀ {l : List (Nat × Instr × Nat)}, x_cOk b l = true → x_at2 pc l = some (i, n) → decode b pc = .ok (i, n) ∧ x_lenOk i n = true
  | [], _, h => by cases h
  | q :: r, hc, h => by
    have hc2 : (decide (decode b q.1 = .ok q.2) && x_lenOk q.2.1 q.2.2) = true ∧ x_cOk b r = true := by
      have h1 := List.all_eq_true.mp hc
      exact ⟨h1 q List.mem_cons_self, List.all_eq_true.mpr fun z hz => h1 z (List.mem_cons_of_mem _ hz)⟩
    simp only [x_at2] at h
    split at h
    · rename_i he
      subst he
      simp only [Option.some.injEq] at h
      have h2 := hc2.1
      simp only [Bool.and_eq_true, decide_eq_true_eq] at h2
      rw [h] at h2
      exact h2
    · exact x_cOk_spec hc2.2 h
def x_Good (b : ByteArray) (g : Nat → Option (Instr × Nat)) : Prop := ∀ pc i n, g pc = some (i, n) → decode b pc = .ok (i, n) ∧ x_lenOk i n = true
theorem x_Good_l {b : ByteArray} {l : List (Nat × Instr × Nat)} (h : x_cOk b l = true) : x_Good b (fun pc => x_at2 pc l) := fun _ _ _ q => x_cOk_spec h q
theorem x_Good_ite {b : ByteArray} {k : Nat} {g1 g2 : Nat → Option (Instr × Nat)} (h1 : x_Good b g1) (h2 : x_Good b g2) : x_Good b (fun pc => if pc < k then g1 pc else g2 pc) := fun pc i n h => by
  have h : (if pc < k then g1 pc else g2 pc) = some (i, n) := h
  by_cases c : pc < k
  · rw [if_pos c] at h
    exact h1 pc i n h
  · rw [if_neg c] at h
    exact h2 pc i n h
end XBase
end
section
/-! An evaluator of its own over an abstract heap: values, cells, instructions. Whatever it finds no fault with, the machine does (part 02). -/
section XDefs
variable {E K : Type}
/-- an int (as E has it), null, or a cell by its number -/
abbrev XV (E : Type) : Type := E ⊕ Option Nat
/-- an object (its class by number, its fields), or an array (its type by number, its elements) -/
abbrev XC (E : Type) : Type := (Nat × List (XV E)) ⊕ (Nat × List (XV E))
/-- the ways that are left: each a list of what holds on it -/
abbrev XR (K : Type) : Type := List (List K)
abbrev XD (E K : Type) : Type := (E → Int32) × (Int32 → E) × (Nat → E → E → E) × (Nat → E → E) × (E → Option Int32) × (K → Prop) × (Nat → E → E → List K → (List K → XR K) → (List K → XR K) → XR K)
abbrev dEv (d : XD E K) : E → Int32 := d.1
abbrev dKc (d : XD E K) : Int32 → E := d.2.1
abbrev dBin (d : XD E K) : Nat → E → E → E := d.2.2.1
abbrev dUn (d : XD E K) : Nat → E → E := d.2.2.2.1
abbrev dKst (d : XD E K) : E → Option Int32 := d.2.2.2.2.1
abbrev dHd (d : XD E K) : K → Prop := d.2.2.2.2.2.1
abbrev dBr (d : XD E K) : Nat → E → E → List K → (List K → XR K) → (List K → XR K) → XR K := d.2.2.2.2.2.2
/-- tables: methods; the names of the pools' classes; fields; new; calls (callee, sort); arrays of references; arrays of arrays; field types of a class; what is known of itself (Object's constructor, copying); ints of the pool -/
abbrev XT : Type := (Nat → Option XM) × (Nat → String) × (Nat → Nat → Option (Nat × Nat)) × (Nat → Nat → Option Nat) × (Nat → Nat → Option (Nat × Nat)) × (Nat → Nat → Option Nat) × (Nat → Nat → Option (Nat × Nat)) × (Nat → List (FieldType × Bool)) × (Nat → Nat → Option Nat) × (Nat → Nat → Option Int32)
abbrev tMth (t : XT) : Nat → Option XM := t.1
abbrev tNm (t : XT) : Nat → String := t.2.1
abbrev tFld (t : XT) : Nat → Nat → Option (Nat × Nat) := t.2.2.1
abbrev tNw (t : XT) : Nat → Nat → Option Nat := t.2.2.2.1
abbrev tCal (t : XT) : Nat → Nat → Option (Nat × Nat) := t.2.2.2.2.1
abbrev tAn (t : XT) : Nat → Nat → Option Nat := t.2.2.2.2.2.1
abbrev tMn (t : XT) : Nat → Nat → Option (Nat × Nat) := t.2.2.2.2.2.2.1
abbrev tFt (t : XT) : Nat → List (FieldType × Bool) := t.2.2.2.2.2.2.2.1
abbrev tBi (t : XT) : Nat → Nat → Option Nat := t.2.2.2.2.2.2.2.2.1
abbrev tLi (t : XT) : Nat → Nat → Option Int32 := t.2.2.2.2.2.2.2.2.2
/-- what lies outside (numbers from 1000000 on): constants of text by pool and place; their fields; static fields; rows of bytes; the script (its length, its ints); their classes -/
abbrev XO (E : Type) : Type := (Nat → Nat → Option Nat) × (Nat → Nat → Nat → Option (Int32 ⊕ Option Nat)) × (Nat → Nat → Option (Int32 ⊕ Option Nat)) × (Nat → Option (List Int32)) × (Nat × (Nat → E)) × (Nat → Option Nat)
abbrev oSl (t : XO E) : Nat → Nat → Option Nat := t.1
abbrev oFl (t : XO E) : Nat → Nat → Nat → Option (Int32 ⊕ Option Nat) := t.2.1
abbrev oGs (t : XO E) : Nat → Nat → Option (Int32 ⊕ Option Nat) := t.2.2.1
abbrev oBy (t : XO E) : Nat → Option (List Int32) := t.2.2.2.1
abbrev oSn (t : XO E) : Nat := t.2.2.2.2.1.1
abbrev oSc (t : XO E) : Nat → E := t.2.2.2.2.1.2
abbrev oCl (t : XO E) : Nat → Option Nat := t.2.2.2.2.2
def x_ov (d : XD E K) : Int32 ⊕ Option Nat → XV E
  | .inl v => .inl (dKc d v)
  | .inr a => .inr a
def x_bin : Nat → Int32 → Int32 → Int32
  | 0, x, y => x + y
  | 1, x, y => x - y
  | 2, x, y => x * y
  | 3, x, y => x &&& y
  | 4, x, y => x ||| y
  | 5, x, y => x ^^^ y
  | 6, x, y => x <<< (y &&& 31)
  | 7, x, y => x >>> (y &&& 31)
  | 8, x, y => x / y
  | 9, x, y => x - x / y * y
  | _, x, y => (x.toUInt32 >>> (y.toUInt32 &&& Int32.toUInt32 31)).toInt32
def x_un : Nat → Int32 → Int32
  | 0, x => x.toInt8.toInt32
  | 1, x => x.toInt16.toInt32
  | 2, x => (x.toUInt32 % 65536).toInt32
  | _, x => -x
def x_cmp : Nat → Int32 → Int32 → Bool
  | 0, x, y => decide (x = y)
  | 1, x, y => decide (¬ x = y)
  | 2, x, y => decide (x < y)
  | 3, x, y => decide (y ≤ x)
  | 4, x, y => decide (y < x)
  | _, x, y => decide (x ≤ y)
def x_cn : Jvm.ClassFile.Cond → Nat
  | .eq => 0
  | .ne => 1
  | .lt => 2
  | .ge => 3
  | .gt => 4
  | .le => 5
/-- every way that is left can't be gone -/
def XOk (hd : K → Prop) (r : XR K) : Prop := ∀ b ∈ r, ∃ k ∈ b, ¬ hd k
def XPa (hd : K → Prop) (w : List K) : Prop := ∀ k ∈ w, hd k
def x_DmOk (d : XD E K) : Prop :=
  (∀ n, dEv d (dKc d n) = n) ∧ (∀ o a b, dEv d (dBin d o a b) = x_bin o (dEv d a) (dEv d b)) ∧ (∀ o a, dEv d (dUn d o a) = x_un o (dEv d a)) ∧ (∀ a n, dKst d a = some n → dEv d a = n) ∧
  (∀ o a b w kt kf, XOk (dHd d) (dBr d o a b w kt kf) → XPa (dHd d) w → ∃ w', XPa (dHd d) w' ∧ ((x_cmp o (dEv d a) (dEv d b) = true ∧ XOk (dHd d) (kt w')) ∨ (x_cmp o (dEv d a) (dEv d b) = false ∧ XOk (dHd d) (kf w'))))
def x_jp (pc : Nat) (off : Int) : Option Nat := if 0 ≤ (pc : Int) + off then some ((pc : Int) + off).toNat else none
def x_lk (L : List (Nat × XV E)) (i : Nat) : Option (XV E) := (L.find? (fun q => q.1 == i)).map (·.2)
def x_st (L : List (Nat × XV E)) (i : Nat) (v : XV E) : List (Nat × XV E) := (i, v) :: L.filter (fun q => !(q.1 == i))
def x_en : Nat → List (XV E) → List (Nat × XV E)
  | _, [] => []
  | i, v :: vs => (i, v) :: x_en (i + 1) vs
/-- an index, told apart where it isn't known: j of the n -/
def x_ixs (d : XD E K) (a : E) (kk : Nat → List K → XR K) : Nat → List K → XR K
  | 0, w => [w]
  | j + 1, w => dBr d 0 a (dKc d (nI j)) w (fun w2 => kk j w2) (fun w2 => x_ixs d a kk j w2)
def x_ix (d : XD E K) (a : E) (n : Nat) (w : List K) (kk : Nat → List K → XR K) : XR K :=
  match dKst d a with
  | some v => if decide (v < 0) || decide (n ≤ v.toNatClampNeg) then [w] else kk v.toNatClampNeg w
  | none => if n < 2000 then x_ixs d a kk n w else [w]
/-- a switch: its pairs one by one, then what is left -/
def x_sw (d : XD E K) (a : E) (dflt : Int) (kk : Int → List K → XR K) : List (Int × Int) → List K → XR K
  | [], w => kk dflt w
  | q :: r, w => if (Int32.ofInt q.1).toInt = q.1 then dBr d 0 a (dKc d (Int32.ofInt q.1)) w (fun w2 => kk q.2 w2) (fun w2 => x_sw d a dflt kk r w2) else [w]
def x_tp : Int → List Int → List (Int × Int)
  | _, [] => []
  | lo, o :: r => (lo, o) :: x_tp (lo + 1) r
def x_def (d : XD E K) : FieldType → XV E
  | .object _ => .inr none
  | .array _ => .inr none
  | _ => .inl (dKc d 0)
def x_isRef : FieldType → Bool
  | .object _ => true
  | .array _ => true
  | _ => false
/-- may a field or an element of that type keep this value, just as it is -/
def x_fit (d : XD E K) : FieldType → XV E → Bool
  | .int, .inl _ => true
  | .boolean, .inl e => match dKst d e with
    | some v => decide (v = 0) || decide (v = 1)
    | none => false
  | .object _, .inr _ => true
  | .array _, .inr _ => true
  | _, _ => false
def x_cat (S : List (XV E)) : Nat := S.length
/-- rows of an array of arrays -/
def x_rows (t : Nat) (r : List (XV E)) : Nat → List (XC E)
  | 0 => []
  | n + 1 => .inr (t, r) :: x_rows t r n
def x_refs : Nat → Nat → List (XV E)
  | _, 0 => []
  | a, n + 1 => .inr (some a) :: x_refs (a + 1) n
def x_push : Option (XV E) → List (XV E) → List (XV E)
  | none, S => S
  | some v, S => v :: S
/-- a return keeps what the method says that it answers -/
def x_retOk (d : XD E K) : Option FieldType → XV E → Bool
  | some .int, .inl _ => true
  | some .boolean, .inl e => match dKst d e with
    | some v => decide (v = 0) || decide (v = 1)
    | none => false
  | some .byte, .inl e => match dKst d e with
    | some v => decide (v.toInt8.toInt32 = v)
    | none => false
  | some .char, .inl e => match dKst d e with
    | some v => decide ((v.toUInt32 % 65536).toInt32 = v)
    | none => false
  | some (.object _), .inr _ => true
  | some (.array _), .inr _ => true
  | _, _ => false
/-- the class, by its number, of a receiver -/
def x_rc (ot : XO E) (h : List (XC E)) (a : Nat) : Option Nat := if 1000000 < a then oCl ot a else match h[a]? with
  | some (.inl (ci, _)) => some ci
  | _ => none
/-- THE EVALUATOR: fuel, depth, method, place, locals, stack, heap, cells and slots made, what holds on this way; behind it: what is answered -/
def x_run (d : XD E K) (tb : XT) (tyl : List FieldType) (ot : XO E) : Nat → Nat → Nat → Nat → List (Nat × XV E) → List (XV E) → List (XC E) → Nat → Nat → List K → (List K → Option (XV E) → List (XC E) → XR K) → XR K
  | 0, _, _, _, _, _, _, _, _, w, _ => [w]
  | f + 1, dp, k, pc, L, S, h, cn, sn, w, post =>
    match tMth tb k with
    | none => [w]
    | some q =>
      match mC q pc with
      | none => [w]
      | some (i, n) =>
        match i with
        | .iconst v => x_run d tb tyl ot f dp k (pc + 1) L (.inl (dKc d (Int32.ofInt v)) :: S) h cn sn w post
        | .bipush v => x_run d tb tyl ot f dp k (pc + 2) L (.inl (dKc d (Int8.ofInt v).toInt32) :: S) h cn sn w post
        | .sipush v => x_run d tb tyl ot f dp k (pc + 3) L (.inl (dKc d (Int16.ofInt v).toInt32) :: S) h cn sn w post
        | .ldc ix => match tLi tb (mO q) ix with
          | some v => x_run d tb tyl ot f dp k (pc + 2) L (.inl (dKc d v) :: S) h cn sn w post
          | none => match oSl ot (mO q) ix with
            | some a => x_run d tb tyl ot f dp k (pc + 2) L (.inr (some a) :: S) h cn sn w post
            | none => [w]
        | .ldc_w ix => match tLi tb (mO q) ix with
          | some v => x_run d tb tyl ot f dp k (pc + 3) L (.inl (dKc d v) :: S) h cn sn w post
          | none => [w]
        | .aconst_null => x_run d tb tyl ot f dp k (pc + 1) L (.inr none :: S) h cn sn w post
        | .iload_n j => match x_lk L j with
          | some (.inl a) => x_run d tb tyl ot f dp k (pc + 1) L (.inl a :: S) h cn sn w post
          | _ => [w]
        | .iload j => match x_lk L j with
          | some (.inl a) => x_run d tb tyl ot f dp k (pc + 2) L (.inl a :: S) h cn sn w post
          | _ => [w]
        | .aload_n j => match x_lk L j with
          | some (.inr a) => x_run d tb tyl ot f dp k (pc + 1) L (.inr a :: S) h cn sn w post
          | _ => [w]
        | .aload j => match x_lk L j with
          | some (.inr a) => x_run d tb tyl ot f dp k (pc + 2) L (.inr a :: S) h cn sn w post
          | _ => [w]
        | .istore_n j => match S with
          | .inl a :: r => if (j : Nat) < mL q then x_run d tb tyl ot f dp k (pc + 1) (x_st L j (.inl a)) r h cn sn w post else [w]
          | _ => [w]
        | .istore j => match S with
          | .inl a :: r => if j < mL q then x_run d tb tyl ot f dp k (pc + 2) (x_st L j (.inl a)) r h cn sn w post else [w]
          | _ => [w]
        | .astore_n j => match S with
          | .inr a :: r => if (j : Nat) < mL q then x_run d tb tyl ot f dp k (pc + 1) (x_st L j (.inr a)) r h cn sn w post else [w]
          | _ => [w]
        | .astore j => match S with
          | .inr a :: r => if j < mL q then x_run d tb tyl ot f dp k (pc + 2) (x_st L j (.inr a)) r h cn sn w post else [w]
          | _ => [w]
        | .iinc j v => match x_lk L j with
          | some (.inl a) => if j < mL q then x_run d tb tyl ot f dp k (pc + 3) (x_st L j (.inl (dBin d 0 a (dKc d (Int32.ofInt v))))) S h cn sn w post else [w]
          | _ => [w]
        | .dup => match S with
          | a :: r => x_run d tb tyl ot f dp k (pc + 1) L (a :: a :: r) h cn sn w post
          | _ => [w]
        | .dup_x1 => match S with
          | a :: b :: r => x_run d tb tyl ot f dp k (pc + 1) L (a :: b :: a :: r) h cn sn w post
          | _ => [w]
        | .dup2 => match S with
          | a :: b :: r => x_run d tb tyl ot f dp k (pc + 1) L (a :: b :: a :: b :: r) h cn sn w post
          | _ => [w]
        | .pop => match S with
          | _ :: r => x_run d tb tyl ot f dp k (pc + 1) L r h cn sn w post
          | _ => [w]
        | .iadd => match S with
          | .inl b :: .inl a :: r => x_run d tb tyl ot f dp k (pc + 1) L (.inl (dBin d 0 a b) :: r) h cn sn w post
          | _ => [w]
        | .isub => match S with
          | .inl b :: .inl a :: r => x_run d tb tyl ot f dp k (pc + 1) L (.inl (dBin d 1 a b) :: r) h cn sn w post
          | _ => [w]
        | .imul => match S with
          | .inl b :: .inl a :: r => x_run d tb tyl ot f dp k (pc + 1) L (.inl (dBin d 2 a b) :: r) h cn sn w post
          | _ => [w]
        | .iand => match S with
          | .inl b :: .inl a :: r => x_run d tb tyl ot f dp k (pc + 1) L (.inl (dBin d 3 a b) :: r) h cn sn w post
          | _ => [w]
        | .ior => match S with
          | .inl b :: .inl a :: r => x_run d tb tyl ot f dp k (pc + 1) L (.inl (dBin d 4 a b) :: r) h cn sn w post
          | _ => [w]
        | .ixor => match S with
          | .inl b :: .inl a :: r => x_run d tb tyl ot f dp k (pc + 1) L (.inl (dBin d 5 a b) :: r) h cn sn w post
          | _ => [w]
        | .ishl => match S with
          | .inl b :: .inl a :: r => x_run d tb tyl ot f dp k (pc + 1) L (.inl (dBin d 6 a b) :: r) h cn sn w post
          | _ => [w]
        | .ishr => match S with
          | .inl b :: .inl a :: r => x_run d tb tyl ot f dp k (pc + 1) L (.inl (dBin d 7 a b) :: r) h cn sn w post
          | _ => [w]
        | .idiv => match S with
          | .inl b :: .inl a :: r => dBr d 0 b (dKc d 0) w (fun w2 => [w2]) (fun w2 => x_run d tb tyl ot f dp k (pc + 1) L (.inl (dBin d 8 a b) :: r) h cn sn w2 post)
          | _ => [w]
        | .irem => match S with
          | .inl b :: .inl a :: r => dBr d 0 b (dKc d 0) w (fun w2 => [w2]) (fun w2 => x_run d tb tyl ot f dp k (pc + 1) L (.inl (dBin d 9 a b) :: r) h cn sn w2 post)
          | _ => [w]
        | .i2b => match S with
          | .inl a :: r => x_run d tb tyl ot f dp k (pc + 1) L (.inl (dUn d 0 a) :: r) h cn sn w post
          | _ => [w]
        | .i2s => match S with
          | .inl a :: r => x_run d tb tyl ot f dp k (pc + 1) L (.inl (dUn d 1 a) :: r) h cn sn w post
          | _ => [w]
        | .goto o => match x_jp pc o with
          | some t => x_run d tb tyl ot f dp k t L S h cn sn w post
          | none => [w]
        | .ifCond c o => match S, x_jp pc o with
          | .inl a :: r, some t => dBr d (x_cn c) a (dKc d 0) w (fun w2 => x_run d tb tyl ot f dp k t L r h cn sn w2 post) (fun w2 => x_run d tb tyl ot f dp k (pc + 3) L r h cn sn w2 post)
          | _, _ => [w]
        | .if_icmp c o => match S, x_jp pc o with
          | .inl b :: .inl a :: r, some t => dBr d (x_cn c) a b w (fun w2 => x_run d tb tyl ot f dp k t L r h cn sn w2 post) (fun w2 => x_run d tb tyl ot f dp k (pc + 3) L r h cn sn w2 post)
          | _, _ => [w]
        | .ifnull o => match S, x_jp pc o with
          | .inr none :: r, some t => x_run d tb tyl ot f dp k t L r h cn sn w post
          | .inr (some _) :: r, _ => x_run d tb tyl ot f dp k (pc + 3) L r h cn sn w post
          | _, _ => [w]
        | .ifnonnull o => match S, x_jp pc o with
          | .inr (some _) :: r, some t => x_run d tb tyl ot f dp k t L r h cn sn w post
          | .inr none :: r, _ => x_run d tb tyl ot f dp k (pc + 3) L r h cn sn w post
          | _, _ => [w]
        | .tableswitch df lo hi os => match S with
          | .inl a :: r => if hi + 1 = lo + os.size then x_sw d a df (fun o w2 => match x_jp pc o with
              | some t => x_run d tb tyl ot f dp k t L r h cn sn w2 post
              | none => [w2]) (x_tp lo os.toList) w else [w]
          | _ => [w]
        | .lookupswitch df ps => match S with
          | .inl a :: r => if (ps.toList.zip (ps.toList.drop 1)).all (fun (a, next) => a.1 < next.1) = true then x_sw d a df (fun o w2 => match x_jp pc o with
              | some t => x_run d tb tyl ot f dp k t L r h cn sn w2 post
              | none => [w2]) ps.toList w else [w]
          | _ => [w]
        | .getfield ix => match S with
          | .inr (some a) :: r => if 1000000 < a then (match oFl ot a (mO q) ix with
              | some v => x_run d tb tyl ot f dp k (pc + 3) L (x_ov d v :: r) h cn sn w post
              | none => [w]) else match tFld tb (mO q) ix with
            | some (ci, j) => match h[a]? with
              | some (.inl (c2, fs)) => match decide (c2 = ci), fs[j]? with
                | true, some v => x_run d tb tyl ot f dp k (pc + 3) L (v :: r) h cn sn w post
                | _, _ => [w]
              | _ => [w]
            | none => [w]
          | _ => [w]
        | .getstatic ix => match oGs ot (mO q) ix with
          | some v => x_run d tb tyl ot f dp k (pc + 3) L (x_ov d v :: S) h cn sn w post
          | none => [w]
        | .arraylength => match S with
          | .inr (some a) :: r => if a = 1000000 then x_run d tb tyl ot f dp k (pc + 1) L (.inl (dKc d (Int32.ofNat (oSn ot))) :: r) h cn sn w post else match oBy ot a with
            | some bs => if 1000000 < a then x_run d tb tyl ot f dp k (pc + 1) L (.inl (dKc d (Int32.ofNat bs.length)) :: r) h cn sn w post else [w]
            | none => [w]
          | _ => [w]
        | .i2c => match S with
          | .inl a :: r => x_run d tb tyl ot f dp k (pc + 1) L (.inl (dUn d 2 a) :: r) h cn sn w post
          | _ => [w]
        | .ineg => match S with
          | .inl a :: r => x_run d tb tyl ot f dp k (pc + 1) L (.inl (dUn d 3 a) :: r) h cn sn w post
          | _ => [w]
        | .iushr => match S with
          | .inl b :: .inl a :: r => x_run d tb tyl ot f dp k (pc + 1) L (.inl (dBin d 10 a b) :: r) h cn sn w post
          | _ => [w]
        | .putfield ix => match S, tFld tb (mO q) ix with
          | v :: .inr (some a) :: r, some (ci, j) => match h[a]? with
            | some (.inl (c2, fs)) => match (tFt tb ci)[j]? with
              | some ty => if decide (c2 = ci) && x_fit d ty.1 v && decide (j < fs.length) && (!ty.2 || (mI q && decide (mRc q = ci))) then x_run d tb tyl ot f dp k (pc + 3) L r (h.set a (.inl (c2, fs.set j v))) cn sn w post else [w]
              | none => [w]
            | _ => [w]
          | _, _ => [w]
        | .iaload => match S with
          | .inl e :: .inr (some a) :: r => if a = 1000000 then x_ix d e (oSn ot) w (fun j w2 => x_run d tb tyl ot f dp k (pc + 1) L (.inl (oSc ot j) :: r) h cn sn w2 post) else match h[a]? with
            | some (.inr (0, vs)) => x_ix d e vs.length w (fun j w2 => match vs[j]? with
              | some v => x_run d tb tyl ot f dp k (pc + 1) L (v :: r) h cn sn w2 post
              | none => [w2])
            | _ => [w]
          | _ => [w]
        | .baload => match S with
          | .inl e :: .inr (some a) :: r => if 1000000 < a then (match oBy ot a with
              | some bs => x_ix d e bs.length w (fun j w2 => x_run d tb tyl ot f dp k (pc + 1) L (.inl (dKc d (bs.getD j 0)) :: r) h cn sn w2 post)
              | none => [w]) else match h[a]? with
            | some (.inr (1, vs)) => x_ix d e vs.length w (fun j w2 => match vs[j]? with
              | some v => x_run d tb tyl ot f dp k (pc + 1) L (v :: r) h cn sn w2 post
              | none => [w2])
            | _ => [w]
          | _ => [w]
        | .aaload => match S with
          | .inl e :: .inr (some a) :: r => match h[a]? with
            | some (.inr (t, vs)) => if (tyl[t]?.map x_isRef) = some true then x_ix d e vs.length w (fun j w2 => match vs[j]? with
              | some v => x_run d tb tyl ot f dp k (pc + 1) L (v :: r) h cn sn w2 post
              | none => [w2]) else [w]
            | _ => [w]
          | _ => [w]
        | .iastore => match S with
          | .inl v :: .inl e :: .inr (some a) :: r => match h[a]? with
            | some (.inr (0, vs)) => x_ix d e vs.length w (fun j w2 => x_run d tb tyl ot f dp k (pc + 1) L r (h.set a (.inr (0, vs.set j (.inl v)))) cn sn w2 post)
            | _ => [w]
          | _ => [w]
        | .bastore => match S with
          | .inl v :: .inl e :: .inr (some a) :: r => match h[a]? with
            | some (.inr (1, vs)) => if x_fit d .boolean (.inl v) then x_ix d e vs.length w (fun j w2 => x_run d tb tyl ot f dp k (pc + 1) L r (h.set a (.inr (1, vs.set j (.inl v)))) cn sn w2 post) else [w]
            | _ => [w]
          | _ => [w]
        | .aastore => match S with
          | .inr (some v) :: .inl e :: .inr (some a) :: r => match h[a]?, h[v]? with
            | some (.inr (t, vs)), some (.inl (ci, _)) => match tyl[t]? with
              | some (.object C) => if decide (C = tNm tb ci) then x_ix d e vs.length w (fun j w2 => x_run d tb tyl ot f dp k (pc + 1) L r (h.set a (.inr (t, vs.set j (.inr (some v))))) cn sn w2 post) else [w]
              | _ => [w]
            | _, _ => [w]
          | _ => [w]
        | .new ix => match tNw tb (mO q) ix with
          | some ci => if decide (cn + 1 ≤ mMc q) && decide (sn + (tFt tb ci).length ≤ mMs q) && decide (h.length + 1 ≤ 1000000) then
              x_run d tb tyl ot f dp k (pc + 3) L (.inr (some h.length) :: S) (h ++ [.inl (ci, (tFt tb ci).map (fun t => x_def d t.1))]) (cn + 1) (sn + (tFt tb ci).length) w post else [w]
          | none => [w]
        | .newarray ty => match S, (match ty with | .int => some 0 | .boolean => some 1 | _ => none) with
          | .inl e :: r, some t => match dKst d e with
            | some v => if decide (¬ v < 0) && decide (v.toNatClampNeg ≤ 100000) && decide (cn + 1 ≤ mMc q) && decide (sn + v.toNatClampNeg ≤ mMs q) && decide (h.length + 1 ≤ 1000000) then
                x_run d tb tyl ot f dp k (pc + 2) L (.inr (some h.length) :: r) (h ++ [.inr (t, List.replicate v.toNatClampNeg (.inl (dKc d 0)))]) (cn + 1) (sn + v.toNatClampNeg) w post else [w]
            | none => [w]
          | _, _ => [w]
        | .anewarray ix => match S, tAn tb (mO q) ix with
          | .inl e :: r, some t => match dKst d e with
            | some v => if decide (¬ v < 0) && decide (v.toNatClampNeg ≤ 100000) && decide (cn + 1 ≤ mMc q) && decide (sn + v.toNatClampNeg ≤ mMs q) && decide (h.length + 1 ≤ 1000000) then
                x_run d tb tyl ot f dp k (pc + 3) L (.inr (some h.length) :: r) (h ++ [.inr (t, List.replicate v.toNatClampNeg (.inr none))]) (cn + 1) (sn + v.toNatClampNeg) w post else [w]
            | none => [w]
          | _, _ => [w]
        | .multianewarray ix dm => match S, tMn tb (mO q) ix with
          | .inl e2 :: .inl e1 :: r, some (t2, t1) => match dKst d e1, dKst d e2 with
            | some v1, some v2 => if decide (dm = 2) && decide (¬ v1 < 0) && decide (¬ v2 < 0) && decide (v1.toNatClampNeg ≤ 100000) && decide (v2.toNatClampNeg ≤ 100000) && decide (t1 < 2) && decide (cn + (1 + v1.toNatClampNeg) ≤ mMc q) && decide (sn + (v1.toNatClampNeg + v1.toNatClampNeg * v2.toNatClampNeg) ≤ mMs q) && decide (h.length + 1 + v1.toNatClampNeg ≤ 1000000) then
                x_run d tb tyl ot f dp k (pc + 4) L (.inr (some h.length) :: r) (h ++ .inr (t2, x_refs (h.length + 1) v1.toNatClampNeg) :: x_rows t1 (List.replicate v2.toNatClampNeg (.inl (dKc d 0))) v1.toNatClampNeg) (cn + 1 + v1.toNatClampNeg) (sn + v1.toNatClampNeg + v1.toNatClampNeg * v2.toNatClampNeg) w post else [w]
            | _, _ => [w]
          | _, _ => [w]
        | .invokestatic ix => match tCal tb (mO q) ix with
          | some (j, so) => match dp with
            | dp2 + 1 => match tMth tb j with
              | some q2 => if decide (mNp q2 ≤ S.length) && decide (2 ≤ so) && decide ((S.drop (mNp q2)).length ≤ 8) && decide (mNp q2 ≤ mL q2) && decide (cn + mMc q2 ≤ mMc q) && decide (sn + mMs q2 ≤ mMs q) then
                  x_run d tb tyl ot f dp2 j 0 (x_en 0 (S.take (mNp q2)).reverse) [] h 0 0 w (fun w2 v h2 => x_run d tb tyl ot f dp k (pc + 3) L (x_push v (S.drop (mNp q2))) h2 (cn + mMc q2) (sn + mMs q2) w2 post) else [w]
              | none => [w]
            | 0 => [w]
          | none => if tBi tb (mO q) ix = some 1 then match S with
            | .inl n0 :: .inl pd :: .inr (some bd) :: .inl ps :: .inr (some bs) :: r => match h[bs]?, h[bd]?, dKst d n0, dKst d pd, dKst d ps with
              | some (.inr (0, us)), some (.inr (0, vs)), some n1, some d1, some s1 => if decide (¬ n1 < 0) && decide (¬ d1 < 0) && decide (¬ s1 < 0) && decide (s1.toNatClampNeg + n1.toNatClampNeg ≤ us.length) && decide (d1.toNatClampNeg + n1.toNatClampNeg ≤ vs.length) && decide (r.length ≤ 8) && us.all (fun u => u.isLeft) then
                  x_run d tb tyl ot f dp k (pc + 3) L r (h.set bd (.inr (0, vs.take d1.toNatClampNeg ++ (us.drop s1.toNatClampNeg).take n1.toNatClampNeg ++ vs.drop (d1.toNatClampNeg + n1.toNatClampNeg)))) cn sn w post else [w]
              | _, _, _, _, _ => [w]
            | _ => [w] else if tBi tb (mO q) ix = some 2 then match S with
            | .inl b :: .inl a :: r => if decide (r.length ≤ 8) && decide (cn ≤ mMc q) && decide (sn ≤ mMs q) then dBr d 2 a b w (fun w2 => x_run d tb tyl ot f dp k (pc + 3) L (.inl b :: r) h cn sn w2 post) (fun w2 => x_run d tb tyl ot f dp k (pc + 3) L (.inl a :: r) h cn sn w2 post) else [w]
            | _ => [w] else if tBi tb (mO q) ix = some 3 then match S with
            | .inl b :: .inl a :: r => if decide (r.length ≤ 8) && decide (cn ≤ mMc q) && decide (sn ≤ mMs q) then dBr d 2 b a w (fun w2 => x_run d tb tyl ot f dp k (pc + 3) L (.inl b :: r) h cn sn w2 post) (fun w2 => x_run d tb tyl ot f dp k (pc + 3) L (.inl a :: r) h cn sn w2 post) else [w]
            | _ => [w] else if tBi tb (mO q) ix = some 4 then match S with
            | .inl a :: r => if decide (r.length ≤ 8) && decide (cn ≤ mMc q) && decide (sn ≤ mMs q) then dBr d 3 a (dKc d 0) w (fun w2 => x_run d tb tyl ot f dp k (pc + 3) L (.inl a :: r) h cn sn w2 post) (fun w2 => x_run d tb tyl ot f dp k (pc + 3) L (.inl (dBin d 1 (dKc d 0) a) :: r) h cn sn w2 post) else [w]
            | _ => [w] else [w]
        | .invokevirtual ix => match dp, tCal tb (mO q) ix with
          | dp2 + 1, some (j, so) => match tMth tb j with
            | some q2 => match S.drop (mNp q2) with
              | .inr (some a) :: r => if decide (mNp q2 + 1 ≤ S.length) && decide (so = 0) && decide (x_rc ot h a = some (mRc q2)) && decide (r.length ≤ 8) && decide (mNp q2 + 1 ≤ mL q2) && decide (cn + mMc q2 ≤ mMc q) && decide (sn + mMs q2 ≤ mMs q) then
                    x_run d tb tyl ot f dp2 j 0 (x_en 0 (.inr (some a) :: (S.take (mNp q2)).reverse)) [] h 0 0 w (fun w2 v h2 => x_run d tb tyl ot f dp k (pc + 3) L (x_push v r) h2 (cn + mMc q2) (sn + mMs q2) w2 post) else [w]
              | _ => [w]
            | none => [w]
          | _, _ => [w]
        | .invokespecial ix => match tBi tb (mO q) ix with
          | some 0 => match S with
            | .inr (some _) :: r => if decide (r.length ≤ 8) then x_run d tb tyl ot f dp k (pc + 3) L r h cn sn w post else [w]
            | _ => [w]
          | _ => match dp, tCal tb (mO q) ix with
            | dp2 + 1, some (j, so) => match tMth tb j with
              | some q2 => match S.drop (mNp q2) with
                | .inr (some a) :: r => if decide (mNp q2 + 1 ≤ S.length) && decide (so = 1) && decide (r.length ≤ 8) && decide (mNp q2 + 1 ≤ mL q2) && decide (cn + mMc q2 ≤ mMc q) && decide (sn + mMs q2 ≤ mMs q) then
                    x_run d tb tyl ot f dp2 j 0 (x_en 0 (.inr (some a) :: (S.take (mNp q2)).reverse)) [] h 0 0 w (fun w2 v h2 => x_run d tb tyl ot f dp k (pc + 3) L (x_push v r) h2 (cn + mMc q2) (sn + mMs q2) w2 post) else [w]
                | _ => [w]
              | none => [w]
            | _, _ => [w]
        | .ireturn => match S with
          | [.inl e] => if x_retOk d (mR q) (.inl e) && decide (cn ≤ mMc q) && decide (sn ≤ mMs q) then post w (some (.inl e)) h else [w]
          | _ => [w]
        | .areturn => match S with
          | [.inr a] => if x_retOk d (mR q) (.inr a) && decide (cn ≤ mMc q) && decide (sn ≤ mMs q) then post w (some (.inr a)) h else [w]
          | _ => [w]
        | .return_ => match S with
          | [] => if decide (mR q = none) && decide (cn ≤ mMc q) && decide (sn ≤ mMs q) then post w none h else [w]
          | _ => [w]
        | _ => [w]
end XDefs
end
section
/-! What the evaluator's heap is in the machine's, and what the tables must say. -/
section XOkDefs
variable {E K : Type}
def x_am (base : Nat) (sa : Nat → Nat) (k : Nat) : Nat := if k < 1000000 then base + k else sa k
def x_rv (d : XD E K) (am : Nat → Nat) : XV E → Value
  | .inl e => .int (dEv d e)
  | .inr none => .null
  | .inr (some k) => .ref (am k)
theorem x_rvc (d : XD E K) (am : Nat → Nat) (v : XV E) : (x_rv d am v).category = 1 := by
  rcases v with e | (_ | k) <;> rfl
def x_at (D : va_G) (tc : Nat → ClassId) (cl : List vw_C) (rv : XV E → Value) (a : Nat) (z : XC E) (H : Heap) : Prop := match z with
  | .inl o => ∃ r : vw_C, cl[o.1]? = some r ∧ o.2.length = r.2.2 ∧ t_OB a (D.1 o.1) r.2.2 (D.2 o.1) H (vp_V (o.2.map rv))
  | .inr o => H[a]? = some (arrV (tc o.1) o.2.length (fun j => rv (o.2.getD j (.inr none))))
theorem x_at_kept {D : va_G} {tc : Nat → ClassId} {cl : List vw_C} {rv : XV E → Value} {a : Nat} {z : XC E} {H H1 : Heap} (h : x_at D tc cl rv a z H) (hq : H1[a]? = H[a]?) : x_at D tc cl rv a z H1 := by
  rcases z with o | o
  · obtain ⟨r, h1, h2, h3⟩ := h
    exact ⟨r, h1, h2, h3.kept hq⟩
  · show H1[a]? = _
    rw [hq]
    exact h
def x_Inv (D : va_G) (tc : Nat → ClassId) (cl : List vw_C) (rv : XV E → Value) (base : Nat) (h : List (XC E)) (H : Heap) : Prop :=
  H.size = base + h.length ∧ h.length ≤ 1000000 ∧ ∀ (k : Nat) (z : XC E), h[k]? = some z → x_at D tc cl rv (base + k) z H
def x_TbOk (TS TN : List Jvm.Cond) (cl : List vw_C) (tyl : List FieldType) (tb : XT) : Prop :=
  (∀ k q, tMth tb k = some q → plainName (mY q).cls = true ∧ (k ≠ 0 → Jvm.Cond.code (mY q) (mB q) (mL q) (mR q) ∈ TS) ∧ (k ≠ 0 → Jvm.Cond.initialized (mY q).cls ∈ TS) ∧ ((mY q).cls ≠ "java/lang/invoke/MethodHandle" ∧ (mY q).cls ≠ "java/lang/invoke/VarHandle") ∧ mL q ≤ 40 ∧ tNm tb (mO q) = (mY q).cls ∧
    (parseMethodDescriptor (mY q).desc).map (fun d => d.parameters.length) = some (mNp q) ∧ (mI q = true → (mY q).name = "<init>") ∧ (mI q = true → ∀ r, cl[mRc q]? = some r → r.1 = (mY q).cls) ∧ (∀ pc i n, mC q pc = some (i, n) → decode (mB q) pc = .ok (i, n) ∧ x_lenOk i n = true)) ∧
  (∀ o ix ci j, tFld tb o ix = some (ci, j) → ∃ r, cl[ci]? = some r ∧ j < r.2.2 ∧ Jvm.Cond.fieldLink (tNm tb o) ix (r.2.1 j).1 (r.2.1 j).2.1 (r.2.1 j).2.2.1 ∈ TS) ∧
  (∀ ci r, cl[ci]? = some r → (∀ w ∈ u_ws r.1 r.2.1 r.2.2, w ∈ TS) ∧ (tFt tb ci).length = r.2.2 ∧ (∀ j t, (tFt tb ci)[j]? = some t → parseFieldDescriptor (r.2.1 j).2.2.1 = some t.1 ∧ (r.2.1 j).2.2.2 = t.2) ∧ (∀ a, a < r.2.2 → ∀ b, b < r.2.2 → a ≠ b → (r.2.1 a).2.1 ≠ (r.2.1 b).2.1) ∧
    Jvm.Cond.instantiable r.1 r.2.2 ∈ TS ∧ Jvm.Cond.initialized r.1 ∈ TS ∧ (∀ j, j < r.2.2 → (r.2.1 j).1 = r.1) ∧ tNm tb ci = r.1) ∧
  (∀ o ix ci, tNw tb o ix = some ci → ∃ r, cl[ci]? = some r ∧ Jvm.Cond.classLink (tNm tb o) ix r.1 ∈ TS) ∧
  (∀ o ix j so q, tCal tb o ix = some (j, so) → tMth tb j = some q → j ≠ 0 ∧
    (so = 0 → Jvm.Cond.methodLink (tNm tb o) ix (mY q) ∈ TS ∧ Jvm.Cond.instanceMethod (mY q) ∈ TS ∧ Jvm.Cond.selects (mY q).cls (mY q) (mY q) ∈ TS ∧ ∀ r, cl[mRc q]? = some r → r.1 = (mY q).cls) ∧
    (so = 1 → Jvm.Cond.methodLink (tNm tb o) ix (mY q) ∈ TS ∧ Jvm.Cond.instanceMethod (mY q) ∈ TS ∧ (mY q).name = "<init>" ∧ mR q = none) ∧
    (so = 2 → Jvm.Cond.methodLink (tNm tb o) ix (mY q) ∈ TS ∧ Jvm.Cond.static (mY q) ∈ TS) ∧
    (so = 3 → (∃ host, Jvm.Cond.methodLinkNest (tNm tb o) ix (mY q) host ∈ TN) ∧ Jvm.Cond.static (mY q) ∈ TS) ∧ so ≤ 3) ∧
  (Jvm.Cond.arrayClass .int ∈ TS ∧ Jvm.Cond.arrayClass .boolean ∈ TS ∧ tyl[0]? = some .int ∧ tyl[1]? = some .boolean) ∧
  (∀ o ix t, tAn tb o ix = some t → ∃ C, tyl[t]? = some (.object C) ∧ Jvm.Cond.classLink (tNm tb o) ix C ∈ TS ∧ Jvm.Cond.arrayOver (.object C) ∈ TN) ∧
  (∀ o ix t2 t1, tMn tb o ix = some (t2, t1) → ∃ ty, tyl[t1]? = some ty ∧ (ty = .int ∨ ty = .boolean) ∧ tyl[t2]? = some (.array ty) ∧ Jvm.Cond.classLink (tNm tb o) ix ("[" ++ (FieldType.array ty).toString) ∈ TS ∧ Jvm.Cond.arrayOver (.array ty) ∈ TN ∧ Jvm.Cond.arrayClass ty ∈ TS) ∧
  ((∀ o ix, tBi tb o ix = some 0 → Jvm.Cond.methodLink (tNm tb o) ix Lib.objectInit ∈ TS) ∧ (∀ o ix, tBi tb o ix = some 1 → Jvm.Cond.methodLink (tNm tb o) ix arraycopyName ∈ TS) ∧ Jvm.Cond.instanceMethod Lib.objectInit ∈ TS ∧ Jvm.Cond.code Lib.objectInit ⟨#[0xb1]⟩ 1 none ∈ TS ∧
    Jvm.Cond.native arraycopyName ∈ TS ∧ Jvm.Cond.static arraycopyName ∈ TS ∧ Jvm.Cond.initialized "java/lang/System" ∈ TS ∧
    (∀ o ix, tBi tb o ix = some 2 → Jvm.Cond.methodLink (tNm tb o) ix Lib.Math.max.name ∈ TS ∧ Jvm.Cond.static Lib.Math.max.name ∈ TS ∧ Jvm.Cond.initialized "java/lang/Math" ∈ TS ∧ Jvm.Cond.code Lib.Math.max.name Lib.Math.max.code 2 (some .int) ∈ TS) ∧
    (∀ o ix, tBi tb o ix = some 3 → Jvm.Cond.methodLink (tNm tb o) ix Lib.Math.min.name ∈ TS ∧ Jvm.Cond.static Lib.Math.min.name ∈ TS ∧ Jvm.Cond.initialized "java/lang/Math" ∈ TS ∧ Jvm.Cond.code Lib.Math.min.name Lib.Math.min.code 2 (some .int) ∈ TS) ∧
    (∀ o ix, tBi tb o ix = some 4 → Jvm.Cond.methodLink (tNm tb o) ix Lib.Math.abs.name ∈ TS ∧ Jvm.Cond.static Lib.Math.abs.name ∈ TS ∧ Jvm.Cond.initialized "java/lang/Math" ∈ TS ∧ Jvm.Cond.code Lib.Math.abs.name Lib.Math.abs.code 1 (some .int) ∈ TS)) ∧
  (∀ o ix v, tLi tb o ix = some v → Jvm.Cond.constant (tNm tb o) ix v ∈ TS) ∧
  (∀ w ∈ TS, ((w.onTables && w.keeps) = true ∨ ∃ ty, w = .arrayClass ty)) ∧
  (∀ w ∈ TN, ∀ u U : State, u.WarmedH U.vm → w.before #[] u = true → w.before #[] U = true) ∧ (∀ w ∈ TN, ∀ (a a' : Array Value) (U : State), w.before a U = true → w.before a' U = true) ∧
  (∀ ci, ∀ t ∈ tFt tb ci, t.1 = .int ∨ t.1 = .boolean ∨ x_isRef t.1 = true)
/-- what holds at a method's entry beside its own words -/
def x_Env (TN : List Jvm.Cond) (D : va_G) (cl : List vw_C) (tys : List (ClassId × FieldType)) (XE : State → Heap → Prop) (U : State) (H : Heap) : Prop :=
  va_K D cl tys U ∧ (∀ w ∈ TN, w.before #[] U = true) ∧ XE U H
def x_XeOk (XE : State → Heap → Prop) (base : Nat) : Prop := ∀ (u U : State) (H H1 : Heap), u.WarmedH U.vm → (∀ q : Nat, q < base → H1[q]? = H[q]?) → base ≤ H.size → XE u H → XE U H1
def x_rov (sa : Nat → Nat) : Int32 ⊕ Option Nat → Value
  | .inl v => .int v
  | .inr none => .null
  | .inr (some a) => .ref (sa a)
/-- what lies outside is there -/
def x_OutOk (TS : List Jvm.Cond) (tb : XT) (ot : XO E) (d : XD E K) (XE : State → Heap → Prop) (base : Nat) (sa : Nat → Nat) : Prop :=
  (∀ o ix a, oSl ot o ix = some a → 1000000 < a ∧ ∀ U H, XE U H → ∃ tx, vk_R (tNm tb o) ix tx (sa a) U) ∧
  (∀ a o ix v, oFl ot a o ix = some v → (∀ b, v = .inr (some b) → 1000000 ≤ b) ∧ ∃ C n dd, Jvm.Cond.fieldLink (tNm tb o) ix C n dd ∈ TS ∧ ∀ U H, XE U H → va_OF C n dd (x_rov sa v) (sa a) (fun q => base ≤ q) U H) ∧
  (∀ o ix v, oGs ot o ix = some v → (∀ b, v = .inr (some b) → 1000000 ≤ b) ∧ ∃ C n dd, Jvm.Cond.fieldLink (tNm tb o) ix C n dd ∈ TS ∧ ∀ U H, XE U H → va_Z C n dd (x_rov sa v) (fun q => base ≤ q) U H) ∧
  (∀ a bs, oBy ot a = some bs → ∀ U H, XE U H → va_T .byte (sa a) bs.length (fun j => .int (bs.getD j 0)) (fun q => base ≤ q) U H) ∧
  (∀ U H, XE U H → va_X (sa 1000000) (oSn ot) (fun j => dEv d (oSc ot j)) U H ∧ sa 1000000 < base) ∧
  (∀ a rc q k, oCl ot a = some rc → tMth tb k = some q → mRc q = rc → ∀ U H, XE U H → va_O (mY q).cls (sa a) (fun q => base ≤ q) U H)
theorem x_ov_spec {d : XD E K} (hd : ∀ n, dEv d (dKc d n) = n) {base : Nat} {sa : Nat → Nat} {v : Int32 ⊕ Option Nat} (h : ∀ b, v = .inr (some b) → 1000000 ≤ b) : x_rv d (x_am base sa) (x_ov d v) = x_rov sa v := by
  rcases v with v | (_ | b)
  · exact congrArg Value.int (hd v)
  · rfl
  · have h1 := h b rfl
    show Value.ref (x_am base sa b) = Value.ref (sa b)
    unfold x_am
    rw [if_neg (by omega)]
/-- the frame of a method -/
def x_Cx (TS TN : List Jvm.Cond) (D : va_G) (cl : List vw_C) (tys : List (ClassId × FieldType)) (XE : State → Heap → Prop) (tb : XT) (q : XM) (p : Program) (R : Room) (s : State) (m : MethodId) (args : Array Value) (meth : Method) (c : Code) (base dp : Nat) : Prop :=
  p.tables.exec = Jvm.exec ∧ c.code = mB q ∧ c.maxLocals = mL q ∧ s.vm.findClass (tNm tb (mO q)) = some m.cls ∧ (∀ w ∈ TS, w.before args s = true) ∧ meth.sig.returnType = mR q ∧ meth.locks = false ∧ (mI q = true → meth.name = "<init>") ∧ x_Env TN D cl tys XE s s.heap ∧ base ≤ s.heap.size ∧
  dp + 1 ≤ R.frames ∧ 64 * (dp + 1) ≤ R.locals ∧ mMc q ≤ R.cells ∧ mMs q ≤ R.slots
/-- a method's answer -/
def x_Q (d : XD E K) (D : va_G) (tc : Nat → ClassId) (cl : List vw_C) (am : Nat → Nat) (base : Nat) (post : List K → Option (XV E) → List (XC E) → XR K) : Array Value → State → Outcome → State → Prop := fun _ st o t =>
  (∃ (w : List K) (v : Option (XV E)) (h : List (XC E)), XPa (dHd d) w ∧ XOk (dHd d) (post w v h) ∧ o = .returned (v.map (x_rv d am)) ∧ x_Inv D tc cl (x_rv d am) base h t.heap) ∧ va_F (fun q => base ≤ q) st t
theorem x_bad {hd : K → Prop} {w : List K} (h : XOk hd [w]) (hw : XPa hd w) : False := by
  obtain ⟨k, hk, hn⟩ := h w (List.mem_singleton.mpr rfl)
  exact hn (hw k hk)
theorem x_if {hd : K → Prop} {w : List K} {b : Prop} {i : Decidable b} {r : XR K} (h : XOk hd (@ite _ b i r [w])) (hw : XPa hd w) : b ∧ XOk hd r := by
  by_cases hb : b
  · rw [if_pos hb] at h
    exact ⟨hb, h⟩
  · rw [if_neg hb] at h
    exact (x_bad h hw).elim
theorem x_jp_spec {pc t : Nat} {off : Int} (h : x_jp pc off = some t) : (pc : Int) + off = (t : Int) := by
  unfold x_jp at h
  by_cases hz : 0 ≤ (pc : Int) + off
  · rw [if_pos hz] at h
    cases h
    omega
  · rw [if_neg hz] at h
    cases h
theorem x_len1 {i : Instr} {n m : Nat} (h : x_lenOk i n = true) (hm : x_lenOk i n = (n == m)) : n = m := by
  rw [hm] at h
  simpa using h
theorem x_lk_spec {d : XD E K} {am : Nat → Nat} {ls : Array Slot} {nL : Nat} {L : List (Nat × XV E)} {i : Nat} {v : XV E} (hl : lv_has ls nL (L.map (fun q => (q.1, x_rv d am q.2)))) (h : x_lk L i = some v) : ls[i]? = some (.val (x_rv d am v)) := by
  unfold x_lk at h
  obtain ⟨q, hq, rfl⟩ := Option.map_eq_some_iff.mp h
  have h1 := List.mem_of_find?_eq_some hq
  have h2 := List.find?_some hq
  simp only [beq_iff_eq] at h2
  subst h2
  exact hl.2.2 (q.1, x_rv d am q.2) (List.mem_map.mpr ⟨q, h1, rfl⟩)
theorem x_st_spec (d : XD E K) (am : Nat → Nat) (L : List (Nat × XV E)) (i : Nat) (v : XV E) : (i, x_rv d am v) :: (L.map (fun q => (q.1, x_rv d am q.2))).filter (fun q => !(q.1 == i) && !(q.1 + 1 == i && q.2.category == 2)) = (x_st L i v).map (fun q => (q.1, x_rv d am q.2)) := by
  unfold x_st
  rw [List.map_cons, List.filter_map]
  refine congrArg _ (congrArg _ (List.filter_congr fun q _ => ?_))
  have hc : ((x_rv d am q.2).category == 2) = false := by rw [x_rvc]; rfl
  simp [hc]
theorem x_en_spec (d : XD E K) (am : Nat → Nat) : ∀ (vs : List (XV E)) (i : Nat), lv_args i (vs.map (x_rv d am)) = (x_en i vs).map (fun q => (q.1, x_rv d am q.2))
  | [], _ => rfl
  | v :: vs, i => by
    show (i, x_rv d am v) :: lv_args (if (x_rv d am v).category = 2 then i + 2 else i + 1) (vs.map (x_rv d am)) = (i, x_rv d am v) :: _
    rw [x_rvc, if_neg (by decide), x_en_spec d am vs (i + 1)]
theorem x_sl (d : XD E K) (am : Nat → Nat) : ∀ vs : List (XV E), (lg_sl (vs.map (x_rv d am))).length = vs.length
  | [] => rfl
  | v :: vs => by
    have ih := x_sl d am vs
    unfold lg_sl at ih ⊢
    rw [List.map_cons, List.flatMap_cons, x_rvc, if_neg (by decide), List.length_append, ih]
    simp [Nat.add_comm]
theorem x_cats (d : XD E K) (am : Nat → Nat) : ∀ S : List (XV E), ((S.map (x_rv d am)).map fun v => v.category).sum = S.length
  | [] => rfl
  | v :: S => by
    rw [List.map_cons, List.map_cons, List.sum_cons, x_rvc, x_cats d am S, List.length_cons, Nat.add_comm]
/-- an index that is known, or told apart -/
theorem x_clamp (j : Nat) (h : j < 2000) : (nI j).toNatClampNeg = j ∧ ¬ nI j < 0 := ⟨nI_clamp (by omega), nI_pos (by omega)⟩
theorem x_ixs_spec {d : XD E K} (hd : x_DmOk d) {a : E} {kk : Nat → List K → XR K} : ∀ (n : Nat) (w : List K), n ≤ 2000 → XOk (dHd d) (x_ixs d a kk n w) → XPa (dHd d) w → ∃ w2, XPa (dHd d) w2 ∧ (dEv d a).toNatClampNeg < n ∧ ¬ dEv d a < 0 ∧ XOk (dHd d) (kk (dEv d a).toNatClampNeg w2)
  | 0, w, _, h, hw => (x_bad h hw).elim
  | n + 1, w, hn, h, hw => by
    obtain ⟨w2, h2, h3⟩ := hd.2.2.2.2 0 a (dKc d (nI n)) w _ _ h hw
    rw [hd.1] at h3
    rcases h3 with ⟨e, h3⟩ | ⟨-, h3⟩
    · have e2 : dEv d a = nI n := of_decide_eq_true e
      obtain ⟨c1, c2⟩ := x_clamp n (by omega)
      rw [e2, c1]
      exact ⟨w2, h2, Nat.lt_succ_self n, c2, h3⟩
    · obtain ⟨w3, g1, g2, g3, g4⟩ := x_ixs_spec hd n w2 (by omega) h3 h2
      exact ⟨w3, g1, by omega, g3, g4⟩
theorem x_ix_spec {d : XD E K} (hd : x_DmOk d) {a : E} {kk : Nat → List K → XR K} {n : Nat} {w : List K} (h : XOk (dHd d) (x_ix d a n w kk)) (hw : XPa (dHd d) w) : ∃ w2, XPa (dHd d) w2 ∧ (dEv d a).toNatClampNeg < n ∧ ¬ dEv d a < 0 ∧ XOk (dHd d) (kk (dEv d a).toNatClampNeg w2) := by
  unfold x_ix at h
  split at h
  · rename_i v hv
    have e := hd.2.2.2.1 a v hv
    rw [e]
    by_cases hb : (decide (v < 0) || decide (n ≤ v.toNatClampNeg)) = true
    · rw [if_pos hb] at h
      exact (x_bad h hw).elim
    · rw [if_neg hb] at h
      simp only [Bool.or_eq_true, decide_eq_true_eq, not_or] at hb
      exact ⟨w, hw, by omega, hb.1, h⟩
  · obtain ⟨hb, h⟩ := x_if h hw
    exact x_ixs_spec hd n w (by omega) h hw
/-- a switch's pairs: where it goes -/
theorem x_sw_spec {d : XD E K} (hd : x_DmOk d) {a : E} {dflt : Int} {kk : Int → List K → XR K} : ∀ (ps : List (Int × Int)) (w : List K), XOk (dHd d) (x_sw d a dflt kk ps w) → XPa (dHd d) w → ∃ w2, XPa (dHd d) w2 ∧ XOk (dHd d) (kk (Op.lookupswitch.offset ps dflt (dEv d a).toInt) w2)
  | [], w, h, hw => ⟨w, hw, h⟩
  | (k, o) :: r, w, h, hw => by
    obtain ⟨hk, h⟩ := x_if h hw
    obtain ⟨w2, h2, h3⟩ := hd.2.2.2.2 0 a (dKc d (Int32.ofInt k)) w _ _ h hw
    rw [hd.1] at h3
    rcases h3 with ⟨e, h3⟩ | ⟨e, h3⟩
    · have e2 : dEv d a = Int32.ofInt k := of_decide_eq_true e
      have e3 : Op.lookupswitch.offset ((k, o) :: r) dflt (dEv d a).toInt = o := by
        rw [e2, hk]
        simp [Op.lookupswitch.offset]
      rw [e3]
      exact ⟨w2, h2, h3⟩
    · have e2 : ¬ dEv d a = Int32.ofInt k := of_decide_eq_false e
      rw [lv_osw e2 hk]
      exact x_sw_spec hd r w2 h3 h2
theorem x_tp_out (dflt : Int) : ∀ (os : List Int) (lo x : Int), (x < lo ∨ lo + os.length ≤ x) → Op.lookupswitch.offset (x_tp lo os) dflt x = dflt
  | [], _, _, _ => rfl
  | o :: r, lo, x, h => by
    have ih := x_tp_out dflt r (lo + 1) x (by simp only [List.length_cons] at h; omega)
    have hne : ¬ x = lo := by simp only [List.length_cons] at h; omega
    have hne2 : ¬ lo = x := fun q => hne q.symm
    simp only [x_tp, Op.lookupswitch.offset] at ih ⊢
    first | (rw [if_neg hne]; exact ih) | (rw [if_neg hne2]; exact ih) | simp_all
theorem x_tp_in (dflt : Int) : ∀ (os : List Int) (lo x : Int), lo ≤ x → x < lo + os.length → os[(x - lo).toNat]? = some (Op.lookupswitch.offset (x_tp lo os) dflt x)
  | [], lo, x, h1, h2 => by simp only [List.length_nil] at h2; omega
  | o :: r, lo, x, h1, h2 => by
    by_cases he : x = lo
    · subst he
      simp [x_tp, Op.lookupswitch.offset]
    · have ih := x_tp_in dflt r (lo + 1) x (by omega) (by simp only [List.length_cons] at h2; omega)
      have e1 : (x - lo).toNat = (x - (lo + 1)).toNat + 1 := by omega
      have he2 : ¬ lo = x := fun q => he q.symm
      rw [e1, List.getElem?_cons_succ, ih]
      simp only [x_tp, Op.lookupswitch.offset]
      first | rw [if_neg he] | rw [if_neg he2] | simp_all
end XOkDefs
end
section
/-! Ints as terms over unknowns: known where they can be known; a question whose answer isn't known goes both ways. -/
section XSym
/-- .arg i: an unknown; .elem (.add (.index o) a) b: operation o of a and b; .length (.add (.index o) a): of a -/
def tEv (ρ : Nat → Int32) : Jvm.Term → Int32
  | .int v => v
  | .arg i => ρ i
  | .elem (.add (.index o) a) b => x_bin o (tEv ρ a) (tEv ρ b)
  | .length (.add (.index o) a) => x_un o (tEv ρ a)
  | _ => 0
def tBin (o : Nat) (a b : Jvm.Term) : Jvm.Term := match a, b with
  | .int x, .int y => .int (x_bin o x y)
  | a, b => if o = 3 ∧ b = .int (-1) then a else .elem (.add (.index o) a) b
def tUn (o : Nat) (a : Jvm.Term) : Jvm.Term := match a with
  | .int x => .int (x_un o x)
  | a => .length (.add (.index o) a)
def tKst : Jvm.Term → Option Int32
  | .int v => some v
  | _ => none
/-- what holds on a way: (less, not equal), a, b, whether it is so -/
abbrev TK : Type := Bool × Jvm.Term × Jvm.Term × Bool
def tRel (ρ : Nat → Int32) (k : TK) : Bool := if k.1 then decide (tEv ρ k.2.1 < tEv ρ k.2.2.1) else decide (tEv ρ k.2.1 = tEv ρ k.2.2.1)
def tHd (ρ : Nat → Int32) (k : TK) : Prop := tRel ρ k = k.2.2.2
/-- what one entry says of e from below, from above -/
def tLo (e : Jvm.Term) (k : TK) : Int := match k with
  | (true, a, .int v, false) => if a = e then v.toInt else -2147483648
  | (true, .int v, b, true) => if b = e then v.toInt + 1 else -2147483648
  | (false, a, .int v, true) => if a = e then v.toInt else -2147483648
  | _ => -2147483648
def tHi (e : Jvm.Term) (k : TK) : Int := match k with
  | (true, a, .int v, true) => if a = e then v.toInt - 1 else 2147483647
  | (true, .int v, b, false) => if b = e then v.toInt else 2147483647
  | (false, a, .int v, true) => if a = e then v.toInt else 2147483647
  | _ => 2147483647
def tLb (e : Jvm.Term) : List TK → Int
  | [] => -2147483648
  | k :: w => let m := tLb e w; let x := tLo e k; if m ≤ x then x else m
def tUb (e : Jvm.Term) : List TK → Int
  | [] => 2147483647
  | k :: w => let m := tUb e w; let x := tHi e k; if x ≤ m then x else m
/-- is e known not to be l -/
def tNe (e : Jvm.Term) (l : Int) : List TK → Bool
  | [] => false
  | k :: w => (match k with
    | (false, a, .int v, false) => decide (a = e) && decide (v.toInt = l)
    | (false, .int v, b, false) => decide (b = e) && decide (v.toInt = l)
    | _ => false) || tNe e l w
def tUp (e : Jvm.Term) (w : List TK) : Nat → Int → Int
  | 0, l => l
  | n + 1, l => if tNe e l w then tUp e w n (l + 1) else l
def tDn (e : Jvm.Term) (w : List TK) : Nat → Int → Int
  | 0, l => l
  | n + 1, l => if tNe e l w then tDn e w n (l - 1) else l
def tL (e : Jvm.Term) (w : List TK) : Int := match e with
  | .int v => v.toInt
  | e => tUp e w 8 (tLb e w)
def tU (e : Jvm.Term) (w : List TK) : Int := match e with
  | .int v => v.toInt
  | e => tDn e w 8 (tUb e w)
theorem tRng (x : Int32) : -2147483648 ≤ x.toInt ∧ x.toInt ≤ 2147483647 := by
  have h1 := Int32.le_toInt x
  have h2 := Int32.toInt_lt x
  constructor <;> omega
theorem tLo_spec {ρ : Nat → Int32} {e : Jvm.Term} {k : TK} (h : tHd ρ k) : tLo e k ≤ (tEv ρ e).toInt := by
  have hr := (tRng (tEv ρ e)).1
  unfold tLo
  split
  · split
    · rename_i a v he
      subst he
      have h1 : decide (tEv ρ a < v) = false := h
      have h2 := of_decide_eq_false h1
      have h3 := Int32.not_lt.mp h2
      exact Int32.le_iff_toInt_le.mp h3
    · exact hr
  · split
    · rename_i v b he
      subst he
      have h1 : decide (v < tEv ρ b) = true := h
      have h2 := Int32.lt_iff_toInt_lt.mp (of_decide_eq_true h1)
      omega
    · exact hr
  · split
    · rename_i a v he
      subst he
      have h1 : decide (tEv ρ a = v) = true := h
      have h2 := of_decide_eq_true h1
      rw [h2]
      exact Int.le_refl _
    · exact hr
  · exact hr
theorem tHi_spec {ρ : Nat → Int32} {e : Jvm.Term} {k : TK} (h : tHd ρ k) : (tEv ρ e).toInt ≤ tHi e k := by
  have hr := (tRng (tEv ρ e)).2
  unfold tHi
  split
  · split
    · rename_i a v he
      subst he
      have h1 : decide (tEv ρ a < v) = true := h
      have h2 := Int32.lt_iff_toInt_lt.mp (of_decide_eq_true h1)
      omega
    · exact hr
  · split
    · rename_i v b he
      subst he
      have h1 : decide (v < tEv ρ b) = false := h
      have h2 := Int32.not_lt.mp (of_decide_eq_false h1)
      exact Int32.le_iff_toInt_le.mp h2
    · exact hr
  · split
    · rename_i a v he
      subst he
      have h1 : decide (tEv ρ a = v) = true := h
      have h2 := of_decide_eq_true h1
      rw [h2]
      exact Int.le_refl _
    · exact hr
  · exact hr
theorem tLb_spec {ρ : Nat → Int32} {e : Jvm.Term} : ∀ {w : List TK}, XPa (tHd ρ) w → tLb e w ≤ (tEv ρ e).toInt
  | [], _ => (tRng _).1
  | k :: w, h => by
    have h1 := tLb_spec (e := e) (w := w) (fun z hz => h z (List.mem_cons_of_mem _ hz))
    have h2 := tLo_spec (e := e) (h k List.mem_cons_self)
    show (if tLb e w ≤ tLo e k then tLo e k else tLb e w) ≤ _
    split <;> assumption
theorem tUb_spec {ρ : Nat → Int32} {e : Jvm.Term} : ∀ {w : List TK}, XPa (tHd ρ) w → (tEv ρ e).toInt ≤ tUb e w
  | [], _ => (tRng _).2
  | k :: w, h => by
    have h1 := tUb_spec (e := e) (w := w) (fun z hz => h z (List.mem_cons_of_mem _ hz))
    have h2 := tHi_spec (e := e) (h k List.mem_cons_self)
    show _ ≤ (if tHi e k ≤ tUb e w then tHi e k else tUb e w)
    split <;> assumption
theorem tNe_spec {ρ : Nat → Int32} {e : Jvm.Term} {l : Int} : ∀ {w : List TK}, XPa (tHd ρ) w → tNe e l w = true → (tEv ρ e).toInt ≠ l
  | [], _, h => by cases h
  | k :: w, hw, h => by
    simp only [tNe, Bool.or_eq_true] at h
    rcases h with h | h
    · have hk := hw k List.mem_cons_self
      split at h
      · rename_i a v
        simp only [Bool.and_eq_true, decide_eq_true_eq] at h
        obtain ⟨rfl, h2⟩ := h
        have h1 : decide (tEv ρ a = v) = false := hk
        intro h3
        exact of_decide_eq_false h1 (Int32.toInt_inj.mp (h3.trans h2.symm))
      · rename_i v b _
        simp only [Bool.and_eq_true, decide_eq_true_eq] at h
        obtain ⟨rfl, h2⟩ := h
        have h1 : decide (v = tEv ρ b) = false := hk
        intro h3
        exact of_decide_eq_false h1 (Int32.toInt_inj.mp (h2.trans h3.symm))
      · cases h
    · exact tNe_spec (fun z hz => hw z (List.mem_cons_of_mem _ hz)) h
theorem tUp_spec {ρ : Nat → Int32} {e : Jvm.Term} {w : List TK} (hw : XPa (tHd ρ) w) : ∀ (n : Nat) (l : Int), l ≤ (tEv ρ e).toInt → tUp e w n l ≤ (tEv ρ e).toInt
  | 0, _, h => h
  | n + 1, l, h => by
    simp only [tUp]
    split
    · rename_i hn
      have h1 := tNe_spec hw hn
      exact tUp_spec hw n (l + 1) (by omega)
    · exact h
theorem tDn_spec {ρ : Nat → Int32} {e : Jvm.Term} {w : List TK} (hw : XPa (tHd ρ) w) : ∀ (n : Nat) (l : Int), (tEv ρ e).toInt ≤ l → (tEv ρ e).toInt ≤ tDn e w n l
  | 0, _, h => h
  | n + 1, l, h => by
    simp only [tDn]
    split
    · rename_i hn
      have h1 := tNe_spec hw hn
      exact tDn_spec hw n (l - 1) (by omega)
    · exact h
theorem tL_spec {ρ : Nat → Int32} {e : Jvm.Term} {w : List TK} (h : XPa (tHd ρ) w) : tL e w ≤ (tEv ρ e).toInt := by
  unfold tL
  split
  · exact Int.le_refl _
  · exact tUp_spec h 8 _ (tLb_spec h)
theorem tU_spec {ρ : Nat → Int32} {e : Jvm.Term} {w : List TK} (h : XPa (tHd ρ) w) : (tEv ρ e).toInt ≤ tU e w := by
  unfold tU
  split
  · exact Int.le_refl _
  · exact tDn_spec h 8 _ (tUb_spec h)
/-- the value where what holds tells it -/
def tKv (w : List TK) : Jvm.Term → Option Int32
  | .int v => some v
  | .arg i => if tL (.arg i) w = tU (.arg i) w then some (Int32.ofInt (tL (.arg i) w)) else none
  | .elem (.add (.index o) a) b => match tKv w a, tKv w b with
    | some x, some y => some (x_bin o x y)
    | _, _ => none
  | .length (.add (.index o) a) => match tKv w a with
    | some x => some (x_un o x)
    | none => none
  | _ => none
theorem tKv_spec {ρ : Nat → Int32} {w : List TK} (h : XPa (tHd ρ) w) : ∀ (e : Jvm.Term) (v : Int32), tKv w e = some v → tEv ρ e = v
  | .int v, u, hv => by
    simp only [tKv, Option.some.injEq] at hv
    exact hv
  | .arg i, u, hv => by
    simp only [tKv] at hv
    split at hv
    · rename_i he
      have h1 := tL_spec (e := .arg i) h
      have h2 := tU_spec (e := .arg i) h
      have h3 : (tEv ρ (.arg i)).toInt = tL (.arg i) w := by omega
      simp only [Option.some.injEq] at hv
      rw [← hv, ← h3]
      exact (Int32.ofInt_toInt _).symm
    · cases hv
  | .elem (.add (.index o) a) b, u, hv => by
    simp only [tKv] at hv
    split at hv
    · rename_i x y hx hy
      simp only [Option.some.injEq] at hv
      rw [← hv, ← tKv_spec h a x hx, ← tKv_spec h b y hy]
      rfl
    · cases hv
  | .length (.add (.index o) a), u, hv => by
    simp only [tKv] at hv
    split at hv
    · rename_i x hx
      simp only [Option.some.injEq] at hv
      rw [← hv, ← tKv_spec h a x hx]
      rfl
    · cases hv
/-- an unknown of a term that has only few values left -/
def tFew (w : List TK) : Jvm.Term → Option (Nat × Int × Nat)
  | .arg i => let l := tL (.arg i) w; let u := tU (.arg i) w; if l < u ∧ u ≤ l + 8 then some (i, l, (u - l).toNat + 1) else none
  | .elem (.add (.index _) a) b => match tFew w a with
    | some q => some q
    | none => tFew w b
  | .length (.add (.index _) a) => tFew w a
  | _ => none
def tPlain : Jvm.Term → Bool
  | .int _ => true
  | .arg _ => true
  | _ => false
theorem tFew_spec {ρ : Nat → Int32} {w : List TK} (h : XPa (tHd ρ) w) : ∀ (e : Jvm.Term) (i : Nat) (l : Int) (n : Nat), tFew w e = some (i, l, n) → l ≤ (ρ i).toInt ∧ (ρ i).toInt < l + n
  | .arg j, i, l, n, hv => by
    simp only [tFew] at hv
    split at hv
    · rename_i he
      simp only [Option.some.injEq, Prod.mk.injEq] at hv
      obtain ⟨rfl, rfl, rfl⟩ := hv
      have h1 := tL_spec (e := .arg j) h
      have h2 := tU_spec (e := .arg j) h
      have h3 : tEv ρ (.arg j) = ρ j := rfl
      rw [h3] at h1 h2
      omega
    · cases hv
  | .elem (.add (.index o) a) b, i, l, n, hv => by
    simp only [tFew] at hv
    split at hv
    · rename_i q hq
      simp only [Option.some.injEq] at hv
      subst hv
      exact tFew_spec h a i l n hq
    · exact tFew_spec h b i l n hv
  | .length (.add (.index o) a), i, l, n, hv => by
    simp only [tFew] at hv
    exact tFew_spec h a i l n hv
def tFork (kk : List TK → XR TK) (i : Nat) (l : Int) (w : List TK) : Nat → XR TK
  | 0 => []
  | n + 1 => kk ((false, .arg i, .int (Int32.ofInt (l + n)), true) :: w) ++ tFork kk i l w n
def tFind (b : Bool) (x y : Jvm.Term) : List TK → Option Bool
  | [] => none
  | k :: w => if k.1 = b ∧ k.2.1 = x ∧ k.2.2.1 = y then some k.2.2.2 else tFind b x y w
theorem tFind_spec {ρ : Nat → Int32} {b t : Bool} {x y : Jvm.Term} : ∀ {w : List TK}, XPa (tHd ρ) w → tFind b x y w = some t → tRel ρ (b, x, y, true) = t
  | [], _, h => by cases h
  | k :: w, hw, h => by
    simp only [tFind] at h
    split at h
    · rename_i he
      obtain ⟨e1, e2, e3⟩ := he
      have h1 : tRel ρ k = k.2.2.2 := hw k List.mem_cons_self
      simp only [Option.some.injEq] at h
      rw [← h, ← h1]
      unfold tRel
      rw [e1, e2, e3]
    · exact tFind_spec (fun z hz => hw z (List.mem_cons_of_mem _ hz)) h
/-- the question: less (or equal), a, b -/
def tAsk : Nat → Bool → Jvm.Term → Jvm.Term → List TK → (List TK → XR TK) → (List TK → XR TK) → XR TK
  | 0, _, _, _, w, _, _ => [w]
  | f + 1, b, x, y, w, kt, kf => match tKv w x, tKv w y with
    | some u, some v => if (if b then decide (u < v) else decide (u = v)) then kt w else kf w
    | _, _ =>
      if x = y then (if b then kf w else kt w) else if b then
        if tU x w < tL y w then kt w else if tU y w ≤ tL x w then kf w else match tFind b x y w with
          | some true => kt w
          | some false => kf w
          | none => match (if tPlain x && tPlain y then none else match tFew w x with | some q => some q | none => tFew w y) with
            | some (i, l, n) => tFork (fun w2 => tAsk f b x y w2 kt kf) i l w n
            | none => kt ((b, x, y, true) :: w) ++ kf ((b, x, y, false) :: w)
      else
        if tU x w < tL y w then kf w else if tU y w < tL x w then kf w else match tFind b x y w with
          | some true => kt w
          | some false => kf w
          | none => match (if tPlain x && tPlain y then none else match tFew w x with | some q => some q | none => tFew w y) with
            | some (i, l, n) => tFork (fun w2 => tAsk f b x y w2 kt kf) i l w n
            | none => kt ((b, x, y, true) :: w) ++ kf ((b, x, y, false) :: w)
theorem tOkApp {ρ : Nat → Int32} {r1 r2 : XR TK} (h : XOk (tHd ρ) (r1 ++ r2)) : XOk (tHd ρ) r1 ∧ XOk (tHd ρ) r2 := ⟨fun b hb => h b (List.mem_append_left _ hb), fun b hb => h b (List.mem_append_right _ hb)⟩
theorem tFork_spec {ρ : Nat → Int32} {kk : List TK → XR TK} {i : Nat} {l : Int} {w : List TK} (hw : XPa (tHd ρ) w) : ∀ n : Nat, XOk (tHd ρ) (tFork kk i l w n) → l ≤ (ρ i).toInt → (ρ i).toInt < l + n → ∃ w2, XPa (tHd ρ) w2 ∧ XOk (tHd ρ) (kk w2)
  | 0, _, h1, h2 => by omega
  | n + 1, h, h1, h2 => by
    obtain ⟨g1, g2⟩ := tOkApp h
    by_cases he : (ρ i).toInt = l + n
    · refine ⟨_, ?_, g1⟩
      intro k hk
      rcases List.mem_cons.mp hk with rfl | hk
      · show decide (ρ i = Int32.ofInt (l + n)) = true
        rw [← he, Int32.ofInt_toInt]
        simp
      · exact hw k hk
    · exact tFork_spec hw n g2 h1 (by omega)
theorem tCons {ρ : Nat → Int32} {w : List TK} {k : TK} (hw : XPa (tHd ρ) w) (h : tHd ρ k) : XPa (tHd ρ) (k :: w) := fun z hz => by
  rcases List.mem_cons.mp hz with rfl | hz
  · exact h
  · exact hw z hz
theorem tAsk_spec {ρ : Nat → Int32} {b : Bool} {x y : Jvm.Term} {kt kf : List TK → XR TK} : ∀ (f : Nat) (w : List TK), XOk (tHd ρ) (tAsk f b x y w kt kf) → XPa (tHd ρ) w → ∃ w2, XPa (tHd ρ) w2 ∧ ((tRel ρ (b, x, y, true) = true ∧ XOk (tHd ρ) (kt w2)) ∨ (tRel ρ (b, x, y, true) = false ∧ XOk (tHd ρ) (kf w2)))
  | 0, w, h, hw => (x_bad h hw).elim
  | f + 1, w, h, hw => by
    have both : XOk (tHd ρ) (kt ((b, x, y, true) :: w) ++ kf ((b, x, y, false) :: w)) → ∃ w2, XPa (tHd ρ) w2 ∧ ((tRel ρ (b, x, y, true) = true ∧ XOk (tHd ρ) (kt w2)) ∨ (tRel ρ (b, x, y, true) = false ∧ XOk (tHd ρ) (kf w2))) := fun h => by
      obtain ⟨g1, g2⟩ := tOkApp h
      by_cases hr : tRel ρ (b, x, y, true) = true
      · exact ⟨_, tCons hw hr, Or.inl ⟨hr, g1⟩⟩
      · have hr2 : tRel ρ (b, x, y, true) = false := by simpa using hr
        exact ⟨_, tCons hw (show tRel ρ (b, x, y, false) = false from hr2), Or.inr ⟨hr2, g2⟩⟩
    have found : ∀ t, tFind b x y w = some t → XOk (tHd ρ) (if t then kt w else kf w) → ∃ w2, XPa (tHd ρ) w2 ∧ ((tRel ρ (b, x, y, true) = true ∧ XOk (tHd ρ) (kt w2)) ∨ (tRel ρ (b, x, y, true) = false ∧ XOk (tHd ρ) (kf w2))) := fun t ht h => by
      have h1 := tFind_spec hw ht
      cases t
      · exact ⟨w, hw, Or.inr ⟨h1, h⟩⟩
      · exact ⟨w, hw, Or.inl ⟨h1, h⟩⟩
    have few : ∀ i l n, (if tPlain x && tPlain y then none else match tFew w x with | some q => some q | none => tFew w y) = some (i, l, n) → XOk (tHd ρ) (tFork (fun w2 => tAsk f b x y w2 kt kf) i l w n) → ∃ w2, XPa (tHd ρ) w2 ∧ ((tRel ρ (b, x, y, true) = true ∧ XOk (tHd ρ) (kt w2)) ∨ (tRel ρ (b, x, y, true) = false ∧ XOk (tHd ρ) (kf w2))) := fun i l n hq h => by
      have hr : l ≤ (ρ i).toInt ∧ (ρ i).toInt < l + n := by
        split at hq
        · cases hq
        · split at hq
          · rename_i q hq1
            simp only [Option.some.injEq] at hq
            subst hq
            exact tFew_spec hw x i l n hq1
          · exact tFew_spec hw y i l n hq
      obtain ⟨w2, g1, g2⟩ := tFork_spec hw n h hr.1 hr.2
      exact tAsk_spec f w2 g2 g1
    have hx1 := tL_spec (e := x) hw
    have hx2 := tU_spec (e := x) hw
    have hy1 := tL_spec (e := y) hw
    have hy2 := tU_spec (e := y) hw
    rw [tAsk.eq_def] at h
    dsimp only at h
    split at h
    · rename_i u v hu hv
      have e1 := tKv_spec hw x u hu
      have e2 := tKv_spec hw y v hv
      have e3 : tRel ρ (b, x, y, true) = (if b then decide (u < v) else decide (u = v)) := by
        unfold tRel
        rw [e1, e2]
      rw [e3]
      by_cases hc : (if b then decide (u < v) else decide (u = v)) = true
      · rw [if_pos hc] at h
        exact ⟨w, hw, Or.inl ⟨hc, h⟩⟩
      · rw [if_neg hc] at h
        exact ⟨w, hw, Or.inr ⟨Bool.eq_false_iff.mpr hc, h⟩⟩
    · by_cases hxy : x = y
      · rw [if_pos hxy] at h
        subst hxy
        cases b
        · exact ⟨w, hw, Or.inl ⟨by simp [tRel], h⟩⟩
        · refine ⟨w, hw, Or.inr ⟨?_, h⟩⟩
          exact decide_eq_false (fun z => by have z2 : (tEv ρ x).toInt < (tEv ρ x).toInt := Int32.lt_iff_toInt_lt.mp z; omega)
      rw [if_neg hxy] at h
      split at h
      · rename_i hb
        split at h
        · refine ⟨w, hw, Or.inl ⟨?_, h⟩⟩
          unfold tRel
          rw [if_pos hb]
          exact decide_eq_true (Int32.lt_iff_toInt_lt.mpr (show (tEv ρ x).toInt < (tEv ρ y).toInt by omega))
        · split at h
          · refine ⟨w, hw, Or.inr ⟨?_, h⟩⟩
            unfold tRel
            rw [if_pos hb]
            exact decide_eq_false (fun z => by have z2 : (tEv ρ x).toInt < (tEv ρ y).toInt := Int32.lt_iff_toInt_lt.mp z; omega)
          · split at h
            · rename_i ht
              exact found true ht h
            · rename_i ht
              exact found false ht h
            · split at h
              · rename_i i l n hq
                exact few i l n hq h
              · exact both h
      · rename_i hb
        split at h
        · refine ⟨w, hw, Or.inr ⟨?_, h⟩⟩
          unfold tRel
          rw [if_neg hb]
          exact decide_eq_false (fun z => by have z2 : (tEv ρ x).toInt = (tEv ρ y).toInt := congrArg Int32.toInt z; omega)
        · split at h
          · refine ⟨w, hw, Or.inr ⟨?_, h⟩⟩
            unfold tRel
            rw [if_neg hb]
            exact decide_eq_false (fun z => by have z2 : (tEv ρ x).toInt = (tEv ρ y).toInt := congrArg Int32.toInt z; omega)
          · split at h
            · rename_i ht
              exact found true ht h
            · rename_i ht
              exact found false ht h
            · split at h
              · rename_i i l n hq
                exact few i l n hq h
              · exact both h
def tBr (o : Nat) (a b : Jvm.Term) (w : List TK) (kt kf : List TK → XR TK) : XR TK := match o with
  | 0 => tAsk 4 false a b w kt kf
  | 1 => tAsk 4 false a b w kf kt
  | 2 => tAsk 4 true a b w kt kf
  | 3 => tAsk 4 true a b w kf kt
  | 4 => tAsk 4 true b a w kt kf
  | _ => tAsk 4 true b a w kf kt
def tD (ρ : Nat → Int32) : XD Jvm.Term TK := (tEv ρ, fun v => .int v, tBin, tUn, tKst, tHd ρ, tBr)
theorem tBin_spec (ρ : Nat → Int32) (o : Nat) (a b : Jvm.Term) : tEv ρ (tBin o a b) = x_bin o (tEv ρ a) (tEv ρ b) := by
  unfold tBin
  split
  · rfl
  · split
    · rename_i h
      obtain ⟨rfl, rfl⟩ := h
      show tEv ρ a = tEv ρ a &&& (-1)
      apply Int32.toBitVec_inj.mp
      simp
    · rfl
theorem tUn_spec (ρ : Nat → Int32) (o : Nat) (a : Jvm.Term) : tEv ρ (tUn o a) = x_un o (tEv ρ a) := by
  unfold tUn
  split <;> rfl
theorem tBr_spec (ρ : Nat → Int32) (o : Nat) (a b : Jvm.Term) (w : List TK) (kt kf : List TK → XR TK) (h : XOk (tHd ρ) (tBr o a b w kt kf)) (hw : XPa (tHd ρ) w) : ∃ w', XPa (tHd ρ) w' ∧ ((x_cmp o (tEv ρ a) (tEv ρ b) = true ∧ XOk (tHd ρ) (kt w')) ∨ (x_cmp o (tEv ρ a) (tEv ρ b) = false ∧ XOk (tHd ρ) (kf w'))) := by
  have neg : ∀ (p : Prop) (i : Decidable p) (q : Prop) (j : Decidable q), (q ↔ ¬ p) → @decide p i = !(@decide q j) := fun p i q j hq => by
    by_cases hp : p
    · simp [hp, hq]
    · simp [hp, hq]
  unfold tBr at h
  split at h
  · exact tAsk_spec 4 w h hw
  · obtain ⟨w2, g1, g2⟩ := tAsk_spec 4 w h hw
    have e : tRel ρ (false, a, b, true) = !(x_cmp 1 (tEv ρ a) (tEv ρ b)) := neg _ _ _ _ Iff.rfl
    rw [e] at g2
    refine ⟨w2, g1, ?_⟩
    rcases g2 with ⟨z1, z2⟩ | ⟨z1, z2⟩
    · exact Or.inr ⟨by simpa using z1, z2⟩
    · exact Or.inl ⟨by simpa using z1, z2⟩
  · exact tAsk_spec 4 w h hw
  · obtain ⟨w2, g1, g2⟩ := tAsk_spec 4 w h hw
    have e : tRel ρ (true, a, b, true) = !(x_cmp 3 (tEv ρ a) (tEv ρ b)) := neg _ _ _ _ Int32.not_lt.symm
    rw [e] at g2
    refine ⟨w2, g1, ?_⟩
    rcases g2 with ⟨z1, z2⟩ | ⟨z1, z2⟩
    · exact Or.inr ⟨by simpa using z1, z2⟩
    · exact Or.inl ⟨by simpa using z1, z2⟩
  · exact tAsk_spec 4 w h hw
  · rename_i o' h0 h1 h2 h3 h4
    obtain ⟨w2, g1, g2⟩ := tAsk_spec 4 w h hw
    have e0 : x_cmp o (tEv ρ a) (tEv ρ b) = decide (tEv ρ a ≤ tEv ρ b) := by
      unfold x_cmp
      split <;> first | rfl | (exfalso; simp_all; done)
    have e : tRel ρ (true, b, a, true) = !(decide (tEv ρ a ≤ tEv ρ b)) := neg _ _ _ _ Int32.not_lt.symm
    rw [e] at g2
    rw [e0]
    refine ⟨w2, g1, ?_⟩
    rcases g2 with ⟨z1, z2⟩ | ⟨z1, z2⟩
    · exact Or.inr ⟨by simpa using z1, z2⟩
    · exact Or.inl ⟨by simpa using z1, z2⟩
theorem tD_ok (ρ : Nat → Int32) : x_DmOk (tD ρ) := by
  refine ⟨fun _ => rfl, tBin_spec ρ, tUn_spec ρ, fun a n h => ?_, tBr_spec ρ⟩
  cases a <;> simp [tD, dKst, tKst] at h
  subst h
  rfl
end XSym
end
section
/-! The evaluator at ints that are known: what it comes to, a row an instruction. -/
section XTo
def dC : XD Int32 Unit := (fun x => x, fun x => x, x_bin, x_un, fun x => some x, fun _ => True, fun o a b w kt kf => if x_cmp o a b = true then kt w else kf w)
theorem dC_ok : x_DmOk dC := ⟨fun _ => rfl, fun _ _ _ => rfl, fun _ _ => rfl, fun _ _ h => Option.some.inj h, fun o a b w kt kf h hw => ⟨w, hw, by
  have h : XOk (dHd dC) (if x_cmp o a b = true then kt w else kf w) := h
  by_cases c : x_cmp o a b = true
  · rw [if_pos c] at h
    exact Or.inl ⟨c, h⟩
  · rw [if_neg c] at h
    exact Or.inr ⟨Bool.eq_false_iff.mpr c, h⟩⟩⟩
/-- from this place on the evaluator comes to that answer and that heap, with all fuel from some on -/
def x_To (tb : XT) (tyl : List FieldType) (ot : XO Int32) (dp k pc : Nat) (L : List (Nat × XV Int32)) (S : List (XV Int32)) (H : List (XC Int32)) (cn sn : Nat) (v : Option (XV Int32)) (H2 : List (XC Int32)) : Prop :=
  ∃ f1 : Nat, ∀ f, f1 ≤ f → ∀ (w : List Unit) (post : List Unit → Option (XV Int32) → List (XC Int32) → XR Unit), XOk (dHd dC) (post w v H2) → XOk (dHd dC) (x_run dC tb tyl ot f dp k pc L S H cn sn w post)
variable {tb : XT} {tyl : List FieldType} {ot : XO Int32} {dp k pc n cn sn : Nat} {q : XM} {L : List (Nat × XV Int32)} {S : List (XV Int32)} {H H2 : List (XC Int32)} {v : Option (XV Int32)}
theorem x_to1 {cur nxt : Nat → List Unit → (List Unit → Option (XV Int32) → List (XC Int32) → XR Unit) → XR Unit} (e : ∀ f w post, cur (f + 1) w post = nxt f w post)
    (h : ∃ f1 : Nat, ∀ f, f1 ≤ f → ∀ w post, XOk (dHd dC) (post w v H2) → XOk (dHd dC) (nxt f w post)) : ∃ f1 : Nat, ∀ f, f1 ≤ f → ∀ w post, XOk (dHd dC) (post w v H2) → XOk (dHd dC) (cur f w post) := by
  obtain ⟨f1, h⟩ := h
  refine ⟨f1 + 1, fun f hf w post hp => ?_⟩
  obtain ⟨g, rfl⟩ : ∃ g, f = g + 1 := ⟨f - 1, by omega⟩
  rw [e]
  exact h g (by omega) w post hp
theorem dC_br (x : Nat) (a b : Int32) (w : List Unit) (kt kf : List Unit → XR Unit) : dBr dC x a b w kt kf = if x_cmp x a b = true then kt w else kf w := rfl
theorem dC_kst (a : Int32) : dKst dC a = some a := rfl
theorem x_ix_dC {e : Int32} {m : Nat} {w : List Unit} {kk : Nat → List Unit → XR Unit} (h : (decide (e < 0) || decide (m ≤ e.toNatClampNeg)) = false) : x_ix dC e m w kk = kk e.toNatClampNeg w := by
  simp only [x_ix, dC_kst, h, Bool.false_eq_true, if_false]
def x_swk (ps : List (Int × Int)) : Bool := ps.all (fun q => decide ((Int32.ofInt q.1).toInt = q.1))
def x_swo (a : Int32) (df : Int) : List (Int × Int) → Int
  | [] => df
  | q :: r => if a = Int32.ofInt q.1 then q.2 else x_swo a df r
theorem x_sw_dC {a : Int32} {df : Int} {kk : Int → List Unit → XR Unit} {w : List Unit} : ∀ {ps : List (Int × Int)}, x_swk ps = true → x_sw dC a df kk ps w = kk (x_swo a df ps) w
  | [], _ => rfl
  | q :: r, h => by
    have h1 : decide ((Int32.ofInt q.1).toInt = q.1) = true ∧ x_swk r = true := by
      simpa only [x_swk, List.all_cons, Bool.and_eq_true] using h
    have h2 := of_decide_eq_true h1.1
    have ih := x_sw_dC (kk := kk) (w := w) (a := a) (df := df) h1.2
    show (if (Int32.ofInt q.1).toInt = q.1 then (if x_cmp 0 a (Int32.ofInt q.1) = true then kk q.2 w else x_sw dC a df kk r w) else [w]) = kk (if a = Int32.ofInt q.1 then q.2 else x_swo a df r) w
    rw [if_pos h2]
    by_cases c : a = Int32.ofInt q.1
    · rw [if_pos c, if_pos (show x_cmp 0 a (Int32.ofInt q.1) = true from decide_eq_true c)]
    · rw [if_neg c, if_neg (show ¬ x_cmp 0 a (Int32.ofInt q.1) = true from fun h => c (of_decide_eq_true h)), ih]
theorem x_n21 : ((some 2 : Option Nat) = some 1) = False := eq_false (by decide)
theorem x_n31 : ((some 3 : Option Nat) = some 1) = False := eq_false (by decide)
theorem x_n32 : ((some 3 : Option Nat) = some 2) = False := eq_false (by decide)
theorem xT_iconst {x : Int} (hq : tMth tb k = some q) (hi : mC q pc = some (.iconst x, n))  (h : x_To tb tyl ot dp k (pc + 1) L (.inl (dKc dC (Int32.ofInt x)) :: S) H cn sn v H2) : x_To tb tyl ot dp k pc L S H cn sn v H2 := x_to1 (fun f w post => by
  simp only [x_run, hq, hi]) h
theorem xT_bipush {x : _} (hq : tMth tb k = some q) (hi : mC q pc = some (.bipush x, n))  (h : x_To tb tyl ot dp k (pc + 2) L (.inl (dKc dC (Int8.ofInt x).toInt32) :: S) H cn sn v H2) : x_To tb tyl ot dp k pc L S H cn sn v H2 := x_to1 (fun f w post => by
  simp only [x_run, hq, hi]) h
theorem xT_sipush {x : _} (hq : tMth tb k = some q) (hi : mC q pc = some (.sipush x, n))  (h : x_To tb tyl ot dp k (pc + 3) L (.inl (dKc dC (Int16.ofInt x).toInt32) :: S) H cn sn v H2) : x_To tb tyl ot dp k pc L S H cn sn v H2 := x_to1 (fun f w post => by
  simp only [x_run, hq, hi]) h
theorem xT_ldc {ix : _} {x : Int32} (hq : tMth tb k = some q) (hi : mC q pc = some (.ldc ix, n)) (h1 : tLi tb (mO q) ix = some x) (h : x_To tb tyl ot dp k (pc + 2) L (.inl (dKc dC x) :: S) H cn sn v H2) : x_To tb tyl ot dp k pc L S H cn sn v H2 := x_to1 (fun f w post => by
  simp only [x_run, hq, hi, h1]) h
theorem xT_ldcT {ix : _} {a : Nat} (hq : tMth tb k = some q) (hi : mC q pc = some (.ldc ix, n)) (h1 : tLi tb (mO q) ix = none) (h2 : oSl ot (mO q) ix = some a) (h : x_To tb tyl ot dp k (pc + 2) L (.inr (some a) :: S) H cn sn v H2) : x_To tb tyl ot dp k pc L S H cn sn v H2 := x_to1 (fun f w post => by
  simp only [x_run, hq, hi, h1, h2]) h
theorem xT_ldc_w {ix : _} {x : Int32} (hq : tMth tb k = some q) (hi : mC q pc = some (.ldc_w ix, n)) (h1 : tLi tb (mO q) ix = some x) (h : x_To tb tyl ot dp k (pc + 3) L (.inl (dKc dC x) :: S) H cn sn v H2) : x_To tb tyl ot dp k pc L S H cn sn v H2 := x_to1 (fun f w post => by
  simp only [x_run, hq, hi, h1]) h
theorem xT_aconst_null  (hq : tMth tb k = some q) (hi : mC q pc = some (.aconst_null, n))  (h : x_To tb tyl ot dp k (pc + 1) L (.inr none :: S) H cn sn v H2) : x_To tb tyl ot dp k pc L S H cn sn v H2 := x_to1 (fun f w post => by
  simp only [x_run, hq, hi]) h
theorem xT_iload_n {j : _} {a : Int32} (hq : tMth tb k = some q) (hi : mC q pc = some (.iload_n j, n)) (h1 : x_lk L j = some (.inl a)) (h : x_To tb tyl ot dp k (pc + 1) L (.inl a :: S) H cn sn v H2) : x_To tb tyl ot dp k pc L S H cn sn v H2 := x_to1 (fun f w post => by
  simp only [x_run, hq, hi, h1]) h
theorem xT_iload {j : _} {a : Int32} (hq : tMth tb k = some q) (hi : mC q pc = some (.iload j, n)) (h1 : x_lk L j = some (.inl a)) (h : x_To tb tyl ot dp k (pc + 2) L (.inl a :: S) H cn sn v H2) : x_To tb tyl ot dp k pc L S H cn sn v H2 := x_to1 (fun f w post => by
  simp only [x_run, hq, hi, h1]) h
theorem xT_aload_n {j : _} {a : Option Nat} (hq : tMth tb k = some q) (hi : mC q pc = some (.aload_n j, n)) (h1 : x_lk L j = some (.inr a)) (h : x_To tb tyl ot dp k (pc + 1) L (.inr a :: S) H cn sn v H2) : x_To tb tyl ot dp k pc L S H cn sn v H2 := x_to1 (fun f w post => by
  simp only [x_run, hq, hi, h1]) h
theorem xT_aload {j : _} {a : Option Nat} (hq : tMth tb k = some q) (hi : mC q pc = some (.aload j, n)) (h1 : x_lk L j = some (.inr a)) (h : x_To tb tyl ot dp k (pc + 2) L (.inr a :: S) H cn sn v H2) : x_To tb tyl ot dp k pc L S H cn sn v H2 := x_to1 (fun f w post => by
  simp only [x_run, hq, hi, h1]) h
theorem xT_istore_n {j : _} {a : Int32} (hq : tMth tb k = some q) (hi : mC q pc = some (.istore_n j, n)) (h1 : (j : Nat) < mL q) (h : x_To tb tyl ot dp k (pc + 1) (x_st L j (.inl a)) S H cn sn v H2) : x_To tb tyl ot dp k pc L (.inl a :: S) H cn sn v H2 := x_to1 (fun f w post => by
  simp only [x_run, hq, hi, if_pos h1]) h
theorem xT_istore {j : _} {a : Int32} (hq : tMth tb k = some q) (hi : mC q pc = some (.istore j, n)) (h1 : (j : Nat) < mL q) (h : x_To tb tyl ot dp k (pc + 2) (x_st L j (.inl a)) S H cn sn v H2) : x_To tb tyl ot dp k pc L (.inl a :: S) H cn sn v H2 := x_to1 (fun f w post => by
  simp only [x_run, hq, hi, if_pos h1]) h
theorem xT_astore_n {j : _} {a : Option Nat} (hq : tMth tb k = some q) (hi : mC q pc = some (.astore_n j, n)) (h1 : (j : Nat) < mL q) (h : x_To tb tyl ot dp k (pc + 1) (x_st L j (.inr a)) S H cn sn v H2) : x_To tb tyl ot dp k pc L (.inr a :: S) H cn sn v H2 := x_to1 (fun f w post => by
  simp only [x_run, hq, hi, if_pos h1]) h
theorem xT_astore {j : _} {a : Option Nat} (hq : tMth tb k = some q) (hi : mC q pc = some (.astore j, n)) (h1 : (j : Nat) < mL q) (h : x_To tb tyl ot dp k (pc + 2) (x_st L j (.inr a)) S H cn sn v H2) : x_To tb tyl ot dp k pc L (.inr a :: S) H cn sn v H2 := x_to1 (fun f w post => by
  simp only [x_run, hq, hi, if_pos h1]) h
theorem xT_iinc {j : _} {x : _} {a : Int32} (hq : tMth tb k = some q) (hi : mC q pc = some (.iinc j x, n)) (h1 : x_lk L j = some (.inl a)) (h2 : j < mL q) (h : x_To tb tyl ot dp k (pc + 3) (x_st L j (.inl (dBin dC 0 a (dKc dC (Int32.ofInt x))))) S H cn sn v H2) : x_To tb tyl ot dp k pc L S H cn sn v H2 := x_to1 (fun f w post => by
  simp only [x_run, hq, hi, h1, if_pos h2]) h
theorem xT_dup {a : XV Int32} (hq : tMth tb k = some q) (hi : mC q pc = some (.dup, n))  (h : x_To tb tyl ot dp k (pc + 1) L (a :: a :: S) H cn sn v H2) : x_To tb tyl ot dp k pc L (a :: S) H cn sn v H2 := x_to1 (fun f w post => by
  simp only [x_run, hq, hi]) h
theorem xT_dup_x1 {a b : XV Int32} (hq : tMth tb k = some q) (hi : mC q pc = some (.dup_x1, n))  (h : x_To tb tyl ot dp k (pc + 1) L (a :: b :: a :: S) H cn sn v H2) : x_To tb tyl ot dp k pc L (a :: b :: S) H cn sn v H2 := x_to1 (fun f w post => by
  simp only [x_run, hq, hi]) h
theorem xT_dup2 {a b : XV Int32} (hq : tMth tb k = some q) (hi : mC q pc = some (.dup2, n))  (h : x_To tb tyl ot dp k (pc + 1) L (a :: b :: a :: b :: S) H cn sn v H2) : x_To tb tyl ot dp k pc L (a :: b :: S) H cn sn v H2 := x_to1 (fun f w post => by
  simp only [x_run, hq, hi]) h
theorem xT_pop {a : XV Int32} (hq : tMth tb k = some q) (hi : mC q pc = some (.pop, n))  (h : x_To tb tyl ot dp k (pc + 1) L S H cn sn v H2) : x_To tb tyl ot dp k pc L (a :: S) H cn sn v H2 := x_to1 (fun f w post => by
  simp only [x_run, hq, hi]) h
theorem xT_iadd {a b : Int32} (hq : tMth tb k = some q) (hi : mC q pc = some (.iadd, n))  (h : x_To tb tyl ot dp k (pc + 1) L (.inl (dBin dC 0 a b) :: S) H cn sn v H2) : x_To tb tyl ot dp k pc L (.inl b :: .inl a :: S) H cn sn v H2 := x_to1 (fun f w post => by
  simp only [x_run, hq, hi]) h
theorem xT_isub {a b : Int32} (hq : tMth tb k = some q) (hi : mC q pc = some (.isub, n))  (h : x_To tb tyl ot dp k (pc + 1) L (.inl (dBin dC 1 a b) :: S) H cn sn v H2) : x_To tb tyl ot dp k pc L (.inl b :: .inl a :: S) H cn sn v H2 := x_to1 (fun f w post => by
  simp only [x_run, hq, hi]) h
theorem xT_imul {a b : Int32} (hq : tMth tb k = some q) (hi : mC q pc = some (.imul, n))  (h : x_To tb tyl ot dp k (pc + 1) L (.inl (dBin dC 2 a b) :: S) H cn sn v H2) : x_To tb tyl ot dp k pc L (.inl b :: .inl a :: S) H cn sn v H2 := x_to1 (fun f w post => by
  simp only [x_run, hq, hi]) h
theorem xT_iand {a b : Int32} (hq : tMth tb k = some q) (hi : mC q pc = some (.iand, n))  (h : x_To tb tyl ot dp k (pc + 1) L (.inl (dBin dC 3 a b) :: S) H cn sn v H2) : x_To tb tyl ot dp k pc L (.inl b :: .inl a :: S) H cn sn v H2 := x_to1 (fun f w post => by
  simp only [x_run, hq, hi]) h
theorem xT_ior {a b : Int32} (hq : tMth tb k = some q) (hi : mC q pc = some (.ior, n))  (h : x_To tb tyl ot dp k (pc + 1) L (.inl (dBin dC 4 a b) :: S) H cn sn v H2) : x_To tb tyl ot dp k pc L (.inl b :: .inl a :: S) H cn sn v H2 := x_to1 (fun f w post => by
  simp only [x_run, hq, hi]) h
theorem xT_ixor {a b : Int32} (hq : tMth tb k = some q) (hi : mC q pc = some (.ixor, n))  (h : x_To tb tyl ot dp k (pc + 1) L (.inl (dBin dC 5 a b) :: S) H cn sn v H2) : x_To tb tyl ot dp k pc L (.inl b :: .inl a :: S) H cn sn v H2 := x_to1 (fun f w post => by
  simp only [x_run, hq, hi]) h
theorem xT_ishl {a b : Int32} (hq : tMth tb k = some q) (hi : mC q pc = some (.ishl, n))  (h : x_To tb tyl ot dp k (pc + 1) L (.inl (dBin dC 6 a b) :: S) H cn sn v H2) : x_To tb tyl ot dp k pc L (.inl b :: .inl a :: S) H cn sn v H2 := x_to1 (fun f w post => by
  simp only [x_run, hq, hi]) h
theorem xT_ishr {a b : Int32} (hq : tMth tb k = some q) (hi : mC q pc = some (.ishr, n))  (h : x_To tb tyl ot dp k (pc + 1) L (.inl (dBin dC 7 a b) :: S) H cn sn v H2) : x_To tb tyl ot dp k pc L (.inl b :: .inl a :: S) H cn sn v H2 := x_to1 (fun f w post => by
  simp only [x_run, hq, hi]) h
theorem xT_iushr {a b : Int32} (hq : tMth tb k = some q) (hi : mC q pc = some (.iushr, n))  (h : x_To tb tyl ot dp k (pc + 1) L (.inl (dBin dC 10 a b) :: S) H cn sn v H2) : x_To tb tyl ot dp k pc L (.inl b :: .inl a :: S) H cn sn v H2 := x_to1 (fun f w post => by
  simp only [x_run, hq, hi]) h
theorem xT_idiv {a b : Int32} (hq : tMth tb k = some q) (hi : mC q pc = some (.idiv, n)) (h1 : x_cmp 0 b (dKc dC 0) = false) (h : x_To tb tyl ot dp k (pc + 1) L (.inl (dBin dC 8 a b) :: S) H cn sn v H2) : x_To tb tyl ot dp k pc L (.inl b :: .inl a :: S) H cn sn v H2 := x_to1 (fun f w post => by
  simp only [x_run, hq, hi, dC_br, h1, Bool.false_eq_true, if_false, if_true]) h
theorem xT_irem {a b : Int32} (hq : tMth tb k = some q) (hi : mC q pc = some (.irem, n)) (h1 : x_cmp 0 b (dKc dC 0) = false) (h : x_To tb tyl ot dp k (pc + 1) L (.inl (dBin dC 9 a b) :: S) H cn sn v H2) : x_To tb tyl ot dp k pc L (.inl b :: .inl a :: S) H cn sn v H2 := x_to1 (fun f w post => by
  simp only [x_run, hq, hi, dC_br, h1, Bool.false_eq_true, if_false, if_true]) h
theorem xT_i2b {a : Int32} (hq : tMth tb k = some q) (hi : mC q pc = some (.i2b, n))  (h : x_To tb tyl ot dp k (pc + 1) L (.inl (dUn dC 0 a) :: S) H cn sn v H2) : x_To tb tyl ot dp k pc L (.inl a :: S) H cn sn v H2 := x_to1 (fun f w post => by
  simp only [x_run, hq, hi]) h
theorem xT_i2s {a : Int32} (hq : tMth tb k = some q) (hi : mC q pc = some (.i2s, n))  (h : x_To tb tyl ot dp k (pc + 1) L (.inl (dUn dC 1 a) :: S) H cn sn v H2) : x_To tb tyl ot dp k pc L (.inl a :: S) H cn sn v H2 := x_to1 (fun f w post => by
  simp only [x_run, hq, hi]) h
theorem xT_i2c {a : Int32} (hq : tMth tb k = some q) (hi : mC q pc = some (.i2c, n))  (h : x_To tb tyl ot dp k (pc + 1) L (.inl (dUn dC 2 a) :: S) H cn sn v H2) : x_To tb tyl ot dp k pc L (.inl a :: S) H cn sn v H2 := x_to1 (fun f w post => by
  simp only [x_run, hq, hi]) h
theorem xT_ineg {a : Int32} (hq : tMth tb k = some q) (hi : mC q pc = some (.ineg, n))  (h : x_To tb tyl ot dp k (pc + 1) L (.inl (dUn dC 3 a) :: S) H cn sn v H2) : x_To tb tyl ot dp k pc L (.inl a :: S) H cn sn v H2 := x_to1 (fun f w post => by
  simp only [x_run, hq, hi]) h
theorem xT_goto {x : _} {t : Nat} (hq : tMth tb k = some q) (hi : mC q pc = some (.goto x, n)) (h1 : x_jp pc x = some t) (h : x_To tb tyl ot dp k t L S H cn sn v H2) : x_To tb tyl ot dp k pc L S H cn sn v H2 := x_to1 (fun f w post => by
  simp only [x_run, hq, hi, h1]) h
theorem xT_ifCondY {c : _} {x : _} {t : Nat} {a : Int32} (hq : tMth tb k = some q) (hi : mC q pc = some (.ifCond c x, n)) (h0 : x_jp pc x = some t) (h1 : x_cmp (x_cn c) a (dKc dC 0) = true) (h : x_To tb tyl ot dp k t L S H cn sn v H2) : x_To tb tyl ot dp k pc L (.inl a :: S) H cn sn v H2 := x_to1 (fun f w post => by
  simp only [x_run, hq, hi, h0, dC_br, h1, Bool.false_eq_true, if_false, if_true]) h
theorem xT_if_icmpY {c : _} {x : _} {t : Nat} {a b : Int32} (hq : tMth tb k = some q) (hi : mC q pc = some (.if_icmp c x, n)) (h0 : x_jp pc x = some t) (h1 : x_cmp (x_cn c) a b = true) (h : x_To tb tyl ot dp k t L S H cn sn v H2) : x_To tb tyl ot dp k pc L (.inl b :: .inl a :: S) H cn sn v H2 := x_to1 (fun f w post => by
  simp only [x_run, hq, hi, h0, dC_br, h1, Bool.false_eq_true, if_false, if_true]) h
theorem xT_ifCondN {c : _} {x : _} {t : Nat} {a : Int32} (hq : tMth tb k = some q) (hi : mC q pc = some (.ifCond c x, n)) (h0 : x_jp pc x = some t) (h1 : x_cmp (x_cn c) a (dKc dC 0) = false) (h : x_To tb tyl ot dp k (pc + 3) L S H cn sn v H2) : x_To tb tyl ot dp k pc L (.inl a :: S) H cn sn v H2 := x_to1 (fun f w post => by
  simp only [x_run, hq, hi, h0, dC_br, h1, Bool.false_eq_true, if_false, if_true]) h
theorem xT_if_icmpN {c : _} {x : _} {t : Nat} {a b : Int32} (hq : tMth tb k = some q) (hi : mC q pc = some (.if_icmp c x, n)) (h0 : x_jp pc x = some t) (h1 : x_cmp (x_cn c) a b = false) (h : x_To tb tyl ot dp k (pc + 3) L S H cn sn v H2) : x_To tb tyl ot dp k pc L (.inl b :: .inl a :: S) H cn sn v H2 := x_to1 (fun f w post => by
  simp only [x_run, hq, hi, h0, dC_br, h1, Bool.false_eq_true, if_false, if_true]) h
theorem xT_ifnull0 {x : _} {t : Nat} (hq : tMth tb k = some q) (hi : mC q pc = some (.ifnull x, n)) (h0 : x_jp pc x = some t) (h : x_To tb tyl ot dp k t L S H cn sn v H2) : x_To tb tyl ot dp k pc L (.inr none :: S) H cn sn v H2 := x_to1 (fun f w post => by
  simp only [x_run, hq, hi, h0]) h
theorem xT_ifnull1 {x : _} {t a : Nat} (hq : tMth tb k = some q) (hi : mC q pc = some (.ifnull x, n)) (h0 : x_jp pc x = some t) (h : x_To tb tyl ot dp k (pc + 3) L S H cn sn v H2) : x_To tb tyl ot dp k pc L (.inr (some a) :: S) H cn sn v H2 := x_to1 (fun f w post => by
  simp only [x_run, hq, hi, h0]) h
theorem xT_ifnonnull0 {x : _} {t : Nat} (hq : tMth tb k = some q) (hi : mC q pc = some (.ifnonnull x, n)) (h0 : x_jp pc x = some t) (h : x_To tb tyl ot dp k (pc + 3) L S H cn sn v H2) : x_To tb tyl ot dp k pc L (.inr none :: S) H cn sn v H2 := x_to1 (fun f w post => by
  simp only [x_run, hq, hi, h0]) h
theorem xT_ifnonnull1 {x : _} {t a : Nat} (hq : tMth tb k = some q) (hi : mC q pc = some (.ifnonnull x, n)) (h0 : x_jp pc x = some t) (h : x_To tb tyl ot dp k t L S H cn sn v H2) : x_To tb tyl ot dp k pc L (.inr (some a) :: S) H cn sn v H2 := x_to1 (fun f w post => by
  simp only [x_run, hq, hi, h0]) h
theorem xT_tableswitch {df lo up : Int} {os : _} {t : Nat} {a : Int32} (hq : tMth tb k = some q) (hi : mC q pc = some (.tableswitch df lo up os, n)) (h0 : up + 1 = lo + os.size) (h1 : x_swk (x_tp lo os.toList) = true) (h2 : x_jp pc (x_swo a df (x_tp lo os.toList)) = some t) (h : x_To tb tyl ot dp k t L S H cn sn v H2) : x_To tb tyl ot dp k pc L (.inl a :: S) H cn sn v H2 := x_to1 (fun f w post => by
  simp only [x_run, hq, hi, if_pos h0, x_sw_dC h1, h2]) h
theorem xT_lookupswitch {df : Int} {ps : _} {t : Nat} {a : Int32} (hq : tMth tb k = some q) (hi : mC q pc = some (.lookupswitch df ps, n)) (h0 : (ps.toList.zip (ps.toList.drop 1)).all (fun (a, next) => a.1 < next.1) = true) (h1 : x_swk ps.toList = true) (h2 : x_jp pc (x_swo a df ps.toList) = some t) (h : x_To tb tyl ot dp k t L S H cn sn v H2) : x_To tb tyl ot dp k pc L (.inl a :: S) H cn sn v H2 := x_to1 (fun f w post => by
  simp only [x_run, hq, hi, if_pos h0, x_sw_dC h1, h2]) h
theorem xT_getfield {ix a ci j c2 : Nat} {fs : List (XV Int32)} {u : XV Int32} (hq : tMth tb k = some q) (hi : mC q pc = some (.getfield ix, n)) (h0 : ¬ 1000000 < a) (h1 : tFld tb (mO q) ix = some (ci, j)) (h2 : H[a]? = some (.inl (c2, fs))) (h3 : c2 = ci) (h4 : fs[j]? = some u) (h : x_To tb tyl ot dp k (pc + 3) L (u :: S) H cn sn v H2) : x_To tb tyl ot dp k pc L (.inr (some a) :: S) H cn sn v H2 := x_to1 (fun f w post => by
  simp only [x_run, hq, hi, if_neg h0, h1, h2, h3, h4, decide_true]) h
theorem xT_getfieldO {ix a : Nat} {u : _} (hq : tMth tb k = some q) (hi : mC q pc = some (.getfield ix, n)) (h0 : 1000000 < a) (h1 : oFl ot a (mO q) ix = some u) (h : x_To tb tyl ot dp k (pc + 3) L (x_ov dC u :: S) H cn sn v H2) : x_To tb tyl ot dp k pc L (.inr (some a) :: S) H cn sn v H2 := x_to1 (fun f w post => by
  simp only [x_run, hq, hi, if_pos h0, h1]) h
theorem xT_getstatic {ix : Nat} {u : _} (hq : tMth tb k = some q) (hi : mC q pc = some (.getstatic ix, n)) (h1 : oGs ot (mO q) ix = some u) (h : x_To tb tyl ot dp k (pc + 3) L (x_ov dC u :: S) H cn sn v H2) : x_To tb tyl ot dp k pc L S H cn sn v H2 := x_to1 (fun f w post => by
  simp only [x_run, hq, hi, h1]) h
theorem xT_arraylengthS  (hq : tMth tb k = some q) (hi : mC q pc = some (.arraylength, n))  (h : x_To tb tyl ot dp k (pc + 1) L (.inl (dKc dC (Int32.ofNat (oSn ot))) :: S) H cn sn v H2) : x_To tb tyl ot dp k pc L (.inr (some 1000000) :: S) H cn sn v H2 := x_to1 (fun f w post => by
  simp only [x_run, hq, hi, if_true]) h
theorem xT_arraylengthB {a : Nat} {bs : List Int32} (hq : tMth tb k = some q) (hi : mC q pc = some (.arraylength, n)) (h0 : ¬ a = 1000000) (h1 : oBy ot a = some bs) (h2 : 1000000 < a) (h : x_To tb tyl ot dp k (pc + 1) L (.inl (dKc dC (Int32.ofNat bs.length)) :: S) H cn sn v H2) : x_To tb tyl ot dp k pc L (.inr (some a) :: S) H cn sn v H2 := x_to1 (fun f w post => by
  simp only [x_run, hq, hi, if_neg h0, h1, if_pos h2]) h
theorem xT_putfield {ix a ci j c2 : Nat} {fs : List (XV Int32)} {u : XV Int32} {ty : FieldType × Bool} (hq : tMth tb k = some q) (hi : mC q pc = some (.putfield ix, n)) (h1 : tFld tb (mO q) ix = some (ci, j)) (h2 : H[a]? = some (.inl (c2, fs))) (h3 : (tFt tb ci)[j]? = some ty) (h4 : (decide (c2 = ci) && x_fit dC ty.1 u && decide (j < fs.length) && (!ty.2 || (mI q && decide (mRc q = ci)))) = true) (h : x_To tb tyl ot dp k (pc + 3) L S (H.set a (.inl (c2, fs.set j u))) cn sn v H2) : x_To tb tyl ot dp k pc L (u :: .inr (some a) :: S) H cn sn v H2 := x_to1 (fun f w post => by
  simp only [x_run, hq, hi, h1, h2, h3, h4, if_true]) h
theorem xT_ialoadS {e : Int32} (hq : tMth tb k = some q) (hi : mC q pc = some (.iaload, n)) (h2 : (decide (e < 0) || decide (oSn ot ≤ e.toNatClampNeg)) = false) (h : x_To tb tyl ot dp k (pc + 1) L (.inl (oSc ot e.toNatClampNeg) :: S) H cn sn v H2) : x_To tb tyl ot dp k pc L (.inl e :: .inr (some 1000000) :: S) H cn sn v H2 := x_to1 (fun f w post => by
  simp only [x_run, hq, hi, if_true, x_ix_dC h2]) h
theorem xT_iaload {e : Int32} {a : Nat} {vs : List (XV Int32)} {u : XV Int32} (hq : tMth tb k = some q) (hi : mC q pc = some (.iaload, n)) (h0 : ¬ a = 1000000) (h1 : H[a]? = some (.inr (0, vs))) (h2 : (decide (e < 0) || decide (vs.length ≤ e.toNatClampNeg)) = false) (h3 : vs[e.toNatClampNeg]? = some u) (h : x_To tb tyl ot dp k (pc + 1) L (u :: S) H cn sn v H2) : x_To tb tyl ot dp k pc L (.inl e :: .inr (some a) :: S) H cn sn v H2 := x_to1 (fun f w post => by
  simp only [x_run, hq, hi, if_neg h0, h1, x_ix_dC h2, h3]) h
theorem xT_baloadO {e : Int32} {a : Nat} {bs : List Int32} (hq : tMth tb k = some q) (hi : mC q pc = some (.baload, n)) (h0 : 1000000 < a) (h1 : oBy ot a = some bs) (h2 : (decide (e < 0) || decide (bs.length ≤ e.toNatClampNeg)) = false) (h : x_To tb tyl ot dp k (pc + 1) L (.inl (dKc dC (bs.getD e.toNatClampNeg 0)) :: S) H cn sn v H2) : x_To tb tyl ot dp k pc L (.inl e :: .inr (some a) :: S) H cn sn v H2 := x_to1 (fun f w post => by
  simp only [x_run, hq, hi, if_pos h0, h1, x_ix_dC h2]) h
theorem xT_baload {e : Int32} {a : Nat} {vs : List (XV Int32)} {u : XV Int32} (hq : tMth tb k = some q) (hi : mC q pc = some (.baload, n)) (h0 : ¬ 1000000 < a) (h1 : H[a]? = some (.inr (1, vs))) (h2 : (decide (e < 0) || decide (vs.length ≤ e.toNatClampNeg)) = false) (h3 : vs[e.toNatClampNeg]? = some u) (h : x_To tb tyl ot dp k (pc + 1) L (u :: S) H cn sn v H2) : x_To tb tyl ot dp k pc L (.inl e :: .inr (some a) :: S) H cn sn v H2 := x_to1 (fun f w post => by
  simp only [x_run, hq, hi, if_neg h0, h1, x_ix_dC h2, h3]) h
theorem xT_aaload {e : Int32} {a t : Nat} {vs : List (XV Int32)} {u : XV Int32} (hq : tMth tb k = some q) (hi : mC q pc = some (.aaload, n)) (h0 : (tyl[t]?.map x_isRef) = some true) (h1 : H[a]? = some (.inr (t, vs))) (h2 : (decide (e < 0) || decide (vs.length ≤ e.toNatClampNeg)) = false) (h3 : vs[e.toNatClampNeg]? = some u) (h : x_To tb tyl ot dp k (pc + 1) L (u :: S) H cn sn v H2) : x_To tb tyl ot dp k pc L (.inl e :: .inr (some a) :: S) H cn sn v H2 := x_to1 (fun f w post => by
  simp only [x_run, hq, hi, h1, if_pos h0, x_ix_dC h2, h3]) h
theorem xT_iastore {x e : Int32} {a : Nat} {vs : List (XV Int32)} (hq : tMth tb k = some q) (hi : mC q pc = some (.iastore, n)) (h1 : H[a]? = some (.inr (0, vs))) (h2 : (decide (e < 0) || decide (vs.length ≤ e.toNatClampNeg)) = false) (h : x_To tb tyl ot dp k (pc + 1) L S (H.set a (.inr (0, vs.set e.toNatClampNeg (.inl x)))) cn sn v H2) : x_To tb tyl ot dp k pc L (.inl x :: .inl e :: .inr (some a) :: S) H cn sn v H2 := x_to1 (fun f w post => by
  simp only [x_run, hq, hi, h1, x_ix_dC h2]) h
theorem xT_bastore {x e : Int32} {a : Nat} {vs : List (XV Int32)} (hq : tMth tb k = some q) (hi : mC q pc = some (.bastore, n)) (h0 : x_fit dC .boolean (.inl x) = true) (h1 : H[a]? = some (.inr (1, vs))) (h2 : (decide (e < 0) || decide (vs.length ≤ e.toNatClampNeg)) = false) (h : x_To tb tyl ot dp k (pc + 1) L S (H.set a (.inr (1, vs.set e.toNatClampNeg (.inl x)))) cn sn v H2) : x_To tb tyl ot dp k pc L (.inl x :: .inl e :: .inr (some a) :: S) H cn sn v H2 := x_to1 (fun f w post => by
  simp only [x_run, hq, hi, h1, if_pos h0, x_ix_dC h2]) h
theorem xT_aastore {e : Int32} {a u t ci : Nat} {gs vs : List (XV Int32)} {C : String} (hq : tMth tb k = some q) (hi : mC q pc = some (.aastore, n)) (h1 : H[a]? = some (.inr (t, vs))) (h2 : H[u]? = some (.inl (ci, gs))) (h3 : tyl[t]? = some (.object C)) (h4 : decide (C = tNm tb ci) = true) (h5 : (decide (e < 0) || decide (vs.length ≤ e.toNatClampNeg)) = false) (h : x_To tb tyl ot dp k (pc + 1) L S (H.set a (.inr (t, vs.set e.toNatClampNeg (.inr (some u))))) cn sn v H2) : x_To tb tyl ot dp k pc L (.inr (some u) :: .inl e :: .inr (some a) :: S) H cn sn v H2 := x_to1 (fun f w post => by
  simp only [x_run, hq, hi, h1, h2, h3, h4, if_true, x_ix_dC h5]) h
theorem xT_new {ix ci : Nat} (hq : tMth tb k = some q) (hi : mC q pc = some (.new ix, n)) (h1 : tNw tb (mO q) ix = some ci) (h2 : (decide (cn + 1 ≤ mMc q) && decide (sn + (tFt tb ci).length ≤ mMs q) && decide (H.length + 1 ≤ 1000000)) = true) (h : x_To tb tyl ot dp k (pc + 3) L (.inr (some H.length) :: S) (H ++ [.inl (ci, (tFt tb ci).map (fun t => x_def dC t.1))]) (cn + 1) (sn + (tFt tb ci).length) v H2) : x_To tb tyl ot dp k pc L S H cn sn v H2 := x_to1 (fun f w post => by
  simp only [x_run, hq, hi, h1, h2, if_true]) h
theorem xT_newarrayI {e : Int32} (hq : tMth tb k = some q) (hi : mC q pc = some (.newarray .int, n)) (h2 : (decide (¬ e < 0) && decide (e.toNatClampNeg ≤ 100000) && decide (cn + 1 ≤ mMc q) && decide (sn + e.toNatClampNeg ≤ mMs q) && decide (H.length + 1 ≤ 1000000)) = true) (h : x_To tb tyl ot dp k (pc + 2) L (.inr (some H.length) :: S) (H ++ [.inr (0, List.replicate e.toNatClampNeg (.inl (dKc dC 0)))]) (cn + 1) (sn + e.toNatClampNeg) v H2) : x_To tb tyl ot dp k pc L (.inl e :: S) H cn sn v H2 := x_to1 (fun f w post => by
  simp only [x_run, hq, hi, dC_kst, h2, if_true]) h
theorem xT_newarrayZ {e : Int32} (hq : tMth tb k = some q) (hi : mC q pc = some (.newarray .boolean, n)) (h2 : (decide (¬ e < 0) && decide (e.toNatClampNeg ≤ 100000) && decide (cn + 1 ≤ mMc q) && decide (sn + e.toNatClampNeg ≤ mMs q) && decide (H.length + 1 ≤ 1000000)) = true) (h : x_To tb tyl ot dp k (pc + 2) L (.inr (some H.length) :: S) (H ++ [.inr (1, List.replicate e.toNatClampNeg (.inl (dKc dC 0)))]) (cn + 1) (sn + e.toNatClampNeg) v H2) : x_To tb tyl ot dp k pc L (.inl e :: S) H cn sn v H2 := x_to1 (fun f w post => by
  simp only [x_run, hq, hi, dC_kst, h2, if_true]) h
theorem xT_multianewarray {ix : _} {dm : _} {t2 t1 : Nat} {e1 e2 : Int32} (hq : tMth tb k = some q) (hi : mC q pc = some (.multianewarray ix dm, n)) (h1 : tMn tb (mO q) ix = some (t2, t1)) (h2 : (decide (dm = 2) && decide (¬ e1 < 0) && decide (¬ e2 < 0) && decide (e1.toNatClampNeg ≤ 100000) && decide (e2.toNatClampNeg ≤ 100000) && decide (t1 < 2) && decide (cn + (1 + e1.toNatClampNeg) ≤ mMc q) && decide (sn + (e1.toNatClampNeg + e1.toNatClampNeg * e2.toNatClampNeg) ≤ mMs q) && decide (H.length + 1 + e1.toNatClampNeg ≤ 1000000)) = true) (h : x_To tb tyl ot dp k (pc + 4) L (.inr (some H.length) :: S) (H ++ .inr (t2, x_refs (H.length + 1) e1.toNatClampNeg) :: x_rows t1 (List.replicate e2.toNatClampNeg (.inl (dKc dC 0))) e1.toNatClampNeg) (cn + 1 + e1.toNatClampNeg) (sn + e1.toNatClampNeg + e1.toNatClampNeg * e2.toNatClampNeg) v H2) : x_To tb tyl ot dp k pc L (.inl e2 :: .inl e1 :: S) H cn sn v H2 := x_to1 (fun f w post => by
  simp only [x_run, hq, hi, h1, dC_kst, h2, if_true]) h
theorem xT_objectInit {ix : _} {a : Nat} (hq : tMth tb k = some q) (hi : mC q pc = some (.invokespecial ix, n)) (h1 : tBi tb (mO q) ix = some 0) (h2 : decide (S.length ≤ 8) = true) (h : x_To tb tyl ot dp k (pc + 3) L S H cn sn v H2) : x_To tb tyl ot dp k pc L (.inr (some a) :: S) H cn sn v H2 := x_to1 (fun f w post => by
  simp only [x_run, hq, hi, h1, h2, if_true]) h
theorem xT_arraycopy {ix : _} {n1 d1 s1 : Int32} {bd bs : Nat} {us vs : List (XV Int32)} (hq : tMth tb k = some q) (hi : mC q pc = some (.invokestatic ix, n)) (h0 : tCal tb (mO q) ix = none) (h1 : tBi tb (mO q) ix = some 1) (h2 : H[bs]? = some (.inr (0, us))) (h3 : H[bd]? = some (.inr (0, vs))) (h4 : (decide (¬ n1 < 0) && decide (¬ d1 < 0) && decide (¬ s1 < 0) && decide (s1.toNatClampNeg + n1.toNatClampNeg ≤ us.length) && decide (d1.toNatClampNeg + n1.toNatClampNeg ≤ vs.length) && decide (S.length ≤ 8) && us.all (fun u => u.isLeft)) = true) (h : x_To tb tyl ot dp k (pc + 3) L S (H.set bd (.inr (0, vs.take d1.toNatClampNeg ++ (us.drop s1.toNatClampNeg).take n1.toNatClampNeg ++ vs.drop (d1.toNatClampNeg + n1.toNatClampNeg)))) cn sn v H2) : x_To tb tyl ot dp k pc L (.inl n1 :: .inl d1 :: .inr (some bd) :: .inl s1 :: .inr (some bs) :: S) H cn sn v H2 := x_to1 (fun f w post => by
  simp only [x_run, hq, hi, h0, h1, h2, h3, dC_kst, h4, if_true]) h
theorem xT_maxY {ix : _} {a b : Int32} (hq : tMth tb k = some q) (hi : mC q pc = some (.invokestatic ix, n)) (h0 : tCal tb (mO q) ix = none) (h1 : tBi tb (mO q) ix = some 2) (h2 : (decide (S.length ≤ 8) && decide (cn ≤ mMc q) && decide (sn ≤ mMs q)) = true) (h3 : x_cmp 2 a b = true) (h : x_To tb tyl ot dp k (pc + 3) L (.inl b :: S) H cn sn v H2) : x_To tb tyl ot dp k pc L (.inl b :: .inl a :: S) H cn sn v H2 := x_to1 (fun f w post => by
  simp only [x_run, hq, hi, h0, h1, h2, if_true, dC_br, h3, Bool.false_eq_true, if_false, x_n21, x_n31, x_n32]) h
theorem xT_maxN {ix : _} {a b : Int32} (hq : tMth tb k = some q) (hi : mC q pc = some (.invokestatic ix, n)) (h0 : tCal tb (mO q) ix = none) (h1 : tBi tb (mO q) ix = some 2) (h2 : (decide (S.length ≤ 8) && decide (cn ≤ mMc q) && decide (sn ≤ mMs q)) = true) (h3 : x_cmp 2 a b = false) (h : x_To tb tyl ot dp k (pc + 3) L (.inl a :: S) H cn sn v H2) : x_To tb tyl ot dp k pc L (.inl b :: .inl a :: S) H cn sn v H2 := x_to1 (fun f w post => by
  simp only [x_run, hq, hi, h0, h1, h2, if_true, dC_br, h3, Bool.false_eq_true, if_false, x_n21, x_n31, x_n32]) h
theorem xT_minY {ix : _} {a b : Int32} (hq : tMth tb k = some q) (hi : mC q pc = some (.invokestatic ix, n)) (h0 : tCal tb (mO q) ix = none) (h1 : tBi tb (mO q) ix = some 3) (h2 : (decide (S.length ≤ 8) && decide (cn ≤ mMc q) && decide (sn ≤ mMs q)) = true) (h3 : x_cmp 2 b a = true) (h : x_To tb tyl ot dp k (pc + 3) L (.inl b :: S) H cn sn v H2) : x_To tb tyl ot dp k pc L (.inl b :: .inl a :: S) H cn sn v H2 := x_to1 (fun f w post => by
  simp only [x_run, hq, hi, h0, h1, h2, if_true, dC_br, h3, Bool.false_eq_true, if_false, x_n21, x_n31, x_n32]) h
theorem xT_minN {ix : _} {a b : Int32} (hq : tMth tb k = some q) (hi : mC q pc = some (.invokestatic ix, n)) (h0 : tCal tb (mO q) ix = none) (h1 : tBi tb (mO q) ix = some 3) (h2 : (decide (S.length ≤ 8) && decide (cn ≤ mMc q) && decide (sn ≤ mMs q)) = true) (h3 : x_cmp 2 b a = false) (h : x_To tb tyl ot dp k (pc + 3) L (.inl a :: S) H cn sn v H2) : x_To tb tyl ot dp k pc L (.inl b :: .inl a :: S) H cn sn v H2 := x_to1 (fun f w post => by
  simp only [x_run, hq, hi, h0, h1, h2, if_true, dC_br, h3, Bool.false_eq_true, if_false, x_n21, x_n31, x_n32]) h
theorem xT_invokestatic {ix j so : Nat} {q2 : XM} {r : List (XV Int32)} {u : Option (XV Int32)} {H1 : List (XC Int32)} (hq : tMth tb k = some q) (hi : mC q pc = some (.invokestatic ix, n)) (hc : tCal tb (mO q) ix = some (j, so)) (hm : tMth tb j = some q2) (h1 : (decide (mNp q2 ≤ S.length) && decide (2 ≤ so) && decide ((S.drop (mNp q2)).length ≤ 8) && decide (mNp q2 ≤ mL q2) && decide (cn + mMc q2 ≤ mMc q) && decide (sn + mMs q2 ≤ mMs q)) = true) (g1 : x_To tb tyl ot dp j 0 (x_en 0 (S.take (mNp q2)).reverse) [] H 0 0 u H1) (g2 : x_To tb tyl ot (dp + 1) k (pc + 3) L (x_push u (S.drop (mNp q2))) H1 (cn + mMc q2) (sn + mMs q2) v H2) : x_To tb tyl ot (dp + 1) k pc L S H cn sn v H2 := by
  obtain ⟨f1, g1⟩ := g1
  obtain ⟨f2, g2⟩ := g2
  refine ⟨f1 + f2 + 1, fun f hf w post hp => ?_⟩
  obtain ⟨g, rfl⟩ : ∃ g, f = g + 1 := ⟨f - 1, by omega⟩
  simp only [x_run, hq, hi, hc, hm, h1, if_true]
  exact g1 g (by omega) w _ (g2 g (by omega) w post hp)
theorem xT_invokevirtual {ix j so : Nat} {a : Nat} {q2 : XM} {r : List (XV Int32)} {u : Option (XV Int32)} {H1 : List (XC Int32)} (hq : tMth tb k = some q) (hi : mC q pc = some (.invokevirtual ix, n)) (hc : tCal tb (mO q) ix = some (j, so)) (hm : tMth tb j = some q2) (hd : S.drop (mNp q2) = .inr (some a) :: r) (h1 : (decide (mNp q2 + 1 ≤ S.length) && decide (so = 0) && decide (x_rc ot H a = some (mRc q2)) && decide (r.length ≤ 8) && decide (mNp q2 + 1 ≤ mL q2) && decide (cn + mMc q2 ≤ mMc q) && decide (sn + mMs q2 ≤ mMs q)) = true) (g1 : x_To tb tyl ot dp j 0 (x_en 0 (.inr (some a) :: (S.take (mNp q2)).reverse)) [] H 0 0 u H1) (g2 : x_To tb tyl ot (dp + 1) k (pc + 3) L (x_push u r) H1 (cn + mMc q2) (sn + mMs q2) v H2) : x_To tb tyl ot (dp + 1) k pc L S H cn sn v H2 := by
  obtain ⟨f1, g1⟩ := g1
  obtain ⟨f2, g2⟩ := g2
  refine ⟨f1 + f2 + 1, fun f hf w post hp => ?_⟩
  obtain ⟨g, rfl⟩ : ∃ g, f = g + 1 := ⟨f - 1, by omega⟩
  simp only [x_run, hq, hi, hc, hm, hd, h1, if_true]
  exact g1 g (by omega) w _ (g2 g (by omega) w post hp)
theorem xT_invokespecial {ix j so : Nat} {a : Nat} {q2 : XM} {r : List (XV Int32)} {u : Option (XV Int32)} {H1 : List (XC Int32)} (hq : tMth tb k = some q) (hi : mC q pc = some (.invokespecial ix, n)) (hb : tBi tb (mO q) ix = none) (hc : tCal tb (mO q) ix = some (j, so)) (hm : tMth tb j = some q2) (hd : S.drop (mNp q2) = .inr (some a) :: r) (h1 : (decide (mNp q2 + 1 ≤ S.length) && decide (so = 1) && decide (r.length ≤ 8) && decide (mNp q2 + 1 ≤ mL q2) && decide (cn + mMc q2 ≤ mMc q) && decide (sn + mMs q2 ≤ mMs q)) = true) (g1 : x_To tb tyl ot dp j 0 (x_en 0 (.inr (some a) :: (S.take (mNp q2)).reverse)) [] H 0 0 u H1) (g2 : x_To tb tyl ot (dp + 1) k (pc + 3) L (x_push u r) H1 (cn + mMc q2) (sn + mMs q2) v H2) : x_To tb tyl ot (dp + 1) k pc L S H cn sn v H2 := by
  obtain ⟨f1, g1⟩ := g1
  obtain ⟨f2, g2⟩ := g2
  refine ⟨f1 + f2 + 1, fun f hf w post hp => ?_⟩
  obtain ⟨g, rfl⟩ : ∃ g, f = g + 1 := ⟨f - 1, by omega⟩
  simp only [x_run, hq, hi, hb, hc, hm, hd, h1, if_true]
  exact g1 g (by omega) w _ (g2 g (by omega) w post hp)
theorem xT_ireturn {e : Int32} (hq : tMth tb k = some q) (hi : mC q pc = some (.ireturn, n)) (h1 : (x_retOk dC (mR q) (.inl e) && decide (cn ≤ mMc q) && decide (sn ≤ mMs q)) = true) : x_To tb tyl ot dp k pc L [.inl e] H cn sn (some (.inl e)) H := by
  refine ⟨1, fun f hf w post hp => ?_⟩
  obtain ⟨g, rfl⟩ : ∃ g, f = g + 1 := ⟨f - 1, by omega⟩
  simp only [x_run, hq, hi, h1, if_true]
  exact hp
theorem xT_areturn {e : Option Nat} (hq : tMth tb k = some q) (hi : mC q pc = some (.areturn, n)) (h1 : (x_retOk dC (mR q) (.inr e) && decide (cn ≤ mMc q) && decide (sn ≤ mMs q)) = true) : x_To tb tyl ot dp k pc L [.inr e] H cn sn (some (.inr e)) H := by
  refine ⟨1, fun f hf w post hp => ?_⟩
  obtain ⟨g, rfl⟩ : ∃ g, f = g + 1 := ⟨f - 1, by omega⟩
  simp only [x_run, hq, hi, h1, if_true]
  exact hp
theorem xT_return_ (hq : tMth tb k = some q) (hi : mC q pc = some (.return_, n)) (h1 : (decide (mR q = none) && decide (cn ≤ mMc q) && decide (sn ≤ mMs q)) = true) : x_To tb tyl ot dp k pc L [] H cn sn none H := by
  refine ⟨1, fun f hf w post hp => ?_⟩
  obtain ⟨g, rfl⟩ : ∃ g, f = g + 1 := ⟨f - 1, by omega⟩
  simp only [x_run, hq, hi, h1, if_true]
  exact hp
end XTo
end
section
/-! Bounds of ints: of sums, products, rests. -/
section XIv
abbrev vIn (p : Int × Int) (x : Int32) : Prop := p.1 ≤ x.toInt ∧ x.toInt ≤ p.2
def vTop : Int × Int := (-2147483648, 2147483647)
def vCl (lo hi : Int) : Int × Int := if -2147483648 ≤ lo ∧ hi ≤ 2147483647 then (lo, hi) else vTop
def vMeet (p q : Int × Int) : Int × Int := (if p.1 ≤ q.1 then q.1 else p.1, if p.2 ≤ q.2 then p.2 else q.2)
theorem vTop_spec (x : Int32) : vIn vTop x := by
  have h1 := Int32.le_toInt x
  have h2 := Int32.toInt_lt x
  constructor
  · show (-2147483648 : Int) ≤ x.toInt
    omega
  · show x.toInt ≤ (2147483647 : Int)
    omega
theorem vMeet_spec {p q : Int × Int} {x : Int32} (h1 : vIn p x) (h2 : vIn q x) : vIn (vMeet p q) x := by
  unfold vMeet
  constructor
  · show (if p.1 ≤ q.1 then q.1 else p.1) ≤ x.toInt
    split
    · exact h2.1
    · exact h1.1
  · show x.toInt ≤ (if p.2 ≤ q.2 then p.2 else q.2)
    split
    · exact h1.2
    · exact h2.2
theorem vBm {n : Int} (h1 : -2147483648 ≤ n) (h2 : n ≤ 2147483647) : n.bmod (2 ^ 32) = n := Int.bmod_eq_of_le (by simp; omega) (by simp; omega)
theorem vCl_spec {lo hi n : Int} {x : Int32} (h1 : lo ≤ n) (h2 : n ≤ hi) (hx : x.toInt = n.bmod (2 ^ 32)) : vIn (vCl lo hi) x := by
  unfold vCl
  split
  · rename_i h
    rw [vBm (by omega) (by omega)] at hx
    exact ⟨by rw [hx]; exact h1, by rw [hx]; exact h2⟩
  · exact vTop_spec x
theorem vAnd {x y : Int32} (h : 0 ≤ y.toInt) : 0 ≤ (x &&& y).toInt ∧ (x &&& y).toInt ≤ y.toInt := by
  have e1 : (x &&& y).toInt = (x.toBitVec &&& y.toBitVec).toInt := rfl
  have e2 : y.toInt = y.toBitVec.toInt := rfl
  have m1 : y.toBitVec.msb = false := by
    rw [BitVec.msb_eq_toInt]
    exact decide_eq_false (by rw [← e2]; omega)
  have m2 : (x.toBitVec &&& y.toBitVec).msb = false := by
    rw [BitVec.msb_and, m1, Bool.and_false]
  rw [e1, e2, BitVec.toInt_eq_toNat_of_msb m1, BitVec.toInt_eq_toNat_of_msb m2, BitVec.toNat_and]
  have := @Nat.and_le_right x.toBitVec.toNat y.toBitVec.toNat
  omega
theorem vAnd2 {x y : Int32} (h : 0 ≤ x.toInt) : 0 ≤ (x &&& y).toInt ∧ (x &&& y).toInt ≤ x.toInt := by
  have e : x &&& y = y &&& x := Int32.and_comm x y
  rw [e]
  exact vAnd h
theorem vRem {x y : Int32} (h : 0 < y.toInt) : (x - x / y * y).toInt = x.toInt.tmod y.toInt := by
  have hy : y ≠ -1 := fun e => by
    rw [e] at h
    revert h
    decide
  have h1 := Int.tmod_lt_of_pos x.toInt h
  have h2 := Int.lt_tmod_of_pos x.toInt h
  have h3 := Int32.toInt_lt y
  rw [Int32.toInt_sub, Int32.toInt_mul, Int32.toInt_div_of_ne_right _ _ hy, Int.sub_bmod_bmod]
  have e : x.toInt - x.toInt.tdiv y.toInt * y.toInt = x.toInt.tmod y.toInt := by
    rw [Int.tmod_def, Int.mul_comm]
  rw [e]
  exact vBm (by omega) (by omega)
def vOp (o : Nat) (p q : Int × Int) : Int × Int :=
  if o = 0 then vCl (p.1 + q.1) (p.2 + q.2)
  else if o = 1 then vCl (p.1 - q.2) (p.2 - q.1)
  else if o = 2 then (if 0 ≤ p.1 ∧ 0 ≤ q.1 then vCl (p.1 * q.1) (p.2 * q.2) else vTop)
  else if o = 3 then (if 0 ≤ q.1 then (0, q.2) else if 0 ≤ p.1 then (0, p.2) else vTop)
  else if o = 9 then (if 0 < q.1 then (if 0 ≤ p.1 then 0 else 1 - q.2, q.2 - 1) else vTop)
  else vTop
theorem vOp_spec {o : Nat} {p q : Int × Int} {x y : Int32} (hp : vIn p x) (hq : vIn q y) : vIn (vOp o p q) (x_bin o x y) := by
  obtain ⟨p1, p2⟩ := hp
  obtain ⟨q1, q2⟩ := hq
  unfold vOp
  split
  · rename_i h
    subst h
    exact vCl_spec (n := x.toInt + y.toInt) (by omega) (by omega) (Int32.toInt_add x y)
  split
  · rename_i h
    subst h
    exact vCl_spec (n := x.toInt - y.toInt) (by omega) (by omega) (Int32.toInt_sub x y)
  split
  · rename_i h
    subst h
    split
    · rename_i hh
      exact vCl_spec (n := x.toInt * y.toInt) (Int.mul_le_mul p1 q1 hh.2 (by omega)) (Int.mul_le_mul p2 q2 (by omega) (by omega)) (Int32.toInt_mul x y)
    · exact vTop_spec _
  split
  · rename_i h
    subst h
    split
    · rename_i hh
      have h1 := vAnd (x := x) (y := y) (by omega)
      exact ⟨h1.1, Int.le_trans h1.2 q2⟩
    split
    · rename_i hh
      have h1 := vAnd2 (x := x) (y := y) (by omega)
      exact ⟨h1.1, Int.le_trans h1.2 p2⟩
    · exact vTop_spec _
  split
  · rename_i h
    subst h
    split
    · rename_i hh
      have hy : 0 < y.toInt := by omega
      have h1 := Int.tmod_lt_of_pos x.toInt hy
      have h2 := Int.lt_tmod_of_pos x.toInt hy
      have e : (x_bin 9 x y).toInt = x.toInt.tmod y.toInt := vRem hy
      constructor
      · show (if 0 ≤ p.1 then 0 else 1 - q.2) ≤ (x_bin 9 x y).toInt
        rw [e]
        split
        · exact Int.tmod_nonneg _ (by omega)
        · omega
      · show (x_bin 9 x y).toInt ≤ q.2 - 1
        rw [e]
        omega
    · exact vTop_spec _
  · exact vTop_spec _
end XIv
end
section
/-! Kinds of cells: what a heap of known kinds keeps. -/
section XKinds
/-- what a field or an element may be: an int between two bounds, or a cell of a kind (null too, or not) -/
abbrev vF : Type := (Int × Int) ⊕ (Bool × Nat)
/-- a kind: an object of a class with its fields, or an array: type, length, elements -/
abbrev vKd : Type := (Nat × List vF) ⊕ (Nat × Nat × vF)
def vFit (ty : Nat → Option Nat) : vF → XV Int32 → Prop
  | .inl p, .inl x => vIn p x
  | .inr p, .inr none => p.1 = true
  | .inr p, .inr (some a) => ty a = some p.2
  | _, _ => False
def vCell (ty : Nat → Option Nat) : vKd → XC Int32 → Prop
  | .inl o, .inl z => z.1 = o.1 ∧ z.2.length = o.2.length ∧ ∀ (j : Nat) (f : vF) (u : XV Int32), o.2[j]? = some f → z.2[j]? = some u → vFit ty f u
  | .inr o, .inr z => z.1 = o.1 ∧ z.2.length = o.2.1 ∧ ∀ (j : Nat) (u : XV Int32), z.2[j]? = some u → vFit ty o.2.2 u
  | _, _ => False
def vHp (KT : Nat → Option vKd) (ty : Nat → Option Nat) (H : List (XC Int32)) : Prop := ∀ (a c : Nat), ty a = some c → ∃ kd z, KT c = some kd ∧ H[a]? = some z ∧ vCell ty kd z
theorem vHp_lt {KT : Nat → Option vKd} {ty : Nat → Option Nat} {H : List (XC Int32)} (h : vHp KT ty H) {a c : Nat} (ha : ty a = some c) : a < H.length := by
  obtain ⟨kd, z, -, h2, -⟩ := h a c ha
  exact (List.getElem?_eq_some_iff.mp h2).1
theorem vHp_obj {KT : Nat → Option vKd} {ty : Nat → Option Nat} {H : List (XC Int32)} (h : vHp KT ty H) {a c ci : Nat} {fl : List vF} (ha : ty a = some c) (hk : KT c = some (.inl (ci, fl))) :
    ∃ fs, H[a]? = some (.inl (ci, fs)) ∧ fs.length = fl.length ∧ ∀ (j : Nat) (f : vF), fl[j]? = some f → ∃ u, fs[j]? = some u ∧ vFit ty f u := by
  obtain ⟨kd, z, h1, h2, h3⟩ := h a c ha
  rw [hk] at h1
  cases h1
  rcases z with ⟨ci2, fs⟩ | z
  · obtain ⟨e, h4, h5⟩ := h3
    have e : ci2 = ci := e
    subst e
    refine ⟨fs, h2, h4, fun j f hf => ?_⟩
    have hj := (List.getElem?_eq_some_iff.mp hf).1
    have h4 : fs.length = fl.length := h4
    have hu : fs[j]? = some (fs[j]'(by omega)) := List.getElem?_eq_getElem (by omega)
    exact ⟨_, hu, h5 j f _ hf hu⟩
  · exact h3.elim
theorem vHp_arr {KT : Nat → Option vKd} {ty : Nat → Option Nat} {H : List (XC Int32)} (h : vHp KT ty H) {a c t m : Nat} {f : vF} (ha : ty a = some c) (hk : KT c = some (.inr (t, m, f))) :
    ∃ vs, H[a]? = some (.inr (t, vs)) ∧ vs.length = m ∧ ∀ j : Nat, j < m → ∃ u, vs[j]? = some u ∧ vFit ty f u := by
  obtain ⟨kd, z, h1, h2, h3⟩ := h a c ha
  rw [hk] at h1
  cases h1
  rcases z with z | ⟨t2, vs⟩
  · exact h3.elim
  · obtain ⟨e, h4, h5⟩ := h3
    have e : t2 = t := e
    subst e
    have h4 : vs.length = m := h4
    refine ⟨vs, h2, h4, fun j hj => ?_⟩
    have hu : vs[j]? = some (vs[j]'(by omega)) := List.getElem?_eq_getElem (by omega)
    exact ⟨_, hu, h5 j _ hu⟩
theorem vHp_set {KT : Nat → Option vKd} {ty : Nat → Option Nat} {H : List (XC Int32)} (h : vHp KT ty H) {a c : Nat} {kd : vKd} {z : XC Int32} (ha : ty a = some c) (hk : KT c = some kd) (hz : vCell ty kd z) : vHp KT ty (H.set a z) := by
  intro b d hb
  obtain ⟨kd2, z2, h1, h2, h3⟩ := h b d hb
  by_cases e : a = b
  · subst e
    rw [ha] at hb
    cases hb
    exact ⟨kd, z, hk, List.getElem?_set_self (vHp_lt h ha), hz⟩
  · exact ⟨kd2, z2, h1, by rw [List.getElem?_set_ne e]; exact h2, h3⟩
theorem vHp_put {KT : Nat → Option vKd} {ty : Nat → Option Nat} {H : List (XC Int32)} (h : vHp KT ty H) {a c ci j : Nat} {fl : List vF} {fs : List (XV Int32)} {f : vF} {u : XV Int32} (ha : ty a = some c) (hk : KT c = some (.inl (ci, fl))) (hH : H[a]? = some (.inl (ci, fs))) (hf : fl[j]? = some f) (hu : vFit ty f u) : vHp KT ty (H.set a (.inl (ci, fs.set j u))) := by
  refine vHp_set h ha hk ?_
  obtain ⟨kd, z, h1, h2, h3⟩ := h a c ha
  rw [hk] at h1
  cases h1
  rw [hH] at h2
  cases h2
  obtain ⟨-, h4, h5⟩ := h3
  refine ⟨rfl, ?_, ?_⟩
  · show (fs.set j u).length = fl.length
    rw [List.length_set]
    exact h4
  · intro i g x hg hx
    have hx : (fs.set j u)[i]? = some x := hx
    have hg : fl[i]? = some g := hg
    by_cases e : j = i
    · subst e
      have hj := (List.getElem?_eq_some_iff.mp hf).1
      have h4 : fs.length = fl.length := h4
      rw [List.getElem?_set_self (by omega)] at hx
      cases hx
      rw [hf] at hg
      cases hg
      exact hu
    · rw [List.getElem?_set_ne e] at hx
      exact h5 i g x hg hx
theorem vHp_sto {KT : Nat → Option vKd} {ty : Nat → Option Nat} {H : List (XC Int32)} (h : vHp KT ty H) {a c t m j : Nat} {f : vF} {vs : List (XV Int32)} {u : XV Int32} (ha : ty a = some c) (hk : KT c = some (.inr (t, m, f))) (hH : H[a]? = some (.inr (t, vs))) (hu : vFit ty f u) : vHp KT ty (H.set a (.inr (t, vs.set j u))) := by
  refine vHp_set h ha hk ?_
  obtain ⟨kd, z, h1, h2, h3⟩ := h a c ha
  rw [hk] at h1
  cases h1
  rw [hH] at h2
  cases h2
  obtain ⟨-, h4, h5⟩ := h3
  refine ⟨rfl, ?_, ?_⟩
  · show (vs.set j u).length = m
    rw [List.length_set]
    exact h4
  · intro i x hx
    have hx : (vs.set j u)[i]? = some x := hx
    rcases List.mem_or_eq_of_mem_set (List.mem_of_getElem? hx) with h6 | h6
    · obtain ⟨i2, h7⟩ := List.getElem?_of_mem h6
      exact h5 i2 x h7
    · rw [h6]
      exact hu
theorem vHp_cpy {KT : Nat → Option vKd} {ty : Nat → Option Nat} {H : List (XC Int32)} (h : vHp KT ty H) {a b c e t m n : Nat} {f : vF} {us vs : List (XV Int32)} {i j k : Nat} (ha : ty a = some c) (hk : KT c = some (.inr (t, m, f))) (hH : H[a]? = some (.inr (t, vs))) (hb : ty b = some e) (he : KT e = some (.inr (t, n, f))) (hB : H[b]? = some (.inr (t, us)))
    (hi : i + k ≤ us.length) (hj : j + k ≤ vs.length) : vHp KT ty (H.set a (.inr (t, vs.take j ++ (us.drop i).take k ++ vs.drop (j + k)))) := by
  refine vHp_set h ha hk ?_
  obtain ⟨kd, z, h1, h2, h3⟩ := h a c ha
  rw [hk] at h1
  cases h1
  rw [hH] at h2
  cases h2
  obtain ⟨-, h4, h5⟩ := h3
  obtain ⟨kd, z, h1, h2, h3⟩ := h b e hb
  rw [he] at h1
  cases h1
  rw [hB] at h2
  cases h2
  obtain ⟨-, h6, h7⟩ := h3
  refine ⟨rfl, ?_, ?_⟩
  · show (vs.take j ++ (us.drop i).take k ++ vs.drop (j + k)).length = m
    have h4 : vs.length = m := h4
    simp only [List.length_append, List.length_take, List.length_drop]
    omega
  · intro l x hx
    have hx : (vs.take j ++ (us.drop i).take k ++ vs.drop (j + k))[l]? = some x := hx
    have hm := List.mem_of_getElem? hx
    rcases List.mem_append.mp hm with hm | hm
    · rcases List.mem_append.mp hm with hm | hm
      · obtain ⟨i2, h8⟩ := List.getElem?_of_mem (List.mem_of_mem_take hm)
        exact h5 i2 x h8
      · obtain ⟨i2, h8⟩ := List.getElem?_of_mem (List.mem_of_mem_drop (List.mem_of_mem_take hm))
        exact h7 i2 x h8
    · obtain ⟨i2, h8⟩ := List.getElem?_of_mem (List.mem_of_mem_drop hm)
      exact h5 i2 x h8
/-- kinds may be added -/
def vLe (ty ty2 : Nat → Option Nat) : Prop := ∀ a c, ty a = some c → ty2 a = some c
theorem vFit_le {ty ty2 : Nat → Option Nat} (h : vLe ty ty2) {f : vF} {u : XV Int32} (hu : vFit ty f u) : vFit ty2 f u := by
  rcases f with p | p <;> rcases u with x | (_ | a)
  · exact hu
  · exact hu.elim
  · exact hu.elim
  · exact hu.elim
  · exact hu
  · exact h a _ hu
theorem vCell_le {ty ty2 : Nat → Option Nat} (h : vLe ty ty2) {kd : vKd} {z : XC Int32} (hz : vCell ty kd z) : vCell ty2 kd z := by
  rcases kd with o | o <;> rcases z with z | z
  · exact ⟨hz.1, hz.2.1, fun j f u h1 h2 => vFit_le h (hz.2.2 j f u h1 h2)⟩
  · exact hz.elim
  · exact hz.elim
  · exact ⟨hz.1, hz.2.1, fun j u h1 => vFit_le h (hz.2.2 j u h1)⟩
def vAdd (ty : Nat → Option Nat) (a c : Nat) : Nat → Option Nat := fun b => if b = a then some c else ty b
theorem vHp_new {KT : Nat → Option vKd} {ty : Nat → Option Nat} {H : List (XC Int32)} (h : vHp KT ty H) {c : Nat} {kd : vKd} {z : XC Int32} (hk : KT c = some kd) (hz : vCell (vAdd ty H.length c) kd z) : vLe ty (vAdd ty H.length c) ∧ vHp KT (vAdd ty H.length c) (H ++ [z]) := by
  have hle : vLe ty (vAdd ty H.length c) := by
    intro a d ha
    have := vHp_lt h ha
    unfold vAdd
    rw [if_neg (by omega)]
    exact ha
  refine ⟨hle, fun b d hb => ?_⟩
  by_cases e : b = H.length
  · subst e
    have hb : (if H.length = H.length then some c else ty H.length) = some d := hb
    rw [if_pos rfl] at hb
    cases hb
    exact ⟨kd, z, hk, by rw [List.getElem?_append_right (Nat.le_refl _), Nat.sub_self]; rfl, hz⟩
  · have hb : (if b = H.length then some c else ty b) = some d := hb
    rw [if_neg e] at hb
    obtain ⟨kd2, z2, h1, h2, h3⟩ := h b d hb
    exact ⟨kd2, z2, h1, by rw [List.getElem?_append_left (vHp_lt h hb)]; exact h2, vCell_le hle h3⟩
end XKinds
end
section
/-! Bounds of terms, by what holds on a way; questions that they answer. -/
section XRng
/-- what one entry says of e, where g bounds the others -/
def vOne (g : Jvm.Term → Int × Int) (e : Jvm.Term) (k : TK) : Int × Int :=
  if k.1 = true then
    (if k.2.2.2 = true then (if k.2.1 = e then (-2147483648, (g k.2.2.1).2 - 1) else if k.2.2.1 = e then ((g k.2.1).1 + 1, 2147483647) else vTop)
     else (if k.2.1 = e then ((g k.2.2.1).1, 2147483647) else if k.2.2.1 = e then (-2147483648, (g k.2.1).2) else vTop))
  else if k.2.2.2 = true then (if k.2.1 = e then g k.2.2.1 else if k.2.2.1 = e then g k.2.1 else vTop) else vTop
theorem vOne_spec {ρ : Nat → Int32} {g : Jvm.Term → Int × Int} (hg : ∀ e, vIn (g e) (tEv ρ e)) {e : Jvm.Term} {k : TK} (hk : tHd ρ k) : vIn (vOne g e k) (tEv ρ e) := by
  obtain ⟨b, x, y, t⟩ := k
  have hx := hg x
  have hy := hg y
  have r1 := (tRng (tEv ρ e)).1
  have r2 := (tRng (tEv ρ e)).2
  cases b
  · cases t
    · exact vTop_spec _
    · have h : tEv ρ x = tEv ρ y := of_decide_eq_true hk
      show vIn (if x = e then g y else if y = e then g x else vTop) _
      split
      · rename_i he
        subst he
        rw [h]
        exact hy
      split
      · rename_i he
        subst he
        rw [← h]
        exact hx
      · exact vTop_spec _
  · cases t
    · have h : decide (tEv ρ x < tEv ρ y) = false := hk
      have h2 := Int32.le_iff_toInt_le.mp (Int32.not_lt.mp (of_decide_eq_false h))
      show vIn (if x = e then ((g y).1, 2147483647) else if y = e then (-2147483648, (g x).2) else vTop) _
      split
      · rename_i he
        subst he
        exact ⟨Int.le_trans hy.1 h2, r2⟩
      split
      · rename_i he
        subst he
        exact ⟨r1, Int.le_trans h2 hx.2⟩
      · exact vTop_spec _
    · have h2 : (tEv ρ x).toInt < (tEv ρ y).toInt := Int32.lt_iff_toInt_lt.mp (of_decide_eq_true hk)
      show vIn (if x = e then (-2147483648, (g y).2 - 1) else if y = e then ((g x).1 + 1, 2147483647) else vTop) _
      have h3 := hy.2
      have h4 := hx.1
      split
      · rename_i he
        subst he
        refine ⟨r1, ?_⟩
        show (tEv ρ x).toInt ≤ (g y).2 - 1
        omega
      split
      · rename_i he
        subst he
        refine ⟨?_, r2⟩
        show (g x).1 + 1 ≤ (tEv ρ y).toInt
        omega
      · exact vTop_spec _
def vRels (g : Jvm.Term → Int × Int) (e : Jvm.Term) : List TK → Int × Int
  | [] => vTop
  | k :: w => vMeet (vOne g e k) (vRels g e w)
theorem vRels_spec {ρ : Nat → Int32} {g : Jvm.Term → Int × Int} (hg : ∀ e, vIn (g e) (tEv ρ e)) {e : Jvm.Term} : ∀ {w : List TK}, XPa (tHd ρ) w → vIn (vRels g e w) (tEv ρ e)
  | [], _ => vTop_spec _
  | k :: w, h => vMeet_spec (vOne_spec hg (h k List.mem_cons_self)) (vRels_spec hg (fun z hz => h z (List.mem_cons_of_mem _ hz)))
def vStr (g : Jvm.Term → Int × Int) : Jvm.Term → Int × Int
  | .elem (.add (.index o) a) b => vOp o (g a) (g b)
  | _ => vTop
theorem vStr_spec {ρ : Nat → Int32} {g : Jvm.Term → Int × Int} (hg : ∀ e, vIn (g e) (tEv ρ e)) (e : Jvm.Term) : vIn (vStr g e) (tEv ρ e) := by
  unfold vStr
  split
  · rename_i o a b
    exact vOp_spec (hg a) (hg b)
  · exact vTop_spec _
/-- bounds of a term: what is said of it, its parts, the others that it is held against; so deep -/
def vRng (w : List TK) : Nat → Jvm.Term → Int × Int
  | 0, e => (tL e w, tU e w)
  | n + 1, e => vMeet (tL e w, tU e w) (vMeet (vStr (vRng w n) e) (vRels (vRng w n) e w))
theorem vRng_spec {ρ : Nat → Int32} {w : List TK} (h : XPa (tHd ρ) w) : ∀ (n : Nat) (e : Jvm.Term), vIn (vRng w n e) (tEv ρ e)
  | 0, _ => ⟨tL_spec h, tU_spec h⟩
  | n + 1, e => vMeet_spec (p := (tL e w, tU e w)) ⟨tL_spec h, tU_spec h⟩ (vMeet_spec (vStr_spec (vRng_spec h n) e) (vRels_spec (vRng_spec h n) h))
/-- is the question answered: less (or equal), x, y -/
def vDec (w : List TK) (n : Nat) (b : Bool) (x y : Jvm.Term) : Option Bool :=
  if x = y then some (!b)
  else if (vRng w n x).2 < (vRng w n y).1 then some b
  else if b = true then (if (vRng w n y).2 ≤ (vRng w n x).1 then some false else tFind b x y w)
  else if (vRng w n y).2 < (vRng w n x).1 then some false
  else if (vRng w n x).1 = (vRng w n y).2 ∧ (vRng w n x).2 = (vRng w n y).1 then some true else tFind b x y w
theorem vDec_spec {ρ : Nat → Int32} {w : List TK} (h : XPa (tHd ρ) w) {n : Nat} {b t : Bool} {x y : Jvm.Term} (hd : vDec w n b x y = some t) : tRel ρ (b, x, y, true) = t := by
  obtain ⟨x1, x2⟩ := vRng_spec h n x
  obtain ⟨y1, y2⟩ := vRng_spec h n y
  unfold vDec at hd
  split at hd
  · rename_i he
    subst he
    cases b
    · cases hd
      exact decide_eq_true rfl
    · cases hd
      exact decide_eq_false (fun z => by have : (tEv ρ x).toInt < (tEv ρ x).toInt := Int32.lt_iff_toInt_lt.mp z; omega)
  split at hd
  · cases hd
    cases b
    · exact decide_eq_false (fun z => by have : (tEv ρ x).toInt = (tEv ρ y).toInt := congrArg Int32.toInt z; omega)
    · exact decide_eq_true (Int32.lt_iff_toInt_lt.mpr (show (tEv ρ x).toInt < (tEv ρ y).toInt by omega))
  split at hd
  · rename_i hb
    subst hb
    split at hd
    · cases hd
      exact decide_eq_false (fun z => by have : (tEv ρ x).toInt < (tEv ρ y).toInt := Int32.lt_iff_toInt_lt.mp z; omega)
    · exact tFind_spec h hd
  · rename_i hb
    have hb : b = false := by simpa using hb
    subst hb
    split at hd
    · cases hd
      exact decide_eq_false (fun z => by have : (tEv ρ x).toInt = (tEv ρ y).toInt := congrArg Int32.toInt z; omega)
    split at hd
    · rename_i he
      cases hd
      exact decide_eq_true (Int32.toInt_inj.mp (show (tEv ρ x).toInt = (tEv ρ y).toInt by omega))
    · exact tFind_spec h hd
/-- a rank falls: from the term x to y, where y is x and a step (up: toward the bound above; so ranks are the bound less the term) -/
def vUp (w : List TK) (n : Nat) (x y : Jvm.Term) : Bool := match y with
  | .elem (.add (.index 0) a) (.int c) => decide (a = x) && decide (0 < c.toInt) && decide ((vRng w n x).2 + c.toInt ≤ 2147483647)
  | _ => false
theorem vUp_spec {ρ : Nat → Int32} {w : List TK} (h : XPa (tHd ρ) w) {n : Nat} {x y : Jvm.Term} (hu : vUp w n x y = true) : (tEv ρ x).toInt < (tEv ρ y).toInt := by
  obtain ⟨x1, x2⟩ := vRng_spec h n x
  unfold vUp at hu
  split at hu
  · rename_i a c
    simp only [Bool.and_eq_true, decide_eq_true_eq] at hu
    obtain ⟨⟨rfl, h2⟩, h3⟩ := hu
    have h4 := (tRng (tEv ρ a)).1
    have e : (tEv ρ (.elem (.add (.index 0) a) (.int c))).toInt = ((tEv ρ a).toInt + c.toInt).bmod (2 ^ 32) := Int32.toInt_add _ _
    rw [e, vBm (by omega) (by omega)]
    omega
  · cases hu
def vDn (w : List TK) (n : Nat) (x y : Jvm.Term) : Bool := match y with
  | .elem (.add (.index 0) a) (.int c) => decide (a = x) && decide (c.toInt < 0) && decide (-2147483648 ≤ (vRng w n x).1 + c.toInt)
  | _ => false
theorem vDn_spec {ρ : Nat → Int32} {w : List TK} (h : XPa (tHd ρ) w) {n : Nat} {x y : Jvm.Term} (hu : vDn w n x y = true) : (tEv ρ y).toInt < (tEv ρ x).toInt := by
  obtain ⟨x1, x2⟩ := vRng_spec h n x
  unfold vDn at hu
  split at hu
  · rename_i a c
    simp only [Bool.and_eq_true, decide_eq_true_eq] at hu
    obtain ⟨⟨rfl, h2⟩, h3⟩ := hu
    have h4 := (tRng (tEv ρ a)).2
    have e : (tEv ρ (.elem (.add (.index 0) a) (.int c))).toInt = ((tEv ρ a).toInt + c.toInt).bmod (2 ^ 32) := Int32.toInt_add _ _
    rw [e, vBm (by omega) (by omega)]
    omega
  · cases hu
end XRng
end
section
/-! A state in symbols: ints by terms, cells by symbols of a kind, what is known of fields and elements. -/
section XState
abbrev vA : Type := XV Jvm.Term
def cv (ρ : Nat → Int32) (σ : Nat → Nat) : vA → XV Int32
  | .inl e => .inl (tEv ρ e)
  | .inr none => .inr none
  | .inr (some i) => .inr (some (σ i))
abbrev cvL (ρ : Nat → Int32) (σ : Nat → Nat) (L : List (Nat × vA)) : List (Nat × XV Int32) := L.map (fun q => (q.1, cv ρ σ q.2))
theorem cv_lk (ρ : Nat → Int32) (σ : Nat → Nat) (j : Nat) : ∀ L : List (Nat × vA), x_lk (cvL ρ σ L) j = (x_lk L j).map (cv ρ σ)
  | [] => rfl
  | q :: L => by
    have ih := cv_lk ρ σ j L
    unfold x_lk at ih ⊢
    by_cases h : (q.1 == j) = true
    · rw [cvL, List.map_cons, List.find?_cons_of_pos (by exact h), List.find?_cons_of_pos (by exact h)]
      rfl
    · rw [cvL, List.map_cons, List.find?_cons_of_neg (by exact h), List.find?_cons_of_neg (by exact h)]
      exact ih
theorem cv_st (ρ : Nat → Int32) (σ : Nat → Nat) (j : Nat) (v : vA) (L : List (Nat × vA)) : x_st (cvL ρ σ L) j (cv ρ σ v) = cvL ρ σ (x_st L j v) := by
  unfold x_st
  rw [cvL, cvL, List.map_cons, List.filter_map]
  rfl
theorem cv_en (ρ : Nat → Int32) (σ : Nat → Nat) : ∀ (vs : List vA) (i : Nat), x_en i (vs.map (cv ρ σ)) = cvL ρ σ (x_en i vs)
  | [], _ => rfl
  | v :: vs, i => by
    show (i, cv ρ σ v) :: x_en (i + 1) (vs.map (cv ρ σ)) = (i, cv ρ σ v) :: cvL ρ σ (x_en (i + 1) vs)
    rw [cv_en ρ σ vs (i + 1)]
/-- only unknowns below n -/
def tBd (n : Nat) : Jvm.Term → Bool
  | .arg i => decide (i < n)
  | .elem (.add (.index _) a) b => tBd n a && tBd n b
  | .length (.add (.index _) a) => tBd n a
  | _ => true
theorem tBd_spec {n : Nat} {ρ ρ2 : Nat → Int32} (h : ∀ i, i < n → ρ2 i = ρ i) : ∀ e : Jvm.Term, tBd n e = true → tEv ρ2 e = tEv ρ e := by
  intro e
  fun_induction tBd n e with
  | case1 i =>
    intro hb
    exact h i (of_decide_eq_true hb)
  | case2 o a b iha ihb =>
    intro hb
    have hb := Bool.and_eq_true_iff.mp hb
    show x_bin o (tEv ρ2 a) (tEv ρ2 b) = x_bin o (tEv ρ a) (tEv ρ b)
    rw [iha hb.1, ihb hb.2]
  | case3 o a iha =>
    intro hb
    show x_un o (tEv ρ2 a) = x_un o (tEv ρ a)
    rw [iha hb]
  | case4 e h1 h2 h3 =>
    intro _
    unfold tEv
    split
    · rfl
    · rename_i i
      exact (h1 i rfl).elim
    · rename_i o a b
      exact (h2 o a b rfl).elim
    · rename_i o a
      exact (h3 o a rfl).elim
    · rfl
def vBd (n m : Nat) : vA → Bool
  | .inl e => tBd n e
  | .inr none => true
  | .inr (some i) => decide (i < m)
theorem vBd_spec {n m : Nat} {ρ ρ2 : Nat → Int32} {σ σ2 : Nat → Nat} (h : ∀ i, i < n → ρ2 i = ρ i) (g : ∀ i, i < m → σ2 i = σ i) {v : vA} (hv : vBd n m v = true) : cv ρ2 σ2 v = cv ρ σ v := by
  rcases v with e | (_ | i)
  · exact congrArg Sum.inl (tBd_spec h e hv)
  · rfl
  · exact congrArg (fun z => Sum.inr (some z)) (g i (of_decide_eq_true hv))
theorem vBd_list {n m : Nat} {ρ ρ2 : Nat → Int32} {σ σ2 : Nat → Nat} (h : ∀ i, i < n → ρ2 i = ρ i) (g : ∀ i, i < m → σ2 i = σ i) {S : List vA} (hS : S.all (vBd n m) = true) : S.map (cv ρ2 σ2) = S.map (cv ρ σ) :=
  List.map_congr_left fun v hv => vBd_spec h g (List.all_eq_true.mp hS v hv)
theorem vBd_loc {n m : Nat} {ρ ρ2 : Nat → Int32} {σ σ2 : Nat → Nat} (h : ∀ i, i < n → ρ2 i = ρ i) (g : ∀ i, i < m → σ2 i = σ i) {L : List (Nat × vA)} (hL : L.all (fun q => vBd n m q.2) = true) : cvL ρ2 σ2 L = cvL ρ σ L :=
  List.map_congr_left fun q hq => by rw [vBd_spec h g (List.all_eq_true.mp hL q hq)]
def kBd (n : Nat) (k : TK) : Bool := tBd n k.2.1 && tBd n k.2.2.1
theorem kBd_spec {n : Nat} {ρ ρ2 : Nat → Int32} (h : ∀ i, i < n → ρ2 i = ρ i) {w : List TK} (hb : w.all (kBd n) = true) (hw : XPa (tHd ρ) w) : XPa (tHd ρ2) w := fun k hk => by
  have h1 := Bool.and_eq_true_iff.mp (List.all_eq_true.mp hb k hk)
  have h2 : tRel ρ k = k.2.2.2 := hw k hk
  show tRel ρ2 k = k.2.2.2
  rw [← h2]
  unfold tRel
  rw [tBd_spec h _ h1.1, tBd_spec h _ h1.2]
/-- what is known: of a cell's field, or of its element at a term -/
abbrev vK : Type := Nat × (Nat ⊕ Jvm.Term) × vA
def vHolds (ρ : Nat → Int32) (σ : Nat → Nat) (H : List (XC Int32)) (f : vK) : Prop := match f.2.1 with
  | .inl j => ∃ ci fs, H[σ f.1]? = some (.inl (ci, fs)) ∧ fs[j]? = some (cv ρ σ f.2.2)
  | .inr e => ∃ t vs, H[σ f.1]? = some (.inr (t, vs)) ∧ vs[(tEv ρ e).toNatClampNeg]? = some (cv ρ σ f.2.2)
def fBd (n m : Nat) (f : vK) : Bool := decide (f.1 < m) && (match f.2.1 with | .inl _ => true | .inr e => tBd n e) && vBd n m f.2.2
theorem fBd_spec {n m : Nat} {ρ ρ2 : Nat → Int32} {σ σ2 : Nat → Nat} (h : ∀ i, i < n → ρ2 i = ρ i) (g : ∀ i, i < m → σ2 i = σ i) {H : List (XC Int32)} {f : vK} (hb : fBd n m f = true) (hf : vHolds ρ σ H f) : vHolds ρ2 σ2 H f := by
  obtain ⟨i, j | e, v⟩ := f
  · have hb2 := Bool.and_eq_true_iff.mp hb
    have hb3 := Bool.and_eq_true_iff.mp hb2.1
    obtain ⟨ci, fs, h1, h2⟩ := hf
    refine ⟨ci, fs, ?_, ?_⟩
    · show H[σ2 i]? = _
      rw [g i (of_decide_eq_true hb3.1)]
      exact h1
    · show fs[j]? = some (cv ρ2 σ2 v)
      rw [vBd_spec h g hb2.2]
      exact h2
  · have hb2 := Bool.and_eq_true_iff.mp hb
    have hb3 := Bool.and_eq_true_iff.mp hb2.1
    obtain ⟨t, vs, h1, h2⟩ := hf
    refine ⟨t, vs, ?_, ?_⟩
    · show H[σ2 i]? = _
      rw [g i (of_decide_eq_true hb3.1)]
      exact h1
    · show vs[(tEv ρ2 e).toNatClampNeg]? = some (cv ρ2 σ2 v)
      rw [vBd_spec h g hb2.2, tBd_spec h e hb3.2]
      exact h2
/-- symbols of cells are of their kinds -/
def vSym (ty : Nat → Option Nat) (σ : Nat → Nat) (G : List Nat) : Prop := ∀ (i c : Nat), G[i]? = some c → ty (σ i) = some c
/-- do two symbols surely stand for two cells -/
def vApart (G : List Nat) (i j : Nat) : Bool := match G[i]?, G[j]? with
  | some a, some b => decide (a ≠ b)
  | _, _ => false
theorem vApart_spec {ty : Nat → Option Nat} {σ : Nat → Nat} {G : List Nat} (h : vSym ty σ G) {i j : Nat} (ha : vApart G i j = true) : σ i ≠ σ j := by
  unfold vApart at ha
  split at ha
  · rename_i a b h1 h2
    intro e
    have g1 := h i a h1
    have g2 := h j b h2
    rw [e, g2] at g1
    cases g1
    exact of_decide_eq_true ha rfl
  · cases ha
/-- what stays known when field j of i is written -/
def fPut (G : List Nat) (i j : Nat) (F : List vK) : List vK := F.filter (fun f => vApart G f.1 i || (match f.2.1 with | .inl j2 => decide (j2 ≠ j) | .inr _ => true))
theorem fPut_spec {ρ : Nat → Int32} {ty : Nat → Option Nat} {σ : Nat → Nat} {G : List Nat} (hs : vSym ty σ G) {H : List (XC Int32)} {i j ci : Nat} {fs : List (XV Int32)} {u : XV Int32} (hH : H[σ i]? = some (.inl (ci, fs))) {F : List vK} (hF : ∀ f ∈ F, vHolds ρ σ H f) : ∀ f ∈ fPut G i j F, vHolds ρ σ (H.set (σ i) (.inl (ci, fs.set j u))) f := by
  intro f hf
  obtain ⟨h1, h2⟩ := List.mem_filter.mp hf
  have h3 := hF f h1
  obtain ⟨i2, j2 | e, v⟩ := f
  · obtain ⟨c2, gs, h4, h5⟩ := h3
    by_cases he : σ i = σ i2
    · have h2 := Bool.or_eq_true_iff.mp h2
      rcases h2 with h2 | h2
      · exact (vApart_spec hs h2 he.symm).elim
      · have hj : j2 ≠ j := of_decide_eq_true h2
        have h4 : H[σ i2]? = some (.inl (c2, gs)) := h4
        rw [← he, hH] at h4
        cases h4
        refine ⟨ci, fs.set j u, ?_, ?_⟩
        · show (H.set (σ i) _)[σ i2]? = _
          rw [← he]
          exact List.getElem?_set_self (List.getElem?_eq_some_iff.mp hH).1
        · show (fs.set j u)[j2]? = _
          rw [List.getElem?_set_ne (Ne.symm hj)]
          exact h5
    · refine ⟨c2, gs, ?_, h5⟩
      show (H.set (σ i) _)[σ i2]? = _
      rw [List.getElem?_set_ne he]
      exact h4
  · obtain ⟨t, vs, h4, h5⟩ := h3
    have h4 : H[σ i2]? = some (.inr (t, vs)) := h4
    have he : σ i ≠ σ i2 := fun he => by
      rw [← he, hH] at h4
      cases h4
    refine ⟨t, vs, ?_, h5⟩
    show (H.set (σ i) _)[σ i2]? = _
    rw [List.getElem?_set_ne he]
    exact h4
/-- what stays known when an element of i is written -/
def fSto (G : List Nat) (i : Nat) (F : List vK) : List vK := F.filter (fun f => vApart G f.1 i || (match f.2.1 with | .inl _ => true | .inr _ => false))
theorem fSto_spec {ρ : Nat → Int32} {ty : Nat → Option Nat} {σ : Nat → Nat} {G : List Nat} (hs : vSym ty σ G) {H : List (XC Int32)} {i t : Nat} {vs us : List (XV Int32)} (hH : H[σ i]? = some (.inr (t, vs))) {F : List vK} (hF : ∀ f ∈ F, vHolds ρ σ H f) : ∀ f ∈ fSto G i F, vHolds ρ σ (H.set (σ i) (.inr (t, us))) f := by
  intro f hf
  obtain ⟨h1, h2⟩ := List.mem_filter.mp hf
  have h3 := hF f h1
  obtain ⟨i2, j2 | e, v⟩ := f
  · obtain ⟨c2, gs, h4, h5⟩ := h3
    have h4 : H[σ i2]? = some (.inl (c2, gs)) := h4
    have he : σ i ≠ σ i2 := fun he => by
      rw [← he, hH] at h4
      cases h4
    refine ⟨c2, gs, ?_, h5⟩
    show (H.set (σ i) _)[σ i2]? = _
    rw [List.getElem?_set_ne he]
    exact h4
  · obtain ⟨t2, ws, h4, h5⟩ := h3
    have h2 := Bool.or_eq_true_iff.mp h2
    rcases h2 with h2 | h2
    · have he : σ i ≠ σ i2 := fun he => vApart_spec hs h2 he.symm
      refine ⟨t2, ws, ?_, h5⟩
      show (H.set (σ i) _)[σ i2]? = _
      rw [List.getElem?_set_ne he]
      exact h4
    · cases h2
end XState
end
section
/-! New symbols; what a field or an element holds. -/
section XRead
/-- next unknown, kinds of the cells' symbols, what is known, what holds -/
abbrev vSt : Type := Nat × List Nat × List vK × List TK
def vRel (KT : Nat → Option vKd) (ρ : Nat → Int32) (σ : Nat → Nat) (ty : Nat → Option Nat) (H : List (XC Int32)) (s : vSt) : Prop :=
  vHp KT ty H ∧ vSym ty σ s.2.1 ∧ (∀ f ∈ s.2.2.1, vHolds ρ σ H f) ∧ XPa (tHd ρ) s.2.2.2
/-- older symbols stand for what they stood for -/
def vExt (s s2 : vSt) (ρ ρ2 : Nat → Int32) (σ σ2 : Nat → Nat) : Prop :=
  (∀ i, i < s.1 → ρ2 i = ρ i) ∧ (∀ i, i < s.2.1.length → σ2 i = σ i) ∧ s.1 ≤ s2.1 ∧ s.2.1.length ≤ s2.2.1.length
theorem vExt_rf (s : vSt) (ρ : Nat → Int32) (σ : Nat → Nat) : vExt s s ρ ρ σ σ := ⟨fun _ _ => rfl, fun _ _ => rfl, Nat.le_refl _, Nat.le_refl _⟩
theorem vExt_tr {s s2 s3 : vSt} {ρ ρ2 ρ3 : Nat → Int32} {σ σ2 σ3 : Nat → Nat} (h : vExt s s2 ρ ρ2 σ σ2) (g : vExt s2 s3 ρ2 ρ3 σ2 σ3) : vExt s s3 ρ ρ3 σ σ3 :=
  ⟨fun i hi => (g.1 i (Nat.lt_of_lt_of_le hi h.2.2.1)).trans (h.1 i hi), fun i hi => (g.2.1 i (Nat.lt_of_lt_of_le hi h.2.2.2)).trans (h.2.1 i hi), Nat.le_trans h.2.2.1 g.2.2.1, Nat.le_trans h.2.2.2 g.2.2.2⟩
def sBd (s : vSt) : Bool := s.2.2.1.all (fBd s.1 s.2.1.length) && s.2.2.2.all (kBd s.1)
def pOk (p : Int × Int) : Bool := decide (-2147483648 ≤ p.1) && decide (p.1 ≤ 2147483647) && decide (-2147483648 ≤ p.2) && decide (p.2 ≤ 2147483647)
/-- a new unknown within bounds -/
def vNi (p : Int × Int) (s : vSt) : vSt := (s.1 + 1, s.2.1, s.2.2.1, (true, .arg s.1, .int (Int32.ofInt p.1), false) :: (true, .int (Int32.ofInt p.2), .arg s.1, false) :: s.2.2.2)
theorem vNi_spec {KT : Nat → Option vKd} {ρ : Nat → Int32} {σ : Nat → Nat} {ty : Nat → Option Nat} {H : List (XC Int32)} {s : vSt} (h : vRel KT ρ σ ty H s) (hb : sBd s = true) {p : Int × Int} (hp : pOk p = true) {x : Int32} (hx : vIn p x) :
    ∃ ρ2, vExt s (vNi p s) ρ ρ2 σ σ ∧ vRel KT ρ2 σ ty H (vNi p s) ∧ ρ2 s.1 = x := by
  obtain ⟨h1, h2, h3, h4⟩ := h
  have hb2 := Bool.and_eq_true_iff.mp hb
  have he : ∀ i, i < s.1 → (fun i => if i = s.1 then x else ρ i) i = ρ i := fun i hi => if_neg (Nat.ne_of_lt hi)
  have hv : (fun i => if i = s.1 then x else ρ i) s.1 = x := if_pos rfl
  simp only [pOk, Bool.and_eq_true, decide_eq_true_eq] at hp
  obtain ⟨⟨⟨p1, p2⟩, p3⟩, p4⟩ := hp
  have e1 : (Int32.ofInt p.1).toInt = p.1 := by rw [Int32.toInt_ofInt]; exact vBm p1 p2
  have e2 : (Int32.ofInt p.2).toInt = p.2 := by rw [Int32.toInt_ofInt]; exact vBm p3 p4
  refine ⟨fun i => if i = s.1 then x else ρ i, ⟨he, fun _ _ => rfl, Nat.le_succ _, Nat.le_refl _⟩, ⟨h1, h2, fun f hf => fBd_spec he (fun _ _ => rfl) (List.all_eq_true.mp hb2.1 f hf) (h3 f hf), fun k hk => ?_⟩, hv⟩
  have hk : k ∈ (true, .arg s.1, .int (Int32.ofInt p.1), false) :: (true, .int (Int32.ofInt p.2), .arg s.1, false) :: s.2.2.2 := hk
  rcases List.mem_cons.mp hk with rfl | hk
  · show decide ((if s.1 = s.1 then x else ρ s.1) < Int32.ofInt p.1) = false
    rw [if_pos rfl]
    exact decide_eq_false (fun z => by have := Int32.lt_iff_toInt_lt.mp z; have := hx.1; omega)
  rcases List.mem_cons.mp hk with rfl | hk
  · show decide (Int32.ofInt p.2 < (if s.1 = s.1 then x else ρ s.1)) = false
    rw [if_pos rfl]
    exact decide_eq_false (fun z => by have := Int32.lt_iff_toInt_lt.mp z; have := hx.2; omega)
  · exact kBd_spec he hb2.2 h4 k hk
/-- a new symbol for a cell of a kind -/
def vNr (c : Nat) (s : vSt) : vSt := (s.1, s.2.1 ++ [c], s.2.2.1, s.2.2.2)
theorem vNr_spec {KT : Nat → Option vKd} {ρ : Nat → Int32} {σ : Nat → Nat} {ty : Nat → Option Nat} {H : List (XC Int32)} {s : vSt} (h : vRel KT ρ σ ty H s) (hb : sBd s = true) {a c : Nat} (ha : ty a = some c) :
    ∃ σ2, vExt s (vNr c s) ρ ρ σ σ2 ∧ vRel KT ρ σ2 ty H (vNr c s) ∧ σ2 s.2.1.length = a := by
  obtain ⟨h1, h2, h3, h4⟩ := h
  have hb2 := Bool.and_eq_true_iff.mp hb
  have he : ∀ i, i < s.2.1.length → (fun i => if i = s.2.1.length then a else σ i) i = σ i := fun i hi => if_neg (Nat.ne_of_lt hi)
  refine ⟨fun i => if i = s.2.1.length then a else σ i, ⟨fun _ _ => rfl, he, Nat.le_refl _, ?_⟩, ⟨h1, fun i d hd => ?_, fun f hf => fBd_spec (fun _ _ => rfl) he (List.all_eq_true.mp hb2.1 f hf) (h3 f hf), h4⟩, if_pos rfl⟩
  · show s.2.1.length ≤ (s.2.1 ++ [c]).length
    rw [List.length_append]
    exact Nat.le_add_right _ _
  · have hd : (s.2.1 ++ [c])[i]? = some d := hd
    show ty (if i = s.2.1.length then a else σ i) = some d
    by_cases e : i = s.2.1.length
    · rw [if_pos e]
      rw [e, List.getElem?_append_right (Nat.le_refl _), Nat.sub_self] at hd
      have hd : some c = some d := hd
      rw [ha]
      exact hd
    · rw [if_neg e]
      have hlt : i < s.2.1.length := by
        have := (List.getElem?_eq_some_iff.mp hd).1
        rw [List.length_append] at this
        have : i < s.2.1.length + 1 := this
        omega
      rw [List.getElem?_append_left hlt] at hd
      exact h2 i d hd
def vKn (f : vK) (s : vSt) : vSt := (s.1, s.2.1, f :: s.2.2.1, s.2.2.2)
theorem vKn_spec {KT : Nat → Option vKd} {ρ : Nat → Int32} {σ : Nat → Nat} {ty : Nat → Option Nat} {H : List (XC Int32)} {s : vSt} (h : vRel KT ρ σ ty H s) {f : vK} (hf : vHolds ρ σ H f) : vRel KT ρ σ ty H (vKn f s) :=
  ⟨h.1, h.2.1, fun g hg => by
    rcases List.mem_cons.mp hg with rfl | hg
    · exact hf
    · exact h.2.2.1 g hg, h.2.2.2⟩
def fGet (i : Nat) (key : Nat ⊕ Jvm.Term) (F : List vK) : Option vA := (F.find? (fun f => decide (f.1 = i) && decide (f.2.1 = key))).map (fun f => f.2.2)
theorem fGet_spec {ρ : Nat → Int32} {σ : Nat → Nat} {H : List (XC Int32)} {i : Nat} {key : Nat ⊕ Jvm.Term} {F : List vK} {v : vA} (hF : ∀ f ∈ F, vHolds ρ σ H f) (h : fGet i key F = some v) : vHolds ρ σ H (i, key, v) := by
  unfold fGet at h
  obtain ⟨f, h1, h2⟩ := Option.map_eq_some_iff.mp h
  have h3 := List.find?_some h1
  have h4 := hF f (List.mem_of_find?_eq_some h1)
  simp only [Bool.and_eq_true, decide_eq_true_eq] at h3
  obtain ⟨i2, k2, v2⟩ := f
  obtain ⟨rfl, rfl⟩ := h3
  have h2 : v2 = v := h2
  rw [← h2]
  exact h4
/-- a place (field, or element at a term) of a cell's symbol holds that -/
def vPlace (ρ : Nat → Int32) (σ : Nat → Nat) (H : List (XC Int32)) (i : Nat) (key : Nat ⊕ Jvm.Term) (u : XV Int32) : Prop := match key with
  | .inl j => ∃ ci fs, H[σ i]? = some (.inl (ci, fs)) ∧ fs[j]? = some u
  | .inr e => ∃ t vs, H[σ i]? = some (.inr (t, vs)) ∧ vs[(tEv ρ e).toNatClampNeg]? = some u
theorem vPlace_holds {ρ : Nat → Int32} {σ : Nat → Nat} {H : List (XC Int32)} {i : Nat} {key : Nat ⊕ Jvm.Term} {v : vA} : vHolds ρ σ H (i, key, v) ↔ vPlace ρ σ H i key (cv ρ σ v) := by
  rcases key with j | e
  · exact Iff.rfl
  · exact Iff.rfl
theorem vPlace_one {ρ : Nat → Int32} {σ : Nat → Nat} {H : List (XC Int32)} {i : Nat} {key : Nat ⊕ Jvm.Term} {u v : XV Int32} (h : vPlace ρ σ H i key u) (g : vPlace ρ σ H i key v) : u = v := by
  rcases key with j | e
  · obtain ⟨c1, fs, h1, h2⟩ := h
    obtain ⟨c2, gs, g1, g2⟩ := g
    rw [h1] at g1
    cases g1
    rw [h2] at g2
    cases g2
    rfl
  · obtain ⟨c1, fs, h1, h2⟩ := h
    obtain ⟨c2, gs, g1, g2⟩ := g
    rw [h1] at g1
    cases g1
    rw [h2] at g2
    cases g2
    rfl
theorem vPlace_ext {n m : Nat} {ρ ρ2 : Nat → Int32} {σ σ2 : Nat → Nat} (h : ∀ i, i < n → ρ2 i = ρ i) (g : ∀ i, i < m → σ2 i = σ i) {H : List (XC Int32)} {i : Nat} {key : Nat ⊕ Jvm.Term} {u : XV Int32} (hb : fBd n m (i, key, .inr none) = true) (hf : vPlace ρ σ H i key u) : vPlace ρ2 σ2 H i key u := by
  have hb2 := Bool.and_eq_true_iff.mp hb
  have hb3 := Bool.and_eq_true_iff.mp hb2.1
  rcases key with j | e
  · obtain ⟨ci, fs, h1, h2⟩ := hf
    refine ⟨ci, fs, ?_, h2⟩
    rw [g i (of_decide_eq_true hb3.1)]
    exact h1
  · obtain ⟨t, vs, h1, h2⟩ := hf
    refine ⟨t, vs, ?_, ?_⟩
    · rw [g i (of_decide_eq_true hb3.1)]
      exact h1
    · rw [tBd_spec h e hb3.2]
      exact h2
/-- what a place holds: known, or new by its kind (null and not, where it may be) -/
def vRd (f : vF) (i : Nat) (key : Nat ⊕ Jvm.Term) (s : vSt) (kk : vSt → vA → Bool) : Bool := match fGet i key s.2.2.1 with
  | some v => kk s v
  | none => sBd s && fBd s.1 s.2.1.length (i, key, .inr none) && (match f with
    | .inl p => pOk p && kk (vKn (i, key, .inl (.arg s.1)) (vNi p s)) (.inl (.arg s.1))
    | .inr q => kk (vKn (i, key, .inr (some s.2.1.length)) (vNr q.2 s)) (.inr (some s.2.1.length)) && (!q.1 || kk (vKn (i, key, .inr none) s) (.inr none)))
theorem vRd_spec {KT : Nat → Option vKd} {ρ : Nat → Int32} {σ : Nat → Nat} {ty : Nat → Option Nat} {H : List (XC Int32)} {s : vSt} (h : vRel KT ρ σ ty H s) {f : vF} {i : Nat} {key : Nat ⊕ Jvm.Term} {u : XV Int32} (hp : vPlace ρ σ H i key u) (hu : vFit ty f u) {kk : vSt → vA → Bool} (hk : vRd f i key s kk = true) :
    ∃ ρ2 σ2 s2 v, vExt s s2 ρ ρ2 σ σ2 ∧ vRel KT ρ2 σ2 ty H s2 ∧ cv ρ2 σ2 v = u ∧ kk s2 v = true := by
  unfold vRd at hk
  split at hk
  · rename_i v hv
    exact ⟨ρ, σ, s, v, vExt_rf s ρ σ, h, vPlace_one (vPlace_holds.mp (fGet_spec h.2.2.1 hv)) hp, hk⟩
  · have hk2 := Bool.and_eq_true_iff.mp hk
    have hk3 := Bool.and_eq_true_iff.mp hk2.1
    rcases f with p | q
    · have hk4 := Bool.and_eq_true_iff.mp hk2.2
      rcases u with x | u
      · obtain ⟨ρ2, g1, g2, g3⟩ := vNi_spec h hk3.1 hk4.1 (x := x) hu
        have e : cv ρ2 σ (.inl (.arg s.1)) = .inl x := congrArg Sum.inl g3
        refine ⟨ρ2, σ, vKn (i, key, .inl (.arg s.1)) (vNi p s), .inl (.arg s.1), g1, vKn_spec g2 (vPlace_holds.mpr ?_), e, hk4.2⟩
        rw [e]
        exact vPlace_ext g1.1 g1.2.1 hk3.2 hp
      · rcases u with _ | a
        · exact hu.elim
        · exact hu.elim
    · have hk4 := Bool.and_eq_true_iff.mp hk2.2
      rcases u with x | (_ | a)
      · exact hu.elim
      · have hq : q.1 = true := hu
        have hk5 : (!q.1 || kk (vKn (i, key, .inr none) s) (.inr none)) = true := hk4.2
        rw [hq] at hk5
        have hk5 : kk (vKn (i, key, .inr none) s) (.inr none) = true := hk5
        exact ⟨ρ, σ, vKn (i, key, .inr none) s, .inr none, vExt_rf s ρ σ, vKn_spec h (vPlace_holds.mpr hp), rfl, hk5⟩
      · obtain ⟨σ2, g1, g2, g3⟩ := vNr_spec h hk3.1 (a := a) (c := q.2) hu
        have e : cv ρ σ2 (.inr (some s.2.1.length)) = .inr (some a) := congrArg (fun z => Sum.inr (some z)) g3
        refine ⟨ρ, σ2, vKn (i, key, .inr (some s.2.1.length)) (vNr q.2 s), .inr (some s.2.1.length), g1, vKn_spec g2 (vPlace_holds.mpr ?_), e, hk4.1⟩
        rw [e]
        exact vPlace_ext g1.1 g1.2.1 hk3.2 hp
end XRead
end
section
/-! Questions and indices, of a state in symbols. -/
section XBr
def vCo (k : TK) (s : vSt) : vSt := (s.1, s.2.1, s.2.2.1, k :: s.2.2.2)
theorem vCo_spec {KT : Nat → Option vKd} {ρ : Nat → Int32} {σ : Nat → Nat} {ty : Nat → Option Nat} {H : List (XC Int32)} {s : vSt} (h : vRel KT ρ σ ty H s) {k : TK} (hk : tHd ρ k) : vRel KT ρ σ ty H (vCo k s) ∧ vExt s (vCo k s) ρ ρ σ σ :=
  ⟨⟨h.1, h.2.1, h.2.2.1, tCons h.2.2.2 hk⟩, fun _ _ => rfl, fun _ _ => rfl, Nat.le_refl _, Nat.le_refl _⟩
def vAsk (b : Bool) (x y : Jvm.Term) (s : vSt) (kt kf : vSt → Bool) : Bool := match vDec s.2.2.2 3 b x y with
  | some true => kt s
  | some false => kf s
  | none => kt (vCo (b, x, y, true) s) && kf (vCo (b, x, y, false) s)
theorem vAsk_spec {KT : Nat → Option vKd} {ρ : Nat → Int32} {σ : Nat → Nat} {ty : Nat → Option Nat} {H : List (XC Int32)} {s : vSt} (h : vRel KT ρ σ ty H s) {b : Bool} {x y : Jvm.Term} {kt kf : vSt → Bool} (hk : vAsk b x y s kt kf = true) :
    ∃ s2, vRel KT ρ σ ty H s2 ∧ vExt s s2 ρ ρ σ σ ∧ ((tRel ρ (b, x, y, true) = true ∧ kt s2 = true) ∨ (tRel ρ (b, x, y, true) = false ∧ kf s2 = true)) := by
  unfold vAsk at hk
  split at hk
  · rename_i hd
    exact ⟨s, h, vExt_rf s ρ σ, Or.inl ⟨vDec_spec h.2.2.2 hd, hk⟩⟩
  · rename_i hd
    exact ⟨s, h, vExt_rf s ρ σ, Or.inr ⟨vDec_spec h.2.2.2 hd, hk⟩⟩
  · have hk2 := Bool.and_eq_true_iff.mp hk
    by_cases hr : tRel ρ (b, x, y, true) = true
    · obtain ⟨g1, g2⟩ := vCo_spec h (k := (b, x, y, true)) hr
      exact ⟨_, g1, g2, Or.inl ⟨hr, hk2.1⟩⟩
    · have hr2 : tRel ρ (b, x, y, true) = false := by simpa using hr
      obtain ⟨g1, g2⟩ := vCo_spec h (k := (b, x, y, false)) (show tRel ρ (b, x, y, false) = false from hr2)
      exact ⟨_, g1, g2, Or.inr ⟨hr2, hk2.2⟩⟩
def vBr (o : Nat) (a b : Jvm.Term) (s : vSt) (kt kf : vSt → Bool) : Bool := match o with
  | 0 => vAsk false a b s kt kf
  | 1 => vAsk false a b s kf kt
  | 2 => vAsk true a b s kt kf
  | 3 => vAsk true a b s kf kt
  | 4 => vAsk true b a s kt kf
  | _ => vAsk true b a s kf kt
theorem vBr_spec {KT : Nat → Option vKd} {ρ : Nat → Int32} {σ : Nat → Nat} {ty : Nat → Option Nat} {H : List (XC Int32)} {s : vSt} (h : vRel KT ρ σ ty H s) {o : Nat} {a b : Jvm.Term} {kt kf : vSt → Bool} (hk : vBr o a b s kt kf = true) :
    ∃ s2, vRel KT ρ σ ty H s2 ∧ vExt s s2 ρ ρ σ σ ∧ ((x_cmp o (tEv ρ a) (tEv ρ b) = true ∧ kt s2 = true) ∨ (x_cmp o (tEv ρ a) (tEv ρ b) = false ∧ kf s2 = true)) := by
  have neg : ∀ (p : Prop) (i : Decidable p) (q : Prop) (j : Decidable q), (q ↔ ¬ p) → @decide p i = !(@decide q j) := fun p i q j hq => by
    by_cases hp : p
    · simp [hp, hq]
    · simp [hp, hq]
  unfold vBr at hk
  split at hk
  · exact vAsk_spec h hk
  · obtain ⟨s2, g0, g1, g2⟩ := vAsk_spec h hk
    have e : tRel ρ (false, a, b, true) = !(x_cmp 1 (tEv ρ a) (tEv ρ b)) := neg _ _ _ _ Iff.rfl
    rw [e] at g2
    refine ⟨s2, g0, g1, ?_⟩
    rcases g2 with ⟨z1, z2⟩ | ⟨z1, z2⟩
    · exact Or.inr ⟨by simpa using z1, z2⟩
    · exact Or.inl ⟨by simpa using z1, z2⟩
  · exact vAsk_spec h hk
  · obtain ⟨s2, g0, g1, g2⟩ := vAsk_spec h hk
    have e : tRel ρ (true, a, b, true) = !(x_cmp 3 (tEv ρ a) (tEv ρ b)) := neg _ _ _ _ Int32.not_lt.symm
    rw [e] at g2
    refine ⟨s2, g0, g1, ?_⟩
    rcases g2 with ⟨z1, z2⟩ | ⟨z1, z2⟩
    · exact Or.inr ⟨by simpa using z1, z2⟩
    · exact Or.inl ⟨by simpa using z1, z2⟩
  · exact vAsk_spec h hk
  · rename_i o' h0 h1 h2 h3 h4
    obtain ⟨s2, g0, g1, g2⟩ := vAsk_spec h hk
    have e0 : x_cmp o (tEv ρ a) (tEv ρ b) = decide (tEv ρ a ≤ tEv ρ b) := by
      unfold x_cmp
      split <;> first | rfl | (exfalso; simp_all; done)
    have e : tRel ρ (true, b, a, true) = !(decide (tEv ρ a ≤ tEv ρ b)) := neg _ _ _ _ Int32.not_lt.symm
    rw [e] at g2
    rw [e0]
    refine ⟨s2, g0, g1, ?_⟩
    rcases g2 with ⟨z1, z2⟩ | ⟨z1, z2⟩
    · exact Or.inr ⟨by simpa using z1, z2⟩
    · exact Or.inl ⟨by simpa using z1, z2⟩
/-- an index that is surely one of n -/
def vIdx (e : Jvm.Term) (n : Nat) (s : vSt) : Bool := decide (0 ≤ (vRng s.2.2.2 3 e).1) && decide ((vRng s.2.2.2 3 e).2 < (n : Int))
theorem vIdx_spec {KT : Nat → Option vKd} {ρ : Nat → Int32} {σ : Nat → Nat} {ty : Nat → Option Nat} {H : List (XC Int32)} {s : vSt} (h : vRel KT ρ σ ty H s) {e : Jvm.Term} {n : Nat} (hk : vIdx e n s = true) : (decide (tEv ρ e < 0) || decide (n ≤ (tEv ρ e).toNatClampNeg)) = false ∧ (tEv ρ e).toNatClampNeg < n := by
  obtain ⟨r1, r2⟩ := vRng_spec h.2.2.2 3 e
  have hk2 := Bool.and_eq_true_iff.mp hk
  have k1 := of_decide_eq_true hk2.1
  have k2 := of_decide_eq_true hk2.2
  have e1 : (tEv ρ e).toNatClampNeg = (tEv ρ e).toInt.toNat := rfl
  have e2 : (tEv ρ e).toNatClampNeg < n := by omega
  refine ⟨?_, e2⟩
  rw [Bool.or_eq_false_iff]
  refine ⟨decide_eq_false (fun z => ?_), decide_eq_false (by omega)⟩
  have z2 : (tEv ρ e).toInt < (0 : Int) := Int32.lt_iff_toInt_lt.mp z
  omega
end XBr
end
section
/-! The checker (under way: not all instructions yet), and that it is right. -/
section XChk
def vFr (L : List (Nat × vA)) (r : List vA) (s : vSt) : Bool := L.all (fun q => vBd s.1 s.2.1.length q.2) && r.all (vBd s.1 s.2.1.length)
theorem vFr_spec {s s2 : vSt} {ρ ρ2 : Nat → Int32} {σ σ2 : Nat → Nat} (g : vExt s s2 ρ ρ2 σ σ2) {L : List (Nat × vA)} {r : List vA} (hk : vFr L r s = true) : cvL ρ2 σ2 L = cvL ρ σ L ∧ r.map (cv ρ2 σ2) = r.map (cv ρ σ) := by
  have hk2 := Bool.and_eq_true_iff.mp hk
  exact ⟨vBd_loc g.1 g.2.1 hk2.1, vBd_list g.1 g.2.1 hk2.2⟩
def vB01 (e : Jvm.Term) (s : vSt) : Bool := decide (0 ≤ (vRng s.2.2.2 3 e).1) && decide ((vRng s.2.2.2 3 e).2 ≤ 1)
theorem vB01_spec {KT : Nat → Option vKd} {ρ : Nat → Int32} {σ : Nat → Nat} {ty : Nat → Option Nat} {H : List (XC Int32)} {s : vSt} (h : vRel KT ρ σ ty H s) {e : Jvm.Term} (hk : vB01 e s = true) : tEv ρ e = 0 ∨ tEv ρ e = 1 := by
  obtain ⟨r1, r2⟩ := vRng_spec h.2.2.2 3 e
  have hk2 := Bool.and_eq_true_iff.mp hk
  have k1 := of_decide_eq_true hk2.1
  have k2 := of_decide_eq_true hk2.2
  by_cases c : (tEv ρ e).toInt = 0
  · exact Or.inl (Int32.toInt_inj.mp c)
  · exact Or.inr (Int32.toInt_inj.mp (show (tEv ρ e).toInt = 1 by omega))
theorem vB01_fit {KT : Nat → Option vKd} {ρ : Nat → Int32} {σ : Nat → Nat} {ty : Nat → Option Nat} {H : List (XC Int32)} {s : vSt} (h : vRel KT ρ σ ty H s) {e : Jvm.Term} (hk : vB01 e s = true) : x_fit dC .boolean (.inl (tEv ρ e)) = true := by
  show (decide (tEv ρ e = 0) || decide (tEv ρ e = 1)) = true
  rcases vB01_spec h hk with e1 | e1
  · rw [e1]
    rfl
  · rw [e1]
    rfl
def vTyp (t : FieldType) (v : vA) (s : vSt) : Bool := match t, v with
  | .int, .inl _ => true
  | .boolean, .inl e => vB01 e s
  | .object _, .inr _ => true
  | .array _, .inr _ => true
  | _, _ => false
theorem vTyp_spec {KT : Nat → Option vKd} {ρ : Nat → Int32} {σ : Nat → Nat} {ty : Nat → Option Nat} {H : List (XC Int32)} {s : vSt} (h : vRel KT ρ σ ty H s) {t : FieldType} {v : vA} (hk : vTyp t v s = true) : x_fit dC t (cv ρ σ v) = true := by
  unfold vTyp at hk
  split at hk
  · rfl
  · exact vB01_fit h hk
  · rename_i c o
    rcases o with _ | i <;> rfl
  · rename_i c o
    rcases o with _ | i <;> rfl
  · cases hk
def vFits (f : vF) (v : vA) (s : vSt) : Bool := match f, v with
  | .inl p, .inl e => decide (p.1 ≤ (vRng s.2.2.2 3 e).1) && decide ((vRng s.2.2.2 3 e).2 ≤ p.2)
  | .inr q, .inr none => q.1
  | .inr q, .inr (some i) => decide (s.2.1[i]? = some q.2)
  | _, _ => false
theorem vFits_spec {KT : Nat → Option vKd} {ρ : Nat → Int32} {σ : Nat → Nat} {ty : Nat → Option Nat} {H : List (XC Int32)} {s : vSt} (h : vRel KT ρ σ ty H s) {f : vF} {v : vA} (hk : vFits f v s = true) : vFit ty f (cv ρ σ v) := by
  unfold vFits at hk
  split at hk
  · rename_i p e
    obtain ⟨r1, r2⟩ := vRng_spec h.2.2.2 3 e
    have hk2 := Bool.and_eq_true_iff.mp hk
    exact ⟨Int.le_trans (of_decide_eq_true hk2.1) r1, Int.le_trans r2 (of_decide_eq_true hk2.2)⟩
  · exact hk
  · rename_i q i
    exact h.2.1 i q.2 (of_decide_eq_true hk)
  · cases hk
def vSto (a : Nat) (s : vSt) : vSt := (s.1, s.2.1, fSto s.2.1 a s.2.2.1, s.2.2.2)
def vPut (a j : Nat) (s : vSt) : vSt := (s.1, s.2.1, fPut s.2.1 a j s.2.2.1, s.2.2.2)
theorem vSto_rel {KT : Nat → Option vKd} {ρ : Nat → Int32} {σ : Nat → Nat} {ty : Nat → Option Nat} {H : List (XC Int32)} {s : vSt} (h : vRel KT ρ σ ty H s) {a c t m : Nat} {f : vF} {vs : List (XV Int32)} {e : Jvm.Term} {v : vA} (ha : ty (σ a) = some c) (hK : KT c = some (.inr (t, m, f))) (hH : H[σ a]? = some (.inr (t, vs))) (hi : (tEv ρ e).toNatClampNeg < vs.length) (hu : vFit ty f (cv ρ σ v)) :
    vRel KT ρ σ ty (H.set (σ a) (.inr (t, vs.set (tEv ρ e).toNatClampNeg (cv ρ σ v)))) (vKn (a, .inr e, v) (vSto a s)) := by
  refine vKn_spec (s := vSto a s) ⟨vHp_sto h.1 ha hK hH hu, h.2.1, fSto_spec h.2.1 hH h.2.2.1, h.2.2.2⟩ ?_
  exact ⟨t, vs.set (tEv ρ e).toNatClampNeg (cv ρ σ v), List.getElem?_set_self (vHp_lt h.1 ha), List.getElem?_set_self hi⟩
theorem vPut_rel {KT : Nat → Option vKd} {ρ : Nat → Int32} {σ : Nat → Nat} {ty : Nat → Option Nat} {H : List (XC Int32)} {s : vSt} (h : vRel KT ρ σ ty H s) {a c ci j : Nat} {fl : List vF} {f : vF} {fs : List (XV Int32)} {v : vA} (ha : ty (σ a) = some c) (hK : KT c = some (.inl (ci, fl))) (hH : H[σ a]? = some (.inl (ci, fs))) (hf : fl[j]? = some f) (hi : j < fs.length) (hu : vFit ty f (cv ρ σ v)) :
    vRel KT ρ σ ty (H.set (σ a) (.inl (ci, fs.set j (cv ρ σ v)))) (vKn (a, .inl j, v) (vPut a j s)) := by
  refine vKn_spec (s := vPut a j s) ⟨vHp_put h.1 ha hK hH hf hu, h.2.1, fPut_spec h.2.1 hH h.2.2.1, h.2.2.2⟩ ?_
  exact ⟨ci, fs.set j (cv ρ σ v), List.getElem?_set_self (vHp_lt h.1 ha), List.getElem?_set_self hi⟩
def vSw (a : Jvm.Term) (df : Int) (kk : Int → vSt → Bool) : List (Int × Int) → vSt → Bool
  | [], s => kk df s
  | q :: r, s => vBr 0 a (.int (Int32.ofInt q.1)) s (fun s2 => kk q.2 s2) (fun s2 => vSw a df kk r s2)
theorem vSw_spec {KT : Nat → Option vKd} {ρ : Nat → Int32} {σ : Nat → Nat} {ty : Nat → Option Nat} {H : List (XC Int32)} {a : Jvm.Term} {df : Int} {kk : Int → vSt → Bool} : ∀ (ps : List (Int × Int)) {s : vSt}, vRel KT ρ σ ty H s → vSw a df kk ps s = true → ∃ s2, vRel KT ρ σ ty H s2 ∧ vExt s s2 ρ ρ σ σ ∧ kk (x_swo (tEv ρ a) df ps) s2 = true
  | [], s, h, hk => ⟨s, h, vExt_rf s ρ σ, hk⟩
  | q :: r, s, h, hk => by
    obtain ⟨s2, g0, g1, g2⟩ := vBr_spec h hk
    rcases g2 with ⟨e, g2⟩ | ⟨e, g2⟩
    · refine ⟨s2, g0, g1, ?_⟩
      have e2 : tEv ρ a = Int32.ofInt q.1 := of_decide_eq_true e
      show kk (if tEv ρ a = Int32.ofInt q.1 then q.2 else x_swo (tEv ρ a) df r) s2 = true
      rw [if_pos e2]
      exact g2
    · have e2 : ¬ tEv ρ a = Int32.ofInt q.1 := of_decide_eq_false e
      obtain ⟨s3, k0, k1, k2⟩ := vSw_spec r g0 g2
      refine ⟨s3, k0, vExt_tr g1 k1, ?_⟩
      show kk (if tEv ρ a = Int32.ofInt q.1 then q.2 else x_swo (tEv ρ a) df r) s3 = true
      rw [if_neg e2]
      exact k2
def vCls (KT : Nat → Option vKd) (a ci : Nat) (s : vSt) : Bool := match s.2.1[a]? with
  | some c => match KT c with
    | some (.inl o) => decide (o.1 = ci)
    | _ => false
  | none => false
theorem vCls_spec {KT : Nat → Option vKd} {ρ : Nat → Int32} {σ : Nat → Nat} {ty : Nat → Option Nat} {H : List (XC Int32)} {s : vSt} {ot : XO Int32} (h : vRel KT ρ σ ty H s) (hl : H.length ≤ 1000000) {a ci : Nat} (hk : vCls KT a ci s = true) : x_rc ot H (σ a) = some ci := by
  unfold vCls at hk
  split at hk
  · rename_i c hc
    split at hk
    · rename_i o ho
      have ha := h.2.1 a c hc
      obtain ⟨fs, f1, -, -⟩ := vHp_obj h.1 ha ho
      have hlt := vHp_lt h.1 ha
      unfold x_rc
      rw [if_neg (by omega), f1]
      exact congrArg some (of_decide_eq_true hk)
    · cases hk
  · cases hk
/-- an answer that the method may give -/
def vRt (m : Option FieldType) (e : Jvm.Term) (s : vSt) : Bool := match m with
  | some .int => true
  | some .boolean => vB01 e s
  | _ => false
theorem vRt_spec {KT : Nat → Option vKd} {ρ : Nat → Int32} {σ : Nat → Nat} {ty : Nat → Option Nat} {H : List (XC Int32)} {s : vSt} (h : vRel KT ρ σ ty H s) {m : Option FieldType} {e : Jvm.Term} (hk : vRt m e s = true) : x_retOk dC m (.inl (tEv ρ e)) = true := by
  unfold vRt at hk
  split at hk
  · rfl
  · show (decide (tEv ρ e = 0) || decide (tEv ρ e = 1)) = true
    rcases vB01_spec h hk with e1 | e1
    · rw [e1]
      rfl
    · rw [e1]
      rfl
  · cases hk
abbrev vCu : Type := Nat → Option (List (Nat × vA) → List vA → vSt → Nat → Nat → Bool)
def vChk (KT : Nat → Option vKd) (tb : XT) (tyl : List FieldType) : Nat → Bool → Nat → Nat → Nat → List (Nat × vA) → List vA → vSt → Nat → Nat → vCu → (vSt → Option vA → Bool) → Bool
  | 0, _, _, _, _, _, _, _, _, _, _, _ => false
  | f + 1, go, dp, k, pc, L, S, s, cn, sn, cu, ret =>
    match (if go = true then none else cu pc) with
    | some g => g L S s cn sn
    | none => match tMth tb k with
    | none => false
    | some q => match mC q pc with
    | none => false
    | some (i, _) => match i with
      | .iconst x => vChk KT tb tyl f false dp k (pc + 1) L (.inl (.int (Int32.ofInt x)) :: S) s cn sn cu ret
      | .bipush x => vChk KT tb tyl f false dp k (pc + 2) L (.inl (.int (Int8.ofInt x).toInt32) :: S) s cn sn cu ret
      | .sipush x => vChk KT tb tyl f false dp k (pc + 3) L (.inl (.int (Int16.ofInt x).toInt32) :: S) s cn sn cu ret
      | .aconst_null => vChk KT tb tyl f false dp k (pc + 1) L (.inr none :: S) s cn sn cu ret
      | .iload_n j => match x_lk L j with
        | some (.inl a) => vChk KT tb tyl f false dp k (pc + 1) L (.inl a :: S) s cn sn cu ret
        | _ => false
      | .iload j => match x_lk L j with
        | some (.inl a) => vChk KT tb tyl f false dp k (pc + 2) L (.inl a :: S) s cn sn cu ret
        | _ => false
      | .aload_n j => match x_lk L j with
        | some (.inr a) => vChk KT tb tyl f false dp k (pc + 1) L (.inr a :: S) s cn sn cu ret
        | _ => false
      | .aload j => match x_lk L j with
        | some (.inr a) => vChk KT tb tyl f false dp k (pc + 2) L (.inr a :: S) s cn sn cu ret
        | _ => false
      | .iadd => match S with
        | .inl b :: .inl a :: r => vChk KT tb tyl f false dp k (pc + 1) L (.inl (tBin 0 a b) :: r) s cn sn cu ret
        | _ => false
      | .isub => match S with
        | .inl b :: .inl a :: r => vChk KT tb tyl f false dp k (pc + 1) L (.inl (tBin 1 a b) :: r) s cn sn cu ret
        | _ => false
      | .imul => match S with
        | .inl b :: .inl a :: r => vChk KT tb tyl f false dp k (pc + 1) L (.inl (tBin 2 a b) :: r) s cn sn cu ret
        | _ => false
      | .iand => match S with
        | .inl b :: .inl a :: r => vChk KT tb tyl f false dp k (pc + 1) L (.inl (tBin 3 a b) :: r) s cn sn cu ret
        | _ => false
      | .ior => match S with
        | .inl b :: .inl a :: r => vChk KT tb tyl f false dp k (pc + 1) L (.inl (tBin 4 a b) :: r) s cn sn cu ret
        | _ => false
      | .ixor => match S with
        | .inl b :: .inl a :: r => vChk KT tb tyl f false dp k (pc + 1) L (.inl (tBin 5 a b) :: r) s cn sn cu ret
        | _ => false
      | .ishl => match S with
        | .inl b :: .inl a :: r => vChk KT tb tyl f false dp k (pc + 1) L (.inl (tBin 6 a b) :: r) s cn sn cu ret
        | _ => false
      | .ishr => match S with
        | .inl b :: .inl a :: r => vChk KT tb tyl f false dp k (pc + 1) L (.inl (tBin 7 a b) :: r) s cn sn cu ret
        | _ => false
      | .iushr => match S with
        | .inl b :: .inl a :: r => vChk KT tb tyl f false dp k (pc + 1) L (.inl (tBin 10 a b) :: r) s cn sn cu ret
        | _ => false
      | .goto x => match x_jp pc x with
        | some t => vChk KT tb tyl f false dp k t L S s cn sn cu ret
        | none => false
      | .if_icmp c x => match S, x_jp pc x with
        | .inl b :: .inl a :: r, some t => vBr (x_cn c) a b s (fun s2 => vChk KT tb tyl f false dp k t L r s2 cn sn cu ret) (fun s2 => vChk KT tb tyl f false dp k (pc + 3) L r s2 cn sn cu ret)
        | _, _ => false
      | .istore_n j => match S with
        | .inl a :: r => decide ((j : Nat) < mL q) && vChk KT tb tyl f false dp k (pc + 1) (x_st L j (.inl a)) r s cn sn cu ret
        | _ => false
      | .istore j => match S with
        | .inl a :: r => decide ((j : Nat) < mL q) && vChk KT tb tyl f false dp k (pc + 2) (x_st L j (.inl a)) r s cn sn cu ret
        | _ => false
      | .astore_n j => match S with
        | .inr a :: r => decide ((j : Nat) < mL q) && vChk KT tb tyl f false dp k (pc + 1) (x_st L j (.inr a)) r s cn sn cu ret
        | _ => false
      | .astore j => match S with
        | .inr a :: r => decide ((j : Nat) < mL q) && vChk KT tb tyl f false dp k (pc + 2) (x_st L j (.inr a)) r s cn sn cu ret
        | _ => false
      | .iinc j x => match x_lk L j with
        | some (.inl a) => decide (j < mL q) && vChk KT tb tyl f false dp k (pc + 3) (x_st L j (.inl (tBin 0 a (.int (Int32.ofInt x))))) S s cn sn cu ret
        | _ => false
      | .dup => match S with
        | a :: r => vChk KT tb tyl f false dp k (pc + 1) L (a :: a :: r) s cn sn cu ret
        | _ => false
      | .dup_x1 => match S with
        | a :: b :: r => vChk KT tb tyl f false dp k (pc + 1) L (a :: b :: a :: r) s cn sn cu ret
        | _ => false
      | .dup2 => match S with
        | a :: b :: r => vChk KT tb tyl f false dp k (pc + 1) L (a :: b :: a :: b :: r) s cn sn cu ret
        | _ => false
      | .pop => match S with
        | _ :: r => vChk KT tb tyl f false dp k (pc + 1) L (r) s cn sn cu ret
        | _ => false
      | .ifCond c x => match x_jp pc x with
        | some t => match S with
          | .inl a :: r => vBr (x_cn c) a (.int 0) s (fun s2 => vChk KT tb tyl f false dp k t L r s2 cn sn cu ret) (fun s2 => vChk KT tb tyl f false dp k (pc + 3) L r s2 cn sn cu ret)
          | _ => false
        | none => false
      | .ifnull x => match x_jp pc x with
        | some t => match S with
          | .inr none :: r => vChk KT tb tyl f false dp k t L r s cn sn cu ret
          | .inr (some _) :: r => vChk KT tb tyl f false dp k (pc + 3) L r s cn sn cu ret
          | _ => false
        | none => false
      | .ifnonnull x => match x_jp pc x with
        | some t => match S with
          | .inr none :: r => vChk KT tb tyl f false dp k (pc + 3) L r s cn sn cu ret
          | .inr (some _) :: r => vChk KT tb tyl f false dp k t L r s cn sn cu ret
          | _ => false
        | none => false
      | .ireturn => match S with
        | [.inl e] => vRt (mR q) e s && (decide (cn ≤ mMc q) && decide (sn ≤ mMs q)) && ret s (some (.inl e))
        | _ => false
      | .return_ => match S with
        | [] => decide (mR q = none) && (decide (cn ≤ mMc q) && decide (sn ≤ mMs q)) && ret s none
        | _ => false
      | .getfield ix => match S with
        | .inr (some a) :: r => match tFld tb (mO q) ix with
          | some y => match s.2.1[a]? with
            | some c => match KT c with
              | some (.inl o) => match o.2[y.2]? with
                | some fz => decide (o.1 = y.1) && vFr L r s && vRd fz a (.inl y.2) s (fun s2 v => vChk KT tb tyl f false dp k (pc + 3) L (v :: r) s2 cn sn cu ret)
                | none => false
              | _ => false
            | none => false
          | none => false
        | _ => false
      | .iaload => match S with
        | .inl e :: .inr (some a) :: r => match s.2.1[a]? with
          | some c => match KT c with
            | some (.inr o) => decide (o.1 = 0) && (vIdx e o.2.1 s && vFr L r s) && vRd o.2.2 a (.inr e) s (fun s2 v => vChk KT tb tyl f false dp k (pc + 1) L (v :: r) s2 cn sn cu ret)
            | _ => false
          | none => false
        | _ => false
      | .baload => match S with
        | .inl e :: .inr (some a) :: r => match s.2.1[a]? with
          | some c => match KT c with
            | some (.inr o) => decide (o.1 = 1) && (vIdx e o.2.1 s && vFr L r s) && vRd o.2.2 a (.inr e) s (fun s2 v => vChk KT tb tyl f false dp k (pc + 1) L (v :: r) s2 cn sn cu ret)
            | _ => false
          | none => false
        | _ => false
      | .aaload => match S with
        | .inl e :: .inr (some a) :: r => match s.2.1[a]? with
          | some c => match KT c with
            | some (.inr o) => decide ((tyl[o.1]?.map x_isRef) = some true) && (vIdx e o.2.1 s && vFr L r s) && vRd o.2.2 a (.inr e) s (fun s2 v => vChk KT tb tyl f false dp k (pc + 1) L (v :: r) s2 cn sn cu ret)
            | _ => false
          | none => false
        | _ => false
      | .iastore => match S with
        | .inl x :: .inl e :: .inr (some a) :: r => match s.2.1[a]? with
          | some c => match KT c with
            | some (.inr o) => decide (o.1 = 0) && (vIdx e o.2.1 s && (vFits o.2.2 (.inl x) s && true)) && vChk KT tb tyl f false dp k (pc + 1) L r (vKn (a, .inr e, .inl x) (vSto a s)) cn sn cu ret
            | _ => false
          | none => false
        | _ => false
      | .bastore => match S with
        | .inl x :: .inl e :: .inr (some a) :: r => match s.2.1[a]? with
          | some c => match KT c with
            | some (.inr o) => decide (o.1 = 1) && (vIdx e o.2.1 s && (vFits o.2.2 (.inl x) s && vB01 x s)) && vChk KT tb tyl f false dp k (pc + 1) L r (vKn (a, .inr e, .inl x) (vSto a s)) cn sn cu ret
            | _ => false
          | none => false
        | _ => false
      | .putfield ix => match S with
        | v :: .inr (some a) :: r => match tFld tb (mO q) ix with
          | some y => match s.2.1[a]? with
            | some c => match KT c with
              | some (.inl o) => match o.2[y.2]? with
                | some fz => match (tFt tb y.1)[y.2]? with
                  | some ty => decide (o.1 = y.1) && (vFits fz v s && (vTyp ty.1 v s && (!ty.2 || (mI q && decide (mRc q = y.1))))) && vChk KT tb tyl f false dp k (pc + 3) L r (vKn (a, .inl y.2, v) (vPut a y.2 s)) cn sn cu ret
                  | none => false
                | none => false
              | _ => false
            | none => false
          | none => false
        | _ => false
      | .idiv => match S with
        | .inl b :: .inl a :: r => vBr 0 b (.int 0) s (fun _ => false) (fun s2 => vChk KT tb tyl f false dp k (pc + 1) L (.inl (tBin 8 a b) :: r) s2 cn sn cu ret)
        | _ => false
      | .irem => match S with
        | .inl b :: .inl a :: r => vBr 0 b (.int 0) s (fun _ => false) (fun s2 => vChk KT tb tyl f false dp k (pc + 1) L (.inl (tBin 9 a b) :: r) s2 cn sn cu ret)
        | _ => false
      | .i2b => match S with
        | .inl a :: r => vChk KT tb tyl f false dp k (pc + 1) L (.inl (tUn 0 a) :: r) s cn sn cu ret
        | _ => false
      | .i2s => match S with
        | .inl a :: r => vChk KT tb tyl f false dp k (pc + 1) L (.inl (tUn 1 a) :: r) s cn sn cu ret
        | _ => false
      | .i2c => match S with
        | .inl a :: r => vChk KT tb tyl f false dp k (pc + 1) L (.inl (tUn 2 a) :: r) s cn sn cu ret
        | _ => false
      | .ineg => match S with
        | .inl a :: r => vChk KT tb tyl f false dp k (pc + 1) L (.inl (tUn 3 a) :: r) s cn sn cu ret
        | _ => false
      | .ldc ix => match tLi tb (mO q) ix with
        | some x => vChk KT tb tyl f false dp k (pc + 2) L (.inl (.int x) :: S) s cn sn cu ret
        | none => false
      | .ldc_w ix => match tLi tb (mO q) ix with
        | some x => vChk KT tb tyl f false dp k (pc + 3) L (.inl (.int x) :: S) s cn sn cu ret
        | none => false
      | .areturn => match S with
        | [.inr o] => (match mR q with | some (.object _) => true | some (.array _) => true | _ => false) && (decide (cn ≤ mMc q) && decide (sn ≤ mMs q)) && ret s (some (.inr o))
        | _ => false
      | .tableswitch df lo up os => match S with
        | .inl a :: r => decide (up + 1 = lo + os.size) && x_swk (x_tp lo os.toList) && vSw a df (fun o s2 => match x_jp pc o with
          | some t => vChk KT tb tyl f false dp k t L r s2 cn sn cu ret
          | none => false) (x_tp lo os.toList) s
        | _ => false
      | .lookupswitch df ps => match S with
        | .inl a :: r => (ps.toList.zip (ps.toList.drop 1)).all (fun (a, next) => a.1 < next.1) && x_swk ps.toList && vSw a df (fun o s2 => match x_jp pc o with
          | some t => vChk KT tb tyl f false dp k t L r s2 cn sn cu ret
          | none => false) ps.toList s
        | _ => false
      | .invokespecial ix => if tBi tb (mO q) ix = some 0 then (match S with
        | .inr (some _) :: r => decide (r.length ≤ 8) && vChk KT tb tyl f false dp k (pc + 3) L r s cn sn cu ret
        | _ => false) else if tBi tb (mO q) ix = none then (match tCal tb (mO q) ix with
        | some y => match dp with
          | dp2 + 1 => match tMth tb y.1 with
            | some q2 => match S.drop (mNp q2) with
              | .inr (some a) :: r => (decide (mNp q2 + 1 ≤ S.length) && decide (y.2 = 1) && decide (r.length ≤ 8) && decide (mNp q2 + 1 ≤ mL q2) && decide (cn + mMc q2 ≤ mMc q) && decide (sn + mMs q2 ≤ mMs q)) && vFr L r s && vChk KT tb tyl f true dp2 y.1 0 (x_en 0 (.inr (some a) :: (S.take (mNp q2)).reverse)) [] s 0 0 (fun _ => none) (fun s2 v => vChk KT tb tyl f false (dp2 + 1) k (pc + 3) L (x_push v r) s2 (cn + mMc q2) (sn + mMs q2) cu ret)
              | _ => false
            | none => false
          | 0 => false
        | none => false) else false
      | .invokestatic ix => match tCal tb (mO q) ix with
        | some y => match dp with
          | dp2 + 1 => match tMth tb y.1 with
            | some q2 => (decide (mNp q2 ≤ S.length) && decide (2 ≤ y.2) && decide ((S.drop (mNp q2)).length ≤ 8) && decide (mNp q2 ≤ mL q2) && decide (cn + mMc q2 ≤ mMc q) && decide (sn + mMs q2 ≤ mMs q)) && vFr L (S.drop (mNp q2)) s && vChk KT tb tyl f true dp2 y.1 0 (x_en 0 (S.take (mNp q2)).reverse) [] s 0 0 (fun _ => none) (fun s2 v => vChk KT tb tyl f false (dp2 + 1) k (pc + 3) L (x_push v (S.drop (mNp q2))) s2 (cn + mMc q2) (sn + mMs q2) cu ret)
            | none => false
          | 0 => false
        | none => false
      | .invokevirtual ix => match tCal tb (mO q) ix with
        | some y => match dp with
          | dp2 + 1 => match tMth tb y.1 with
            | some q2 => match S.drop (mNp q2) with
              | .inr (some a) :: r => (decide (mNp q2 + 1 ≤ S.length) && decide (y.2 = 0) && vCls KT a (mRc q2) s && decide (r.length ≤ 8) && decide (mNp q2 + 1 ≤ mL q2) && decide (cn + mMc q2 ≤ mMc q) && decide (sn + mMs q2 ≤ mMs q)) && vFr L r s && vChk KT tb tyl f true dp2 y.1 0 (x_en 0 (.inr (some a) :: (S.take (mNp q2)).reverse)) [] s 0 0 (fun _ => none) (fun s2 v => vChk KT tb tyl f false (dp2 + 1) k (pc + 3) L (x_push v r) s2 (cn + mMc q2) (sn + mMs q2) cu ret)
              | _ => false
            | none => false
          | 0 => false
        | none => false
      | _ => false
/-- returns come to what is asked -/
def vRetOk (KT : Nat → Option vKd) (ty : Nat → Option Nat) (n : Nat) (s : vSt) (ρ : Nat → Int32) (σ : Nat → Nat) (ret : vSt → Option vA → Bool) (Post : Option (XV Int32) → List (XC Int32) → Prop) : Prop :=
  ∀ ρ2 σ2 ty2 H2 s2 av, vExt s s2 ρ ρ2 σ σ2 → vLe ty ty2 → vRel KT ρ2 σ2 ty2 H2 s2 → n ≤ H2.length → H2.length ≤ 1000000 → ret s2 av = true → Post (av.map (cv ρ2 σ2)) H2
/-- cuts come to what is asked -/
def vCutOk (KT : Nat → Option vKd) (tb : XT) (tyl : List FieldType) (ot : XO Int32) (dp k : Nat) (ty : Nat → Option Nat) (n : Nat) (s : vSt) (ρ : Nat → Int32) (σ : Nat → Nat) (cu : vCu) (Post : Option (XV Int32) → List (XC Int32) → Prop) : Prop :=
  ∀ pc g, cu pc = some g → ∀ ρ2 σ2 ty2 H2 s2 L S cn sn, vExt s s2 ρ ρ2 σ σ2 → vLe ty ty2 → vRel KT ρ2 σ2 ty2 H2 s2 → n ≤ H2.length → H2.length ≤ 1000000 → g L S s2 cn sn = true → ∃ v H3, x_To tb tyl ot dp k pc (cvL ρ2 σ2 L) (S.map (cv ρ2 σ2)) H2 cn sn v H3 ∧ Post v H3
theorem vRetOk_ext {KT : Nat → Option vKd} {ty : Nat → Option Nat} {n : Nat} {s s2 : vSt} {ρ ρ2 : Nat → Int32} {σ σ2 : Nat → Nat} {ret : vSt → Option vA → Bool} {Post : Option (XV Int32) → List (XC Int32) → Prop} (g : vExt s s2 ρ ρ2 σ σ2) (h : vRetOk KT ty n s ρ σ ret Post) : vRetOk KT ty n s2 ρ2 σ2 ret Post :=
  fun ρ3 σ3 ty3 H3 s3 av e1 e2 e3 e4 e5 e6 => h ρ3 σ3 ty3 H3 s3 av (vExt_tr g e1) e2 e3 e4 e5 e6
theorem vCutOk_ext {KT : Nat → Option vKd} {tb : XT} {tyl : List FieldType} {ot : XO Int32} {dp k : Nat} {ty : Nat → Option Nat} {n : Nat} {s s2 : vSt} {ρ ρ2 : Nat → Int32} {σ σ2 : Nat → Nat} {cu : vCu} {Post : Option (XV Int32) → List (XC Int32) → Prop} (g : vExt s s2 ρ ρ2 σ σ2) (h : vCutOk KT tb tyl ot dp k ty n s ρ σ cu Post) : vCutOk KT tb tyl ot dp k ty n s2 ρ2 σ2 cu Post :=
  fun pc c hc ρ3 σ3 ty3 H3 s3 L S cn sn e1 e2 e3 e4 e5 e6 => h pc c hc ρ3 σ3 ty3 H3 s3 L S cn sn (vExt_tr g e1) e2 e3 e4 e5 e6
theorem vChk_spec {KT : Nat → Option vKd} {tb : XT} {tyl : List FieldType} {ot : XO Int32} : ∀ (f : Nat) (go : Bool) {dp k pc : Nat} {L : List (Nat × vA)} {S : List vA} {s : vSt} {cn sn : Nat} {cu : vCu} {ret : vSt → Option vA → Bool} {ρ : Nat → Int32} {σ : Nat → Nat} {ty : Nat → Option Nat} {H : List (XC Int32)} {Post : Option (XV Int32) → List (XC Int32) → Prop}
    (_ : H.length ≤ 1000000) (_ : vRel KT ρ σ ty H s) (_ : vChk KT tb tyl f go dp k pc L S s cn sn cu ret = true) (_ : vRetOk KT ty H.length s ρ σ ret Post) (_ : vCutOk KT tb tyl ot dp k ty H.length s ρ σ cu Post),
    ∃ v H2, x_To tb tyl ot dp k pc (cvL ρ σ L) (S.map (cv ρ σ)) H cn sn v H2 ∧ Post v H2 := by
  intro f
  induction f with
  | zero =>
    intro go dp k pc L S s cn sn cu ret ρ σ ty H Post hl h hk
    cases hk
  | succ f ih0 =>
  intro go dp k pc L S s cn sn cu ret ρ σ ty H Post hl h hk hret hcut
  have ih := fun {dp k pc : Nat} {L : List (Nat × vA)} {S : List vA} {s : vSt} {cn sn : Nat} {cu : vCu} {ret : vSt → Option vA → Bool} {ρ : Nat → Int32} {σ : Nat → Nat} {ty : Nat → Option Nat} {H : List (XC Int32)} {Post : Option (XV Int32) → List (XC Int32) → Prop} => @ih0 false dp k pc L S s cn sn cu ret ρ σ ty H Post
  rw [vChk.eq_def] at hk
  dsimp only at hk
  rcases hg : (if go = true then none else cu pc) with _ | g
  rotate_left
  · rw [hg] at hk
    have hcu : cu pc = some g := by
      cases go
      · exact hg
      · cases hg
    exact hcut pc g hcu ρ σ ty H s L S cn sn (vExt_rf s ρ σ) (fun _ _ z => z) h (Nat.le_refl _) hl hk
  rw [hg] at hk
  dsimp only at hk
  rcases hq : tMth tb k with _ | q
  · rw [hq] at hk
    cases hk
  rw [hq] at hk
  dsimp only at hk
  rcases hc : mC q pc with _ | ⟨i, n⟩
  · rw [hc] at hk
    cases hk
  rw [hc] at hk
  dsimp only at hk
  cases i
  case iconst x =>
    try dsimp only at hk
    obtain ⟨v, H2, h1, h2⟩ := ih hl h hk hret hcut
    exact ⟨v, H2, xT_iconst hq hc h1, h2⟩
  case bipush x =>
    try dsimp only at hk
    obtain ⟨v, H2, h1, h2⟩ := ih hl h hk hret hcut
    exact ⟨v, H2, xT_bipush hq hc h1, h2⟩
  case sipush x =>
    try dsimp only at hk
    obtain ⟨v, H2, h1, h2⟩ := ih hl h hk hret hcut
    exact ⟨v, H2, xT_sipush hq hc h1, h2⟩
  case aconst_null =>
    try dsimp only at hk
    obtain ⟨v, H2, h1, h2⟩ := ih hl h hk hret hcut
    exact ⟨v, H2, xT_aconst_null hq hc h1, h2⟩
  case iload_n j =>
    try dsimp only at hk
    rcases ha : x_lk L ↑j with _ | (a | a)
    · rw [ha] at hk
      cases hk
    · rw [ha] at hk
      obtain ⟨v, H2, h1, h2⟩ := ih hl h hk hret hcut
      exact ⟨v, H2, xT_iload_n hq hc (by rw [cv_lk, ha]; rfl) h1, h2⟩
    · rw [ha] at hk
      cases hk
  case iload j =>
    try dsimp only at hk
    rcases ha : x_lk L ↑j with _ | (a | a)
    · rw [ha] at hk
      cases hk
    · rw [ha] at hk
      obtain ⟨v, H2, h1, h2⟩ := ih hl h hk hret hcut
      exact ⟨v, H2, xT_iload hq hc (by rw [cv_lk, ha]; rfl) h1, h2⟩
    · rw [ha] at hk
      cases hk
  case aload_n j =>
    try dsimp only at hk
    rcases ha : x_lk L ↑j with _ | (a | a)
    · rw [ha] at hk
      cases hk
    · rw [ha] at hk
      cases hk
    · rw [ha] at hk
      obtain ⟨v, H2, h1, h2⟩ := ih hl h hk hret hcut
      rcases a with _ | a
      · exact ⟨v, H2, xT_aload_n hq hc (a := none) (by rw [cv_lk, ha]; rfl) h1, h2⟩
      · exact ⟨v, H2, xT_aload_n hq hc (a := some (σ a)) (by rw [cv_lk, ha]; rfl) h1, h2⟩
  case aload j =>
    try dsimp only at hk
    rcases ha : x_lk L ↑j with _ | (a | a)
    · rw [ha] at hk
      cases hk
    · rw [ha] at hk
      cases hk
    · rw [ha] at hk
      obtain ⟨v, H2, h1, h2⟩ := ih hl h hk hret hcut
      rcases a with _ | a
      · exact ⟨v, H2, xT_aload hq hc (a := none) (by rw [cv_lk, ha]; rfl) h1, h2⟩
      · exact ⟨v, H2, xT_aload hq hc (a := some (σ a)) (by rw [cv_lk, ha]; rfl) h1, h2⟩
  case iadd =>
    try dsimp only at hk
    rcases S with _ | ⟨b | b, _ | ⟨a | a, r⟩⟩ <;> first | (cases hk; done) | skip
    obtain ⟨v, H2, h1, h2⟩ := ih hl h hk hret hcut
    refine ⟨v, H2, xT_iadd hq hc (a := tEv ρ a) (b := tEv ρ b) ?_, h2⟩
    rw [List.map_cons, show cv ρ σ (.inl (tBin 0 a b)) = .inl (x_bin 0 (tEv ρ a) (tEv ρ b)) from congrArg Sum.inl (tBin_spec ρ 0 a b)] at h1
    exact h1
  case isub =>
    try dsimp only at hk
    rcases S with _ | ⟨b | b, _ | ⟨a | a, r⟩⟩ <;> first | (cases hk; done) | skip
    obtain ⟨v, H2, h1, h2⟩ := ih hl h hk hret hcut
    refine ⟨v, H2, xT_isub hq hc (a := tEv ρ a) (b := tEv ρ b) ?_, h2⟩
    rw [List.map_cons, show cv ρ σ (.inl (tBin 1 a b)) = .inl (x_bin 1 (tEv ρ a) (tEv ρ b)) from congrArg Sum.inl (tBin_spec ρ 1 a b)] at h1
    exact h1
  case imul =>
    try dsimp only at hk
    rcases S with _ | ⟨b | b, _ | ⟨a | a, r⟩⟩ <;> first | (cases hk; done) | skip
    obtain ⟨v, H2, h1, h2⟩ := ih hl h hk hret hcut
    refine ⟨v, H2, xT_imul hq hc (a := tEv ρ a) (b := tEv ρ b) ?_, h2⟩
    rw [List.map_cons, show cv ρ σ (.inl (tBin 2 a b)) = .inl (x_bin 2 (tEv ρ a) (tEv ρ b)) from congrArg Sum.inl (tBin_spec ρ 2 a b)] at h1
    exact h1
  case iand =>
    try dsimp only at hk
    rcases S with _ | ⟨b | b, _ | ⟨a | a, r⟩⟩ <;> first | (cases hk; done) | skip
    obtain ⟨v, H2, h1, h2⟩ := ih hl h hk hret hcut
    refine ⟨v, H2, xT_iand hq hc (a := tEv ρ a) (b := tEv ρ b) ?_, h2⟩
    rw [List.map_cons, show cv ρ σ (.inl (tBin 3 a b)) = .inl (x_bin 3 (tEv ρ a) (tEv ρ b)) from congrArg Sum.inl (tBin_spec ρ 3 a b)] at h1
    exact h1
  case ior =>
    try dsimp only at hk
    rcases S with _ | ⟨b | b, _ | ⟨a | a, r⟩⟩ <;> first | (cases hk; done) | skip
    obtain ⟨v, H2, h1, h2⟩ := ih hl h hk hret hcut
    refine ⟨v, H2, xT_ior hq hc (a := tEv ρ a) (b := tEv ρ b) ?_, h2⟩
    rw [List.map_cons, show cv ρ σ (.inl (tBin 4 a b)) = .inl (x_bin 4 (tEv ρ a) (tEv ρ b)) from congrArg Sum.inl (tBin_spec ρ 4 a b)] at h1
    exact h1
  case ixor =>
    try dsimp only at hk
    rcases S with _ | ⟨b | b, _ | ⟨a | a, r⟩⟩ <;> first | (cases hk; done) | skip
    obtain ⟨v, H2, h1, h2⟩ := ih hl h hk hret hcut
    refine ⟨v, H2, xT_ixor hq hc (a := tEv ρ a) (b := tEv ρ b) ?_, h2⟩
    rw [List.map_cons, show cv ρ σ (.inl (tBin 5 a b)) = .inl (x_bin 5 (tEv ρ a) (tEv ρ b)) from congrArg Sum.inl (tBin_spec ρ 5 a b)] at h1
    exact h1
  case ishl =>
    try dsimp only at hk
    rcases S with _ | ⟨b | b, _ | ⟨a | a, r⟩⟩ <;> first | (cases hk; done) | skip
    obtain ⟨v, H2, h1, h2⟩ := ih hl h hk hret hcut
    refine ⟨v, H2, xT_ishl hq hc (a := tEv ρ a) (b := tEv ρ b) ?_, h2⟩
    rw [List.map_cons, show cv ρ σ (.inl (tBin 6 a b)) = .inl (x_bin 6 (tEv ρ a) (tEv ρ b)) from congrArg Sum.inl (tBin_spec ρ 6 a b)] at h1
    exact h1
  case ishr =>
    try dsimp only at hk
    rcases S with _ | ⟨b | b, _ | ⟨a | a, r⟩⟩ <;> first | (cases hk; done) | skip
    obtain ⟨v, H2, h1, h2⟩ := ih hl h hk hret hcut
    refine ⟨v, H2, xT_ishr hq hc (a := tEv ρ a) (b := tEv ρ b) ?_, h2⟩
    rw [List.map_cons, show cv ρ σ (.inl (tBin 7 a b)) = .inl (x_bin 7 (tEv ρ a) (tEv ρ b)) from congrArg Sum.inl (tBin_spec ρ 7 a b)] at h1
    exact h1
  case iushr =>
    try dsimp only at hk
    rcases S with _ | ⟨b | b, _ | ⟨a | a, r⟩⟩ <;> first | (cases hk; done) | skip
    obtain ⟨v, H2, h1, h2⟩ := ih hl h hk hret hcut
    refine ⟨v, H2, xT_iushr hq hc (a := tEv ρ a) (b := tEv ρ b) ?_, h2⟩
    rw [List.map_cons, show cv ρ σ (.inl (tBin 10 a b)) = .inl (x_bin 10 (tEv ρ a) (tEv ρ b)) from congrArg Sum.inl (tBin_spec ρ 10 a b)] at h1
    exact h1
  case goto x =>
    try dsimp only at hk
    rcases ht : x_jp pc x with _ | t
    · rw [ht] at hk
      cases hk
    · rw [ht] at hk
      obtain ⟨v, H2, h1, h2⟩ := ih hl h hk hret hcut
      exact ⟨v, H2, xT_goto hq hc ht h1, h2⟩
  case if_icmp c x =>
    try dsimp only at hk
    rcases ht : x_jp pc x with _ | t
    · rw [ht] at hk
      rcases S with _ | ⟨b | b, _ | ⟨a | a, r⟩⟩ <;> (cases hk; done)
    rw [ht] at hk
    rcases S with _ | ⟨b | b, _ | ⟨a | a, r⟩⟩ <;> first | (cases hk; done) | skip
    obtain ⟨s2, g0, g1, g2⟩ := vBr_spec h hk
    have hret2 : vRetOk KT ty H.length s2 ρ σ ret Post := vRetOk_ext g1 hret
    have hcut2 : vCutOk KT tb tyl ot dp k ty H.length s2 ρ σ cu Post := vCutOk_ext g1 hcut
    rcases g2 with ⟨e, g2⟩ | ⟨e, g2⟩
    · obtain ⟨v, H2, h1, h2⟩ := ih hl g0 g2 hret2 hcut2
      exact ⟨v, H2, xT_if_icmpY hq hc (a := tEv ρ a) (b := tEv ρ b) ht e h1, h2⟩
    · obtain ⟨v, H2, h1, h2⟩ := ih hl g0 g2 hret2 hcut2
      exact ⟨v, H2, xT_if_icmpN hq hc (a := tEv ρ a) (b := tEv ρ b) ht e h1, h2⟩
  case istore_n j =>
    try dsimp only at hk
    rcases S with _ | ⟨a | a, r⟩ <;> first | (cases hk; done) | skip
    have hk2 := Bool.and_eq_true_iff.mp hk
    obtain ⟨v, H2, h1, h2⟩ := ih hl h hk2.2 hret hcut
    refine ⟨v, H2, xT_istore_n hq hc (a := tEv ρ a) (of_decide_eq_true hk2.1) ?_, h2⟩
    rw [← cv_st] at h1
    exact h1
  case istore j =>
    try dsimp only at hk
    rcases S with _ | ⟨a | a, r⟩ <;> first | (cases hk; done) | skip
    have hk2 := Bool.and_eq_true_iff.mp hk
    obtain ⟨v, H2, h1, h2⟩ := ih hl h hk2.2 hret hcut
    refine ⟨v, H2, xT_istore hq hc (a := tEv ρ a) (of_decide_eq_true hk2.1) ?_, h2⟩
    rw [← cv_st] at h1
    exact h1
  case astore_n j =>
    try dsimp only at hk
    rcases S with _ | ⟨a | a, r⟩ <;> first | (cases hk; done) | skip
    have hk2 := Bool.and_eq_true_iff.mp hk
    obtain ⟨v, H2, h1, h2⟩ := ih hl h hk2.2 hret hcut
    rw [← cv_st] at h1
    rcases a with _ | a
    · exact ⟨v, H2, xT_astore_n hq hc (a := none) (of_decide_eq_true hk2.1) h1, h2⟩
    · exact ⟨v, H2, xT_astore_n hq hc (a := some (σ a)) (of_decide_eq_true hk2.1) h1, h2⟩
  case astore j =>
    try dsimp only at hk
    rcases S with _ | ⟨a | a, r⟩ <;> first | (cases hk; done) | skip
    have hk2 := Bool.and_eq_true_iff.mp hk
    obtain ⟨v, H2, h1, h2⟩ := ih hl h hk2.2 hret hcut
    rw [← cv_st] at h1
    rcases a with _ | a
    · exact ⟨v, H2, xT_astore hq hc (a := none) (of_decide_eq_true hk2.1) h1, h2⟩
    · exact ⟨v, H2, xT_astore hq hc (a := some (σ a)) (of_decide_eq_true hk2.1) h1, h2⟩
  case iinc j x =>
    try dsimp only at hk
    rcases ha : x_lk L j with _ | (a | a)
    · rw [ha] at hk
      cases hk
    · rw [ha] at hk
      have hk2 := Bool.and_eq_true_iff.mp hk
      obtain ⟨v, H2, h1, h2⟩ := ih hl h hk2.2 hret hcut
      refine ⟨v, H2, xT_iinc hq hc (a := tEv ρ a) (by rw [cv_lk, ha]; rfl) (of_decide_eq_true hk2.1) ?_, h2⟩
      rw [← cv_st, show cv ρ σ (.inl (tBin 0 a (.int (Int32.ofInt x)))) = .inl (x_bin 0 (tEv ρ a) (Int32.ofInt x)) from congrArg Sum.inl (tBin_spec ρ 0 a _)] at h1
      exact h1
    · rw [ha] at hk
      cases hk
  case dup =>
    try dsimp only at hk
    rcases S with _ | ⟨a, r⟩ <;> first | (cases hk; done) | skip
    obtain ⟨v, H2, h1, h2⟩ := ih hl h hk hret hcut
    exact ⟨v, H2, xT_dup hq hc h1, h2⟩
  case dup_x1 =>
    try dsimp only at hk
    rcases S with _ | ⟨a, _ | ⟨b, r⟩⟩ <;> first | (cases hk; done) | skip
    obtain ⟨v, H2, h1, h2⟩ := ih hl h hk hret hcut
    exact ⟨v, H2, xT_dup_x1 hq hc h1, h2⟩
  case dup2 =>
    try dsimp only at hk
    rcases S with _ | ⟨a, _ | ⟨b, r⟩⟩ <;> first | (cases hk; done) | skip
    obtain ⟨v, H2, h1, h2⟩ := ih hl h hk hret hcut
    exact ⟨v, H2, xT_dup2 hq hc h1, h2⟩
  case pop =>
    try dsimp only at hk
    rcases S with _ | ⟨a, r⟩ <;> first | (cases hk; done) | skip
    obtain ⟨v, H2, h1, h2⟩ := ih hl h hk hret hcut
    exact ⟨v, H2, xT_pop hq hc h1, h2⟩
  case ifCond c x =>
    try dsimp only at hk
    rcases ht : x_jp pc x with _ | t
    · rw [ht] at hk
      cases hk
    rw [ht] at hk
    rcases S with _ | ⟨a | a, r⟩ <;> first | (cases hk; done) | skip
    obtain ⟨s2, g0, g1, g2⟩ := vBr_spec h hk
    have hret2 : vRetOk KT ty H.length s2 ρ σ ret Post := vRetOk_ext g1 hret
    have hcut2 : vCutOk KT tb tyl ot dp k ty H.length s2 ρ σ cu Post := vCutOk_ext g1 hcut
    rcases g2 with ⟨e, g2⟩ | ⟨e, g2⟩
    · obtain ⟨v, H2, h1, h2⟩ := ih hl g0 g2 hret2 hcut2
      exact ⟨v, H2, xT_ifCondY hq hc (a := tEv ρ a) ht e h1, h2⟩
    · obtain ⟨v, H2, h1, h2⟩ := ih hl g0 g2 hret2 hcut2
      exact ⟨v, H2, xT_ifCondN hq hc (a := tEv ρ a) ht e h1, h2⟩
  case ifnull x =>
    try dsimp only at hk
    rcases ht : x_jp pc x with _ | t
    · rw [ht] at hk
      cases hk
    rw [ht] at hk
    rcases S with _ | ⟨a | (_ | a), r⟩
    · cases hk
    · cases hk
    · obtain ⟨v, H2, h1, h2⟩ := ih hl h hk hret hcut
      exact ⟨v, H2, xT_ifnull0 hq hc ht h1, h2⟩
    · obtain ⟨v, H2, h1, h2⟩ := ih hl h hk hret hcut
      exact ⟨v, H2, xT_ifnull1 hq hc (a := σ a) ht h1, h2⟩
  case ifnonnull x =>
    try dsimp only at hk
    rcases ht : x_jp pc x with _ | t
    · rw [ht] at hk
      cases hk
    rw [ht] at hk
    rcases S with _ | ⟨a | (_ | a), r⟩
    · cases hk
    · cases hk
    · obtain ⟨v, H2, h1, h2⟩ := ih hl h hk hret hcut
      exact ⟨v, H2, xT_ifnonnull0 hq hc ht h1, h2⟩
    · obtain ⟨v, H2, h1, h2⟩ := ih hl h hk hret hcut
      exact ⟨v, H2, xT_ifnonnull1 hq hc (a := σ a) ht h1, h2⟩
  case ireturn =>
    try dsimp only at hk
    rcases S with _ | ⟨e | e, _ | ⟨z, r⟩⟩ <;> first | (cases hk; done) | skip
    have k0 := Bool.and_eq_true_iff.mp hk
    have k1 := Bool.and_eq_true_iff.mp k0.1
    have k2 := Bool.and_eq_true_iff.mp k1.2
    refine ⟨some (.inl (tEv ρ e)), H, xT_ireturn hq hc ?_, hret ρ σ ty H s (some (.inl e)) (vExt_rf s ρ σ) (fun _ _ z => z) h (Nat.le_refl _) hl k0.2⟩
    rw [vRt_spec h k1.1, k2.1, k2.2]
    rfl
  case return_ =>
    try dsimp only at hk
    rcases S with _ | ⟨e, r⟩ <;> first | (cases hk; done) | skip
    have k0 := Bool.and_eq_true_iff.mp hk
    have k1 := Bool.and_eq_true_iff.mp k0.1
    have k2 := Bool.and_eq_true_iff.mp k1.2
    refine ⟨none, H, xT_return_ hq hc ?_, hret ρ σ ty H s none (vExt_rf s ρ σ) (fun _ _ z => z) h (Nat.le_refl _) hl k0.2⟩
    rw [k1.1, k2.1, k2.2]
    rfl
  case getfield ix =>
    try dsimp only at hk
    rcases S with _ | ⟨b | (_ | a), r⟩ <;> first | (cases hk; done) | skip
    try dsimp only at hk
    rcases hf : tFld tb (mO q) ix with _ | ⟨ci, j⟩
    · rw [hf] at hk
      cases hk
    rw [hf] at hk
    try dsimp only at hk
    rcases hG : s.2.1[a]? with _ | c
    · rw [hG] at hk
      cases hk
    rw [hG] at hk
    try dsimp only at hk
    rcases hK : KT c with _ | (⟨c2, fl⟩ | o)
    · rw [hK] at hk
      cases hk
    rotate_left
    · rw [hK] at hk
      cases hk
    rw [hK] at hk
    try dsimp only at hk
    rcases hz : fl[j]? with _ | fz
    · rw [hz] at hk
      cases hk
    rw [hz] at hk
    have hk2 := Bool.and_eq_true_iff.mp hk
    have hk3 := Bool.and_eq_true_iff.mp hk2.1
    have hci : c2 = ci := of_decide_eq_true hk3.1
    have ha := h.2.1 a c hG
    obtain ⟨fs, f1, f2, f3⟩ := vHp_obj h.1 ha hK
    obtain ⟨u, u1, u2⟩ := f3 j fz hz
    obtain ⟨ρ2, σ2, s2, v0, g0, g1, g2, g3⟩ := vRd_spec h (i := a) (key := .inl j) (u := u) ⟨c2, fs, f1, u1⟩ u2 hk2.2
    obtain ⟨v, H2, h1, h2⟩ := ih hl g1 g3 (vRetOk_ext g0 hret) (vCutOk_ext g0 hcut)
    have hlt := vHp_lt h.1 ha
    obtain ⟨e1, e2⟩ := vFr_spec g0 hk3.2
    rw [e1, List.map_cons, g2, e2] at h1
    exact ⟨v, H2, xT_getfield hq hc (a := σ a) (by omega) hf f1 hci u1 h1, h2⟩
  case iaload =>
    try dsimp only at hk
    rcases S with _ | ⟨e | e, _ | ⟨b | (_ | a), r⟩⟩ <;> first | (cases hk; done) | skip
    try dsimp only at hk
    rcases hG : s.2.1[a]? with _ | c
    · rw [hG] at hk
      cases hk
    rw [hG] at hk
    try dsimp only at hk
    rcases hK : KT c with _ | (o | ⟨t, m, fz⟩)
    · rw [hK] at hk
      cases hk
    · rw [hK] at hk
      cases hk
    rw [hK] at hk
    have hk2 := Bool.and_eq_true_iff.mp hk
    have hk4 := Bool.and_eq_true_iff.mp hk2.1
    have hk5 := Bool.and_eq_true_iff.mp hk4.2
    have ht : t = 0 := of_decide_eq_true hk4.1
    subst ht
    have ha := h.2.1 a c hG
    obtain ⟨vs, f1, f2, f3⟩ := vHp_arr h.1 ha hK
    obtain ⟨x1, x2⟩ := vIdx_spec h hk5.1
    obtain ⟨u, u1, u2⟩ := f3 _ x2
    obtain ⟨ρ2, σ2, s2, v0, g0, g1, g2, g3⟩ := vRd_spec h (i := a) (key := .inr e) (u := u) ⟨_, vs, f1, u1⟩ u2 hk2.2
    obtain ⟨v, H2, h1, h2⟩ := ih hl g1 g3 (vRetOk_ext g0 hret) (vCutOk_ext g0 hcut)
    have hlt := vHp_lt h.1 ha
    obtain ⟨e1, e2⟩ := vFr_spec g0 hk5.2
    rw [e1, List.map_cons, g2, e2] at h1
    exact ⟨v, H2, xT_iaload hq hc (a := σ a) (e := tEv ρ e) (by omega) f1 (by rw [f2]; exact x1) u1 h1, h2⟩
  case baload =>
    try dsimp only at hk
    rcases S with _ | ⟨e | e, _ | ⟨b | (_ | a), r⟩⟩ <;> first | (cases hk; done) | skip
    try dsimp only at hk
    rcases hG : s.2.1[a]? with _ | c
    · rw [hG] at hk
      cases hk
    rw [hG] at hk
    try dsimp only at hk
    rcases hK : KT c with _ | (o | ⟨t, m, fz⟩)
    · rw [hK] at hk
      cases hk
    · rw [hK] at hk
      cases hk
    rw [hK] at hk
    have hk2 := Bool.and_eq_true_iff.mp hk
    have hk4 := Bool.and_eq_true_iff.mp hk2.1
    have hk5 := Bool.and_eq_true_iff.mp hk4.2
    have ht : t = 1 := of_decide_eq_true hk4.1
    subst ht
    have ha := h.2.1 a c hG
    obtain ⟨vs, f1, f2, f3⟩ := vHp_arr h.1 ha hK
    obtain ⟨x1, x2⟩ := vIdx_spec h hk5.1
    obtain ⟨u, u1, u2⟩ := f3 _ x2
    obtain ⟨ρ2, σ2, s2, v0, g0, g1, g2, g3⟩ := vRd_spec h (i := a) (key := .inr e) (u := u) ⟨_, vs, f1, u1⟩ u2 hk2.2
    obtain ⟨v, H2, h1, h2⟩ := ih hl g1 g3 (vRetOk_ext g0 hret) (vCutOk_ext g0 hcut)
    have hlt := vHp_lt h.1 ha
    obtain ⟨e1, e2⟩ := vFr_spec g0 hk5.2
    rw [e1, List.map_cons, g2, e2] at h1
    exact ⟨v, H2, xT_baload hq hc (a := σ a) (e := tEv ρ e) (by omega) f1 (by rw [f2]; exact x1) u1 h1, h2⟩
  case aaload =>
    try dsimp only at hk
    rcases S with _ | ⟨e | e, _ | ⟨b | (_ | a), r⟩⟩ <;> first | (cases hk; done) | skip
    try dsimp only at hk
    rcases hG : s.2.1[a]? with _ | c
    · rw [hG] at hk
      cases hk
    rw [hG] at hk
    try dsimp only at hk
    rcases hK : KT c with _ | (o | ⟨t, m, fz⟩)
    · rw [hK] at hk
      cases hk
    · rw [hK] at hk
      cases hk
    rw [hK] at hk
    have hk2 := Bool.and_eq_true_iff.mp hk
    have hk4 := Bool.and_eq_true_iff.mp hk2.1
    have hk5 := Bool.and_eq_true_iff.mp hk4.2
    try skip
    have ha := h.2.1 a c hG
    obtain ⟨vs, f1, f2, f3⟩ := vHp_arr h.1 ha hK
    obtain ⟨x1, x2⟩ := vIdx_spec h hk5.1
    obtain ⟨u, u1, u2⟩ := f3 _ x2
    obtain ⟨ρ2, σ2, s2, v0, g0, g1, g2, g3⟩ := vRd_spec h (i := a) (key := .inr e) (u := u) ⟨_, vs, f1, u1⟩ u2 hk2.2
    obtain ⟨v, H2, h1, h2⟩ := ih hl g1 g3 (vRetOk_ext g0 hret) (vCutOk_ext g0 hcut)
    have hlt := vHp_lt h.1 ha
    obtain ⟨e1, e2⟩ := vFr_spec g0 hk5.2
    rw [e1, List.map_cons, g2, e2] at h1
    exact ⟨v, H2, xT_aaload hq hc (a := σ a) (e := tEv ρ e) (of_decide_eq_true hk4.1) f1 (by rw [f2]; exact x1) u1 h1, h2⟩
  case iastore =>
    try dsimp only at hk
    rcases S with _ | ⟨x | x, _ | ⟨e | e, _ | ⟨b | (_ | a), r⟩⟩⟩ <;> first | (cases hk; done) | skip
    try dsimp only at hk
    rcases hG : s.2.1[a]? with _ | c
    · rw [hG] at hk
      cases hk
    rw [hG] at hk
    try dsimp only at hk
    rcases hK : KT c with _ | (o | ⟨t, m, fz⟩)
    · rw [hK] at hk
      cases hk
    · rw [hK] at hk
      cases hk
    rw [hK] at hk
    have hk2 := Bool.and_eq_true_iff.mp hk
    have hk4 := Bool.and_eq_true_iff.mp hk2.1
    have hk5 := Bool.and_eq_true_iff.mp hk4.2
    have hk6 := Bool.and_eq_true_iff.mp hk5.2
    have ht : t = 0 := of_decide_eq_true hk4.1
    subst ht
    have ha := h.2.1 a c hG
    obtain ⟨vs, f1, f2, f3⟩ := vHp_arr h.1 ha hK
    obtain ⟨x1, x2⟩ := vIdx_spec h hk5.1
    have hr := vSto_rel h ha hK f1 (e := e) (v := .inl x) (by rw [f2]; exact x2) (vFits_spec h hk6.1)
    have hlen : (H.set (σ a) (.inr (0, vs.set (tEv ρ e).toNatClampNeg (cv ρ σ (.inl x))))).length = H.length := List.length_set
    have g0 : vExt s (vKn (a, .inr e, .inl x) (vSto a s)) ρ ρ σ σ := ⟨fun _ _ => rfl, fun _ _ => rfl, Nat.le_refl _, Nat.le_refl _⟩
    obtain ⟨v, H2, h1, h2⟩ := ih (by rw [hlen]; exact hl) hr hk2.2 (by rw [hlen]; exact vRetOk_ext g0 hret) (by rw [hlen]; exact vCutOk_ext g0 hcut)
    exact ⟨v, H2, xT_iastore hq hc (a := σ a) (e := tEv ρ e) (x := tEv ρ x) f1 (by rw [f2]; exact x1) h1, h2⟩
  case bastore =>
    try dsimp only at hk
    rcases S with _ | ⟨x | x, _ | ⟨e | e, _ | ⟨b | (_ | a), r⟩⟩⟩ <;> first | (cases hk; done) | skip
    try dsimp only at hk
    rcases hG : s.2.1[a]? with _ | c
    · rw [hG] at hk
      cases hk
    rw [hG] at hk
    try dsimp only at hk
    rcases hK : KT c with _ | (o | ⟨t, m, fz⟩)
    · rw [hK] at hk
      cases hk
    · rw [hK] at hk
      cases hk
    rw [hK] at hk
    have hk2 := Bool.and_eq_true_iff.mp hk
    have hk4 := Bool.and_eq_true_iff.mp hk2.1
    have hk5 := Bool.and_eq_true_iff.mp hk4.2
    have hk6 := Bool.and_eq_true_iff.mp hk5.2
    have ht : t = 1 := of_decide_eq_true hk4.1
    subst ht
    have ha := h.2.1 a c hG
    obtain ⟨vs, f1, f2, f3⟩ := vHp_arr h.1 ha hK
    obtain ⟨x1, x2⟩ := vIdx_spec h hk5.1
    have hr := vSto_rel h ha hK f1 (e := e) (v := .inl x) (by rw [f2]; exact x2) (vFits_spec h hk6.1)
    have hlen : (H.set (σ a) (.inr (1, vs.set (tEv ρ e).toNatClampNeg (cv ρ σ (.inl x))))).length = H.length := List.length_set
    have g0 : vExt s (vKn (a, .inr e, .inl x) (vSto a s)) ρ ρ σ σ := ⟨fun _ _ => rfl, fun _ _ => rfl, Nat.le_refl _, Nat.le_refl _⟩
    obtain ⟨v, H2, h1, h2⟩ := ih (by rw [hlen]; exact hl) hr hk2.2 (by rw [hlen]; exact vRetOk_ext g0 hret) (by rw [hlen]; exact vCutOk_ext g0 hcut)
    exact ⟨v, H2, xT_bastore hq hc (a := σ a) (e := tEv ρ e) (x := tEv ρ x) (vB01_fit h hk6.2) f1 (by rw [f2]; exact x1) h1, h2⟩
  case putfield ix =>
    try dsimp only at hk
    rcases S with _ | ⟨x, _ | ⟨b | (_ | a), r⟩⟩ <;> first | (cases hk; done) | skip
    try dsimp only at hk
    rcases hf : tFld tb (mO q) ix with _ | ⟨ci, j⟩
    · rw [hf] at hk
      cases hk
    rw [hf] at hk
    try dsimp only at hk
    rcases hG : s.2.1[a]? with _ | c
    · rw [hG] at hk
      cases hk
    rw [hG] at hk
    try dsimp only at hk
    rcases hK : KT c with _ | (⟨c2, fl⟩ | o)
    · rw [hK] at hk
      cases hk
    rotate_left
    · rw [hK] at hk
      cases hk
    rw [hK] at hk
    try dsimp only at hk
    rcases hz : fl[j]? with _ | fz
    · rw [hz] at hk
      cases hk
    rw [hz] at hk
    try dsimp only at hk
    rcases hT : (tFt tb ci)[j]? with _ | tt
    · rw [hT] at hk
      cases hk
    rw [hT] at hk
    have hk2 := Bool.and_eq_true_iff.mp hk
    have hk3 := Bool.and_eq_true_iff.mp hk2.1
    have hk4 := Bool.and_eq_true_iff.mp hk3.2
    have hk5 := Bool.and_eq_true_iff.mp hk4.2
    have hci : c2 = ci := of_decide_eq_true hk3.1
    subst hci
    have ha := h.2.1 a c hG
    obtain ⟨fs, f1, f2, f3⟩ := vHp_obj h.1 ha hK
    have hj := (List.getElem?_eq_some_iff.mp hz).1
    have hr := vPut_rel h ha hK f1 hz (by rw [f2]; exact hj) (vFits_spec h hk4.1)
    have hlen : (H.set (σ a) (.inl (c2, fs.set j (cv ρ σ x)))).length = H.length := List.length_set
    have g0 : vExt s (vKn (a, .inl j, x) (vPut a j s)) ρ ρ σ σ := ⟨fun _ _ => rfl, fun _ _ => rfl, Nat.le_refl _, Nat.le_refl _⟩
    obtain ⟨v, H2, h1, h2⟩ := ih (by rw [hlen]; exact hl) hr hk2.2 (by rw [hlen]; exact vRetOk_ext g0 hret) (by rw [hlen]; exact vCutOk_ext g0 hcut)
    refine ⟨v, H2, xT_putfield hq hc (a := σ a) hf f1 hT ?_ h1, h2⟩
    rw [vTyp_spec h hk5.1, hk5.2, decide_eq_true (show c2 = c2 from rfl), decide_eq_true (show j < fs.length by rw [f2]; exact hj)]
    rfl
  case idiv =>
    try dsimp only at hk
    rcases S with _ | ⟨b | b, _ | ⟨a | a, r⟩⟩ <;> first | (cases hk; done) | skip
    obtain ⟨s2, g0, g1, g2⟩ := vBr_spec h hk
    rcases g2 with ⟨e, g2⟩ | ⟨e, g2⟩
    · cases g2
    · obtain ⟨v, H2, h1, h2⟩ := ih hl g0 g2 (vRetOk_ext g1 hret) (vCutOk_ext g1 hcut)
      refine ⟨v, H2, xT_idiv hq hc (a := tEv ρ a) (b := tEv ρ b) e ?_, h2⟩
      rw [List.map_cons, show cv ρ σ (.inl (tBin 8 a b)) = .inl (x_bin 8 (tEv ρ a) (tEv ρ b)) from congrArg Sum.inl (tBin_spec ρ 8 a b)] at h1
      exact h1
  case irem =>
    try dsimp only at hk
    rcases S with _ | ⟨b | b, _ | ⟨a | a, r⟩⟩ <;> first | (cases hk; done) | skip
    obtain ⟨s2, g0, g1, g2⟩ := vBr_spec h hk
    rcases g2 with ⟨e, g2⟩ | ⟨e, g2⟩
    · cases g2
    · obtain ⟨v, H2, h1, h2⟩ := ih hl g0 g2 (vRetOk_ext g1 hret) (vCutOk_ext g1 hcut)
      refine ⟨v, H2, xT_irem hq hc (a := tEv ρ a) (b := tEv ρ b) e ?_, h2⟩
      rw [List.map_cons, show cv ρ σ (.inl (tBin 9 a b)) = .inl (x_bin 9 (tEv ρ a) (tEv ρ b)) from congrArg Sum.inl (tBin_spec ρ 9 a b)] at h1
      exact h1
  case i2b =>
    try dsimp only at hk
    rcases S with _ | ⟨a | a, r⟩ <;> first | (cases hk; done) | skip
    obtain ⟨v, H2, h1, h2⟩ := ih hl h hk hret hcut
    refine ⟨v, H2, xT_i2b hq hc (a := tEv ρ a) ?_, h2⟩
    rw [List.map_cons, show cv ρ σ (.inl (tUn 0 a)) = .inl (x_un 0 (tEv ρ a)) from congrArg Sum.inl (tUn_spec ρ 0 a)] at h1
    exact h1
  case i2s =>
    try dsimp only at hk
    rcases S with _ | ⟨a | a, r⟩ <;> first | (cases hk; done) | skip
    obtain ⟨v, H2, h1, h2⟩ := ih hl h hk hret hcut
    refine ⟨v, H2, xT_i2s hq hc (a := tEv ρ a) ?_, h2⟩
    rw [List.map_cons, show cv ρ σ (.inl (tUn 1 a)) = .inl (x_un 1 (tEv ρ a)) from congrArg Sum.inl (tUn_spec ρ 1 a)] at h1
    exact h1
  case i2c =>
    try dsimp only at hk
    rcases S with _ | ⟨a | a, r⟩ <;> first | (cases hk; done) | skip
    obtain ⟨v, H2, h1, h2⟩ := ih hl h hk hret hcut
    refine ⟨v, H2, xT_i2c hq hc (a := tEv ρ a) ?_, h2⟩
    rw [List.map_cons, show cv ρ σ (.inl (tUn 2 a)) = .inl (x_un 2 (tEv ρ a)) from congrArg Sum.inl (tUn_spec ρ 2 a)] at h1
    exact h1
  case ineg =>
    try dsimp only at hk
    rcases S with _ | ⟨a | a, r⟩ <;> first | (cases hk; done) | skip
    obtain ⟨v, H2, h1, h2⟩ := ih hl h hk hret hcut
    refine ⟨v, H2, xT_ineg hq hc (a := tEv ρ a) ?_, h2⟩
    rw [List.map_cons, show cv ρ σ (.inl (tUn 3 a)) = .inl (x_un 3 (tEv ρ a)) from congrArg Sum.inl (tUn_spec ρ 3 a)] at h1
    exact h1
  case ldc ix =>
    try dsimp only at hk
    rcases hx : tLi tb (mO q) ix with _ | x
    · rw [hx] at hk
      cases hk
    rw [hx] at hk
    obtain ⟨v, H2, h1, h2⟩ := ih hl h hk hret hcut
    exact ⟨v, H2, xT_ldc hq hc hx h1, h2⟩
  case ldc_w ix =>
    try dsimp only at hk
    rcases hx : tLi tb (mO q) ix with _ | x
    · rw [hx] at hk
      cases hk
    rw [hx] at hk
    obtain ⟨v, H2, h1, h2⟩ := ih hl h hk hret hcut
    exact ⟨v, H2, xT_ldc_w hq hc hx h1, h2⟩
  case areturn =>
    try dsimp only at hk
    rcases S with _ | ⟨e | o, _ | ⟨z, r⟩⟩ <;> first | (cases hk; done) | skip
    have k0 := Bool.and_eq_true_iff.mp hk
    have k1 := Bool.and_eq_true_iff.mp k0.1
    have k2 := Bool.and_eq_true_iff.mp k1.2
    have hp := hret ρ σ ty H s (some (.inr o)) (vExt_rf s ρ σ) (fun _ _ z => z) h (Nat.le_refl _) hl k0.2
    have hm : ∀ u : Option Nat, x_retOk dC (mR q) (.inr u) = true := fun u => by
      have k3 := k1.1
      generalize mR q = m at k3 ⊢
      rcases m with _ | t
      · cases k3
      · cases t <;> first | rfl | (cases k3; done)
    rcases o with _ | a
    · exact ⟨some (.inr none), H, xT_areturn hq hc (by rw [hm, k2.1, k2.2]; rfl), hp⟩
    · exact ⟨some (.inr (some (σ a))), H, xT_areturn hq hc (by rw [hm, k2.1, k2.2]; rfl), hp⟩
  case tableswitch df lo up os =>
    try dsimp only at hk
    rcases S with _ | ⟨a | a, r⟩ <;> first | (cases hk; done) | skip
    have hk2 := Bool.and_eq_true_iff.mp hk
    have hk3 := Bool.and_eq_true_iff.mp hk2.1
    obtain ⟨s2, g0, g1, g2⟩ := vSw_spec _ h hk2.2
    rcases ht : x_jp pc (x_swo (tEv ρ a) df (x_tp lo os.toList)) with _ | t
    · rw [ht] at g2
      cases g2
    rw [ht] at g2
    obtain ⟨v, H2, h1, h2⟩ := ih hl g0 g2 (vRetOk_ext g1 hret) (vCutOk_ext g1 hcut)
    exact ⟨v, H2, xT_tableswitch hq hc (a := tEv ρ a) (of_decide_eq_true hk3.1) hk3.2 ht h1, h2⟩
  case lookupswitch df ps =>
    try dsimp only at hk
    rcases S with _ | ⟨a | a, r⟩ <;> first | (cases hk; done) | skip
    have hk2 := Bool.and_eq_true_iff.mp hk
    have hk3 := Bool.and_eq_true_iff.mp hk2.1
    obtain ⟨s2, g0, g1, g2⟩ := vSw_spec _ h hk2.2
    rcases ht : x_jp pc (x_swo (tEv ρ a) df ps.toList) with _ | t
    · rw [ht] at g2
      cases g2
    rw [ht] at g2
    obtain ⟨v, H2, h1, h2⟩ := ih hl g0 g2 (vRetOk_ext g1 hret) (vCutOk_ext g1 hcut)
    exact ⟨v, H2, xT_lookupswitch hq hc (a := tEv ρ a) (hk3.1) hk3.2 ht h1, h2⟩
  case invokespecial ix =>
    try dsimp only at hk
    by_cases hb : tBi tb (mO q) ix = some 0
    · rw [if_pos hb] at hk
      rcases S with _ | ⟨a | (_ | a), r⟩ <;> first | (cases hk; done) | skip
      have hk2 := Bool.and_eq_true_iff.mp hk
      obtain ⟨v, H2, h1, h2⟩ := ih hl h hk2.2 hret hcut
      exact ⟨v, H2, xT_objectInit hq hc (a := σ a) hb (by rw [List.length_map]; exact hk2.1) h1, h2⟩
    · rw [if_neg hb] at hk
      by_cases hn : tBi tb (mO q) ix = none
      rotate_left
      · rw [if_neg hn] at hk
        cases hk
      rw [if_pos hn] at hk
      try dsimp only at hk
      rcases hy : tCal tb (mO q) ix with _ | ⟨j, so⟩
      · rw [hy] at hk
        cases hk
      rw [hy] at hk
      try dsimp only at hk
      rcases dp with _ | dp2
      · cases hk
      try dsimp only at hk
      rcases hm : tMth tb j with _ | q2
      · rw [hm] at hk
        cases hk
      rw [hm] at hk
      try dsimp only at hk
      rcases hd : S.drop (mNp q2) with _ | ⟨z | (_ | a), r⟩
      · rw [hd] at hk
        cases hk
      · rw [hd] at hk
        cases hk
      · rw [hd] at hk
        cases hk
      rw [hd] at hk
      have hk2 := Bool.and_eq_true_iff.mp hk
      have hk3 := Bool.and_eq_true_iff.mp hk2.1
      have hp : vRetOk KT ty H.length s ρ σ (fun s2 v => vChk KT tb tyl f false (dp2 + 1) k (pc + 3) L (x_push v r) s2 (cn + mMc q2) (sn + mMs q2) cu ret) (fun u H1 => ∃ v H2, x_To tb tyl ot (dp2 + 1) k (pc + 3) (cvL ρ σ L) (x_push u (r.map (cv ρ σ))) H1 (cn + mMc q2) (sn + mMs q2) v H2 ∧ Post v H2) := by
        intro ρ2 σ2 ty2 H1 s2 av e1 e2 e3 e4 e5 e6
        obtain ⟨v, H2, h1, h2⟩ := ih e5 e3 e6 (fun ρ3 σ3 ty3 H3 s3 bv g1 g2 g3 g4 g5 g6 => hret ρ3 σ3 ty3 H3 s3 bv (vExt_tr e1 g1) (fun a c z => g2 a c (e2 a c z)) g3 (Nat.le_trans e4 g4) g5 g6)
          (fun pc3 c3 hc3 ρ3 σ3 ty3 H3 s3 L3 S3 cn3 sn3 g1 g2 g3 g4 g5 g6 => hcut pc3 c3 hc3 ρ3 σ3 ty3 H3 s3 L3 S3 cn3 sn3 (vExt_tr e1 g1) (fun a c z => g2 a c (e2 a c z)) g3 (Nat.le_trans e4 g4) g5 g6)
        obtain ⟨r1, r2⟩ := vFr_spec e1 hk3.2
        rw [r1] at h1
        refine ⟨v, H2, ?_, h2⟩
        rcases av with _ | av
        · show x_To tb tyl ot (dp2 + 1) k (pc + 3) (cvL ρ σ L) (r.map (cv ρ σ)) H1 (cn + mMc q2) (sn + mMs q2) v H2
          rw [← r2]
          exact h1
        · show x_To tb tyl ot (dp2 + 1) k (pc + 3) (cvL ρ σ L) (cv ρ2 σ2 av :: r.map (cv ρ σ)) H1 (cn + mMc q2) (sn + mMs q2) v H2
          rw [← r2]
          exact h1
      obtain ⟨u, H1, h1, v, H2, h2, h3⟩ := ih0 true hl h hk2.2 hp (fun pc3 c3 hc3 => by cases hc3)
      simp only [Bool.and_eq_true] at hk3
      obtain ⟨⟨⟨⟨⟨⟨k1, k2⟩, k4⟩, k5⟩, k6⟩, k7⟩, k8⟩ := hk3
      refine ⟨v, H2, xT_invokespecial hq hc (a := σ a) (u := u) (H1 := H1) (r := r.map (cv ρ σ)) hn hy hm (by rw [← List.map_drop, hd]; rfl) ?_ ?_ h2, h3⟩
      · rw [List.length_map, List.length_map, k1, k2, k4, k5, k6, k7]
        rfl
      · have e : cvL ρ σ (x_en 0 (.inr (some a) :: (S.take (mNp q2)).reverse)) = x_en 0 (.inr (some (σ a)) :: ((S.map (cv ρ σ)).take (mNp q2)).reverse) := by
          rw [← cv_en, List.map_cons, List.map_reverse, List.map_take]
          rfl
        rw [← e]
        exact h1
  case invokestatic ix =>
    try dsimp only at hk
    rcases hy : tCal tb (mO q) ix with _ | ⟨j, so⟩
    · rw [hy] at hk
      cases hk
    rw [hy] at hk
    try dsimp only at hk
    rcases dp with _ | dp2
    · cases hk
    try dsimp only at hk
    rcases hm : tMth tb j with _ | q2
    · rw [hm] at hk
      cases hk
    rw [hm] at hk
    have hk2 := Bool.and_eq_true_iff.mp hk
    have hk3 := Bool.and_eq_true_iff.mp hk2.1
    have hp : vRetOk KT ty H.length s ρ σ (fun s2 v => vChk KT tb tyl f false (dp2 + 1) k (pc + 3) L (x_push v (S.drop (mNp q2))) s2 (cn + mMc q2) (sn + mMs q2) cu ret) (fun u H1 => ∃ v H2, x_To tb tyl ot (dp2 + 1) k (pc + 3) (cvL ρ σ L) (x_push u ((S.drop (mNp q2)).map (cv ρ σ))) H1 (cn + mMc q2) (sn + mMs q2) v H2 ∧ Post v H2) := by
      intro ρ2 σ2 ty2 H1 s2 av e1 e2 e3 e4 e5 e6
      obtain ⟨v, H2, h1, h2⟩ := ih e5 e3 e6 (fun ρ3 σ3 ty3 H3 s3 bv g1 g2 g3 g4 g5 g6 => hret ρ3 σ3 ty3 H3 s3 bv (vExt_tr e1 g1) (fun a c z => g2 a c (e2 a c z)) g3 (Nat.le_trans e4 g4) g5 g6)
        (fun pc3 c3 hc3 ρ3 σ3 ty3 H3 s3 L3 S3 cn3 sn3 g1 g2 g3 g4 g5 g6 => hcut pc3 c3 hc3 ρ3 σ3 ty3 H3 s3 L3 S3 cn3 sn3 (vExt_tr e1 g1) (fun a c z => g2 a c (e2 a c z)) g3 (Nat.le_trans e4 g4) g5 g6)
      obtain ⟨r1, r2⟩ := vFr_spec e1 hk3.2
      rw [r1] at h1
      refine ⟨v, H2, ?_, h2⟩
      rcases av with _ | av
      · show x_To tb tyl ot (dp2 + 1) k (pc + 3) (cvL ρ σ L) ((S.drop (mNp q2)).map (cv ρ σ)) H1 (cn + mMc q2) (sn + mMs q2) v H2
        rw [← r2]
        exact h1
      · show x_To tb tyl ot (dp2 + 1) k (pc + 3) (cvL ρ σ L) (cv ρ2 σ2 av :: (S.drop (mNp q2)).map (cv ρ σ)) H1 (cn + mMc q2) (sn + mMs q2) v H2
        rw [← r2]
        exact h1
    obtain ⟨u, H1, h1, v, H2, h2, h3⟩ := ih0 true hl h hk2.2 hp (fun pc3 c3 hc3 => by cases hc3)
    refine ⟨v, H2, xT_invokestatic hq hc (u := u) (H1 := H1) (r := []) hy hm ?_ ?_ ?_, h3⟩
    · rw [← List.map_drop, List.length_map, List.length_map]
      exact hk3.1
    · rw [← List.map_take, ← List.map_reverse, cv_en]
      exact h1
    · rw [← List.map_drop]
      exact h2
  case invokevirtual ix =>
    try dsimp only at hk
    rcases hy : tCal tb (mO q) ix with _ | ⟨j, so⟩
    · rw [hy] at hk
      cases hk
    rw [hy] at hk
    try dsimp only at hk
    rcases dp with _ | dp2
    · cases hk
    try dsimp only at hk
    rcases hm : tMth tb j with _ | q2
    · rw [hm] at hk
      cases hk
    rw [hm] at hk
    try dsimp only at hk
    rcases hd : S.drop (mNp q2) with _ | ⟨z | (_ | a), r⟩
    · rw [hd] at hk
      cases hk
    · rw [hd] at hk
      cases hk
    · rw [hd] at hk
      cases hk
    rw [hd] at hk
    have hk2 := Bool.and_eq_true_iff.mp hk
    have hk3 := Bool.and_eq_true_iff.mp hk2.1
    have hp : vRetOk KT ty H.length s ρ σ (fun s2 v => vChk KT tb tyl f false (dp2 + 1) k (pc + 3) L (x_push v r) s2 (cn + mMc q2) (sn + mMs q2) cu ret) (fun u H1 => ∃ v H2, x_To tb tyl ot (dp2 + 1) k (pc + 3) (cvL ρ σ L) (x_push u (r.map (cv ρ σ))) H1 (cn + mMc q2) (sn + mMs q2) v H2 ∧ Post v H2) := by
      intro ρ2 σ2 ty2 H1 s2 av e1 e2 e3 e4 e5 e6
      obtain ⟨v, H2, h1, h2⟩ := ih e5 e3 e6 (fun ρ3 σ3 ty3 H3 s3 bv g1 g2 g3 g4 g5 g6 => hret ρ3 σ3 ty3 H3 s3 bv (vExt_tr e1 g1) (fun a c z => g2 a c (e2 a c z)) g3 (Nat.le_trans e4 g4) g5 g6)
        (fun pc3 c3 hc3 ρ3 σ3 ty3 H3 s3 L3 S3 cn3 sn3 g1 g2 g3 g4 g5 g6 => hcut pc3 c3 hc3 ρ3 σ3 ty3 H3 s3 L3 S3 cn3 sn3 (vExt_tr e1 g1) (fun a c z => g2 a c (e2 a c z)) g3 (Nat.le_trans e4 g4) g5 g6)
      obtain ⟨r1, r2⟩ := vFr_spec e1 hk3.2
      rw [r1] at h1
      refine ⟨v, H2, ?_, h2⟩
      rcases av with _ | av
      · show x_To tb tyl ot (dp2 + 1) k (pc + 3) (cvL ρ σ L) (r.map (cv ρ σ)) H1 (cn + mMc q2) (sn + mMs q2) v H2
        rw [← r2]
        exact h1
      · show x_To tb tyl ot (dp2 + 1) k (pc + 3) (cvL ρ σ L) (cv ρ2 σ2 av :: r.map (cv ρ σ)) H1 (cn + mMc q2) (sn + mMs q2) v H2
        rw [← r2]
        exact h1
    obtain ⟨u, H1, h1, v, H2, h2, h3⟩ := ih0 true hl h hk2.2 hp (fun pc3 c3 hc3 => by cases hc3)
    simp only [Bool.and_eq_true] at hk3
    obtain ⟨⟨⟨⟨⟨⟨⟨k1, k2⟩, k3⟩, k4⟩, k5⟩, k6⟩, k7⟩, k8⟩ := hk3
    refine ⟨v, H2, xT_invokevirtual hq hc (a := σ a) (u := u) (H1 := H1) (r := r.map (cv ρ σ)) hy hm (by rw [← List.map_drop, hd]; rfl) ?_ ?_ h2, h3⟩
    · rw [List.length_map, List.length_map, k1, k2, k4, k5, k6, k7, decide_eq_true (vCls_spec (ot := ot) h hl k3)]
      rfl
    · have e : cvL ρ σ (x_en 0 (.inr (some a) :: (S.take (mNp q2)).reverse)) = x_en 0 (.inr (some (σ a)) :: ((S.map (cv ρ σ)).take (mNp q2)).reverse) := by
        rw [← cv_en, List.map_cons, List.map_reverse, List.map_take]
        rfl
      rw [← e]
      exact h1
  all_goals (cases hk; done)
end XChk
end
