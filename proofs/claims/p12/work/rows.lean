section
/-! Methods and their instructions, as a table has them. -/
section XBase
/-- a method: name, bytes, locals, return, whose pool, the receiver's class, parameters, cells and slots that it may make, its instructions -/
abbrev XM : Type := MethodName × ByteArray × Nat × Option FieldType × Nat × Nat × Nat × Nat × Nat × Bool × (Nat → Option (Instr × Nat))
abbrev mY (q : XM) : MethodName := q.1
abbrev mB (q : XM) : ByteArray := q.2.1
abbrev mL (q : XM) : Nat := q.2.2.1
abbrev mR (q : XM) : Option FieldType := q.2.2.2.1
abbrev mO (q : XM) : Nat := q.2.2.2.2.1
abbrev mRc (q : XM) : Nat := q.2.2.2.2.2.1
abbrev mNp (q : XM) : Nat := q.2.2.2.2.2.2.1
abbrev mMc (q : XM) : Nat := q.2.2.2.2.2.2.2.1
abbrev mMs (q : XM) : Nat := q.2.2.2.2.2.2.2.2.1
abbrev mI (q : XM) : Bool := q.2.2.2.2.2.2.2.2.2.1
abbrev mC (q : XM) : Nat → Option (Instr × Nat) := q.2.2.2.2.2.2.2.2.2.2
/-- the length of an instruction, in bytes -/
def x_len : Instr → Nat
  | .iload _ => 2
  | .aload _ => 2
  | .istore _ => 2
  | .astore _ => 2
  | .bipush _ => 2
  | .newarray _ => 2
  | .ldc _ => 2
  | .sipush _ => 3
  | .iinc _ _ => 3
  | .getfield _ => 3
  | .putfield _ => 3
  | .new _ => 3
  | .anewarray _ => 3
  | .invokespecial _ => 3
  | .invokestatic _ => 3
  | .invokevirtual _ => 3
  | .goto _ => 3
  | .getstatic _ => 3
  | .ifCond _ _ => 3
  | .if_icmp _ _ => 3
  | .ifnull _ => 3
  | .ifnonnull _ => 3
  | .ldc_w _ => 3
  | .multianewarray _ _ => 4
  | _ => 1
def x_lenOk : Instr → Nat → Bool
  | .tableswitch _ _ _ _, _ => true
  | .lookupswitch _ _, _ => true
  | i, n => n == x_len i
def x_at2 : Nat → List (Nat × Instr × Nat) → Option (Instr × Nat)
  | _, [] => none
  | pc, q :: r => if q.1 = pc then some q.2 else x_at2 pc r
def x_cOk (b : ByteArray) (l : List (Nat × Instr × Nat)) : Bool := l.all (fun q => decide (decode b q.1 = .ok q.2) && x_lenOk q.2.1 q.2.2)
theorem x_cOk_spec {b : ByteArray} {pc n : Nat} {i : Instr} : ∀ {l : List (Nat × Instr × Nat)}, x_cOk b l = true → x_at2 pc l = some (i, n) → decode b pc = .ok (i, n) ∧ x_lenOk i n = true
  | [], _, h => by cases h
  | q :: r, hc, h => by
    have hc2 : (decide (decode b q.1 = .ok q.2) && x_lenOk q.2.1 q.2.2) = true ∧ x_cOk b r = true := by
      have h1 := List.all_eq_true.mp hc
      exact ⟨h1 q List.mem_cons_self, List.all_eq_true.mpr fun z hz => h1 z (List.mem_cons_of_mem _ hz)⟩
    simp only [x_at2] at h
    split at h
    · rename_i he
      subst he
      simp only [Option.some.injEq] at h
      have h2 := hc2.1
      simp only [Bool.and_eq_true, decide_eq_true_eq] at h2
      rw [h] at h2
      exact h2
    · exact x_cOk_spec hc2.2 h
def x_Good (b : ByteArray) (g : Nat → Option (Instr × Nat)) : Prop := ∀ pc i n, g pc = some (i, n) → decode b pc = .ok (i, n) ∧ x_lenOk i n = true
theorem x_Good_l {b : ByteArray} {l : List (Nat × Instr × Nat)} (h : x_cOk b l = true) : x_Good b (fun pc => x_at2 pc l) := fun _ _ _ q => x_cOk_spec h q
theorem x_Good_ite {b : ByteArray} {k : Nat} {g1 g2 : Nat → Option (Instr × Nat)} (h1 : x_Good b g1) (h2 : x_Good b g2) : x_Good b (fun pc => if pc < k then g1 pc else g2 pc) := fun pc i n h => by
  have h : (if pc < k then g1 pc else g2 pc) = some (i, n) := h
  by_cases c : pc < k
  · rw [if_pos c] at h
    exact h1 pc i n h
  · rw [if_neg c] at h
    exact h2 pc i n h
end XBase
end
section
/-! An evaluator of its own over an abstract heap: values, cells, instructions. Whatever it finds no fault with, the machine does (part 02). -/
section XDefs
variable {E K : Type}
/-- an int (as E has it), null, or a cell by its number -/
abbrev XV (E : Type) : Type := E ⊕ Option Nat
/-- an object (its class by number, its fields), or an array (its type by number, its elements) -/
abbrev XC (E : Type) : Type := (Nat × List (XV E)) ⊕ (Nat × List (XV E))
/-- the ways that are left: each a list of what holds on it -/
abbrev XR (K : Type) : Type := List (List K)
abbrev XD (E K : Type) : Type := (E → Int32) × (Int32 → E) × (Nat → E → E → E) × (Nat → E → E) × (E → Option Int32) × (K → Prop) × (Nat → E → E → List K → (List K → XR K) → (List K → XR K) → XR K)
abbrev dEv (d : XD E K) : E → Int32 := d.1
abbrev dKc (d : XD E K) : Int32 → E := d.2.1
abbrev dBin (d : XD E K) : Nat → E → E → E := d.2.2.1
abbrev dUn (d : XD E K) : Nat → E → E := d.2.2.2.1
abbrev dKst (d : XD E K) : E → Option Int32 := d.2.2.2.2.1
abbrev dHd (d : XD E K) : K → Prop := d.2.2.2.2.2.1
abbrev dBr (d : XD E K) : Nat → E → E → List K → (List K → XR K) → (List K → XR K) → XR K := d.2.2.2.2.2.2
/-- tables: methods; the names of the pools' classes; fields; new; calls (callee, sort); arrays of references; arrays of arrays; field types of a class; what is known of itself (Object's constructor, copying); ints of the pool -/
abbrev XT : Type := (Nat → Option XM) × (Nat → String) × (Nat → Nat → Option (Nat × Nat)) × (Nat → Nat → Option Nat) × (Nat → Nat → Option (Nat × Nat)) × (Nat → Nat → Option Nat) × (Nat → Nat → Option (Nat × Nat)) × (Nat → List (FieldType × Bool)) × (Nat → Nat → Option Nat) × (Nat → Nat → Option Int32)
abbrev tMth (t : XT) : Nat → Option XM := t.1
abbrev tNm (t : XT) : Nat → String := t.2.1
abbrev tFld (t : XT) : Nat → Nat → Option (Nat × Nat) := t.2.2.1
abbrev tNw (t : XT) : Nat → Nat → Option Nat := t.2.2.2.1
abbrev tCal (t : XT) : Nat → Nat → Option (Nat × Nat) := t.2.2.2.2.1
abbrev tAn (t : XT) : Nat → Nat → Option Nat := t.2.2.2.2.2.1
abbrev tMn (t : XT) : Nat → Nat → Option (Nat × Nat) := t.2.2.2.2.2.2.1
abbrev tFt (t : XT) : Nat → List (FieldType × Bool) := t.2.2.2.2.2.2.2.1
abbrev tBi (t : XT) : Nat → Nat → Option Nat := t.2.2.2.2.2.2.2.2.1
abbrev tLi (t : XT) : Nat → Nat → Option Int32 := t.2.2.2.2.2.2.2.2.2
/-- what lies outside (numbers from 1000000 on): constants of text by pool and place; their fields; static fields; rows of bytes; the script (its length, its ints); their classes -/
abbrev XO (E : Type) : Type := (Nat → Nat → Option Nat) × (Nat → Nat → Nat → Option (Int32 ⊕ Option Nat)) × (Nat → Nat → Option (Int32 ⊕ Option Nat)) × (Nat → Option (List Int32)) × (Nat × (Nat → E)) × (Nat → Option Nat)
abbrev oSl (t : XO E) : Nat → Nat → Option Nat := t.1
abbrev oFl (t : XO E) : Nat → Nat → Nat → Option (Int32 ⊕ Option Nat) := t.2.1
abbrev oGs (t : XO E) : Nat → Nat → Option (Int32 ⊕ Option Nat) := t.2.2.1
abbrev oBy (t : XO E) : Nat → Option (List Int32) := t.2.2.2.1
abbrev oSn (t : XO E) : Nat := t.2.2.2.2.1.1
abbrev oSc (t : XO E) : Nat → E := t.2.2.2.2.1.2
abbrev oCl (t : XO E) : Nat → Option Nat := t.2.2.2.2.2
def x_ov (d : XD E K) : Int32 ⊕ Option Nat → XV E
  | .inl v => .inl (dKc d v)
  | .inr a => .inr a
def x_bin : Nat → Int32 → Int32 → Int32
  | 0, x, y => x + y
  | 1, x, y => x - y
  | 2, x, y => x * y
  | 3, x, y => x &&& y
  | 4, x, y => x ||| y
  | 5, x, y => x ^^^ y
  | 6, x, y => x <<< (y &&& 31)
  | 7, x, y => x >>> (y &&& 31)
  | 8, x, y => x / y
  | 9, x, y => x - x / y * y
  | _, x, y => (x.toUInt32 >>> (y.toUInt32 &&& Int32.toUInt32 31)).toInt32
def x_un : Nat → Int32 → Int32
  | 0, x => x.toInt8.toInt32
  | 1, x => x.toInt16.toInt32
  | 2, x => (x.toUInt32 % 65536).toInt32
  | _, x => -x
def x_cmp : Nat → Int32 → Int32 → Bool
  | 0, x, y => decide (x = y)
  | 1, x, y => decide (¬ x = y)
  | 2, x, y => decide (x < y)
  | 3, x, y => decide (y ≤ x)
  | 4, x, y => decide (y < x)
  | _, x, y => decide (x ≤ y)
def x_cn : Jvm.ClassFile.Cond → Nat
  | .eq => 0
  | .ne => 1
  | .lt => 2
  | .ge => 3
  | .gt => 4
  | .le => 5
/-- every way that is left can't be gone -/
def XOk (hd : K → Prop) (r : XR K) : Prop := ∀ b ∈ r, ∃ k ∈ b, ¬ hd k
def XPa (hd : K → Prop) (w : List K) : Prop := ∀ k ∈ w, hd k
def x_DmOk (d : XD E K) : Prop :=
  (∀ n, dEv d (dKc d n) = n) ∧ (∀ o a b, dEv d (dBin d o a b) = x_bin o (dEv d a) (dEv d b)) ∧ (∀ o a, dEv d (dUn d o a) = x_un o (dEv d a)) ∧ (∀ a n, dKst d a = some n → dEv d a = n) ∧
  (∀ o a b w kt kf, XOk (dHd d) (dBr d o a b w kt kf) → XPa (dHd d) w → ∃ w', XPa (dHd d) w' ∧ ((x_cmp o (dEv d a) (dEv d b) = true ∧ XOk (dHd d) (kt w')) ∨ (x_cmp o (dEv d a) (dEv d b) = false ∧ XOk (dHd d) (kf w'))))
def x_jp (pc : Nat) (off : Int) : Option Nat := if 0 ≤ (pc : Int) + off then some ((pc : Int) + off).toNat else none
def x_lk (L : List (Nat × XV E)) (i : Nat) : Option (XV E) := (L.find? (fun q => q.1 == i)).map (·.2)
def x_st (L : List (Nat × XV E)) (i : Nat) (v : XV E) : List (Nat × XV E) := (i, v) :: L.filter (fun q => !(q.1 == i))
def x_en : Nat → List (XV E) → List (Nat × XV E)
  | _, [] => []
  | i, v :: vs => (i, v) :: x_en (i + 1) vs
/-- an index, told apart where it isn't known: j of the n -/
def x_ixs (d : XD E K) (a : E) (kk : Nat → List K → XR K) : Nat → List K → XR K
  | 0, w => [w]
  | j + 1, w => dBr d 0 a (dKc d (nI j)) w (fun w2 => kk j w2) (fun w2 => x_ixs d a kk j w2)
def x_ix (d : XD E K) (a : E) (n : Nat) (w : List K) (kk : Nat → List K → XR K) : XR K :=
  match dKst d a with
  | some v => if decide (v < 0) || decide (n ≤ v.toNatClampNeg) then [w] else kk v.toNatClampNeg w
  | none => if n < 2000 then x_ixs d a kk n w else [w]
/-- a switch: its pairs one by one, then what is left -/
def x_sw (d : XD E K) (a : E) (dflt : Int) (kk : Int → List K → XR K) : List (Int × Int) → List K → XR K
  | [], w => kk dflt w
  | q :: r, w => if (Int32.ofInt q.1).toInt = q.1 then dBr d 0 a (dKc d (Int32.ofInt q.1)) w (fun w2 => kk q.2 w2) (fun w2 => x_sw d a dflt kk r w2) else [w]
def x_tp : Int → List Int → List (Int × Int)
  | _, [] => []
  | lo, o :: r => (lo, o) :: x_tp (lo + 1) r
def x_def (d : XD E K) : FieldType → XV E
  | .object _ => .inr none
  | .array _ => .inr none
  | _ => .inl (dKc d 0)
def x_isRef : FieldType → Bool
  | .object _ => true
  | .array _ => true
  | _ => false
/-- may a field or an element of that type keep this value, just as it is -/
def x_fit (d : XD E K) : FieldType → XV E → Bool
  | .int, .inl _ => true
  | .boolean, .inl e => match dKst d e with
    | some v => decide (v = 0) || decide (v = 1)
    | none => false
  | .object _, .inr _ => true
  | .array _, .inr _ => true
  | _, _ => false
def x_cat (S : List (XV E)) : Nat := S.length
/-- rows of an array of arrays -/
def x_rows (t : Nat) (r : List (XV E)) : Nat → List (XC E)
  | 0 => []
  | n + 1 => .inr (t, r) :: x_rows t r n
def x_refs : Nat → Nat → List (XV E)
  | _, 0 => []
  | a, n + 1 => .inr (some a) :: x_refs (a + 1) n
def x_push : Option (XV E) → List (XV E) → List (XV E)
  | none, S => S
  | some v, S => v :: S
/-- a return keeps what the method says that it answers -/
def x_retOk (d : XD E K) : Option FieldType → XV E → Bool
  | some .int, .inl _ => true
  | some .boolean, .inl e => match dKst d e with
    | some v => decide (v = 0) || decide (v = 1)
    | none => false
  | some .byte, .inl e => match dKst d e with
    | some v => decide (v.toInt8.toInt32 = v)
    | none => false
  | some .char, .inl e => match dKst d e with
    | some v => decide ((v.toUInt32 % 65536).toInt32 = v)
    | none => false
  | some (.object _), .inr _ => true
  | some (.array _), .inr _ => true
  | _, _ => false
/-- the class, by its number, of a receiver -/
def x_rc (ot : XO E) (h : List (XC E)) (a : Nat) : Option Nat := if 1000000 < a then oCl ot a else match h[a]? with
  | some (.inl (ci, _)) => some ci
  | _ => none
/-- THE EVALUATOR: fuel, depth, method, place, locals, stack, heap, cells and slots made, what holds on this way; behind it: what is answered -/
def x_run (d : XD E K) (tb : XT) (tyl : List FieldType) (ot : XO E) : Nat → Nat → Nat → Nat → List (Nat × XV E) → List (XV E) → List (XC E) → Nat → Nat → List K → (List K → Option (XV E) → List (XC E) → XR K) → XR K
  | 0, _, _, _, _, _, _, _, _, w, _ => [w]
  | f + 1, dp, k, pc, L, S, h, cn, sn, w, post =>
    match tMth tb k with
    | none => [w]
    | some q =>
      match mC q pc with
      | none => [w]
      | some (i, n) =>
        match i with
        | .iconst v => x_run d tb tyl ot f dp k (pc + 1) L (.inl (dKc d (Int32.ofInt v)) :: S) h cn sn w post
        | .bipush v => x_run d tb tyl ot f dp k (pc + 2) L (.inl (dKc d (Int8.ofInt v).toInt32) :: S) h cn sn w post
        | .sipush v => x_run d tb tyl ot f dp k (pc + 3) L (.inl (dKc d (Int16.ofInt v).toInt32) :: S) h cn sn w post
        | .ldc ix => match tLi tb (mO q) ix with
          | some v => x_run d tb tyl ot f dp k (pc + 2) L (.inl (dKc d v) :: S) h cn sn w post
          | none => match oSl ot (mO q) ix with
            | some a => x_run d tb tyl ot f dp k (pc + 2) L (.inr (some a) :: S) h cn sn w post
            | none => [w]
        | .ldc_w ix => match tLi tb (mO q) ix with
          | some v => x_run d tb tyl ot f dp k (pc + 3) L (.inl (dKc d v) :: S) h cn sn w post
          | none => [w]
        | .aconst_null => x_run d tb tyl ot f dp k (pc + 1) L (.inr none :: S) h cn sn w post
        | .iload_n j => match x_lk L j with
          | some (.inl a) => x_run d tb tyl ot f dp k (pc + 1) L (.inl a :: S) h cn sn w post
          | _ => [w]
        | .iload j => match x_lk L j with
          | some (.inl a) => x_run d tb tyl ot f dp k (pc + 2) L (.inl a :: S) h cn sn w post
          | _ => [w]
        | .aload_n j => match x_lk L j with
          | some (.inr a) => x_run d tb tyl ot f dp k (pc + 1) L (.inr a :: S) h cn sn w post
          | _ => [w]
        | .aload j => match x_lk L j with
          | some (.inr a) => x_run d tb tyl ot f dp k (pc + 2) L (.inr a :: S) h cn sn w post
          | _ => [w]
        | .istore_n j => match S with
          | .inl a :: r => if (j : Nat) < mL q then x_run d tb tyl ot f dp k (pc + 1) (x_st L j (.inl a)) r h cn sn w post else [w]
          | _ => [w]
        | .istore j => match S with
          | .inl a :: r => if j < mL q then x_run d tb tyl ot f dp k (pc + 2) (x_st L j (.inl a)) r h cn sn w post else [w]
          | _ => [w]
        | .astore_n j => match S with
          | .inr a :: r => if (j : Nat) < mL q then x_run d tb tyl ot f dp k (pc + 1) (x_st L j (.inr a)) r h cn sn w post else [w]
          | _ => [w]
        | .astore j => match S with
          | .inr a :: r => if j < mL q then x_run d tb tyl ot f dp k (pc + 2) (x_st L j (.inr a)) r h cn sn w post else [w]
          | _ => [w]
        | .iinc j v => match x_lk L j with
          | some (.inl a) => if j < mL q then x_run d tb tyl ot f dp k (pc + 3) (x_st L j (.inl (dBin d 0 a (dKc d (Int32.ofInt v))))) S h cn sn w post else [w]
          | _ => [w]
        | .dup => match S with
          | a :: r => x_run d tb tyl ot f dp k (pc + 1) L (a :: a :: r) h cn sn w post
          | _ => [w]
        | .dup_x1 => match S with
          | a :: b :: r => x_run d tb tyl ot f dp k (pc + 1) L (a :: b :: a :: r) h cn sn w post
          | _ => [w]
        | .dup2 => match S with
          | a :: b :: r => x_run d tb tyl ot f dp k (pc + 1) L (a :: b :: a :: b :: r) h cn sn w post
          | _ => [w]
        | .pop => match S with
          | _ :: r => x_run d tb tyl ot f dp k (pc + 1) L r h cn sn w post
          | _ => [w]
        | .iadd => match S with
          | .inl b :: .inl a :: r => x_run d tb tyl ot f dp k (pc + 1) L (.inl (dBin d 0 a b) :: r) h cn sn w post
          | _ => [w]
        | .isub => match S with
          | .inl b :: .inl a :: r => x_run d tb tyl ot f dp k (pc + 1) L (.inl (dBin d 1 a b) :: r) h cn sn w post
          | _ => [w]
        | .imul => match S with
          | .inl b :: .inl a :: r => x_run d tb tyl ot f dp k (pc + 1) L (.inl (dBin d 2 a b) :: r) h cn sn w post
          | _ => [w]
        | .iand => match S with
          | .inl b :: .inl a :: r => x_run d tb tyl ot f dp k (pc + 1) L (.inl (dBin d 3 a b) :: r) h cn sn w post
          | _ => [w]
        | .ior => match S with
          | .inl b :: .inl a :: r => x_run d tb tyl ot f dp k (pc + 1) L (.inl (dBin d 4 a b) :: r) h cn sn w post
          | _ => [w]
        | .ixor => match S with
          | .inl b :: .inl a :: r => x_run d tb tyl ot f dp k (pc + 1) L (.inl (dBin d 5 a b) :: r) h cn sn w post
          | _ => [w]
        | .ishl => match S with
          | .inl b :: .inl a :: r => x_run d tb tyl ot f dp k (pc + 1) L (.inl (dBin d 6 a b) :: r) h cn sn w post
          | _ => [w]
        | .ishr => match S with
          | .inl b :: .inl a :: r => x_run d tb tyl ot f dp k (pc + 1) L (.inl (dBin d 7 a b) :: r) h cn sn w post
          | _ => [w]
        | .idiv => match S with
          | .inl b :: .inl a :: r => dBr d 0 b (dKc d 0) w (fun w2 => [w2]) (fun w2 => x_run d tb tyl ot f dp k (pc + 1) L (.inl (dBin d 8 a b) :: r) h cn sn w2 post)
          | _ => [w]
        | .irem => match S with
          | .inl b :: .inl a :: r => dBr d 0 b (dKc d 0) w (fun w2 => [w2]) (fun w2 => x_run d tb tyl ot f dp k (pc + 1) L (.inl (dBin d 9 a b) :: r) h cn sn w2 post)
          | _ => [w]
        | .i2b => match S with
          | .inl a :: r => x_run d tb tyl ot f dp k (pc + 1) L (.inl (dUn d 0 a) :: r) h cn sn w post
          | _ => [w]
        | .i2s => match S with
          | .inl a :: r => x_run d tb tyl ot f dp k (pc + 1) L (.inl (dUn d 1 a) :: r) h cn sn w post
          | _ => [w]
        | .goto o => match x_jp pc o with
          | some t => x_run d tb tyl ot f dp k t L S h cn sn w post
          | none => [w]
        | .ifCond c o => match S, x_jp pc o with
          | .inl a :: r, some t => dBr d (x_cn c) a (dKc d 0) w (fun w2 => x_run d tb tyl ot f dp k t L r h cn sn w2 post) (fun w2 => x_run d tb tyl ot f dp k (pc + 3) L r h cn sn w2 post)
          | _, _ => [w]
        | .if_icmp c o => match S, x_jp pc o with
          | .inl b :: .inl a :: r, some t => dBr d (x_cn c) a b w (fun w2 => x_run d tb tyl ot f dp k t L r h cn sn w2 post) (fun w2 => x_run d tb tyl ot f dp k (pc + 3) L r h cn sn w2 post)
          | _, _ => [w]
        | .ifnull o => match S, x_jp pc o with
          | .inr none :: r, some t => x_run d tb tyl ot f dp k t L r h cn sn w post
          | .inr (some _) :: r, _ => x_run d tb tyl ot f dp k (pc + 3) L r h cn sn w post
          | _, _ => [w]
        | .ifnonnull o => match S, x_jp pc o with
          | .inr (some _) :: r, some t => x_run d tb tyl ot f dp k t L r h cn sn w post
          | .inr none :: r, _ => x_run d tb tyl ot f dp k (pc + 3) L r h cn sn w post
          | _, _ => [w]
        | .tableswitch df lo hi os => match S with
          | .inl a :: r => if hi + 1 = lo + os.size then x_sw d a df (fun o w2 => match x_jp pc o with
              | some t => x_run d tb tyl ot f dp k t L r h cn sn w2 post
              | none => [w2]) (x_tp lo os.toList) w else [w]
          | _ => [w]
        | .lookupswitch df ps => match S with
          | .inl a :: r => if (ps.toList.zip (ps.toList.drop 1)).all (fun (a, next) => a.1 < next.1) = true then x_sw d a df (fun o w2 => match x_jp pc o with
              | some t => x_run d tb tyl ot f dp k t L r h cn sn w2 post
              | none => [w2]) ps.toList w else [w]
          | _ => [w]
        | .getfield ix => match S with
          | .inr (some a) :: r => if 1000000 < a then (match oFl ot a (mO q) ix with
              | some v => x_run d tb tyl ot f dp k (pc + 3) L (x_ov d v :: r) h cn sn w post
              | none => [w]) else match tFld tb (mO q) ix with
            | some (ci, j) => match h[a]? with
              | some (.inl (c2, fs)) => match decide (c2 = ci), fs[j]? with
                | true, some v => x_run d tb tyl ot f dp k (pc + 3) L (v :: r) h cn sn w post
                | _, _ => [w]
              | _ => [w]
            | none => [w]
          | _ => [w]
        | .getstatic ix => match oGs ot (mO q) ix with
          | some v => x_run d tb tyl ot f dp k (pc + 3) L (x_ov d v :: S) h cn sn w post
          | none => [w]
        | .arraylength => match S with
          | .inr (some a) :: r => if a = 1000000 then x_run d tb tyl ot f dp k (pc + 1) L (.inl (dKc d (Int32.ofNat (oSn ot))) :: r) h cn sn w post else match oBy ot a with
            | some bs => if 1000000 < a then x_run d tb tyl ot f dp k (pc + 1) L (.inl (dKc d (Int32.ofNat bs.length)) :: r) h cn sn w post else [w]
            | none => [w]
          | _ => [w]
        | .i2c => match S with
          | .inl a :: r => x_run d tb tyl ot f dp k (pc + 1) L (.inl (dUn d 2 a) :: r) h cn sn w post
          | _ => [w]
        | .ineg => match S with
          | .inl a :: r => x_run d tb tyl ot f dp k (pc + 1) L (.inl (dUn d 3 a) :: r) h cn sn w post
          | _ => [w]
        | .iushr => match S with
          | .inl b :: .inl a :: r => x_run d tb tyl ot f dp k (pc + 1) L (.inl (dBin d 10 a b) :: r) h cn sn w post
          | _ => [w]
        | .putfield ix => match S, tFld tb (mO q) ix with
          | v :: .inr (some a) :: r, some (ci, j) => match h[a]? with
            | some (.inl (c2, fs)) => match (tFt tb ci)[j]? with
              | some ty => if decide (c2 = ci) && x_fit d ty.1 v && decide (j < fs.length) && (!ty.2 || (mI q && decide (mRc q = ci))) then x_run d tb tyl ot f dp k (pc + 3) L r (h.set a (.inl (c2, fs.set j v))) cn sn w post else [w]
              | none => [w]
            | _ => [w]
          | _, _ => [w]
        | .iaload => match S with
          | .inl e :: .inr (some a) :: r => if a = 1000000 then x_ix d e (oSn ot) w (fun j w2 => x_run d tb tyl ot f dp k (pc + 1) L (.inl (oSc ot j) :: r) h cn sn w2 post) else match h[a]? with
            | some (.inr (0, vs)) => x_ix d e vs.length w (fun j w2 => match vs[j]? with
              | some v => x_run d tb tyl ot f dp k (pc + 1) L (v :: r) h cn sn w2 post
              | none => [w2])
            | _ => [w]
          | _ => [w]
        | .baload => match S with
          | .inl e :: .inr (some a) :: r => if 1000000 < a then (match oBy ot a with
              | some bs => x_ix d e bs.length w (fun j w2 => x_run d tb tyl ot f dp k (pc + 1) L (.inl (dKc d (bs.getD j 0)) :: r) h cn sn w2 post)
              | none => [w]) else match h[a]? with
            | some (.inr (1, vs)) => x_ix d e vs.length w (fun j w2 => match vs[j]? with
              | some v => x_run d tb tyl ot f dp k (pc + 1) L (v :: r) h cn sn w2 post
              | none => [w2])
            | _ => [w]
          | _ => [w]
        | .aaload => match S with
          | .inl e :: .inr (some a) :: r => match h[a]? with
            | some (.inr (t, vs)) => if (tyl[t]?.map x_isRef) = some true then x_ix d e vs.length w (fun j w2 => match vs[j]? with
              | some v => x_run d tb tyl ot f dp k (pc + 1) L (v :: r) h cn sn w2 post
              | none => [w2]) else [w]
            | _ => [w]
          | _ => [w]
        | .iastore => match S with
          | .inl v :: .inl e :: .inr (some a) :: r => match h[a]? with
            | some (.inr (0, vs)) => x_ix d e vs.length w (fun j w2 => x_run d tb tyl ot f dp k (pc + 1) L r (h.set a (.inr (0, vs.set j (.inl v)))) cn sn w2 post)
            | _ => [w]
          | _ => [w]
        | .bastore => match S with
          | .inl v :: .inl e :: .inr (some a) :: r => match h[a]? with
            | some (.inr (1, vs)) => if x_fit d .boolean (.inl v) then x_ix d e vs.length w (fun j w2 => x_run d tb tyl ot f dp k (pc + 1) L r (h.set a (.inr (1, vs.set j (.inl v)))) cn sn w2 post) else [w]
            | _ => [w]
          | _ => [w]
        | .aastore => match S with
          | .inr (some v) :: .inl e :: .inr (some a) :: r => match h[a]?, h[v]? with
            | some (.inr (t, vs)), some (.inl (ci, _)) => match tyl[t]? with
              | some (.object C) => if decide (C = tNm tb ci) then x_ix d e vs.length w (fun j w2 => x_run d tb tyl ot f dp k (pc + 1) L r (h.set a (.inr (t, vs.set j (.inr (some v))))) cn sn w2 post) else [w]
              | _ => [w]
            | _, _ => [w]
          | _ => [w]
        | .new ix => match tNw tb (mO q) ix with
          | some ci => if decide (cn + 1 ≤ mMc q) && decide (sn + (tFt tb ci).length ≤ mMs q) && decide (h.length + 1 ≤ 1000000) then
              x_run d tb tyl ot f dp k (pc + 3) L (.inr (some h.length) :: S) (h ++ [.inl (ci, (tFt tb ci).map (fun t => x_def d t.1))]) (cn + 1) (sn + (tFt tb ci).length) w post else [w]
          | none => [w]
        | .newarray ty => match S, (match ty with | .int => some 0 | .boolean => some 1 | _ => none) with
          | .inl e :: r, some t => match dKst d e with
            | some v => if decide (¬ v < 0) && decide (v.toNatClampNeg ≤ 100000) && decide (cn + 1 ≤ mMc q) && decide (sn + v.toNatClampNeg ≤ mMs q) && decide (h.length + 1 ≤ 1000000) then
                x_run d tb tyl ot f dp k (pc + 2) L (.inr (some h.length) :: r) (h ++ [.inr (t, List.replicate v.toNatClampNeg (.inl (dKc d 0)))]) (cn + 1) (sn + v.toNatClampNeg) w post else [w]
            | none => [w]
          | _, _ => [w]
        | .anewarray ix => match S, tAn tb (mO q) ix with
          | .inl e :: r, some t => match dKst d e with
            | some v => if decide (¬ v < 0) && decide (v.toNatClampNeg ≤ 100000) && decide (cn + 1 ≤ mMc q) && decide (sn + v.toNatClampNeg ≤ mMs q) && decide (h.length + 1 ≤ 1000000) then
                x_run d tb tyl ot f dp k (pc + 3) L (.inr (some h.length) :: r) (h ++ [.inr (t, List.replicate v.toNatClampNeg (.inr none))]) (cn + 1) (sn + v.toNatClampNeg) w post else [w]
            | none => [w]
          | _, _ => [w]
        | .multianewarray ix dm => match S, tMn tb (mO q) ix with
          | .inl e2 :: .inl e1 :: r, some (t2, t1) => match dKst d e1, dKst d e2 with
            | some v1, some v2 => if decide (dm = 2) && decide (¬ v1 < 0) && decide (¬ v2 < 0) && decide (v1.toNatClampNeg ≤ 100000) && decide (v2.toNatClampNeg ≤ 100000) && decide (t1 < 2) && decide (cn + (1 + v1.toNatClampNeg) ≤ mMc q) && decide (sn + (v1.toNatClampNeg + v1.toNatClampNeg * v2.toNatClampNeg) ≤ mMs q) && decide (h.length + 1 + v1.toNatClampNeg ≤ 1000000) then
                x_run d tb tyl ot f dp k (pc + 4) L (.inr (some h.length) :: r) (h ++ .inr (t2, x_refs (h.length + 1) v1.toNatClampNeg) :: x_rows t1 (List.replicate v2.toNatClampNeg (.inl (dKc d 0))) v1.toNatClampNeg) (cn + 1 + v1.toNatClampNeg) (sn + v1.toNatClampNeg + v1.toNatClampNeg * v2.toNatClampNeg) w post else [w]
            | _, _ => [w]
          | _, _ => [w]
        | .invokestatic ix => match tCal tb (mO q) ix with
          | some (j, so) => match dp with
            | dp2 + 1 => match tMth tb j with
              | some q2 => if decide (mNp q2 ≤ S.length) && decide (2 ≤ so) && decide ((S.drop (mNp q2)).length ≤ 8) && decide (mNp q2 ≤ mL q2) && decide (cn + mMc q2 ≤ mMc q) && decide (sn + mMs q2 ≤ mMs q) then
                  x_run d tb tyl ot f dp2 j 0 (x_en 0 (S.take (mNp q2)).reverse) [] h 0 0 w (fun w2 v h2 => x_run d tb tyl ot f dp k (pc + 3) L (x_push v (S.drop (mNp q2))) h2 (cn + mMc q2) (sn + mMs q2) w2 post) else [w]
              | none => [w]
            | 0 => [w]
          | none => if tBi tb (mO q) ix = some 1 then match S with
            | .inl n0 :: .inl pd :: .inr (some bd) :: .inl ps :: .inr (some bs) :: r => match h[bs]?, h[bd]?, dKst d n0, dKst d pd, dKst d ps with
              | some (.inr (0, us)), some (.inr (0, vs)), some n1, some d1, some s1 => if decide (¬ n1 < 0) && decide (¬ d1 < 0) && decide (¬ s1 < 0) && decide (s1.toNatClampNeg + n1.toNatClampNeg ≤ us.length) && decide (d1.toNatClampNeg + n1.toNatClampNeg ≤ vs.length) && decide (r.length ≤ 8) && us.all (fun u => u.isLeft) then
                  x_run d tb tyl ot f dp k (pc + 3) L r (h.set bd (.inr (0, vs.take d1.toNatClampNeg ++ (us.drop s1.toNatClampNeg).take n1.toNatClampNeg ++ vs.drop (d1.toNatClampNeg + n1.toNatClampNeg)))) cn sn w post else [w]
              | _, _, _, _, _ => [w]
            | _ => [w] else if tBi tb (mO q) ix = some 2 then match S with
            | .inl b :: .inl a :: r => if decide (r.length ≤ 8) && decide (cn ≤ mMc q) && decide (sn ≤ mMs q) then dBr d 2 a b w (fun w2 => x_run d tb tyl ot f dp k (pc + 3) L (.inl b :: r) h cn sn w2 post) (fun w2 => x_run d tb tyl ot f dp k (pc + 3) L (.inl a :: r) h cn sn w2 post) else [w]
            | _ => [w] else if tBi tb (mO q) ix = some 3 then match S with
            | .inl b :: .inl a :: r => if decide (r.length ≤ 8) && decide (cn ≤ mMc q) && decide (sn ≤ mMs q) then dBr d 2 b a w (fun w2 => x_run d tb tyl ot f dp k (pc + 3) L (.inl b :: r) h cn sn w2 post) (fun w2 => x_run d tb tyl ot f dp k (pc + 3) L (.inl a :: r) h cn sn w2 post) else [w]
            | _ => [w] else if tBi tb (mO q) ix = some 4 then match S with
            | .inl a :: r => if decide (r.length ≤ 8) && decide (cn ≤ mMc q) && decide (sn ≤ mMs q) then dBr d 3 a (dKc d 0) w (fun w2 => x_run d tb tyl ot f dp k (pc + 3) L (.inl a :: r) h cn sn w2 post) (fun w2 => x_run d tb tyl ot f dp k (pc + 3) L (.inl (dBin d 1 (dKc d 0) a) :: r) h cn sn w2 post) else [w]
            | _ => [w] else [w]
        | .invokevirtual ix => match dp, tCal tb (mO q) ix with
          | dp2 + 1, some (j, so) => match tMth tb j with
            | some q2 => match S.drop (mNp q2) with
              | .inr (some a) :: r => if decide (mNp q2 + 1 ≤ S.length) && decide (so = 0) && decide (x_rc ot h a = some (mRc q2)) && decide (r.length ≤ 8) && decide (mNp q2 + 1 ≤ mL q2) && decide (cn + mMc q2 ≤ mMc q) && decide (sn + mMs q2 ≤ mMs q) then
                    x_run d tb tyl ot f dp2 j 0 (x_en 0 (.inr (some a) :: (S.take (mNp q2)).reverse)) [] h 0 0 w (fun w2 v h2 => x_run d tb tyl ot f dp k (pc + 3) L (x_push v r) h2 (cn + mMc q2) (sn + mMs q2) w2 post) else [w]
              | _ => [w]
            | none => [w]
          | _, _ => [w]
        | .invokespecial ix => match tBi tb (mO q) ix with
          | some 0 => match S with
            | .inr (some _) :: r => if decide (r.length ≤ 8) then x_run d tb tyl ot f dp k (pc + 3) L r h cn sn w post else [w]
            | _ => [w]
          | _ => match dp, tCal tb (mO q) ix with
            | dp2 + 1, some (j, so) => match tMth tb j with
              | some q2 => match S.drop (mNp q2) with
                | .inr (some a) :: r => if decide (mNp q2 + 1 ≤ S.length) && decide (so = 1) && decide (r.length ≤ 8) && decide (mNp q2 + 1 ≤ mL q2) && decide (cn + mMc q2 ≤ mMc q) && decide (sn + mMs q2 ≤ mMs q) then
                    x_run d tb tyl ot f dp2 j 0 (x_en 0 (.inr (some a) :: (S.take (mNp q2)).reverse)) [] h 0 0 w (fun w2 v h2 => x_run d tb tyl ot f dp k (pc + 3) L (x_push v r) h2 (cn + mMc q2) (sn + mMs q2) w2 post) else [w]
                | _ => [w]
              | none => [w]
            | _, _ => [w]
        | .ireturn => match S with
          | [.inl e] => if x_retOk d (mR q) (.inl e) && decide (cn ≤ mMc q) && decide (sn ≤ mMs q) then post w (some (.inl e)) h else [w]
          | _ => [w]
        | .areturn => match S with
          | [.inr a] => if x_retOk d (mR q) (.inr a) && decide (cn ≤ mMc q) && decide (sn ≤ mMs q) then post w (some (.inr a)) h else [w]
          | _ => [w]
        | .return_ => match S with
          | [] => if decide (mR q = none) && decide (cn ≤ mMc q) && decide (sn ≤ mMs q) then post w none h else [w]
          | _ => [w]
        | _ => [w]
end XDefs
end
section
/-! The evaluator at ints that are known: what it comes to, a row an instruction. -/
section XTo
def dC : XD Int32 Unit := (fun x => x, fun x => x, x_bin, x_un, fun x => some x, fun _ => True, fun o a b w kt kf => if x_cmp o a b = true then kt w else kf w)
theorem dC_ok : x_DmOk dC := ⟨fun _ => rfl, fun _ _ _ => rfl, fun _ _ => rfl, fun _ _ h => Option.some.inj h, fun o a b w kt kf h hw => ⟨w, hw, by
  have h : XOk (dHd dC) (if x_cmp o a b = true then kt w else kf w) := h
  by_cases c : x_cmp o a b = true
  · rw [if_pos c] at h
    exact Or.inl ⟨c, h⟩
  · rw [if_neg c] at h
    exact Or.inr ⟨Bool.eq_false_iff.mpr c, h⟩⟩⟩
/-- from this place on the evaluator comes to that answer and that heap, with all fuel from some on -/
def x_To (tb : XT) (tyl : List FieldType) (ot : XO Int32) (dp k pc : Nat) (L : List (Nat × XV Int32)) (S : List (XV Int32)) (H : List (XC Int32)) (cn sn : Nat) (v : Option (XV Int32)) (H2 : List (XC Int32)) : Prop :=
  ∃ f1 : Nat, ∀ f, f1 ≤ f → ∀ (w : List Unit) (post : List Unit → Option (XV Int32) → List (XC Int32) → XR Unit), XOk (dHd dC) (post w v H2) → XOk (dHd dC) (x_run dC tb tyl ot f dp k pc L S H cn sn w post)
variable {tb : XT} {tyl : List FieldType} {ot : XO Int32} {dp k pc n cn sn : Nat} {q : XM} {L : List (Nat × XV Int32)} {S : List (XV Int32)} {H H2 : List (XC Int32)} {v : Option (XV Int32)}
theorem x_to1 {cur nxt : Nat → List Unit → (List Unit → Option (XV Int32) → List (XC Int32) → XR Unit) → XR Unit} (e : ∀ f w post, cur (f + 1) w post = nxt f w post)
    (h : ∃ f1 : Nat, ∀ f, f1 ≤ f → ∀ w post, XOk (dHd dC) (post w v H2) → XOk (dHd dC) (nxt f w post)) : ∃ f1 : Nat, ∀ f, f1 ≤ f → ∀ w post, XOk (dHd dC) (post w v H2) → XOk (dHd dC) (cur f w post) := by
  obtain ⟨f1, h⟩ := h
  refine ⟨f1 + 1, fun f hf w post hp => ?_⟩
  obtain ⟨g, rfl⟩ : ∃ g, f = g + 1 := ⟨f - 1, by omega⟩
  rw [e]
  exact h g (by omega) w post hp
theorem dC_br (x : Nat) (a b : Int32) (w : List Unit) (kt kf : List Unit → XR Unit) : dBr dC x a b w kt kf = if x_cmp x a b = true then kt w else kf w := rfl
theorem dC_kst (a : Int32) : dKst dC a = some a := rfl
theorem x_ix_dC {e : Int32} {m : Nat} {w : List Unit} {kk : Nat → List Unit → XR Unit} (h : (decide (e < 0) || decide (m ≤ e.toNatClampNeg)) = false) : x_ix dC e m w kk = kk e.toNatClampNeg w := by
  simp only [x_ix, dC_kst, h, Bool.false_eq_true, if_false]
def x_swk (ps : List (Int × Int)) : Bool := ps.all (fun q => decide ((Int32.ofInt q.1).toInt = q.1))
def x_swo (a : Int32) (df : Int) : List (Int × Int) → Int
  | [] => df
  | q :: r => if a = Int32.ofInt q.1 then q.2 else x_swo a df r
theorem x_sw_dC {a : Int32} {df : Int} {kk : Int → List Unit → XR Unit} {w : List Unit} : ∀ {ps : List (Int × Int)}, x_swk ps = true → x_sw dC a df kk ps w = kk (x_swo a df ps) w
  | [], _ => rfl
  | q :: r, h => by
    have h1 : decide ((Int32.ofInt q.1).toInt = q.1) = true ∧ x_swk r = true := by
      simpa only [x_swk, List.all_cons, Bool.and_eq_true] using h
    have h2 := of_decide_eq_true h1.1
    have ih := x_sw_dC (kk := kk) (w := w) (a := a) (df := df) h1.2
    show (if (Int32.ofInt q.1).toInt = q.1 then (if x_cmp 0 a (Int32.ofInt q.1) = true then kk q.2 w else x_sw dC a df kk r w) else [w]) = kk (if a = Int32.ofInt q.1 then q.2 else x_swo a df r) w
    rw [if_pos h2]
    by_cases c : a = Int32.ofInt q.1
    · rw [if_pos c, if_pos (show x_cmp 0 a (Int32.ofInt q.1) = true from decide_eq_true c)]
    · rw [if_neg c, if_neg (show ¬ x_cmp 0 a (Int32.ofInt q.1) = true from fun h => c (of_decide_eq_true h)), ih]
theorem x_n21 : ((some 2 : Option Nat) = some 1) = False := eq_false (by decide)
theorem x_n31 : ((some 3 : Option Nat) = some 1) = False := eq_false (by decide)
theorem x_n32 : ((some 3 : Option Nat) = some 2) = False := eq_false (by decide)
theorem xT_iconst {x : Int} (hq : tMth tb k = some q) (hi : mC q pc = some (.iconst x, n))  (h : x_To tb tyl ot dp k (pc + 1) L (.inl (dKc dC (Int32.ofInt x)) :: S) H cn sn v H2) : x_To tb tyl ot dp k pc L S H cn sn v H2 := x_to1 (fun f w post => by
  simp only [x_run, hq, hi]) h
theorem xT_bipush {x : _} (hq : tMth tb k = some q) (hi : mC q pc = some (.bipush x, n))  (h : x_To tb tyl ot dp k (pc + 2) L (.inl (dKc dC (Int8.ofInt x).toInt32) :: S) H cn sn v H2) : x_To tb tyl ot dp k pc L S H cn sn v H2 := x_to1 (fun f w post => by
  simp only [x_run, hq, hi]) h
theorem xT_sipush {x : _} (hq : tMth tb k = some q) (hi : mC q pc = some (.sipush x, n))  (h : x_To tb tyl ot dp k (pc + 3) L (.inl (dKc dC (Int16.ofInt x).toInt32) :: S) H cn sn v H2) : x_To tb tyl ot dp k pc L S H cn sn v H2 := x_to1 (fun f w post => by
  simp only [x_run, hq, hi]) h
theorem xT_ldc {ix : _} {x : Int32} (hq : tMth tb k = some q) (hi : mC q pc = some (.ldc ix, n)) (h1 : tLi tb (mO q) ix = some x) (h : x_To tb tyl ot dp k (pc + 2) L (.inl (dKc dC x) :: S) H cn sn v H2) : x_To tb tyl ot dp k pc L S H cn sn v H2 := x_to1 (fun f w post => by
  simp only [x_run, hq, hi, h1]) h
theorem xT_ldcT {ix : _} {a : Nat} (hq : tMth tb k = some q) (hi : mC q pc = some (.ldc ix, n)) (h1 : tLi tb (mO q) ix = none) (h2 : oSl ot (mO q) ix = some a) (h : x_To tb tyl ot dp k (pc + 2) L (.inr (some a) :: S) H cn sn v H2) : x_To tb tyl ot dp k pc L S H cn sn v H2 := x_to1 (fun f w post => by
  simp only [x_run, hq, hi, h1, h2]) h
theorem xT_ldc_w {ix : _} {x : Int32} (hq : tMth tb k = some q) (hi : mC q pc = some (.ldc_w ix, n)) (h1 : tLi tb (mO q) ix = some x) (h : x_To tb tyl ot dp k (pc + 3) L (.inl (dKc dC x) :: S) H cn sn v H2) : x_To tb tyl ot dp k pc L S H cn sn v H2 := x_to1 (fun f w post => by
  simp only [x_run, hq, hi, h1]) h
theorem xT_aconst_null  (hq : tMth tb k = some q) (hi : mC q pc = some (.aconst_null, n))  (h : x_To tb tyl ot dp k (pc + 1) L (.inr none :: S) H cn sn v H2) : x_To tb tyl ot dp k pc L S H cn sn v H2 := x_to1 (fun f w post => by
  simp only [x_run, hq, hi]) h
theorem xT_iload_n {j : _} {a : Int32} (hq : tMth tb k = some q) (hi : mC q pc = some (.iload_n j, n)) (h1 : x_lk L j = some (.inl a)) (h : x_To tb tyl ot dp k (pc + 1) L (.inl a :: S) H cn sn v H2) : x_To tb tyl ot dp k pc L S H cn sn v H2 := x_to1 (fun f w post => by
  simp only [x_run, hq, hi, h1]) h
theorem xT_iload {j : _} {a : Int32} (hq : tMth tb k = some q) (hi : mC q pc = some (.iload j, n)) (h1 : x_lk L j = some (.inl a)) (h : x_To tb tyl ot dp k (pc + 2) L (.inl a :: S) H cn sn v H2) : x_To tb tyl ot dp k pc L S H cn sn v H2 := x_to1 (fun f w post => by
  simp only [x_run, hq, hi, h1]) h
theorem xT_aload_n {j : _} {a : Option Nat} (hq : tMth tb k = some q) (hi : mC q pc = some (.aload_n j, n)) (h1 : x_lk L j = some (.inr a)) (h : x_To tb tyl ot dp k (pc + 1) L (.inr a :: S) H cn sn v H2) : x_To tb tyl ot dp k pc L S H cn sn v H2 := x_to1 (fun f w post => by
  simp only [x_run, hq, hi, h1]) h
theorem xT_aload {j : _} {a : Option Nat} (hq : tMth tb k = some q) (hi : mC q pc = some (.aload j, n)) (h1 : x_lk L j = some (.inr a)) (h : x_To tb tyl ot dp k (pc + 2) L (.inr a :: S) H cn sn v H2) : x_To tb tyl ot dp k pc L S H cn sn v H2 := x_to1 (fun f w post => by
  simp only [x_run, hq, hi, h1]) h
theorem xT_istore_n {j : _} {a : Int32} (hq : tMth tb k = some q) (hi : mC q pc = some (.istore_n j, n)) (h1 : (j : Nat) < mL q) (h : x_To tb tyl ot dp k (pc + 1) (x_st L j (.inl a)) S H cn sn v H2) : x_To tb tyl ot dp k pc L (.inl a :: S) H cn sn v H2 := x_to1 (fun f w post => by
  simp only [x_run, hq, hi, if_pos h1]) h
theorem xT_istore {j : _} {a : Int32} (hq : tMth tb k = some q) (hi : mC q pc = some (.istore j, n)) (h1 : (j : Nat) < mL q) (h : x_To tb tyl ot dp k (pc + 2) (x_st L j (.inl a)) S H cn sn v H2) : x_To tb tyl ot dp k pc L (.inl a :: S) H cn sn v H2 := x_to1 (fun f w post => by
  simp only [x_run, hq, hi, if_pos h1]) h
theorem xT_astore_n {j : _} {a : Option Nat} (hq : tMth tb k = some q) (hi : mC q pc = some (.astore_n j, n)) (h1 : (j : Nat) < mL q) (h : x_To tb tyl ot dp k (pc + 1) (x_st L j (.inr a)) S H cn sn v H2) : x_To tb tyl ot dp k pc L (.inr a :: S) H cn sn v H2 := x_to1 (fun f w post => by
  simp only [x_run, hq, hi, if_pos h1]) h
theorem xT_astore {j : _} {a : Option Nat} (hq : tMth tb k = some q) (hi : mC q pc = some (.astore j, n)) (h1 : (j : Nat) < mL q) (h : x_To tb tyl ot dp k (pc + 2) (x_st L j (.inr a)) S H cn sn v H2) : x_To tb tyl ot dp k pc L (.inr a :: S) H cn sn v H2 := x_to1 (fun f w post => by
  simp only [x_run, hq, hi, if_pos h1]) h
theorem xT_iinc {j : _} {x : _} {a : Int32} (hq : tMth tb k = some q) (hi : mC q pc = some (.iinc j x, n)) (h1 : x_lk L j = some (.inl a)) (h2 : j < mL q) (h : x_To tb tyl ot dp k (pc + 3) (x_st L j (.inl (dBin dC 0 a (dKc dC (Int32.ofInt x))))) S H cn sn v H2) : x_To tb tyl ot dp k pc L S H cn sn v H2 := x_to1 (fun f w post => by
  simp only [x_run, hq, hi, h1, if_pos h2]) h
theorem xT_dup {a : XV Int32} (hq : tMth tb k = some q) (hi : mC q pc = some (.dup, n))  (h : x_To tb tyl ot dp k (pc + 1) L (a :: a :: S) H cn sn v H2) : x_To tb tyl ot dp k pc L (a :: S) H cn sn v H2 := x_to1 (fun f w post => by
  simp only [x_run, hq, hi]) h
theorem xT_dup_x1 {a b : XV Int32} (hq : tMth tb k = some q) (hi : mC q pc = some (.dup_x1, n))  (h : x_To tb tyl ot dp k (pc + 1) L (a :: b :: a :: S) H cn sn v H2) : x_To tb tyl ot dp k pc L (a :: b :: S) H cn sn v H2 := x_to1 (fun f w post => by
  simp only [x_run, hq, hi]) h
theorem xT_dup2 {a b : XV Int32} (hq : tMth tb k = some q) (hi : mC q pc = some (.dup2, n))  (h : x_To tb tyl ot dp k (pc + 1) L (a :: b :: a :: b :: S) H cn sn v H2) : x_To tb tyl ot dp k pc L (a :: b :: S) H cn sn v H2 := x_to1 (fun f w post => by
  simp only [x_run, hq, hi]) h
theorem xT_pop {a : XV Int32} (hq : tMth tb k = some q) (hi : mC q pc = some (.pop, n))  (h : x_To tb tyl ot dp k (pc + 1) L S H cn sn v H2) : x_To tb tyl ot dp k pc L (a :: S) H cn sn v H2 := x_to1 (fun f w post => by
  simp only [x_run, hq, hi]) h
theorem xT_iadd {a b : Int32} (hq : tMth tb k = some q) (hi : mC q pc = some (.iadd, n))  (h : x_To tb tyl ot dp k (pc + 1) L (.inl (dBin dC 0 a b) :: S) H cn sn v H2) : x_To tb tyl ot dp k pc L (.inl b :: .inl a :: S) H cn sn v H2 := x_to1 (fun f w post => by
  simp only [x_run, hq, hi]) h
theorem xT_isub {a b : Int32} (hq : tMth tb k = some q) (hi : mC q pc = some (.isub, n))  (h : x_To tb tyl ot dp k (pc + 1) L (.inl (dBin dC 1 a b) :: S) H cn sn v H2) : x_To tb tyl ot dp k pc L (.inl b :: .inl a :: S) H cn sn v H2 := x_to1 (fun f w post => by
  simp only [x_run, hq, hi]) h
theorem xT_imul {a b : Int32} (hq : tMth tb k = some q) (hi : mC q pc = some (.imul, n))  (h : x_To tb tyl ot dp k (pc + 1) L (.inl (dBin dC 2 a b) :: S) H cn sn v H2) : x_To tb tyl ot dp k pc L (.inl b :: .inl a :: S) H cn sn v H2 := x_to1 (fun f w post => by
  simp only [x_run, hq, hi]) h
theorem xT_iand {a b : Int32} (hq : tMth tb k = some q) (hi : mC q pc = some (.iand, n))  (h : x_To tb tyl ot dp k (pc + 1) L (.inl (dBin dC 3 a b) :: S) H cn sn v H2) : x_To tb tyl ot dp k pc L (.inl b :: .inl a :: S) H cn sn v H2 := x_to1 (fun f w post => by
  simp only [x_run, hq, hi]) h
theorem xT_ior {a b : Int32} (hq : tMth tb k = some q) (hi : mC q pc = some (.ior, n))  (h : x_To tb tyl ot dp k (pc + 1) L (.inl (dBin dC 4 a b) :: S) H cn sn v H2) : x_To tb tyl ot dp k pc L (.inl b :: .inl a :: S) H cn sn v H2 := x_to1 (fun f w post => by
  simp only [x_run, hq, hi]) h
theorem xT_ixor {a b : Int32} (hq : tMth tb k = some q) (hi : mC q pc = some (.ixor, n))  (h : x_To tb tyl ot dp k (pc + 1) L (.inl (dBin dC 5 a b) :: S) H cn sn v H2) : x_To tb tyl ot dp k pc L (.inl b :: .inl a :: S) H cn sn v H2 := x_to1 (fun f w post => by
  simp only [x_run, hq, hi]) h
theorem xT_ishl {a b : Int32} (hq : tMth tb k = some q) (hi : mC q pc = some (.ishl, n))  (h : x_To tb tyl ot dp k (pc + 1) L (.inl (dBin dC 6 a b) :: S) H cn sn v H2) : x_To tb tyl ot dp k pc L (.inl b :: .inl a :: S) H cn sn v H2 := x_to1 (fun f w post => by
  simp only [x_run, hq, hi]) h
theorem xT_ishr {a b : Int32} (hq : tMth tb k = some q) (hi : mC q pc = some (.ishr, n))  (h : x_To tb tyl ot dp k (pc + 1) L (.inl (dBin dC 7 a b) :: S) H cn sn v H2) : x_To tb tyl ot dp k pc L (.inl b :: .inl a :: S) H cn sn v H2 := x_to1 (fun f w post => by
  simp only [x_run, hq, hi]) h
theorem xT_iushr {a b : Int32} (hq : tMth tb k = some q) (hi : mC q pc = some (.iushr, n))  (h : x_To tb tyl ot dp k (pc + 1) L (.inl (dBin dC 10 a b) :: S) H cn sn v H2) : x_To tb tyl ot dp k pc L (.inl b :: .inl a :: S) H cn sn v H2 := x_to1 (fun f w post => by
  simp only [x_run, hq, hi]) h
theorem xT_idiv {a b : Int32} (hq : tMth tb k = some q) (hi : mC q pc = some (.idiv, n)) (h1 : x_cmp 0 b (dKc dC 0) = false) (h : x_To tb tyl ot dp k (pc + 1) L (.inl (dBin dC 8 a b) :: S) H cn sn v H2) : x_To tb tyl ot dp k pc L (.inl b :: .inl a :: S) H cn sn v H2 := x_to1 (fun f w post => by
  simp only [x_run, hq, hi, dC_br, h1, Bool.false_eq_true, if_false, if_true]) h
theorem xT_irem {a b : Int32} (hq : tMth tb k = some q) (hi : mC q pc = some (.irem, n)) (h1 : x_cmp 0 b (dKc dC 0) = false) (h : x_To tb tyl ot dp k (pc + 1) L (.inl (dBin dC 9 a b) :: S) H cn sn v H2) : x_To tb tyl ot dp k pc L (.inl b :: .inl a :: S) H cn sn v H2 := x_to1 (fun f w post => by
  simp only [x_run, hq, hi, dC_br, h1, Bool.false_eq_true, if_false, if_true]) h
theorem xT_i2b {a : Int32} (hq : tMth tb k = some q) (hi : mC q pc = some (.i2b, n))  (h : x_To tb tyl ot dp k (pc + 1) L (.inl (dUn dC 0 a) :: S) H cn sn v H2) : x_To tb tyl ot dp k pc L (.inl a :: S) H cn sn v H2 := x_to1 (fun f w post => by
  simp only [x_run, hq, hi]) h
theorem xT_i2s {a : Int32} (hq : tMth tb k = some q) (hi : mC q pc = some (.i2s, n))  (h : x_To tb tyl ot dp k (pc + 1) L (.inl (dUn dC 1 a) :: S) H cn sn v H2) : x_To tb tyl ot dp k pc L (.inl a :: S) H cn sn v H2 := x_to1 (fun f w post => by
  simp only [x_run, hq, hi]) h
theorem xT_i2c {a : Int32} (hq : tMth tb k = some q) (hi : mC q pc = some (.i2c, n))  (h : x_To tb tyl ot dp k (pc + 1) L (.inl (dUn dC 2 a) :: S) H cn sn v H2) : x_To tb tyl ot dp k pc L (.inl a :: S) H cn sn v H2 := x_to1 (fun f w post => by
  simp only [x_run, hq, hi]) h
theorem xT_ineg {a : Int32} (hq : tMth tb k = some q) (hi : mC q pc = some (.ineg, n))  (h : x_To tb tyl ot dp k (pc + 1) L (.inl (dUn dC 3 a) :: S) H cn sn v H2) : x_To tb tyl ot dp k pc L (.inl a :: S) H cn sn v H2 := x_to1 (fun f w post => by
  simp only [x_run, hq, hi]) h
theorem xT_goto {x : _} {t : Nat} (hq : tMth tb k = some q) (hi : mC q pc = some (.goto x, n)) (h1 : x_jp pc x = some t) (h : x_To tb tyl ot dp k t L S H cn sn v H2) : x_To tb tyl ot dp k pc L S H cn sn v H2 := x_to1 (fun f w post => by
  simp only [x_run, hq, hi, h1]) h
theorem xT_ifCondY {c : _} {x : _} {t : Nat} {a : Int32} (hq : tMth tb k = some q) (hi : mC q pc = some (.ifCond c x, n)) (h0 : x_jp pc x = some t) (h1 : x_cmp (x_cn c) a (dKc dC 0) = true) (h : x_To tb tyl ot dp k t L S H cn sn v H2) : x_To tb tyl ot dp k pc L (.inl a :: S) H cn sn v H2 := x_to1 (fun f w post => by
  simp only [x_run, hq, hi, h0, dC_br, h1, Bool.false_eq_true, if_false, if_true]) h
theorem xT_if_icmpY {c : _} {x : _} {t : Nat} {a b : Int32} (hq : tMth tb k = some q) (hi : mC q pc = some (.if_icmp c x, n)) (h0 : x_jp pc x = some t) (h1 : x_cmp (x_cn c) a b = true) (h : x_To tb tyl ot dp k t L S H cn sn v H2) : x_To tb tyl ot dp k pc L (.inl b :: .inl a :: S) H cn sn v H2 := x_to1 (fun f w post => by
  simp only [x_run, hq, hi, h0, dC_br, h1, Bool.false_eq_true, if_false, if_true]) h
theorem xT_ifCondN {c : _} {x : _} {t : Nat} {a : Int32} (hq : tMth tb k = some q) (hi : mC q pc = some (.ifCond c x, n)) (h0 : x_jp pc x = some t) (h1 : x_cmp (x_cn c) a (dKc dC 0) = false) (h : x_To tb tyl ot dp k (pc + 3) L S H cn sn v H2) : x_To tb tyl ot dp k pc L (.inl a :: S) H cn sn v H2 := x_to1 (fun f w post => by
  simp only [x_run, hq, hi, h0, dC_br, h1, Bool.false_eq_true, if_false, if_true]) h
theorem xT_if_icmpN {c : _} {x : _} {t : Nat} {a b : Int32} (hq : tMth tb k = some q) (hi : mC q pc = some (.if_icmp c x, n)) (h0 : x_jp pc x = some t) (h1 : x_cmp (x_cn c) a b = false) (h : x_To tb tyl ot dp k (pc + 3) L S H cn sn v H2) : x_To tb tyl ot dp k pc L (.inl b :: .inl a :: S) H cn sn v H2 := x_to1 (fun f w post => by
  simp only [x_run, hq, hi, h0, dC_br, h1, Bool.false_eq_true, if_false, if_true]) h
theorem xT_ifnull0 {x : _} {t : Nat} (hq : tMth tb k = some q) (hi : mC q pc = some (.ifnull x, n)) (h0 : x_jp pc x = some t) (h : x_To tb tyl ot dp k t L S H cn sn v H2) : x_To tb tyl ot dp k pc L (.inr none :: S) H cn sn v H2 := x_to1 (fun f w post => by
  simp only [x_run, hq, hi, h0]) h
theorem xT_ifnull1 {x : _} {t a : Nat} (hq : tMth tb k = some q) (hi : mC q pc = some (.ifnull x, n)) (h0 : x_jp pc x = some t) (h : x_To tb tyl ot dp k (pc + 3) L S H cn sn v H2) : x_To tb tyl ot dp k pc L (.inr (some a) :: S) H cn sn v H2 := x_to1 (fun f w post => by
  simp only [x_run, hq, hi, h0]) h
theorem xT_ifnonnull0 {x : _} {t : Nat} (hq : tMth tb k = some q) (hi : mC q pc = some (.ifnonnull x, n)) (h0 : x_jp pc x = some t) (h : x_To tb tyl ot dp k (pc + 3) L S H cn sn v H2) : x_To tb tyl ot dp k pc L (.inr none :: S) H cn sn v H2 := x_to1 (fun f w post => by
  simp only [x_run, hq, hi, h0]) h
theorem xT_ifnonnull1 {x : _} {t a : Nat} (hq : tMth tb k = some q) (hi : mC q pc = some (.ifnonnull x, n)) (h0 : x_jp pc x = some t) (h : x_To tb tyl ot dp k t L S H cn sn v H2) : x_To tb tyl ot dp k pc L (.inr (some a) :: S) H cn sn v H2 := x_to1 (fun f w post => by
  simp only [x_run, hq, hi, h0]) h
theorem xT_tableswitch {df lo up : Int} {os : _} {t : Nat} {a : Int32} (hq : tMth tb k = some q) (hi : mC q pc = some (.tableswitch df lo up os, n)) (h0 : up + 1 = lo + os.size) (h1 : x_swk (x_tp lo os.toList) = true) (h2 : x_jp pc (x_swo a df (x_tp lo os.toList)) = some t) (h : x_To tb tyl ot dp k t L S H cn sn v H2) : x_To tb tyl ot dp k pc L (.inl a :: S) H cn sn v H2 := x_to1 (fun f w post => by
  simp only [x_run, hq, hi, if_pos h0, x_sw_dC h1, h2]) h
theorem xT_lookupswitch {df : Int} {ps : _} {t : Nat} {a : Int32} (hq : tMth tb k = some q) (hi : mC q pc = some (.lookupswitch df ps, n)) (h0 : (ps.toList.zip (ps.toList.drop 1)).all (fun (a, next) => a.1 < next.1) = true) (h1 : x_swk ps.toList = true) (h2 : x_jp pc (x_swo a df ps.toList) = some t) (h : x_To tb tyl ot dp k t L S H cn sn v H2) : x_To tb tyl ot dp k pc L (.inl a :: S) H cn sn v H2 := x_to1 (fun f w post => by
  simp only [x_run, hq, hi, if_pos h0, x_sw_dC h1, h2]) h
theorem xT_getfield {ix a ci j c2 : Nat} {fs : List (XV Int32)} {u : XV Int32} (hq : tMth tb k = some q) (hi : mC q pc = some (.getfield ix, n)) (h0 : ¬ 1000000 < a) (h1 : tFld tb (mO q) ix = some (ci, j)) (h2 : H[a]? = some (.inl (c2, fs))) (h3 : c2 = ci) (h4 : fs[j]? = some u) (h : x_To tb tyl ot dp k (pc + 3) L (u :: S) H cn sn v H2) : x_To tb tyl ot dp k pc L (.inr (some a) :: S) H cn sn v H2 := x_to1 (fun f w post => by
  simp only [x_run, hq, hi, if_neg h0, h1, h2, h3, h4, decide_true]) h
theorem xT_getfieldO {ix a : Nat} {u : _} (hq : tMth tb k = some q) (hi : mC q pc = some (.getfield ix, n)) (h0 : 1000000 < a) (h1 : oFl ot a (mO q) ix = some u) (h : x_To tb tyl ot dp k (pc + 3) L (x_ov dC u :: S) H cn sn v H2) : x_To tb tyl ot dp k pc L (.inr (some a) :: S) H cn sn v H2 := x_to1 (fun f w post => by
  simp only [x_run, hq, hi, if_pos h0, h1]) h
theorem xT_getstatic {ix : Nat} {u : _} (hq : tMth tb k = some q) (hi : mC q pc = some (.getstatic ix, n)) (h1 : oGs ot (mO q) ix = some u) (h : x_To tb tyl ot dp k (pc + 3) L (x_ov dC u :: S) H cn sn v H2) : x_To tb tyl ot dp k pc L S H cn sn v H2 := x_to1 (fun f w post => by
  simp only [x_run, hq, hi, h1]) h
theorem xT_arraylengthS  (hq : tMth tb k = some q) (hi : mC q pc = some (.arraylength, n))  (h : x_To tb tyl ot dp k (pc + 1) L (.inl (dKc dC (Int32.ofNat (oSn ot))) :: S) H cn sn v H2) : x_To tb tyl ot dp k pc L (.inr (some 1000000) :: S) H cn sn v H2 := x_to1 (fun f w post => by
  simp only [x_run, hq, hi, if_true]) h
theorem xT_arraylengthB {a : Nat} {bs : List Int32} (hq : tMth tb k = some q) (hi : mC q pc = some (.arraylength, n)) (h0 : ¬ a = 1000000) (h1 : oBy ot a = some bs) (h2 : 1000000 < a) (h : x_To tb tyl ot dp k (pc + 1) L (.inl (dKc dC (Int32.ofNat bs.length)) :: S) H cn sn v H2) : x_To tb tyl ot dp k pc L (.inr (some a) :: S) H cn sn v H2 := x_to1 (fun f w post => by
  simp only [x_run, hq, hi, if_neg h0, h1, if_pos h2]) h
theorem xT_putfield {ix a ci j c2 : Nat} {fs : List (XV Int32)} {u : XV Int32} {ty : FieldType × Bool} (hq : tMth tb k = some q) (hi : mC q pc = some (.putfield ix, n)) (h1 : tFld tb (mO q) ix = some (ci, j)) (h2 : H[a]? = some (.inl (c2, fs))) (h3 : (tFt tb ci)[j]? = some ty) (h4 : (decide (c2 = ci) && x_fit dC ty.1 u && decide (j < fs.length) && (!ty.2 || (mI q && decide (mRc q = ci)))) = true) (h : x_To tb tyl ot dp k (pc + 3) L S (H.set a (.inl (c2, fs.set j u))) cn sn v H2) : x_To tb tyl ot dp k pc L (u :: .inr (some a) :: S) H cn sn v H2 := x_to1 (fun f w post => by
  simp only [x_run, hq, hi, h1, h2, h3, h4, if_true]) h
theorem xT_ialoadS {e : Int32} (hq : tMth tb k = some q) (hi : mC q pc = some (.iaload, n)) (h2 : (decide (e < 0) || decide (oSn ot ≤ e.toNatClampNeg)) = false) (h : x_To tb tyl ot dp k (pc + 1) L (.inl (oSc ot e.toNatClampNeg) :: S) H cn sn v H2) : x_To tb tyl ot dp k pc L (.inl e :: .inr (some 1000000) :: S) H cn sn v H2 := x_to1 (fun f w post => by
  simp only [x_run, hq, hi, if_true, x_ix_dC h2]) h
theorem xT_iaload {e : Int32} {a : Nat} {vs : List (XV Int32)} {u : XV Int32} (hq : tMth tb k = some q) (hi : mC q pc = some (.iaload, n)) (h0 : ¬ a = 1000000) (h1 : H[a]? = some (.inr (0, vs))) (h2 : (decide (e < 0) || decide (vs.length ≤ e.toNatClampNeg)) = false) (h3 : vs[e.toNatClampNeg]? = some u) (h : x_To tb tyl ot dp k (pc + 1) L (u :: S) H cn sn v H2) : x_To tb tyl ot dp k pc L (.inl e :: .inr (some a) :: S) H cn sn v H2 := x_to1 (fun f w post => by
  simp only [x_run, hq, hi, if_neg h0, h1, x_ix_dC h2, h3]) h
theorem xT_baloadO {e : Int32} {a : Nat} {bs : List Int32} (hq : tMth tb k = some q) (hi : mC q pc = some (.baload, n)) (h0 : 1000000 < a) (h1 : oBy ot a = some bs) (h2 : (decide (e < 0) || decide (bs.length ≤ e.toNatClampNeg)) = false) (h : x_To tb tyl ot dp k (pc + 1) L (.inl (dKc dC (bs.getD e.toNatClampNeg 0)) :: S) H cn sn v H2) : x_To tb tyl ot dp k pc L (.inl e :: .inr (some a) :: S) H cn sn v H2 := x_to1 (fun f w post => by
  simp only [x_run, hq, hi, if_pos h0, h1, x_ix_dC h2]) h
theorem xT_baload {e : Int32} {a : Nat} {vs : List (XV Int32)} {u : XV Int32} (hq : tMth tb k = some q) (hi : mC q pc = some (.baload, n)) (h0 : ¬ 1000000 < a) (h1 : H[a]? = some (.inr (1, vs))) (h2 : (decide (e < 0) || decide (vs.length ≤ e.toNatClampNeg)) = false) (h3 : vs[e.toNatClampNeg]? = some u) (h : x_To tb tyl ot dp k (pc + 1) L (u :: S) H cn sn v H2) : x_To tb tyl ot dp k pc L (.inl e :: .inr (some a) :: S) H cn sn v H2 := x_to1 (fun f w post => by
  simp only [x_run, hq, hi, if_neg h0, h1, x_ix_dC h2, h3]) h
theorem xT_aaload {e : Int32} {a t : Nat} {vs : List (XV Int32)} {u : XV Int32} (hq : tMth tb k = some q) (hi : mC q pc = some (.aaload, n)) (h0 : (tyl[t]?.map x_isRef) = some true) (h1 : H[a]? = some (.inr (t, vs))) (h2 : (decide (e < 0) || decide (vs.length ≤ e.toNatClampNeg)) = false) (h3 : vs[e.toNatClampNeg]? = some u) (h : x_To tb tyl ot dp k (pc + 1) L (u :: S) H cn sn v H2) : x_To tb tyl ot dp k pc L (.inl e :: .inr (some a) :: S) H cn sn v H2 := x_to1 (fun f w post => by
  simp only [x_run, hq, hi, h1, if_pos h0, x_ix_dC h2, h3]) h
theorem xT_iastore {x e : Int32} {a : Nat} {vs : List (XV Int32)} (hq : tMth tb k = some q) (hi : mC q pc = some (.iastore, n)) (h1 : H[a]? = some (.inr (0, vs))) (h2 : (decide (e < 0) || decide (vs.length ≤ e.toNatClampNeg)) = false) (h : x_To tb tyl ot dp k (pc + 1) L S (H.set a (.inr (0, vs.set e.toNatClampNeg (.inl x)))) cn sn v H2) : x_To tb tyl ot dp k pc L (.inl x :: .inl e :: .inr (some a) :: S) H cn sn v H2 := x_to1 (fun f w post => by
  simp only [x_run, hq, hi, h1, x_ix_dC h2]) h
theorem xT_bastore {x e : Int32} {a : Nat} {vs : List (XV Int32)} (hq : tMth tb k = some q) (hi : mC q pc = some (.bastore, n)) (h0 : x_fit dC .boolean (.inl x) = true) (h1 : H[a]? = some (.inr (1, vs))) (h2 : (decide (e < 0) || decide (vs.length ≤ e.toNatClampNeg)) = false) (h : x_To tb tyl ot dp k (pc + 1) L S (H.set a (.inr (1, vs.set e.toNatClampNeg (.inl x)))) cn sn v H2) : x_To tb tyl ot dp k pc L (.inl x :: .inl e :: .inr (some a) :: S) H cn sn v H2 := x_to1 (fun f w post => by
  simp only [x_run, hq, hi, h1, if_pos h0, x_ix_dC h2]) h
theorem xT_aastore {e : Int32} {a u t ci : Nat} {gs vs : List (XV Int32)} {C : String} (hq : tMth tb k = some q) (hi : mC q pc = some (.aastore, n)) (h1 : H[a]? = some (.inr (t, vs))) (h2 : H[u]? = some (.inl (ci, gs))) (h3 : tyl[t]? = some (.object C)) (h4 : decide (C = tNm tb ci) = true) (h5 : (decide (e < 0) || decide (vs.length ≤ e.toNatClampNeg)) = false) (h : x_To tb tyl ot dp k (pc + 1) L S (H.set a (.inr (t, vs.set e.toNatClampNeg (.inr (some u))))) cn sn v H2) : x_To tb tyl ot dp k pc L (.inr (some u) :: .inl e :: .inr (some a) :: S) H cn sn v H2 := x_to1 (fun f w post => by
  simp only [x_run, hq, hi, h1, h2, h3, h4, if_true, x_ix_dC h5]) h
theorem xT_new {ix ci : Nat} (hq : tMth tb k = some q) (hi : mC q pc = some (.new ix, n)) (h1 : tNw tb (mO q) ix = some ci) (h2 : (decide (cn + 1 ≤ mMc q) && decide (sn + (tFt tb ci).length ≤ mMs q) && decide (H.length + 1 ≤ 1000000)) = true) (h : x_To tb tyl ot dp k (pc + 3) L (.inr (some H.length) :: S) (H ++ [.inl (ci, (tFt tb ci).map (fun t => x_def dC t.1))]) (cn + 1) (sn + (tFt tb ci).length) v H2) : x_To tb tyl ot dp k pc L S H cn sn v H2 := x_to1 (fun f w post => by
  simp only [x_run, hq, hi, h1, h2, if_true]) h
theorem xT_newarrayI {e : Int32} (hq : tMth tb k = some q) (hi : mC q pc = some (.newarray .int, n)) (h2 : (decide (¬ e < 0) && decide (e.toNatClampNeg ≤ 100000) && decide (cn + 1 ≤ mMc q) && decide (sn + e.toNatClampNeg ≤ mMs q) && decide (H.length + 1 ≤ 1000000)) = true) (h : x_To tb tyl ot dp k (pc + 2) L (.inr (some H.length) :: S) (H ++ [.inr (0, List.replicate e.toNatClampNeg (.inl (dKc dC 0)))]) (cn + 1) (sn + e.toNatClampNeg) v H2) : x_To tb tyl ot dp k pc L (.inl e :: S) H cn sn v H2 := x_to1 (fun f w post => by
  simp only [x_run, hq, hi, dC_kst, h2, if_true]) h
theorem xT_newarrayZ {e : Int32} (hq : tMth tb k = some q) (hi : mC q pc = some (.newarray .boolean, n)) (h2 : (decide (¬ e < 0) && decide (e.toNatClampNeg ≤ 100000) && decide (cn + 1 ≤ mMc q) && decide (sn + e.toNatClampNeg ≤ mMs q) && decide (H.length + 1 ≤ 1000000)) = true) (h : x_To tb tyl ot dp k (pc + 2) L (.inr (some H.length) :: S) (H ++ [.inr (1, List.replicate e.toNatClampNeg (.inl (dKc dC 0)))]) (cn + 1) (sn + e.toNatClampNeg) v H2) : x_To tb tyl ot dp k pc L (.inl e :: S) H cn sn v H2 := x_to1 (fun f w post => by
  simp only [x_run, hq, hi, dC_kst, h2, if_true]) h
theorem xT_multianewarray {ix : _} {dm : _} {t2 t1 : Nat} {e1 e2 : Int32} (hq : tMth tb k = some q) (hi : mC q pc = some (.multianewarray ix dm, n)) (h1 : tMn tb (mO q) ix = some (t2, t1)) (h2 : (decide (dm = 2) && decide (¬ e1 < 0) && decide (¬ e2 < 0) && decide (e1.toNatClampNeg ≤ 100000) && decide (e2.toNatClampNeg ≤ 100000) && decide (t1 < 2) && decide (cn + (1 + e1.toNatClampNeg) ≤ mMc q) && decide (sn + (e1.toNatClampNeg + e1.toNatClampNeg * e2.toNatClampNeg) ≤ mMs q) && decide (H.length + 1 + e1.toNatClampNeg ≤ 1000000)) = true) (h : x_To tb tyl ot dp k (pc + 4) L (.inr (some H.length) :: S) (H ++ .inr (t2, x_refs (H.length + 1) e1.toNatClampNeg) :: x_rows t1 (List.replicate e2.toNatClampNeg (.inl (dKc dC 0))) e1.toNatClampNeg) (cn + 1 + e1.toNatClampNeg) (sn + e1.toNatClampNeg + e1.toNatClampNeg * e2.toNatClampNeg) v H2) : x_To tb tyl ot dp k pc L (.inl e2 :: .inl e1 :: S) H cn sn v H2 := x_to1 (fun f w post => by
  simp only [x_run, hq, hi, h1, dC_kst, h2, if_true]) h
theorem xT_objectInit {ix : _} {a : Nat} (hq : tMth tb k = some q) (hi : mC q pc = some (.invokespecial ix, n)) (h1 : tBi tb (mO q) ix = some 0) (h2 : decide (S.length ≤ 8) = true) (h : x_To tb tyl ot dp k (pc + 3) L S H cn sn v H2) : x_To tb tyl ot dp k pc L (.inr (some a) :: S) H cn sn v H2 := x_to1 (fun f w post => by
  simp only [x_run, hq, hi, h1, h2, if_true]) h
theorem xT_arraycopy {ix : _} {n1 d1 s1 : Int32} {bd bs : Nat} {us vs : List (XV Int32)} (hq : tMth tb k = some q) (hi : mC q pc = some (.invokestatic ix, n)) (h0 : tCal tb (mO q) ix = none) (h1 : tBi tb (mO q) ix = some 1) (h2 : H[bs]? = some (.inr (0, us))) (h3 : H[bd]? = some (.inr (0, vs))) (h4 : (decide (¬ n1 < 0) && decide (¬ d1 < 0) && decide (¬ s1 < 0) && decide (s1.toNatClampNeg + n1.toNatClampNeg ≤ us.length) && decide (d1.toNatClampNeg + n1.toNatClampNeg ≤ vs.length) && decide (S.length ≤ 8) && us.all (fun u => u.isLeft)) = true) (h : x_To tb tyl ot dp k (pc + 3) L S (H.set bd (.inr (0, vs.take d1.toNatClampNeg ++ (us.drop s1.toNatClampNeg).take n1.toNatClampNeg ++ vs.drop (d1.toNatClampNeg + n1.toNatClampNeg)))) cn sn v H2) : x_To tb tyl ot dp k pc L (.inl n1 :: .inl d1 :: .inr (some bd) :: .inl s1 :: .inr (some bs) :: S) H cn sn v H2 := x_to1 (fun f w post => by
  simp only [x_run, hq, hi, h0, h1, h2, h3, dC_kst, h4, if_true]) h
theorem xT_maxY {ix : _} {a b : Int32} (hq : tMth tb k = some q) (hi : mC q pc = some (.invokestatic ix, n)) (h0 : tCal tb (mO q) ix = none) (h1 : tBi tb (mO q) ix = some 2) (h2 : (decide (S.length ≤ 8) && decide (cn ≤ mMc q) && decide (sn ≤ mMs q)) = true) (h3 : x_cmp 2 a b = true) (h : x_To tb tyl ot dp k (pc + 3) L (.inl b :: S) H cn sn v H2) : x_To tb tyl ot dp k pc L (.inl b :: .inl a :: S) H cn sn v H2 := x_to1 (fun f w post => by
  simp only [x_run, hq, hi, h0, h1, h2, if_true, dC_br, h3, Bool.false_eq_true, if_false, x_n21, x_n31, x_n32]) h
theorem xT_maxN {ix : _} {a b : Int32} (hq : tMth tb k = some q) (hi : mC q pc = some (.invokestatic ix, n)) (h0 : tCal tb (mO q) ix = none) (h1 : tBi tb (mO q) ix = some 2) (h2 : (decide (S.length ≤ 8) && decide (cn ≤ mMc q) && decide (sn ≤ mMs q)) = true) (h3 : x_cmp 2 a b = false) (h : x_To tb tyl ot dp k (pc + 3) L (.inl a :: S) H cn sn v H2) : x_To tb tyl ot dp k pc L (.inl b :: .inl a :: S) H cn sn v H2 := x_to1 (fun f w post => by
  simp only [x_run, hq, hi, h0, h1, h2, if_true, dC_br, h3, Bool.false_eq_true, if_false, x_n21, x_n31, x_n32]) h
theorem xT_minY {ix : _} {a b : Int32} (hq : tMth tb k = some q) (hi : mC q pc = some (.invokestatic ix, n)) (h0 : tCal tb (mO q) ix = none) (h1 : tBi tb (mO q) ix = some 3) (h2 : (decide (S.length ≤ 8) && decide (cn ≤ mMc q) && decide (sn ≤ mMs q)) = true) (h3 : x_cmp 2 b a = true) (h : x_To tb tyl ot dp k (pc + 3) L (.inl b :: S) H cn sn v H2) : x_To tb tyl ot dp k pc L (.inl b :: .inl a :: S) H cn sn v H2 := x_to1 (fun f w post => by
  simp only [x_run, hq, hi, h0, h1, h2, if_true, dC_br, h3, Bool.false_eq_true, if_false, x_n21, x_n31, x_n32]) h
theorem xT_minN {ix : _} {a b : Int32} (hq : tMth tb k = some q) (hi : mC q pc = some (.invokestatic ix, n)) (h0 : tCal tb (mO q) ix = none) (h1 : tBi tb (mO q) ix = some 3) (h2 : (decide (S.length ≤ 8) && decide (cn ≤ mMc q) && decide (sn ≤ mMs q)) = true) (h3 : x_cmp 2 b a = false) (h : x_To tb tyl ot dp k (pc + 3) L (.inl a :: S) H cn sn v H2) : x_To tb tyl ot dp k pc L (.inl b :: .inl a :: S) H cn sn v H2 := x_to1 (fun f w post => by
  simp only [x_run, hq, hi, h0, h1, h2, if_true, dC_br, h3, Bool.false_eq_true, if_false, x_n21, x_n31, x_n32]) h
theorem xT_invokestatic {ix j so : Nat} {q2 : XM} {r : List (XV Int32)} {u : Option (XV Int32)} {H1 : List (XC Int32)} (hq : tMth tb k = some q) (hi : mC q pc = some (.invokestatic ix, n)) (hc : tCal tb (mO q) ix = some (j, so)) (hm : tMth tb j = some q2) (h1 : (decide (mNp q2 ≤ S.length) && decide (2 ≤ so) && decide ((S.drop (mNp q2)).length ≤ 8) && decide (mNp q2 ≤ mL q2) && decide (cn + mMc q2 ≤ mMc q) && decide (sn + mMs q2 ≤ mMs q)) = true) (g1 : x_To tb tyl ot dp j 0 (x_en 0 (S.take (mNp q2)).reverse) [] H 0 0 u H1) (g2 : x_To tb tyl ot (dp + 1) k (pc + 3) L (x_push u (S.drop (mNp q2))) H1 (cn + mMc q2) (sn + mMs q2) v H2) : x_To tb tyl ot (dp + 1) k pc L S H cn sn v H2 := by
  obtain ⟨f1, g1⟩ := g1
  obtain ⟨f2, g2⟩ := g2
  refine ⟨f1 + f2 + 1, fun f hf w post hp => ?_⟩
  obtain ⟨g, rfl⟩ : ∃ g, f = g + 1 := ⟨f - 1, by omega⟩
  simp only [x_run, hq, hi, hc, hm, h1, if_true]
  exact g1 g (by omega) w _ (g2 g (by omega) w post hp)
theorem xT_invokevirtual {ix j so : Nat} {a : Nat} {q2 : XM} {r : List (XV Int32)} {u : Option (XV Int32)} {H1 : List (XC Int32)} (hq : tMth tb k = some q) (hi : mC q pc = some (.invokevirtual ix, n)) (hc : tCal tb (mO q) ix = some (j, so)) (hm : tMth tb j = some q2) (hd : S.drop (mNp q2) = .inr (some a) :: r) (h1 : (decide (mNp q2 + 1 ≤ S.length) && decide (so = 0) && decide (x_rc ot H a = some (mRc q2)) && decide (r.length ≤ 8) && decide (mNp q2 + 1 ≤ mL q2) && decide (cn + mMc q2 ≤ mMc q) && decide (sn + mMs q2 ≤ mMs q)) = true) (g1 : x_To tb tyl ot dp j 0 (x_en 0 (.inr (some a) :: (S.take (mNp q2)).reverse)) [] H 0 0 u H1) (g2 : x_To tb tyl ot (dp + 1) k (pc + 3) L (x_push u r) H1 (cn + mMc q2) (sn + mMs q2) v H2) : x_To tb tyl ot (dp + 1) k pc L S H cn sn v H2 := by
  obtain ⟨f1, g1⟩ := g1
  obtain ⟨f2, g2⟩ := g2
  refine ⟨f1 + f2 + 1, fun f hf w post hp => ?_⟩
  obtain ⟨g, rfl⟩ : ∃ g, f = g + 1 := ⟨f - 1, by omega⟩
  simp only [x_run, hq, hi, hc, hm, hd, h1, if_true]
  exact g1 g (by omega) w _ (g2 g (by omega) w post hp)
theorem xT_invokespecial {ix j so : Nat} {a : Nat} {q2 : XM} {r : List (XV Int32)} {u : Option (XV Int32)} {H1 : List (XC Int32)} (hq : tMth tb k = some q) (hi : mC q pc = some (.invokespecial ix, n)) (hb : tBi tb (mO q) ix = none) (hc : tCal tb (mO q) ix = some (j, so)) (hm : tMth tb j = some q2) (hd : S.drop (mNp q2) = .inr (some a) :: r) (h1 : (decide (mNp q2 + 1 ≤ S.length) && decide (so = 1) && decide (r.length ≤ 8) && decide (mNp q2 + 1 ≤ mL q2) && decide (cn + mMc q2 ≤ mMc q) && decide (sn + mMs q2 ≤ mMs q)) = true) (g1 : x_To tb tyl ot dp j 0 (x_en 0 (.inr (some a) :: (S.take (mNp q2)).reverse)) [] H 0 0 u H1) (g2 : x_To tb tyl ot (dp + 1) k (pc + 3) L (x_push u r) H1 (cn + mMc q2) (sn + mMs q2) v H2) : x_To tb tyl ot (dp + 1) k pc L S H cn sn v H2 := by
  obtain ⟨f1, g1⟩ := g1
  obtain ⟨f2, g2⟩ := g2
  refine ⟨f1 + f2 + 1, fun f hf w post hp => ?_⟩
  obtain ⟨g, rfl⟩ : ∃ g, f = g + 1 := ⟨f - 1, by omega⟩
  simp only [x_run, hq, hi, hb, hc, hm, hd, h1, if_true]
  exact g1 g (by omega) w _ (g2 g (by omega) w post hp)
theorem xT_ireturn {e : Int32} (hq : tMth tb k = some q) (hi : mC q pc = some (.ireturn, n)) (h1 : (x_retOk dC (mR q) (.inl e) && decide (cn ≤ mMc q) && decide (sn ≤ mMs q)) = true) : x_To tb tyl ot dp k pc L [.inl e] H cn sn (some (.inl e)) H := by
  refine ⟨1, fun f hf w post hp => ?_⟩
  obtain ⟨g, rfl⟩ : ∃ g, f = g + 1 := ⟨f - 1, by omega⟩
  simp only [x_run, hq, hi, h1, if_true]
  exact hp
theorem xT_areturn {e : Option Nat} (hq : tMth tb k = some q) (hi : mC q pc = some (.areturn, n)) (h1 : (x_retOk dC (mR q) (.inr e) && decide (cn ≤ mMc q) && decide (sn ≤ mMs q)) = true) : x_To tb tyl ot dp k pc L [.inr e] H cn sn (some (.inr e)) H := by
  refine ⟨1, fun f hf w post hp => ?_⟩
  obtain ⟨g, rfl⟩ : ∃ g, f = g + 1 := ⟨f - 1, by omega⟩
  simp only [x_run, hq, hi, h1, if_true]
  exact hp
theorem xT_return_ (hq : tMth tb k = some q) (hi : mC q pc = some (.return_, n)) (h1 : (decide (mR q = none) && decide (cn ≤ mMc q) && decide (sn ≤ mMs q)) = true) : x_To tb tyl ot dp k pc L [] H cn sn none H := by
  refine ⟨1, fun f hf w post hp => ?_⟩
  obtain ⟨g, rfl⟩ : ∃ g, f = g + 1 := ⟨f - 1, by omega⟩
  simp only [x_run, hq, hi, h1, if_true]
  exact hp
end XTo
end
section
/-! Bounds of ints: of sums, products, rests. -/
section XIv
abbrev vIn (p : Int × Int) (x : Int32) : Prop := p.1 ≤ x.toInt ∧ x.toInt ≤ p.2
def vTop : Int × Int := (-2147483648, 2147483647)
def vCl (lo hi : Int) : Int × Int := if -2147483648 ≤ lo ∧ hi ≤ 2147483647 then (lo, hi) else vTop
def vMeet (p q : Int × Int) : Int × Int := (if p.1 ≤ q.1 then q.1 else p.1, if p.2 ≤ q.2 then p.2 else q.2)
theorem vTop_spec (x : Int32) : vIn vTop x := by
  have h1 := Int32.le_toInt x
  have h2 := Int32.toInt_lt x
  constructor
  · show (-2147483648 : Int) ≤ x.toInt
    omega
  · show x.toInt ≤ (2147483647 : Int)
    omega
theorem vMeet_spec {p q : Int × Int} {x : Int32} (h1 : vIn p x) (h2 : vIn q x) : vIn (vMeet p q) x := by
  unfold vMeet
  constructor
  · show (if p.1 ≤ q.1 then q.1 else p.1) ≤ x.toInt
    split
    · exact h2.1
    · exact h1.1
  · show x.toInt ≤ (if p.2 ≤ q.2 then p.2 else q.2)
    split
    · exact h1.2
    · exact h2.2
theorem vBm {n : Int} (h1 : -2147483648 ≤ n) (h2 : n ≤ 2147483647) : n.bmod (2 ^ 32) = n := Int.bmod_eq_of_le (by simp; omega) (by simp; omega)
theorem vCl_spec {lo hi n : Int} {x : Int32} (h1 : lo ≤ n) (h2 : n ≤ hi) (hx : x.toInt = n.bmod (2 ^ 32)) : vIn (vCl lo hi) x := by
  unfold vCl
  split
  · rename_i h
    rw [vBm (by omega) (by omega)] at hx
    exact ⟨by rw [hx]; exact h1, by rw [hx]; exact h2⟩
  · exact vTop_spec x
theorem vAnd {x y : Int32} (h : 0 ≤ y.toInt) : 0 ≤ (x &&& y).toInt ∧ (x &&& y).toInt ≤ y.toInt := by
  have e1 : (x &&& y).toInt = (x.toBitVec &&& y.toBitVec).toInt := rfl
  have e2 : y.toInt = y.toBitVec.toInt := rfl
  have m1 : y.toBitVec.msb = false := by
    rw [BitVec.msb_eq_toInt]
    exact decide_eq_false (by rw [← e2]; omega)
  have m2 : (x.toBitVec &&& y.toBitVec).msb = false := by
    rw [BitVec.msb_and, m1, Bool.and_false]
  rw [e1, e2, BitVec.toInt_eq_toNat_of_msb m1, BitVec.toInt_eq_toNat_of_msb m2, BitVec.toNat_and]
  have := @Nat.and_le_right x.toBitVec.toNat y.toBitVec.toNat
  omega
theorem vAnd2 {x y : Int32} (h : 0 ≤ x.toInt) : 0 ≤ (x &&& y).toInt ∧ (x &&& y).toInt ≤ x.toInt := by
  have e : x &&& y = y &&& x := Int32.and_comm x y
  rw [e]
  exact vAnd h
theorem vRem {x y : Int32} (h : 0 < y.toInt) : (x - x / y * y).toInt = x.toInt.tmod y.toInt := by
  have hy : y ≠ -1 := fun e => by
    rw [e] at h
    revert h
    decide
  have h1 := Int.tmod_lt_of_pos x.toInt h
  have h2 := Int.lt_tmod_of_pos x.toInt h
  have h3 := Int32.toInt_lt y
  rw [Int32.toInt_sub, Int32.toInt_mul, Int32.toInt_div_of_ne_right _ _ hy, Int.sub_bmod_bmod]
  have e : x.toInt - x.toInt.tdiv y.toInt * y.toInt = x.toInt.tmod y.toInt := by
    rw [Int.tmod_def, Int.mul_comm]
  rw [e]
  exact vBm (by omega) (by omega)
def vOp (o : Nat) (p q : Int × Int) : Int × Int :=
  if o = 0 then vCl (p.1 + q.1) (p.2 + q.2)
  else if o = 1 then vCl (p.1 - q.2) (p.2 - q.1)
  else if o = 2 then (if 0 ≤ p.1 ∧ 0 ≤ q.1 then vCl (p.1 * q.1) (p.2 * q.2) else vTop)
  else if o = 3 then (if 0 ≤ q.1 then (0, q.2) else if 0 ≤ p.1 then (0, p.2) else vTop)
  else if o = 9 then (if 0 < q.1 then (if 0 ≤ p.1 then 0 else 1 - q.2, q.2 - 1) else vTop)
  else vTop
theorem vOp_spec {o : Nat} {p q : Int × Int} {x y : Int32} (hp : vIn p x) (hq : vIn q y) : vIn (vOp o p q) (x_bin o x y) := by
  obtain ⟨p1, p2⟩ := hp
  obtain ⟨q1, q2⟩ := hq
  unfold vOp
  split
  · rename_i h
    subst h
    exact vCl_spec (n := x.toInt + y.toInt) (by omega) (by omega) (Int32.toInt_add x y)
  split
  · rename_i h
    subst h
    exact vCl_spec (n := x.toInt - y.toInt) (by omega) (by omega) (Int32.toInt_sub x y)
  split
  · rename_i h
    subst h
    split
    · rename_i hh
      exact vCl_spec (n := x.toInt * y.toInt) (Int.mul_le_mul p1 q1 hh.2 (by omega)) (Int.mul_le_mul p2 q2 (by omega) (by omega)) (Int32.toInt_mul x y)
    · exact vTop_spec _
  split
  · rename_i h
    subst h
    split
    · rename_i hh
      have h1 := vAnd (x := x) (y := y) (by omega)
      exact ⟨h1.1, Int.le_trans h1.2 q2⟩
    split
    · rename_i hh
      have h1 := vAnd2 (x := x) (y := y) (by omega)
      exact ⟨h1.1, Int.le_trans h1.2 p2⟩
    · exact vTop_spec _
  split
  · rename_i h
    subst h
    split
    · rename_i hh
      have hy : 0 < y.toInt := by omega
      have h1 := Int.tmod_lt_of_pos x.toInt hy
      have h2 := Int.lt_tmod_of_pos x.toInt hy
      have e : (x_bin 9 x y).toInt = x.toInt.tmod y.toInt := vRem hy
      constructor
      · show (if 0 ≤ p.1 then 0 else 1 - q.2) ≤ (x_bin 9 x y).toInt
        rw [e]
        split
        · exact Int.tmod_nonneg _ (by omega)
        · omega
      · show (x_bin 9 x y).toInt ≤ q.2 - 1
        rw [e]
        omega
    · exact vTop_spec _
  · exact vTop_spec _
end XIv
end
section
/-! Kinds of cells: what a heap of known kinds keeps. -/
section XKinds
/-- what a field or an element may be: an int between two bounds, or a cell of a kind (null too, or not) -/
abbrev vF : Type := (Int × Int) ⊕ (Bool × Nat)
/-- a kind: an object of a class with its fields, or an array: type, length, elements -/
abbrev vKd : Type := (Nat × List vF) ⊕ (Nat × Nat × vF)
def vFit (ty : Nat → Option Nat) : vF → XV Int32 → Prop
  | .inl p, .inl x => vIn p x
  | .inr p, .inr none => p.1 = true
  | .inr p, .inr (some a) => ty a = some p.2
  | _, _ => False
def vCell (ty : Nat → Option Nat) : vKd → XC Int32 → Prop
  | .inl o, .inl z => z.1 = o.1 ∧ z.2.length = o.2.length ∧ ∀ (j : Nat) (f : vF) (u : XV Int32), o.2[j]? = some f → z.2[j]? = some u → vFit ty f u
  | .inr o, .inr z => z.1 = o.1 ∧ z.2.length = o.2.1 ∧ ∀ (j : Nat) (u : XV Int32), z.2[j]? = some u → vFit ty o.2.2 u
  | _, _ => False
def vHp (KT : Nat → Option vKd) (ty : Nat → Option Nat) (H : List (XC Int32)) : Prop := ∀ (a c : Nat), ty a = some c → ∃ kd z, KT c = some kd ∧ H[a]? = some z ∧ vCell ty kd z
theorem vHp_lt {KT : Nat → Option vKd} {ty : Nat → Option Nat} {H : List (XC Int32)} (h : vHp KT ty H) {a c : Nat} (ha : ty a = some c) : a < H.length := by
  obtain ⟨kd, z, -, h2, -⟩ := h a c ha
  exact (List.getElem?_eq_some_iff.mp h2).1
theorem vHp_obj {KT : Nat → Option vKd} {ty : Nat → Option Nat} {H : List (XC Int32)} (h : vHp KT ty H) {a c ci : Nat} {fl : List vF} (ha : ty a = some c) (hk : KT c = some (.inl (ci, fl))) :
    ∃ fs, H[a]? = some (.inl (ci, fs)) ∧ fs.length = fl.length ∧ ∀ (j : Nat) (f : vF), fl[j]? = some f → ∃ u, fs[j]? = some u ∧ vFit ty f u := by
  obtain ⟨kd, z, h1, h2, h3⟩ := h a c ha
  rw [hk] at h1
  cases h1
  rcases z with ⟨ci2, fs⟩ | z
  · obtain ⟨e, h4, h5⟩ := h3
    have e : ci2 = ci := e
    subst e
    refine ⟨fs, h2, h4, fun j f hf => ?_⟩
    have hj := (List.getElem?_eq_some_iff.mp hf).1
    have h4 : fs.length = fl.length := h4
    have hu : fs[j]? = some (fs[j]'(by omega)) := List.getElem?_eq_getElem (by omega)
    exact ⟨_, hu, h5 j f _ hf hu⟩
  · exact h3.elim
theorem vHp_arr {KT : Nat → Option vKd} {ty : Nat → Option Nat} {H : List (XC Int32)} (h : vHp KT ty H) {a c t m : Nat} {f : vF} (ha : ty a = some c) (hk : KT c = some (.inr (t, m, f))) :
    ∃ vs, H[a]? = some (.inr (t, vs)) ∧ vs.length = m ∧ ∀ j : Nat, j < m → ∃ u, vs[j]? = some u ∧ vFit ty f u := by
  obtain ⟨kd, z, h1, h2, h3⟩ := h a c ha
  rw [hk] at h1
  cases h1
  rcases z with z | ⟨t2, vs⟩
  · exact h3.elim
  · obtain ⟨e, h4, h5⟩ := h3
    have e : t2 = t := e
    subst e
    have h4 : vs.length = m := h4
    refine ⟨vs, h2, h4, fun j hj => ?_⟩
    have hu : vs[j]? = some (vs[j]'(by omega)) := List.getElem?_eq_getElem (by omega)
    exact ⟨_, hu, h5 j _ hu⟩
theorem vHp_set {KT : Nat → Option vKd} {ty : Nat → Option Nat} {H : List (XC Int32)} (h : vHp KT ty H) {a c : Nat} {kd : vKd} {z : XC Int32} (ha : ty a = some c) (hk : KT c = some kd) (hz : vCell ty kd z) : vHp KT ty (H.set a z) := by
  intro b d hb
  obtain ⟨kd2, z2, h1, h2, h3⟩ := h b d hb
  by_cases e : a = b
  · subst e
    rw [ha] at hb
    cases hb
    exact ⟨kd, z, hk, List.getElem?_set_self (vHp_lt h ha), hz⟩
  · exact ⟨kd2, z2, h1, by rw [List.getElem?_set_ne e]; exact h2, h3⟩
theorem vHp_put {KT : Nat → Option vKd} {ty : Nat → Option Nat} {H : List (XC Int32)} (h : vHp KT ty H) {a c ci j : Nat} {fl : List vF} {fs : List (XV Int32)} {f : vF} {u : XV Int32} (ha : ty a = some c) (hk : KT c = some (.inl (ci, fl))) (hH : H[a]? = some (.inl (ci, fs))) (hf : fl[j]? = some f) (hu : vFit ty f u) : vHp KT ty (H.set a (.inl (ci, fs.set j u))) := by
  refine vHp_set h ha hk ?_
  obtain ⟨kd, z, h1, h2, h3⟩ := h a c ha
  rw [hk] at h1
  cases h1
  rw [hH] at h2
  cases h2
  obtain ⟨-, h4, h5⟩ := h3
  refine ⟨rfl, ?_, ?_⟩
  · show (fs.set j u).length = fl.length
    rw [List.length_set]
    exact h4
  · intro i g x hg hx
    have hx : (fs.set j u)[i]? = some x := hx
    have hg : fl[i]? = some g := hg
    by_cases e : j = i
    · subst e
      have hj := (List.getElem?_eq_some_iff.mp hf).1
      have h4 : fs.length = fl.length := h4
      rw [List.getElem?_set_self (by omega)] at hx
      cases hx
      rw [hf] at hg
      cases hg
      exact hu
    · rw [List.getElem?_set_ne e] at hx
      exact h5 i g x hg hx
theorem vHp_sto {KT : Nat → Option vKd} {ty : Nat → Option Nat} {H : List (XC Int32)} (h : vHp KT ty H) {a c t m j : Nat} {f : vF} {vs : List (XV Int32)} {u : XV Int32} (ha : ty a = some c) (hk : KT c = some (.inr (t, m, f))) (hH : H[a]? = some (.inr (t, vs))) (hu : vFit ty f u) : vHp KT ty (H.set a (.inr (t, vs.set j u))) := by
  refine vHp_set h ha hk ?_
  obtain ⟨kd, z, h1, h2, h3⟩ := h a c ha
  rw [hk] at h1
  cases h1
  rw [hH] at h2
  cases h2
  obtain ⟨-, h4, h5⟩ := h3
  refine ⟨rfl, ?_, ?_⟩
  · show (vs.set j u).length = m
    rw [List.length_set]
    exact h4
  · intro i x hx
    have hx : (vs.set j u)[i]? = some x := hx
    rcases List.mem_or_eq_of_mem_set (List.mem_of_getElem? hx) with h6 | h6
    · obtain ⟨i2, h7⟩ := List.getElem?_of_mem h6
      exact h5 i2 x h7
    · rw [h6]
      exact hu
theorem vHp_cpy {KT : Nat → Option vKd} {ty : Nat → Option Nat} {H : List (XC Int32)} (h : vHp KT ty H) {a b c e t m n : Nat} {f : vF} {us vs : List (XV Int32)} {i j k : Nat} (ha : ty a = some c) (hk : KT c = some (.inr (t, m, f))) (hH : H[a]? = some (.inr (t, vs))) (hb : ty b = some e) (he : KT e = some (.inr (t, n, f))) (hB : H[b]? = some (.inr (t, us)))
    (hi : i + k ≤ us.length) (hj : j + k ≤ vs.length) : vHp KT ty (H.set a (.inr (t, vs.take j ++ (us.drop i).take k ++ vs.drop (j + k)))) := by
  refine vHp_set h ha hk ?_
  obtain ⟨kd, z, h1, h2, h3⟩ := h a c ha
  rw [hk] at h1
  cases h1
  rw [hH] at h2
  cases h2
  obtain ⟨-, h4, h5⟩ := h3
  obtain ⟨kd, z, h1, h2, h3⟩ := h b e hb
  rw [he] at h1
  cases h1
  rw [hB] at h2
  cases h2
  obtain ⟨-, h6, h7⟩ := h3
  refine ⟨rfl, ?_, ?_⟩
  · show (vs.take j ++ (us.drop i).take k ++ vs.drop (j + k)).length = m
    have h4 : vs.length = m := h4
    simp only [List.length_append, List.length_take, List.length_drop]
    omega
  · intro l x hx
    have hx : (vs.take j ++ (us.drop i).take k ++ vs.drop (j + k))[l]? = some x := hx
    have hm := List.mem_of_getElem? hx
    rcases List.mem_append.mp hm with hm | hm
    · rcases List.mem_append.mp hm with hm | hm
      · obtain ⟨i2, h8⟩ := List.getElem?_of_mem (List.mem_of_mem_take hm)
        exact h5 i2 x h8
      · obtain ⟨i2, h8⟩ := List.getElem?_of_mem (List.mem_of_mem_drop (List.mem_of_mem_take hm))
        exact h7 i2 x h8
    · obtain ⟨i2, h8⟩ := List.getElem?_of_mem (List.mem_of_mem_drop hm)
      exact h5 i2 x h8
/-- kinds may be added -/
def vLe (ty ty2 : Nat → Option Nat) : Prop := ∀ a c, ty a = some c → ty2 a = some c
theorem vFit_le {ty ty2 : Nat → Option Nat} (h : vLe ty ty2) {f : vF} {u : XV Int32} (hu : vFit ty f u) : vFit ty2 f u := by
  rcases f with p | p <;> rcases u with x | (_ | a)
  · exact hu
  · exact hu.elim
  · exact hu.elim
  · exact hu.elim
  · exact hu
  · exact h a _ hu
theorem vCell_le {ty ty2 : Nat → Option Nat} (h : vLe ty ty2) {kd : vKd} {z : XC Int32} (hz : vCell ty kd z) : vCell ty2 kd z := by
  rcases kd with o | o <;> rcases z with z | z
  · exact ⟨hz.1, hz.2.1, fun j f u h1 h2 => vFit_le h (hz.2.2 j f u h1 h2)⟩
  · exact hz.elim
  · exact hz.elim
  · exact ⟨hz.1, hz.2.1, fun j u h1 => vFit_le h (hz.2.2 j u h1)⟩
def vAdd (ty : Nat → Option Nat) (a c : Nat) : Nat → Option Nat := fun b => if b = a then some c else ty b
theorem vHp_new {KT : Nat → Option vKd} {ty : Nat → Option Nat} {H : List (XC Int32)} (h : vHp KT ty H) {c : Nat} {kd : vKd} {z : XC Int32} (hk : KT c = some kd) (hz : vCell (vAdd ty H.length c) kd z) : vLe ty (vAdd ty H.length c) ∧ vHp KT (vAdd ty H.length c) (H ++ [z]) := by
  have hle : vLe ty (vAdd ty H.length c) := by
    intro a d ha
    have := vHp_lt h ha
    unfold vAdd
    rw [if_neg (by omega)]
    exact ha
  refine ⟨hle, fun b d hb => ?_⟩
  by_cases e : b = H.length
  · subst e
    have hb : (if H.length = H.length then some c else ty H.length) = some d := hb
    rw [if_pos rfl] at hb
    cases hb
    exact ⟨kd, z, hk, by rw [List.getElem?_append_right (Nat.le_refl _), Nat.sub_self]; rfl, hz⟩
  · have hb : (if b = H.length then some c else ty b) = some d := hb
    rw [if_neg e] at hb
    obtain ⟨kd2, z2, h1, h2, h3⟩ := h b d hb
    exact ⟨kd2, z2, h1, by rw [List.getElem?_append_left (vHp_lt h hb)]; exact h2, vCell_le hle h3⟩
end XKinds
end
