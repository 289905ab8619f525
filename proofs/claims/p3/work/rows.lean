section
/-! Methods and their instructions, as a table has them. -/
section XBase
/-- a method: name, bytes, locals, return, whose pool, the receiver's class, parameters, cells and slots that it may make, its instructions -/
abbrev XM : Type := MethodName × ByteArray × Nat × Option FieldType × Nat × Nat × Nat × Nat × Nat × Bool × (Nat → Option (Instr × Nat))
abbrev mY (q : XM) : MethodName := q.1
abbrev mB (q : XM) : ByteArray := q.2.1
abbrev mL (q : XM) : Nat := q.2.2.1
abbrev mR (q : XM) : Option FieldType := q.2.2.2.1
abbrev mO (q : XM) : Nat := q.2.2.2.2.1
abbrev mRc (q : XM) : Nat := q.2.2.2.2.2.1
abbrev mNp (q : XM) : Nat := q.2.2.2.2.2.2.1
abbrev mMc (q : XM) : Nat := q.2.2.2.2.2.2.2.1
abbrev mMs (q : XM) : Nat := q.2.2.2.2.2.2.2.2.1
abbrev mI (q : XM) : Bool := q.2.2.2.2.2.2.2.2.2.1
abbrev mC (q : XM) : Nat → Option (Instr × Nat) := q.2.2.2.2.2.2.2.2.2.2
/-- the length of an instruction, in bytes -/
def x_len : Instr → Nat
  | .iload _ => 2
  | .aload _ => 2
  | .istore _ => 2
  | .astore _ => 2
  | .bipush _ => 2
  | .newarray _ => 2
  | .ldc _ => 2
  | .sipush _ => 3
  | .iinc _ _ => 3
  | .getfield _ => 3
  | .putfield _ => 3
  | .new _ => 3
  | .anewarray _ => 3
  | .invokespecial _ => 3
  | .invokestatic _ => 3
  | .invokevirtual _ => 3
  | .goto _ => 3
  | .getstatic _ => 3
  | .ifCond _ _ => 3
  | .if_icmp _ _ => 3
  | .ifnull _ => 3
  | .ifnonnull _ => 3
  | .ldc_w _ => 3
  | .multianewarray _ _ => 4
  | _ => 1
def x_lenOk : Instr → Nat → Bool
  | .tableswitch _ _ _ _, _ => true
  | .lookupswitch _ _, _ => true
  | i, n => n == x_len i
def x_at2 : Nat → List (Nat × Instr × Nat) → Option (Instr × Nat)
  | _, [] => none
  | pc, q :: r => if q.1 = pc then some q.2 else x_at2 pc r
def x_cOk (b : ByteArray) (l : List (Nat × Instr × Nat)) : Bool := l.all (fun q => decide (decode b q.1 = .ok q.2) && x_lenOk q.2.1 q.2.2)
theorem x_cOk_spec {b : ByteArray} {pc n : Nat} {i : Instr} : ∀ {l : List (Nat × Instr × Nat)}, x_cOk b l = true → x_at2 pc l = some (i, n) → decode b pc = .ok (i, n) ∧ x_lenOk i n = true
  | [], _, h => by cases h
  | q :: r, hc, h => by
    have hc2 : (decide (decode b q.1 = .ok q.2) && x_lenOk q.2.1 q.2.2) = true ∧ x_cOk b r = true := by
      have h1 := List.all_eq_true.mp hc
      exact ⟨h1 q List.mem_cons_self, List.all_eq_true.mpr fun z hz => h1 z (List.mem_cons_of_mem _ hz)⟩
    simp only [x_at2] at h
    split at h
    · rename_i he
      subst he
      simp only [Option.some.injEq] at h
      have h2 := hc2.1
      simp only [Bool.and_eq_true, decide_eq_true_eq] at h2
      rw [h] at h2
      exact h2
    · exact x_cOk_spec hc2.2 h
def x_Good (b : ByteArray) (g : Nat → Option (Instr × Nat)) : Prop := ∀ pc i n, g pc = some (i, n) → decode b pc = .ok (i, n) ∧ x_lenOk i n = true
theorem x_Good_l {b : ByteArray} {l : List (Nat × Instr × Nat)} (h : x_cOk b l = true) : x_Good b (fun pc => x_at2 pc l) := fun _ _ _ q => x_cOk_spec h q
theorem x_Good_ite {b : ByteArray} {k : Nat} {g1 g2 : Nat → Option (Instr × Nat)} (h1 : x_Good b g1) (h2 : x_Good b g2) : x_Good b (fun pc => if pc < k then g1 pc else g2 pc) := fun pc i n h => by
  have h : (if pc < k then g1 pc else g2 pc) = some (i, n) := h
  by_cases c : pc < k
  · rw [if_pos c] at h
    exact h1 pc i n h
  · rw [if_neg c] at h
    exact h2 pc i n h
end XBase
end
section
/-! An evaluator of its own over an abstract heap: values, cells, instructions. Whatever it finds no fault with, the machine does (part 02). -/
section XDefs
variable {E K : Type}
/-- an int (as E has it), null, or a cell by its number -/
abbrev XV (E : Type) : Type := E ⊕ Option Nat
/-- an object (its class by number, its fields), or an array (its type by number, its elements) -/
abbrev XC (E : Type) : Type := (Nat × List (XV E)) ⊕ (Nat × List (XV E))
/-- the ways that are left: each a list of what holds on it -/
abbrev XR (K : Type) : Type := List (List K)
abbrev XD (E K : Type) : Type := (E → Int32) × (Int32 → E) × (Nat → E → E → E) × (Nat → E → E) × (E → Option Int32) × (K → Prop) × (Nat → E → E → List K → (List K → XR K) → (List K → XR K) → XR K)
abbrev dEv (d : XD E K) : E → Int32 := d.1
abbrev dKc (d : XD E K) : Int32 → E := d.2.1
abbrev dBin (d : XD E K) : Nat → E → E → E := d.2.2.1
abbrev dUn (d : XD E K) : Nat → E → E := d.2.2.2.1
abbrev dKst (d : XD E K) : E → Option Int32 := d.2.2.2.2.1
abbrev dHd (d : XD E K) : K → Prop := d.2.2.2.2.2.1
abbrev dBr (d : XD E K) : Nat → E → E → List K → (List K → XR K) → (List K → XR K) → XR K := d.2.2.2.2.2.2
/-- tables: methods; the names of the pools' classes; fields; new; calls (callee, sort); arrays of references; arrays of arrays; field types of a class; what is known of itself (Object's constructor, copying); ints of the pool -/
abbrev XT : Type := (Nat → Option XM) × (Nat → String) × (Nat → Nat → Option (Nat × Nat)) × (Nat → Nat → Option Nat) × (Nat → Nat → Option (Nat × Nat)) × (Nat → Nat → Option Nat) × (Nat → Nat → Option (Nat × Nat)) × (Nat → List (FieldType × Bool)) × (Nat → Nat → Option Nat) × (Nat → Nat → Option Int32)
abbrev tMth (t : XT) : Nat → Option XM := t.1
abbrev tNm (t : XT) : Nat → String := t.2.1
abbrev tFld (t : XT) : Nat → Nat → Option (Nat × Nat) := t.2.2.1
abbrev tNw (t : XT) : Nat → Nat → Option Nat := t.2.2.2.1
abbrev tCal (t : XT) : Nat → Nat → Option (Nat × Nat) := t.2.2.2.2.1
abbrev tAn (t : XT) : Nat → Nat → Option Nat := t.2.2.2.2.2.1
abbrev tMn (t : XT) : Nat → Nat → Option (Nat × Nat) := t.2.2.2.2.2.2.1
abbrev tFt (t : XT) : Nat → List (FieldType × Bool) := t.2.2.2.2.2.2.2.1
abbrev tBi (t : XT) : Nat → Nat → Option Nat := t.2.2.2.2.2.2.2.2.1
abbrev tLi (t : XT) : Nat → Nat → Option Int32 := t.2.2.2.2.2.2.2.2.2
/-- what lies outside (numbers from 1000000 on): constants of text by pool and place; their fields; static fields; rows of bytes; the script (its length, its ints); their classes -/
abbrev XO (E : Type) : Type := (Nat → Nat → Option Nat) × (Nat → Nat → Nat → Option (Int32 ⊕ Option Nat)) × (Nat → Nat → Option (Int32 ⊕ Option Nat)) × (Nat → Option (List Int32)) × (Nat × (Nat → E)) × (Nat → Option Nat)
abbrev oSl (t : XO E) : Nat → Nat → Option Nat := t.1
abbrev oFl (t : XO E) : Nat → Nat → Nat → Option (Int32 ⊕ Option Nat) := t.2.1
abbrev oGs (t : XO E) : Nat → Nat → Option (Int32 ⊕ Option Nat) := t.2.2.1
abbrev oBy (t : XO E) : Nat → Option (List Int32) := t.2.2.2.1
abbrev oSn (t : XO E) : Nat := t.2.2.2.2.1.1
abbrev oSc (t : XO E) : Nat → E := t.2.2.2.2.1.2
abbrev oCl (t : XO E) : Nat → Option Nat := t.2.2.2.2.2
def x_ov (d : XD E K) : Int32 ⊕ Option Nat → XV E
  | .inl v => .inl (dKc d v)
  | .inr a => .inr a
def x_bin : Nat → Int32 → Int32 → Int32
  | 0, x, y => x + y
  | 1, x, y => x - y
  | 2, x, y => x * y
  | 3, x, y => x &&& y
  | 4, x, y => x ||| y
  | 5, x, y => x ^^^ y
  | 6, x, y => x <<< (y &&& 31)
  | 7, x, y => x >>> (y &&& 31)
  | 8, x, y => x / y
  | 9, x, y => x - x / y * y
  | _, x, y => (x.toUInt32 >>> (y.toUInt32 &&& Int32.toUInt32 31)).toInt32
def x_un : Nat → Int32 → Int32
  | 0, x => x.toInt8.toInt32
  | 1, x => x.toInt16.toInt32
  | 2, x => (x.toUInt32 % 65536).toInt32
  | _, x => -x
def x_cmp : Nat → Int32 → Int32 → Bool
  | 0, x, y => decide (x = y)
  | 1, x, y => decide (¬ x = y)
  | 2, x, y => decide (x < y)
  | 3, x, y => decide (y ≤ x)
  | 4, x, y => decide (y < x)
  | _, x, y => decide (x ≤ y)
def x_cn : Jvm.ClassFile.Cond → Nat
  | .eq => 0
  | .ne => 1
  | .lt => 2
  | .ge => 3
  | .gt => 4
  | .le => 5
/-- every way that is left can't be gone -/
def XOk (hd : K → Prop) (r : XR K) : Prop := ∀ b ∈ r, ∃ k ∈ b, ¬ hd k
def XPa (hd : K → Prop) (w : List K) : Prop := ∀ k ∈ w, hd k
def x_DmOk (d : XD E K) : Prop :=
  (∀ n, dEv d (dKc d n) = n) ∧ (∀ o a b, dEv d (dBin d o a b) = x_bin o (dEv d a) (dEv d b)) ∧ (∀ o a, dEv d (dUn d o a) = x_un o (dEv d a)) ∧ (∀ a n, dKst d a = some n → dEv d a = n) ∧
  (∀ o a b w kt kf, XOk (dHd d) (dBr d o a b w kt kf) → XPa (dHd d) w → ∃ w', XPa (dHd d) w' ∧ ((x_cmp o (dEv d a) (dEv d b) = true ∧ XOk (dHd d) (kt w')) ∨ (x_cmp o (dEv d a) (dEv d b) = false ∧ XOk (dHd d) (kf w'))))
def x_jp (pc : Nat) (off : Int) : Option Nat := if 0 ≤ (pc : Int) + off then some ((pc : Int) + off).toNat else none
def x_lk (L : List (Nat × XV E)) (i : Nat) : Option (XV E) := (L.find? (fun q => q.1 == i)).map (·.2)
def x_st (L : List (Nat × XV E)) (i : Nat) (v : XV E) : List (Nat × XV E) := (i, v) :: L.filter (fun q => !(q.1 == i))
def x_en : Nat → List (XV E) → List (Nat × XV E)
  | _, [] => []
  | i, v :: vs => (i, v) :: x_en (i + 1) vs
/-- an index, told apart where it isn't known: j of the n -/
def x_ixs (d : XD E K) (a : E) (kk : Nat → List K → XR K) : Nat → List K → XR K
  | 0, w => [w]
  | j + 1, w => dBr d 0 a (dKc d (nI j)) w (fun w2 => kk j w2) (fun w2 => x_ixs d a kk j w2)
def x_ix (d : XD E K) (a : E) (n : Nat) (w : List K) (kk : Nat → List K → XR K) : XR K :=
  match dKst d a with
  | some v => if decide (v < 0) || decide (n ≤ v.toNatClampNeg) then [w] else kk v.toNatClampNeg w
  | none => if n < 2000 then x_ixs d a kk n w else [w]
/-- a switch: its pairs one by one, then what is left -/
def x_sw (d : XD E K) (a : E) (dflt : Int) (kk : Int → List K → XR K) : List (Int × Int) → List K → XR K
  | [], w => kk dflt w
  | q :: r, w => if (Int32.ofInt q.1).toInt = q.1 then dBr d 0 a (dKc d (Int32.ofInt q.1)) w (fun w2 => kk q.2 w2) (fun w2 => x_sw d a dflt kk r w2) else [w]
def x_tp : Int → List Int → List (Int × Int)
  | _, [] => []
  | lo, o :: r => (lo, o) :: x_tp (lo + 1) r
def x_def (d : XD E K) : FieldType → XV E
  | .object _ => .inr none
  | .array _ => .inr none
  | _ => .inl (dKc d 0)
def x_isRef : FieldType → Bool
  | .object _ => true
  | .array _ => true
  | _ => false
/-- may a field or an element of that type keep this value, just as it is -/
def x_fit (d : XD E K) : FieldType → XV E → Bool
  | .int, .inl _ => true
  | .boolean, .inl e => match dKst d e with
    | some v => decide (v = 0) || decide (v = 1)
    | none => false
  | .object _, .inr _ => true
  | .array _, .inr _ => true
  | _, _ => false
def x_cat (S : List (XV E)) : Nat := S.length
/-- rows of an array of arrays -/
def x_rows (t : Nat) (r : List (XV E)) : Nat → List (XC E)
  | 0 => []
  | n + 1 => .inr (t, r) :: x_rows t r n
def x_refs : Nat → Nat → List (XV E)
  | _, 0 => []
  | a, n + 1 => .inr (some a) :: x_refs (a + 1) n
def x_push : Option (XV E) → List (XV E) → List (XV E)
  | none, S => S
  | some v, S => v :: S
/-- a return keeps what the method says that it answers -/
def x_retOk (d : XD E K) : Option FieldType → XV E → Bool
  | some .int, .inl _ => true
  | some .boolean, .inl e => match dKst d e with
    | some v => decide (v = 0) || decide (v = 1)
    | none => false
  | some .byte, .inl e => match dKst d e with
    | some v => decide (v.toInt8.toInt32 = v)
    | none => false
  | some .char, .inl e => match dKst d e with
    | some v => decide ((v.toUInt32 % 65536).toInt32 = v)
    | none => false
  | some (.object _), .inr _ => true
  | some (.array _), .inr _ => true
  | _, _ => false
/-- the class, by its number, of a receiver -/
def x_rc (ot : XO E) (h : List (XC E)) (a : Nat) : Option Nat := if 1000000 < a then oCl ot a else match h[a]? with
  | some (.inl (ci, _)) => some ci
  | _ => none
/-- what a comparison of a sum of two ints with an int answers, as longs have it -/
def x_l3 (a b v : Int32) : Int32 := if v.toInt < a.toInt + b.toInt then 1 else if a.toInt + b.toInt = v.toInt then 0 else -1
/-- ten instructions that compare a sum of two ints with an element of a field's row, as longs: locals and field, read from behind the first -/
def x_lq (q : XM) (pc : Nat) : Option (Nat × Nat × Nat × Nat) := match mC q (pc + 1), mC q (pc + 3), mC q (pc + 4), mC q (pc + 5), mC q (pc + 6) with
  | some (.iload j, _), some (.i2l, _), some (.ladd, _), some (.aload_n j0, _), some (.getfield ix, _) => match mC q (pc + 9), mC q (pc + 10), mC q (pc + 11), mC q (pc + 12) with
    | some (.iload_n j2, _), some (.iaload, _), some (.i2l, _), some (.lcmp, _) => some (j, j0, ix, j2)
    | _, _, _, _ => none
  | _, _, _, _, _ => none
/-- THE EVALUATOR: fuel, depth, method, place, locals, stack, heap, cells and slots made, what holds on this way; behind it: what is answered -/
def x_run (d : XD E K) (tb : XT) (tyl : List FieldType) (ot : XO E) : Nat → Nat → Nat → Nat → List (Nat × XV E) → List (XV E) → List (XC E) → Nat → Nat → List K → (List K → Option (XV E) → List (XC E) → XR K) → XR K
  | 0, _, _, _, _, _, _, _, _, w, _ => [w]
  | f + 1, dp, k, pc, L, S, h, cn, sn, w, post =>
    match tMth tb k with
    | none => [w]
    | some q =>
      match mC q pc with
      | none => [w]
      | some (i, n) =>
        match i with
        | .iconst v => x_run d tb tyl ot f dp k (pc + 1) L (.inl (dKc d (Int32.ofInt v)) :: S) h cn sn w post
        | .bipush v => x_run d tb tyl ot f dp k (pc + 2) L (.inl (dKc d (Int8.ofInt v).toInt32) :: S) h cn sn w post
        | .sipush v => x_run d tb tyl ot f dp k (pc + 3) L (.inl (dKc d (Int16.ofInt v).toInt32) :: S) h cn sn w post
        | .ldc ix => match tLi tb (mO q) ix with
          | some v => x_run d tb tyl ot f dp k (pc + 2) L (.inl (dKc d v) :: S) h cn sn w post
          | none => match oSl ot (mO q) ix with
            | some a => x_run d tb tyl ot f dp k (pc + 2) L (.inr (some a) :: S) h cn sn w post
            | none => [w]
        | .ldc_w ix => match tLi tb (mO q) ix with
          | some v => x_run d tb tyl ot f dp k (pc + 3) L (.inl (dKc d v) :: S) h cn sn w post
          | none => match oSl ot (mO q) ix with
            | some a => x_run d tb tyl ot f dp k (pc + 3) L (.inr (some a) :: S) h cn sn w post
            | none => [w]
        | .i2l => match S, x_lq q pc with
          | .inl a :: r, some (j, j0, ix, j2) => match x_lk L j, x_lk L j0, x_lk L j2, tFld tb (mO q) ix with
            | some (.inl b), some (.inr (some o)), some (.inl e), some (ci, fj) => match h[o]? with
              | some (.inl (c2, fs)) => match decide (c2 = ci), fs[fj]? with
                | true, some (.inr (some y)) => match h[y]? with
                  | some (.inr (0, vs)) => match dKst d e with
                    | some e1 => if decide (e1 < 0) || decide (vs.length ≤ e1.toNatClampNeg) then [w] else match vs[e1.toNatClampNeg]? with
                      | some (.inl v) => match dKst d a, dKst d b, dKst d v with
                        | some a1, some b1, some v1 => x_run d tb tyl ot f dp k (pc + 13) L (.inl (dKc d (x_l3 a1 b1 v1)) :: r) h cn sn w post
                        | _, _, _ => [w]
                      | _ => [w]
                    | none => [w]
                  | _ => [w]
                | _, _ => [w]
              | _ => [w]
            | _, _, _, _ => [w]
          | _, _ => [w]
        | .aconst_null => x_run d tb tyl ot f dp k (pc + 1) L (.inr none :: S) h cn sn w post
        | .iload_n j => match x_lk L j with
          | some (.inl a) => x_run d tb tyl ot f dp k (pc + 1) L (.inl a :: S) h cn sn w post
          | _ => [w]
        | .iload j => match x_lk L j with
          | some (.inl a) => x_run d tb tyl ot f dp k (pc + 2) L (.inl a :: S) h cn sn w post
          | _ => [w]
        | .aload_n j => match x_lk L j with
          | some (.inr a) => x_run d tb tyl ot f dp k (pc + 1) L (.inr a :: S) h cn sn w post
          | _ => [w]
        | .aload j => match x_lk L j with
          | some (.inr a) => x_run d tb tyl ot f dp k (pc + 2) L (.inr a :: S) h cn sn w post
          | _ => [w]
        | .istore_n j => match S with
          | .inl a :: r => if (j : Nat) < mL q then x_run d tb tyl ot f dp k (pc + 1) (x_st L j (.inl a)) r h cn sn w post else [w]
          | _ => [w]
        | .istore j => match S with
          | .inl a :: r => if j < mL q then x_run d tb tyl ot f dp k (pc + 2) (x_st L j (.inl a)) r h cn sn w post else [w]
          | _ => [w]
        | .astore_n j => match S with
          | .inr a :: r => if (j : Nat) < mL q then x_run d tb tyl ot f dp k (pc + 1) (x_st L j (.inr a)) r h cn sn w post else [w]
          | _ => [w]
        | .astore j => match S with
          | .inr a :: r => if j < mL q then x_run d tb tyl ot f dp k (pc + 2) (x_st L j (.inr a)) r h cn sn w post else [w]
          | _ => [w]
        | .iinc j v => match x_lk L j with
          | some (.inl a) => if j < mL q then x_run d tb tyl ot f dp k (pc + 3) (x_st L j (.inl (dBin d 0 a (dKc d (Int32.ofInt v))))) S h cn sn w post else [w]
          | _ => [w]
        | .dup => match S with
          | a :: r => x_run d tb tyl ot f dp k (pc + 1) L (a :: a :: r) h cn sn w post
          | _ => [w]
        | .dup_x1 => match S with
          | a :: b :: r => x_run d tb tyl ot f dp k (pc + 1) L (a :: b :: a :: r) h cn sn w post
          | _ => [w]
        | .dup2 => match S with
          | a :: b :: r => x_run d tb tyl ot f dp k (pc + 1) L (a :: b :: a :: b :: r) h cn sn w post
          | _ => [w]
        | .pop => match S with
          | _ :: r => x_run d tb tyl ot f dp k (pc + 1) L r h cn sn w post
          | _ => [w]
        | .iadd => match S with
          | .inl b :: .inl a :: r => x_run d tb tyl ot f dp k (pc + 1) L (.inl (dBin d 0 a b) :: r) h cn sn w post
          | _ => [w]
        | .isub => match S with
          | .inl b :: .inl a :: r => x_run d tb tyl ot f dp k (pc + 1) L (.inl (dBin d 1 a b) :: r) h cn sn w post
          | _ => [w]
        | .imul => match S with
          | .inl b :: .inl a :: r => x_run d tb tyl ot f dp k (pc + 1) L (.inl (dBin d 2 a b) :: r) h cn sn w post
          | _ => [w]
        | .iand => match S with
          | .inl b :: .inl a :: r => x_run d tb tyl ot f dp k (pc + 1) L (.inl (dBin d 3 a b) :: r) h cn sn w post
          | _ => [w]
        | .ior => match S with
          | .inl b :: .inl a :: r => x_run d tb tyl ot f dp k (pc + 1) L (.inl (dBin d 4 a b) :: r) h cn sn w post
          | _ => [w]
        | .ixor => match S with
          | .inl b :: .inl a :: r => x_run d tb tyl ot f dp k (pc + 1) L (.inl (dBin d 5 a b) :: r) h cn sn w post
          | _ => [w]
        | .ishl => match S with
          | .inl b :: .inl a :: r => x_run d tb tyl ot f dp k (pc + 1) L (.inl (dBin d 6 a b) :: r) h cn sn w post
          | _ => [w]
        | .ishr => match S with
          | .inl b :: .inl a :: r => x_run d tb tyl ot f dp k (pc + 1) L (.inl (dBin d 7 a b) :: r) h cn sn w post
          | _ => [w]
        | .idiv => match S with
          | .inl b :: .inl a :: r => dBr d 0 b (dKc d 0) w (fun w2 => [w2]) (fun w2 => x_run d tb tyl ot f dp k (pc + 1) L (.inl (dBin d 8 a b) :: r) h cn sn w2 post)
          | _ => [w]
        | .irem => match S with
          | .inl b :: .inl a :: r => dBr d 0 b (dKc d 0) w (fun w2 => [w2]) (fun w2 => x_run d tb tyl ot f dp k (pc + 1) L (.inl (dBin d 9 a b) :: r) h cn sn w2 post)
          | _ => [w]
        | .i2b => match S with
          | .inl a :: r => x_run d tb tyl ot f dp k (pc + 1) L (.inl (dUn d 0 a) :: r) h cn sn w post
          | _ => [w]
        | .i2s => match S with
          | .inl a :: r => x_run d tb tyl ot f dp k (pc + 1) L (.inl (dUn d 1 a) :: r) h cn sn w post
          | _ => [w]
        | .goto o => match x_jp pc o with
          | some t => x_run d tb tyl ot f dp k t L S h cn sn w post
          | none => [w]
        | .ifCond c o => match S, x_jp pc o with
          | .inl a :: r, some t => dBr d (x_cn c) a (dKc d 0) w (fun w2 => x_run d tb tyl ot f dp k t L r h cn sn w2 post) (fun w2 => x_run d tb tyl ot f dp k (pc + 3) L r h cn sn w2 post)
          | _, _ => [w]
        | .if_icmp c o => match S, x_jp pc o with
          | .inl b :: .inl a :: r, some t => dBr d (x_cn c) a b w (fun w2 => x_run d tb tyl ot f dp k t L r h cn sn w2 post) (fun w2 => x_run d tb tyl ot f dp k (pc + 3) L r h cn sn w2 post)
          | _, _ => [w]
        | .ifnull o => match S, x_jp pc o with
          | .inr none :: r, some t => x_run d tb tyl ot f dp k t L r h cn sn w post
          | .inr (some _) :: r, _ => x_run d tb tyl ot f dp k (pc + 3) L r h cn sn w post
          | _, _ => [w]
        | .ifnonnull o => match S, x_jp pc o with
          | .inr (some _) :: r, some t => x_run d tb tyl ot f dp k t L r h cn sn w post
          | .inr none :: r, _ => x_run d tb tyl ot f dp k (pc + 3) L r h cn sn w post
          | _, _ => [w]
        | .tableswitch df lo hi os => match S with
          | .inl a :: r => if hi + 1 = lo + os.size then x_sw d a df (fun o w2 => match x_jp pc o with
              | some t => x_run d tb tyl ot f dp k t L r h cn sn w2 post
              | none => [w2]) (x_tp lo os.toList) w else [w]
          | _ => [w]
        | .lookupswitch df ps => match S with
          | .inl a :: r => if (ps.toList.zip (ps.toList.drop 1)).all (fun (a, next) => a.1 < next.1) = true then x_sw d a df (fun o w2 => match x_jp pc o with
              | some t => x_run d tb tyl ot f dp k t L r h cn sn w2 post
              | none => [w2]) ps.toList w else [w]
          | _ => [w]
        | .getfield ix => match S with
          | .inr (some a) :: r => if 1000000 < a then (match oFl ot a (mO q) ix with
              | some v => x_run d tb tyl ot f dp k (pc + 3) L (x_ov d v :: r) h cn sn w post
              | none => [w]) else match tFld tb (mO q) ix with
            | some (ci, j) => match h[a]? with
              | some (.inl (c2, fs)) => match decide (c2 = ci), fs[j]? with
                | true, some v => x_run d tb tyl ot f dp k (pc + 3) L (v :: r) h cn sn w post
                | _, _ => [w]
              | _ => [w]
            | none => [w]
          | _ => [w]
        | .getstatic ix => match oGs ot (mO q) ix with
          | some v => x_run d tb tyl ot f dp k (pc + 3) L (x_ov d v :: S) h cn sn w post
          | none => [w]
        | .arraylength => match S with
          | .inr (some a) :: r => if a = 1000000 then x_run d tb tyl ot f dp k (pc + 1) L (.inl (dKc d (Int32.ofNat (oSn ot))) :: r) h cn sn w post else match oBy ot a with
            | some bs => if 1000000 < a then x_run d tb tyl ot f dp k (pc + 1) L (.inl (dKc d (Int32.ofNat bs.length)) :: r) h cn sn w post else [w]
            | none => [w]
          | _ => [w]
        | .i2c => match S with
          | .inl a :: r => x_run d tb tyl ot f dp k (pc + 1) L (.inl (dUn d 2 a) :: r) h cn sn w post
          | _ => [w]
        | .ineg => match S with
          | .inl a :: r => x_run d tb tyl ot f dp k (pc + 1) L (.inl (dUn d 3 a) :: r) h cn sn w post
          | _ => [w]
        | .iushr => match S with
          | .inl b :: .inl a :: r => x_run d tb tyl ot f dp k (pc + 1) L (.inl (dBin d 10 a b) :: r) h cn sn w post
          | _ => [w]
        | .putfield ix => match S, tFld tb (mO q) ix with
          | v :: .inr (some a) :: r, some (ci, j) => match h[a]? with
            | some (.inl (c2, fs)) => match (tFt tb ci)[j]? with
              | some ty => if decide (c2 = ci) && x_fit d ty.1 v && decide (j < fs.length) && (!ty.2 || (mI q && decide (mRc q = ci))) then x_run d tb tyl ot f dp k (pc + 3) L r (h.set a (.inl (c2, fs.set j v))) cn sn w post else [w]
              | none => [w]
            | _ => [w]
          | _, _ => [w]
        | .iaload => match S with
          | .inl e :: .inr (some a) :: r => if a = 1000000 then x_ix d e (oSn ot) w (fun j w2 => x_run d tb tyl ot f dp k (pc + 1) L (.inl (oSc ot j) :: r) h cn sn w2 post) else match h[a]? with
            | some (.inr (0, vs)) => x_ix d e vs.length w (fun j w2 => match vs[j]? with
              | some v => x_run d tb tyl ot f dp k (pc + 1) L (v :: r) h cn sn w2 post
              | none => [w2])
            | _ => [w]
          | _ => [w]
        | .baload => match S with
          | .inl e :: .inr (some a) :: r => if 1000000 < a then (match oBy ot a with
              | some bs => x_ix d e bs.length w (fun j w2 => x_run d tb tyl ot f dp k (pc + 1) L (.inl (dKc d (bs.getD j 0)) :: r) h cn sn w2 post)
              | none => [w]) else match h[a]? with
            | some (.inr (1, vs)) => x_ix d e vs.length w (fun j w2 => match vs[j]? with
              | some v => x_run d tb tyl ot f dp k (pc + 1) L (v :: r) h cn sn w2 post
              | none => [w2])
            | _ => [w]
          | _ => [w]
        | .aaload => match S with
          | .inl e :: .inr (some a) :: r => match h[a]? with
            | some (.inr (t, vs)) => if (tyl[t]?.map x_isRef) = some true then x_ix d e vs.length w (fun j w2 => match vs[j]? with
              | some v => x_run d tb tyl ot f dp k (pc + 1) L (v :: r) h cn sn w2 post
              | none => [w2]) else [w]
            | _ => [w]
          | _ => [w]
        | .iastore => match S with
          | .inl v :: .inl e :: .inr (some a) :: r => match h[a]? with
            | some (.inr (0, vs)) => x_ix d e vs.length w (fun j w2 => x_run d tb tyl ot f dp k (pc + 1) L r (h.set a (.inr (0, vs.set j (.inl v)))) cn sn w2 post)
            | _ => [w]
          | _ => [w]
        | .bastore => match S with
          | .inl v :: .inl e :: .inr (some a) :: r => match h[a]? with
            | some (.inr (1, vs)) => if x_fit d .boolean (.inl v) then x_ix d e vs.length w (fun j w2 => x_run d tb tyl ot f dp k (pc + 1) L r (h.set a (.inr (1, vs.set j (.inl v)))) cn sn w2 post) else [w]
            | _ => [w]
          | _ => [w]
        | .aastore => match S with
          | .inr (some v) :: .inl e :: .inr (some a) :: r => match h[a]?, h[v]? with
            | some (.inr (t, vs)), some (.inl (ci, _)) => match tyl[t]? with
              | some (.object C) => if decide (C = tNm tb ci) then x_ix d e vs.length w (fun j w2 => x_run d tb tyl ot f dp k (pc + 1) L r (h.set a (.inr (t, vs.set j (.inr (some v))))) cn sn w2 post) else [w]
              | _ => [w]
            | _, _ => [w]
          | _ => [w]
        | .new ix => match tNw tb (mO q) ix with
          | some ci => if decide (cn + 1 ≤ mMc q) && decide (sn + (tFt tb ci).length ≤ mMs q) && decide (h.length + 1 ≤ 1000000) then
              x_run d tb tyl ot f dp k (pc + 3) L (.inr (some h.length) :: S) (h ++ [.inl (ci, (tFt tb ci).map (fun t => x_def d t.1))]) (cn + 1) (sn + (tFt tb ci).length) w post else [w]
          | none => [w]
        | .newarray ty => match S, (match ty with | .int => some 0 | .boolean => some 1 | _ => none) with
          | .inl e :: r, some t => match dKst d e with
            | some v => if decide (¬ v < 0) && decide (v.toNatClampNeg ≤ 100000) && decide (cn + 1 ≤ mMc q) && decide (sn + v.toNatClampNeg ≤ mMs q) && decide (h.length + 1 ≤ 1000000) then
                x_run d tb tyl ot f dp k (pc + 2) L (.inr (some h.length) :: r) (h ++ [.inr (t, List.replicate v.toNatClampNeg (.inl (dKc d 0)))]) (cn + 1) (sn + v.toNatClampNeg) w post else [w]
            | none => [w]
          | _, _ => [w]
        | .anewarray ix => match S, tAn tb (mO q) ix with
          | .inl e :: r, some t => match dKst d e with
            | some v => if decide (¬ v < 0) && decide (v.toNatClampNeg ≤ 100000) && decide (cn + 1 ≤ mMc q) && decide (sn + v.toNatClampNeg ≤ mMs q) && decide (h.length + 1 ≤ 1000000) then
                x_run d tb tyl ot f dp k (pc + 3) L (.inr (some h.length) :: r) (h ++ [.inr (t, List.replicate v.toNatClampNeg (.inr none))]) (cn + 1) (sn + v.toNatClampNeg) w post else [w]
            | none => [w]
          | _, _ => [w]
        | .multianewarray ix dm => match S, tMn tb (mO q) ix with
          | .inl e2 :: .inl e1 :: r, some (t2, t1) => match dKst d e1, dKst d e2 with
            | some v1, some v2 => if decide (dm = 2) && decide (¬ v1 < 0) && decide (¬ v2 < 0) && decide (v1.toNatClampNeg ≤ 100000) && decide (v2.toNatClampNeg ≤ 100000) && decide (t1 < 2) && decide (cn + (1 + v1.toNatClampNeg) ≤ mMc q) && decide (sn + (v1.toNatClampNeg + v1.toNatClampNeg * v2.toNatClampNeg) ≤ mMs q) && decide (h.length + 1 + v1.toNatClampNeg ≤ 1000000) then
                x_run d tb tyl ot f dp k (pc + 4) L (.inr (some h.length) :: r) (h ++ .inr (t2, x_refs (h.length + 1) v1.toNatClampNeg) :: x_rows t1 (List.replicate v2.toNatClampNeg (.inl (dKc d 0))) v1.toNatClampNeg) (cn + 1 + v1.toNatClampNeg) (sn + v1.toNatClampNeg + v1.toNatClampNeg * v2.toNatClampNeg) w post else [w]
            | _, _ => [w]
          | _, _ => [w]
        | .invokestatic ix => match tCal tb (mO q) ix with
          | some (j, so) => match dp with
            | dp2 + 1 => match tMth tb j with
              | some q2 => if decide (mNp q2 ≤ S.length) && decide (2 ≤ so) && decide ((S.drop (mNp q2)).length ≤ 8) && decide (mNp q2 ≤ mL q2) && decide (cn + mMc q2 ≤ mMc q) && decide (sn + mMs q2 ≤ mMs q) then
                  x_run d tb tyl ot f dp2 j 0 (x_en 0 (S.take (mNp q2)).reverse) [] h 0 0 w (fun w2 v h2 => x_run d tb tyl ot f dp k (pc + 3) L (x_push v (S.drop (mNp q2))) h2 (cn + mMc q2) (sn + mMs q2) w2 post) else [w]
              | none => [w]
            | 0 => [w]
          | none => if tBi tb (mO q) ix = some 1 then match S with
            | .inl n0 :: .inl pd :: .inr (some bd) :: .inl ps :: .inr (some bs) :: r => match h[bs]?, h[bd]?, dKst d n0, dKst d pd, dKst d ps with
              | some (.inr (0, us)), some (.inr (0, vs)), some n1, some d1, some s1 => if decide (¬ n1 < 0) && decide (¬ d1 < 0) && decide (¬ s1 < 0) && decide (s1.toNatClampNeg + n1.toNatClampNeg ≤ us.length) && decide (d1.toNatClampNeg + n1.toNatClampNeg ≤ vs.length) && decide (r.length ≤ 8) && us.all (fun u => u.isLeft) then
                  x_run d tb tyl ot f dp k (pc + 3) L r (h.set bd (.inr (0, vs.take d1.toNatClampNeg ++ (us.drop s1.toNatClampNeg).take n1.toNatClampNeg ++ vs.drop (d1.toNatClampNeg + n1.toNatClampNeg)))) cn sn w post else [w]
              | _, _, _, _, _ => [w]
            | _ => [w] else if tBi tb (mO q) ix = some 2 then match S with
            | .inl b :: .inl a :: r => if decide (r.length ≤ 8) && decide (cn ≤ mMc q) && decide (sn ≤ mMs q) then dBr d 2 a b w (fun w2 => x_run d tb tyl ot f dp k (pc + 3) L (.inl b :: r) h cn sn w2 post) (fun w2 => x_run d tb tyl ot f dp k (pc + 3) L (.inl a :: r) h cn sn w2 post) else [w]
            | _ => [w] else if tBi tb (mO q) ix = some 3 then match S with
            | .inl b :: .inl a :: r => if decide (r.length ≤ 8) && decide (cn ≤ mMc q) && decide (sn ≤ mMs q) then dBr d 2 b a w (fun w2 => x_run d tb tyl ot f dp k (pc + 3) L (.inl b :: r) h cn sn w2 post) (fun w2 => x_run d tb tyl ot f dp k (pc + 3) L (.inl a :: r) h cn sn w2 post) else [w]
            | _ => [w] else if tBi tb (mO q) ix = some 4 then match S with
            | .inl a :: r => if decide (r.length ≤ 8) && decide (cn ≤ mMc q) && decide (sn ≤ mMs q) then dBr d 3 a (dKc d 0) w (fun w2 => x_run d tb tyl ot f dp k (pc + 3) L (.inl a :: r) h cn sn w2 post) (fun w2 => x_run d tb tyl ot f dp k (pc + 3) L (.inl (dBin d 1 (dKc d 0) a) :: r) h cn sn w2 post) else [w]
            | _ => [w] else [w]
        | .invokevirtual ix => match dp, tCal tb (mO q) ix with
          | dp2 + 1, some (j, so) => match tMth tb j with
            | some q2 => match S.drop (mNp q2) with
              | .inr (some a) :: r => if decide (mNp q2 + 1 ≤ S.length) && decide (so = 0) && decide (x_rc ot h a = some (mRc q2)) && decide (r.length ≤ 8) && decide (mNp q2 + 1 ≤ mL q2) && decide (cn + mMc q2 ≤ mMc q) && decide (sn + mMs q2 ≤ mMs q) then
                    x_run d tb tyl ot f dp2 j 0 (x_en 0 (.inr (some a) :: (S.take (mNp q2)).reverse)) [] h 0 0 w (fun w2 v h2 => x_run d tb tyl ot f dp k (pc + 3) L (x_push v r) h2 (cn + mMc q2) (sn + mMs q2) w2 post) else [w]
              | _ => [w]
            | none => [w]
          | _, _ => [w]
        | .invokespecial ix => match tBi tb (mO q) ix with
          | some 0 => match S with
            | .inr (some _) :: r => if decide (r.length ≤ 8) then x_run d tb tyl ot f dp k (pc + 3) L r h cn sn w post else [w]
            | _ => [w]
          | _ => match dp, tCal tb (mO q) ix with
            | dp2 + 1, some (j, so) => match tMth tb j with
              | some q2 => match S.drop (mNp q2) with
                | .inr (some a) :: r => if decide (mNp q2 + 1 ≤ S.length) && decide (so = 1) && decide (r.length ≤ 8) && decide (mNp q2 + 1 ≤ mL q2) && decide (cn + mMc q2 ≤ mMc q) && decide (sn + mMs q2 ≤ mMs q) then
                    x_run d tb tyl ot f dp2 j 0 (x_en 0 (.inr (some a) :: (S.take (mNp q2)).reverse)) [] h 0 0 w (fun w2 v h2 => x_run d tb tyl ot f dp k (pc + 3) L (x_push v r) h2 (cn + mMc q2) (sn + mMs q2) w2 post) else [w]
                | _ => [w]
              | none => [w]
            | _, _ => [w]
        | .ireturn => match S with
          | [.inl e] => if x_retOk d (mR q) (.inl e) && decide (cn ≤ mMc q) && decide (sn ≤ mMs q) then post w (some (.inl e)) h else [w]
          | _ => [w]
        | .areturn => match S with
          | [.inr a] => if x_retOk d (mR q) (.inr a) && decide (cn ≤ mMc q) && decide (sn ≤ mMs q) then post w (some (.inr a)) h else [w]
          | _ => [w]
        | .return_ => match S with
          | [] => if decide (mR q = none) && decide (cn ≤ mMc q) && decide (sn ≤ mMs q) then post w none h else [w]
          | _ => [w]
        | _ => [w]
end XDefs
end
section
/-! A contract of a method that is plain though its class isn't. -/
section XPlain
theorem x_ofWF {l : Launch} {y : MethodName} {ws ws' : List Jvm.Cond} {rm : Room} {Pc : Array Value → State → Prop} {Qc : Array Value → State → Outcome → State → Prop} {mc ms : Nat} {free : Addr → Prop} {cc : ByteArray} {maxL : Nat} {ret : Option FieldType}
    (hy : plainFor y = true) (hw : ws = Jvm.Cond.code y cc maxL ret :: ws')
    (body : ∀ p e s m args below meth c s₁, BodyLoose p l y (headSpec ws rm) cc maxL ret e s m args below meth c s₁ → c.maxLocals = maxL → Pc args s →
      W p l e (headSpec ws rm).room s m args below meth c s.heap [] 0 0 (MQ below Qc args s mc ms free) (entryFrame m args maxL)) : Met l y ws rm Pc Qc mc ms free := by
  refine MetFree.of_bodySF (code := cc) (maxLocals := maxL) (ret := ret) hy ?_ ?_
  · intro args s m h hn
    obtain ⟨meth, c, h1, h2, h3, h4, h5, h6, -, -⟩ := Cond.code_spec hn (atoms_spec (ws := ws) h _ (by rw [hw]; exact List.mem_cons_self))
    exact ⟨meth, c, h1, h2, h3, h4, h5, h6⟩
  · intro p e s m args below meth c s₁ B hml hP _
    have hh0 : s₁.heap = s.heap := by rw [B.state]; rfl
    obtain ⟨t, a1, o, b1, b2, b3⟩ := body p e s m args below meth c s₁ B hml hP s₁ hh0 (Stand.of_body B)
    exact ⟨t, o, a1, b1, b2, ⟨b3.1, b3.2⟩⟩
theorem x_fmPlain : plainFor ⟨"java/lang/Math", "floorMod", "(II)I"⟩ = true := by decide +kernel
theorem x_plainFor {y : MethodName} (h : plainName y.cls = true) : plainFor y = true := by
  unfold plainFor
  simp [h]
end XPlain
end
section
/-! What the evaluator's heap is in the machine's, and what the tables must say. -/
section XOkDefs
variable {E K : Type}
def x_am (base : Nat) (sa : Nat → Nat) (k : Nat) : Nat := if k < 1000000 then base + k else sa k
def x_rv (d : XD E K) (am : Nat → Nat) : XV E → Value
  | .inl e => .int (dEv d e)
  | .inr none => .null
  | .inr (some k) => .ref (am k)
theorem x_rvc (d : XD E K) (am : Nat → Nat) (v : XV E) : (x_rv d am v).category = 1 := by
  rcases v with e | (_ | k) <;> rfl
def x_at (D : va_G) (tc : Nat → ClassId) (cl : List vw_C) (rv : XV E → Value) (a : Nat) (z : XC E) (H : Heap) : Prop := match z with
  | .inl o => ∃ r : vw_C, cl[o.1]? = some r ∧ o.2.length = r.2.2 ∧ t_OB a (D.1 o.1) r.2.2 (D.2 o.1) H (vp_V (o.2.map rv))
  | .inr o => H[a]? = some (arrV (tc o.1) o.2.length (fun j => rv (o.2.getD j (.inr none))))
theorem x_at_kept {D : va_G} {tc : Nat → ClassId} {cl : List vw_C} {rv : XV E → Value} {a : Nat} {z : XC E} {H H1 : Heap} (h : x_at D tc cl rv a z H) (hq : H1[a]? = H[a]?) : x_at D tc cl rv a z H1 := by
  rcases z with o | o
  · obtain ⟨r, h1, h2, h3⟩ := h
    exact ⟨r, h1, h2, h3.kept hq⟩
  · show H1[a]? = _
    rw [hq]
    exact h
def x_Inv (D : va_G) (tc : Nat → ClassId) (cl : List vw_C) (rv : XV E → Value) (base : Nat) (h : List (XC E)) (H : Heap) : Prop :=
  H.size = base + h.length ∧ h.length ≤ 1000000 ∧ ∀ (k : Nat) (z : XC E), h[k]? = some z → x_at D tc cl rv (base + k) z H
def x_TbOk (TS TN : List Jvm.Cond) (cl : List vw_C) (tyl : List FieldType) (tb : XT) : Prop :=
  (∀ k q, tMth tb k = some q → plainFor (mY q) = true ∧ (k ≠ 0 → Jvm.Cond.code (mY q) (mB q) (mL q) (mR q) ∈ TS) ∧ (k ≠ 0 → Jvm.Cond.initialized (mY q).cls ∈ TS) ∧ ((mY q).cls ≠ "java/lang/invoke/MethodHandle" ∧ (mY q).cls ≠ "java/lang/invoke/VarHandle") ∧ mL q ≤ 40 ∧ tNm tb (mO q) = (mY q).cls ∧
    (parseMethodDescriptor (mY q).desc).map (fun d => d.parameters.length) = some (mNp q) ∧ (mI q = true → (mY q).name = "<init>") ∧ (mI q = true → ∀ r, cl[mRc q]? = some r → r.1 = (mY q).cls) ∧ (∀ pc i n, mC q pc = some (i, n) → decode (mB q) pc = .ok (i, n) ∧ x_lenOk i n = true)) ∧
  (∀ o ix ci j, tFld tb o ix = some (ci, j) → ∃ r, cl[ci]? = some r ∧ j < r.2.2 ∧ Jvm.Cond.fieldLink (tNm tb o) ix (r.2.1 j).1 (r.2.1 j).2.1 (r.2.1 j).2.2.1 ∈ TS) ∧
  (∀ ci r, cl[ci]? = some r → (∀ w ∈ u_ws r.1 r.2.1 r.2.2, w ∈ TS) ∧ (tFt tb ci).length = r.2.2 ∧ (∀ j t, (tFt tb ci)[j]? = some t → parseFieldDescriptor (r.2.1 j).2.2.1 = some t.1 ∧ (r.2.1 j).2.2.2 = t.2) ∧ (∀ a, a < r.2.2 → ∀ b, b < r.2.2 → a ≠ b → (r.2.1 a).2.1 ≠ (r.2.1 b).2.1) ∧
    Jvm.Cond.instantiable r.1 r.2.2 ∈ TS ∧ Jvm.Cond.initialized r.1 ∈ TS ∧ (∀ j, j < r.2.2 → (r.2.1 j).1 = r.1) ∧ tNm tb ci = r.1) ∧
  (∀ o ix ci, tNw tb o ix = some ci → ∃ r, cl[ci]? = some r ∧ Jvm.Cond.classLink (tNm tb o) ix r.1 ∈ TS) ∧
  (∀ o ix j so q, tCal tb o ix = some (j, so) → tMth tb j = some q → j ≠ 0 ∧
    (so = 0 → Jvm.Cond.methodLink (tNm tb o) ix (mY q) ∈ TS ∧ Jvm.Cond.instanceMethod (mY q) ∈ TS ∧ Jvm.Cond.selects (mY q).cls (mY q) (mY q) ∈ TS ∧ ∀ r, cl[mRc q]? = some r → r.1 = (mY q).cls) ∧
    (so = 1 → Jvm.Cond.methodLink (tNm tb o) ix (mY q) ∈ TS ∧ Jvm.Cond.instanceMethod (mY q) ∈ TS ∧ (mY q).name = "<init>" ∧ mR q = none) ∧
    (so = 2 → Jvm.Cond.methodLink (tNm tb o) ix (mY q) ∈ TS ∧ Jvm.Cond.static (mY q) ∈ TS) ∧
    (so = 3 → (∃ host, Jvm.Cond.methodLinkNest (tNm tb o) ix (mY q) host ∈ TN) ∧ Jvm.Cond.static (mY q) ∈ TS) ∧ so ≤ 3) ∧
  (Jvm.Cond.arrayClass .int ∈ TS ∧ Jvm.Cond.arrayClass .boolean ∈ TS ∧ tyl[0]? = some .int ∧ tyl[1]? = some .boolean) ∧
  (∀ o ix t, tAn tb o ix = some t → ∃ C, tyl[t]? = some (.object C) ∧ Jvm.Cond.classLink (tNm tb o) ix C ∈ TS ∧ Jvm.Cond.arrayOver (.object C) ∈ TN) ∧
  (∀ o ix t2 t1, tMn tb o ix = some (t2, t1) → ∃ ty, tyl[t1]? = some ty ∧ (ty = .int ∨ ty = .boolean) ∧ tyl[t2]? = some (.array ty) ∧ Jvm.Cond.classLink (tNm tb o) ix ("[" ++ (FieldType.array ty).toString) ∈ TS ∧ Jvm.Cond.arrayOver (.array ty) ∈ TN ∧ Jvm.Cond.arrayClass ty ∈ TS) ∧
  ((∀ o ix, tBi tb o ix = some 0 → Jvm.Cond.methodLink (tNm tb o) ix Lib.objectInit ∈ TS) ∧ (∀ o ix, tBi tb o ix = some 1 → Jvm.Cond.methodLink (tNm tb o) ix arraycopyName ∈ TS) ∧ Jvm.Cond.instanceMethod Lib.objectInit ∈ TS ∧ Jvm.Cond.code Lib.objectInit ⟨#[0xb1]⟩ 1 none ∈ TS ∧
    Jvm.Cond.native arraycopyName ∈ TS ∧ Jvm.Cond.static arraycopyName ∈ TS ∧ Jvm.Cond.initialized "java/lang/System" ∈ TS ∧
    (∀ o ix, tBi tb o ix = some 2 → Jvm.Cond.methodLink (tNm tb o) ix Lib.Math.max.name ∈ TS ∧ Jvm.Cond.static Lib.Math.max.name ∈ TS ∧ Jvm.Cond.initialized "java/lang/Math" ∈ TS ∧ Jvm.Cond.code Lib.Math.max.name Lib.Math.max.code 2 (some .int) ∈ TS) ∧
    (∀ o ix, tBi tb o ix = some 3 → Jvm.Cond.methodLink (tNm tb o) ix Lib.Math.min.name ∈ TS ∧ Jvm.Cond.static Lib.Math.min.name ∈ TS ∧ Jvm.Cond.initialized "java/lang/Math" ∈ TS ∧ Jvm.Cond.code Lib.Math.min.name Lib.Math.min.code 2 (some .int) ∈ TS) ∧
    (∀ o ix, tBi tb o ix = some 4 → Jvm.Cond.methodLink (tNm tb o) ix Lib.Math.abs.name ∈ TS ∧ Jvm.Cond.static Lib.Math.abs.name ∈ TS ∧ Jvm.Cond.initialized "java/lang/Math" ∈ TS ∧ Jvm.Cond.code Lib.Math.abs.name Lib.Math.abs.code 1 (some .int) ∈ TS)) ∧
  (∀ o ix v, tLi tb o ix = some v → Jvm.Cond.constant (tNm tb o) ix v ∈ TS) ∧
  (∀ w ∈ TS, ((w.onTables && w.keeps) = true ∨ ∃ ty, w = .arrayClass ty)) ∧
  (∀ w ∈ TN, ∀ u U : State, u.WarmedH U.vm → w.before #[] u = true → w.before #[] U = true) ∧ (∀ w ∈ TN, ∀ (a a' : Array Value) (U : State), w.before a U = true → w.before a' U = true) ∧
  (∀ ci, ∀ t ∈ tFt tb ci, t.1 = .int ∨ t.1 = .boolean ∨ x_isRef t.1 = true)
/-- what holds at a method's entry beside its own words -/
def x_Env (TN : List Jvm.Cond) (D : va_G) (cl : List vw_C) (tys : List (ClassId × FieldType)) (XE : State → Heap → Prop) (U : State) (H : Heap) : Prop :=
  va_K D cl tys U ∧ (∀ w ∈ TN, w.before #[] U = true) ∧ XE U H
def x_XeOk (XE : State → Heap → Prop) (base : Nat) : Prop := ∀ (u U : State) (H H1 : Heap), u.WarmedH U.vm → (∀ q : Nat, q < base → H1[q]? = H[q]?) → base ≤ H.size → XE u H → XE U H1
def x_rov (sa : Nat → Nat) : Int32 ⊕ Option Nat → Value
  | .inl v => .int v
  | .inr none => .null
  | .inr (some a) => .ref (sa a)
/-- what lies outside is there -/
def x_OutOk (TS : List Jvm.Cond) (tb : XT) (ot : XO E) (d : XD E K) (XE : State → Heap → Prop) (base : Nat) (sa : Nat → Nat) : Prop :=
  (∀ o ix a, oSl ot o ix = some a → 1000000 < a ∧ ∀ U H, XE U H → ∃ tx, vk_R (tNm tb o) ix tx (sa a) U) ∧
  (∀ a o ix v, oFl ot a o ix = some v → (∀ b, v = .inr (some b) → 1000000 ≤ b) ∧ ∃ C n dd, Jvm.Cond.fieldLink (tNm tb o) ix C n dd ∈ TS ∧ ∀ U H, XE U H → va_OF C n dd (x_rov sa v) (sa a) (fun q => base ≤ q) U H) ∧
  (∀ o ix v, oGs ot o ix = some v → (∀ b, v = .inr (some b) → 1000000 ≤ b) ∧ ∃ C n dd, Jvm.Cond.fieldLink (tNm tb o) ix C n dd ∈ TS ∧ ∀ U H, XE U H → va_Z C n dd (x_rov sa v) (fun q => base ≤ q) U H) ∧
  (∀ a bs, oBy ot a = some bs → ∀ U H, XE U H → va_T .byte (sa a) bs.length (fun j => .int (bs.getD j 0)) (fun q => base ≤ q) U H) ∧
  (∀ U H, XE U H → va_X (sa 1000000) (oSn ot) (fun j => dEv d (oSc ot j)) U H ∧ sa 1000000 < base) ∧
  (∀ a rc q k, oCl ot a = some rc → tMth tb k = some q → mRc q = rc → ∀ U H, XE U H → va_O (mY q).cls (sa a) (fun q => base ≤ q) U H)
theorem x_ov_spec {d : XD E K} (hd : ∀ n, dEv d (dKc d n) = n) {base : Nat} {sa : Nat → Nat} {v : Int32 ⊕ Option Nat} (h : ∀ b, v = .inr (some b) → 1000000 ≤ b) : x_rv d (x_am base sa) (x_ov d v) = x_rov sa v := by
  rcases v with v | (_ | b)
  · exact congrArg Value.int (hd v)
  · rfl
  · have h1 := h b rfl
    show Value.ref (x_am base sa b) = Value.ref (sa b)
    unfold x_am
    rw [if_neg (by omega)]
/-- the frame of a method -/
def x_Cx (TS TN : List Jvm.Cond) (D : va_G) (cl : List vw_C) (tys : List (ClassId × FieldType)) (XE : State → Heap → Prop) (tb : XT) (q : XM) (p : Program) (R : Room) (s : State) (m : MethodId) (args : Array Value) (meth : Method) (c : Code) (base dp : Nat) : Prop :=
  p.tables.exec = Jvm.exec ∧ c.code = mB q ∧ c.maxLocals = mL q ∧ s.vm.findClass (tNm tb (mO q)) = some m.cls ∧ (∀ w ∈ TS, w.before args s = true) ∧ meth.sig.returnType = mR q ∧ meth.locks = false ∧ (mI q = true → meth.name = "<init>") ∧ x_Env TN D cl tys XE s s.heap ∧ base ≤ s.heap.size ∧
  dp + 1 ≤ R.frames ∧ 64 * (dp + 1) ≤ R.locals ∧ mMc q ≤ R.cells ∧ mMs q ≤ R.slots
/-- a method's answer -/
def x_Q (d : XD E K) (D : va_G) (tc : Nat → ClassId) (cl : List vw_C) (am : Nat → Nat) (base : Nat) (post : List K → Option (XV E) → List (XC E) → XR K) : Array Value → State → Outcome → State → Prop := fun _ st o t =>
  (∃ (w : List K) (v : Option (XV E)) (h : List (XC E)), XPa (dHd d) w ∧ XOk (dHd d) (post w v h) ∧ o = .returned (v.map (x_rv d am)) ∧ x_Inv D tc cl (x_rv d am) base h t.heap) ∧ va_F (fun q => base ≤ q) st t
theorem x_bad {hd : K → Prop} {w : List K} (h : XOk hd [w]) (hw : XPa hd w) : False := by
  obtain ⟨k, hk, hn⟩ := h w (List.mem_singleton.mpr rfl)
  exact hn (hw k hk)
theorem x_if {hd : K → Prop} {w : List K} {b : Prop} {i : Decidable b} {r : XR K} (h : XOk hd (@ite _ b i r [w])) (hw : XPa hd w) : b ∧ XOk hd r := by
  by_cases hb : b
  · rw [if_pos hb] at h
    exact ⟨hb, h⟩
  · rw [if_neg hb] at h
    exact (x_bad h hw).elim
theorem x_jp_spec {pc t : Nat} {off : Int} (h : x_jp pc off = some t) : (pc : Int) + off = (t : Int) := by
  unfold x_jp at h
  by_cases hz : 0 ≤ (pc : Int) + off
  · rw [if_pos hz] at h
    cases h
    omega
  · rw [if_neg hz] at h
    cases h
theorem x_len1 {i : Instr} {n m : Nat} (h : x_lenOk i n = true) (hm : x_lenOk i n = (n == m)) : n = m := by
  rw [hm] at h
  simpa using h
theorem x_lk_spec {d : XD E K} {am : Nat → Nat} {ls : Array Slot} {nL : Nat} {L : List (Nat × XV E)} {i : Nat} {v : XV E} (hl : lv_has ls nL (L.map (fun q => (q.1, x_rv d am q.2)))) (h : x_lk L i = some v) : ls[i]? = some (.val (x_rv d am v)) := by
  unfold x_lk at h
  obtain ⟨q, hq, rfl⟩ := Option.map_eq_some_iff.mp h
  have h1 := List.mem_of_find?_eq_some hq
  have h2 := List.find?_some hq
  simp only [beq_iff_eq] at h2
  subst h2
  exact hl.2.2 (q.1, x_rv d am q.2) (List.mem_map.mpr ⟨q, h1, rfl⟩)
theorem x_st_spec (d : XD E K) (am : Nat → Nat) (L : List (Nat × XV E)) (i : Nat) (v : XV E) : (i, x_rv d am v) :: (L.map (fun q => (q.1, x_rv d am q.2))).filter (fun q => !(q.1 == i) && !(q.1 + 1 == i && q.2.category == 2)) = (x_st L i v).map (fun q => (q.1, x_rv d am q.2)) := by
  unfold x_st
  rw [List.map_cons, List.filter_map]
  refine congrArg _ (congrArg _ (List.filter_congr fun q _ => ?_))
  have hc : ((x_rv d am q.2).category == 2) = false := by rw [x_rvc]; rfl
  simp [hc]
theorem x_en_spec (d : XD E K) (am : Nat → Nat) : ∀ (vs : List (XV E)) (i : Nat), lv_args i (vs.map (x_rv d am)) = (x_en i vs).map (fun q => (q.1, x_rv d am q.2))
  | [], _ => rfl
  | v :: vs, i => by
    show (i, x_rv d am v) :: lv_args (if (x_rv d am v).category = 2 then i + 2 else i + 1) (vs.map (x_rv d am)) = (i, x_rv d am v) :: _
    rw [x_rvc, if_neg (by decide), x_en_spec d am vs (i + 1)]
theorem x_sl (d : XD E K) (am : Nat → Nat) : ∀ vs : List (XV E), (lg_sl (vs.map (x_rv d am))).length = vs.length
  | [] => rfl
  | v :: vs => by
    have ih := x_sl d am vs
    unfold lg_sl at ih ⊢
    rw [List.map_cons, List.flatMap_cons, x_rvc, if_neg (by decide), List.length_append, ih]
    simp [Nat.add_comm]
theorem x_cats (d : XD E K) (am : Nat → Nat) : ∀ S : List (XV E), ((S.map (x_rv d am)).map fun v => v.category).sum = S.length
  | [] => rfl
  | v :: S => by
    rw [List.map_cons, List.map_cons, List.sum_cons, x_rvc, x_cats d am S, List.length_cons, Nat.add_comm]
/-- an index that is known, or told apart -/
theorem x_clamp (j : Nat) (h : j < 2000) : (nI j).toNatClampNeg = j ∧ ¬ nI j < 0 := ⟨nI_clamp (by omega), nI_pos (by omega)⟩
theorem x_ixs_spec {d : XD E K} (hd : x_DmOk d) {a : E} {kk : Nat → List K → XR K} : ∀ (n : Nat) (w : List K), n ≤ 2000 → XOk (dHd d) (x_ixs d a kk n w) → XPa (dHd d) w → ∃ w2, XPa (dHd d) w2 ∧ (dEv d a).toNatClampNeg < n ∧ ¬ dEv d a < 0 ∧ XOk (dHd d) (kk (dEv d a).toNatClampNeg w2)
  | 0, w, _, h, hw => (x_bad h hw).elim
  | n + 1, w, hn, h, hw => by
    obtain ⟨w2, h2, h3⟩ := hd.2.2.2.2 0 a (dKc d (nI n)) w _ _ h hw
    rw [hd.1] at h3
    rcases h3 with ⟨e, h3⟩ | ⟨-, h3⟩
    · have e2 : dEv d a = nI n := of_decide_eq_true e
      obtain ⟨c1, c2⟩ := x_clamp n (by omega)
      rw [e2, c1]
      exact ⟨w2, h2, Nat.lt_succ_self n, c2, h3⟩
    · obtain ⟨w3, g1, g2, g3, g4⟩ := x_ixs_spec hd n w2 (by omega) h3 h2
      exact ⟨w3, g1, by omega, g3, g4⟩
theorem x_ix_spec {d : XD E K} (hd : x_DmOk d) {a : E} {kk : Nat → List K → XR K} {n : Nat} {w : List K} (h : XOk (dHd d) (x_ix d a n w kk)) (hw : XPa (dHd d) w) : ∃ w2, XPa (dHd d) w2 ∧ (dEv d a).toNatClampNeg < n ∧ ¬ dEv d a < 0 ∧ XOk (dHd d) (kk (dEv d a).toNatClampNeg w2) := by
  unfold x_ix at h
  split at h
  · rename_i v hv
    have e := hd.2.2.2.1 a v hv
    rw [e]
    by_cases hb : (decide (v < 0) || decide (n ≤ v.toNatClampNeg)) = true
    · rw [if_pos hb] at h
      exact (x_bad h hw).elim
    · rw [if_neg hb] at h
      simp only [Bool.or_eq_true, decide_eq_true_eq, not_or] at hb
      exact ⟨w, hw, by omega, hb.1, h⟩
  · obtain ⟨hb, h⟩ := x_if h hw
    exact x_ixs_spec hd n w (by omega) h hw
/-- a switch's pairs: where it goes -/
theorem x_sw_spec {d : XD E K} (hd : x_DmOk d) {a : E} {dflt : Int} {kk : Int → List K → XR K} : ∀ (ps : List (Int × Int)) (w : List K), XOk (dHd d) (x_sw d a dflt kk ps w) → XPa (dHd d) w → ∃ w2, XPa (dHd d) w2 ∧ XOk (dHd d) (kk (Op.lookupswitch.offset ps dflt (dEv d a).toInt) w2)
  | [], w, h, hw => ⟨w, hw, h⟩
  | (k, o) :: r, w, h, hw => by
    obtain ⟨hk, h⟩ := x_if h hw
    obtain ⟨w2, h2, h3⟩ := hd.2.2.2.2 0 a (dKc d (Int32.ofInt k)) w _ _ h hw
    rw [hd.1] at h3
    rcases h3 with ⟨e, h3⟩ | ⟨e, h3⟩
    · have e2 : dEv d a = Int32.ofInt k := of_decide_eq_true e
      have e3 : Op.lookupswitch.offset ((k, o) :: r) dflt (dEv d a).toInt = o := by
        rw [e2, hk]
        simp [Op.lookupswitch.offset]
      rw [e3]
      exact ⟨w2, h2, h3⟩
    · have e2 : ¬ dEv d a = Int32.ofInt k := of_decide_eq_false e
      rw [lv_osw e2 hk]
      exact x_sw_spec hd r w2 h3 h2
theorem x_tp_out (dflt : Int) : ∀ (os : List Int) (lo x : Int), (x < lo ∨ lo + os.length ≤ x) → Op.lookupswitch.offset (x_tp lo os) dflt x = dflt
  | [], _, _, _ => rfl
  | o :: r, lo, x, h => by
    have ih := x_tp_out dflt r (lo + 1) x (by simp only [List.length_cons] at h; omega)
    have hne : ¬ x = lo := by simp only [List.length_cons] at h; omega
    have hne2 : ¬ lo = x := fun q => hne q.symm
    simp only [x_tp, Op.lookupswitch.offset] at ih ⊢
    first | (rw [if_neg hne]; exact ih) | (rw [if_neg hne2]; exact ih) | simp_all
theorem x_tp_in (dflt : Int) : ∀ (os : List Int) (lo x : Int), lo ≤ x → x < lo + os.length → os[(x - lo).toNat]? = some (Op.lookupswitch.offset (x_tp lo os) dflt x)
  | [], lo, x, h1, h2 => by simp only [List.length_nil] at h2; omega
  | o :: r, lo, x, h1, h2 => by
    by_cases he : x = lo
    · subst he
      simp [x_tp, Op.lookupswitch.offset]
    · have ih := x_tp_in dflt r (lo + 1) x (by omega) (by simp only [List.length_cons] at h2; omega)
      have e1 : (x - lo).toNat = (x - (lo + 1)).toNat + 1 := by omega
      have he2 : ¬ lo = x := fun q => he q.symm
      rw [e1, List.getElem?_cons_succ, ih]
      simp only [x_tp, Op.lookupswitch.offset]
      first | rw [if_neg he] | rw [if_neg he2] | simp_all
end XOkDefs
end
section
/-! The rows that touch the heap, over the evaluator's heap. -/
section XRows
variable {E K : Type}
variable {p : Program} {l : Launch} {e : Env} {R : Room} {s : State} {m : MethodId} {args : Array Value} {below : List Frame} {meth : Method} {c : Code} {H : Heap} {locs : List Loc} {cells slots : Nat} {Q : State → Prop}
variable {cc : ByteArray} {pc : Nat} {ls : Array Slot} {rest : List Value} {D : va_G} {tc : Nat → ClassId} {cl : List vw_C} {tys : List (ClassId × FieldType)} {tyl : List FieldType} {TS TN : List Jvm.Cond} {tb : XT}
variable {rv : XV E → Value} {base : Nat} {h : List (XC E)}
def x_Tys (tc : Nat → ClassId) (tys : List (ClassId × FieldType)) (tyl : List FieldType) : Prop := ∀ t ty, tyl[t]? = some ty → tys[t]? = some (tc t, ty)
theorem x_Inv_set {H1 : Heap} {k : Nat} {z0 z : XC E} (hI : x_Inv D tc cl rv base h H) (hz : h[k]? = some z0) (hs : H1.size = H.size) (oq : ∀ q : Nat, q ≠ base + k → H1[q]? = H[q]?) (hn : x_at D tc cl rv (base + k) z H1) : x_Inv D tc cl rv base (h.set k z) H1 := by
  obtain ⟨i1, i2, i3⟩ := hI
  refine ⟨by rw [hs, i1, List.length_set], by rw [List.length_set]; exact i2, fun j y hj => ?_⟩
  by_cases hjk : j = k
  · subst hjk
    rw [List.getElem?_set_self (List.getElem?_eq_some_iff.mp hz).1] at hj
    cases hj
    exact hn
  · rw [List.getElem?_set_ne (fun q => hjk q.symm)] at hj
    exact x_at_kept (i3 j y hj) (oq _ (by omega))
theorem x_Inv_app {H1 : Heap} {z : XC E} (hI : x_Inv D tc cl rv base h H) (hs : H1.size = H.size + 1) (oq : ∀ q : Nat, q < H.size → H1[q]? = H[q]?) (hl : h.length + 1 ≤ 1000000) (hn : x_at D tc cl rv (base + h.length) z H1) : x_Inv D tc cl rv base (h ++ [z]) H1 := by
  obtain ⟨i1, i2, i3⟩ := hI
  refine ⟨by rw [hs, i1, List.length_append, List.length_singleton]; omega, by rw [List.length_append, List.length_singleton]; exact hl, fun j y hj => ?_⟩
  by_cases hjl : j < h.length
  · rw [List.getElem?_append_left hjl] at hj
    exact x_at_kept (i3 j y hj) (oq _ (by omega))
  · rw [List.getElem?_append_right (by omega)] at hj
    have h0 : j - h.length < 1 := (List.getElem?_eq_some_iff.mp hj).1
    have h1 : j = h.length := by omega
    subst h1
    rw [Nat.sub_self] at hj
    cases hj
    exact hn
theorem x_S_app {A : Nat → Prop} {H0 H1 : Heap} (hS : va_S A H0 H locs) (hs : H.size ≤ H1.size) (oq : ∀ q : Nat, q < H.size → H1[q]? = H[q]?) : va_S A H0 H1 locs :=
  ⟨Nat.le_trans hS.1 hs, fun q h1 h2 => (oq q (Nat.lt_of_lt_of_le h1 hS.1)).trans (hS.2.1 q h1 h2), hS.2.2⟩
theorem x_getf {o ix a ci j : Nat} {fs : List (XV E)} {v : XV E} (hexec : p.tables.exec = Jvm.exec) (hb : c.code = cc) (hts : ∀ w ∈ TS, w.before args s = true) (hT : x_TbOk TS TN cl tyl tb) (hown : s.vm.findClass (tNm tb o) = some m.cls) (hK : va_K D cl tys s) (hI : x_Inv D tc cl rv base h H)
    (ha : h[a]? = some (.inl (ci, fs))) (hf : tFld tb o ix = some (ci, j)) (hv : fs[j]? = some v) (hdg : decode cc pc = .ok (.getfield ix, 3))
    (kk : W p l e R s m args below meth c H locs cells slots Q (F0 m (pc + 3) ls (rv v :: rest))) : W p l e R s m args below meth c H locs cells slots Q (F0 m pc ls (.ref (base + a) :: rest)) := by
  obtain ⟨r, h1, hlen, cell, q1, q2, q3, q4⟩ := hI.2.2 a _ ha
  obtain ⟨r2, g1, hk, hlink⟩ := hT.2.1 o ix ci j hf
  obtain rfl : r2 = r := Option.some.inj (g1.symm.trans h1)
  obtain ⟨C, T, N⟩ := r2
  obtain ⟨t1, t2, t3, t4, t5, t6, t7, t8⟩ := hT.2.2.1 ci _ h1
  obtain ⟨hS, hfc, kC, hkC, hkind⟩ := hK.1 ci _ h1
  obtain ⟨cf, kf, fi, f, hi, hsl⟩ := hS j hk
  refine W.getf hexec hb hown (hts _ hlink) hi (u_facts hfc hkC (u_lays hts t1 hk) hi).1 q1 (by rw [q3]; exact fun h => by cases h) (v := rv v) ?_ rfl rfl hdg kk
  rw [hsl, q4 j hk]
  simp [vp_V, hv]
theorem x_putf {o ix a ci j : Nat} {fs : List (XV E)} {v : XV E} {ty : FieldType × Bool} (hexec : p.tables.exec = Jvm.exec) (hb : c.code = cc) (hts : ∀ w ∈ TS, w.before args s = true) (hT : x_TbOk TS TN cl tyl tb) (hown : s.vm.findClass (tNm tb o) = some m.cls) (hK : va_K D cl tys s) (hI : x_Inv D tc cl rv base h H)
    (hS0 : va_S (fun q => base ≤ q) s.heap H locs) (ha : h[a]? = some (.inl (ci, fs))) (hf : tFld tb o ix = some (ci, j)) (hty : (tFt tb ci)[j]? = some ty) (hl : j < fs.length) (hn : narrow ty.1 (rv v) = rv v) (hfit : fits ty.1 (rv v) = true)
    (hfin : ty.2 = false ∨ (meth.name = "<init>" ∧ ∀ r, cl[ci]? = some r → r.1 = tNm tb o)) (hdg : decode cc pc = .ok (.putfield ix, 3))
    (kk : ∀ (H1 : Heap) (locs1 : List Loc), x_Inv D tc cl rv base (h.set a (.inl (ci, fs.set j v))) H1 → va_S (fun q => base ≤ q) s.heap H1 locs1 → W p l e R s m args below meth c H1 locs1 cells slots Q (F0 m (pc + 3) ls rest)) : W p l e R s m args below meth c H locs cells slots Q (F0 m pc ls (rv v :: .ref (base + a) :: rest)) := by
  obtain ⟨r, h1, hlen, cell, q1, q2, q3, q4⟩ := hI.2.2 a _ ha
  obtain ⟨r2, g1, hk, hlink⟩ := hT.2.1 o ix ci j hf
  obtain rfl : r2 = r := Option.some.inj (g1.symm.trans h1)
  obtain ⟨C, T, N⟩ := r2
  obtain ⟨t1, t2, t3, t4, t5, t6, t7, t8⟩ := hT.2.2.1 ci _ h1
  have hap : ∀ x y, x < N → y < N → x ≠ y → (D.2 ci) x ≠ (D.2 ci) y := by
    refine va_apart (own := C) (T := T) hts t1 (fun k => ((tFt tb ci).getD k (.int, false)).1) (fun k hk => ?_) t4 hK h1
    have hk2 : k < (tFt tb ci).length := by rw [t2]; exact hk
    have e1 : (tFt tb ci)[k]? = some ((tFt tb ci)[k]) := List.getElem?_eq_getElem hk2
    have e2 := (t3 k _ e1).1
    rw [e2, List.getD_eq_getElem?_getD, e1]
    rfl
  obtain ⟨hS, hfc, kC, hkC, hkind⟩ := hK.1 ci _ h1
  obtain ⟨cf, kf, fi, f, hi, hsl⟩ := hS j hk
  have hlay := hts _ (t1 _ (u_in_lay hk))
  obtain ⟨d1, d2⟩ := t3 j ty hty
  have fin : ∀ (H1 : Heap) (locs1 : List Loc), H1[base + a]? = some (cell.setSlot f.slot (rv v)) → H1.size = H.size → (∀ q : Nat, q ≠ base + a → H1[q]? = H[q]?) → locs1 = locs ++ [⟨base + a, f.slot⟩] → W p l e R s m args below meth c H1 locs1 cells slots Q (F0 m (pc + 3) ls rest) := by
    intro H1 locs1 e1 e2 e3 e4
    subst e4
    rw [hsl] at e1 ⊢
    refine kk H1 _ (x_Inv_set hI ha e2 e3 ⟨_, h1, by rw [List.length_set]; exact hlen, ?_⟩) (hS0.put e2 e3 (Nat.le_add_right _ _))
    refine t_OB.to (V := updV (vp_V (fs.map rv)) j (rv v)) ⟨_, e1, q2, q3, t_set q4 hap hk (rv v)⟩ (fun i _ => ?_)
    rw [vp_updV_set (by rw [List.length_map]; exact hl), List.map_set]
  by_cases hfz : ty.2 = false
  · unfold u_lay at hlay
    rw [if_neg (by show ¬ (T j).2.2.2 = true; rw [d2, hfz]; decide)] at hlay
    have h6 := u_store hfc hkC hkind hlay hi d1 hn hfit
    exact W.putK hexec hb (f := f) ⟨hown, hts _ hlink, ⟨_, _, _, hi⟩, (u_facts hfc hkC (u_lays hts t1 hk) hi).1⟩ (by rw [q2]; exact h6) q1 q3 (by rw [hsl]; exact k2_hasslot (q4 j hk)) rfl rfl hdg fun H' e1 e2 e3 => fin H' _ e1 e2 e3 rfl
  · obtain ⟨hin2, hdecl⟩ := hfin.resolve_left hfz
    have hCo : C = tNm tb o := hdecl _ h1
    have hto : (T j).1 = tNm tb o := (t7 j hk).trans hCo
    unfold u_lay at hlay
    rw [if_pos (by show (T j).2.2.2 = true; rw [d2]; simpa using hfz)] at hlay
    have hcf : m.cls = cf := by
      obtain ⟨_, _, c', _, _, _, -, -, hf', -, -, -, hown2, -⟩ := Cond.laysFinal_spec hlay
      have e1 : c' = cf := by have := hi.symm.trans hf'; simp at this; exact this.1.symm
      rw [hto] at hown2
      rw [← e1]; exact Option.some.inj (hown.symm.trans hown2)
    have h6 := u_fits hfc hkC hkind (Or.inr hlay) hi d1 hn hfit
    exact W.putFinK hexec hb hown (hts _ hlink) hi (u_facts hfc hkC (u_lays hts t1 hk) hi).1 hcf hin2 (by rw [q2]; exact h6) q1 q3 (by rw [hsl]; exact k2_hasslot (q4 j hk)) rfl rfl hdg fun H' e1 e2 e3 => fin H' _ e1 e2 e3 rfl
theorem x_arr {D : va_G} {a t : Nat} {vs : List (XV E)} {ty : FieldType} (hK : va_K D cl tys s) (hY : x_Tys tc tys tyl) (hI : x_Inv D tc cl rv base h H) (ha : h[a]? = some (.inr (t, vs))) (ht : tyl[t]? = some ty) :
    ∃ cell : Cell, H[base + a]? = some cell ∧ s.isArrayOf cell ty ∧ cell.vm = .none ∧ cell.slots.size = vs.length ∧ cell = arrV (tc t) vs.length (fun j => rv (vs.getD j (.inr none))) ∧ ∀ (j : Nat) (v : XV E), vs[j]? = some v → cell.slots[j]? = some (rv v) := by
  have hc := hI.2.2 a _ ha
  refine ⟨_, hc, (hK.2 t _ (hY t ty ht)).1 _ _, rfl, arrV_size _ _ _, rfl, fun j v hv => ?_⟩
  rw [arrV_read _ _ (List.getElem?_eq_some_iff.mp hv).1, List.getD_eq_getElem?_getD, hv]
  rfl
theorem x_stored {t j : Nat} {vs : List (XV E)} {v : XV E} (hj : j < vs.length) : (arrV (tc t) vs.length (fun j => rv (vs.getD j (.inr none)))).setSlot j (rv v) = arrV (tc t) (vs.set j v).length (fun i => rv ((vs.set j v).getD i (.inr none))) := by
  rw [arrV_store, List.length_set]
  refine congrArg (arrV (tc t) vs.length) (funext fun i => ?_)
  by_cases hij : i = j
  · subst hij
    simp [updV, List.getD_eq_getElem?_getD, List.getElem?_set_self hj]
  · simp [updV, hij, List.getD_eq_getElem?_getD, List.getElem?_set_ne (fun q => hij q.symm)]
theorem x_iald {a : Nat} {vs : List (XV E)} {i : Int32} {v : XV E} (hexec : p.tables.exec = Jvm.exec) (hb : c.code = cc) (hK : va_K D cl tys s) (hY : x_Tys tc tys tyl) (ht : tyl[0]? = some .int) (hI : x_Inv D tc cl rv base h H) (ha : h[a]? = some (.inr (0, vs))) (h0 : ¬ i < 0) (hi : i.toNatClampNeg < vs.length) (hv : vs[i.toNatClampNeg]? = some v)
    (hdg : decode cc pc = .ok (.iaload, 1)) (kk : W p l e R s m args below meth c H locs cells slots Q (F0 m (pc + 1) ls (rv v :: rest))) : W p l e R s m args below meth c H locs cells slots Q (F0 m pc ls (.int i :: .ref (base + a) :: rest)) := by
  obtain ⟨cell, c1, c2, c3, c4, -, c5⟩ := x_arr hK hY hI ha ht
  exact W.iald hexec hb c1 c2 (by rw [c3]; exact fun q => by cases q) (by rw [c4]; exact fun q => q.elim h0 (fun q => by omega)) (c5 _ _ hv) rfl rfl hdg kk
theorem x_zald {a : Nat} {vs : List (XV E)} {i : Int32} {v : XV E} (hexec : p.tables.exec = Jvm.exec) (hb : c.code = cc) (hK : va_K D cl tys s) (hY : x_Tys tc tys tyl) (ht : tyl[1]? = some .boolean) (hI : x_Inv D tc cl rv base h H) (ha : h[a]? = some (.inr (1, vs))) (h0 : ¬ i < 0) (hi : i.toNatClampNeg < vs.length) (hv : vs[i.toNatClampNeg]? = some v)
    (hdg : decode cc pc = .ok (.baload, 1)) (kk : W p l e R s m args below meth c H locs cells slots Q (F0 m (pc + 1) ls (rv v :: rest))) : W p l e R s m args below meth c H locs cells slots Q (F0 m pc ls (.int i :: .ref (base + a) :: rest)) := by
  obtain ⟨cell, c1, c2, c3, c4, -, c5⟩ := x_arr hK hY hI ha ht
  exact W.zald hexec hb c1 c2 (by rw [c3]; exact fun q => by cases q) (by rw [c4]; exact fun q => q.elim h0 (fun q => by omega)) (c5 _ _ hv) rfl rfl hdg kk
theorem x_aald {a t : Nat} {vs : List (XV E)} {i : Int32} {v : XV E} {ty : FieldType} (hexec : p.tables.exec = Jvm.exec) (hb : c.code = cc) (hK : va_K D cl tys s) (hY : x_Tys tc tys tyl) (ht : tyl[t]? = some ty) (hr : x_isRef ty = true) (hI : x_Inv D tc cl rv base h H) (ha : h[a]? = some (.inr (t, vs))) (h0 : ¬ i < 0) (hi : i.toNatClampNeg < vs.length) (hv : vs[i.toNatClampNeg]? = some v)
    (hdg : decode cc pc = .ok (.aaload, 1)) (kk : W p l e R s m args below meth c H locs cells slots Q (F0 m (pc + 1) ls (rv v :: rest))) : W p l e R s m args below meth c H locs cells slots Q (F0 m pc ls (.int i :: .ref (base + a) :: rest)) := by
  obtain ⟨cell, c1, c2, c3, c4, -, c5⟩ := x_arr hK hY hI ha ht
  exact W.aald hexec hb c1 c2 (by cases ty <;> first | rfl | (simp [x_isRef] at hr)) (by rw [c3]; exact fun q => by cases q) (by rw [c4]; exact fun q => q.elim h0 (fun q => by omega)) (c5 _ _ hv) rfl rfl hdg kk
theorem x_alen {a t : Nat} {vs : List (XV E)} {ty : FieldType} (hexec : p.tables.exec = Jvm.exec) (hb : c.code = cc) (hK : va_K D cl tys s) (hY : x_Tys tc tys tyl) (ht : tyl[t]? = some ty) (hI : x_Inv D tc cl rv base h H) (ha : h[a]? = some (.inr (t, vs)))
    (hdg : decode cc pc = .ok (.arraylength, 1)) (kk : W p l e R s m args below meth c H locs cells slots Q (F0 m (pc + 1) ls (.int vs.length.toInt32 :: rest))) : W p l e R s m args below meth c H locs cells slots Q (F0 m pc ls (.ref (base + a) :: rest)) := by
  obtain ⟨cell, c1, c2, c3, c4, -, c5⟩ := x_arr hK hY hI ha ht
  exact W.alen hexec hb c1 c2 (by rw [c4]) rfl rfl hdg kk
theorem x_iast {a : Nat} {vs : List (XV E)} {i x : Int32} {v : XV E} (hexec : p.tables.exec = Jvm.exec) (hb : c.code = cc) (hK : va_K D cl tys s) (hY : x_Tys tc tys tyl) (ht : tyl[0]? = some .int) (hI : x_Inv D tc cl rv base h H) (hS : va_S (fun q => base ≤ q) s.heap H locs) (ha : h[a]? = some (.inr (0, vs))) (h0 : ¬ i < 0) (hi : i.toNatClampNeg < vs.length) (hv : rv v = .int x)
    (hdg : decode cc pc = .ok (.iastore, 1)) (kk : ∀ (H1 : Heap) (locs1 : List Loc), x_Inv D tc cl rv base (h.set a (.inr (0, vs.set i.toNatClampNeg v))) H1 → va_S (fun q => base ≤ q) s.heap H1 locs1 → W p l e R s m args below meth c H1 locs1 cells slots Q (F0 m (pc + 1) ls rest)) : W p l e R s m args below meth c H locs cells slots Q (F0 m pc ls (.int x :: .int i :: .ref (base + a) :: rest)) := by
  obtain ⟨cell, c1, c2, c3, c4, c6, c5⟩ := x_arr hK hY hI ha ht
  refine W.iast hexec hb c1 c2 (by rw [c3]; exact fun q => by cases q) (by rw [c4]; exact fun q => q.elim h0 (fun q => by omega)) rfl rfl hdg fun H1 e1 z oq => ?_
  refine kk H1 _ (x_Inv_set hI ha z oq ?_) (hS.put z oq (Nat.le_add_right _ _))
  show H1[base + a]? = _
  rw [e1, c6, ← hv, x_stored hi]
theorem x_zast {a : Nat} {vs : List (XV E)} {i x : Int32} {v : XV E} (hexec : p.tables.exec = Jvm.exec) (hb : c.code = cc) (hK : va_K D cl tys s) (hY : x_Tys tc tys tyl) (ht : tyl[1]? = some .boolean) (hI : x_Inv D tc cl rv base h H) (hS : va_S (fun q => base ≤ q) s.heap H locs) (ha : h[a]? = some (.inr (1, vs))) (h0 : ¬ i < 0) (hi : i.toNatClampNeg < vs.length) (hv : rv v = .int x) (hx : x = 0 ∨ x = 1)
    (hdg : decode cc pc = .ok (.bastore, 1)) (kk : ∀ (H1 : Heap) (locs1 : List Loc), x_Inv D tc cl rv base (h.set a (.inr (1, vs.set i.toNatClampNeg v))) H1 → va_S (fun q => base ≤ q) s.heap H1 locs1 → W p l e R s m args below meth c H1 locs1 cells slots Q (F0 m (pc + 1) ls rest)) : W p l e R s m args below meth c H locs cells slots Q (F0 m pc ls (.int x :: .int i :: .ref (base + a) :: rest)) := by
  obtain ⟨cell, c1, c2, c3, c4, c6, c5⟩ := x_arr hK hY hI ha ht
  refine W.zast hexec hb c1 c2 (by rw [c3]; exact fun q => by cases q) (by rw [c4]; exact fun q => q.elim h0 (fun q => by omega)) rfl rfl hdg fun H1 e1 z oq => ?_
  refine kk H1 _ (x_Inv_set hI ha z oq ?_) (hS.put z oq (Nat.le_add_right _ _))
  have hn : narrow .boolean (.int x) = .int x := by rcases hx with rfl | rfl <;> rfl
  show H1[base + a]? = _
  rw [e1, c6, hn, ← hv, x_stored hi]
theorem x_aast {a k t ci : Nat} {vs fs : List (XV E)} {i : Int32} {C : String} {r : vw_C} {v : XV E} (hexec : p.tables.exec = Jvm.exec) (hb : c.code = cc) (hK : va_K D cl tys s) (hY : x_Tys tc tys tyl) (ht : tyl[t]? = some (.object C)) (hI : x_Inv D tc cl rv base h H) (hS : va_S (fun q => base ≤ q) s.heap H locs) (ha : h[a]? = some (.inr (t, vs))) (hk : h[k]? = some (.inl (ci, fs))) (hc : cl[ci]? = some r) (hr : r.1 = C) (h0 : ¬ i < 0) (hi : i.toNatClampNeg < vs.length) (hv : rv v = .ref (base + k))
    (hdg : decode cc pc = .ok (.aastore, 1)) (kk : ∀ (H1 : Heap) (locs1 : List Loc), x_Inv D tc cl rv base (h.set a (.inr (t, vs.set i.toNatClampNeg v))) H1 → va_S (fun q => base ≤ q) s.heap H1 locs1 → W p l e R s m args below meth c H1 locs1 cells slots Q (F0 m (pc + 1) ls rest)) : W p l e R s m args below meth c H locs cells slots Q (F0 m pc ls (.ref (base + k) :: .int i :: .ref (base + a) :: rest)) := by
  obtain ⟨cell, c1, c2, c3, c4, c6, c5⟩ := x_arr hK hY hI ha ht
  obtain ⟨r', hr', -, cellV, g1, g2, g3, -⟩ := hI.2.2 k _ hk
  obtain rfl : r' = r := Option.some.inj (hr'.symm.trans hc)
  have hcls := (hK.1 ci r' hc).2
  obtain ⟨kA, comp, k1, k2, k3, -⟩ := (hK.2 t _ (hY t _ ht)).2
  have hcomp : comp = D.1 ci := Option.some.inj (k3.symm.trans (by rw [← hr]; exact hcls.1))
  subst hcomp
  obtain ⟨kC, hkC, -⟩ := hcls.2
  refine W.aast hexec hb c1 (fun q h => by rw [c3] at h; cases h) (fun h => by rw [c3] at h; cases h) (by rw [c6]; exact k1) k2 rfl hkC ⟨h0, by rw [c4]; exact hi⟩ g1 (fun q h => by rw [g3] at h; cases h) (by rw [g2]; exact hkC) (by rw [g2]; exact va_assign hcls) rfl rfl hdg fun H1 e1 z oq => ?_
  refine kk H1 _ (x_Inv_set hI ha z oq ?_) (hS.put z oq (Nat.le_add_right _ _))
  show H1[base + a]? = _
  rw [e1, c6, ← hv, x_stored hi]
theorem x_new {o ix ci : Nat} {fs : List (XV E)} (hexec : p.tables.exec = Jvm.exec) (hb : c.code = cc) (hts : ∀ w ∈ TS, w.before args s = true) (hT : x_TbOk TS TN cl tyl tb) (hown : s.vm.findClass (tNm tb o) = some m.cls) (hK : va_K D cl tys s) (hI : x_Inv D tc cl rv base h H) (hS : va_S (fun q => base ≤ q) s.heap H locs)
    (hf : tNw tb o ix = some ci) (hl : h.length + 1 ≤ 1000000) (hcells : cells + 1 ≤ R.cells) (hslots : slots + (tFt tb ci).length ≤ R.slots) (hfs : fs.map rv = (tFt tb ci).map (fun t => defaultValue t.1)) (hdg : decode cc pc = .ok (.new ix, 3))
    (kk : ∀ (H1 : Heap), x_Inv D tc cl rv base (h ++ [.inl (ci, fs)]) H1 → va_S (fun q => base ≤ q) s.heap H1 locs → W p l e R s m args below meth c H1 locs (cells + 1) (slots + (tFt tb ci).length) Q (F0 m (pc + 3) ls (.ref (base + h.length) :: rest))) : W p l e R s m args below meth c H locs cells slots Q (F0 m pc ls rest) := by
  obtain ⟨r, hc, hlink⟩ := hT.2.2.2.1 o ix ci hf
  obtain ⟨C, T, N⟩ := r
  obtain ⟨t1, t2, t3, t4, t5, t6, t7, t8⟩ := hT.2.2.1 ci _ hc
  have hKn := hK.1 ci _ hc
  have t2' : (tFt tb ci).length = N := t2
  have hlen : fs.length = N := by
    have := congrArg List.length hfs
    rw [List.length_map, List.length_map] at this
    omega
  rw [t2'] at hslots kk
  refine W.newcK hexec hb hown (hts _ hlink) (hts _ t5) (hts _ t6) rfl hdg hcells hslots hKn.2.1 (h := base + h.length) hI.1 fun H1 kC hkC e1 z1 o1 => ?_
  rw [← hI.1] at o1 z1
  refine kk H1 (x_Inv_app hI z1 o1 hl ⟨_, hc, hlen, ?_⟩) (x_S_app hS (by omega) o1)
  refine (u_born (fun k => ((tFt tb ci).getD k (.int, false)).1) hts t1 hKn hkC e1 (fun k hk => ?_)).to (fun k hk => ?_)
  · have hk2 : k < (tFt tb ci).length := by rw [t2]; exact hk
    have e2 : (tFt tb ci)[k]? = some ((tFt tb ci)[k]) := List.getElem?_eq_getElem hk2
    have e3 := (t3 k _ e2).1
    rw [e3, List.getD_eq_getElem?_getD, e2]
    rfl
  · have hk2 : k < (tFt tb ci).length := by rw [t2]; exact hk
    have e2 : (tFt tb ci)[k]? = some ((tFt tb ci)[k]) := List.getElem?_eq_getElem hk2
    simp only [vp_V, hfs, List.getD_eq_getElem?_getD, List.getElem?_map, e2, Option.map_some, Option.getD_some]
theorem x_newa {atype : ArrayType} {t N : Nat} {n : Int32} {v : XV E} (hexec : p.tables.exec = Jvm.exec) (hb : c.code = cc) (hK : va_K D cl tys s) (hY : x_Tys tc tys tyl) (ht : tyl[t]? = some (newarray.typeOf atype)) (harr : (Jvm.Cond.arrayClass (newarray.typeOf atype)).before args s = true) (hat : atype = .int ∨ atype = .boolean) (hI : x_Inv D tc cl rv base h H) (hS : va_S (fun q => base ≤ q) s.heap H locs)
    (hl : h.length + 1 ≤ 1000000) (hn : ¬ n < 0) (hN : n.toNatClampNeg = N) (hN2 : N ≤ 100000) (hcells : cells + 1 ≤ R.cells) (hslots : slots + N ≤ R.slots) (hv : rv v = .int 0) (hdg : decode cc pc = .ok (.newarray atype, 2))
    (kk : ∀ (H1 : Heap), x_Inv D tc cl rv base (h ++ [.inr (t, List.replicate N v)]) H1 → va_S (fun q => base ≤ q) s.heap H1 locs → W p l e R s m args below meth c H1 locs (cells + 1) (slots + N) Q (F0 m (pc + 2) ls (.ref (base + h.length) :: rest))) : W p l e R s m args below meth c H locs cells slots Q (F0 m pc ls (.int n :: rest)) := by
  refine va_newaK hexec hb harr rfl hdg rfl hn hN (by rcases hat with rfl | rfl <;> simp [newarray.typeOf, componentBytes] <;> omega) hcells hslots (h := base + h.length) hI.1 fun H1 cA e1 z1 o1 hAr hNm => ?_
  have hcA : cA = tc t := by
    have h1 := (hK.2 t _ (hY t _ ht)).2
    have h2 : s.vm.findClass ("[" ++ (newarray.typeOf atype).toString) = some (tc t) := by rcases hat with rfl | rfl <;> exact h1
    exact Option.some.inj (hNm.symm.trans h2)
  have hdv : defaultValue (newarray.typeOf atype) = .int 0 := by rcases hat with rfl | rfl <;> rfl
  rw [← hI.1] at o1 z1
  refine kk H1 (x_Inv_app hI z1 o1 hl ?_) (x_S_app hS (by omega) o1)
  show H1[base + h.length]? = _
  rw [e1, hcA, hdv, List.length_replicate]
  have ho : ∀ (N : Nat) (f g : Nat → Value), (∀ j, j < N → f j = g j) → arrV (tc t) N f = arrV (tc t) N g := fun N f g q => by
    unfold arrV
    congr 1
    exact congrArg Array.ofFn (funext fun (j : Fin N) => q j.val j.isLt)
  rw [ho N (fun _ => .int 0) (fun j => rv ((List.replicate N v).getD j (.inr none))) (fun j hj => by simp [List.getD_eq_getElem?_getD, List.getElem?_replicate, hj, hv])]
theorem x_anew {o ix t N : Nat} {n : Int32} {v : XV E} {C : String} (hexec : p.tables.exec = Jvm.exec) (hb : c.code = cc) (hK : va_K D cl tys s) (hY : x_Tys tc tys tyl) (ht : tyl[t]? = some (.object C)) (hown : s.vm.findClass (tNm tb o) = some m.cls) (hlink : (Jvm.Cond.classLink (tNm tb o) ix C).before args s = true) (hover : (Jvm.Cond.arrayOver (.object C)).before args s = true) (hI : x_Inv D tc cl rv base h H) (hS : va_S (fun q => base ≤ q) s.heap H locs)
    (hl : h.length + 1 ≤ 1000000) (hn : ¬ n < 0) (hN : n.toNatClampNeg = N) (hN2 : N ≤ 100000) (hcells : cells + 1 ≤ R.cells) (hslots : slots + N ≤ R.slots) (hv : rv v = .null) (hdg : decode cc pc = .ok (.anewarray ix, 3))
    (kk : ∀ (H1 : Heap), x_Inv D tc cl rv base (h ++ [.inr (t, List.replicate N v)]) H1 → va_S (fun q => base ≤ q) s.heap H1 locs → W p l e R s m args below meth c H1 locs (cells + 1) (slots + N) Q (F0 m (pc + 3) ls (.ref (base + h.length) :: rest))) : W p l e R s m args below meth c H locs cells slots Q (F0 m pc ls (.int n :: rest)) := by
  subst hN
  refine W.anew hexec hb hown hlink hover rfl hdg rfl hn (by omega) hcells hslots fun cA kA comp f1 f2 f3 f4 => ?_
  rw [hI.1]
  have hcA : cA = tc t := by
    obtain ⟨_, _, -, -, -, h1⟩ := (hK.2 t _ (hY t _ ht)).2
    exact Option.some.inj (f1.symm.trans h1)
  generalize hH1 : H.push ({ cls := cA, slots := Array.replicate n.toNatClampNeg .null, vm := .none } : Cell) = H1
  have z1 : H1.size = H.size + 1 := by rw [← hH1, Array.size_push]
  have e1 : H1[H.size]? = some (arrV cA n.toNatClampNeg (fun _ => .null)) := by rw [← hH1, Array.getElem?_push_size, ← arrV_new]
  have o1 : ∀ q : Nat, q < H.size → H1[q]? = H[q]? := fun q hq => by rw [← hH1, Array.getElem?_push, if_neg (Nat.ne_of_lt hq)]
  refine kk H1 (x_Inv_app hI z1 o1 hl ?_) (x_S_app hS (by omega) o1)
  show H1[base + h.length]? = _
  rw [← hI.1, e1, hcA, List.length_replicate]
  have ho : ∀ (N : Nat) (f g : Nat → Value), (∀ j, j < N → f j = g j) → arrV (tc t) N f = arrV (tc t) N g := fun N f g q => by
    unfold arrV
    congr 1
    exact congrArg Array.ofFn (funext fun (j : Fin N) => q j.val j.isLt)
  rw [ho n.toNatClampNeg (fun _ => .null) (fun j => rv ((List.replicate n.toNatClampNeg v).getD j (.inr none))) (fun j hj => by simp [List.getD_eq_getElem?_getD, List.getElem?_replicate, hj, hv])]
end XRows
end
section
/-! new T[n][m], and copying, over the evaluator's heap. -/
section XMulti
variable {E K : Type}
variable {p : Program} {l : Launch} {e : Env} {R : Room} {s : State} {m : MethodId} {args : Array Value} {below : List Frame} {meth : Method} {c : Code} {H : Heap} {locs : List Loc} {cells slots : Nat} {Q : State → Prop}
variable {cc : ByteArray} {pc : Nat} {ls : Array Slot} {rest : List Value} {D : va_G} {tc : Nat → ClassId} {cl : List vw_C} {tys : List (ClassId × FieldType)} {tyl : List FieldType} {TS TN : List Jvm.Cond} {tb : XT}
variable {rv : XV E → Value} {base : Nat} {h : List (XC E)}
theorem x_rows_get (t : Nat) (r : List (XV E)) : ∀ (n i : Nat) (z : XC E), (x_rows t r n)[i]? = some z → i < n ∧ z = .inr (t, r)
  | 0, i, z, q => by simp [x_rows] at q
  | n + 1, 0, z, q => by
    simp only [x_rows, List.getElem?_cons_zero, Option.some.injEq] at q
    exact ⟨Nat.succ_pos n, q.symm⟩
  | n + 1, i + 1, z, q => by
    simp only [x_rows, List.getElem?_cons_succ] at q
    obtain ⟨a, b⟩ := x_rows_get t r n i z q
    exact ⟨Nat.succ_lt_succ a, b⟩
theorem x_rows_len (t : Nat) (r : List (XV E)) : ∀ n : Nat, (x_rows t r n).length = n
  | 0 => rfl
  | n + 1 => by
    show (x_rows t r n).length + 1 = n + 1
    rw [x_rows_len t r n]
theorem x_refs_len : ∀ n a : Nat, (x_refs (E := E) a n).length = n
  | 0, _ => rfl
  | n + 1, a => by
    show (x_refs (a + 1) n).length + 1 = n + 1
    rw [x_refs_len n (a + 1)]
theorem x_refs_get : ∀ n a i : Nat, i < n → (x_refs (E := E) a n)[i]? = some (.inr (some (a + i)))
  | 0, _, _, q => absurd q (Nat.not_lt_zero _)
  | n + 1, a, 0, _ => rfl
  | n + 1, a, i + 1, q => by
    show (x_refs (a + 1) n)[i]? = _
    rw [x_refs_get n (a + 1) i (Nat.lt_of_succ_lt_succ q), show a + 1 + i = a + (i + 1) by omega]
theorem x_outer (cI : ClassId) (N h0 : Nat) : ∀ i : Nat, Jvm.Free.Multi.outerC cI N h0 i = arrV cI N (fun j => if j < i then .ref (h0 + 1 + j) else .null)
  | 0 => by
    unfold Jvm.Free.Multi.outerC
    rw [arrV_new]
    exact congrArg (arrV cI N) (funext fun j => (if_neg (Nat.not_lt_zero j)).symm)
  | i + 1 => by
    unfold Jvm.Free.Multi.outerC
    rw [x_outer cI N h0 i, arrV_store]
    refine congrArg (arrV cI N) (funext fun j => ?_)
    by_cases e : j = i
    · subst e
      simp [updV]
    · by_cases q : j < i
      · simp [updV, e, q, Nat.lt_succ_of_lt q]
      · simp [updV, e, q, show ¬ j < i + 1 by omega]
theorem x_multi {o ix t2 t1 N M : Nat} {ty : FieldType} {n k : Int32} {v : XV E} (hexec : p.tables.exec = Jvm.exec) (hb : c.code = cc) (hK : va_K D cl tys s) (hY : x_Tys tc tys tyl) (ht1 : tyl[t1]? = some ty) (ht2 : tyl[t2]? = some (.array ty)) (hty : ty = .int ∨ ty = .boolean) (hown : s.vm.findClass (tNm tb o) = some m.cls)
    (hlink : (Jvm.Cond.classLink (tNm tb o) ix ("[" ++ (FieldType.array ty).toString)).before args s = true) (hover : (Jvm.Cond.arrayOver (.array ty)).before args s = true) (harr : (Jvm.Cond.arrayClass ty).before args s = true) (hI : x_Inv D tc cl rv base h H) (hS : va_S (fun q => base ≤ q) s.heap H locs)
    (hl : h.length + 1 + N ≤ 1000000) (hn : ¬ n < 0) (hk : ¬ k < 0) (hN : n.toNatClampNeg = N) (hM : k.toNatClampNeg = M) (hN2 : N ≤ 100000) (hM2 : M ≤ 100000) (hcells : cells + (1 + N) ≤ R.cells) (hslots : slots + (N + N * M) ≤ R.slots) (hv : rv v = .int 0) (hrf : ∀ j : Nat, j < N → rv (.inr (some (h.length + 1 + j))) = .ref (base + (h.length + 1 + j))) (hdg : decode cc pc = .ok (.multianewarray ix 2, 4))
    (kk : ∀ (H1 : Heap), x_Inv D tc cl rv base (h ++ .inr (t2, x_refs (h.length + 1) N) :: x_rows t1 (List.replicate M v) N) H1 → va_S (fun q => base ≤ q) s.heap H1 locs → W p l e R s m args below meth c H1 locs (cells + 1 + N) (slots + N + N * M) Q (F0 m (pc + 4) ls (.ref (base + h.length) :: rest))) : W p l e R s m args below meth c H locs cells slots Q (F0 m pc ls (.int k :: .int n :: rest)) := by
  subst hN
  subst hM
  intro T hT Xs
  obtain ⟨vm₁, cA, comp, -, fA, fC, -, -, X', step⟩ := Jvm.Stand.multianewarray2F Xs hexec hown hlink hover harr (g := F0 m pc ls (.int k :: .int n :: rest)) rfl (by rw [hb]; exact hdg) rfl hn hk (by omega) (by rcases hty with rfl | rfl <;> simp [componentBytes] <;> omega) (by omega) (by rcases hty with rfl | rfl <;> rfl) (by rcases hty with rfl | rfl <;> rfl) hcells hslots
  have eA : cA = tc t2 := Option.some.inj (fA.symm.trans (hK.2 t2 _ (hY t2 _ ht2)).2)
  have eC : comp = tc t1 := by
    have h1 := (hK.2 t1 _ (hY t1 _ ht1)).2
    have h2 : s.vm.findClass ((FieldType.array ty).toString) = some (tc t1) := by rcases hty with rfl | rfl <;> exact h1
    exact Option.some.inj (fC.symm.trans h2)
  subst eA eC
  have hdv : defaultValue ty = .int 0 := by rcases hty with rfl | rfl <;> rfl
  rw [hdv] at X' step
  generalize hF : Jvm.Free.Multi.fill (T.setVm vm₁) (tc t2) (tc t1) n.toNatClampNeg k.toNatClampNeg (.int 0) n.toNatClampNeg = F at X' step
  have hTh : (T.setVm vm₁).heap = H := hT
  obtain ⟨f1, f2, -, -⟩ := Jvm.Free.Multi.fill_facts (T.setVm vm₁) (tc t2) (tc t1) n.toNatClampNeg k.toNatClampNeg (.int 0) n.toNatClampNeg
  rw [hF, hTh] at f1 f2
  have hold : ∀ x : Nat, x < H.size → F.heap[x]? = H[x]? := fun x hx => by
    have := Jvm.Free.Multi.fill_old (T.setVm vm₁) (tc t2) (tc t1) n.toNatClampNeg k.toNatClampNeg (.int 0) (a := x) (by rw [hTh]; exact hx) n.toNatClampNeg
    rw [hF, hTh] at this
    exact this
  have hrow : ∀ j : Nat, j < n.toNatClampNeg → F.heap[H.size + 1 + j]? = some (arrV (tc t1) k.toNatClampNeg (fun _ => .int 0)) := fun j hj => by
    have := Jvm.Free.Multi.fill_inner (T.setVm vm₁) (tc t2) (tc t1) n.toNatClampNeg k.toNatClampNeg (.int 0) n.toNatClampNeg j hj
    rw [hF, hTh] at this
    rw [this, Jvm.Free.Multi.innerC, arrV_new]
  have ho : ∀ (cI : ClassId) (N : Nat) (f g : Nat → Value), (∀ j, j < N → f j = g j) → arrV cI N f = arrV cI N g := fun cI N f g q => by
    unfold arrV
    congr 1
    exact congrArg Array.ofFn (funext fun (j : Fin N) => q j.val j.isLt)
  have hout : Jvm.Free.Multi.outerC (tc t2) n.toNatClampNeg H.size n.toNatClampNeg = arrV (tc t2) n.toNatClampNeg (fun j => .ref (H.size + 1 + j)) := by
    rw [x_outer]
    exact ho _ _ _ _ fun j hj => if_pos hj
  rw [hout] at f2
  obtain ⟨i1, i2, i3⟩ := hI
  have hI1 : x_Inv D tc cl rv base (h ++ .inr (t2, x_refs (h.length + 1) n.toNatClampNeg) :: x_rows t1 (List.replicate k.toNatClampNeg v) n.toNatClampNeg) F.heap := by
    refine ⟨?_, ?_, fun j z hj => ?_⟩
    · rw [f1, i1, List.length_append, List.length_cons, x_rows_len]
      omega
    · rw [List.length_append, List.length_cons, x_rows_len]
      omega
    · by_cases hjl : j < h.length
      · rw [List.getElem?_append_left hjl] at hj
        exact x_at_kept (i3 j z hj) (hold _ (by omega))
      · rw [List.getElem?_append_right (by omega)] at hj
        by_cases hj0 : j = h.length
        · subst hj0
          rw [Nat.sub_self, List.getElem?_cons_zero] at hj
          cases hj
          show F.heap[base + h.length]? = _
          rw [← i1, f2, x_refs_len]
          refine congrArg some (ho _ _ _ _ fun j hj => ?_)
          rw [List.getD_eq_getElem?_getD, x_refs_get _ _ _ hj, Option.getD_some, hrf j hj, i1]
          rw [show base + h.length + 1 + j = base + (h.length + 1 + j) by omega]
        · obtain ⟨j2, hj2⟩ : ∃ j2, j - h.length = j2 + 1 := ⟨j - h.length - 1, by omega⟩
          rw [hj2, List.getElem?_cons_succ] at hj
          obtain ⟨g1, rfl⟩ := x_rows_get _ _ _ _ _ hj
          show F.heap[base + j]? = _
          rw [show base + j = H.size + 1 + j2 by omega, hrow j2 g1, List.length_replicate]
          exact congrArg some (ho _ _ _ _ fun j hj => by simp [List.getD_eq_getElem?_getD, List.getElem?_replicate, hj, hv])
  have hS1 : va_S (fun q => base ≤ q) s.heap F.heap locs := x_S_app hS (by omega) hold
  have hz : T.heap.size = base + h.length := by rw [hT]; exact i1
  rw [hz] at step
  obtain ⟨t, a1, b1⟩ := kk F.heap hI1 hS1 F rfl X'
  exact ⟨t, step t a1, b1⟩
theorem x_cpy (us vs : List (XV E)) (z : XV E) {sp dp n : Nat} (h4 : sp + n ≤ us.length) (h5 : dp + n ≤ vs.length) (j : Nat) : va_cpy (fun j => us.getD j z) (fun j => vs.getD j z) sp dp n j = (vs.take dp ++ (us.drop sp).take n ++ vs.drop (dp + n)).getD j z := by
  have l1 : (vs.take dp).length = dp := by rw [List.length_take]; omega
  have l2 : ((us.drop sp).take n).length = n := by rw [List.length_take, List.length_drop]; omega
  unfold va_cpy
  simp only [List.getD_eq_getElem?_getD]
  by_cases a : j < dp
  · rw [if_neg (by omega), List.append_assoc, List.getElem?_append_left (by omega), List.getElem?_take, if_pos a]
  · by_cases b : j < dp + n
    · rw [if_pos ⟨by omega, b⟩, List.append_assoc, List.getElem?_append_right (by omega), List.getElem?_append_left (by omega), l1, List.getElem?_take, if_pos (by omega), List.getElem?_drop]
    · rw [if_neg (by omega), List.getElem?_append_right (by rw [List.length_append]; omega), List.length_append, l1, l2, List.getElem?_drop, show dp + n + (j - (dp + n)) = j by omega]
theorem x_copy {o ix a0 a1 : Nat} {us vs : List (XV E)} {sp dp n : Int32} (hexec : p.tables.exec = Jvm.exec) (hb : c.code = cc) (hml : c.maxLocals = ls.size) (hown : s.vm.findClass (tNm tb o) = some m.cls) (hlink : (Jvm.Cond.methodLink (tNm tb o) ix arraycopyName).before args s = true) (hnat : (Jvm.Cond.native arraycopyName).before args s = true) (hstat : (Jvm.Cond.static arraycopyName).before args s = true) (hini : (Jvm.Cond.initialized "java/lang/System").before args s = true)
    (hK : va_K D cl tys s) (hY : x_Tys tc tys tyl) (ht : tyl[0]? = some .int) (hI : x_Inv D tc cl rv base h H) (hS : va_S (fun q => base ≤ q) s.heap H locs) (ha0 : h[a0]? = some (.inr (0, us))) (ha1 : h[a1]? = some (.inr (0, vs))) (hint : ∀ u ∈ us, ∃ x, rv u = .int x)
    (h1 : ¬ sp < 0) (h2 : ¬ dp < 0) (h3 : ¬ n < 0) (h4 : sp.toNatClampNeg + n.toNatClampNeg ≤ us.length) (h5 : dp.toNatClampNeg + n.toNatClampNeg ≤ vs.length) (hframes : 1 ≤ R.frames) (hlocals : (rest.map fun v => v.category).sum + (nativeFrameWords "java/lang/System" "arraycopy" 5 + 11) ≤ R.locals) (hdg : decode cc pc = .ok (.invokestatic ix, 3))
    (kk : ∀ (H1 : Heap) (locs1 : List Loc), x_Inv D tc cl rv base (h.set a1 (.inr (0, vs.take dp.toNatClampNeg ++ (us.drop sp.toNatClampNeg).take n.toNatClampNeg ++ vs.drop (dp.toNatClampNeg + n.toNatClampNeg)))) H1 → va_S (fun q => base ≤ q) s.heap H1 locs1 → W p l e R s m args below meth c H1 locs1 cells slots Q (F0 m (pc + 3) ls rest)) : W p l e R s m args below meth c H locs cells slots Q (F0 m pc ls (.int n :: .int dp :: .ref (base + a1) :: .int sp :: .ref (base + a0) :: rest)) := by
  have nn : ∀ z : Int32, ¬ z < 0 → z.toInt = (z.toNatClampNeg : Int) := by
    intro z hz
    have hz0 : (0 : Int) ≤ z.toInt := by
      have := Int32.not_lt.mp hz
      simpa using Int32.le_iff_toInt_le.mp this
    show z.toInt = ((z.toInt.toNat : Nat) : Int)
    omega
  intro T hT X
  have hc0 : H[base + a0]? = some (arrV (tc 0) us.length (fun j => rv (us.getD j (.inr none)))) := hI.2.2 a0 _ ha0
  have hc1 : H[base + a1]? = some (arrV (tc 0) vs.length (fun j => rv (vs.getD j (.inr none)))) := hI.2.2 a1 _ ha1
  obtain ⟨-, k0, hk0, cm0, hkk0⟩ := (hK.2 0 _ (hY 0 _ ht)).1 us.length (fun j => rv (us.getD j (.inr none)))
  obtain ⟨-, k1, hk1, cm1, hkk1⟩ := (hK.2 0 _ (hY 0 _ ht)).1 vs.length (fun j => rv (vs.getD j (.inr none)))
  obtain ⟨vm', X', step⟩ := X.arraycopy hexec hown hlink hnat hstat hini (src := base + a0) (dst := base + a1) (cs := arrV (tc 0) us.length (fun j => rv (us.getD j (.inr none)))) (cd := arrV (tc 0) vs.length (fun j => rv (vs.getD j (.inr none)))) (srcPos := sp) (destPos := dp) (n := n) (by rw [hT]; exact hc0) (by rw [hT]; exact hc1)
    (fun _ h => by cases h) (fun _ h => by cases h) (fun h => by cases h) (fun h => by cases h) hk0 hk1 hkk0 hkk1 (by simp [refKind]) h1 h2 h3
    (by rw [nn sp h1, nn n h3, arrV_size]; omega)
    (by rw [nn dp h2, nn n h3, arrV_size]; omega)
    (fun vm₁ _ i hi => by
      have hlt : sp.toNatClampNeg + i < us.length := by omega
      have e : (arrV (tc 0) us.length (fun j => rv (us.getD j (.inr none)))).slots.getD (sp.toNatClampNeg + i) .null = rv (us[sp.toNatClampNeg + i]) := by
        rw [Array.getD_eq_getD_getElem?, arrV_read _ _ hlt, List.getD_eq_getElem?_getD, List.getElem?_eq_getElem hlt]
        rfl
      obtain ⟨x, hx⟩ := hint _ (List.getElem_mem hlt)
      rw [e, hx]
      exact ⟨rfl, trivial⟩)
    (g := F0 m pc ls (.int n :: .int dp :: .ref (base + a1) :: .int sp :: .ref (base + a0) :: rest)) rfl (by rw [hml]) (rest := rest) rfl (by rw [hb]; exact hdg) hframes (by show 2 * 0 + _ + _ ≤ _; omega)
  have hlen : (vs.take dp.toNatClampNeg ++ (us.drop sp.toNatClampNeg).take n.toNatClampNeg ++ vs.drop (dp.toNatClampNeg + n.toNatClampNeg)).length = vs.length := by
    simp only [List.length_append, List.length_take, List.length_drop]
    omega
  have e1 : copied (arrV (tc 0) us.length (fun j => rv (us.getD j (.inr none)))) (arrV (tc 0) vs.length (fun j => rv (vs.getD j (.inr none)))) sp dp n = arrV (tc 0) (vs.take dp.toNatClampNeg ++ (us.drop sp.toNatClampNeg).take n.toNatClampNeg ++ vs.drop (dp.toNatClampNeg + n.toNatClampNeg)).length (fun j => rv ((vs.take dp.toNatClampNeg ++ (us.drop sp.toNatClampNeg).take n.toNatClampNeg ++ vs.drop (dp.toNatClampNeg + n.toNatClampNeg)).getD j (.inr none))) := by
    rw [hlen]
    refine (va_copied rv (tc 0) (tc 0) (fun j => us.getD j (.inr none)) (fun j => vs.getD j (.inr none)) h4).trans ?_
    exact congrArg (arrV (tc 0) vs.length) (funext fun j => congrArg rv (x_cpy us vs (.inr none) h4 h5 j))
  generalize hnew : (vs.take dp.toNatClampNeg ++ (us.drop sp.toNatClampNeg).take n.toNatClampNeg ++ vs.drop (dp.toNatClampNeg + n.toNatClampNeg)) = zs at e1 kk
  rw [e1] at X' step
  have hl : base + a1 < H.size := (Array.getElem?_eq_some_iff.mp hc1).1
  generalize hcell : arrV (tc 0) zs.length (fun j => rv (zs.getD j (.inr none))) = nc at X' step
  have hheap : ((T.setVm vm').setCell (base + a1) nc).heap = H.setIfInBounds (base + a1) nc := by rw [← hT]; rfl
  have oq : ∀ q : Nat, q ≠ base + a1 → (H.setIfInBounds (base + a1) nc)[q]? = H[q]? := fun q hq => by simp [Array.getElem?_setIfInBounds, Ne.symm hq]
  have hnc : (H.setIfInBounds (base + a1) nc)[base + a1]? = some nc := by simp [Array.getElem?_setIfInBounds, hl]
  obtain ⟨t, b1, b2⟩ := kk _ _ (x_Inv_set hI ha1 (by simp) oq (z := .inr (0, zs)) (by show _ = some (arrV (tc 0) zs.length _); rw [hnc, hcell])) ⟨by simp; exact hS.1, fun q g1 g2 => by
      rw [oq q (fun e => g2 (by rw [e]; exact Nat.le_add_right _ _))]
      exact hS.2.1 q g1 g2, fun q hq => by
      rcases List.mem_append.mp hq with h | h
      · exact hS.2.2 q h
      · obtain ⟨z, -, hz⟩ := List.mem_map.mp h
        rw [← hz]
        exact Nat.le_add_right _ _⟩ _ hheap X'
  exact ⟨t, step t b1, b2⟩
end XMulti
end
section
/-! THE EVALUATOR IS RIGHT: where it finds no way left, the machine goes as it says. -/
section XSound
variable {E K : Type}
theorem x_amh {D : va_G} {tc : Nat → ClassId} {cl : List vw_C} {rv : XV E → Value} {base a : Nat} {sa : Nat → Nat} {h : List (XC E)} {z : XC E} {H : Heap} (hI : x_Inv D tc cl rv base h H) (ha : h[a]? = some z) : x_am base sa a = base + a := by
  have h1 := (List.getElem?_eq_some_iff.mp ha).1
  have h2 := hI.2.1
  unfold x_am
  rw [if_pos (by omega)]
theorem x_amo {base a : Nat} {sa : Nat → Nat} (h : 1000000 ≤ a) : x_am base sa a = sa a := if_neg (by omega)
theorem x_aml {base a : Nat} {sa : Nat → Nat} (h : a < 1000000) : x_am base sa a = base + a := if_pos h
section XCallK
variable {p : Program} {l : Launch} {e : Env} {R : Room} {s : State} {m : MethodId} {args : Array Value} {below : List Frame} {meth : Method} {c : Code} {H : Heap} {locs : List Loc} {cells slots : Nat} {Q : State → Prop}
theorem x_callk {d : XD E K} {D : va_G} {tc : Nat → ClassId} {cl : List vw_C} {am : Nat → Nat} {base pc mc ms : Nat} {ls : Array Slot} {st0 rest : List Value} {post : List K → Option (XV E) → List (XC E) → XR K} {a : Array Value}
    (hr : va_Run p l e R s m args below meth c H locs cells slots mc ms (F0 m pc ls st0) rest (x_Q d D tc cl am base post a) (fun q => base ≤ q)) (hS : va_S (fun q => base ≤ q) s.heap H locs)
    (kk : ∀ (w : List K) (v : Option (XV E)) (h : List (XC E)) (H1 : Heap) (locs1 : List Loc), XPa (dHd d) w → XOk (dHd d) (post w v h) → x_Inv D tc cl (x_rv d am) base h H1 → va_S (fun q => base ≤ q) s.heap H1 locs1 → W p l e R s m args below meth c H1 locs1 (cells + mc) (slots + ms) Q (F0 m (pc + 3) ls ((v.map (x_rv d am)).toList ++ rest))) :
    W p l e R s m args below meth c H locs cells slots Q (F0 m pc ls st0) := by
  intro T hT X
  obtain ⟨v, st₀, t, T', L, h0, X', hL, e1, e2, ⟨⟨w, v2, h, hw, hp, hv, hI⟩, hz, hk⟩, st⟩ := hr T hT X
  cases hv
  rw [h0] at hz hk
  rw [← e1] at hI hz hk
  obtain ⟨t2, a1, b1⟩ := kk w v2 h T'.heap (locs ++ L) hw hp hI ⟨Nat.le_trans hS.1 hz, fun q h1 h2 => by rw [hk q (Nat.lt_of_lt_of_le h1 hS.1) h2]; exact hS.2.1 q h1 h2, fun q hq => by
      rcases List.mem_append.mp hq with g | g
      · exact hS.2.2 q g
      · exact hL q g⟩ T' rfl X'
  exact ⟨t2, st t2 a1, b1⟩
end XCallK
theorem x_fit_spec {d : XD E K} (hd : x_DmOk d) {am : Nat → Nat} {ty : FieldType} {v : XV E} (h : x_fit d ty v = true) : narrow ty (x_rv d am v) = x_rv d am v ∧ fits ty (x_rv d am v) = true := by
  cases ty <;> rcases v with a | (_ | k) <;> try (simp [x_fit] at h; done)
  all_goals try exact ⟨rfl, rfl⟩
  simp only [x_fit] at h
  split at h
  · rename_i n hn
    have e := hd.2.2.2.1 a n hn
    show narrow .boolean (.int (dEv d a)) = .int (dEv d a) ∧ fits .boolean (.int (dEv d a)) = true
    rw [e]
    simp only [Bool.or_eq_true, decide_eq_true_eq] at h
    rcases h with rfl | rfl <;> exact ⟨rfl, rfl⟩
  · cases h
theorem x_ret_spec {d : XD E K} (hd : x_DmOk d) {rt : Option FieldType} {a : E} (h : x_retOk d rt (.inl a) = true) : ∃ ty, rt = some ty ∧ narrow ty (.int (dEv d a)) = .int (dEv d a) := by
  rcases rt with _ | ty
  · simp [x_retOk] at h
  refine ⟨ty, rfl, ?_⟩
  cases ty <;> try (simp [x_retOk] at h; done)
  case int => rfl
  case boolean =>
    simp only [x_retOk] at h
    split at h
    · rename_i n hn
      rw [hd.2.2.2.1 a n hn]
      simp only [Bool.or_eq_true, decide_eq_true_eq] at h
      rcases h with rfl | rfl <;> rfl
    · cases h
  case byte =>
    simp only [x_retOk] at h
    split at h
    · rename_i n hn
      rw [hd.2.2.2.1 a n hn]
      have h2 := of_decide_eq_true h
      show Value.int n.toInt8.toInt32 = _
      rw [h2]
    · cases h
  case char =>
    simp only [x_retOk] at h
    split at h
    · rename_i n hn
      rw [hd.2.2.2.1 a n hn]
      have h2 := of_decide_eq_true h
      rw [← h2]
      exact pk_nc n
    · cases h
theorem x_retr_spec {d : XD E K} {rt : Option FieldType} {a : Option Nat} (h : x_retOk d rt (.inr a) = true) : ∃ ty, rt = some ty ∧ ((∃ n, ty = .object n) ∨ ∃ t, ty = .array t) := by
  rcases rt with _ | ty
  · simp [x_retOk] at h
  cases ty <;> first | exact ⟨_, rfl, Or.inl ⟨_, rfl⟩⟩ | exact ⟨_, rfl, Or.inr ⟨_, rfl⟩⟩ | (simp [x_retOk] at h; done)
theorem x_push_map (d : XD E K) (am : Nat → Nat) (v : Option (XV E)) (S : List (XV E)) : (v.map (x_rv d am)).toList ++ S.map (x_rv d am) = (x_push v S).map (x_rv d am) := by
  rcases v with _ | v <;> rfl
/-- what is claimed of the evaluator at a fuel -/
def x_P (l : Launch) (d : XD E K) (tb : XT) (tyl : List FieldType) (TS TN : List Jvm.Cond) (cl : List vw_C) (D : va_G) (tc : Nat → ClassId) (tys : List (ClassId × FieldType)) (XE : State → Heap → Prop) (base : Nat) (sa : Nat → Nat) (ot : XO E) (f : Nat) : Prop :=
  ∀ (dp k pc : Nat) (q : XM) (L : List (Nat × XV E)) (S : List (XV E)) (h : List (XC E)) (cn sn : Nat) (w : List K) (post : List K → Option (XV E) → List (XC E) → XR K) (p : Program) (e : Env) (R : Room) (s : State) (m : MethodId) (args : Array Value) (below : List Frame) (meth : Method) (c : Code) (H : Heap) (locs : List Loc) (ls : Array Slot),
    tMth tb k = some q → x_Cx TS TN D cl tys XE tb q p R s m args meth c base dp → XOk (dHd d) (x_run d tb tyl ot f dp k pc L S h cn sn w post) → XPa (dHd d) w → x_Inv D tc cl (x_rv d (x_am base sa)) base h H → lv_has ls (mL q) (L.map (fun z => (z.1, x_rv d (x_am base sa) z.2))) → va_S (fun q => base ≤ q) s.heap H locs →
    W p l e R s m args below meth c H locs cn sn (MQ below (x_Q d D tc cl (x_am base sa) base post) args s (mMc q) (mMs q) (fun q => base ≤ q)) (F0 m pc ls (S.map (x_rv d (x_am base sa))))
theorem x_env_moved {TN : List Jvm.Cond} {TS : List Jvm.Cond} {D : va_G} {cl : List vw_C} {tys : List (ClassId × FieldType)} {XE : State → Heap → Prop} {tyl : List FieldType} {tb : XT} {base : Nat} (hT : x_TbOk TS TN cl tyl tb) (hX : x_XeOk XE base) {u U : State} {H H1 : Heap} (hW : u.WarmedH U.vm) (hk : ∀ q : Nat, q < base → H1[q]? = H[q]?) (hb : base ≤ H.size) (h : x_Env TN D cl tys XE u H) : x_Env TN D cl tys XE U H1 :=
  ⟨va_K.moved hW.alike h.1, fun w hw => hT.2.2.2.2.2.2.2.2.2.2.2.1 w hw u U hW (h.2.1 w hw), hX u U H H1 hW hk hb h.2.2⟩
/-- a method's contract, out of the evaluator -/
theorem x_met {l : Launch} {d : XD E K} {tb : XT} {tyl : List FieldType} {TS TN : List Jvm.Cond} {cl : List vw_C} {D : va_G} {tc : Nat → ClassId} {tys : List (ClassId × FieldType)} {XE : State → Heap → Prop} {base : Nat} {sa : Nat → Nat} {ot : XO E} {f : Nat} (hT : x_TbOk TS TN cl tyl tb) (ih : x_P l d tb tyl TS TN cl D tc tys XE base sa ot f)
    {dp j : Nat} {q : XM} {As : List (XV E)} {h : List (XC E)} {w : List K} {post : List K → Option (XV E) → List (XC E) → XR K} (hq : tMth tb j = some q) (hlen : As.length ≤ mL q) (hOk : XOk (dHd d) (x_run d tb tyl ot f dp j 0 (x_en 0 As) [] h 0 0 w post)) (hw : XPa (dHd d) w) :
    Met l (mY q) (Jvm.Cond.code (mY q) (mB q) (mL q) (mR q) :: TS) ({ frames := dp + 1, cells := mMc q, slots := mMs q, locals := 64 * (dp + 1) }) (va_Pc (As.map (x_rv d (x_am base sa))) (fun U => x_Inv D tc cl (x_rv d (x_am base sa)) base h U.heap ∧ x_Env TN D cl tys XE U U.heap)) (x_Q d D tc cl (x_am base sa) base post) (mMc q) (mMs q) (fun q => base ≤ q) := by
  obtain ⟨g1, g2, g3, g4, g5, g6, g7, g8, g9, g10⟩ := hT.1 j q hq
  refine x_ofWF (cc := mB q) (maxL := mL q) (ret := mR q) g1 rfl ?_
  intro p e s m args below meth c s₁ B hml hv
  obtain ⟨rfl, hI, hE⟩ := hv
  have hts := atoms_spec (ws := Jvm.Cond.code (mY q) (mB q) (mL q) (mR q) :: TS) B.pre
  have hown : s.vm.findClass (tNm tb (mO q)) = some m.cls := by rw [g6]; exact findClass_of_methodNamed B.named
  have hl := lv_entry (As.map (x_rv d (x_am base sa))) (n := mL q) (by rw [x_sl]; exact hlen)
  rw [lg_entry_eq]
  rw [x_en_spec] at hl
  exact ih dp j 0 q (x_en 0 As) [] h 0 0 w post p e _ s m _ below meth c s.heap [] _ hq
    ⟨B.exec, B.bytes, hml, hown, fun z hz => hts z (List.mem_cons_of_mem _ hz), B.returns, B.notSynchronized, fun hi => (name_of_methodNamed B.named B.method).1.trans (g8 hi), hE, by rw [hI.1]; exact Nat.le_add_right _ _, Nat.le_refl _, Nat.le_refl _, Nat.le_refl _, Nat.le_refl _⟩ hOk hw hI hl va_S.rf
theorem x_blind {TN TS : List Jvm.Cond} {D : va_G} {tc : Nat → ClassId} {cl : List vw_C} {tys : List (ClassId × FieldType)} {XE : State → Heap → Prop} {tyl : List FieldType} {tb : XT} {base : Nat} (hT : x_TbOk TS TN cl tyl tb) (hX : x_XeOk XE base) (As : List Value) (rv : XV E → Value) (h : List (XC E)) : FrameBlind (va_Pc As (fun U => x_Inv D tc cl rv base h U.heap ∧ x_Env TN D cl tys XE U U.heap)) := by
  intro a U g mk hP
  obtain ⟨h1, h2, h3⟩ := hP
  exact ⟨h1, h2, x_env_moved hT hX (u := U) (U := U.calling g mk a) (State.WarmedH.refl U) (fun _ _ => rfl) (show base ≤ U.heap.size by rw [h2.1]; exact Nat.le_add_right _ _) h3⟩
theorem x_words {TS : List Jvm.Cond} {s : State} {args : Array Value} (hts : ∀ w ∈ TS, w.before args s = true) (hg : ∀ w ∈ TS, ((w.onTables && w.keeps) = true ∨ ∃ ty, w = .arrayClass ty)) : ∀ w ∈ TS, ∀ (a' : Array Value) (U : State), s.WarmedH U.vm → w.before a' U = true := fun w hw a' U hW => word_at hW (hg w hw) (hts w hw)

theorem x_lk_at (d : XD E K) (am : Nat → Nat) {L : List (Nat × XV E)} {j : Nat} {a : E} (h : x_lk L j = some (.inl a)) : ∃ k : Nat, (L.map (fun z => (z.1, x_rv d am z.2)))[k]? = some (j, .int (dEv d a)) := by
  unfold x_lk at h
  obtain ⟨z, hz, hv⟩ := Option.map_eq_some_iff.mp h
  have h1 := List.mem_of_find?_eq_some hz
  have h2 := List.find?_some hz
  simp only [beq_iff_eq] at h2
  obtain ⟨k, hk⟩ := List.mem_iff_getElem?.mp h1
  refine ⟨k, ?_⟩
  rw [List.getElem?_map, hk]
  show some (z.1, x_rv d am z.2) = _
  rw [h2, hv]
  rfl
theorem x_bool {d : XD E K} (hd : x_DmOk d) {v : E} (h : x_fit d .boolean (.inl v) = true) : dEv d v = 0 ∨ dEv d v = 1 := by
  simp only [x_fit] at h
  split at h
  · rename_i n hn
    rw [hd.2.2.2.1 v n hn]
    simpa using h
  · cases h
theorem x_def_spec {d : XD E K} (hd : x_DmOk d) {am : Nat → Nat} (t : FieldType) (ht : t = .int ∨ t = .boolean ∨ x_isRef t = true) : x_rv d am (x_def d t) = defaultValue t := by
  rcases ht with rfl | rfl | ht
  · exact congrArg Value.int (hd.1 0)
  · exact congrArg Value.int (hd.1 0)
  · cases t <;> first | rfl | (simp [x_isRef] at ht; done)
theorem x_tn {TN : List Jvm.Cond} {TS : List Jvm.Cond} {D : va_G} {cl : List vw_C} {tys : List (ClassId × FieldType)} {XE : State → Heap → Prop} {tyl : List FieldType} {tb : XT} (hT : x_TbOk TS TN cl tyl tb) {s : State} {H : Heap} (hE : x_Env TN D cl tys XE s H) {w : Jvm.Cond} (hw : w ∈ TN) {args : Array Value} : w.before args s = true := hT.2.2.2.2.2.2.2.2.2.2.2.2.1 w hw _ _ _ (hE.2.1 w hw)
theorem x_ftok {TN : List Jvm.Cond} {TS : List Jvm.Cond} {cl : List vw_C} {tyl : List FieldType} {tb : XT} (hT : x_TbOk TS TN cl tyl tb) {o ix ci : Nat} (hf : tNw tb o ix = some ci) (t : FieldType × Bool) (h : t ∈ tFt tb ci) : t.1 = .int ∨ t.1 = .boolean ∨ x_isRef t.1 = true := hT.2.2.2.2.2.2.2.2.2.2.2.2.2 ci t h

theorem x_ldcwS {p : Program} {l : Launch} {e : Env} {R : Room} {s : State} {m : MethodId} {args : Array Value} {below : List Frame} {meth : Method} {c : Code} {H : Heap} {locs : List Loc} {cells slots : Nat} {Q : State → Prop} {cc : ByteArray} {pc : Nat} {ls : Array Slot} {rest : List Value} (hexec : p.tables.exec = Jvm.exec) (hb : c.code = cc) {own tx : String} {index q : Nat} (hown : s.vm.findClass own = some m.cls) (hZ : vk_R own index tx q s) (hdg : decode cc pc = .ok (.ldc_w index, 3))
    (k : W p l e R s m args below meth c H locs cells slots Q (F0 m (pc + 3) ls (.ref q :: rest))) : W p l e R s m args below meth c H locs cells slots Q (F0 m pc ls rest) := by
  intro T hT X
  obtain ⟨t, a1, b1⟩ := k T hT X
  exact ⟨t, Jvm.Stand.ldcStringW X hexec hown (text := tx) (a := q) hZ.1 hZ.2 (g := F0 m pc ls rest) rfl (by rw [hb]; exact hdg) t a1, b1⟩
theorem x_lq_spec {q : XM} {pc j j0 ix j2 : Nat} (h : x_lq q pc = some (j, j0, ix, j2)) : (∃ n, mC q (pc + 1) = some (.iload j, n)) ∧ (∃ n, mC q (pc + 3) = some (.i2l, n)) ∧ (∃ n, mC q (pc + 4) = some (.ladd, n)) ∧ (∃ t n, mC q (pc + 5) = some (.aload_n t, n) ∧ (t : Nat) = j0) ∧ (∃ n, mC q (pc + 6) = some (.getfield ix, n)) ∧ (∃ t n, mC q (pc + 9) = some (.iload_n t, n) ∧ (t : Nat) = j2) ∧ (∃ n, mC q (pc + 10) = some (.iaload, n)) ∧ (∃ n, mC q (pc + 11) = some (.i2l, n)) ∧ (∃ n, mC q (pc + 12) = some (.lcmp, n)) := by
  unfold x_lq at h
  split at h
  · rename_i e1 e2 e3 e4 e5
    split at h
    · rename_i e6 e7 e8 e9
      simp only [Option.some.injEq, Prod.mk.injEq] at h
      obtain ⟨rfl, rfl, rfl, rfl⟩ := h
      exact ⟨⟨_, e1⟩, ⟨_, e2⟩, ⟨_, e3⟩, ⟨_, _, e4, rfl⟩, ⟨_, e5⟩, ⟨_, _, e6, rfl⟩, ⟨_, e7⟩, ⟨_, e8⟩, ⟨_, e9⟩⟩
    · cases h
  · cases h
theorem x_l3_spec (a b v : Int32) : lg_cmp (a.toInt64 + b.toInt64) v.toInt64 = x_l3 a b v := by
  have a1 := Int32.le_toInt a
  have a2 := Int32.toInt_lt a
  have b1 := Int32.le_toInt b
  have b2 := Int32.toInt_lt b
  have e : (a.toInt64 + b.toInt64).toInt = a.toInt + b.toInt := by
    rw [Int64.toInt_add, Int32.toInt_toInt64, Int32.toInt_toInt64]
    exact Int.bmod_eq_of_le (by simp; omega) (by simp; omega)
  unfold lg_cmp x_l3
  simp only [gt_iff_lt, Int64.lt_iff_toInt_lt, ← Int64.toInt_inj, e, Int32.toInt_toInt64]
set_option maxHeartbeats 8000000 in
set_option maxRecDepth 100000 in
theorem x_sound {l : Launch} {d : XD E K} {tb : XT} {tyl : List FieldType} {TS TN : List Jvm.Cond} {cl : List vw_C} {D : va_G} {tc : Nat → ClassId} {tys : List (ClassId × FieldType)} {XE : State → Heap → Prop} {base : Nat} {sa : Nat → Nat} {ot : XO E} (hd : x_DmOk d) (hT : x_TbOk TS TN cl tyl tb) (hX : x_XeOk XE base) (hY : x_Tys tc tys tyl) (hZ : x_OutOk TS tb ot d XE base sa) : ∀ f : Nat, x_P l d tb tyl TS TN cl D tc tys XE base sa ot f := by
  intro f
  induction f with
  | zero =>
    intro dp k pc q L S h cn sn w post p e R s m args below meth c H locs ls hq hC hOk hw
    exact (x_bad hOk hw).elim
  | succ f ih =>
  intro dp k pc q L S h cn sn w post p e R s m args below meth c H locs ls hq hC hOk hw hI hl hS
  obtain ⟨hx, hb, hml, hown, hts, hr, hlk, hnm, hE0, hbz, hR1, hR2, hR3, hR4⟩ := id hC
  have hE : x_Env TN D cl tys XE s s.heap := hE0
  rw [x_run.eq_def] at hOk
  dsimp only at hOk
  rw [hq] at hOk
  dsimp only at hOk
  rcases hc : mC q pc with _ | ⟨i, n⟩
  · rw [hc] at hOk
    exact (x_bad hOk hw).elim
  rw [hc] at hOk
  dsimp only at hOk
  obtain ⟨hdg, hlen⟩ := (hT.1 k q hq).2.2.2.2.2.2.2.2.2 pc i n hc
  clear hc
  cases i
  case iconst v =>
    obtain rfl := x_len1 hlen rfl
    try dsimp only at hOk
    exact lv_iconst hx hb hdg rfl (by rw [← hd.1 (Int32.ofInt v)]; exact ih dp k _ q _ _ h cn sn w post p e R s m args below meth c H locs ls hq hC hOk hw hI hl hS)
  case bipush v =>
    obtain rfl := x_len1 hlen rfl
    try dsimp only at hOk
    exact lv_bipush hx hb hdg rfl (by rw [← hd.1 (Int8.ofInt v).toInt32]; exact ih dp k _ q _ _ h cn sn w post p e R s m args below meth c H locs ls hq hC hOk hw hI hl hS)
  case sipush v =>
    obtain rfl := x_len1 hlen rfl
    try dsimp only at hOk
    exact lv_sipush hx hb hdg rfl (by rw [← hd.1 (Int16.ofInt v).toInt32]; exact ih dp k _ q _ _ h cn sn w post p e R s m args below meth c H locs ls hq hC hOk hw hI hl hS)
  case ldc ix =>
    obtain rfl := x_len1 hlen rfl
    try dsimp only at hOk
    rcases hv : tLi tb (mO q) ix with _ | v
    · rw [hv] at hOk
      try dsimp only at hOk
      rcases hsl : oSl ot (mO q) ix with _ | a
      · rw [hsl] at hOk
        exact (x_bad hOk hw).elim
      rw [hsl] at hOk
      try dsimp only at hOk
      obtain ⟨z1, z2⟩ := hZ.1 _ _ _ hsl
      obtain ⟨tx, z3⟩ := z2 s s.heap hE.2.2
      have g := ih dp k _ q _ _ h cn sn w post p e R s m args below meth c H locs ls hq hC hOk hw hI hl hS
      rw [List.map_cons] at g
      simp only [x_rv] at g
      rw [x_amo (by omega)] at g
      exact va_ldcS hx hb hown z3 hdg g
    rw [hv] at hOk
    try dsimp only at hOk
    exact lv_ldc hx hb hown (hts _ (hT.2.2.2.2.2.2.2.2.2.1 _ _ _ hv)) hdg (by rw [← hd.1 v]; exact ih dp k _ q _ _ h cn sn w post p e R s m args below meth c H locs ls hq hC hOk hw hI hl hS)
  case ldc_w ix =>
    obtain rfl := x_len1 hlen rfl
    try dsimp only at hOk
    rcases hv : tLi tb (mO q) ix with _ | v
    · rw [hv] at hOk
      try dsimp only at hOk
      rcases hsl : oSl ot (mO q) ix with _ | a
      · rw [hsl] at hOk
        exact (x_bad hOk hw).elim
      rw [hsl] at hOk
      try dsimp only at hOk
      obtain ⟨z1, z2⟩ := hZ.1 _ _ _ hsl
      obtain ⟨tx, z3⟩ := z2 s s.heap hE.2.2
      have g := ih dp k _ q _ _ h cn sn w post p e R s m args below meth c H locs ls hq hC hOk hw hI hl hS
      rw [List.map_cons] at g
      simp only [x_rv] at g
      rw [x_amo (by omega)] at g
      exact x_ldcwS hx hb hown z3 hdg g
    rw [hv] at hOk
    try dsimp only at hOk
    exact lv_ldcw hx hb hown (hts _ (hT.2.2.2.2.2.2.2.2.2.1 _ _ _ hv)) hdg (by rw [← hd.1 v]; exact ih dp k _ q _ _ h cn sn w post p e R s m args below meth c H locs ls hq hC hOk hw hI hl hS)
  case i2l =>
    obtain rfl := x_len1 hlen rfl
    try dsimp only at hOk
    rcases S with _ | ⟨a | a0, S⟩
    · exact (x_bad hOk hw).elim
    rotate_left
    · exact (x_bad hOk hw).elim
    rcases hql : x_lq q pc with _ | ⟨j, j0, ix, j2⟩
    · rw [hql] at hOk
      exact (x_bad hOk hw).elim
    rw [hql] at hOk
    try dsimp only at hOk
    rcases hj : x_lk L j with _ | (b | b)
    · rw [hj] at hOk
      exact (x_bad hOk hw).elim
    rotate_left
    · rw [hj] at hOk
      exact (x_bad hOk hw).elim
    rw [hj] at hOk
    rcases hj0 : x_lk L j0 with _ | (o | (_ | o))
    · rw [hj0] at hOk
      exact (x_bad hOk hw).elim
    · rw [hj0] at hOk
      exact (x_bad hOk hw).elim
    · rw [hj0] at hOk
      exact (x_bad hOk hw).elim
    rw [hj0] at hOk
    rcases hj2 : x_lk L j2 with _ | (e0 | e0)
    · rw [hj2] at hOk
      exact (x_bad hOk hw).elim
    rotate_left
    · rw [hj2] at hOk
      exact (x_bad hOk hw).elim
    rw [hj2] at hOk
    rcases hf : tFld tb (mO q) ix with _ | ⟨ci, fj⟩
    · rw [hf] at hOk
      exact (x_bad hOk hw).elim
    rw [hf] at hOk
    try dsimp only at hOk
    rcases ha : h[o]? with _ | (⟨c2, fs⟩ | z)
    · rw [ha] at hOk
      exact (x_bad hOk hw).elim
    rotate_left
    · rw [ha] at hOk
      exact (x_bad hOk hw).elim
    rw [ha] at hOk
    try dsimp only at hOk
    rcases hcc : decide (c2 = ci) with _ | _
    · rw [hcc] at hOk
      exact (x_bad hOk hw).elim
    rw [hcc] at hOk
    rcases hv : fs[fj]? with _ | (y | (_ | y))
    · rw [hv] at hOk
      exact (x_bad hOk hw).elim
    · rw [hv] at hOk
      exact (x_bad hOk hw).elim
    · rw [hv] at hOk
      exact (x_bad hOk hw).elim
    rw [hv] at hOk
    try dsimp only at hOk
    have hcc2 := of_decide_eq_true hcc
    subst hcc2
    rcases hy : h[y]? with _ | (z | ⟨t, vs⟩)
    · rw [hy] at hOk
      exact (x_bad hOk hw).elim
    · rw [hy] at hOk
      exact (x_bad hOk hw).elim
    rw [hy] at hOk
    rcases t with _ | t
    rotate_left
    · exact (x_bad hOk hw).elim
    try dsimp only at hOk
    rcases he : dKst d e0 with _ | e1
    · rw [he] at hOk
      exact (x_bad hOk hw).elim
    rw [he] at hOk
    try dsimp only at hOk
    have hOk : XOk (dHd d) (if (decide (e1 < 0) || decide (vs.length ≤ e1.toNatClampNeg)) = true then [w] else match vs[e1.toNatClampNeg]? with
        | some (.inl v) => (match dKst d a, dKst d b, dKst d v with
          | some a1, some b1, some v1 => x_run d tb tyl ot f dp k (pc + 13) L (.inl (dKc d (x_l3 a1 b1 v1)) :: S) h cn sn w post
          | _, _, _ => [w])
        | _ => [w]) := hOk
    rcases hbd : (decide (e1 < 0) || decide (vs.length ≤ e1.toNatClampNeg)) with _ | _
    rotate_left
    · rw [hbd, if_pos rfl] at hOk
      exact (x_bad hOk hw).elim
    rw [hbd, if_neg (by decide)] at hOk
    rcases hx1 : vs[e1.toNatClampNeg]? with _ | (v | v)
    · rw [hx1] at hOk
      exact (x_bad hOk hw).elim
    rotate_left
    · rw [hx1] at hOk
      exact (x_bad hOk hw).elim
    rw [hx1] at hOk
    try dsimp only at hOk
    rcases hk1 : dKst d a with _ | a1
    · rw [hk1] at hOk
      exact (x_bad hOk hw).elim
    rw [hk1] at hOk
    rcases hk2 : dKst d b with _ | b1
    · rw [hk2] at hOk
      exact (x_bad hOk hw).elim
    rw [hk2] at hOk
    rcases hk3 : dKst d v with _ | v1
    · rw [hk3] at hOk
      exact (x_bad hOk hw).elim
    rw [hk3] at hOk
    try dsimp only at hOk
    obtain ⟨⟨n1, q1⟩, ⟨n2, q2⟩, ⟨n3, q3⟩, ⟨t0, n4, q4, rfl⟩, ⟨n5, q5⟩, ⟨t2, n6, q6, rfl⟩, ⟨n7, q7⟩, ⟨n8, q8⟩, ⟨n9, q9⟩⟩ := x_lq_spec hql
    have dg := (hT.1 k q hq).2.2.2.2.2.2.2.2.2
    obtain ⟨d1, l1⟩ := dg _ _ _ q1
    obtain rfl := x_len1 l1 rfl
    obtain ⟨d2, l2⟩ := dg _ _ _ q2
    obtain rfl := x_len1 l2 rfl
    obtain ⟨d3, l3⟩ := dg _ _ _ q3
    obtain rfl := x_len1 l3 rfl
    obtain ⟨d4, l4⟩ := dg _ _ _ q4
    obtain rfl := x_len1 l4 rfl
    obtain ⟨d5, l5⟩ := dg _ _ _ q5
    obtain rfl := x_len1 l5 rfl
    obtain ⟨d6, l6⟩ := dg _ _ _ q6
    obtain rfl := x_len1 l6 rfl
    obtain ⟨d7, l7⟩ := dg _ _ _ q7
    obtain rfl := x_len1 l7 rfl
    obtain ⟨d8, l8⟩ := dg _ _ _ q8
    obtain rfl := x_len1 l8 rfl
    obtain ⟨d9, l9⟩ := dg _ _ _ q9
    obtain rfl := x_len1 l9 rfl
    have hbd2 := Bool.or_eq_false_iff.mp hbd
    have eE := hd.2.2.2.1 e0 e1 he
    have g := ih dp k (pc + 13) q L _ h cn sn w post p e R s m args below meth c H locs ls hq hC hOk hw hI hl hS
    rw [List.map_cons] at g
    simp only [x_rv] at g
    rw [hd.1, ← x_l3_spec, ← hd.2.2.2.1 a a1 hk1, ← hd.2.2.2.1 b b1 hk2, ← hd.2.2.2.1 v v1 hk3] at g
    rw [List.map_cons]
    simp only [x_rv]
    refine lv_i2l hx hb hdg rfl ?_
    refine lv_iload hx hb d1 (x_lk_spec hl hj) ?_
    refine lv_i2l hx hb d2 rfl ?_
    refine lv_ladd hx hb d3 ?_
    refine lv_aload_n hx hb d4 rfl (x_lk_spec hl hj0) ?_
    rw [x_amh hI ha]
    refine x_getf hx hb hts hT hown hE.1 hI ha hf hv d5 ?_
    refine lv_iload_n hx hb d6 rfl (x_lk_spec hl hj2) ?_
    have ea : x_rv d (x_am base sa) (.inr (some y)) = .ref (base + y) := congrArg Value.ref (x_amh hI hy)
    rw [ea]
    refine x_iald hx hb hE.1 hY hT.2.2.2.2.2.1.2.2.1 hI hy (by rw [eE]; exact of_decide_eq_false hbd2.1) (by rw [eE]; exact Nat.lt_of_not_le (of_decide_eq_false hbd2.2)) (by rw [eE]; exact hx1) d7 ?_
    simp only [x_rv]
    refine lv_i2l hx hb d8 rfl ?_
    exact W.lcmp hx hb d9 g
  case aconst_null =>
    obtain rfl := x_len1 hlen rfl
    try dsimp only at hOk
    exact lv_null hx hb hdg (ih dp k _ q _ _ h cn sn w post p e R s m args below meth c H locs ls hq hC hOk hw hI hl hS)
  case iload_n j =>
    obtain rfl := x_len1 hlen rfl
    try dsimp only at hOk
    rcases ha : x_lk L ↑j with _ | v
    · rw [ha] at hOk
      exact (x_bad hOk hw).elim
    rw [ha] at hOk
    rcases v with a | a
    rotate_left
    · exact (x_bad hOk hw).elim
    try dsimp only at hOk
    exact lv_iload_n hx hb hdg rfl (x_lk_spec hl ha) (ih dp k _ q _ _ h cn sn w post p e R s m args below meth c H locs ls hq hC hOk hw hI hl hS)
  case iload j =>
    obtain rfl := x_len1 hlen rfl
    try dsimp only at hOk
    rcases ha : x_lk L j with _ | v
    · rw [ha] at hOk
      exact (x_bad hOk hw).elim
    rw [ha] at hOk
    rcases v with a | a
    rotate_left
    · exact (x_bad hOk hw).elim
    try dsimp only at hOk
    exact lv_iload hx hb hdg (x_lk_spec hl ha) (ih dp k _ q _ _ h cn sn w post p e R s m args below meth c H locs ls hq hC hOk hw hI hl hS)
  case aload_n j =>
    obtain rfl := x_len1 hlen rfl
    try dsimp only at hOk
    rcases ha : x_lk L ↑j with _ | v
    · rw [ha] at hOk
      exact (x_bad hOk hw).elim
    rw [ha] at hOk
    rcases v with a | (_ | a)
    · exact (x_bad hOk hw).elim
    · dsimp only at hOk
      exact lv_aload_nN hx hb hdg rfl (x_lk_spec hl ha) (ih dp k _ q _ _ h cn sn w post p e R s m args below meth c H locs ls hq hC hOk hw hI hl hS)
    · dsimp only at hOk
      exact lv_aload_n hx hb hdg rfl (x_lk_spec hl ha) (ih dp k _ q _ _ h cn sn w post p e R s m args below meth c H locs ls hq hC hOk hw hI hl hS)
  case aload j =>
    obtain rfl := x_len1 hlen rfl
    try dsimp only at hOk
    rcases ha : x_lk L j with _ | v
    · rw [ha] at hOk
      exact (x_bad hOk hw).elim
    rw [ha] at hOk
    rcases v with a | (_ | a)
    · exact (x_bad hOk hw).elim
    · dsimp only at hOk
      exact lv_aloadN hx hb hdg (x_lk_spec hl ha) (ih dp k _ q _ _ h cn sn w post p e R s m args below meth c H locs ls hq hC hOk hw hI hl hS)
    · dsimp only at hOk
      exact lv_aload hx hb hdg (x_lk_spec hl ha) (ih dp k _ q _ _ h cn sn w post p e R s m args below meth c H locs ls hq hC hOk hw hI hl hS)
  case istore_n j =>
    obtain rfl := x_len1 hlen rfl
    try dsimp only at hOk
    rcases S with _ | ⟨a | a0, S⟩
    · exact (x_bad hOk hw).elim
    rotate_left
    · exact (x_bad hOk hw).elim
    try dsimp only at hOk
    obtain ⟨hj, hO⟩ := x_if hOk hw
    exact lv_istore_n hx hb hdg rfl hl hj (x_st_spec d (x_am base sa) L _ (.inl a)) (fun ls' hl' => ih dp k _ q _ _ h cn sn w post p e R s m args below meth c H locs ls' hq hC hO hw hI hl' hS)
  case istore j =>
    obtain rfl := x_len1 hlen rfl
    try dsimp only at hOk
    rcases S with _ | ⟨a | a0, S⟩
    · exact (x_bad hOk hw).elim
    rotate_left
    · exact (x_bad hOk hw).elim
    try dsimp only at hOk
    obtain ⟨hj, hO⟩ := x_if hOk hw
    exact lv_istore hx hb hdg hl hj (x_st_spec d (x_am base sa) L _ (.inl a)) (fun ls' hl' => ih dp k _ q _ _ h cn sn w post p e R s m args below meth c H locs ls' hq hC hO hw hI hl' hS)
  case astore_n j =>
    obtain rfl := x_len1 hlen rfl
    try dsimp only at hOk
    rcases S with _ | ⟨a0 | a, S⟩
    · exact (x_bad hOk hw).elim
    · exact (x_bad hOk hw).elim
    try dsimp only at hOk
    obtain ⟨hj, hO⟩ := x_if hOk hw
    rcases a with _ | a
    · exact lv_astore_nN hx hb hdg rfl hl hj (x_st_spec d (x_am base sa) L _ (.inr none)) (fun ls' hl' => ih dp k _ q _ _ h cn sn w post p e R s m args below meth c H locs ls' hq hC hO hw hI hl' hS)
    · exact lv_astore_n hx hb hdg rfl hl hj (x_st_spec d (x_am base sa) L _ (.inr (some a))) (fun ls' hl' => ih dp k _ q _ _ h cn sn w post p e R s m args below meth c H locs ls' hq hC hO hw hI hl' hS)
  case astore j =>
    obtain rfl := x_len1 hlen rfl
    try dsimp only at hOk
    rcases S with _ | ⟨a0 | a, S⟩
    · exact (x_bad hOk hw).elim
    · exact (x_bad hOk hw).elim
    try dsimp only at hOk
    obtain ⟨hj, hO⟩ := x_if hOk hw
    rcases a with _ | a
    · exact lv_astoreN hx hb hdg hl hj (x_st_spec d (x_am base sa) L _ (.inr none)) (fun ls' hl' => ih dp k _ q _ _ h cn sn w post p e R s m args below meth c H locs ls' hq hC hO hw hI hl' hS)
    · exact lv_astore hx hb hdg hl hj (x_st_spec d (x_am base sa) L _ (.inr (some a))) (fun ls' hl' => ih dp k _ q _ _ h cn sn w post p e R s m args below meth c H locs ls' hq hC hO hw hI hl' hS)
  case iinc j v =>
    obtain rfl := x_len1 hlen rfl
    try dsimp only at hOk
    rcases ha : x_lk L j with _ | v2
    · rw [ha] at hOk
      exact (x_bad hOk hw).elim
    rw [ha] at hOk
    rcases v2 with a | a
    rotate_left
    · exact (x_bad hOk hw).elim
    try dsimp only at hOk
    obtain ⟨hj, hO⟩ := x_if hOk hw
    obtain ⟨kk, hk⟩ := x_lk_at d (x_am base sa) ha
    exact lv_iinc (v := dEv d (dBin d 0 a (dKc d (Int32.ofInt v)))) hx hb hdg hl hk (by rw [hd.2.1, hd.1]; rfl) hj (x_st_spec d (x_am base sa) L j (.inl (dBin d 0 a (dKc d (Int32.ofInt v))))) (fun ls' hl' => ih dp k _ q _ _ h cn sn w post p e R s m args below meth c H locs ls' hq hC hO hw hI hl' hS)
  case dup =>
    obtain rfl := x_len1 hlen rfl
    try dsimp only at hOk
    rcases S with _ | ⟨a, S⟩
    · exact (x_bad hOk hw).elim
    try dsimp only at hOk
    exact lv_dup hx hb hdg (x_rvc _ _ _) (ih dp k _ q _ _ h cn sn w post p e R s m args below meth c H locs ls hq hC hOk hw hI hl hS)
  case dup_x1 =>
    obtain rfl := x_len1 hlen rfl
    try dsimp only at hOk
    rcases S with _ | ⟨a, S⟩
    · exact (x_bad hOk hw).elim
    try dsimp only at hOk
    rcases S with _ | ⟨b, S⟩
    · exact (x_bad hOk hw).elim
    try dsimp only at hOk
    exact lv_dup_x1 hx hb hdg (x_rvc _ _ _) (x_rvc _ _ _) (ih dp k _ q _ _ h cn sn w post p e R s m args below meth c H locs ls hq hC hOk hw hI hl hS)
  case dup2 =>
    obtain rfl := x_len1 hlen rfl
    try dsimp only at hOk
    rcases S with _ | ⟨a, S⟩
    · exact (x_bad hOk hw).elim
    try dsimp only at hOk
    rcases S with _ | ⟨b, S⟩
    · exact (x_bad hOk hw).elim
    try dsimp only at hOk
    exact lv_dup2_11 hx hb hdg (x_rvc _ _ _) (x_rvc _ _ _) (ih dp k _ q _ _ h cn sn w post p e R s m args below meth c H locs ls hq hC hOk hw hI hl hS)
  case pop =>
    obtain rfl := x_len1 hlen rfl
    try dsimp only at hOk
    rcases S with _ | ⟨a, S⟩
    · exact (x_bad hOk hw).elim
    try dsimp only at hOk
    exact lv_pop hx hb hdg (x_rvc _ _ _) (ih dp k _ q _ _ h cn sn w post p e R s m args below meth c H locs ls hq hC hOk hw hI hl hS)
  case iadd =>
    obtain rfl := x_len1 hlen rfl
    try dsimp only at hOk
    rcases S with _ | ⟨b | a0, S⟩
    · exact (x_bad hOk hw).elim
    rotate_left
    · exact (x_bad hOk hw).elim
    try dsimp only at hOk
    rcases S with _ | ⟨a | a0, S⟩
    · exact (x_bad hOk hw).elim
    rotate_left
    · exact (x_bad hOk hw).elim
    try dsimp only at hOk
    have eb : dEv d (dBin d 0 a b) = x_bin 0 (dEv d a) (dEv d b) := hd.2.1 0 a b
    refine lv_iadd hx hb hdg (x := dEv d a) (y := dEv d b) ?_
    have g := ih dp k _ q _ _ h cn sn w post p e R s m args below meth c H locs ls hq hC hOk hw hI hl hS
    rw [List.map_cons] at g
    simp only [x_rv] at g
    rw [eb] at g
    exact g
  case isub =>
    obtain rfl := x_len1 hlen rfl
    try dsimp only at hOk
    rcases S with _ | ⟨b | a0, S⟩
    · exact (x_bad hOk hw).elim
    rotate_left
    · exact (x_bad hOk hw).elim
    try dsimp only at hOk
    rcases S with _ | ⟨a | a0, S⟩
    · exact (x_bad hOk hw).elim
    rotate_left
    · exact (x_bad hOk hw).elim
    try dsimp only at hOk
    have eb : dEv d (dBin d 1 a b) = x_bin 1 (dEv d a) (dEv d b) := hd.2.1 1 a b
    refine lv_isub hx hb hdg (x := dEv d a) (y := dEv d b) ?_
    have g := ih dp k _ q _ _ h cn sn w post p e R s m args below meth c H locs ls hq hC hOk hw hI hl hS
    rw [List.map_cons] at g
    simp only [x_rv] at g
    rw [eb] at g
    exact g
  case imul =>
    obtain rfl := x_len1 hlen rfl
    try dsimp only at hOk
    rcases S with _ | ⟨b | a0, S⟩
    · exact (x_bad hOk hw).elim
    rotate_left
    · exact (x_bad hOk hw).elim
    try dsimp only at hOk
    rcases S with _ | ⟨a | a0, S⟩
    · exact (x_bad hOk hw).elim
    rotate_left
    · exact (x_bad hOk hw).elim
    try dsimp only at hOk
    have eb : dEv d (dBin d 2 a b) = x_bin 2 (dEv d a) (dEv d b) := hd.2.1 2 a b
    refine lv_imul hx hb hdg (x := dEv d a) (y := dEv d b) ?_
    have g := ih dp k _ q _ _ h cn sn w post p e R s m args below meth c H locs ls hq hC hOk hw hI hl hS
    rw [List.map_cons] at g
    simp only [x_rv] at g
    rw [eb] at g
    exact g
  case iand =>
    obtain rfl := x_len1 hlen rfl
    try dsimp only at hOk
    rcases S with _ | ⟨b | a0, S⟩
    · exact (x_bad hOk hw).elim
    rotate_left
    · exact (x_bad hOk hw).elim
    try dsimp only at hOk
    rcases S with _ | ⟨a | a0, S⟩
    · exact (x_bad hOk hw).elim
    rotate_left
    · exact (x_bad hOk hw).elim
    try dsimp only at hOk
    have eb : dEv d (dBin d 3 a b) = x_bin 3 (dEv d a) (dEv d b) := hd.2.1 3 a b
    refine lv_iand hx hb hdg (x := dEv d a) (y := dEv d b) ?_
    have g := ih dp k _ q _ _ h cn sn w post p e R s m args below meth c H locs ls hq hC hOk hw hI hl hS
    rw [List.map_cons] at g
    simp only [x_rv] at g
    rw [eb] at g
    exact g
  case ior =>
    obtain rfl := x_len1 hlen rfl
    try dsimp only at hOk
    rcases S with _ | ⟨b | a0, S⟩
    · exact (x_bad hOk hw).elim
    rotate_left
    · exact (x_bad hOk hw).elim
    try dsimp only at hOk
    rcases S with _ | ⟨a | a0, S⟩
    · exact (x_bad hOk hw).elim
    rotate_left
    · exact (x_bad hOk hw).elim
    try dsimp only at hOk
    have eb : dEv d (dBin d 4 a b) = x_bin 4 (dEv d a) (dEv d b) := hd.2.1 4 a b
    refine lv_ior hx hb hdg (x := dEv d a) (y := dEv d b) ?_
    have g := ih dp k _ q _ _ h cn sn w post p e R s m args below meth c H locs ls hq hC hOk hw hI hl hS
    rw [List.map_cons] at g
    simp only [x_rv] at g
    rw [eb] at g
    exact g
  case ixor =>
    obtain rfl := x_len1 hlen rfl
    try dsimp only at hOk
    rcases S with _ | ⟨b | a0, S⟩
    · exact (x_bad hOk hw).elim
    rotate_left
    · exact (x_bad hOk hw).elim
    try dsimp only at hOk
    rcases S with _ | ⟨a | a0, S⟩
    · exact (x_bad hOk hw).elim
    rotate_left
    · exact (x_bad hOk hw).elim
    try dsimp only at hOk
    have eb : dEv d (dBin d 5 a b) = x_bin 5 (dEv d a) (dEv d b) := hd.2.1 5 a b
    refine lv_ixor hx hb hdg (x := dEv d a) (y := dEv d b) ?_
    have g := ih dp k _ q _ _ h cn sn w post p e R s m args below meth c H locs ls hq hC hOk hw hI hl hS
    rw [List.map_cons] at g
    simp only [x_rv] at g
    rw [eb] at g
    exact g
  case ishl =>
    obtain rfl := x_len1 hlen rfl
    try dsimp only at hOk
    rcases S with _ | ⟨b | a0, S⟩
    · exact (x_bad hOk hw).elim
    rotate_left
    · exact (x_bad hOk hw).elim
    try dsimp only at hOk
    rcases S with _ | ⟨a | a0, S⟩
    · exact (x_bad hOk hw).elim
    rotate_left
    · exact (x_bad hOk hw).elim
    try dsimp only at hOk
    have eb : dEv d (dBin d 6 a b) = x_bin 6 (dEv d a) (dEv d b) := hd.2.1 6 a b
    refine lv_ishl hx hb hdg (x := dEv d a) (y := dEv d b) ?_
    have g := ih dp k _ q _ _ h cn sn w post p e R s m args below meth c H locs ls hq hC hOk hw hI hl hS
    rw [List.map_cons] at g
    simp only [x_rv] at g
    rw [eb] at g
    exact g
  case ishr =>
    obtain rfl := x_len1 hlen rfl
    try dsimp only at hOk
    rcases S with _ | ⟨b | a0, S⟩
    · exact (x_bad hOk hw).elim
    rotate_left
    · exact (x_bad hOk hw).elim
    try dsimp only at hOk
    rcases S with _ | ⟨a | a0, S⟩
    · exact (x_bad hOk hw).elim
    rotate_left
    · exact (x_bad hOk hw).elim
    try dsimp only at hOk
    have eb : dEv d (dBin d 7 a b) = x_bin 7 (dEv d a) (dEv d b) := hd.2.1 7 a b
    refine lv_ishr hx hb hdg (x := dEv d a) (y := dEv d b) ?_
    have g := ih dp k _ q _ _ h cn sn w post p e R s m args below meth c H locs ls hq hC hOk hw hI hl hS
    rw [List.map_cons] at g
    simp only [x_rv] at g
    rw [eb] at g
    exact g
  case idiv =>
    obtain rfl := x_len1 hlen rfl
    try dsimp only at hOk
    rcases S with _ | ⟨b | a0, S⟩
    · exact (x_bad hOk hw).elim
    rotate_left
    · exact (x_bad hOk hw).elim
    try dsimp only at hOk
    rcases S with _ | ⟨a | a0, S⟩
    · exact (x_bad hOk hw).elim
    rotate_left
    · exact (x_bad hOk hw).elim
    try dsimp only at hOk
    have eb : dEv d (dBin d 8 a b) = x_bin 8 (dEv d a) (dEv d b) := hd.2.1 8 a b
    obtain ⟨w2, hw2, h3⟩ := hd.2.2.2.2 0 b (dKc d 0) w _ _ hOk hw
    rw [hd.1] at h3
    rcases h3 with ⟨_, h3⟩ | ⟨hne, h3⟩
    · exact (x_bad h3 hw2).elim
    refine lv_idiv hx hb hdg (x := dEv d a) (y := dEv d b) (of_decide_eq_false hne) ?_
    have g := ih dp k _ q _ _ h cn sn w2 post p e R s m args below meth c H locs ls hq hC h3 hw2 hI hl hS
    rw [List.map_cons] at g
    simp only [x_rv] at g
    rw [eb] at g
    exact g
  case irem =>
    obtain rfl := x_len1 hlen rfl
    try dsimp only at hOk
    rcases S with _ | ⟨b | a0, S⟩
    · exact (x_bad hOk hw).elim
    rotate_left
    · exact (x_bad hOk hw).elim
    try dsimp only at hOk
    rcases S with _ | ⟨a | a0, S⟩
    · exact (x_bad hOk hw).elim
    rotate_left
    · exact (x_bad hOk hw).elim
    try dsimp only at hOk
    have eb : dEv d (dBin d 9 a b) = x_bin 9 (dEv d a) (dEv d b) := hd.2.1 9 a b
    obtain ⟨w2, hw2, h3⟩ := hd.2.2.2.2 0 b (dKc d 0) w _ _ hOk hw
    rw [hd.1] at h3
    rcases h3 with ⟨_, h3⟩ | ⟨hne, h3⟩
    · exact (x_bad h3 hw2).elim
    refine lv_irem hx hb hdg (x := dEv d a) (y := dEv d b) (of_decide_eq_false hne) ?_
    have g := ih dp k _ q _ _ h cn sn w2 post p e R s m args below meth c H locs ls hq hC h3 hw2 hI hl hS
    rw [List.map_cons] at g
    simp only [x_rv] at g
    rw [eb] at g
    exact g
  case i2b =>
    obtain rfl := x_len1 hlen rfl
    try dsimp only at hOk
    rcases S with _ | ⟨a | a0, S⟩
    · exact (x_bad hOk hw).elim
    rotate_left
    · exact (x_bad hOk hw).elim
    try dsimp only at hOk
    exact lv_i2b hx hb (v := dEv d (dUn d 0 a)) hdg (by rw [hd.2.2.1]; rfl) (ih dp k _ q _ _ h cn sn w post p e R s m args below meth c H locs ls hq hC hOk hw hI hl hS)
  case i2s =>
    obtain rfl := x_len1 hlen rfl
    try dsimp only at hOk
    rcases S with _ | ⟨a | a0, S⟩
    · exact (x_bad hOk hw).elim
    rotate_left
    · exact (x_bad hOk hw).elim
    try dsimp only at hOk
    exact lv_i2s hx hb (v := dEv d (dUn d 1 a)) hdg (by rw [hd.2.2.1]; rfl) (ih dp k _ q _ _ h cn sn w post p e R s m args below meth c H locs ls hq hC hOk hw hI hl hS)
  case goto o =>
    obtain rfl := x_len1 hlen rfl
    try dsimp only at hOk
    rcases ht : x_jp pc o with _ | t
    · rw [ht] at hOk
      exact (x_bad hOk hw).elim
    rw [ht] at hOk
    try dsimp only at hOk
    exact lv_goto hx hb hdg (x_jp_spec ht) (ih dp k _ q _ _ h cn sn w post p e R s m args below meth c H locs ls hq hC hOk hw hI hl hS)
  case ifCond cc2 o =>
    obtain rfl := x_len1 hlen rfl
    try dsimp only at hOk
    rcases S with _ | ⟨a | a0, S⟩
    · exact (x_bad hOk hw).elim
    rotate_left
    · exact (x_bad hOk hw).elim
    try dsimp only at hOk
    rcases ht : x_jp pc o with _ | t
    · rw [ht] at hOk
      exact (x_bad hOk hw).elim
    rw [ht] at hOk
    try dsimp only at hOk
    obtain ⟨w2, hw2, h3⟩ := hd.2.2.2.2 _ a (dKc d 0) w _ _ hOk hw
    rw [hd.1] at h3
    cases cc2 <;> rcases h3 with ⟨hc, h3⟩ | ⟨hc, h3⟩
    · exact lv_if_eq hx hb hdg (x_jp_spec ht) (fun _ => ih dp k _ q _ _ h cn sn w2 post p e R s m args below meth c H locs ls hq hC h3 hw2 hI hl hS) (fun z => absurd (of_decide_eq_true hc) z)
    · exact lv_if_eq hx hb hdg (x_jp_spec ht) (fun z => absurd z (of_decide_eq_false hc)) (fun _ => ih dp k _ q _ _ h cn sn w2 post p e R s m args below meth c H locs ls hq hC h3 hw2 hI hl hS)
    · exact lv_if_ne hx hb hdg (x_jp_spec ht) (fun _ => ih dp k _ q _ _ h cn sn w2 post p e R s m args below meth c H locs ls hq hC h3 hw2 hI hl hS) (fun z => absurd z (of_decide_eq_true hc))
    · exact lv_if_ne hx hb hdg (x_jp_spec ht) (fun z => absurd (Decidable.not_not.mp (of_decide_eq_false hc)) z) (fun _ => ih dp k _ q _ _ h cn sn w2 post p e R s m args below meth c H locs ls hq hC h3 hw2 hI hl hS)
    · exact lv_if_lt hx hb hdg (x_jp_spec ht) (fun _ => ih dp k _ q _ _ h cn sn w2 post p e R s m args below meth c H locs ls hq hC h3 hw2 hI hl hS) (fun z => absurd (of_decide_eq_true hc) z)
    · exact lv_if_lt hx hb hdg (x_jp_spec ht) (fun z => absurd z (of_decide_eq_false hc)) (fun _ => ih dp k _ q _ _ h cn sn w2 post p e R s m args below meth c H locs ls hq hC h3 hw2 hI hl hS)
    · exact lv_if_ge hx hb hdg (x_jp_spec ht) (fun _ => ih dp k _ q _ _ h cn sn w2 post p e R s m args below meth c H locs ls hq hC h3 hw2 hI hl hS) (fun z => absurd (of_decide_eq_true hc) z)
    · exact lv_if_ge hx hb hdg (x_jp_spec ht) (fun z => absurd z (of_decide_eq_false hc)) (fun _ => ih dp k _ q _ _ h cn sn w2 post p e R s m args below meth c H locs ls hq hC h3 hw2 hI hl hS)
    · exact lv_if_gt hx hb hdg (x_jp_spec ht) (fun _ => ih dp k _ q _ _ h cn sn w2 post p e R s m args below meth c H locs ls hq hC h3 hw2 hI hl hS) (fun z => absurd (of_decide_eq_true hc) z)
    · exact lv_if_gt hx hb hdg (x_jp_spec ht) (fun z => absurd z (of_decide_eq_false hc)) (fun _ => ih dp k _ q _ _ h cn sn w2 post p e R s m args below meth c H locs ls hq hC h3 hw2 hI hl hS)
    · exact lv_if_le hx hb hdg (x_jp_spec ht) (fun _ => ih dp k _ q _ _ h cn sn w2 post p e R s m args below meth c H locs ls hq hC h3 hw2 hI hl hS) (fun z => absurd (of_decide_eq_true hc) z)
    · exact lv_if_le hx hb hdg (x_jp_spec ht) (fun z => absurd z (of_decide_eq_false hc)) (fun _ => ih dp k _ q _ _ h cn sn w2 post p e R s m args below meth c H locs ls hq hC h3 hw2 hI hl hS)
  case if_icmp cc2 o =>
    obtain rfl := x_len1 hlen rfl
    try dsimp only at hOk
    rcases S with _ | ⟨b | a0, S⟩
    · exact (x_bad hOk hw).elim
    rotate_left
    · exact (x_bad hOk hw).elim
    try dsimp only at hOk
    rcases S with _ | ⟨a | a0, S⟩
    · exact (x_bad hOk hw).elim
    rotate_left
    · exact (x_bad hOk hw).elim
    try dsimp only at hOk
    rcases ht : x_jp pc o with _ | t
    · rw [ht] at hOk
      exact (x_bad hOk hw).elim
    rw [ht] at hOk
    try dsimp only at hOk
    obtain ⟨w2, hw2, h3⟩ := hd.2.2.2.2 _ a b w _ _ hOk hw
    cases cc2 <;> rcases h3 with ⟨hc, h3⟩ | ⟨hc, h3⟩
    · exact lv_icmp_eq hx hb hdg (x_jp_spec ht) (fun _ => ih dp k _ q _ _ h cn sn w2 post p e R s m args below meth c H locs ls hq hC h3 hw2 hI hl hS) (fun z => absurd (of_decide_eq_true hc) z)
    · exact lv_icmp_eq hx hb hdg (x_jp_spec ht) (fun z => absurd z (of_decide_eq_false hc)) (fun _ => ih dp k _ q _ _ h cn sn w2 post p e R s m args below meth c H locs ls hq hC h3 hw2 hI hl hS)
    · exact lv_icmp_ne hx hb hdg (x_jp_spec ht) (fun _ => ih dp k _ q _ _ h cn sn w2 post p e R s m args below meth c H locs ls hq hC h3 hw2 hI hl hS) (fun z => absurd z (of_decide_eq_true hc))
    · exact lv_icmp_ne hx hb hdg (x_jp_spec ht) (fun z => absurd (Decidable.not_not.mp (of_decide_eq_false hc)) z) (fun _ => ih dp k _ q _ _ h cn sn w2 post p e R s m args below meth c H locs ls hq hC h3 hw2 hI hl hS)
    · exact lv_icmp_lt hx hb hdg (x_jp_spec ht) (fun _ => ih dp k _ q _ _ h cn sn w2 post p e R s m args below meth c H locs ls hq hC h3 hw2 hI hl hS) (fun z => absurd (of_decide_eq_true hc) z)
    · exact lv_icmp_lt hx hb hdg (x_jp_spec ht) (fun z => absurd z (of_decide_eq_false hc)) (fun _ => ih dp k _ q _ _ h cn sn w2 post p e R s m args below meth c H locs ls hq hC h3 hw2 hI hl hS)
    · exact lv_icmp_ge hx hb hdg (x_jp_spec ht) (fun _ => ih dp k _ q _ _ h cn sn w2 post p e R s m args below meth c H locs ls hq hC h3 hw2 hI hl hS) (fun z => absurd (of_decide_eq_true hc) z)
    · exact lv_icmp_ge hx hb hdg (x_jp_spec ht) (fun z => absurd z (of_decide_eq_false hc)) (fun _ => ih dp k _ q _ _ h cn sn w2 post p e R s m args below meth c H locs ls hq hC h3 hw2 hI hl hS)
    · exact lv_icmp_gt hx hb hdg (x_jp_spec ht) (fun _ => ih dp k _ q _ _ h cn sn w2 post p e R s m args below meth c H locs ls hq hC h3 hw2 hI hl hS) (fun z => absurd (of_decide_eq_true hc) z)
    · exact lv_icmp_gt hx hb hdg (x_jp_spec ht) (fun z => absurd z (of_decide_eq_false hc)) (fun _ => ih dp k _ q _ _ h cn sn w2 post p e R s m args below meth c H locs ls hq hC h3 hw2 hI hl hS)
    · exact lv_icmp_le hx hb hdg (x_jp_spec ht) (fun _ => ih dp k _ q _ _ h cn sn w2 post p e R s m args below meth c H locs ls hq hC h3 hw2 hI hl hS) (fun z => absurd (of_decide_eq_true hc) z)
    · exact lv_icmp_le hx hb hdg (x_jp_spec ht) (fun z => absurd z (of_decide_eq_false hc)) (fun _ => ih dp k _ q _ _ h cn sn w2 post p e R s m args below meth c H locs ls hq hC h3 hw2 hI hl hS)
  case ifnull o =>
    obtain rfl := x_len1 hlen rfl
    try dsimp only at hOk
    rcases S with _ | ⟨a0 | a, S⟩
    · exact (x_bad hOk hw).elim
    · exact (x_bad hOk hw).elim
    try dsimp only at hOk
    rcases ht : x_jp pc o with _ | t
    · rw [ht] at hOk
      rcases a with _ | a
      · exact (x_bad hOk hw).elim
      · exact lv_ifnull hx hb hdg (ih dp k _ q _ _ h cn sn w post p e R s m args below meth c H locs ls hq hC hOk hw hI hl hS)
    rw [ht] at hOk
    rcases a with _ | a
    · exact lv_ifnullN hx hb hdg (x_jp_spec ht) (ih dp k _ q _ _ h cn sn w post p e R s m args below meth c H locs ls hq hC hOk hw hI hl hS)
    · exact lv_ifnull hx hb hdg (ih dp k _ q _ _ h cn sn w post p e R s m args below meth c H locs ls hq hC hOk hw hI hl hS)
  case ifnonnull o =>
    obtain rfl := x_len1 hlen rfl
    try dsimp only at hOk
    rcases S with _ | ⟨a0 | a, S⟩
    · exact (x_bad hOk hw).elim
    · exact (x_bad hOk hw).elim
    try dsimp only at hOk
    rcases ht : x_jp pc o with _ | t
    · rw [ht] at hOk
      rcases a with _ | a
      · exact lv_ifnonnullN hx hb hdg (ih dp k _ q _ _ h cn sn w post p e R s m args below meth c H locs ls hq hC hOk hw hI hl hS)
      · exact (x_bad hOk hw).elim
    rw [ht] at hOk
    rcases a with _ | a
    · exact lv_ifnonnullN hx hb hdg (ih dp k _ q _ _ h cn sn w post p e R s m args below meth c H locs ls hq hC hOk hw hI hl hS)
    · exact lv_ifnonnull hx hb hdg (x_jp_spec ht) (ih dp k _ q _ _ h cn sn w post p e R s m args below meth c H locs ls hq hC hOk hw hI hl hS)
  case lookupswitch df ps =>
    try dsimp only at hOk
    rcases S with _ | ⟨a | a0, S⟩
    · exact (x_bad hOk hw).elim
    rotate_left
    · exact (x_bad hOk hw).elim
    try dsimp only at hOk
    obtain ⟨hsr, hO⟩ := x_if hOk hw
    obtain ⟨w2, hw2, h3⟩ := x_sw_spec hd _ w hO hw
    try dsimp only at h3
    rcases ht : x_jp pc (Op.lookupswitch.offset ps.toList df (dEv d a).toInt) with _ | t
    · rw [ht] at h3
      exact (x_bad h3 hw2).elim
    rw [ht] at h3
    try dsimp only at h3
    exact lv_lookup hx hb hdg hsr rfl (x_jp_spec ht) (ih dp k _ q _ _ h cn sn w2 post p e R s m args below meth c H locs ls hq hC h3 hw2 hI hl hS)
  case tableswitch df lo hi os =>
    try dsimp only at hOk
    rcases S with _ | ⟨a | a0, S⟩
    · exact (x_bad hOk hw).elim
    rotate_left
    · exact (x_bad hOk hw).elim
    try dsimp only at hOk
    obtain ⟨hsr, hO⟩ := x_if hOk hw
    obtain ⟨w2, hw2, h3⟩ := x_sw_spec hd _ w hO hw
    try dsimp only at h3
    rcases ht : x_jp pc (Op.lookupswitch.offset (x_tp lo os.toList) df (dEv d a).toInt) with _ | t
    · rw [ht] at h3
      exact (x_bad h3 hw2).elim
    rw [ht] at h3
    try dsimp only at h3
    have hsz : os.toList.length = os.size := by simp
    by_cases hin : (dEv d a).toInt < lo ∨ hi < (dEv d a).toInt
    · rw [x_tp_out df os.toList lo (dEv d a).toInt (by omega)] at ht
      exact lv_tableOut hx hb hdg hin (x_jp_spec ht) (ih dp k _ q _ _ h cn sn w2 post p e R s m args below meth c H locs ls hq hC h3 hw2 hI hl hS)
    · have hg := x_tp_in df os.toList lo (dEv d a).toInt (by omega) (by omega)
      exact lv_tableIn hx hb hdg (by omega) (by omega) (by rw [← Array.getElem?_toList]; exact hg) (x_jp_spec ht) (ih dp k _ q _ _ h cn sn w2 post p e R s m args below meth c H locs ls hq hC h3 hw2 hI hl hS)
  case getfield ix =>
    obtain rfl := x_len1 hlen rfl
    try dsimp only at hOk
    rcases S with _ | ⟨a0 | (_ | a), S⟩
    · exact (x_bad hOk hw).elim
    · exact (x_bad hOk hw).elim
    · exact (x_bad hOk hw).elim
    try dsimp only at hOk
    by_cases hba : 1000000 < a
    · rw [if_pos hba] at hOk
      rcases hf : oFl ot a (mO q) ix with _ | v
      · rw [hf] at hOk
        exact (x_bad hOk hw).elim
      rw [hf] at hOk
      try dsimp only at hOk
      obtain ⟨z1, C, n, dd, z2, z3⟩ := hZ.2.1 _ _ _ _ hf
      have g := ih dp k _ q _ _ h cn sn w post p e R s m args below meth c H locs ls hq hC hOk hw hI hl hS
      rw [List.map_cons, x_ov_spec hd.1 z1] at g
      rw [List.map_cons]
      simp only [x_rv]
      rw [x_amo (by omega)]
      exact vk_getf hx hb (z3 s s.heap hE.2.2) hS hown (hts _ z2) (fun _ z => z) hdg g
    rw [if_neg hba] at hOk
    rcases hf : tFld tb (mO q) ix with _ | ⟨ci, j⟩
    · rw [hf] at hOk
      exact (x_bad hOk hw).elim
    rw [hf] at hOk
    try dsimp only at hOk
    rcases ha : h[a]? with _ | z
    · rw [ha] at hOk
      exact (x_bad hOk hw).elim
    rw [ha] at hOk
    rcases z with ⟨c2, fs⟩ | ⟨z1, z2⟩
    rotate_left
    · exact (x_bad hOk hw).elim
    try dsimp only at hOk
    rcases hcc : decide (c2 = ci) with _ | _
    · rw [hcc] at hOk
      exact (x_bad hOk hw).elim
    rw [hcc] at hOk
    rcases hv : fs[j]? with _ | v
    · rw [hv] at hOk
      exact (x_bad hOk hw).elim
    rw [hv] at hOk
    try dsimp only at hOk
    have hcc2 := of_decide_eq_true hcc
    subst hcc2
    rw [List.map_cons]
    simp only [x_rv]
    rw [x_amh hI ha]
    exact x_getf hx hb hts hT hown hE.1 hI ha hf hv hdg (ih dp k _ q _ _ h cn sn w post p e R s m args below meth c H locs ls hq hC hOk hw hI hl hS)
  case getstatic ix =>
    obtain rfl := x_len1 hlen rfl
    try dsimp only at hOk
    rcases hf : oGs ot (mO q) ix with _ | v
    · rw [hf] at hOk
      exact (x_bad hOk hw).elim
    rw [hf] at hOk
    try dsimp only at hOk
    obtain ⟨z1, C, n, dd, z2, z3⟩ := hZ.2.2.1 _ _ _ hf
    have g := ih dp k _ q _ _ h cn sn w post p e R s m args below meth c H locs ls hq hC hOk hw hI hl hS
    rw [List.map_cons, x_ov_spec hd.1 z1] at g
    exact va_gets hx hb (z3 s s.heap hE.2.2) hS hown (hts _ z2) (fun _ z => z) hdg g
  case arraylength =>
    obtain rfl := x_len1 hlen rfl
    try dsimp only at hOk
    rcases S with _ | ⟨a0 | (_ | a), S⟩
    · exact (x_bad hOk hw).elim
    · exact (x_bad hOk hw).elim
    · exact (x_bad hOk hw).elim
    try dsimp only at hOk
    by_cases hba : a = 1000000
    · subst hba
      rw [if_pos rfl] at hOk
      obtain ⟨z1, z2⟩ := hZ.2.2.2.2.1 s s.heap hE.2.2
      have g := ih dp k _ q _ _ h cn sn w post p e R s m args below meth c H locs ls hq hC hOk hw hI hl hS
      rw [List.map_cons] at g
      simp only [x_rv] at g
      rw [hd.1] at g
      rw [List.map_cons]
      simp only [x_rv]
      rw [x_amo (by omega)]
      exact va_slen hx hb z1 (Nat.lt_of_lt_of_le z2 hbz) (Nat.not_le.mpr z2) hS hdg g
    rw [if_neg hba] at hOk
    rcases hf : oBy ot a with _ | bs
    · rw [hf] at hOk
      exact (x_bad hOk hw).elim
    rw [hf] at hOk
    try dsimp only at hOk
    obtain ⟨hb6, hO⟩ := x_if hOk hw
    have g := ih dp k _ q _ _ h cn sn w post p e R s m args below meth c H locs ls hq hC hO hw hI hl hS
    rw [List.map_cons] at g
    simp only [x_rv] at g
    rw [hd.1] at g
    rw [List.map_cons]
    simp only [x_rv]
    rw [x_amo (by omega)]
    exact va_tlen hx hb (hZ.2.2.2.1 _ _ hf s s.heap hE.2.2) hS rfl hdg g
  case i2c =>
    obtain rfl := x_len1 hlen rfl
    try dsimp only at hOk
    rcases S with _ | ⟨a | a0, S⟩
    · exact (x_bad hOk hw).elim
    rotate_left
    · exact (x_bad hOk hw).elim
    try dsimp only at hOk
    exact lv_i2c hx hb (v := dEv d (dUn d 2 a)) hdg (by rw [hd.2.2.1]; rfl) (ih dp k _ q _ _ h cn sn w post p e R s m args below meth c H locs ls hq hC hOk hw hI hl hS)
  case ineg =>
    obtain rfl := x_len1 hlen rfl
    try dsimp only at hOk
    rcases S with _ | ⟨a | a0, S⟩
    · exact (x_bad hOk hw).elim
    rotate_left
    · exact (x_bad hOk hw).elim
    try dsimp only at hOk
    have eb : dEv d (dUn d 3 a) = x_un 3 (dEv d a) := hd.2.2.1 3 a
    refine lv_ineg hx hb hdg (x := dEv d a) ?_
    have g := ih dp k _ q _ _ h cn sn w post p e R s m args below meth c H locs ls hq hC hOk hw hI hl hS
    rw [List.map_cons] at g
    simp only [x_rv] at g
    rw [eb] at g
    exact g
  case iushr =>
    obtain rfl := x_len1 hlen rfl
    try dsimp only at hOk
    rcases S with _ | ⟨b | a0, S⟩
    · exact (x_bad hOk hw).elim
    rotate_left
    · exact (x_bad hOk hw).elim
    try dsimp only at hOk
    rcases S with _ | ⟨a | a0, S⟩
    · exact (x_bad hOk hw).elim
    rotate_left
    · exact (x_bad hOk hw).elim
    try dsimp only at hOk
    exact lv_iushr hx hb (v := dEv d (dBin d 10 a b)) hdg (by rw [hd.2.1]; rfl) (ih dp k _ q _ _ h cn sn w post p e R s m args below meth c H locs ls hq hC hOk hw hI hl hS)
  case putfield ix =>
    obtain rfl := x_len1 hlen rfl
    try dsimp only at hOk
    rcases S with _ | ⟨v, S⟩
    · exact (x_bad hOk hw).elim
    try dsimp only at hOk
    rcases S with _ | ⟨a0 | (_ | a), S⟩
    · exact (x_bad hOk hw).elim
    · exact (x_bad hOk hw).elim
    · exact (x_bad hOk hw).elim
    try dsimp only at hOk
    rcases hf : tFld tb (mO q) ix with _ | ⟨ci, j⟩
    · rw [hf] at hOk
      exact (x_bad hOk hw).elim
    rw [hf] at hOk
    try dsimp only at hOk
    rcases ha : h[a]? with _ | z
    · rw [ha] at hOk
      exact (x_bad hOk hw).elim
    rw [ha] at hOk
    rcases z with ⟨c2, fs⟩ | ⟨z1, z2⟩
    rotate_left
    · exact (x_bad hOk hw).elim
    try dsimp only at hOk
    rcases hty : (tFt tb ci)[j]? with _ | ty
    · rw [hty] at hOk
      exact (x_bad hOk hw).elim
    rw [hty] at hOk
    try dsimp only at hOk
    obtain ⟨hcs, hO⟩ := x_if hOk hw
    simp only [Bool.and_eq_true, Bool.or_eq_true, decide_eq_true_eq, Bool.not_eq_true'] at hcs
    obtain ⟨⟨⟨e1, e2⟩, e3⟩, e4⟩ := hcs
    clear hOk
    subst e1
    obtain ⟨f1, f2⟩ := x_fit_spec hd (am := x_am base sa) e2
    rw [List.map_cons, List.map_cons]
    have ea : x_rv d (x_am base sa) (.inr (some a)) = .ref (base + a) := congrArg Value.ref (x_amh hI ha)
    rw [ea]
    have hqq := hT.1 k q hq
    refine x_putf hx hb hts hT hown hE.1 hI hS ha hf hty e3 f1 f2 (e4.imp id (fun z => ⟨hnm z.1, fun r' hr' => ?_⟩)) hdg (fun H1 locs1 hI1 hS1 => ih dp k _ q _ _ _ cn sn w post p e R s m args below meth c H1 locs1 ls hq hC hO hw hI1 hl hS1)
    rw [hqq.2.2.2.2.2.1]
    rw [← z.2] at hr'
    exact hqq.2.2.2.2.2.2.2.2.1 z.1 r' hr'
  case iaload =>
    obtain rfl := x_len1 hlen rfl
    try dsimp only at hOk
    rcases S with _ | ⟨b | a0, S⟩
    · exact (x_bad hOk hw).elim
    rotate_left
    · exact (x_bad hOk hw).elim
    try dsimp only at hOk
    rcases S with _ | ⟨a0 | (_ | a), S⟩
    · exact (x_bad hOk hw).elim
    · exact (x_bad hOk hw).elim
    · exact (x_bad hOk hw).elim
    try dsimp only at hOk
    by_cases hba : a = 1000000
    · subst hba
      rw [if_pos rfl] at hOk
      obtain ⟨w2, hw2, hi, h0, h3⟩ := x_ix_spec hd hOk hw
      obtain ⟨z1, z2⟩ := hZ.2.2.2.2.1 s s.heap hE.2.2
      have g := ih dp k _ q _ _ h cn sn w2 post p e R s m args below meth c H locs ls hq hC h3 hw2 hI hl hS
      rw [List.map_cons] at g
      simp only [x_rv] at g
      rw [List.map_cons, List.map_cons]
      simp only [x_rv]
      rw [x_amo (by omega)]
      exact va_sld hx hb z1 (Nat.lt_of_lt_of_le z2 hbz) (Nat.not_le.mpr z2) hS (fun z => z.elim h0 (fun z => by omega)) hdg g
    rw [if_neg hba] at hOk
    rcases ha : h[a]? with _ | z
    · rw [ha] at hOk
      exact (x_bad hOk hw).elim
    rw [ha] at hOk
    rcases z with ⟨z1, z2⟩ | ⟨t, vs⟩
    · exact (x_bad hOk hw).elim
    rcases t with _ | t
    rotate_left
    · exact (x_bad hOk hw).elim
    try dsimp only at hOk
    obtain ⟨w2, hw2, hi, h0, h3⟩ := x_ix_spec hd hOk hw
    rcases hv : vs[(dEv d b).toNatClampNeg]? with _ | v
    · rw [hv] at h3
      exact (x_bad h3 hw2).elim
    rw [hv] at h3
    try dsimp only at h3
    rw [List.map_cons, List.map_cons]
    have ea : x_rv d (x_am base sa) (.inr (some a)) = .ref (base + a) := congrArg Value.ref (x_amh hI ha)
    rw [ea]
    exact x_iald hx hb hE.1 hY hT.2.2.2.2.2.1.2.2.1 hI ha h0 hi hv hdg (ih dp k _ q _ _ h cn sn w2 post p e R s m args below meth c H locs ls hq hC h3 hw2 hI hl hS)
  case baload =>
    obtain rfl := x_len1 hlen rfl
    try dsimp only at hOk
    rcases S with _ | ⟨b | a0, S⟩
    · exact (x_bad hOk hw).elim
    rotate_left
    · exact (x_bad hOk hw).elim
    try dsimp only at hOk
    rcases S with _ | ⟨a0 | (_ | a), S⟩
    · exact (x_bad hOk hw).elim
    · exact (x_bad hOk hw).elim
    · exact (x_bad hOk hw).elim
    try dsimp only at hOk
    by_cases hba : 1000000 < a
    · rw [if_pos hba] at hOk
      rcases hf : oBy ot a with _ | bs
      · rw [hf] at hOk
        exact (x_bad hOk hw).elim
      rw [hf] at hOk
      try dsimp only at hOk
      obtain ⟨w2, hw2, hi, h0, h3⟩ := x_ix_spec hd hOk hw
      have g := ih dp k _ q _ _ h cn sn w2 post p e R s m args below meth c H locs ls hq hC h3 hw2 hI hl hS
      rw [List.map_cons] at g
      simp only [x_rv] at g
      rw [hd.1] at g
      rw [List.map_cons, List.map_cons]
      simp only [x_rv]
      rw [x_amo (by omega)]
      exact va_tb hx hb (hZ.2.2.2.1 _ _ hf s s.heap hE.2.2) hS (fun z => z.elim h0 (fun z => by omega)) rfl hdg g
    rw [if_neg hba] at hOk
    rcases ha : h[a]? with _ | z
    · rw [ha] at hOk
      exact (x_bad hOk hw).elim
    rw [ha] at hOk
    rcases z with ⟨z1, z2⟩ | ⟨t, vs⟩
    · exact (x_bad hOk hw).elim
    rcases t with _ | _ | t
    · exact (x_bad hOk hw).elim
    rotate_left
    · exact (x_bad hOk hw).elim
    try dsimp only at hOk
    obtain ⟨w2, hw2, hi, h0, h3⟩ := x_ix_spec hd hOk hw
    rcases hv : vs[(dEv d b).toNatClampNeg]? with _ | v
    · rw [hv] at h3
      exact (x_bad h3 hw2).elim
    rw [hv] at h3
    try dsimp only at h3
    rw [List.map_cons, List.map_cons]
    have ea : x_rv d (x_am base sa) (.inr (some a)) = .ref (base + a) := congrArg Value.ref (x_amh hI ha)
    rw [ea]
    exact x_zald hx hb hE.1 hY hT.2.2.2.2.2.1.2.2.2 hI ha h0 hi hv hdg (ih dp k _ q _ _ h cn sn w2 post p e R s m args below meth c H locs ls hq hC h3 hw2 hI hl hS)
  case aaload =>
    obtain rfl := x_len1 hlen rfl
    try dsimp only at hOk
    rcases S with _ | ⟨b | a0, S⟩
    · exact (x_bad hOk hw).elim
    rotate_left
    · exact (x_bad hOk hw).elim
    try dsimp only at hOk
    rcases S with _ | ⟨a0 | (_ | a), S⟩
    · exact (x_bad hOk hw).elim
    · exact (x_bad hOk hw).elim
    · exact (x_bad hOk hw).elim
    try dsimp only at hOk
    rcases ha : h[a]? with _ | z
    · rw [ha] at hOk
      exact (x_bad hOk hw).elim
    rw [ha] at hOk
    rcases z with ⟨z1, z2⟩ | ⟨t, vs⟩
    · exact (x_bad hOk hw).elim
    try dsimp only at hOk
    obtain ⟨hty, hO⟩ := x_if hOk hw
    obtain ⟨ty, ht, hr2⟩ := Option.map_eq_some_iff.mp hty
    obtain ⟨w2, hw2, hi, h0, h3⟩ := x_ix_spec hd hO hw
    rcases hv : vs[(dEv d b).toNatClampNeg]? with _ | v
    · rw [hv] at h3
      exact (x_bad h3 hw2).elim
    rw [hv] at h3
    try dsimp only at h3
    rw [List.map_cons, List.map_cons]
    have ea : x_rv d (x_am base sa) (.inr (some a)) = .ref (base + a) := congrArg Value.ref (x_amh hI ha)
    rw [ea]
    exact x_aald hx hb hE.1 hY ht hr2 hI ha h0 hi hv hdg (ih dp k _ q _ _ h cn sn w2 post p e R s m args below meth c H locs ls hq hC h3 hw2 hI hl hS)
  case iastore =>
    obtain rfl := x_len1 hlen rfl
    try dsimp only at hOk
    rcases S with _ | ⟨v | a0, S⟩
    · exact (x_bad hOk hw).elim
    rotate_left
    · exact (x_bad hOk hw).elim
    try dsimp only at hOk
    rcases S with _ | ⟨b | a0, S⟩
    · exact (x_bad hOk hw).elim
    rotate_left
    · exact (x_bad hOk hw).elim
    try dsimp only at hOk
    rcases S with _ | ⟨a0 | (_ | a), S⟩
    · exact (x_bad hOk hw).elim
    · exact (x_bad hOk hw).elim
    · exact (x_bad hOk hw).elim
    try dsimp only at hOk
    rcases ha : h[a]? with _ | z
    · rw [ha] at hOk
      exact (x_bad hOk hw).elim
    rw [ha] at hOk
    rcases z with ⟨z1, z2⟩ | ⟨t, vs⟩
    · exact (x_bad hOk hw).elim
    rcases t with _ | t
    rotate_left
    · exact (x_bad hOk hw).elim
    try dsimp only at hOk
    obtain ⟨w2, hw2, hi, h0, h3⟩ := x_ix_spec hd hOk hw
    rw [List.map_cons, List.map_cons, List.map_cons]
    have ea : x_rv d (x_am base sa) (.inr (some a)) = .ref (base + a) := congrArg Value.ref (x_amh hI ha)
    rw [ea]
    exact x_iast (v := .inl v) hx hb hE.1 hY hT.2.2.2.2.2.1.2.2.1 hI hS ha h0 hi rfl hdg (fun H1 locs1 hI1 hS1 => ih dp k _ q _ _ _ cn sn w2 post p e R s m args below meth c H1 locs1 ls hq hC h3 hw2 hI1 hl hS1)
  case bastore =>
    obtain rfl := x_len1 hlen rfl
    try dsimp only at hOk
    rcases S with _ | ⟨v | a0, S⟩
    · exact (x_bad hOk hw).elim
    rotate_left
    · exact (x_bad hOk hw).elim
    try dsimp only at hOk
    rcases S with _ | ⟨b | a0, S⟩
    · exact (x_bad hOk hw).elim
    rotate_left
    · exact (x_bad hOk hw).elim
    try dsimp only at hOk
    rcases S with _ | ⟨a0 | (_ | a), S⟩
    · exact (x_bad hOk hw).elim
    · exact (x_bad hOk hw).elim
    · exact (x_bad hOk hw).elim
    try dsimp only at hOk
    rcases ha : h[a]? with _ | z
    · rw [ha] at hOk
      exact (x_bad hOk hw).elim
    rw [ha] at hOk
    rcases z with ⟨z1, z2⟩ | ⟨t, vs⟩
    · exact (x_bad hOk hw).elim
    rcases t with _ | _ | t
    · exact (x_bad hOk hw).elim
    rotate_left
    · exact (x_bad hOk hw).elim
    try dsimp only at hOk
    obtain ⟨hfit, hO⟩ := x_if hOk hw
    have hx01 : dEv d v = 0 ∨ dEv d v = 1 := x_bool hd hfit
    obtain ⟨w2, hw2, hi, h0, h3⟩ := x_ix_spec hd hO hw
    rw [List.map_cons, List.map_cons, List.map_cons]
    have ea : x_rv d (x_am base sa) (.inr (some a)) = .ref (base + a) := congrArg Value.ref (x_amh hI ha)
    rw [ea]
    exact x_zast (v := .inl v) hx hb hE.1 hY hT.2.2.2.2.2.1.2.2.2 hI hS ha h0 hi rfl hx01 hdg (fun H1 locs1 hI1 hS1 => ih dp k _ q _ _ _ cn sn w2 post p e R s m args below meth c H1 locs1 ls hq hC h3 hw2 hI1 hl hS1)
  case aastore =>
    obtain rfl := x_len1 hlen rfl
    try dsimp only at hOk
    rcases S with _ | ⟨a0 | (_ | v), S⟩
    · exact (x_bad hOk hw).elim
    · exact (x_bad hOk hw).elim
    · exact (x_bad hOk hw).elim
    try dsimp only at hOk
    rcases S with _ | ⟨b | a0, S⟩
    · exact (x_bad hOk hw).elim
    rotate_left
    · exact (x_bad hOk hw).elim
    try dsimp only at hOk
    rcases S with _ | ⟨a0 | (_ | a), S⟩
    · exact (x_bad hOk hw).elim
    · exact (x_bad hOk hw).elim
    · exact (x_bad hOk hw).elim
    try dsimp only at hOk
    rcases ha : h[a]? with _ | z
    · rw [ha] at hOk
      exact (x_bad hOk hw).elim
    rw [ha] at hOk
    rcases z with ⟨z1, z2⟩ | ⟨t, vs⟩
    · exact (x_bad hOk hw).elim
    rcases hv : h[v]? with _ | z
    · rw [hv] at hOk
      exact (x_bad hOk hw).elim
    rw [hv] at hOk
    rcases z with ⟨ci, fs⟩ | ⟨z1, z2⟩
    rotate_left
    · exact (x_bad hOk hw).elim
    try dsimp only at hOk
    rcases ht : tyl[t]? with _ | ty
    · rw [ht] at hOk
      exact (x_bad hOk hw).elim
    rw [ht] at hOk
    cases ty
    case object C =>
      try dsimp only at hOk
      obtain ⟨hC2, hO⟩ := x_if hOk hw
      obtain ⟨w2, hw2, hi, h0, h3⟩ := x_ix_spec hd hO hw
      rw [List.map_cons, List.map_cons, List.map_cons]
      have ea : x_rv d (x_am base sa) (.inr (some a)) = .ref (base + a) := congrArg Value.ref (x_amh hI ha)
      rw [ea]
      have ev : x_rv d (x_am base sa) (.inr (some v)) = .ref (base + v) := congrArg Value.ref (x_amh hI hv)
      rw [ev]
      obtain ⟨r2, hr2, -⟩ := hI.2.2 v _ hv
      exact x_aast (v := .inr (some v)) hx hb hE.1 hY ht hI hS ha hv hr2 (by rw [of_decide_eq_true hC2]; exact (hT.2.2.1 ci r2 hr2).2.2.2.2.2.2.2.symm) h0 hi ev hdg (fun H1 locs1 hI1 hS1 => ih dp k _ q _ _ _ cn sn w2 post p e R s m args below meth c H1 locs1 ls hq hC h3 hw2 hI1 hl hS1)
    all_goals exact (x_bad hOk hw).elim
  case new ix =>
    obtain rfl := x_len1 hlen rfl
    try dsimp only at hOk
    rcases hf : tNw tb (mO q) ix with _ | ci
    · rw [hf] at hOk
      exact (x_bad hOk hw).elim
    rw [hf] at hOk
    try dsimp only at hOk
    obtain ⟨hcs, hO⟩ := x_if hOk hw
    simp only [Bool.and_eq_true, decide_eq_true_eq] at hcs
    obtain ⟨⟨e1, e2⟩, e3⟩ := hcs
    refine x_new (fs := (tFt tb ci).map (fun t => x_def d t.1)) hx hb hts hT hown hE.1 hI hS hf e3 (Nat.le_trans e1 hR3) (Nat.le_trans e2 hR4) ?_ hdg (fun H1 hI1 hS1 => ?_)
    · rw [List.map_map]
      refine List.map_congr_left fun t ht => ?_
      show x_rv d (x_am base sa) (x_def d t.1) = defaultValue t.1
      exact x_def_spec hd t.1 (x_ftok hT hf t ht)
    · have g := ih dp k _ q _ _ _ (cn + 1) (sn + (tFt tb ci).length) w post p e R s m args below meth c H1 locs ls hq hC hO hw hI1 hl hS1
      rw [List.map_cons] at g
      simp only [x_rv] at g
      rw [x_aml (by omega)] at g
      exact g
  case newarray ty =>
    obtain rfl := x_len1 hlen rfl
    try dsimp only at hOk
    rcases S with _ | ⟨b | a0, S⟩
    · exact (x_bad hOk hw).elim
    rotate_left
    · exact (x_bad hOk hw).elim
    try dsimp only at hOk
    cases ty
    case int =>
      try dsimp only at hOk
      rcases hv : dKst d b with _ | v
      · rw [hv] at hOk
        exact (x_bad hOk hw).elim
      rw [hv] at hOk
      try dsimp only at hOk
      obtain ⟨hcs, hO⟩ := x_if hOk hw
      simp only [Bool.and_eq_true, decide_eq_true_eq] at hcs
      obtain ⟨⟨⟨⟨e0, e1⟩, e2⟩, e3⟩, e4⟩ := hcs
      have eb := hd.2.2.2.1 b v hv
      have ez : x_rv d (x_am base sa) (.inl (dKc d 0)) = .int 0 := congrArg Value.int (hd.1 0)
      rw [List.map_cons]
      simp only [x_rv]
      rw [eb]
      refine x_newa (atype := .int) (t := 0) (v := .inl (dKc d 0)) hx hb hE.1 hY hT.2.2.2.2.2.1.2.2.1 (hts _ hT.2.2.2.2.2.1.1) (Or.inl rfl) hI hS e4 e0 rfl e1 (Nat.le_trans e2 hR3) (Nat.le_trans e3 hR4) ez hdg (fun H1 hI1 hS1 => ?_)
      have g := ih dp k _ q _ _ _ (cn + 1) (sn + v.toNatClampNeg) w post p e R s m args below meth c H1 locs ls hq hC hO hw hI1 hl hS1
      rw [List.map_cons] at g
      simp only [x_rv] at g
      rw [x_aml (by omega)] at g
      exact g
    case boolean =>
      try dsimp only at hOk
      rcases hv : dKst d b with _ | v
      · rw [hv] at hOk
        exact (x_bad hOk hw).elim
      rw [hv] at hOk
      try dsimp only at hOk
      obtain ⟨hcs, hO⟩ := x_if hOk hw
      simp only [Bool.and_eq_true, decide_eq_true_eq] at hcs
      obtain ⟨⟨⟨⟨e0, e1⟩, e2⟩, e3⟩, e4⟩ := hcs
      have eb := hd.2.2.2.1 b v hv
      have ez : x_rv d (x_am base sa) (.inl (dKc d 0)) = .int 0 := congrArg Value.int (hd.1 0)
      rw [List.map_cons]
      simp only [x_rv]
      rw [eb]
      refine x_newa (atype := .boolean) (t := 1) (v := .inl (dKc d 0)) hx hb hE.1 hY hT.2.2.2.2.2.1.2.2.2 (hts _ hT.2.2.2.2.2.1.2.1) (Or.inr rfl) hI hS e4 e0 rfl e1 (Nat.le_trans e2 hR3) (Nat.le_trans e3 hR4) ez hdg (fun H1 hI1 hS1 => ?_)
      have g := ih dp k _ q _ _ _ (cn + 1) (sn + v.toNatClampNeg) w post p e R s m args below meth c H1 locs ls hq hC hO hw hI1 hl hS1
      rw [List.map_cons] at g
      simp only [x_rv] at g
      rw [x_aml (by omega)] at g
      exact g
    all_goals exact (x_bad hOk hw).elim
  case anewarray ix =>
    obtain rfl := x_len1 hlen rfl
    try dsimp only at hOk
    rcases S with _ | ⟨b | a0, S⟩
    · exact (x_bad hOk hw).elim
    rotate_left
    · exact (x_bad hOk hw).elim
    try dsimp only at hOk
    rcases hty : tAn tb (mO q) ix with _ | t
    · rw [hty] at hOk
      exact (x_bad hOk hw).elim
    rw [hty] at hOk
    try dsimp only at hOk
    rcases hv : dKst d b with _ | v
    · rw [hv] at hOk
      exact (x_bad hOk hw).elim
    rw [hv] at hOk
    try dsimp only at hOk
    obtain ⟨hcs, hO⟩ := x_if hOk hw
    simp only [Bool.and_eq_true, decide_eq_true_eq] at hcs
    obtain ⟨⟨⟨⟨e0, e1⟩, e2⟩, e3⟩, e4⟩ := hcs
    have eb := hd.2.2.2.1 b v hv
    obtain ⟨C, k1, k2, k3⟩ := hT.2.2.2.2.2.2.1 _ _ _ hty
    rw [List.map_cons]
    simp only [x_rv]
    rw [eb]
    refine x_anew (v := .inr none) hx hb hE.1 hY k1 hown (hts _ k2) (x_tn hT hE k3) hI hS e4 e0 rfl e1 (Nat.le_trans e2 hR3) (Nat.le_trans e3 hR4) rfl hdg (fun H1 hI1 hS1 => ?_)
    have g := ih dp k _ q _ _ _ (cn + 1) (sn + v.toNatClampNeg) w post p e R s m args below meth c H1 locs ls hq hC hO hw hI1 hl hS1
    rw [List.map_cons] at g
    simp only [x_rv] at g
    rw [x_aml (by omega)] at g
    exact g
  case multianewarray ix dm =>
    obtain rfl := x_len1 hlen rfl
    try dsimp only at hOk
    rcases S with _ | ⟨b2 | a0, S⟩
    · exact (x_bad hOk hw).elim
    rotate_left
    · exact (x_bad hOk hw).elim
    try dsimp only at hOk
    rcases S with _ | ⟨b1 | a0, S⟩
    · exact (x_bad hOk hw).elim
    rotate_left
    · exact (x_bad hOk hw).elim
    try dsimp only at hOk
    rcases hty : tMn tb (mO q) ix with _ | ⟨t2, t1⟩
    · rw [hty] at hOk
      exact (x_bad hOk hw).elim
    rw [hty] at hOk
    try dsimp only at hOk
    rcases hv1 : dKst d b1 with _ | v1
    · rw [hv1] at hOk
      exact (x_bad hOk hw).elim
    rw [hv1] at hOk
    try dsimp only at hOk
    rcases hv2 : dKst d b2 with _ | v2
    · rw [hv2] at hOk
      exact (x_bad hOk hw).elim
    rw [hv2] at hOk
    try dsimp only at hOk
    obtain ⟨hcs, hO⟩ := x_if hOk hw
    simp only [Bool.and_eq_true, decide_eq_true_eq] at hcs
    obtain ⟨⟨⟨⟨⟨⟨⟨⟨e0, e1⟩, e2⟩, e3⟩, e4⟩, e5⟩, e6⟩, e7⟩, e8⟩ := hcs
    clear hOk
    subst e0
    have eb1 := hd.2.2.2.1 b1 v1 hv1
    have eb2 := hd.2.2.2.1 b2 v2 hv2
    obtain ⟨ty, k1, k2, k3, k4, k5, k6⟩ := hT.2.2.2.2.2.2.2.1 _ _ _ _ hty
    rw [List.map_cons, List.map_cons]
    simp only [x_rv]
    rw [eb1, eb2]
    refine x_multi (v := .inl (dKc d 0)) hx hb hE.1 hY k1 k3 k2 hown (hts _ k4) (x_tn hT hE k5) (hts _ k6) hI hS e8 e1 e2 rfl rfl e3 e4 (Nat.le_trans e6 hR3) (Nat.le_trans e7 hR4) (congrArg Value.int (hd.1 0)) (fun j hj => congrArg Value.ref (x_aml (by omega))) hdg (fun H1 hI1 hS1 => ?_)
    have g := ih dp k _ q _ _ _ (cn + 1 + v1.toNatClampNeg) (sn + v1.toNatClampNeg + v1.toNatClampNeg * v2.toNatClampNeg) w post p e R s m args below meth c H1 locs ls hq hC hO hw hI1 hl hS1
    rw [List.map_cons] at g
    simp only [x_rv] at g
    rw [x_aml (by omega)] at g
    exact g
  case ireturn =>
    obtain rfl := x_len1 hlen rfl
    try dsimp only at hOk
    rcases S with _ | ⟨b | a0, S⟩
    · exact (x_bad hOk hw).elim
    rotate_left
    · exact (x_bad hOk hw).elim
    try dsimp only at hOk
    rcases S with _ | ⟨b2, S⟩
    rotate_left
    · exact (x_bad hOk hw).elim
    try dsimp only at hOk
    obtain ⟨hcs, hO⟩ := x_if hOk hw
    simp only [Bool.and_eq_true, decide_eq_true_eq] at hcs
    obtain ⟨⟨e0, e1⟩, e2⟩ := hcs
    obtain ⟨ty, k1, k2⟩ := x_ret_spec hd e0
    exact W.widen e1 e2 (W.zret hx hb (hr.trans k1) k2 (fun t ht _ => ⟨⟨w, some (.inl b), h, hw, hO, rfl, by rw [ht]; exact hI⟩, hS.F ht⟩) hS.2.2 hdg hlk)
  case areturn =>
    obtain rfl := x_len1 hlen rfl
    try dsimp only at hOk
    rcases S with _ | ⟨a0 | b, S⟩
    · exact (x_bad hOk hw).elim
    · exact (x_bad hOk hw).elim
    try dsimp only at hOk
    rcases S with _ | ⟨b2, S⟩
    rotate_left
    · exact (x_bad hOk hw).elim
    try dsimp only at hOk
    obtain ⟨hcs, hO⟩ := x_if hOk hw
    simp only [Bool.and_eq_true, decide_eq_true_eq] at hcs
    obtain ⟨⟨e0, e1⟩, e2⟩ := hcs
    obtain ⟨ty, k1, k2⟩ := x_retr_spec e0
    have hvv : x_rv d (x_am base sa) (.inr b) = .null ∨ ∃ a, x_rv d (x_am base sa) (.inr b) = .ref a := by
      rcases b with _ | b
      · exact Or.inl rfl
      · exact Or.inr ⟨_, rfl⟩
    exact W.widen e1 e2 (W.aret hx hb (hr.trans k1) k2 hvv (fun t ht _ => ⟨⟨w, some (.inr b), h, hw, hO, rfl, by rw [ht]; exact hI⟩, hS.F ht⟩) hS.2.2 hdg hlk)
  case return_ =>
    obtain rfl := x_len1 hlen rfl
    try dsimp only at hOk
    rcases S with _ | ⟨b2, S⟩
    rotate_left
    · exact (x_bad hOk hw).elim
    try dsimp only at hOk
    obtain ⟨hcs, hO⟩ := x_if hOk hw
    simp only [Bool.and_eq_true, decide_eq_true_eq] at hcs
    obtain ⟨⟨e0, e1⟩, e2⟩ := hcs
    exact W.widen e1 e2 (W.vret hx hb (hr.trans e0) (fun t ht _ => ⟨⟨w, none, h, hw, hO, rfl, by rw [ht]; exact hI⟩, hS.F ht⟩) hS.2.2 hdg hlk)
  case invokespecial ix =>
    obtain rfl := x_len1 hlen rfl
    try dsimp only at hOk
    have htn := hT.1 k q hq
    rcases hz : tBi tb (mO q) ix with _ | _ | z
    rotate_left
    · rw [hz] at hOk
      rcases S with _ | ⟨a0 | (_ | a), S⟩
      · exact (x_bad hOk hw).elim
      · exact (x_bad hOk hw).elim
      · exact (x_bad hOk hw).elim
      try dsimp only at hOk
      obtain ⟨hS8, hO⟩ := x_if hOk hw
      have hS8 := of_decide_eq_true hS8
      have hbi := hT.2.2.2.2.2.2.2.2.1
      exact W.objInit hx hb hown (hts _ (hbi.1 _ _ hz)) (hts _ hbi.2.2.1) (hts _ hbi.2.2.2.1) rfl (hl.1.trans hml.symm) rfl hdg (by omega) (by rw [x_cats]; show 2 * 0 + _ + _ ≤ R.locals; omega) (ih dp k _ q _ _ h cn sn w post p e R s m args below meth c H locs ls hq hC hO hw hI hl hS)
    all_goals (
      rw [hz] at hOk
      try dsimp only at hOk
      rcases dp with _ | dp2
      · exact (x_bad hOk hw).elim
      rcases hcal : tCal tb (mO q) ix with _ | ⟨j, so⟩
      · rw [hcal] at hOk
        exact (x_bad hOk hw).elim
      rw [hcal] at hOk
      try dsimp only at hOk
      rcases hq2 : tMth tb j with _ | q2
      · rw [hq2] at hOk
        exact (x_bad hOk hw).elim
      rw [hq2] at hOk
      try dsimp only at hOk
      rcases hdr : S.drop (mNp q2) with _ | ⟨a0 | (_ | a), r⟩
      · rw [hdr] at hOk
        exact (x_bad hOk hw).elim
      · rw [hdr] at hOk
        exact (x_bad hOk hw).elim
      · rw [hdr] at hOk
        exact (x_bad hOk hw).elim
      rw [hdr] at hOk
      try dsimp only at hOk
      obtain ⟨hcs, hO⟩ := x_if hOk hw
      simp only [Bool.and_eq_true, decide_eq_true_eq] at hcs
      obtain ⟨⟨⟨⟨⟨e0, e1⟩, e2⟩, e3⟩, e4⟩, e5⟩ := hcs
      obtain ⟨k1, k2, k3, k4⟩ := (hT.2.2.2.2.1 _ _ _ _ _ hcal hq2).2.2.1 e1
      have hj0 := (hT.2.2.2.2.1 _ _ _ _ _ hcal hq2).1
      obtain ⟨g1, g2, g3, g4, g5, g6, g7, g8, g9, g10⟩ := hT.1 j q2 hq2
      have g2 := g2 hj0
      have g3 := g3 hj0
      have hlen2 : ((S.take (mNp q2)).reverse).length = mNp q2 := by rw [List.length_reverse, List.length_take]; omega
      have hM := x_met (As := .inr (some a) :: (S.take (mNp q2)).reverse) hT ih hq2 (by rw [List.length_cons, hlen2]; exact e3) hO hw
      have hgood := hT.2.2.2.2.2.2.2.2.2.2.1
      have hwds : ∀ z ∈ Jvm.Cond.code (mY q2) (mB q2) (mL q2) (mR q2) :: TS, ∀ (a' : Array Value) (U : State), s.WarmedH U.vm → z.before a' U = true := fun z hz => x_words hts hgood z (by rcases List.mem_cons.mp hz with rfl | hz; exact g2; exact hz)
      have hmS : S.map (x_rv d (x_am base sa)) = (((S.take (mNp q2)).reverse).map (x_rv d (x_am base sa))).reverse ++ Value.ref (x_am base sa a) :: r.map (x_rv d (x_am base sa)) := by
        have h1 : S = S.take (mNp q2) ++ (.inr (some a) :: r) := by rw [← hdr, List.take_append_drop]
        have h2 := congrArg (List.map (x_rv d (x_am base sa))) h1
        rw [List.map_append, List.map_cons] at h2
        rw [h2, List.map_reverse, List.reverse_reverse]
        rfl
      rw [k4] at hM hwds
      refine x_callk (va_runI (nL := mL q) (own := tNm tb (mO q)) (Ts := TS) (As := ((S.take (mNp q2)).reverse).map (x_rv d (x_am base sa))) (rest := r.map (x_rv d (x_am base sa))) (n := mNp q2) (ws := Jvm.Cond.code (mY q2) (mB q2) (mL q2) none :: TS) (bytes := mB q2) (maxL := mL q2) ⟨hx, hb, hml, hown, hts⟩ hM ⟨⟨rfl, rfl, hR1, by show 8 + (mL q2 + 11) + 64 * (dp2 + 1) ≤ R.locals; omega, hwds, List.mem_cons_self, hts _ (by rw [← k4]; exact g2), hts _ g3, g4, fun sig hs => by rw [hs] at g7; exact (Option.some.inj g7).symm, hts _ k1⟩, k3, hts _ k2⟩
        ⟨x_blind hT hX _ _ h, fun U hU hW => ⟨rfl, by rw [hU]; exact hI, by rw [hU]; exact x_env_moved hT hX hW (fun q0 hq0 => hS.2.1 q0 (Nat.lt_of_lt_of_le hq0 hbz) (Nat.not_le.mpr hq0)) hbz hE0⟩⟩ rfl (by rw [List.length_map]; exact hlen2) hl.1 hmS (lv_room (by rw [x_cats]; exact e2)) hdg ⟨Nat.le_trans e4 hR3, Nat.le_trans e5 hR4⟩) hS (fun w2 v h2 H1 locs1 hw2 hO2 hI2 hS2 => ?_)
      rw [x_push_map]
      exact ih (dp2 + 1) k _ q _ _ h2 _ _ w2 post p e R s m args below meth c H1 locs1 ls hq hC hO2 hw2 hI2 hl hS2)
  case invokevirtual ix =>
    obtain rfl := x_len1 hlen rfl
    try dsimp only at hOk
    rcases dp with _ | dp2
    · exact (x_bad hOk hw).elim
    rcases hcal : tCal tb (mO q) ix with _ | ⟨j, so⟩
    · rw [hcal] at hOk
      exact (x_bad hOk hw).elim
    rw [hcal] at hOk
    try dsimp only at hOk
    rcases hq2 : tMth tb j with _ | q2
    · rw [hq2] at hOk
      exact (x_bad hOk hw).elim
    rw [hq2] at hOk
    try dsimp only at hOk
    rcases hdr : S.drop (mNp q2) with _ | ⟨a0 | (_ | a), r⟩
    · rw [hdr] at hOk
      exact (x_bad hOk hw).elim
    · rw [hdr] at hOk
      exact (x_bad hOk hw).elim
    · rw [hdr] at hOk
      exact (x_bad hOk hw).elim
    rw [hdr] at hOk
    try dsimp only at hOk
    obtain ⟨hcs, hO⟩ := x_if hOk hw
    simp only [Bool.and_eq_true, decide_eq_true_eq] at hcs
    obtain ⟨⟨⟨⟨⟨⟨e0, e1⟩, e6⟩, e2⟩, e3⟩, e4⟩, e5⟩ := hcs
    obtain ⟨k1, k2, k3, k4⟩ := (hT.2.2.2.2.1 _ _ _ _ _ hcal hq2).2.1 e1
    have hj0 := (hT.2.2.2.2.1 _ _ _ _ _ hcal hq2).1
    obtain ⟨g1, g2, g3, g4, g5, g6, g7, g8, g9, g10⟩ := hT.1 j q2 hq2
    have g2 := g2 hj0
    have g3 := g3 hj0
    have hlen2 : ((S.take (mNp q2)).reverse).length = mNp q2 := by rw [List.length_reverse, List.length_take]; omega
    have hM := x_met (As := .inr (some a) :: (S.take (mNp q2)).reverse) hT ih hq2 (by rw [List.length_cons, hlen2]; exact e3) hO hw
    have hgood := hT.2.2.2.2.2.2.2.2.2.2.1
    have hwds : ∀ z ∈ Jvm.Cond.code (mY q2) (mB q2) (mL q2) (mR q2) :: TS, ∀ (a' : Array Value) (U : State), s.WarmedH U.vm → z.before a' U = true := fun z hz => x_words hts hgood z (by rcases List.mem_cons.mp hz with rfl | hz; exact g2; exact hz)
    have hmS : S.map (x_rv d (x_am base sa)) = (((S.take (mNp q2)).reverse).map (x_rv d (x_am base sa))).reverse ++ Value.ref (x_am base sa a) :: r.map (x_rv d (x_am base sa)) := by
      have h1 : S = S.take (mNp q2) ++ (.inr (some a) :: r) := by rw [← hdr, List.take_append_drop]
      have h2 := congrArg (List.map (x_rv d (x_am base sa))) h1
      rw [List.map_append, List.map_cons] at h2
      rw [h2, List.map_reverse, List.reverse_reverse]
      rfl
    have hrecv : ∃ cellB : Cell, H[x_am base sa a]? = some cellB ∧ cellB.vm.isStatics = false ∧ s.vm.findClass (mY q2).cls = some cellB.cls := by
      unfold x_rc at e6
      by_cases hba : 1000000 < a
      · rw [if_pos hba] at e6
        obtain ⟨cell, f1, f2, f3, -⟩ := (hZ.2.2.2.2.2 a _ q2 j e6 hq2 rfl s s.heap hE0.2.2).kept hS.2.1
        rw [x_amo (by omega)]
        exact ⟨cell, f1, f2, f3⟩
      · rw [if_neg hba] at e6
        rcases ha : h[a]? with _ | (⟨ci, fs⟩ | z)
        · rw [ha] at e6
          cases e6
        rotate_left
        · rw [ha] at e6
          cases e6
        rw [ha] at e6
        have e7 : ci = mRc q2 := Option.some.inj e6
        obtain ⟨r2, f1, f2, cell, f3, f4, f5, -⟩ := hI.2.2 a _ ha
        rw [x_amh hI ha]
        exact ⟨cell, f3, by rw [f5]; rfl, by rw [f4, ← k4 r2 (by rw [← e7]; exact f1)]; exact (hE.1.1 ci r2 f1).2.1⟩
    refine x_callk (va_runV (nL := mL q) (own := tNm tb (mO q)) (C := (mY q2).cls) (Ts := TS) (As := ((S.take (mNp q2)).reverse).map (x_rv d (x_am base sa))) (rest := r.map (x_rv d (x_am base sa))) (n := mNp q2) (ws := Jvm.Cond.code (mY q2) (mB q2) (mL q2) (mR q2) :: TS) (bytes := mB q2) (maxL := mL q2) (ret := mR q2) ⟨hx, hb, hml, hown, hts⟩ hM ⟨⟨rfl, rfl, hR1, by show 8 + (mL q2 + 11) + 64 * (dp2 + 1) ≤ R.locals; omega, hwds, List.mem_cons_self, hts _ g2, hts _ g3, g4, fun sig hs => by rw [hs] at g7; exact (Option.some.inj g7).symm, hts _ k1⟩, hts _ k2, hts _ k3⟩
      ⟨x_blind hT hX _ _ h, hrecv, fun U hU hW => ⟨rfl, by rw [hU]; exact hI, by rw [hU]; exact x_env_moved hT hX hW (fun q0 hq0 => hS.2.1 q0 (Nat.lt_of_lt_of_le hq0 hbz) (Nat.not_le.mpr hq0)) hbz hE0⟩⟩ rfl (by rw [List.length_map]; exact hlen2) hl.1 hmS (lv_room (by rw [x_cats]; exact e2)) hdg ⟨Nat.le_trans e4 hR3, Nat.le_trans e5 hR4⟩) hS (fun w2 v h2 H1 locs1 hw2 hO2 hI2 hS2 => ?_)
    rw [x_push_map]
    exact ih (dp2 + 1) k _ q _ _ h2 _ _ w2 post p e R s m args below meth c H1 locs1 ls hq hC hO2 hw2 hI2 hl hS2
  case invokestatic ix =>
    obtain rfl := x_len1 hlen rfl
    try dsimp only at hOk
    rcases hcal : tCal tb (mO q) ix with _ | ⟨j, so⟩
    · rw [hcal] at hOk
      try dsimp only at hOk
      have hbi := hT.2.2.2.2.2.2.2.2.1
      by_cases hz : tBi tb (mO q) ix = some 1
      rotate_left
      · rw [if_neg hz] at hOk
        by_cases hz2 : tBi tb (mO q) ix = some 2
        · rw [if_pos hz2] at hOk
          rcases S with _ | ⟨b | a0, S⟩
          · exact (x_bad hOk hw).elim
          rotate_left
          · exact (x_bad hOk hw).elim
          rcases S with _ | ⟨a | a0, S⟩
          · exact (x_bad hOk hw).elim
          rotate_left
          · exact (x_bad hOk hw).elim
          try dsimp only at hOk
          obtain ⟨hcs, hO⟩ := x_if hOk hw
          simp only [Bool.and_eq_true, decide_eq_true_eq] at hcs
          obtain ⟨⟨e0, e1⟩, e2⟩ := hcs
          obtain ⟨k1, k2, k3, k4⟩ := hbi.2.2.2.2.2.2.2.1 _ _ hz2
          obtain ⟨w2, hw2, h3⟩ := hd.2.2.2.2 2 a b w _ _ hO hw
          refine va_mmax hx hb (hml.trans hl.1.symm) hown (hts _ k1) (hts _ k2) (hts _ k3) (hts _ k4) (by omega) (by rw [x_cats]; omega) (Nat.le_trans e1 hR3) (Nat.le_trans e2 hR4) (x := dEv d a) (y := dEv d b) hdg ?_
          rcases h3 with ⟨hc, h3⟩ | ⟨hc, h3⟩
          · rw [if_pos (of_decide_eq_true hc)]
            exact ih dp k _ q _ _ h cn sn w2 post p e R s m args below meth c H locs ls hq hC h3 hw2 hI hl hS
          · rw [if_neg (of_decide_eq_false hc)]
            exact ih dp k _ q _ _ h cn sn w2 post p e R s m args below meth c H locs ls hq hC h3 hw2 hI hl hS
        rw [if_neg hz2] at hOk
        by_cases hz3 : tBi tb (mO q) ix = some 3
        · rw [if_pos hz3] at hOk
          rcases S with _ | ⟨b | a0, S⟩
          · exact (x_bad hOk hw).elim
          rotate_left
          · exact (x_bad hOk hw).elim
          rcases S with _ | ⟨a | a0, S⟩
          · exact (x_bad hOk hw).elim
          rotate_left
          · exact (x_bad hOk hw).elim
          try dsimp only at hOk
          obtain ⟨hcs, hO⟩ := x_if hOk hw
          simp only [Bool.and_eq_true, decide_eq_true_eq] at hcs
          obtain ⟨⟨e0, e1⟩, e2⟩ := hcs
          obtain ⟨k1, k2, k3, k4⟩ := hbi.2.2.2.2.2.2.2.2.1 _ _ hz3
          obtain ⟨w2, hw2, h3⟩ := hd.2.2.2.2 2 b a w _ _ hO hw
          refine va_mmin hx hb (hml.trans hl.1.symm) hown (hts _ k1) (hts _ k2) (hts _ k3) (hts _ k4) (by omega) (by rw [x_cats]; omega) (Nat.le_trans e1 hR3) (Nat.le_trans e2 hR4) (x := dEv d a) (y := dEv d b) hdg ?_
          rcases h3 with ⟨hc, h3⟩ | ⟨hc, h3⟩
          · rw [if_pos (of_decide_eq_true hc)]
            exact ih dp k _ q _ _ h cn sn w2 post p e R s m args below meth c H locs ls hq hC h3 hw2 hI hl hS
          · rw [if_neg (of_decide_eq_false hc)]
            exact ih dp k _ q _ _ h cn sn w2 post p e R s m args below meth c H locs ls hq hC h3 hw2 hI hl hS
        rw [if_neg hz3] at hOk
        by_cases hz4 : tBi tb (mO q) ix = some 4
        · rw [if_pos hz4] at hOk
          rcases S with _ | ⟨a | a0, S⟩
          · exact (x_bad hOk hw).elim
          rotate_left
          · exact (x_bad hOk hw).elim
          try dsimp only at hOk
          obtain ⟨hcs, hO⟩ := x_if hOk hw
          simp only [Bool.and_eq_true, decide_eq_true_eq] at hcs
          obtain ⟨⟨e0, e1⟩, e2⟩ := hcs
          obtain ⟨k1, k2, k3, k4⟩ := hbi.2.2.2.2.2.2.2.2.2 _ _ hz4
          obtain ⟨w2, hw2, h3⟩ := hd.2.2.2.2 3 a (dKc d 0) w _ _ hO hw
          rw [hd.1] at h3
          refine va_mabs hx hb (hml.trans hl.1.symm) hown (hts _ k1) (hts _ k2) (hts _ k3) (hts _ k4) (by omega) (by rw [x_cats]; omega) (Nat.le_trans e1 hR3) (Nat.le_trans e2 hR4) (x := dEv d a) hdg ?_
          rcases h3 with ⟨hc, h3⟩ | ⟨hc, h3⟩
          · rw [if_pos (of_decide_eq_true hc)]
            exact ih dp k _ q _ _ h cn sn w2 post p e R s m args below meth c H locs ls hq hC h3 hw2 hI hl hS
          · rw [if_neg (of_decide_eq_false hc)]
            have eb : dEv d (dBin d 1 (dKc d 0) a) = x_bin 1 (dEv d (dKc d 0)) (dEv d a) := hd.2.1 1 (dKc d 0) a
            rw [hd.1] at eb
            have g := ih dp k _ q _ _ h cn sn w2 post p e R s m args below meth c H locs ls hq hC h3 hw2 hI hl hS
            rw [List.map_cons] at g
            simp only [x_rv] at g
            rw [eb] at g
            exact g
        rw [if_neg hz4] at hOk
        exact (x_bad hOk hw).elim
      rw [if_pos hz] at hOk
      rcases S with _ | ⟨n0 | a0, S⟩
      · exact (x_bad hOk hw).elim
      rotate_left
      · exact (x_bad hOk hw).elim
      rcases S with _ | ⟨pd | a0, S⟩
      · exact (x_bad hOk hw).elim
      rotate_left
      · exact (x_bad hOk hw).elim
      rcases S with _ | ⟨a0 | (_ | bd), S⟩
      · exact (x_bad hOk hw).elim
      · exact (x_bad hOk hw).elim
      · exact (x_bad hOk hw).elim
      rcases S with _ | ⟨ps | a0, S⟩
      · exact (x_bad hOk hw).elim
      rotate_left
      · exact (x_bad hOk hw).elim
      rcases S with _ | ⟨a0 | (_ | bs), S⟩
      · exact (x_bad hOk hw).elim
      · exact (x_bad hOk hw).elim
      · exact (x_bad hOk hw).elim
      try dsimp only at hOk
      rcases ha0 : h[bs]? with _ | (z | ⟨t0, us⟩)
      · rw [ha0] at hOk
        exact (x_bad hOk hw).elim
      · rw [ha0] at hOk
        exact (x_bad hOk hw).elim
      rw [ha0] at hOk
      rcases ha1 : h[bd]? with _ | (z | ⟨t1, vs⟩)
      · rw [ha1] at hOk
        rcases t0 with _ | t0 <;> exact (x_bad hOk hw).elim
      · rw [ha1] at hOk
        rcases t0 with _ | t0 <;> exact (x_bad hOk hw).elim
      rw [ha1] at hOk
      rcases hv1 : dKst d n0 with _ | n1
      · rw [hv1] at hOk
        rcases t0 with _ | t0 <;> rcases t1 with _ | t1 <;> exact (x_bad hOk hw).elim
      rw [hv1] at hOk
      rcases hv2 : dKst d pd with _ | d1
      · rw [hv2] at hOk
        rcases t0 with _ | t0 <;> rcases t1 with _ | t1 <;> exact (x_bad hOk hw).elim
      rw [hv2] at hOk
      rcases hv3 : dKst d ps with _ | s1
      · rw [hv3] at hOk
        rcases t0 with _ | t0 <;> rcases t1 with _ | t1 <;> exact (x_bad hOk hw).elim
      rw [hv3] at hOk
      rcases t0 with _ | t0
      rotate_left
      · exact (x_bad hOk hw).elim
      rcases t1 with _ | t1
      rotate_left
      · exact (x_bad hOk hw).elim
      try dsimp only at hOk
      obtain ⟨hcs, hO⟩ := x_if hOk hw
      simp only [Bool.and_eq_true, decide_eq_true_eq] at hcs
      obtain ⟨⟨⟨⟨⟨⟨e0, e1⟩, e2⟩, e3⟩, e4⟩, e5⟩, e6⟩ := hcs
      have en := hd.2.2.2.1 n0 n1 hv1
      have ed := hd.2.2.2.1 pd d1 hv2
      have es := hd.2.2.2.1 ps s1 hv3
      have hbi := hT.2.2.2.2.2.2.2.2.1
      have hmS : (Sum.inl n0 :: Sum.inl pd :: Sum.inr (some bd) :: Sum.inl ps :: Sum.inr (some bs) :: S : List (XV E)).map (x_rv d (x_am base sa)) = .int n1 :: .int d1 :: .ref (base + bd) :: .int s1 :: .ref (base + bs) :: S.map (x_rv d (x_am base sa)) := by
        simp only [List.map_cons, x_rv]
        rw [en, ed, es, x_amh hI ha0, x_amh hI ha1]
      rw [hmS]
      exact x_copy hx hb (hml.trans hl.1.symm) hown (hts _ (hbi.2.1 _ _ hz)) (hts _ hbi.2.2.2.2.1) (hts _ hbi.2.2.2.2.2.1) (hts _ hbi.2.2.2.2.2.2.1) hE.1 hY hT.2.2.2.2.2.1.2.2.1 hI hS ha0 ha1 (fun u hu => by
          have h1 := List.all_eq_true.mp e6 u hu
          rcases u with u | u
          · exact ⟨_, rfl⟩
          · cases h1) e2 e1 e0 e3 e4 (by omega) (by rw [x_cats]; show _ + (7 + 11) ≤ R.locals; omega) hdg (fun H1 locs1 hI1 hS1 => ih dp k _ q _ _ _ cn sn w post p e R s m args below meth c H1 locs1 ls hq hC hO hw hI1 hl hS1)
    rw [hcal] at hOk
    try dsimp only at hOk
    rcases dp with _ | dp2
    · exact (x_bad hOk hw).elim
    try dsimp only at hOk
    rcases hq2 : tMth tb j with _ | q2
    · rw [hq2] at hOk
      exact (x_bad hOk hw).elim
    rw [hq2] at hOk
    try dsimp only at hOk
    obtain ⟨hcs, hO⟩ := x_if hOk hw
    simp only [Bool.and_eq_true, decide_eq_true_eq] at hcs
    obtain ⟨⟨⟨⟨⟨e0, e1⟩, e2⟩, e3⟩, e4⟩, e5⟩ := hcs
    obtain ⟨hj0, -, -, kS2, kS3, kS4⟩ := hT.2.2.2.2.1 _ _ _ _ _ hcal hq2
    obtain ⟨g1, g2, g3, g4, g5, g6, g7, g8, g9, g10⟩ := hT.1 j q2 hq2
    have g2 := g2 hj0
    have g3 := g3 hj0
    have hlen2 : ((S.take (mNp q2)).reverse).length = mNp q2 := by rw [List.length_reverse, List.length_take]; omega
    have hM := x_met (As := (S.take (mNp q2)).reverse) hT ih hq2 (by rw [hlen2]; exact e3) hO hw
    have hgood := hT.2.2.2.2.2.2.2.2.2.2.1
    have hwds : ∀ z ∈ Jvm.Cond.code (mY q2) (mB q2) (mL q2) (mR q2) :: TS, ∀ (a' : Array Value) (U : State), s.WarmedH U.vm → z.before a' U = true := fun z hz => x_words hts hgood z (by rcases List.mem_cons.mp hz with rfl | hz; exact g2; exact hz)
    have hmS : S.map (x_rv d (x_am base sa)) = (((S.take (mNp q2)).reverse).map (x_rv d (x_am base sa))).reverse ++ (S.drop (mNp q2)).map (x_rv d (x_am base sa)) := by
      have h2 := congrArg (List.map (x_rv d (x_am base sa))) (List.take_append_drop (mNp q2) S)
      rw [List.map_append] at h2
      rw [← h2, List.map_reverse, List.reverse_reverse]
    have hpre : PreS s H (va_Pc (((S.take (mNp q2)).reverse).map (x_rv d (x_am base sa))) (fun U => x_Inv D tc cl (x_rv d (x_am base sa)) base h U.heap ∧ x_Env TN D cl tys XE U U.heap)) (((S.take (mNp q2)).reverse).map (x_rv d (x_am base sa))) :=
      ⟨x_blind hT hX _ _ h, fun U hU hW => ⟨rfl, by rw [hU]; exact hI, by rw [hU]; exact x_env_moved hT hX hW (fun q0 hq0 => hS.2.1 q0 (Nat.lt_of_lt_of_le hq0 hbz) (Nat.not_le.mpr hq0)) hbz hE0⟩⟩
    have fin : ∀ (w2 : List K) (v : Option (XV E)) (h2 : List (XC E)) (H1 : Heap) (locs1 : List Loc), XPa (dHd d) w2 → XOk (dHd d) (x_run d tb tyl ot f (dp2 + 1) k (pc + 3) L (x_push v (S.drop (mNp q2))) h2 (cn + mMc q2) (sn + mMs q2) w2 post) → x_Inv D tc cl (x_rv d (x_am base sa)) base h2 H1 → va_S (fun q => base ≤ q) s.heap H1 locs1 → W p l e R s m args below meth c H1 locs1 (cn + mMc q2) (sn + mMs q2) (MQ below (x_Q d D tc cl (x_am base sa) base post) args s (mMc q) (mMs q) (fun q => base ≤ q)) (F0 m (pc + 3) ls ((v.map (x_rv d (x_am base sa))).toList ++ (S.drop (mNp q2)).map (x_rv d (x_am base sa)))) := fun w2 v h2 H1 locs1 hw2 hO2 hI2 hS2 => by
      rw [x_push_map]
      exact ih (dp2 + 1) k _ q _ _ h2 _ _ w2 post p e R s m args below meth c H1 locs1 ls hq hC hO2 hw2 hI2 hl hS2
    rcases (show so = 2 ∨ so = 3 by omega) with hso | hso
    · obtain ⟨k1, k2⟩ := kS2 hso
      exact x_callk (va_runS (nL := mL q) (own := tNm tb (mO q)) (Ts := TS) (As := ((S.take (mNp q2)).reverse).map (x_rv d (x_am base sa))) (rest := (S.drop (mNp q2)).map (x_rv d (x_am base sa))) (n := mNp q2) (ws := Jvm.Cond.code (mY q2) (mB q2) (mL q2) (mR q2) :: TS) (bytes := mB q2) (maxL := mL q2) (ret := mR q2) ⟨hx, hb, hml, hown, hts⟩ hM ⟨⟨rfl, rfl, hR1, by show 8 + (mL q2 + 11) + 64 * (dp2 + 1) ≤ R.locals; omega, hwds, List.mem_cons_self, hts _ g2, hts _ g3, g4, fun sig hs => by rw [hs] at g7; exact (Option.some.inj g7).symm, hts _ k1⟩, hts _ k2⟩
        hpre rfl (by rw [List.length_map]; exact hlen2) hl.1 hmS (lv_room (by rw [x_cats]; exact e2)) hdg ⟨Nat.le_trans e4 hR3, Nat.le_trans e5 hR4⟩) hS fin
    · obtain ⟨⟨host, k1⟩, k2⟩ := kS3 hso
      exact x_callk (va_runSN (nL := mL q) (own := tNm tb (mO q)) (host := host) (Ts := TS) (As := ((S.take (mNp q2)).reverse).map (x_rv d (x_am base sa))) (rest := (S.drop (mNp q2)).map (x_rv d (x_am base sa))) (n := mNp q2) (ws := Jvm.Cond.code (mY q2) (mB q2) (mL q2) (mR q2) :: TS) (bytes := mB q2) (maxL := mL q2) (ret := mR q2) ⟨hx, hb, hml, hown, hts⟩ hM ⟨⟨⟨rfl, rfl, hR1, by show 8 + (mL q2 + 11) + 64 * (dp2 + 1) ≤ R.locals; omega, hwds, List.mem_cons_self⟩, hts _ g2, hts _ g3, g4, fun sig hs => by rw [hs] at g7; exact (Option.some.inj g7).symm, x_tn hT hE0 k1⟩, hts _ k2, trivial⟩
        hpre rfl (by rw [List.length_map]; exact hlen2) hl.1 hmS (lv_room (by rw [x_cats]; exact e2)) hdg ⟨Nat.le_trans e4 hR3, Nat.le_trans e5 hR4⟩) hS fin

  all_goals exact (x_bad hOk hw).elim
end XSound
end
section
/-! The evaluator at ints that are known: what it comes to, a row an instruction. -/
section XTo
def dC : XD Int32 Unit := (fun x => x, fun x => x, x_bin, x_un, fun x => some x, fun _ => True, fun o a b w kt kf => if x_cmp o a b = true then kt w else kf w)
theorem dC_ok : x_DmOk dC := ⟨fun _ => rfl, fun _ _ _ => rfl, fun _ _ => rfl, fun _ _ h => Option.some.inj h, fun o a b w kt kf h hw => ⟨w, hw, by
  have h : XOk (dHd dC) (if x_cmp o a b = true then kt w else kf w) := h
  by_cases c : x_cmp o a b = true
  · rw [if_pos c] at h
    exact Or.inl ⟨c, h⟩
  · rw [if_neg c] at h
    exact Or.inr ⟨Bool.eq_false_iff.mpr c, h⟩⟩⟩
/-- a cell that nothing can be done with -/
def zJ : XC Int32 := .inr (77, [])
/-- where D says so, there is such a cell -/
def zTr (D : Nat → Bool) (H : List (XC Int32)) : Prop := ∀ a, D a = true → H[a]? = some zJ
/-- what stands there instead -/
def zMx (D : Nat → Bool) (H0 H : List (XC Int32)) : List (XC Int32) := H.mapIdx (fun a z => if D a = true then (H0[a]?).getD z else z)
theorem zMx_len (D : Nat → Bool) (H0 H : List (XC Int32)) : (zMx D H0 H).length = H.length := List.length_mapIdx
theorem zMx_at (D : Nat → Bool) (H0 H : List (XC Int32)) (a : Nat) : (zMx D H0 H)[a]? = (H[a]?).map (fun z => if D a = true then (H0[a]?).getD z else z) := List.getElem?_mapIdx
theorem zMx_get {D : Nat → Bool} {H : List (XC Int32)} (H0 : List (XC Int32)) {a : Nat} (h : D a = false) : (zMx D H0 H)[a]? = H[a]? := by
  rw [zMx_at, h]
  rcases H[a]? with _ | z <;> rfl
theorem zMx_set {D : Nat → Bool} {H : List (XC Int32)} (H0 : List (XC Int32)) {a : Nat} (z : XC Int32) (h : D a = false) : zMx D H0 (H.set a z) = (zMx D H0 H).set a z := by
  refine List.ext_getElem? fun b => ?_
  rw [zMx_at]
  by_cases e : a = b
  · subst e
    rw [List.getElem?_set, List.getElem?_set, zMx_len]
    by_cases c : a < H.length
    · rw [if_pos rfl, if_pos c, if_pos rfl, h]
      rfl
    · rw [if_pos rfl, if_neg c, if_pos rfl]
      rfl
  · rw [List.getElem?_set_ne e, List.getElem?_set_ne e, zMx_at]
theorem zTr_lt {D : Nat → Bool} {H : List (XC Int32)} (h : zTr D H) {a : Nat} (ha : D a = true) : a < H.length := (List.getElem?_eq_some_iff.mp (h a ha)).1
theorem zMx_app {D : Nat → Bool} {H : List (XC Int32)} (H0 l : List (XC Int32)) (h : zTr D H) : zMx D H0 (H ++ l) = zMx D H0 H ++ l := by
  refine List.ext_getElem? fun b => ?_
  rw [zMx_at]
  by_cases c : b < H.length
  · rw [List.getElem?_append_left c, List.getElem?_append_left (by rw [zMx_len]; exact c), zMx_at]
  · rw [List.getElem?_append_right (by omega), List.getElem?_append_right (by rw [zMx_len]; omega), zMx_len]
    have hd : D b = false := by
      rcases hb : D b with _ | _
      · rfl
      · exact absurd (zTr_lt h hb) c
    rw [hd]
    rcases l[b - H.length]? with _ | z <;> rfl
theorem zTr_set {D : Nat → Bool} {H : List (XC Int32)} (h : zTr D H) {a : Nat} (z : XC Int32) (ha : D a = false) : zTr D (H.set a z) := fun b hb => by
  rw [List.getElem?_set_ne (fun e => by rw [e, hb] at ha; cases ha)]
  exact h b hb
theorem zTr_app {D : Nat → Bool} {H : List (XC Int32)} (h : zTr D H) (l : List (XC Int32)) : zTr D (H ++ l) := fun b hb => by
  rw [List.getElem?_append_left (zTr_lt h hb)]
  exact h b hb
theorem zTr_no {D : Nat → Bool} {H : List (XC Int32)} (h : zTr D H) {a : Nat} {z : XC Int32} (hz : H[a]? = some z) (hn : z ≠ zJ) : D a = false := by
  rcases hb : D a with _ | _
  · rfl
  · rw [h a hb] at hz
    exact absurd (Option.some.inj hz).symm hn
theorem zGo {D : Nat → Bool} {H : List (XC Int32)} (H0 : List (XC Int32)) (h : zTr D H) {a : Nat} {o : Nat × List (XV Int32)} (hz : H[a]? = some (.inl o)) : (zMx D H0 H)[a]? = some (.inl o) := by
  rw [zMx_get H0 (zTr_no h hz (fun e => by cases e))]
  exact hz
theorem zGa {D : Nat → Bool} {H : List (XC Int32)} (H0 : List (XC Int32)) (h : zTr D H) {a t : Nat} {vs : List (XV Int32)} (hz : H[a]? = some (.inr (t, vs))) (hn : t ≠ 77 ∨ vs ≠ []) : (zMx D H0 H)[a]? = some (.inr (t, vs)) := by
  rw [zMx_get H0 (zTr_no h hz (fun e => by cases e; rcases hn with hn | hn <;> exact hn rfl))]
  exact hz
theorem zDo {D : Nat → Bool} {H : List (XC Int32)} (h : zTr D H) {a : Nat} {o : Nat × List (XV Int32)} (hz : H[a]? = some (.inl o)) : D a = false := zTr_no h hz (fun e => by cases e)
theorem zDa {D : Nat → Bool} {H : List (XC Int32)} (h : zTr D H) {a t : Nat} {vs : List (XV Int32)} (hz : H[a]? = some (.inr (t, vs))) (hn : t ≠ 77 ∨ vs ≠ []) : D a = false := zTr_no h hz (fun e => by cases e; rcases hn with hn | hn <;> exact hn rfl)
theorem zNe {vs : List (XV Int32)} {i : Nat} {u : XV Int32} (h : vs[i]? = some u) : vs ≠ [] := fun e => by
  rw [e] at h
  cases h
theorem zNl {vs : List (XV Int32)} {p : Bool} {i : Nat} (h : (p || decide (vs.length ≤ i)) = false) : vs ≠ [] := fun e => by
  rw [e, List.length_nil, decide_eq_true (Nat.zero_le _), Bool.or_true] at h
  cases h
theorem zRc {D : Nat → Bool} {H : List (XC Int32)} (H0 : List (XC Int32)) (h : zTr D H) {ot : XO Int32} {a c : Nat} (hz : x_rc ot H a = some c) : x_rc ot (zMx D H0 H) a = some c := by
  unfold x_rc at hz ⊢
  by_cases hb : 1000000 < a
  · rw [if_pos hb] at hz ⊢
    exact hz
  · rw [if_neg hb] at hz ⊢
    rcases hH : H[a]? with _ | (⟨c2, fs⟩ | ⟨t, vs⟩)
    · rw [hH] at hz
      cases hz
    · rw [zGo H0 h hH]
      rw [hH] at hz
      exact hz
    · rw [hH] at hz
      cases hz
theorem zMx_no (H0 H : List (XC Int32)) : zMx (fun _ => false) H0 H = H := List.ext_getElem? fun a => zMx_get H0 rfl
/-- from this place on the evaluator comes to that answer and that heap, with all fuel from some on, whatever stands where it can't go -/
def x_To (tb : XT) (tyl : List FieldType) (ot : XO Int32) (dp k pc : Nat) (L : List (Nat × XV Int32)) (S : List (XV Int32)) (H : List (XC Int32)) (cn sn : Nat) (v : Option (XV Int32)) (H2 : List (XC Int32)) : Prop :=
  ∃ f1 : Nat, ∀ f, f1 ≤ f → ∀ D H0, zTr D H → zTr D H2 ∧ ∀ (w : List Unit) (post : List Unit → Option (XV Int32) → List (XC Int32) → XR Unit), x_run dC tb tyl ot f dp k pc L S (zMx D H0 H) cn sn w post = post w v (zMx D H0 H2)
variable {tb : XT} {tyl : List FieldType} {ot : XO Int32} {dp k pc n cn sn : Nat} {q : XM} {L : List (Nat × XV Int32)} {S : List (XV Int32)} {H H2 : List (XC Int32)} {v : Option (XV Int32)}
/-- there is one such answer and heap -/
theorem x_To_one {v2 : Option (XV Int32)} {H3 : List (XC Int32)} (h : x_To tb tyl ot dp k pc L S H cn sn v H2) (g : x_To tb tyl ot dp k pc L S H cn sn v2 H3) : v2 = v ∧ H3 = H2 := by
  obtain ⟨f1, h⟩ := h
  obtain ⟨f2, g⟩ := g
  have h1 := (h (f1 + f2) (by omega) (fun _ => false) [] (fun a ha => by cases ha)).2 []
  have g1 := (g (f1 + f2) (by omega) (fun _ => false) [] (fun a ha => by cases ha)).2 []
  refine Classical.byContradiction fun hc => ?_
  have h2 := h1 (fun _ a b => @ite _ (a = v ∧ b = H2) (Classical.propDecidable _) [] [[()]])
  rw [g1, zMx_no, zMx_no, if_neg hc, if_pos ⟨rfl, rfl⟩] at h2
  cases h2
theorem x_toG {pc2 cn2 sn2 : Nat} {L2 : List (Nat × XV Int32)} {S2 : List (XV Int32)} {H1 : List (XC Int32)} (e : ∀ D H0, zTr D H → zTr D H1 ∧ ∀ f w post, x_run dC tb tyl ot (f + 1) dp k pc L S (zMx D H0 H) cn sn w post = x_run dC tb tyl ot f dp k pc2 L2 S2 (zMx D H0 H1) cn2 sn2 w post)
    (h : x_To tb tyl ot dp k pc2 L2 S2 H1 cn2 sn2 v H2) : x_To tb tyl ot dp k pc L S H cn sn v H2 := by
  obtain ⟨f1, h⟩ := h
  refine ⟨f1 + 1, fun f hf D H0 ht => ?_⟩
  obtain ⟨g, rfl⟩ : ∃ g, f = g + 1 := ⟨f - 1, by omega⟩
  obtain ⟨e1, e2⟩ := e D H0 ht
  obtain ⟨h1, h2⟩ := h g (by omega) D H0 e1
  exact ⟨h1, fun w post => (e2 g w post).trans (h2 w post)⟩
theorem x_to1 {pc2 cn2 sn2 : Nat} {L2 : List (Nat × XV Int32)} {S2 : List (XV Int32)} (e : ∀ {M : List (XC Int32)}, ∀ f w post, x_run dC tb tyl ot (f + 1) dp k pc L S M cn sn w post = x_run dC tb tyl ot f dp k pc2 L2 S2 M cn2 sn2 w post)
    (h : x_To tb tyl ot dp k pc2 L2 S2 H cn2 sn2 v H2) : x_To tb tyl ot dp k pc L S H cn sn v H2 := x_toG (fun _ _ ht => ⟨ht, fun f w post => e f w post⟩) h
theorem dC_br (x : Nat) (a b : Int32) (w : List Unit) (kt kf : List Unit → XR Unit) : dBr dC x a b w kt kf = if x_cmp x a b = true then kt w else kf w := rfl
theorem dC_kst (a : Int32) : dKst dC a = some a := rfl
theorem x_ix_dC {e : Int32} {m : Nat} {w : List Unit} {kk : Nat → List Unit → XR Unit} (h : (decide (e < 0) || decide (m ≤ e.toNatClampNeg)) = false) : x_ix dC e m w kk = kk e.toNatClampNeg w := by
  simp only [x_ix, dC_kst, h, Bool.false_eq_true, if_false]
def x_swk (ps : List (Int × Int)) : Bool := ps.all (fun q => decide ((Int32.ofInt q.1).toInt = q.1))
def x_swo (a : Int32) (df : Int) : List (Int × Int) → Int
  | [] => df
  | q :: r => if a = Int32.ofInt q.1 then q.2 else x_swo a df r
theorem x_sw_dC {a : Int32} {df : Int} {kk : Int → List Unit → XR Unit} {w : List Unit} : ∀ {ps : List (Int × Int)}, x_swk ps = true → x_sw dC a df kk ps w = kk (x_swo a df ps) w
  | [], _ => rfl
  | q :: r, h => by
    have h1 : decide ((Int32.ofInt q.1).toInt = q.1) = true ∧ x_swk r = true := by
      simpa only [x_swk, List.all_cons, Bool.and_eq_true] using h
    have h2 := of_decide_eq_true h1.1
    have ih := x_sw_dC (kk := kk) (w := w) (a := a) (df := df) h1.2
    show (if (Int32.ofInt q.1).toInt = q.1 then (if x_cmp 0 a (Int32.ofInt q.1) = true then kk q.2 w else x_sw dC a df kk r w) else [w]) = kk (if a = Int32.ofInt q.1 then q.2 else x_swo a df r) w
    rw [if_pos h2]
    by_cases c : a = Int32.ofInt q.1
    · rw [if_pos c, if_pos (show x_cmp 0 a (Int32.ofInt q.1) = true from decide_eq_true c)]
    · rw [if_neg c, if_neg (show ¬ x_cmp 0 a (Int32.ofInt q.1) = true from fun h => c (of_decide_eq_true h)), ih]
theorem x_n21 : ((some 2 : Option Nat) = some 1) = False := eq_false (by decide)
theorem x_n31 : ((some 3 : Option Nat) = some 1) = False := eq_false (by decide)
theorem x_n32 : ((some 3 : Option Nat) = some 2) = False := eq_false (by decide)
theorem xT_iconst {x : Int} (hq : tMth tb k = some q) (hi : mC q pc = some (.iconst x, n))  (h : x_To tb tyl ot dp k (pc + 1) L (.inl (dKc dC (Int32.ofInt x)) :: S) H cn sn v H2) : x_To tb tyl ot dp k pc L S H cn sn v H2 := x_to1 (fun f w post => by
  simp only [x_run, hq, hi]) h
theorem xT_bipush {x : _} (hq : tMth tb k = some q) (hi : mC q pc = some (.bipush x, n))  (h : x_To tb tyl ot dp k (pc + 2) L (.inl (dKc dC (Int8.ofInt x).toInt32) :: S) H cn sn v H2) : x_To tb tyl ot dp k pc L S H cn sn v H2 := x_to1 (fun f w post => by
  simp only [x_run, hq, hi]) h
theorem xT_sipush {x : _} (hq : tMth tb k = some q) (hi : mC q pc = some (.sipush x, n))  (h : x_To tb tyl ot dp k (pc + 3) L (.inl (dKc dC (Int16.ofInt x).toInt32) :: S) H cn sn v H2) : x_To tb tyl ot dp k pc L S H cn sn v H2 := x_to1 (fun f w post => by
  simp only [x_run, hq, hi]) h
theorem xT_ldc {ix : _} {x : Int32} (hq : tMth tb k = some q) (hi : mC q pc = some (.ldc ix, n)) (h1 : tLi tb (mO q) ix = some x) (h : x_To tb tyl ot dp k (pc + 2) L (.inl (dKc dC x) :: S) H cn sn v H2) : x_To tb tyl ot dp k pc L S H cn sn v H2 := x_to1 (fun f w post => by
  simp only [x_run, hq, hi, h1]) h
theorem xT_ldcT {ix : _} {a : Nat} (hq : tMth tb k = some q) (hi : mC q pc = some (.ldc ix, n)) (h1 : tLi tb (mO q) ix = none) (h2 : oSl ot (mO q) ix = some a) (h : x_To tb tyl ot dp k (pc + 2) L (.inr (some a) :: S) H cn sn v H2) : x_To tb tyl ot dp k pc L S H cn sn v H2 := x_to1 (fun f w post => by
  simp only [x_run, hq, hi, h1, h2]) h
theorem xT_ldc_w {ix : _} {x : Int32} (hq : tMth tb k = some q) (hi : mC q pc = some (.ldc_w ix, n)) (h1 : tLi tb (mO q) ix = some x) (h : x_To tb tyl ot dp k (pc + 3) L (.inl (dKc dC x) :: S) H cn sn v H2) : x_To tb tyl ot dp k pc L S H cn sn v H2 := x_to1 (fun f w post => by
  simp only [x_run, hq, hi, h1]) h
theorem xT_ldc_wT {ix : _} {a : Nat} (hq : tMth tb k = some q) (hi : mC q pc = some (.ldc_w ix, n)) (h1 : tLi tb (mO q) ix = none) (h2 : oSl ot (mO q) ix = some a) (h : x_To tb tyl ot dp k (pc + 3) L (.inr (some a) :: S) H cn sn v H2) : x_To tb tyl ot dp k pc L S H cn sn v H2 := x_to1 (fun f w post => by
  simp only [x_run, hq, hi, h1, h2]) h
theorem xT_l3 {a b e u : Int32} {j j0 ix j2 ob y ci fj c2 : Nat} {fs vs : List (XV Int32)} (hq : tMth tb k = some q) (hi : mC q pc = some (.i2l, n)) (h0 : x_lq q pc = some (j, j0, ix, j2)) (h1 : x_lk L j = some (.inl b)) (h2 : x_lk L j0 = some (.inr (some ob))) (h3 : x_lk L j2 = some (.inl e)) (h4 : tFld tb (mO q) ix = some (ci, fj)) (h5 : H[ob]? = some (.inl (c2, fs))) (h6 : c2 = ci) (h7 : fs[fj]? = some (.inr (some y))) (h8 : H[y]? = some (.inr (0, vs))) (h9 : (decide (e < 0) || decide (vs.length ≤ e.toNatClampNeg)) = false) (h10 : vs[e.toNatClampNeg]? = some (.inl u)) (h : x_To tb tyl ot dp k (pc + 13) L (.inl (x_l3 a b u) :: S) H cn sn v H2) : x_To tb tyl ot dp k pc L (.inl a :: S) H cn sn v H2 := x_toG (fun D H0 ht => ⟨ht, fun f w post => by
  simp only [x_run, hq, hi, h0, h1, h2, h3, h4, zGo H0 ht h5, h6, h7, zGa H0 ht h8 (Or.inl (by decide)), h9, h10, decide_true, dC_kst, Bool.false_eq_true, if_false, show ∀ z : Int32, dKc dC z = z from fun _ => rfl]⟩) h
theorem xT_aconst_null  (hq : tMth tb k = some q) (hi : mC q pc = some (.aconst_null, n))  (h : x_To tb tyl ot dp k (pc + 1) L (.inr none :: S) H cn sn v H2) : x_To tb tyl ot dp k pc L S H cn sn v H2 := x_to1 (fun f w post => by
  simp only [x_run, hq, hi]) h
theorem xT_iload_n {j : _} {a : Int32} (hq : tMth tb k = some q) (hi : mC q pc = some (.iload_n j, n)) (h1 : x_lk L j = some (.inl a)) (h : x_To tb tyl ot dp k (pc + 1) L (.inl a :: S) H cn sn v H2) : x_To tb tyl ot dp k pc L S H cn sn v H2 := x_to1 (fun f w post => by
  simp only [x_run, hq, hi, h1]) h
theorem xT_iload {j : _} {a : Int32} (hq : tMth tb k = some q) (hi : mC q pc = some (.iload j, n)) (h1 : x_lk L j = some (.inl a)) (h : x_To tb tyl ot dp k (pc + 2) L (.inl a :: S) H cn sn v H2) : x_To tb tyl ot dp k pc L S H cn sn v H2 := x_to1 (fun f w post => by
  simp only [x_run, hq, hi, h1]) h
theorem xT_aload_n {j : _} {a : Option Nat} (hq : tMth tb k = some q) (hi : mC q pc = some (.aload_n j, n)) (h1 : x_lk L j = some (.inr a)) (h : x_To tb tyl ot dp k (pc + 1) L (.inr a :: S) H cn sn v H2) : x_To tb tyl ot dp k pc L S H cn sn v H2 := x_to1 (fun f w post => by
  simp only [x_run, hq, hi, h1]) h
theorem xT_aload {j : _} {a : Option Nat} (hq : tMth tb k = some q) (hi : mC q pc = some (.aload j, n)) (h1 : x_lk L j = some (.inr a)) (h : x_To tb tyl ot dp k (pc + 2) L (.inr a :: S) H cn sn v H2) : x_To tb tyl ot dp k pc L S H cn sn v H2 := x_to1 (fun f w post => by
  simp only [x_run, hq, hi, h1]) h
theorem xT_istore_n {j : _} {a : Int32} (hq : tMth tb k = some q) (hi : mC q pc = some (.istore_n j, n)) (h1 : (j : Nat) < mL q) (h : x_To tb tyl ot dp k (pc + 1) (x_st L j (.inl a)) S H cn sn v H2) : x_To tb tyl ot dp k pc L (.inl a :: S) H cn sn v H2 := x_to1 (fun f w post => by
  simp only [x_run, hq, hi, if_pos h1]) h
theorem xT_istore {j : _} {a : Int32} (hq : tMth tb k = some q) (hi : mC q pc = some (.istore j, n)) (h1 : (j : Nat) < mL q) (h : x_To tb tyl ot dp k (pc + 2) (x_st L j (.inl a)) S H cn sn v H2) : x_To tb tyl ot dp k pc L (.inl a :: S) H cn sn v H2 := x_to1 (fun f w post => by
  simp only [x_run, hq, hi, if_pos h1]) h
theorem xT_astore_n {j : _} {a : Option Nat} (hq : tMth tb k = some q) (hi : mC q pc = some (.astore_n j, n)) (h1 : (j : Nat) < mL q) (h : x_To tb tyl ot dp k (pc + 1) (x_st L j (.inr a)) S H cn sn v H2) : x_To tb tyl ot dp k pc L (.inr a :: S) H cn sn v H2 := x_to1 (fun f w post => by
  simp only [x_run, hq, hi, if_pos h1]) h
theorem xT_astore {j : _} {a : Option Nat} (hq : tMth tb k = some q) (hi : mC q pc = some (.astore j, n)) (h1 : (j : Nat) < mL q) (h : x_To tb tyl ot dp k (pc + 2) (x_st L j (.inr a)) S H cn sn v H2) : x_To tb tyl ot dp k pc L (.inr a :: S) H cn sn v H2 := x_to1 (fun f w post => by
  simp only [x_run, hq, hi, if_pos h1]) h
theorem xT_iinc {j : _} {x : _} {a : Int32} (hq : tMth tb k = some q) (hi : mC q pc = some (.iinc j x, n)) (h1 : x_lk L j = some (.inl a)) (h2 : j < mL q) (h : x_To tb tyl ot dp k (pc + 3) (x_st L j (.inl (dBin dC 0 a (dKc dC (Int32.ofInt x))))) S H cn sn v H2) : x_To tb tyl ot dp k pc L S H cn sn v H2 := x_to1 (fun f w post => by
  simp only [x_run, hq, hi, h1, if_pos h2]) h
theorem xT_dup {a : XV Int32} (hq : tMth tb k = some q) (hi : mC q pc = some (.dup, n))  (h : x_To tb tyl ot dp k (pc + 1) L (a :: a :: S) H cn sn v H2) : x_To tb tyl ot dp k pc L (a :: S) H cn sn v H2 := x_to1 (fun f w post => by
  simp only [x_run, hq, hi]) h
theorem xT_dup_x1 {a b : XV Int32} (hq : tMth tb k = some q) (hi : mC q pc = some (.dup_x1, n))  (h : x_To tb tyl ot dp k (pc + 1) L (a :: b :: a :: S) H cn sn v H2) : x_To tb tyl ot dp k pc L (a :: b :: S) H cn sn v H2 := x_to1 (fun f w post => by
  simp only [x_run, hq, hi]) h
theorem xT_dup2 {a b : XV Int32} (hq : tMth tb k = some q) (hi : mC q pc = some (.dup2, n))  (h : x_To tb tyl ot dp k (pc + 1) L (a :: b :: a :: b :: S) H cn sn v H2) : x_To tb tyl ot dp k pc L (a :: b :: S) H cn sn v H2 := x_to1 (fun f w post => by
  simp only [x_run, hq, hi]) h
theorem xT_pop {a : XV Int32} (hq : tMth tb k = some q) (hi : mC q pc = some (.pop, n))  (h : x_To tb tyl ot dp k (pc + 1) L S H cn sn v H2) : x_To tb tyl ot dp k pc L (a :: S) H cn sn v H2 := x_to1 (fun f w post => by
  simp only [x_run, hq, hi]) h
theorem xT_iadd {a b : Int32} (hq : tMth tb k = some q) (hi : mC q pc = some (.iadd, n))  (h : x_To tb tyl ot dp k (pc + 1) L (.inl (dBin dC 0 a b) :: S) H cn sn v H2) : x_To tb tyl ot dp k pc L (.inl b :: .inl a :: S) H cn sn v H2 := x_to1 (fun f w post => by
  simp only [x_run, hq, hi]) h
theorem xT_isub {a b : Int32} (hq : tMth tb k = some q) (hi : mC q pc = some (.isub, n))  (h : x_To tb tyl ot dp k (pc + 1) L (.inl (dBin dC 1 a b) :: S) H cn sn v H2) : x_To tb tyl ot dp k pc L (.inl b :: .inl a :: S) H cn sn v H2 := x_to1 (fun f w post => by
  simp only [x_run, hq, hi]) h
theorem xT_imul {a b : Int32} (hq : tMth tb k = some q) (hi : mC q pc = some (.imul, n))  (h : x_To tb tyl ot dp k (pc + 1) L (.inl (dBin dC 2 a b) :: S) H cn sn v H2) : x_To tb tyl ot dp k pc L (.inl b :: .inl a :: S) H cn sn v H2 := x_to1 (fun f w post => by
  simp only [x_run, hq, hi]) h
theorem xT_iand {a b : Int32} (hq : tMth tb k = some q) (hi : mC q pc = some (.iand, n))  (h : x_To tb tyl ot dp k (pc + 1) L (.inl (dBin dC 3 a b) :: S) H cn sn v H2) : x_To tb tyl ot dp k pc L (.inl b :: .inl a :: S) H cn sn v H2 := x_to1 (fun f w post => by
  simp only [x_run, hq, hi]) h
theorem xT_ior {a b : Int32} (hq : tMth tb k = some q) (hi : mC q pc = some (.ior, n))  (h : x_To tb tyl ot dp k (pc + 1) L (.inl (dBin dC 4 a b) :: S) H cn sn v H2) : x_To tb tyl ot dp k pc L (.inl b :: .inl a :: S) H cn sn v H2 := x_to1 (fun f w post => by
  simp only [x_run, hq, hi]) h
theorem xT_ixor {a b : Int32} (hq : tMth tb k = some q) (hi : mC q pc = some (.ixor, n))  (h : x_To tb tyl ot dp k (pc + 1) L (.inl (dBin dC 5 a b) :: S) H cn sn v H2) : x_To tb tyl ot dp k pc L (.inl b :: .inl a :: S) H cn sn v H2 := x_to1 (fun f w post => by
  simp only [x_run, hq, hi]) h
theorem xT_ishl {a b : Int32} (hq : tMth tb k = some q) (hi : mC q pc = some (.ishl, n))  (h : x_To tb tyl ot dp k (pc + 1) L (.inl (dBin dC 6 a b) :: S) H cn sn v H2) : x_To tb tyl ot dp k pc L (.inl b :: .inl a :: S) H cn sn v H2 := x_to1 (fun f w post => by
  simp only [x_run, hq, hi]) h
theorem xT_ishr {a b : Int32} (hq : tMth tb k = some q) (hi : mC q pc = some (.ishr, n))  (h : x_To tb tyl ot dp k (pc + 1) L (.inl (dBin dC 7 a b) :: S) H cn sn v H2) : x_To tb tyl ot dp k pc L (.inl b :: .inl a :: S) H cn sn v H2 := x_to1 (fun f w post => by
  simp only [x_run, hq, hi]) h
theorem xT_iushr {a b : Int32} (hq : tMth tb k = some q) (hi : mC q pc = some (.iushr, n))  (h : x_To tb tyl ot dp k (pc + 1) L (.inl (dBin dC 10 a b) :: S) H cn sn v H2) : x_To tb tyl ot dp k pc L (.inl b :: .inl a :: S) H cn sn v H2 := x_to1 (fun f w post => by
  simp only [x_run, hq, hi]) h
theorem xT_idiv {a b : Int32} (hq : tMth tb k = some q) (hi : mC q pc = some (.idiv, n)) (h1 : x_cmp 0 b (dKc dC 0) = false) (h : x_To tb tyl ot dp k (pc + 1) L (.inl (dBin dC 8 a b) :: S) H cn sn v H2) : x_To tb tyl ot dp k pc L (.inl b :: .inl a :: S) H cn sn v H2 := x_to1 (fun f w post => by
  simp only [x_run, hq, hi, dC_br, h1, Bool.false_eq_true, if_false, if_true]) h
theorem xT_irem {a b : Int32} (hq : tMth tb k = some q) (hi : mC q pc = some (.irem, n)) (h1 : x_cmp 0 b (dKc dC 0) = false) (h : x_To tb tyl ot dp k (pc + 1) L (.inl (dBin dC 9 a b) :: S) H cn sn v H2) : x_To tb tyl ot dp k pc L (.inl b :: .inl a :: S) H cn sn v H2 := x_to1 (fun f w post => by
  simp only [x_run, hq, hi, dC_br, h1, Bool.false_eq_true, if_false, if_true]) h
theorem xT_i2b {a : Int32} (hq : tMth tb k = some q) (hi : mC q pc = some (.i2b, n))  (h : x_To tb tyl ot dp k (pc + 1) L (.inl (dUn dC 0 a) :: S) H cn sn v H2) : x_To tb tyl ot dp k pc L (.inl a :: S) H cn sn v H2 := x_to1 (fun f w post => by
  simp only [x_run, hq, hi]) h
theorem xT_i2s {a : Int32} (hq : tMth tb k = some q) (hi : mC q pc = some (.i2s, n))  (h : x_To tb tyl ot dp k (pc + 1) L (.inl (dUn dC 1 a) :: S) H cn sn v H2) : x_To tb tyl ot dp k pc L (.inl a :: S) H cn sn v H2 := x_to1 (fun f w post => by
  simp only [x_run, hq, hi]) h
theorem xT_i2c {a : Int32} (hq : tMth tb k = some q) (hi : mC q pc = some (.i2c, n))  (h : x_To tb tyl ot dp k (pc + 1) L (.inl (dUn dC 2 a) :: S) H cn sn v H2) : x_To tb tyl ot dp k pc L (.inl a :: S) H cn sn v H2 := x_to1 (fun f w post => by
  simp only [x_run, hq, hi]) h
theorem xT_ineg {a : Int32} (hq : tMth tb k = some q) (hi : mC q pc = some (.ineg, n))  (h : x_To tb tyl ot dp k (pc + 1) L (.inl (dUn dC 3 a) :: S) H cn sn v H2) : x_To tb tyl ot dp k pc L (.inl a :: S) H cn sn v H2 := x_to1 (fun f w post => by
  simp only [x_run, hq, hi]) h
theorem xT_goto {x : _} {t : Nat} (hq : tMth tb k = some q) (hi : mC q pc = some (.goto x, n)) (h1 : x_jp pc x = some t) (h : x_To tb tyl ot dp k t L S H cn sn v H2) : x_To tb tyl ot dp k pc L S H cn sn v H2 := x_to1 (fun f w post => by
  simp only [x_run, hq, hi, h1]) h
theorem xT_ifCondY {c : _} {x : _} {t : Nat} {a : Int32} (hq : tMth tb k = some q) (hi : mC q pc = some (.ifCond c x, n)) (h0 : x_jp pc x = some t) (h1 : x_cmp (x_cn c) a (dKc dC 0) = true) (h : x_To tb tyl ot dp k t L S H cn sn v H2) : x_To tb tyl ot dp k pc L (.inl a :: S) H cn sn v H2 := x_to1 (fun f w post => by
  simp only [x_run, hq, hi, h0, dC_br, h1, Bool.false_eq_true, if_false, if_true]) h
theorem xT_if_icmpY {c : _} {x : _} {t : Nat} {a b : Int32} (hq : tMth tb k = some q) (hi : mC q pc = some (.if_icmp c x, n)) (h0 : x_jp pc x = some t) (h1 : x_cmp (x_cn c) a b = true) (h : x_To tb tyl ot dp k t L S H cn sn v H2) : x_To tb tyl ot dp k pc L (.inl b :: .inl a :: S) H cn sn v H2 := x_to1 (fun f w post => by
  simp only [x_run, hq, hi, h0, dC_br, h1, Bool.false_eq_true, if_false, if_true]) h
theorem xT_ifCondN {c : _} {x : _} {t : Nat} {a : Int32} (hq : tMth tb k = some q) (hi : mC q pc = some (.ifCond c x, n)) (h0 : x_jp pc x = some t) (h1 : x_cmp (x_cn c) a (dKc dC 0) = false) (h : x_To tb tyl ot dp k (pc + 3) L S H cn sn v H2) : x_To tb tyl ot dp k pc L (.inl a :: S) H cn sn v H2 := x_to1 (fun f w post => by
  simp only [x_run, hq, hi, h0, dC_br, h1, Bool.false_eq_true, if_false, if_true]) h
theorem xT_if_icmpN {c : _} {x : _} {t : Nat} {a b : Int32} (hq : tMth tb k = some q) (hi : mC q pc = some (.if_icmp c x, n)) (h0 : x_jp pc x = some t) (h1 : x_cmp (x_cn c) a b = false) (h : x_To tb tyl ot dp k (pc + 3) L S H cn sn v H2) : x_To tb tyl ot dp k pc L (.inl b :: .inl a :: S) H cn sn v H2 := x_to1 (fun f w post => by
  simp only [x_run, hq, hi, h0, dC_br, h1, Bool.false_eq_true, if_false, if_true]) h
theorem xT_ifnull0 {x : _} {t : Nat} (hq : tMth tb k = some q) (hi : mC q pc = some (.ifnull x, n)) (h0 : x_jp pc x = some t) (h : x_To tb tyl ot dp k t L S H cn sn v H2) : x_To tb tyl ot dp k pc L (.inr none :: S) H cn sn v H2 := x_to1 (fun f w post => by
  simp only [x_run, hq, hi, h0]) h
theorem xT_ifnull1 {x : _} {t a : Nat} (hq : tMth tb k = some q) (hi : mC q pc = some (.ifnull x, n)) (h0 : x_jp pc x = some t) (h : x_To tb tyl ot dp k (pc + 3) L S H cn sn v H2) : x_To tb tyl ot dp k pc L (.inr (some a) :: S) H cn sn v H2 := x_to1 (fun f w post => by
  simp only [x_run, hq, hi, h0]) h
theorem xT_ifnonnull0 {x : _} {t : Nat} (hq : tMth tb k = some q) (hi : mC q pc = some (.ifnonnull x, n)) (h0 : x_jp pc x = some t) (h : x_To tb tyl ot dp k (pc + 3) L S H cn sn v H2) : x_To tb tyl ot dp k pc L (.inr none :: S) H cn sn v H2 := x_to1 (fun f w post => by
  simp only [x_run, hq, hi, h0]) h
theorem xT_ifnonnull1 {x : _} {t a : Nat} (hq : tMth tb k = some q) (hi : mC q pc = some (.ifnonnull x, n)) (h0 : x_jp pc x = some t) (h : x_To tb tyl ot dp k t L S H cn sn v H2) : x_To tb tyl ot dp k pc L (.inr (some a) :: S) H cn sn v H2 := x_to1 (fun f w post => by
  simp only [x_run, hq, hi, h0]) h
theorem xT_tableswitch {df lo up : Int} {os : _} {t : Nat} {a : Int32} (hq : tMth tb k = some q) (hi : mC q pc = some (.tableswitch df lo up os, n)) (h0 : up + 1 = lo + os.size) (h1 : x_swk (x_tp lo os.toList) = true) (h2 : x_jp pc (x_swo a df (x_tp lo os.toList)) = some t) (h : x_To tb tyl ot dp k t L S H cn sn v H2) : x_To tb tyl ot dp k pc L (.inl a :: S) H cn sn v H2 := x_to1 (fun f w post => by
  simp only [x_run, hq, hi, if_pos h0, x_sw_dC h1, h2]) h
theorem xT_lookupswitch {df : Int} {ps : _} {t : Nat} {a : Int32} (hq : tMth tb k = some q) (hi : mC q pc = some (.lookupswitch df ps, n)) (h0 : (ps.toList.zip (ps.toList.drop 1)).all (fun (a, next) => a.1 < next.1) = true) (h1 : x_swk ps.toList = true) (h2 : x_jp pc (x_swo a df ps.toList) = some t) (h : x_To tb tyl ot dp k t L S H cn sn v H2) : x_To tb tyl ot dp k pc L (.inl a :: S) H cn sn v H2 := x_to1 (fun f w post => by
  simp only [x_run, hq, hi, if_pos h0, x_sw_dC h1, h2]) h
theorem xT_getfield {ix a ci j c2 : Nat} {fs : List (XV Int32)} {u : XV Int32} (hq : tMth tb k = some q) (hi : mC q pc = some (.getfield ix, n)) (h0 : ¬ 1000000 < a) (h1 : tFld tb (mO q) ix = some (ci, j)) (h2 : H[a]? = some (.inl (c2, fs))) (h3 : c2 = ci) (h4 : fs[j]? = some u) (h : x_To tb tyl ot dp k (pc + 3) L (u :: S) H cn sn v H2) : x_To tb tyl ot dp k pc L (.inr (some a) :: S) H cn sn v H2 := x_toG (fun D H0 ht => ⟨ht, fun f w post => by
  simp only [x_run, hq, hi, if_neg h0, h1, zGo H0 ht h2, h3, h4, decide_true]⟩) h
theorem xT_getfieldO {ix a : Nat} {u : _} (hq : tMth tb k = some q) (hi : mC q pc = some (.getfield ix, n)) (h0 : 1000000 < a) (h1 : oFl ot a (mO q) ix = some u) (h : x_To tb tyl ot dp k (pc + 3) L (x_ov dC u :: S) H cn sn v H2) : x_To tb tyl ot dp k pc L (.inr (some a) :: S) H cn sn v H2 := x_to1 (fun f w post => by
  simp only [x_run, hq, hi, if_pos h0, h1]) h
theorem xT_getstatic {ix : Nat} {u : _} (hq : tMth tb k = some q) (hi : mC q pc = some (.getstatic ix, n)) (h1 : oGs ot (mO q) ix = some u) (h : x_To tb tyl ot dp k (pc + 3) L (x_ov dC u :: S) H cn sn v H2) : x_To tb tyl ot dp k pc L S H cn sn v H2 := x_to1 (fun f w post => by
  simp only [x_run, hq, hi, h1]) h
theorem xT_arraylengthS  (hq : tMth tb k = some q) (hi : mC q pc = some (.arraylength, n))  (h : x_To tb tyl ot dp k (pc + 1) L (.inl (dKc dC (Int32.ofNat (oSn ot))) :: S) H cn sn v H2) : x_To tb tyl ot dp k pc L (.inr (some 1000000) :: S) H cn sn v H2 := x_to1 (fun f w post => by
  simp only [x_run, hq, hi, if_true]) h
theorem xT_arraylengthB {a : Nat} {bs : List Int32} (hq : tMth tb k = some q) (hi : mC q pc = some (.arraylength, n)) (h0 : ¬ a = 1000000) (h1 : oBy ot a = some bs) (h2 : 1000000 < a) (h : x_To tb tyl ot dp k (pc + 1) L (.inl (dKc dC (Int32.ofNat bs.length)) :: S) H cn sn v H2) : x_To tb tyl ot dp k pc L (.inr (some a) :: S) H cn sn v H2 := x_to1 (fun f w post => by
  simp only [x_run, hq, hi, if_neg h0, h1, if_pos h2]) h
theorem xT_putfield {ix a ci j c2 : Nat} {fs : List (XV Int32)} {u : XV Int32} {ty : FieldType × Bool} (hq : tMth tb k = some q) (hi : mC q pc = some (.putfield ix, n)) (h1 : tFld tb (mO q) ix = some (ci, j)) (h2 : H[a]? = some (.inl (c2, fs))) (h3 : (tFt tb ci)[j]? = some ty) (h4 : (decide (c2 = ci) && x_fit dC ty.1 u && decide (j < fs.length) && (!ty.2 || (mI q && decide (mRc q = ci)))) = true) (h : x_To tb tyl ot dp k (pc + 3) L S (H.set a (.inl (c2, fs.set j u))) cn sn v H2) : x_To tb tyl ot dp k pc L (u :: .inr (some a) :: S) H cn sn v H2 := x_toG (fun D H0 ht => ⟨zTr_set ht _ (zDo ht h2), fun f w post => by
  rw [zMx_set H0 _ (zDo ht h2)]
  simp only [x_run, hq, hi, h1, zGo H0 ht h2, h3, h4, if_true]⟩) h
theorem xT_ialoadS {e : Int32} (hq : tMth tb k = some q) (hi : mC q pc = some (.iaload, n)) (h2 : (decide (e < 0) || decide (oSn ot ≤ e.toNatClampNeg)) = false) (h : x_To tb tyl ot dp k (pc + 1) L (.inl (oSc ot e.toNatClampNeg) :: S) H cn sn v H2) : x_To tb tyl ot dp k pc L (.inl e :: .inr (some 1000000) :: S) H cn sn v H2 := x_to1 (fun f w post => by
  simp only [x_run, hq, hi, if_true, x_ix_dC h2]) h
theorem xT_iaload {e : Int32} {a : Nat} {vs : List (XV Int32)} {u : XV Int32} (hq : tMth tb k = some q) (hi : mC q pc = some (.iaload, n)) (h0 : ¬ a = 1000000) (h1 : H[a]? = some (.inr (0, vs))) (h2 : (decide (e < 0) || decide (vs.length ≤ e.toNatClampNeg)) = false) (h3 : vs[e.toNatClampNeg]? = some u) (h : x_To tb tyl ot dp k (pc + 1) L (u :: S) H cn sn v H2) : x_To tb tyl ot dp k pc L (.inl e :: .inr (some a) :: S) H cn sn v H2 := x_toG (fun D H0 ht => ⟨ht, fun f w post => by
  simp only [x_run, hq, hi, if_neg h0, zGa H0 ht h1 (Or.inl (by decide)), x_ix_dC h2, h3]⟩) h
theorem xT_baloadO {e : Int32} {a : Nat} {bs : List Int32} (hq : tMth tb k = some q) (hi : mC q pc = some (.baload, n)) (h0 : 1000000 < a) (h1 : oBy ot a = some bs) (h2 : (decide (e < 0) || decide (bs.length ≤ e.toNatClampNeg)) = false) (h : x_To tb tyl ot dp k (pc + 1) L (.inl (dKc dC (bs.getD e.toNatClampNeg 0)) :: S) H cn sn v H2) : x_To tb tyl ot dp k pc L (.inl e :: .inr (some a) :: S) H cn sn v H2 := x_to1 (fun f w post => by
  simp only [x_run, hq, hi, if_pos h0, h1, x_ix_dC h2]) h
theorem xT_baload {e : Int32} {a : Nat} {vs : List (XV Int32)} {u : XV Int32} (hq : tMth tb k = some q) (hi : mC q pc = some (.baload, n)) (h0 : ¬ 1000000 < a) (h1 : H[a]? = some (.inr (1, vs))) (h2 : (decide (e < 0) || decide (vs.length ≤ e.toNatClampNeg)) = false) (h3 : vs[e.toNatClampNeg]? = some u) (h : x_To tb tyl ot dp k (pc + 1) L (u :: S) H cn sn v H2) : x_To tb tyl ot dp k pc L (.inl e :: .inr (some a) :: S) H cn sn v H2 := x_toG (fun D H0 ht => ⟨ht, fun f w post => by
  simp only [x_run, hq, hi, if_neg h0, zGa H0 ht h1 (Or.inl (by decide)), x_ix_dC h2, h3]⟩) h
theorem xT_aaload {e : Int32} {a t : Nat} {vs : List (XV Int32)} {u : XV Int32} (hq : tMth tb k = some q) (hi : mC q pc = some (.aaload, n)) (h0 : (tyl[t]?.map x_isRef) = some true) (h1 : H[a]? = some (.inr (t, vs))) (h2 : (decide (e < 0) || decide (vs.length ≤ e.toNatClampNeg)) = false) (h3 : vs[e.toNatClampNeg]? = some u) (h : x_To tb tyl ot dp k (pc + 1) L (u :: S) H cn sn v H2) : x_To tb tyl ot dp k pc L (.inl e :: .inr (some a) :: S) H cn sn v H2 := x_toG (fun D H0 ht => ⟨ht, fun f w post => by
  simp only [x_run, hq, hi, zGa H0 ht h1 (Or.inr (zNe h3)), if_pos h0, x_ix_dC h2, h3]⟩) h
theorem xT_iastore {x e : Int32} {a : Nat} {vs : List (XV Int32)} (hq : tMth tb k = some q) (hi : mC q pc = some (.iastore, n)) (h1 : H[a]? = some (.inr (0, vs))) (h2 : (decide (e < 0) || decide (vs.length ≤ e.toNatClampNeg)) = false) (h : x_To tb tyl ot dp k (pc + 1) L S (H.set a (.inr (0, vs.set e.toNatClampNeg (.inl x)))) cn sn v H2) : x_To tb tyl ot dp k pc L (.inl x :: .inl e :: .inr (some a) :: S) H cn sn v H2 := x_toG (fun D H0 ht => ⟨zTr_set ht _ (zDa ht h1 (Or.inl (by decide))), fun f w post => by
  rw [zMx_set H0 _ (zDa ht h1 (Or.inl (by decide)))]
  simp only [x_run, hq, hi, zGa H0 ht h1 (Or.inl (by decide)), x_ix_dC h2]⟩) h
theorem xT_bastore {x e : Int32} {a : Nat} {vs : List (XV Int32)} (hq : tMth tb k = some q) (hi : mC q pc = some (.bastore, n)) (h0 : x_fit dC .boolean (.inl x) = true) (h1 : H[a]? = some (.inr (1, vs))) (h2 : (decide (e < 0) || decide (vs.length ≤ e.toNatClampNeg)) = false) (h : x_To tb tyl ot dp k (pc + 1) L S (H.set a (.inr (1, vs.set e.toNatClampNeg (.inl x)))) cn sn v H2) : x_To tb tyl ot dp k pc L (.inl x :: .inl e :: .inr (some a) :: S) H cn sn v H2 := x_toG (fun D H0 ht => ⟨zTr_set ht _ (zDa ht h1 (Or.inl (by decide))), fun f w post => by
  rw [zMx_set H0 _ (zDa ht h1 (Or.inl (by decide)))]
  simp only [x_run, hq, hi, zGa H0 ht h1 (Or.inl (by decide)), if_pos h0, x_ix_dC h2]⟩) h
theorem xT_aastore {e : Int32} {a u t ci : Nat} {gs vs : List (XV Int32)} {C : String} (hq : tMth tb k = some q) (hi : mC q pc = some (.aastore, n)) (h1 : H[a]? = some (.inr (t, vs))) (h2 : H[u]? = some (.inl (ci, gs))) (h3 : tyl[t]? = some (.object C)) (h4 : decide (C = tNm tb ci) = true) (h5 : (decide (e < 0) || decide (vs.length ≤ e.toNatClampNeg)) = false) (h : x_To tb tyl ot dp k (pc + 1) L S (H.set a (.inr (t, vs.set e.toNatClampNeg (.inr (some u))))) cn sn v H2) : x_To tb tyl ot dp k pc L (.inr (some u) :: .inl e :: .inr (some a) :: S) H cn sn v H2 := x_toG (fun D H0 ht => ⟨zTr_set ht _ (zDa ht h1 (Or.inr (zNl h5))), fun f w post => by
  rw [zMx_set H0 _ (zDa ht h1 (Or.inr (zNl h5)))]
  simp only [x_run, hq, hi, zGa H0 ht h1 (Or.inr (zNl h5)), zGo H0 ht h2, h3, h4, if_true, x_ix_dC h5]⟩) h
theorem xT_new {ix ci : Nat} (hq : tMth tb k = some q) (hi : mC q pc = some (.new ix, n)) (h1 : tNw tb (mO q) ix = some ci) (h2 : (decide (cn + 1 ≤ mMc q) && decide (sn + (tFt tb ci).length ≤ mMs q) && decide (H.length + 1 ≤ 1000000)) = true) (h : x_To tb tyl ot dp k (pc + 3) L (.inr (some H.length) :: S) (H ++ [.inl (ci, (tFt tb ci).map (fun t => x_def dC t.1))]) (cn + 1) (sn + (tFt tb ci).length) v H2) : x_To tb tyl ot dp k pc L S H cn sn v H2 := x_toG (fun D H0 ht => ⟨zTr_app ht _, fun f w post => by
  rw [zMx_app H0 _ ht]
  simp only [x_run, zMx_len, hq, hi, h1, h2, if_true]⟩) h
theorem xT_newarrayI {e : Int32} (hq : tMth tb k = some q) (hi : mC q pc = some (.newarray .int, n)) (h2 : (decide (¬ e < 0) && decide (e.toNatClampNeg ≤ 100000) && decide (cn + 1 ≤ mMc q) && decide (sn + e.toNatClampNeg ≤ mMs q) && decide (H.length + 1 ≤ 1000000)) = true) (h : x_To tb tyl ot dp k (pc + 2) L (.inr (some H.length) :: S) (H ++ [.inr (0, List.replicate e.toNatClampNeg (.inl (dKc dC 0)))]) (cn + 1) (sn + e.toNatClampNeg) v H2) : x_To tb tyl ot dp k pc L (.inl e :: S) H cn sn v H2 := x_toG (fun D H0 ht => ⟨zTr_app ht _, fun f w post => by
  rw [zMx_app H0 _ ht]
  simp only [x_run, zMx_len, hq, hi, dC_kst, h2, if_true]⟩) h
theorem xT_newarrayZ {e : Int32} (hq : tMth tb k = some q) (hi : mC q pc = some (.newarray .boolean, n)) (h2 : (decide (¬ e < 0) && decide (e.toNatClampNeg ≤ 100000) && decide (cn + 1 ≤ mMc q) && decide (sn + e.toNatClampNeg ≤ mMs q) && decide (H.length + 1 ≤ 1000000)) = true) (h : x_To tb tyl ot dp k (pc + 2) L (.inr (some H.length) :: S) (H ++ [.inr (1, List.replicate e.toNatClampNeg (.inl (dKc dC 0)))]) (cn + 1) (sn + e.toNatClampNeg) v H2) : x_To tb tyl ot dp k pc L (.inl e :: S) H cn sn v H2 := x_toG (fun D H0 ht => ⟨zTr_app ht _, fun f w post => by
  rw [zMx_app H0 _ ht]
  simp only [x_run, zMx_len, hq, hi, dC_kst, h2, if_true]⟩) h
theorem xT_multianewarray {ix : _} {dm : _} {t2 t1 : Nat} {e1 e2 : Int32} (hq : tMth tb k = some q) (hi : mC q pc = some (.multianewarray ix dm, n)) (h1 : tMn tb (mO q) ix = some (t2, t1)) (h2 : (decide (dm = 2) && decide (¬ e1 < 0) && decide (¬ e2 < 0) && decide (e1.toNatClampNeg ≤ 100000) && decide (e2.toNatClampNeg ≤ 100000) && decide (t1 < 2) && decide (cn + (1 + e1.toNatClampNeg) ≤ mMc q) && decide (sn + (e1.toNatClampNeg + e1.toNatClampNeg * e2.toNatClampNeg) ≤ mMs q) && decide (H.length + 1 + e1.toNatClampNeg ≤ 1000000)) = true) (h : x_To tb tyl ot dp k (pc + 4) L (.inr (some H.length) :: S) (H ++ .inr (t2, x_refs (H.length + 1) e1.toNatClampNeg) :: x_rows t1 (List.replicate e2.toNatClampNeg (.inl (dKc dC 0))) e1.toNatClampNeg) (cn + 1 + e1.toNatClampNeg) (sn + e1.toNatClampNeg + e1.toNatClampNeg * e2.toNatClampNeg) v H2) : x_To tb tyl ot dp k pc L (.inl e2 :: .inl e1 :: S) H cn sn v H2 := x_toG (fun D H0 ht => ⟨zTr_app ht _, fun f w post => by
  rw [zMx_app H0 _ ht]
  simp only [x_run, zMx_len, hq, hi, h1, dC_kst, h2, if_true]⟩) h
theorem xT_objectInit {ix : _} {a : Nat} (hq : tMth tb k = some q) (hi : mC q pc = some (.invokespecial ix, n)) (h1 : tBi tb (mO q) ix = some 0) (h2 : decide (S.length ≤ 8) = true) (h : x_To tb tyl ot dp k (pc + 3) L S H cn sn v H2) : x_To tb tyl ot dp k pc L (.inr (some a) :: S) H cn sn v H2 := x_to1 (fun f w post => by
  simp only [x_run, hq, hi, h1, h2, if_true]) h
theorem xT_arraycopy {ix : _} {n1 d1 s1 : Int32} {bd bs : Nat} {us vs : List (XV Int32)} (hq : tMth tb k = some q) (hi : mC q pc = some (.invokestatic ix, n)) (h0 : tCal tb (mO q) ix = none) (h1 : tBi tb (mO q) ix = some 1) (h2 : H[bs]? = some (.inr (0, us))) (h3 : H[bd]? = some (.inr (0, vs))) (h4 : (decide (¬ n1 < 0) && decide (¬ d1 < 0) && decide (¬ s1 < 0) && decide (s1.toNatClampNeg + n1.toNatClampNeg ≤ us.length) && decide (d1.toNatClampNeg + n1.toNatClampNeg ≤ vs.length) && decide (S.length ≤ 8) && us.all (fun u => u.isLeft)) = true) (h : x_To tb tyl ot dp k (pc + 3) L S (H.set bd (.inr (0, vs.take d1.toNatClampNeg ++ (us.drop s1.toNatClampNeg).take n1.toNatClampNeg ++ vs.drop (d1.toNatClampNeg + n1.toNatClampNeg)))) cn sn v H2) : x_To tb tyl ot dp k pc L (.inl n1 :: .inl d1 :: .inr (some bd) :: .inl s1 :: .inr (some bs) :: S) H cn sn v H2 := x_toG (fun D H0 ht => ⟨zTr_set ht _ (zDa ht h3 (Or.inl (by decide))), fun f w post => by
  rw [zMx_set H0 _ (zDa ht h3 (Or.inl (by decide)))]
  simp only [x_run, hq, hi, h0, h1, zGa H0 ht h2 (Or.inl (by decide)), zGa H0 ht h3 (Or.inl (by decide)), dC_kst, h4, if_true]⟩) h
theorem xT_maxY {ix : _} {a b : Int32} (hq : tMth tb k = some q) (hi : mC q pc = some (.invokestatic ix, n)) (h0 : tCal tb (mO q) ix = none) (h1 : tBi tb (mO q) ix = some 2) (h2 : (decide (S.length ≤ 8) && decide (cn ≤ mMc q) && decide (sn ≤ mMs q)) = true) (h3 : x_cmp 2 a b = true) (h : x_To tb tyl ot dp k (pc + 3) L (.inl b :: S) H cn sn v H2) : x_To tb tyl ot dp k pc L (.inl b :: .inl a :: S) H cn sn v H2 := x_to1 (fun f w post => by
  simp only [x_run, hq, hi, h0, h1, h2, if_true, dC_br, h3, Bool.false_eq_true, if_false, x_n21, x_n31, x_n32]) h
theorem xT_maxN {ix : _} {a b : Int32} (hq : tMth tb k = some q) (hi : mC q pc = some (.invokestatic ix, n)) (h0 : tCal tb (mO q) ix = none) (h1 : tBi tb (mO q) ix = some 2) (h2 : (decide (S.length ≤ 8) && decide (cn ≤ mMc q) && decide (sn ≤ mMs q)) = true) (h3 : x_cmp 2 a b = false) (h : x_To tb tyl ot dp k (pc + 3) L (.inl a :: S) H cn sn v H2) : x_To tb tyl ot dp k pc L (.inl b :: .inl a :: S) H cn sn v H2 := x_to1 (fun f w post => by
  simp only [x_run, hq, hi, h0, h1, h2, if_true, dC_br, h3, Bool.false_eq_true, if_false, x_n21, x_n31, x_n32]) h
theorem xT_minY {ix : _} {a b : Int32} (hq : tMth tb k = some q) (hi : mC q pc = some (.invokestatic ix, n)) (h0 : tCal tb (mO q) ix = none) (h1 : tBi tb (mO q) ix = some 3) (h2 : (decide (S.length ≤ 8) && decide (cn ≤ mMc q) && decide (sn ≤ mMs q)) = true) (h3 : x_cmp 2 b a = true) (h : x_To tb tyl ot dp k (pc + 3) L (.inl b :: S) H cn sn v H2) : x_To tb tyl ot dp k pc L (.inl b :: .inl a :: S) H cn sn v H2 := x_to1 (fun f w post => by
  simp only [x_run, hq, hi, h0, h1, h2, if_true, dC_br, h3, Bool.false_eq_true, if_false, x_n21, x_n31, x_n32]) h
theorem xT_minN {ix : _} {a b : Int32} (hq : tMth tb k = some q) (hi : mC q pc = some (.invokestatic ix, n)) (h0 : tCal tb (mO q) ix = none) (h1 : tBi tb (mO q) ix = some 3) (h2 : (decide (S.length ≤ 8) && decide (cn ≤ mMc q) && decide (sn ≤ mMs q)) = true) (h3 : x_cmp 2 b a = false) (h : x_To tb tyl ot dp k (pc + 3) L (.inl a :: S) H cn sn v H2) : x_To tb tyl ot dp k pc L (.inl b :: .inl a :: S) H cn sn v H2 := x_to1 (fun f w post => by
  simp only [x_run, hq, hi, h0, h1, h2, if_true, dC_br, h3, Bool.false_eq_true, if_false, x_n21, x_n31, x_n32]) h
theorem xT_invokestatic {ix j so : Nat} {q2 : XM} {r : List (XV Int32)} {u : Option (XV Int32)} {H1 : List (XC Int32)} (hq : tMth tb k = some q) (hi : mC q pc = some (.invokestatic ix, n)) (hc : tCal tb (mO q) ix = some (j, so)) (hm : tMth tb j = some q2) (h1 : (decide (mNp q2 ≤ S.length) && decide (2 ≤ so) && decide ((S.drop (mNp q2)).length ≤ 8) && decide (mNp q2 ≤ mL q2) && decide (cn + mMc q2 ≤ mMc q) && decide (sn + mMs q2 ≤ mMs q)) = true) (g1 : x_To tb tyl ot dp j 0 (x_en 0 (S.take (mNp q2)).reverse) [] H 0 0 u H1) (g2 : x_To tb tyl ot (dp + 1) k (pc + 3) L (x_push u (S.drop (mNp q2))) H1 (cn + mMc q2) (sn + mMs q2) v H2) : x_To tb tyl ot (dp + 1) k pc L S H cn sn v H2 := by
  obtain ⟨f1, g1⟩ := g1
  obtain ⟨f2, g2⟩ := g2
  refine ⟨f1 + f2 + 1, fun f hf D H0 ht => ?_⟩
  obtain ⟨g, rfl⟩ : ∃ g, f = g + 1 := ⟨f - 1, by omega⟩
  obtain ⟨a1, a2⟩ := g1 g (by omega) D H0 ht
  obtain ⟨b1, b2⟩ := g2 g (by omega) D H0 a1
  refine ⟨b1, fun w post => ?_⟩
  simp only [x_run, hq, hi, hc, hm, h1, if_true]
  rw [a2]
  exact b2 w post
theorem xT_invokevirtual {ix j so : Nat} {a : Nat} {q2 : XM} {r : List (XV Int32)} {u : Option (XV Int32)} {H1 : List (XC Int32)} (hq : tMth tb k = some q) (hi : mC q pc = some (.invokevirtual ix, n)) (hc : tCal tb (mO q) ix = some (j, so)) (hm : tMth tb j = some q2) (hd : S.drop (mNp q2) = .inr (some a) :: r) (h1 : (decide (mNp q2 + 1 ≤ S.length) && decide (so = 0) && decide (x_rc ot H a = some (mRc q2)) && decide (r.length ≤ 8) && decide (mNp q2 + 1 ≤ mL q2) && decide (cn + mMc q2 ≤ mMc q) && decide (sn + mMs q2 ≤ mMs q)) = true) (g1 : x_To tb tyl ot dp j 0 (x_en 0 (.inr (some a) :: (S.take (mNp q2)).reverse)) [] H 0 0 u H1) (g2 : x_To tb tyl ot (dp + 1) k (pc + 3) L (x_push u r) H1 (cn + mMc q2) (sn + mMs q2) v H2) : x_To tb tyl ot (dp + 1) k pc L S H cn sn v H2 := by
  obtain ⟨f1, g1⟩ := g1
  obtain ⟨f2, g2⟩ := g2
  refine ⟨f1 + f2 + 1, fun f hf D H0 ht => ?_⟩
  obtain ⟨g, rfl⟩ : ∃ g, f = g + 1 := ⟨f - 1, by omega⟩
  obtain ⟨a1, a2⟩ := g1 g (by omega) D H0 ht
  obtain ⟨b1, b2⟩ := g2 g (by omega) D H0 a1
  have h3 : (decide (mNp q2 + 1 ≤ S.length) && decide (so = 0) && decide (x_rc ot (zMx D H0 H) a = some (mRc q2)) && decide (r.length ≤ 8) && decide (mNp q2 + 1 ≤ mL q2) && decide (cn + mMc q2 ≤ mMc q) && decide (sn + mMs q2 ≤ mMs q)) = true := by
    simp only [Bool.and_eq_true, decide_eq_true_eq] at h1 ⊢
    exact ⟨⟨⟨⟨⟨⟨h1.1.1.1.1.1.1, h1.1.1.1.1.1.2⟩, zRc H0 ht h1.1.1.1.1.2⟩, h1.1.1.1.2⟩, h1.1.1.2⟩, h1.1.2⟩, h1.2⟩
  refine ⟨b1, fun w post => ?_⟩
  simp only [x_run, hq, hi, hc, hm, hd, h3, if_true]
  rw [a2]
  exact b2 w post
theorem xT_invokespecial {ix j so : Nat} {a : Nat} {q2 : XM} {r : List (XV Int32)} {u : Option (XV Int32)} {H1 : List (XC Int32)} (hq : tMth tb k = some q) (hi : mC q pc = some (.invokespecial ix, n)) (hb : tBi tb (mO q) ix = none) (hc : tCal tb (mO q) ix = some (j, so)) (hm : tMth tb j = some q2) (hd : S.drop (mNp q2) = .inr (some a) :: r) (h1 : (decide (mNp q2 + 1 ≤ S.length) && decide (so = 1) && decide (r.length ≤ 8) && decide (mNp q2 + 1 ≤ mL q2) && decide (cn + mMc q2 ≤ mMc q) && decide (sn + mMs q2 ≤ mMs q)) = true) (g1 : x_To tb tyl ot dp j 0 (x_en 0 (.inr (some a) :: (S.take (mNp q2)).reverse)) [] H 0 0 u H1) (g2 : x_To tb tyl ot (dp + 1) k (pc + 3) L (x_push u r) H1 (cn + mMc q2) (sn + mMs q2) v H2) : x_To tb tyl ot (dp + 1) k pc L S H cn sn v H2 := by
  obtain ⟨f1, g1⟩ := g1
  obtain ⟨f2, g2⟩ := g2
  refine ⟨f1 + f2 + 1, fun f hf D H0 ht => ?_⟩
  obtain ⟨g, rfl⟩ : ∃ g, f = g + 1 := ⟨f - 1, by omega⟩
  obtain ⟨a1, a2⟩ := g1 g (by omega) D H0 ht
  obtain ⟨b1, b2⟩ := g2 g (by omega) D H0 a1
  refine ⟨b1, fun w post => ?_⟩
  simp only [x_run, hq, hi, hb, hc, hm, hd, h1, if_true]
  rw [a2]
  exact b2 w post
theorem xT_ireturn {e : Int32} (hq : tMth tb k = some q) (hi : mC q pc = some (.ireturn, n)) (h1 : (x_retOk dC (mR q) (.inl e) && decide (cn ≤ mMc q) && decide (sn ≤ mMs q)) = true) : x_To tb tyl ot dp k pc L [.inl e] H cn sn (some (.inl e)) H := by
  refine ⟨1, fun f hf D H0 ht => ⟨ht, fun w post => ?_⟩⟩
  obtain ⟨g, rfl⟩ : ∃ g, f = g + 1 := ⟨f - 1, by omega⟩
  simp only [x_run, hq, hi, h1, if_true]
theorem xT_areturn {e : Option Nat} (hq : tMth tb k = some q) (hi : mC q pc = some (.areturn, n)) (h1 : (x_retOk dC (mR q) (.inr e) && decide (cn ≤ mMc q) && decide (sn ≤ mMs q)) = true) : x_To tb tyl ot dp k pc L [.inr e] H cn sn (some (.inr e)) H := by
  refine ⟨1, fun f hf D H0 ht => ⟨ht, fun w post => ?_⟩⟩
  obtain ⟨g, rfl⟩ : ∃ g, f = g + 1 := ⟨f - 1, by omega⟩
  simp only [x_run, hq, hi, h1, if_true]
theorem xT_return_ (hq : tMth tb k = some q) (hi : mC q pc = some (.return_, n)) (h1 : (decide (mR q = none) && decide (cn ≤ mMc q) && decide (sn ≤ mMs q)) = true) : x_To tb tyl ot dp k pc L [] H cn sn none H := by
  refine ⟨1, fun f hf D H0 ht => ⟨ht, fun w post => ?_⟩⟩
  obtain ⟨g, rfl⟩ : ∃ g, f = g + 1 := ⟨f - 1, by omega⟩
  simp only [x_run, hq, hi, h1, if_true]
end XTo
end
section
/-! Bounds of ints: of sums, products, rests. -/
section XIv
abbrev vIn (p : Int × Int) (x : Int32) : Prop := p.1 ≤ x.toInt ∧ x.toInt ≤ p.2
def vTop : Int × Int := (-2147483648, 2147483647)
def vCl (lo hi : Int) : Int × Int := if -2147483648 ≤ lo ∧ hi ≤ 2147483647 then (lo, hi) else vTop
def vMeet (p q : Int × Int) : Int × Int := (if p.1 ≤ q.1 then q.1 else p.1, if p.2 ≤ q.2 then p.2 else q.2)
theorem vTop_spec (x : Int32) : vIn vTop x := by
  have h1 := Int32.le_toInt x
  have h2 := Int32.toInt_lt x
  constructor
  · show (-2147483648 : Int) ≤ x.toInt
    omega
  · show x.toInt ≤ (2147483647 : Int)
    omega
theorem vMeet_spec {p q : Int × Int} {x : Int32} (h1 : vIn p x) (h2 : vIn q x) : vIn (vMeet p q) x := by
  unfold vMeet
  constructor
  · show (if p.1 ≤ q.1 then q.1 else p.1) ≤ x.toInt
    split
    · exact h2.1
    · exact h1.1
  · show x.toInt ≤ (if p.2 ≤ q.2 then p.2 else q.2)
    split
    · exact h1.2
    · exact h2.2
theorem vBm {n : Int} (h1 : -2147483648 ≤ n) (h2 : n ≤ 2147483647) : n.bmod (2 ^ 32) = n := Int.bmod_eq_of_le (by simp; omega) (by simp; omega)
theorem vCl_spec {lo hi n : Int} {x : Int32} (h1 : lo ≤ n) (h2 : n ≤ hi) (hx : x.toInt = n.bmod (2 ^ 32)) : vIn (vCl lo hi) x := by
  unfold vCl
  split
  · rename_i h
    rw [vBm (by omega) (by omega)] at hx
    exact ⟨by rw [hx]; exact h1, by rw [hx]; exact h2⟩
  · exact vTop_spec x
theorem vAnd {x y : Int32} (h : 0 ≤ y.toInt) : 0 ≤ (x &&& y).toInt ∧ (x &&& y).toInt ≤ y.toInt := by
  have e1 : (x &&& y).toInt = (x.toBitVec &&& y.toBitVec).toInt := rfl
  have e2 : y.toInt = y.toBitVec.toInt := rfl
  have m1 : y.toBitVec.msb = false := by
    rw [BitVec.msb_eq_toInt]
    exact decide_eq_false (by rw [← e2]; omega)
  have m2 : (x.toBitVec &&& y.toBitVec).msb = false := by
    rw [BitVec.msb_and, m1, Bool.and_false]
  rw [e1, e2, BitVec.toInt_eq_toNat_of_msb m1, BitVec.toInt_eq_toNat_of_msb m2, BitVec.toNat_and]
  have := @Nat.and_le_right x.toBitVec.toNat y.toBitVec.toNat
  omega
theorem vAnd2 {x y : Int32} (h : 0 ≤ x.toInt) : 0 ≤ (x &&& y).toInt ∧ (x &&& y).toInt ≤ x.toInt := by
  have e : x &&& y = y &&& x := Int32.and_comm x y
  rw [e]
  exact vAnd h
theorem vRem {x y : Int32} (h : 0 < y.toInt) : (x - x / y * y).toInt = x.toInt.tmod y.toInt := by
  have hy : y ≠ -1 := fun e => by
    rw [e] at h
    revert h
    decide
  have h1 := Int.tmod_lt_of_pos x.toInt h
  have h2 := Int.lt_tmod_of_pos x.toInt h
  have h3 := Int32.toInt_lt y
  rw [Int32.toInt_sub, Int32.toInt_mul, Int32.toInt_div_of_ne_right _ _ hy, Int.sub_bmod_bmod]
  have e : x.toInt - x.toInt.tdiv y.toInt * y.toInt = x.toInt.tmod y.toInt := by
    rw [Int.tmod_def, Int.mul_comm]
  rw [e]
  exact vBm (by omega) (by omega)
def vOp (o : Nat) (p q : Int × Int) : Int × Int :=
  if o = 0 then vCl (p.1 + q.1) (p.2 + q.2)
  else if o = 1 then vCl (p.1 - q.2) (p.2 - q.1)
  else if o = 2 then (if 0 ≤ p.1 ∧ 0 ≤ q.1 then vCl (p.1 * q.1) (p.2 * q.2) else vTop)
  else if o = 3 then (if 0 ≤ q.1 then (0, q.2) else if 0 ≤ p.1 then (0, p.2) else vTop)
  else if o = 9 then (if 0 < q.1 then (if 0 ≤ p.1 then 0 else 1 - q.2, q.2 - 1) else vTop)
  else vTop
theorem vOp_spec {o : Nat} {p q : Int × Int} {x y : Int32} (hp : vIn p x) (hq : vIn q y) : vIn (vOp o p q) (x_bin o x y) := by
  obtain ⟨p1, p2⟩ := hp
  obtain ⟨q1, q2⟩ := hq
  unfold vOp
  split
  · rename_i h
    subst h
    exact vCl_spec (n := x.toInt + y.toInt) (by omega) (by omega) (Int32.toInt_add x y)
  split
  · rename_i h
    subst h
    exact vCl_spec (n := x.toInt - y.toInt) (by omega) (by omega) (Int32.toInt_sub x y)
  split
  · rename_i h
    subst h
    split
    · rename_i hh
      exact vCl_spec (n := x.toInt * y.toInt) (Int.mul_le_mul p1 q1 hh.2 (by omega)) (Int.mul_le_mul p2 q2 (by omega) (by omega)) (Int32.toInt_mul x y)
    · exact vTop_spec _
  split
  · rename_i h
    subst h
    split
    · rename_i hh
      have h1 := vAnd (x := x) (y := y) (by omega)
      exact ⟨h1.1, Int.le_trans h1.2 q2⟩
    split
    · rename_i hh
      have h1 := vAnd2 (x := x) (y := y) (by omega)
      exact ⟨h1.1, Int.le_trans h1.2 p2⟩
    · exact vTop_spec _
  split
  · rename_i h
    subst h
    split
    · rename_i hh
      have hy : 0 < y.toInt := by omega
      have h1 := Int.tmod_lt_of_pos x.toInt hy
      have h2 := Int.lt_tmod_of_pos x.toInt hy
      have e : (x_bin 9 x y).toInt = x.toInt.tmod y.toInt := vRem hy
      constructor
      · show (if 0 ≤ p.1 then 0 else 1 - q.2) ≤ (x_bin 9 x y).toInt
        rw [e]
        split
        · exact Int.tmod_nonneg _ (by omega)
        · omega
      · show (x_bin 9 x y).toInt ≤ q.2 - 1
        rw [e]
        omega
    · exact vTop_spec _
  · exact vTop_spec _
end XIv
end
section
/-! Kinds of cells: what a heap of known kinds keeps. -/
section XKinds
/-- what a field or an element may be: an int between two bounds, or a cell of a kind (null too, or not) -/
abbrev vF : Type := (Int × Int) ⊕ (Bool × Nat)
/-- a kind: an object of a class with its fields, or an array: type, length, elements (by the rest of their place) -/
abbrev vKd : Type := (Nat × List vF) ⊕ (Nat × Nat × List vF)
def vEl (fs : List vF) (j : Nat) : Option vF := fs[j % fs.length]?
def vFit (ty : Nat → Option Nat) : vF → XV Int32 → Prop
  | .inl p, .inl x => vIn p x
  | .inr p, .inr none => p.1 = true
  | .inr p, .inr (some a) => ty a = some p.2
  | _, _ => False
def vCell (ty : Nat → Option Nat) : vKd → XC Int32 → Prop
  | .inl o, .inl z => z.1 = o.1 ∧ z.2.length = o.2.length ∧ ∀ (j : Nat) (f : vF) (u : XV Int32), o.2[j]? = some f → z.2[j]? = some u → vFit ty f u
  | .inr o, .inr z => z.1 = o.1 ∧ z.2.length = o.2.1 ∧ ∀ (j : Nat) (f : vF) (u : XV Int32), vEl o.2.2 j = some f → z.2[j]? = some u → vFit ty f u
  | _, _ => False
def vHp (KT : Nat → Option vKd) (ty : Nat → Option Nat) (H : List (XC Int32)) : Prop := ∀ (a c : Nat), ty a = some c → ∃ kd z, KT c = some kd ∧ H[a]? = some z ∧ vCell ty kd z
theorem vHp_lt {KT : Nat → Option vKd} {ty : Nat → Option Nat} {H : List (XC Int32)} (h : vHp KT ty H) {a c : Nat} (ha : ty a = some c) : a < H.length := by
  obtain ⟨kd, z, -, h2, -⟩ := h a c ha
  exact (List.getElem?_eq_some_iff.mp h2).1
theorem vHp_obj {KT : Nat → Option vKd} {ty : Nat → Option Nat} {H : List (XC Int32)} (h : vHp KT ty H) {a c ci : Nat} {fl : List vF} (ha : ty a = some c) (hk : KT c = some (.inl (ci, fl))) :
    ∃ fs, H[a]? = some (.inl (ci, fs)) ∧ fs.length = fl.length ∧ ∀ (j : Nat) (f : vF), fl[j]? = some f → ∃ u, fs[j]? = some u ∧ vFit ty f u := by
  obtain ⟨kd, z, h1, h2, h3⟩ := h a c ha
  rw [hk] at h1
  cases h1
  rcases z with ⟨ci2, fs⟩ | z
  · obtain ⟨e, h4, h5⟩ := h3
    have e : ci2 = ci := e
    subst e
    refine ⟨fs, h2, h4, fun j f hf => ?_⟩
    have hj := (List.getElem?_eq_some_iff.mp hf).1
    have h4 : fs.length = fl.length := h4
    have hu : fs[j]? = some (fs[j]'(by omega)) := List.getElem?_eq_getElem (by omega)
    exact ⟨_, hu, h5 j f _ hf hu⟩
  · exact h3.elim
theorem vHp_arr {KT : Nat → Option vKd} {ty : Nat → Option Nat} {H : List (XC Int32)} (h : vHp KT ty H) {a c t m : Nat} {f : List vF} (ha : ty a = some c) (hk : KT c = some (.inr (t, m, f))) :
    ∃ vs, H[a]? = some (.inr (t, vs)) ∧ vs.length = m ∧ ∀ (j : Nat) (g : vF), j < m → vEl f j = some g → ∃ u, vs[j]? = some u ∧ vFit ty g u := by
  obtain ⟨kd, z, h1, h2, h3⟩ := h a c ha
  rw [hk] at h1
  cases h1
  rcases z with z | ⟨t2, vs⟩
  · exact h3.elim
  · obtain ⟨e, h4, h5⟩ := h3
    have e : t2 = t := e
    subst e
    have h4 : vs.length = m := h4
    refine ⟨vs, h2, h4, fun j g hj hg => ?_⟩
    have hu : vs[j]? = some (vs[j]'(by omega)) := List.getElem?_eq_getElem (by omega)
    exact ⟨_, hu, h5 j g _ hg hu⟩
theorem vHp_set {KT : Nat → Option vKd} {ty : Nat → Option Nat} {H : List (XC Int32)} (h : vHp KT ty H) {a c : Nat} {kd : vKd} {z : XC Int32} (ha : ty a = some c) (hk : KT c = some kd) (hz : vCell ty kd z) : vHp KT ty (H.set a z) := by
  intro b d hb
  obtain ⟨kd2, z2, h1, h2, h3⟩ := h b d hb
  by_cases e : a = b
  · subst e
    rw [ha] at hb
    cases hb
    exact ⟨kd, z, hk, List.getElem?_set_self (vHp_lt h ha), hz⟩
  · exact ⟨kd2, z2, h1, by rw [List.getElem?_set_ne e]; exact h2, h3⟩
theorem vHp_put {KT : Nat → Option vKd} {ty : Nat → Option Nat} {H : List (XC Int32)} (h : vHp KT ty H) {a c ci j : Nat} {fl : List vF} {fs : List (XV Int32)} {f : vF} {u : XV Int32} (ha : ty a = some c) (hk : KT c = some (.inl (ci, fl))) (hH : H[a]? = some (.inl (ci, fs))) (hf : fl[j]? = some f) (hu : vFit ty f u) : vHp KT ty (H.set a (.inl (ci, fs.set j u))) := by
  refine vHp_set h ha hk ?_
  obtain ⟨kd, z, h1, h2, h3⟩ := h a c ha
  rw [hk] at h1
  cases h1
  rw [hH] at h2
  cases h2
  obtain ⟨-, h4, h5⟩ := h3
  refine ⟨rfl, ?_, ?_⟩
  · show (fs.set j u).length = fl.length
    rw [List.length_set]
    exact h4
  · intro i g x hg hx
    have hx : (fs.set j u)[i]? = some x := hx
    have hg : fl[i]? = some g := hg
    by_cases e : j = i
    · subst e
      have hj := (List.getElem?_eq_some_iff.mp hf).1
      have h4 : fs.length = fl.length := h4
      rw [List.getElem?_set_self (by omega)] at hx
      cases hx
      rw [hf] at hg
      cases hg
      exact hu
    · rw [List.getElem?_set_ne e] at hx
      exact h5 i g x hg hx
theorem vHp_sto {KT : Nat → Option vKd} {ty : Nat → Option Nat} {H : List (XC Int32)} (h : vHp KT ty H) {a c t m j : Nat} {f : List vF} {g : vF} {vs : List (XV Int32)} {u : XV Int32} (ha : ty a = some c) (hk : KT c = some (.inr (t, m, f))) (hH : H[a]? = some (.inr (t, vs))) (hg : vEl f j = some g) (hu : vFit ty g u) : vHp KT ty (H.set a (.inr (t, vs.set j u))) := by
  refine vHp_set h ha hk ?_
  obtain ⟨kd, z, h1, h2, h3⟩ := h a c ha
  rw [hk] at h1
  cases h1
  rw [hH] at h2
  cases h2
  obtain ⟨-, h4, h5⟩ := h3
  refine ⟨rfl, ?_, ?_⟩
  · show (vs.set j u).length = m
    rw [List.length_set]
    exact h4
  · intro i g2 x hg2 hx
    have hx : (vs.set j u)[i]? = some x := hx
    by_cases e : j = i
    · subst e
      rw [List.getElem?_set] at hx
      split at hx
      · split at hx
        · cases hx
          have hg2 : vEl f j = some g2 := hg2
          rw [hg] at hg2
          cases hg2
          exact hu
        · cases hx
      · exact h5 j g2 x hg2 hx
    · rw [List.getElem?_set_ne e] at hx
      exact h5 i g2 x hg2 hx
theorem vHp_cpy {KT : Nat → Option vKd} {ty : Nat → Option Nat} {H : List (XC Int32)} (h : vHp KT ty H) {a b c e t m n : Nat} {f : List vF} {us vs : List (XV Int32)} {i j k : Nat} (ha : ty a = some c) (hk : KT c = some (.inr (t, m, f))) (hH : H[a]? = some (.inr (t, vs))) (hb : ty b = some e) (he : KT e = some (.inr (t, n, f))) (hB : H[b]? = some (.inr (t, us)))
    (hi : i + k ≤ us.length) (hj : j + k ≤ vs.length) (hij : i % f.length = j % f.length) : vHp KT ty (H.set a (.inr (t, vs.take j ++ (us.drop i).take k ++ vs.drop (j + k)))) := by
  refine vHp_set h ha hk ?_
  obtain ⟨kd, z, h1, h2, h3⟩ := h a c ha
  rw [hk] at h1
  cases h1
  rw [hH] at h2
  cases h2
  obtain ⟨-, h4, h5⟩ := h3
  obtain ⟨kd, z, h1, h2, h3⟩ := h b e hb
  rw [he] at h1
  cases h1
  rw [hB] at h2
  cases h2
  obtain ⟨-, h6, h7⟩ := h3
  have h4 : vs.length = m := h4
  refine ⟨rfl, ?_, ?_⟩
  · show (vs.take j ++ (us.drop i).take k ++ vs.drop (j + k)).length = m
    simp only [List.length_append, List.length_take, List.length_drop]
    omega
  · intro l g x hg hx
    have hx : (vs.take j ++ (us.drop i).take k ++ vs.drop (j + k))[l]? = some x := hx
    by_cases c1 : l < j
    · rw [List.append_assoc, List.getElem?_append_left (by rw [List.length_take]; omega), List.getElem?_take_of_lt c1] at hx
      exact h5 l g x hg hx
    by_cases c2 : l < j + k
    · rw [List.append_assoc, List.getElem?_append_right (by rw [List.length_take]; omega), List.getElem?_append_left (by rw [List.length_take, List.length_take, List.length_drop]; omega), List.length_take, Nat.min_eq_left (by omega), List.getElem?_take_of_lt (by omega), List.getElem?_drop] at hx
      refine h7 _ g x ?_ hx
      show vEl f (i + (l - j)) = some g
      have hg : vEl f l = some g := hg
      unfold vEl at hg ⊢
      have e1 : (i + (l - j)) % f.length = l % f.length := by
        rw [Nat.add_mod, hij, ← Nat.add_mod]
        congr 1
        omega
      rw [e1]
      exact hg
    · rw [List.append_assoc, List.getElem?_append_right (by rw [List.length_take]; omega), List.getElem?_append_right (by rw [List.length_take, List.length_take, List.length_drop]; omega), List.getElem?_drop] at hx
      simp only [List.length_take, List.length_drop] at hx
      have e1 : j + k + (l - min j vs.length - min k (us.length - i)) = l := by omega
      rw [e1] at hx
      exact h5 l g x hg hx
/-- kinds may be added -/
def vLe (ty ty2 : Nat → Option Nat) : Prop := ∀ a c, ty a = some c → ty2 a = some c
theorem vFit_le {ty ty2 : Nat → Option Nat} (h : vLe ty ty2) {f : vF} {u : XV Int32} (hu : vFit ty f u) : vFit ty2 f u := by
  rcases f with p | p <;> rcases u with x | (_ | a)
  · exact hu
  · exact hu.elim
  · exact hu.elim
  · exact hu.elim
  · exact hu
  · exact h a _ hu
theorem vCell_le {ty ty2 : Nat → Option Nat} (h : vLe ty ty2) {kd : vKd} {z : XC Int32} (hz : vCell ty kd z) : vCell ty2 kd z := by
  rcases kd with o | o <;> rcases z with z | z
  · exact ⟨hz.1, hz.2.1, fun j f u h1 h2 => vFit_le h (hz.2.2 j f u h1 h2)⟩
  · exact hz.elim
  · exact hz.elim
  · exact ⟨hz.1, hz.2.1, fun j f u h0 h1 => vFit_le h (hz.2.2 j f u h0 h1)⟩
def vAdd (ty : Nat → Option Nat) (a c : Nat) : Nat → Option Nat := fun b => if b = a then some c else ty b
theorem vHp_new {KT : Nat → Option vKd} {ty : Nat → Option Nat} {H : List (XC Int32)} (h : vHp KT ty H) {c : Nat} {kd : vKd} {z : XC Int32} (hk : KT c = some kd) (hz : vCell (vAdd ty H.length c) kd z) : vLe ty (vAdd ty H.length c) ∧ vHp KT (vAdd ty H.length c) (H ++ [z]) := by
  have hle : vLe ty (vAdd ty H.length c) := by
    intro a d ha
    have := vHp_lt h ha
    unfold vAdd
    rw [if_neg (by omega)]
    exact ha
  refine ⟨hle, fun b d hb => ?_⟩
  by_cases e : b = H.length
  · subst e
    have hb : (if H.length = H.length then some c else ty H.length) = some d := hb
    rw [if_pos rfl] at hb
    cases hb
    exact ⟨kd, z, hk, by rw [List.getElem?_append_right (Nat.le_refl _), Nat.sub_self]; rfl, hz⟩
  · have hb : (if b = H.length then some c else ty b) = some d := hb
    rw [if_neg e] at hb
    obtain ⟨kd2, z2, h1, h2, h3⟩ := h b d hb
    exact ⟨kd2, z2, h1, by rw [List.getElem?_append_left (vHp_lt h hb)]; exact h2, vCell_le hle h3⟩
end XKinds
end
section
/-! Sums over unknowns with whole coefficients, and their bounds. -/
section XLin
/-- a constant, and unknowns with their coefficients -/
abbrev lT : Type := Int × List (Nat × Int)
def lS (ρ : Nat → Int) : List (Nat × Int) → Int
  | [] => 0
  | p :: r => p.2 * ρ p.1 + lS ρ r
def lEv (ρ : Nat → Int) (l : lT) : Int := l.1 + lS ρ l.2
def lK (n : Int) : lT := (n, [])
def lSy (i : Nat) : lT := (0, [(i, 1)])
def lIns (s : Nat) (c : Int) : List (Nat × Int) → List (Nat × Int)
  | [] => [(s, c)]
  | p :: r => if s = p.1 then (if c + p.2 = 0 then r else (s, c + p.2) :: r) else if p.1 < s then (s, c) :: p :: r else p :: lIns s c r
def lMrg : List (Nat × Int) → List (Nat × Int) → List (Nat × Int)
  | [], b => b
  | p :: r, b => lIns p.1 p.2 (lMrg r b)
def lAdd (a b : lT) : lT := (a.1 + b.1, lMrg a.2 b.2)
def lScs (k : Int) : List (Nat × Int) → List (Nat × Int)
  | [] => []
  | p :: r => (p.1, k * p.2) :: lScs k r
def lSc (k : Int) (a : lT) : lT := if k = 0 then lK 0 else (k * a.1, lScs k a.2)
def lSub (a b : lT) : lT := lAdd a (lSc (-1) b)
theorem lK_ev (ρ : Nat → Int) (n : Int) : lEv ρ (lK n) = n := Int.add_zero n
theorem lSy_ev (ρ : Nat → Int) (i : Nat) : lEv ρ (lSy i) = ρ i := by
  show 0 + (1 * ρ i + 0) = ρ i
  omega
theorem lIns_ev (ρ : Nat → Int) (s : Nat) (c : Int) : ∀ r, lS ρ (lIns s c r) = c * ρ s + lS ρ r
  | [] => rfl
  | p :: r => by
    unfold lIns
    split
    · rename_i h
      have e : p.2 * ρ p.1 = p.2 * ρ s := by rw [h]
      have d : (c + p.2) * ρ s = c * ρ s + p.2 * ρ s := Int.add_mul _ _ _
      split
      · rename_i h2
        rw [h2, Int.zero_mul] at d
        show lS ρ r = c * ρ s + (p.2 * ρ p.1 + lS ρ r)
        omega
      · show (c + p.2) * ρ s + lS ρ r = c * ρ s + (p.2 * ρ p.1 + lS ρ r)
        omega
    split
    · rfl
    · have ih := lIns_ev ρ s c r
      show p.2 * ρ p.1 + lS ρ (lIns s c r) = c * ρ s + (p.2 * ρ p.1 + lS ρ r)
      omega
theorem lMrg_ev (ρ : Nat → Int) (b : List (Nat × Int)) : ∀ a, lS ρ (lMrg a b) = lS ρ a + lS ρ b
  | [] => (Int.zero_add _).symm
  | p :: r => by
    have ih := lMrg_ev ρ b r
    show lS ρ (lIns p.1 p.2 (lMrg r b)) = p.2 * ρ p.1 + lS ρ r + lS ρ b
    rw [lIns_ev]
    omega
theorem lAdd_ev (ρ : Nat → Int) (a b : lT) : lEv ρ (lAdd a b) = lEv ρ a + lEv ρ b := by
  show a.1 + b.1 + lS ρ (lMrg a.2 b.2) = a.1 + lS ρ a.2 + (b.1 + lS ρ b.2)
  rw [lMrg_ev]
  omega
theorem lScs_ev (ρ : Nat → Int) (k : Int) : ∀ a, lS ρ (lScs k a) = k * lS ρ a
  | [] => (Int.mul_zero k).symm
  | p :: r => by
    have ih := lScs_ev ρ k r
    show k * p.2 * ρ p.1 + lS ρ (lScs k r) = k * (p.2 * ρ p.1 + lS ρ r)
    rw [ih, Int.mul_add, Int.mul_assoc]
theorem lSc_ev (ρ : Nat → Int) (k : Int) (a : lT) : lEv ρ (lSc k a) = k * lEv ρ a := by
  unfold lSc
  split
  · rename_i h
    rw [h, lK_ev, Int.zero_mul]
  · show k * a.1 + lS ρ (lScs k a.2) = k * (a.1 + lS ρ a.2)
    rw [lScs_ev, Int.mul_add]
theorem lSub_ev (ρ : Nat → Int) (a b : lT) : lEv ρ (lSub a b) = lEv ρ a - lEv ρ b := by
  show lEv ρ (lAdd a (lSc (-1) b)) = _
  rw [lAdd_ev, lSc_ev]
  omega
/-- equal as they stand -/
def lEqs : List (Nat × Int) → List (Nat × Int) → Bool
  | [], [] => true
  | p :: r, q :: t => decide (p.1 = q.1) && decide (p.2 = q.2) && lEqs r t
  | _, _ => false
def lEq (a b : lT) : Bool := decide (a.1 = b.1) && lEqs a.2 b.2
theorem lEqs_spec : ∀ {a b : List (Nat × Int)}, lEqs a b = true → a = b
  | [], [], _ => rfl
  | [], _ :: _, h => by cases h
  | _ :: _, [], h => by cases h
  | p :: r, q :: t, h => by
    have h1 := Bool.and_eq_true_iff.mp h
    have h2 := Bool.and_eq_true_iff.mp h1.1
    have e : p = q := Prod.ext (of_decide_eq_true h2.1) (of_decide_eq_true h2.2)
    rw [e, lEqs_spec h1.2]
theorem lEq_spec {a b : lT} (h : lEq a b = true) : a = b := by
  have h1 := Bool.and_eq_true_iff.mp h
  exact Prod.ext (of_decide_eq_true h1.1) (lEqs_spec h1.2)
/-- only unknowns below n -/
def lBds (n : Nat) : List (Nat × Int) → Bool
  | [] => true
  | p :: r => decide (p.1 < n) && lBds n r
def lBd (n : Nat) (l : lT) : Bool := lBds n l.2
theorem lBds_spec {n : Nat} {ρ ρ2 : Nat → Int} (h : ∀ i, i < n → ρ2 i = ρ i) : ∀ l, lBds n l = true → lS ρ2 l = lS ρ l
  | [], _ => rfl
  | p :: r, hb => by
    have h1 := Bool.and_eq_true_iff.mp hb
    show p.2 * ρ2 p.1 + lS ρ2 r = p.2 * ρ p.1 + lS ρ r
    rw [h p.1 (of_decide_eq_true h1.1), lBds_spec h r h1.2]
theorem lBd_spec {n : Nat} {ρ ρ2 : Nat → Int} (h : ∀ i, i < n → ρ2 i = ρ i) {l : lT} (hb : lBd n l = true) : lEv ρ2 l = lEv ρ l := by
  show l.1 + lS ρ2 l.2 = l.1 + lS ρ l.2
  rw [lBds_spec h l.2 hb]
/-- bounds of the unknowns: a list, the newest first -/
abbrev lI : Type := List (Nat × Int × Int)
def iHd (ρ : Nat → Int) (I : lI) : Prop := ∀ q ∈ I, q.2.1 ≤ ρ q.1 ∧ ρ q.1 ≤ q.2.2
def iLk : lI → Nat → Option (Int × Int)
  | [], _ => none
  | q :: r, i => if q.1 = i then some q.2 else iLk r i
theorem iLk_spec {ρ : Nat → Int} {i : Nat} {p : Int × Int} : ∀ {I : lI}, iHd ρ I → iLk I i = some p → p.1 ≤ ρ i ∧ ρ i ≤ p.2
  | [], _, h => by cases h
  | q :: r, hI, h => by
    unfold iLk at h
    split at h
    · rename_i e
      cases h
      rw [← e]
      exact hI q List.mem_cons_self
    · exact iLk_spec (fun z hz => hI z (List.mem_cons_of_mem _ hz)) h
def lRg (I : lI) : List (Nat × Int) → Option (Int × Int)
  | [] => some (0, 0)
  | p :: r => match iLk I p.1 with
    | none => none
    | some q => match lRg I r with
      | none => none
      | some t => some (if 0 ≤ p.2 then (p.2 * q.1 + t.1, p.2 * q.2 + t.2) else (p.2 * q.2 + t.1, p.2 * q.1 + t.2))
theorem lRg_spec {ρ : Nat → Int} {I : lI} (hI : iHd ρ I) : ∀ {l : List (Nat × Int)} {t : Int × Int}, lRg I l = some t → t.1 ≤ lS ρ l ∧ lS ρ l ≤ t.2
  | [], t, h => by
    cases h
    exact ⟨Int.le_refl _, Int.le_refl _⟩
  | p :: r, t, h => by
    unfold lRg at h
    split at h
    · cases h
    rename_i q hq
    split at h
    · cases h
    rename_i u hu
    have h1 := iLk_spec hI hq
    have h2 := lRg_spec hI hu
    cases h
    show (if 0 ≤ p.2 then _ else _ : Int × Int).1 ≤ p.2 * ρ p.1 + lS ρ r ∧ p.2 * ρ p.1 + lS ρ r ≤ (if 0 ≤ p.2 then _ else _ : Int × Int).2
    split
    · rename_i hp
      have a1 := Int.mul_le_mul_of_nonneg_left h1.1 hp
      have a2 := Int.mul_le_mul_of_nonneg_left h1.2 hp
      constructor
      · show p.2 * q.1 + u.1 ≤ _
        omega
      · show _ ≤ p.2 * q.2 + u.2
        omega
    · rename_i hp
      have a1 := Int.mul_le_mul_of_nonpos_left (a := p.2) (show p.2 ≤ 0 by omega) h1.1
      have a2 := Int.mul_le_mul_of_nonpos_left (a := p.2) (show p.2 ≤ 0 by omega) h1.2
      constructor
      · show p.2 * q.2 + u.1 ≤ _
        omega
      · show _ ≤ p.2 * q.1 + u.2
        omega
def lRn (I : lI) (l : lT) : Option (Int × Int) := match lRg I l.2 with
  | none => none
  | some t => some (l.1 + t.1, l.1 + t.2)
theorem lRn_spec {ρ : Nat → Int} {I : lI} (hI : iHd ρ I) {l : lT} {t : Int × Int} (h : lRn I l = some t) : t.1 ≤ lEv ρ l ∧ lEv ρ l ≤ t.2 := by
  unfold lRn at h
  split at h
  · cases h
  rename_i u hu
  have h1 := lRg_spec hI hu
  cases h
  show l.1 + u.1 ≤ l.1 + lS ρ l.2 ∧ l.1 + lS ρ l.2 ≤ l.1 + u.2
  omega
/-- an int, as it is -/
def iFit (t : Int × Int) : Bool := decide (-2147483648 ≤ t.1) && decide (t.2 ≤ 2147483647)
theorem ofInt_toInt {n : Int} (h1 : -2147483648 ≤ n) (h2 : n ≤ 2147483647) : (Int32.ofInt n).toInt = n := by
  rw [Int32.toInt_ofInt]
  exact vBm h1 h2
def lFit (I : lI) (l : lT) : Bool := match lRn I l with
  | none => false
  | some t => iFit t
theorem lFit_spec {ρ : Nat → Int} {I : lI} (hI : iHd ρ I) {l : lT} (h : lFit I l = true) : (Int32.ofInt (lEv ρ l)).toInt = lEv ρ l := by
  unfold lFit at h
  split at h
  · cases h
  rename_i t ht
  have h1 := lRn_spec hI ht
  have h2 := Bool.and_eq_true_iff.mp h
  have h3 := of_decide_eq_true h2.1
  have h4 := of_decide_eq_true h2.2
  exact ofInt_toInt (by omega) (by omega)
/-- bounds of the int that a sum is -/
def vR (I : lI) (l : lT) : Int × Int := match lRn I l with
  | none => vTop
  | some t => if iFit t then t else vTop
theorem vR_spec {ρ : Nat → Int} {I : lI} (hI : iHd ρ I) (l : lT) : vIn (vR I l) (Int32.ofInt (lEv ρ l)) := by
  unfold vR
  split
  · exact vTop_spec _
  · rename_i t ht
    split
    · rename_i hf
      have h1 := lRn_spec hI ht
      have h2 := Bool.and_eq_true_iff.mp hf
      have h3 := of_decide_eq_true h2.1
      have h4 := of_decide_eq_true h2.2
      have e := ofInt_toInt (n := lEv ρ l) (by omega) (by omega)
      constructor
      · rw [e]
        exact h1.1
      · rw [e]
        exact h1.2
    · exact vTop_spec _
/-- is a sum surely not below 0 -/
def lGe (I : lI) (C : List lT) (e : lT) : Bool := match lRn I e with
  | none => false
  | some t => decide (0 ≤ t.1) || C.any (fun c => match lRn I (lSub e c) with
    | none => false
    | some q => decide (0 ≤ q.1))
theorem lGe_spec {ρ : Nat → Int} {I : lI} (hI : iHd ρ I) {C : List lT} (hC : ∀ c ∈ C, 0 ≤ lEv ρ c) {e : lT} (h : lGe I C e = true) : 0 ≤ lEv ρ e := by
  unfold lGe at h
  split at h
  · cases h
  rename_i t ht
  have h1 := lRn_spec hI ht
  rcases Bool.or_eq_true_iff.mp h with h | h
  · have := of_decide_eq_true h
    omega
  · obtain ⟨c, hc, h⟩ := List.any_eq_true.mp h
    have h2 := hC c hc
    split at h
    · cases h
    rename_i q hq
    have h3 := lRn_spec hI hq
    rw [lSub_ev] at h3
    have := of_decide_eq_true h
    omega
/-- what e ≥ 0 says of its unknowns; top: the most that e may be; none: e is below 0 -/
def iRefs (I0 : lI) (top : Int) : List (Nat × Int) → lI → Option lI
  | [], I => some I
  | p :: r, I => match iLk I0 p.1 with
    | none => iRefs I0 top r I
    | some q => if 0 < p.2 then (if q.1 < q.2 - top / p.2 then (if q.2 < q.2 - top / p.2 then none else iRefs I0 top r ((p.1, q.2 - top / p.2, q.2) :: I)) else iRefs I0 top r I)
      else if p.2 < 0 then (if q.1 + top / (-p.2) < q.2 then (if q.1 + top / (-p.2) < q.1 then none else iRefs I0 top r ((p.1, q.1, q.1 + top / (-p.2)) :: I)) else iRefs I0 top r I)
      else iRefs I0 top r I
/-- how far an unknown is from where the sum is most -/
def iGap (ρ : Nat → Int) (q : Int × Int) (p : Nat × Int) : Int := if 0 ≤ p.2 then p.2 * (q.2 - ρ p.1) else p.2 * (q.1 - ρ p.1)
theorem iGap_spec {ρ : Nat → Int} {I : lI} (hI : iHd ρ I) : ∀ {l : List (Nat × Int)} {t : Int × Int}, lRg I l = some t → ∀ p ∈ l, ∀ q, iLk I p.1 = some q → iGap ρ q p ≤ t.2 - lS ρ l
  | [], _, _, _, hp, _, _ => by cases hp
  | p :: r, t, h, p2, hp, q2, hq2 => by
    unfold lRg at h
    split at h
    · cases h
    rename_i q hq
    split at h
    · cases h
    rename_i u hu
    have h1 := iLk_spec hI hq
    have h2 := lRg_spec hI hu
    have hg : t.2 - lS ρ (p :: r) = iGap ρ q p + (u.2 - lS ρ r) := by
      cases h
      show (if 0 ≤ p.2 then _ else _ : Int × Int).2 - (p.2 * ρ p.1 + lS ρ r) = _
      unfold iGap
      split
      · show p.2 * q.2 + u.2 - _ = _
        rw [Int.mul_sub]
        omega
      · show p.2 * q.1 + u.2 - _ = _
        rw [Int.mul_sub]
        omega
    have hn : ∀ (p : Nat × Int) (q : Int × Int), q.1 ≤ ρ p.1 ∧ ρ p.1 ≤ q.2 → 0 ≤ iGap ρ q p := fun p q hq => by
      unfold iGap
      split
      · rename_i h0
        exact Int.mul_nonneg h0 (by omega)
      · rename_i h0
        exact Int.mul_nonneg_of_nonpos_of_nonpos (by omega) (by omega)
    have hn1 := hn p q h1
    rcases List.mem_cons.mp hp with rfl | hp
    · rw [hq] at hq2
      cases hq2
      omega
    · have ih := iGap_spec hI hu p2 hp q2 hq2
      omega
theorem iRefs_spec {ρ : Nat → Int} {I0 : lI} (h0 : iHd ρ I0) {top : Int} (htop : 0 ≤ top) : ∀ {l : List (Nat × Int)} {I : lI}, (∀ p ∈ l, ∀ q, iLk I0 p.1 = some q → iGap ρ q p ≤ top) → iHd ρ I → ∃ I2, iRefs I0 top l I = some I2 ∧ iHd ρ I2
  | [], I, _, hI => ⟨I, rfl, hI⟩
  | p :: r, I, hg, hI => by
    have hr : ∀ p ∈ r, ∀ q, iLk I0 p.1 = some q → iGap ρ q p ≤ top := fun p2 hp => hg p2 (List.mem_cons_of_mem _ hp)
    unfold iRefs
    split
    · exact iRefs_spec h0 htop hr hI
    · rename_i q hq
      have h1 := hg p List.mem_cons_self q hq
      have h2 := iLk_spec h0 hq
      unfold iGap at h1
      split
      · rename_i hp
        rw [if_pos (Int.le_of_lt hp)] at h1
        have h3 : q.2 - ρ p.1 ≤ top / p.2 := (Int.le_ediv_iff_mul_le hp).mpr (by rw [Int.mul_comm]; exact h1)
        split
        · rw [if_neg (by omega)]
          refine iRefs_spec h0 htop hr (fun z hz => ?_)
          rcases List.mem_cons.mp hz with rfl | hz
          · show q.2 - top / p.2 ≤ ρ p.1 ∧ ρ p.1 ≤ q.2
            omega
          · exact hI z hz
        · exact iRefs_spec h0 htop hr hI
      split
      · rename_i hp0 hp
        rw [if_neg (by omega)] at h1
        have h4 : (ρ p.1 - q.1) * (-p.2) ≤ top := by
          have : p.2 * (q.1 - ρ p.1) = (ρ p.1 - q.1) * (-p.2) := by
            rw [Int.mul_neg, Int.mul_comm (ρ p.1 - q.1), ← Int.mul_neg]
            congr 1
            omega
          omega
        have h3 : ρ p.1 - q.1 ≤ top / (-p.2) := (Int.le_ediv_iff_mul_le (by omega)).mpr h4
        split
        · rw [if_neg (by omega)]
          refine iRefs_spec h0 htop hr (fun z hz => ?_)
          rcases List.mem_cons.mp hz with rfl | hz
          · show q.1 ≤ ρ p.1 ∧ ρ p.1 ≤ q.1 + top / (-p.2)
            omega
          · exact hI z hz
        · exact iRefs_spec h0 htop hr hI
      · exact iRefs_spec h0 htop hr hI
def iRef (I : lI) (e : lT) : Option lI := match lRn I e with
  | none => some I
  | some t => if t.2 < 0 then none else iRefs I t.2 e.2 I
theorem iRef_spec {ρ : Nat → Int} {I : lI} (hI : iHd ρ I) {e : lT} (he : 0 ≤ lEv ρ e) : ∃ I2, iRef I e = some I2 ∧ iHd ρ I2 := by
  unfold iRef
  split
  · exact ⟨I, rfl, hI⟩
  · rename_i t ht
    have h1 := lRn_spec hI ht
    rw [if_neg (by omega)]
    refine iRefs_spec hI (by omega) (fun p hp q hq => ?_) hI
    unfold lRn at ht
    split at ht
    · cases ht
    rename_i u hu
    have h2 := iGap_spec hI hu p hp q hq
    cases ht
    have he : 0 ≤ e.1 + lS ρ e.2 := he
    show iGap ρ q p ≤ e.1 + u.2
    omega
end XLin
end
section
/-! A state in symbols: ints by sums, cells by symbols of a kind, what is known of fields and elements. -/
section XState
abbrev vA : Type := XV lT
/-- a symbol's cell; from 1000000 on: what lies outside, itself -/
def sR (σ : Nat → Nat) (i : Nat) : Nat := if i < 1000000 then σ i else i
def cv (ρ : Nat → Int) (σ : Nat → Nat) : vA → XV Int32
  | .inl e => .inl (Int32.ofInt (lEv ρ e))
  | .inr none => .inr none
  | .inr (some i) => .inr (some (sR σ i))
/-- what is known of the locals -/
def vCov (ρ : Nat → Int) (σ : Nat → Nat) (L : List (Nat × vA)) (Lc : List (Nat × XV Int32)) : Prop := ∀ j v, x_lk L j = some v → x_lk Lc j = some (cv ρ σ v)
theorem x_lk_st {E : Type} (L : List (Nat × XV E)) (i j : Nat) (v : XV E) : x_lk (x_st L i v) j = if i = j then some v else x_lk L j := by
  unfold x_lk x_st
  by_cases h : i = j
  · rw [if_pos h, List.find?_cons_of_pos (by simpa using h)]
    rfl
  · rw [if_neg h, List.find?_cons_of_neg (by simpa using h)]
    congr 1
    rw [List.find?_filter]
    congr 1
    funext q
    by_cases h1 : q.1 = j
    · subst h1
      have h2 : ¬ q.1 = i := fun e => h e.symm
      simp [h2]
    · simp [h1]
theorem vCov_st {ρ : Nat → Int} {σ : Nat → Nat} {L : List (Nat × vA)} {Lc : List (Nat × XV Int32)} (h : vCov ρ σ L Lc) (i : Nat) (v : vA) : vCov ρ σ (x_st L i v) (x_st Lc i (cv ρ σ v)) := fun j u hj => by
  rw [x_lk_st] at hj ⊢
  split at hj
  · rename_i e
    rw [if_pos e]
    cases hj
    rfl
  · rename_i e
    rw [if_neg e]
    exact h j u hj
theorem vCov_en {ρ : Nat → Int} {σ : Nat → Nat} : ∀ (vs : List vA) (i : Nat), vCov ρ σ (x_en i vs) (x_en i (vs.map (cv ρ σ)))
  | [], _ => fun j u hj => by cases hj
  | v :: vs, i => fun j u hj => by
    have ih := vCov_en (ρ := ρ) (σ := σ) vs (i + 1) j u
    show x_lk ((i, cv ρ σ v) :: x_en (i + 1) (vs.map (cv ρ σ))) j = _
    have hj : x_lk ((i, v) :: x_en (i + 1) vs) j = some u := hj
    unfold x_lk at hj ih ⊢
    by_cases e : i = j
    · rw [List.find?_cons_of_pos (by simpa using e)] at hj ⊢
      cases hj
      rfl
    · rw [List.find?_cons_of_neg (by simpa using e)] at hj ⊢
      exact ih hj
def vBd (n m : Nat) : vA → Bool
  | .inl e => lBd n e
  | .inr none => true
  | .inr (some i) => decide (i < m) || decide (1000000 ≤ i)
theorem sR_spec {m : Nat} {σ σ2 : Nat → Nat} (g : ∀ i, i < m → σ2 i = σ i) {i : Nat} (h : (decide (i < m) || decide (1000000 ≤ i)) = true) : sR σ2 i = sR σ i := by
  unfold sR
  rcases Bool.or_eq_true_iff.mp h with h | h
  · rw [g i (of_decide_eq_true h)]
  · have := of_decide_eq_true h
    rw [if_neg (by omega), if_neg (by omega)]
theorem vBd_spec {n m : Nat} {ρ ρ2 : Nat → Int} {σ σ2 : Nat → Nat} (h : ∀ i, i < n → ρ2 i = ρ i) (g : ∀ i, i < m → σ2 i = σ i) {v : vA} (hv : vBd n m v = true) : cv ρ2 σ2 v = cv ρ σ v := by
  rcases v with e | (_ | i)
  · exact congrArg (fun z => Sum.inl (Int32.ofInt z)) (lBd_spec h hv)
  · rfl
  · exact congrArg (fun z => Sum.inr (some z)) (sR_spec g hv)
theorem vBd_list {n m : Nat} {ρ ρ2 : Nat → Int} {σ σ2 : Nat → Nat} (h : ∀ i, i < n → ρ2 i = ρ i) (g : ∀ i, i < m → σ2 i = σ i) {S : List vA} (hS : S.all (vBd n m) = true) : S.map (cv ρ2 σ2) = S.map (cv ρ σ) :=
  List.map_congr_left fun v hv => vBd_spec h g (List.all_eq_true.mp hS v hv)
theorem vBd_loc {n m : Nat} {ρ ρ2 : Nat → Int} {σ σ2 : Nat → Nat} (h : ∀ i, i < n → ρ2 i = ρ i) (g : ∀ i, i < m → σ2 i = σ i) {L : List (Nat × vA)} {Lc : List (Nat × XV Int32)} (hL : L.all (fun q => vBd n m q.2) = true) (hc : vCov ρ σ L Lc) : vCov ρ2 σ2 L Lc := fun j v hj => by
  have hm : vBd n m v = true := by
    unfold x_lk at hj
    obtain ⟨q, hq, rfl⟩ := Option.map_eq_some_iff.mp hj
    exact List.all_eq_true.mp hL q (List.mem_of_find?_eq_some hq)
  rw [vBd_spec h g hm]
  exact hc j v hj
/-- what is known: of a cell's field, or of its element at a sum -/
abbrev vK : Type := Nat × (Nat ⊕ lT) × vA
/-- a place (field, or element at a sum) of a cell's symbol holds that -/
def vPlace (ρ : Nat → Int) (σ : Nat → Nat) (H : List (XC Int32)) (i : Nat) (key : Nat ⊕ lT) (u : XV Int32) : Prop := match key with
  | .inl j => ∃ ci fs, H[sR σ i]? = some (.inl (ci, fs)) ∧ fs[j]? = some u
  | .inr e => ∃ t vs, H[sR σ i]? = some (.inr (t, vs)) ∧ 0 ≤ lEv ρ e ∧ vs[(lEv ρ e).toNat]? = some u
def vHolds (ρ : Nat → Int) (σ : Nat → Nat) (H : List (XC Int32)) (f : vK) : Prop := vPlace ρ σ H f.1 f.2.1 (cv ρ σ f.2.2)
def kyBd (n : Nat) : Nat ⊕ lT → Bool
  | .inl _ => true
  | .inr e => lBd n e
def fBd (n m : Nat) (f : vK) : Bool := (decide (f.1 < m) || decide (1000000 ≤ f.1)) && kyBd n f.2.1 && vBd n m f.2.2
theorem vPlace_ext {n m : Nat} {ρ ρ2 : Nat → Int} {σ σ2 : Nat → Nat} (h : ∀ i, i < n → ρ2 i = ρ i) (g : ∀ i, i < m → σ2 i = σ i) {H : List (XC Int32)} {i : Nat} {key : Nat ⊕ lT} {u : XV Int32} (hb : fBd n m (i, key, .inr none) = true) (hf : vPlace ρ σ H i key u) : vPlace ρ2 σ2 H i key u := by
  have hb2 := Bool.and_eq_true_iff.mp hb
  have hb3 := Bool.and_eq_true_iff.mp hb2.1
  have hs := sR_spec g hb3.1
  rcases key with j | e
  · obtain ⟨ci, fs, h1, h2⟩ := hf
    exact ⟨ci, fs, by rw [hs]; exact h1, h2⟩
  · obtain ⟨t, vs, h1, h0, h2⟩ := hf
    have he : lEv ρ2 e = lEv ρ e := lBd_spec h hb3.2
    exact ⟨t, vs, by rw [hs]; exact h1, by rw [he]; exact h0, by rw [he]; exact h2⟩
theorem fBd_spec {n m : Nat} {ρ ρ2 : Nat → Int} {σ σ2 : Nat → Nat} (h : ∀ i, i < n → ρ2 i = ρ i) (g : ∀ i, i < m → σ2 i = σ i) {H : List (XC Int32)} {f : vK} (hb : fBd n m f = true) (hf : vHolds ρ σ H f) : vHolds ρ2 σ2 H f := by
  have hb2 := Bool.and_eq_true_iff.mp hb
  unfold vHolds at hf ⊢
  rw [vBd_spec h g hb2.2]
  refine vPlace_ext h g ?_ hf
  show ((decide (f.1 < m) || decide (1000000 ≤ f.1)) && kyBd n f.2.1 && true) = true
  rw [hb2.1]
  rfl
theorem vPlace_one {ρ : Nat → Int} {σ : Nat → Nat} {H : List (XC Int32)} {i : Nat} {key : Nat ⊕ lT} {u v : XV Int32} (h : vPlace ρ σ H i key u) (g : vPlace ρ σ H i key v) : u = v := by
  rcases key with j | e
  · obtain ⟨c1, fs, h1, h2⟩ := h
    obtain ⟨c2, gs, g1, g2⟩ := g
    rw [h1] at g1
    cases g1
    rw [h2] at g2
    cases g2
    rfl
  · obtain ⟨c1, fs, h1, -, h2⟩ := h
    obtain ⟨c2, gs, g1, -, g2⟩ := g
    rw [h1] at g1
    cases g1
    rw [h2] at g2
    cases g2
    rfl
/-- symbols of cells are of their kinds -/
def vSym (ty : Nat → Option Nat) (σ : Nat → Nat) (G : List Nat) : Prop := ∀ (i c : Nat), G[i]? = some c → ty (sR σ i) = some c
/-- do two symbols surely stand for two cells -/
def vApart (G : List Nat) (i j : Nat) : Bool := match G[i]?, G[j]? with
  | some a, some b => decide (a ≠ b)
  | _, _ => false
theorem vApart_spec {ty : Nat → Option Nat} {σ : Nat → Nat} {G : List Nat} (h : vSym ty σ G) {i j : Nat} (ha : vApart G i j = true) : sR σ i ≠ sR σ j := by
  unfold vApart at ha
  split at ha
  · rename_i a b h1 h2
    intro e
    have g1 := h i a h1
    have g2 := h j b h2
    rw [e, g2] at g1
    cases g1
    exact of_decide_eq_true ha rfl
  · cases ha
/-- what stays known when field j of i is written -/
def fPut (G : List Nat) (i j : Nat) (F : List vK) : List vK := F.filter (fun f => (match f.2.1 with | .inl j2 => decide (j2 ≠ j) | .inr _ => true) || vApart G f.1 i)
theorem fPut_spec {ρ : Nat → Int} {ty : Nat → Option Nat} {σ : Nat → Nat} {G : List Nat} (hs : vSym ty σ G) {H : List (XC Int32)} {i j ci : Nat} {fs : List (XV Int32)} {u : XV Int32} (hH : H[sR σ i]? = some (.inl (ci, fs))) {F : List vK} (hF : ∀ f ∈ F, vHolds ρ σ H f) : ∀ f ∈ fPut G i j F, vHolds ρ σ (H.set (sR σ i) (.inl (ci, fs.set j u))) f := by
  intro f hf
  obtain ⟨h1, h2⟩ := List.mem_filter.mp hf
  have h3 := hF f h1
  obtain ⟨i2, j2 | e, v⟩ := f
  · obtain ⟨c2, gs, h4, h5⟩ := h3
    by_cases he : sR σ i = sR σ i2
    · have h2 := Bool.or_eq_true_iff.mp h2
      rcases h2 with h2 | h2
      rotate_left
      · exact (vApart_spec hs h2 he.symm).elim
      · have hj : j2 ≠ j := of_decide_eq_true h2
        have h4 : H[sR σ i2]? = some (.inl (c2, gs)) := h4
        rw [← he, hH] at h4
        cases h4
        refine ⟨ci, fs.set j u, ?_, ?_⟩
        · show (H.set (sR σ i) _)[sR σ i2]? = _
          rw [← he]
          exact List.getElem?_set_self (List.getElem?_eq_some_iff.mp hH).1
        · show (fs.set j u)[j2]? = _
          rw [List.getElem?_set_ne (Ne.symm hj)]
          exact h5
    · refine ⟨c2, gs, ?_, h5⟩
      show (H.set (sR σ i) _)[sR σ i2]? = _
      rw [List.getElem?_set_ne he]
      exact h4
  · obtain ⟨t, vs, h4, h5⟩ := h3
    have h4 : H[sR σ i2]? = some (.inr (t, vs)) := h4
    have he : sR σ i ≠ sR σ i2 := fun he => by
      rw [← he, hH] at h4
      cases h4
    refine ⟨t, vs, ?_, h5⟩
    show (H.set (sR σ i) _)[sR σ i2]? = _
    rw [List.getElem?_set_ne he]
    exact h4
/-- what stays known when elements of i are written; kp: places that stay -/
def fArr (kp : lT → Bool) (G : List Nat) (i : Nat) (F : List vK) : List vK := F.filter (fun f => (match f.2.1 with | .inl _ => true | .inr e => kp e) || vApart G f.1 i)
theorem fArr_spec {ρ : Nat → Int} {ty : Nat → Option Nat} {σ : Nat → Nat} {G : List Nat} {kp : lT → Bool} (hs : vSym ty σ G) {H : List (XC Int32)} {i t : Nat} {vs us : List (XV Int32)} (hH : H[sR σ i]? = some (.inr (t, vs))) (hkp : ∀ e, kp e = true → 0 ≤ lEv ρ e → us[(lEv ρ e).toNat]? = vs[(lEv ρ e).toNat]?) {F : List vK} (hF : ∀ f ∈ F, vHolds ρ σ H f) : ∀ f ∈ fArr kp G i F, vHolds ρ σ (H.set (sR σ i) (.inr (t, us))) f := by
  intro f hf
  obtain ⟨h1, h2⟩ := List.mem_filter.mp hf
  have h3 := hF f h1
  obtain ⟨i2, j2 | e, v⟩ := f
  · obtain ⟨c2, gs, h4, h5⟩ := h3
    have h4 : H[sR σ i2]? = some (.inl (c2, gs)) := h4
    have he : sR σ i ≠ sR σ i2 := fun he => by
      rw [← he, hH] at h4
      cases h4
    refine ⟨c2, gs, ?_, h5⟩
    show (H.set (sR σ i) _)[sR σ i2]? = _
    rw [List.getElem?_set_ne he]
    exact h4
  · obtain ⟨t2, ws, h4, h0, h5⟩ := h3
    by_cases he : sR σ i = sR σ i2
    · rcases Bool.or_eq_true_iff.mp h2 with h2 | h2
      rotate_left
      · exact (vApart_spec hs h2 he.symm).elim
      have h4 : H[sR σ i2]? = some (.inr (t2, ws)) := h4
      rw [← he, hH] at h4
      cases h4
      refine ⟨t, us, ?_, h0, ?_⟩
      · show (H.set (sR σ i) _)[sR σ i2]? = _
        rw [← he]
        exact List.getElem?_set_self (List.getElem?_eq_some_iff.mp hH).1
      · rw [hkp e h2 h0]
        exact h5
    · refine ⟨t2, ws, ?_, h0, h5⟩
      show (H.set (sR σ i) _)[sR σ i2]? = _
      rw [List.getElem?_set_ne he]
      exact h4
/-- two sums surely differ -/
def lNe (I : lI) (a b : lT) : Bool := match lRn I (lSub a b) with
  | none => false
  | some t => decide (0 < t.1) || decide (t.2 < 0)
theorem lNe_spec {ρ : Nat → Int} {I : lI} (hI : iHd ρ I) {a b : lT} (h : lNe I a b = true) : lEv ρ a ≠ lEv ρ b := by
  unfold lNe at h
  split at h
  · cases h
  rename_i t ht
  have h1 := lRn_spec hI ht
  rw [lSub_ev] at h1
  rcases Bool.or_eq_true_iff.mp h with h | h
  · have := of_decide_eq_true h
    omega
  · have := of_decide_eq_true h
    omega
/-- what came of an operation: which, of what, what -/
abbrev vMm : Type := Nat × lT × lT × lT
def mHd (ρ : Nat → Int) (m : vMm) : Prop := x_bin m.1 (Int32.ofInt (lEv ρ m.2.1)) (Int32.ofInt (lEv ρ m.2.2.1)) = Int32.ofInt (lEv ρ m.2.2.2)
def mBd (n : Nat) (m : vMm) : Bool := lBd n m.2.1 && lBd n m.2.2.1 && lBd n m.2.2.2
theorem mBd_spec {n : Nat} {ρ ρ2 : Nat → Int} (h : ∀ i, i < n → ρ2 i = ρ i) {m : vMm} (hb : mBd n m = true) (hm : mHd ρ m) : mHd ρ2 m := by
  have h1 := Bool.and_eq_true_iff.mp hb
  have h2 := Bool.and_eq_true_iff.mp h1.1
  unfold mHd at hm ⊢
  rw [lBd_spec h h2.1, lBd_spec h h2.2, lBd_spec h h1.2]
  exact hm
/-- kinds; a counted row: the kind that counts, the field of the number, the field of the row, the row's kind; the kind of the lines' rows; kinds not yet ready, and what they become -/
abbrev vKT : Type := List vKd × (Nat × Nat × Nat × Nat × Nat) × List (Nat × Nat)
def kRaw (KT : vKT) (c : Nat) : Option Nat := (KT.2.2.find? (fun q => decide (q.1 = c))).map (fun q => q.2)
/-- of each four: the first from 4 to 8: the third is a field; up to 9: the second is one -/
def vGrp (vs : List (XV Int32)) : Prop := ∀ (b : Nat) (o : Int32), b % 4 = 0 → vs[b]? = some (.inl o) → (o.toInt ≤ 9 → ∀ f : Int32, vs[b + 1]? = some (.inl f) → f.toInt ≤ 5) ∧ (4 ≤ o.toInt → o.toInt ≤ 8 → ∀ g : Int32, vs[b + 2]? = some (.inl g) → g.toInt ≤ 5)
def vGp (KT : vKT) (ty : Nat → Option Nat) (H : List (XC Int32)) : Prop := ∀ a t vs, ty a = some KT.2.1.2.2.2.2 → H[a]? = some (.inr (t, vs)) → vGrp vs
/-- rows that are counted have their cells, as far as they count -/
def vNN (KT : vKT) (ty : Nat → Option Nat) (H : List (XC Int32)) : Prop := ∀ a, ty a = some KT.2.1.1 → ∃ ci fs n b t vs, H[a]? = some (.inl (ci, fs)) ∧ fs[KT.2.1.2.1]? = some (.inl n) ∧ fs[KT.2.1.2.2.1]? = some (.inr (some b)) ∧ ty b = some KT.2.1.2.2.2.1 ∧ H[b]? = some (.inr (t, vs)) ∧ ∀ i : Nat, (i : Int) < n.toInt → ∃ p, vs[i]? = some (.inr (some p))
/-- next unknown, kinds of the cells' symbols, what is known, bounds, what isn't below 0, what came of operations, cells not yet ready -/
abbrev vSt : Type := Nat × List Nat × List vK × lI × List lT × List vMm × List Nat
abbrev sN (s : vSt) : Nat := s.1
abbrev sG (s : vSt) : List Nat := s.2.1
abbrev sF (s : vSt) : List vK := s.2.2.1
abbrev sI (s : vSt) : lI := s.2.2.2.1
abbrev sC (s : vSt) : List lT := s.2.2.2.2.1
abbrev sM (s : vSt) : List vMm := s.2.2.2.2.2.1
abbrev sRw (s : vSt) : List Nat := s.2.2.2.2.2.2
def vRel (KT : vKT) (ρ : Nat → Int) (σ : Nat → Nat) (ty : Nat → Option Nat) (H : List (XC Int32)) (s : vSt) : Prop :=
  vHp (fun c => KT.1[c]?) ty H ∧ vSym ty σ (sG s) ∧ (∀ f ∈ sF s, vHolds ρ σ H f) ∧ iHd ρ (sI s) ∧ (∀ c ∈ sC s, 0 ≤ lEv ρ c) ∧ (∀ m ∈ sM s, mHd ρ m) ∧ (vNN KT ty H ∧ vGp KT ty H) ∧ (∀ a c d, ty a = some c → kRaw KT c = some d → ∃ i ∈ sRw s, sR σ i = a)
/-- older symbols stand for what they stood for -/
def vExt (s s2 : vSt) (ρ ρ2 : Nat → Int) (σ σ2 : Nat → Nat) : Prop :=
  (∀ i, i < sN s → ρ2 i = ρ i) ∧ (∀ i, i < (sG s).length → σ2 i = σ i) ∧ sN s ≤ sN s2 ∧ (sG s).length ≤ (sG s2).length
theorem vExt_rf (s : vSt) (ρ : Nat → Int) (σ : Nat → Nat) : vExt s s ρ ρ σ σ := ⟨fun _ _ => rfl, fun _ _ => rfl, Nat.le_refl _, Nat.le_refl _⟩
theorem vExt_tr {s s2 s3 : vSt} {ρ ρ2 ρ3 : Nat → Int} {σ σ2 σ3 : Nat → Nat} (h : vExt s s2 ρ ρ2 σ σ2) (g : vExt s2 s3 ρ2 ρ3 σ2 σ3) : vExt s s3 ρ ρ3 σ σ3 :=
  ⟨fun i hi => (g.1 i (Nat.lt_of_lt_of_le hi h.2.2.1)).trans (h.1 i hi), fun i hi => (g.2.1 i (Nat.lt_of_lt_of_le hi h.2.2.2)).trans (h.2.1 i hi), Nat.le_trans h.2.2.1 g.2.2.1, Nat.le_trans h.2.2.2 g.2.2.2⟩
/-- the same unknowns and symbols -/
theorem vExt_eq {s s2 : vSt} (ρ : Nat → Int) (σ : Nat → Nat) (h1 : sN s2 = sN s) (h2 : (sG s2).length = (sG s).length) : vExt s s2 ρ ρ σ σ := ⟨fun _ _ => rfl, fun _ _ => rfl, Nat.le_of_eq h1.symm, Nat.le_of_eq h2.symm⟩
def sBd (s : vSt) : Bool := decide ((sG s).length < 1000000) && (sF s).all (fBd (sN s) (sG s).length) && (sC s).all (lBd (sN s)) && (sM s).all (mBd (sN s)) && (sI s).all (fun q => decide (q.1 < sN s)) && (sRw s).all (fun i => decide (i < (sG s).length))
theorem sBd_spec {s : vSt} (h : sBd s = true) : (sG s).length < 1000000 ∧ (∀ f ∈ sF s, fBd (sN s) (sG s).length f = true) ∧ (∀ c ∈ sC s, lBd (sN s) c = true) ∧ (∀ m ∈ sM s, mBd (sN s) m = true) ∧ (∀ q ∈ sI s, q.1 < sN s) ∧ (∀ i ∈ sRw s, i < (sG s).length) := by
  unfold sBd at h
  simp only [Bool.and_eq_true] at h
  obtain ⟨⟨⟨⟨⟨h1, h2⟩, h3⟩, h4⟩, h5⟩, h6⟩ := h
  exact ⟨of_decide_eq_true h1, List.all_eq_true.mp h2, List.all_eq_true.mp h3, List.all_eq_true.mp h4, fun q hq => of_decide_eq_true (List.all_eq_true.mp h5 q hq), fun i hi => of_decide_eq_true (List.all_eq_true.mp h6 i hi)⟩
/-- what holds stays, for other unknowns and symbols -/
theorem vRel_ext {KT : vKT} {ρ ρ2 : Nat → Int} {σ σ2 : Nat → Nat} {ty : Nat → Option Nat} {H : List (XC Int32)} {s : vSt} (h : vRel KT ρ σ ty H s) (hb : sBd s = true) (he : ∀ i, i < sN s → ρ2 i = ρ i) (hg : ∀ i, i < (sG s).length → σ2 i = σ i) : vRel KT ρ2 σ2 ty H s := by
  obtain ⟨b1, b2, b3, b4, b5, b6⟩ := sBd_spec hb
  obtain ⟨h1, h2, h3, h4, h5, h6, h7, h8⟩ := h
  have hs : ∀ i, i < (sG s).length → sR σ2 i = sR σ i := fun i hi => sR_spec hg (by rw [decide_eq_true hi]; rfl)
  refine ⟨h1, fun i c hc => ?_, fun f hf => fBd_spec he hg (b2 f hf) (h3 f hf), fun q hq => ?_, fun c hc => ?_, fun m hm => mBd_spec he (b4 m hm) (h6 m hm), h7, fun a c d ha hd => ?_⟩
  · rw [hs i (List.getElem?_eq_some_iff.mp hc).1]
    exact h2 i c hc
  · rw [he q.1 (b5 q hq)]
    exact h4 q hq
  · rw [lBd_spec he (b3 c hc)]
    exact h5 c hc
  · obtain ⟨i, hi, e⟩ := h8 a c d ha hd
    exact ⟨i, hi, by rw [hs i (b6 i hi)]; exact e⟩
/-- a new unknown within bounds -/
def vNi (p : Int × Int) (s : vSt) : vSt := (sN s + 1, sG s, sF s, (sN s, p) :: sI s, sC s, sM s, sRw s)
theorem vNi_spec {KT : vKT} {ρ : Nat → Int} {σ : Nat → Nat} {ty : Nat → Option Nat} {H : List (XC Int32)} {s : vSt} (h : vRel KT ρ σ ty H s) (hb : sBd s = true) {p : Int × Int} {x : Int} (hx : p.1 ≤ x ∧ x ≤ p.2) :
    ∃ ρ2, vExt s (vNi p s) ρ ρ2 σ σ ∧ vRel KT ρ2 σ ty H (vNi p s) ∧ ρ2 (sN s) = x := by
  have he : ∀ i, i < sN s → (fun i => if i = sN s then x else ρ i) i = ρ i := fun i hi => if_neg (Nat.ne_of_lt hi)
  have hv : (fun i => if i = sN s then x else ρ i) (sN s) = x := if_pos rfl
  obtain ⟨g1, g2, g3, g4, g5, g6, g7, g8⟩ := vRel_ext h hb he (fun _ _ => rfl)
  refine ⟨fun i => if i = sN s then x else ρ i, ⟨he, fun _ _ => rfl, Nat.le_succ _, Nat.le_refl _⟩, ⟨g1, g2, g3, fun q hq => ?_, g5, g6, g7, g8⟩, hv⟩
  rcases List.mem_cons.mp hq with rfl | hq
  · show p.1 ≤ (if sN s = sN s then x else ρ (sN s)) ∧ (if sN s = sN s then x else ρ (sN s)) ≤ p.2
    rw [if_pos rfl]
    exact hx
  · exact g4 q hq
/-- a new symbol for a cell of a kind -/
def vNr (c : Nat) (s : vSt) : vSt := (sN s, sG s ++ [c], sF s, sI s, sC s, sM s, sRw s)
theorem vNr_spec {KT : vKT} {ρ : Nat → Int} {σ : Nat → Nat} {ty : Nat → Option Nat} {H : List (XC Int32)} {s : vSt} (h : vRel KT ρ σ ty H s) (hb : sBd s = true) {a c : Nat} (ha : ty a = some c) :
    ∃ σ2, vExt s (vNr c s) ρ ρ σ σ2 ∧ vRel KT ρ σ2 ty H (vNr c s) ∧ sR σ2 (sG s).length = a := by
  have he : ∀ i, i < (sG s).length → (fun i => if i = (sG s).length then a else σ i) i = σ i := fun i hi => if_neg (Nat.ne_of_lt hi)
  obtain ⟨g1, g2, g3, g4, g5, g6, g7, g8⟩ := vRel_ext h hb (fun _ _ => rfl) he
  have hlt := (sBd_spec hb).1
  have hv : sR (fun i => if i = (sG s).length then a else σ i) (sG s).length = a := by
    unfold sR
    rw [if_pos hlt]
    exact if_pos rfl
  refine ⟨fun i => if i = (sG s).length then a else σ i, ⟨fun _ _ => rfl, he, Nat.le_refl _, ?_⟩, ⟨g1, fun i d hd => ?_, g3, g4, g5, g6, g7, g8⟩, hv⟩
  · show (sG s).length ≤ (sG s ++ [c]).length
    rw [List.length_append]
    exact Nat.le_add_right _ _
  · have hd : (sG s ++ [c])[i]? = some d := hd
    by_cases e : i = (sG s).length
    · subst e
      rw [List.getElem?_append_right (Nat.le_refl _), Nat.sub_self] at hd
      have hd : some c = some d := hd
      rw [hv, ha]
      exact hd
    · have hl : i < (sG s).length := by
        have := (List.getElem?_eq_some_iff.mp hd).1
        rw [List.length_append] at this
        have : i < (sG s).length + 1 := this
        omega
      rw [List.getElem?_append_left hl] at hd
      exact g2 i d hd
/-- one thing more is known; holds; came of an operation -/
def vKn (f : vK) (s : vSt) : vSt := (sN s, sG s, f :: sF s, sI s, sC s, sM s, sRw s)
theorem vKn_spec {KT : vKT} {ρ : Nat → Int} {σ : Nat → Nat} {ty : Nat → Option Nat} {H : List (XC Int32)} {s : vSt} (h : vRel KT ρ σ ty H s) {f : vK} (hf : vHolds ρ σ H f) : vRel KT ρ σ ty H (vKn f s) :=
  ⟨h.1, h.2.1, fun g hg => by
    rcases List.mem_cons.mp hg with rfl | hg
    · exact hf
    · exact h.2.2.1 g hg, h.2.2.2⟩
def vMk (m : vMm) (s : vSt) : vSt := (sN s, sG s, sF s, sI s, sC s, m :: sM s, sRw s)
theorem vMk_spec {KT : vKT} {ρ : Nat → Int} {σ : Nat → Nat} {ty : Nat → Option Nat} {H : List (XC Int32)} {s : vSt} (h : vRel KT ρ σ ty H s) {m : vMm} (hm : mHd ρ m) : vRel KT ρ σ ty H (vMk m s) :=
  ⟨h.1, h.2.1, h.2.2.1, h.2.2.2.1, h.2.2.2.2.1, fun g hg => by
    rcases List.mem_cons.mp hg with rfl | hg
    · exact hm
    · exact h.2.2.2.2.2.1 g hg, h.2.2.2.2.2.2⟩
/-- e is not below 0 from here on; none: that can't be -/
def vCo (e : lT) (s : vSt) : Option vSt := match iRef (sI s) e with
  | none => none
  | some I2 => some (sN s, sG s, sF s, I2, (if e.2.length ≤ 1 then sC s else e :: sC s), sM s, sRw s)
theorem vCo_spec {KT : vKT} {ρ : Nat → Int} {σ : Nat → Nat} {ty : Nat → Option Nat} {H : List (XC Int32)} {s : vSt} (h : vRel KT ρ σ ty H s) {e : lT} (he : 0 ≤ lEv ρ e) : ∃ s2, vCo e s = some s2 ∧ vRel KT ρ σ ty H s2 ∧ vExt s s2 ρ ρ σ σ ∧ sG s2 = sG s ∧ sF s2 = sF s := by
  obtain ⟨h1, h2, h3, h4, h5, h6, h7, h8⟩ := h
  obtain ⟨I2, g1, g2⟩ := iRef_spec h4 he
  unfold vCo
  rw [g1]
  refine ⟨_, rfl, ⟨h1, h2, h3, g2, fun c hc => ?_, h6, h7, h8⟩, vExt_eq ρ σ rfl rfl, rfl, rfl⟩
  have hc : c ∈ (if e.2.length ≤ 1 then sC s else e :: sC s) := hc
  split at hc
  · exact h5 c hc
  · rcases List.mem_cons.mp hc with rfl | hc
    · exact he
    · exact h5 c hc
def kyEq : Nat ⊕ lT → Nat ⊕ lT → Bool
  | .inl a, .inl b => decide (a = b)
  | .inr a, .inr b => lEq a b
  | _, _ => false
theorem kyEq_spec {a b : Nat ⊕ lT} (h : kyEq a b = true) : a = b := by
  rcases a with a | a <;> rcases b with b | b
  · exact congrArg Sum.inl (of_decide_eq_true h)
  · cases h
  · cases h
  · exact congrArg Sum.inr (lEq_spec h)
def fGet (i : Nat) (key : Nat ⊕ lT) : List vK → Option vA
  | [] => none
  | f :: F => if f.1 = i ∧ kyEq f.2.1 key = true then some f.2.2 else fGet i key F
theorem fGet_spec {ρ : Nat → Int} {σ : Nat → Nat} {H : List (XC Int32)} {i : Nat} {key : Nat ⊕ lT} {v : vA} : ∀ {F : List vK}, (∀ f ∈ F, vHolds ρ σ H f) → fGet i key F = some v → vPlace ρ σ H i key (cv ρ σ v)
  | [], _, h => by cases h
  | f :: F, hF, h => by
    unfold fGet at h
    split at h
    · rename_i hc
      cases h
      have h1 := hF f List.mem_cons_self
      unfold vHolds at h1
      rw [hc.1, kyEq_spec hc.2] at h1
      exact h1
    · exact fGet_spec (fun g hg => hF g (List.mem_cons_of_mem _ hg)) h
end XState
end
section
/-! Operations, questions, indices, of a state in symbols. -/
section XOps
theorem x_nn {x : Int32} (h : 0 ≤ x.toInt) : x.toInt = (x.toBitVec.toNat : Int) := by
  have e : x.toInt = x.toBitVec.toInt := rfl
  have m : x.toBitVec.msb = false := by
    rw [BitVec.msb_eq_toInt]
    exact decide_eq_false (by rw [← e]; omega)
  rw [e]
  exact BitVec.toInt_eq_toNat_of_msb m
theorem x_nn2 {x : Int32} {k : Nat} (h : x.toBitVec.toNat < k) (hk : k ≤ 2147483648) : 0 ≤ x.toInt ∧ x.toInt < (k : Int) := by
  have e : x.toInt = x.toBitVec.toInt := rfl
  rw [e, BitVec.toInt_eq_toNat_of_lt (by omega)]
  omega
theorem vOrX {x y : Int32} {k : Nat} (hx : 0 ≤ x.toInt ∧ x.toInt < ((2 ^ k : Nat) : Int)) (hy : 0 ≤ y.toInt ∧ y.toInt < ((2 ^ k : Nat) : Int)) (hk : 2 ^ k ≤ 2147483648) :
    (0 ≤ (x ||| y).toInt ∧ (x ||| y).toInt < ((2 ^ k : Nat) : Int)) ∧ (0 ≤ (x ^^^ y).toInt ∧ (x ^^^ y).toInt < ((2 ^ k : Nat) : Int)) := by
  have e1 := x_nn hx.1
  have e2 := x_nn hy.1
  constructor
  · refine x_nn2 (x := x ||| y) ?_ hk
    show (x.toBitVec ||| y.toBitVec).toNat < _
    rw [BitVec.toNat_or]
    exact Nat.or_lt_two_pow (by omega) (by omega)
  · refine x_nn2 (x := x ^^^ y) ?_ hk
    show (x.toBitVec ^^^ y.toBitVec).toNat < _
    rw [BitVec.toNat_xor]
    exact Nat.xor_lt_two_pow (by omega) (by omega)
theorem vSh31 : ∀ n : Fin 31, ((Int32.ofInt (n.val : Int)) &&& 31).toBitVec.smod 32 = BitVec.ofNat 32 n.val := by decide +kernel
theorem vShl {x y : Int32} {n : Nat} (hn : n < 31) (hy : y.toInt = (n : Int)) (hx : 0 ≤ x.toInt) (hm : x.toInt * ((2 ^ n : Nat) : Int) ≤ 2147483647) : (x_bin 6 x y).toInt = x.toInt * ((2 ^ n : Nat) : Int) := by
  have e : y = Int32.ofInt (n : Int) := by rw [← hy, Int32.ofInt_toInt]
  have e1 := x_nn hx
  have e2 : (x_bin 6 x y).toBitVec.toNat = x.toBitVec.toNat * 2 ^ n % 2 ^ 32 := by
    show (x.toBitVec <<< ((y &&& 31).toBitVec.smod 32)).toNat = _
    rw [e, vSh31 ⟨n, hn⟩]
    show (x.toBitVec <<< (BitVec.ofNat 32 n).toNat).toNat = _
    rw [BitVec.toNat_ofNat, Nat.mod_eq_of_lt (by omega), BitVec.toNat_shiftLeft, Nat.shiftLeft_eq]
  generalize 2 ^ n = m at hm e2 ⊢
  generalize x.toBitVec.toNat = k at e1 e2
  rw [e1] at hm ⊢
  have h3 : ((k * m : Nat) : Int) = (k : Int) * (m : Int) := Int.natCast_mul k m
  have e3 : (x_bin 6 x y).toBitVec.toNat = k * m := by
    rw [e2, Nat.mod_eq_of_lt (by omega)]
  have h4 := x_nn2 (x := x_bin 6 x y) (k := 2147483648) (by rw [e3]; omega) (Nat.le_refl _)
  rw [x_nn h4.1, e3, h3]
theorem vShr {x y : Int32} (hx : 0 ≤ x.toInt) : 0 ≤ (x_bin 7 x y).toInt ∧ (x_bin 7 x y).toInt ≤ x.toInt := by
  have e : (x_bin 7 x y).toInt = x.toInt >>> ((y &&& 31).toBitVec.smod 32).toNat := by
    show (x.toBitVec.sshiftRight ((y &&& 31).toBitVec.smod 32).toNat).toInt = _
    rw [BitVec.toInt_sshiftRight]
    rfl
  rw [e, Int.shiftRight_eq_div_pow]
  generalize 2 ^ ((y &&& 31).toBitVec.smod 32).toNat = m
  constructor
  · exact Int.ediv_nonneg hx (Int.natCast_nonneg m)
  · exact Int.ediv_le_self _ hx
theorem vDiv {x y : Int32} (hx : 0 ≤ x.toInt) (hy : 0 < y.toInt) : (x_bin 8 x y).toInt = x.toInt / y.toInt := by
  have h : y ≠ -1 := fun e => by
    rw [e] at hy
    revert hy
    decide
  show (x / y).toInt = _
  rw [Int32.toInt_div_of_ne_right _ _ h, Int.tdiv_eq_ediv_of_nonneg hx]
/-- bounds of what an operation gives -/
def vOp2 (o : Nat) (p q : Int × Int) : Int × Int :=
  if o ≤ 3 ∨ o = 9 then vOp o p q
  else if o = 4 ∨ o = 5 then (if 0 ≤ p.1 ∧ 0 ≤ q.1 ∧ p.2 < 65536 ∧ q.2 < 65536 then (0, if p.2 < 8 ∧ q.2 < 8 then 7 else if p.2 < 256 ∧ q.2 < 256 then 255 else if p.2 < 4096 ∧ q.2 < 4096 then 4095 else 65535) else vTop)
  else if o = 6 then (if 0 ≤ p.1 ∧ 0 ≤ q.1 ∧ q.2 < 31 ∧ p.2 * ((2 ^ q.2.toNat : Nat) : Int) ≤ 2147483647 then (p.1 * ((2 ^ q.1.toNat : Nat) : Int), p.2 * ((2 ^ q.2.toNat : Nat) : Int)) else vTop)
  else if o = 7 then (if 0 ≤ p.1 then (0, p.2) else vTop)
  else if o = 8 then (if 0 ≤ p.1 ∧ 0 < q.1 then (0, p.2 / q.1) else vTop)
  else vTop
theorem vOp2_spec {o : Nat} {p q : Int × Int} {x y : Int32} (hp : vIn p x) (hq : vIn q y) : vIn (vOp2 o p q) (x_bin o x y) := by
  obtain ⟨p1, p2⟩ := hp
  obtain ⟨q1, q2⟩ := hq
  unfold vOp2
  split
  · exact vOp_spec ⟨p1, p2⟩ ⟨q1, q2⟩
  split
  · rename_i ho
    split
    · rename_i hh
      have key : ∀ k : Nat, 2 ^ k ≤ 2147483648 → p.2 < ((2 ^ k : Nat) : Int) → q.2 < ((2 ^ k : Nat) : Int) → 0 ≤ (x_bin o x y).toInt ∧ (x_bin o x y).toInt < ((2 ^ k : Nat) : Int) := fun k hk h1 h2 => by
        have h3 := vOrX (x := x) (y := y) (k := k) ⟨by omega, by omega⟩ ⟨by omega, by omega⟩ hk
        rcases ho with rfl | rfl
        · exact h3.1
        · exact h3.2
      refine ⟨(key 16 (by decide) (by omega) (by omega)).1, ?_⟩
      show (x_bin o x y).toInt ≤ (if _ then _ else _)
      split
      · have := (key 3 (by decide) (by omega) (by omega)).2
        omega
      split
      · have := (key 8 (by decide) (by omega) (by omega)).2
        omega
      split
      · have := (key 12 (by decide) (by omega) (by omega)).2
        omega
      · have := (key 16 (by decide) (by omega) (by omega)).2
        omega
    · exact vTop_spec _
  split
  · rename_i ho
    subst ho
    split
    · rename_i hh
      obtain ⟨h1, h2, h3, h4⟩ := hh
      have hy : y.toInt = (y.toInt.toNat : Int) := by omega
      have m1 : (2 : Nat) ^ y.toInt.toNat ≤ 2 ^ q.2.toNat := Nat.pow_le_pow_right (by decide) (by omega)
      have m2 : (2 : Nat) ^ q.1.toNat ≤ 2 ^ y.toInt.toNat := Nat.pow_le_pow_right (by decide) (by omega)
      have m3 : x.toInt * ((2 ^ y.toInt.toNat : Nat) : Int) ≤ p.2 * ((2 ^ q.2.toNat : Nat) : Int) := Int.mul_le_mul p2 (Int.ofNat_le.mpr m1) (Int.natCast_nonneg _) (by omega)
      have m4 : p.1 * ((2 ^ q.1.toNat : Nat) : Int) ≤ x.toInt * ((2 ^ y.toInt.toNat : Nat) : Int) := Int.mul_le_mul p1 (Int.ofNat_le.mpr m2) (Int.natCast_nonneg _) (by omega)
      have e := vShl (x := x) (y := y) (n := y.toInt.toNat) (by omega) hy (by omega) (by omega)
      constructor
      · rw [e]
        exact m4
      · rw [e]
        exact m3
    · exact vTop_spec _
  split
  · rename_i ho
    subst ho
    split
    · rename_i hh
      have h := vShr (x := x) (y := y) (by omega)
      exact ⟨h.1, Int.le_trans h.2 p2⟩
    · exact vTop_spec _
  split
  · rename_i ho
    subst ho
    split
    · rename_i hh
      have e := vDiv (x := x) (y := y) (by omega) (by omega)
      constructor
      · rw [e]
        exact Int.ediv_nonneg (by omega) (by omega)
      · rw [e]
        show x.toInt / y.toInt ≤ p.2 / q.1
        have a1 : x.toInt / y.toInt ≤ x.toInt / q.1 := (Int.le_ediv_iff_mul_le (by omega)).mpr (by
          have b1 := Int.ediv_mul_le x.toInt (b := y.toInt) (by omega)
          have b2 : x.toInt / y.toInt * q.1 ≤ x.toInt / y.toInt * y.toInt := Int.mul_le_mul_of_nonneg_left q1 (Int.ediv_nonneg (by omega) (by omega))
          omega)
        have a2 : x.toInt / q.1 ≤ p.2 / q.1 := Int.ediv_le_ediv (by omega) p2
        omega
    · exact vTop_spec _
  · exact vTop_spec _
/-- an operation whose result is a sum -/
def vLin (o : Nat) (a b : lT) : Option lT :=
  if o = 0 then some (lAdd a b)
  else if o = 1 then some (lSub a b)
  else match a.2, b.2 with
    | [], [] => some (lK (x_bin o (Int32.ofInt a.1) (Int32.ofInt b.1)).toInt)
    | [], _ => if o = 2 then some (lSc a.1 b) else none
    | _, [] => if o = 2 then some (lSc b.1 a) else none
    | _, _ => none
theorem vLin_spec (ρ : Nat → Int) {o : Nat} {a b r : lT} (h : vLin o a b = some r) : x_bin o (Int32.ofInt (lEv ρ a)) (Int32.ofInt (lEv ρ b)) = Int32.ofInt (lEv ρ r) := by
  unfold vLin at h
  split at h
  · rename_i ho
    subst ho
    cases h
    rw [lAdd_ev, Int32.ofInt_add]
    rfl
  split at h
  · rename_i ho
    subst ho
    cases h
    rw [lSub_ev, Int32.ofInt_sub]
    rfl
  obtain ⟨a1, a2⟩ := a
  obtain ⟨b1, b2⟩ := b
  dsimp only at h
  split at h
  · cases h
    rw [lK_ev, Int32.ofInt_toInt]
    show x_bin o (Int32.ofInt (a1 + 0)) (Int32.ofInt (b1 + 0)) = _
    rw [Int.add_zero, Int.add_zero]
  · split at h
    · rename_i ho
      subst ho
      cases h
      rw [lSc_ev, Int32.ofInt_mul]
      show Int32.ofInt (a1 + 0) * _ = _
      rw [Int.add_zero]
    · cases h
  · split at h
    · rename_i ho
      subst ho
      cases h
      rw [lSc_ev, Int32.ofInt_mul]
      show Int32.ofInt (lEv ρ (a1, a2)) * Int32.ofInt (b1 + 0) = Int32.ofInt b1 * Int32.ofInt (lEv ρ (a1, a2))
      rw [Int.add_zero, Int32.mul_comm]
    · cases h
  · cases h
def mGet (o : Nat) (a b : lT) : List vMm → Option lT
  | [] => none
  | m :: M => if m.1 = o ∧ lEq m.2.1 a = true ∧ lEq m.2.2.1 b = true then some m.2.2.2 else mGet o a b M
theorem mGet_spec {ρ : Nat → Int} {o : Nat} {a b r : lT} : ∀ {M : List vMm}, (∀ m ∈ M, mHd ρ m) → mGet o a b M = some r → x_bin o (Int32.ofInt (lEv ρ a)) (Int32.ofInt (lEv ρ b)) = Int32.ofInt (lEv ρ r)
  | [], _, h => by cases h
  | m :: M, hM, h => by
    unfold mGet at h
    split at h
    · rename_i hc
      cases h
      have h1 := hM m List.mem_cons_self
      unfold mHd at h1
      rw [hc.1, lEq_spec hc.2.1, lEq_spec hc.2.2] at h1
      exact h1
    · exact mGet_spec (fun g hg => hM g (List.mem_cons_of_mem _ hg)) h
theorem x_subset {s t : Int32} (h0 : 0 ≤ s.toInt) (h1 : s.toInt < t.toInt) : s.toInt < ((s - t) &&& t).toInt := by
  have es := x_nn h0
  have et := x_nn (x := t) (by omega)
  have ht := Int32.toInt_lt t
  have hr := vAnd (x := s - t) (y := t) (by omega)
  have er := x_nn hr.1
  generalize hS : s.toBitVec = S at es
  generalize hT : t.toBitVec = T at et
  have e0 : ((s - t) &&& t).toBitVec = (S - T) &&& T := by rw [← hS, ← hT]; rfl
  rw [e0] at er
  have hs2 : S.toNat < 2147483648 := by omega
  have ht2 : T.toNat < 2147483648 := by omega
  have hst : S.toNat < T.toNat := by omega
  have key : S - T = ~~~(T - S - 1#32) := by
    apply BitVec.eq_of_toNat_eq
    rw [BitVec.toNat_not, BitVec.toNat_sub, BitVec.toNat_sub, BitVec.toNat_sub]
    have : (1#32).toNat = 1 := rfl
    omega
  have hM : (T - S - 1#32).toNat = T.toNat - S.toNat - 1 := by
    rw [BitVec.toNat_sub, BitVec.toNat_sub]
    have : (1#32).toNat = 1 := rfl
    omega
  generalize T - S - 1#32 = M at key hM
  have hz : (T &&& M) &&& (T &&& ~~~M) = 0#32 := by
    apply BitVec.eq_of_getLsbD_eq
    intro i hi
    rw [BitVec.getLsbD_and, BitVec.getLsbD_and, BitVec.getLsbD_and, BitVec.getLsbD_not, BitVec.getLsbD_zero]
    cases T.getLsbD i <;> cases M.getLsbD i <;> simp
  have hsum : (T &&& M) + (T &&& ~~~M) = T := by
    rw [BitVec.add_eq_or_of_and_eq_zero _ _ hz]
    apply BitVec.eq_of_getLsbD_eq
    intro i hi
    rw [BitVec.getLsbD_or, BitVec.getLsbD_and, BitVec.getLsbD_and, BitVec.getLsbD_not, decide_eq_true hi]
    cases T.getLsbD i <;> cases M.getLsbD i <;> rfl
  have l1 : (T &&& M).toNat ≤ M.toNat := by
    rw [BitVec.toNat_and]
    exact Nat.and_le_right
  have l2 : (T &&& ~~~M).toNat ≤ T.toNat := by
    rw [BitVec.toNat_and]
    exact Nat.and_le_left
  have l3 := congrArg BitVec.toNat hsum
  rw [BitVec.toNat_add] at l3
  have e4 : (S - T) &&& T = T &&& ~~~M := by rw [key, BitVec.and_comm]
  rw [e4] at er
  omega
def vIf (c : Option vSt) (kk : vSt → Bool) : Bool := match c with
  | none => true
  | some s => kk s
/-- the same unknowns, symbols, things known; more holds -/
def vSame0 (s s2 : vSt) : Prop := sN s2 = sN s ∧ sG s2 = sG s ∧ sF s2 = sF s ∧ sRw s2 = sRw s
theorem vSame0_rf (s : vSt) : vSame0 s s := ⟨rfl, rfl, rfl, rfl⟩
theorem vSame0_tr {s s2 s3 : vSt} (h : vSame0 s s2) (g : vSame0 s2 s3) : vSame0 s s3 := ⟨g.1.trans h.1, g.2.1.trans h.2.1, g.2.2.1.trans h.2.2.1, g.2.2.2.trans h.2.2.2⟩
theorem vSame0_ext {s s2 : vSt} (h : vSame0 s s2) (ρ : Nat → Int) (σ : Nat → Nat) : vExt s s2 ρ ρ σ σ := vExt_eq ρ σ h.1 (by rw [h.2.1])
theorem vIf_spec {KT : vKT} {ρ : Nat → Int} {σ : Nat → Nat} {ty : Nat → Option Nat} {H : List (XC Int32)} {s : vSt} (h : vRel KT ρ σ ty H s) {e : lT} (he : 0 ≤ lEv ρ e) {kk : vSt → Bool} (hk : vIf (vCo e s) kk = true) : ∃ s2, vRel KT ρ σ ty H s2 ∧ vSame0 s s2 ∧ kk s2 = true := by
  unfold vCo at hk
  obtain ⟨h1, h2, h3, h4, h5, h6, h7, h8⟩ := h
  obtain ⟨I2, g1, g2⟩ := iRef_spec h4 he
  rw [g1] at hk
  refine ⟨(sN s, sG s, sF s, I2, (if e.2.length ≤ 1 then sC s else e :: sC s), sM s, sRw s), ⟨h1, h2, h3, g2, fun c hc => ?_, h6, h7, h8⟩, ⟨rfl, rfl, rfl, rfl⟩, hk⟩
  have hc : c ∈ (if e.2.length ≤ 1 then sC s else e :: sC s) := hc
  split at hc
  · exact h5 c hc
  · rcases List.mem_cons.mp hc with rfl | hc
    · exact he
    · exact h5 c hc
/-- what is said of what and gives: not more than the second; the next part of a set -/
def vAndC (o : Nat) (a b r : lT) (s : vSt) (kk : vSt → Bool) : Bool :=
  if o = 3 ∧ b.2 ≠ [] ∧ lFit (sI s) b = true ∧ lGe (sI s) (sC s) b = true then vIf (vCo (lSub b r) s) (fun s2 =>
    if lFit (sI s2) (lAdd a b) && lGe (sI s2) (sC s2) (lAdd a b) && lGe (sI s2) (sC s2) (lSub (lK (-1)) a) then vIf (vCo (lSub (lSub r (lAdd a b)) (lK 1)) s2) kk else kk s2)
  else kk s
theorem vAndC_spec {KT : vKT} {ρ : Nat → Int} {σ : Nat → Nat} {ty : Nat → Option Nat} {H : List (XC Int32)} {s : vSt} (h : vRel KT ρ σ ty H s) {o : Nat} {a b r : lT} (hr : (x_bin o (Int32.ofInt (lEv ρ a)) (Int32.ofInt (lEv ρ b))).toInt = lEv ρ r) {kk : vSt → Bool} (hk : vAndC o a b r s kk = true) :
    ∃ s2, vRel KT ρ σ ty H s2 ∧ vSame0 s s2 ∧ kk s2 = true := by
  unfold vAndC at hk
  split at hk
  rotate_left
  · exact ⟨s, h, vSame0_rf s, hk⟩
  rename_i hc
  obtain ⟨c1, -, c2, c3⟩ := hc
  subst c1
  have f2 := lFit_spec h.2.2.2.1 c2
  have f3 := lGe_spec h.2.2.2.1 h.2.2.2.2.1 c3
  have hA := vAnd (x := Int32.ofInt (lEv ρ a)) (y := Int32.ofInt (lEv ρ b)) (by omega)
  have hr : (Int32.ofInt (lEv ρ a) &&& Int32.ofInt (lEv ρ b)).toInt = lEv ρ r := hr
  obtain ⟨s2, g1, g2, g3⟩ := vIf_spec h (e := lSub b r) (by rw [lSub_ev]; omega) hk
  split at g3
  · rename_i hq
    simp only [Bool.and_eq_true] at hq
    obtain ⟨⟨q1, q2⟩, q3⟩ := hq
    have q1 := lFit_spec g1.2.2.2.1 q1
    have q2 := lGe_spec g1.2.2.2.1 g1.2.2.2.2.1 q2
    have q3 := lGe_spec g1.2.2.2.1 g1.2.2.2.2.1 q3
    rw [lSub_ev, lK_ev] at q3
    rw [lAdd_ev] at q1 q2
    have e1 : Int32.ofInt (lEv ρ a) = Int32.ofInt (lEv ρ a + lEv ρ b) - Int32.ofInt (lEv ρ b) := by
      rw [← Int32.ofInt_sub]
      congr 1
      omega
    have hs := x_subset (s := Int32.ofInt (lEv ρ a + lEv ρ b)) (t := Int32.ofInt (lEv ρ b)) (by omega) (by omega)
    rw [← e1, hr, q1] at hs
    obtain ⟨s3, k1, k2, k3⟩ := vIf_spec g1 (e := lSub (lSub r (lAdd a b)) (lK 1)) (by rw [lSub_ev, lSub_ev, lAdd_ev, lK_ev]; omega) g3
    exact ⟨s3, k1, vSame0_tr g2 k2, k3⟩
  · exact ⟨s2, g1, g2, g3⟩
/-- what an operation gives: a sum, what it gave before, or a new unknown -/
def vNew (o : Nat) (a b : lT) (s : vSt) (kk : vSt → lT → Bool) : Bool := match mGet o a b (sM s) with
  | some r => kk s r
  | none => sBd s && lBd (sN s) a && lBd (sN s) b && vAndC o a b (lSy (sN s)) (vMk (o, a, b, lSy (sN s)) (vNi (vOp2 o (vR (sI s) a) (vR (sI s) b)) s)) (fun s2 => kk s2 (lSy (sN s)))
def vBin (o : Nat) (a b : lT) (s : vSt) (kk : vSt → lT → Bool) : Bool := match vLin o a b with
  | some r => if lFit (sI s) r then kk s r else vNew o a b s kk
  | none => vNew o a b s kk
theorem vNew_spec {KT : vKT} {ρ : Nat → Int} {σ : Nat → Nat} {ty : Nat → Option Nat} {H : List (XC Int32)} {s : vSt} (h : vRel KT ρ σ ty H s) {o : Nat} {a b : lT} {kk : vSt → lT → Bool} (hk : vNew o a b s kk = true) :
    ∃ ρ2 s2 r, vExt s s2 ρ ρ2 σ σ ∧ vRel KT ρ2 σ ty H s2 ∧ x_bin o (Int32.ofInt (lEv ρ a)) (Int32.ofInt (lEv ρ b)) = Int32.ofInt (lEv ρ2 r) ∧ kk s2 r = true := by
  unfold vNew at hk
  split at hk
  · rename_i r hr
    exact ⟨ρ, s, r, vExt_rf s ρ σ, h, mGet_spec h.2.2.2.2.2.1 hr, hk⟩
  · simp only [Bool.and_eq_true] at hk
    obtain ⟨⟨⟨hb, ha1⟩, hb1⟩, hk⟩ := hk
    have hx := vOp2_spec (o := o) (vR_spec h.2.2.2.1 a) (vR_spec h.2.2.2.1 b)
    obtain ⟨ρ2, g1, g2, g3⟩ := vNi_spec h hb hx
    have e : x_bin o (Int32.ofInt (lEv ρ a)) (Int32.ofInt (lEv ρ b)) = Int32.ofInt (lEv ρ2 (lSy (sN s))) := by
      rw [lSy_ev, g3, Int32.ofInt_toInt]
    have hm : mHd ρ2 (o, a, b, lSy (sN s)) := by
      unfold mHd
      rw [lBd_spec g1.1 ha1, lBd_spec g1.1 hb1]
      exact e
    have hs := vMk_spec g2 hm
    obtain ⟨s2, k1, k2, k3⟩ := vAndC_spec hs (by rw [lBd_spec g1.1 ha1, lBd_spec g1.1 hb1, lSy_ev, g3]) hk
    have x1 := vSame0_ext k2 ρ2 σ
    exact ⟨ρ2, s2, _, ⟨fun i hi => g1.1 i hi, g1.2.1, Nat.le_trans g1.2.2.1 x1.2.2.1, Nat.le_trans g1.2.2.2 x1.2.2.2⟩, k1, e, k3⟩
theorem vBin_spec {KT : vKT} {ρ : Nat → Int} {σ : Nat → Nat} {ty : Nat → Option Nat} {H : List (XC Int32)} {s : vSt} (h : vRel KT ρ σ ty H s) {o : Nat} {a b : lT} {kk : vSt → lT → Bool} (hk : vBin o a b s kk = true) :
    ∃ ρ2 s2 r, vExt s s2 ρ ρ2 σ σ ∧ vRel KT ρ2 σ ty H s2 ∧ x_bin o (Int32.ofInt (lEv ρ a)) (Int32.ofInt (lEv ρ b)) = Int32.ofInt (lEv ρ2 r) ∧ kk s2 r = true := by
  unfold vBin at hk
  split at hk
  · rename_i r hr
    split at hk
    · exact ⟨ρ, s, r, vExt_rf s ρ σ, h, vLin_spec ρ hr, hk⟩
    · exact vNew_spec h hk
  · exact vNew_spec h hk
/-- of one int: 0, 1: a byte, a short; 2: a char; 3: less -/
def vUn (o : Nat) (a : lT) (s : vSt) (kk : vSt → lT → Bool) : Bool :=
  if o = 3 then (if lFit (sI s) (lSc (-1) a) then kk s (lSc (-1) a) else sBd s && kk (vNi vTop s) (lSy (sN s)))
  else if o = 0 then sBd s && kk (vNi (-128, 127) s) (lSy (sN s))
  else if o = 1 then sBd s && kk (vNi (-32768, 32767) s) (lSy (sN s))
  else if o = 2 then (match lRn (sI s) a with
    | some t => if 0 ≤ t.1 ∧ t.2 ≤ 65535 then kk s a else sBd s && kk (vNi vTop s) (lSy (sN s))
    | none => sBd s && kk (vNi vTop s) (lSy (sN s)))
  else false
theorem vUn_spec {KT : vKT} {ρ : Nat → Int} {σ : Nat → Nat} {ty : Nat → Option Nat} {H : List (XC Int32)} {s : vSt} (h : vRel KT ρ σ ty H s) {o : Nat} {a : lT} {kk : vSt → lT → Bool} (hk : vUn o a s kk = true) :
    ∃ ρ2 s2 r, vExt s s2 ρ ρ2 σ σ ∧ vRel KT ρ2 σ ty H s2 ∧ x_un o (Int32.ofInt (lEv ρ a)) = Int32.ofInt (lEv ρ2 r) ∧ kk s2 r = true := by
  have fr : ∀ (p : Int × Int), vIn p (x_un o (Int32.ofInt (lEv ρ a))) → sBd s = true → kk (vNi p s) (lSy (sN s)) = true → ∃ ρ2 s2 r, vExt s s2 ρ ρ2 σ σ ∧ vRel KT ρ2 σ ty H s2 ∧ x_un o (Int32.ofInt (lEv ρ a)) = Int32.ofInt (lEv ρ2 r) ∧ kk s2 r = true := fun p hx hb hk => by
    obtain ⟨ρ2, g1, g2, g3⟩ := vNi_spec h hb hx
    exact ⟨ρ2, _, _, g1, g2, by rw [lSy_ev, g3, Int32.ofInt_toInt], hk⟩
  unfold vUn at hk
  split at hk
  · rename_i ho
    subst ho
    split at hk
    · refine ⟨ρ, s, _, vExt_rf s ρ σ, h, ?_, hk⟩
      rw [lSc_ev]
      show -(Int32.ofInt (lEv ρ a)) = _
      rw [← Int32.ofInt_neg]
      congr 1
      omega
    · have hk2 := Bool.and_eq_true_iff.mp hk
      exact fr _ (vTop_spec _) hk2.1 hk2.2
  split at hk
  · rename_i ho
    subst ho
    have hk2 := Bool.and_eq_true_iff.mp hk
    refine fr _ ?_ hk2.1 hk2.2
    have h1 := Int8.le_toInt (Int32.ofInt (lEv ρ a)).toInt8
    have h2 := Int8.toInt_lt (Int32.ofInt (lEv ρ a)).toInt8
    have e : (x_un 0 (Int32.ofInt (lEv ρ a))).toInt = (Int32.ofInt (lEv ρ a)).toInt8.toInt := Int8.toInt_toInt32 _
    constructor
    · rw [e]
      show (-128 : Int) ≤ _
      omega
    · rw [e]
      show _ ≤ (127 : Int)
      omega
  split at hk
  · rename_i ho
    subst ho
    have hk2 := Bool.and_eq_true_iff.mp hk
    refine fr _ ?_ hk2.1 hk2.2
    have h1 := Int16.le_toInt (Int32.ofInt (lEv ρ a)).toInt16
    have h2 := Int16.toInt_lt (Int32.ofInt (lEv ρ a)).toInt16
    have e : (x_un 1 (Int32.ofInt (lEv ρ a))).toInt = (Int32.ofInt (lEv ρ a)).toInt16.toInt := Int16.toInt_toInt32 _
    constructor
    · rw [e]
      show (-32768 : Int) ≤ _
      omega
    · rw [e]
      show _ ≤ (32767 : Int)
      omega
  split at hk
  · rename_i ho
    subst ho
    split at hk
    · rename_i t ht
      split at hk
      · rename_i hh
        have h1 := lRn_spec h.2.2.2.1 ht
        refine ⟨ρ, s, a, vExt_rf s ρ σ, h, ?_, hk⟩
        generalize lEv ρ a = n at h1
        obtain ⟨k, rfl⟩ : ∃ k : Nat, n = (k : Int) := ⟨n.toNat, by omega⟩
        have hk : k < 65536 := by omega
        have h3 : ∀ x : UInt32, x.toNat < 65536 → (x % 65536) = x := fun x hx => UInt32.toNat_inj.mp (by
          rw [UInt32.toNat_mod]
          exact Nat.mod_eq_of_lt hx)
        show ((Int32.ofInt (k : Int)).toUInt32 % 65536).toInt32 = Int32.ofInt (k : Int)
        rw [h3]
        · rfl
        · have e2 : (Int32.ofInt (k : Int)).toInt = (k : Int) := ofInt_toInt (by omega) (by omega)
          have e3 := x_nn (x := Int32.ofInt (k : Int)) (by omega)
          show (Int32.ofInt (k : Int)).toBitVec.toNat < 65536
          omega
      · have hk2 := Bool.and_eq_true_iff.mp hk
        exact fr _ (vTop_spec _) hk2.1 hk2.2
    · have hk2 := Bool.and_eq_true_iff.mp hk
      exact fr _ (vTop_spec _) hk2.1 hk2.2
  · cases hk
/-- e at least 0, or below -/
def vAsk (e : lT) (s : vSt) (kt kf : vSt → Bool) : Bool :=
  if lGe (sI s) (sC s) e then kt s else if lGe (sI s) (sC s) (lSub (lK (-1)) e) then kf s
  else vIf (vCo e s) kt && vIf (vCo (lSub (lK (-1)) e) s) kf
theorem vAsk_spec {KT : vKT} {ρ : Nat → Int} {σ : Nat → Nat} {ty : Nat → Option Nat} {H : List (XC Int32)} {s : vSt} (h : vRel KT ρ σ ty H s) {e : lT} {kt kf : vSt → Bool} (hk : vAsk e s kt kf = true) :
    ∃ s2, vRel KT ρ σ ty H s2 ∧ vSame0 s s2 ∧ ((0 ≤ lEv ρ e ∧ kt s2 = true) ∨ (lEv ρ e < 0 ∧ kf s2 = true)) := by
  unfold vAsk at hk
  split at hk
  · rename_i hd
    exact ⟨s, h, vSame0_rf s, Or.inl ⟨lGe_spec h.2.2.2.1 h.2.2.2.2.1 hd, hk⟩⟩
  split at hk
  · rename_i hd
    have h1 := lGe_spec h.2.2.2.1 h.2.2.2.2.1 hd
    rw [lSub_ev, lK_ev] at h1
    exact ⟨s, h, vSame0_rf s, Or.inr ⟨by omega, hk⟩⟩
  · have hk2 := Bool.and_eq_true_iff.mp hk
    by_cases hr : 0 ≤ lEv ρ e
    · obtain ⟨s2, g1, g2, g3⟩ := vIf_spec h hr hk2.1
      exact ⟨s2, g1, g2, Or.inl ⟨hr, g3⟩⟩
    · obtain ⟨s2, g1, g2, g3⟩ := vIf_spec h (e := lSub (lK (-1)) e) (by rw [lSub_ev, lK_ev]; omega) hk2.2
      exact ⟨s2, g1, g2, Or.inr ⟨by omega, g3⟩⟩
/-- d is 0, or not -/
def vAskE (d : lT) (s : vSt) (kt kf : vSt → Bool) : Bool :=
  if lGe (sI s) (sC s) d then (if lGe (sI s) (sC s) (lSc (-1) d) then kt s else if lGe (sI s) (sC s) (lSub d (lK 1)) then kf s
    else vIf (vCo (lSc (-1) d) s) kt && vIf (vCo (lSub d (lK 1)) s) kf)
  else if lGe (sI s) (sC s) (lSc (-1) d) then (if lGe (sI s) (sC s) (lSub (lK (-1)) d) then kf s
    else vIf (vCo d s) kt && vIf (vCo (lSub (lK (-1)) d) s) kf)
  else vIf (vCo d s) (fun s2 => vIf (vCo (lSc (-1) d) s2) kt) && kf s
theorem vAskE_spec {KT : vKT} {ρ : Nat → Int} {σ : Nat → Nat} {ty : Nat → Option Nat} {H : List (XC Int32)} {s : vSt} (h : vRel KT ρ σ ty H s) {d : lT} {kt kf : vSt → Bool} (hk : vAskE d s kt kf = true) :
    ∃ s2, vRel KT ρ σ ty H s2 ∧ vSame0 s s2 ∧ ((lEv ρ d = 0 ∧ kt s2 = true) ∨ (lEv ρ d ≠ 0 ∧ kf s2 = true)) := by
  have ge : ∀ {e : lT}, lGe (sI s) (sC s) e = true → 0 ≤ lEv ρ e := fun he => lGe_spec h.2.2.2.1 h.2.2.2.2.1 he
  have e1 : lEv ρ (lSc (-1) d) = - lEv ρ d := by rw [lSc_ev]; omega
  have e2 : lEv ρ (lSub d (lK 1)) = lEv ρ d - 1 := by rw [lSub_ev, lK_ev]
  have e3 : lEv ρ (lSub (lK (-1)) d) = -1 - lEv ρ d := by rw [lSub_ev, lK_ev]
  unfold vAskE at hk
  split at hk
  · rename_i h0
    have h0 := ge h0
    split at hk
    · rename_i h1
      have h1 := ge h1
      exact ⟨s, h, vSame0_rf s, Or.inl ⟨by omega, hk⟩⟩
    split at hk
    · rename_i h1
      have h1 := ge h1
      exact ⟨s, h, vSame0_rf s, Or.inr ⟨by omega, hk⟩⟩
    · have hk2 := Bool.and_eq_true_iff.mp hk
      by_cases hr : lEv ρ d = 0
      · obtain ⟨s2, g1, g2, g3⟩ := vIf_spec h (e := lSc (-1) d) (by omega) hk2.1
        exact ⟨s2, g1, g2, Or.inl ⟨hr, g3⟩⟩
      · obtain ⟨s2, g1, g2, g3⟩ := vIf_spec h (e := lSub d (lK 1)) (by omega) hk2.2
        exact ⟨s2, g1, g2, Or.inr ⟨hr, g3⟩⟩
  split at hk
  · rename_i h0
    have h0 := ge h0
    split at hk
    · rename_i h1
      have h1 := ge h1
      exact ⟨s, h, vSame0_rf s, Or.inr ⟨by omega, hk⟩⟩
    · have hk2 := Bool.and_eq_true_iff.mp hk
      by_cases hr : lEv ρ d = 0
      · obtain ⟨s2, g1, g2, g3⟩ := vIf_spec h (e := d) (by omega) hk2.1
        exact ⟨s2, g1, g2, Or.inl ⟨hr, g3⟩⟩
      · obtain ⟨s2, g1, g2, g3⟩ := vIf_spec h (e := lSub (lK (-1)) d) (by omega) hk2.2
        exact ⟨s2, g1, g2, Or.inr ⟨hr, g3⟩⟩
  · have hk2 := Bool.and_eq_true_iff.mp hk
    by_cases hr : lEv ρ d = 0
    · obtain ⟨s2, g1, g2, g3⟩ := vIf_spec h (e := d) (by omega) hk2.1
      obtain ⟨s3, k1, k2, k3⟩ := vIf_spec g1 (e := lSc (-1) d) (by omega) g3
      exact ⟨s3, k1, vSame0_tr g2 k2, Or.inl ⟨hr, k3⟩⟩
    · exact ⟨s, h, vSame0_rf s, Or.inr ⟨hr, hk2.2⟩⟩
/-- a question of two ints -/
def vBr (o : Nat) (a b : lT) (s : vSt) (kt kf : vSt → Bool) : Bool :=
  if lFit (sI s) a && lFit (sI s) b then (match o with
    | 0 => vAskE (lSub a b) s kt kf
    | 1 => vAskE (lSub a b) s kf kt
    | 2 => vAsk (lSub (lSub b a) (lK 1)) s kt kf
    | 3 => vAsk (lSub a b) s kt kf
    | 4 => vAsk (lSub (lSub a b) (lK 1)) s kt kf
    | _ => vAsk (lSub b a) s kt kf)
  else kt s && kf s
theorem vBr_spec {KT : vKT} {ρ : Nat → Int} {σ : Nat → Nat} {ty : Nat → Option Nat} {H : List (XC Int32)} {s : vSt} (h : vRel KT ρ σ ty H s) {o : Nat} {a b : lT} {kt kf : vSt → Bool} (hk : vBr o a b s kt kf = true) :
    ∃ s2, vRel KT ρ σ ty H s2 ∧ vSame0 s s2 ∧ ((x_cmp o (Int32.ofInt (lEv ρ a)) (Int32.ofInt (lEv ρ b)) = true ∧ kt s2 = true) ∨ (x_cmp o (Int32.ofInt (lEv ρ a)) (Int32.ofInt (lEv ρ b)) = false ∧ kf s2 = true)) := by
  unfold vBr at hk
  split at hk
  rotate_left
  · have hk2 := Bool.and_eq_true_iff.mp hk
    by_cases c : x_cmp o (Int32.ofInt (lEv ρ a)) (Int32.ofInt (lEv ρ b)) = true
    · exact ⟨s, h, vSame0_rf s, Or.inl ⟨c, hk2.1⟩⟩
    · exact ⟨s, h, vSame0_rf s, Or.inr ⟨Bool.eq_false_iff.mpr c, hk2.2⟩⟩
  rename_i hf
  have hf2 := Bool.and_eq_true_iff.mp hf
  have fa := lFit_spec h.2.2.2.1 hf2.1
  have fb := lFit_spec h.2.2.2.1 hf2.2
  have eqv : Int32.ofInt (lEv ρ a) = Int32.ofInt (lEv ρ b) ↔ lEv ρ a = lEv ρ b := ⟨fun e => by rw [← fa, e, fb], fun e => by rw [e]⟩
  have ltv : Int32.ofInt (lEv ρ a) < Int32.ofInt (lEv ρ b) ↔ lEv ρ a < lEv ρ b := by rw [Int32.lt_iff_toInt_lt, fa, fb]
  have gtv : Int32.ofInt (lEv ρ b) < Int32.ofInt (lEv ρ a) ↔ lEv ρ b < lEv ρ a := by rw [Int32.lt_iff_toInt_lt, fa, fb]
  have lev : Int32.ofInt (lEv ρ a) ≤ Int32.ofInt (lEv ρ b) ↔ lEv ρ a ≤ lEv ρ b := by rw [Int32.le_iff_toInt_le, fa, fb]
  have gev : Int32.ofInt (lEv ρ b) ≤ Int32.ofInt (lEv ρ a) ↔ lEv ρ b ≤ lEv ρ a := by rw [Int32.le_iff_toInt_le, fa, fb]
  have sb : lEv ρ (lSub a b) = lEv ρ a - lEv ρ b := lSub_ev ρ a b
  have sa : lEv ρ (lSub b a) = lEv ρ b - lEv ρ a := lSub_ev ρ b a
  have sb1 : lEv ρ (lSub (lSub a b) (lK 1)) = lEv ρ a - lEv ρ b - 1 := by rw [lSub_ev, lSub_ev, lK_ev]
  have sa1 : lEv ρ (lSub (lSub b a) (lK 1)) = lEv ρ b - lEv ρ a - 1 := by rw [lSub_ev, lSub_ev, lK_ev]
  split at hk
  · obtain ⟨s2, g0, g1, g2⟩ := vAskE_spec h hk
    refine ⟨s2, g0, g1, ?_⟩
    rcases g2 with ⟨z1, z2⟩ | ⟨z1, z2⟩
    · exact Or.inl ⟨decide_eq_true (eqv.mpr (by omega)), z2⟩
    · exact Or.inr ⟨decide_eq_false (fun e => by have := eqv.mp e; omega), z2⟩
  · obtain ⟨s2, g0, g1, g2⟩ := vAskE_spec h hk
    refine ⟨s2, g0, g1, ?_⟩
    rcases g2 with ⟨z1, z2⟩ | ⟨z1, z2⟩
    · exact Or.inr ⟨decide_eq_false (fun e => e (eqv.mpr (by omega))), z2⟩
    · exact Or.inl ⟨decide_eq_true (fun e => by have := eqv.mp e; omega), z2⟩
  · obtain ⟨s2, g0, g1, g2⟩ := vAsk_spec h hk
    refine ⟨s2, g0, g1, ?_⟩
    rcases g2 with ⟨z1, z2⟩ | ⟨z1, z2⟩
    · exact Or.inl ⟨decide_eq_true (ltv.mpr (by omega)), z2⟩
    · exact Or.inr ⟨decide_eq_false (fun e => by have := ltv.mp e; omega), z2⟩
  · obtain ⟨s2, g0, g1, g2⟩ := vAsk_spec h hk
    refine ⟨s2, g0, g1, ?_⟩
    rcases g2 with ⟨z1, z2⟩ | ⟨z1, z2⟩
    · exact Or.inl ⟨decide_eq_true (gev.mpr (by omega)), z2⟩
    · exact Or.inr ⟨decide_eq_false (fun e => by have := gev.mp e; omega), z2⟩
  · obtain ⟨s2, g0, g1, g2⟩ := vAsk_spec h hk
    refine ⟨s2, g0, g1, ?_⟩
    rcases g2 with ⟨z1, z2⟩ | ⟨z1, z2⟩
    · exact Or.inl ⟨decide_eq_true (gtv.mpr (by omega)), z2⟩
    · exact Or.inr ⟨decide_eq_false (fun e => by have := gtv.mp e; omega), z2⟩
  · rename_i o' h0 h1 h2 h3 h4
    have e0 : ∀ x y : Int32, x_cmp o x y = decide (x ≤ y) := fun x y => by
      unfold x_cmp
      split <;> first | rfl | (exfalso; simp_all; done)
    obtain ⟨s2, g0, g1, g2⟩ := vAsk_spec h hk
    refine ⟨s2, g0, g1, ?_⟩
    rw [e0]
    rcases g2 with ⟨z1, z2⟩ | ⟨z1, z2⟩
    · exact Or.inl ⟨decide_eq_true (lev.mpr (by omega)), z2⟩
    · exact Or.inr ⟨decide_eq_false (fun e => by have := lev.mp e; omega), z2⟩
/-- value by value, so many from v on -/
def vSpl (l : lT) (kk : vSt → Bool) : Nat → Int → vSt → Bool
  | 0, _, s => kk s
  | n + 1, v, s => vAskE (lSub l (lK v)) s kk (fun s2 => vSpl l kk n (v + 1) s2)
theorem vSpl_spec {KT : vKT} {ρ : Nat → Int} {σ : Nat → Nat} {ty : Nat → Option Nat} {H : List (XC Int32)} {l : lT} {kk : vSt → Bool} : ∀ (n : Nat) (v : Int) {s : vSt}, vRel KT ρ σ ty H s → vSpl l kk n v s = true → ∃ s2, vRel KT ρ σ ty H s2 ∧ vSame0 s s2 ∧ kk s2 = true
  | 0, _, s, h, hk => ⟨s, h, vSame0_rf s, hk⟩
  | n + 1, v, s, h, hk => by
    obtain ⟨s2, g0, g1, g2⟩ := vAskE_spec h hk
    rcases g2 with ⟨-, z⟩ | ⟨-, z⟩
    · exact ⟨s2, g0, g1, z⟩
    · obtain ⟨s3, k0, k1, k2⟩ := vSpl_spec n (v + 1) g0 z
      exact ⟨s3, k0, vSame0_tr g1 k1, k2⟩
/-- surely not below 0, by two of what holds at most -/
def lGe2 (I : lI) (C : List lT) (e : lT) : Bool := lGe I C e || C.any (fun c => C.any (fun d => match lRn I (lSub (lSub e c) d) with
  | none => false
  | some q => decide (0 ≤ q.1)))
theorem lGe2_spec {ρ : Nat → Int} {I : lI} (hI : iHd ρ I) {C : List lT} (hC : ∀ c ∈ C, 0 ≤ lEv ρ c) {e : lT} (h : lGe2 I C e = true) : 0 ≤ lEv ρ e := by
  rcases Bool.or_eq_true_iff.mp h with h | h
  · exact lGe_spec hI hC h
  · obtain ⟨c, hc, h⟩ := List.any_eq_true.mp h
    obtain ⟨d, hd, h⟩ := List.any_eq_true.mp h
    have h2 := hC c hc
    have h3 := hC d hd
    split at h
    · cases h
    rename_i q hq
    have h4 := lRn_spec hI hq
    rw [lSub_ev, lSub_ev] at h4
    have := of_decide_eq_true h
    omega
def lCf (i : Nat) : List (Nat × Int) → Int
  | [] => 0
  | p :: r => if p.1 = i then p.2 else lCf i r
/-- surely not below 0, by so much of one of what holds as its first unknown tells -/
def lGe3 (I : lI) (C : List lT) (e : lT) : Bool := lGe I C e || C.any (fun c => match c.2 with
  | [] => false
  | p :: _ => decide (0 ≤ lCf p.1 e.2 / p.2) && (match lRn I (lSub e (lSc (lCf p.1 e.2 / p.2) c)) with
    | none => false
    | some q => decide (0 ≤ q.1)))
theorem lGe3_spec {ρ : Nat → Int} {I : lI} (hI : iHd ρ I) {C : List lT} (hC : ∀ c ∈ C, 0 ≤ lEv ρ c) {e : lT} (h : lGe3 I C e = true) : 0 ≤ lEv ρ e := by
  rcases Bool.or_eq_true_iff.mp h with h | h
  · exact lGe_spec hI hC h
  · obtain ⟨c, hc, h⟩ := List.any_eq_true.mp h
    have h2 := hC c hc
    split at h
    · cases h
    rename_i p r hp
    have h3 := Bool.and_eq_true_iff.mp h
    have h4 := of_decide_eq_true h3.1
    have h5 := h3.2
    split at h5
    · cases h5
    rename_i q hq
    have h6 := lRn_spec hI hq
    rw [lSub_ev, lSc_ev] at h6
    have h7 := of_decide_eq_true h5
    have h8 := Int.mul_nonneg h4 h2
    omega
/-- an index that is surely one of n -/
def vIdx (e : lT) (n : Nat) (s : vSt) : Bool := decide (n ≤ 1000000) && lGe (sI s) (sC s) e && lGe2 (sI s) (sC s) (lSub (lK ((n : Int) - 1)) e)
theorem vIdx_spec {KT : vKT} {ρ : Nat → Int} {σ : Nat → Nat} {ty : Nat → Option Nat} {H : List (XC Int32)} {s : vSt} (h : vRel KT ρ σ ty H s) {e : lT} {n : Nat} (hk : vIdx e n s = true) : (decide (Int32.ofInt (lEv ρ e) < 0) || decide (n ≤ (Int32.ofInt (lEv ρ e)).toNatClampNeg)) = false ∧ (lEv ρ e).toNat < n ∧ 0 ≤ lEv ρ e ∧ (Int32.ofInt (lEv ρ e)).toNatClampNeg = (lEv ρ e).toNat := by
  unfold vIdx at hk
  simp only [Bool.and_eq_true] at hk
  obtain ⟨⟨k1, k2⟩, k3⟩ := hk
  have k1 := of_decide_eq_true k1
  have k2 := lGe_spec h.2.2.2.1 h.2.2.2.2.1 k2
  have k3 := lGe2_spec h.2.2.2.1 h.2.2.2.2.1 k3
  rw [lSub_ev, lK_ev] at k3
  have e0 : (Int32.ofInt (lEv ρ e)).toInt = lEv ρ e := ofInt_toInt (by omega) (by omega)
  have e1 : (Int32.ofInt (lEv ρ e)).toNatClampNeg = (lEv ρ e).toNat := by
    show (Int32.ofInt (lEv ρ e)).toInt.toNat = _
    rw [e0]
  refine ⟨?_, by omega, k2, e1⟩
  rw [Bool.or_eq_false_iff]
  refine ⟨decide_eq_false (fun z => ?_), decide_eq_false (by omega)⟩
  have z2 : (Int32.ofInt (lEv ρ e)).toInt < (0 : Int) := Int32.lt_iff_toInt_lt.mp z
  omega
/-- what an element at e may be -/
def vRes (fs : List vF) (e : lT) : Option vF :=
  if fs.length = 1 then fs[0]?
  else if e.2.all (fun p => decide (p.2 % (fs.length : Int) = 0)) then fs[(e.1 % (fs.length : Int)).toNat]? else none
theorem vRes_spec {ρ : Nat → Int} {fs : List vF} {e : lT} {f : vF} (h0 : 0 ≤ lEv ρ e) (h : vRes fs e = some f) : vEl fs (lEv ρ e).toNat = some f := by
  unfold vRes at h
  unfold vEl
  split at h
  · rename_i hl
    rw [hl, Nat.mod_one]
    exact h
  split at h
  · rename_i hd
    have hz : ∀ l : List (Nat × Int), l.all (fun p => decide (p.2 % (fs.length : Int) = 0)) = true → lS ρ l % (fs.length : Int) = 0 := by
      intro l
      induction l with
      | nil => intro _; exact Int.zero_emod _
      | cons p r ih =>
        intro hp
        rw [List.all_cons] at hp
        have hp2 := Bool.and_eq_true_iff.mp hp
        have h1 : p.2 % (fs.length : Int) = 0 := of_decide_eq_true hp2.1
        show (p.2 * ρ p.1 + lS ρ r) % (fs.length : Int) = 0
        rw [Int.add_emod, Int.mul_emod, h1, ih hp2.2, Int.zero_mul, Int.zero_emod, Int.zero_add, Int.zero_emod]
    have h1 := hz e.2 hd
    have e1 : lEv ρ e % (fs.length : Int) = e.1 % (fs.length : Int) := by
      show (e.1 + lS ρ e.2) % _ = _
      rw [Int.add_emod, h1, Int.add_zero, Int.emod_emod]
    have e2 : (lEv ρ e).toNat % fs.length = (e.1 % (fs.length : Int)).toNat := by
      rw [← e1, Int.toNat_emod h0 (Int.natCast_nonneg _)]
      rfl
    rw [e2]
    exact h
  · cases h
end XOps
end
section
/-! Reading, writing, making, of a state in symbols; what stays as it was. -/
section XHeap
/-- written places: a kind, 0 for its elements, else a field and one -/
def wIn (W : List (Nat × Nat)) (c k : Nat) : Bool := W.any (fun w => decide (w.1 = c) && decide (w.2 = k))
/-- as it was; or (m) elements that are 1 now, too -/
def vMonV (m : Bool) (a b : List (XV Int32)) : Prop := if m = true then b.length = a.length ∧ ∀ j : Nat, b[j]? = a[j]? ∨ (j < a.length ∧ b[j]? = some (.inl 1)) else b = a
theorem vMonV_rf (m : Bool) (a : List (XV Int32)) : vMonV m a a := by
  unfold vMonV
  split
  · exact ⟨rfl, fun _ => Or.inl rfl⟩
  · rfl
theorem vMonV_tr {m m2 : Bool} (hm : m2 = true → m = true) {a b c : List (XV Int32)} (h : vMonV m a b) (g : vMonV m2 b c) : vMonV m a c := by
  unfold vMonV at h g ⊢
  cases m
  · have e : m2 = false := by
      cases m2
      · rfl
      · exact absurd (hm rfl) (by decide)
    subst e
    rw [if_neg (by decide)] at h g ⊢
    rw [g, h]
  · rw [if_pos rfl] at h ⊢
    cases m2
    · rw [if_neg (by decide)] at g
      subst g
      exact h
    · rw [if_pos rfl] at g
      refine ⟨g.1.trans h.1, fun j => ?_⟩
      rcases g.2 j with g2 | ⟨g2, g3⟩
      · rcases h.2 j with h2 | ⟨h2, h3⟩
        · exact Or.inl (g2.trans h2)
        · exact Or.inr ⟨h2, g2.trans h3⟩
      · exact Or.inr ⟨by rw [← h.1]; exact g2, g3⟩
theorem vMonV_set (a : List (XV Int32)) (i : Nat) : vMonV true a (a.set i (.inl 1)) := by
  unfold vMonV
  rw [if_pos rfl]
  refine ⟨List.length_set .., fun j => ?_⟩
  by_cases e : i = j
  · subst e
    by_cases hl : i < a.length
    · exact Or.inr ⟨hl, List.getElem?_set_self hl⟩
    · refine Or.inl ?_
      rw [List.getElem?_eq_none (by rw [List.length_set]; omega), List.getElem?_eq_none (by omega)]
  · exact Or.inl (List.getElem?_set_ne e)
def vSameC (W : List (Nat × Nat)) (c : Nat) : XC Int32 → XC Int32 → Prop
  | .inl o, .inl p => p.1 = o.1 ∧ p.2.length = o.2.length ∧ ∀ j, wIn W c (j + 1) = false → p.2[j]? = o.2[j]?
  | .inr o, .inr p => p.1 = o.1 ∧ (wIn W c 0 = false → vMonV (wIn W c 1) o.2 p.2)
  | _, _ => False
theorem vSameC_rf (W : List (Nat × Nat)) (c : Nat) (z : XC Int32) : vSameC W c z z := by
  rcases z with z | z
  · exact ⟨rfl, rfl, fun _ _ => rfl⟩
  · exact ⟨rfl, fun _ => vMonV_rf _ _⟩
theorem vSameC_tr {W W2 : List (Nat × Nat)} {c : Nat} (hW : ∀ k, wIn W2 c k = true → wIn W c k = true) {x y z : XC Int32} (h : vSameC W c x y) (g : vSameC W2 c y z) : vSameC W c x z := by
  have hn : ∀ k, wIn W c k = false → wIn W2 c k = false := fun k hk => by
    cases h2 : wIn W2 c k
    · rfl
    · rw [hW k h2] at hk
      cases hk
  rcases x with x | x <;> rcases y with y | y <;> rcases z with z | z <;> first | (exact h.elim) | (exact g.elim) | skip
  · exact ⟨g.1.trans h.1, g.2.1.trans h.2.1, fun j hj => (g.2.2 j (hn _ hj)).trans (h.2.2 j hj)⟩
  · exact ⟨g.1.trans h.1, fun hj => vMonV_tr (hW 1) (h.2 hj) (g.2 (hn _ hj))⟩
/-- what isn't written is as it was -/
def vFrm (W : List (Nat × Nat)) (ty : Nat → Option Nat) (H H2 : List (XC Int32)) : Prop := ∀ (a c : Nat) (z : XC Int32), ty a = some c → H[a]? = some z → ∃ z2, H2[a]? = some z2 ∧ vSameC W c z z2
theorem vFrm_rf (W : List (Nat × Nat)) (ty : Nat → Option Nat) (H : List (XC Int32)) : vFrm W ty H H := fun _ c z _ h => ⟨z, h, vSameC_rf W c z⟩
theorem vFrm_set {W : List (Nat × Nat)} {ty0 ty : Nat → Option Nat} {H0 H : List (XC Int32)} (h : vFrm W ty0 H0 H) (hle : vLe ty0 ty) {a c : Nat} {z z2 : XC Int32} (ha : ty a = some c) (hz : H[a]? = some z) (hs : vSameC W c z z2) : vFrm W ty0 H0 (H.set a z2) := by
  intro b d y hb hy
  obtain ⟨y2, g1, g2⟩ := h b d y hb hy
  by_cases e : a = b
  · subst e
    have := hle a d hb
    rw [ha] at this
    cases this
    rw [hz] at g1
    cases g1
    exact ⟨z2, List.getElem?_set_self (List.getElem?_eq_some_iff.mp hz).1, vSameC_tr (fun _ h => h) g2 hs⟩
  · exact ⟨y2, by rw [List.getElem?_set_ne e]; exact g1, g2⟩
theorem vFrm_app {W : List (Nat × Nat)} {ty0 : Nat → Option Nat} {H0 H : List (XC Int32)} (h : vFrm W ty0 H0 H) (l : List (XC Int32)) : vFrm W ty0 H0 (H ++ l) := fun b d y hb hy => by
  obtain ⟨y2, g1, g2⟩ := h b d y hb hy
  exact ⟨y2, by rw [List.getElem?_append_left (List.getElem?_eq_some_iff.mp g1).1]; exact g1, g2⟩
theorem vFrm_tr {W W2 : List (Nat × Nat)} {ty0 ty : Nat → Option Nat} {H0 H H2 : List (XC Int32)} (h : vFrm W ty0 H0 H) (hle : vLe ty0 ty) (hW : ∀ c k, wIn W2 c k = true → wIn W c k = true) (g : vFrm W2 ty H H2) : vFrm W ty0 H0 H2 := fun b d y hb hy => by
  obtain ⟨y2, g1, g2⟩ := h b d y hb hy
  obtain ⟨y3, k1, k2⟩ := g b d y2 (hle b d hb) g1
  exact ⟨y3, k1, vSameC_tr (hW d) g2 k2⟩
theorem vLe_rf (ty : Nat → Option Nat) : vLe ty ty := fun _ _ h => h
theorem vLe_tr {t1 t2 t3 : Nat → Option Nat} (h : vLe t1 t2) (g : vLe t2 t3) : vLe t1 t3 := fun a c z => g a c (h a c z)
/-- what a place holds: known, or new by its kind (null and not, where it may be) -/
def vRd (f : vF) (i : Nat) (key : Nat ⊕ lT) (nn : Bool) (s : vSt) (kk : vSt → vA → Bool) : Bool := match fGet i key (sF s) with
  | some v => kk s v
  | none => sBd s && fBd (sN s) (sG s).length (i, key, .inr none) && (match f with
    | .inl p => if p.1 = p.2 then kk (vKn (i, key, .inl (lK p.1)) s) (.inl (lK p.1)) else kk (vKn (i, key, .inl (lSy (sN s))) (vNi p s)) (.inl (lSy (sN s)))
    | .inr q => kk (vKn (i, key, .inr (some (sG s).length)) (vNr q.2 s)) (.inr (some (sG s).length)) && (!q.1 || nn || kk (vKn (i, key, .inr none) s) (.inr none)))
theorem vRd_spec {KT : vKT} {ρ : Nat → Int} {σ : Nat → Nat} {ty : Nat → Option Nat} {H : List (XC Int32)} {s : vSt} (h : vRel KT ρ σ ty H s) {f : vF} {i : Nat} {key : Nat ⊕ lT} {nn : Bool} {u : XV Int32} (hp : vPlace ρ σ H i key u) (hu : vFit ty f u) (hnn : nn = true → u ≠ .inr none) {kk : vSt → vA → Bool} (hk : vRd f i key nn s kk = true) :
    ∃ ρ2 σ2 s2 v, vExt s s2 ρ ρ2 σ σ2 ∧ vRel KT ρ2 σ2 ty H s2 ∧ cv ρ2 σ2 v = u ∧ kk s2 v = true := by
  unfold vRd at hk
  split at hk
  · rename_i v hv
    exact ⟨ρ, σ, s, v, vExt_rf s ρ σ, h, vPlace_one (fGet_spec h.2.2.1 hv) hp, hk⟩
  · have hk2 := Bool.and_eq_true_iff.mp hk
    have hk3 := Bool.and_eq_true_iff.mp hk2.1
    have hlt := (sBd_spec hk3.1).1
    rcases f with p | q
    · have hk4 : (if p.1 = p.2 then kk (vKn (i, key, .inl (lK p.1)) s) (.inl (lK p.1)) else kk (vKn (i, key, .inl (lSy (sN s))) (vNi p s)) (.inl (lSy (sN s)))) = true := hk2.2
      rcases u with x | u
      · have hu : p.1 ≤ x.toInt ∧ x.toInt ≤ p.2 := hu
        split at hk4
        · rename_i hpp
          have e : cv ρ σ (.inl (lK p.1)) = .inl x := by
            show (Sum.inl (Int32.ofInt (lEv ρ (lK p.1))) : XV Int32) = _
            rw [lK_ev, show p.1 = x.toInt by omega, Int32.ofInt_toInt]
          refine ⟨ρ, σ, vKn (i, key, .inl (lK p.1)) s, .inl (lK p.1), vExt_eq ρ σ rfl rfl, vKn_spec h ?_, e, hk4⟩
          unfold vHolds
          rw [e]
          exact hp
        · obtain ⟨ρ2, g1, g2, g3⟩ := vNi_spec h hk3.1 hu
          have e : cv ρ2 σ (.inl (lSy (sN s))) = .inl x := by
            show (Sum.inl (Int32.ofInt (lEv ρ2 (lSy (sN s)))) : XV Int32) = _
            rw [lSy_ev, g3, Int32.ofInt_toInt]
          refine ⟨ρ2, σ, vKn (i, key, .inl (lSy (sN s))) (vNi p s), .inl (lSy (sN s)), ⟨g1.1, g1.2.1, g1.2.2.1, g1.2.2.2⟩, vKn_spec g2 ?_, e, hk4⟩
          unfold vHolds
          rw [e]
          exact vPlace_ext g1.1 g1.2.1 hk3.2 hp
      · rcases u with _ | a
        · exact hu.elim
        · exact hu.elim
    · have hk4 := Bool.and_eq_true_iff.mp hk2.2
      rcases u with x | (_ | a)
      · exact hu.elim
      · have hq : q.1 = true := hu
        have hk5 : (!q.1 || nn || kk (vKn (i, key, .inr none) s) (.inr none)) = true := hk4.2
        have hnn2 : nn = false := by
          cases nn
          · rfl
          · exact (hnn rfl rfl).elim
        rw [hq, hnn2] at hk5
        have hk5 : kk (vKn (i, key, .inr none) s) (.inr none) = true := hk5
        exact ⟨ρ, σ, vKn (i, key, .inr none) s, .inr none, vExt_eq ρ σ rfl rfl, vKn_spec h hp, rfl, hk5⟩
      · obtain ⟨σ2, g1, g2, g3⟩ := vNr_spec h hk3.1 (a := a) (c := q.2) hu
        have e : cv ρ σ2 (.inr (some (sG s).length)) = .inr (some a) := congrArg (fun z => Sum.inr (some z)) g3
        refine ⟨ρ, σ2, vKn (i, key, .inr (some (sG s).length)) (vNr q.2 s), .inr (some (sG s).length), ⟨g1.1, g1.2.1, g1.2.2.1, g1.2.2.2⟩, vKn_spec g2 ?_, e, hk4.1⟩
        unfold vHolds
        rw [e]
        exact vPlace_ext g1.1 g1.2.1 hk3.2 hp
/-- the row is a counted one, and the place counts -/
def vNnQ (KT : vKT) (i : Nat) (e : lT) (s : vSt) : Bool := (sF s).any (fun f => match f.2.1, f.2.2 with
  | .inl j, .inr (some b) => decide (j = KT.2.1.2.2.1) && decide (b = i) && decide ((sG s)[f.1]? = some KT.2.1.1) && (match fGet f.1 (.inl KT.2.1.2.1) (sF s) with
    | some (.inl n) => lFit (sI s) n && lGe (sI s) (sC s) (lSub (lSub n e) (lK 1))
    | _ => false)
  | _, _ => false)
theorem vNnQ_spec {KT : vKT} {ρ : Nat → Int} {σ : Nat → Nat} {ty : Nat → Option Nat} {H : List (XC Int32)} {s : vSt} (h : vRel KT ρ σ ty H s) {i : Nat} {e : lT} (hk : vNnQ KT i e s = true) (h0 : 0 ≤ lEv ρ e) : ∃ t vs p, H[sR σ i]? = some (.inr (t, vs)) ∧ vs[(lEv ρ e).toNat]? = some (.inr (some p)) := by
  obtain ⟨f, hf, hk⟩ := List.any_eq_true.mp hk
  obtain ⟨x, key, v⟩ := f
  dsimp only at hk
  split at hk
  · rename_i j b
    simp only [Bool.and_eq_true] at hk
    obtain ⟨⟨⟨k1, k2⟩, k3⟩, k4⟩ := hk
    have j1 := of_decide_eq_true k1
    have j2 := of_decide_eq_true k2
    have j3 := of_decide_eq_true k3
    subst j1
    subst j2
    split at k4
    · rename_i n hn
      have k5 := Bool.and_eq_true_iff.mp k4
      have k6 := lGe_spec h.2.2.2.1 h.2.2.2.2.1 k5.2
      rw [lSub_ev, lSub_ev, lK_ev] at k6
      have k7 := lFit_spec h.2.2.2.1 k5.1
      obtain ⟨ci, fs, m, a, t, vs, z1, z2, z3, z4, z5, z6⟩ := h.2.2.2.2.2.2.1.1 _ (h.2.1 x _ j3)
      obtain ⟨c2, gs, y1, y2⟩ := h.2.2.1 _ hf
      have y1 : H[sR σ x]? = some (.inl (c2, gs)) := y1
      rw [z1] at y1
      cases y1
      have y2 : fs[KT.2.1.2.2.1]? = some (.inr (some (sR σ b))) := y2
      rw [z3] at y2
      cases y2
      obtain ⟨c3, gs3, x1, x2⟩ := fGet_spec h.2.2.1 hn
      have x1 : H[sR σ x]? = some (.inl (c3, gs3)) := x1
      rw [z1] at x1
      cases x1
      have x2 : fs[KT.2.1.2.1]? = some (.inl (Int32.ofInt (lEv ρ n))) := x2
      rw [z2] at x2
      cases x2
      obtain ⟨p, hp⟩ := z6 (lEv ρ e).toNat (by omega)
      exact ⟨t, vs, p, z5, hp⟩
    · cases k4
  · cases hk
/-- may a place keep this value -/
def vFits (f : vF) (v : vA) (s : vSt) : Bool := match f, v with
  | .inl p, .inl e => lFit (sI s) e && lGe (sI s) (sC s) (lSub e (lK p.1)) && lGe (sI s) (sC s) (lSub (lK p.2) e) || (decide (p.1 ≤ -2147483648) && decide (2147483647 ≤ p.2))
  | .inr q, .inr none => q.1
  | .inr q, .inr (some i) => decide ((sG s)[i]? = some q.2)
  | _, _ => false
theorem vFits_spec {KT : vKT} {ρ : Nat → Int} {σ : Nat → Nat} {ty : Nat → Option Nat} {H : List (XC Int32)} {s : vSt} (h : vRel KT ρ σ ty H s) {f : vF} {v : vA} (hk : vFits f v s = true) : vFit ty f (cv ρ σ v) := by
  unfold vFits at hk
  split at hk
  · rename_i p e
    show p.1 ≤ (Int32.ofInt (lEv ρ e)).toInt ∧ (Int32.ofInt (lEv ρ e)).toInt ≤ p.2
    rcases Bool.or_eq_true_iff.mp hk with hk | hk
    · simp only [Bool.and_eq_true] at hk
      obtain ⟨⟨k1, k2⟩, k3⟩ := hk
      have k1 := lFit_spec h.2.2.2.1 k1
      have k2 := lGe_spec h.2.2.2.1 h.2.2.2.2.1 k2
      have k3 := lGe_spec h.2.2.2.1 h.2.2.2.2.1 k3
      rw [lSub_ev, lK_ev] at k2 k3
      omega
    · have hk2 := Bool.and_eq_true_iff.mp hk
      have k1 := of_decide_eq_true hk2.1
      have k2 := of_decide_eq_true hk2.2
      have t1 : -2147483648 ≤ (Int32.ofInt (lEv ρ e)).toInt ∧ (Int32.ofInt (lEv ρ e)).toInt ≤ 2147483647 := vTop_spec _
      omega
  · exact hk
  · rename_i q i
    exact h.2.1 i q.2 (of_decide_eq_true hk)
  · cases hk
/-- may this field be written so, where rows are counted -/
def vPutQ (KT : vKT) (c i j : Nat) (v : vA) (s : vSt) : Bool :=
  if c = KT.2.1.1 then (if j = KT.2.1.2.2.1 then false else if j = KT.2.1.2.1 then (match v, fGet i (.inl KT.2.1.2.2.1) (sF s), fGet i (.inl KT.2.1.2.1) (sF s) with
    | .inl l, some (.inr (some b)), some (.inl n) => lFit (sI s) l && lFit (sI s) n && lGe (sI s) (sC s) n && lEq l (lAdd n (lK 1)) && (match fGet b (.inr n) (sF s) with
      | some (.inr (some _)) => true
      | _ => false)
    | _, _, _ => false) else true) else true
theorem vNN_put {KT : vKT} {ρ : Nat → Int} {σ : Nat → Nat} {ty : Nat → Option Nat} {H : List (XC Int32)} {s : vSt} (h : vRel KT ρ σ ty H s) {c i j ci : Nat} {fs : List (XV Int32)} {v : vA} (hG : ty (sR σ i) = some c) (hH : H[sR σ i]? = some (.inl (ci, fs))) (hk : vPutQ KT c i j v s = true) : vNN KT ty (H.set (sR σ i) (.inl (ci, fs.set j (cv ρ σ v)))) := by
  intro a ha
  obtain ⟨c2, gs, n, b, t, vs, z1, z2, z3, z4, z5, z6⟩ := h.2.2.2.2.2.2.1.1 a ha
  have hb : sR σ i ≠ b := fun e => by
    rw [← e, hH] at z5
    cases z5
  have z5' : (H.set (sR σ i) (.inl (ci, fs.set j (cv ρ σ v))))[b]? = some (.inr (t, vs)) := by
    rw [List.getElem?_set_ne hb]
    exact z5
  by_cases e : sR σ i = a
  · subst e
    rw [hG] at ha
    cases ha
    rw [hH] at z1
    cases z1
    have hset := List.getElem?_set_self (a := (.inl (ci, fs.set j (cv ρ σ v)) : XC Int32)) (List.getElem?_eq_some_iff.mp hH).1
    unfold vPutQ at hk
    rw [if_pos rfl] at hk
    split at hk
    · cases hk
    rename_i hja
    have z3' : (fs.set j (cv ρ σ v))[KT.2.1.2.2.1]? = some (.inr (some b)) := by
      rw [List.getElem?_set_ne hja]
      exact z3
    split at hk
    · rename_i hjc
      split at hk
      · rename_i l b2 n2 hb2 hn2
        simp only [Bool.and_eq_true] at hk
        obtain ⟨⟨⟨⟨k1, k2⟩, k3⟩, k4⟩, k5⟩ := hk
        have k1 := lFit_spec h.2.2.2.1 k1
        have k2 := lFit_spec h.2.2.2.1 k2
        have k3 := lGe_spec h.2.2.2.1 h.2.2.2.2.1 k3
        have k4 := lEq_spec k4
        subst k4
        rw [lAdd_ev, lK_ev] at k1
        obtain ⟨c3, gs3, x1, x2⟩ := fGet_spec h.2.2.1 hb2
        have x1 : H[sR σ i]? = some (.inl (c3, gs3)) := x1
        rw [hH] at x1
        cases x1
        have x2 : fs[KT.2.1.2.2.1]? = some (.inr (some (sR σ b2))) := x2
        rw [z3] at x2
        cases x2
        obtain ⟨c3, gs3, x1, x2⟩ := fGet_spec h.2.2.1 hn2
        have x1 : H[sR σ i]? = some (.inl (c3, gs3)) := x1
        rw [hH] at x1
        cases x1
        have x2 : fs[KT.2.1.2.1]? = some (.inl (Int32.ofInt (lEv ρ n2))) := x2
        rw [z2] at x2
        cases x2
        subst hjc
        refine ⟨ci, _, Int32.ofInt (lEv ρ (lAdd n2 (lK 1))), sR σ b2, t, vs, hset, List.getElem?_set_self (List.getElem?_eq_some_iff.mp z2).1, z3', z4, z5', fun k hk => ?_⟩
        rw [lAdd_ev, lK_ev, k1] at hk
        by_cases hlt : (k : Int) < lEv ρ n2
        · exact z6 k (by rw [k2]; exact hlt)
        · split at k5
          · rename_i p hp
            obtain ⟨t2, vs2, y1, -, y2⟩ := fGet_spec h.2.2.1 hp
            have y1 : H[sR σ b2]? = some (.inr (t2, vs2)) := y1
            rw [z5] at y1
            cases y1
            have e3 : (lEv ρ n2).toNat = k := by omega
            rw [e3] at y2
            exact ⟨_, y2⟩
          · cases k5
      · cases hk
    · rename_i hjc
      exact ⟨ci, _, n, b, t, vs, hset, by rw [List.getElem?_set_ne hjc]; exact z2, z3', z4, z5', z6⟩
  · exact ⟨c2, gs, n, b, t, vs, by rw [List.getElem?_set_ne e]; exact z1, z2, z3, z4, z5', z6⟩
/-- an array is written: where it is a counted one, its cells stay -/
theorem vNN_arr {KT : vKT} {ty : Nat → Option Nat} {H : List (XC Int32)} (h : vNN KT ty H) {c a0 t0 : Nat} {vs0 us : List (XV Int32)} (hG : ty a0 = some c) (hH : H[a0]? = some (.inr (t0, vs0))) (hk : c = KT.2.1.2.2.2.1 → ∀ (i p : Nat), vs0[i]? = some (.inr (some p)) → ∃ p2, us[i]? = some (.inr (some p2))) : vNN KT ty (H.set a0 (.inr (t0, us))) := by
  intro a ha
  obtain ⟨c2, gs, n, b, t, vs, z1, z2, z3, z4, z5, z6⟩ := h a ha
  have hne : a0 ≠ a := fun e => by
    rw [← e, hH] at z1
    cases z1
  by_cases e : a0 = b
  · subst e
    rw [hH] at z5
    cases z5
    rw [hG] at z4
    cases z4
    refine ⟨c2, gs, n, a0, t0, us, by rw [List.getElem?_set_ne hne]; exact z1, z2, z3, hG, List.getElem?_set_self (List.getElem?_eq_some_iff.mp hH).1, fun k hk2 => ?_⟩
    obtain ⟨p, hp⟩ := z6 k hk2
    exact hk rfl k p hp
  · exact ⟨c2, gs, n, b, t, vs, by rw [List.getElem?_set_ne hne]; exact z1, z2, z3, z4, by rw [List.getElem?_set_ne e]; exact z5, z6⟩
theorem vGp_put {KT : vKT} {ty : Nat → Option Nat} {H : List (XC Int32)} (h : vGp KT ty H) {a0 : Nat} {o : Nat × List (XV Int32)} (hlt : a0 < H.length) : vGp KT ty (H.set a0 (.inl o)) := fun a t vs ha hH => by
  by_cases e : a0 = a
  · subst e
    rw [List.getElem?_set_self hlt] at hH
    cases hH
  · rw [List.getElem?_set_ne e] at hH
    exact h a t vs ha hH
theorem vGp_arr {KT : vKT} {ty : Nat → Option Nat} {H : List (XC Int32)} (h : vGp KT ty H) {a0 c t0 : Nat} {us : List (XV Int32)} (hG : ty a0 = some c) (hlt : a0 < H.length) (hk : c = KT.2.1.2.2.2.2 → vGrp us) : vGp KT ty (H.set a0 (.inr (t0, us))) := fun a t vs ha hH => by
  by_cases e : a0 = a
  · subst e
    rw [List.getElem?_set_self hlt] at hH
    cases hH
    rw [hG] at ha
    cases ha
    exact hk rfl
  · rw [List.getElem?_set_ne e] at hH
    exact h a t vs ha hH
def vPut (a j : Nat) (v : vA) (s : vSt) : vSt := (sN s, sG s, (a, .inl j, v) :: fPut (sG s) a j (sF s), sI s, sC s, sM s, sRw s)
theorem vPut_rel {KT : vKT} {ρ : Nat → Int} {σ : Nat → Nat} {ty : Nat → Option Nat} {H : List (XC Int32)} {s : vSt} (h : vRel KT ρ σ ty H s) {a c ci j : Nat} {fl : List vF} {f : vF} {fs : List (XV Int32)} {v : vA} (ha : ty (sR σ a) = some c) (hK : KT.1[c]? = some (.inl (ci, fl))) (hH : H[sR σ a]? = some (.inl (ci, fs))) (hf : fl[j]? = some f) (hi : j < fs.length) (hu : vFit ty f (cv ρ σ v)) (hq : vPutQ KT c a j v s = true) :
    vRel KT ρ σ ty (H.set (sR σ a) (.inl (ci, fs.set j (cv ρ σ v)))) (vPut a j v s) := by
  refine ⟨vHp_put h.1 ha hK hH hf hu, h.2.1, fun g hg => ?_, h.2.2.2.1, h.2.2.2.2.1, h.2.2.2.2.2.1, ⟨vNN_put h ha hH hq, vGp_put h.2.2.2.2.2.2.1.2 (vHp_lt h.1 ha)⟩, h.2.2.2.2.2.2.2⟩
  rcases List.mem_cons.mp hg with rfl | hg
  · exact ⟨ci, fs.set j (cv ρ σ v), List.getElem?_set_self (vHp_lt h.1 ha), List.getElem?_set_self hi⟩
  · exact fPut_spec h.2.1 hH h.2.2.1 g hg
def vSto (a : Nat) (e : lT) (v : vA) (s : vSt) : vSt := (sN s, sG s, (a, .inr e, v) :: fArr (fun e2 => lNe (sI s) e2 e) (sG s) a (sF s), sI s, sC s, sM s, sRw s)
theorem vSto_rel {KT : vKT} {ρ : Nat → Int} {σ : Nat → Nat} {ty : Nat → Option Nat} {H : List (XC Int32)} {s : vSt} (h : vRel KT ρ σ ty H s) {a c t m : Nat} {fl : List vF} {f : vF} {vs : List (XV Int32)} {e : lT} {v : vA} (ha : ty (sR σ a) = some c) (hK : KT.1[c]? = some (.inr (t, m, fl))) (hH : H[sR σ a]? = some (.inr (t, vs))) (h0 : 0 ≤ lEv ρ e) (hi : (lEv ρ e).toNat < vs.length) (hf : vEl fl (lEv ρ e).toNat = some f) (hu : vFit ty f (cv ρ σ v)) (hq : c = KT.2.1.2.2.2.1 → ∃ p, cv ρ σ v = .inr (some p)) (hg2 : c ≠ KT.2.1.2.2.2.2) :
    vRel KT ρ σ ty (H.set (sR σ a) (.inr (t, vs.set (lEv ρ e).toNat (cv ρ σ v)))) (vSto a e v s) := by
  refine ⟨vHp_sto h.1 ha hK hH hf hu, h.2.1, fun g hg => ?_, h.2.2.2.1, h.2.2.2.2.1, h.2.2.2.2.2.1, ⟨vNN_arr h.2.2.2.2.2.2.1.1 ha hH (fun hc k p hp => ?_), vGp_arr h.2.2.2.2.2.2.1.2 ha (vHp_lt h.1 ha) (fun hc => (hg2 hc).elim)⟩, h.2.2.2.2.2.2.2⟩
  · rcases List.mem_cons.mp hg with rfl | hg
    · exact ⟨t, _, List.getElem?_set_self (vHp_lt h.1 ha), h0, List.getElem?_set_self hi⟩
    · refine fArr_spec h.2.1 hH (fun e2 hk h2 => ?_) h.2.2.1 g hg
      have hne := lNe_spec h.2.2.2.1 hk
      rw [List.getElem?_set_ne]
      omega
  · obtain ⟨p2, hp2⟩ := hq hc
    by_cases e1 : (lEv ρ e).toNat = k
    · subst e1
      exact ⟨p2, by rw [List.getElem?_set_self hi, hp2]⟩
    · exact ⟨p, by rw [List.getElem?_set_ne e1]; exact hp⟩
def vCpy (a : Nat) (s : vSt) : vSt := (sN s, sG s, fArr (fun _ => false) (sG s) a (sF s), sI s, sC s, sM s, sRw s)
theorem vCpy_rel {KT : vKT} {ρ : Nat → Int} {σ : Nat → Nat} {ty : Nat → Option Nat} {H : List (XC Int32)} {s : vSt} (h : vRel KT ρ σ ty H s) {a b c d t m n i j k : Nat} {fl : List vF} {us vs : List (XV Int32)} (ha : ty (sR σ a) = some c) (hK : KT.1[c]? = some (.inr (t, m, fl))) (hH : H[sR σ a]? = some (.inr (t, vs))) (hb : ty (sR σ b) = some d) (hD : KT.1[d]? = some (.inr (t, n, fl))) (hB : H[sR σ b]? = some (.inr (t, us))) (hi : i + k ≤ us.length) (hj : j + k ≤ vs.length) (hij : i % fl.length = j % fl.length) (hq : c ≠ KT.2.1.2.2.2.1) (hg2 : c ≠ KT.2.1.2.2.2.2) :
    vRel KT ρ σ ty (H.set (sR σ a) (.inr (t, vs.take j ++ (us.drop i).take k ++ vs.drop (j + k)))) (vCpy a s) :=
  ⟨vHp_cpy h.1 ha hK hH hb hD hB hi hj hij, h.2.1, fArr_spec h.2.1 hH (fun _ hk _ => by cases hk) h.2.2.1, h.2.2.2.1, h.2.2.2.2.1, h.2.2.2.2.2.1, ⟨vNN_arr h.2.2.2.2.2.2.1.1 ha hH (fun hc => (hq hc).elim), vGp_arr h.2.2.2.2.2.2.1.2 ha (vHp_lt h.1 ha) (fun hc => (hg2 hc).elim)⟩, h.2.2.2.2.2.2.2⟩
/-- a new cell of a kind -/
def vMke (KT : vKT) (c : Nat) (s : vSt) : vSt := (sN s, sG s ++ [c], sF s, sI s, sC s, sM s, if (kRaw KT c).isSome then (sG s).length :: sRw s else sRw s)
theorem vMke_rel {KT : vKT} {ρ : Nat → Int} {σ : Nat → Nat} {ty : Nat → Option Nat} {H : List (XC Int32)} {s : vSt} (h : vRel KT ρ σ ty H s) (hb : sBd s = true) {c : Nat} {kd : vKd} {z : XC Int32} (hK : KT.1[c]? = some kd) (hz : vCell (vAdd ty H.length c) kd z) (hc : c ≠ KT.2.1.1) (hg2 : c ≠ KT.2.1.2.2.2.2) :
    ∃ σ2, vExt s (vMke KT c s) ρ ρ σ σ2 ∧ vRel KT ρ σ2 (vAdd ty H.length c) (H ++ [z]) (vMke KT c s) ∧ sR σ2 (sG s).length = H.length ∧ vLe ty (vAdd ty H.length c) := by
  obtain ⟨hle, hn⟩ := vHp_new h.1 hK hz
  have he : ∀ i, i < (sG s).length → (fun i => if i = (sG s).length then H.length else σ i) i = σ i := fun i hi => if_neg (Nat.ne_of_lt hi)
  have hlt := (sBd_spec hb).1
  have hrw := (sBd_spec hb).2.2.2.2.2
  obtain ⟨g1, g2, g3, g4, g5, g6, g7, g8⟩ := vRel_ext h hb (fun _ _ => rfl) he
  have hv : sR (fun i => if i = (sG s).length then H.length else σ i) (sG s).length = H.length := by
    unfold sR
    rw [if_pos hlt]
    exact if_pos rfl
  have hself : vAdd ty H.length c H.length = some c := if_pos rfl
  have happ : ∀ (a : Nat) (y : XC Int32), H[a]? = some y → (H ++ [z])[a]? = some y := fun a y hy => by
    rw [List.getElem?_append_left (List.getElem?_eq_some_iff.mp hy).1]
    exact hy
  refine ⟨fun i => if i = (sG s).length then H.length else σ i, ⟨fun _ _ => rfl, he, Nat.le_refl _, ?_⟩, ⟨hn, fun i d hd => ?_, fun f hf => ?_, g4, g5, g6, ⟨fun a ha => ?_, fun a t vs ha hH => ?_⟩, fun a d e ha hd => ?_⟩, hv, hle⟩
  · show (sG s).length ≤ (sG s ++ [c]).length
    rw [List.length_append]
    exact Nat.le_add_right _ _
  · have hd : (sG s ++ [c])[i]? = some d := hd
    by_cases e : i = (sG s).length
    · subst e
      rw [List.getElem?_append_right (Nat.le_refl _), Nat.sub_self] at hd
      have hd : some c = some d := hd
      rw [hv, hself]
      exact hd
    · have hl : i < (sG s).length := by
        have := (List.getElem?_eq_some_iff.mp hd).1
        rw [List.length_append] at this
        have : i < (sG s).length + 1 := this
        omega
      rw [List.getElem?_append_left hl] at hd
      exact hle _ _ (g2 i d hd)
  · have h1 := g3 f hf
    obtain ⟨x, key, v⟩ := f
    rcases key with j | e
    · obtain ⟨ci, fs, y1, y2⟩ := h1
      exact ⟨ci, fs, happ _ _ y1, y2⟩
    · obtain ⟨t, vs, y1, y0, y2⟩ := h1
      exact ⟨t, vs, happ _ _ y1, y0, y2⟩
  · have hne : a ≠ H.length := fun e => by
      rw [e, hself] at ha
      cases ha
      exact hc rfl
    have ha2 : ty a = some KT.2.1.1 := by
      have : (if a = H.length then some c else ty a) = some KT.2.1.1 := ha
      rw [if_neg hne] at this
      exact this
    obtain ⟨c2, gs, n, b, t, vs, z1, z2, z3, z4, z5, z6⟩ := g7.1 a ha2
    exact ⟨c2, gs, n, b, t, vs, happ _ _ z1, z2, z3, hle _ _ z4, happ _ _ z5, z6⟩
  · have hne : a ≠ H.length := fun e => by
      rw [e, hself] at ha
      cases ha
      exact hg2 rfl
    have ha2 : ty a = some KT.2.1.2.2.2.2 := by
      have : (if a = H.length then some c else ty a) = some KT.2.1.2.2.2.2 := ha
      rw [if_neg hne] at this
      exact this
    rw [List.getElem?_append_left (vHp_lt h.1 ha2)] at hH
    exact g7.2 a t vs ha2 hH
  · by_cases e1 : a = H.length
    · subst e1
      rw [hself] at ha
      cases ha
      refine ⟨(sG s).length, ?_, hv⟩
      show (sG s).length ∈ (if (kRaw KT c).isSome then (sG s).length :: sRw s else sRw s)
      rw [hd]
      exact List.mem_cons_self
    · have ha2 : ty a = some d := by
        have : (if a = H.length then some c else ty a) = some d := ha
        rw [if_neg e1] at this
        exact this
      obtain ⟨i, hi, e2⟩ := g8 a d e ha2 hd
      refine ⟨i, ?_, e2⟩
      show i ∈ (if (kRaw KT c).isSome then (sG s).length :: sRw s else sRw s)
      split
      · exact List.mem_cons_of_mem _ hi
      · exact hi
/-- kinds name no kind that isn't ready -/
def kFOk (KT : vKT) (f : vF) : Bool := match f with
  | .inl _ => true
  | .inr q => (kRaw KT q.2).isNone
def kOk (KT : vKT) : Bool := KT.1.all (fun kd => match kd with
  | .inl o => o.2.all (kFOk KT)
  | .inr o => o.2.2.all (kFOk KT)) && (kRaw KT KT.2.1.1).isNone && (kRaw KT KT.2.1.2.2.2.1).isNone
/-- a cell is ready now -/
def vPro (KT : vKT) (i : Nat) (s : vSt) (kk : vSt → Bool) : Bool := match (sG s)[i]? with
  | none => false
  | some c => match kRaw KT c with
    | none => false
    | some d => match KT.1[c]?, KT.1[d]? with
      | some (.inl o), some (.inl p) => kOk KT && decide (p.1 = o.1) && decide (p.2.length = o.2.length) && decide (d ≠ KT.2.1.1) && decide (d ≠ KT.2.1.2.2.2.2) && (kRaw KT d).isNone && (List.range (sG s).length).all (fun k => decide (k = i) || decide ((sG s)[k]? ≠ some c)) &&
          (List.range p.2.length).all (fun j => decide (p.2[j]? = o.2[j]?) || (match p.2[j]?, fGet i (.inl j) (sF s) with
            | some f, some v => vFits f v s
            | _, _ => false)) && kk (sN s, (sG s).set i d, sF s, sI s, sC s, sM s, (sRw s).filter (fun k => decide (k ≠ i)))
      | _, _ => false
theorem vPro_spec {KT : vKT} {ρ : Nat → Int} {σ : Nat → Nat} {ty ty0 : Nat → Option Nat} {H : List (XC Int32)} {s : vSt} (h : vRel KT ρ σ ty H s) (h0 : vLe ty0 ty) (hr : ∀ a c, ty0 a = some c → kRaw KT c = none) {i : Nat} {kk : vSt → Bool} (hk : vPro KT i s kk = true) :
    ∃ ty2 s2, vExt s s2 ρ ρ σ σ ∧ vRel KT ρ σ ty2 H s2 ∧ vLe ty0 ty2 ∧ kk s2 = true := by
  unfold vPro at hk
  split at hk
  · cases hk
  rename_i c hG
  split at hk
  · cases hk
  rename_i d hR
  split at hk
  rotate_left
  · cases hk
  rename_i o p ho hp
  simp only [Bool.and_eq_true] at hk
  obtain ⟨⟨⟨⟨⟨⟨⟨⟨k0, k1⟩, k2⟩, k3⟩, k3g⟩, k4⟩, k5⟩, k6⟩, k7⟩ := hk
  obtain ⟨ci, fl⟩ := o
  obtain ⟨ci2, gl⟩ := p
  have k1 : ci2 = ci := of_decide_eq_true k1
  subst k1
  have k2 : gl.length = fl.length := of_decide_eq_true k2
  have k3 : d ≠ KT.2.1.1 := of_decide_eq_true k3
  have k3g : d ≠ KT.2.1.2.2.2.2 := of_decide_eq_true k3g
  have k4 : kRaw KT d = none := by simpa using k4
  simp only [kOk, Bool.and_eq_true] at k0
  obtain ⟨⟨q1, q2⟩, q3⟩ := k0
  have q2 : kRaw KT KT.2.1.1 = none := by simpa using q2
  have q3 : kRaw KT KT.2.1.2.2.2.1 = none := by simpa using q3
  obtain ⟨h1, h2, h3, h4, h5, h6, h7, h8⟩ := h
  have ha := h2 i c hG
  have self : (fun a => if a = sR σ i then some d else ty a) (sR σ i) = some d := if_pos rfl
  have other : ∀ a e, ty a = some e → e ≠ c → (fun a => if a = sR σ i then some d else ty a) a = some e := fun a e hae hne => by
    show (if a = sR σ i then some d else ty a) = some e
    rw [if_neg]
    · exact hae
    · intro e2
      rw [e2, ha] at hae
      cases hae
      exact hne rfl
  have back : ∀ a e, (fun a => if a = sR σ i then some d else ty a) a = some e → (a = sR σ i ∧ e = d) ∨ (a ≠ sR σ i ∧ ty a = some e) := fun a e hae => by
    have hae : (if a = sR σ i then some d else ty a) = some e := hae
    by_cases e2 : a = sR σ i
    · rw [if_pos e2] at hae
      cases hae
      exact Or.inl ⟨e2, rfl⟩
    · rw [if_neg e2] at hae
      exact Or.inr ⟨e2, hae⟩
  have fit : ∀ (f : vF) (u : XV Int32), kFOk KT f = true → vFit ty f u → vFit (fun a => if a = sR σ i then some d else ty a) f u := fun f u hf hu => by
    rcases f with f | f <;> rcases u with u | (_ | u)
    · exact hu
    · exact hu.elim
    · exact hu.elim
    · exact hu.elim
    · exact hu
    · refine other u f.2 hu (fun e => ?_)
      have hf : (kRaw KT f.2).isNone = true := hf
      rw [e, hR] at hf
      cases hf
  have kok : ∀ (e : Nat) (kd : vKd), KT.1[e]? = some kd → (match kd with
      | .inl o => o.2.all (kFOk KT)
      | .inr o => o.2.2.all (kFOk KT)) = true := fun e kd he => List.all_eq_true.mp q1 kd (List.mem_of_getElem? he)
  have hp2 : KT.1[d]? = some (.inl (ci2, gl)) := hp
  have hgl := kok d _ hp2
  refine ⟨fun a => if a = sR σ i then some d else ty a, (sN s, (sG s).set i d, sF s, sI s, sC s, sM s, (sRw s).filter (fun k => decide (k ≠ i))), vExt_eq ρ σ rfl (List.length_set ..), ⟨fun b e hb => ?_, fun k e hk => ?_, h3, h4, h5, h6, ⟨fun a hae => ?_, fun a t vs hae hH => ?_⟩, fun a e f hae hf => ?_⟩, fun a e hae => ?_, k7⟩
  · rcases back b e hb with ⟨rfl, rfl⟩ | ⟨hne, hb⟩
    · obtain ⟨fs, f1, f2, f3⟩ := vHp_obj h1 ha ho
      refine ⟨.inl (ci2, gl), .inl (ci2, fs), hp2, f1, rfl, f2.trans k2.symm, fun j f u hf hu => ?_⟩
      have hf : gl[j]? = some f := hf
      have hu : fs[j]? = some u := hu
      refine fit f u (List.all_eq_true.mp hgl f (List.mem_of_getElem? hf)) ?_
      have hj := (List.getElem?_eq_some_iff.mp hf).1
      have k8 := List.all_eq_true.mp k6 j (List.mem_range.mpr hj)
      rcases Bool.or_eq_true_iff.mp k8 with k8 | k8
      · have k8 : gl[j]? = fl[j]? := of_decide_eq_true k8
        obtain ⟨u2, y1, y2⟩ := f3 j f (k8 ▸ hf)
        rw [hu] at y1
        cases y1
        exact y2
      · have k9 : (match gl[j]?, fGet i (.inl j) (sF s) with
            | some f, some v => vFits f v s
            | _, _ => false) = true := k8
        rw [hf] at k9
        split at k9
        · rename_i f' v' e1 e2
          cases e1
          have y := vFits_spec (KT := KT) (ρ := ρ) (σ := σ) (ty := ty) (H := H) ⟨h1, h2, h3, h4, h5, h6, h7, h8⟩ k9
          obtain ⟨c3, gs, z1, z2⟩ := fGet_spec h3 e2
          have z1 : H[sR σ i]? = some (.inl (c3, gs)) := z1
          rw [f1] at z1
          cases z1
          rw [hu] at z2
          cases z2
          exact y
        · cases k9
    · obtain ⟨kd, z, y1, y2, y3⟩ := h1 b e hb
      refine ⟨kd, z, y1, y2, ?_⟩
      have y4 := kok e kd y1
      rcases kd with kd | kd <;> rcases z with z | z
      · exact ⟨y3.1, y3.2.1, fun j f u hf hu => fit f u (List.all_eq_true.mp y4 f (List.mem_of_getElem? hf)) (y3.2.2 j f u hf hu)⟩
      · exact y3.elim
      · exact y3.elim
      · exact ⟨y3.1, y3.2.1, fun j f u hf hu => fit f u (List.all_eq_true.mp y4 f (List.mem_of_getElem? hf)) (y3.2.2 j f u hf hu)⟩
  · have hk : ((sG s).set i d)[k]? = some e := hk
    by_cases e1 : i = k
    · subst e1
      rw [List.getElem?_set_self (List.getElem?_eq_some_iff.mp hG).1] at hk
      cases hk
      exact self
    · rw [List.getElem?_set_ne e1] at hk
      refine other _ e (h2 k e hk) (fun e2 => ?_)
      have k8 := List.all_eq_true.mp k5 k (List.mem_range.mpr (List.getElem?_eq_some_iff.mp hk).1)
      rcases Bool.or_eq_true_iff.mp k8 with k8 | k8
      · exact e1 (of_decide_eq_true k8).symm
      · exact of_decide_eq_true k8 (e2 ▸ hk)
  · rcases back a _ hae with ⟨-, e1⟩ | ⟨-, hae⟩
    · exact (k3 e1.symm).elim
    · obtain ⟨c2, gs, n, b, t, vs, z1, z2, z3, z4, z5, z6⟩ := h7.1 a hae
      refine ⟨c2, gs, n, b, t, vs, z1, z2, z3, other b _ z4 (fun e2 => ?_), z5, z6⟩
      rw [e2, hR] at q3
      cases q3
  · rcases back a _ hae with ⟨-, e1⟩ | ⟨-, hae⟩
    · exact (k3g e1.symm).elim
    · exact h7.2 a t vs hae hH
  · rcases back a _ hae with ⟨-, e1⟩ | ⟨hne, hae⟩
    · rw [e1, k4] at hf
      cases hf
    · obtain ⟨k, hk, e2⟩ := h8 a e f hae hf
      refine ⟨k, List.mem_filter.mpr ⟨hk, decide_eq_true (fun e3 => hne ?_)⟩, e2⟩
      rw [← e2, e3]
  · refine other a e (h0 a e hae) (fun e2 => ?_)
    have := hr a e hae
    rw [e2, hR] at this
    cases this
end XHeap
end
section
/-! Notes on a state (at a loop, an entry, an end), and that a state is as a note says. -/
section XMatch
/-- where a note's unknown is to be found: whether a cell; a local (from 1000 on: the stack), a place of a cell, or what came of an operation -/
abbrev vRc : Type := Bool × (Nat ⊕ ((Nat × (Nat ⊕ lT)) ⊕ (Nat × lT × lT)))
/-- a note: kinds of its cells, bounds of its unknowns, locals, stack, what is known, what isn't below 0, what came of operations, (rank, cells made, slots made, phase; for ranks by the zeros of rows: weight, the rows; what is written from here on), where its unknowns are -/
abbrev vAn : Type := List Nat × List (Int × Int) × List (Nat × vA) × List vA × List vK × List lT × List vMm × (lT × lT × lT × Nat × Nat × List Nat × Option (List (Nat × Nat))) × List vRc
abbrev aG (A : vAn) : List Nat := A.1
abbrev aI (A : vAn) : List (Int × Int) := A.2.1
abbrev aL (A : vAn) : List (Nat × vA) := A.2.2.1
abbrev aS (A : vAn) : List vA := A.2.2.2.1
abbrev aF (A : vAn) : List vK := A.2.2.2.2.1
abbrev aC (A : vAn) : List lT := A.2.2.2.2.2.1
abbrev aM (A : vAn) : List vMm := A.2.2.2.2.2.2.1
abbrev aRk (A : vAn) : lT := A.2.2.2.2.2.2.2.1.1
abbrev aCn (A : vAn) : lT := A.2.2.2.2.2.2.2.1.2.1
abbrev aSn (A : vAn) : lT := A.2.2.2.2.2.2.2.1.2.2.1
abbrev aPh (A : vAn) : Nat := A.2.2.2.2.2.2.2.1.2.2.2.1
abbrev aCf (A : vAn) : Nat := A.2.2.2.2.2.2.2.1.2.2.2.2.1
abbrev aZs (A : vAn) : List Nat := A.2.2.2.2.2.2.2.1.2.2.2.2.2.1
abbrev aWn (A : vAn) : Option (List (Nat × Nat)) := A.2.2.2.2.2.2.2.1.2.2.2.2.2.2
abbrev aRc (A : vAn) : List vRc := A.2.2.2.2.2.2.2.2
def zipI : Nat → List (Int × Int) → lI
  | _, [] => []
  | n, p :: r => (n, p) :: zipI (n + 1) r
theorem zipI_spec {ρ : Nat → Int} : ∀ {l : List (Int × Int)} {n : Nat}, iHd ρ (zipI n l) ↔ ∀ i p, l[i]? = some p → p.1 ≤ ρ (n + i) ∧ ρ (n + i) ≤ p.2
  | [], n => ⟨fun _ i p h => (by cases h), fun _ q hq => (by cases hq)⟩
  | p :: r, n => by
    have ih := zipI_spec (ρ := ρ) (l := r) (n := n + 1)
    constructor
    · intro h i p2 hp
      rcases i with _ | i
      · cases hp
        exact h (n, p) List.mem_cons_self
      · have := ih.mp (fun q hq => h q (List.mem_cons_of_mem _ hq)) i p2 hp
        rw [show n + (i + 1) = n + 1 + i by omega]
        exact this
    · intro h q hq
      rcases List.mem_cons.mp hq with rfl | hq
      · exact h 0 p rfl
      · refine ih.mpr (fun i p2 hp => ?_) q hq
        have := h (i + 1) p2 hp
        rw [show n + 1 + i = n + (i + 1) by omega]
        exact this
/-- the state that a note tells -/
def aSt (A : vAn) : vSt := ((aI A).length, aG A, aF A, zipI 0 (aI A), aC A, aM A, [])
/-- sums for unknowns, symbols for symbols -/
def rO (ρ : Nat → Int) (θ : List lT) (i : Nat) : Int := lEv ρ (θ.getD i (lK 0))
def sO (σ : Nat → Nat) (τ : List Nat) (i : Nat) : Nat := sR σ (τ.getD i 0)
def lSbs (θ : List lT) : List (Nat × Int) → lT
  | [] => lK 0
  | p :: r => lAdd (lSc p.2 (θ.getD p.1 (lK 0))) (lSbs θ r)
def lSb (θ : List lT) (l : lT) : lT := lAdd (lK l.1) (lSbs θ l.2)
theorem lSbs_ev (ρ : Nat → Int) (θ : List lT) : ∀ l, lEv ρ (lSbs θ l) = lS (rO ρ θ) l
  | [] => lK_ev ρ 0
  | p :: r => by
    show lEv ρ (lAdd _ (lSbs θ r)) = p.2 * rO ρ θ p.1 + lS (rO ρ θ) r
    rw [lAdd_ev, lSc_ev, lSbs_ev ρ θ r]
    rfl
theorem lSb_ev (ρ : Nat → Int) (θ : List lT) (l : lT) : lEv ρ (lSb θ l) = lEv (rO ρ θ) l := by
  show lEv ρ (lAdd _ _) = l.1 + lS (rO ρ θ) l.2
  rw [lAdd_ev, lK_ev, lSbs_ev]
def tSb (τ : List Nat) (i : Nat) : Nat := if i < 1000000 then τ.getD i 0 else i
theorem tSb_spec (σ : Nat → Nat) (τ : List Nat) (i : Nat) : sR σ (tSb τ i) = sR (sO σ τ) i := by
  unfold tSb
  by_cases h : i < 1000000
  · rw [if_pos h]
    show sR σ (τ.getD i 0) = (if i < 1000000 then sO σ τ i else i)
    rw [if_pos h]
    rfl
  · rw [if_neg h]
    show (if i < 1000000 then _ else i) = (if i < 1000000 then _ else i)
    rw [if_neg h, if_neg h]
def vSb (θ : List lT) (τ : List Nat) : vA → vA
  | .inl l => .inl (lSb θ l)
  | .inr none => .inr none
  | .inr (some i) => .inr (some (tSb τ i))
theorem vSb_cv (ρ : Nat → Int) (σ : Nat → Nat) (θ : List lT) (τ : List Nat) (v : vA) : cv ρ σ (vSb θ τ v) = cv (rO ρ θ) (sO σ τ) v := by
  rcases v with l | (_ | i)
  · exact congrArg (fun z => Sum.inl (Int32.ofInt z)) (lSb_ev ρ θ l)
  · rfl
  · exact congrArg (fun z => Sum.inr (some z)) (tSb_spec σ τ i)
def kySb (θ : List lT) : Nat ⊕ lT → Nat ⊕ lT
  | .inl j => .inl j
  | .inr e => .inr (lSb θ e)
theorem vPlace_sb {ρ : Nat → Int} {σ : Nat → Nat} {θ : List lT} {τ : List Nat} {H : List (XC Int32)} {i : Nat} {key : Nat ⊕ lT} {u : XV Int32} : vPlace ρ σ H (tSb τ i) (kySb θ key) u ↔ vPlace (rO ρ θ) (sO σ τ) H i key u := by
  rcases key with j | e
  · unfold vPlace kySb
    dsimp only
    rw [tSb_spec]
  · unfold vPlace kySb
    dsimp only
    rw [tSb_spec, lSb_ev]
/-- equal sums -/
def lQ (I : lI) (C : List lT) (a b : lT) : Bool := lEq a b || (lGe I C (lSub a b) && lGe I C (lSub b a))
theorem lQ_spec {ρ : Nat → Int} {I : lI} (hI : iHd ρ I) {C : List lT} (hC : ∀ c ∈ C, 0 ≤ lEv ρ c) {a b : lT} (h : lQ I C a b = true) : lEv ρ a = lEv ρ b := by
  rcases Bool.or_eq_true_iff.mp h with h | h
  · rw [lEq_spec h]
  · have h2 := Bool.and_eq_true_iff.mp h
    have h3 := lGe_spec hI hC h2.1
    have h4 := lGe_spec hI hC h2.2
    rw [lSub_ev] at h3 h4
    omega
def vQ (s : vSt) : vA → vA → Bool
  | .inl a, .inl b => lQ (sI s) (sC s) a b
  | .inr none, .inr none => true
  | .inr (some i), .inr (some j) => decide (i = j)
  | _, _ => false
theorem vQ_spec {KT : vKT} {ρ : Nat → Int} {σ : Nat → Nat} {ty : Nat → Option Nat} {H : List (XC Int32)} {s : vSt} (h : vRel KT ρ σ ty H s) {a b : vA} (hk : vQ s a b = true) : cv ρ σ a = cv ρ σ b := by
  unfold vQ at hk
  split at hk
  · rename_i a b
    show (Sum.inl (Int32.ofInt (lEv ρ a)) : XV Int32) = Sum.inl (Int32.ofInt (lEv ρ b))
    rw [lQ_spec h.2.2.2.1 h.2.2.2.2.1 hk]
  · rfl
  · rw [of_decide_eq_true hk]
  · cases hk
def vQs (s : vSt) (θ : List lT) (τ : List Nat) : List vA → List vA → Bool
  | [], [] => true
  | a :: r, b :: t => vQ s a (vSb θ τ b) && vQs s θ τ r t
  | _, _ => false
theorem vQs_spec {KT : vKT} {ρ : Nat → Int} {σ : Nat → Nat} {ty : Nat → Option Nat} {H : List (XC Int32)} {s : vSt} (h : vRel KT ρ σ ty H s) {θ : List lT} {τ : List Nat} : ∀ {S T : List vA}, vQs s θ τ S T = true → S.map (cv ρ σ) = T.map (cv (rO ρ θ) (sO σ τ))
  | [], [], _ => rfl
  | [], _ :: _, hk => by cases hk
  | _ :: _, [], hk => by cases hk
  | a :: r, b :: t, hk => by
    have hk2 := Bool.and_eq_true_iff.mp hk
    rw [List.map_cons, List.map_cons, vQs_spec h hk2.2, vQ_spec h hk2.1, vSb_cv]
/-- what an unknown of the note is here -/
def rcV (L : List (Nat × vA)) (S : List vA) (s : vSt) (θ : List lT) (τ : List Nat) : Nat ⊕ ((Nat × (Nat ⊕ lT)) ⊕ (Nat × lT × lT)) → Option vA
  | .inl j => if j < 1000 then x_lk L j else S[j - 1000]?
  | .inr (.inl p) => fGet (tSb τ p.1) (kySb θ p.2) (sF s)
  | .inr (.inr m) => match mGet m.1 (lSb θ m.2.1) (lSb θ m.2.2) (sM s) with
    | none => none
    | some r => some (.inl r)
def rcs (L : List (Nat × vA)) (S : List vA) (s : vSt) : List vRc → List lT → List Nat → Option (List lT × List Nat)
  | [], θ, τ => some (θ, τ)
  | r :: rs, θ, τ => match rcV L S s θ τ r.2 with
    | some (.inl l) => if r.1 = false then rcs L S s rs (θ ++ [l]) τ else none
    | some (.inr (some i)) => if r.1 = true then rcs L S s rs θ (τ ++ [i]) else none
    | _ => none
theorem rcs_pre {L : List (Nat × vA)} {S : List vA} {s : vSt} : ∀ {rs : List vRc} {θ : List lT} {τ : List Nat} {p : List lT × List Nat}, rcs L S s rs θ τ = some p → (∃ t, p.1 = θ ++ t) ∧ ∃ t, p.2 = τ ++ t
  | [], θ, τ, p, h => by
    cases h
    exact ⟨⟨[], (List.append_nil _).symm⟩, ⟨[], (List.append_nil _).symm⟩⟩
  | r :: rs, θ, τ, p, h => by
    unfold rcs at h
    split at h
    · split at h
      · obtain ⟨⟨t, ht⟩, g⟩ := rcs_pre h
        exact ⟨⟨_ :: t, by rw [ht, List.append_assoc]; rfl⟩, g⟩
      · cases h
    · split at h
      · obtain ⟨g, ⟨t, ht⟩⟩ := rcs_pre h
        exact ⟨g, ⟨_ :: t, by rw [ht, List.append_assoc]; rfl⟩⟩
      · cases h
    · cases h
def inIs (s : vSt) : List lT → List (Int × Int) → Bool
  | [], [] => true
  | l :: r, p :: t => lGe (sI s) (sC s) (lSub l (lK p.1)) && lGe (sI s) (sC s) (lSub (lK p.2) l) && inIs s r t
  | _, _ => false
def inGs (s : vSt) : List Nat → List Nat → Bool
  | [], [] => true
  | i :: r, c :: t => decide ((sG s)[i]? = some c) && inGs s r t
  | _, _ => false
theorem inIs_spec {ρ : Nat → Int} {s : vSt} (hI : iHd ρ (sI s)) (hC : ∀ c ∈ sC s, 0 ≤ lEv ρ c) : ∀ {θ : List lT} {l : List (Int × Int)}, inIs s θ l = true → θ.length = l.length ∧ ∀ i p, l[i]? = some p → p.1 ≤ rO ρ θ i ∧ rO ρ θ i ≤ p.2
  | [], [], _ => ⟨rfl, fun i p h => by cases h⟩
  | [], _ :: _, h => by cases h
  | _ :: _, [], h => by cases h
  | l :: r, p :: t, h => by
    unfold inIs at h
    simp only [Bool.and_eq_true] at h
    obtain ⟨⟨h1, h2⟩, h3⟩ := h
    obtain ⟨e, g⟩ := inIs_spec hI hC h3
    have h1 := lGe_spec hI hC h1
    have h2 := lGe_spec hI hC h2
    rw [lSub_ev, lK_ev] at h1 h2
    refine ⟨congrArg (· + 1) e, fun i p2 hp => ?_⟩
    rcases i with _ | i
    · cases hp
      show p.1 ≤ lEv ρ l ∧ lEv ρ l ≤ p.2
      omega
    · exact g i p2 hp
theorem inGs_spec {s : vSt} : ∀ {τ l : List Nat}, inGs s τ l = true → τ.length = l.length ∧ ∀ i c, l[i]? = some c → (sG s)[τ.getD i 0]? = some c
  | [], [], _ => ⟨rfl, fun i p h => by cases h⟩
  | [], _ :: _, h => by cases h
  | _ :: _, [], h => by cases h
  | j :: r, c :: t, h => by
    have h2 := Bool.and_eq_true_iff.mp h
    obtain ⟨e, g⟩ := inGs_spec h2.2
    refine ⟨congrArg (· + 1) e, fun i p2 hp => ?_⟩
    rcases i with _ | i
    · cases hp
      exact of_decide_eq_true h2.1
    · exact g i p2 hp
/-- is the state as the note says, with these sums and symbols for its unknowns -/
def vMc (A : vAn) (θ : List lT) (τ : List Nat) (L : List (Nat × vA)) (S : List vA) (s : vSt) : Bool :=
  (sRw s).isEmpty && inIs s θ (aI A) && inGs s τ (aG A) && (aL A).all (fun q => match x_lk L q.1 with
    | some v => vQ s v (vSb θ τ q.2)
    | none => false) && vQs s θ τ S (aS A) && (aF A).all (fun f => match fGet (tSb τ f.1) (kySb θ f.2.1) (sF s) with
    | some v => vQ s v (vSb θ τ f.2.2)
    | none => false) && (aC A).all (fun c => lGe (sI s) (sC s) (lSb θ c)) && (aM A).all (fun m => match mGet m.1 (lSb θ m.2.1) (lSb θ m.2.2.1) (sM s) with
    | some r => lQ (sI s) (sC s) r (lSb θ m.2.2.2)
    | none => decide (m.1 = 3) && lEq (lSb θ m.2.1) (lK 0) && lEq (lSb θ m.2.2.2) (lK 0)) && decide ((aG A).length < 1000000)
theorem vMc_spec {KT : vKT} {ρ : Nat → Int} {σ : Nat → Nat} {ty : Nat → Option Nat} {H : List (XC Int32)} {s : vSt} (h : vRel KT ρ σ ty H s) {A : vAn} {θ : List lT} {τ : List Nat} {L : List (Nat × vA)} {S : List vA} (hk : vMc A θ τ L S s = true) :
    vRel KT (rO ρ θ) (sO σ τ) ty H (aSt A) ∧ (∀ Lc, vCov ρ σ L Lc → vCov (rO ρ θ) (sO σ τ) (aL A) Lc) ∧ S.map (cv ρ σ) = (aS A).map (cv (rO ρ θ) (sO σ τ)) ∧ θ.length = (aI A).length ∧ τ.length = (aG A).length ∧ (∀ a c, ty a = some c → kRaw KT c = none) := by
  unfold vMc at hk
  simp only [Bool.and_eq_true] at hk
  obtain ⟨⟨⟨⟨⟨⟨⟨⟨k0, k1⟩, k2⟩, k3⟩, k4⟩, k5⟩, k6⟩, k7⟩, k8⟩ := hk
  have k8 := of_decide_eq_true k8
  obtain ⟨i1, i2⟩ := inIs_spec h.2.2.2.1 h.2.2.2.2.1 k1
  obtain ⟨j1, j2⟩ := inGs_spec k2
  have hraw : ∀ a c, ty a = some c → kRaw KT c = none := fun a c ha => by
    rcases hR : kRaw KT c with _ | d
    · rfl
    · obtain ⟨i, hi, -⟩ := h.2.2.2.2.2.2.2 a c d ha hR
      rw [List.isEmpty_iff.mp k0] at hi
      cases hi
  refine ⟨⟨h.1, fun i c hc => ?_, fun f hf => ?_, zipI_spec.mpr (fun i p hp => ?_), fun c hc => ?_, fun m hm => ?_, h.2.2.2.2.2.2.1, fun a c d ha hd => ?_⟩, fun Lc hc j v hj => ?_, vQs_spec h k4, i1, j1, hraw⟩
  · have h1 := h.2.1 _ c (j2 i c hc)
    have hlt := (List.getElem?_eq_some_iff.mp hc).1
    have hlt : i < (aG A).length := hlt
    show ty (if i < 1000000 then sO σ τ i else i) = some c
    rw [if_pos (by omega)]
    exact h1
  · have h1 := List.all_eq_true.mp k5 f hf
    split at h1
    · rename_i v hv
      have h2 := fGet_spec h.2.2.1 hv
      rw [vQ_spec h h1, vSb_cv] at h2
      exact vPlace_sb.mp h2
    · cases h1
  · rw [Nat.zero_add]
    exact i2 i p hp
  · have h1 := lGe_spec h.2.2.2.1 h.2.2.2.2.1 (List.all_eq_true.mp k6 c hc)
    rw [lSb_ev] at h1
    exact h1
  · have h1 := List.all_eq_true.mp k7 m hm
    split at h1
    · rename_i r hr
      have h2 := mGet_spec h.2.2.2.2.2.1 hr
      rw [lQ_spec h.2.2.2.1 h.2.2.2.2.1 h1, lSb_ev, lSb_ev, lSb_ev] at h2
      exact h2
    · have h2 := Bool.and_eq_true_iff.mp h1
      have h3 := Bool.and_eq_true_iff.mp h2.1
      have e1 : m.1 = 3 := of_decide_eq_true h3.1
      have e2 := congrArg (lEv ρ) (lEq_spec h3.2)
      have e3 := congrArg (lEv ρ) (lEq_spec h2.2)
      rw [lSb_ev, lK_ev] at e2 e3
      unfold mHd
      rw [e1, e2, e3]
      exact Int32.zero_and
  · rw [hraw a c ha] at hd
    cases hd
  · have hm : (j, v) ∈ aL A := by
      unfold x_lk at hj
      obtain ⟨q, hq, e⟩ := Option.map_eq_some_iff.mp hj
      have h1 := List.mem_of_find?_eq_some hq
      have h2 := List.find?_some hq
      simp only [beq_iff_eq] at h2
      obtain ⟨q1, q2⟩ := q
      have h2 : q1 = j := h2
      have e : q2 = v := e
      rw [h2, e] at h1
      exact h1
    have h1 := List.all_eq_true.mp k3 (j, v) hm
    dsimp only at h1
    split at h1
    · rename_i u hu
      rw [hc j u hu, vQ_spec h h1, vSb_cv]
    · cases h1
/-- the same, its unknowns looked up; the first n0 and m0 are those of the state -/
def vMt (A : vAn) (n0 m0 : Nat) (L : List (Nat × vA)) (S : List vA) (s : vSt) : Option (List lT × List Nat) := match rcs L S s (aRc A) ((List.range n0).map lSy) (List.range m0) with
  | none => none
  | some p => if vMc A p.1 p.2 L S s then some p else none
theorem vMt_spec {KT : vKT} {ρ : Nat → Int} {σ : Nat → Nat} {ty : Nat → Option Nat} {H : List (XC Int32)} {s : vSt} (h : vRel KT ρ σ ty H s) {A : vAn} {n0 m0 : Nat} {L : List (Nat × vA)} {S : List vA} {p : List lT × List Nat} (hk : vMt A n0 m0 L S s = some p) (hm : m0 < 1000000) :
    vRel KT (rO ρ p.1) (sO σ p.2) ty H (aSt A) ∧ (∀ Lc, vCov ρ σ L Lc → vCov (rO ρ p.1) (sO σ p.2) (aL A) Lc) ∧ S.map (cv ρ σ) = (aS A).map (cv (rO ρ p.1) (sO σ p.2)) ∧ p.1.length = (aI A).length ∧ p.2.length = (aG A).length ∧ (∀ a c, ty a = some c → kRaw KT c = none) ∧ (∀ i, i < n0 → rO ρ p.1 i = ρ i) ∧ (∀ i, i < m0 → sO σ p.2 i = σ i) := by
  unfold vMt at hk
  split at hk
  · cases hk
  rename_i p2 hp
  split at hk
  · rename_i hc
    cases hk
    obtain ⟨g1, g2, g3, g4, g5, g6⟩ := vMc_spec h hc
    obtain ⟨⟨t, ht⟩, ⟨u, hu⟩⟩ := rcs_pre hp
    refine ⟨g1, g2, g3, g4, g5, g6, fun i hi => ?_, fun i hi => ?_⟩
    · unfold rO
      rw [ht, List.getD_eq_getElem?_getD, List.getElem?_append_left (by rw [List.length_map, List.length_range]; exact hi), List.getElem?_map, List.getElem?_range hi]
      exact lSy_ev ρ i
    · unfold sO
      rw [hu, List.getD_eq_getElem?_getD, List.getElem?_append_left (by rw [List.length_range]; exact hi), List.getElem?_range hi]
      show (if i < 1000000 then σ i else i) = σ i
      rw [if_pos (by omega)]
  · cases hk
end XMatch
end
section
/-! Contracts of methods, and what a caller knows behind a call. -/
section XCall
/-- a contract: depth that it wants, places that it writes, the note at its entry, those at its ends (the answer is their stack), those at its loops by place -/
abbrev vCt : Type := Nat × List (Nat × Nat) × vAn × List vAn × List (Nat × List vAn)
abbrev cD (c : vCt) : Nat := c.1
abbrev cW (c : vCt) : List (Nat × Nat) := c.2.1
abbrev cE (c : vCt) : vAn := c.2.2.1
abbrev cX (c : vCt) : List vAn := c.2.2.2.1
abbrev cU (c : vCt) : List (Nat × List vAn) := c.2.2.2.2
def vPost (KT : vKT) (W : List (Nat × Nat)) (X : List vAn) (n0 m0 mc : Nat) (ρ : Nat → Int) (σ : Nat → Nat) (ty : Nat → Option Nat) (H : List (XC Int32)) (v : Option (XV Int32)) (H2 : List (XC Int32)) : Prop :=
  ∃ A ∈ X, ∃ ρ2 σ2 ty2, (∀ i, i < n0 → ρ2 i = ρ i) ∧ (∀ i, i < m0 → σ2 i = σ i) ∧ vRel KT ρ2 σ2 ty2 H2 (aSt A) ∧ v.toList = (aS A).map (cv ρ2 σ2) ∧ vLe ty ty2 ∧ vFrm W ty H H2 ∧ H2.length ≤ H.length + mc
/-- the method keeps its contract -/
def vCtSem (KT : vKT) (tb : XT) (tyl : List FieldType) (ot : XO Int32) (j : Nat) (c : vCt) : Prop :=
  ∀ (dp : Nat) (q : XM) (ρ : Nat → Int) (σ : Nat → Nat) (ty : Nat → Option Nat) (H : List (XC Int32)) (Lc : List (Nat × XV Int32)), cD c ≤ dp → tMth tb j = some q → vRel KT ρ σ ty H (aSt (cE c)) → vCov ρ σ (aL (cE c)) Lc → H.length + mMc q ≤ 1000000 →
    ∃ v H2, x_To tb tyl ot dp j 0 Lc [] H 0 0 v H2 ∧ vPost KT (cW c) (cX c) (aI (cE c)).length (aG (cE c)).length (mMc q) ρ σ ty H v H2
/-- what stays known over a call -/
def fCal (W : List (Nat × Nat)) (G : List Nat) (F : List vK) : List vK := F.filter (fun f => match G[f.1]? with
  | none => false
  | some c => match f.2.1 with
    | .inl j => !(wIn W c (j + 1))
    | .inr _ => !(wIn W c 0) && !(wIn W c 1))
theorem fCal_spec {ρ : Nat → Int} {σ : Nat → Nat} {ty : Nat → Option Nat} {W : List (Nat × Nat)} {G : List Nat} {H H2 : List (XC Int32)} (hs : vSym ty σ G) (hf : vFrm W ty H H2) {F : List vK} (hF : ∀ f ∈ F, vHolds ρ σ H f) : ∀ f ∈ fCal W G F, vHolds ρ σ H2 f := by
  intro f hm
  obtain ⟨h1, h2⟩ := List.mem_filter.mp hm
  have h3 := hF f h1
  split at h2
  · cases h2
  rename_i c hc
  have hty := hs _ _ hc
  obtain ⟨i, j | e, v⟩ := f
  · obtain ⟨ci, fs, y1, y2⟩ := h3
    have hw : wIn W c (j + 1) = false := by simpa using h2
    obtain ⟨z2, z1, z3⟩ := hf _ _ _ hty y1
    rcases z2 with ⟨c2, gs⟩ | z2
    · exact ⟨c2, gs, z1, by rw [z3.2.2 j hw]; exact y2⟩
    · exact z3.elim
  · obtain ⟨t, vs, y1, y0, y2⟩ := h3
    have h4 := Bool.and_eq_true_iff.mp h2
    have hw : wIn W c 0 = false := by simpa using h4.1
    have hw1 : wIn W c 1 = false := by simpa using h4.2
    obtain ⟨z2, z1, z3⟩ := hf _ _ _ hty y1
    rcases z2 with z2 | ⟨t2, us⟩
    · exact z3.elim
    · have e : us = vs := by
        have z4 := z3.2 hw
        unfold vMonV at z4
        rw [hw1, if_neg (by decide)] at z4
        exact z4
      exact ⟨t2, us, z1, y0, by rw [e]; exact y2⟩
/-- a note names its own unknowns and symbols alone -/
def aBd (A : vAn) : Bool := (aF A).all (fun f => decide (f.1 < (aG A).length) && kyBd (aI A).length f.2.1 && vBd (aI A).length (aG A).length f.2.2) && (aC A).all (lBd (aI A).length) && (aM A).all (mBd (aI A).length) && (aS A).all (vBd (aI A).length (aG A).length) && decide ((aG A).length < 1000000)
def thX (n k : Nat) (θ : List lT) : List lT := θ ++ (List.range k).map (fun i => lSy (n + i))
def taX (m k : Nat) (τ : List Nat) : List Nat := τ ++ (List.range k).map (fun i => m + i)
/-- the state behind a call that ended so -/
def vExS (W : List (Nat × Nat)) (X : vAn) (n0 m0 : Nat) (θ : List lT) (τ : List Nat) (s : vSt) : vSt :=
  let kI := (aI X).length - n0
  let kG := (aG X).length - m0
  let th := thX (sN s) kI θ
  let ta := taX (sG s).length kG τ
  (sN s + kI, sG s ++ (aG X).drop m0, (aF X).map (fun f => (tSb ta f.1, kySb th f.2.1, vSb th ta f.2.2)) ++ fCal W (sG s) (sF s), zipI (sN s) ((aI X).drop n0) ++ sI s, (aC X).map (lSb th) ++ sC s, (aM X).map (fun m => (m.1, lSb th m.2.1, lSb th m.2.2.1, lSb th m.2.2.2)) ++ sM s, [])
def vExt1 (W : List (Nat × Nat)) (X : vAn) (n0 m0 : Nat) (θ : List lT) (τ : List Nat) (s : vSt) (kk : vSt → List vA → Bool) : Bool :=
  aBd X && decide (n0 ≤ (aI X).length) && decide (m0 ≤ (aG X).length) && decide (θ.length = n0) && decide (τ.length = m0) && θ.all (lBd (sN s)) && τ.all (fun i => decide (i < (sG s).length) || decide (1000000 ≤ i)) && sBd s && decide ((sG s).length + (aG X).length < 1000000) && kk (vExS W X n0 m0 θ τ s) ((aS X).map (vSb (thX (sN s) ((aI X).length - n0) θ) (taX (sG s).length ((aG X).length - m0) τ)))
theorem vExt1_spec {KT : vKT} {W : List (Nat × Nat)} {X : vAn} {n0 m0 : Nat} {θ : List lT} {τ : List Nat} {s : vSt} {kk : vSt → List vA → Bool} (hk : vExt1 W X n0 m0 θ τ s kk = true) {ρ ρ2 : Nat → Int} {σ σ2 : Nat → Nat} {ty ty2 : Nat → Option Nat} {H H2 : List (XC Int32)} (h : vRel KT ρ σ ty H s) (hρ : ∀ i, i < n0 → ρ2 i = rO ρ θ i) (hσ : ∀ i, i < m0 → σ2 i = sO σ τ i) (h2 : vRel KT ρ2 σ2 ty2 H2 (aSt X)) (hle : vLe ty ty2) (hf : vFrm W ty H H2) :
    ∃ ρ3 σ3 s3 S3, vExt s s3 ρ ρ3 σ σ3 ∧ vRel KT ρ3 σ3 ty2 H2 s3 ∧ S3.map (cv ρ3 σ3) = (aS X).map (cv ρ2 σ2) ∧ kk s3 S3 = true := by
  unfold vExt1 at hk
  simp only [Bool.and_eq_true] at hk
  obtain ⟨⟨⟨⟨⟨⟨⟨⟨⟨k0, k1⟩, k2⟩, k3⟩, k4⟩, k5⟩, k6⟩, k7⟩, k8⟩, k9⟩ := hk
  have k1 := of_decide_eq_true k1
  have k2 := of_decide_eq_true k2
  have k3 := of_decide_eq_true k3
  have k4 := of_decide_eq_true k4
  have k8 := of_decide_eq_true k8
  unfold aBd at k0
  simp only [Bool.and_eq_true] at k0
  obtain ⟨⟨⟨⟨b1, b2⟩, b3⟩, b4⟩, b5⟩ := k0
  have b5 := of_decide_eq_true b5
  let ρ3 : Nat → Int := fun i => if i < sN s then ρ i else ρ2 (n0 + (i - sN s))
  let σ3 : Nat → Nat := fun i => if i < (sG s).length then σ i else σ2 (m0 + (i - (sG s).length))
  have e1 : ∀ i, i < sN s → ρ3 i = ρ i := fun i hi => if_pos hi
  have e2 : ∀ i, i < (sG s).length → σ3 i = σ i := fun i hi => if_pos hi
  have t1 : ∀ i, i < (aI X).length → rO ρ3 (thX (sN s) ((aI X).length - n0) θ) i = ρ2 i := fun i hi => by
    unfold rO thX
    by_cases c : i < n0
    · rw [List.getD_eq_getElem?_getD, List.getElem?_append_left (by omega), hρ i c]
      have hl : θ[i]? = some (θ[i]'(by omega)) := List.getElem?_eq_getElem (by omega)
      unfold rO
      rw [List.getD_eq_getElem?_getD, hl]
      exact lBd_spec e1 (List.all_eq_true.mp k5 _ (List.mem_of_getElem? hl))
    · rw [List.getD_eq_getElem?_getD, List.getElem?_append_right (by omega), List.getElem?_map, List.getElem?_range (by omega)]
      show lEv ρ3 (lSy (sN s + (i - θ.length))) = ρ2 i
      rw [lSy_ev]
      show (if sN s + (i - θ.length) < sN s then _ else ρ2 (n0 + (sN s + (i - θ.length) - sN s))) = ρ2 i
      rw [if_neg (by omega)]
      congr 1
      omega
  have t2 : ∀ i, i < (aG X).length → sO σ3 (taX (sG s).length ((aG X).length - m0) τ) i = σ2 i := fun i hi => by
    unfold sO taX
    by_cases c : i < m0
    · rw [List.getD_eq_getElem?_getD, List.getElem?_append_left (by omega), hσ i c]
      have hl : τ[i]? = some (τ[i]'(by omega)) := List.getElem?_eq_getElem (by omega)
      unfold sO
      rw [List.getD_eq_getElem?_getD, hl]
      exact sR_spec e2 (List.all_eq_true.mp k6 _ (List.mem_of_getElem? hl))
    · rw [List.getD_eq_getElem?_getD, List.getElem?_append_right (by omega), List.getElem?_map, List.getElem?_range (by omega)]
      show (if (sG s).length + (i - τ.length) < 1000000 then (if (sG s).length + (i - τ.length) < (sG s).length then _ else σ2 (m0 + ((sG s).length + (i - τ.length) - (sG s).length))) else _) = σ2 i
      rw [if_pos (by omega), if_neg (by omega)]
      congr 1
      omega
  have u1 : ∀ l, lBd (aI X).length l = true → lEv ρ3 (lSb (thX (sN s) ((aI X).length - n0) θ) l) = lEv ρ2 l := fun l hl => by
    rw [lSb_ev]
    exact lBd_spec t1 hl
  have u2 : ∀ i, (decide (i < (aG X).length) || decide (1000000 ≤ i)) = true → sR σ3 (tSb (taX (sG s).length ((aG X).length - m0) τ) i) = sR σ2 i := fun i hi => by
    rw [tSb_spec]
    exact sR_spec t2 hi
  have u3 : ∀ v, vBd (aI X).length (aG X).length v = true → cv ρ3 σ3 (vSb (thX (sN s) ((aI X).length - n0) θ) (taX (sG s).length ((aG X).length - m0) τ) v) = cv ρ2 σ2 v := fun v hv => by
    rw [vSb_cv]
    exact vBd_spec t1 t2 hv
  obtain ⟨g1, g2, g3, g4, g5, g6, g7, g8⟩ := h2
  obtain ⟨f1, f2, f3, f4, f5, f6, f7, f8⟩ := vRel_ext h k7 e1 e2
  refine ⟨ρ3, σ3, _, _, ⟨e1, e2, Nat.le_add_right _ _, ?_⟩, ⟨g1, fun i c hc => ?_, fun f hm => ?_, fun q hq => ?_, fun c hc => ?_, fun m hm => ?_, g7, fun a c d ha hd => (by obtain ⟨i, hi, -⟩ := g8 a c d ha hd; cases hi)⟩, ?_, k9⟩
  · show (sG s).length ≤ (sG s ++ _).length
    rw [List.length_append]
    exact Nat.le_add_right _ _
  · have hc : (sG s ++ (aG X).drop m0)[i]? = some c := hc
    by_cases c1 : i < (sG s).length
    · rw [List.getElem?_append_left c1] at hc
      exact hle _ _ (f2 i c hc)
    · rw [List.getElem?_append_right (by omega), List.getElem?_drop] at hc
      have hlt : m0 + (i - (sG s).length) < (aG X).length := (List.getElem?_eq_some_iff.mp hc).1
      have z := g2 _ c hc
      have e : sR σ3 i = sR σ2 (m0 + (i - (sG s).length)) := by
        show (if i < 1000000 then (if i < (sG s).length then _ else σ2 (m0 + (i - (sG s).length))) else i) = (if m0 + (i - (sG s).length) < 1000000 then σ2 (m0 + (i - (sG s).length)) else _)
        rw [if_pos (by omega), if_neg c1, if_pos (by omega)]
      rw [e]
      exact z
  · rcases List.mem_append.mp hm with hm | hm
    · obtain ⟨f0, y1, rfl⟩ := List.mem_map.mp hm
      have y2 := List.all_eq_true.mp b1 f0 y1
      simp only [Bool.and_eq_true] at y2
      obtain ⟨⟨y3, y4⟩, y5⟩ := y2
      have y6 := g3 f0 y1
      obtain ⟨x, key, v⟩ := f0
      unfold vHolds at y6 ⊢
      dsimp only at y3 y4 y5 y6 ⊢
      rw [u3 v y5]
      have hx := u2 x (by rw [y3]; rfl)
      rcases key with j | e
      · obtain ⟨ci, fs, z1, z2⟩ := y6
        exact ⟨ci, fs, by rw [hx]; exact z1, z2⟩
      · obtain ⟨t, vs, z1, z0, z2⟩ := y6
        have he := u1 e y4
        exact ⟨t, vs, by rw [hx]; exact z1, by rw [he]; exact z0, by rw [he]; exact z2⟩
    · exact fCal_spec f2 hf f3 f hm
  · rcases List.mem_append.mp hq with hq | hq
    · refine zipI_spec.mpr (fun i p hp => ?_) q hq
      rw [List.getElem?_drop] at hp
      have z := zipI_spec.mp g4 _ p hp
      rw [Nat.zero_add] at z
      show p.1 ≤ (if sN s + i < sN s then _ else ρ2 (n0 + (sN s + i - sN s))) ∧ (if sN s + i < sN s then _ else ρ2 (n0 + (sN s + i - sN s))) ≤ p.2
      rw [if_neg (by omega), Nat.add_sub_cancel_left]
      exact z
    · exact f4 q hq
  · rcases List.mem_append.mp hc with hc | hc
    · obtain ⟨c0, y1, rfl⟩ := List.mem_map.mp hc
      rw [u1 c0 (List.all_eq_true.mp b2 c0 y1)]
      exact g5 c0 y1
    · exact f5 c hc
  · rcases List.mem_append.mp hm with hm | hm
    · obtain ⟨m0', y1, rfl⟩ := List.mem_map.mp hm
      have y2 := List.all_eq_true.mp b3 m0' y1
      have y3 := Bool.and_eq_true_iff.mp y2
      have y4 := Bool.and_eq_true_iff.mp y3.1
      have y5 := g6 m0' y1
      unfold mHd at y5 ⊢
      dsimp only
      rw [u1 _ y4.1, u1 _ y4.2, u1 _ y3.2]
      exact y5
    · exact f6 m hm
  · rw [List.map_map]
    exact List.map_congr_left fun v hv => u3 v (List.all_eq_true.mp b4 v hv)
/-- a call by one of its contracts -/
def wSub (W2 W : List (Nat × Nat)) : Bool := W2.all (fun w => wIn W w.1 w.2)
theorem wSub_spec {W2 W : List (Nat × Nat)} (h : wSub W2 W = true) (c k : Nat) (hk : wIn W2 c k = true) : wIn W c k = true := by
  obtain ⟨w, hw, h1⟩ := List.any_eq_true.mp hk
  have h2 := Bool.and_eq_true_iff.mp h1
  have h3 := List.all_eq_true.mp h w hw
  rw [of_decide_eq_true h2.1, of_decide_eq_true h2.2] at h3
  exact h3
def vCal (W : List (Nat × Nat)) (dp : Nat) (as : List vA) (s : vSt) (kk : vSt → List vA → Bool) : List vCt → Bool
  | [] => false
  | c :: r => (match vMt (cE c) 0 0 (x_en 0 as) [] s with
    | none => vCal W dp as s kk r
    | some p => decide (cD c ≤ dp) && wSub (cW c) W && (cX c).all (fun X => vExt1 (cW c) X (aI (cE c)).length (aG (cE c)).length p.1 p.2 s kk))
theorem vCal_spec {KT : vKT} {tb : XT} {tyl : List FieldType} {ot : XO Int32} {j : Nat} {W : List (Nat × Nat)} {dp dp2 : Nat} {as : List vA} {s : vSt} {kk : vSt → List vA → Bool} {q : XM} {ρ : Nat → Int} {σ : Nat → Nat} {ty ty0 : Nat → Option Nat} {H H0 : List (XC Int32)} (hq : tMth tb j = some q) (hd : dp ≤ dp2) (h : vRel KT ρ σ ty H s) (hlen : H.length + mMc q ≤ 1000000) (hle : vLe ty0 ty) (hf : vFrm W ty0 H0 H) : ∀ {l : List vCt}, (∀ c ∈ l, vCtSem KT tb tyl ot j c) → vCal W dp as s kk l = true →
    ∃ v H2 ρ3 σ3 ty3 s3 S3, x_To tb tyl ot dp2 j 0 (x_en 0 (as.map (cv ρ σ))) [] H 0 0 v H2 ∧ vExt s s3 ρ ρ3 σ σ3 ∧ vRel KT ρ3 σ3 ty3 H2 s3 ∧ S3.map (cv ρ3 σ3) = v.toList ∧ vLe ty0 ty3 ∧ vFrm W ty0 H0 H2 ∧ H2.length ≤ H.length + mMc q ∧ kk s3 S3 = true
  | [], _, hk => by cases hk
  | c :: r, hc, hk => by
    unfold vCal at hk
    split at hk
    · exact vCal_spec hq hd h hlen hle hf (fun z hz => hc z (List.mem_cons_of_mem _ hz)) hk
    · rename_i p hp
      simp only [Bool.and_eq_true] at hk
      obtain ⟨⟨k1, k2⟩, k3⟩ := hk
      have k1 := of_decide_eq_true k1
      obtain ⟨g1, g2, -, -, -, -, -, -⟩ := vMt_spec h hp (by decide)
      obtain ⟨v, H2, x1, A, hA, ρ2, σ2, ty2, a1, a2, a3, a4, a5, a6, a7⟩ := hc c List.mem_cons_self dp2 q _ _ ty H (x_en 0 (as.map (cv ρ σ))) (Nat.le_trans k1 hd) hq g1 (g2 _ (vCov_en as 0)) hlen
      obtain ⟨ρ3, σ3, s3, S3, b1, b2, b3, b4⟩ := vExt1_spec (List.all_eq_true.mp k3 A hA) h a1 a2 a3 a5 a6
      exact ⟨v, H2, ρ3, σ3, ty2, s3, S3, x1, b1, b2, b3.trans a4.symm, vLe_tr hle a5, vFrm_tr hf hle (wSub_spec k2) a6, a7, b4⟩
end XCall
end
section
/-! The checker, and that it is right. -/
section XChk
theorem x_n41 : ((some 4 : Option Nat) = some 1) = False := eq_false (by decide)
theorem x_n42 : ((some 4 : Option Nat) = some 2) = False := eq_false (by decide)
theorem x_n43 : ((some 4 : Option Nat) = some 3) = False := eq_false (by decide)
theorem xT_absY {tb : XT} {tyl : List FieldType} {ot : XO Int32} {dp k pc n cn sn ix : Nat} {q : XM} {L : List (Nat × XV Int32)} {S : List (XV Int32)} {H H2 : List (XC Int32)} {v : Option (XV Int32)} {a : Int32} (hq : tMth tb k = some q) (hi : mC q pc = some (.invokestatic ix, n)) (h0 : tCal tb (mO q) ix = none) (h1 : tBi tb (mO q) ix = some 4) (h2 : (decide (S.length ≤ 8) && decide (cn ≤ mMc q) && decide (sn ≤ mMs q)) = true) (h3 : x_cmp 3 a 0 = true) (h : x_To tb tyl ot dp k (pc + 3) L (.inl a :: S) H cn sn v H2) : x_To tb tyl ot dp k pc L (.inl a :: S) H cn sn v H2 := x_to1 (fun f w post => by
  simp only [x_run, hq, hi, h0, h1, h2, if_true, dC_br, show x_cmp 3 a (dKc dC 0) = true from h3, Bool.false_eq_true, if_false, x_n41, x_n42, x_n43]) h
theorem xT_absN {tb : XT} {tyl : List FieldType} {ot : XO Int32} {dp k pc n cn sn ix : Nat} {q : XM} {L : List (Nat × XV Int32)} {S : List (XV Int32)} {H H2 : List (XC Int32)} {v : Option (XV Int32)} {a : Int32} (hq : tMth tb k = some q) (hi : mC q pc = some (.invokestatic ix, n)) (h0 : tCal tb (mO q) ix = none) (h1 : tBi tb (mO q) ix = some 4) (h2 : (decide (S.length ≤ 8) && decide (cn ≤ mMc q) && decide (sn ≤ mMs q)) = true) (h3 : x_cmp 3 a 0 = false) (h : x_To tb tyl ot dp k (pc + 3) L (.inl (x_bin 1 0 a) :: S) H cn sn v H2) : x_To tb tyl ot dp k pc L (.inl a :: S) H cn sn v H2 := x_to1 (fun f w post => by
  simp only [x_run, hq, hi, h0, h1, h2, if_true, dC_br, show x_cmp 3 a (dKc dC 0) = false from h3, Bool.false_eq_true, if_false, x_n41, x_n42, x_n43]
  rfl) h
theorem cv_lK (ρ : Nat → Int) (σ : Nat → Nat) (x : Int32) : cv ρ σ (.inl (lK x.toInt)) = .inl x := by
  show (Sum.inl (Int32.ofInt (lEv ρ (lK x.toInt))) : XV Int32) = _
  rw [lK_ev, Int32.ofInt_toInt]
/-- an unknown that is known by its bounds -/
def lNm (I : lI) (l : lT) : lT := match l.2 with
  | [p] => match iLk I p.1 with
    | some q => if q.1 = q.2 then lK (l.1 + p.2 * q.1) else l
    | none => l
  | _ => l
theorem lNm_ev {ρ : Nat → Int} {I : lI} (hI : iHd ρ I) (l : lT) : lEv ρ (lNm I l) = lEv ρ l := by
  unfold lNm
  split
  · rename_i p hp
    split
    · rename_i q hq
      split
      · rename_i he
        have h := iLk_spec hI hq
        have e : ρ p.1 = q.1 := by omega
        rw [lK_ev]
        show _ = l.1 + lS ρ l.2
        rw [hp]
        show _ = l.1 + (p.2 * ρ p.1 + 0)
        rw [e]
        omega
      · rfl
    · rfl
  · rfl
/-- locals, stack, cells and slots name older unknowns alone -/
def vFr (L : List (Nat × vA)) (r : List vA) (cn sn : lT) (s : vSt) : Bool := L.all (fun q => vBd (sN s) (sG s).length q.2) && r.all (vBd (sN s) (sG s).length) && lBd (sN s) cn && lBd (sN s) sn
def vFrP (L : List (Nat × vA)) (r : List vA) (cn sn : lT) (ρ : Nat → Int) (σ : Nat → Nat) (ρ2 : Nat → Int) (σ2 : Nat → Nat) : Prop := (∀ Lc, vCov ρ σ L Lc → vCov ρ2 σ2 L Lc) ∧ r.map (cv ρ2 σ2) = r.map (cv ρ σ) ∧ lEv ρ2 cn = lEv ρ cn ∧ lEv ρ2 sn = lEv ρ sn
theorem vFrP_rf (L : List (Nat × vA)) (r : List vA) (cn sn : lT) (ρ : Nat → Int) (σ : Nat → Nat) : vFrP L r cn sn ρ σ ρ σ := ⟨fun _ h => h, rfl, rfl, rfl⟩
theorem vFr_spec {s s2 : vSt} {ρ ρ2 : Nat → Int} {σ σ2 : Nat → Nat} (g : vExt s s2 ρ ρ2 σ σ2) {L : List (Nat × vA)} {r : List vA} {cn sn : lT} (hk : vFr L r cn sn s = true) : vFrP L r cn sn ρ σ ρ2 σ2 := by
  unfold vFr at hk
  simp only [Bool.and_eq_true] at hk
  obtain ⟨⟨⟨k1, k2⟩, k3⟩, k4⟩ := hk
  exact ⟨fun Lc h => vBd_loc g.1 g.2.1 k1 h, vBd_list g.1 g.2.1 k2, lBd_spec g.1 k3, lBd_spec g.1 k4⟩
def vBinF (L : List (Nat × vA)) (r : List vA) (cn sn : lT) (o : Nat) (a b : lT) (s : vSt) (kk : vSt → lT → Bool) : Bool := match vLin o a b with
  | some t => if lFit (sI s) t then kk s t else vFr L r cn sn s && vNew o a b s kk
  | none => vFr L r cn sn s && vNew o a b s kk
theorem vBinF_spec {KT : vKT} {ρ : Nat → Int} {σ : Nat → Nat} {ty : Nat → Option Nat} {H : List (XC Int32)} {s : vSt} (h : vRel KT ρ σ ty H s) {L : List (Nat × vA)} {r : List vA} {cn sn : lT} {o : Nat} {a b : lT} {kk : vSt → lT → Bool} (hk : vBinF L r cn sn o a b s kk = true) :
    ∃ ρ2 s2 t, vExt s s2 ρ ρ2 σ σ ∧ vRel KT ρ2 σ ty H s2 ∧ x_bin o (Int32.ofInt (lEv ρ a)) (Int32.ofInt (lEv ρ b)) = Int32.ofInt (lEv ρ2 t) ∧ vFrP L r cn sn ρ σ ρ2 σ ∧ kk s2 t = true := by
  have nw : (vFr L r cn sn s && vNew o a b s kk) = true → ∃ ρ2 s2 t, vExt s s2 ρ ρ2 σ σ ∧ vRel KT ρ2 σ ty H s2 ∧ x_bin o (Int32.ofInt (lEv ρ a)) (Int32.ofInt (lEv ρ b)) = Int32.ofInt (lEv ρ2 t) ∧ vFrP L r cn sn ρ σ ρ2 σ ∧ kk s2 t = true := fun hk => by
    have hk2 := Bool.and_eq_true_iff.mp hk
    obtain ⟨ρ2, s2, t, g1, g2, g3, g4⟩ := vNew_spec h hk2.2
    exact ⟨ρ2, s2, t, g1, g2, g3, vFr_spec g1 hk2.1, g4⟩
  unfold vBinF at hk
  split at hk
  · rename_i t ht
    split at hk
    · exact ⟨ρ, s, t, vExt_rf s ρ σ, h, vLin_spec ρ ht, vFrP_rf L r cn sn ρ σ, hk⟩
    · exact nw hk
  · exact nw hk
def vRdF (L : List (Nat × vA)) (r : List vA) (cn sn : lT) (f : vF) (i : Nat) (key : Nat ⊕ lT) (nn : Bool) (s : vSt) (kk : vSt → vA → Bool) : Bool := match fGet i key (sF s) with
  | some v => kk s v
  | none => vFr L r cn sn s && vRd f i key nn s kk
theorem vRdF_spec {KT : vKT} {ρ : Nat → Int} {σ : Nat → Nat} {ty : Nat → Option Nat} {H : List (XC Int32)} {s : vSt} (h : vRel KT ρ σ ty H s) {L : List (Nat × vA)} {r : List vA} {cn sn : lT} {f : vF} {i : Nat} {key : Nat ⊕ lT} {nn : Bool} {u : XV Int32} (hp : vPlace ρ σ H i key u) (hu : vFit ty f u) (hnn : nn = true → u ≠ .inr none) {kk : vSt → vA → Bool} (hk : vRdF L r cn sn f i key nn s kk = true) :
    ∃ ρ2 σ2 s2 v, vExt s s2 ρ ρ2 σ σ2 ∧ vRel KT ρ2 σ2 ty H s2 ∧ cv ρ2 σ2 v = u ∧ vFrP L r cn sn ρ σ ρ2 σ2 ∧ kk s2 v = true := by
  unfold vRdF at hk
  split at hk
  · rename_i v hv
    exact ⟨ρ, σ, s, v, vExt_rf s ρ σ, h, vPlace_one (fGet_spec h.2.2.1 hv) hp, vFrP_rf L r cn sn ρ σ, hk⟩
  · have hk2 := Bool.and_eq_true_iff.mp hk
    obtain ⟨ρ2, σ2, s2, v, g1, g2, g3, g4⟩ := vRd_spec h hp hu hnn hk2.2
    exact ⟨ρ2, σ2, s2, v, g1, g2, g3, vFr_spec g1 hk2.1, g4⟩
/-- as many at most -/
def cOk (s : vSt) (cn : lT) (mx : Nat) : Bool := lGe (sI s) (sC s) (lSub (lK (mx : Int)) cn)
theorem cOk_spec {KT : vKT} {ρ : Nat → Int} {σ : Nat → Nat} {ty : Nat → Option Nat} {H : List (XC Int32)} {s : vSt} (h : vRel KT ρ σ ty H s) {cn : lT} {mx n : Nat} (hn : (n : Int) ≤ lEv ρ cn) (hk : cOk s cn mx = true) : n ≤ mx := by
  have h1 := lGe_spec h.2.2.2.1 h.2.2.2.2.1 hk
  rw [lSub_ev, lK_ev] at h1
  omega
def vB01 (e : lT) (s : vSt) : Bool := lFit (sI s) e && lGe (sI s) (sC s) e && lGe (sI s) (sC s) (lSub (lK 1) e)
theorem vB01_spec {KT : vKT} {ρ : Nat → Int} {σ : Nat → Nat} {ty : Nat → Option Nat} {H : List (XC Int32)} {s : vSt} (h : vRel KT ρ σ ty H s) {e : lT} (hk : vB01 e s = true) : Int32.ofInt (lEv ρ e) = 0 ∨ Int32.ofInt (lEv ρ e) = 1 := by
  unfold vB01 at hk
  simp only [Bool.and_eq_true] at hk
  obtain ⟨⟨k1, k2⟩, k3⟩ := hk
  have k2 := lGe_spec h.2.2.2.1 h.2.2.2.2.1 k2
  have k3 := lGe_spec h.2.2.2.1 h.2.2.2.2.1 k3
  rw [lSub_ev, lK_ev] at k3
  by_cases c : lEv ρ e = 0
  · exact Or.inl (by rw [c]; rfl)
  · exact Or.inr (by rw [show lEv ρ e = 1 by omega]; rfl)
theorem vB01_fit {KT : vKT} {ρ : Nat → Int} {σ : Nat → Nat} {ty : Nat → Option Nat} {H : List (XC Int32)} {s : vSt} (h : vRel KT ρ σ ty H s) {e : lT} (hk : vB01 e s = true) : x_fit dC .boolean (.inl (Int32.ofInt (lEv ρ e))) = true := by
  show (decide (Int32.ofInt (lEv ρ e) = 0) || decide (Int32.ofInt (lEv ρ e) = 1)) = true
  rcases vB01_spec h hk with e1 | e1
  · rw [e1]
    rfl
  · rw [e1]
    rfl
def vTyp (t : FieldType) (v : vA) (s : vSt) : Bool := match t, v with
  | .int, .inl _ => true
  | .boolean, .inl e => vB01 e s
  | .object _, .inr _ => true
  | .array _, .inr _ => true
  | _, _ => false
theorem vTyp_spec {KT : vKT} {ρ : Nat → Int} {σ : Nat → Nat} {ty : Nat → Option Nat} {H : List (XC Int32)} {s : vSt} (h : vRel KT ρ σ ty H s) {t : FieldType} {v : vA} (hk : vTyp t v s = true) : x_fit dC t (cv ρ σ v) = true := by
  unfold vTyp at hk
  split at hk
  · rfl
  · exact vB01_fit h hk
  · rename_i c o
    rcases o with _ | i <;> rfl
  · rename_i c o
    rcases o with _ | i <;> rfl
  · cases hk
def vRt (m : Option FieldType) (e : lT) (s : vSt) : Bool := match m with
  | some .int => true
  | some .boolean => vB01 e s
  | some .byte => lFit (sI s) e && lGe (sI s) (sC s) (lSub e (lK (-128))) && lGe (sI s) (sC s) (lSub (lK 127) e)
  | some .char => lFit (sI s) e && lGe (sI s) (sC s) e && lGe (sI s) (sC s) (lSub (lK 65535) e)
  | _ => false
theorem vRt_spec {KT : vKT} {ρ : Nat → Int} {σ : Nat → Nat} {ty : Nat → Option Nat} {H : List (XC Int32)} {s : vSt} (h : vRel KT ρ σ ty H s) {m : Option FieldType} {e : lT} (hk : vRt m e s = true) : x_retOk dC m (.inl (Int32.ofInt (lEv ρ e))) = true := by
  unfold vRt at hk
  split at hk
  · rfl
  · show (decide (Int32.ofInt (lEv ρ e) = 0) || decide (Int32.ofInt (lEv ρ e) = 1)) = true
    rcases vB01_spec h hk with e1 | e1
    · rw [e1]
      rfl
    · rw [e1]
      rfl
  · simp only [Bool.and_eq_true] at hk
    obtain ⟨⟨k1, k2⟩, k3⟩ := hk
    have k1 := lFit_spec h.2.2.2.1 k1
    have k2 := lGe_spec h.2.2.2.1 h.2.2.2.2.1 k2
    have k3 := lGe_spec h.2.2.2.1 h.2.2.2.2.1 k3
    rw [lSub_ev, lK_ev] at k2 k3
    refine decide_eq_true (Int32.toInt_inj.mp ?_)
    rw [Int8.toInt_toInt32, Int32.toInt_toInt8, k1]
    exact Int.bmod_eq_of_le (by simp; omega) (by simp; omega)
  · simp only [Bool.and_eq_true] at hk
    obtain ⟨⟨k1, k2⟩, k3⟩ := hk
    have k2 := lGe_spec h.2.2.2.1 h.2.2.2.2.1 k2
    have k3 := lGe_spec h.2.2.2.1 h.2.2.2.2.1 k3
    rw [lSub_ev, lK_ev] at k3
    generalize lEv ρ e = n at k2 k3
    obtain ⟨k, rfl⟩ : ∃ k : Nat, n = (k : Int) := ⟨n.toNat, by omega⟩
    refine decide_eq_true ?_
    have h3 : ∀ x : UInt32, x.toNat < 65536 → (x % 65536) = x := fun x hx => UInt32.toNat_inj.mp (by
      rw [UInt32.toNat_mod]
      exact Nat.mod_eq_of_lt hx)
    rw [h3]
    · rfl
    · have e2 : (Int32.ofInt (k : Int)).toInt = (k : Int) := ofInt_toInt (by omega) (by omega)
      have e3 := x_nn (x := Int32.ofInt (k : Int)) (by omega)
      show (Int32.ofInt (k : Int)).toBitVec.toNat < 65536
      omega
  · cases hk
def vSw (a : lT) (df : Int) (kk : Int → vSt → Bool) : List (Int × Int) → vSt → Bool
  | [], s => kk df s
  | q :: r, s => vBr 0 a (lK (Int32.ofInt q.1).toInt) s (fun s2 => kk q.2 s2) (fun s2 => vSw a df kk r s2)
theorem vSw_spec {KT : vKT} {ρ : Nat → Int} {σ : Nat → Nat} {ty : Nat → Option Nat} {H : List (XC Int32)} {a : lT} {df : Int} {kk : Int → vSt → Bool} : ∀ (ps : List (Int × Int)) {s : vSt}, vRel KT ρ σ ty H s → vSw a df kk ps s = true → ∃ s2, vRel KT ρ σ ty H s2 ∧ vSame0 s s2 ∧ kk (x_swo (Int32.ofInt (lEv ρ a)) df ps) s2 = true
  | [], s, h, hk => ⟨s, h, vSame0_rf s, hk⟩
  | q :: r, s, h, hk => by
    obtain ⟨s2, g0, g1, g2⟩ := vBr_spec h hk
    rw [lK_ev, Int32.ofInt_toInt] at g2
    rcases g2 with ⟨e, g2⟩ | ⟨e, g2⟩
    · refine ⟨s2, g0, g1, ?_⟩
      have e2 : Int32.ofInt (lEv ρ a) = Int32.ofInt q.1 := of_decide_eq_true e
      show kk (if Int32.ofInt (lEv ρ a) = Int32.ofInt q.1 then q.2 else x_swo (Int32.ofInt (lEv ρ a)) df r) s2 = true
      rw [if_pos e2]
      exact g2
    · have e2 : ¬ Int32.ofInt (lEv ρ a) = Int32.ofInt q.1 := of_decide_eq_false e
      obtain ⟨s3, k0, k1, k2⟩ := vSw_spec r g0 g2
      refine ⟨s3, k0, vSame0_tr g1 k1, ?_⟩
      show kk (if Int32.ofInt (lEv ρ a) = Int32.ofInt q.1 then q.2 else x_swo (Int32.ofInt (lEv ρ a)) df r) s3 = true
      rw [if_neg e2]
      exact k2
/-- what is asked of what lies outside -/
abbrev vOt : Type := (Nat → Nat → Option Nat) × (Nat → Nat → Nat → Option (Int32 ⊕ Option Nat)) × (Nat → Nat → Option (Int32 ⊕ Option Nat)) × (Nat → Option (List Int32)) × (Nat → Option Nat)
def o4 (ot : XO Int32) : vOt := (oSl ot, oFl ot, oGs ot, oBy ot, oCl ot)
def vCls (KT : vKT) (ov : vOt) (a ci : Nat) (s : vSt) : Bool := if 1000000 < a then decide (ov.2.2.2.2 a = some ci) else match (sG s)[a]? with
  | some c => match KT.1[c]? with
    | some (.inl o) => decide (o.1 = ci)
    | _ => false
  | none => false
/-- less is asked -/
def vOvLe (v w : vOt) : Prop := (∀ a b c, v.1 a b = some c → w.1 a b = some c) ∧ (∀ a b c d, v.2.1 a b c = some d → w.2.1 a b c = some d) ∧ (∀ a b d, v.2.2.1 a b = some d → w.2.2.1 a b = some d) ∧ (∀ a d, v.2.2.2.1 a = some d → w.2.2.2.1 a = some d) ∧ ∀ a d, v.2.2.2.2 a = some d → w.2.2.2.2 a = some d
theorem vOvLe_rf (v : vOt) : vOvLe v v := ⟨fun _ _ _ h => h, fun _ _ _ _ h => h, fun _ _ _ h => h, fun _ _ h => h, fun _ _ h => h⟩
theorem vCls_spec {KT : vKT} {ρ : Nat → Int} {σ : Nat → Nat} {ty : Nat → Option Nat} {H : List (XC Int32)} {s : vSt} {ot : XO Int32} {ov : vOt} (hov : vOvLe ov (o4 ot)) (h : vRel KT ρ σ ty H s) (hl : H.length ≤ 1000000) {a ci : Nat} (hk : vCls KT ov a ci s = true) : x_rc ot H (sR σ a) = some ci := by
  unfold vCls at hk
  split at hk
  · rename_i hb
    have e0 : sR σ a = a := if_neg (by omega)
    unfold x_rc
    rw [e0, if_pos hb]
    exact hov.2.2.2.2 _ _ (of_decide_eq_true hk)
  split at hk
  · rename_i c hc
    split at hk
    · rename_i o ho
      have ha := h.2.1 a c hc
      obtain ⟨fs, f1, -, -⟩ := vHp_obj h.1 ha ho
      have hlt := vHp_lt h.1 ha
      unfold x_rc
      rw [if_neg (by omega), f1]
      exact congrArg some (of_decide_eq_true hk)
    · cases hk
  · cases hk
/-- what lies outside, as a value -/
def vOv : Int32 ⊕ Option Nat → Option vA
  | .inl x => some (.inl (lK x.toInt))
  | .inr none => some (.inr none)
  | .inr (some b) => if 1000000 ≤ b then some (.inr (some b)) else none
theorem vOv_spec (ρ : Nat → Int) (σ : Nat → Nat) {u : Int32 ⊕ Option Nat} {v : vA} (h : vOv u = some v) : cv ρ σ v = x_ov dC u := by
  rcases u with x | (_ | b)
  · cases h
    exact cv_lK ρ σ x
  · cases h
    rfl
  · unfold vOv at h
    dsimp only at h
    split at h
    · rename_i hb
      cases h
      exact congrArg (fun z => Sum.inr (some z)) (if_neg (by omega))
    · cases h
/-- what a new object's fields hold -/
def vDefs : List (FieldType × Bool) → List vF → Bool
  | [], [] => true
  | t :: r, f :: g => (match f with
    | .inl p => decide (p.1 ≤ 0) && decide (0 ≤ p.2) && !(x_isRef t.1)
    | .inr q => q.1 && x_isRef t.1) && vDefs r g
  | _, _ => false
theorem vDefs_at {ty : Nat → Option Nat} : ∀ {ts : List (FieldType × Bool)} {fl : List vF}, vDefs ts fl = true → ts.length = fl.length ∧ ∀ (j : Nat) (f : vF) (u : XV Int32), fl[j]? = some f → (ts.map (fun t => x_def dC t.1))[j]? = some u → vFit ty f u
  | [], [], _ => ⟨rfl, fun j f u h => by cases h⟩
  | [], _ :: _, h => by cases h
  | _ :: _, [], h => by cases h
  | t :: r, f :: g, h => by
    have h2 := Bool.and_eq_true_iff.mp h
    obtain ⟨e, ih⟩ := vDefs_at (ty := ty) h2.2
    refine ⟨congrArg (· + 1) e, fun j f2 u hf hu => ?_⟩
    rcases j with _ | j
    · cases hf
      cases hu
      have h3 := h2.1
      obtain ⟨t, b⟩ := t
      rcases f with p | q
      · have h4 := Bool.and_eq_true_iff.mp h3
        have h5 := Bool.and_eq_true_iff.mp h4.1
        have p1 := of_decide_eq_true h5.1
        have p2 := of_decide_eq_true h5.2
        have h6 : x_isRef t = false := by simpa using h4.2
        cases t <;> first | exact ⟨p1, p2⟩ | (cases h6; done)
      · have h4 := Bool.and_eq_true_iff.mp h3
        cases t <;> first | exact h4.1 | (cases h4.2; done)
    · exact ih j f2 u hf hu
theorem vDefs_cell {ty : Nat → Option Nat} {c2 : Nat} {ts : List (FieldType × Bool)} {fl : List vF} (h : vDefs ts fl = true) : vCell ty (.inl (c2, fl)) (.inl (c2, ts.map (fun t => x_def dC t.1))) := by
  obtain ⟨e, g⟩ := vDefs_at (ty := ty) h
  exact ⟨rfl, by rw [List.length_map]; exact e, g⟩
def vZero : vF → Bool
  | .inl p => decide (p.1 ≤ 0) && decide (0 ≤ p.2)
  | .inr _ => false
theorem vZero_fit {ty : Nat → Option Nat} {fl : List vF} (h : fl.all vZero = true) {j : Nat} {f : vF} (hf : vEl fl j = some f) : vFit ty f (.inl 0) := by
  have h1 := List.all_eq_true.mp h f (List.mem_of_getElem? hf)
  rcases f with p | q
  · have h2 := Bool.and_eq_true_iff.mp h1
    exact ⟨of_decide_eq_true h2.1, of_decide_eq_true h2.2⟩
  · cases h1
theorem vZero_cell {ty : Nat → Option Nat} {t m : Nat} {fl : List vF} (h : fl.all vZero = true) : vCell ty (.inr (t, m, fl)) (.inr (t, List.replicate m (.inl 0))) := by
  refine ⟨rfl, List.length_replicate, fun j f u hf hu => ?_⟩
  have hu : (List.replicate m (Sum.inl 0 : XV Int32))[j]? = some u := hu
  have e : u = .inl 0 := by
    rw [List.getElem?_replicate] at hu
    split at hu
    · cases hu
      rfl
    · cases hu
  rw [e]
  exact vZero_fit h hf
/-- the rest of a sum, for all unknowns -/
def lDv (n : Nat) (l : lT) : Bool := l.2.all (fun p => decide (p.2 % (n : Int) = 0))
theorem lDv_spec {ρ : Nat → Int} {n : Nat} {l : lT} (h : lDv n l = true) : lEv ρ l % (n : Int) = l.1 % (n : Int) := by
  have hz : ∀ r : List (Nat × Int), r.all (fun p => decide (p.2 % (n : Int) = 0)) = true → lS ρ r % (n : Int) = 0 := by
    intro r
    induction r with
    | nil => intro _; exact Int.zero_emod _
    | cons p r ih =>
      intro hp
      rw [List.all_cons] at hp
      have hp2 := Bool.and_eq_true_iff.mp hp
      have h1 : p.2 % (n : Int) = 0 := of_decide_eq_true hp2.1
      show (p.2 * ρ p.1 + lS ρ r) % (n : Int) = 0
      rw [Int.add_emod, Int.mul_emod, h1, ih hp2.2, Int.zero_mul, Int.zero_emod, Int.zero_add, Int.zero_emod]
  show (l.1 + lS ρ l.2) % _ = _
  rw [Int.add_emod, hz l.2 h, Int.add_zero, Int.emod_emod]
/-- what an element of the source is at most, by what is known or by its kind -/
def vGcR (bs : Nat) (fl : List vF) (s : vSt) (i : Nat) : Int × Int := match fGet bs (.inr (lK (i : Int))) (sF s) with
  | some (.inl x) => vR (sI s) x
  | _ => match vEl fl i with
    | some (.inl p) => p
    | _ => vTop
/-- may a line be copied so: four elements from the first on, to a group -/
def vGcQ (bs : Nat) (p o : Nat × Nat × List vF) (n d e : lT) (s : vSt) : Bool :=
  (decide (p.1 = 0) && decide (o.1 = 0) && decide (p.2.1 = 4) && lEq n (lK 4) && lEq e (lK 0) && decide (o.2.2.length = 4) && lDv 4 d && decide (d.1 % 4 = 0) && vIdx (lAdd d (lK 3)) o.2.1 s && lGe (sI s) (sC s) d && p.2.2.all Sum.isLeft && decide (p.2.2 ≠ [])) &&
  (List.range 4).all (fun i => match o.2.2[i]? with
    | some (.inl q) => decide (q.1 ≤ (vGcR bs p.2.2 s i).1) && decide ((vGcR bs p.2.2 s i).2 ≤ q.2)
    | _ => false) &&
  (decide (9 < (vGcR bs p.2.2 s 0).1) || decide ((vGcR bs p.2.2 s 1).2 ≤ 5)) && (decide (8 < (vGcR bs p.2.2 s 0).1) || decide ((vGcR bs p.2.2 s 0).2 < 4) || decide ((vGcR bs p.2.2 s 2).2 ≤ 5))
theorem vGcR_spec {KT : vKT} {ρ : Nat → Int} {σ : Nat → Nat} {ty : Nat → Option Nat} {H : List (XC Int32)} {s : vSt} (h : vRel KT ρ σ ty H s) {bs t m : Nat} {fl : List vF} {us : List (XV Int32)} (hB : H[sR σ bs]? = some (.inr (t, us))) (hel : ∀ (j : Nat) (g : vF), j < m → vEl fl j = some g → ∃ u, us[j]? = some u ∧ vFit ty g u) {i : Nat} (hi : i < m) {x : Int32} (hx : us[i]? = some (.inl x)) : vIn (vGcR bs fl s i) x := by
  unfold vGcR
  split
  · rename_i e he
    obtain ⟨t2, ws, y1, y0, y2⟩ := fGet_spec h.2.2.1 he
    have y1 : H[sR σ bs]? = some (.inr (t2, ws)) := y1
    rw [hB] at y1
    cases y1
    rw [lK_ev] at y2
    rw [show ((i : Int)).toNat = i by omega, hx] at y2
    cases y2
    exact vR_spec h.2.2.2.1 e
  · split
    · rename_i p hp
      obtain ⟨u, u1, u2⟩ := hel i _ hi hp
      rw [hx] at u1
      cases u1
      exact u2
    · exact vTop_spec x
theorem vGcQ_spec {KT : vKT} {ρ : Nat → Int} {σ : Nat → Nat} {ty : Nat → Option Nat} {H : List (XC Int32)} {s : vSt} (h : vRel KT ρ σ ty H s) {bs bd cs cd : Nat} {p o : Nat × Nat × List vF} {n d e : lT} (hcs : (sG s)[bs]? = some cs) (hcd : (sG s)[bd]? = some cd) (hp : KT.1[cs]? = some (.inr p)) (ho : KT.1[cd]? = some (.inr o)) (hg : cd = KT.2.1.2.2.2.2) (hne : cd ≠ KT.2.1.2.2.2.1) (hk : vGcQ bs p o n d e s = true) :
    ∃ us vs, H[sR σ bs]? = some (.inr (0, us)) ∧ H[sR σ bd]? = some (.inr (0, vs)) ∧ (∀ b : Bool, b = true → (decide (¬ Int32.ofInt (lEv ρ n) < 0) && decide (¬ Int32.ofInt (lEv ρ d) < 0) && decide (¬ Int32.ofInt (lEv ρ e) < 0) && decide ((Int32.ofInt (lEv ρ e)).toNatClampNeg + (Int32.ofInt (lEv ρ n)).toNatClampNeg ≤ us.length) && decide ((Int32.ofInt (lEv ρ d)).toNatClampNeg + (Int32.ofInt (lEv ρ n)).toNatClampNeg ≤ vs.length) && b && us.all (fun u => u.isLeft)) = true) ∧
      vRel KT ρ σ ty (H.set (sR σ bd) (.inr (0, vs.take (Int32.ofInt (lEv ρ d)).toNatClampNeg ++ (us.drop (Int32.ofInt (lEv ρ e)).toNatClampNeg).take (Int32.ofInt (lEv ρ n)).toNatClampNeg ++ vs.drop ((Int32.ofInt (lEv ρ d)).toNatClampNeg + (Int32.ofInt (lEv ρ n)).toNatClampNeg)))) (vCpy bd s) := by
  obtain ⟨t1, m1, f1⟩ := p
  obtain ⟨t2, m2, f2⟩ := o
  unfold vGcQ at hk
  simp only [Bool.and_eq_true] at hk
  obtain ⟨⟨⟨⟨⟨⟨⟨⟨⟨⟨⟨⟨⟨⟨k1, k2⟩, k3⟩, k4⟩, k5⟩, k6⟩, k7⟩, k8⟩, k9⟩, k10⟩, k11⟩, k12⟩, k13⟩, k14⟩, k15⟩ := hk
  have j1 : t1 = 0 := of_decide_eq_true k1
  have j2 : t2 = 0 := of_decide_eq_true k2
  have j3 : m1 = 4 := of_decide_eq_true k3
  subst j1
  subst j2
  subst j3
  have k6 : f2.length = 4 := of_decide_eq_true k6
  have k8 : d.1 % 4 = 0 := of_decide_eq_true k8
  have k12 : f1 ≠ [] := of_decide_eq_true k12
  have en : lEv ρ n = 4 := by rw [lEq_spec k4, lK_ev]
  have ee : lEv ρ e = 0 := by rw [lEq_spec k5, lK_ev]
  have hd4 : lEv ρ d % 4 = d.1 % 4 := lDv_spec (ρ := ρ) k7
  obtain ⟨x1, x2, x3, x4⟩ := vIdx_spec h k9
  rw [lAdd_ev, lK_ev] at x2 x3
  have k10 := lGe_spec h.2.2.2.1 h.2.2.2.2.1 k10
  have ha := h.2.1 bd cd hcd
  have hb := h.2.1 bs cs hcs
  obtain ⟨vs, v1, v2, v3⟩ := vHp_arr h.1 ha ho
  obtain ⟨us, u1, u2, u3⟩ := vHp_arr h.1 hb hp
  have x2 : (lEv ρ d + 3).toNat < m2 := x2
  have hbig : m2 ≤ 1000000 := by
    have := k9
    unfold vIdx at this
    simp only [Bool.and_eq_true] at this
    exact of_decide_eq_true this.1.1
  have dn : (Int32.ofInt (lEv ρ d)).toInt = lEv ρ d := ofInt_toInt (by omega) (by omega)
  have dN : (Int32.ofInt (lEv ρ d)).toNatClampNeg = (lEv ρ d).toNat := by
    show (Int32.ofInt (lEv ρ d)).toInt.toNat = _
    rw [dn]
  have nN : (Int32.ofInt (lEv ρ n)).toNatClampNeg = 4 := by rw [en]; rfl
  have eN : (Int32.ofInt (lEv ρ e)).toNatClampNeg = 0 := by rw [ee]; rfl
  obtain ⟨D, hD⟩ : ∃ D : Nat, lEv ρ d = (D : Int) := ⟨(lEv ρ d).toNat, by omega⟩
  have hD4 : D % 4 = 0 := by omega
  have hDm : D + 4 ≤ m2 := by omega
  have hisl : ∀ (j : Nat) (u : XV Int32), us[j]? = some u → u.isLeft = true := fun j u hj => by
    have hjl : j < 4 := by rw [← u2]; exact (List.getElem?_eq_some_iff.mp hj).1
    have hlt : j % f1.length < f1.length := Nat.mod_lt _ (by
      rcases f1 with _ | ⟨g, r⟩
      · exact (k12 rfl).elim
      · exact Nat.succ_pos _)
    have hel : vEl f1 j = some (f1[j % f1.length]'hlt) := List.getElem?_eq_getElem hlt
    obtain ⟨w, w1, w2⟩ := u3 j _ hjl hel
    rw [hj] at w1
    cases w1
    have w3 := List.all_eq_true.mp k11 _ (List.getElem_mem hlt)
    generalize f1[j % f1.length]'hlt = g at w2 w3
    rcases g with g | g
    · rcases u with u | (_ | u)
      · rfl
      · exact w2.elim
      · exact w2.elim
    · cases w3
  have hrng : ∀ (j : Nat) (x : Int32), j < 4 → us[j]? = some (.inl x) → vIn (vGcR bs f1 s j) x := fun j x hj hx => vGcR_spec h u1 u3 hj hx
  have hget : ∀ l : Nat, (vs.take D ++ us.take 4 ++ vs.drop (D + 4))[l]? = if l < D then vs[l]? else if l < D + 4 then us[l - D]? else vs[l]? := fun l => by
    have v2 : vs.length = m2 := v2
    have u2 : us.length = 4 := u2
    split
    · rename_i c1
      rw [List.append_assoc, List.getElem?_append_left (by rw [List.length_take]; omega), List.getElem?_take_of_lt c1]
    split
    · rename_i c1 c2
      rw [List.append_assoc, List.getElem?_append_right (by rw [List.length_take]; omega), List.getElem?_append_left (by rw [List.length_take, List.length_take]; omega), List.length_take, Nat.min_eq_left (by omega), List.getElem?_take_of_lt (by omega)]
    · rename_i c1 c2
      rw [List.append_assoc, List.getElem?_append_right (by rw [List.length_take]; omega), List.getElem?_append_right (by rw [List.length_take, List.length_take]; omega), List.getElem?_drop]
      simp only [List.length_take]
      congr 1
      omega
  refine ⟨us, vs, u1, v1, fun b hb => ?_, ?_⟩
  · have hall : us.all (fun u => u.isLeft) = true := List.all_eq_true.mpr fun u hu => by
      obtain ⟨j, hj⟩ := List.getElem?_of_mem hu
      exact hisl j u hj
    have c1 : ¬ Int32.ofInt (lEv ρ n) < 0 := by rw [en]; decide
    have c3 : ¬ Int32.ofInt (lEv ρ e) < 0 := by rw [ee]; decide
    have c2 : ¬ Int32.ofInt (lEv ρ d) < 0 := fun z => by
      have z2 : (Int32.ofInt (lEv ρ d)).toInt < (0 : Int) := Int32.lt_iff_toInt_lt.mp z
      omega
    have u2 : us.length = 4 := u2
    have v2 : vs.length = m2 := v2
    rw [decide_eq_true c1, decide_eq_true c2, decide_eq_true c3, hb, hall, dN, nN, eN, decide_eq_true (show 0 + 4 ≤ us.length by omega), decide_eq_true (show (lEv ρ d).toNat + 4 ≤ vs.length by omega)]
    rfl
  · rw [dN, nN, eN, hD, show ((D : Int)).toNat = D by omega, List.drop_zero]
    have u2 : us.length = 4 := u2
    have v2 : vs.length = m2 := v2
    refine ⟨vHp_set h.1 ha ho ⟨rfl, ?_, fun j g u hg0 hu => ?_⟩, h.2.1, fArr_spec h.2.1 v1 (fun _ hk _ => by cases hk) h.2.2.1, h.2.2.2.1, h.2.2.2.2.1, h.2.2.2.2.2.1, ⟨vNN_arr h.2.2.2.2.2.2.1.1 ha v1 (fun hc => (hne hc).elim), vGp_arr h.2.2.2.2.2.2.1.2 ha (vHp_lt h.1 ha) (fun _ => ?_)⟩, h.2.2.2.2.2.2.2⟩
    · show (vs.take D ++ us.take 4 ++ vs.drop (D + 4)).length = m2
      simp only [List.length_append, List.length_take, List.length_drop]
      omega
    · have hu : (vs.take D ++ us.take 4 ++ vs.drop (D + 4))[j]? = some u := hu
      have hg0 : vEl f2 j = some g := hg0
      rw [hget] at hu
      have old : vs[j]? = some u → vFit ty g u := fun hv => by
        have hj := (List.getElem?_eq_some_iff.mp hv).1
        obtain ⟨w, w1, w2⟩ := v3 j g (by omega) hg0
        rw [hv] at w1
        cases w1
        exact w2
      split at hu
      · exact old hu
      split at hu
      · rename_i c1 c2
        have hm : j % 4 = j - D := by omega
        have hl := hisl _ _ hu
        rcases u with x | u
        · have hr := hrng (j - D) x (by omega) hu
          have k20 := List.all_eq_true.mp k13 (j - D) (List.mem_range.mpr (by omega))
          unfold vEl at hg0
          rw [k6, hm] at hg0
          rw [hg0] at k20
          rcases g with q | q
          · have k21 := Bool.and_eq_true_iff.mp k20
            have k22 := of_decide_eq_true k21.1
            have k23 := of_decide_eq_true k21.2
            exact ⟨Int.le_trans k22 hr.1, Int.le_trans hr.2 k23⟩
          · cases k20
        · cases hl
      · exact old hu
    · intro b x hb4 hx
      have hold := h.2.2.2.2.2.2.1.2 (sR σ bd) 0 vs (hg ▸ ha) v1
      by_cases c : b = D
      · subst c
        rw [hget, if_neg (Nat.lt_irrefl b), if_pos (by omega), Nat.sub_self] at hx
        have r0 := hrng 0 x (by omega) hx
        refine ⟨fun h9 f hf => ?_, fun h4 h8 g hg1 => ?_⟩
        · rw [hget, if_neg (by omega), if_pos (by omega), show b + 1 - b = 1 by omega] at hf
          have r1 := hrng 1 f (by omega) hf
          rcases Bool.or_eq_true_iff.mp k14 with z | z
          · have := of_decide_eq_true z
            have := r0.1
            omega
          · exact Int.le_trans r1.2 (of_decide_eq_true z)
        · rw [hget, if_neg (by omega), if_pos (by omega), show b + 2 - b = 2 by omega] at hg1
          have r1 := hrng 2 g (by omega) hg1
          rcases Bool.or_eq_true_iff.mp k15 with z | z
          · rcases Bool.or_eq_true_iff.mp z with z | z
            · have := of_decide_eq_true z
              have := r0.1
              omega
            · have := of_decide_eq_true z
              have := r0.2
              omega
          · exact Int.le_trans r1.2 (of_decide_eq_true z)
      · have far : ∀ i, i < 4 → (vs.take D ++ us.take 4 ++ vs.drop (D + 4))[b + i]? = vs[b + i]? := fun i hi => by
          rw [hget]
          split
          · rfl
          split
          · omega
          · rfl
        have hx0 : vs[b]? = some (.inl x) := (far 0 (by omega)).symm.trans hx
        obtain ⟨q1, q2⟩ := hold b x hb4 hx0
        exact ⟨fun h9 f hf => q1 h9 f (by rw [← far 1 (by omega)]; exact hf), fun h4 h8 g hg1 => q2 h4 h8 g (by rw [← far 2 (by omega)]; exact hg1)⟩
/-- may elements be copied so -/
def vCpQ (KT : vKT) (W : List (Nat × Nat)) (bd bs : Nat) (n d e : lT) (s : vSt) : Bool := match (sG s)[bs]?, (sG s)[bd]? with
  | some cs, some cd => match KT.1[cs]?, KT.1[cd]? with
    | some (.inr p), some (.inr o) => if cd = KT.2.1.2.2.2.2 then decide (cd ≠ KT.2.1.2.2.2.1) && wIn W cd 0 && vGcQ bs p o n d e s else (decide (p.1 = 0) && decide (o.1 = 0) && decide (p.2.2 = o.2.2) && p.2.2.all Sum.isLeft && decide (p.2.2 ≠ []) && decide (cd ≠ KT.2.1.2.2.2.1) && decide (cd ≠ KT.2.1.2.2.2.2) && wIn W cd 0) && (vIdx n (p.2.1 + 1) s && vIdx d (o.2.1 + 1) s && vIdx e (p.2.1 + 1) s && lGe (sI s) (sC s) (lSub (lSub (lK (p.2.1 : Int)) e) n) && lGe (sI s) (sC s) (lSub (lSub (lK (o.2.1 : Int)) d) n)) && (decide (p.2.2.length = 1) || (lDv p.2.2.length e && lDv p.2.2.length d && decide (e.1 % (p.2.2.length : Int) = d.1 % (p.2.2.length : Int))))
    | _, _ => false
  | _, _ => false
theorem vCpQ_spec {KT : vKT} {W : List (Nat × Nat)} {ρ : Nat → Int} {σ : Nat → Nat} {ty : Nat → Option Nat} {H : List (XC Int32)} {s : vSt} (h : vRel KT ρ σ ty H s) {bd bs : Nat} {n d e : lT} (hk : vCpQ KT W bd bs n d e s = true) :
    ∃ us vs c, H[sR σ bs]? = some (.inr (0, us)) ∧ H[sR σ bd]? = some (.inr (0, vs)) ∧ (∀ b : Bool, b = true → (decide (¬ Int32.ofInt (lEv ρ n) < 0) && decide (¬ Int32.ofInt (lEv ρ d) < 0) && decide (¬ Int32.ofInt (lEv ρ e) < 0) && decide ((Int32.ofInt (lEv ρ e)).toNatClampNeg + (Int32.ofInt (lEv ρ n)).toNatClampNeg ≤ us.length) && decide ((Int32.ofInt (lEv ρ d)).toNatClampNeg + (Int32.ofInt (lEv ρ n)).toNatClampNeg ≤ vs.length) && b && us.all (fun u => u.isLeft)) = true) ∧
      vRel KT ρ σ ty (H.set (sR σ bd) (.inr (0, vs.take (Int32.ofInt (lEv ρ d)).toNatClampNeg ++ (us.drop (Int32.ofInt (lEv ρ e)).toNatClampNeg).take (Int32.ofInt (lEv ρ n)).toNatClampNeg ++ vs.drop ((Int32.ofInt (lEv ρ d)).toNatClampNeg + (Int32.ofInt (lEv ρ n)).toNatClampNeg)))) (vCpy bd s) ∧ ty (sR σ bd) = some c ∧ wIn W c 0 = true := by
  unfold vCpQ at hk
  split at hk
  rotate_left
  · cases hk
  rename_i cs cd hcs hcd
  split at hk
  rotate_left
  · cases hk
  rename_i p o hp ho
  split at hk
  · rename_i hg
    simp only [Bool.and_eq_true] at hk
    obtain ⟨⟨g1, g2⟩, g3⟩ := hk
    obtain ⟨us, vs, y1, y2, y3, y4⟩ := vGcQ_spec h hcs hcd hp ho hg (of_decide_eq_true g1) g3
    exact ⟨us, vs, cd, y1, y2, y3, y4, h.2.1 bd cd hcd, g2⟩
  obtain ⟨t1, m1, f1⟩ := p
  obtain ⟨t2, m2, f2⟩ := o
  simp only [Bool.and_eq_true] at hk
  obtain ⟨⟨⟨⟨⟨⟨⟨⟨⟨k1, k2⟩, k3⟩, k4⟩, k5⟩, k6⟩, k6g⟩, k7⟩, ⟨⟨⟨k8, k9⟩, k10⟩, k11⟩, k12⟩, k13⟩ := hk
  have k6g := of_decide_eq_true k6g
  have j1 : t1 = 0 := of_decide_eq_true k1
  have j2 : t2 = 0 := of_decide_eq_true k2
  have j3 : f1 = f2 := of_decide_eq_true k3
  subst j1
  subst j2
  subst j3
  have k5 : f1 ≠ [] := of_decide_eq_true k5
  have k6 := of_decide_eq_true k6
  obtain ⟨x1, x2, x3, x4⟩ := vIdx_spec h k8
  obtain ⟨y1, y2, y3, y4⟩ := vIdx_spec h k9
  obtain ⟨z1, z2, z3, z4⟩ := vIdx_spec h k10
  have k11 := lGe_spec h.2.2.2.1 h.2.2.2.2.1 k11
  have k12 := lGe_spec h.2.2.2.1 h.2.2.2.2.1 k12
  rw [lSub_ev, lSub_ev, lK_ev] at k11 k12
  have ha := h.2.1 bd cd hcd
  have hb := h.2.1 bs cs hcs
  obtain ⟨vs, v1, v2, v3⟩ := vHp_arr h.1 ha ho
  obtain ⟨us, u1, u2, u3⟩ := vHp_arr h.1 hb hp
  have k11 : 0 ≤ (m1 : Int) - lEv ρ e - lEv ρ n := k11
  have k12 : 0 ≤ (m2 : Int) - lEv ρ d - lEv ρ n := k12
  have hall : us.all (fun u => u.isLeft) = true := List.all_eq_true.mpr fun u hu => by
    obtain ⟨j, hj⟩ := List.getElem?_of_mem hu
    have hjl : j < m1 := by rw [← u2]; exact (List.getElem?_eq_some_iff.mp hj).1
    have hlt : j % f1.length < f1.length := Nat.mod_lt _ (by
      rcases f1 with _ | ⟨g, r⟩
      · exact (k5 rfl).elim
      · exact Nat.succ_pos _)
    have hel : vEl f1 j = some (f1[j % f1.length]'hlt) := List.getElem?_eq_getElem hlt
    obtain ⟨w, w1, w2⟩ := u3 j _ hjl hel
    rw [hj] at w1
    cases w1
    have w3 := List.all_eq_true.mp k4 _ (List.getElem_mem hlt)
    generalize f1[j % f1.length]'hlt = g at w2 w3
    rcases g with g | g
    · rcases u with u | (_ | u)
      · rfl
      · exact w2.elim
      · exact w2.elim
    · cases w3
  have neg : ∀ {a : lT} {N : Nat}, (decide (Int32.ofInt (lEv ρ a) < 0) || decide (N ≤ (Int32.ofInt (lEv ρ a)).toNatClampNeg)) = false → decide (¬ Int32.ofInt (lEv ρ a) < 0) = true := fun q => by
    rw [Bool.or_eq_false_iff] at q
    have q1 := of_decide_eq_false q.1
    exact decide_eq_true q1
  refine ⟨us, vs, cd, u1, v1, fun b hb => ?_, ?_, ha, k7⟩
  · rw [neg x1, neg y1, neg z1, hb, hall, x4, y4, z4, decide_eq_true (show (lEv ρ e).toNat + (lEv ρ n).toNat ≤ us.length by omega), decide_eq_true (show (lEv ρ d).toNat + (lEv ρ n).toNat ≤ vs.length by omega)]
    rfl
  · rw [x4, y4, z4]
    refine vCpy_rel h ha ho v1 hb hp u1 (by omega) (by omega) ?_ k6 k6g
    rcases Bool.or_eq_true_iff.mp k13 with k13 | k13
    · have k13 : f1.length = 1 := of_decide_eq_true k13
      rw [k13, Nat.mod_one, Nat.mod_one]
    · have k14 := Bool.and_eq_true_iff.mp k13
      have k15 := Bool.and_eq_true_iff.mp k14.1
      have r1 := lDv_spec (ρ := ρ) k15.1
      have r2 := lDv_spec (ρ := ρ) k15.2
      have r3 : e.1 % (f1.length : Int) = d.1 % (f1.length : Int) := of_decide_eq_true k14.2
      have r4 : lEv ρ e % (f1.length : Int) = lEv ρ d % (f1.length : Int) := by
        rw [show lEv ρ e % (f1.length : Int) = e.1 % (f1.length : Int) from r1, r3]
        exact r2.symm
      have r5 := congrArg Int.toNat r4
      rw [Int.toNat_emod z3 (Int.natCast_nonneg _), Int.toNat_emod y3 (Int.natCast_nonneg _)] at r5
      exact r5
theorem xr_get : ∀ (n a j : Nat), (x_refs a n : List (XV Int32))[j]? = if j < n then some (.inr (some (a + j))) else none
  | 0, a, j => by
    rw [if_neg (Nat.not_lt_zero j)]
    rfl
  | n + 1, a, j => by
    rcases j with _ | j
    · rw [if_pos (Nat.succ_pos n)]
      rfl
    · show (x_refs (a + 1) n : List (XV Int32))[j]? = _
      rw [xr_get n (a + 1) j]
      by_cases c : j < n
      · rw [if_pos c, if_pos (by omega), show a + 1 + j = a + (j + 1) by omega]
      · rw [if_neg c, if_neg (by omega)]
theorem xr_len : ∀ (n a : Nat), (x_refs a n : List (XV Int32)).length = n
  | 0, _ => rfl
  | n + 1, a => congrArg (· + 1) (xr_len n (a + 1))
theorem xrow_get (t : Nat) (r : List (XV Int32)) : ∀ (n j : Nat), (x_rows t r n)[j]? = if j < n then some (.inr (t, r)) else none
  | 0, j => by
    rw [if_neg (Nat.not_lt_zero j)]
    rfl
  | n + 1, j => by
    rcases j with _ | j
    · rw [if_pos (Nat.succ_pos n)]
      rfl
    · show (x_rows t r n)[j]? = _
      rw [xrow_get t r n j]
      by_cases c : j < n
      · rw [if_pos c, if_pos (by omega)]
      · rw [if_neg c, if_neg (by omega)]
theorem xrow_len (t : Nat) (r : List (XV Int32)) : ∀ n, (x_rows t r n).length = n
  | 0 => rfl
  | n + 1 => congrArg (· + 1) (xrow_len t r n)
/-- the kinds with a new array of rows at n -/
def vAdd2 (ty : Nat → Option Nat) (n m c2 c1 : Nat) : Nat → Option Nat := fun b => if b = n then some c2 else if n < b ∧ b ≤ n + m then some c1 else ty b
theorem vMul_rel {KT : vKT} {ρ : Nat → Int} {σ : Nat → Nat} {ty : Nat → Option Nat} {H : List (XC Int32)} {s : vSt} (h : vRel KT ρ σ ty H s) (hb : sBd s = true) {c2 c1 t2 t1 n1 n2 : Nat} {fl : List vF} (hK2 : KT.1[c2]? = some (.inr (t2, n1, [.inr (false, c1)]))) (hK1 : KT.1[c1]? = some (.inr (t1, n2, fl))) (hz : fl.all vZero = true) (r2 : kRaw KT c2 = none) (r1 : kRaw KT c1 = none) (a1 : c2 ≠ KT.2.1.1) (a2 : c1 ≠ KT.2.1.1) (a3 : c2 ≠ KT.2.1.2.2.2.2) (a4 : c1 ≠ KT.2.1.2.2.2.2) :
    ∃ σ2, vExt s (vMke KT c2 s) ρ ρ σ σ2 ∧ vRel KT ρ σ2 (vAdd2 ty H.length n1 c2 c1) (H ++ .inr (t2, x_refs (H.length + 1) n1) :: x_rows t1 (List.replicate n2 (.inl 0)) n1) (vMke KT c2 s) ∧ sR σ2 (sG s).length = H.length ∧ vLe ty (vAdd2 ty H.length n1 c2 c1) := by
  have hself : vAdd2 ty H.length n1 c2 c1 H.length = some c2 := if_pos rfl
  have hrow : ∀ i, i < n1 → vAdd2 ty H.length n1 c2 c1 (H.length + 1 + i) = some c1 := fun i hi => by
    unfold vAdd2
    rw [if_neg (by omega), if_pos (by omega)]
  have hold : ∀ b, b < H.length → vAdd2 ty H.length n1 c2 c1 b = ty b := fun b hb2 => by
    unfold vAdd2
    rw [if_neg (by omega), if_neg (by omega)]
  have hle : vLe ty (vAdd2 ty H.length n1 c2 c1) := fun a c ha => by
    rw [hold a (vHp_lt h.1 ha)]
    exact ha
  have back : ∀ b d, vAdd2 ty H.length n1 c2 c1 b = some d → (b = H.length ∧ d = c2) ∨ (∃ i, i < n1 ∧ b = H.length + 1 + i ∧ d = c1) ∨ ty b = some d := fun b d hd => by
    unfold vAdd2 at hd
    split at hd
    · rename_i e
      cases hd
      exact Or.inl ⟨e, rfl⟩
    split at hd
    · rename_i e1 e2
      cases hd
      exact Or.inr (Or.inl ⟨b - (H.length + 1), by omega, by omega, rfl⟩)
    · exact Or.inr (Or.inr hd)
  have happ : ∀ (a : Nat) (y : XC Int32), H[a]? = some y → (H ++ .inr (t2, x_refs (H.length + 1) n1) :: x_rows t1 (List.replicate n2 (.inl 0)) n1)[a]? = some y := fun a y hy => by
    rw [List.getElem?_append_left (List.getElem?_eq_some_iff.mp hy).1]
    exact hy
  have hnew : (H ++ .inr (t2, x_refs (H.length + 1) n1) :: x_rows t1 (List.replicate n2 (.inl 0)) n1)[H.length]? = some (.inr (t2, x_refs (H.length + 1) n1)) := by
    rw [List.getElem?_append_right (Nat.le_refl _), Nat.sub_self]
    rfl
  have hnrow : ∀ i, i < n1 → (H ++ .inr (t2, x_refs (H.length + 1) n1) :: x_rows t1 (List.replicate n2 (.inl 0)) n1)[H.length + 1 + i]? = some (.inr (t1, List.replicate n2 (.inl 0))) := fun i hi => by
    rw [List.getElem?_append_right (by omega), show H.length + 1 + i - H.length = i + 1 by omega]
    show (x_rows t1 (List.replicate n2 (.inl 0)) n1)[i]? = _
    rw [xrow_get, if_pos hi]
  have he : ∀ i, i < (sG s).length → (fun i => if i = (sG s).length then H.length else σ i) i = σ i := fun i hi => if_neg (Nat.ne_of_lt hi)
  have hlt := (sBd_spec hb).1
  obtain ⟨g1, g2, g3, g4, g5, g6, g7, g8⟩ := vRel_ext h hb (fun _ _ => rfl) he
  have hv : sR (fun i => if i = (sG s).length then H.length else σ i) (sG s).length = H.length := by
    unfold sR
    rw [if_pos hlt]
    exact if_pos rfl
  have hmk : vMke KT c2 s = (sN s, sG s ++ [c2], sF s, sI s, sC s, sM s, sRw s) := by
    unfold vMke
    rw [r2]
    rfl
  refine ⟨fun i => if i = (sG s).length then H.length else σ i, ⟨fun _ _ => rfl, he, Nat.le_refl _, ?_⟩, ?_, hv, hle⟩
  · show (sG s).length ≤ (sG s ++ [c2]).length
    rw [List.length_append]
    exact Nat.le_add_right _ _
  rw [hmk]
  refine ⟨fun b d hd => ?_, fun i d hd => ?_, fun f hf => ?_, g4, g5, g6, ⟨fun a ha => ?_, fun a t vs ha hH => ?_⟩, fun a d e ha hd => ?_⟩
  · rcases back b d hd with ⟨rfl, rfl⟩ | ⟨i, hi, rfl, rfl⟩ | hd
    · refine ⟨_, _, hK2, hnew, rfl, xr_len n1 _, fun j f u hf hu => ?_⟩
      have hf : vEl [(.inr (false, c1) : vF)] j = some f := hf
      unfold vEl at hf
      rw [show [(.inr (false, c1) : vF)].length = 1 from rfl, Nat.mod_one] at hf
      cases hf
      have hu : (x_refs (H.length + 1) n1 : List (XV Int32))[j]? = some u := hu
      rw [xr_get] at hu
      split at hu
      · rename_i hj
        cases hu
        exact hrow j hj
      · cases hu
    · exact ⟨_, _, hK1, hnrow i hi, vZero_cell hz⟩
    · obtain ⟨kd, z, y1, y2, y3⟩ := h.1 b d hd
      exact ⟨kd, z, y1, happ b z y2, vCell_le hle y3⟩
  · have hd : (sG s ++ [c2])[i]? = some d := hd
    by_cases e : i = (sG s).length
    · subst e
      rw [List.getElem?_append_right (Nat.le_refl _), Nat.sub_self] at hd
      have hd : some c2 = some d := hd
      rw [hv, hself]
      exact hd
    · have hl : i < (sG s).length := by
        have := (List.getElem?_eq_some_iff.mp hd).1
        rw [List.length_append] at this
        have : i < (sG s).length + 1 := this
        omega
      rw [List.getElem?_append_left hl] at hd
      exact hle _ _ (g2 i d hd)
  · have h1 := g3 f hf
    obtain ⟨x, key, v⟩ := f
    rcases key with j | e
    · obtain ⟨ci, fs, y1, y2⟩ := h1
      exact ⟨ci, fs, happ _ _ y1, y2⟩
    · obtain ⟨t, vs, y1, y0, y2⟩ := h1
      exact ⟨t, vs, happ _ _ y1, y0, y2⟩
  · rcases back a _ ha with ⟨-, e⟩ | ⟨-, -, -, e⟩ | ha
    · exact (a1 e.symm).elim
    · exact (a2 e.symm).elim
    · obtain ⟨c, gs, n, b, t, vs, z1, z2, z3, z4, z5, z6⟩ := g7.1 a ha
      exact ⟨c, gs, n, b, t, vs, happ _ _ z1, z2, z3, hle _ _ z4, happ _ _ z5, z6⟩
  · rcases back a _ ha with ⟨-, e⟩ | ⟨-, -, -, e⟩ | ha
    · exact (a3 e.symm).elim
    · exact (a4 e.symm).elim
    · rw [List.getElem?_append_left (vHp_lt h.1 ha)] at hH
      exact g7.2 a t vs ha hH
  · rcases back a d ha with ⟨-, e1⟩ | ⟨-, -, -, e1⟩ | ha
    · rw [e1, r2] at hd
      cases hd
    · rw [e1, r1] at hd
      cases hd
    · exact g8 a d e ha hd
theorem vMonB {W : List (Nat × Nat)} {c t i : Nat} {vs : List (XV Int32)} {ρ : Nat → Int} {σ : Nat → Nat} {x : lT} (h : (wIn W c 0 || (wIn W c 1 && lEq x (lK 1))) = true) : vSameC W c (.inr (t, vs)) (.inr (t, vs.set i (cv ρ σ (.inl x)))) := by
  refine ⟨rfl, fun z => ?_⟩
  rw [z, Bool.false_or] at h
  have h2 := Bool.and_eq_true_iff.mp h
  rw [h2.1, show cv ρ σ (.inl x) = .inl 1 from congrArg Sum.inl (by rw [lEq_spec h2.2, lK_ev]; rfl)]
  exact vMonV_set vs i
/-- a sum of two ints against an int, as longs -/
def vL3 (a b v : lT) (s : vSt) (kk : Int → vSt → Bool) : Bool := lFit (sI s) a && lFit (sI s) b && lFit (sI s) v && vAsk (lSub (lSub (lAdd a b) v) (lK 1)) s (fun s2 => kk 1 s2) (fun s2 => vAsk (lSub (lAdd a b) v) s2 (fun s3 => kk 0 s3) (fun s3 => kk (-1) s3))
theorem vL3_spec {KT : vKT} {ρ : Nat → Int} {σ : Nat → Nat} {ty : Nat → Option Nat} {H : List (XC Int32)} {a b v : lT} {s : vSt} (h : vRel KT ρ σ ty H s) {KC : Int → vSt → Bool} (hk : vL3 a b v s KC = true) : ∃ s2, vRel KT ρ σ ty H s2 ∧ vSame0 s s2 ∧ ∃ x : Int, KC x s2 = true ∧ cv ρ σ (.inl (lK x)) = .inl (x_l3 (Int32.ofInt (lEv ρ a)) (Int32.ofInt (lEv ρ b)) (Int32.ofInt (lEv ρ v))) := by
  unfold vL3 at hk
  simp only [Bool.and_eq_true] at hk
  obtain ⟨⟨⟨k1, k2⟩, k3⟩, k4⟩ := hk
  have e1 := lFit_spec h.2.2.2.1 k1
  have e2 := lFit_spec h.2.2.2.1 k2
  have e3 := lFit_spec h.2.2.2.1 k3
  unfold x_l3
  rw [e1, e2, e3]
  have cK : ∀ x : Int, cv ρ σ (.inl (lK x)) = .inl (Int32.ofInt x) := fun x => congrArg (fun z => Sum.inl (Int32.ofInt z)) (lK_ev ρ x)
  obtain ⟨s2, g1, g2, g3⟩ := vAsk_spec h k4
  rcases g3 with ⟨c, g3⟩ | ⟨c, g3⟩
  · rw [lSub_ev, lSub_ev, lAdd_ev, lK_ev] at c
    refine ⟨s2, g1, g2, 1, g3, ?_⟩
    rw [cK, if_pos (by omega)]
    rfl
  · rw [lSub_ev, lSub_ev, lAdd_ev, lK_ev] at c
    obtain ⟨s3, j1, j2, j3⟩ := vAsk_spec g1 g3
    rcases j3 with ⟨d, j3⟩ | ⟨d, j3⟩
    · rw [lSub_ev, lAdd_ev] at d
      refine ⟨s3, j1, vSame0_tr g2 j2, 0, j3, ?_⟩
      rw [cK, if_neg (by omega), if_pos (by omega)]
      rfl
    · rw [lSub_ev, lAdd_ev] at d
      refine ⟨s3, j1, vSame0_tr g2 j2, -1, j3, ?_⟩
      rw [cK, if_neg (by omega), if_neg (by omega)]
      rfl
/-- a way that the checker goes, and the evaluator's -/
def vAt (KT : vKT) (W : List (Nat × Nat)) (ty0 : Nat → Option Nat) (H0 : List (XC Int32)) (B : Nat) (L : List (Nat × vA)) (s : vSt) (cn sn : lT) (ρ : Nat → Int) (σ : Nat → Nat) (ty : Nat → Option Nat) (H : List (XC Int32)) (Lc : List (Nat × XV Int32)) (cn2 sn2 : Nat) : Prop :=
  (H.length ≤ B + cn2 ∧ H.length ≤ 1000000) ∧ vLe ty0 ty ∧ vFrm W ty0 H0 H ∧ vRel KT ρ σ ty H s ∧ vCov ρ σ L Lc ∧ (cn2 : Int) ≤ lEv ρ cn ∧ (sn2 : Int) ≤ lEv ρ sn
theorem vAt_ext {KT : vKT} {W : List (Nat × Nat)} {ty0 : Nat → Option Nat} {H0 : List (XC Int32)} {B : Nat} {L : List (Nat × vA)} {s s2 : vSt} {cn sn : lT} {ρ ρ2 : Nat → Int} {σ σ2 : Nat → Nat} {ty : Nat → Option Nat} {H : List (XC Int32)} {Lc : List (Nat × XV Int32)} {cn2 sn2 : Nat} {r : List vA} (h : vAt KT W ty0 H0 B L s cn sn ρ σ ty H Lc cn2 sn2) (g : vRel KT ρ2 σ2 ty H s2) (f : vFrP L r cn sn ρ σ ρ2 σ2) : vAt KT W ty0 H0 B L s2 cn sn ρ2 σ2 ty H Lc cn2 sn2 :=
  ⟨h.1, h.2.1, h.2.2.1, g, f.1 _ h.2.2.2.2.1, by rw [f.2.2.1]; exact h.2.2.2.2.2.1, by rw [f.2.2.2]; exact h.2.2.2.2.2.2⟩
theorem vAt_same {KT : vKT} {W : List (Nat × Nat)} {ty0 : Nat → Option Nat} {H0 : List (XC Int32)} {B : Nat} {L : List (Nat × vA)} {s s2 : vSt} {cn sn : lT} {ρ : Nat → Int} {σ : Nat → Nat} {ty : Nat → Option Nat} {H : List (XC Int32)} {Lc : List (Nat × XV Int32)} {cn2 sn2 : Nat} (h : vAt KT W ty0 H0 B L s cn sn ρ σ ty H Lc cn2 sn2) (g : vRel KT ρ σ ty H s2) : vAt KT W ty0 H0 B L s2 cn sn ρ σ ty H Lc cn2 sn2 :=
  ⟨h.1, h.2.1, h.2.2.1, g, h.2.2.2.2⟩
theorem vAt_st {KT : vKT} {W : List (Nat × Nat)} {ty0 : Nat → Option Nat} {H0 : List (XC Int32)} {B : Nat} {L : List (Nat × vA)} {s : vSt} {cn sn : lT} {ρ : Nat → Int} {σ : Nat → Nat} {ty : Nat → Option Nat} {H : List (XC Int32)} {Lc : List (Nat × XV Int32)} {cn2 sn2 : Nat} (h : vAt KT W ty0 H0 B L s cn sn ρ σ ty H Lc cn2 sn2) (j : Nat) (v : vA) : vAt KT W ty0 H0 B (x_st L j v) s cn sn ρ σ ty H (x_st Lc j (cv ρ σ v)) cn2 sn2 :=
  ⟨h.1, h.2.1, h.2.2.1, h.2.2.2.1, vCov_st h.2.2.2.2.1 j v, h.2.2.2.2.2⟩
theorem vAt_set {KT : vKT} {W : List (Nat × Nat)} {ty0 : Nat → Option Nat} {H0 : List (XC Int32)} {B : Nat} {L : List (Nat × vA)} {s s2 : vSt} {cn sn : lT} {ρ : Nat → Int} {σ : Nat → Nat} {ty : Nat → Option Nat} {H : List (XC Int32)} {Lc : List (Nat × XV Int32)} {cn2 sn2 a c : Nat} {z z2 : XC Int32} (h : vAt KT W ty0 H0 B L s cn sn ρ σ ty H Lc cn2 sn2) (g : vRel KT ρ σ ty (H.set a z2) s2) (ha : ty a = some c) (hz : H[a]? = some z) (hs : vSameC W c z z2) : vAt KT W ty0 H0 B L s2 cn sn ρ σ ty (H.set a z2) Lc cn2 sn2 :=
  ⟨by rw [List.length_set]; exact h.1, h.2.1, vFrm_set h.2.2.1 h.2.1 ha hz hs, g, h.2.2.2.2⟩
/-- what a place's group says of it, where it is one of the lines' rows -/
def vGr1 (KT : vKT) (s : vSt) (f : vK) : Option lT := match f.2.1, f.2.2 with
  | .inr e, .inl l => if (sG s)[f.1]? = some KT.2.1.2.2.2.2 ∧ lDv 4 e = true ∧ lFit (sI s) l = true then
      (if e.1 % 4 = 1 then (match fGet f.1 (.inr (lSub e (lK 1))) (sF s) with
        | some (.inl o) => if (vR (sI s) o).2 ≤ 9 then some (lSub (lK 5) l) else none
        | _ => none)
      else if e.1 % 4 = 2 then (match fGet f.1 (.inr (lSub e (lK 2))) (sF s) with
        | some (.inl o) => if 4 ≤ (vR (sI s) o).1 ∧ (vR (sI s) o).2 ≤ 8 then some (lSub (lK 5) l) else none
        | _ => none) else none) else none
  | _, _ => none
theorem vGr1_spec {KT : vKT} {ρ : Nat → Int} {σ : Nat → Nat} {ty : Nat → Option Nat} {H : List (XC Int32)} {s : vSt} (h : vRel KT ρ σ ty H s) {f : vK} (hf : f ∈ sF s) {c : lT} (hk : vGr1 KT s f = some c) : 0 ≤ lEv ρ c := by
  obtain ⟨i, key, v⟩ := f
  unfold vGr1 at hk
  dsimp only at hk
  split at hk
  rotate_left
  · cases hk
  rename_i e l
  split at hk
  rotate_left
  · cases hk
  rename_i hc
  obtain ⟨c1, c2, c3⟩ := hc
  have hl := lFit_spec h.2.2.2.1 c3
  obtain ⟨t, vs, y1, y0, y2⟩ := h.2.2.1 _ hf
  have y1 : H[sR σ i]? = some (.inr (t, vs)) := y1
  have y0 : 0 ≤ lEv ρ e := y0
  have y2 : vs[(lEv ρ e).toNat]? = some (.inl (Int32.ofInt (lEv ρ l))) := y2
  have hg := h.2.2.2.2.2.2.1.2 (sR σ i) t vs (h.2.1 i _ c1) y1
  have hd := lDv_spec (ρ := ρ) c2
  have hd : lEv ρ e % 4 = e.1 % 4 := hd
  have fin : (Int32.ofInt (lEv ρ l)).toInt ≤ 5 → 0 ≤ lEv ρ (lSub (lK 5) l) := fun z => by
    rw [lSub_ev, lK_ev]
    omega
  split at hk
  · rename_i e1
    split at hk
    · rename_i o ho
      split at hk
      · rename_i hr
        cases hk
        obtain ⟨t2, ws, z1, z0, z2⟩ := fGet_spec h.2.2.1 ho
        have z1 : H[sR σ i]? = some (.inr (t2, ws)) := z1
        rw [y1] at z1
        cases z1
        rw [lSub_ev, lK_ev] at z0 z2
        have ho2 := (vR_spec h.2.2.2.1 o).2
        have hq := (hg (lEv ρ e - 1).toNat (Int32.ofInt (lEv ρ o)) (by omega) z2).1 (by omega) (Int32.ofInt (lEv ρ l)) (by
          rw [show (lEv ρ e - 1).toNat + 1 = (lEv ρ e).toNat by omega]
          exact y2)
        exact fin hq
      · cases hk
    · cases hk
  split at hk
  · rename_i e1
    split at hk
    · rename_i o ho
      split at hk
      · rename_i hr
        cases hk
        obtain ⟨t2, ws, z1, z0, z2⟩ := fGet_spec h.2.2.1 ho
        have z1 : H[sR σ i]? = some (.inr (t2, ws)) := z1
        rw [y1] at z1
        cases z1
        rw [lSub_ev, lK_ev] at z0 z2
        have ho2 := vR_spec h.2.2.2.1 o
        have o1 := ho2.1
        have o2 := ho2.2
        have hq := (hg (lEv ρ e - 2).toNat (Int32.ofInt (lEv ρ o)) (by omega) z2).2 (by omega) (by omega) (Int32.ofInt (lEv ρ l)) (by
          rw [show (lEv ρ e - 2).toNat + 2 = (lEv ρ e).toNat by omega]
          exact y2)
        exact fin hq
      · cases hk
    · cases hk
  · cases hk
def vGrA (KT : vKT) (kk : vSt → Bool) : List vK → vSt → Bool
  | [], s => kk s
  | f :: r, s => match vGr1 KT s f with
    | none => vGrA KT kk r s
    | some c => vIf (vCo c s) (fun s2 => vGrA KT kk r s2)
theorem vGrA_spec {KT : vKT} {ρ : Nat → Int} {σ : Nat → Nat} {ty : Nat → Option Nat} {H : List (XC Int32)} {kk : vSt → Bool} : ∀ (l : List vK) {s : vSt}, vRel KT ρ σ ty H s → (∀ f ∈ l, f ∈ sF s) → vGrA KT kk l s = true → ∃ s2, vRel KT ρ σ ty H s2 ∧ vSame0 s s2 ∧ kk s2 = true
  | [], s, h, _, hk => ⟨s, h, vSame0_rf s, hk⟩
  | f :: r, s, h, hl, hk => by
    unfold vGrA at hk
    split at hk
    · exact vGrA_spec r h (fun g hg => hl g (List.mem_cons_of_mem _ hg)) hk
    · rename_i c hc
      obtain ⟨s2, g1, g2, g3⟩ := vIf_spec h (vGr1_spec h (hl f List.mem_cons_self) hc) hk
      obtain ⟨s3, k1, k2, k3⟩ := vGrA_spec r g1 (fun g hg => by rw [g2.2.2.1]; exact hl g (List.mem_cons_of_mem _ hg)) g3
      exact ⟨s3, k1, vSame0_tr g2 k2, k3⟩
theorem x_andz {x m : Int32} (hm : 0 ≤ m.toInt) (h : x &&& (m ^^^ -1) = 0) : 0 ≤ x.toInt ∧ x.toInt ≤ m.toInt := by
  have e : x = x &&& m := by
    apply Int32.toBitVec_inj.mp
    have h2 := congrArg Int32.toBitVec h
    have h3 : x.toBitVec &&& (m.toBitVec ^^^ BitVec.allOnes 32) = 0#32 := h2
    apply BitVec.eq_of_getLsbD_eq
    intro i hi
    have h4 : (x.toBitVec &&& (m.toBitVec ^^^ BitVec.allOnes 32)).getLsbD i = (0#32).getLsbD i := congrArg (fun b => b.getLsbD i) h3
    rw [BitVec.getLsbD_and, BitVec.getLsbD_xor, BitVec.getLsbD_allOnes, BitVec.getLsbD_zero, decide_eq_true hi] at h4
    show x.toBitVec.getLsbD i = (x.toBitVec &&& m.toBitVec).getLsbD i
    rw [BitVec.getLsbD_and]
    revert h4
    cases x.toBitVec.getLsbD i <;> cases m.toBitVec.getLsbD i <;> decide
  have := vAnd (x := x) (y := m) hm
  rw [← e] at this
  exact this
/-- nothing of a beside m: a is one of 0 to m -/
def vZr1 (s : vSt) (m : vMm) : Option (lT × lT) := if m.1 = 3 ∧ lGe (sI s) (sC s) m.2.2.2 = true ∧ lGe (sI s) (sC s) (lSc (-1) m.2.2.2) = true ∧ lFit (sI s) m.2.1 = true then
    (match (sM s).find? (fun n => decide (n.1 = 5) && lEq n.2.2.1 (lK (-1)) && lEq n.2.2.2 m.2.2.1 && lFit (sI s) n.2.1 && lGe (sI s) (sC s) n.2.1) with
    | some n => some (m.2.1, lSub n.2.1 m.2.1)
    | none => none) else none
theorem vZr1_spec {KT : vKT} {ρ : Nat → Int} {σ : Nat → Nat} {ty : Nat → Option Nat} {H : List (XC Int32)} {s : vSt} (h : vRel KT ρ σ ty H s) {m : vMm} (hm : m ∈ sM s) {c : lT × lT} (hk : vZr1 s m = some c) : 0 ≤ lEv ρ c.1 ∧ 0 ≤ lEv ρ c.2 := by
  unfold vZr1 at hk
  split at hk
  rotate_left
  · cases hk
  rename_i hc
  obtain ⟨c1, c2, c3, c4⟩ := hc
  split at hk
  rotate_left
  · cases hk
  rename_i n hn
  cases hk
  have n1 := List.mem_of_find?_eq_some hn
  have n2 := List.find?_some hn
  simp only [Bool.and_eq_true] at n2
  obtain ⟨⟨⟨⟨d1, d2⟩, d3⟩, d4⟩, d5⟩ := n2
  have d1 : n.1 = 5 := of_decide_eq_true d1
  have h1 := h.2.2.2.2.2.1 m hm
  have h2 := h.2.2.2.2.2.1 n n1
  unfold mHd at h1 h2
  have r1 := lGe_spec h.2.2.2.1 h.2.2.2.2.1 c2
  have r2 := lGe_spec h.2.2.2.1 h.2.2.2.2.1 c3
  rw [lSc_ev] at r2
  rw [c1, show lEv ρ m.2.2.2 = 0 by omega] at h1
  rw [d1, lEq_spec d2, lEq_spec d3, lK_ev] at h2
  have f1 := lFit_spec h.2.2.2.1 c4
  have f2 := lFit_spec h.2.2.2.1 d4
  have g2 := lGe_spec h.2.2.2.1 h.2.2.2.2.1 d5
  have h3 : Int32.ofInt (lEv ρ m.2.1) &&& (Int32.ofInt (lEv ρ n.2.1) ^^^ -1) = 0 := by
    have e : Int32.ofInt (lEv ρ n.2.1) ^^^ -1 = Int32.ofInt (lEv ρ m.2.2.1) := h2
    rw [e]
    exact h1
  have := x_andz (by omega) h3
  rw [f1, f2] at this
  show 0 ≤ lEv ρ m.2.1 ∧ 0 ≤ lEv ρ (lSub n.2.1 m.2.1)
  rw [lSub_ev]
  omega
def vZrA (kk : vSt → Bool) : List vMm → vSt → Bool
  | [], s => kk s
  | m :: r, s => match vZr1 s m with
    | none => vZrA kk r s
    | some c => vIf (vCo c.1 s) (fun s2 => vIf (vCo c.2 s2) (fun s3 => kk s3))
theorem vZrA_spec {KT : vKT} {ρ : Nat → Int} {σ : Nat → Nat} {ty : Nat → Option Nat} {H : List (XC Int32)} {kk : vSt → Bool} {s : vSt} (h : vRel KT ρ σ ty H s) : ∀ (l : List vMm), (∀ m ∈ l, m ∈ sM s) → vZrA kk l s = true → ∃ s2, vRel KT ρ σ ty H s2 ∧ vSame0 s s2 ∧ kk s2 = true
  | [], _, hk => ⟨s, h, vSame0_rf s, hk⟩
  | m :: r, hl, hk => by
    unfold vZrA at hk
    split at hk
    · exact vZrA_spec h r (fun g hg => hl g (List.mem_cons_of_mem _ hg)) hk
    · rename_i c hc
      obtain ⟨z1, z2⟩ := vZr1_spec h (hl m List.mem_cons_self) hc
      obtain ⟨s2, g1, g2, g3⟩ := vIf_spec h z1 hk
      obtain ⟨s3, k1, k2, k3⟩ := vIf_spec g1 z2 g3
      exact ⟨s3, k1, vSame0_tr g2 k2, k3⟩
/-- a step of a path: a field; an element at a local, at a number, at what an element (of a local's field, at a local) holds -/
abbrev vPs : Type := Nat ⊕ (Nat ⊕ (Int ⊕ (Nat × Nat × Nat)))
def vPk (L : List (Nat × vA)) (s : vSt) : vPs → Option (Nat ⊕ lT)
  | .inl j => some (.inl j)
  | .inr (.inl l) => match x_lk L l with
    | some (.inl e) => some (.inr e)
    | _ => none
  | .inr (.inr (.inl c)) => some (.inr (lK c))
  | .inr (.inr (.inr p)) => match x_lk L p.1, x_lk L p.2.2 with
    | some (.inr (some i)), some (.inl e) => match fGet i (.inl p.2.1) (sF s) with
      | some (.inr (some a)) => match fGet a (.inr e) (sF s) with
        | some (.inl x) => some (.inr x)
        | _ => none
      | _ => none
    | _, _ => none
/-- what a place of a kind may hold: a field, or an element that is surely there -/
def vPf (KT : vKT) (s : vSt) (i : Nat) (key : Nat ⊕ lT) : Option vF := match (sG s)[i]? with
  | none => none
  | some c => match KT.1[c]?, key with
    | some (.inl o), .inl j => o.2[j]?
    | some (.inr o), .inr e => if vIdx e o.2.1 s then vRes o.2.2 e else none
    | _, _ => none
theorem vPf_spec {KT : vKT} {ρ : Nat → Int} {σ : Nat → Nat} {ty : Nat → Option Nat} {H : List (XC Int32)} {s : vSt} (h : vRel KT ρ σ ty H s) {i : Nat} {key : Nat ⊕ lT} {f : vF} (hk : vPf KT s i key = some f) : ∃ u, vPlace ρ σ H i key u ∧ vFit ty f u := by
  unfold vPf at hk
  split at hk
  · cases hk
  rename_i c hG
  have ha := h.2.1 i c hG
  split at hk
  · rename_i o j ho
    obtain ⟨fs, f1, f2, f3⟩ := vHp_obj h.1 ha ho
    obtain ⟨u, u1, u2⟩ := f3 j f hk
    exact ⟨u, ⟨_, fs, f1, u1⟩, u2⟩
  · rename_i o e ho
    split at hk
    · rename_i hi
      obtain ⟨vs, f1, f2, f3⟩ := vHp_arr h.1 ha ho
      obtain ⟨x1, x2, x3, x4⟩ := vIdx_spec h hi
      obtain ⟨u, u1, u2⟩ := f3 _ f x2 (vRes_spec x3 hk)
      exact ⟨u, ⟨_, vs, f1, x3, u1⟩, u2⟩
    · cases hk
  · cases hk
/-- reads along a path; fb: where a place isn't surely there -/
def vPth (KT : vKT) (L : List (Nat × vA)) (S : List vA) (cn sn : lT) (fb : vSt → Bool) (kk : vSt → vA → Bool) : List vPs → Nat → vSt → Bool
  | [], _, _ => false
  | st :: r, i, s => match vPk L s st with
    | none => false
    | some key => match vPf KT s i key with
      | none => fb s
      | some f => vRdF L S cn sn f i key false s (fun s2 v => match r with
        | [] => kk s2 v
        | _ => match v with
          | .inr (some i2) => vPth KT L S cn sn fb kk r i2 s2
          | _ => false)
theorem vFrP_tr {L : List (Nat × vA)} {r : List vA} {cn sn : lT} {ρ ρ2 ρ3 : Nat → Int} {σ σ2 σ3 : Nat → Nat} (h : vFrP L r cn sn ρ σ ρ2 σ2) (g : vFrP L r cn sn ρ2 σ2 ρ3 σ3) : vFrP L r cn sn ρ σ ρ3 σ3 := ⟨fun Lc z => g.1 Lc (h.1 Lc z), g.2.1.trans h.2.1, g.2.2.1.trans h.2.2.1, g.2.2.2.trans h.2.2.2⟩
theorem vPth_spec {KT : vKT} {ty : Nat → Option Nat} {H : List (XC Int32)} {L : List (Nat × vA)} {S : List vA} {cn sn : lT} {fb : vSt → Bool} {kk : vSt → vA → Bool} : ∀ (p : List vPs) {i : Nat} {s : vSt} {ρ : Nat → Int} {σ : Nat → Nat}, vRel KT ρ σ ty H s → vPth KT L S cn sn fb kk p i s = true →
    ∃ ρ2 σ2 s2, vExt s s2 ρ ρ2 σ σ2 ∧ vRel KT ρ2 σ2 ty H s2 ∧ vFrP L S cn sn ρ σ ρ2 σ2 ∧ (fb s2 = true ∨ ∃ v, kk s2 v = true)
  | [], _, _, _, _, _, hk => by cases hk
  | st :: r, i, s, ρ, σ, h, hk => by
    unfold vPth at hk
    split at hk
    · cases hk
    rename_i key hkey
    split at hk
    · exact ⟨ρ, σ, s, vExt_rf s ρ σ, h, vFrP_rf L S cn sn ρ σ, Or.inl hk⟩
    rename_i f hf
    obtain ⟨u, u1, u2⟩ := vPf_spec h hf
    obtain ⟨ρ2, σ2, s2, v, g1, g2, g3, g4, g5⟩ := vRdF_spec h u1 u2 (fun z => by cases z) hk
    split at g5
    · exact ⟨ρ2, σ2, s2, g1, g2, g4, Or.inr ⟨v, g5⟩⟩
    · split at g5
      · obtain ⟨ρ3, σ3, s3, k1, k2, k3, k4⟩ := vPth_spec r g2 g5
        exact ⟨ρ3, σ3, s3, vExt_tr g1 k1, k2, vFrP_tr g4 k3, k4⟩
      · cases g5
/-- a hint: 0: a local value by value; 1: a cell of the stack is ready; 2: groups; 3: nothing beside; 4: a place is read; 5: and asked whether it is below 0; 6: read, where it is there; 7: two ints of the stack, which is more -/
abbrev vHn : Type := Nat × Nat × List vPs
def vHnt (KT : vKT) (L : List (Nat × vA)) (S : List vA) (cn sn : lT) (h : vHn) (s : vSt) (kk : vSt → Bool) : Bool :=
  if h.1 = 0 then (match x_lk L h.2.1 with
    | some (.inl l) => match lRn (sI s) l with
      | some t => vSpl l kk ((t.2 - t.1).toNat + 1) t.1 s
      | none => false
    | _ => false)
  else if h.1 = 1 then (match S[h.2.1]? with
    | some (.inr (some i)) => vPro KT i s kk
    | _ => false)
  else if h.1 = 2 then vGrA KT kk (sF s) s
  else if h.1 = 3 then vZrA kk (sM s) s
  else if h.1 = 7 then (match S with
    | .inl b :: .inl a :: _ => vAsk (lSub a b) s kk kk
    | _ => false)
  else match x_lk L h.2.1 with
    | some (.inr (some i)) => if h.1 = 4 then vPth KT L S cn sn (fun _ => false) (fun s2 _ => kk s2) h.2.2 i s
      else if h.1 = 5 then vPth KT L S cn sn (fun _ => false) (fun s2 v => match v with
        | .inl l => vAsk l s2 kk kk
        | _ => false) h.2.2 i s
      else vPth KT L S cn sn kk (fun s2 _ => kk s2) h.2.2 i s
    | _ => false
theorem vHnt_spec {KT : vKT} {ρ : Nat → Int} {σ : Nat → Nat} {ty ty0 : Nat → Option Nat} {H : List (XC Int32)} {s : vSt} (h : vRel KT ρ σ ty H s) (h0 : vLe ty0 ty) (hr : ∀ a c, ty0 a = some c → kRaw KT c = none) {L : List (Nat × vA)} {S : List vA} {cn sn : lT} {hn : vHn} {kk : vSt → Bool} (hk : vHnt KT L S cn sn hn s kk = true) :
    ∃ ρ2 σ2 ty2 s2, vExt s s2 ρ ρ2 σ σ2 ∧ vRel KT ρ2 σ2 ty2 H s2 ∧ vLe ty0 ty2 ∧ vFrP L S cn sn ρ σ ρ2 σ2 ∧ kk s2 = true := by
  have same : ∀ s2, vRel KT ρ σ ty H s2 → vSame0 s s2 → kk s2 = true → ∃ ρ2 σ2 ty2 s2, vExt s s2 ρ ρ2 σ σ2 ∧ vRel KT ρ2 σ2 ty2 H s2 ∧ vLe ty0 ty2 ∧ vFrP L S cn sn ρ σ ρ2 σ2 ∧ kk s2 = true := fun s2 g1 g2 g3 => ⟨ρ, σ, ty, s2, vSame0_ext g2 ρ σ, g1, h0, vFrP_rf L S cn sn ρ σ, g3⟩
  unfold vHnt at hk
  split at hk
  · split at hk
    · split at hk
      · obtain ⟨s2, g0, g1, g2⟩ := vSpl_spec _ _ h hk
        exact same s2 g0 g1 g2
      · cases hk
    · cases hk
  split at hk
  · split at hk
    · obtain ⟨ty2, s2, x1, g0, g1, g2⟩ := vPro_spec h h0 hr hk
      exact ⟨ρ, σ, ty2, s2, x1, g0, g1, vFrP_rf L S cn sn ρ σ, g2⟩
    · cases hk
  split at hk
  · obtain ⟨s2, g0, g1, g2⟩ := vGrA_spec _ h (fun _ z => z) hk
    exact same s2 g0 g1 g2
  split at hk
  · obtain ⟨s2, g0, g1, g2⟩ := vZrA_spec h _ (fun _ z => z) hk
    exact same s2 g0 g1 g2
  split at hk
  · split at hk
    · obtain ⟨s2, g0, g1, g2⟩ := vAsk_spec h hk
      exact same s2 g0 g1 (by
        rcases g2 with ⟨-, g2⟩ | ⟨-, g2⟩
        · exact g2
        · exact g2)
    · cases hk
  split at hk
  · split at hk
    · obtain ⟨ρ2, σ2, s2, g1, g2, g3, g4⟩ := vPth_spec _ h hk
      rcases g4 with g4 | ⟨v, g4⟩
      · cases g4
      · exact ⟨ρ2, σ2, ty, s2, g1, g2, h0, g3, g4⟩
    split at hk
    · obtain ⟨ρ2, σ2, s2, g1, g2, g3, g4⟩ := vPth_spec _ h hk
      rcases g4 with g4 | ⟨v, g4⟩
      · cases g4
      · rcases v with l | v
        · obtain ⟨s3, k1, k2, k3⟩ := vAsk_spec g2 g4
          have k4 : kk s3 = true := by
            rcases k3 with ⟨-, k3⟩ | ⟨-, k3⟩
            · exact k3
            · exact k3
          exact ⟨ρ2, σ2, ty, s3, vExt_tr g1 (vSame0_ext k2 ρ2 σ2), k1, h0, g3, k4⟩
        · cases g4
    · obtain ⟨ρ2, σ2, s2, g1, g2, g3, g4⟩ := vPth_spec _ h hk
      have k4 : kk s2 = true := by
        rcases g4 with g4 | ⟨v, g4⟩
        · exact g4
        · exact g4
      exact ⟨ρ2, σ2, ty, s2, g1, g2, h0, g3, k4⟩
  · cases hk
def vHnA (KT : vKT) (L : List (Nat × vA)) (S : List vA) (cn sn : lT) (kk : vSt → Bool) : List vHn → vSt → Bool
  | [], s => kk s
  | h :: r, s => vHnt KT L S cn sn h s (fun s2 => vHnA KT L S cn sn kk r s2)
theorem vHnA_spec {KT : vKT} {ty0 : Nat → Option Nat} {H : List (XC Int32)} (hr : ∀ a c, ty0 a = some c → kRaw KT c = none) {L : List (Nat × vA)} {S : List vA} {cn sn : lT} {kk : vSt → Bool} : ∀ (l : List vHn) {ρ : Nat → Int} {σ : Nat → Nat} {ty : Nat → Option Nat} {s : vSt}, vRel KT ρ σ ty H s → vLe ty0 ty → vHnA KT L S cn sn kk l s = true →
    ∃ ρ2 σ2 ty2 s2, vExt s s2 ρ ρ2 σ σ2 ∧ vRel KT ρ2 σ2 ty2 H s2 ∧ vLe ty0 ty2 ∧ vFrP L S cn sn ρ σ ρ2 σ2 ∧ kk s2 = true
  | [], ρ, σ, ty, s, h, h0, hk => ⟨ρ, σ, ty, s, vExt_rf s ρ σ, h, h0, vFrP_rf L S cn sn ρ σ, hk⟩
  | n :: r, ρ, σ, ty, s, h, h0, hk => by
    obtain ⟨ρ2, σ2, ty2, s2, g1, g2, g3, g4, g5⟩ := vHnt_spec h h0 hr hk
    obtain ⟨ρ3, σ3, ty3, s3, k1, k2, k3, k4, k5⟩ := vHnA_spec hr r g2 g3 g5
    exact ⟨ρ3, σ3, ty3, s3, vExt_tr g1 k1, k2, k3, vFrP_tr g4 k4, k5⟩
abbrev vCu : Type := Nat → Option (List (Nat × vA) → List vA → vSt → lT → lT → Bool)
/-- THE CHECKER: fuel, what is skipped here (1: the note, 2: the hint too), depth, method, place, locals, stack, state, cells and slots made, notes, what is asked of returns -/
def vChk (KT : vKT) (tb : XT) (tyl : List FieldType) (ov : vOt) (CT : Nat → List vCt) (hs : Nat → Nat → Option (List vHn)) (kn : Nat → Nat → Option Nat) (W : List (Nat × Nat)) : Nat → Nat → Nat → Nat → Nat → List (Nat × vA) → List vA → vSt → lT → lT → vCu → (vSt → Option vA → Bool) → Bool
  | 0, _, _, _, _, _, _, _, _, _, _, _ => false
  | f + 1, go, dp, k, pc, L, S, s, cn, sn, cu, ret =>
    match (if go = 0 then cu pc else none) with
    | some g => g L S s cn sn
    | none => match (if go ≤ 1 then hs k pc else none) with
    | some x => vHnA KT L S cn sn (fun s2 => vChk KT tb tyl ov CT hs kn W f 2 dp k pc L S s2 cn sn cu ret) x s
    | none => match tMth tb k with
    | none => false
    | some q => match mC q pc with
    | none => false
    | some (i, _) => match i with
      | .iconst x => vChk KT tb tyl ov CT hs kn W f 0 dp k (pc + 1) L (.inl (lK (Int32.ofInt x).toInt) :: S) s cn sn cu ret
      | .bipush x => vChk KT tb tyl ov CT hs kn W f 0 dp k (pc + 2) L (.inl (lK (Int8.ofInt x).toInt32.toInt) :: S) s cn sn cu ret
      | .sipush x => vChk KT tb tyl ov CT hs kn W f 0 dp k (pc + 3) L (.inl (lK (Int16.ofInt x).toInt32.toInt) :: S) s cn sn cu ret
      | .aconst_null => vChk KT tb tyl ov CT hs kn W f 0 dp k (pc + 1) L (.inr none :: S) s cn sn cu ret
      | .iload_n j => match x_lk L j with
        | some (.inl a) => vChk KT tb tyl ov CT hs kn W f 0 dp k (pc + 1) L (.inl (lNm (sI s) a) :: S) s cn sn cu ret
        | _ => false
      | .iload j => match x_lk L j with
        | some (.inl a) => vChk KT tb tyl ov CT hs kn W f 0 dp k (pc + 2) L (.inl (lNm (sI s) a) :: S) s cn sn cu ret
        | _ => false
      | .aload_n j => match x_lk L j with
        | some (.inr a) => vChk KT tb tyl ov CT hs kn W f 0 dp k (pc + 1) L (.inr a :: S) s cn sn cu ret
        | _ => false
      | .aload j => match x_lk L j with
        | some (.inr a) => vChk KT tb tyl ov CT hs kn W f 0 dp k (pc + 2) L (.inr a :: S) s cn sn cu ret
        | _ => false
      | .iadd => match S with
        | .inl b :: .inl a :: r => vBinF L r cn sn 0 a b s (fun s2 t => vChk KT tb tyl ov CT hs kn W f 0 dp k (pc + 1) L (.inl t :: r) s2 cn sn cu ret)
        | _ => false
      | .isub => match S with
        | .inl b :: .inl a :: r => vBinF L r cn sn 1 a b s (fun s2 t => vChk KT tb tyl ov CT hs kn W f 0 dp k (pc + 1) L (.inl t :: r) s2 cn sn cu ret)
        | _ => false
      | .imul => match S with
        | .inl b :: .inl a :: r => vBinF L r cn sn 2 a b s (fun s2 t => vChk KT tb tyl ov CT hs kn W f 0 dp k (pc + 1) L (.inl t :: r) s2 cn sn cu ret)
        | _ => false
      | .iand => match S with
        | .inl b :: .inl a :: r => vBinF L r cn sn 3 a b s (fun s2 t => vChk KT tb tyl ov CT hs kn W f 0 dp k (pc + 1) L (.inl t :: r) s2 cn sn cu ret)
        | _ => false
      | .ior => match S with
        | .inl b :: .inl a :: r => vBinF L r cn sn 4 a b s (fun s2 t => vChk KT tb tyl ov CT hs kn W f 0 dp k (pc + 1) L (.inl t :: r) s2 cn sn cu ret)
        | _ => false
      | .ixor => match S with
        | .inl b :: .inl a :: r => vBinF L r cn sn 5 a b s (fun s2 t => vChk KT tb tyl ov CT hs kn W f 0 dp k (pc + 1) L (.inl t :: r) s2 cn sn cu ret)
        | _ => false
      | .ishl => match S with
        | .inl b :: .inl a :: r => vBinF L r cn sn 6 a b s (fun s2 t => vChk KT tb tyl ov CT hs kn W f 0 dp k (pc + 1) L (.inl t :: r) s2 cn sn cu ret)
        | _ => false
      | .ishr => match S with
        | .inl b :: .inl a :: r => vBinF L r cn sn 7 a b s (fun s2 t => vChk KT tb tyl ov CT hs kn W f 0 dp k (pc + 1) L (.inl t :: r) s2 cn sn cu ret)
        | _ => false
      | .iushr => match S with
        | .inl b :: .inl a :: r => vBinF L r cn sn 10 a b s (fun s2 t => vChk KT tb tyl ov CT hs kn W f 0 dp k (pc + 1) L (.inl t :: r) s2 cn sn cu ret)
        | _ => false
      | .idiv => match S with
        | .inl b :: .inl a :: r => vBr 0 b (lK 0) s (fun _ => false) (fun s1 => vBinF L r cn sn 8 a b s1 (fun s2 t => vChk KT tb tyl ov CT hs kn W f 0 dp k (pc + 1) L (.inl t :: r) s2 cn sn cu ret))
        | _ => false
      | .irem => match S with
        | .inl b :: .inl a :: r => vBr 0 b (lK 0) s (fun _ => false) (fun s1 => vBinF L r cn sn 9 a b s1 (fun s2 t => vChk KT tb tyl ov CT hs kn W f 0 dp k (pc + 1) L (.inl t :: r) s2 cn sn cu ret))
        | _ => false
      | .i2b => match S with
        | .inl a :: r => vFr L r cn sn s && vUn 0 a s (fun s2 t => vChk KT tb tyl ov CT hs kn W f 0 dp k (pc + 1) L (.inl t :: r) s2 cn sn cu ret)
        | _ => false
      | .i2s => match S with
        | .inl a :: r => vFr L r cn sn s && vUn 1 a s (fun s2 t => vChk KT tb tyl ov CT hs kn W f 0 dp k (pc + 1) L (.inl t :: r) s2 cn sn cu ret)
        | _ => false
      | .i2c => match S with
        | .inl a :: r => vFr L r cn sn s && vUn 2 a s (fun s2 t => vChk KT tb tyl ov CT hs kn W f 0 dp k (pc + 1) L (.inl t :: r) s2 cn sn cu ret)
        | _ => false
      | .ineg => match S with
        | .inl a :: r => vFr L r cn sn s && vUn 3 a s (fun s2 t => vChk KT tb tyl ov CT hs kn W f 0 dp k (pc + 1) L (.inl t :: r) s2 cn sn cu ret)
        | _ => false
      | .goto x => match x_jp pc x with
        | some t => vChk KT tb tyl ov CT hs kn W f 0 dp k t L S s cn sn cu ret
        | none => false
      | .if_icmp c x => match x_jp pc x with
        | some t => match S with
          | .inl b :: .inl a :: r => vBr (x_cn c) a b s (fun s2 => vChk KT tb tyl ov CT hs kn W f 0 dp k t L r s2 cn sn cu ret) (fun s2 => vChk KT tb tyl ov CT hs kn W f 0 dp k (pc + 3) L r s2 cn sn cu ret)
          | _ => false
        | none => false
      | .ifCond c x => match x_jp pc x with
        | some t => match S with
          | .inl a :: r => vBr (x_cn c) a (lK 0) s (fun s2 => vChk KT tb tyl ov CT hs kn W f 0 dp k t L r s2 cn sn cu ret) (fun s2 => vChk KT tb tyl ov CT hs kn W f 0 dp k (pc + 3) L r s2 cn sn cu ret)
          | _ => false
        | none => false
      | .istore_n j => match S with
        | .inl a :: r => decide ((j : Nat) < mL q) && vChk KT tb tyl ov CT hs kn W f 0 dp k (pc + 1) (x_st L j (.inl a)) r s cn sn cu ret
        | _ => false
      | .istore j => match S with
        | .inl a :: r => decide ((j : Nat) < mL q) && vChk KT tb tyl ov CT hs kn W f 0 dp k (pc + 2) (x_st L j (.inl a)) r s cn sn cu ret
        | _ => false
      | .astore_n j => match S with
        | .inr a :: r => decide ((j : Nat) < mL q) && vChk KT tb tyl ov CT hs kn W f 0 dp k (pc + 1) (x_st L j (.inr a)) r s cn sn cu ret
        | _ => false
      | .astore j => match S with
        | .inr a :: r => decide ((j : Nat) < mL q) && vChk KT tb tyl ov CT hs kn W f 0 dp k (pc + 2) (x_st L j (.inr a)) r s cn sn cu ret
        | _ => false
      | .iinc j x => match x_lk L j with
        | some (.inl a) => decide (j < mL q) && vBinF L S cn sn 0 a (lK (Int32.ofInt x).toInt) s (fun s2 t => vChk KT tb tyl ov CT hs kn W f 0 dp k (pc + 3) (x_st L j (.inl t)) S s2 cn sn cu ret)
        | _ => false
      | .dup => match S with
        | a :: r => vChk KT tb tyl ov CT hs kn W f 0 dp k (pc + 1) L (a :: a :: r) s cn sn cu ret
        | _ => false
      | .dup_x1 => match S with
        | a :: b :: r => vChk KT tb tyl ov CT hs kn W f 0 dp k (pc + 1) L (a :: b :: a :: r) s cn sn cu ret
        | _ => false
      | .dup2 => match S with
        | a :: b :: r => vChk KT tb tyl ov CT hs kn W f 0 dp k (pc + 1) L (a :: b :: a :: b :: r) s cn sn cu ret
        | _ => false
      | .pop => match S with
        | _ :: r => vChk KT tb tyl ov CT hs kn W f 0 dp k (pc + 1) L (r) s cn sn cu ret
        | _ => false
      | .ifnull x => match x_jp pc x with
        | some t => match S with
          | .inr none :: r => vChk KT tb tyl ov CT hs kn W f 0 dp k t L r s cn sn cu ret
          | .inr (some _) :: r => vChk KT tb tyl ov CT hs kn W f 0 dp k (pc + 3) L r s cn sn cu ret
          | _ => false
        | none => false
      | .ifnonnull x => match x_jp pc x with
        | some t => match S with
          | .inr none :: r => vChk KT tb tyl ov CT hs kn W f 0 dp k (pc + 3) L r s cn sn cu ret
          | .inr (some _) :: r => vChk KT tb tyl ov CT hs kn W f 0 dp k t L r s cn sn cu ret
          | _ => false
        | none => false
      | .ireturn => match S with
        | [.inl e] => vRt (mR q) e s && (cOk s cn (mMc q) && cOk s sn (mMs q)) && ret s (some (.inl e))
        | _ => false
      | .return_ => match S with
        | [] => decide (mR q = none) && (cOk s cn (mMc q) && cOk s sn (mMs q)) && ret s none
        | _ => false
      | .areturn => match S with
        | [.inr o] => (match mR q with | some (.object _) => true | some (.array _) => true | _ => false) && (cOk s cn (mMc q) && cOk s sn (mMs q)) && ret s (some (.inr o))
        | _ => false
      | .getfield ix => match S with
        | .inr (some a) :: r => if 1000000 < a then (match ov.2.1 a (mO q) ix with
            | some u => match vOv u with
              | some v => vChk KT tb tyl ov CT hs kn W f 0 dp k (pc + 3) L (v :: r) s cn sn cu ret
              | none => false
            | none => false) else match tFld tb (mO q) ix with
          | some y => match (sG s)[a]? with
            | some c => match KT.1[c]? with
              | some (.inl o) => match o.2[y.2]? with
                | some fz => decide (o.1 = y.1) && vRdF L r cn sn fz a (.inl y.2) false s (fun s2 v => vChk KT tb tyl ov CT hs kn W f 0 dp k (pc + 3) L (v :: r) s2 cn sn cu ret)
                | none => false
              | _ => false
            | none => false
          | none => false
        | _ => false
      | .iaload => match S with
        | .inl e :: .inr (some a) :: r => match (sG s)[a]? with
          | some c => match KT.1[c]? with
            | some (.inr o) => decide (o.1 = 0) && vIdx e o.2.1 s && (match vRes o.2.2 e with
              | some fz => vRdF L r cn sn fz a (.inr e) false s (fun s2 v => vChk KT tb tyl ov CT hs kn W f 0 dp k (pc + 1) L (v :: r) s2 cn sn cu ret)
              | none => false)
            | _ => false
          | none => false
        | _ => false
      | .baload => match S with
        | .inl e :: .inr (some a) :: r => if 1000000 < a then (match ov.2.2.2.1 a with
            | some bs => decide (e.2 = []) && vIdx e bs.length s && vChk KT tb tyl ov CT hs kn W f 0 dp k (pc + 1) L (.inl (lK (bs.getD e.1.toNat 0).toInt) :: r) s cn sn cu ret
            | none => false) else match (sG s)[a]? with
          | some c => match KT.1[c]? with
            | some (.inr o) => decide (o.1 = 1) && vIdx e o.2.1 s && (match vRes o.2.2 e with
              | some fz => vRdF L r cn sn fz a (.inr e) false s (fun s2 v => vChk KT tb tyl ov CT hs kn W f 0 dp k (pc + 1) L (v :: r) s2 cn sn cu ret)
              | none => false)
            | _ => false
          | none => false
        | _ => false
      | .aaload => match S with
        | .inl e :: .inr (some a) :: r => match (sG s)[a]? with
          | some c => match KT.1[c]? with
            | some (.inr o) => decide ((tyl[o.1]?.map x_isRef) = some true) && vIdx e o.2.1 s && (match vRes o.2.2 e with
              | some fz => vRdF L r cn sn fz a (.inr e) (decide (c = KT.2.1.2.2.2.1) && vNnQ KT a e s) s (fun s2 v => vChk KT tb tyl ov CT hs kn W f 0 dp k (pc + 1) L (v :: r) s2 cn sn cu ret)
              | none => false)
            | _ => false
          | none => false
        | _ => false
      | .iastore => match S with
        | .inl x :: .inl e :: .inr (some a) :: r => match (sG s)[a]? with
          | some c => match KT.1[c]? with
            | some (.inr o) => (decide (o.1 = 0) && decide (c ≠ KT.2.1.2.2.2.1) && decide (c ≠ KT.2.1.2.2.2.2) && wIn W c 0 && vIdx e o.2.1 s) && (match vRes o.2.2 e with
              | some fz => vFits fz (.inl x) s && true
              | none => false) && vChk KT tb tyl ov CT hs kn W f 0 dp k (pc + 1) L r (vSto a e (.inl x) s) cn sn cu ret
            | _ => false
          | none => false
        | _ => false
      | .bastore => match S with
        | .inl x :: .inl e :: .inr (some a) :: r => match (sG s)[a]? with
          | some c => match KT.1[c]? with
            | some (.inr o) => (decide (o.1 = 1) && decide (c ≠ KT.2.1.2.2.2.1) && decide (c ≠ KT.2.1.2.2.2.2) && (wIn W c 0 || (wIn W c 1 && lEq x (lK 1))) && vIdx e o.2.1 s) && (match vRes o.2.2 e with
              | some fz => vFits fz (.inl x) s && vB01 x s
              | none => false) && vChk KT tb tyl ov CT hs kn W f 0 dp k (pc + 1) L r (vSto a e (.inl x) s) cn sn cu ret
            | _ => false
          | none => false
        | _ => false
      | .aastore => match S with
        | .inr (some x) :: .inl e :: .inr (some a) :: r => match (sG s)[a]? with
          | some c => match KT.1[c]? with
            | some (.inr o) => (decide (c ≠ KT.2.1.2.2.2.2) && wIn W c 0 && vIdx e o.2.1 s) && (match vRes o.2.2 e with
              | some fz => vFits fz (.inr (some x)) s
              | none => false) && (match (sG s)[x]? with
                | some d => match KT.1[d]? with
                  | some (.inl p) => match tyl[o.1]? with
                    | some (.object nm) => decide (nm = tNm tb p.1) && vChk KT tb tyl ov CT hs kn W f 0 dp k (pc + 1) L r (vSto a e (.inr (some x)) s) cn sn cu ret
                    | _ => false
                  | _ => false
                | none => false)
            | _ => false
          | none => false
        | _ => false
      | .putfield ix => match S with
        | v :: .inr (some a) :: r => match tFld tb (mO q) ix with
          | some y => match (sG s)[a]? with
            | some c => match KT.1[c]? with
              | some (.inl o) => match o.2[y.2]? with
                | some fz => match (tFt tb y.1)[y.2]? with
                  | some ty => decide (o.1 = y.1) && (vFits fz v s && (vTyp ty.1 v s && (!ty.2 || (mI q && decide (mRc q = y.1))))) && (wIn W c (y.2 + 1) && vPutQ KT c a y.2 v s) && vChk KT tb tyl ov CT hs kn W f 0 dp k (pc + 3) L r (vPut a y.2 v s) cn sn cu ret
                  | none => false
                | none => false
              | _ => false
            | none => false
          | none => false
        | _ => false
      | .ldc ix => match tLi tb (mO q) ix with
        | some x => vChk KT tb tyl ov CT hs kn W f 0 dp k (pc + 2) L (.inl (lK x.toInt) :: S) s cn sn cu ret
        | none => match ov.1 (mO q) ix with
          | some a => decide (1000000 ≤ a) && vChk KT tb tyl ov CT hs kn W f 0 dp k (pc + 2) L (.inr (some a) :: S) s cn sn cu ret
          | none => false
      | .ldc_w ix => match tLi tb (mO q) ix with
        | some x => vChk KT tb tyl ov CT hs kn W f 0 dp k (pc + 3) L (.inl (lK x.toInt) :: S) s cn sn cu ret
        | none => match ov.1 (mO q) ix with
          | some a => decide (1000000 ≤ a) && vChk KT tb tyl ov CT hs kn W f 0 dp k (pc + 3) L (.inr (some a) :: S) s cn sn cu ret
          | none => false
      | .i2l => match S, x_lq q pc with
        | .inl a :: r, some (j, j0, ix, j2) => match x_lk L j, x_lk L j0, x_lk L j2, tFld tb (mO q) ix with
          | some (.inl b), some (.inr (some o)), some (.inl e), some y => (match (sG s)[o]? with
            | some c => match KT.1[c]? with
              | some (.inl ob) => match ob.2[y.2]? with
                | some fz => decide (ob.1 = y.1) && vRdF L (.inl a :: .inl b :: .inl e :: r) cn sn fz o (.inl y.2) false s (fun s2 v2 => match v2 with
                  | .inr (some ar) => match (sG s2)[ar]? with
                    | some c2 => match KT.1[c2]? with
                      | some (.inr oa) => decide (oa.1 = 0) && vIdx e oa.2.1 s2 && (match vRes oa.2.2 e with
                        | some fz2 => vRdF L (.inl a :: .inl b :: r) cn sn fz2 ar (.inr e) false s2 (fun s3 v3 => match v3 with
                          | .inl lv => vL3 a b lv s3 (fun x s4 => vChk KT tb tyl ov CT hs kn W f 0 dp k (pc + 13) L (.inl (lK x) :: r) s4 cn sn cu ret)
                          | _ => false)
                        | none => false)
                      | _ => false
                    | none => false
                  | _ => false)
                | none => false
              | _ => false
            | none => false)
          | _, _, _, _ => false
        | _, _ => false
      | .getstatic ix => match ov.2.2.1 (mO q) ix with
        | some u => match vOv u with
          | some v => vChk KT tb tyl ov CT hs kn W f 0 dp k (pc + 3) L (v :: S) s cn sn cu ret
          | none => false
        | none => false
      | .arraylength => match S with
        | .inr (some a) :: r => if 1000000 < a then (match ov.2.2.2.1 a with
            | some bs => vChk KT tb tyl ov CT hs kn W f 0 dp k (pc + 1) L (.inl (lK (Int32.ofNat bs.length).toInt) :: r) s cn sn cu ret
            | none => false) else false
        | _ => false
      | .tableswitch df lo up os => match S with
        | .inl a :: r => decide (up + 1 = lo + os.size) && x_swk (x_tp lo os.toList) && vSw a df (fun o s2 => match x_jp pc o with
          | some t => vChk KT tb tyl ov CT hs kn W f 0 dp k t L r s2 cn sn cu ret
          | none => false) (x_tp lo os.toList) s
        | _ => false
      | .lookupswitch df ps => match S with
        | .inl a :: r => (ps.toList.zip (ps.toList.drop 1)).all (fun (a, next) => a.1 < next.1) && x_swk ps.toList && vSw a df (fun o s2 => match x_jp pc o with
          | some t => vChk KT tb tyl ov CT hs kn W f 0 dp k t L r s2 cn sn cu ret
          | none => false) ps.toList s
        | _ => false
      | .new ix => match tNw tb (mO q) ix with
        | some ci => match kn k pc with
          | some c => match KT.1[c]? with
            | some (.inl o) => decide (o.1 = ci) && vDefs (tFt tb ci) o.2 && (decide (c ≠ KT.2.1.1) && decide (c ≠ KT.2.1.2.2.2.2)) && (cOk s (lAdd cn (lK 1)) (mMc q) && cOk s (lAdd sn (lK ((tFt tb ci).length : Int))) (mMs q)) && (vFr L S cn sn s && sBd s) && vChk KT tb tyl ov CT hs kn W f 0 dp k (pc + 3) L (.inr (some (sG s).length) :: S) (vMke KT c s) (lAdd cn (lK 1)) (lAdd sn (lK ((tFt tb ci).length : Int))) cu ret
            | _ => false
          | none => false
        | none => false
      | .newarray at_ => match S with
        | .inl e :: r => match kn k pc with
          | some c => match KT.1[c]? with
            | some (.inr o) => (match at_ with | .int => decide (o.1 = 0) | .boolean => decide (o.1 = 1) | _ => false) && decide (e.2 = []) && decide (e.1 = (o.2.1 : Int)) && decide (o.2.1 ≤ 100000) && o.2.2.all vZero && (decide (c ≠ KT.2.1.1) && decide (c ≠ KT.2.1.2.2.2.2)) && (cOk s (lAdd cn (lK 1)) (mMc q) && cOk s (lAdd sn (lK (o.2.1 : Int))) (mMs q)) && (vFr L r cn sn s && sBd s) && vChk KT tb tyl ov CT hs kn W f 0 dp k (pc + 2) L (.inr (some (sG s).length) :: r) (vMke KT c s) (lAdd cn (lK 1)) (lAdd sn (lK (o.2.1 : Int))) cu ret
            | _ => false
          | none => false
        | _ => false
      | .multianewarray ix dm => match S with
        | .inl e2 :: .inl e1 :: r => match tMn tb (mO q) ix with
          | some y => match kn k pc with
            | some c => match KT.1[c]? with
              | some (.inr o) => match o.2.2 with
                | [.inr w] => match KT.1[w.2]? with
                  | some (.inr p) => (decide (dm = 2) && decide (y.1 = o.1) && decide (y.2 = p.1) && decide (p.1 < 2) && lEq e1 (lK (o.2.1 : Int)) && lEq e2 (lK (p.2.1 : Int)) && decide (o.2.1 ≤ 1000) && decide (p.2.1 ≤ 1000) && decide (w.1 = false) && p.2.2.all vZero && (kRaw KT c).isNone && (kRaw KT w.2).isNone && decide (c ≠ KT.2.1.1) && decide (w.2 ≠ KT.2.1.1) && decide (c ≠ KT.2.1.2.2.2.2) && decide (w.2 ≠ KT.2.1.2.2.2.2)) && (cOk s (lAdd cn (lK ((1 + o.2.1 : Nat) : Int))) (mMc q) && cOk s (lAdd sn (lK ((o.2.1 + o.2.1 * p.2.1 : Nat) : Int))) (mMs q)) && (vFr L r cn sn s && sBd s) && vChk KT tb tyl ov CT hs kn W f 0 dp k (pc + 4) L (.inr (some (sG s).length) :: r) (vMke KT c s) (lAdd cn (lK ((1 + o.2.1 : Nat) : Int))) (lAdd sn (lK ((o.2.1 + o.2.1 * p.2.1 : Nat) : Int))) cu ret
                  | _ => false
                | _ => false
              | _ => false
            | none => false
          | none => false
        | _ => false
      | .invokevirtual ix => match tCal tb (mO q) ix with
        | some y => match dp with
          | dp2 + 1 => match tMth tb y.1 with
            | some q2 => match S.drop (mNp q2) with
              | .inr (some a) :: r => (decide (mNp q2 + 1 ≤ S.length) && decide (y.2 = 0) && vCls KT ov a (mRc q2) s && decide (r.length ≤ 8) && decide (mNp q2 + 1 ≤ mL q2) && (cOk s (lAdd cn (lK (mMc q2 : Int))) (mMc q) && cOk s (lAdd sn (lK (mMs q2 : Int))) (mMs q))) && (if (CT y.1).isEmpty then vFr L r cn sn s && vChk KT tb tyl ov CT hs kn W f 0 dp2 y.1 0 (x_en 0 (.inr (some a) :: (S.take (mNp q2)).reverse)) [] s (lK 0) (lK 0) (fun _ => none) (fun s2 v => vChk KT tb tyl ov CT hs kn W f 0 (dp2 + 1) k (pc + 3) L (x_push v r) s2 (lAdd cn (lK (mMc q2 : Int))) (lAdd sn (lK (mMs q2 : Int))) cu ret)
                else vFr L r cn sn s && vCal W dp2 (.inr (some a) :: (S.take (mNp q2)).reverse) s (fun s2 vs => match vs with
                  | [] => vChk KT tb tyl ov CT hs kn W f 0 (dp2 + 1) k (pc + 3) L r s2 (lAdd cn (lK (mMc q2 : Int))) (lAdd sn (lK (mMs q2 : Int))) cu ret
                  | [v] => vChk KT tb tyl ov CT hs kn W f 0 (dp2 + 1) k (pc + 3) L (v :: r) s2 (lAdd cn (lK (mMc q2 : Int))) (lAdd sn (lK (mMs q2 : Int))) cu ret
                  | _ => false) (CT y.1))
              | _ => false
            | none => false
          | 0 => false
        | none => false
      | .invokespecial ix => if tBi tb (mO q) ix = some 0 then (match S with
        | .inr (some _) :: r => decide (r.length ≤ 8) && vChk KT tb tyl ov CT hs kn W f 0 dp k (pc + 3) L r s cn sn cu ret
        | _ => false) else if tBi tb (mO q) ix = none then (match tCal tb (mO q) ix with
        | some y => match dp with
          | dp2 + 1 => match tMth tb y.1 with
            | some q2 => match S.drop (mNp q2) with
              | .inr (some a) :: r => (decide (mNp q2 + 1 ≤ S.length) && decide (y.2 = 1) && true && decide (r.length ≤ 8) && decide (mNp q2 + 1 ≤ mL q2) && (cOk s (lAdd cn (lK (mMc q2 : Int))) (mMc q) && cOk s (lAdd sn (lK (mMs q2 : Int))) (mMs q))) && (if (CT y.1).isEmpty then vFr L r cn sn s && vChk KT tb tyl ov CT hs kn W f 0 dp2 y.1 0 (x_en 0 (.inr (some a) :: (S.take (mNp q2)).reverse)) [] s (lK 0) (lK 0) (fun _ => none) (fun s2 v => vChk KT tb tyl ov CT hs kn W f 0 (dp2 + 1) k (pc + 3) L (x_push v r) s2 (lAdd cn (lK (mMc q2 : Int))) (lAdd sn (lK (mMs q2 : Int))) cu ret)
                else vFr L r cn sn s && vCal W dp2 (.inr (some a) :: (S.take (mNp q2)).reverse) s (fun s2 vs => match vs with
                  | [] => vChk KT tb tyl ov CT hs kn W f 0 (dp2 + 1) k (pc + 3) L r s2 (lAdd cn (lK (mMc q2 : Int))) (lAdd sn (lK (mMs q2 : Int))) cu ret
                  | [v] => vChk KT tb tyl ov CT hs kn W f 0 (dp2 + 1) k (pc + 3) L (v :: r) s2 (lAdd cn (lK (mMc q2 : Int))) (lAdd sn (lK (mMs q2 : Int))) cu ret
                  | _ => false) (CT y.1))
              | _ => false
            | none => false
          | 0 => false
        | none => false) else false
      | .invokestatic ix => match tCal tb (mO q) ix with
        | some y => match dp with
          | dp2 + 1 => match tMth tb y.1 with
            | some q2 => (decide (mNp q2 ≤ S.length) && decide (2 ≤ y.2) && decide ((S.drop (mNp q2)).length ≤ 8) && decide (mNp q2 ≤ mL q2) && (cOk s (lAdd cn (lK (mMc q2 : Int))) (mMc q) && cOk s (lAdd sn (lK (mMs q2 : Int))) (mMs q))) && (if (CT y.1).isEmpty then vFr L (S.drop (mNp q2)) cn sn s && vChk KT tb tyl ov CT hs kn W f 0 dp2 y.1 0 (x_en 0 (S.take (mNp q2)).reverse) [] s (lK 0) (lK 0) (fun _ => none) (fun s2 v => vChk KT tb tyl ov CT hs kn W f 0 (dp2 + 1) k (pc + 3) L (x_push v (S.drop (mNp q2))) s2 (lAdd cn (lK (mMc q2 : Int))) (lAdd sn (lK (mMs q2 : Int))) cu ret)
                else vFr L (S.drop (mNp q2)) cn sn s && vCal W dp2 (S.take (mNp q2)).reverse s (fun s2 vs => match vs with
                  | [] => vChk KT tb tyl ov CT hs kn W f 0 (dp2 + 1) k (pc + 3) L (S.drop (mNp q2)) s2 (lAdd cn (lK (mMc q2 : Int))) (lAdd sn (lK (mMs q2 : Int))) cu ret
                  | [v] => vChk KT tb tyl ov CT hs kn W f 0 (dp2 + 1) k (pc + 3) L (v :: (S.drop (mNp q2))) s2 (lAdd cn (lK (mMc q2 : Int))) (lAdd sn (lK (mMs q2 : Int))) cu ret
                  | _ => false) (CT y.1))
            | none => false
          | 0 => false
        | none => (if tBi tb (mO q) ix = some 1 then (match S with
          | .inl n :: .inl d :: .inr (some bd) :: .inl e :: .inr (some bs) :: r => decide (r.length ≤ 8) && vCpQ KT W bd bs n d e s && vChk KT tb tyl ov CT hs kn W f 0 dp k (pc + 3) L r (vCpy bd s) cn sn cu ret
          | _ => false)
        else if tBi tb (mO q) ix = some 2 then (match S with
          | .inl b :: .inl a :: r => decide (r.length ≤ 8) && (cOk s cn (mMc q) && cOk s sn (mMs q)) && vBr 2 a b s (fun s2 => vChk KT tb tyl ov CT hs kn W f 0 dp k (pc + 3) L (.inl b :: r) s2 cn sn cu ret) (fun s2 => vChk KT tb tyl ov CT hs kn W f 0 dp k (pc + 3) L (.inl a :: r) s2 cn sn cu ret)
          | _ => false)
        else if tBi tb (mO q) ix = some 3 then (match S with
          | .inl b :: .inl a :: r => decide (r.length ≤ 8) && (cOk s cn (mMc q) && cOk s sn (mMs q)) && vBr 2 b a s (fun s2 => vChk KT tb tyl ov CT hs kn W f 0 dp k (pc + 3) L (.inl b :: r) s2 cn sn cu ret) (fun s2 => vChk KT tb tyl ov CT hs kn W f 0 dp k (pc + 3) L (.inl a :: r) s2 cn sn cu ret)
          | _ => false)
        else if tBi tb (mO q) ix = some 4 then (match S with
          | .inl a :: r => decide (r.length ≤ 8) && (cOk s cn (mMc q) && cOk s sn (mMs q)) && vBr 3 a (lK 0) s (fun s2 => vChk KT tb tyl ov CT hs kn W f 0 dp k (pc + 3) L (.inl a :: r) s2 cn sn cu ret) (fun s2 => vChk KT tb tyl ov CT hs kn W f 0 dp k (pc + 3) L (.inl (lSub (lK 0) a) :: r) s2 cn sn cu ret)
          | _ => false)
        else false)
      | _ => false
/-- returns come to what is asked -/
def vRetOk (KT : vKT) (W : List (Nat × Nat)) (ty0 : Nat → Option Nat) (H0 : List (XC Int32)) (N : Nat) (s : vSt) (ρ : Nat → Int) (σ : Nat → Nat) (ret : vSt → Option vA → Bool) (Post : Option (XV Int32) → List (XC Int32) → Prop) : Prop :=
  ∀ ρ2 σ2 ty2 H2 s2 av, vExt s s2 ρ ρ2 σ σ2 → vLe ty0 ty2 → vFrm W ty0 H0 H2 → vRel KT ρ2 σ2 ty2 H2 s2 → H2.length ≤ N → ret s2 av = true → Post (av.map (cv ρ2 σ2)) H2
/-- notes come to what is asked -/
def vCutOk (KT : vKT) (tb : XT) (tyl : List FieldType) (ot : XO Int32) (W : List (Nat × Nat)) (ty0 : Nat → Option Nat) (H0 : List (XC Int32)) (B dp k : Nat) (s : vSt) (ρ : Nat → Int) (σ : Nat → Nat) (cu : vCu) (Post : Option (XV Int32) → List (XC Int32) → Prop) : Prop :=
  ∀ pc g, cu pc = some g → ∀ ρ2 σ2 ty2 H2 s2 L S cn sn Lc cn2 sn2, vExt s s2 ρ ρ2 σ σ2 → vAt KT W ty0 H0 B L s2 cn sn ρ2 σ2 ty2 H2 Lc cn2 sn2 → g L S s2 cn sn = true → ∃ v H3, x_To tb tyl ot dp k pc Lc (S.map (cv ρ2 σ2)) H2 cn2 sn2 v H3 ∧ Post v H3
theorem vRetOk_ext {KT : vKT} {W : List (Nat × Nat)} {ty0 : Nat → Option Nat} {H0 : List (XC Int32)} {N : Nat} {s s2 : vSt} {ρ ρ2 : Nat → Int} {σ σ2 : Nat → Nat} {ret : vSt → Option vA → Bool} {Post : Option (XV Int32) → List (XC Int32) → Prop} (g : vExt s s2 ρ ρ2 σ σ2) (h : vRetOk KT W ty0 H0 N s ρ σ ret Post) : vRetOk KT W ty0 H0 N s2 ρ2 σ2 ret Post :=
  fun ρ3 σ3 ty3 H3 s3 av e1 e2 e3 e4 e5 e6 => h ρ3 σ3 ty3 H3 s3 av (vExt_tr g e1) e2 e3 e4 e5 e6
theorem vCutOk_ext {KT : vKT} {tb : XT} {tyl : List FieldType} {ot : XO Int32} {W : List (Nat × Nat)} {ty0 : Nat → Option Nat} {H0 : List (XC Int32)} {B dp k : Nat} {s s2 : vSt} {ρ ρ2 : Nat → Int} {σ σ2 : Nat → Nat} {cu : vCu} {Post : Option (XV Int32) → List (XC Int32) → Prop} (g : vExt s s2 ρ ρ2 σ σ2) (h : vCutOk KT tb tyl ot W ty0 H0 B dp k s ρ σ cu Post) : vCutOk KT tb tyl ot W ty0 H0 B dp k s2 ρ2 σ2 cu Post :=
  fun pc c hc ρ3 σ3 ty3 H3 s3 L S cn sn Lc cn2 sn2 e1 e2 e3 => h pc c hc ρ3 σ3 ty3 H3 s3 L S cn sn Lc cn2 sn2 (vExt_tr g e1) e2 e3
theorem vChk_spec {KT : vKT} {tb : XT} {tyl : List FieldType} {ot : XO Int32} {ov : vOt} (hov : vOvLe ov (o4 ot)) {CT : Nat → List vCt} {hs : Nat → Nat → Option (List vHn)} {kn : Nat → Nat → Option Nat} {W : List (Nat × Nat)} (hCT : ∀ j c, c ∈ CT j → vCtSem KT tb tyl ot j c) {ty0 : Nat → Option Nat} {H0 : List (XC Int32)} (hr0 : ∀ a c, ty0 a = some c → kRaw KT c = none) : ∀ (f go : Nat) {dp k pc dp2' B : Nat} {q : XM} {L : List (Nat × vA)} {S : List vA} {s : vSt} {cn sn : lT} {cu : vCu} {ret : vSt → Option vA → Bool} {ρ : Nat → Int} {σ : Nat → Nat} {ty : Nat → Option Nat} {H : List (XC Int32)} {Lc : List (Nat × XV Int32)} {cn2 sn2 : Nat} {Post : Option (XV Int32) → List (XC Int32) → Prop}
    (_ : tMth tb k = some q) (_ : dp ≤ dp2') (_ : B + mMc q ≤ 1000000) (_ : vAt KT W ty0 H0 B L s cn sn ρ σ ty H Lc cn2 sn2) (_ : vChk KT tb tyl ov CT hs kn W f go dp k pc L S s cn sn cu ret = true) (_ : vRetOk KT W ty0 H0 (B + mMc q) s ρ σ ret Post) (_ : vCutOk KT tb tyl ot W ty0 H0 B dp2' k s ρ σ cu Post),
    ∃ v H2, x_To tb tyl ot dp2' k pc Lc (S.map (cv ρ σ)) H cn2 sn2 v H2 ∧ Post v H2 := by
  intro f
  induction f with
  | zero =>
    intro go dp k pc dp2' B q L S s cn sn cu ret ρ σ ty H Lc cn2 sn2 Post hq hdp hB hat hk
    cases hk
  | succ f ih0 =>
  intro go dp k pc dp2' B q L S s cn sn cu ret ρ σ ty H Lc cn2 sn2 Post hq hdp hB hat hk hret hcut
  have ih := fun {pc : Nat} {L : List (Nat × vA)} {S : List vA} {s : vSt} {cn sn : lT} {ρ : Nat → Int} {σ : Nat → Nat} {ty : Nat → Option Nat} {H : List (XC Int32)} {Lc : List (Nat × XV Int32)} {cn2 sn2 : Nat} => @ih0 0 dp k pc dp2' B q L S s cn sn cu ret ρ σ ty H Lc cn2 sn2 Post hq hdp hB
  rw [vChk.eq_def] at hk
  dsimp only at hk
  rcases hg : (if go = 0 then cu pc else none) with _ | g
  rotate_left
  · rw [hg] at hk
    have hcu : cu pc = some g := by
      by_cases h0 : go = 0
      · rw [if_pos h0] at hg
        exact hg
      · rw [if_neg h0] at hg
        cases hg
    exact hcut pc g hcu ρ σ ty H s L S cn sn Lc cn2 sn2 (vExt_rf s ρ σ) hat hk
  rw [hg] at hk
  dsimp only at hk
  rcases hh : (if go ≤ 1 then hs k pc else none) with _ | x
  rotate_left
  · rw [hh] at hk
    dsimp only at hk
    obtain ⟨ρ2, σ2, ty2, s2, g1, g2, g3, g4, g5⟩ := vHnA_spec hr0 x hat.2.2.2.1 hat.2.1 hk
    obtain ⟨v, H2, h1, h2⟩ := ih0 2 hq hdp hB ⟨hat.1, g3, hat.2.2.1, g2, g4.1 _ hat.2.2.2.2.1, by rw [g4.2.2.1]; exact hat.2.2.2.2.2.1, by rw [g4.2.2.2]; exact hat.2.2.2.2.2.2⟩ g5 (vRetOk_ext g1 hret) (vCutOk_ext g1 hcut)
    rw [g4.2.1] at h1
    exact ⟨v, H2, h1, h2⟩
  rw [hh] at hk
  dsimp only at hk
  rw [hq] at hk
  dsimp only at hk
  rcases hc : mC q pc with _ | ⟨i, n⟩
  · rw [hc] at hk
    cases hk
  rw [hc] at hk
  dsimp only at hk
  cases i
  case iconst x =>
    try dsimp only at hk
    obtain ⟨v, H2, h1, h2⟩ := ih hat hk hret hcut
    refine ⟨v, H2, xT_iconst hq hc ?_, h2⟩
    rw [List.map_cons, show cv ρ σ (.inl (lK (Int32.ofInt x).toInt)) = .inl (Int32.ofInt x) from cv_lK ρ σ _] at h1
    exact h1
  case bipush x =>
    try dsimp only at hk
    obtain ⟨v, H2, h1, h2⟩ := ih hat hk hret hcut
    refine ⟨v, H2, xT_bipush hq hc ?_, h2⟩
    rw [List.map_cons, show cv ρ σ (.inl (lK ((Int8.ofInt x).toInt32).toInt)) = .inl ((Int8.ofInt x).toInt32) from cv_lK ρ σ _] at h1
    exact h1
  case sipush x =>
    try dsimp only at hk
    obtain ⟨v, H2, h1, h2⟩ := ih hat hk hret hcut
    refine ⟨v, H2, xT_sipush hq hc ?_, h2⟩
    rw [List.map_cons, show cv ρ σ (.inl (lK ((Int16.ofInt x).toInt32).toInt)) = .inl ((Int16.ofInt x).toInt32) from cv_lK ρ σ _] at h1
    exact h1
  case aconst_null =>
    try dsimp only at hk
    obtain ⟨v, H2, h1, h2⟩ := ih hat hk hret hcut
    refine ⟨v, H2, xT_aconst_null hq hc ?_, h2⟩
    exact h1
  case iload_n j =>
    try dsimp only at hk
    rcases ha : x_lk L ↑j with _ | (a | a)
    · rw [ha] at hk
      cases hk
    · rw [ha] at hk
      obtain ⟨v, H2, h1, h2⟩ := ih hat hk hret hcut
      rw [List.map_cons, show cv ρ σ (.inl (lNm (sI s) a)) = cv ρ σ (.inl a) from congrArg (fun z => Sum.inl (Int32.ofInt z)) (lNm_ev hat.2.2.2.1.2.2.2.1 a)] at h1
      exact ⟨v, H2, xT_iload_n hq hc (hat.2.2.2.2.1 _ _ ha) h1, h2⟩
    · rw [ha] at hk
      cases hk
  case iload j =>
    try dsimp only at hk
    rcases ha : x_lk L ↑j with _ | (a | a)
    · rw [ha] at hk
      cases hk
    · rw [ha] at hk
      obtain ⟨v, H2, h1, h2⟩ := ih hat hk hret hcut
      rw [List.map_cons, show cv ρ σ (.inl (lNm (sI s) a)) = cv ρ σ (.inl a) from congrArg (fun z => Sum.inl (Int32.ofInt z)) (lNm_ev hat.2.2.2.1.2.2.2.1 a)] at h1
      exact ⟨v, H2, xT_iload hq hc (hat.2.2.2.2.1 _ _ ha) h1, h2⟩
    · rw [ha] at hk
      cases hk
  case aload_n j =>
    try dsimp only at hk
    rcases ha : x_lk L ↑j with _ | (a | a)
    · rw [ha] at hk
      cases hk
    · rw [ha] at hk
      cases hk
    · rw [ha] at hk
      obtain ⟨v, H2, h1, h2⟩ := ih hat hk hret hcut
      rcases a with _ | a
      · exact ⟨v, H2, xT_aload_n hq hc (a := none) (hat.2.2.2.2.1 _ _ ha) h1, h2⟩
      · exact ⟨v, H2, xT_aload_n hq hc (a := some (sR σ a)) (hat.2.2.2.2.1 _ _ ha) h1, h2⟩
  case aload j =>
    try dsimp only at hk
    rcases ha : x_lk L ↑j with _ | (a | a)
    · rw [ha] at hk
      cases hk
    · rw [ha] at hk
      cases hk
    · rw [ha] at hk
      obtain ⟨v, H2, h1, h2⟩ := ih hat hk hret hcut
      rcases a with _ | a
      · exact ⟨v, H2, xT_aload hq hc (a := none) (hat.2.2.2.2.1 _ _ ha) h1, h2⟩
      · exact ⟨v, H2, xT_aload hq hc (a := some (sR σ a)) (hat.2.2.2.2.1 _ _ ha) h1, h2⟩
  case iadd =>
    try dsimp only at hk
    rcases S with _ | ⟨b | b, _ | ⟨a | a, r⟩⟩ <;> first | (cases hk; done) | skip
    obtain ⟨ρ2, s2, t, g1, g2, g3, g4, g5⟩ := vBinF_spec hat.2.2.2.1 hk
    obtain ⟨v, H2, h1, h2⟩ := ih (vAt_ext hat g2 g4) g5 (vRetOk_ext g1 hret) (vCutOk_ext g1 hcut)
    refine ⟨v, H2, xT_iadd hq hc (a := Int32.ofInt (lEv ρ a)) (b := Int32.ofInt (lEv ρ b)) ?_, h2⟩
    rw [List.map_cons, g4.2.1, show cv ρ2 σ (.inl t) = .inl (x_bin 0 (Int32.ofInt (lEv ρ a)) (Int32.ofInt (lEv ρ b))) from congrArg Sum.inl g3.symm] at h1
    exact h1
  case isub =>
    try dsimp only at hk
    rcases S with _ | ⟨b | b, _ | ⟨a | a, r⟩⟩ <;> first | (cases hk; done) | skip
    obtain ⟨ρ2, s2, t, g1, g2, g3, g4, g5⟩ := vBinF_spec hat.2.2.2.1 hk
    obtain ⟨v, H2, h1, h2⟩ := ih (vAt_ext hat g2 g4) g5 (vRetOk_ext g1 hret) (vCutOk_ext g1 hcut)
    refine ⟨v, H2, xT_isub hq hc (a := Int32.ofInt (lEv ρ a)) (b := Int32.ofInt (lEv ρ b)) ?_, h2⟩
    rw [List.map_cons, g4.2.1, show cv ρ2 σ (.inl t) = .inl (x_bin 1 (Int32.ofInt (lEv ρ a)) (Int32.ofInt (lEv ρ b))) from congrArg Sum.inl g3.symm] at h1
    exact h1
  case imul =>
    try dsimp only at hk
    rcases S with _ | ⟨b | b, _ | ⟨a | a, r⟩⟩ <;> first | (cases hk; done) | skip
    obtain ⟨ρ2, s2, t, g1, g2, g3, g4, g5⟩ := vBinF_spec hat.2.2.2.1 hk
    obtain ⟨v, H2, h1, h2⟩ := ih (vAt_ext hat g2 g4) g5 (vRetOk_ext g1 hret) (vCutOk_ext g1 hcut)
    refine ⟨v, H2, xT_imul hq hc (a := Int32.ofInt (lEv ρ a)) (b := Int32.ofInt (lEv ρ b)) ?_, h2⟩
    rw [List.map_cons, g4.2.1, show cv ρ2 σ (.inl t) = .inl (x_bin 2 (Int32.ofInt (lEv ρ a)) (Int32.ofInt (lEv ρ b))) from congrArg Sum.inl g3.symm] at h1
    exact h1
  case iand =>
    try dsimp only at hk
    rcases S with _ | ⟨b | b, _ | ⟨a | a, r⟩⟩ <;> first | (cases hk; done) | skip
    obtain ⟨ρ2, s2, t, g1, g2, g3, g4, g5⟩ := vBinF_spec hat.2.2.2.1 hk
    obtain ⟨v, H2, h1, h2⟩ := ih (vAt_ext hat g2 g4) g5 (vRetOk_ext g1 hret) (vCutOk_ext g1 hcut)
    refine ⟨v, H2, xT_iand hq hc (a := Int32.ofInt (lEv ρ a)) (b := Int32.ofInt (lEv ρ b)) ?_, h2⟩
    rw [List.map_cons, g4.2.1, show cv ρ2 σ (.inl t) = .inl (x_bin 3 (Int32.ofInt (lEv ρ a)) (Int32.ofInt (lEv ρ b))) from congrArg Sum.inl g3.symm] at h1
    exact h1
  case ior =>
    try dsimp only at hk
    rcases S with _ | ⟨b | b, _ | ⟨a | a, r⟩⟩ <;> first | (cases hk; done) | skip
    obtain ⟨ρ2, s2, t, g1, g2, g3, g4, g5⟩ := vBinF_spec hat.2.2.2.1 hk
    obtain ⟨v, H2, h1, h2⟩ := ih (vAt_ext hat g2 g4) g5 (vRetOk_ext g1 hret) (vCutOk_ext g1 hcut)
    refine ⟨v, H2, xT_ior hq hc (a := Int32.ofInt (lEv ρ a)) (b := Int32.ofInt (lEv ρ b)) ?_, h2⟩
    rw [List.map_cons, g4.2.1, show cv ρ2 σ (.inl t) = .inl (x_bin 4 (Int32.ofInt (lEv ρ a)) (Int32.ofInt (lEv ρ b))) from congrArg Sum.inl g3.symm] at h1
    exact h1
  case ixor =>
    try dsimp only at hk
    rcases S with _ | ⟨b | b, _ | ⟨a | a, r⟩⟩ <;> first | (cases hk; done) | skip
    obtain ⟨ρ2, s2, t, g1, g2, g3, g4, g5⟩ := vBinF_spec hat.2.2.2.1 hk
    obtain ⟨v, H2, h1, h2⟩ := ih (vAt_ext hat g2 g4) g5 (vRetOk_ext g1 hret) (vCutOk_ext g1 hcut)
    refine ⟨v, H2, xT_ixor hq hc (a := Int32.ofInt (lEv ρ a)) (b := Int32.ofInt (lEv ρ b)) ?_, h2⟩
    rw [List.map_cons, g4.2.1, show cv ρ2 σ (.inl t) = .inl (x_bin 5 (Int32.ofInt (lEv ρ a)) (Int32.ofInt (lEv ρ b))) from congrArg Sum.inl g3.symm] at h1
    exact h1
  case ishl =>
    try dsimp only at hk
    rcases S with _ | ⟨b | b, _ | ⟨a | a, r⟩⟩ <;> first | (cases hk; done) | skip
    obtain ⟨ρ2, s2, t, g1, g2, g3, g4, g5⟩ := vBinF_spec hat.2.2.2.1 hk
    obtain ⟨v, H2, h1, h2⟩ := ih (vAt_ext hat g2 g4) g5 (vRetOk_ext g1 hret) (vCutOk_ext g1 hcut)
    refine ⟨v, H2, xT_ishl hq hc (a := Int32.ofInt (lEv ρ a)) (b := Int32.ofInt (lEv ρ b)) ?_, h2⟩
    rw [List.map_cons, g4.2.1, show cv ρ2 σ (.inl t) = .inl (x_bin 6 (Int32.ofInt (lEv ρ a)) (Int32.ofInt (lEv ρ b))) from congrArg Sum.inl g3.symm] at h1
    exact h1
  case ishr =>
    try dsimp only at hk
    rcases S with _ | ⟨b | b, _ | ⟨a | a, r⟩⟩ <;> first | (cases hk; done) | skip
    obtain ⟨ρ2, s2, t, g1, g2, g3, g4, g5⟩ := vBinF_spec hat.2.2.2.1 hk
    obtain ⟨v, H2, h1, h2⟩ := ih (vAt_ext hat g2 g4) g5 (vRetOk_ext g1 hret) (vCutOk_ext g1 hcut)
    refine ⟨v, H2, xT_ishr hq hc (a := Int32.ofInt (lEv ρ a)) (b := Int32.ofInt (lEv ρ b)) ?_, h2⟩
    rw [List.map_cons, g4.2.1, show cv ρ2 σ (.inl t) = .inl (x_bin 7 (Int32.ofInt (lEv ρ a)) (Int32.ofInt (lEv ρ b))) from congrArg Sum.inl g3.symm] at h1
    exact h1
  case iushr =>
    try dsimp only at hk
    rcases S with _ | ⟨b | b, _ | ⟨a | a, r⟩⟩ <;> first | (cases hk; done) | skip
    obtain ⟨ρ2, s2, t, g1, g2, g3, g4, g5⟩ := vBinF_spec hat.2.2.2.1 hk
    obtain ⟨v, H2, h1, h2⟩ := ih (vAt_ext hat g2 g4) g5 (vRetOk_ext g1 hret) (vCutOk_ext g1 hcut)
    refine ⟨v, H2, xT_iushr hq hc (a := Int32.ofInt (lEv ρ a)) (b := Int32.ofInt (lEv ρ b)) ?_, h2⟩
    rw [List.map_cons, g4.2.1, show cv ρ2 σ (.inl t) = .inl (x_bin 10 (Int32.ofInt (lEv ρ a)) (Int32.ofInt (lEv ρ b))) from congrArg Sum.inl g3.symm] at h1
    exact h1
  case idiv =>
    try dsimp only at hk
    rcases S with _ | ⟨b | b, _ | ⟨a | a, r⟩⟩ <;> first | (cases hk; done) | skip
    obtain ⟨s1, f0, f1, f2⟩ := vBr_spec hat.2.2.2.1 hk
    rcases f2 with ⟨e, f2⟩ | ⟨e, f2⟩
    · cases f2
    have hat1 := vAt_same hat f0
    have x1 := vSame0_ext f1 ρ σ
    obtain ⟨ρ2, s2, t, g1, g2, g3, g4, g5⟩ := vBinF_spec f0 f2
    obtain ⟨v, H2, h1, h2⟩ := ih (vAt_ext hat1 g2 g4) g5 (vRetOk_ext g1 (vRetOk_ext x1 hret)) (vCutOk_ext g1 (vCutOk_ext x1 hcut))
    rw [lK_ev] at e
    refine ⟨v, H2, xT_idiv hq hc (a := Int32.ofInt (lEv ρ a)) (b := Int32.ofInt (lEv ρ b)) e ?_, h2⟩
    rw [List.map_cons, g4.2.1, show cv ρ2 σ (.inl t) = .inl (x_bin 8 (Int32.ofInt (lEv ρ a)) (Int32.ofInt (lEv ρ b))) from congrArg Sum.inl g3.symm] at h1
    exact h1
  case irem =>
    try dsimp only at hk
    rcases S with _ | ⟨b | b, _ | ⟨a | a, r⟩⟩ <;> first | (cases hk; done) | skip
    obtain ⟨s1, f0, f1, f2⟩ := vBr_spec hat.2.2.2.1 hk
    rcases f2 with ⟨e, f2⟩ | ⟨e, f2⟩
    · cases f2
    have hat1 := vAt_same hat f0
    have x1 := vSame0_ext f1 ρ σ
    obtain ⟨ρ2, s2, t, g1, g2, g3, g4, g5⟩ := vBinF_spec f0 f2
    obtain ⟨v, H2, h1, h2⟩ := ih (vAt_ext hat1 g2 g4) g5 (vRetOk_ext g1 (vRetOk_ext x1 hret)) (vCutOk_ext g1 (vCutOk_ext x1 hcut))
    rw [lK_ev] at e
    refine ⟨v, H2, xT_irem hq hc (a := Int32.ofInt (lEv ρ a)) (b := Int32.ofInt (lEv ρ b)) e ?_, h2⟩
    rw [List.map_cons, g4.2.1, show cv ρ2 σ (.inl t) = .inl (x_bin 9 (Int32.ofInt (lEv ρ a)) (Int32.ofInt (lEv ρ b))) from congrArg Sum.inl g3.symm] at h1
    exact h1
  case i2b =>
    try dsimp only at hk
    rcases S with _ | ⟨a | a, r⟩ <;> first | (cases hk; done) | skip
    have hk2 := Bool.and_eq_true_iff.mp hk
    obtain ⟨ρ2, s2, t, g1, g2, g3, g5⟩ := vUn_spec hat.2.2.2.1 hk2.2
    have g4 := vFr_spec g1 hk2.1
    obtain ⟨v, H2, h1, h2⟩ := ih (vAt_ext hat g2 g4) g5 (vRetOk_ext g1 hret) (vCutOk_ext g1 hcut)
    refine ⟨v, H2, xT_i2b hq hc (a := Int32.ofInt (lEv ρ a)) ?_, h2⟩
    rw [List.map_cons, g4.2.1, show cv ρ2 σ (.inl t) = .inl (x_un 0 (Int32.ofInt (lEv ρ a))) from congrArg Sum.inl g3.symm] at h1
    exact h1
  case i2s =>
    try dsimp only at hk
    rcases S with _ | ⟨a | a, r⟩ <;> first | (cases hk; done) | skip
    have hk2 := Bool.and_eq_true_iff.mp hk
    obtain ⟨ρ2, s2, t, g1, g2, g3, g5⟩ := vUn_spec hat.2.2.2.1 hk2.2
    have g4 := vFr_spec g1 hk2.1
    obtain ⟨v, H2, h1, h2⟩ := ih (vAt_ext hat g2 g4) g5 (vRetOk_ext g1 hret) (vCutOk_ext g1 hcut)
    refine ⟨v, H2, xT_i2s hq hc (a := Int32.ofInt (lEv ρ a)) ?_, h2⟩
    rw [List.map_cons, g4.2.1, show cv ρ2 σ (.inl t) = .inl (x_un 1 (Int32.ofInt (lEv ρ a))) from congrArg Sum.inl g3.symm] at h1
    exact h1
  case i2c =>
    try dsimp only at hk
    rcases S with _ | ⟨a | a, r⟩ <;> first | (cases hk; done) | skip
    have hk2 := Bool.and_eq_true_iff.mp hk
    obtain ⟨ρ2, s2, t, g1, g2, g3, g5⟩ := vUn_spec hat.2.2.2.1 hk2.2
    have g4 := vFr_spec g1 hk2.1
    obtain ⟨v, H2, h1, h2⟩ := ih (vAt_ext hat g2 g4) g5 (vRetOk_ext g1 hret) (vCutOk_ext g1 hcut)
    refine ⟨v, H2, xT_i2c hq hc (a := Int32.ofInt (lEv ρ a)) ?_, h2⟩
    rw [List.map_cons, g4.2.1, show cv ρ2 σ (.inl t) = .inl (x_un 2 (Int32.ofInt (lEv ρ a))) from congrArg Sum.inl g3.symm] at h1
    exact h1
  case ineg =>
    try dsimp only at hk
    rcases S with _ | ⟨a | a, r⟩ <;> first | (cases hk; done) | skip
    have hk2 := Bool.and_eq_true_iff.mp hk
    obtain ⟨ρ2, s2, t, g1, g2, g3, g5⟩ := vUn_spec hat.2.2.2.1 hk2.2
    have g4 := vFr_spec g1 hk2.1
    obtain ⟨v, H2, h1, h2⟩ := ih (vAt_ext hat g2 g4) g5 (vRetOk_ext g1 hret) (vCutOk_ext g1 hcut)
    refine ⟨v, H2, xT_ineg hq hc (a := Int32.ofInt (lEv ρ a)) ?_, h2⟩
    rw [List.map_cons, g4.2.1, show cv ρ2 σ (.inl t) = .inl (x_un 3 (Int32.ofInt (lEv ρ a))) from congrArg Sum.inl g3.symm] at h1
    exact h1
  case goto x =>
    try dsimp only at hk
    rcases ht : x_jp pc x with _ | t
    · rw [ht] at hk
      cases hk
    · rw [ht] at hk
      obtain ⟨v, H2, h1, h2⟩ := ih hat hk hret hcut
      exact ⟨v, H2, xT_goto hq hc ht h1, h2⟩
  case if_icmp c x =>
    try dsimp only at hk
    rcases ht : x_jp pc x with _ | t
    · rw [ht] at hk
      cases hk
    rw [ht] at hk
    rcases S with _ | ⟨b | b, _ | ⟨a | a, r⟩⟩ <;> first | (cases hk; done) | skip
    obtain ⟨s2, g0, g1, g2⟩ := vBr_spec hat.2.2.2.1 hk
    have x1 := vSame0_ext g1 ρ σ
    rcases g2 with ⟨e, g2⟩ | ⟨e, g2⟩
    · obtain ⟨v, H2, h1, h2⟩ := ih (vAt_same hat g0) g2 (vRetOk_ext x1 hret) (vCutOk_ext x1 hcut)
      exact ⟨v, H2, xT_if_icmpY hq hc (a := Int32.ofInt (lEv ρ a)) (b := Int32.ofInt (lEv ρ b)) ht e h1, h2⟩
    · obtain ⟨v, H2, h1, h2⟩ := ih (vAt_same hat g0) g2 (vRetOk_ext x1 hret) (vCutOk_ext x1 hcut)
      exact ⟨v, H2, xT_if_icmpN hq hc (a := Int32.ofInt (lEv ρ a)) (b := Int32.ofInt (lEv ρ b)) ht e h1, h2⟩
  case ifCond c x =>
    try dsimp only at hk
    rcases ht : x_jp pc x with _ | t
    · rw [ht] at hk
      cases hk
    rw [ht] at hk
    rcases S with _ | ⟨a | a, r⟩ <;> first | (cases hk; done) | skip
    obtain ⟨s2, g0, g1, g2⟩ := vBr_spec hat.2.2.2.1 hk
    rw [lK_ev] at g2
    have x1 := vSame0_ext g1 ρ σ
    rcases g2 with ⟨e, g2⟩ | ⟨e, g2⟩
    · obtain ⟨v, H2, h1, h2⟩ := ih (vAt_same hat g0) g2 (vRetOk_ext x1 hret) (vCutOk_ext x1 hcut)
      exact ⟨v, H2, xT_ifCondY hq hc (a := Int32.ofInt (lEv ρ a)) ht e h1, h2⟩
    · obtain ⟨v, H2, h1, h2⟩ := ih (vAt_same hat g0) g2 (vRetOk_ext x1 hret) (vCutOk_ext x1 hcut)
      exact ⟨v, H2, xT_ifCondN hq hc (a := Int32.ofInt (lEv ρ a)) ht e h1, h2⟩
  case istore_n j =>
    try dsimp only at hk
    rcases S with _ | ⟨a | a, r⟩ <;> first | (cases hk; done) | skip
    have hk2 := Bool.and_eq_true_iff.mp hk
    obtain ⟨v, H2, h1, h2⟩ := ih (vAt_st hat j (.inl a)) hk2.2 hret hcut
    exact ⟨v, H2, xT_istore_n hq hc (a := Int32.ofInt (lEv ρ a)) (of_decide_eq_true hk2.1) h1, h2⟩
  case istore j =>
    try dsimp only at hk
    rcases S with _ | ⟨a | a, r⟩ <;> first | (cases hk; done) | skip
    have hk2 := Bool.and_eq_true_iff.mp hk
    obtain ⟨v, H2, h1, h2⟩ := ih (vAt_st hat j (.inl a)) hk2.2 hret hcut
    exact ⟨v, H2, xT_istore hq hc (a := Int32.ofInt (lEv ρ a)) (of_decide_eq_true hk2.1) h1, h2⟩
  case astore_n j =>
    try dsimp only at hk
    rcases S with _ | ⟨a | a, r⟩ <;> first | (cases hk; done) | skip
    have hk2 := Bool.and_eq_true_iff.mp hk
    obtain ⟨v, H2, h1, h2⟩ := ih (vAt_st hat j (.inr a)) hk2.2 hret hcut
    rcases a with _ | a
    · exact ⟨v, H2, xT_astore_n hq hc (a := none) (of_decide_eq_true hk2.1) h1, h2⟩
    · exact ⟨v, H2, xT_astore_n hq hc (a := some (sR σ a)) (of_decide_eq_true hk2.1) h1, h2⟩
  case astore j =>
    try dsimp only at hk
    rcases S with _ | ⟨a | a, r⟩ <;> first | (cases hk; done) | skip
    have hk2 := Bool.and_eq_true_iff.mp hk
    obtain ⟨v, H2, h1, h2⟩ := ih (vAt_st hat j (.inr a)) hk2.2 hret hcut
    rcases a with _ | a
    · exact ⟨v, H2, xT_astore hq hc (a := none) (of_decide_eq_true hk2.1) h1, h2⟩
    · exact ⟨v, H2, xT_astore hq hc (a := some (sR σ a)) (of_decide_eq_true hk2.1) h1, h2⟩
  case iinc j x =>
    try dsimp only at hk
    rcases ha : x_lk L j with _ | (a | a)
    · rw [ha] at hk
      cases hk
    · rw [ha] at hk
      have hk2 := Bool.and_eq_true_iff.mp hk
      obtain ⟨ρ2, s2, t, g1, g2, g3, g4, g5⟩ := vBinF_spec hat.2.2.2.1 hk2.2
      obtain ⟨v, H2, h1, h2⟩ := ih (vAt_st (vAt_ext hat g2 g4) j (.inl t)) g5 (vRetOk_ext g1 hret) (vCutOk_ext g1 hcut)
      refine ⟨v, H2, xT_iinc hq hc (a := Int32.ofInt (lEv ρ a)) (hat.2.2.2.2.1 _ _ ha) (of_decide_eq_true hk2.1) ?_, h2⟩
      rw [lK_ev, Int32.ofInt_toInt] at g3
      rw [g4.2.1, show cv ρ2 σ (.inl t) = .inl (x_bin 0 (Int32.ofInt (lEv ρ a)) (Int32.ofInt x)) from congrArg Sum.inl g3.symm] at h1
      exact h1
    · rw [ha] at hk
      cases hk
  case dup =>
    try dsimp only at hk
    rcases S with _ | ⟨a, r⟩ <;> first | (cases hk; done) | skip
    obtain ⟨v, H2, h1, h2⟩ := ih hat hk hret hcut
    exact ⟨v, H2, xT_dup hq hc h1, h2⟩
  case dup_x1 =>
    try dsimp only at hk
    rcases S with _ | ⟨a, _ | ⟨b, r⟩⟩ <;> first | (cases hk; done) | skip
    obtain ⟨v, H2, h1, h2⟩ := ih hat hk hret hcut
    exact ⟨v, H2, xT_dup_x1 hq hc h1, h2⟩
  case dup2 =>
    try dsimp only at hk
    rcases S with _ | ⟨a, _ | ⟨b, r⟩⟩ <;> first | (cases hk; done) | skip
    obtain ⟨v, H2, h1, h2⟩ := ih hat hk hret hcut
    exact ⟨v, H2, xT_dup2 hq hc h1, h2⟩
  case pop =>
    try dsimp only at hk
    rcases S with _ | ⟨a, r⟩ <;> first | (cases hk; done) | skip
    obtain ⟨v, H2, h1, h2⟩ := ih hat hk hret hcut
    exact ⟨v, H2, xT_pop hq hc h1, h2⟩
  case ifnull x =>
    try dsimp only at hk
    rcases ht : x_jp pc x with _ | t
    · rw [ht] at hk
      cases hk
    rw [ht] at hk
    rcases S with _ | ⟨a | (_ | a), r⟩
    · cases hk
    · cases hk
    · obtain ⟨v, H2, h1, h2⟩ := ih hat hk hret hcut
      exact ⟨v, H2, xT_ifnull0 hq hc ht h1, h2⟩
    · obtain ⟨v, H2, h1, h2⟩ := ih hat hk hret hcut
      exact ⟨v, H2, xT_ifnull1 hq hc (a := sR σ a) ht h1, h2⟩
  case ifnonnull x =>
    try dsimp only at hk
    rcases ht : x_jp pc x with _ | t
    · rw [ht] at hk
      cases hk
    rw [ht] at hk
    rcases S with _ | ⟨a | (_ | a), r⟩
    · cases hk
    · cases hk
    · obtain ⟨v, H2, h1, h2⟩ := ih hat hk hret hcut
      exact ⟨v, H2, xT_ifnonnull0 hq hc ht h1, h2⟩
    · obtain ⟨v, H2, h1, h2⟩ := ih hat hk hret hcut
      exact ⟨v, H2, xT_ifnonnull1 hq hc (a := sR σ a) ht h1, h2⟩
  case ireturn =>
    try dsimp only at hk
    rcases S with _ | ⟨e | e, _ | ⟨z, r⟩⟩ <;> first | (cases hk; done) | skip
    have k0 := Bool.and_eq_true_iff.mp hk
    have k1 := Bool.and_eq_true_iff.mp k0.1
    have k2 := Bool.and_eq_true_iff.mp k1.2
    have c1 := cOk_spec hat.2.2.2.1 hat.2.2.2.2.2.1 k2.1
    have c2 := cOk_spec hat.2.2.2.1 hat.2.2.2.2.2.2 k2.2
    refine ⟨some (.inl (Int32.ofInt (lEv ρ e))), H, xT_ireturn hq hc ?_, hret ρ σ ty H s (some (.inl e)) (vExt_rf s ρ σ) hat.2.1 hat.2.2.1 hat.2.2.2.1 (Nat.le_trans hat.1.1 (by omega)) k0.2⟩
    rw [vRt_spec hat.2.2.2.1 k1.1, decide_eq_true c1, decide_eq_true c2]
    rfl
  case return_ =>
    try dsimp only at hk
    rcases S with _ | ⟨e, r⟩ <;> first | (cases hk; done) | skip
    have k0 := Bool.and_eq_true_iff.mp hk
    have k1 := Bool.and_eq_true_iff.mp k0.1
    have k2 := Bool.and_eq_true_iff.mp k1.2
    have c1 := cOk_spec hat.2.2.2.1 hat.2.2.2.2.2.1 k2.1
    have c2 := cOk_spec hat.2.2.2.1 hat.2.2.2.2.2.2 k2.2
    refine ⟨none, H, xT_return_ hq hc ?_, hret ρ σ ty H s none (vExt_rf s ρ σ) hat.2.1 hat.2.2.1 hat.2.2.2.1 (Nat.le_trans hat.1.1 (by omega)) k0.2⟩
    rw [k1.1, decide_eq_true c1, decide_eq_true c2]
    rfl
  case areturn =>
    try dsimp only at hk
    rcases S with _ | ⟨e | o, _ | ⟨z, r⟩⟩ <;> first | (cases hk; done) | skip
    have k0 := Bool.and_eq_true_iff.mp hk
    have k1 := Bool.and_eq_true_iff.mp k0.1
    have k2 := Bool.and_eq_true_iff.mp k1.2
    have c1 := cOk_spec hat.2.2.2.1 hat.2.2.2.2.2.1 k2.1
    have c2 := cOk_spec hat.2.2.2.1 hat.2.2.2.2.2.2 k2.2
    have hp := hret ρ σ ty H s (some (.inr o)) (vExt_rf s ρ σ) hat.2.1 hat.2.2.1 hat.2.2.2.1 (Nat.le_trans hat.1.1 (by omega)) k0.2
    have hm : ∀ u : Option Nat, x_retOk dC (mR q) (.inr u) = true := fun u => by
      have k3 := k1.1
      generalize mR q = m at k3 ⊢
      rcases m with _ | t
      · cases k3
      · cases t <;> first | rfl | (cases k3; done)
    rcases o with _ | a
    · exact ⟨some (.inr none), H, xT_areturn hq hc (by rw [hm, decide_eq_true c1, decide_eq_true c2]; rfl), hp⟩
    · exact ⟨some (.inr (some (sR σ a))), H, xT_areturn hq hc (by rw [hm, decide_eq_true c1, decide_eq_true c2]; rfl), hp⟩
  case getfield ix =>
    try dsimp only at hk
    rcases S with _ | ⟨b | (_ | a), r⟩ <;> first | (cases hk; done) | skip
    try dsimp only at hk
    by_cases ho : 1000000 < a
    · rw [if_pos ho] at hk
      rcases hu : ov.2.1 a (mO q) ix with _ | u
      · rw [hu] at hk
        cases hk
      rw [hu] at hk
      try dsimp only at hk
      rcases hv : vOv u with _ | v0
      · rw [hv] at hk
        cases hk
      rw [hv] at hk
      obtain ⟨v, H2, h1, h2⟩ := ih hat hk hret hcut
      have e : sR σ a = a := if_neg (by omega)
      refine ⟨v, H2, xT_getfieldO hq hc (a := sR σ a) (u := u) (by rw [e]; exact ho) (by rw [e]; exact hov.2.1 _ _ _ _ hu) ?_, h2⟩
      rw [← vOv_spec ρ σ hv]
      exact h1
    rw [if_neg ho] at hk
    rcases hf : tFld tb (mO q) ix with _ | ⟨ci, j⟩
    · rw [hf] at hk
      cases hk
    rw [hf] at hk
    try dsimp only at hk
    rcases hG : (sG s)[a]? with _ | c
    · rw [hG] at hk
      cases hk
    rw [hG] at hk
    try dsimp only at hk
    rcases hK : KT.1[c]? with _ | (⟨c2, fl⟩ | o)
    · rw [hK] at hk
      cases hk
    rotate_left
    · rw [hK] at hk
      cases hk
    rw [hK] at hk
    try dsimp only at hk
    rcases hz : fl[j]? with _ | fz
    · rw [hz] at hk
      cases hk
    rw [hz] at hk
    have hk2 := Bool.and_eq_true_iff.mp hk
    have hci : c2 = ci := of_decide_eq_true hk2.1
    have ha := hat.2.2.2.1.2.1 a c hG
    obtain ⟨fs, f1, f2, f3⟩ := vHp_obj hat.2.2.2.1.1 ha hK
    obtain ⟨u, u1, u2⟩ := f3 j fz hz
    obtain ⟨ρ2, σ2, s2, v0, g0, g1, g2, g4, g3⟩ := vRdF_spec hat.2.2.2.1 (i := a) (key := .inl j) (u := u) ⟨c2, fs, f1, u1⟩ u2 (fun z => by cases z) hk2.2
    obtain ⟨v, H2, h1, h2⟩ := ih (vAt_ext hat g1 g4) g3 (vRetOk_ext g0 hret) (vCutOk_ext g0 hcut)
    have hlt := vHp_lt hat.2.2.2.1.1 ha
    have hl2 := hat.1.2
    rw [List.map_cons, g2, g4.2.1] at h1
    exact ⟨v, H2, xT_getfield hq hc (a := sR σ a) (by omega) hf f1 hci u1 h1, h2⟩
  case iaload =>
    try dsimp only at hk
    rcases S with _ | ⟨e | e, _ | ⟨b | (_ | a), r⟩⟩ <;> first | (cases hk; done) | skip
    try dsimp only at hk
    rcases hG : (sG s)[a]? with _ | c
    · rw [hG] at hk
      cases hk
    rw [hG] at hk
    try dsimp only at hk
    rcases hK : KT.1[c]? with _ | (o | ⟨t, m, fl⟩)
    · rw [hK] at hk
      cases hk
    · rw [hK] at hk
      cases hk
    rw [hK] at hk
    have hk2 := Bool.and_eq_true_iff.mp hk
    have hk4 := Bool.and_eq_true_iff.mp hk2.1
    have ht : t = 0 := of_decide_eq_true hk4.1
    subst ht
    rcases hz : vRes fl e with _ | fz
    · have hk3 := hk2.2
      rw [hz] at hk3
      cases hk3
    have hk3 := hk2.2
    rw [hz] at hk3
    have ha := hat.2.2.2.1.2.1 a c hG
    obtain ⟨vs, f1, f2, f3⟩ := vHp_arr hat.2.2.2.1.1 ha hK
    obtain ⟨x1, x2, x3, x4⟩ := vIdx_spec hat.2.2.2.1 hk4.2
    obtain ⟨u, u1, u2⟩ := f3 _ fz x2 (vRes_spec x3 hz)
    obtain ⟨ρ2, σ2, s2, v0, g0, g1, g2, g4, g3⟩ := vRdF_spec hat.2.2.2.1 (i := a) (key := .inr e) (u := u) ⟨_, vs, f1, x3, u1⟩ u2 (fun z => by cases z) hk3
    obtain ⟨v, H2, h1, h2⟩ := ih (vAt_ext hat g1 g4) g3 (vRetOk_ext g0 hret) (vCutOk_ext g0 hcut)
    have hlt := vHp_lt hat.2.2.2.1.1 ha
    have hl2 := hat.1.2
    rw [List.map_cons, g2, g4.2.1] at h1
    exact ⟨v, H2, xT_iaload hq hc (a := sR σ a) (e := Int32.ofInt (lEv ρ e)) (by omega) f1 (by rw [f2]; exact x1) (by rw [x4]; exact u1) h1, h2⟩
  case baload =>
    try dsimp only at hk
    rcases S with _ | ⟨e | e, _ | ⟨b | (_ | a), r⟩⟩ <;> first | (cases hk; done) | skip
    try dsimp only at hk
    by_cases ho : 1000000 < a
    · rw [if_pos ho] at hk
      rcases hu : ov.2.2.2.1 a with _ | bs
      · rw [hu] at hk
        cases hk
      rw [hu] at hk
      have hk2 := Bool.and_eq_true_iff.mp hk
      have hk3 := Bool.and_eq_true_iff.mp hk2.1
      obtain ⟨x1, x2, x3, x4⟩ := vIdx_spec hat.2.2.2.1 hk3.2
      obtain ⟨v, H2, h1, h2⟩ := ih hat hk2.2 hret hcut
      have e0 : sR σ a = a := if_neg (by omega)
      refine ⟨v, H2, xT_baloadO hq hc (a := sR σ a) (e := Int32.ofInt (lEv ρ e)) (by rw [e0]; exact ho) (by rw [e0]; exact hov.2.2.2.1 _ _ hu) x1 ?_, h2⟩
      obtain ⟨e1, e2⟩ := e
      have he : e2 = [] := of_decide_eq_true hk3.1
      subst he
      have e3 : lEv ρ (e1, []) = e1 := Int.add_zero e1
      rw [x4, e3]
      rw [List.map_cons, cv_lK] at h1
      exact h1
    rw [if_neg ho] at hk
    rcases hG : (sG s)[a]? with _ | c
    · rw [hG] at hk
      cases hk
    rw [hG] at hk
    try dsimp only at hk
    rcases hK : KT.1[c]? with _ | (o | ⟨t, m, fl⟩)
    · rw [hK] at hk
      cases hk
    · rw [hK] at hk
      cases hk
    rw [hK] at hk
    have hk2 := Bool.and_eq_true_iff.mp hk
    have hk4 := Bool.and_eq_true_iff.mp hk2.1
    have ht : t = 1 := of_decide_eq_true hk4.1
    subst ht
    rcases hz : vRes fl e with _ | fz
    · have hk3 := hk2.2
      rw [hz] at hk3
      cases hk3
    have hk3 := hk2.2
    rw [hz] at hk3
    have ha := hat.2.2.2.1.2.1 a c hG
    obtain ⟨vs, f1, f2, f3⟩ := vHp_arr hat.2.2.2.1.1 ha hK
    obtain ⟨x1, x2, x3, x4⟩ := vIdx_spec hat.2.2.2.1 hk4.2
    obtain ⟨u, u1, u2⟩ := f3 _ fz x2 (vRes_spec x3 hz)
    obtain ⟨ρ2, σ2, s2, v0, g0, g1, g2, g4, g3⟩ := vRdF_spec hat.2.2.2.1 (i := a) (key := .inr e) (u := u) ⟨_, vs, f1, x3, u1⟩ u2 (fun z => by cases z) hk3
    obtain ⟨v, H2, h1, h2⟩ := ih (vAt_ext hat g1 g4) g3 (vRetOk_ext g0 hret) (vCutOk_ext g0 hcut)
    have hlt := vHp_lt hat.2.2.2.1.1 ha
    have hl2 := hat.1.2
    rw [List.map_cons, g2, g4.2.1] at h1
    exact ⟨v, H2, xT_baload hq hc (a := sR σ a) (e := Int32.ofInt (lEv ρ e)) (by omega) f1 (by rw [f2]; exact x1) (by rw [x4]; exact u1) h1, h2⟩
  case aaload =>
    try dsimp only at hk
    rcases S with _ | ⟨e | e, _ | ⟨b | (_ | a), r⟩⟩ <;> first | (cases hk; done) | skip
    try dsimp only at hk
    rcases hG : (sG s)[a]? with _ | c
    · rw [hG] at hk
      cases hk
    rw [hG] at hk
    try dsimp only at hk
    rcases hK : KT.1[c]? with _ | (o | ⟨t, m, fl⟩)
    · rw [hK] at hk
      cases hk
    · rw [hK] at hk
      cases hk
    rw [hK] at hk
    have hk2 := Bool.and_eq_true_iff.mp hk
    have hk4 := Bool.and_eq_true_iff.mp hk2.1
    try skip
    rcases hz : vRes fl e with _ | fz
    · have hk3 := hk2.2
      rw [hz] at hk3
      cases hk3
    have hk3 := hk2.2
    rw [hz] at hk3
    have ha := hat.2.2.2.1.2.1 a c hG
    obtain ⟨vs, f1, f2, f3⟩ := vHp_arr hat.2.2.2.1.1 ha hK
    obtain ⟨x1, x2, x3, x4⟩ := vIdx_spec hat.2.2.2.1 hk4.2
    obtain ⟨u, u1, u2⟩ := f3 _ fz x2 (vRes_spec x3 hz)
    obtain ⟨ρ2, σ2, s2, v0, g0, g1, g2, g4, g3⟩ := vRdF_spec hat.2.2.2.1 (i := a) (key := .inr e) (u := u) ⟨_, vs, f1, x3, u1⟩ u2 (fun z => by
      have z2 := Bool.and_eq_true_iff.mp z
      obtain ⟨t2, ws, p, w1, w2⟩ := vNnQ_spec hat.2.2.2.1 z2.2 x3
      rw [f1] at w1
      cases w1
      rw [u1] at w2
      cases w2
      intro w3
      cases w3) hk3
    obtain ⟨v, H2, h1, h2⟩ := ih (vAt_ext hat g1 g4) g3 (vRetOk_ext g0 hret) (vCutOk_ext g0 hcut)
    have hlt := vHp_lt hat.2.2.2.1.1 ha
    have hl2 := hat.1.2
    rw [List.map_cons, g2, g4.2.1] at h1
    exact ⟨v, H2, xT_aaload hq hc (a := sR σ a) (e := Int32.ofInt (lEv ρ e)) (of_decide_eq_true hk4.1) f1 (by rw [f2]; exact x1) (by rw [x4]; exact u1) h1, h2⟩
  case iastore =>
    try dsimp only at hk
    rcases S with _ | ⟨x | x, _ | ⟨e | e, _ | ⟨b | (_ | a), r⟩⟩⟩ <;> first | (cases hk; done) | skip
    try dsimp only at hk
    rcases hG : (sG s)[a]? with _ | c
    · rw [hG] at hk
      cases hk
    rw [hG] at hk
    try dsimp only at hk
    rcases hK : KT.1[c]? with _ | (o | ⟨t, m, fl⟩)
    · rw [hK] at hk
      cases hk
    · rw [hK] at hk
      cases hk
    rw [hK] at hk
    have hk2 := Bool.and_eq_true_iff.mp hk
    have hk3 := Bool.and_eq_true_iff.mp hk2.1
    have hk4 := hk3.1
    simp only [Bool.and_eq_true] at hk4
    obtain ⟨⟨⟨⟨q1, q2⟩, q2g⟩, q3⟩, q4⟩ := hk4
    have q2g := of_decide_eq_true q2g
    have hk5 := hk3.2
    rcases hz : vRes fl e with _ | fz
    · rw [hz] at hk5
      cases hk5
    rw [hz] at hk5
    have hk6 := Bool.and_eq_true_iff.mp hk5
    have ht : t = 0 := of_decide_eq_true q1
    subst ht
    have q2 := of_decide_eq_true q2
    have ha := hat.2.2.2.1.2.1 a c hG
    obtain ⟨vs, f1, f2, f3⟩ := vHp_arr hat.2.2.2.1.1 ha hK
    obtain ⟨x1, x2, x3, x4⟩ := vIdx_spec hat.2.2.2.1 q4
    have hr := vSto_rel hat.2.2.2.1 ha hK f1 (e := e) (v := .inl x) x3 (by rw [f2]; exact x2) (vRes_spec x3 hz) (vFits_spec hat.2.2.2.1 hk6.1) (fun z => (q2 z).elim) q2g
    have g0 : vExt s (vSto a e (.inl x) s) ρ ρ σ σ := vExt_eq ρ σ rfl rfl
    obtain ⟨v, H2, h1, h2⟩ := ih (vAt_set hat hr ha f1 ⟨rfl, fun z => by rw [q3] at z; cases z⟩) hk2.2 (vRetOk_ext g0 hret) (vCutOk_ext g0 hcut)
    refine ⟨v, H2, xT_iastore hq hc (a := sR σ a) (e := Int32.ofInt (lEv ρ e)) (x := Int32.ofInt (lEv ρ x)) f1 (by rw [f2]; exact x1) ?_, h2⟩
    rw [x4]
    exact h1
  case bastore =>
    try dsimp only at hk
    rcases S with _ | ⟨x | x, _ | ⟨e | e, _ | ⟨b | (_ | a), r⟩⟩⟩ <;> first | (cases hk; done) | skip
    try dsimp only at hk
    rcases hG : (sG s)[a]? with _ | c
    · rw [hG] at hk
      cases hk
    rw [hG] at hk
    try dsimp only at hk
    rcases hK : KT.1[c]? with _ | (o | ⟨t, m, fl⟩)
    · rw [hK] at hk
      cases hk
    · rw [hK] at hk
      cases hk
    rw [hK] at hk
    have hk2 := Bool.and_eq_true_iff.mp hk
    have hk3 := Bool.and_eq_true_iff.mp hk2.1
    have hk4 := hk3.1
    simp only [Bool.and_eq_true] at hk4
    obtain ⟨⟨⟨⟨q1, q2⟩, q2g⟩, q3⟩, q4⟩ := hk4
    have q2g := of_decide_eq_true q2g
    have hk5 := hk3.2
    rcases hz : vRes fl e with _ | fz
    · rw [hz] at hk5
      cases hk5
    rw [hz] at hk5
    have hk6 := Bool.and_eq_true_iff.mp hk5
    have ht : t = 1 := of_decide_eq_true q1
    subst ht
    have q2 := of_decide_eq_true q2
    have ha := hat.2.2.2.1.2.1 a c hG
    obtain ⟨vs, f1, f2, f3⟩ := vHp_arr hat.2.2.2.1.1 ha hK
    obtain ⟨x1, x2, x3, x4⟩ := vIdx_spec hat.2.2.2.1 q4
    have hr := vSto_rel hat.2.2.2.1 ha hK f1 (e := e) (v := .inl x) x3 (by rw [f2]; exact x2) (vRes_spec x3 hz) (vFits_spec hat.2.2.2.1 hk6.1) (fun z => (q2 z).elim) q2g
    have g0 : vExt s (vSto a e (.inl x) s) ρ ρ σ σ := vExt_eq ρ σ rfl rfl
    obtain ⟨v, H2, h1, h2⟩ := ih (vAt_set hat hr ha f1 (vMonB q3)) hk2.2 (vRetOk_ext g0 hret) (vCutOk_ext g0 hcut)
    refine ⟨v, H2, xT_bastore hq hc (a := sR σ a) (e := Int32.ofInt (lEv ρ e)) (x := Int32.ofInt (lEv ρ x)) (vB01_fit hat.2.2.2.1 hk6.2) f1 (by rw [f2]; exact x1) ?_, h2⟩
    rw [x4]
    exact h1
  case aastore =>
    try dsimp only at hk
    rcases S with _ | ⟨x | (_ | x), _ | ⟨e | e, _ | ⟨b | (_ | a), r⟩⟩⟩ <;> first | (cases hk; done) | skip
    try dsimp only at hk
    rcases hG : (sG s)[a]? with _ | c
    · rw [hG] at hk
      cases hk
    rw [hG] at hk
    try dsimp only at hk
    rcases hK : KT.1[c]? with _ | (o | ⟨t, m, fl⟩)
    · rw [hK] at hk
      cases hk
    · rw [hK] at hk
      cases hk
    rw [hK] at hk
    have hk2 := Bool.and_eq_true_iff.mp hk
    have hk3 := Bool.and_eq_true_iff.mp hk2.1
    obtain ⟨q5, q4⟩ := Bool.and_eq_true_iff.mp hk3.1
    obtain ⟨q2g, q3⟩ := Bool.and_eq_true_iff.mp q5
    have q2g := of_decide_eq_true q2g
    have hk5 := hk3.2
    rcases hz : vRes fl e with _ | fz
    · rw [hz] at hk5
      cases hk5
    rw [hz] at hk5
    have hk7 := hk2.2
    rcases hX : (sG s)[x]? with _ | d
    · rw [hX] at hk7
      cases hk7
    rw [hX] at hk7
    try dsimp only at hk7
    rcases hP : KT.1[d]? with _ | (⟨ci, gl⟩ | p)
    · rw [hP] at hk7
      cases hk7
    rotate_left
    · rw [hP] at hk7
      cases hk7
    rw [hP] at hk7
    try dsimp only at hk7
    split at hk7
    rotate_left
    · cases hk7
    rename_i nm hnm
    have hk8 := Bool.and_eq_true_iff.mp hk7
    have ha := hat.2.2.2.1.2.1 a c hG
    have hx := hat.2.2.2.1.2.1 x d hX
    obtain ⟨vs, f1, f2, f3⟩ := vHp_arr hat.2.2.2.1.1 ha hK
    obtain ⟨gs, y1, y2, y3⟩ := vHp_obj hat.2.2.2.1.1 hx hP
    obtain ⟨x1, x2, x3, x4⟩ := vIdx_spec hat.2.2.2.1 q4
    have hr := vSto_rel hat.2.2.2.1 ha hK f1 (e := e) (v := .inr (some x)) x3 (by rw [f2]; exact x2) (vRes_spec x3 hz) (vFits_spec hat.2.2.2.1 hk5) (fun _ => ⟨sR σ x, rfl⟩) q2g
    have g0 : vExt s (vSto a e (.inr (some x)) s) ρ ρ σ σ := vExt_eq ρ σ rfl rfl
    obtain ⟨v, H2, h1, h2⟩ := ih (vAt_set hat hr ha f1 ⟨rfl, fun z => by rw [q3] at z; cases z⟩) hk8.2 (vRetOk_ext g0 hret) (vCutOk_ext g0 hcut)
    refine ⟨v, H2, xT_aastore hq hc (a := sR σ a) (u := sR σ x) (e := Int32.ofInt (lEv ρ e)) f1 y1 hnm hk8.1 (by rw [f2]; exact x1) ?_, h2⟩
    rw [x4]
    exact h1
  case putfield ix =>
    try dsimp only at hk
    rcases S with _ | ⟨x, _ | ⟨b | (_ | a), r⟩⟩ <;> first | (cases hk; done) | skip
    try dsimp only at hk
    rcases hf : tFld tb (mO q) ix with _ | ⟨ci, j⟩
    · rw [hf] at hk
      cases hk
    rw [hf] at hk
    try dsimp only at hk
    rcases hG : (sG s)[a]? with _ | c
    · rw [hG] at hk
      cases hk
    rw [hG] at hk
    try dsimp only at hk
    rcases hK : KT.1[c]? with _ | (⟨c2, fl⟩ | o)
    · rw [hK] at hk
      cases hk
    rotate_left
    · rw [hK] at hk
      cases hk
    rw [hK] at hk
    try dsimp only at hk
    rcases hz : fl[j]? with _ | fz
    · rw [hz] at hk
      cases hk
    rw [hz] at hk
    try dsimp only at hk
    rcases hT : (tFt tb ci)[j]? with _ | tt
    · rw [hT] at hk
      cases hk
    rw [hT] at hk
    have hk2 := Bool.and_eq_true_iff.mp hk
    have hk3 := Bool.and_eq_true_iff.mp hk2.1
    have hk6 := Bool.and_eq_true_iff.mp hk3.2
    have hk7 := Bool.and_eq_true_iff.mp hk3.1
    have hk4 := Bool.and_eq_true_iff.mp hk7.2
    have hk5 := Bool.and_eq_true_iff.mp hk4.2
    have hci : c2 = ci := of_decide_eq_true hk7.1
    subst hci
    have ha := hat.2.2.2.1.2.1 a c hG
    obtain ⟨fs, f1, f2, f3⟩ := vHp_obj hat.2.2.2.1.1 ha hK
    have hj := (List.getElem?_eq_some_iff.mp hz).1
    have hr := vPut_rel hat.2.2.2.1 ha hK f1 hz (by rw [f2]; exact hj) (vFits_spec hat.2.2.2.1 hk4.1) hk6.2
    have g0 : vExt s (vPut a j x s) ρ ρ σ σ := vExt_eq ρ σ rfl rfl
    obtain ⟨v, H2, h1, h2⟩ := ih (vAt_set hat hr ha f1 ⟨rfl, List.length_set .., fun i hi => by
      show (fs.set j (cv ρ σ x))[i]? = fs[i]?
      rw [List.getElem?_set_ne]
      intro e
      rw [← e, hk6.1] at hi
      cases hi⟩) hk2.2 (vRetOk_ext g0 hret) (vCutOk_ext g0 hcut)
    refine ⟨v, H2, xT_putfield hq hc (a := sR σ a) hf f1 hT ?_ h1, h2⟩
    rw [vTyp_spec hat.2.2.2.1 hk5.1, hk5.2, decide_eq_true (show c2 = c2 from rfl), decide_eq_true (show j < fs.length by rw [f2]; exact hj)]
    rfl
  case ldc ix =>
    try dsimp only at hk
    rcases hx : tLi tb (mO q) ix with _ | x
    · rw [hx] at hk
      try dsimp only at hk
      rcases hs : ov.1 (mO q) ix with _ | a
      · rw [hs] at hk
        cases hk
      rw [hs] at hk
      have hk2 := Bool.and_eq_true_iff.mp hk
      obtain ⟨v, H2, h1, h2⟩ := ih hat hk2.2 hret hcut
      have := of_decide_eq_true hk2.1
      have e0 : sR σ a = a := if_neg (by omega)
      refine ⟨v, H2, xT_ldcT hq hc (a := a) hx (hov.1 _ _ _ hs) ?_, h2⟩
      rw [List.map_cons, show cv ρ σ (.inr (some a)) = .inr (some a) from congrArg (fun z => Sum.inr (some z)) e0] at h1
      exact h1
    rw [hx] at hk
    obtain ⟨v, H2, h1, h2⟩ := ih hat hk hret hcut
    refine ⟨v, H2, xT_ldc hq hc hx ?_, h2⟩
    rw [List.map_cons, cv_lK] at h1
    exact h1
  case ldc_w ix =>
    try dsimp only at hk
    rcases hx : tLi tb (mO q) ix with _ | x
    · rw [hx] at hk
      try dsimp only at hk
      rcases hs : ov.1 (mO q) ix with _ | a
      · rw [hs] at hk
        cases hk
      rw [hs] at hk
      have hk2 := Bool.and_eq_true_iff.mp hk
      obtain ⟨v, H2, h1, h2⟩ := ih hat hk2.2 hret hcut
      have := of_decide_eq_true hk2.1
      have e0 : sR σ a = a := if_neg (by omega)
      refine ⟨v, H2, xT_ldc_wT hq hc (a := a) hx (hov.1 _ _ _ hs) ?_, h2⟩
      rw [List.map_cons, show cv ρ σ (.inr (some a)) = .inr (some a) from congrArg (fun z => Sum.inr (some z)) e0] at h1
      exact h1
    rw [hx] at hk
    obtain ⟨v, H2, h1, h2⟩ := ih hat hk hret hcut
    refine ⟨v, H2, xT_ldc_w hq hc hx ?_, h2⟩
    rw [List.map_cons, cv_lK] at h1
    exact h1
  case i2l =>
    try dsimp only at hk
    rcases S with _ | ⟨a | a, r⟩ <;> first | (cases hk; done) | skip
    rcases hql : x_lq q pc with _ | ⟨j, j0, ix, j2⟩
    · rw [hql] at hk
      cases hk
    rw [hql] at hk
    try dsimp only at hk
    rcases hj : x_lk L j with _ | (b | b)
    · rw [hj] at hk
      cases hk
    rotate_left
    · rw [hj] at hk
      cases hk
    rw [hj] at hk
    rcases hj0 : x_lk L j0 with _ | (o | (_ | o))
    · rw [hj0] at hk
      cases hk
    · rw [hj0] at hk
      cases hk
    · rw [hj0] at hk
      cases hk
    rw [hj0] at hk
    rcases hj2 : x_lk L j2 with _ | (e | e)
    · rw [hj2] at hk
      cases hk
    rotate_left
    · rw [hj2] at hk
      cases hk
    rw [hj2] at hk
    rcases hf : tFld tb (mO q) ix with _ | ⟨ci, fj⟩
    · rw [hf] at hk
      cases hk
    rw [hf] at hk
    try dsimp only at hk
    rcases hG : (sG s)[o]? with _ | c
    · rw [hG] at hk
      cases hk
    rw [hG] at hk
    try dsimp only at hk
    rcases hK : KT.1[c]? with _ | (⟨c2, fl⟩ | ob)
    · rw [hK] at hk
      cases hk
    rotate_left
    · rw [hK] at hk
      cases hk
    rw [hK] at hk
    try dsimp only at hk
    rcases hz : fl[fj]? with _ | fz
    · rw [hz] at hk
      cases hk
    rw [hz] at hk
    have hk2 := Bool.and_eq_true_iff.mp hk
    have hci : c2 = ci := of_decide_eq_true hk2.1
    have ha := hat.2.2.2.1.2.1 o c hG
    obtain ⟨fs, f1, f2, f3⟩ := vHp_obj hat.2.2.2.1.1 ha hK
    obtain ⟨u, u1, u2⟩ := f3 fj fz hz
    obtain ⟨ρ2, σ2, s2, v0, g0, g1, g2, g4, g3⟩ := vRdF_spec hat.2.2.2.1 (i := o) (key := .inl fj) (u := u) ⟨c2, fs, f1, u1⟩ u2 (fun z => by cases z) hk2.2
    have hat2 := vAt_ext hat g1 g4
    rcases v0 with v0 | (_ | ar)
    · cases g3
    · cases g3
    try dsimp only at g3
    rcases hG2 : (sG s2)[ar]? with _ | c3
    · rw [hG2] at g3
      cases g3
    rw [hG2] at g3
    try dsimp only at g3
    rcases hK2 : KT.1[c3]? with _ | (oo | ⟨t, m, fl2⟩)
    · rw [hK2] at g3
      cases g3
    · rw [hK2] at g3
      cases g3
    rw [hK2] at g3
    have q2 := Bool.and_eq_true_iff.mp g3
    have q4 := Bool.and_eq_true_iff.mp q2.1
    have ht : t = 0 := of_decide_eq_true q4.1
    subst ht
    rcases hz2 : vRes fl2 e with _ | fz2
    · have q3 := q2.2
      rw [hz2] at q3
      cases q3
    have q3 := q2.2
    rw [hz2] at q3
    try dsimp only at q3
    have ha2 := hat2.2.2.2.1.2.1 ar c3 hG2
    obtain ⟨vs, y1, y2, y3⟩ := vHp_arr hat2.2.2.2.1.1 ha2 hK2
    obtain ⟨x1, x2, x3, x4⟩ := vIdx_spec hat2.2.2.2.1 q4.2
    obtain ⟨u', w1, w2⟩ := y3 _ fz2 x2 (vRes_spec x3 hz2)
    obtain ⟨ρ3, σ3, s3, v3, k0, k1, k2, k4, k3⟩ := vRdF_spec hat2.2.2.2.1 (i := ar) (key := .inr e) (u := u') ⟨_, vs, y1, x3, w1⟩ w2 (fun z => by cases z) q3
    have hat3 := vAt_ext hat2 k1 k4
    rcases v3 with lv | v3
    rotate_left
    · cases k3
    obtain ⟨s4, z1, z2, xi, z3, z4⟩ := vL3_spec k1 k3
    have xx := vSame0_ext z2 ρ3 σ3
    obtain ⟨v, H2, h1, h2⟩ := ih (vAt_same hat3 z1) z3 (vRetOk_ext xx (vRetOk_ext k0 (vRetOk_ext g0 hret))) (vCutOk_ext xx (vCutOk_ext k0 (vCutOk_ext g0 hcut)))
    have m1 := g4.2.1
    have m2 := k4.2.1
    simp only [List.map_cons, List.cons.injEq] at m1 m2
    have eA : cv ρ3 σ3 (.inl a) = cv ρ σ (.inl a) := m2.1.trans m1.1
    have eB : cv ρ3 σ3 (.inl b) = cv ρ σ (.inl b) := m2.2.1.trans m1.2.1
    have eE : cv ρ2 σ2 (.inl e) = cv ρ σ (.inl e) := m1.2.2.1
    have eR : r.map (cv ρ3 σ3) = r.map (cv ρ σ) := m2.2.2.trans m1.2.2.2
    have fA : Int32.ofInt (lEv ρ3 a) = Int32.ofInt (lEv ρ a) := Sum.inl.inj eA
    have fB : Int32.ofInt (lEv ρ3 b) = Int32.ofInt (lEv ρ b) := Sum.inl.inj eB
    have fE : Int32.ofInt (lEv ρ2 e) = Int32.ofInt (lEv ρ e) := Sum.inl.inj eE
    have hlt := vHp_lt hat.2.2.2.1.1 ha
    have hl2 := hat.1.2
    have uA : fs[fj]? = some (.inr (some (sR σ2 ar))) := by rw [u1, ← g2]; rfl
    rw [List.map_cons, eR] at h1
    refine ⟨v, H2, xT_l3 hq hc (a := Int32.ofInt (lEv ρ a)) (b := Int32.ofInt (lEv ρ b)) (e := Int32.ofInt (lEv ρ e)) (u := Int32.ofInt (lEv ρ3 lv)) (ob := sR σ o) (y := sR σ2 ar) hql (hat.2.2.2.2.1 _ _ hj) (hat.2.2.2.2.1 _ _ hj0) (hat.2.2.2.2.1 _ _ hj2) hf f1 hci uA y1 (by rw [y2, ← fE]; exact x1) (by rw [← fE, x4, w1, ← k2]; rfl) ?_, h2⟩
    rw [z4, fA, fB] at h1
    exact h1
  case getstatic ix =>
    try dsimp only at hk
    rcases hx : ov.2.2.1 (mO q) ix with _ | u
    · rw [hx] at hk
      cases hk
    rw [hx] at hk
    try dsimp only at hk
    rcases hv : vOv u with _ | v0
    · rw [hv] at hk
      cases hk
    rw [hv] at hk
    obtain ⟨v, H2, h1, h2⟩ := ih hat hk hret hcut
    refine ⟨v, H2, xT_getstatic hq hc (hov.2.2.1 _ _ _ hx) ?_, h2⟩
    rw [← vOv_spec ρ σ hv]
    exact h1
  case arraylength =>
    try dsimp only at hk
    rcases S with _ | ⟨b | (_ | a), r⟩ <;> first | (cases hk; done) | skip
    try dsimp only at hk
    by_cases ho : 1000000 < a
    · rw [if_pos ho] at hk
      rcases hu : ov.2.2.2.1 a with _ | bs
      · rw [hu] at hk
        cases hk
      rw [hu] at hk
      obtain ⟨v, H2, h1, h2⟩ := ih hat hk hret hcut
      have e : sR σ a = a := if_neg (by omega)
      refine ⟨v, H2, xT_arraylengthB hq hc (a := sR σ a) (by rw [e]; omega) (by rw [e]; exact hov.2.2.2.1 _ _ hu) (by rw [e]; exact ho) ?_, h2⟩
      rw [List.map_cons, cv_lK] at h1
      exact h1
    · rw [if_neg ho] at hk
      cases hk
  case tableswitch df lo up os =>
    try dsimp only at hk
    rcases S with _ | ⟨a | a, r⟩ <;> first | (cases hk; done) | skip
    have hk2 := Bool.and_eq_true_iff.mp hk
    have hk3 := Bool.and_eq_true_iff.mp hk2.1
    obtain ⟨s2, g0, g1, g2⟩ := vSw_spec _ hat.2.2.2.1 hk2.2
    rcases ht : x_jp pc (x_swo (Int32.ofInt (lEv ρ a)) df (x_tp lo os.toList)) with _ | t
    · rw [ht] at g2
      cases g2
    rw [ht] at g2
    have x1 := vSame0_ext g1 ρ σ
    obtain ⟨v, H2, h1, h2⟩ := ih (vAt_same hat g0) g2 (vRetOk_ext x1 hret) (vCutOk_ext x1 hcut)
    exact ⟨v, H2, xT_tableswitch hq hc (a := Int32.ofInt (lEv ρ a)) (of_decide_eq_true hk3.1) hk3.2 ht h1, h2⟩
  case lookupswitch df ps =>
    try dsimp only at hk
    rcases S with _ | ⟨a | a, r⟩ <;> first | (cases hk; done) | skip
    have hk2 := Bool.and_eq_true_iff.mp hk
    have hk3 := Bool.and_eq_true_iff.mp hk2.1
    obtain ⟨s2, g0, g1, g2⟩ := vSw_spec _ hat.2.2.2.1 hk2.2
    rcases ht : x_jp pc (x_swo (Int32.ofInt (lEv ρ a)) df ps.toList) with _ | t
    · rw [ht] at g2
      cases g2
    rw [ht] at g2
    have x1 := vSame0_ext g1 ρ σ
    obtain ⟨v, H2, h1, h2⟩ := ih (vAt_same hat g0) g2 (vRetOk_ext x1 hret) (vCutOk_ext x1 hcut)
    exact ⟨v, H2, xT_lookupswitch hq hc (a := Int32.ofInt (lEv ρ a)) (hk3.1) hk3.2 ht h1, h2⟩
  case new ix =>
    try dsimp only at hk
    rcases hx : tNw tb (mO q) ix with _ | ci
    · rw [hx] at hk
      cases hk
    rw [hx] at hk
    try dsimp only at hk
    rcases hn : kn k pc with _ | c
    · rw [hn] at hk
      cases hk
    rw [hn] at hk
    try dsimp only at hk
    rcases hK : KT.1[c]? with _ | (⟨c2, fl⟩ | o)
    · rw [hK] at hk
      cases hk
    rotate_left
    · rw [hK] at hk
      cases hk
    rw [hK] at hk
    simp only [Bool.and_eq_true] at hk
    obtain ⟨⟨⟨⟨⟨k1, k2⟩, k3, k3g⟩, k4, k5⟩, k6, k7⟩, k8⟩ := hk
    have k3g := of_decide_eq_true k3g
    have k1 : c2 = ci := of_decide_eq_true k1
    subst k1
    have k3 := of_decide_eq_true k3
    obtain ⟨σ2, g0, g1, g2, g3⟩ := vMke_rel hat.2.2.2.1 k7 hK (vDefs_cell (c2 := c2) (ty := vAdd ty H.length c) k2) k3 k3g
    have cc1 := cOk_spec (n := cn2 + 1) hat.2.2.2.1 (by rw [lAdd_ev, lK_ev]; have := hat.2.2.2.2.2.1; omega) k4
    have cc2 := cOk_spec (n := sn2 + (tFt tb c2).length) hat.2.2.2.1 (by rw [lAdd_ev, lK_ev]; have := hat.2.2.2.2.2.2; omega) k5
    have hl := hat.1.1
    have hl2 := hat.1.2
    have g4 := vFr_spec g0 k6
    have hat2 : vAt KT W ty0 H0 B L (vMke KT c s) (lAdd cn (lK 1)) (lAdd sn (lK (((tFt tb c2).length : Int) : Int))) ρ σ2 (vAdd ty H.length c) (H ++ [.inl (c2, (tFt tb c2).map (fun t => x_def dC t.1))]) Lc (cn2 + 1) (sn2 + (tFt tb c2).length) := by
      refine ⟨?_, vLe_tr hat.2.1 g3, vFrm_app hat.2.2.1 _, g1, g4.1 _ hat.2.2.2.2.1, ?_, ?_⟩
      · rw [List.length_append]
        show H.length + 1 ≤ B + (cn2 + 1) ∧ H.length + 1 ≤ 1000000
        omega
      · rw [lAdd_ev, lK_ev, g4.2.2.1]
        have := hat.2.2.2.2.2.1
        omega
      · rw [lAdd_ev, lK_ev, g4.2.2.2]
        have := hat.2.2.2.2.2.2
        omega
    obtain ⟨v, H2, h1, h2⟩ := ih hat2 k8 (vRetOk_ext g0 hret) (vCutOk_ext g0 hcut)
    rw [List.map_cons, g4.2.1, show cv ρ σ2 (.inr (some (sG s).length)) = .inr (some H.length) from congrArg (fun z => Sum.inr (some z)) g2] at h1
    refine ⟨v, H2, xT_new hq hc hx ?_ h1, h2⟩
    rw [decide_eq_true cc1, decide_eq_true cc2, decide_eq_true (show H.length + 1 ≤ 1000000 by omega)]
    rfl
  case newarray at_ =>
    try dsimp only at hk
    rcases S with _ | ⟨e | e, r⟩ <;> first | (cases hk; done) | skip
    try dsimp only at hk
    rcases hn : kn k pc with _ | c
    · rw [hn] at hk
      cases hk
    rw [hn] at hk
    try dsimp only at hk
    rcases hK : KT.1[c]? with _ | (o | ⟨t, m, fl⟩)
    · rw [hK] at hk
      cases hk
    · rw [hK] at hk
      cases hk
    rw [hK] at hk
    simp only [Bool.and_eq_true] at hk
    obtain ⟨⟨⟨⟨⟨⟨⟨⟨k0, k1⟩, k2⟩, k3⟩, k4⟩, k5, k5g⟩, k6, k7⟩, k8, k9⟩, k10⟩ := hk
    have k5g := of_decide_eq_true k5g
    have k1 := of_decide_eq_true k1
    have k2 := of_decide_eq_true k2
    have k3 : m ≤ 100000 := of_decide_eq_true k3
    have k5 := of_decide_eq_true k5
    obtain ⟨σ2, g0, g1, g2, g3⟩ := vMke_rel hat.2.2.2.1 k9 hK (vZero_cell (t := t) (m := m) (ty := vAdd ty H.length c) k4) k5 k5g
    have cc1 := cOk_spec (n := cn2 + 1) hat.2.2.2.1 (by rw [lAdd_ev, lK_ev]; have := hat.2.2.2.2.2.1; omega) k6
    have cc2 := cOk_spec (n := sn2 + m) hat.2.2.2.1 (by rw [lAdd_ev, lK_ev]; have := hat.2.2.2.2.2.2; omega) k7
    have hl := hat.1.1
    have hl2 := hat.1.2
    have g4 := vFr_spec g0 k8
    have hat2 : vAt KT W ty0 H0 B L (vMke KT c s) (lAdd cn (lK 1)) (lAdd sn (lK ((m : Int) : Int))) ρ σ2 (vAdd ty H.length c) (H ++ [.inr (t, List.replicate m (.inl 0))]) Lc (cn2 + 1) (sn2 + m) := by
      refine ⟨?_, vLe_tr hat.2.1 g3, vFrm_app hat.2.2.1 _, g1, g4.1 _ hat.2.2.2.2.1, ?_, ?_⟩
      · rw [List.length_append]
        show H.length + 1 ≤ B + (cn2 + 1) ∧ H.length + 1 ≤ 1000000
        omega
      · rw [lAdd_ev, lK_ev, g4.2.2.1]
        have := hat.2.2.2.2.2.1
        omega
      · rw [lAdd_ev, lK_ev, g4.2.2.2]
        have := hat.2.2.2.2.2.2
        omega
    obtain ⟨v, H2, h1, h2⟩ := ih hat2 k10 (vRetOk_ext g0 hret) (vCutOk_ext g0 hcut)
    rw [List.map_cons, g4.2.1, show cv ρ σ2 (.inr (some (sG s).length)) = .inr (some H.length) from congrArg (fun z => Sum.inr (some z)) g2] at h1
    obtain ⟨e1, e2⟩ := e
    have k1 : e2 = [] := k1
    have k2 : e1 = (m : Int) := k2
    subst k1
    subst k2
    have e3 : lEv ρ ((m : Int), []) = (m : Int) := Int.add_zero _
    have e4 : (Int32.ofInt (m : Int)).toInt = (m : Int) := ofInt_toInt (by omega) (by omega)
    have e5 : (Int32.ofInt (m : Int)).toNatClampNeg = m := by
      show (Int32.ofInt (m : Int)).toInt.toNat = m
      omega
    have e6 : ¬ Int32.ofInt (m : Int) < 0 := fun z => by
      have z2 : (Int32.ofInt (m : Int)).toInt < (0 : Int) := Int32.lt_iff_toInt_lt.mp z
      omega
    have e7 : (decide (¬ Int32.ofInt (m : Int) < 0) && decide ((Int32.ofInt (m : Int)).toNatClampNeg ≤ 100000) && decide (cn2 + 1 ≤ mMc q) && decide (sn2 + (Int32.ofInt (m : Int)).toNatClampNeg ≤ mMs q) && decide (H.length + 1 ≤ 1000000)) = true := by
      rw [e5, decide_eq_true e6, decide_eq_true k3, decide_eq_true cc1, decide_eq_true cc2, decide_eq_true (show H.length + 1 ≤ 1000000 by omega)]
      rfl
    rcases at_ with _ | _ | _ | _ | _ | _ | _ | _ <;> first | (cases k0; done) | skip
    all_goals
      have k0 := of_decide_eq_true k0
      have k0 : t = _ := k0
      subst k0
      first
      | exact ⟨v, H2, xT_newarrayI hq hc (e := Int32.ofInt (lEv ρ ((m : Int), []))) (by rw [e3]; exact e7) (by rw [e3, e5]; exact h1), h2⟩
      | exact ⟨v, H2, xT_newarrayZ hq hc (e := Int32.ofInt (lEv ρ ((m : Int), []))) (by rw [e3]; exact e7) (by rw [e3, e5]; exact h1), h2⟩
  case multianewarray ix dm =>
    try dsimp only at hk
    rcases S with _ | ⟨e2 | e2, _ | ⟨e1 | e1, r⟩⟩ <;> first | (cases hk; done) | skip
    try dsimp only at hk
    rcases hM : tMn tb (mO q) ix with _ | ⟨y2, y1⟩
    · rw [hM] at hk
      cases hk
    rw [hM] at hk
    try dsimp only at hk
    rcases hn : kn k pc with _ | c
    · rw [hn] at hk
      cases hk
    rw [hn] at hk
    try dsimp only at hk
    rcases hK : KT.1[c]? with _ | (o | ⟨t2, n1, fw⟩)
    · rw [hK] at hk
      cases hk
    · rw [hK] at hk
      cases hk
    rw [hK] at hk
    try dsimp only at hk
    rcases fw with _ | ⟨w | ⟨wn, c1⟩, _ | ⟨w2, fw⟩⟩ <;> first | (cases hk; done) | skip
    try dsimp only at hk
    rcases hP : KT.1[c1]? with _ | (o | ⟨t1, n2, fl⟩)
    · rw [hP] at hk
      cases hk
    · rw [hP] at hk
      cases hk
    rw [hP] at hk
    simp only [Bool.and_eq_true] at hk
    obtain ⟨⟨⟨⟨⟨⟨⟨⟨⟨⟨⟨⟨⟨⟨⟨⟨⟨⟨b1, b2⟩, b3⟩, b4⟩, b5⟩, b6⟩, b7⟩, b8⟩, b9⟩, b10⟩, b11⟩, b12⟩, b13⟩, b14⟩, b15⟩, b16⟩, k6, k7⟩, k8, k9⟩, k10⟩ := hk
    have b1 : dm = 2 := of_decide_eq_true b1
    have b2 : y2 = t2 := of_decide_eq_true b2
    have b3 : y1 = t1 := of_decide_eq_true b3
    have b4 : t1 < 2 := of_decide_eq_true b4
    have b7 : n1 ≤ 1000 := of_decide_eq_true b7
    have b8 : n2 ≤ 1000 := of_decide_eq_true b8
    have b9 : wn = false := of_decide_eq_true b9
    have b11 : kRaw KT c = none := by simpa using b11
    have b12 : kRaw KT c1 = none := by simpa using b12
    subst b2
    subst b3
    subst b9
    obtain ⟨σ2, g0, g1, g2, g3⟩ := vMul_rel hat.2.2.2.1 k9 hK hP b10 b11 b12 (of_decide_eq_true b13) (of_decide_eq_true b14) (of_decide_eq_true b15) (of_decide_eq_true b16)
    have cc1 := cOk_spec (n := cn2 + (1 + n1)) hat.2.2.2.1 (by rw [lAdd_ev, lK_ev]; have := hat.2.2.2.2.2.1; show ((cn2 + (1 + n1) : Nat) : Int) ≤ lEv ρ cn + ((1 + n1 : Nat) : Int); omega) k6
    have cc2 := cOk_spec (n := sn2 + (n1 + n1 * n2)) hat.2.2.2.1 (by rw [lAdd_ev, lK_ev]; have := hat.2.2.2.2.2.2; show ((sn2 + (n1 + n1 * n2) : Nat) : Int) ≤ lEv ρ sn + ((n1 + n1 * n2 : Nat) : Int); generalize n1 * n2 = z; omega) k7
    have hl := hat.1.1
    have hl2 := hat.1.2
    have g4 := vFr_spec g0 k8
    have hlen : (H ++ .inr (y2, x_refs (H.length + 1) n1) :: x_rows y1 (List.replicate n2 (.inl 0)) n1 : List (XC Int32)).length = H.length + 1 + n1 := by
      rw [List.length_append, List.length_cons, xrow_len]
      omega
    have hat2 : vAt KT W ty0 H0 B L (vMke KT c s) (lAdd cn (lK ((1 + n1 : Nat) : Int))) (lAdd sn (lK ((n1 + n1 * n2 : Nat) : Int))) ρ σ2 (vAdd2 ty H.length n1 c c1) (H ++ .inr (y2, x_refs (H.length + 1) n1) :: x_rows y1 (List.replicate n2 (.inl 0)) n1) Lc (cn2 + 1 + n1) (sn2 + n1 + n1 * n2) := by
      refine ⟨?_, vLe_tr hat.2.1 g3, vFrm_app hat.2.2.1 _, g1, g4.1 _ hat.2.2.2.2.1, ?_, ?_⟩
      · rw [hlen]
        omega
      · rw [lAdd_ev, lK_ev, g4.2.2.1]
        have := hat.2.2.2.2.2.1
        omega
      · rw [lAdd_ev, lK_ev, g4.2.2.2]
        have := hat.2.2.2.2.2.2
        generalize n1 * n2 = z
        omega
    obtain ⟨v, H2, h1, h2⟩ := ih hat2 k10 (vRetOk_ext g0 hret) (vCutOk_ext g0 hcut)
    rw [List.map_cons, g4.2.1, show cv ρ σ2 (.inr (some (sG s).length)) = .inr (some H.length) from congrArg (fun z => Sum.inr (some z)) g2] at h1
    have q1 : lEv ρ e1 = (n1 : Int) := by
      have z := congrArg (lEv ρ) (lEq_spec b5)
      rw [lK_ev] at z
      exact z
    have q2 : lEv ρ e2 = (n2 : Int) := by
      have z := congrArg (lEv ρ) (lEq_spec b6)
      rw [lK_ev] at z
      exact z
    have f1 : (Int32.ofInt (lEv ρ e1)).toNatClampNeg = n1 := by
      show (Int32.ofInt (lEv ρ e1)).toInt.toNat = n1
      rw [q1, ofInt_toInt (by omega) (by omega)]
      omega
    have f2 : (Int32.ofInt (lEv ρ e2)).toNatClampNeg = n2 := by
      show (Int32.ofInt (lEv ρ e2)).toInt.toNat = n2
      rw [q2, ofInt_toInt (by omega) (by omega)]
      omega
    have p1 : ¬ Int32.ofInt (lEv ρ e1) < 0 := fun z => by
      have z2 : (Int32.ofInt (lEv ρ e1)).toInt < (0 : Int) := Int32.lt_iff_toInt_lt.mp z
      rw [q1, ofInt_toInt (by omega) (by omega)] at z2
      omega
    have p2 : ¬ Int32.ofInt (lEv ρ e2) < 0 := fun z => by
      have z2 : (Int32.ofInt (lEv ρ e2)).toInt < (0 : Int) := Int32.lt_iff_toInt_lt.mp z
      rw [q2, ofInt_toInt (by omega) (by omega)] at z2
      omega
    refine ⟨v, H2, xT_multianewarray hq hc (e1 := Int32.ofInt (lEv ρ e1)) (e2 := Int32.ofInt (lEv ρ e2)) hM ?_ ?_, h2⟩
    · rw [f1, f2, decide_eq_true b1, decide_eq_true p1, decide_eq_true p2, decide_eq_true (show n1 ≤ 100000 by omega), decide_eq_true (show n2 ≤ 100000 by omega), decide_eq_true b4, decide_eq_true cc1, decide_eq_true cc2, decide_eq_true (show H.length + 1 + n1 ≤ 1000000 by omega)]
      rfl
    · rw [f1, f2]
      exact h1
  case invokevirtual ix =>
    try dsimp only at hk
    rcases hy : tCal tb (mO q) ix with _ | y
    · rw [hy] at hk
      cases hk
    rw [hy] at hk
    try dsimp only at hk
    rcases dp with _ | dp2
    · cases hk
    try dsimp only at hk
    rcases hm : tMth tb y.1 with _ | q2
    · rw [hm] at hk
      cases hk
    rw [hm] at hk
    try dsimp only at hk
    rcases hd : S.drop (mNp q2) with _ | ⟨z | (_ | a), r⟩
    · rw [hd] at hk
      cases hk
    · rw [hd] at hk
      cases hk
    · rw [hd] at hk
      cases hk
    rw [hd] at hk
    obtain ⟨hk3, hkB⟩ := Bool.and_eq_true_iff.mp hk
    simp only [Bool.and_eq_true] at hk3
    obtain ⟨⟨⟨⟨⟨k1, k2⟩, k3⟩, k4⟩, k5⟩, kc1, kc2⟩ := hk3
    obtain ⟨dq, rfl⟩ : ∃ dq, dp2' = dq + 1 := ⟨dp2' - 1, by omega⟩
    have hdq : dp2 ≤ dq := by omega
    have c1 := cOk_spec (n := cn2 + mMc q2) hat.2.2.2.1 (by rw [lAdd_ev, lK_ev]; have := hat.2.2.2.2.2.1; omega) kc1
    have c2 := cOk_spec (n := sn2 + mMs q2) hat.2.2.2.1 (by rw [lAdd_ev, lK_ev]; have := hat.2.2.2.2.2.2; omega) kc2
    have hargs : ((.inr (some a) :: (S.take (mNp q2)).reverse) : List vA).map (cv ρ σ) = (.inr (some (sR σ a)) :: ((S.map (cv ρ σ)).take (mNp q2)).reverse) := by
      rw [List.map_cons, List.map_reverse, List.map_take]
      rfl
    have hgo : ∀ {ρ3 : Nat → Int} {σ3 : Nat → Nat} {ty3 : Nat → Option Nat} {H1 : List (XC Int32)} {s3 : vSt} {R3 : List vA} {u : Option (XV Int32)}, vExt s s3 ρ ρ3 σ σ3 → vLe ty0 ty3 → vFrm W ty0 H0 H1 → vRel KT ρ3 σ3 ty3 H1 s3 → H1.length ≤ H.length + mMc q2 → vFrP L r cn sn ρ σ ρ3 σ3 → R3.map (cv ρ3 σ3) = x_push u (r.map (cv ρ σ)) → vChk KT tb tyl ov CT hs kn W f 0 (dp2 + 1) k (pc + 3) L R3 s3 (lAdd cn (lK (mMc q2 : Int))) (lAdd sn (lK (mMs q2 : Int))) cu ret = true → ∃ v H2, x_To tb tyl ot (dq + 1) k (pc + 3) Lc (x_push u (r.map (cv ρ σ))) H1 (cn2 + mMc q2) (sn2 + mMs q2) v H2 ∧ Post v H2 := by
      intro ρ3 σ3 ty3 H1 s3 R3 u e1 e2 e3 e4 e5 e6 e7 e8
      have hat3 : vAt KT W ty0 H0 B L s3 (lAdd cn (lK (mMc q2 : Int))) (lAdd sn (lK (mMs q2 : Int))) ρ3 σ3 ty3 H1 Lc (cn2 + mMc q2) (sn2 + mMs q2) := by
        refine ⟨by have := hat.1.1; omega, e2, e3, e4, e6.1 _ hat.2.2.2.2.1, ?_, ?_⟩
        · rw [lAdd_ev, lK_ev, e6.2.2.1]
          have := hat.2.2.2.2.2.1
          omega
        · rw [lAdd_ev, lK_ev, e6.2.2.2]
          have := hat.2.2.2.2.2.2
          omega
      obtain ⟨v, H2, h1, h2⟩ := ih hat3 e8 (vRetOk_ext e1 hret) (vCutOk_ext e1 hcut)
      rw [e7] at h1
      exact ⟨v, H2, h1, h2⟩
    have hcall : ∃ u H1 v H2, x_To tb tyl ot dq y.1 0 (x_en 0 (.inr (some (sR σ a)) :: ((S.map (cv ρ σ)).take (mNp q2)).reverse)) [] H 0 0 u H1 ∧ x_To tb tyl ot (dq + 1) k (pc + 3) Lc (x_push u (r.map (cv ρ σ))) H1 (cn2 + mMc q2) (sn2 + mMs q2) v H2 ∧ Post v H2 := by
      by_cases hC : (CT y.1).isEmpty = true
      · rw [if_pos hC] at hkB
        have hkB2 := Bool.and_eq_true_iff.mp hkB
        have hat2 : vAt KT W ty0 H0 H.length (x_en 0 (.inr (some a) :: (S.take (mNp q2)).reverse)) s (lK 0) (lK 0) ρ σ ty H (x_en 0 (((.inr (some a) :: (S.take (mNp q2)).reverse) : List vA).map (cv ρ σ))) 0 0 := ⟨⟨Nat.le_refl _, hat.1.2⟩, hat.2.1, hat.2.2.1, hat.2.2.2.1, vCov_en _ 0, Int.le_refl _, Int.le_refl _⟩
        obtain ⟨u, H1, h1, v, H2, h2, h3⟩ := ih0 0 hm hdq (show H.length + mMc q2 ≤ 1000000 by have := hat.1.1; omega) hat2 hkB2.2 (Post := fun u H1 => ∃ v H2, x_To tb tyl ot (dq + 1) k (pc + 3) Lc (x_push u (r.map (cv ρ σ))) H1 (cn2 + mMc q2) (sn2 + mMs q2) v H2 ∧ Post v H2) (fun ρ3 σ3 ty3 H1 s3 av e1 e2 e3 e4 e5 e6 => hgo e1 e2 e3 e4 e5 (vFr_spec e1 hkB2.1) (by
            rcases av with _ | av
            · exact (vFr_spec e1 hkB2.1).2.1
            · show cv ρ3 σ3 av :: List.map (cv ρ3 σ3) r = cv ρ3 σ3 av :: _
              rw [(vFr_spec e1 hkB2.1).2.1]) e6) (fun pc3 c3 hc3 => by cases hc3)
        rw [hargs] at h1
        exact ⟨u, H1, v, H2, h1, h2, h3⟩
      · rw [if_neg hC] at hkB
        have hkB2 := Bool.and_eq_true_iff.mp hkB
        obtain ⟨u, H1, ρ3, σ3, ty3, s3, S3, h1, e1, e4, e7, e2, e3, e5, e6⟩ := vCal_spec hm hdq hat.2.2.2.1 (show H.length + mMc q2 ≤ 1000000 by have := hat.1.1; omega) hat.2.1 hat.2.2.1 (fun c hc => hCT y.1 c hc) hkB2.2
        rw [hargs] at h1
        have e8 := vFr_spec e1 hkB2.1
        rcases S3 with _ | ⟨av, _ | ⟨bv, S3⟩⟩
        · rcases u with _ | u
          · obtain ⟨v, H2, h2, h3⟩ := hgo (u := none) e1 e2 e3 e4 e5 e8 e8.2.1 e6
            exact ⟨none, H1, v, H2, h1, h2, h3⟩
          · cases e7
        · rcases u with _ | u
          · cases e7
          · obtain ⟨v, H2, h2, h3⟩ := hgo (u := some u) (R3 := av :: r) e1 e2 e3 e4 e5 e8 (by
              have e9 : cv ρ3 σ3 av = u := (List.cons.inj e7).1
              rw [List.map_cons, e9, e8.2.1]
              rfl) e6
            exact ⟨some u, H1, v, H2, h1, h2, h3⟩
        · cases e6
    obtain ⟨u, H1, v, H2, h1, h2, h3⟩ := hcall
    refine ⟨v, H2, xT_invokevirtual hq hc (a := sR σ a) (u := u) (H1 := H1) (r := r.map (cv ρ σ)) (j := y.1) (so := y.2) hy hm (by rw [← List.map_drop, hd]; rfl) ?_ h1 h2, h3⟩
    rw [List.length_map, List.length_map, k1, k2, k4, k5, decide_eq_true c1, decide_eq_true c2, decide_eq_true (vCls_spec hov hat.2.2.2.1 hat.1.2 k3)]
    rfl
  case invokespecial ix =>
    try dsimp only at hk
    by_cases hb : tBi tb (mO q) ix = some 0
    · rw [if_pos hb] at hk
      rcases S with _ | ⟨a | (_ | a), r⟩ <;> first | (cases hk; done) | skip
      have hk2 := Bool.and_eq_true_iff.mp hk
      obtain ⟨v, H2, h1, h2⟩ := ih hat hk2.2 hret hcut
      exact ⟨v, H2, xT_objectInit hq hc (a := sR σ a) hb (by rw [List.length_map]; exact hk2.1) h1, h2⟩
    · rw [if_neg hb] at hk
      by_cases hn : tBi tb (mO q) ix = none
      rotate_left
      · rw [if_neg hn] at hk
        cases hk
      rw [if_pos hn] at hk
      try dsimp only at hk
      rcases hy : tCal tb (mO q) ix with _ | y
      · rw [hy] at hk
        cases hk
      rw [hy] at hk
      try dsimp only at hk
      rcases dp with _ | dp2
      · cases hk
      try dsimp only at hk
      rcases hm : tMth tb y.1 with _ | q2
      · rw [hm] at hk
        cases hk
      rw [hm] at hk
      try dsimp only at hk
      rcases hd : S.drop (mNp q2) with _ | ⟨z | (_ | a), r⟩
      · rw [hd] at hk
        cases hk
      · rw [hd] at hk
        cases hk
      · rw [hd] at hk
        cases hk
      rw [hd] at hk
      obtain ⟨hk3, hkB⟩ := Bool.and_eq_true_iff.mp hk
      simp only [Bool.and_eq_true] at hk3
      obtain ⟨⟨⟨⟨⟨k1, k2⟩, k3⟩, k4⟩, k5⟩, kc1, kc2⟩ := hk3
      obtain ⟨dq, rfl⟩ : ∃ dq, dp2' = dq + 1 := ⟨dp2' - 1, by omega⟩
      have hdq : dp2 ≤ dq := by omega
      have c1 := cOk_spec (n := cn2 + mMc q2) hat.2.2.2.1 (by rw [lAdd_ev, lK_ev]; have := hat.2.2.2.2.2.1; omega) kc1
      have c2 := cOk_spec (n := sn2 + mMs q2) hat.2.2.2.1 (by rw [lAdd_ev, lK_ev]; have := hat.2.2.2.2.2.2; omega) kc2
      have hargs : ((.inr (some a) :: (S.take (mNp q2)).reverse) : List vA).map (cv ρ σ) = (.inr (some (sR σ a)) :: ((S.map (cv ρ σ)).take (mNp q2)).reverse) := by
        rw [List.map_cons, List.map_reverse, List.map_take]
        rfl
      have hgo : ∀ {ρ3 : Nat → Int} {σ3 : Nat → Nat} {ty3 : Nat → Option Nat} {H1 : List (XC Int32)} {s3 : vSt} {R3 : List vA} {u : Option (XV Int32)}, vExt s s3 ρ ρ3 σ σ3 → vLe ty0 ty3 → vFrm W ty0 H0 H1 → vRel KT ρ3 σ3 ty3 H1 s3 → H1.length ≤ H.length + mMc q2 → vFrP L r cn sn ρ σ ρ3 σ3 → R3.map (cv ρ3 σ3) = x_push u (r.map (cv ρ σ)) → vChk KT tb tyl ov CT hs kn W f 0 (dp2 + 1) k (pc + 3) L R3 s3 (lAdd cn (lK (mMc q2 : Int))) (lAdd sn (lK (mMs q2 : Int))) cu ret = true → ∃ v H2, x_To tb tyl ot (dq + 1) k (pc + 3) Lc (x_push u (r.map (cv ρ σ))) H1 (cn2 + mMc q2) (sn2 + mMs q2) v H2 ∧ Post v H2 := by
        intro ρ3 σ3 ty3 H1 s3 R3 u e1 e2 e3 e4 e5 e6 e7 e8
        have hat3 : vAt KT W ty0 H0 B L s3 (lAdd cn (lK (mMc q2 : Int))) (lAdd sn (lK (mMs q2 : Int))) ρ3 σ3 ty3 H1 Lc (cn2 + mMc q2) (sn2 + mMs q2) := by
          refine ⟨by have := hat.1.1; omega, e2, e3, e4, e6.1 _ hat.2.2.2.2.1, ?_, ?_⟩
          · rw [lAdd_ev, lK_ev, e6.2.2.1]
            have := hat.2.2.2.2.2.1
            omega
          · rw [lAdd_ev, lK_ev, e6.2.2.2]
            have := hat.2.2.2.2.2.2
            omega
        obtain ⟨v, H2, h1, h2⟩ := ih hat3 e8 (vRetOk_ext e1 hret) (vCutOk_ext e1 hcut)
        rw [e7] at h1
        exact ⟨v, H2, h1, h2⟩
      have hcall : ∃ u H1 v H2, x_To tb tyl ot dq y.1 0 (x_en 0 (.inr (some (sR σ a)) :: ((S.map (cv ρ σ)).take (mNp q2)).reverse)) [] H 0 0 u H1 ∧ x_To tb tyl ot (dq + 1) k (pc + 3) Lc (x_push u (r.map (cv ρ σ))) H1 (cn2 + mMc q2) (sn2 + mMs q2) v H2 ∧ Post v H2 := by
        by_cases hC : (CT y.1).isEmpty = true
        · rw [if_pos hC] at hkB
          have hkB2 := Bool.and_eq_true_iff.mp hkB
          have hat2 : vAt KT W ty0 H0 H.length (x_en 0 (.inr (some a) :: (S.take (mNp q2)).reverse)) s (lK 0) (lK 0) ρ σ ty H (x_en 0 (((.inr (some a) :: (S.take (mNp q2)).reverse) : List vA).map (cv ρ σ))) 0 0 := ⟨⟨Nat.le_refl _, hat.1.2⟩, hat.2.1, hat.2.2.1, hat.2.2.2.1, vCov_en _ 0, Int.le_refl _, Int.le_refl _⟩
          obtain ⟨u, H1, h1, v, H2, h2, h3⟩ := ih0 0 hm hdq (show H.length + mMc q2 ≤ 1000000 by have := hat.1.1; omega) hat2 hkB2.2 (Post := fun u H1 => ∃ v H2, x_To tb tyl ot (dq + 1) k (pc + 3) Lc (x_push u (r.map (cv ρ σ))) H1 (cn2 + mMc q2) (sn2 + mMs q2) v H2 ∧ Post v H2) (fun ρ3 σ3 ty3 H1 s3 av e1 e2 e3 e4 e5 e6 => hgo e1 e2 e3 e4 e5 (vFr_spec e1 hkB2.1) (by
              rcases av with _ | av
              · exact (vFr_spec e1 hkB2.1).2.1
              · show cv ρ3 σ3 av :: List.map (cv ρ3 σ3) r = cv ρ3 σ3 av :: _
                rw [(vFr_spec e1 hkB2.1).2.1]) e6) (fun pc3 c3 hc3 => by cases hc3)
          rw [hargs] at h1
          exact ⟨u, H1, v, H2, h1, h2, h3⟩
        · rw [if_neg hC] at hkB
          have hkB2 := Bool.and_eq_true_iff.mp hkB
          obtain ⟨u, H1, ρ3, σ3, ty3, s3, S3, h1, e1, e4, e7, e2, e3, e5, e6⟩ := vCal_spec hm hdq hat.2.2.2.1 (show H.length + mMc q2 ≤ 1000000 by have := hat.1.1; omega) hat.2.1 hat.2.2.1 (fun c hc => hCT y.1 c hc) hkB2.2
          rw [hargs] at h1
          have e8 := vFr_spec e1 hkB2.1
          rcases S3 with _ | ⟨av, _ | ⟨bv, S3⟩⟩
          · rcases u with _ | u
            · obtain ⟨v, H2, h2, h3⟩ := hgo (u := none) e1 e2 e3 e4 e5 e8 e8.2.1 e6
              exact ⟨none, H1, v, H2, h1, h2, h3⟩
            · cases e7
          · rcases u with _ | u
            · cases e7
            · obtain ⟨v, H2, h2, h3⟩ := hgo (u := some u) (R3 := av :: r) e1 e2 e3 e4 e5 e8 (by
                have e9 : cv ρ3 σ3 av = u := (List.cons.inj e7).1
                rw [List.map_cons, e9, e8.2.1]
                rfl) e6
              exact ⟨some u, H1, v, H2, h1, h2, h3⟩
          · cases e6
      obtain ⟨u, H1, v, H2, h1, h2, h3⟩ := hcall
      refine ⟨v, H2, xT_invokespecial hq hc (a := sR σ a) (u := u) (H1 := H1) (r := r.map (cv ρ σ)) (j := y.1) (so := y.2) hn hy hm (by rw [← List.map_drop, hd]; rfl) ?_ h1 h2, h3⟩
      rw [List.length_map, List.length_map, k1, k2, k4, k5, decide_eq_true c1, decide_eq_true c2]
      rfl
  case invokestatic ix =>
    try dsimp only at hk
    rcases hy : tCal tb (mO q) ix with _ | y
    · rw [hy] at hk
      try dsimp only at hk
      by_cases hb : tBi tb (mO q) ix = some 1
      · rw [if_pos hb] at hk
        rcases S with _ | ⟨n | n, _ | ⟨d | d, _ | ⟨bd | (_ | bd), _ | ⟨e | e, _ | ⟨bs | (_ | bs), r⟩⟩⟩⟩⟩ <;> first | (cases hk; done) | skip
        have hk2 := Bool.and_eq_true_iff.mp hk
        have hk3 := Bool.and_eq_true_iff.mp hk2.1
        obtain ⟨us, vs, c, y1, y2, y4, y5, y6, y7⟩ := vCpQ_spec hat.2.2.2.1 hk3.2
        have g0 : vExt s (vCpy bd s) ρ ρ σ σ := vExt_eq ρ σ rfl rfl
        obtain ⟨v, H2, h1, h2⟩ := ih (vAt_set hat y5 y6 y2 ⟨rfl, fun z => by rw [y7] at z; cases z⟩) hk2.2 (vRetOk_ext g0 hret) (vCutOk_ext g0 hcut)
        refine ⟨v, H2, xT_arraycopy hq hc (n1 := Int32.ofInt (lEv ρ n)) (d1 := Int32.ofInt (lEv ρ d)) (s1 := Int32.ofInt (lEv ρ e)) (bd := sR σ bd) (bs := sR σ bs) hy hb y1 y2 ?_ h1, h2⟩
        rw [List.length_map]
        exact y4 _ hk3.1
      rw [if_neg hb] at hk
      clear hb
      by_cases hb : tBi tb (mO q) ix = some 2
      · rw [if_pos hb] at hk
        rcases S with _ | ⟨b | b, _ | ⟨a | a, r⟩⟩ <;> first | (cases hk; done) | skip
        have hk2 := Bool.and_eq_true_iff.mp hk
        have hk3 := Bool.and_eq_true_iff.mp hk2.1
        have hk4 := Bool.and_eq_true_iff.mp hk3.2
        have c1 := cOk_spec hat.2.2.2.1 hat.2.2.2.2.2.1 hk4.1
        have c2 := cOk_spec hat.2.2.2.1 hat.2.2.2.2.2.2 hk4.2
        obtain ⟨s2, g0, g1, g2⟩ := vBr_spec hat.2.2.2.1 hk2.2
        have x1 := vSame0_ext g1 ρ σ
        have hcnd : (decide ((r.map (cv ρ σ)).length ≤ 8) && decide (cn2 ≤ mMc q) && decide (sn2 ≤ mMs q)) = true := by
          rw [List.length_map, hk3.1, decide_eq_true c1, decide_eq_true c2]
          rfl
        rcases g2 with ⟨e, g2⟩ | ⟨e, g2⟩
        · obtain ⟨v, H2, h1, h2⟩ := ih (vAt_same hat g0) g2 (vRetOk_ext x1 hret) (vCutOk_ext x1 hcut)
          exact ⟨v, H2, xT_maxY hq hc (a := Int32.ofInt (lEv ρ a)) (b := Int32.ofInt (lEv ρ b)) hy hb hcnd e h1, h2⟩
        · obtain ⟨v, H2, h1, h2⟩ := ih (vAt_same hat g0) g2 (vRetOk_ext x1 hret) (vCutOk_ext x1 hcut)
          exact ⟨v, H2, xT_maxN hq hc (a := Int32.ofInt (lEv ρ a)) (b := Int32.ofInt (lEv ρ b)) hy hb hcnd e h1, h2⟩
      rw [if_neg hb] at hk
      clear hb
      by_cases hb : tBi tb (mO q) ix = some 3
      · rw [if_pos hb] at hk
        rcases S with _ | ⟨b | b, _ | ⟨a | a, r⟩⟩ <;> first | (cases hk; done) | skip
        have hk2 := Bool.and_eq_true_iff.mp hk
        have hk3 := Bool.and_eq_true_iff.mp hk2.1
        have hk4 := Bool.and_eq_true_iff.mp hk3.2
        have c1 := cOk_spec hat.2.2.2.1 hat.2.2.2.2.2.1 hk4.1
        have c2 := cOk_spec hat.2.2.2.1 hat.2.2.2.2.2.2 hk4.2
        obtain ⟨s2, g0, g1, g2⟩ := vBr_spec hat.2.2.2.1 hk2.2
        have x1 := vSame0_ext g1 ρ σ
        have hcnd : (decide ((r.map (cv ρ σ)).length ≤ 8) && decide (cn2 ≤ mMc q) && decide (sn2 ≤ mMs q)) = true := by
          rw [List.length_map, hk3.1, decide_eq_true c1, decide_eq_true c2]
          rfl
        rcases g2 with ⟨e, g2⟩ | ⟨e, g2⟩
        · obtain ⟨v, H2, h1, h2⟩ := ih (vAt_same hat g0) g2 (vRetOk_ext x1 hret) (vCutOk_ext x1 hcut)
          exact ⟨v, H2, xT_minY hq hc (a := Int32.ofInt (lEv ρ a)) (b := Int32.ofInt (lEv ρ b)) hy hb hcnd e h1, h2⟩
        · obtain ⟨v, H2, h1, h2⟩ := ih (vAt_same hat g0) g2 (vRetOk_ext x1 hret) (vCutOk_ext x1 hcut)
          exact ⟨v, H2, xT_minN hq hc (a := Int32.ofInt (lEv ρ a)) (b := Int32.ofInt (lEv ρ b)) hy hb hcnd e h1, h2⟩
      rw [if_neg hb] at hk
      clear hb
      by_cases hb : tBi tb (mO q) ix = some 4
      · rw [if_pos hb] at hk
        rcases S with _ | ⟨a | a, r⟩ <;> first | (cases hk; done) | skip
        have hk2 := Bool.and_eq_true_iff.mp hk
        have hk3 := Bool.and_eq_true_iff.mp hk2.1
        have hk4 := Bool.and_eq_true_iff.mp hk3.2
        have c1 := cOk_spec hat.2.2.2.1 hat.2.2.2.2.2.1 hk4.1
        have c2 := cOk_spec hat.2.2.2.1 hat.2.2.2.2.2.2 hk4.2
        obtain ⟨s2, g0, g1, g2⟩ := vBr_spec hat.2.2.2.1 hk2.2
        rw [lK_ev] at g2
        have x1 := vSame0_ext g1 ρ σ
        have hcnd : (decide ((r.map (cv ρ σ)).length ≤ 8) && decide (cn2 ≤ mMc q) && decide (sn2 ≤ mMs q)) = true := by
          rw [List.length_map, hk3.1, decide_eq_true c1, decide_eq_true c2]
          rfl
        rcases g2 with ⟨e, g2⟩ | ⟨e, g2⟩
        · obtain ⟨v, H2, h1, h2⟩ := ih (vAt_same hat g0) g2 (vRetOk_ext x1 hret) (vCutOk_ext x1 hcut)
          exact ⟨v, H2, xT_absY hq hc (a := Int32.ofInt (lEv ρ a)) hy hb hcnd e h1, h2⟩
        · obtain ⟨v, H2, h1, h2⟩ := ih (vAt_same hat g0) g2 (vRetOk_ext x1 hret) (vCutOk_ext x1 hcut)
          refine ⟨v, H2, xT_absN hq hc (a := Int32.ofInt (lEv ρ a)) hy hb hcnd e ?_, h2⟩
          rw [List.map_cons, show cv ρ σ (.inl (lSub (lK 0) a)) = .inl (x_bin 1 0 (Int32.ofInt (lEv ρ a))) from congrArg Sum.inl (by rw [lSub_ev, lK_ev, Int32.ofInt_sub]; rfl)] at h1
          exact h1
      rw [if_neg hb] at hk
      cases hk
    rw [hy] at hk
    try dsimp only at hk
    rcases dp with _ | dp2
    · cases hk
    try dsimp only at hk
    rcases hm : tMth tb y.1 with _ | q2
    · rw [hm] at hk
      cases hk
    rw [hm] at hk
    obtain ⟨hk3, hkB⟩ := Bool.and_eq_true_iff.mp hk
    simp only [Bool.and_eq_true] at hk3
    obtain ⟨⟨⟨⟨k1, k2⟩, k4⟩, k5⟩, kc1, kc2⟩ := hk3
    obtain ⟨dq, rfl⟩ : ∃ dq, dp2' = dq + 1 := ⟨dp2' - 1, by omega⟩
    have hdq : dp2 ≤ dq := by omega
    have c1 := cOk_spec (n := cn2 + mMc q2) hat.2.2.2.1 (by rw [lAdd_ev, lK_ev]; have := hat.2.2.2.2.2.1; omega) kc1
    have c2 := cOk_spec (n := sn2 + mMs q2) hat.2.2.2.1 (by rw [lAdd_ev, lK_ev]; have := hat.2.2.2.2.2.2; omega) kc2
    have hargs : ((S.take (mNp q2)).reverse : List vA).map (cv ρ σ) = ((S.map (cv ρ σ)).take (mNp q2)).reverse := by
      rw [List.map_reverse, List.map_take]
    have hgo : ∀ {ρ3 : Nat → Int} {σ3 : Nat → Nat} {ty3 : Nat → Option Nat} {H1 : List (XC Int32)} {s3 : vSt} {R3 : List vA} {u : Option (XV Int32)}, vExt s s3 ρ ρ3 σ σ3 → vLe ty0 ty3 → vFrm W ty0 H0 H1 → vRel KT ρ3 σ3 ty3 H1 s3 → H1.length ≤ H.length + mMc q2 → vFrP L (S.drop (mNp q2)) cn sn ρ σ ρ3 σ3 → R3.map (cv ρ3 σ3) = x_push u ((S.drop (mNp q2)).map (cv ρ σ)) → vChk KT tb tyl ov CT hs kn W f 0 (dp2 + 1) k (pc + 3) L R3 s3 (lAdd cn (lK (mMc q2 : Int))) (lAdd sn (lK (mMs q2 : Int))) cu ret = true → ∃ v H2, x_To tb tyl ot (dq + 1) k (pc + 3) Lc (x_push u ((S.drop (mNp q2)).map (cv ρ σ))) H1 (cn2 + mMc q2) (sn2 + mMs q2) v H2 ∧ Post v H2 := by
      intro ρ3 σ3 ty3 H1 s3 R3 u e1 e2 e3 e4 e5 e6 e7 e8
      have hat3 : vAt KT W ty0 H0 B L s3 (lAdd cn (lK (mMc q2 : Int))) (lAdd sn (lK (mMs q2 : Int))) ρ3 σ3 ty3 H1 Lc (cn2 + mMc q2) (sn2 + mMs q2) := by
        refine ⟨by have := hat.1.1; omega, e2, e3, e4, e6.1 _ hat.2.2.2.2.1, ?_, ?_⟩
        · rw [lAdd_ev, lK_ev, e6.2.2.1]
          have := hat.2.2.2.2.2.1
          omega
        · rw [lAdd_ev, lK_ev, e6.2.2.2]
          have := hat.2.2.2.2.2.2
          omega
      obtain ⟨v, H2, h1, h2⟩ := ih hat3 e8 (vRetOk_ext e1 hret) (vCutOk_ext e1 hcut)
      rw [e7] at h1
      exact ⟨v, H2, h1, h2⟩
    have hcall : ∃ u H1 v H2, x_To tb tyl ot dq y.1 0 (x_en 0 ((S.map (cv ρ σ)).take (mNp q2)).reverse) [] H 0 0 u H1 ∧ x_To tb tyl ot (dq + 1) k (pc + 3) Lc (x_push u ((S.drop (mNp q2)).map (cv ρ σ))) H1 (cn2 + mMc q2) (sn2 + mMs q2) v H2 ∧ Post v H2 := by
      by_cases hC : (CT y.1).isEmpty = true
      · rw [if_pos hC] at hkB
        have hkB2 := Bool.and_eq_true_iff.mp hkB
        have hat2 : vAt KT W ty0 H0 H.length (x_en 0 (S.take (mNp q2)).reverse) s (lK 0) (lK 0) ρ σ ty H (x_en 0 (((S.take (mNp q2)).reverse : List vA).map (cv ρ σ))) 0 0 := ⟨⟨Nat.le_refl _, hat.1.2⟩, hat.2.1, hat.2.2.1, hat.2.2.2.1, vCov_en _ 0, Int.le_refl _, Int.le_refl _⟩
        obtain ⟨u, H1, h1, v, H2, h2, h3⟩ := ih0 0 hm hdq (show H.length + mMc q2 ≤ 1000000 by have := hat.1.1; omega) hat2 hkB2.2 (Post := fun u H1 => ∃ v H2, x_To tb tyl ot (dq + 1) k (pc + 3) Lc (x_push u ((S.drop (mNp q2)).map (cv ρ σ))) H1 (cn2 + mMc q2) (sn2 + mMs q2) v H2 ∧ Post v H2) (fun ρ3 σ3 ty3 H1 s3 av e1 e2 e3 e4 e5 e6 => hgo e1 e2 e3 e4 e5 (vFr_spec e1 hkB2.1) (by
            rcases av with _ | av
            · exact (vFr_spec e1 hkB2.1).2.1
            · show cv ρ3 σ3 av :: List.map (cv ρ3 σ3) (S.drop (mNp q2)) = cv ρ3 σ3 av :: _
              rw [(vFr_spec e1 hkB2.1).2.1]) e6) (fun pc3 c3 hc3 => by cases hc3)
        rw [hargs] at h1
        exact ⟨u, H1, v, H2, h1, h2, h3⟩
      · rw [if_neg hC] at hkB
        have hkB2 := Bool.and_eq_true_iff.mp hkB
        obtain ⟨u, H1, ρ3, σ3, ty3, s3, S3, h1, e1, e4, e7, e2, e3, e5, e6⟩ := vCal_spec hm hdq hat.2.2.2.1 (show H.length + mMc q2 ≤ 1000000 by have := hat.1.1; omega) hat.2.1 hat.2.2.1 (fun c hc => hCT y.1 c hc) hkB2.2
        rw [hargs] at h1
        have e8 := vFr_spec e1 hkB2.1
        rcases S3 with _ | ⟨av, _ | ⟨bv, S3⟩⟩
        · rcases u with _ | u
          · obtain ⟨v, H2, h2, h3⟩ := hgo (u := none) e1 e2 e3 e4 e5 e8 e8.2.1 e6
            exact ⟨none, H1, v, H2, h1, h2, h3⟩
          · cases e7
        · rcases u with _ | u
          · cases e7
          · obtain ⟨v, H2, h2, h3⟩ := hgo (u := some u) (R3 := av :: (S.drop (mNp q2))) e1 e2 e3 e4 e5 e8 (by
              have e9 : cv ρ3 σ3 av = u := (List.cons.inj e7).1
              rw [List.map_cons, e9, e8.2.1]
              rfl) e6
            exact ⟨some u, H1, v, H2, h1, h2, h3⟩
        · cases e6
    obtain ⟨u, H1, v, H2, h1, h2, h3⟩ := hcall
    refine ⟨v, H2, xT_invokestatic hq hc (u := u) (H1 := H1) (r := []) (j := y.1) (so := y.2) hy hm ?_ h1 ?_, h3⟩
    · rw [← List.map_drop, List.length_map, List.length_map, k1, k2, k4, k5, decide_eq_true c1, decide_eq_true c2]
      rfl
    · rw [← List.map_drop]
      exact h2
  all_goals (cases hk; done)
end XChk
end
section
/-! A method whose ways are checked from its entry and from each note keeps its contract. -/
section XMeth
def uGet : List (Nat × List vAn) → Nat → Option (List vAn)
  | [], _ => none
  | u :: r, pc => if u.1 = pc then some u.2 else uGet r pc
theorem uGet_spec {pc : Nat} {As : List vAn} : ∀ {l : List (Nat × List vAn)}, uGet l pc = some As → (pc, As) ∈ l
  | [], h => by cases h
  | u :: r, h => by
    unfold uGet at h
    split at h
    · rename_i e
      cases h
      rw [← e]
      exact List.mem_cons_self
    · exact List.mem_cons_of_mem _ (uGet_spec h)
/-- zeros of a row -/
def vZr : XV Int32 → Bool
  | .inl x => decide (x = 0)
  | _ => false
def zCell : Option (XC Int32) → Nat
  | some (.inr o) => o.2.countP vZr
  | _ => 0
def zMu (σ : Nat → Nat) (H : List (XC Int32)) : List Nat → Nat
  | [] => 0
  | z :: r => zCell H[sR σ z]? + zMu σ H r
theorem zCnt : ∀ (a b : List (XV Int32)), b.length = a.length → (∀ j : Nat, b[j]? = a[j]? ∨ (j < a.length ∧ b[j]? = some (.inl 1))) → b.countP vZr ≤ a.countP vZr ∧ ((∃ j : Nat, a[j]? = some (.inl 0) ∧ b[j]? = some (.inl 1)) → b.countP vZr < a.countP vZr)
  | [], [], _, _ => ⟨Nat.le_refl _, fun ⟨j, h, _⟩ => by cases h⟩
  | [], _ :: _, h, _ => by cases h
  | _ :: _, [], h, _ => by cases h
  | x :: a, y :: b, h, g => by
    obtain ⟨i1, i2⟩ := zCnt a b (Nat.succ.inj h) (fun j => by
      rcases g (j + 1) with g1 | ⟨g1, g2⟩
      · exact Or.inl g1
      · exact Or.inr ⟨Nat.lt_of_succ_lt_succ g1, g2⟩)
    have h0 : y = x ∨ y = .inl 1 := by
      rcases g 0 with g1 | ⟨-, g2⟩
      · exact Or.inl (Option.some.inj g1)
      · exact Or.inr (Option.some.inj g2)
    have hz : vZr (.inl 1) = false := by decide
    have hz0 : vZr (.inl 0) = true := by decide
    rw [List.countP_cons, List.countP_cons]
    constructor
    · rcases h0 with rfl | rfl
      · omega
      · rw [hz, if_neg (by decide)]
        omega
    · rintro ⟨j, j1, j2⟩
      rcases j with _ | j
      · cases j1
        cases j2
        rw [hz, hz0, if_neg (by decide), if_pos rfl]
        omega
      · have := i2 ⟨j, j1, j2⟩
        rcases h0 with rfl | rfl
        · omega
        · rw [hz, if_neg (by decide)]
          omega
theorem zMon {m : Bool} {a b : List (XV Int32)} (h : vMonV m a b) : b.countP vZr ≤ a.countP vZr ∧ ((∃ j : Nat, a[j]? = some (.inl 0) ∧ b[j]? = some (.inl 1)) → b.countP vZr < a.countP vZr) := by
  unfold vMonV at h
  split at h
  · exact zCnt a b h.1 h.2
  · subst h
    refine ⟨Nat.le_refl _, fun ⟨j, h1, h2⟩ => ?_⟩
    rw [h1] at h2
    exact absurd (Option.some.inj h2) (by decide)
/-- a row has changed from 0 to 1 since the note -/
def vFlp (A : vAn) (s : vSt) : Bool := (aF A).any (fun f => match f.2.1, f.2.2 with
  | .inr e, .inl l => lEq l (lK 0) && decide (f.1 ∈ aZs A) && lBd (aI A).length e && (match fGet f.1 (.inr e) (sF s) with
    | some (.inl x) => lEq x (lK 1)
    | _ => false)
  | _, _ => false)
/-- a note is met, and its rank is less than that of A -/
def vHit (n0 m0 : Nat) (W : List (Nat × Nat)) (rk : Option vAn) (L : List (Nat × vA)) (S : List vA) (s : vSt) (cn sn : lT) (B : vAn) : Bool := match vMt B n0 m0 L S s with
  | none => false
  | some p => lGe (sI s) (sC s) (lSub (lSb p.1 (aCn B)) cn) && lGe (sI s) (sC s) (lSub (lSb p.1 (aSn B)) sn) && (match rk with
    | none => true
    | some A => decide (aPh B < aPh A) || (decide (aPh B = aPh A) && decide (aCf B = aCf A) && decide ((aZs B).map (tSb p.2) = aZs A) && (aZs A).all (fun z => match (aG A)[z]? with
        | some c => !(wIn W c 0)
        | none => false) && lGe (sI s) (sC s) (lSb p.1 (aRk B)) && lGe3 (sI s) (sC s) (lSub (lSub (lAdd (aRk A) (lK (if vFlp A s then (aCf A : Int) else 0))) (lSb p.1 (aRk B))) (lK 1))))
def vCuF (c : vCt) (W : List (Nat × Nat)) (rk : Option vAn) : vCu := fun pc => match uGet (cU c) pc with
  | none => none
  | some As => some (fun L S s cn sn => As.any (vHit (aI (cE c)).length (aG (cE c)).length W rk L S s cn sn))
def vRtF (c : vCt) (s : vSt) (av : Option vA) : Bool := (cX c).any (fun X => (vMt X (aI (cE c)).length (aG (cE c)).length [] av.toList s).isSome)
/-- what may be written from a note on -/
def aW (c : vCt) (A : vAn) : List (Nat × Nat) := match aWn A with
  | none => cW c
  | some W => W
def vMeth (KT : vKT) (tb : XT) (tyl : List FieldType) (ov : vOt) (CT : Nat → List vCt) (hs : Nat → Nat → Option (List vHn)) (kn : Nat → Nat → Option Nat) (f k : Nat) (c : vCt) : Bool :=
  decide ((aG (cE c)).length < 1000000) && vChk KT tb tyl ov CT hs kn (cW c) f 0 (cD c) k 0 (aL (cE c)) [] (aSt (cE c)) (lK 0) (lK 0) (vCuF c (cW c) none) (vRtF c) &&
  (cU c).all (fun u => u.2.all (fun A => decide ((aI (cE c)).length ≤ (aI A).length) && decide ((aG (cE c)).length ≤ (aG A).length) && lBd (aI A).length (aRk A) && wSub (aW c A) (cW c) && decide ((aG A).length < 1000000) && vChk KT tb tyl ov CT hs kn (aW c A) f 1 (cD c) k u.1 (aL A) (aS A) (aSt A) (aCn A) (aSn A) (vCuF c (aW c A) (some A)) (vRtF c)))
theorem zMu_le {W : List (Nat × Nat)} {tyS : Nat → Option Nat} {HS H2 : List (XC Int32)} {σ : Nat → Nat} {G : List Nat} {KT : vKT} (hf : vFrm W tyS HS H2) (hs : vSym tyS σ G) (hp : vHp (fun c => KT.1[c]?) tyS HS) : ∀ zs : List Nat, (∀ z ∈ zs, ∃ c, G[z]? = some c ∧ wIn W c 0 = false) → zMu σ H2 zs ≤ zMu σ HS zs ∧ ((∃ (z : Nat) (j t : Nat) (vs : List (XV Int32)) (t2 : Nat) (us : List (XV Int32)), z ∈ zs ∧ HS[sR σ z]? = some (.inr (t, vs)) ∧ vs[j]? = some (.inl 0) ∧ H2[sR σ z]? = some (.inr (t2, us)) ∧ us[j]? = some (.inl 1)) → zMu σ H2 zs < zMu σ HS zs)
  | [], _ => ⟨Nat.le_refl _, fun ⟨z, _, _, _, _, _, hz, _⟩ => by cases hz⟩
  | z :: r, hz => by
    obtain ⟨i1, i2⟩ := zMu_le (KT := KT) hf hs hp r (fun y hy => hz y (List.mem_cons_of_mem _ hy))
    obtain ⟨c, hc, hw⟩ := hz z List.mem_cons_self
    have hty := hs z c hc
    obtain ⟨kd, z1, -, q2, -⟩ := hp _ _ hty
    obtain ⟨z2, q4, q5⟩ := hf _ _ _ hty q2
    have one : zCell H2[sR σ z]? ≤ zCell HS[sR σ z]? ∧ ((∃ (j t : Nat) (vs : List (XV Int32)) (t2 : Nat) (us : List (XV Int32)), HS[sR σ z]? = some (.inr (t, vs)) ∧ vs[j]? = some (.inl 0) ∧ H2[sR σ z]? = some (.inr (t2, us)) ∧ us[j]? = some (.inl 1)) → zCell H2[sR σ z]? < zCell HS[sR σ z]?) := by
      rw [q2, q4]
      rcases z1 with o | ⟨t, vs⟩ <;> rcases z2 with o2 | ⟨t2, us⟩
      · refine ⟨Nat.le_refl _, fun ⟨_, _, _, _, _, e, _⟩ => by cases e⟩
      · exact q5.elim
      · exact q5.elim
      · have hm := zMon (q5.2 hw)
        refine ⟨hm.1, fun ⟨j, t3, vs3, t4, us4, e1, e2, e3, e4⟩ => ?_⟩
        cases e1
        cases e3
        exact hm.2 ⟨j, e2, e4⟩
    constructor
    · show zCell _ + _ ≤ zCell _ + _
      omega
    · rintro ⟨y, j, t, vs, t2, us, hy, e1, e2, e3, e4⟩
      show zCell _ + _ < zCell _ + _
      rcases List.mem_cons.mp hy with rfl | hy
      · have := one.2 ⟨j, t, vs, t2, us, e1, e2, e3, e4⟩
        omega
      · have := i2 ⟨y, j, t, vs, t2, us, hy, e1, e2, e3, e4⟩
        omega
theorem zMu_map (σ : Nat → Nat) (τ : List Nat) (H : List (XC Int32)) : ∀ zs : List Nat, zMu (sO σ τ) H zs = zMu σ H (zs.map (tSb τ))
  | [] => rfl
  | z :: r => by
    show zCell H[sR (sO σ τ) z]? + zMu (sO σ τ) H r = zCell H[sR σ (tSb τ z)]? + zMu σ H (r.map (tSb τ))
    rw [tSb_spec, zMu_map σ τ H r]
theorem zMu_ext {σ σ2 : Nat → Nat} {m : Nat} (h : ∀ i, i < m → σ2 i = σ i) (H : List (XC Int32)) : ∀ zs : List Nat, (∀ z ∈ zs, z < m) → zMu σ2 H zs = zMu σ H zs
  | [], _ => rfl
  | z :: r, hz => by
    show zCell H[sR σ2 z]? + zMu σ2 H r = zCell H[sR σ z]? + zMu σ H r
    rw [sR_spec h (by rw [decide_eq_true (hz z List.mem_cons_self)]; rfl), zMu_ext h H r (fun y hy => hz y (List.mem_cons_of_mem _ hy))]
def vMea (A : vAn) (ρ : Nat → Int) (σ : Nat → Nat) (H : List (XC Int32)) : Nat := aCf A * zMu σ H (aZs A) + (lEv ρ (aRk A)).toNat
theorem vRank {KT : vKT} {W : List (Nat × Nat)} {tyS ty2 : Nat → Option Nat} {HS H2 : List (XC Int32)} {A B : vAn} {ρ ρ2 : Nat → Int} {σ σ2 : Nat → Nat} {s : vSt} {p : List lT × List Nat} (h : vRel KT ρ σ tyS HS (aSt A)) (hf : vFrm W tyS HS H2) (h2 : vRel KT ρ2 σ2 ty2 H2 s) (hx : vExt (aSt A) s ρ ρ2 σ σ2) (hb : lBd (aI A).length (aRk A) = true) (hG : (aG A).length < 1000000)
    (hk : (decide (aPh B = aPh A) && decide (aCf B = aCf A) && decide ((aZs B).map (tSb p.2) = aZs A) && (aZs A).all (fun z => match (aG A)[z]? with
        | some c => !(wIn W c 0)
        | none => false) && lGe (sI s) (sC s) (lSb p.1 (aRk B)) && lGe3 (sI s) (sC s) (lSub (lSub (lAdd (aRk A) (lK (if vFlp A s then (aCf A : Int) else 0))) (lSb p.1 (aRk B))) (lK 1))) = true) :
    aPh B = aPh A ∧ vMea B (rO ρ2 p.1) (sO σ2 p.2) H2 < vMea A ρ σ HS := by
  simp only [Bool.and_eq_true] at hk
  obtain ⟨⟨⟨⟨⟨k1, k2⟩, k3⟩, k4⟩, k5⟩, k6⟩ := hk
  have k2 := of_decide_eq_true k2
  have k3 := of_decide_eq_true k3
  have k5 := lGe_spec h2.2.2.2.1 h2.2.2.2.2.1 k5
  have k6 := lGe3_spec h2.2.2.2.1 h2.2.2.2.2.1 k6
  rw [lSub_ev, lSub_ev, lAdd_ev, lK_ev, lK_ev, lSb_ev, lBd_spec hx.1 hb] at k6
  rw [lSb_ev] at k5
  have hzs : ∀ z ∈ aZs A, ∃ c, (aG A)[z]? = some c ∧ wIn W c 0 = false := fun z hz => by
    have q := List.all_eq_true.mp k4 z hz
    split at q
    · rename_i c hc
      exact ⟨c, hc, by simpa using q⟩
    · cases q
  have hlt : ∀ z ∈ aZs A, z < (aG A).length := fun z hz => by
    obtain ⟨c, hc, -⟩ := hzs z hz
    exact (List.getElem?_eq_some_iff.mp hc).1
  obtain ⟨m1, m2⟩ := zMu_le (KT := KT) hf h.2.1 h.1 (aZs A) hzs
  have e1 : zMu (sO σ2 p.2) H2 (aZs B) = zMu σ H2 (aZs A) := by
    rw [zMu_map, k3, zMu_ext hx.2.1 H2 (aZs A) hlt]
  refine ⟨of_decide_eq_true k1, ?_⟩
  unfold vMea
  rw [e1, k2]
  by_cases hfl : vFlp A s = true
  · rw [if_pos hfl] at k6
    obtain ⟨f, hF, hq⟩ := List.any_eq_true.mp hfl
    obtain ⟨i, key, v⟩ := f
    dsimp only at hq
    split at hq
    rotate_left
    · cases hq
    rename_i e l
    simp only [Bool.and_eq_true] at hq
    obtain ⟨⟨⟨q1, q2⟩, q3⟩, q4⟩ := hq
    have q2 : i ∈ aZs A := of_decide_eq_true q2
    split at q4
    rotate_left
    · cases q4
    rename_i x hxx
    obtain ⟨t, vs, y1, y0, y2⟩ := h.2.2.1 _ hF
    have y1 : HS[sR σ i]? = some (.inr (t, vs)) := y1
    have y2 : vs[(lEv ρ e).toNat]? = some (.inl (Int32.ofInt (lEv ρ l))) := y2
    rw [lEq_spec q1, lK_ev] at y2
    obtain ⟨t2, us, w1, w0, w2⟩ := fGet_spec h2.2.2.1 hxx
    have w1 : H2[sR σ2 i]? = some (.inr (t2, us)) := w1
    have w2 : us[(lEv ρ2 e).toNat]? = some (.inl (Int32.ofInt (lEv ρ2 x))) := w2
    rw [lEq_spec q4, lK_ev, lBd_spec hx.1 q3] at w2
    rw [sR_spec hx.2.1 (by rw [decide_eq_true (show i < (sG (aSt A)).length from hlt i q2)]; rfl)] at w1
    have := m2 ⟨i, _, t, vs, t2, us, q2, y1, y2, w1, w2⟩
    have hmul : aCf A * zMu σ H2 (aZs A) + aCf A ≤ aCf A * zMu σ HS (aZs A) := by
      have := Nat.mul_le_mul_left (aCf A) (show zMu σ H2 (aZs A) + 1 ≤ zMu σ HS (aZs A) from this)
      rw [Nat.mul_add, Nat.mul_one] at this
      exact this
    omega
  · rw [if_neg hfl] at k6
    have hmul := Nat.mul_le_mul_left (aCf A) m1
    omega
theorem vMeth_spec {KT : vKT} {tb : XT} {tyl : List FieldType} {ot : XO Int32} {ov : vOt} (hov : vOvLe ov (o4 ot)) {CT : Nat → List vCt} {hs : Nat → Nat → Option (List vHn)} {kn : Nat → Nat → Option Nat} (hCT : ∀ j c, c ∈ CT j → vCtSem KT tb tyl ot j c) {f k : Nat} {c : vCt} (hk : vMeth KT tb tyl ov CT hs kn f k c = true) : vCtSem KT tb tyl ot k c := by
  intro dp q ρ0 σ0 ty0 H0 Lc0 hdp hq h0 hc0 hlen
  unfold vMeth at hk
  simp only [Bool.and_eq_true] at hk
  obtain ⟨⟨km, ke⟩, ku⟩ := hk
  have km := of_decide_eq_true km
  have noraw : ∀ {A : vAn} {ρ : Nat → Int} {σ : Nat → Nat} {ty : Nat → Option Nat} {H : List (XC Int32)}, vRel KT ρ σ ty H (aSt A) → ∀ a c, ty a = some c → kRaw KT c = none := fun h a c ha => by
    rcases hR : kRaw KT c with _ | d
    · rfl
    · obtain ⟨i, hi, -⟩ := h.2.2.2.2.2.2.2 a c d ha hR
      cases hi
  have hret : ∀ (W : List (Nat × Nat)) (tyS : Nat → Option Nat) (HS : List (XC Int32)) (s : vSt) (ρ : Nat → Int) (σ : Nat → Nat), wSub W (cW c) = true ∨ W = cW c → vLe ty0 tyS → vFrm (cW c) ty0 H0 HS → (aI (cE c)).length ≤ sN s → (aG (cE c)).length ≤ (sG s).length → (∀ i, i < (aI (cE c)).length → ρ i = ρ0 i) → (∀ i, i < (aG (cE c)).length → σ i = σ0 i) → vRetOk KT W tyS HS (H0.length + mMc q) s ρ σ (vRtF c) (vPost KT (cW c) (cX c) (aI (cE c)).length (aG (cE c)).length (mMc q) ρ0 σ0 ty0 H0) := by
    intro W tyS HS s ρ σ hW hl hfS hn hm a1 a2 ρ2 σ2 ty2 H2 s2 av e1 e2 e3 e4 e5 e6
    have hW2 : ∀ c0 k0, wIn W c0 k0 = true → wIn (cW c) c0 k0 = true := by
      rcases hW with hW | rfl
      · exact wSub_spec hW
      · exact fun _ _ h => h
    obtain ⟨X, hX, hx⟩ := List.any_eq_true.mp e6
    rcases hp : vMt X (aI (cE c)).length (aG (cE c)).length [] av.toList s2 with _ | p
    · rw [hp] at hx
      cases hx
    obtain ⟨g1, -, g3, -, -, -, g7, g8⟩ := vMt_spec e4 hp km
    refine ⟨X, hX, rO ρ2 p.1, sO σ2 p.2, ty2, fun i hi => ?_, fun i hi => ?_, g1, ?_, vLe_tr hl e2, vFrm_tr hfS hl hW2 e3, e5⟩
    · rw [g7 i hi, e1.1 i (Nat.lt_of_lt_of_le hi hn), a1 i hi]
    · rw [g8 i hi, e1.2.1 i (Nat.lt_of_lt_of_le hi hm), a2 i hi]
    · rw [← g3]
      rcases av with _ | av <;> rfl
  have hcut : ∀ (W : List (Nat × Nat)) (tyS : Nat → Option Nat) (HS : List (XC Int32)) (rk : Option vAn) (s : vSt) (ρ : Nat → Int) (σ : Nat → Nat), wSub W (cW c) = true ∨ W = cW c → vLe ty0 tyS → vFrm (cW c) ty0 H0 HS → (aI (cE c)).length ≤ sN s → (aG (cE c)).length ≤ (sG s).length → (∀ i, i < (aI (cE c)).length → ρ i = ρ0 i) → (∀ i, i < (aG (cE c)).length → σ i = σ0 i) → (∀ A, rk = some A → s = aSt A ∧ vRel KT ρ σ tyS HS (aSt A) ∧ lBd (aI A).length (aRk A) = true ∧ (aG A).length < 1000000) →
      (∀ (pc : Nat) (B : vAn) (As : List vAn) (ρ2 : Nat → Int) (σ2 : Nat → Nat) (ty : Nat → Option Nat) (H : List (XC Int32)) (Lc : List (Nat × XV Int32)) (cn2 sn2 : Nat), (pc, As) ∈ cU c → B ∈ As → (∀ A, rk = some A → aPh B < aPh A ∨ (aPh B = aPh A ∧ vMea B ρ2 σ2 H < vMea A ρ σ HS)) → (∀ i, i < (aI (cE c)).length → ρ2 i = ρ0 i) → (∀ i, i < (aG (cE c)).length → σ2 i = σ0 i) → vAt KT (cW c) ty0 H0 H0.length (aL B) (aSt B) (aCn B) (aSn B) ρ2 σ2 ty H Lc cn2 sn2 → ∃ v H2, x_To tb tyl ot dp k pc Lc ((aS B).map (cv ρ2 σ2)) H cn2 sn2 v H2 ∧ vPost KT (cW c) (cX c) (aI (cE c)).length (aG (cE c)).length (mMc q) ρ0 σ0 ty0 H0 v H2) →
      vCutOk KT tb tyl ot W tyS HS H0.length dp k s ρ σ (vCuF c W rk) (vPost KT (cW c) (cX c) (aI (cE c)).length (aG (cE c)).length (mMc q) ρ0 σ0 ty0 H0) := by
    intro W tyS HS rk s ρ σ hW hl hfS hn hm a1 a2 hA0 hgo pc g hg ρ2 σ2 ty2 H2 s2 L S cn sn Lc cn2 sn2 e1 e2 e3
    have hW2 : ∀ c0 k0, wIn W c0 k0 = true → wIn (cW c) c0 k0 = true := by
      rcases hW with hW | rfl
      · exact wSub_spec hW
      · exact fun _ _ h => h
    unfold vCuF at hg
    split at hg
    · cases hg
    rename_i As hAs
    cases hg
    obtain ⟨B, hB, hh⟩ := List.any_eq_true.mp e3
    unfold vHit at hh
    split at hh
    · cases hh
    rename_i p hp
    simp only [Bool.and_eq_true] at hh
    obtain ⟨⟨k1, k2⟩, k3⟩ := hh
    have k1 := lGe_spec e2.2.2.2.1.2.2.2.1 e2.2.2.2.1.2.2.2.2.1 k1
    have k2 := lGe_spec e2.2.2.2.1.2.2.2.1 e2.2.2.2.1.2.2.2.2.1 k2
    rw [lSub_ev, lSb_ev] at k1 k2
    obtain ⟨g1, g2, g3, -, -, -, g7, g8⟩ := vMt_spec e2.2.2.2.1 hp km
    have hrk : ∀ A, rk = some A → aPh B < aPh A ∨ (aPh B = aPh A ∧ vMea B (rO ρ2 p.1) (sO σ2 p.2) H2 < vMea A ρ σ HS) := by
      intro A hA
      subst hA
      obtain ⟨z1, z2, z3, z4⟩ := hA0 A rfl
      subst z1
      rcases Bool.or_eq_true_iff.mp k3 with k3 | k3
      · exact Or.inl (of_decide_eq_true k3)
      · exact Or.inr (vRank z2 e2.2.2.1 e2.2.2.2.1 e1 z3 z4 k3)
    obtain ⟨v, H3, h1, h2⟩ := hgo pc B As (rO ρ2 p.1) (sO σ2 p.2) ty2 H2 Lc cn2 sn2 (uGet_spec hAs) hB hrk (fun i hi => by rw [g7 i hi, e1.1 i (Nat.lt_of_lt_of_le hi hn), a1 i hi]) (fun i hi => by rw [g8 i hi, e1.2.1 i (Nat.lt_of_lt_of_le hi hm), a2 i hi])
      ⟨e2.1, vLe_tr hl e2.2.1, vFrm_tr hfS hl hW2 e2.2.2.1, g1, g2 _ e2.2.2.2.2.1, by have := e2.2.2.2.2.2.1; omega, by have := e2.2.2.2.2.2.2; omega⟩
    rw [← g3] at h1
    exact ⟨v, H3, h1, h2⟩
  have hgo : ∀ (P N pc : Nat) (A : vAn) (As : List vAn) (ρ : Nat → Int) (σ : Nat → Nat) (ty : Nat → Option Nat) (H : List (XC Int32)) (Lc : List (Nat × XV Int32)) (cn2 sn2 : Nat), (pc, As) ∈ cU c → A ∈ As → aPh A < P → vMea A ρ σ H < N → (∀ i, i < (aI (cE c)).length → ρ i = ρ0 i) → (∀ i, i < (aG (cE c)).length → σ i = σ0 i) → vAt KT (cW c) ty0 H0 H0.length (aL A) (aSt A) (aCn A) (aSn A) ρ σ ty H Lc cn2 sn2 → ∃ v H2, x_To tb tyl ot dp k pc Lc ((aS A).map (cv ρ σ)) H cn2 sn2 v H2 ∧ vPost KT (cW c) (cX c) (aI (cE c)).length (aG (cE c)).length (mMc q) ρ0 σ0 ty0 H0 v H2 := by
    intro P
    induction P with
    | zero => intro N pc A As ρ σ ty H Lc cn2 sn2 _ _ h; omega
    | succ P ihP =>
    intro N
    induction N with
    | zero => intro pc A As ρ σ ty H Lc cn2 sn2 _ _ _ h; omega
    | succ N ih =>
      intro pc A As ρ σ ty H Lc cn2 sn2 hu hA hP hN a1 a2 hat
      have k1 := List.all_eq_true.mp (List.all_eq_true.mp ku (pc, As) hu) A hA
      simp only [Bool.and_eq_true] at k1
      obtain ⟨⟨⟨⟨⟨k2, k3⟩, hb⟩, kw⟩, kg⟩, k4⟩ := k1
      have k2 := of_decide_eq_true k2
      have k3 := of_decide_eq_true k3
      have kg := of_decide_eq_true kg
      refine vChk_spec hov hCT (noraw hat.2.2.2.1) f 1 hq hdp hlen (⟨hat.1, vLe_rf ty, vFrm_rf _ _ _, hat.2.2.2.1, hat.2.2.2.2⟩ : vAt KT (aW c A) ty H H0.length (aL A) (aSt A) (aCn A) (aSn A) ρ σ ty H Lc cn2 sn2) k4 (hret (aW c A) ty H (aSt A) ρ σ (Or.inl kw) hat.2.1 hat.2.2.1 k2 k3 a1 a2) (hcut (aW c A) ty H (some A) (aSt A) ρ σ (Or.inl kw) hat.2.1 hat.2.2.1 k2 k3 a1 a2 (fun A2 hA2 => by cases hA2; exact ⟨rfl, hat.2.2.2.1, hb, kg⟩) (fun pc2 B As2 ρ2 σ2 ty2 H2 Lc2 cn3 sn3 b1 b2 b3 b4 b5 b6 => ?_))
      rcases b3 A rfl with b3 | ⟨b3, b7⟩
      · exact ihP (vMea B ρ2 σ2 H2 + 1) pc2 B As2 ρ2 σ2 ty2 H2 Lc2 cn3 sn3 b1 b2 (by omega) (Nat.lt_succ_self _) b4 b5 b6
      · exact ih pc2 B As2 ρ2 σ2 ty2 H2 Lc2 cn3 sn3 b1 b2 (by omega) (by omega) b4 b5 b6
  have hat0 : vAt KT (cW c) ty0 H0 H0.length (aL (cE c)) (aSt (cE c)) (lK 0) (lK 0) ρ0 σ0 ty0 H0 Lc0 0 0 := ⟨⟨Nat.le_refl _, by omega⟩, vLe_rf ty0, vFrm_rf _ _ _, h0, hc0, Int.le_refl _, Int.le_refl _⟩
  exact vChk_spec hov hCT (noraw h0) f 0 hq hdp hlen hat0 ke (hret (cW c) ty0 H0 (aSt (cE c)) ρ0 σ0 (Or.inr rfl) (vLe_rf ty0) (vFrm_rf _ _ _) (Nat.le_refl _) (Nat.le_refl _) (fun _ _ => rfl) (fun _ _ => rfl)) (hcut (cW c) ty0 H0 none (aSt (cE c)) ρ0 σ0 (Or.inr rfl) (vLe_rf ty0) (vFrm_rf _ _ _) (Nat.le_refl _) (Nat.le_refl _) (fun _ _ => rfl) (fun _ _ => rfl) (fun A hA => by cases hA) (fun pc2 B As2 ρ2 σ2 ty2 H2 Lc2 cn3 sn3 b1 b2 _ b4 b5 b6 => hgo (aPh B + 1) _ pc2 B As2 ρ2 σ2 ty2 H2 Lc2 cn3 sn3 b1 b2 (Nat.lt_succ_self _) (Nat.lt_succ_self _) b4 b5 b6))
/-- all contracts, by the order of the calls -/
theorem vAll_spec {KT : vKT} {tb : XT} {tyl : List FieldType} {ot : XO Int32} {CT : Nat → List vCt} {hs : Nat → Nat → Option (List vHn)} {kn : Nat → Nat → Option Nat} (rank : Nat → Nat) (f : Nat) (ovf : Nat → vOt) (hov : ∀ j, vOvLe (ovf j) (o4 ot)) (h : ∀ j, (CT j).all (vMeth KT tb tyl (ovf j) (fun i => if rank i < rank j then CT i else []) hs kn f j) = true) : ∀ j c, c ∈ CT j → vCtSem KT tb tyl ot j c := by
  have go : ∀ (n j : Nat) (c : vCt), rank j < n → c ∈ CT j → vCtSem KT tb tyl ot j c := by
    intro n
    induction n with
    | zero => intro j c hj; omega
    | succ n ih =>
      intro j c hj hc
      refine vMeth_spec (hov j) (fun i c2 hc2 => ?_) (List.all_eq_true.mp (h j) c hc)
      have hc2 : c2 ∈ (if rank i < rank j then CT i else []) := hc2
      split at hc2
      · exact ih i c2 (by omega) hc2
      · cases hc2
  exact fun j c hc => go (rank j + 1) j c (Nat.lt_succ_self _) hc
end XMeth
end
section
/-! Constructors, run straight at known ints. -/
section XStart
theorem xT_anewarray {tb : XT} {tyl : List FieldType} {ot : XO Int32} {dp k pc n cn sn : Nat} {q : XM} {L : List (Nat × XV Int32)} {S : List (XV Int32)} {H H2 : List (XC Int32)} {v : Option (XV Int32)} {ix t : Nat} {e : Int32} (hq : tMth tb k = some q) (hi : mC q pc = some (.anewarray ix, n)) (h1 : tAn tb (mO q) ix = some t) (h2 : (decide (¬ e < 0) && decide (e.toNatClampNeg ≤ 100000) && decide (cn + 1 ≤ mMc q) && decide (sn + e.toNatClampNeg ≤ mMs q) && decide (H.length + 1 ≤ 1000000)) = true) (h : x_To tb tyl ot dp k (pc + 3) L (.inr (some H.length) :: S) (H ++ [.inr (t, List.replicate e.toNatClampNeg (.inr none))]) (cn + 1) (sn + e.toNatClampNeg) v H2) : x_To tb tyl ot dp k pc L (.inl e :: S) H cn sn v H2 := x_toG (fun D H0 ht => ⟨zTr_app ht _, fun f w post => by
  rw [zMx_app H0 _ ht]
  simp only [x_run, zMx_len, hq, hi, h1, dC_kst, h2, if_true]⟩) h
/-- what a constructor comes to -/
def cGo (tb : XT) (tyl : List FieldType) : Nat → Nat → Nat → Nat → List (Nat × XV Int32) → List (XV Int32) → List (XC Int32) → Nat → Nat → Option (List (XC Int32))
  | 0, _, _, _, _, _, _, _, _ => none
  | f + 1, dp, k, pc, L, S, H, cn, sn =>
    match tMth tb k with
    | none => none
    | some q =>
      match mC q pc with
      | none => none
      | some (i, _) =>
        match i with
        | .aload_n j => match x_lk L j with
          | some (.inr a) => cGo tb tyl f dp k (pc + 1) L (.inr a :: S) H cn sn
          | _ => none
        | .iload_n j => match x_lk L j with
          | some (.inl a) => cGo tb tyl f dp k (pc + 1) L (.inl a :: S) H cn sn
          | _ => none
        | .iconst x => cGo tb tyl f dp k (pc + 1) L (.inl (Int32.ofInt x) :: S) H cn sn
        | .bipush x => cGo tb tyl f dp k (pc + 2) L (.inl (Int8.ofInt x).toInt32 :: S) H cn sn
        | .sipush x => cGo tb tyl f dp k (pc + 3) L (.inl (Int16.ofInt x).toInt32 :: S) H cn sn
        | .dup => match S with
          | a :: r => cGo tb tyl f dp k (pc + 1) L (a :: a :: r) H cn sn
          | _ => none
        | .imul => match S with
          | .inl b :: .inl a :: r => cGo tb tyl f dp k (pc + 1) L (.inl (a * b) :: r) H cn sn
          | _ => none
        | .goto x => match x_jp pc x with
          | some t => cGo tb tyl f dp k t L S H cn sn
          | none => none
        | .ifCond c x => match S, x_jp pc x with
          | .inl a :: r, some t => if x_cmp (x_cn c) a 0 = true then cGo tb tyl f dp k t L r H cn sn else cGo tb tyl f dp k (pc + 3) L r H cn sn
          | _, _ => none
        | .getfield ix => match S with
          | .inr (some a) :: r => if 1000000 < a then none else match tFld tb (mO q) ix with
            | some (ci, j) => match H[a]? with
              | some (.inl (c2, fs)) => if c2 = ci then (match fs[j]? with
                | some u => cGo tb tyl f dp k (pc + 3) L (u :: r) H cn sn
                | none => none) else none
              | _ => none
            | none => none
          | _ => none
        | .putfield ix => match S, tFld tb (mO q) ix with
          | u :: .inr (some a) :: r, some (ci, j) => match H[a]? with
            | some (.inl (c2, fs)) => match (tFt tb ci)[j]? with
              | some ty => if (decide (c2 = ci) && x_fit dC ty.1 u && decide (j < fs.length) && (!ty.2 || (mI q && decide (mRc q = ci)))) = true then cGo tb tyl f dp k (pc + 3) L r (H.set a (.inl (c2, fs.set j u))) cn sn else none
              | none => none
            | _ => none
          | _, _ => none
        | .iastore => match S with
          | .inl x :: .inl e :: .inr (some a) :: r => match H[a]? with
            | some (.inr (t, vs)) => if t = 0 ∧ (decide (e < 0) || decide (vs.length ≤ e.toNatClampNeg)) = false then cGo tb tyl f dp k (pc + 1) L r (H.set a (.inr (0, vs.set e.toNatClampNeg (.inl x)))) cn sn else none
            | _ => none
          | _ => none
        | .aastore => match S with
          | .inr (some u) :: .inl e :: .inr (some a) :: r => match H[a]?, H[u]? with
            | some (.inr (t, vs)), some (.inl (ci, _)) => match tyl[t]? with
              | some (.object C) => if decide (C = tNm tb ci) = true ∧ (decide (e < 0) || decide (vs.length ≤ e.toNatClampNeg)) = false then cGo tb tyl f dp k (pc + 1) L r (H.set a (.inr (t, vs.set e.toNatClampNeg (.inr (some u))))) cn sn else none
              | _ => none
            | _, _ => none
          | _ => none
        | .new ix => match tNw tb (mO q) ix with
          | some ci => if (decide (cn + 1 ≤ mMc q) && decide (sn + (tFt tb ci).length ≤ mMs q) && decide (H.length + 1 ≤ 1000000)) = true then cGo tb tyl f dp k (pc + 3) L (.inr (some H.length) :: S) (H ++ [.inl (ci, (tFt tb ci).map (fun t => x_def dC t.1))]) (cn + 1) (sn + (tFt tb ci).length) else none
          | none => none
        | .newarray ty => match ty, S with
          | .int, .inl e :: r => if (decide (¬ e < 0) && decide (e.toNatClampNeg ≤ 100000) && decide (cn + 1 ≤ mMc q) && decide (sn + e.toNatClampNeg ≤ mMs q) && decide (H.length + 1 ≤ 1000000)) = true then cGo tb tyl f dp k (pc + 2) L (.inr (some H.length) :: r) (H ++ [.inr (0, List.replicate e.toNatClampNeg (.inl 0))]) (cn + 1) (sn + e.toNatClampNeg) else none
          | .boolean, .inl e :: r => if (decide (¬ e < 0) && decide (e.toNatClampNeg ≤ 100000) && decide (cn + 1 ≤ mMc q) && decide (sn + e.toNatClampNeg ≤ mMs q) && decide (H.length + 1 ≤ 1000000)) = true then cGo tb tyl f dp k (pc + 2) L (.inr (some H.length) :: r) (H ++ [.inr (1, List.replicate e.toNatClampNeg (.inl 0))]) (cn + 1) (sn + e.toNatClampNeg) else none
          | _, _ => none
        | .anewarray ix => match S, tAn tb (mO q) ix with
          | .inl e :: r, some t => if (decide (¬ e < 0) && decide (e.toNatClampNeg ≤ 100000) && decide (cn + 1 ≤ mMc q) && decide (sn + e.toNatClampNeg ≤ mMs q) && decide (H.length + 1 ≤ 1000000)) = true then cGo tb tyl f dp k (pc + 3) L (.inr (some H.length) :: r) (H ++ [.inr (t, List.replicate e.toNatClampNeg (.inr none))]) (cn + 1) (sn + e.toNatClampNeg) else none
          | _, _ => none
        | .multianewarray ix dm => match S, tMn tb (mO q) ix with
          | .inl e2 :: .inl e1 :: r, some (t2, t1) => if (decide (dm = 2) && decide (¬ e1 < 0) && decide (¬ e2 < 0) && decide (e1.toNatClampNeg ≤ 100000) && decide (e2.toNatClampNeg ≤ 100000) && decide (t1 < 2) && decide (cn + (1 + e1.toNatClampNeg) ≤ mMc q) && decide (sn + (e1.toNatClampNeg + e1.toNatClampNeg * e2.toNatClampNeg) ≤ mMs q) && decide (H.length + 1 + e1.toNatClampNeg ≤ 1000000)) = true then
              cGo tb tyl f dp k (pc + 4) L (.inr (some H.length) :: r) (H ++ .inr (t2, x_refs (H.length + 1) e1.toNatClampNeg) :: x_rows t1 (List.replicate e2.toNatClampNeg (.inl 0)) e1.toNatClampNeg) (cn + 1 + e1.toNatClampNeg) (sn + e1.toNatClampNeg + e1.toNatClampNeg * e2.toNatClampNeg) else none
          | _, _ => none
        | .invokespecial ix => match tBi tb (mO q) ix with
          | some b => if b = 0 then (match S with
            | .inr (some _) :: r => if decide (r.length ≤ 8) = true then cGo tb tyl f dp k (pc + 3) L r H cn sn else none
            | _ => none) else none
          | none => match dp, tCal tb (mO q) ix with
            | dp2 + 1, some (j, so) => match tMth tb j with
              | some q2 => match S.drop (mNp q2) with
                | .inr (some a) :: r => if (decide (mNp q2 + 1 ≤ S.length) && decide (so = 1) && decide (r.length ≤ 8) && decide (mNp q2 + 1 ≤ mL q2) && decide (cn + mMc q2 ≤ mMc q) && decide (sn + mMs q2 ≤ mMs q)) = true then
                    (match cGo tb tyl f dp2 j 0 (x_en 0 (.inr (some a) :: (S.take (mNp q2)).reverse)) [] H 0 0 with
                    | some H1 => cGo tb tyl f (dp2 + 1) k (pc + 3) L r H1 (cn + mMc q2) (sn + mMs q2)
                    | none => none) else none
                | _ => none
              | none => none
            | _, _ => none
        | .return_ => match S with
          | [] => if (decide (mR q = none) && decide (cn ≤ mMc q) && decide (sn ≤ mMs q)) = true then some H else none
          | _ => none
        | _ => none
set_option maxHeartbeats 2000000 in
theorem cGo_spec {tb : XT} {tyl : List FieldType} {ot : XO Int32} : ∀ (f : Nat) {dp k pc : Nat} {L : List (Nat × XV Int32)} {S : List (XV Int32)} {H H2 : List (XC Int32)} {cn sn : Nat}, cGo tb tyl f dp k pc L S H cn sn = some H2 → x_To tb tyl ot dp k pc L S H cn sn none H2 := by
  intro f
  induction f with
  | zero =>
    intro dp k pc L S H H2 cn sn h
    cases h
  | succ f ih =>
  intro dp k pc L S H H2 cn sn h
  rw [cGo.eq_def] at h
  try dsimp only at h
  rcases hq : tMth tb k with _ | q
  · rw [hq] at h
    cases h
  rw [hq] at h
  try dsimp only at h
  rcases hc : mC q pc with _ | ⟨i, n⟩
  · rw [hc] at h
    cases h
  rw [hc] at h
  try dsimp only at h
  cases i
  case aload_n j =>
    try dsimp only at h
    rcases h1 : x_lk L ↑j with _ | (a | a)
    · rw [h1] at h
      cases h
    · rw [h1] at h
      cases h
    · rw [h1] at h
      exact xT_aload_n hq hc h1 (ih h)
  case iload_n j =>
    try dsimp only at h
    rcases h1 : x_lk L ↑j with _ | (a | a)
    · rw [h1] at h
      cases h
    · rw [h1] at h
      exact xT_iload_n hq hc h1 (ih h)
    · rw [h1] at h
      cases h
  case iconst x => exact xT_iconst hq hc (ih h)
  case bipush x => exact xT_bipush hq hc (ih h)
  case sipush x => exact xT_sipush hq hc (ih h)
  case dup =>
    rcases S with _ | ⟨a, r⟩
    · cases h
    · exact xT_dup hq hc (ih h)
  case imul =>
    rcases S with _ | ⟨b | b, _ | ⟨a | a, r⟩⟩ <;> first | (cases h; done) | skip
    exact xT_imul hq hc (ih h)
  case goto x =>
    try dsimp only at h
    rcases h1 : x_jp pc x with _ | t
    · rw [h1] at h
      cases h
    · rw [h1] at h
      exact xT_goto hq hc h1 (ih h)
  case ifCond c x =>
    try dsimp only at h
    rcases S with _ | ⟨a | a, r⟩ <;> first | (cases h; done) | skip
    rcases h1 : x_jp pc x with _ | t
    · rw [h1] at h
      cases h
    rw [h1] at h
    try dsimp only at h
    rcases h2 : x_cmp (x_cn c) a 0 with _ | _
    · rw [h2, if_neg (by decide)] at h
      exact xT_ifCondN hq hc h1 h2 (ih h)
    · rw [h2, if_pos rfl] at h
      exact xT_ifCondY hq hc h1 h2 (ih h)
  case getfield ix =>
    try dsimp only at h
    rcases S with _ | ⟨a | (_ | a), r⟩ <;> first | (cases h; done) | skip
    try dsimp only at h
    by_cases h0 : 1000000 < a
    · rw [if_pos h0] at h
      cases h
    rw [if_neg h0] at h
    rcases h1 : tFld tb (mO q) ix with _ | ⟨ci, j⟩
    · rw [h1] at h
      cases h
    rw [h1] at h
    try dsimp only at h
    rcases h2 : H[a]? with _ | (⟨c2, fs⟩ | z)
    · rw [h2] at h
      cases h
    · rw [h2] at h
      try dsimp only at h
      by_cases h3 : c2 = ci
      · rw [if_pos h3] at h
        rcases h4 : fs[j]? with _ | u
        · rw [h4] at h
          cases h
        · rw [h4] at h
          exact xT_getfield hq hc h0 h1 h2 h3 h4 (ih h)
      · rw [if_neg h3] at h
        cases h
    · rw [h2] at h
      cases h
  case putfield ix =>
    try dsimp only at h
    rcases S with _ | ⟨u, _ | ⟨a | (_ | a), r⟩⟩ <;> first | (cases h; done) | skip
    rcases h1 : tFld tb (mO q) ix with _ | ⟨ci, j⟩
    · rw [h1] at h
      cases h
    rw [h1] at h
    try dsimp only at h
    rcases h2 : H[a]? with _ | (⟨c2, fs⟩ | z)
    · rw [h2] at h
      cases h
    · rw [h2] at h
      try dsimp only at h
      rcases h3 : (tFt tb ci)[j]? with _ | ty
      · rw [h3] at h
        cases h
      rw [h3] at h
      try dsimp only at h
      split at h
      · rename_i h4
        exact xT_putfield hq hc h1 h2 h3 h4 (ih h)
      · cases h
    · rw [h2] at h
      cases h
  case iastore =>
    try dsimp only at h
    rcases S with _ | ⟨x | x, _ | ⟨e | e, _ | ⟨a | (_ | a), r⟩⟩⟩ <;> first | (cases h; done) | skip
    try dsimp only at h
    rcases h2 : H[a]? with _ | (z | ⟨t, vs⟩)
    · rw [h2] at h
      cases h
    · rw [h2] at h
      cases h
    · rw [h2] at h
      try dsimp only at h
      split at h
      · rename_i h4
        obtain ⟨rfl, h4⟩ := h4
        exact xT_iastore hq hc h2 h4 (ih h)
      · cases h
  case aastore =>
    try dsimp only at h
    rcases S with _ | ⟨u | (_ | u), _ | ⟨e | e, _ | ⟨a | (_ | a), r⟩⟩⟩ <;> first | (cases h; done) | skip
    try dsimp only at h
    rcases h2 : H[a]? with _ | (z | ⟨t, vs⟩)
    · rw [h2] at h
      cases h
    · rw [h2] at h
      cases h
    rw [h2] at h
    rcases h3 : H[u]? with _ | (⟨ci, gs⟩ | z)
    · rw [h3] at h
      cases h
    rotate_left
    · rw [h3] at h
      cases h
    rw [h3] at h
    try dsimp only at h
    rcases h4 : tyl[t]? with _ | ty
    · rw [h4] at h
      cases h
    rw [h4] at h
    cases ty <;> first | (cases h; done) | skip
    try dsimp only at h
    split at h
    · rename_i h5
      exact xT_aastore hq hc h2 h3 h4 h5.1 h5.2 (ih h)
    · cases h
  case new ix =>
    try dsimp only at h
    rcases h1 : tNw tb (mO q) ix with _ | ci
    · rw [h1] at h
      cases h
    rw [h1] at h
    try dsimp only at h
    split at h
    · rename_i h2
      exact xT_new hq hc h1 h2 (ih h)
    · cases h
  case newarray ty =>
    try dsimp only at h
    cases ty <;> first | (cases h; done) | skip
    all_goals
      rcases S with _ | ⟨e | e, r⟩ <;> first | (cases h; done) | skip
      try dsimp only at h
      split at h
      · rename_i h2
        first | exact xT_newarrayI hq hc h2 (ih h) | exact xT_newarrayZ hq hc h2 (ih h)
      · cases h
  case anewarray ix =>
    try dsimp only at h
    rcases S with _ | ⟨e | e, r⟩ <;> first | (cases h; done) | skip
    rcases h1 : tAn tb (mO q) ix with _ | t
    · rw [h1] at h
      cases h
    rw [h1] at h
    try dsimp only at h
    split at h
    · rename_i h2
      exact xT_anewarray hq hc h1 h2 (ih h)
    · cases h
  case multianewarray ix dm =>
    try dsimp only at h
    rcases S with _ | ⟨e2 | e2, _ | ⟨e1 | e1, r⟩⟩ <;> first | (cases h; done) | skip
    rcases h1 : tMn tb (mO q) ix with _ | ⟨t2, t1⟩
    · rw [h1] at h
      cases h
    rw [h1] at h
    try dsimp only at h
    split at h
    · rename_i h2
      exact xT_multianewarray hq hc h1 h2 (ih h)
    · cases h
  case invokespecial ix =>
    try dsimp only at h
    rcases h1 : tBi tb (mO q) ix with _ | b
    · rw [h1] at h
      try dsimp only at h
      rcases dp with _ | dp2
      · cases h
      try dsimp only at h
      rcases h2 : tCal tb (mO q) ix with _ | ⟨j, so⟩
      · rw [h2] at h
        cases h
      rw [h2] at h
      try dsimp only at h
      rcases h3 : tMth tb j with _ | q2
      · rw [h3] at h
        cases h
      rw [h3] at h
      try dsimp only at h
      rcases h4 : S.drop (mNp q2) with _ | ⟨a | (_ | a), r⟩
      · rw [h4] at h
        cases h
      · rw [h4] at h
        cases h
      · rw [h4] at h
        cases h
      rw [h4] at h
      try dsimp only at h
      split at h
      rotate_left
      · cases h
      rename_i h5
      rcases h6 : cGo tb tyl f dp2 j 0 (x_en 0 (.inr (some a) :: (S.take (mNp q2)).reverse)) [] H 0 0 with _ | H1
      · rw [h6] at h
        cases h
      rw [h6] at h
      exact xT_invokespecial hq hc h1 h2 h3 h4 h5 (ih h6) (ih h)
    · rw [h1] at h
      try dsimp only at h
      split at h
      rotate_left
      · cases h
      rename_i h0
      subst h0
      rcases S with _ | ⟨a | (_ | a), r⟩ <;> first | (cases h; done) | skip
      try dsimp only at h
      split at h
      · rename_i h5
        exact xT_objectInit hq hc h1 h5 (ih h)
      · cases h
  case return_ =>
    try dsimp only at h
    rcases S with _ | ⟨a, r⟩
    rotate_left
    · cases h
    try dsimp only at h
    split at h
    · rename_i h5
      cases h
      exact xT_return_ hq hc h5
    · cases h
  all_goals (cases h; done)
end XStart
end
section
/-! The law's loop, checked: where it asks the script, a way is cut and goes on. -/
section XLaw
/-- the head of the loop comes to what is asked -/
def vHdOk (KT : vKT) (tb : XT) (tyl : List FieldType) (ot : XO Int32) (W : List (Nat × Nat)) (ty0 : Nat → Option Nat) (H0 : List (XC Int32)) (B dp hd : Nat) (s : vSt) (ρ : Nat → Int) (σ : Nat → Nat) (g0 : List (Nat × vA) → List vA → vSt → lT → lT → Bool) (Post : Option (XV Int32) → List (XC Int32) → Prop) : Prop :=
  ∀ ρ2 σ2 ty2 H2 s2 L S cn sn Lc cn2 sn2, vExt s s2 ρ ρ2 σ σ2 → vAt KT W ty0 H0 B L s2 cn sn ρ2 σ2 ty2 H2 Lc cn2 sn2 → g0 L S s2 cn sn = true → ∃ v H3, x_To tb tyl ot dp 0 hd Lc (S.map (cv ρ2 σ2)) H2 cn2 sn2 v H3 ∧ Post v H3
def lwR (s : vSt) (av : Option vA) : Bool := match av with
  | some (.inl e) => lQ (sI s) (sC s) e (lK 1)
  | _ => false
/-- the note at the head: unknown 0: the script's length; 1: how far it is read -/
def lwOk (N : vAn) : Bool := (match aI N with
  | p0 :: p1 :: _ => decide (p1.1 = 0) && decide (p1.2 ≤ 1000000) && decide (0 ≤ p0.1)
  | _ => false) && decide ((aG N).length < 1000000) && decide (aS N = []) && (match x_lk (aL N) 3 with
  | some (.inl t) => lEq t (lSy 1)
  | _ => false) && (aC N).any (fun c => lEq c (lSub (lSy 0) (lSy 1)))
end XLaw
end
section
/-! The law's loop, checked: where it asks the script, a way is cut and goes on; what was read once is known. -/
section XLaw2
def lFnd (e : lT) : List (lT × lT) → Option lT
  | [] => none
  | p :: r => if lEq p.1 e = true then some p.2 else lFnd e r
def vRds (ot : XO Int32) (n : Nat) (ρ : Nat → Int) (R : List (lT × lT)) : Prop := ∀ p ∈ R, lBd n p.1 = true ∧ lBd n p.2 = true ∧ oSc ot (lEv ρ p.1).toNat = Int32.ofInt (lEv ρ p.2)
theorem lBds_le {n m : Nat} (h : n ≤ m) : ∀ l, lBds n l = true → lBds m l = true
  | [], _ => rfl
  | p :: r, hb => by
    have h1 := Bool.and_eq_true_iff.mp hb
    have h2 := of_decide_eq_true h1.1
    exact Bool.and_eq_true_iff.mpr ⟨decide_eq_true (by omega), lBds_le h r h1.2⟩
theorem vRds_ext {ot : XO Int32} {n m : Nat} {ρ ρ2 : Nat → Int} {R : List (lT × lT)} (h : vRds ot n ρ R) (he : ∀ i, i < n → ρ2 i = ρ i) (hm : n ≤ m) : vRds ot m ρ2 R := fun p hp => by
  obtain ⟨h1, h2, h3⟩ := h p hp
  exact ⟨lBds_le hm _ h1, lBds_le hm _ h2, by rw [lBd_spec he h1, lBd_spec he h2]; exact h3⟩
theorem lFnd_spec {e t : lT} : ∀ {R : List (lT × lT)}, lFnd e R = some t → (e, t) ∈ R
  | [], h => by cases h
  | p :: r, h => by
    unfold lFnd at h
    split at h
    · rename_i he
      cases h
      rw [← lEq_spec he]
      exact List.mem_cons_self
    · exact List.mem_cons_of_mem _ (lFnd_spec h)
/-- sums of two that are not below 0 -/
def sPl (s : vSt) : vSt := (sN s, sG s, sF s, sI s, (sC s).flatMap (fun a => (sC s).map (fun b => lAdd a b)) ++ sC s, sM s, sRw s)
theorem sPl_rel {KT : vKT} {ρ : Nat → Int} {σ : Nat → Nat} {ty : Nat → Option Nat} {H : List (XC Int32)} {s : vSt} (h : vRel KT ρ σ ty H s) : vRel KT ρ σ ty H (sPl s) := by
  obtain ⟨h1, h2, h3, h4, h5, h6, h7, h8⟩ := h
  refine ⟨h1, h2, h3, h4, fun c hc => ?_, h6, h7, h8⟩
  rcases List.mem_append.mp hc with hc | hc
  · obtain ⟨a, ha, hc⟩ := List.mem_flatMap.mp hc
    obtain ⟨b, hb, rfl⟩ := List.mem_map.mp hc
    rw [lAdd_ev]
    have := h5 a ha
    have := h5 b hb
    omega
  · exact h5 c hc
def vLw2 (KT : vKT) (tb : XT) (tyl : List FieldType) (ov : vOt) (CT : Nat → List vCt) (hs : Nat → Nat → Option (List vHn)) (kn : Nat → Nat → Option Nat) (W : List (Nat × Nat)) (hd dp : Nat) (g0 : List (Nat × vA) → List vA → vSt → lT → lT → Bool) (ret : vSt → Option vA → Bool) : Nat → Nat → List (lT × lT) → Nat → List (Nat × vA) → List vA → vSt → lT → lT → Bool
  | 0, _, _, _, _, _, _, _, _ => false
  | f + 1, go, R, pc, L, S, s, cn, sn => vChk KT tb tyl ov CT hs kn W 4000 go dp 0 pc L S s cn sn (fun pc2 => if pc2 = hd then some g0 else match (match tMth tb 0 with | some q => mC q pc2 | none => none) with
      | some (.iaload, _) => some (fun L2 S2 s2 cn2 sn2 => match S2 with
        | .inl e :: .inr (some a) :: r => decide (a = 1000000) && lGe (sI s2) (sC s2) e && lGe (sI s2) (sC s2) (lSub (lSub (lSy 0) e) (lK 1)) && (match lFnd e R with
          | some t => vLw2 KT tb tyl ov CT hs kn W hd dp g0 ret f 0 R (pc2 + 1) L2 (.inl t :: r) s2 cn2 sn2
          | none => sBd s2 && vFr L2 r cn2 sn2 s2 && lBd (sN s2) e && vLw2 KT tb tyl ov CT hs kn W hd dp g0 ret f 0 ((e, lSy (sN s2)) :: R) (pc2 + 1) L2 (.inl (lSy (sN s2)) :: r) (vNi vTop s2) cn2 sn2)
        | _ => false)
      | some (.arraylength, _) => some (fun L2 S2 s2 cn2 sn2 => match S2 with
        | .inr (some a) :: r => decide (a = 1000000) && vLw2 KT tb tyl ov CT hs kn W hd dp g0 ret f 0 R (pc2 + 1) L2 (.inl (lSy 0) :: r) s2 cn2 sn2
        | _ => false)
      | _ => none) ret
theorem vLw2_spec {KT : vKT} {tb : XT} {tyl : List FieldType} {ot : XO Int32} {CT : Nat → List vCt} {hs : Nat → Nat → Option (List vHn)} {kn : Nat → Nat → Option Nat} {W : List (Nat × Nat)} {hd dp dp2 : Nat} {g0 : List (Nat × vA) → List vA → vSt → lT → lT → Bool} {ret : vSt → Option vA → Bool} {q : XM} {B : Nat} {Post : Option (XV Int32) → List (XC Int32) → Prop} (hCT : ∀ j c, c ∈ CT j → vCtSem KT tb tyl ot j c) {ty0 : Nat → Option Nat} {H0 : List (XC Int32)} (hr0 : ∀ a c, ty0 a = some c → kRaw KT c = none) (hq : tMth tb 0 = some q) (hdp : dp ≤ dp2) (hB : B + mMc q ≤ 1000000) (hn : oSn ot < 1000000) :
    ∀ (f go : Nat) {R : List (lT × lT)} {pc : Nat} {L : List (Nat × vA)} {S : List vA} {s : vSt} {cn sn : lT} {ρ : Nat → Int} {σ : Nat → Nat} {ty : Nat → Option Nat} {H : List (XC Int32)} {Lc : List (Nat × XV Int32)} {cn2 sn2 : Nat},
      vAt KT W ty0 H0 B L s cn sn ρ σ ty H Lc cn2 sn2 → ρ 0 = (oSn ot : Int) → 0 < sN s → vRds ot (sN s) ρ R → vLw2 KT tb tyl (o4 ot) CT hs kn W hd dp g0 ret f go R pc L S s cn sn = true → vRetOk KT W ty0 H0 (B + mMc q) s ρ σ ret Post → vHdOk KT tb tyl ot W ty0 H0 B dp2 hd s ρ σ g0 Post →
      ∃ v H2, x_To tb tyl ot dp2 0 pc Lc (S.map (cv ρ σ)) H cn2 sn2 v H2 ∧ Post v H2
  | 0, _, _, _, _, _, _, _, _, _, _, _, _, _, _, _, _, _, _, _, hk, _, _ => by cases hk
  | f + 1, go, R, pc, L, S, s, cn, sn, ρ, σ, ty, H, Lc, cn2, sn2, hat, h0, hs0, hR, hk, hret, hhd => by
    unfold vLw2 at hk
    refine vChk_spec (vOvLe_rf (o4 ot)) hCT hr0 4000 go hq hdp hB hat hk hret ?_
    intro pc2 g hg ρ2 σ2 ty2 H2 s2 L2 S2 cn3 sn3 Lc2 cn4 sn4 e1 e2 e3
    dsimp only at hg
    split at hg
    · rename_i hpc
      cases hg
      subst hpc
      exact hhd ρ2 σ2 ty2 H2 s2 L2 S2 cn3 sn3 Lc2 cn4 sn4 e1 e2 e3
    rw [hq] at hg
    dsimp only at hg
    have z0 : ρ2 0 = (oSn ot : Int) := (e1.1 0 hs0).trans h0
    have zs : 0 < sN s2 := Nat.lt_of_lt_of_le hs0 e1.2.2.1
    have hR2 : vRds ot (sN s2) ρ2 R := vRds_ext hR e1.1 e1.2.2.1
    have hret2 := vRetOk_ext e1 hret
    have hhd2 : vHdOk KT tb tyl ot W ty0 H0 B dp2 hd s2 ρ2 σ2 g0 Post := fun ρ3 σ3 ty3 H3 s3 L3 S3 c5 c6 Lc3 c7 c8 y1 y2 y3 => hhd ρ3 σ3 ty3 H3 s3 L3 S3 c5 c6 Lc3 c7 c8 (vExt_tr e1 y1) y2 y3
    have hsr : ∀ τ : Nat → Nat, sR τ 1000000 = 1000000 := fun τ => if_neg (Nat.lt_irrefl _)
    split at hg
    · rename_i n hi
      cases hg
      dsimp only at e3
      split at e3
      rotate_left
      · cases e3
      rename_i e a r
      simp only [Bool.and_eq_true] at e3
      obtain ⟨⟨⟨k1, k2⟩, k3⟩, k6⟩ := e3
      have k1 : a = 1000000 := of_decide_eq_true k1
      subst k1
      have k2 := lGe_spec e2.2.2.2.1.2.2.2.1 e2.2.2.2.1.2.2.2.2.1 k2
      have k3 := lGe_spec e2.2.2.2.1.2.2.2.1 e2.2.2.2.1.2.2.2.2.1 k3
      rw [lSub_ev, lSub_ev, lSy_ev, lK_ev, z0] at k3
      have ei : (Int32.ofInt (lEv ρ2 e)).toInt = lEv ρ2 e := ofInt_toInt (by omega) (by omega)
      have eN : (Int32.ofInt (lEv ρ2 e)).toNatClampNeg = (lEv ρ2 e).toNat := by
        show (Int32.ofInt (lEv ρ2 e)).toInt.toNat = _
        rw [ei]
      have nxt : ∃ v H3, x_To tb tyl ot dp2 0 (pc2 + 1) Lc2 (.inl (oSc ot (lEv ρ2 e).toNat) :: r.map (cv ρ2 σ2)) H2 cn4 sn4 v H3 ∧ Post v H3 := by
        rcases hf : lFnd e R with _ | t
        · rw [hf] at k6
          dsimp only at k6
          simp only [Bool.and_eq_true] at k6
          obtain ⟨⟨⟨k4, k5⟩, k7⟩, k6⟩ := k6
          have hx := vTop_spec (oSc ot (lEv ρ2 e).toNat)
          obtain ⟨ρ3, g1, g2, g3⟩ := vNi_spec e2.2.2.2.1 k4 (p := vTop) (x := (oSc ot (lEv ρ2 e).toNat).toInt) hx
          have g4 := vFr_spec g1 k5
          have hat3 := vAt_ext e2 g2 g4
          have hR3 : vRds ot (sN (vNi vTop s2)) ρ3 ((e, lSy (sN s2)) :: R) := fun p hp => by
            rcases List.mem_cons.mp hp with rfl | hp
            · refine ⟨lBds_le (Nat.le_succ _) _ k7, ?_, ?_⟩
              · show (decide (sN s2 < sN s2 + 1) && true) = true
                rw [decide_eq_true (Nat.lt_succ_self _)]
                rfl
              · show oSc ot (lEv ρ3 e).toNat = Int32.ofInt (lEv ρ3 (lSy (sN s2)))
                rw [lBd_spec g1.1 k7, lSy_ev, g3, Int32.ofInt_toInt]
            · exact vRds_ext hR2 g1.1 g1.2.2.1 p hp
          obtain ⟨v, H3, h1, h2⟩ := vLw2_spec hCT hr0 hq hdp hB hn f 0 hat3 ((g1.1 0 zs).trans z0) (Nat.lt_of_lt_of_le zs g1.2.2.1) hR3 k6 (vRetOk_ext g1 hret2) (fun ρ3 σ3 ty3 H3 s3 L3 S3 c5 c6 Lc3 c7 c8 y1 y2 y3 => hhd2 ρ3 σ3 ty3 H3 s3 L3 S3 c5 c6 Lc3 c7 c8 (vExt_tr g1 y1) y2 y3)
          refine ⟨v, H3, ?_, h2⟩
          rw [List.map_cons, g4.2.1, show cv ρ3 σ2 (.inl (lSy (sN s2))) = .inl (oSc ot (lEv ρ2 e).toNat) from congrArg Sum.inl (by rw [lSy_ev, g3, Int32.ofInt_toInt])] at h1
          exact h1
        · rw [hf] at k6
          dsimp only at k6
          obtain ⟨v, H3, h1, h2⟩ := vLw2_spec hCT hr0 hq hdp hB hn f 0 e2 z0 zs hR2 k6 hret2 hhd2
          refine ⟨v, H3, ?_, h2⟩
          have ht := (hR2 _ (lFnd_spec hf)).2.2
          rw [List.map_cons, show cv ρ2 σ2 (.inl t) = .inl (oSc ot (lEv ρ2 e).toNat) from congrArg Sum.inl ht.symm] at h1
          exact h1
      obtain ⟨v, H3, h1, h2⟩ := nxt
      refine ⟨v, H3, ?_, h2⟩
      have hneg : ¬ Int32.ofInt (lEv ρ2 e) < 0 := fun z => by
        have z2 : (Int32.ofInt (lEv ρ2 e)).toInt < (0 : Int) := Int32.lt_iff_toInt_lt.mp z
        omega
      have key : x_To tb tyl ot dp2 0 pc2 Lc2 (.inl (Int32.ofInt (lEv ρ2 e)) :: .inr (some 1000000) :: r.map (cv ρ2 σ2)) H2 cn4 sn4 v H3 := by
        refine xT_ialoadS hq hi ?_ ?_
        · rw [decide_eq_false hneg, eN]
          exact decide_eq_false (by omega)
        · rw [eN]
          exact h1
      have em : (Sum.inl e :: Sum.inr (some 1000000) :: r : List vA).map (cv ρ2 σ2) = .inl (Int32.ofInt (lEv ρ2 e)) :: .inr (some 1000000) :: r.map (cv ρ2 σ2) := by
        rw [List.map_cons, List.map_cons]
        show _ :: Sum.inr (some (sR σ2 1000000)) :: _ = _
        rw [hsr]
        rfl
      rw [em]
      exact key
    · rename_i n hi
      cases hg
      dsimp only at e3
      split at e3
      rotate_left
      · cases e3
      rename_i a r
      simp only [Bool.and_eq_true] at e3
      obtain ⟨k1, k6⟩ := e3
      have k1 : a = 1000000 := of_decide_eq_true k1
      subst k1
      obtain ⟨v, H3, h1, h2⟩ := vLw2_spec hCT hr0 hq hdp hB hn f 0 e2 z0 zs hR2 k6 hret2 hhd2
      refine ⟨v, H3, ?_, h2⟩
      have key : x_To tb tyl ot dp2 0 pc2 Lc2 (.inr (some 1000000) :: r.map (cv ρ2 σ2)) H2 cn4 sn4 v H3 := by
        refine xT_arraylengthS hq hi ?_
        rw [List.map_cons, show cv ρ2 σ2 (.inl (lSy 0)) = .inl (Int32.ofNat (oSn ot)) from congrArg Sum.inl (by rw [lSy_ev, z0]; rfl)] at h1
        exact h1
      have em : (Sum.inr (some 1000000) :: r : List vA).map (cv ρ2 σ2) = .inr (some 1000000) :: r.map (cv ρ2 σ2) := by
        rw [List.map_cons]
        show Sum.inr (some (sR σ2 1000000)) :: _ = _
        rw [hsr]
      rw [em]
      exact key
    · cases hg
/-- from the head of the loop on -/
def lwG2 (N : vAn) (W : List (Nat × Nat)) (L : List (Nat × vA)) (S : List vA) (s0 : vSt) (cn sn : lT) : Bool := (fun s => vHit 1 2 W none L S s cn sn N && (match x_lk L 3 with
  | some (.inl t) => lQ (sI s) (sC s) t (lAdd (lSy 1) (lK 7))
  | _ => false)) (sPl s0)
theorem vLaw2_spec {KT : vKT} {tb : XT} {tyl : List FieldType} {ot : XO Int32} {CT : Nat → List vCt} {hs : Nat → Nat → Option (List vHn)} {kn : Nat → Nat → Option Nat} {W : List (Nat × Nat)} {hd dp dp2 f : Nat} {q : XM} (hCT : ∀ j c, c ∈ CT j → vCtSem KT tb tyl ot j c) (hq : tMth tb 0 = some q) (hdp : dp ≤ dp2) (hB : 0 + mMc q ≤ 1000000) (hn : oSn ot < 1000000) {N : vAn} (hN : lwOk N = true) (hk : vLw2 KT tb tyl (o4 ot) CT hs kn W hd dp (lwG2 N W) lwR f 1 [] hd (aL N) (aS N) (aSt N) (aCn N) (aSn N) = true) :
    ∀ (m : Nat) {ρ : Nat → Int} {σ : Nat → Nat} {ty : Nat → Option Nat} {H : List (XC Int32)} {Lc : List (Nat × XV Int32)} {cn2 sn2 : Nat}, (ρ 0 - ρ 1).toNat < m → ρ 0 = (oSn ot : Int) → H.length ≤ cn2 → H.length ≤ 1000000 → vRel KT ρ σ ty H (aSt N) → vCov ρ σ (aL N) Lc → (cn2 : Int) ≤ lEv ρ (aCn N) → (sn2 : Int) ≤ lEv ρ (aSn N) →
      ∃ H2, x_To tb tyl ot dp2 0 hd Lc [] H cn2 sn2 (some (.inl 1)) H2
  | 0, _, _, _, _, _, _, _, hm, _, _, _, _, _, _, _ => absurd hm (Nat.not_lt_zero _)
  | m + 1, ρ, σ, ty, H, Lc, cn2, sn2, hm, h0, hl1, hl2, hr, hc, c1, c2 => by
    have hN0 := hN
    unfold lwOk at hN
    simp only [Bool.and_eq_true] at hN
    obtain ⟨⟨⟨⟨n1, n2⟩, n3⟩, n4⟩, n5⟩ := id hN
    have n2 := of_decide_eq_true n2
    have n3 := of_decide_eq_true n3
    have hlen : 2 ≤ (aI N).length ∧ 0 ≤ ρ 1 ∧ ρ 1 ≤ 1000000 := by
      rcases hI : aI N with _ | ⟨p0, _ | ⟨p1, r⟩⟩
      · rw [hI] at n1
        cases n1
      · rw [hI] at n1
        cases n1
      · rw [hI] at n1
        simp only [Bool.and_eq_true] at n1
        have y1 := of_decide_eq_true n1.1.1
        have y2 := of_decide_eq_true n1.1.2
        have hz := zipI_spec.mp hr.2.2.2.1 1 p1 (by rw [hI]; rfl)
        rw [Nat.zero_add] at hz
        exact ⟨by simp only [List.length_cons]; omega, by omega, by omega⟩
    have noraw : ∀ a c, ty a = some c → kRaw KT c = none := fun a c ha => by
      rcases hR : kRaw KT c with _ | d
      · rfl
      · obtain ⟨i, hi, -⟩ := hr.2.2.2.2.2.2.2 a c d ha hR
        cases hi
    have hat : vAt KT W ty H 0 (aL N) (aSt N) (aCn N) (aSn N) ρ σ ty H Lc cn2 sn2 := ⟨⟨by omega, hl2⟩, vLe_rf ty, vFrm_rf W ty H, hr, hc, c1, c2⟩
    have main := vLw2_spec (ret := lwR) (Post := fun v _ => v = some (.inl 1)) hCT noraw hq hdp hB hn f 1 hat h0 (show 0 < (aI N).length by omega) (fun p hp => absurd hp List.not_mem_nil) hk ?_ ?_
    · obtain ⟨v, H2, h1, h2⟩ := main
      subst h2
      rw [n3] at h1
      exact ⟨H2, h1⟩
    · intro ρ2 σ2 ty2 H2 s2 av e1 e2 e3 e4 e5 e6
      unfold lwR at e6
      split at e6
      rotate_left
      · cases e6
      rename_i e
      have := lQ_spec e4.2.2.2.1 e4.2.2.2.2.1 e6
      rw [lK_ev] at this
      show some (Sum.inl (Int32.ofInt (lEv ρ2 e))) = some (Sum.inl 1)
      rw [this]
      rfl
    · intro ρ2 σ2 ty2 H2 s2 L2 S2 cn3 sn3 Lc2 cn4 sn4 e1 e2 e3
      have hrr := sPl_rel e2.2.2.2.1
      unfold lwG2 at e3
      dsimp only at e3
      have e4 := Bool.and_eq_true_iff.mp e3
      have hh := e4.1
      unfold vHit at hh
      split at hh
      · cases hh
      rename_i p hp
      simp only [Bool.and_eq_true] at hh
      obtain ⟨⟨k1, k2⟩, -⟩ := hh
      have k1 := lGe_spec hrr.2.2.2.1 hrr.2.2.2.2.1 k1
      have k2 := lGe_spec hrr.2.2.2.1 hrr.2.2.2.2.1 k2
      rw [lSub_ev, lSb_ev] at k1 k2
      obtain ⟨g1, g2, g3, -, -, -, g7, g8⟩ := vMt_spec hrr hp (by decide)
      have hc2 := g2 _ e2.2.2.2.2.1
      have f0 : rO ρ2 p.1 0 = (oSn ot : Int) := (g7 0 (by decide)).trans ((e1.1 0 (show 0 < (aI N).length by omega)).trans h0)
      have hI1 := zipI_spec.mp g1.2.2.2.1
      have f1 : rO ρ2 p.1 1 = ρ 1 + 7 := by
        have h5 := e4.2
        split at h5
        rotate_left
        · cases h5
        rename_i t ht
        have a1 := e2.2.2.2.2.1 3 _ ht
        have a2 := n4
        split at a2
        rotate_left
        · cases a2
        rename_i u hu
        have a3 := hc2 3 _ hu
        rw [a1] at a3
        have a4 : Int32.ofInt (lEv ρ2 t) = Int32.ofInt (lEv (rO ρ2 p.1) u) := Sum.inl.inj (Option.some.inj a3)
        have a5 := lQ_spec hrr.2.2.2.1 hrr.2.2.2.2.1 h5
        rw [lAdd_ev, lSy_ev, lK_ev, e1.1 1 (show 1 < (aI N).length by omega)] at a5
        rw [lEq_spec a2, lSy_ev, a5] at a4
        have b2 : 0 ≤ rO ρ2 p.1 1 ∧ rO ρ2 p.1 1 ≤ 1000000 := by
          rcases hI : aI N with _ | ⟨p0, _ | ⟨p1, r⟩⟩
          · rw [hI] at n1
            cases n1
          · rw [hI] at n1
            cases n1
          · rw [hI] at n1
            simp only [Bool.and_eq_true] at n1
            have y1 := of_decide_eq_true n1.1.1
            have y2 := of_decide_eq_true n1.1.2
            have hz := hI1 1 p1 (by rw [hI]; rfl)
            rw [Nat.zero_add] at hz
            exact ⟨by omega, by omega⟩
        have a6 := congrArg Int32.toInt a4
        rw [ofInt_toInt (by omega) (by omega), ofInt_toInt (by omega) (by omega)] at a6
        exact a6.symm
      have f2 : rO ρ2 p.1 1 ≤ rO ρ2 p.1 0 := by
        obtain ⟨c, hcm, hce⟩ := List.any_eq_true.mp n5
        have b := g1.2.2.2.2.1 c hcm
        rw [lEq_spec hce, lSub_ev, lSy_ev, lSy_ev] at b
        omega
      obtain ⟨H3, h3⟩ := vLaw2_spec hCT hq hdp hB hn hN0 hk m (ρ := rO ρ2 p.1) (σ := sO σ2 p.2) (ty := ty2) (H := H2) (Lc := Lc2) (cn2 := cn4) (sn2 := sn4) (by omega) f0 (by have := e2.1.1; omega) e2.1.2 g1 hc2 (by have := e2.2.2.2.2.2.1; omega) (by have := e2.2.2.2.2.2.2; omega)
      refine ⟨_, H3, ?_, rfl⟩
      rw [g3, n3]
      exact h3
end XLaw2
end
section
/-! Two runs side by side, each on cells of its own: a way of the first, then one of the second, from a pair of notes to another. -/
section XPair
/-- where a run stands: at a place, or at its end (its answer is the stack) -/
def xE (tb : XT) (tyl : List FieldType) (ot : XO Int32) (e : Option Nat) (dp k : Nat) (Lc : List (Nat × XV Int32)) (Sc : List (XV Int32)) (H : List (XC Int32)) (cn sn : Nat) (v : Option (XV Int32)) (H2 : List (XC Int32)) : Prop := match e with
  | some pc => x_To tb tyl ot dp k pc Lc Sc H cn sn v H2
  | none => v.toList = Sc ∧ H2 = H
def eAt (ρ : Nat → Int) (σ : Nat → Nat) (e : Option Nat) (B mc : Nat) (A : vAn) (H : List (XC Int32)) (Lc : List (Nat × XV Int32)) (cn2 sn2 : Nat) : Prop := match e with
  | some _ => (H.length ≤ B + cn2 ∧ H.length ≤ 1000000) ∧ vCov ρ σ (aL A) Lc ∧ (cn2 : Int) ≤ lEv ρ (aCn A) ∧ (sn2 : Int) ≤ lEv ρ (aSn A)
  | none => H.length ≤ B + mc
/-- where both end: the first, the second, their notes; is the rank less -/
abbrev vPo : Type := Option Nat × Option Nat × vAn × vAn × Bool
/-- rows of the first that stand in rows of the second: each element j at k * j + c -/
abbrev vTl : Type := List (Nat × Nat × Nat × Nat)
def tHd (tl : vTl) (σA σB : Nat → Nat) (GA GB : List (XC Int32)) : Prop := ∀ p ∈ tl, ∀ t vs, GA[sR σA p.1]? = some (.inr (t, vs)) → ∃ t2 us, GB[sR σB p.2.1]? = some (.inr (t2, us)) ∧ ∀ (j : Nat) (u : XV Int32), vs[j]? = some u → us[p.2.2.1 * j + p.2.2.2]? = some u
def tMp (tl : vTl) (f : vK) : List vK := match f.2.1, f.2.2 with
  | .inr e, .inl v => (tl.filter (fun p => decide (p.1 = f.1))).map (fun p => (p.2.1, .inr (lAdd (lSc (p.2.2.1 : Int) e) (lK (p.2.2.2 : Int))), .inl v))
  | _, _ => []
theorem tMp_spec {tl : vTl} {ρ : Nat → Int} {σA σB : Nat → Nat} {GA GB : List (XC Int32)} (h : tHd tl σA σB GA GB) {f : vK} (hf : vHolds ρ σA GA f) : ∀ g ∈ tMp tl f, vHolds ρ σB GB g := by
  intro g hg
  obtain ⟨i, j | e, u⟩ := f
  · exact absurd hg List.not_mem_nil
  rcases u with v | o
  rotate_left
  · exact absurd hg List.not_mem_nil
  obtain ⟨p, hp, rfl⟩ := List.mem_map.mp hg
  obtain ⟨hp1, hp2⟩ := List.mem_filter.mp hp
  have hp2 : p.1 = i := of_decide_eq_true hp2
  obtain ⟨t, vs, h1, h0, h2⟩ := hf
  have h1 : GA[sR σA i]? = some (.inr (t, vs)) := h1
  rw [← hp2] at h1
  obtain ⟨t2, us, g1, g2⟩ := h p hp1 t vs h1
  have h0 : 0 ≤ lEv ρ e := h0
  have e1 : lEv ρ (lAdd (lSc (p.2.2.1 : Int) e) (lK (p.2.2.2 : Int))) = (p.2.2.1 : Int) * lEv ρ e + (p.2.2.2 : Int) := by
    rw [lAdd_ev, lSc_ev, lK_ev]
  have e2 : (p.2.2.1 : Int) * lEv ρ e + (p.2.2.2 : Int) = ((p.2.2.1 * (lEv ρ e).toNat + p.2.2.2 : Nat) : Int) := by
    rw [Int.natCast_add, Int.natCast_mul, Int.toNat_of_nonneg h0]
  refine ⟨t2, us, g1, ?_, ?_⟩
  · show 0 ≤ lEv ρ (lAdd (lSc (p.2.2.1 : Int) e) (lK (p.2.2.2 : Int)))
    rw [e1, e2]
    exact Int.natCast_nonneg _
  · show us[(lEv ρ (lAdd (lSc (p.2.2.1 : Int) e) (lK (p.2.2.2 : Int)))).toNat]? = _
    rw [e1, e2, Int.toNat_natCast]
    exact g2 _ _ h2
/-- ints of the newer, cells of the older -/
def sJn (s s2 : vSt) : vSt := (sN s2, sG s, sF s, sI s2, sC s2, sM s2, sRw s)
def sBs (tl : vTl) (A : vAn) (s : vSt) : vSt := (sN s, aG A, (sF s).flatMap (tMp tl) ++ aF A, sI s, sC s, sM s, [])
def eCk (e : Option Nat) (s2 : vSt) (θ : List lT) (A : vAn) (cn sn : lT) : Bool := match e with
  | none => true
  | some _ => lGe (sI s2) (sC s2) (lSub (lSb θ (aCn A)) cn) && lGe (sI s2) (sC s2) (lSub (lSb θ (aSn A)) sn)
def vPm (n0 mA mB : Nat) (NA : vAn) (eA : Option Nat) (L : List (Nat × vA)) (S : List vA) (s : vSt) (cn sn : lT) (eB : Option Nat) (L2 : List (Nat × vA)) (S2 : List vA) (s2 : vSt) (cn2 sn2 : lT) (o : vPo) : Bool :=
  decide (o.1 = eA) && decide (o.2.1 = eB) && (match rcs L S s (aRc o.2.2.1) ((List.range n0).map lSy) (List.range mA) with
    | none => false
    | some p => match rcs L2 S2 s2 (aRc o.2.2.2.1) p.1 (List.range mB) with
      | none => false
      | some q => vMc o.2.2.1 q.1 p.2 L S (sJn s s2) && vMc o.2.2.2.1 q.1 q.2 L2 S2 s2 && eCk eA s2 q.1 o.2.2.1 cn sn && eCk eB s2 q.1 o.2.2.2.1 cn2 sn2 && (!o.2.2.2.2 || (lGe (sI s2) (sC s2) (lSb q.1 (aRk o.2.2.1)) && lGe (sI s2) (sC s2) (lSub (lSub (aRk NA) (lSb q.1 (aRk o.2.2.1))) (lK 1)))))
def vPb (KT : vKT) (tb : XT) (tyl : List FieldType) (ov : vOt) (CT : Nat → List vCt) (hs : Nat → Nat → Option (List vHn)) (kn : Nat → Nat → Option Nat) (WB : List (Nat × Nat)) (n0 mA mB : Nat) (tl : vTl) (f goB dpB kB pcB : Nat) (NA NB : vAn) (outs : List vPo) (eA : Option Nat) (L : List (Nat × vA)) (S : List vA) (s : vSt) (cn sn : lT) : Bool :=
  sBd s && (sRw s).isEmpty && vFr L S cn sn s && vChk KT tb tyl ov CT hs kn WB f goB dpB kB pcB (aL NB) (aS NB) (sBs tl NB s) (aCn NB) (aSn NB)
    (fun pc => if outs.any (fun o => decide (o.2.1 = some pc)) = true then some (fun L2 S2 s2 cn2 sn2 => outs.any (vPm n0 mA mB NA eA L S s cn sn (some pc) L2 S2 s2 cn2 sn2)) else none)
    (fun s2 av => outs.any (vPm n0 mA mB NA eA L S s cn sn none [] av.toList s2 (lK 0) (lK 0)))
def vPe (KT : vKT) (tb : XT) (tyl : List FieldType) (ov : vOt) (CT : Nat → List vCt) (hs : Nat → Nat → Option (List vHn)) (kn : Nat → Nat → Option Nat) (WA WB : List (Nat × Nat)) (n0 mA mB : Nat) (tl : vTl) (f goA dpA kA pcA goB dpB kB pcB : Nat) (NA NB : vAn) (outs : List vPo) : Bool :=
  sBd (aSt NB) && lBd (aI NA).length (aRk NA) && decide ((aI NB).length = (aI NA).length) && decide (n0 ≤ (aI NA).length) && decide (mA ≤ (aG NA).length) && decide (mB ≤ (aG NB).length) && decide ((aG NA).length < 1000000) && (aL NB).all (fun q => vBd (aI NA).length (aG NB).length q.2) && (aS NB).all (vBd (aI NA).length (aG NB).length) && lBd (aI NA).length (aCn NB) && lBd (aI NA).length (aSn NB) &&
  tl.all (fun p => decide (p.1 < (aG NA).length) && decide (p.2.1 < (aG NB).length) && (match (aG NA)[p.1]? with
    | some c => !(wIn WA c 0) && !(wIn WA c 1)
    | none => false)) &&
  vChk KT tb tyl ov CT hs kn WA f goA dpA kA pcA (aL NA) (aS NA) (aSt NA) (aCn NA) (aSn NA)
    (fun pc => if outs.any (fun o => decide (o.1 = some pc)) = true then some (fun L S s cn sn => vPb KT tb tyl ov CT hs kn WB n0 mA mB tl f goB dpB kB pcB NA NB outs (some pc) L S s cn sn) else none)
    (fun s av => vPb KT tb tyl ov CT hs kn WB n0 mA mB tl f goB dpB kB pcB NA NB outs none [] av.toList s (lK 0) (lK 0))
theorem vRel_noraw {KT : vKT} {ρ : Nat → Int} {σ : Nat → Nat} {ty : Nat → Option Nat} {H : List (XC Int32)} {s : vSt} (h : vRel KT ρ σ ty H s) (hr : sRw s = []) : ∀ a c, ty a = some c → kRaw KT c = none := fun a c ha => by
  rcases hR : kRaw KT c with _ | d
  · rfl
  · obtain ⟨i, hi, -⟩ := h.2.2.2.2.2.2.2 a c d ha hR
    rw [hr] at hi
    cases hi
/-- a run's row that isn't written stands as it stood -/
theorem vFrm_row {W : List (Nat × Nat)} {ty : Nat → Option Nat} {H H2 : List (XC Int32)} (h : vFrm W ty H H2) {a c t : Nat} {vs : List (XV Int32)} (ha : ty a = some c) (w0 : wIn W c 0 = false) (w1 : wIn W c 1 = false) (hH : H[a]? = some (.inr (t, vs))) : H2[a]? = some (.inr (t, vs)) := by
  obtain ⟨z2, g1, g2⟩ := h a c _ ha hH
  rcases z2 with z2 | ⟨t2, us⟩
  · exact g2.elim
  · obtain ⟨e, g3⟩ := g2
    have g3 := g3 w0
    unfold vMonV at g3
    rw [w1, if_neg (by decide)] at g3
    have e : t2 = t := e
    have g3 : us = vs := g3
    rw [g1, g3, e]
theorem tHd_mv {tl : vTl} {σA σB σA2 σB2 : Nat → Nat} {GA GB HA HB : List (XC Int32)} (h : tHd tl σA σB GA GB) (ha : ∀ p ∈ tl, sR σA2 p.1 = sR σA p.1 ∧ (∀ t vs, HA[sR σA p.1]? = some (.inr (t, vs)) → GA[sR σA p.1]? = some (.inr (t, vs)))) (hb : ∀ p ∈ tl, sR σB2 p.2.1 = sR σB p.2.1 ∧ (∀ t vs, GB[sR σB p.2.1]? = some (.inr (t, vs)) → HB[sR σB p.2.1]? = some (.inr (t, vs)))) : tHd tl σA2 σB2 HA HB := fun p hp t vs hv => by
  obtain ⟨a1, a2⟩ := ha p hp
  obtain ⟨b1, b2⟩ := hb p hp
  rw [a1] at hv
  obtain ⟨t2, us, g1, g2⟩ := h p hp t vs (a2 t vs hv)
  exact ⟨t2, us, by rw [b1]; exact b2 _ _ g1, g2⟩
theorem vFrm_rowB {W : List (Nat × Nat)} {ty : Nat → Option Nat} {H H2 : List (XC Int32)} (h : vFrm W ty H H2) {KT : vKT} (hp : vHp (fun c => KT.1[c]?) ty H) {a c t : Nat} {vs : List (XV Int32)} (ha : ty a = some c) (w0 : wIn W c 0 = false) (w1 : wIn W c 1 = false) (hH : H2[a]? = some (.inr (t, vs))) : H[a]? = some (.inr (t, vs)) := by
  obtain ⟨kd, z, -, h2, -⟩ := hp a c ha
  rcases z with z | ⟨t2, us⟩
  · obtain ⟨z2, g1, g2⟩ := h a c _ ha h2
    rw [hH] at g1
    cases g1
    exact g2.elim
  · have h3 := vFrm_row h ha w0 w1 h2
    rw [hH] at h3
    rw [h2, ← h3]
theorem optList {v w : Option (XV Int32)} (h : v.toList = w.toList) : v = w := by
  rcases v with _ | v <;> rcases w with _ | w <;> first | rfl | (cases h; done) | (cases h; rfl)
theorem vPe_spec {KT : vKT} {tb : XT} {tyl : List FieldType} {ot : XO Int32} {ov : vOt} (hov : vOvLe ov (o4 ot)) {CT : Nat → List vCt} {hs : Nat → Nat → Option (List vHn)} {kn : Nat → Nat → Option Nat} {WA WB : List (Nat × Nat)} (hCT : ∀ j c, c ∈ CT j → vCtSem KT tb tyl ot j c) {n0 mA mB : Nat} {tl : vTl} {f goA dpA kA pcA goB dpB kB pcB dA dB : Nat} {NA NB : vAn} {outs : List vPo}
    (hk : vPe KT tb tyl ov CT hs kn WA WB n0 mA mB tl f goA dpA kA pcA goB dpB kB pcB NA NB outs = true) {qA qB : XM} (hqA : tMth tb kA = some qA) (hqB : tMth tb kB = some qB) (hdA : dpA ≤ dA) (hdB : dpB ≤ dB) {BA BB : Nat} (hBA : BA + mMc qA ≤ 1000000) (hBB : BB + mMc qB ≤ 1000000)
    {ρ : Nat → Int} {σA σB : Nat → Nat} {tyA tyB : Nat → Option Nat} {GA GB : List (XC Int32)} {LA LB : List (Nat × XV Int32)} {cA sA cB sB : Nat}
    (hA : vRel KT ρ σA tyA GA (aSt NA)) (hB : vRel KT ρ σB tyB GB (aSt NB)) (hl : tHd tl σA σB GA GB) (eA : eAt ρ σA (some pcA) BA (mMc qA) NA GA LA cA sA) (eB : eAt ρ σB (some pcB) BB (mMc qB) NB GB LB cB sB)
    {R : Option (XV Int32) → List (XC Int32) → Option (XV Int32) → List (XC Int32) → Prop}
    (hout : ∀ o ∈ outs, ∀ ρ2 σA2 σB2 tyA2 tyB2 HA HB LA2 LB2 cA2 sA2 cB2 sB2, (∀ i, i < n0 → ρ2 i = ρ i) → (∀ i, i < mA → σA2 i = σA i) → (∀ i, i < mB → σB2 i = σB i) → (o.2.2.2.2 = true → 0 ≤ lEv ρ2 (aRk o.2.2.1) ∧ lEv ρ2 (aRk o.2.2.1) < lEv ρ (aRk NA)) → vLe tyA tyA2 → vLe tyB tyB2 → vFrm WA tyA GA HA → vFrm WB tyB GB HB →
      vRel KT ρ2 σA2 tyA2 HA (aSt o.2.2.1) → vRel KT ρ2 σB2 tyB2 HB (aSt o.2.2.2.1) → eAt ρ2 σA2 o.1 BA (mMc qA) o.2.2.1 HA LA2 cA2 sA2 → eAt ρ2 σB2 o.2.1 BB (mMc qB) o.2.2.2.1 HB LB2 cB2 sB2 →
      ∃ vA H1 vB H2, xE tb tyl ot o.1 dA kA LA2 ((aS o.2.2.1).map (cv ρ2 σA2)) HA cA2 sA2 vA H1 ∧ xE tb tyl ot o.2.1 dB kB LB2 ((aS o.2.2.2.1).map (cv ρ2 σB2)) HB cB2 sB2 vB H2 ∧ R vA H1 vB H2) :
    ∃ vA H1 vB H2, x_To tb tyl ot dA kA pcA LA ((aS NA).map (cv ρ σA)) GA cA sA vA H1 ∧ x_To tb tyl ot dB kB pcB LB ((aS NB).map (cv ρ σB)) GB cB sB vB H2 ∧ R vA H1 vB H2 := by
  unfold vPe at hk
  simp only [Bool.and_eq_true] at hk
  obtain ⟨⟨⟨⟨⟨⟨⟨⟨⟨⟨⟨⟨k1, k2⟩, k3⟩, k4⟩, k5⟩, k6⟩, k7⟩, k8⟩, k9⟩, k10⟩, k11⟩, k12⟩, k13⟩ := hk
  have k3 := of_decide_eq_true k3
  have k4 := of_decide_eq_true k4
  have k5 := of_decide_eq_true k5
  have k6 := of_decide_eq_true k6
  have k7 := of_decide_eq_true k7
  have hrA := vRel_noraw hA rfl
  have hrB := vRel_noraw hB rfl
  have hatA : vAt KT WA tyA GA BA (aL NA) (aSt NA) (aCn NA) (aSn NA) ρ σA tyA GA LA cA sA := ⟨eA.1, vLe_rf tyA, vFrm_rf WA tyA GA, hA, eA.2⟩
  have hb : ∀ (e : Option Nat) ρ2 σA2 tyA2 HA s L S cn sn LA2 cA2 sA2, vExt (aSt NA) s ρ ρ2 σA σA2 → vLe tyA tyA2 → vFrm WA tyA GA HA → vRel KT ρ2 σA2 tyA2 HA s → (match e with
      | some _ => (HA.length ≤ BA + cA2 ∧ HA.length ≤ 1000000) ∧ vCov ρ2 σA2 L LA2 ∧ (cA2 : Int) ≤ lEv ρ2 cn ∧ (sA2 : Int) ≤ lEv ρ2 sn
      | none => L = [] ∧ HA.length ≤ BA + mMc qA) → vPb KT tb tyl ov CT hs kn WB n0 mA mB tl f goB dpB kB pcB NA NB outs e L S s cn sn = true →
      ∃ vB H2, x_To tb tyl ot dB kB pcB LB ((aS NB).map (cv ρ σB)) GB cB sB vB H2 ∧ ∃ vA H1, xE tb tyl ot e dA kA LA2 (S.map (cv ρ2 σA2)) HA cA2 sA2 vA H1 ∧ R vA H1 vB H2 := by
    intro e ρ2 σA2 tyA2 HA s L S cn sn LA2 cA2 sA2 x1 x2 x3 x4 x5 x6
    unfold vPb at x6
    simp only [Bool.and_eq_true] at x6
    obtain ⟨⟨⟨y1, y2⟩, y3⟩, y4⟩ := x6
    have y2 : sRw s = [] := List.isEmpty_iff.mp y2
    have hρ : ∀ i, i < sN (aSt NB) → ρ2 i = ρ i := fun i hi => x1.1 i (show i < (aI NA).length by
      have hi : i < (aI NB).length := hi
      omega)
    obtain ⟨b1, b2, b3, b4, b5, b6, b7, b8⟩ := vRel_ext hB k1 hρ (fun _ _ => rfl)
    have hl2 : tHd tl σA2 σB HA GB := tHd_mv hl (fun p hp => by
      have k12 := List.all_eq_true.mp k12 p hp
      simp only [Bool.and_eq_true] at k12
      obtain ⟨⟨z1, -⟩, z2⟩ := k12
      have z1 := of_decide_eq_true z1
      have e1 : sR σA2 p.1 = sR σA p.1 := by
        unfold sR
        rw [if_pos (by omega), if_pos (by omega)]
        exact x1.2.1 p.1 z1
      refine ⟨e1, fun t vs hv => ?_⟩
      split at z2
      · rename_i c hc
        have z2 := Bool.and_eq_true_iff.mp z2
        exact vFrm_rowB x3 hA.1 (hA.2.1 _ _ hc) (by simpa using z2.1) (by simpa using z2.2) hv
      · cases z2) (fun p hp => ⟨rfl, fun t vs hv => hv⟩)
    have hB2 : vRel KT ρ2 σB tyB GB (sBs tl NB s) := by
      refine ⟨b1, b2, fun g hg => ?_, x4.2.2.2.1, x4.2.2.2.2.1, x4.2.2.2.2.2.1, b7, b8⟩
      rcases List.mem_append.mp hg with hg | hg
      · obtain ⟨h0, hh, hg⟩ := List.mem_flatMap.mp hg
        exact tMp_spec hl2 (x4.2.2.1 h0 hh) g hg
      · exact b3 g hg
    have hcovB : vCov ρ2 σB (aL NB) LB := vBd_loc (n := (aI NA).length) (m := (aG NB).length) (fun i hi => x1.1 i hi) (fun _ _ => rfl) k8 eB.2.1
    have hSB : (aS NB).map (cv ρ2 σB) = (aS NB).map (cv ρ σB) := vBd_list (n := (aI NA).length) (m := (aG NB).length) (fun i hi => x1.1 i hi) (fun _ _ => rfl) k9
    have hatB : vAt KT WB tyB GB BB (aL NB) (sBs tl NB s) (aCn NB) (aSn NB) ρ2 σB tyB GB LB cB sB := ⟨eB.1, vLe_rf tyB, vFrm_rf WB tyB GB, hB2, hcovB, by
      rw [lBd_spec (n := (aI NA).length) (fun i hi => x1.1 i hi) k10]
      exact eB.2.2.1, by
      rw [lBd_spec (n := (aI NA).length) (fun i hi => x1.1 i hi) k11]
      exact eB.2.2.2⟩
    have fin : ∀ (eb : Option Nat) ρ3 σB3 tyB3 HB s2 L2 S2 cn2 sn2 LB2 cB2 sB2, vExt (sBs tl NB s) s2 ρ2 ρ3 σB σB3 → vLe tyB tyB3 → vFrm WB tyB GB HB → vRel KT ρ3 σB3 tyB3 HB s2 → (match eb with
        | some _ => (HB.length ≤ BB + cB2 ∧ HB.length ≤ 1000000) ∧ vCov ρ3 σB3 L2 LB2 ∧ (cB2 : Int) ≤ lEv ρ3 cn2 ∧ (sB2 : Int) ≤ lEv ρ3 sn2
        | none => L2 = [] ∧ HB.length ≤ BB + mMc qB) → outs.any (vPm n0 mA mB NA e L S s cn sn eb L2 S2 s2 cn2 sn2) = true →
        ∃ vB H2, xE tb tyl ot eb dB kB LB2 (S2.map (cv ρ3 σB3)) HB cB2 sB2 vB H2 ∧ ∃ vA H1, xE tb tyl ot e dA kA LA2 (S.map (cv ρ2 σA2)) HA cA2 sA2 vA H1 ∧ R vA H1 vB H2 := by
      intro eb ρ3 σB3 tyB3 HB s2 L2 S2 cn2 sn2 LB2 cB2 sB2 w1 w2 w3 w4 w5 w6
      obtain ⟨o, ho, w6⟩ := List.any_eq_true.mp w6
      unfold vPm at w6
      simp only [Bool.and_eq_true] at w6
      obtain ⟨⟨o1, o2⟩, w6⟩ := w6
      have o1 := of_decide_eq_true o1
      have o2 := of_decide_eq_true o2
      split at w6
      · cases w6
      rename_i p hp
      split at w6
      · cases w6
      rename_i q hq
      simp only [Bool.and_eq_true] at w6
      obtain ⟨⟨⟨⟨w7, w8⟩, w9⟩, w10⟩, w11⟩ := w6
      have hρ3 : ∀ i, i < sN s → ρ3 i = ρ2 i := fun i hi => w1.1 i hi
      have hA3 : vRel KT ρ3 σA2 tyA2 HA (sJn s s2) := by
        obtain ⟨a1, a2, a3, a4, a5, a6, a7, a8⟩ := vRel_ext x4 y1 hρ3 (fun _ _ => rfl)
        exact ⟨a1, a2, a3, w4.2.2.2.1, w4.2.2.2.2.1, w4.2.2.2.2.2.1, a7, a8⟩
      have hfr := vFr_spec (s := s) (s2 := sJn s s2) (ρ := ρ2) (ρ2 := ρ3) (σ := σA2) (σ2 := σA2) ⟨hρ3, fun _ _ => rfl, w1.2.2.1, Nat.le_refl _⟩ y3
      obtain ⟨m1, m2, m3, m4, m5, -⟩ := vMc_spec hA3 w7
      obtain ⟨r1, r2, r3, r4, r5, -⟩ := vMc_spec w4 w8
      obtain ⟨⟨t1, ht1⟩, ⟨t2, ht2⟩⟩ := rcs_pre hp
      obtain ⟨⟨t3, ht3⟩, ⟨t4, ht4⟩⟩ := rcs_pre hq
      have hn : sN (aSt NA) ≤ sN s := x1.2.2.1
      have g1 : ∀ i, i < n0 → rO ρ3 q.1 i = ρ i := fun i hi => by
        unfold rO
        rw [ht3, ht1, List.append_assoc, List.getD_eq_getElem?_getD, List.getElem?_append_left (by rw [List.length_map, List.length_range]; exact hi), List.getElem?_map, List.getElem?_range hi]
        show lEv ρ3 (lSy i) = ρ i
        have hn : (aI NA).length ≤ sN s := hn
        rw [lSy_ev, hρ3 i (by omega), x1.1 i (show i < (aI NA).length by omega)]
      have g2 : ∀ i, i < mA → sO σA2 p.2 i = σA i := fun i hi => by
        unfold sO
        rw [ht2, List.getD_eq_getElem?_getD, List.getElem?_append_left (by rw [List.length_range]; exact hi), List.getElem?_range hi]
        show (if i < 1000000 then σA2 i else i) = σA i
        rw [if_pos (by omega)]
        exact x1.2.1 i (show i < (aG NA).length by omega)
      have hGB : (aG NB).length < 1000000 := (sBd_spec k1).1
      have g3 : ∀ i, i < mB → sO σB3 q.2 i = σB i := fun i hi => by
        unfold sO
        rw [ht4, List.getD_eq_getElem?_getD, List.getElem?_append_left (by rw [List.length_range]; exact hi), List.getElem?_range hi]
        show (if i < 1000000 then σB3 i else i) = σB i
        rw [if_pos (by omega)]
        exact w1.2.1 i (show i < (aG NB).length by omega)
      have g4 : o.2.2.2.2 = true → 0 ≤ lEv (rO ρ3 q.1) (aRk o.2.2.1) ∧ lEv (rO ρ3 q.1) (aRk o.2.2.1) < lEv ρ (aRk NA) := fun hfl => by
        rw [hfl] at w11
        simp only [Bool.not_true, Bool.false_or, Bool.and_eq_true] at w11
        have u1 := lGe_spec w4.2.2.2.1 w4.2.2.2.2.1 w11.1
        have u2 := lGe_spec w4.2.2.2.1 w4.2.2.2.2.1 w11.2
        have u3 : lEv ρ3 (aRk NA) = lEv ρ (aRk NA) := lBd_spec (n := (aI NA).length) (fun i hi => by
          have hn : (aI NA).length ≤ sN s := hn
          rw [hρ3 i (by omega), x1.1 i hi]) k2
        rw [lSb_ev] at u1
        rw [lSub_ev, lSub_ev, lSb_ev, lK_ev, u3] at u2
        exact ⟨u1, by omega⟩
      have g5 : eAt (rO ρ3 q.1) (sO σA2 p.2) o.1 BA (mMc qA) o.2.2.1 HA LA2 cA2 sA2 := by
        rw [o1]
        rcases e with _ | pe
        · exact x5.2
        · obtain ⟨x5, x6, x7, x8⟩ := x5
          have w9 := Bool.and_eq_true_iff.mp w9
          have u1 := lGe_spec w4.2.2.2.1 w4.2.2.2.2.1 w9.1
          have u2 := lGe_spec w4.2.2.2.1 w4.2.2.2.2.1 w9.2
          rw [lSub_ev, lSb_ev, hfr.2.2.1] at u1
          rw [lSub_ev, lSb_ev, hfr.2.2.2] at u2
          exact ⟨x5, m2 _ (hfr.1 _ x6), by omega, by omega⟩
      have g6 : eAt (rO ρ3 q.1) (sO σB3 q.2) o.2.1 BB (mMc qB) o.2.2.2.1 HB LB2 cB2 sB2 := by
        rw [o2]
        rcases eb with _ | pe
        · exact w5.2
        · obtain ⟨x5, x6, x7, x8⟩ := w5
          have w10 := Bool.and_eq_true_iff.mp w10
          have u1 := lGe_spec w4.2.2.2.1 w4.2.2.2.2.1 w10.1
          have u2 := lGe_spec w4.2.2.2.1 w4.2.2.2.2.1 w10.2
          rw [lSub_ev, lSb_ev] at u1 u2
          exact ⟨x5, r2 _ x6, by omega, by omega⟩
      obtain ⟨vA, H1, vB, H2, z1, z2, z3⟩ := hout o ho (rO ρ3 q.1) (sO σA2 p.2) (sO σB3 q.2) tyA2 tyB3 HA HB LA2 LB2 cA2 sA2 cB2 sB2 g1 g2 g3 g4 x2 w2 x3 w3 m1 r1 g5 g6
      rw [← m3, hfr.2.1, o1] at z1
      rw [← r3, o2] at z2
      exact ⟨vB, H2, z2, vA, H1, z1, z3⟩
    obtain ⟨vB, H2, z1, z2⟩ := vChk_spec (Post := fun vB H2 => ∃ vA H1, xE tb tyl ot e dA kA LA2 (S.map (cv ρ2 σA2)) HA cA2 sA2 vA H1 ∧ R vA H1 vB H2) hov hCT hrB f goB hqB hdB hBB hatB y4 (fun ρ3 σ3 ty3 HB s2 av w1 w2 w3 w4 w5 w6 => by
      obtain ⟨vB, H2, u1, u2⟩ := fin none ρ3 σ3 ty3 HB s2 [] av.toList (lK 0) (lK 0) [] 0 0 w1 w2 w3 w4 ⟨rfl, w5⟩ w6
      obtain ⟨u3, u4⟩ := u1
      have u5 : vB = av.map (cv ρ3 σ3) := optList (by rw [u3]; rcases av with _ | av <;> rfl)
      rw [← u5, ← u4]
      exact u2) (fun pc g hg ρ3 σ3 ty3 HB s2 L2 S2 cn2 sn2 LB2 cB2 sB2 w1 w2 w3 => by
      try dsimp only at hg
      split at hg
      · cases hg
        exact fin (some pc) ρ3 σ3 ty3 HB s2 L2 S2 cn2 sn2 LB2 cB2 sB2 w1 w2.2.1 w2.2.2.1 w2.2.2.2.1 ⟨w2.1, w2.2.2.2.2⟩ w3
      · cases hg)
    rw [hSB] at z1
    exact ⟨vB, H2, z1, z2⟩
  obtain ⟨vA, H1, z1, vB, H2, z2, z3⟩ := vChk_spec (Post := fun vA H1 => ∃ vB H2, x_To tb tyl ot dB kB pcB LB ((aS NB).map (cv ρ σB)) GB cB sB vB H2 ∧ R vA H1 vB H2) hov hCT hrA f goA hqA hdA hBA hatA k13 (fun ρ2 σ2 ty2 HA s av w1 w2 w3 w4 w5 w6 => by
    obtain ⟨vB, H2, u0, vA, H1, u1, u2⟩ := hb none ρ2 σ2 ty2 HA s [] av.toList (lK 0) (lK 0) [] 0 0 w1 w2 w3 w4 ⟨rfl, w5⟩ w6
    obtain ⟨u3, u4⟩ := u1
    have u5 : vA = av.map (cv ρ2 σ2) := optList (by rw [u3]; rcases av with _ | av <;> rfl)
    rw [← u5, ← u4]
    exact ⟨vB, H2, u0, u2⟩) (fun pc g hg ρ2 σ2 ty2 HA s L S cn sn LA2 cA2 sA2 w1 w2 w3 => by
    try dsimp only at hg
    split at hg
    · cases hg
      obtain ⟨vB, H2, u0, vA, H1, u1, u2⟩ := hb (some pc) ρ2 σ2 ty2 HA s L S cn sn LA2 cA2 sA2 w1 w2.2.1 w2.2.2.1 w2.2.2.2.1 ⟨w2.1, w2.2.2.2.2⟩ w3
      exact ⟨vA, H1, u1, vB, H2, u0, u2⟩
    · cases hg)
  exact ⟨vA, H1, vB, H2, z1, z2, z3⟩
end XPair
end
section
/-! A heap of two sorts of cells: each sort alone, and both again. -/
section XSplit
def tyP (p : Nat → Bool) (ty : Nat → Option Nat) : Nat → Option Nat := fun a => match ty a with
  | some c => if p c = true then some c else none
  | none => none
theorem tyP_iff {p : Nat → Bool} {ty : Nat → Option Nat} {a c : Nat} : tyP p ty a = some c ↔ ty a = some c ∧ p c = true := by
  unfold tyP
  rcases ty a with _ | d
  · exact ⟨fun h => (by cases h), fun h => (by cases h.1)⟩
  · dsimp only
    by_cases hp : p d = true
    · rw [if_pos hp]
      exact ⟨fun h => (by cases h; exact ⟨rfl, hp⟩), fun h => h.1⟩
    · rw [if_neg hp]
      exact ⟨fun h => (by cases h), fun h => (by
        obtain ⟨h1, h2⟩ := h
        cases h1
        exact absurd h2 hp)⟩
def zKp (ty : Nat → Option Nat) (H : List (XC Int32)) : List (XC Int32) := H.mapIdx (fun a z => if (ty a).isSome = true then z else zJ)
def zD (ty : Nat → Option Nat) (n : Nat) : Nat → Bool := fun a => decide (a < n) && (ty a).isNone
theorem zKp_len (ty : Nat → Option Nat) (H : List (XC Int32)) : (zKp ty H).length = H.length := List.length_mapIdx
theorem zKp_at (ty : Nat → Option Nat) (H : List (XC Int32)) (a : Nat) : (zKp ty H)[a]? = (H[a]?).map (fun z => if (ty a).isSome = true then z else zJ) := List.getElem?_mapIdx
theorem zKp_ty {ty : Nat → Option Nat} (H : List (XC Int32)) {a c : Nat} (h : ty a = some c) : (zKp ty H)[a]? = H[a]? := by
  rw [zKp_at, h]
  rcases H[a]? with _ | z <;> rfl
theorem zKp_tr (ty : Nat → Option Nat) (H : List (XC Int32)) : zTr (zD ty H.length) (zKp ty H) := fun a ha => by
  unfold zD at ha
  have h := Bool.and_eq_true_iff.mp ha
  have h1 := of_decide_eq_true h.1
  rw [zKp_at, List.getElem?_eq_getElem h1]
  rcases ht : ty a with _ | c
  · rfl
  · rw [ht] at h
    exact absurd h.2 (by simp)
theorem zKp_mx (ty : Nat → Option Nat) (H : List (XC Int32)) : zMx (zD ty H.length) H (zKp ty H) = H := List.ext_getElem? fun a => by
  rw [zMx_at, zKp_at]
  by_cases h1 : a < H.length
  · rw [List.getElem?_eq_getElem h1]
    unfold zD
    rw [decide_eq_true h1]
    rcases ht : ty a with _ | c <;> rfl
  · rw [List.getElem?_eq_none (by omega)]
    rfl
theorem zMx_old {D : Nat → Bool} {H0 G : List (XC Int32)} (h : zTr D G) {a : Nat} (ha : D a = true) (hl : a < H0.length) : (zMx D H0 G)[a]? = H0[a]? := by
  rw [zMx_at, h a ha, ha, List.getElem?_eq_getElem hl]
  rfl
def kClF (p : Nat → Bool) : vF → Bool
  | .inl _ => true
  | .inr q => p q.2
/-- kinds of one sort name kinds of that sort alone -/
def kCl (K : List vKd) (p : Nat → Bool) : Bool := (List.range K.length).all (fun c => !(p c) || (match K[c]? with
  | some (.inl o) => o.2.all (kClF p)
  | some (.inr o) => o.2.2.all (kClF p)
  | none => true))
theorem vFit_kp {p : Nat → Bool} {ty : Nat → Option Nat} {f : vF} {u : XV Int32} (h : vFit ty f u) (hf : kClF p f = true) : vFit (tyP p ty) f u := by
  rcases f with q | q <;> rcases u with x | (_ | a)
  · exact h
  · exact h
  · exact h
  · exact h
  · exact h
  · exact tyP_iff.mpr ⟨h, hf⟩
theorem vCell_kp {p : Nat → Bool} {ty : Nat → Option Nat} {K : List vKd} (hc : kCl K p = true) {c : Nat} (hp : p c = true) {kd : vKd} (hk : K[c]? = some kd) {z : XC Int32} (h : vCell ty kd z) : vCell (tyP p ty) kd z := by
  have h1 := List.all_eq_true.mp hc c (List.mem_range.mpr (List.getElem?_eq_some_iff.mp hk).1)
  rw [hp, hk] at h1
  rcases kd with o | o <;> rcases z with z | z
  · have h1 : o.2.all (kClF p) = true := by simpa using h1
    exact ⟨h.1, h.2.1, fun j f u a b => vFit_kp (h.2.2 j f u a b) (List.all_eq_true.mp h1 f (List.mem_of_getElem? a))⟩
  · exact h.elim
  · exact h.elim
  · have h1 : o.2.2.all (kClF p) = true := by simpa using h1
    exact ⟨h.1, h.2.1, fun j f u a b => vFit_kp (h.2.2 j f u a b) (List.all_eq_true.mp h1 f (List.mem_of_getElem? (show o.2.2[j % o.2.2.length]? = some f from a)))⟩
theorem vPlace_eq {ρ : Nat → Int} {σ : Nat → Nat} {H H2 : List (XC Int32)} {i : Nat} {key : Nat ⊕ lT} {u : XV Int32} (h : vPlace ρ σ H i key u) (e : H2[sR σ i]? = H[sR σ i]?) : vPlace ρ σ H2 i key u := by
  rcases key with j | k
  · obtain ⟨ci, fs, h1, h2⟩ := h
    exact ⟨ci, fs, by rw [e]; exact h1, h2⟩
  · obtain ⟨t, vs, h1, h0, h2⟩ := h
    exact ⟨t, vs, by rw [e]; exact h1, h0, h2⟩
/-- one sort alone -/
theorem vRel_kp {KT : vKT} {p : Nat → Bool} (hc : kCl KT.1 p = true) (hq : p KT.2.1.1 = true → p KT.2.1.2.2.2.1 = true) {ρ : Nat → Int} {σ : Nat → Nat} {ty : Nat → Option Nat} {H : List (XC Int32)} {s : vSt} (h : vRel KT ρ σ ty H s) (hg : (sG s).all p = true) (hf : (sF s).all (fun f => decide (f.1 < (sG s).length)) = true) : vRel KT ρ σ (tyP p ty) (zKp (tyP p ty) H) s := by
  obtain ⟨h1, h2, h3, h4, h5, h6, ⟨h7, h8⟩, h9⟩ := h
  have hs : ∀ i c, (sG s)[i]? = some c → tyP p ty (sR σ i) = some c := fun i c hi => tyP_iff.mpr ⟨h2 i c hi, List.all_eq_true.mp hg c (List.mem_of_getElem? hi)⟩
  refine ⟨fun a c ha => ?_, hs, fun f hm => ?_, h4, h5, h6, ⟨fun a ha => ?_, fun a t vs ha hH => ?_⟩, fun a c d ha hd => h9 a c d (tyP_iff.mp ha).1 hd⟩
  · obtain ⟨ha1, ha2⟩ := tyP_iff.mp ha
    obtain ⟨kd, z, k1, k2, k3⟩ := h1 a c ha1
    exact ⟨kd, z, k1, by rw [zKp_ty H ha]; exact k2, vCell_kp hc ha2 k1 k3⟩
  · have hl := of_decide_eq_true (List.all_eq_true.mp hf f hm)
    have hi : (sG s)[f.1]? = some ((sG s)[f.1]'hl) := List.getElem?_eq_getElem hl
    exact vPlace_eq (h3 f hm) (zKp_ty H (hs _ _ hi))
  · obtain ⟨ha1, ha2⟩ := tyP_iff.mp ha
    obtain ⟨ci, fs, n, b, t, vs, y1, y2, y3, y4, y5, y6⟩ := h7 a ha1
    have hb : tyP p ty b = some KT.2.1.2.2.2.1 := tyP_iff.mpr ⟨y4, hq ha2⟩
    exact ⟨ci, fs, n, b, t, vs, by rw [zKp_ty H ha]; exact y1, y2, y3, hb, by rw [zKp_ty H hb]; exact y5, y6⟩
  · exact h8 a t vs (tyP_iff.mp ha).1 (by rw [← zKp_ty H ha]; exact hH)
theorem vRel_pad {KT : vKT} {ρ : Nat → Int} {σ : Nat → Nat} {ty : Nat → Option Nat} {H : List (XC Int32)} {s : vSt} (h : vRel KT ρ σ ty H s) (hf : (sF s).all (fun f => decide (f.1 < (sG s).length)) = true) (l : List (XC Int32)) : vRel KT ρ σ ty (H ++ l) s := by
  obtain ⟨h1, h2, h3, h4, h5, h6, ⟨h7, h8⟩, h9⟩ := h
  have e : ∀ a c, ty a = some c → (H ++ l)[a]? = H[a]? := fun a c ha => List.getElem?_append_left (vHp_lt h1 ha)
  refine ⟨fun a c ha => ?_, h2, fun f hm => ?_, h4, h5, h6, ⟨fun a ha => ?_, fun a t vs ha hH => ?_⟩, h9⟩
  · obtain ⟨kd, z, k1, k2, k3⟩ := h1 a c ha
    exact ⟨kd, z, k1, by rw [e a c ha]; exact k2, k3⟩
  · have hl := of_decide_eq_true (List.all_eq_true.mp hf f hm)
    have hi : (sG s)[f.1]? = some ((sG s)[f.1]'hl) := List.getElem?_eq_getElem hl
    exact vPlace_eq (h3 f hm) (e _ _ (h2 _ _ hi))
  · obtain ⟨ci, fs, n, b, t, vs, y1, y2, y3, y4, y5, y6⟩ := h7 a ha
    exact ⟨ci, fs, n, b, t, vs, by rw [e a _ ha]; exact y1, y2, y3, y4, by rw [e b _ y4]; exact y5, y6⟩
  · exact h8 a t vs ha (by rw [← e a _ ha]; exact hH)
/-- both again: symbols of the second behind those of the first -/
def vShf (n : Nat) : vA → vA
  | .inr (some i) => .inr (some (if i < 1000000 then n + i else i))
  | v => v
def jSt (X Y : vAn) : vSt := ((aI X).length, aG X ++ aG Y, aF X ++ (aF Y).map (fun f => ((aG X).length + f.1, f.2.1, vShf (aG X).length f.2.2)), zipI 0 (aI X), aC X, aM X, [])
def sJo (n : Nat) (σA σB : Nat → Nat) (i : Nat) : Nat := if i < n then sR σA i else sR σB (i - n)
theorem vRel_jn {KT : vKT} {ρ : Nat → Int} {σA σB : Nat → Nat} {tyA tyB ty : Nat → Option Nat} {GA GB H : List (XC Int32)} {X Y : vAn} (hA : vRel KT ρ σA tyA GA (aSt X)) (hB : vRel KT ρ σB tyB GB (aSt Y)) (bX : aBd X = true) (bY : aBd Y = true) (hn : (aG X).length + (aG Y).length < 1000000)
    (h1 : ∀ a c, tyA a = some c → ty a = some c ∧ H[a]? = GA[a]?) (h2 : ∀ a c, tyB a = some c → ty a = some c ∧ H[a]? = GB[a]?) (h3 : ∀ a c, ty a = some c → tyA a = some c ∨ tyB a = some c) : vRel KT ρ (sJo (aG X).length σA σB) ty H (jSt X Y) := by
  obtain ⟨a1, a2, a3, a4, a5, a6, ⟨a7, a8⟩, a9⟩ := hA
  obtain ⟨b1, b2, b3, b4, b5, b6, ⟨b7, b8⟩, b9⟩ := hB
  have sA : ∀ i, i < (aG X).length → sR (sJo (aG X).length σA σB) i = sR σA i := fun i hi => by
    show (if i < 1000000 then sJo (aG X).length σA σB i else i) = _
    rw [if_pos (by omega)]
    exact if_pos hi
  have sB : ∀ i, i < (aG Y).length → sR (sJo (aG X).length σA σB) ((aG X).length + i) = sR σB i := fun i hi => by
    show (if (aG X).length + i < 1000000 then sJo (aG X).length σA σB ((aG X).length + i) else (aG X).length + i) = _
    rw [if_pos (by omega)]
    unfold sJo
    rw [if_neg (by omega), Nat.add_sub_cancel_left]
  unfold aBd at bX bY
  simp only [Bool.and_eq_true] at bX bY
  have cA : ∀ v, vBd (aI X).length (aG X).length v = true → cv ρ (sJo (aG X).length σA σB) v = cv ρ σA v := fun v hv => by
    rcases v with e | (_ | i)
    · rfl
    · rfl
    · have hv : (decide (i < (aG X).length) || decide (1000000 ≤ i)) = true := hv
      show (Sum.inr (some (sR _ i)) : XV Int32) = .inr (some (sR σA i))
      rcases Bool.or_eq_true_iff.mp hv with hv | hv
      · rw [sA i (of_decide_eq_true hv)]
      · have := of_decide_eq_true hv
        unfold sR
        rw [if_neg (by omega), if_neg (by omega)]
  have cB : ∀ v, vBd (aI Y).length (aG Y).length v = true → cv ρ (sJo (aG X).length σA σB) (vShf (aG X).length v) = cv ρ σB v := fun v hv => by
    rcases v with e | (_ | i)
    · rfl
    · rfl
    · have hv : (decide (i < (aG Y).length) || decide (1000000 ≤ i)) = true := hv
      show (Sum.inr (some (sR _ (if i < 1000000 then (aG X).length + i else i))) : XV Int32) = .inr (some (sR σB i))
      rcases Bool.or_eq_true_iff.mp hv with hv | hv
      · have hv := of_decide_eq_true hv
        rw [if_pos (by omega), sB i hv]
      · have := of_decide_eq_true hv
        rw [if_neg (by omega)]
        unfold sR
        rw [if_neg (by omega), if_neg (by omega)]
  refine ⟨fun a c ha => ?_, fun i c hc => ?_, fun f hm => ?_, a4, a5, a6, ⟨fun a ha => ?_, fun a t vs ha hH => ?_⟩, fun a c d ha hd => ?_⟩
  · rcases h3 a c ha with h | h
    · obtain ⟨kd, z, k1, k2, k3⟩ := a1 a c h
      exact ⟨kd, z, k1, by rw [(h1 a c h).2]; exact k2, vCell_le (fun x y hx => (h1 x y hx).1) k3⟩
    · obtain ⟨kd, z, k1, k2, k3⟩ := b1 a c h
      exact ⟨kd, z, k1, by rw [(h2 a c h).2]; exact k2, vCell_le (fun x y hx => (h2 x y hx).1) k3⟩
  · have hc : (aG X ++ aG Y)[i]? = some c := hc
    by_cases hi : i < (aG X).length
    · rw [List.getElem?_append_left hi] at hc
      rw [sA i hi]
      exact (h1 _ _ (a2 i c hc)).1
    · rw [List.getElem?_append_right (by omega)] at hc
      have hl := (List.getElem?_eq_some_iff.mp hc).1
      have e : i = (aG X).length + (i - (aG X).length) := by omega
      rw [e, sB _ hl]
      exact (h2 _ _ (b2 _ c hc)).1
  · rcases List.mem_append.mp hm with hm | hm
    · have h0 := List.all_eq_true.mp bX.1.1.1.1 f hm
      simp only [Bool.and_eq_true] at h0
      have hl := of_decide_eq_true h0.1.1
      have hi : (aG X)[f.1]? = some ((aG X)[f.1]'hl) := List.getElem?_eq_getElem hl
      have h4 : vPlace ρ σA GA f.1 f.2.1 (cv ρ σA f.2.2) := a3 f hm
      have h5 := vPlace_eq (H2 := H) h4 (h1 _ _ (a2 _ _ hi)).2
      show vPlace ρ (sJo (aG X).length σA σB) H f.1 f.2.1 (cv ρ (sJo (aG X).length σA σB) f.2.2)
      rw [cA _ h0.2]
      obtain ⟨i, key, v⟩ := f
      rcases key with j | k
      · obtain ⟨ci, fs, y1, y2⟩ := h5
        exact ⟨ci, fs, by rw [sA i hl]; exact y1, y2⟩
      · obtain ⟨t, vs, y1, y0, y2⟩ := h5
        exact ⟨t, vs, by rw [sA i hl]; exact y1, y0, y2⟩
    · obtain ⟨g, hg, rfl⟩ := List.mem_map.mp hm
      have h0 := List.all_eq_true.mp bY.1.1.1.1 g hg
      simp only [Bool.and_eq_true] at h0
      have hl := of_decide_eq_true h0.1.1
      have hi : (aG Y)[g.1]? = some ((aG Y)[g.1]'hl) := List.getElem?_eq_getElem hl
      have h4 : vPlace ρ σB GB g.1 g.2.1 (cv ρ σB g.2.2) := b3 g hg
      have h5 := vPlace_eq (H2 := H) h4 (h2 _ _ (b2 _ _ hi)).2
      show vPlace ρ (sJo (aG X).length σA σB) H ((aG X).length + g.1) g.2.1 (cv ρ (sJo (aG X).length σA σB) (vShf (aG X).length g.2.2))
      rw [cB _ h0.2]
      obtain ⟨i, key, v⟩ := g
      rcases key with j | k
      · obtain ⟨ci, fs, y1, y2⟩ := h5
        exact ⟨ci, fs, by rw [sB i hl]; exact y1, y2⟩
      · obtain ⟨t, vs, y1, y0, y2⟩ := h5
        exact ⟨t, vs, by rw [sB i hl]; exact y1, y0, y2⟩
  · rcases h3 a _ ha with h | h
    · obtain ⟨ci, fs, n, b, t, vs, y1, y2, y3, y4, y5, y6⟩ := a7 a h
      exact ⟨ci, fs, n, b, t, vs, by rw [(h1 a _ h).2]; exact y1, y2, y3, (h1 b _ y4).1, by rw [(h1 b _ y4).2]; exact y5, y6⟩
    · obtain ⟨ci, fs, n, b, t, vs, y1, y2, y3, y4, y5, y6⟩ := b7 a h
      exact ⟨ci, fs, n, b, t, vs, by rw [(h2 a _ h).2]; exact y1, y2, y3, (h2 b _ y4).1, by rw [(h2 b _ y4).2]; exact y5, y6⟩
  · rcases h3 a _ ha with h | h
    · exact a8 a t vs h (by rw [← (h1 a _ h).2]; exact hH)
    · exact b8 a t vs h (by rw [← (h2 a _ h).2]; exact hH)
  · rcases h3 a c ha with h | h
    · obtain ⟨i, hi, -⟩ := a9 a c d h hd
      cases hi
    · obtain ⟨i, hi, -⟩ := b9 a c d h hd
      cases hi
/-- a run on its own cells is that run on all -/
theorem x_To_fr {tb : XT} {tyl : List FieldType} {ot : XO Int32} {dp k pc cn sn : Nat} {L : List (Nat × XV Int32)} {S : List (XV Int32)} {v : Option (XV Int32)} {G G2 HX : List (XC Int32)} {D : Nat → Bool} (h : x_To tb tyl ot dp k pc L S G cn sn v G2) (ht : zTr D G) (hm : zMx D HX G = HX) : x_To tb tyl ot dp k pc L S HX cn sn v (zMx D HX G2) ∧ zTr D G2 := by
  obtain ⟨f1, h⟩ := h
  obtain ⟨t0, -⟩ := h f1 (Nat.le_refl _) D HX ht
  have hlen : HX.length = G.length := by
    rw [← hm, zMx_len]
  refine ⟨⟨f1, fun f hf D2 H3 ht2 => ?_⟩, t0⟩
  have hg : ∀ a, D a = false → HX[a]? = G[a]? := fun a ha => by
    rw [← hm, zMx_get HX ha]
  have hx : ∀ a, D a = true → ∃ z, HX[a]? = some z := fun a ha => ⟨_, List.getElem?_eq_getElem (by rw [hlen]; exact zTr_lt ht ha)⟩
  have ht3 : zTr (fun a => D a || D2 a) G := fun a ha => by
    rcases hd : D a with _ | _
    · rw [← hg a hd]
      exact ht2 a (by simpa [hd] using ha)
    · exact ht a hd
  have e1 : zMx (fun a => D a || D2 a) (zMx D2 H3 HX) G = zMx D2 H3 HX := List.ext_getElem? fun a => by
    rw [zMx_at]
    rcases hd : D a with _ | _
    · rw [← hg a hd]
      rcases hd2 : D2 a with _ | _
      · rw [zMx_get H3 hd2]
        rcases HX[a]? with _ | z <;> rfl
      · rw [zMx_at, ht2 a hd2, hd2]
        rfl
    · obtain ⟨z, hz⟩ := hx a hd
      rw [ht a hd, zMx_at, hz]
      rcases D2 a <;> rfl
  obtain ⟨t1, h1⟩ := h f hf (fun a => D a || D2 a) (zMx D2 H3 HX) ht3
  have e2 : zMx (fun a => D a || D2 a) (zMx D2 H3 HX) G2 = zMx D2 H3 (zMx D HX G2) := List.ext_getElem? fun a => by
    rcases hd : D a with _ | _
    · rcases hd2 : D2 a with _ | _
      · rw [zMx_get (D := fun a => D a || D2 a) _ (show (D a || D2 a) = false by rw [hd, hd2]; rfl), zMx_get H3 hd2, zMx_get HX hd]
      · have g2 : G2[a]? = some zJ := t1 a (show (D a || D2 a) = true by rw [hd, hd2]; rfl)
        rw [zMx_at, g2, zMx_at D2 H3 (zMx D HX G2), zMx_get HX hd, g2, zMx_at D2 H3 HX, ht2 a hd2]
        simp [hd2]
    · obtain ⟨z, hz⟩ := hx a hd
      rw [zMx_at, t0 a hd, zMx_at D2 H3 (zMx D HX G2), zMx_at D HX G2, t0 a hd, zMx_at D2 H3 HX, hz]
      simp [hd]
  refine ⟨fun a ha => ?_, fun w post => ?_⟩
  · rcases hd : D a with _ | _
    · rw [zMx_get HX hd]
      exact t1 a (show (D a || D2 a) = true by rw [hd, ha]; rfl)
    · obtain ⟨z, hz⟩ := hx a hd
      rw [zMx_at, t0 a hd, hd, hz]
      show some z = some zJ
      rw [← hz]
      exact ht2 a ha
  · have h2 := h1 w post
    rw [e1, e2] at h2
    exact h2
/-- one behind the other, on all cells -/
theorem pSeq {tb : XT} {tyl : List FieldType} {ot : XO Int32} {dA dB kA kB : Nat} {LA LB : List (Nat × XV Int32)} {SA SB : List (XV Int32)} {tyA tyB : Nat → Option Nat} {H : List (XC Int32)} (hAB : ∀ a c, tyB a = some c → tyA a = none ∧ a < H.length)
    {Q : Option (XV Int32) → List (XC Int32) → Option (XV Int32) → List (XC Int32) → Prop} (hlen : ∀ vA H1 vB H2, Q vA H1 vB H2 → ∀ a c, tyA a = some c → a < H1.length)
    (hP : ∀ n, ∃ vA H1 vB H2, x_To tb tyl ot dA kA 0 LA SA (zKp tyA H) 0 0 vA H1 ∧ x_To tb tyl ot dB kB 0 LB SB (zKp tyB H ++ List.replicate n zJ) 0 0 vB H2 ∧ Q vA H1 vB H2) :
    ∃ vA H1 vB H2 HA HH, x_To tb tyl ot dA kA 0 LA SA H 0 0 vA HA ∧ x_To tb tyl ot dB kB 0 LB SB HA 0 0 vB HH ∧ Q vA H1 vB H2 ∧ HA.length = H1.length ∧ H.length ≤ H1.length ∧ HH.length = H2.length ∧ (∀ a, (a < H.length ∧ tyA a = none → HA[a]? = H[a]?) ∧ (¬ (a < H.length ∧ tyA a = none) → HA[a]? = H1[a]?)) ∧ (∀ a, (a < HA.length ∧ tyB a = none → HH[a]? = HA[a]?) ∧ (¬ (a < HA.length ∧ tyB a = none) → HH[a]? = H2[a]?)) := by
  obtain ⟨vA, H1, v0, H0, p1, -, p3⟩ := hP 0
  obtain ⟨wA, J1, vB, H2, q1, q2, q3⟩ := hP (H1.length - H.length)
  obtain ⟨e1, e2⟩ := x_To_one p1 q1
  subst e1
  subst e2
  have dT : ∀ (ty : Nat → Option Nat) (n a : Nat), a < n ∧ ty a = none → zD ty n a = true := fun ty n a h => by
    unfold zD
    rw [decide_eq_true h.1, h.2]
    rfl
  have dF : ∀ (ty : Nat → Option Nat) (n a : Nat), ¬ (a < n ∧ ty a = none) → zD ty n a = false := fun ty n a h => by
    unfold zD
    by_cases c : a < n
    · rw [decide_eq_true c]
      rcases ht : ty a with _ | d
      · exact absurd ⟨c, ht⟩ h
      · rfl
    · rw [decide_eq_false c]
      rfl
  obtain ⟨a1, a2⟩ := x_To_fr p1 (zKp_tr tyA H) (zKp_mx tyA H)
  have hle : H.length ≤ J1.length := Classical.byContradiction fun hc => by
    rcases ht : tyA J1.length with _ | c
    · exact absurd (zTr_lt a2 (dT tyA H.length J1.length ⟨by omega, ht⟩)) (by omega)
    · exact absurd (hlen _ _ _ _ q3 _ c ht) (by omega)
  have hA1 : ∀ a, a < H.length ∧ tyA a = none → (zMx (zD tyA H.length) H J1)[a]? = H[a]? := fun a h => zMx_old a2 (dT _ _ _ h) h.1
  have hA2 : ∀ a, ¬ (a < H.length ∧ tyA a = none) → (zMx (zD tyA H.length) H J1)[a]? = J1[a]? := fun a h => zMx_get H (dF _ _ _ h)
  have hlA : (zMx (zD tyA H.length) H J1).length = J1.length := zMx_len _ _ _
  have hG : ∀ a, tyB a = none → a < J1.length → (zKp tyB H ++ List.replicate (J1.length - H.length) zJ)[a]? = some zJ := fun a h1 h2 => by
    by_cases c : a < H.length
    · rw [List.getElem?_append_left (by rw [zKp_len]; exact c)]
      exact zKp_tr tyB H a (dT tyB H.length a ⟨c, h1⟩)
    · rw [List.getElem?_append_right (by rw [zKp_len]; omega), zKp_len, List.getElem?_replicate, if_pos (by omega)]
  obtain ⟨b1, b2⟩ := x_To_fr (D := zD tyB J1.length) (HX := zMx (zD tyA H.length) H J1) q2 (fun a ha => by
      unfold zD at ha
      have h := Bool.and_eq_true_iff.mp ha
      exact hG a (by simpa using h.2) (of_decide_eq_true h.1)) (List.ext_getElem? fun a => by
      by_cases c : a < J1.length
      · rcases ht : tyB a with _ | d
        · rw [zMx_at, hG a ht c, dT tyB J1.length a ⟨c, ht⟩, List.getElem?_eq_getElem (by rw [hlA]; exact c)]
          rfl
        · obtain ⟨g1, g2⟩ := hAB a d ht
          rw [zMx_get _ (dF tyB J1.length a (fun h => by rw [ht] at h; cases h.2)), hA1 a ⟨g2, g1⟩, List.getElem?_append_left (by rw [zKp_len]; exact g2), zKp_ty H ht]
      · rw [List.getElem?_eq_none (by rw [zMx_len, List.length_append, zKp_len, List.length_replicate]; omega), List.getElem?_eq_none (by rw [hlA]; omega)])
  refine ⟨_, J1, vB, H2, _, _, a1, b1, q3, hlA, hle, zMx_len _ _ _, fun a => ⟨hA1 a, hA2 a⟩, fun a => ⟨fun h => ?_, fun h => ?_⟩⟩
  · rw [hlA] at h
    exact zMx_old b2 (dT _ _ _ h) (by rw [hlA]; exact h.1)
  · rw [hlA] at h
    exact zMx_get _ (dF _ _ _ h)
end XSplit
end
section
/-! The law's loop, checked: some blocks of it are proved by themselves; a fact of the heap is kept beside the note. -/
section XLaw3
def cHdOk (KT : vKT) (tb : XT) (tyl : List FieldType) (ot : XO Int32) (W : List (Nat × Nat)) (ty0 : Nat → Option Nat) (H0 : List (XC Int32)) (B dp : Nat) (s : vSt) (ρ : Nat → Int) (σ : Nat → Nat) (cu0 : vCu) (Post : Option (XV Int32) → List (XC Int32) → Prop) : Prop := ∀ pc g, cu0 pc = some g → vHdOk KT tb tyl ot W ty0 H0 B dp pc s ρ σ g Post
def vLw3 (KT : vKT) (tb : XT) (tyl : List FieldType) (ov : vOt) (CT : Nat → List vCt) (hs : Nat → Nat → Option (List vHn)) (kn : Nat → Nat → Option Nat) (W : List (Nat × Nat)) (dp : Nat) (cu0 : vCu) (ret : vSt → Option vA → Bool) : Nat → Nat → List (lT × lT) → Nat → List (Nat × vA) → List vA → vSt → lT → lT → Bool
  | 0, _, _, _, _, _, _, _, _ => false
  | f + 1, go, R, pc, L, S, s, cn, sn => vChk KT tb tyl ov CT hs kn W 4000 go dp 0 pc L S s cn sn (fun pc2 => match cu0 pc2 with | some g => some g | none => match (match tMth tb 0 with | some q => mC q pc2 | none => none) with
      | some (.iaload, _) => some (fun L2 S2 s2 cn2 sn2 => match S2 with
        | .inl e :: .inr (some a) :: r => decide (a = 1000000) && lGe (sI s2) (sC s2) e && lGe (sI s2) (sC s2) (lSub (lSub (lSy 0) e) (lK 1)) && (match lFnd e R with
          | some t => vLw3 KT tb tyl ov CT hs kn W dp cu0 ret f 0 R (pc2 + 1) L2 (.inl t :: r) s2 cn2 sn2
          | none => sBd s2 && vFr L2 r cn2 sn2 s2 && lBd (sN s2) e && vLw3 KT tb tyl ov CT hs kn W dp cu0 ret f 0 ((e, lSy (sN s2)) :: R) (pc2 + 1) L2 (.inl (lSy (sN s2)) :: r) (vNi vTop s2) cn2 sn2)
        | _ => false)
      | some (.arraylength, _) => some (fun L2 S2 s2 cn2 sn2 => match S2 with
        | .inr (some a) :: r => decide (a = 1000000) && vLw3 KT tb tyl ov CT hs kn W dp cu0 ret f 0 R (pc2 + 1) L2 (.inl (lSy 0) :: r) s2 cn2 sn2
        | _ => false)
      | _ => none) ret
theorem vLw3_spec {KT : vKT} {tb : XT} {tyl : List FieldType} {ot : XO Int32} {CT : Nat → List vCt} {hs : Nat → Nat → Option (List vHn)} {kn : Nat → Nat → Option Nat} {W : List (Nat × Nat)} {dp dp2 : Nat} {cu0 : vCu} {ret : vSt → Option vA → Bool} {q : XM} {B : Nat} {Post : Option (XV Int32) → List (XC Int32) → Prop} (hCT : ∀ j c, c ∈ CT j → vCtSem KT tb tyl ot j c) {ty0 : Nat → Option Nat} {H0 : List (XC Int32)} (hr0 : ∀ a c, ty0 a = some c → kRaw KT c = none) (hq : tMth tb 0 = some q) (hdp : dp ≤ dp2) (hB : B + mMc q ≤ 1000000) (hn : oSn ot < 1000000) :
    ∀ (f go : Nat) {R : List (lT × lT)} {pc : Nat} {L : List (Nat × vA)} {S : List vA} {s : vSt} {cn sn : lT} {ρ : Nat → Int} {σ : Nat → Nat} {ty : Nat → Option Nat} {H : List (XC Int32)} {Lc : List (Nat × XV Int32)} {cn2 sn2 : Nat},
      vAt KT W ty0 H0 B L s cn sn ρ σ ty H Lc cn2 sn2 → ρ 0 = (oSn ot : Int) → 0 < sN s → vRds ot (sN s) ρ R → vLw3 KT tb tyl (o4 ot) CT hs kn W dp cu0 ret f go R pc L S s cn sn = true → vRetOk KT W ty0 H0 (B + mMc q) s ρ σ ret Post → cHdOk KT tb tyl ot W ty0 H0 B dp2 s ρ σ cu0 Post →
      ∃ v H2, x_To tb tyl ot dp2 0 pc Lc (S.map (cv ρ σ)) H cn2 sn2 v H2 ∧ Post v H2
  | 0, _, _, _, _, _, _, _, _, _, _, _, _, _, _, _, _, _, _, _, hk, _, _ => by cases hk
  | f + 1, go, R, pc, L, S, s, cn, sn, ρ, σ, ty, H, Lc, cn2, sn2, hat, h0, hs0, hR, hk, hret, hhd => by
    unfold vLw3 at hk
    refine vChk_spec (vOvLe_rf (o4 ot)) hCT hr0 4000 go hq hdp hB hat hk hret ?_
    intro pc2 g hg ρ2 σ2 ty2 H2 s2 L2 S2 cn3 sn3 Lc2 cn4 sn4 e1 e2 e3
    dsimp only at hg
    rcases hcu : cu0 pc2 with _ | g2
    rotate_left
    · rw [hcu] at hg
      cases hg
      exact hhd pc2 _ hcu ρ2 σ2 ty2 H2 s2 L2 S2 cn3 sn3 Lc2 cn4 sn4 e1 e2 e3
    rw [hcu, hq] at hg
    dsimp only at hg
    have z0 : ρ2 0 = (oSn ot : Int) := (e1.1 0 hs0).trans h0
    have zs : 0 < sN s2 := Nat.lt_of_lt_of_le hs0 e1.2.2.1
    have hR2 : vRds ot (sN s2) ρ2 R := vRds_ext hR e1.1 e1.2.2.1
    have hret2 := vRetOk_ext e1 hret
    have hhd2 : cHdOk KT tb tyl ot W ty0 H0 B dp2 s2 ρ2 σ2 cu0 Post := fun pcX gX hX ρ3 σ3 ty3 H3 s3 L3 S3 c5 c6 Lc3 c7 c8 y1 y2 y3 => hhd pcX gX hX ρ3 σ3 ty3 H3 s3 L3 S3 c5 c6 Lc3 c7 c8 (vExt_tr e1 y1) y2 y3
    have hsr : ∀ τ : Nat → Nat, sR τ 1000000 = 1000000 := fun τ => if_neg (Nat.lt_irrefl _)
    split at hg
    · rename_i n hi
      cases hg
      dsimp only at e3
      split at e3
      rotate_left
      · cases e3
      rename_i e a r
      simp only [Bool.and_eq_true] at e3
      obtain ⟨⟨⟨k1, k2⟩, k3⟩, k6⟩ := e3
      have k1 : a = 1000000 := of_decide_eq_true k1
      subst k1
      have k2 := lGe_spec e2.2.2.2.1.2.2.2.1 e2.2.2.2.1.2.2.2.2.1 k2
      have k3 := lGe_spec e2.2.2.2.1.2.2.2.1 e2.2.2.2.1.2.2.2.2.1 k3
      rw [lSub_ev, lSub_ev, lSy_ev, lK_ev, z0] at k3
      have ei : (Int32.ofInt (lEv ρ2 e)).toInt = lEv ρ2 e := ofInt_toInt (by omega) (by omega)
      have eN : (Int32.ofInt (lEv ρ2 e)).toNatClampNeg = (lEv ρ2 e).toNat := by
        show (Int32.ofInt (lEv ρ2 e)).toInt.toNat = _
        rw [ei]
      have nxt : ∃ v H3, x_To tb tyl ot dp2 0 (pc2 + 1) Lc2 (.inl (oSc ot (lEv ρ2 e).toNat) :: r.map (cv ρ2 σ2)) H2 cn4 sn4 v H3 ∧ Post v H3 := by
        rcases hf : lFnd e R with _ | t
        · rw [hf] at k6
          dsimp only at k6
          simp only [Bool.and_eq_true] at k6
          obtain ⟨⟨⟨k4, k5⟩, k7⟩, k6⟩ := k6
          have hx := vTop_spec (oSc ot (lEv ρ2 e).toNat)
          obtain ⟨ρ3, g1, g2, g3⟩ := vNi_spec e2.2.2.2.1 k4 (p := vTop) (x := (oSc ot (lEv ρ2 e).toNat).toInt) hx
          have g4 := vFr_spec g1 k5
          have hat3 := vAt_ext e2 g2 g4
          have hR3 : vRds ot (sN (vNi vTop s2)) ρ3 ((e, lSy (sN s2)) :: R) := fun p hp => by
            rcases List.mem_cons.mp hp with rfl | hp
            · refine ⟨lBds_le (Nat.le_succ _) _ k7, ?_, ?_⟩
              · show (decide (sN s2 < sN s2 + 1) && true) = true
                rw [decide_eq_true (Nat.lt_succ_self _)]
                rfl
              · show oSc ot (lEv ρ3 e).toNat = Int32.ofInt (lEv ρ3 (lSy (sN s2)))
                rw [lBd_spec g1.1 k7, lSy_ev, g3, Int32.ofInt_toInt]
            · exact vRds_ext hR2 g1.1 g1.2.2.1 p hp
          obtain ⟨v, H3, h1, h2⟩ := vLw3_spec hCT hr0 hq hdp hB hn f 0 hat3 ((g1.1 0 zs).trans z0) (Nat.lt_of_lt_of_le zs g1.2.2.1) hR3 k6 (vRetOk_ext g1 hret2) (fun pcX gX hX ρ3 σ3 ty3 H3 s3 L3 S3 c5 c6 Lc3 c7 c8 y1 y2 y3 => hhd2 pcX gX hX ρ3 σ3 ty3 H3 s3 L3 S3 c5 c6 Lc3 c7 c8 (vExt_tr g1 y1) y2 y3)
          refine ⟨v, H3, ?_, h2⟩
          rw [List.map_cons, g4.2.1, show cv ρ3 σ2 (.inl (lSy (sN s2))) = .inl (oSc ot (lEv ρ2 e).toNat) from congrArg Sum.inl (by rw [lSy_ev, g3, Int32.ofInt_toInt])] at h1
          exact h1
        · rw [hf] at k6
          dsimp only at k6
          obtain ⟨v, H3, h1, h2⟩ := vLw3_spec hCT hr0 hq hdp hB hn f 0 e2 z0 zs hR2 k6 hret2 hhd2
          refine ⟨v, H3, ?_, h2⟩
          have ht := (hR2 _ (lFnd_spec hf)).2.2
          rw [List.map_cons, show cv ρ2 σ2 (.inl t) = .inl (oSc ot (lEv ρ2 e).toNat) from congrArg Sum.inl ht.symm] at h1
          exact h1
      obtain ⟨v, H3, h1, h2⟩ := nxt
      refine ⟨v, H3, ?_, h2⟩
      have hneg : ¬ Int32.ofInt (lEv ρ2 e) < 0 := fun z => by
        have z2 : (Int32.ofInt (lEv ρ2 e)).toInt < (0 : Int) := Int32.lt_iff_toInt_lt.mp z
        omega
      have key : x_To tb tyl ot dp2 0 pc2 Lc2 (.inl (Int32.ofInt (lEv ρ2 e)) :: .inr (some 1000000) :: r.map (cv ρ2 σ2)) H2 cn4 sn4 v H3 := by
        refine xT_ialoadS hq hi ?_ ?_
        · rw [decide_eq_false hneg, eN]
          exact decide_eq_false (by omega)
        · rw [eN]
          exact h1
      have em : (Sum.inl e :: Sum.inr (some 1000000) :: r : List vA).map (cv ρ2 σ2) = .inl (Int32.ofInt (lEv ρ2 e)) :: .inr (some 1000000) :: r.map (cv ρ2 σ2) := by
        rw [List.map_cons, List.map_cons]
        show _ :: Sum.inr (some (sR σ2 1000000)) :: _ = _
        rw [hsr]
        rfl
      rw [em]
      exact key
    · rename_i n hi
      cases hg
      dsimp only at e3
      split at e3
      rotate_left
      · cases e3
      rename_i a r
      simp only [Bool.and_eq_true] at e3
      obtain ⟨k1, k6⟩ := e3
      have k1 : a = 1000000 := of_decide_eq_true k1
      subst k1
      obtain ⟨v, H3, h1, h2⟩ := vLw3_spec hCT hr0 hq hdp hB hn f 0 e2 z0 zs hR2 k6 hret2 hhd2
      refine ⟨v, H3, ?_, h2⟩
      have key : x_To tb tyl ot dp2 0 pc2 Lc2 (.inr (some 1000000) :: r.map (cv ρ2 σ2)) H2 cn4 sn4 v H3 := by
        refine xT_arraylengthS hq hi ?_
        rw [List.map_cons, show cv ρ2 σ2 (.inl (lSy 0)) = .inl (Int32.ofNat (oSn ot)) from congrArg Sum.inl (by rw [lSy_ev, z0]; rfl)] at h1
        exact h1
      have em : (Sum.inr (some 1000000) :: r : List vA).map (cv ρ2 σ2) = .inr (some 1000000) :: r.map (cv ρ2 σ2) := by
        rw [List.map_cons]
        show Sum.inr (some (sR σ2 1000000)) :: _ = _
        rw [hsr]
      rw [em]
      exact key
    · cases hg
def lwG3 (m0 : Nat) (N : vAn) (W : List (Nat × Nat)) (L : List (Nat × vA)) (S : List vA) (s0 : vSt) (cn sn : lT) : Bool := (fun s => vHit 1 m0 W none L S s cn sn N && (match x_lk L 3 with
  | some (.inl t) => lQ (sI s) (sC s) t (lAdd (lSy 1) (lK 7))
  | _ => false)) (sPl s0)
def lwC3 (N : vAn) (L : List (Nat × vA)) (S : List vA) (s : vSt) (cn sn : lT) : Bool := vMc N ((List.range (aI N).length).map lSy) (List.range (aG N).length) L S s && lGe (sI s) (sC s) (lSub (lSub (lSy 0) (lSy 1)) (lK 7)) && lGe (sI s) (sC s) (lSub (aCn N) cn) && lGe (sI s) (sC s) (lSub (aSn N) sn)
def lwU (m0 : Nat) (N : vAn) (W : List (Nat × Nat)) (hd : Nat) (cb : List Nat) : vCu := fun pc => if pc = hd then some (lwG3 m0 N W) else if decide (pc ∈ cb) = true then some (lwC3 N) else none
/-- the state at the head, or at a block that is proved by itself -/
def lwAt (KT : vKT) (ot : XO Int32) (N : vAn) (P : (Nat → Nat) → (Nat → Option Nat) → List (XC Int32) → Prop) (ρ : Nat → Int) (σ : Nat → Nat) (ty : Nat → Option Nat) (H : List (XC Int32)) (Lc : List (Nat × XV Int32)) (cn2 sn2 : Nat) : Prop :=
  ρ 0 = (oSn ot : Int) ∧ H.length ≤ cn2 ∧ H.length ≤ 1000000 ∧ vRel KT ρ σ ty H (aSt N) ∧ vCov ρ σ (aL N) Lc ∧ (cn2 : Int) ≤ lEv ρ (aCn N) ∧ (sn2 : Int) ≤ lEv ρ (aSn N) ∧ P σ ty H
theorem vLaw3_spec {KT : vKT} {tb : XT} {tyl : List FieldType} {ot : XO Int32} {CT : Nat → List vCt} {hs : Nat → Nat → Option (List vHn)} {kn : Nat → Nat → Option Nat} {W : List (Nat × Nat)} {hd dp dp2 f : Nat} {q : XM} (hCT : ∀ j c, c ∈ CT j → vCtSem KT tb tyl ot j c) {m0 : Nat} {cb : List Nat} {P : (Nat → Nat) → (Nat → Option Nat) → List (XC Int32) → Prop} (hq : tMth tb 0 = some q) (hdp : dp ≤ dp2) (hB : 0 + mMc q ≤ 1000000) (hn : oSn ot < 1000000) {N : vAn} (hN : lwOk N = true) (n6 : lBd (aI N).length (aCn N) = true) (n7 : lBd (aI N).length (aSn N) = true) (hm0 : m0 ≤ (aG N).length) (hk : vLw3 KT tb tyl (o4 ot) CT hs kn W dp (lwU m0 N W hd cb) lwR f 1 [] hd (aL N) (aS N) (aSt N) (aCn N) (aSn N) = true)
    (hP : ∀ ρ σ ty H ρ2 σ2 ty2 H2, vRel KT ρ σ ty H (aSt N) → P σ ty H → (∀ i, i < m0 → σ2 i = σ i) → vLe ty ty2 → vFrm W ty H H2 → vRel KT ρ2 σ2 ty2 H2 (aSt N) → P σ2 ty2 H2)
    (hCb : ∀ pc ∈ cb, ∀ ρ σ ty H Lc cn2 sn2, lwAt KT ot N P ρ σ ty H Lc cn2 sn2 → 0 ≤ ρ 1 → ρ 1 + 7 ≤ ρ 0 → (∀ ρ2 σ2 ty2 H2 Lc2 cn3 sn3, ρ2 1 = ρ 1 + 7 → lwAt KT ot N P ρ2 σ2 ty2 H2 Lc2 cn3 sn3 → ∃ H3, x_To tb tyl ot dp2 0 hd Lc2 [] H2 cn3 sn3 (some (.inl 1)) H3) → ∃ H3, x_To tb tyl ot dp2 0 pc Lc [] H cn2 sn2 (some (.inl 1)) H3) :
    ∀ (m : Nat) {ρ : Nat → Int} {σ : Nat → Nat} {ty : Nat → Option Nat} {H : List (XC Int32)} {Lc : List (Nat × XV Int32)} {cn2 sn2 : Nat}, (ρ 0 - ρ 1).toNat < m → lwAt KT ot N P ρ σ ty H Lc cn2 sn2 →
      ∃ H2, x_To tb tyl ot dp2 0 hd Lc [] H cn2 sn2 (some (.inl 1)) H2
  | 0, _, _, _, _, _, _, _, hm, _ => absurd hm (Nat.not_lt_zero _)
  | m + 1, ρ, σ, ty, H, Lc, cn2, sn2, hm, hLA => by
    obtain ⟨h0, hl1, hl2, hr, hc, c1, c2, hPP⟩ := hLA
    have hN0 := hN
    unfold lwOk at hN
    simp only [Bool.and_eq_true] at hN
    obtain ⟨⟨⟨⟨n1, n1b⟩, n3⟩, n4⟩, n5⟩ := id hN
    have n3 := of_decide_eq_true n3
    have hlen : 2 ≤ (aI N).length ∧ 0 ≤ ρ 1 ∧ ρ 1 ≤ 1000000 := by
      rcases hI : aI N with _ | ⟨p0, _ | ⟨p1, r⟩⟩
      · rw [hI] at n1
        cases n1
      · rw [hI] at n1
        cases n1
      · rw [hI] at n1
        simp only [Bool.and_eq_true] at n1
        have y1 := of_decide_eq_true n1.1.1
        have y2 := of_decide_eq_true n1.1.2
        have hz := zipI_spec.mp hr.2.2.2.1 1 p1 (by rw [hI]; rfl)
        rw [Nat.zero_add] at hz
        exact ⟨by simp only [List.length_cons]; omega, by omega, by omega⟩
    have noraw : ∀ a c, ty a = some c → kRaw KT c = none := fun a c ha => by
      rcases hR : kRaw KT c with _ | d
      · rfl
      · obtain ⟨i, hi, -⟩ := hr.2.2.2.2.2.2.2 a c d ha hR
        cases hi
    have hat : vAt KT W ty H 0 (aL N) (aSt N) (aCn N) (aSn N) ρ σ ty H Lc cn2 sn2 := ⟨⟨by omega, hl2⟩, vLe_rf ty, vFrm_rf W ty H, hr, hc, c1, c2⟩
    have main := vLw3_spec (ret := lwR) (Post := fun v _ => v = some (.inl 1)) hCT noraw hq hdp hB hn f 1 hat h0 (show 0 < (aI N).length by omega) (fun p hp => absurd hp List.not_mem_nil) hk ?_ ?_
    · obtain ⟨v, H2, h1, h2⟩ := main
      subst h2
      rw [n3] at h1
      exact ⟨H2, h1⟩
    · intro ρ2 σ2 ty2 H2 s2 av e1 e2 e3 e4 e5 e6
      unfold lwR at e6
      split at e6
      rotate_left
      · cases e6
      rename_i e
      have := lQ_spec e4.2.2.2.1 e4.2.2.2.2.1 e6
      rw [lK_ev] at this
      show some (Sum.inl (Int32.ofInt (lEv ρ2 e))) = some (Sum.inl 1)
      rw [this]
      rfl
    · intro pcX gX hX ρ2 σ2 ty2 H2 s2 L2 S2 cn3 sn3 Lc2 cn4 sn4 e1 e2 e3
      unfold lwU at hX
      try dsimp only at hX
      split at hX
      rotate_left
      · split at hX
        rotate_left
        · cases hX
        rename_i hne hcb
        cases hX
        have hcb := of_decide_eq_true hcb
        unfold lwC3 at e3
        simp only [Bool.and_eq_true] at e3
        obtain ⟨⟨⟨k1, k2⟩, k3⟩, k4⟩ := e3
        have hr2 := e2.2.2.2.1
        have k2 := lGe_spec hr2.2.2.2.1 hr2.2.2.2.2.1 k2
        have k3 := lGe_spec hr2.2.2.2.1 hr2.2.2.2.2.1 k3
        have k4 := lGe_spec hr2.2.2.2.1 hr2.2.2.2.2.1 k4
        obtain ⟨g1, g2, g3, -, -, -⟩ := vMc_spec hr2 k1
        have hρ : ∀ i, i < (aI N).length → rO ρ2 ((List.range (aI N).length).map lSy) i = ρ2 i := fun i hi => by
          unfold rO
          rw [List.getD_eq_getElem?_getD, List.getElem?_map, List.getElem?_range hi]
          exact lSy_ev ρ2 i
        have hG : (aG N).length < 1000000 := of_decide_eq_true n1b
        have hσ : ∀ i, i < (aG N).length → sO σ2 (List.range (aG N).length) i = σ i := fun i hi => by
          unfold sO
          rw [List.getD_eq_getElem?_getD, List.getElem?_range hi]
          show (if i < 1000000 then σ2 i else i) = σ i
          rw [if_pos (by omega)]
          exact e1.2.1 i hi
        have q0 : rO ρ2 ((List.range (aI N).length).map lSy) 0 = ρ 0 := (hρ 0 (by omega)).trans (e1.1 0 (show 0 < (aI N).length by omega))
        have q1 : rO ρ2 ((List.range (aI N).length).map lSy) 1 = ρ 1 := (hρ 1 (by omega)).trans (e1.1 1 (show 1 < (aI N).length by omega))
        have w0 : ρ2 0 = ρ 0 := e1.1 0 (show 0 < (aI N).length by omega)
        have w1 : ρ2 1 = ρ 1 := e1.1 1 (show 1 < (aI N).length by omega)
        rw [lSub_ev, lSub_ev, lSy_ev, lSy_ev, lK_ev] at k2
        rw [lSub_ev] at k3 k4
        have hcn : lEv (rO ρ2 ((List.range (aI N).length).map lSy)) (aCn N) = lEv ρ2 (aCn N) := lBd_spec hρ n6
        have hsn : lEv (rO ρ2 ((List.range (aI N).length).map lSy)) (aSn N) = lEv ρ2 (aSn N) := lBd_spec hρ n7
        obtain ⟨H3, h3⟩ := hCb pcX hcb (rO ρ2 ((List.range (aI N).length).map lSy)) (sO σ2 (List.range (aG N).length)) ty2 H2 Lc2 cn4 sn4 ⟨q0.trans h0, by have := e2.1.1; omega, e2.1.2, g1, g2 _ e2.2.2.2.2.1, by rw [hcn]; have := e2.2.2.2.2.2.1; omega, by rw [hsn]; have := e2.2.2.2.2.2.2; omega, hP ρ σ ty H _ _ ty2 H2 hr hPP (fun i hi => hσ i (by omega)) e2.2.1 e2.2.2.1 g1⟩ (by omega) (by omega) (fun ρ3 σ3 ty3 H3 Lc3 cn5 sn5 y1 y2 => vLaw3_spec hCT hq hdp hB hn hN0 n6 n7 hm0 hk hP hCb m (by
          have := y2.1
          omega) y2)
        refine ⟨_, H3, ?_, rfl⟩
        rw [g3, n3]
        exact h3
      rename_i hpc
      subst hpc
      cases hX
      have hrr := sPl_rel e2.2.2.2.1
      unfold lwG3 at e3
      dsimp only at e3
      have e4 := Bool.and_eq_true_iff.mp e3
      have hh := e4.1
      unfold vHit at hh
      split at hh
      · cases hh
      rename_i p hp
      simp only [Bool.and_eq_true] at hh
      obtain ⟨⟨k1, k2⟩, -⟩ := hh
      have k1 := lGe_spec hrr.2.2.2.1 hrr.2.2.2.2.1 k1
      have k2 := lGe_spec hrr.2.2.2.1 hrr.2.2.2.2.1 k2
      rw [lSub_ev, lSb_ev] at k1 k2
      obtain ⟨g1, g2, g3, -, -, -, g7, g8⟩ := vMt_spec hrr hp (show m0 < 1000000 by have : (aG N).length < 1000000 := of_decide_eq_true n1b; omega)
      have hc2 := g2 _ e2.2.2.2.2.1
      have f0 : rO ρ2 p.1 0 = (oSn ot : Int) := (g7 0 (by decide)).trans ((e1.1 0 (show 0 < (aI N).length by omega)).trans h0)
      have hI1 := zipI_spec.mp g1.2.2.2.1
      have f1 : rO ρ2 p.1 1 = ρ 1 + 7 := by
        have h5 := e4.2
        split at h5
        rotate_left
        · cases h5
        rename_i t ht
        have a1 := e2.2.2.2.2.1 3 _ ht
        have a2 := n4
        split at a2
        rotate_left
        · cases a2
        rename_i u hu
        have a3 := hc2 3 _ hu
        rw [a1] at a3
        have a4 : Int32.ofInt (lEv ρ2 t) = Int32.ofInt (lEv (rO ρ2 p.1) u) := Sum.inl.inj (Option.some.inj a3)
        have a5 := lQ_spec hrr.2.2.2.1 hrr.2.2.2.2.1 h5
        rw [lAdd_ev, lSy_ev, lK_ev, e1.1 1 (show 1 < (aI N).length by omega)] at a5
        rw [lEq_spec a2, lSy_ev, a5] at a4
        have b2 : 0 ≤ rO ρ2 p.1 1 ∧ rO ρ2 p.1 1 ≤ 1000000 := by
          rcases hI : aI N with _ | ⟨p0, _ | ⟨p1, r⟩⟩
          · rw [hI] at n1
            cases n1
          · rw [hI] at n1
            cases n1
          · rw [hI] at n1
            simp only [Bool.and_eq_true] at n1
            have y1 := of_decide_eq_true n1.1.1
            have y2 := of_decide_eq_true n1.1.2
            have hz := hI1 1 p1 (by rw [hI]; rfl)
            rw [Nat.zero_add] at hz
            exact ⟨by omega, by omega⟩
        have a6 := congrArg Int32.toInt a4
        rw [ofInt_toInt (by omega) (by omega), ofInt_toInt (by omega) (by omega)] at a6
        exact a6.symm
      have f2 : rO ρ2 p.1 1 ≤ rO ρ2 p.1 0 := by
        obtain ⟨c, hcm, hce⟩ := List.any_eq_true.mp n5
        have b := g1.2.2.2.2.1 c hcm
        rw [lEq_spec hce, lSub_ev, lSy_ev, lSy_ev] at b
        omega
      have hσ0 : ∀ i, i < m0 → sO σ2 p.2 i = σ i := fun i hi => (g8 i hi).trans (e1.2.1 i (show i < (aG N).length by omega))
      obtain ⟨H3, h3⟩ := vLaw3_spec hCT hq hdp hB hn hN0 n6 n7 hm0 hk hP hCb m (ρ := rO ρ2 p.1) (σ := sO σ2 p.2) (ty := ty2) (H := H2) (Lc := Lc2) (cn2 := cn4) (sn2 := sn4) (by omega) ⟨f0, by have := e2.1.1; omega, e2.1.2, g1, hc2, by have := e2.2.2.2.2.2.1; omega, by have := e2.2.2.2.2.2.2; omega, hP ρ σ ty H _ _ ty2 H2 hr hPP hσ0 e2.2.1 e2.2.2.1 g1⟩
      refine ⟨_, H3, ?_, rfl⟩
      rw [g3, n3]
      exact h3
end XLaw3
end
section
/-! A block of the law's loop: both calls, their answers thrown away or compared. -/
section XBlk
/-- the script's int j behind the place that is read, pushed -/
def bArg (q : XM) (pc j : Nat) : Option Nat := match mC q pc, mC q (pc + 1), mC q (pc + 2) with
  | some (.aload_n a, _), some (.iload_n b, _), some (.iconst x, _) => if (a : Nat) = 0 ∧ (b : Nat) = 3 ∧ (Int32.ofInt x).toInt = (j : Int) then (match mC q (pc + 3), mC q (pc + 4) with
    | some (.iadd, _), some (.iaload, _) => some (pc + 5)
    | _, _ => none) else none
  | some (.aload_n a, _), some (.iload_n b, _), some (.bipush x, _) => if (a : Nat) = 0 ∧ (b : Nat) = 3 ∧ (Int8.ofInt x).toInt32.toInt = (j : Int) then (match mC q (pc + 4), mC q (pc + 5) with
    | some (.iadd, _), some (.iaload, _) => some (pc + 6)
    | _, _ => none) else none
  | _, _, _ => none
def bArgs (q : XM) : Nat → Nat → Nat → Option Nat
  | 0, _, pc => some pc
  | n + 1, j, pc => match bArg q pc j with
    | some pc2 => bArgs q n (j + 1) pc2
    | none => none
theorem bAdd {x y : Int32} {t j : Nat} (hx : x.toInt = (t : Int)) (hy : y.toInt = (j : Int)) (h : t + j < 1000000) : (decide (x_bin 0 x y < 0) || decide (1000000 ≤ (x_bin 0 x y).toNatClampNeg)) = false ∧ (x_bin 0 x y).toNatClampNeg = t + j := by
  have e : (x_bin 0 x y).toInt = ((t + j : Nat) : Int) := by
    show (x + y).toInt = _
    rw [Int32.toInt_add, hx, hy, Int.bmod_eq_of_le (by simp; omega) (by simp; omega)]
    rfl
  have e2 : (x_bin 0 x y).toNatClampNeg = t + j := by
    show (x_bin 0 x y).toInt.toNat = _
    rw [e]
    rfl
  refine ⟨?_, e2⟩
  rw [e2, decide_eq_false (fun h => by
    have h2 : (x_bin 0 x y).toInt < (0 : Int) := Int32.lt_iff_toInt_lt.mp h
    omega), decide_eq_false (by omega)]
  rfl
theorem bArg_to {tb : XT} {tyl : List FieldType} {ot : XO Int32} {dp k pc pc2 j t cn sn : Nat} {q : XM} {L : List (Nat × XV Int32)} {S : List (XV Int32)} {H H2 : List (XC Int32)} {v : Option (XV Int32)} {i : Int32} (hb : bArg q pc j = some pc2) (hq : tMth tb k = some q) (h0 : x_lk L 0 = some (.inr (some 1000000))) (h3 : x_lk L 3 = some (.inl i)) (hi : i.toInt = (t : Int)) (hl : t + j < oSn ot) (hn : oSn ot < 1000000)
    (g : x_To tb tyl ot dp k pc2 L (.inl (oSc ot (t + j)) :: S) H cn sn v H2) : x_To tb tyl ot dp k pc L S H cn sn v H2 := by
  have fin : ∀ (y : Int32) (p n5 : Nat), y.toInt = (j : Int) → mC q p = some (.iaload, n5) → x_To tb tyl ot dp k (p + 1) L (.inl (oSc ot (t + j)) :: S) H cn sn v H2 → x_To tb tyl ot dp k p L (.inl (dBin dC 0 i y) :: .inr (some 1000000) :: S) H cn sn v H2 := fun y p n5 hy h5 g => by
    obtain ⟨b1, b2⟩ := bAdd hi hy (by omega)
    refine xT_ialoadS hq h5 ?_ ?_
    · have b3 := Bool.or_eq_false_iff.mp b1
      show (decide (x_bin 0 i y < 0) || decide (oSn ot ≤ (x_bin 0 i y).toNatClampNeg)) = false
      rw [b3.1, b2, decide_eq_false (by omega)]
      rfl
    · show x_To tb tyl ot dp k (p + 1) L (.inl (oSc ot (x_bin 0 i y).toNatClampNeg) :: S) H cn sn v H2
      rw [b2]
      exact g
  unfold bArg at hb
  split at hb
  · rename_i a n1 b n2 x n3 h1 h2 h4
    split at hb
    rotate_left
    · cases hb
    rename_i hc
    obtain ⟨c1, c2, c3⟩ := hc
    split at hb
    rotate_left
    · cases hb
    rename_i n4 n5 h5 h6
    cases hb
    refine xT_aload_n hq h1 (by rw [c1]; exact h0) (xT_iload_n hq h2 (by rw [c2]; exact h3) (xT_iconst hq h4 (xT_iadd hq h5 (fin _ _ n5 c3 h6 g))))
  · rename_i a n1 b n2 x n3 h1 h2 h4
    split at hb
    rotate_left
    · cases hb
    rename_i hc
    obtain ⟨c1, c2, c3⟩ := hc
    split at hb
    rotate_left
    · cases hb
    rename_i n4 n5 h5 h6
    cases hb
    refine xT_aload_n hq h1 (by rw [c1]; exact h0) (xT_iload_n hq h2 (by rw [c2]; exact h3) (xT_bipush hq h4 (xT_iadd hq h5 (fin _ _ n5 c3 h6 g))))
  · cases hb
/-- the ints of the script that a call takes -/
def bVs (ot : XO Int32) (t : Nat) : Nat → Nat → List (XV Int32)
  | 0, _ => []
  | n + 1, j => .inl (oSc ot (t + j)) :: bVs ot t n (j + 1)
theorem bVs_len (ot : XO Int32) (t : Nat) : ∀ n j, (bVs ot t n j).length = n
  | 0, _ => rfl
  | n + 1, j => congrArg (· + 1) (bVs_len ot t n (j + 1))
theorem bArgs_to {tb : XT} {tyl : List FieldType} {ot : XO Int32} {dp k t cn sn : Nat} {q : XM} {L : List (Nat × XV Int32)} {H H2 : List (XC Int32)} {v : Option (XV Int32)} {i : Int32} (hq : tMth tb k = some q) (h0 : x_lk L 0 = some (.inr (some 1000000))) (h3 : x_lk L 3 = some (.inl i)) (hi : i.toInt = (t : Int)) (hn : oSn ot < 1000000) : ∀ (n j pc pc2 : Nat) (S : List (XV Int32)), bArgs q n j pc = some pc2 → t + j + n ≤ oSn ot → x_To tb tyl ot dp k pc2 L ((bVs ot t n j).reverse ++ S) H cn sn v H2 → x_To tb tyl ot dp k pc L S H cn sn v H2
  | 0, j, pc, pc2, S, hb, _, g => by
    cases hb
    exact g
  | n + 1, j, pc, pc2, S, hb, hl, g => by
    unfold bArgs at hb
    split at hb
    · rename_i p3 h
      refine bArg_to h hq h0 h3 hi (by omega) hn (bArgs_to hq h0 h3 hi hn n (j + 1) p3 pc2 _ hb (by omega) ?_)
      have e : (bVs ot t (n + 1) j).reverse ++ S = (bVs ot t n (j + 1)).reverse ++ (.inl (oSc ot (t + j)) :: S) := by
        show (.inl (oSc ot (t + j)) :: bVs ot t n (j + 1)).reverse ++ S = _
        rw [List.reverse_cons, List.append_assoc]
        rfl
      rw [← e]
      exact g
    · cases hb
/-- a call whose arguments stand on the stack -/
theorem bCall {tb : XT} {tyl : List FieldType} {ot : XO Int32} {dp k pc n j a ix nx cn sn : Nat} {q q2 : XM} {L : List (Nat × XV Int32)} {as r : List (XV Int32)} {H H1 H2 : List (XC Int32)} {u v : Option (XV Int32)} (hq : tMth tb k = some q) (hi : mC q pc = some (.invokevirtual ix, nx)) (hc : tCal tb (mO q) ix = some (j, 0)) (hm : tMth tb j = some q2) (hn : mNp q2 = n) (ha : as.length = n) (hr : r.length ≤ 8) (hl : n + 1 ≤ mL q2) (hx : x_rc ot H a = some (mRc q2)) (h1 : cn + mMc q2 ≤ mMc q) (h2 : sn + mMs q2 ≤ mMs q)
    (g1 : x_To tb tyl ot dp j 0 (x_en 0 (.inr (some a) :: as)) [] H 0 0 u H1) (g2 : x_To tb tyl ot (dp + 1) k (pc + 3) L (x_push u r) H1 (cn + mMc q2) (sn + mMs q2) v H2) : x_To tb tyl ot (dp + 1) k pc L (as.reverse ++ .inr (some a) :: r) H cn sn v H2 := by
  have e1 : (as.reverse ++ .inr (some a) :: r).drop (mNp q2) = .inr (some a) :: r := by
    rw [hn, List.drop_append_of_le_length (by rw [List.length_reverse]; omega), List.drop_eq_nil_of_le (by rw [List.length_reverse]; omega)]
    rfl
  have e2 : ((as.reverse ++ .inr (some a) :: r).take (mNp q2)).reverse = as := by
    rw [hn, List.take_append_of_le_length (by rw [List.length_reverse]; omega), List.take_of_length_le (by rw [List.length_reverse]; omega), List.reverse_reverse]
  refine xT_invokevirtual hq hi hc hm e1 ?_ (by rw [e2]; exact g1) g2
  rw [hx, hn, decide_eq_true (show n + 1 ≤ (as.reverse ++ (Sum.inr (some a) : XV Int32) :: r).length by
    rw [List.length_append, List.length_reverse, List.length_cons, ha]
    omega), decide_eq_true (show (0 : Nat) = 0 from rfl), decide_eq_true (show some (mRc q2) = some (mRc q2) from rfl), decide_eq_true hr, decide_eq_true hl, decide_eq_true h1, decide_eq_true h2]
  rfl
/-- what both calls of a block come to -/
def bPP (KT : vKT) (tb : XT) (tyl : List FieldType) (ot : XO Int32) (N : vAn) (P : (Nat → Nat) → (Nat → Option Nat) → List (XC Int32) → Prop) (dp kA kB n mc : Nat) (rA rB : Nat) (cmp : Prop) : Prop :=
  ∀ (ρ : Nat → Int) (σ : Nat → Nat) (ty : Nat → Option Nat) (H : List (XC Int32)) (t : Nat), ρ 0 = (oSn ot : Int) → ρ 1 = (t : Int) → t + 7 ≤ oSn ot → H.length + mc ≤ 1000000 → vRel KT ρ σ ty H (aSt N) → P σ ty H →
    ∃ (a b : Int32) (HA HH : List (XC Int32)) (ρ2 : Nat → Int) (σ2 : Nat → Nat) (ty2 : Nat → Option Nat), x_rc ot H (sR σ 0) = some rA ∧ x_To tb tyl ot dp kA 0 (x_en 0 (.inr (some (sR σ 0)) :: bVs ot t n 1)) [] H 0 0 (some (.inl a)) HA ∧ x_rc ot HA (sR σ 1) = some rB ∧ x_To tb tyl ot dp kB 0 (x_en 0 (.inr (some (sR σ 1)) :: bVs ot t n 1)) [] HA 0 0 (some (.inl b)) HH ∧ (cmp → a = b) ∧
      ρ2 0 = ρ 0 ∧ ρ2 1 = ρ 1 + 7 ∧ sR σ2 0 = sR σ 0 ∧ sR σ2 1 = sR σ 1 ∧ vRel KT ρ2 σ2 ty2 HH (aSt N) ∧ P σ2 ty2 HH ∧ HH.length ≤ H.length + mc
/-- the notes' locals -/
def bLs : List (Nat × vA) := [(0, .inr (some 1000000)), (1, .inr (some 0)), (2, .inr (some 1)), (3, .inl (lSy 1))]
theorem bEnd {KT : vKT} {tb : XT} {tyl : List FieldType} {ot : XO Int32} {N : vAn} {P : (Nat → Nat) → (Nat → Option Nat) → List (XC Int32) → Prop} {dp2 hd pi cn sn mc ms n1 n2 t : Nat} {x7 x8 : Int} {q : XM} (hq : tMth tb 0 = some q) (hL : aL N = bLs) (i1 : mC q pi = some (.iinc 3 x7, n1)) (i2 : mC q (pi + 3) = some (.goto x8, n2)) (i3 : x_jp (pi + 3) x8 = some hd) (i4 : (Int32.ofInt x7).toInt = 7) (i5 : 3 < mL q) (hn : oSn ot < 1000000)
    {ρ ρ2 : Nat → Int} {σ σ2 : Nat → Nat} {ty2 : Nat → Option Nat} {H HH : List (XC Int32)} {Lc : List (Nat × XV Int32)} (hcov : vCov ρ σ (aL N) Lc) (h1 : ρ 1 = (t : Int)) (ht : t + 7 ≤ oSn ot) (r0 : ρ2 0 = (oSn ot : Int)) (r1 : ρ2 1 = ρ 1 + 7) (s0 : sR σ2 0 = sR σ 0) (s1 : sR σ2 1 = sR σ 1) (hrel : vRel KT ρ2 σ2 ty2 HH (aSt N)) (hP : P σ2 ty2 HH) (hl : HH.length ≤ H.length + mc) (hl2 : H.length ≤ cn) (hl3 : H.length + mc ≤ 1000000) (c1 : ((cn + mc : Nat) : Int) ≤ lEv ρ2 (aCn N)) (c2 : ((sn + ms : Nat) : Int) ≤ lEv ρ2 (aSn N))
    (cont : ∀ ρ2 σ2 ty2 H2 Lc2 cn3 sn3, ρ2 1 = ρ 1 + 7 → lwAt KT ot N P ρ2 σ2 ty2 H2 Lc2 cn3 sn3 → ∃ H3, x_To tb tyl ot dp2 0 hd Lc2 [] H2 cn3 sn3 (some (.inl 1)) H3) : ∃ H3, x_To tb tyl ot dp2 0 pi Lc [] HH (cn + mc) (sn + ms) (some (.inl 1)) H3 := by
  have l3 : x_lk Lc 3 = some (.inl (Int32.ofInt (ρ 1))) := by
    rw [hcov 3 (.inl (lSy 1)) (by rw [hL]; rfl)]
    exact congrArg (fun z => some (Sum.inl (Int32.ofInt z))) (lSy_ev ρ 1)
  have l0 : x_lk Lc 0 = some (.inr (some 1000000)) := hcov 0 (.inr (some 1000000)) (by rw [hL]; rfl)
  have l1 : x_lk Lc 1 = some (.inr (some (sR σ 0))) := hcov 1 (.inr (some 0)) (by rw [hL]; rfl)
  have l2 : x_lk Lc 2 = some (.inr (some (sR σ 1))) := hcov 2 (.inr (some 1)) (by rw [hL]; rfl)
  have e7 : dBin dC 0 (Int32.ofInt (ρ 1)) (dKc dC (Int32.ofInt x7)) = Int32.ofInt (ρ2 1) := by
    show x_bin 0 (Int32.ofInt (ρ 1)) (Int32.ofInt x7) = _
    have a1 : (Int32.ofInt (ρ 1)).toInt = ((t : Nat) : Int) := by rw [h1]; exact ofInt_toInt (by omega) (by omega)
    refine Int32.toInt_inj.mp ?_
    show (Int32.ofInt (ρ 1) + Int32.ofInt x7).toInt = _
    rw [Int32.toInt_add, a1, i4, r1, h1, ofInt_toInt (by omega) (by omega)]
    exact Int.bmod_eq_of_le (by simp; omega) (by simp; omega)
  obtain ⟨H3, h3⟩ := cont ρ2 σ2 ty2 HH (x_st Lc 3 (.inl (Int32.ofInt (ρ2 1)))) (cn + mc) (sn + ms) r1 ⟨r0, by omega, by omega, hrel, fun j v hj => by
    rw [hL] at hj
    rw [x_lk_st]
    unfold bLs at hj
    rcases j with _ | _ | _ | _ | j
    · cases hj
      rw [if_neg (by decide), l0]
      rfl
    · cases hj
      rw [if_neg (by decide), l1]
      show some (Sum.inr (some (sR σ 0))) = some (Sum.inr (some (sR σ2 0)))
      rw [s0]
    · cases hj
      rw [if_neg (by decide), l2]
      show some (Sum.inr (some (sR σ 1))) = some (Sum.inr (some (sR σ2 1)))
      rw [s1]
    · cases hj
      rw [if_pos rfl]
      show some (Sum.inl (Int32.ofInt (ρ2 1))) = some (Sum.inl (Int32.ofInt (lEv ρ2 (lSy 1))))
      rw [lSy_ev]
    · unfold x_lk at hj
      simp at hj, c1, c2, hP⟩
  refine ⟨H3, xT_iinc hq i1 l3 i5 ?_⟩
  rw [e7]
  exact xT_goto hq i2 i3 h3
/-- a block that throws the answers away -/
theorem cBlkP {KT : vKT} {tb : XT} {tyl : List FieldType} {ot : XO Int32} {N : vAn} {P : (Nat → Nat) → (Nat → Option Nat) → List (XC Int32) → Prop} {dp hd pc p1 p2 pi n kA kB ixA ixB n1 n2 n3 n4 n5 n6 n7 n8 n9 : Nat} {x6 x7 x8 : Int} {q qA qB : XM} {cmp : Prop} (hq : tMth tb 0 = some q) (hL : aL N = bLs) (hqA : tMth tb kA = some qA) (hqB : tMth tb kB = some qB) (hn : oSn ot < 1000000) (hn7 : n ≤ 6)
    (c1 : mC q pc = some (.aload_n 1, n1)) (c2 : bArgs q n 1 (pc + 1) = some p1) (c3 : mC q p1 = some (.invokevirtual ixA, n2)) (c4 : tCal tb (mO q) ixA = some (kA, 0)) (c5 : mC q (p1 + 3) = some (.pop, n3)) (c6 : mC q (p1 + 3 + 1) = some (.aload_n 2, n4)) (c7 : bArgs q n 1 (p1 + 3 + 1 + 1) = some p2) (c8 : mC q p2 = some (.invokevirtual ixB, n5)) (c9 : tCal tb (mO q) ixB = some (kB, 0)) (c10 : mC q (p2 + 3) = some (.pop, n6)) (c11 : mC q (p2 + 3 + 1) = some (.goto x6, n7)) (c12 : x_jp (p2 + 3 + 1) x6 = some pi)
    (i1 : mC q pi = some (.iinc 3 x7, n8)) (i2 : mC q (pi + 3) = some (.goto x8, n9)) (i3 : x_jp (pi + 3) x8 = some hd) (i4 : (Int32.ofInt x7).toInt = 7) (i5 : 3 < mL q) (a1 : mNp qA = n) (a2 : n + 1 ≤ mL qA) (b1 : mNp qB = n) (b2 : n + 1 ≤ mL qB)
    (hcn : ∀ ρ : Nat → Int, 0 ≤ ρ 1 → ρ 1 + 7 ≤ ρ 0 → ρ 0 ≤ 3584 → lEv ρ (aCn N) + ((mMc qA + mMc qB : Nat) : Int) ≤ ((mMc q : Nat) : Int) ∧ lEv ρ (aSn N) + ((mMs qA + mMs qB : Nat) : Int) ≤ ((mMs q : Nat) : Int)) (hcm : mMc q ≤ 1000000) (hcd : ∀ ρ ρ2 : Nat → Int, ρ2 0 = ρ 0 → ρ2 1 = ρ 1 + 7 → lEv ρ (aCn N) + ((mMc qA + mMc qB : Nat) : Int) ≤ lEv ρ2 (aCn N) ∧ lEv ρ (aSn N) + ((mMs qA + mMs qB : Nat) : Int) ≤ lEv ρ2 (aSn N)) (hs : oSn ot ≤ 3584)
    (hPP : bPP KT tb tyl ot N P dp kA kB n (mMc qA + mMc qB) (mRc qA) (mRc qB) cmp)
    {ρ : Nat → Int} {σ : Nat → Nat} {ty : Nat → Option Nat} {H : List (XC Int32)} {Lc : List (Nat × XV Int32)} {cn2 sn2 : Nat} (hat : lwAt KT ot N P ρ σ ty H Lc cn2 sn2) (h0 : 0 ≤ ρ 1) (h7 : ρ 1 + 7 ≤ ρ 0)
    (cont : ∀ ρ2 σ2 ty2 H2 Lc2 cn3 sn3, ρ2 1 = ρ 1 + 7 → lwAt KT ot N P ρ2 σ2 ty2 H2 Lc2 cn3 sn3 → ∃ H3, x_To tb tyl ot (dp + 1) 0 hd Lc2 [] H2 cn3 sn3 (some (.inl 1)) H3) : ∃ H3, x_To tb tyl ot (dp + 1) 0 pc Lc [] H cn2 sn2 (some (.inl 1)) H3 := by
  obtain ⟨g0, g1, g2, g3, g4, g5, g6, g7⟩ := hat
  obtain ⟨t, ht⟩ : ∃ t : Nat, ρ 1 = (t : Int) := ⟨(ρ 1).toNat, by omega⟩
  obtain ⟨m1, m2⟩ := hcn ρ h0 h7 (by omega)
  have hmc : H.length + (mMc qA + mMc qB) ≤ 1000000 := by omega
  obtain ⟨a, b, HA, HH, ρ2, σ2, ty2, y1, y2, y3, y4, y5, y6, y7, y8, y9, y10, y11, y12⟩ := hPP ρ σ ty H t g0 ht (by omega) hmc g3 g7
  have l0 : x_lk Lc 0 = some (.inr (some 1000000)) := g4 0 (.inr (some 1000000)) (by rw [hL]; rfl)
  have l1 : x_lk Lc 1 = some (.inr (some (sR σ 0))) := g4 1 (.inr (some 0)) (by rw [hL]; rfl)
  have l2 : x_lk Lc 2 = some (.inr (some (sR σ 1))) := g4 2 (.inr (some 1)) (by rw [hL]; rfl)
  have l3 : x_lk Lc 3 = some (.inl (Int32.ofInt (ρ 1))) := by
    rw [g4 3 (.inl (lSy 1)) (by rw [hL]; rfl)]
    exact congrArg (fun z => some (Sum.inl (Int32.ofInt z))) (lSy_ev ρ 1)
  have e1 : (Int32.ofInt (ρ 1)).toInt = (t : Int) := by
    rw [ht]
    exact ofInt_toInt (by omega) (by omega)
  obtain ⟨d1, d2⟩ := hcd ρ ρ2 y6 y7
  obtain ⟨H3, h3⟩ := bEnd (cn := cn2) (sn := sn2) (mc := mMc qA + mMc qB) (ms := mMs qA + mMs qB) hq hL i1 i2 i3 i4 i5 hn g4 ht (by omega) (y6.trans g0) y7 y8 y9 y10 y11 y12 g1 hmc (by omega) (by omega) cont
  refine ⟨H3, xT_aload_n hq c1 l1 (bArgs_to hq l0 l3 e1 hn n 1 _ _ _ c2 (by omega) (bCall hq c3 c4 hqA a1 (bVs_len ot t n 1) (by decide) a2 y1 (by omega) (by omega) y2 (xT_pop hq c5 (xT_aload_n hq c6 l2 (bArgs_to hq l0 l3 e1 hn n 1 _ _ _ c7 (by omega) (bCall hq c8 c9 hqB b1 (bVs_len ot t n 1) (by decide) b2 y3 (by omega) (by omega) y4 (xT_pop hq c10 (xT_goto hq c11 c12 ?_))))))))⟩
  rw [Nat.add_assoc cn2, Nat.add_assoc sn2]
  exact h3
/-- a block that compares the answers -/
theorem cBlkC {KT : vKT} {tb : XT} {tyl : List FieldType} {ot : XO Int32} {N : vAn} {P : (Nat → Nat) → (Nat → Option Nat) → List (XC Int32) → Prop} {dp hd pc p1 p2 p3 pi n kA kB ixA ixB n1 n2 n4 n5 n6 n7 n8 n9 : Nat} {x5 x6 x7 x8 : Int} {q qA qB : XM} {cmp : Prop} (hc : cmp) (hq : tMth tb 0 = some q) (hL : aL N = bLs) (hqA : tMth tb kA = some qA) (hqB : tMth tb kB = some qB) (hn : oSn ot < 1000000) (hn7 : n ≤ 6)
    (c1 : mC q pc = some (.aload_n 1, n1)) (c2 : bArgs q n 1 (pc + 1) = some p1) (c3 : mC q p1 = some (.invokevirtual ixA, n2)) (c4 : tCal tb (mO q) ixA = some (kA, 0)) (c6 : mC q (p1 + 3) = some (.aload_n 2, n4)) (c7 : bArgs q n 1 (p1 + 3 + 1) = some p2) (c8 : mC q p2 = some (.invokevirtual ixB, n5)) (c9 : tCal tb (mO q) ixB = some (kB, 0)) (c10 : mC q (p2 + 3) = some (.if_icmp .eq x5, n6)) (c13 : x_jp (p2 + 3) x5 = some p3) (c11 : mC q p3 = some (.goto x6, n7)) (c12 : x_jp p3 x6 = some pi)
    (i1 : mC q pi = some (.iinc 3 x7, n8)) (i2 : mC q (pi + 3) = some (.goto x8, n9)) (i3 : x_jp (pi + 3) x8 = some hd) (i4 : (Int32.ofInt x7).toInt = 7) (i5 : 3 < mL q) (a1 : mNp qA = n) (a2 : n + 1 ≤ mL qA) (b1 : mNp qB = n) (b2 : n + 1 ≤ mL qB)
    (hcn : ∀ ρ : Nat → Int, 0 ≤ ρ 1 → ρ 1 + 7 ≤ ρ 0 → ρ 0 ≤ 3584 → lEv ρ (aCn N) + ((mMc qA + mMc qB : Nat) : Int) ≤ ((mMc q : Nat) : Int) ∧ lEv ρ (aSn N) + ((mMs qA + mMs qB : Nat) : Int) ≤ ((mMs q : Nat) : Int)) (hcm : mMc q ≤ 1000000) (hcd : ∀ ρ ρ2 : Nat → Int, ρ2 0 = ρ 0 → ρ2 1 = ρ 1 + 7 → lEv ρ (aCn N) + ((mMc qA + mMc qB : Nat) : Int) ≤ lEv ρ2 (aCn N) ∧ lEv ρ (aSn N) + ((mMs qA + mMs qB : Nat) : Int) ≤ lEv ρ2 (aSn N)) (hs : oSn ot ≤ 3584)
    (hPP : bPP KT tb tyl ot N P dp kA kB n (mMc qA + mMc qB) (mRc qA) (mRc qB) cmp)
    {ρ : Nat → Int} {σ : Nat → Nat} {ty : Nat → Option Nat} {H : List (XC Int32)} {Lc : List (Nat × XV Int32)} {cn2 sn2 : Nat} (hat : lwAt KT ot N P ρ σ ty H Lc cn2 sn2) (h0 : 0 ≤ ρ 1) (h7 : ρ 1 + 7 ≤ ρ 0)
    (cont : ∀ ρ2 σ2 ty2 H2 Lc2 cn3 sn3, ρ2 1 = ρ 1 + 7 → lwAt KT ot N P ρ2 σ2 ty2 H2 Lc2 cn3 sn3 → ∃ H3, x_To tb tyl ot (dp + 1) 0 hd Lc2 [] H2 cn3 sn3 (some (.inl 1)) H3) : ∃ H3, x_To tb tyl ot (dp + 1) 0 pc Lc [] H cn2 sn2 (some (.inl 1)) H3 := by
  obtain ⟨g0, g1, g2, g3, g4, g5, g6, g7⟩ := hat
  obtain ⟨t, ht⟩ : ∃ t : Nat, ρ 1 = (t : Int) := ⟨(ρ 1).toNat, by omega⟩
  obtain ⟨m1, m2⟩ := hcn ρ h0 h7 (by omega)
  have hmc : H.length + (mMc qA + mMc qB) ≤ 1000000 := by omega
  obtain ⟨a, b, HA, HH, ρ2, σ2, ty2, y1, y2, y3, y4, y5, y6, y7, y8, y9, y10, y11, y12⟩ := hPP ρ σ ty H t g0 ht (by omega) hmc g3 g7
  have l0 : x_lk Lc 0 = some (.inr (some 1000000)) := g4 0 (.inr (some 1000000)) (by rw [hL]; rfl)
  have l1 : x_lk Lc 1 = some (.inr (some (sR σ 0))) := g4 1 (.inr (some 0)) (by rw [hL]; rfl)
  have l2 : x_lk Lc 2 = some (.inr (some (sR σ 1))) := g4 2 (.inr (some 1)) (by rw [hL]; rfl)
  have l3 : x_lk Lc 3 = some (.inl (Int32.ofInt (ρ 1))) := by
    rw [g4 3 (.inl (lSy 1)) (by rw [hL]; rfl)]
    exact congrArg (fun z => some (Sum.inl (Int32.ofInt z))) (lSy_ev ρ 1)
  have e1 : (Int32.ofInt (ρ 1)).toInt = (t : Int) := by
    rw [ht]
    exact ofInt_toInt (by omega) (by omega)
  obtain ⟨d1, d2⟩ := hcd ρ ρ2 y6 y7
  obtain ⟨H3, h3⟩ := bEnd (cn := cn2) (sn := sn2) (mc := mMc qA + mMc qB) (ms := mMs qA + mMs qB) hq hL i1 i2 i3 i4 i5 hn g4 ht (by omega) (y6.trans g0) y7 y8 y9 y10 y11 y12 g1 hmc (by omega) (by omega) cont
  refine ⟨H3, xT_aload_n hq c1 l1 (bArgs_to hq l0 l3 e1 hn n 1 _ _ _ c2 (by omega) (bCall hq c3 c4 hqA a1 (bVs_len ot t n 1) (by decide) a2 y1 (by omega) (by omega) y2 (xT_aload_n hq c6 l2 (bArgs_to hq l0 l3 e1 hn n 1 _ _ _ c7 (by omega) (bCall hq c8 c9 hqB b1 (bVs_len ot t n 1) (Nat.le_of_ble_eq_true rfl) b2 y3 (by omega) (by omega) y4 (xT_if_icmpY hq c10 c13 (by rw [y5 hc]; exact decide_eq_true rfl) (xT_goto hq c11 c12 ?_)))))))⟩
  rw [Nat.add_assoc cn2, Nat.add_assoc sn2]
  exact h3
end XBlk
end
section
/-! A pair of calls, from one heap of both sorts to the next. -/
section XJoin
/-- unknowns, symbols, kinds and cells of both -/
abbrev pC : Type := (Nat → Int) × (Nat → Nat) × (Nat → Nat) × (Nat → Option Nat) × (Nat → Option Nat) × List (XC Int32) × List (XC Int32)
/-- from a first state on: where a pair stands -/
def pSt (KT : vKT) (n0 mA mB : Nat) (WA WB : List (Nat × Nat)) (b c : pC) (NA NB : vAn) : Prop :=
  vRel KT c.1 c.2.1 c.2.2.2.1 c.2.2.2.2.2.1 (aSt NA) ∧ vRel KT c.1 c.2.2.1 c.2.2.2.2.1 c.2.2.2.2.2.2 (aSt NB) ∧ (∀ i, i < n0 → c.1 i = b.1 i) ∧ (∀ i, i < mA → c.2.1 i = b.2.1 i) ∧ (∀ i, i < mB → c.2.2.1 i = b.2.2.1 i) ∧ vLe b.2.2.2.1 c.2.2.2.1 ∧ vLe b.2.2.2.2.1 c.2.2.2.2.1 ∧ vFrm WA b.2.2.2.1 b.2.2.2.2.2.1 c.2.2.2.2.2.1 ∧ vFrm WB b.2.2.2.2.1 b.2.2.2.2.2.2 c.2.2.2.2.2.2
/-- rows that stand in rows, never written -/
def pTl (KT : vKT) (mA mB : Nat) (WA WB : List (Nat × Nat)) (tl : vTl) (b : pC) : Prop :=
  vHp (fun c => KT.1[c]?) b.2.2.2.1 b.2.2.2.2.2.1 ∧ mA < 1000000 ∧ mB < 1000000 ∧ (∀ p ∈ tl, p.1 < mA ∧ p.2.1 < mB ∧ (∃ c, b.2.2.2.1 (sR b.2.1 p.1) = some c ∧ wIn WA c 0 = false ∧ wIn WA c 1 = false) ∧ ∃ c, b.2.2.2.2.1 (sR b.2.2.1 p.2.1) = some c ∧ wIn WB c 0 = false ∧ wIn WB c 1 = false) ∧ tHd tl b.2.1 b.2.2.1 b.2.2.2.2.2.1 b.2.2.2.2.2.2
theorem pTl_mv {KT : vKT} {n0 mA mB : Nat} {WA WB : List (Nat × Nat)} {tl : vTl} {b c : pC} {NA NB : vAn} (h : pTl KT mA mB WA WB tl b) (g : pSt KT n0 mA mB WA WB b c NA NB) : tHd tl c.2.1 c.2.2.1 c.2.2.2.2.2.1 c.2.2.2.2.2.2 := by
  obtain ⟨h1, h2, h3, h4, h5⟩ := h
  obtain ⟨-, -, -, g4, g5, -, -, g8, g9⟩ := g
  refine tHd_mv h5 (fun p hp => ?_) (fun p hp => ?_)
  · obtain ⟨p1, -, ⟨k, p3, p4, p5⟩, -⟩ := h4 p hp
    refine ⟨?_, fun t vs hv => vFrm_rowB g8 h1 p3 p4 p5 hv⟩
    unfold sR
    rw [if_pos (by omega), if_pos (by omega)]
    exact g4 _ p1
  · obtain ⟨-, p2, -, ⟨k, p3, p4, p5⟩⟩ := h4 p hp
    refine ⟨?_, fun t vs hv => vFrm_row g9 p3 p4 p5 hv⟩
    unfold sR
    rw [if_pos (by omega), if_pos (by omega)]
    exact g5 _ p2
/-- a way of both, from a first state on -/
theorem vPe_st {KT : vKT} {tb : XT} {tyl : List FieldType} {ot : XO Int32} {ov : vOt} (hov : vOvLe ov (o4 ot)) {CT : Nat → List vCt} {hs : Nat → Nat → Option (List vHn)} {kn : Nat → Nat → Option Nat} {WA WB : List (Nat × Nat)} (hCT : ∀ j c, c ∈ CT j → vCtSem KT tb tyl ot j c) {n0 mA mB : Nat} {tl : vTl} {f goA dpA kA pcA goB dpB kB pcB dA dB : Nat} {NA NB : vAn} {outs : List vPo}
    (hk : vPe KT tb tyl ov CT hs kn WA WB n0 mA mB tl f goA dpA kA pcA goB dpB kB pcB NA NB outs = true) {qA qB : XM} (hqA : tMth tb kA = some qA) (hqB : tMth tb kB = some qB) (hdA : dpA ≤ dA) (hdB : dpB ≤ dB) {BA BB : Nat} (hBA : BA + mMc qA ≤ 1000000) (hBB : BB + mMc qB ≤ 1000000)
    {b c : pC} (hl : pTl KT mA mB WA WB tl b) (hp : pSt KT n0 mA mB WA WB b c NA NB) {LA LB : List (Nat × XV Int32)} {cA sA cB sB : Nat} (eA : eAt c.1 c.2.1 (some pcA) BA (mMc qA) NA c.2.2.2.2.2.1 LA cA sA) (eB : eAt c.1 c.2.2.1 (some pcB) BB (mMc qB) NB c.2.2.2.2.2.2 LB cB sB)
    {R : Option (XV Int32) → List (XC Int32) → Option (XV Int32) → List (XC Int32) → Prop}
    (hout : ∀ o ∈ outs, ∀ (d : pC) LA2 LB2 cA2 sA2 cB2 sB2, pSt KT n0 mA mB WA WB b d o.2.2.1 o.2.2.2.1 → (o.2.2.2.2 = true → 0 ≤ lEv d.1 (aRk o.2.2.1) ∧ lEv d.1 (aRk o.2.2.1) < lEv c.1 (aRk NA)) → eAt d.1 d.2.1 o.1 BA (mMc qA) o.2.2.1 d.2.2.2.2.2.1 LA2 cA2 sA2 → eAt d.1 d.2.2.1 o.2.1 BB (mMc qB) o.2.2.2.1 d.2.2.2.2.2.2 LB2 cB2 sB2 →
      ∃ vA H1 vB H2, xE tb tyl ot o.1 dA kA LA2 ((aS o.2.2.1).map (cv d.1 d.2.1)) d.2.2.2.2.2.1 cA2 sA2 vA H1 ∧ xE tb tyl ot o.2.1 dB kB LB2 ((aS o.2.2.2.1).map (cv d.1 d.2.2.1)) d.2.2.2.2.2.2 cB2 sB2 vB H2 ∧ R vA H1 vB H2) :
    ∃ vA H1 vB H2, x_To tb tyl ot dA kA pcA LA ((aS NA).map (cv c.1 c.2.1)) c.2.2.2.2.2.1 cA sA vA H1 ∧ x_To tb tyl ot dB kB pcB LB ((aS NB).map (cv c.1 c.2.2.1)) c.2.2.2.2.2.2 cB sB vB H2 ∧ R vA H1 vB H2 := by
  have hl2 := pTl_mv hl hp
  obtain ⟨p1, p2, p3, p4, p5, p6, p7, p8, p9⟩ := hp
  refine vPe_spec hov hCT hk hqA hqB hdA hdB hBA hBB p1 p2 hl2 eA eB (fun o ho ρ2 σA2 σB2 tyA2 tyB2 HA HB LA2 LB2 cA2 sA2 cB2 sB2 x1 x2 x3 x4 x5 x6 x7 x8 x9 x10 x11 x12 => ?_)
  exact hout o ho (ρ2, σA2, σB2, tyA2, tyB2, HA, HB) LA2 LB2 cA2 sA2 cB2 sB2 ⟨x9, x10, fun i hi => (x1 i hi).trans (p3 i hi), fun i hi => (x2 i hi).trans (p4 i hi), fun i hi => (x3 i hi).trans (p5 i hi), vLe_tr p6 x5, vLe_tr p7 x6, vFrm_tr p8 p6 (fun _ _ h => h) x7, vFrm_tr p9 p7 (fun _ _ h => h) x8⟩ x4 x11 x12
/-- what a pair of calls came to: one of these -/
def pQ (KT : vKT) (n0 mA mB : Nat) (WA WB : List (Nat × Nat)) (mcA mcB : Nat) (XS : List (vAn × vAn)) (b : pC) (vA : Option (XV Int32)) (H1 : List (XC Int32)) (vB : Option (XV Int32)) (H2 : List (XC Int32)) : Prop :=
  ∃ x ∈ XS, ∃ (ρ2 : Nat → Int) (σA2 σB2 : Nat → Nat) (tyA2 tyB2 : Nat → Option Nat), pSt KT n0 mA mB WA WB b (ρ2, σA2, σB2, tyA2, tyB2, H1, H2) x.1 x.2 ∧ vA.toList = (aS x.1).map (cv ρ2 σA2) ∧ vB.toList = (aS x.2).map (cv ρ2 σB2) ∧ H1.length ≤ b.2.2.2.2.2.1.length + mcA ∧ H2.length ≤ b.2.2.2.2.2.2.length + mcB
/-- both ended so -/
theorem pQ_end {KT : vKT} {tb : XT} {tyl : List FieldType} {ot : XO Int32} {n0 mA mB dA kA dB kB mcA mcB cA sA cB sB : Nat} {WA WB : List (Nat × Nat)} {XS : List (vAn × vAn)} {b d : pC} {X Y : vAn} {LA LB : List (Nat × XV Int32)} (hx : (X, Y) ∈ XS) (hp : pSt KT n0 mA mB WA WB b d X Y) {u w : vA} (hu : aS X = [u]) (hw : aS Y = [w]) (l1 : d.2.2.2.2.2.1.length ≤ b.2.2.2.2.2.1.length + mcA) (l2 : d.2.2.2.2.2.2.length ≤ b.2.2.2.2.2.2.length + mcB) :
    ∃ vA H1 vB H2, xE tb tyl ot none dA kA LA ((aS X).map (cv d.1 d.2.1)) d.2.2.2.2.2.1 cA sA vA H1 ∧ xE tb tyl ot none dB kB LB ((aS Y).map (cv d.1 d.2.2.1)) d.2.2.2.2.2.2 cB sB vB H2 ∧ pQ KT n0 mA mB WA WB mcA mcB XS b vA H1 vB H2 := by
  refine ⟨some (cv d.1 d.2.1 u), _, some (cv d.1 d.2.2.1 w), _, ⟨by rw [hu]; rfl, rfl⟩, ⟨by rw [hw]; rfl, rfl⟩, (X, Y), hx, d.1, d.2.1, d.2.2.1, d.2.2.2.1, d.2.2.2.2.1, hp, by rw [hu]; rfl, by rw [hw]; rfl, l1, l2⟩
def jTa (n : Nat) (ps : List (Bool × Nat)) : List Nat := ps.map (fun p => if p.1 = true then n + p.2 else p.2)
/-- what the notes at the ends must give: the answers alike, and the head's note again; ps: where the head's symbols stand (true: in the second) -/
def jOk (N : vAn) (n0 mA mB : Nat) (τA τB : List Nat) (ps : List (Bool × Nat)) (x : vAn × vAn × List lT) : Bool :=
  aBd x.1 && aBd x.2.1 && decide ((aG x.1).length + (aG x.2.1).length < 1000000) &&
  vMc N x.2.2 (jTa (aG x.1).length ps) [] [] (jSt x.1 x.2.1) &&
  decide (2 ≤ n0) && lEq (x.2.2.getD 0 (lK 0)) (lSy 0) && lEq (x.2.2.getD 1 (lK 0)) (lAdd (lSy 1) (lK 7)) &&
  (List.range ps.length).all (fun i => match ps[i]? with
    | some q => if q.1 = true then decide (τB[q.2]? = some i) && decide (q.2 < mB) && decide (q.2 < (aG x.2.1).length) else decide (τA[q.2]? = some i) && decide (q.2 < mA) && decide (q.2 < (aG x.1).length)
    | none => false) &&
  (match aS x.1, aS x.2.1 with
    | [.inl e], [.inl g] => lQ (zipI 0 (aI x.1)) (aC x.1) e g
    | _, _ => false)
/-- notes without what a call's own state asks -/
def aNl (A : vAn) : vAn := (aG A, aI A, [], [], aF A, aC A, aM A, A.2.2.2.2.2.2.2.1, aRc A)
theorem aNl_st (A : vAn) : aSt (aNl A) = aSt A := rfl
theorem pJoin {KT : vKT} {tb : XT} {tyl : List FieldType} {ot : XO Int32} {N NE EA EB : vAn} {pA pB : Nat → Bool} (cA : kCl KT.1 pA = true) (cB : kCl KT.1 pB = true) (qA : pA KT.2.1.1 = true → pA KT.2.1.2.2.2.1 = true) (qB : pB KT.2.1.1 = true → pB KT.2.1.2.2.2.1 = true) (hd : ∀ c, pA c = true → pB c = true → False) (hJ : KT.1.all (fun kd => match kd with | .inr o => decide (o.1 ≠ 77) | _ => true) = true)
    {τA τB : List Nat} {ps : List (Bool × Nat)} (mA1 : vMc (aNl EA) ((List.range (aI NE).length).map lSy) τA [] [] (aSt NE) = true) (mB1 : vMc (aNl EB) ((List.range (aI NE).length).map lSy) τB [] [] (aSt NE) = true) (gA : (aG EA).all pA = true) (gB : (aG EB).all pB = true) (bA : aBd EA = true) (bB : aBd EB = true) (hnN : (aG NE).length < 1000000) (hNp : ps.length = (aG N).length) (hNs : aS N = []) (htA : τA.all (fun i => decide (i < 1000000)) = true) (htB : τB.all (fun i => decide (i < 1000000)) = true)
    {n0 mA mB kA kB d mcA mcB : Nat} {WA WB : List (Nat × Nat)} {XS : List (vAn × vAn × List lT)} (hn0 : n0 ≤ (aI NE).length) (hXS : XS.all (jOk (aNl N) n0 mA mB τA τB ps) = true)
    {ρ : Nat → Int} {σ : Nat → Nat} {ty : Nat → Option Nat} {H : List (XC Int32)} (h : vRel KT ρ σ ty H (aSt NE)) {LA LB : List (Nat × XV Int32)}
    {Q : pC → Option (XV Int32) → List (XC Int32) → Option (XV Int32) → List (XC Int32) → Prop} (hQ : ∀ b vA H1 vB H2, Q b vA H1 vB H2 → pQ KT n0 mA mB WA WB mcA mcB (XS.map (fun x => (x.1, x.2.1))) b vA H1 vB H2)
    (hP2 : ∀ b : pC, pSt KT n0 mA mB WA WB b b EA EB → b.1 = rO ρ ((List.range (aI NE).length).map lSy) → b.2.1 = sO σ τA → b.2.2.1 = sO σ τB → b.2.2.2.1 = tyP pA ty → b.2.2.2.2.1 = tyP pB ty → (∀ a c, tyP pA ty a = some c → b.2.2.2.2.2.1[a]? = H[a]?) → (∀ a c, tyP pB ty a = some c → b.2.2.2.2.2.2[a]? = H[a]?) → b.2.2.2.2.2.1.length = H.length → b.2.2.2.2.2.2.length ≤ H.length + mcA →
      ∃ vA H1 vB H2, x_To tb tyl ot d kA 0 LA [] b.2.2.2.2.2.1 0 0 vA H1 ∧ x_To tb tyl ot d kB 0 LB [] b.2.2.2.2.2.2 0 0 vB H2 ∧ Q b vA H1 vB H2) :
    ∃ (b : pC) (H1 H2 : List (XC Int32)) (a : Int32) (HA HH : List (XC Int32)) (ρ2 : Nat → Int) (σ2 : Nat → Nat) (ty2 : Nat → Option Nat), x_To tb tyl ot d kA 0 LA [] H 0 0 (some (.inl a)) HA ∧ x_To tb tyl ot d kB 0 LB [] HA 0 0 (some (.inl a)) HH ∧ ρ2 0 = ρ 0 ∧ ρ2 1 = ρ 1 + 7 ∧ (∀ i, i < ps.length → sR σ2 i = sR σ i) ∧ vRel KT ρ2 σ2 ty2 HH (aSt N) ∧ HH.length ≤ H.length + (mcA + mcB) ∧
      (∃ vA vB, Q b vA H1 vB H2) ∧ b.1 = rO ρ ((List.range (aI NE).length).map lSy) ∧ b.2.1 = sO σ τA ∧ b.2.2.1 = sO σ τB ∧ b.2.2.2.1 = tyP pA ty ∧ b.2.2.2.2.1 = tyP pB ty ∧ (∀ a c, tyP pA ty a = some c → b.2.2.2.2.2.1[a]? = H[a]?) ∧ (∀ a c, tyP pB ty a = some c → b.2.2.2.2.2.2[a]? = H[a]? ∧ HA[a]? = H[a]?) ∧ (∀ a c, tyP pA ty a = some c → HH[a]? = H1[a]?) ∧ (∀ a c, tyP pB ty a = some c → HH[a]? = H2[a]?) := by
  obtain ⟨eA, -, -, -, -, -⟩ := vMc_spec h mA1
  obtain ⟨eB, -, -, -, -, -⟩ := vMc_spec h mB1
  have fA : (sF (aSt EA)).all (fun f => decide (f.1 < (sG (aSt EA)).length)) = true := by
    unfold aBd at bA
    simp only [Bool.and_eq_true] at bA
    refine List.all_eq_true.mpr fun f hf => ?_
    have h0 := List.all_eq_true.mp bA.1.1.1.1 f hf
    simp only [Bool.and_eq_true] at h0
    exact h0.1.1
  have fB : (sF (aSt EB)).all (fun f => decide (f.1 < (sG (aSt EB)).length)) = true := by
    unfold aBd at bB
    simp only [Bool.and_eq_true] at bB
    refine List.all_eq_true.mpr fun f hf => ?_
    have h0 := List.all_eq_true.mp bB.1.1.1.1 f hf
    simp only [Bool.and_eq_true] at h0
    exact h0.1.1
  have rA := vRel_kp (s := aSt EA) cA qA eA gA fA
  have rB := vRel_kp (s := aSt EB) cB qB eB gB fB
  have hlt : ∀ a c, ty a = some c → a < H.length := fun a c ha => vHp_lt h.1 ha
  have hAB : ∀ a c, tyP pB ty a = some c → tyP pA ty a = none ∧ a < H.length := fun a c hc => by
    obtain ⟨z1, z2⟩ := tyP_iff.mp hc
    refine ⟨?_, hlt a c z1⟩
    rcases hx : tyP pA ty a with _ | e
    · rfl
    · obtain ⟨z3, z4⟩ := tyP_iff.mp hx
      rw [z1] at z3
      cases z3
      exact (hd c z4 z2).elim
  -- the first states, by how many cells the first call makes
  let b : Nat → pC := fun n => (rO ρ ((List.range (aI NE).length).map lSy), sO σ τA, sO σ τB, tyP pA ty, tyP pB ty, zKp (tyP pA ty) H, zKp (tyP pB ty) H ++ List.replicate n zJ)
  have hb : ∀ n, pSt KT n0 mA mB WA WB (b n) (b n) EA EB := fun n => ⟨rA, vRel_pad rB fB _, fun _ _ => rfl, fun _ _ => rfl, fun _ _ => rfl, vLe_rf _, vLe_rf _, vFrm_rf _ _ _, vFrm_rf _ _ _⟩
  have hb1 : ∀ a c, tyP pA ty a = some c → (zKp (tyP pA ty) H)[a]? = H[a]? := fun a c ha => zKp_ty H ha
  have hb2 : ∀ n a c, tyP pB ty a = some c → (zKp (tyP pB ty) H ++ List.replicate n zJ)[a]? = H[a]? := fun n a c ha => by
    rw [List.getElem?_append_left (by rw [zKp_len]; exact (hAB a c ha).2), zKp_ty H ha]
  have hgo : ∀ n, n ≤ mcA → ∃ vA H1 vB H2, x_To tb tyl ot d kA 0 LA [] (zKp (tyP pA ty) H) 0 0 vA H1 ∧ x_To tb tyl ot d kB 0 LB [] (zKp (tyP pB ty) H ++ List.replicate n zJ) 0 0 vB H2 ∧ Q (b n) vA H1 vB H2 := fun n hn => hP2 (b n) (hb n) rfl rfl rfl rfl rfl hb1 (hb2 n) (zKp_len _ _) (by
    show (zKp (tyP pB ty) H ++ List.replicate n zJ).length ≤ H.length + mcA
    rw [List.length_append, zKp_len, List.length_replicate]
    omega)
  obtain ⟨v0, J1, u0, K1, p1, -, p3⟩ := hgo 0 (Nat.zero_le _)
  obtain ⟨x0, -, r0, s0, s1, t0, t1, -, -, -, l1, -⟩ := hQ _ _ _ _ _ p3
  have l1 : J1.length ≤ H.length + mcA := by
    have l1 : J1.length ≤ (zKp (tyP pA ty) H).length + mcA := l1
    rw [zKp_len] at l1
    exact l1
  obtain ⟨vA, H1, vB, H2, q1, q2, q3⟩ := hgo (J1.length - H.length) (by omega)
  obtain ⟨e1, e2⟩ := x_To_one p1 q1
  subst e1
  subst e2
  obtain ⟨x, hx, ρ2, σA2, σB2, tyA2, tyB2, ⟨y1, y2, y3, y4, y5, y6, y7, y8, y9⟩, y10, y11, y12, y13⟩ := hQ _ _ _ _ _ q3
  have y1 : vRel KT ρ2 σA2 tyA2 H1 (aSt x.1) := y1
  have y2 : vRel KT ρ2 σB2 tyB2 H2 (aSt x.2) := y2
  have y6 : vLe (tyP pA ty) tyA2 := y6
  have y7 : vLe (tyP pB ty) tyB2 := y7
  have dT : ∀ (ty : Nat → Option Nat) (n a : Nat), a < n ∧ ty a = none → zD ty n a = true := fun ty n a h => by
    unfold zD
    rw [decide_eq_true h.1, h.2]
    rfl
  have dF : ∀ (ty : Nat → Option Nat) (n a : Nat), ¬ (a < n ∧ ty a = none) → zD ty n a = false := fun ty n a h => by
    unfold zD
    by_cases c : a < n
    · rw [decide_eq_true c]
      rcases ht : ty a with _ | d
      · exact absurd ⟨c, ht⟩ h
      · rfl
    · rw [decide_eq_false c]
      rfl
  obtain ⟨a1, a2⟩ := x_To_fr p1 (zKp_tr (tyP pA ty) H) (zKp_mx (tyP pA ty) H)
  have hle : H.length ≤ H1.length := Classical.byContradiction fun hc => by
    rcases ht : tyP pA ty H1.length with _ | c
    · exact absurd (zTr_lt a2 (dT (tyP pA ty) H.length H1.length ⟨by omega, ht⟩)) (by omega)
    · exact absurd (vHp_lt y1.1 (y6 _ c ht)) (by omega)
  have hA1 : ∀ a, a < H.length ∧ tyP pA ty a = none → (zMx (zD (tyP pA ty) H.length) H H1)[a]? = H[a]? := fun a h => zMx_old a2 (dT _ _ _ h) h.1
  have hA2 : ∀ a, ¬ (a < H.length ∧ tyP pA ty a = none) → (zMx (zD (tyP pA ty) H.length) H H1)[a]? = H1[a]? := fun a h => zMx_get H (dF _ _ _ h)
  have hlA : (zMx (zD (tyP pA ty) H.length) H H1).length = H1.length := zMx_len _ _ _
  have hG : ∀ a, tyP pB ty a = none → a < H1.length → (zKp (tyP pB ty) H ++ List.replicate (H1.length - H.length) zJ)[a]? = some zJ := fun a h1 h2 => by
    by_cases c : a < H.length
    · rw [List.getElem?_append_left (by rw [zKp_len]; exact c)]
      exact zKp_tr (tyP pB ty) H a (dT (tyP pB ty) H.length a ⟨c, h1⟩)
    · rw [List.getElem?_append_right (by rw [zKp_len]; omega), zKp_len, List.getElem?_replicate, if_pos (by omega)]
  obtain ⟨b1, b2⟩ := x_To_fr (D := zD (tyP pB ty) H1.length) (HX := zMx (zD (tyP pA ty) H.length) H H1) q2 (fun a ha => by
      unfold zD at ha
      have h := Bool.and_eq_true_iff.mp ha
      exact hG a (by simpa using h.2) (of_decide_eq_true h.1)) (List.ext_getElem? fun a => by
      by_cases c : a < H1.length
      · rcases ht : tyP pB ty a with _ | d
        · rw [zMx_at, hG a ht c, dT (tyP pB ty) H1.length a ⟨c, ht⟩, List.getElem?_eq_getElem (by rw [hlA]; exact c)]
          rfl
        · obtain ⟨g1, g2⟩ := hAB a d ht
          rw [zMx_get _ (dF (tyP pB ty) H1.length a (fun h => by rw [ht] at h; cases h.2)), hA1 a ⟨g2, g1⟩, List.getElem?_append_left (by rw [zKp_len]; exact g2), zKp_ty H ht]
      · rw [List.getElem?_eq_none (by rw [zMx_len, List.length_append, zKp_len, List.length_replicate]; omega), List.getElem?_eq_none (by rw [hlA]; omega)])
  have hB1 : ∀ a, a < H1.length ∧ tyP pB ty a = none → (zMx (zD (tyP pB ty) H1.length) (zMx (zD (tyP pA ty) H.length) H H1) H2)[a]? = (zMx (zD (tyP pA ty) H.length) H H1)[a]? := fun a h => zMx_old b2 (dT _ _ _ h) (by rw [hlA]; exact h.1)
  have hB2 : ∀ a, ¬ (a < H1.length ∧ tyP pB ty a = none) → (zMx (zD (tyP pB ty) H1.length) (zMx (zD (tyP pA ty) H.length) H H1) H2)[a]? = H2[a]? := fun a h => zMx_get _ (dF _ _ _ h)
  have noJ : ∀ (ty' : Nat → Option Nat) (G : List (XC Int32)), vHp (fun c => KT.1[c]?) ty' G → ∀ a c, ty' a = some c → G[a]? = some zJ → False := fun ty' G hp a c ha hz => by
    obtain ⟨kd, z, k1, k2, k3⟩ := hp a c ha
    rw [hz] at k2
    cases k2
    have k4 := List.all_eq_true.mp hJ kd (List.mem_of_getElem? k1)
    rcases kd with o | o
    · exact k3
    · have k5 : (77 : Nat) = o.1 := k3.1
      exact (of_decide_eq_true k4) k5.symm
  have nA : ∀ a c, tyA2 a = some c → ¬ (a < H.length ∧ tyP pA ty a = none) := fun a c ha hz => noJ _ _ y1.1 a c ha (a2 a (dT _ _ _ hz))
  have nB : ∀ a c, tyB2 a = some c → ¬ (a < H1.length ∧ tyP pB ty a = none) := fun a c ha hz => noJ _ _ y2.1 a c ha (b2 a (dT _ _ _ hz))
  have oA : ∀ a c, tyA2 a = some c → tyP pB ty a = none := fun a c ha => by
    rcases ht : tyP pB ty a with _ | e
    · rfl
    · obtain ⟨g1, g2⟩ := hAB a e ht
      exact (nA a c ha ⟨g2, g1⟩).elim
  have oB : ∀ a c, tyB2 a = some c → tyA2 a = none := fun a c ha => by
    rcases ht : tyA2 a with _ | e
    · rfl
    · exact (nB a c ha ⟨vHp_lt y1.1 ht, oA a e ht⟩).elim
  have HHA : ∀ a c, tyA2 a = some c → (zMx (zD (tyP pB ty) H1.length) (zMx (zD (tyP pA ty) H.length) H H1) H2)[a]? = H1[a]? := fun a c ha => by
    rw [hB1 a ⟨vHp_lt y1.1 ha, oA a c ha⟩]
    exact hA2 a (nA a c ha)
  have HHB : ∀ a c, tyB2 a = some c → (zMx (zD (tyP pB ty) H1.length) (zMx (zD (tyP pA ty) H.length) H H1) H2)[a]? = H2[a]? := fun a c ha => hB2 a (nB a c ha)
  obtain ⟨z, hz, rfl⟩ := List.mem_map.mp hx
  have hj := List.all_eq_true.mp hXS z hz
  unfold jOk at hj
  simp only [Bool.and_eq_true] at hj
  obtain ⟨⟨⟨⟨⟨⟨⟨⟨j1, j2⟩, j3⟩, j4⟩, j5⟩, j6⟩, j7⟩, j8⟩, j9⟩ := hj
  have j3 := of_decide_eq_true j3
  have j5 := of_decide_eq_true j5
  have hjn := vRel_jn (ty := fun a => match tyA2 a with | some c => some c | none => tyB2 a) (H := zMx (zD (tyP pB ty) H1.length) (zMx (zD (tyP pA ty) H.length) H H1) H2) y1 y2 j1 j2 j3 (fun a c ha => ⟨by
      try dsimp only
      rw [ha], HHA a c ha⟩) (fun a c ha => ⟨by
      try dsimp only
      rw [oB a c ha]
      exact ha, HHB a c ha⟩) (fun a c ha => by
      try dsimp only at ha
      rcases ht : tyA2 a with _ | e
      · rw [ht] at ha
        exact Or.inr ha
      · rw [ht] at ha
        exact Or.inl ha)
  obtain ⟨w1, -, -, -, -, -⟩ := vMc_spec hjn j4
  have w1 : vRel KT (rO ρ2 z.2.2) (sO (sJo (aG z.1).length σA2 σB2) (jTa (aG z.1).length ps)) (fun a => match tyA2 a with | some c => some c | none => tyB2 a) (zMx (zD (tyP pB ty) H1.length) (zMx (zD (tyP pA ty) H.length) H H1) H2) (aSt N) := w1
  have hρ : ∀ i, i < n0 → ρ2 i = ρ i := fun i hi => by
    have y3 : ρ2 i = rO ρ ((List.range (aI NE).length).map lSy) i := y3 i hi
    rw [y3]
    unfold rO
    rw [List.getD_eq_getElem?_getD, List.getElem?_map, List.getElem?_range (by omega)]
    exact lSy_ev ρ i
  have hs : ∀ i, i < ps.length → sR (sO (sJo (aG z.1).length σA2 σB2) (jTa (aG z.1).length ps)) i = sR σ i := fun i hi => by
    have hN : (aG N).length < 1000000 := by
      have k := j4
      unfold vMc at k
      simp only [Bool.and_eq_true] at k
      exact of_decide_eq_true k.2
    have hp : ps[i]? = some (ps[i]'hi) := List.getElem?_eq_getElem hi
    have j8 := List.all_eq_true.mp j8 i (List.mem_range.mpr hi)
    rw [hp] at j8
    generalize ps[i]'hi = q at hp j8
    obtain ⟨q1, q2⟩ := q
    dsimp only at j8
    have ht : (jTa (aG z.1).length ps).getD i 0 = if q1 = true then (aG z.1).length + q2 else q2 := by
      unfold jTa
      rw [List.getD_eq_getElem?_getD, List.getElem?_map, hp]
      rfl
    have hl : sR (sO (sJo (aG z.1).length σA2 σB2) (jTa (aG z.1).length ps)) i = sR (sJo (aG z.1).length σA2 σB2) (if q1 = true then (aG z.1).length + q2 else q2) := by
      rw [← ht]
      exact if_pos (by omega)
    have tm : ∀ (τ : List Nat), τ.all (fun i => decide (i < 1000000)) = true → τ[q2]? = some i → sO σ τ q2 = sR σ i := fun τ _ hτ => by
      unfold sO
      rw [List.getD_eq_getElem?_getD, hτ]
      rfl
    rw [hl]
    rcases q1 with _ | _
    · rw [if_neg (by decide)] at j8 ⊢
      simp only [Bool.and_eq_true, decide_eq_true_eq] at j8
      obtain ⟨⟨u1, u2⟩, u3⟩ := j8
      have y4 : σA2 q2 = sO σ τA q2 := y4 q2 u2
      show (if q2 < 1000000 then sJo (aG z.1).length σA2 σB2 q2 else q2) = _
      rw [if_pos (by omega)]
      show (if q2 < (aG z.1).length then sR σA2 q2 else _) = _
      rw [if_pos u3]
      show (if q2 < 1000000 then σA2 q2 else q2) = _
      rw [if_pos (by omega), y4]
      exact tm τA htA u1
    · rw [if_pos rfl] at j8 ⊢
      simp only [Bool.and_eq_true, decide_eq_true_eq] at j8
      obtain ⟨⟨u1, u2⟩, u3⟩ := j8
      have y5 : σB2 q2 = sO σ τB q2 := y5 q2 u2
      show (if (aG z.1).length + q2 < 1000000 then sJo (aG z.1).length σA2 σB2 ((aG z.1).length + q2) else _) = _
      rw [if_pos (by omega)]
      show (if (aG z.1).length + q2 < (aG z.1).length then _ else sR σB2 ((aG z.1).length + q2 - (aG z.1).length)) = _
      rw [if_neg (by omega), Nat.add_sub_cancel_left]
      show (if q2 < 1000000 then σB2 q2 else q2) = _
      rw [if_pos (by omega), y5]
      exact tm τB htB u1
  have hval : ∃ a : Int32, vA = some (.inl a) ∧ vB = some (.inl a) := by
    have y10 : vA.toList = (aS z.1).map (cv ρ2 σA2) := y10
    have y11 : vB.toList = (aS z.2.1).map (cv ρ2 σB2) := y11
    split at j9
    · rename_i e g h1 h2
      have e2 := lQ_spec y1.2.2.2.1 y1.2.2.2.2.1 j9
      rw [h1] at y10
      rw [h2] at y11
      refine ⟨Int32.ofInt (lEv ρ2 e), optList y10, optList ?_⟩
      rw [y11]
      show [Sum.inl (Int32.ofInt (lEv ρ2 g))] = [Sum.inl (Int32.ofInt (lEv ρ2 e))]
      rw [e2]
    · cases j9
  obtain ⟨a, va, vb⟩ := hval
  subst va
  subst vb
  have y13 : H2.length ≤ (zKp (tyP pB ty) H ++ List.replicate (H1.length - H.length) zJ).length + mcB := y13
  refine ⟨b (H1.length - H.length), H1, H2, a, _, _, rO ρ2 z.2.2, sO (sJo (aG z.1).length σA2 σB2) (jTa (aG z.1).length ps), _, a1, b1, ?_, ?_, hs, w1, ?_, ⟨_, _, q3⟩, rfl, rfl, rfl, rfl, rfl, hb1, fun a c ha => ⟨hb2 _ a c ha, hA1 a ⟨(hAB a c ha).2, (hAB a c ha).1⟩⟩, fun a c ha => HHA a c (y6 a c ha), fun a c ha => HHB a c (y7 a c ha)⟩
  · show lEv ρ2 (z.2.2.getD 0 (lK 0)) = ρ 0
    rw [lEq_spec j6, lSy_ev, hρ 0 (by omega)]
  · show lEv ρ2 (z.2.2.getD 1 (lK 0)) = ρ 1 + 7
    rw [lEq_spec j7, lAdd_ev, lSy_ev, lK_ev, hρ 1 (by omega)]
  · rw [zMx_len]
    rw [List.length_append, zKp_len, List.length_replicate] at y13
    omega
end XJoin
end
