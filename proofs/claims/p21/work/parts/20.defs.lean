/-! An evaluator of its own over an abstract heap: values, cells, instructions. Whatever it finds no fault with, the machine does (part 02). -/
noncomputable section XDefs
variable {E K : Type}
/-- an int (as E has it), null, or a cell by its number -/
abbrev XV (E : Type) : Type := E ⊕ Option Nat
/-- an object (its class by number, its fields), or an array (its type by number, its elements) -/
abbrev XC (E : Type) : Type := (Nat × List (XV E)) ⊕ (Nat × List (XV E))
/-- the ways that are left: each a list of what holds on it -/
abbrev XR (K : Type) : Type := List (List K)
abbrev XD (E K : Type) : Type := (E → Int32) × (Int32 → E) × (Nat → E → E → E) × (Nat → E → E) × (E → Option Int32) × (K → Prop) × (Nat → E → E → List K → (List K → XR K) → (List K → XR K) → XR K)
abbrev dEv (d : XD E K) : E → Int32 := d.1
abbrev dKc (d : XD E K) : Int32 → E := d.2.1
abbrev dBin (d : XD E K) : Nat → E → E → E := d.2.2.1
abbrev dUn (d : XD E K) : Nat → E → E := d.2.2.2.1
abbrev dKst (d : XD E K) : E → Option Int32 := d.2.2.2.2.1
abbrev dHd (d : XD E K) : K → Prop := d.2.2.2.2.2.1
abbrev dBr (d : XD E K) : Nat → E → E → List K → (List K → XR K) → (List K → XR K) → XR K := d.2.2.2.2.2.2
/-- tables: methods; the names of the pools' classes; fields; new; calls (callee, sort); arrays of references; arrays of arrays; field types of a class; what is known of itself (Object's constructor, copying); ints of the pool -/
abbrev XT : Type := (Nat → Option XM) × (Nat → String) × (Nat → Nat → Option (Nat × Nat)) × (Nat → Nat → Option Nat) × (Nat → Nat → Option (Nat × Nat)) × (Nat → Nat → Option Nat) × (Nat → Nat → Option (Nat × Nat)) × (Nat → List (FieldType × Bool)) × (Nat → Nat → Option Nat) × (Nat → Nat → Option Int32)
abbrev tMth (t : XT) : Nat → Option XM := t.1
abbrev tNm (t : XT) : Nat → String := t.2.1
abbrev tFld (t : XT) : Nat → Nat → Option (Nat × Nat) := t.2.2.1
abbrev tNw (t : XT) : Nat → Nat → Option Nat := t.2.2.2.1
abbrev tCal (t : XT) : Nat → Nat → Option (Nat × Nat) := t.2.2.2.2.1
abbrev tAn (t : XT) : Nat → Nat → Option Nat := t.2.2.2.2.2.1
abbrev tMn (t : XT) : Nat → Nat → Option (Nat × Nat) := t.2.2.2.2.2.2.1
abbrev tFt (t : XT) : Nat → List (FieldType × Bool) := t.2.2.2.2.2.2.2.1
abbrev tBi (t : XT) : Nat → Nat → Option Nat := t.2.2.2.2.2.2.2.2.1
abbrev tLi (t : XT) : Nat → Nat → Option Int32 := t.2.2.2.2.2.2.2.2.2
/-- what lies outside (numbers from 1000000 on): constants of text by pool and place; their fields; static fields; rows of bytes; the script (its length, its ints); their classes -/
abbrev XO (E : Type) : Type := (Nat → Nat → Option Nat) × (Nat → Nat → Nat → Option (Int32 ⊕ Option Nat)) × (Nat → Nat → Option (Int32 ⊕ Option Nat)) × (Nat → Option (List Int32)) × (Nat × (Nat → E)) × (Nat → Option Nat)
abbrev oSl (t : XO E) : Nat → Nat → Option Nat := t.1
abbrev oFl (t : XO E) : Nat → Nat → Nat → Option (Int32 ⊕ Option Nat) := t.2.1
abbrev oGs (t : XO E) : Nat → Nat → Option (Int32 ⊕ Option Nat) := t.2.2.1
abbrev oBy (t : XO E) : Nat → Option (List Int32) := t.2.2.2.1
abbrev oSn (t : XO E) : Nat := t.2.2.2.2.1.1
abbrev oSc (t : XO E) : Nat → E := t.2.2.2.2.1.2
abbrev oCl (t : XO E) : Nat → Option Nat := t.2.2.2.2.2
def x_ov (d : XD E K) : Int32 ⊕ Option Nat → XV E
  | .inl v => .inl (dKc d v)
  | .inr a => .inr a
def x_bin : Nat → Int32 → Int32 → Int32
  | 0, x, y => x + y
  | 1, x, y => x - y
  | 2, x, y => x * y
  | 3, x, y => x &&& y
  | 4, x, y => x ||| y
  | 5, x, y => x ^^^ y
  | 6, x, y => x <<< (y &&& 31)
  | 7, x, y => x >>> (y &&& 31)
  | 8, x, y => x / y
  | 9, x, y => x - x / y * y
  | _, x, y => (x.toUInt32 >>> (y.toUInt32 &&& Int32.toUInt32 31)).toInt32
def x_un : Nat → Int32 → Int32
  | 0, x => x.toInt8.toInt32
  | 1, x => x.toInt16.toInt32
  | 2, x => (x.toUInt32 % 65536).toInt32
  | _, x => -x
def x_cmp : Nat → Int32 → Int32 → Bool
  | 0, x, y => decide (x = y)
  | 1, x, y => decide (¬ x = y)
  | 2, x, y => decide (x < y)
  | 3, x, y => decide (y ≤ x)
  | 4, x, y => decide (y < x)
  | _, x, y => decide (x ≤ y)
def x_cn : Jvm.ClassFile.Cond → Nat
  | .eq => 0
  | .ne => 1
  | .lt => 2
  | .ge => 3
  | .gt => 4
  | .le => 5
/-- every way that is left can't be gone -/
def XOk (hd : K → Prop) (r : XR K) : Prop := ∀ b ∈ r, ∃ k ∈ b, ¬ hd k
def XPa (hd : K → Prop) (w : List K) : Prop := ∀ k ∈ w, hd k
def x_DmOk (d : XD E K) : Prop :=
  (∀ n, dEv d (dKc d n) = n) ∧ (∀ o a b, dEv d (dBin d o a b) = x_bin o (dEv d a) (dEv d b)) ∧ (∀ o a, dEv d (dUn d o a) = x_un o (dEv d a)) ∧ (∀ a n, dKst d a = some n → dEv d a = n) ∧
  (∀ o a b w kt kf, XOk (dHd d) (dBr d o a b w kt kf) → XPa (dHd d) w → ∃ w', XPa (dHd d) w' ∧ ((x_cmp o (dEv d a) (dEv d b) = true ∧ XOk (dHd d) (kt w')) ∨ (x_cmp o (dEv d a) (dEv d b) = false ∧ XOk (dHd d) (kf w'))))
def x_jp (pc : Nat) (off : Int) : Option Nat := if 0 ≤ (pc : Int) + off then some ((pc : Int) + off).toNat else none
def x_lk (L : List (Nat × XV E)) (i : Nat) : Option (XV E) := List.rec (motive := fun _ => Option (XV E)) none (fun q _ h => Bool.rec (motive := fun _ => Option (XV E)) h (some q.2) (Nat.beq q.1 i)) L
theorem x_lk_eq (i : Nat) : ∀ L : List (Nat × XV E), x_lk L i = (L.find? (fun q => q.1 == i)).map (·.2)
  | [] => rfl
  | q :: L => by
    have ih := x_lk_eq i L
    have e : x_lk (q :: L) i = bif Nat.beq q.1 i then some q.2 else x_lk L i := by
      show Bool.rec (motive := fun _ => Option (XV E)) (x_lk L i) (some q.2) (Nat.beq q.1 i) = _
      cases Nat.beq q.1 i <;> rfl
    rw [e, ih]
    cases h : Nat.beq q.1 i with
    | true =>
      have e2 : (q :: L).find? (fun z : Nat × XV E => z.1 == i) = some q := List.find?_cons_of_pos (by simpa using Nat.eq_of_beq_eq_true h)
      rw [e2]
      rfl
    | false =>
      have e2 : (q :: L).find? (fun z : Nat × XV E => z.1 == i) = L.find? (fun z : Nat × XV E => z.1 == i) := List.find?_cons_of_neg (by simpa using Nat.ne_of_beq_eq_false h)
      rw [e2]
      rfl
def x_dl (i : Nat) (L : List (Nat × XV E)) : List (Nat × XV E) := List.rec (motive := fun _ => List (Nat × XV E)) [] (fun q _ h => Bool.rec (motive := fun _ => List (Nat × XV E)) (q :: h) h (Nat.beq q.1 i)) L
theorem x_dl_eq (i : Nat) : ∀ L : List (Nat × XV E), x_dl i L = L.filter (fun q => !(q.1 == i))
  | [] => rfl
  | q :: L => by
    have ih := x_dl_eq i L
    have e : x_dl i (q :: L) = bif Nat.beq q.1 i then x_dl i L else q :: x_dl i L := by
      show Bool.rec (motive := fun _ => List (Nat × XV E)) (q :: x_dl i L) (x_dl i L) (Nat.beq q.1 i) = _
      cases Nat.beq q.1 i <;> rfl
    rw [e, ih]
    cases h : Nat.beq q.1 i with
    | true =>
      have e2 : (q :: L).filter (fun z : Nat × XV E => !(z.1 == i)) = L.filter (fun z : Nat × XV E => !(z.1 == i)) := List.filter_cons_of_neg (by simpa using Nat.eq_of_beq_eq_true h)
      rw [e2]
      rfl
    | false =>
      have e2 : (q :: L).filter (fun z : Nat × XV E => !(z.1 == i)) = q :: L.filter (fun z : Nat × XV E => !(z.1 == i)) := List.filter_cons_of_pos (by simpa using Nat.ne_of_beq_eq_false h)
      rw [e2]
      rfl
def x_st (L : List (Nat × XV E)) (i : Nat) (v : XV E) : List (Nat × XV E) := (i, v) :: x_dl i L
theorem x_st_eq (L : List (Nat × XV E)) (i : Nat) (v : XV E) : x_st L i v = (i, v) :: L.filter (fun q => !(q.1 == i)) := congrArg (List.cons (i, v)) (x_dl_eq i L)
def x_en : Nat → List (XV E) → List (Nat × XV E)
  | _, [] => []
  | i, v :: vs => (i, v) :: x_en (i + 1) vs
/-- an index, told apart where it isn't known: j of the n -/
def x_ixs (d : XD E K) (a : E) (kk : Nat → List K → XR K) : Nat → List K → XR K
  | 0, w => [w]
  | j + 1, w => dBr d 0 a (dKc d (nI j)) w (fun w2 => kk j w2) (fun w2 => x_ixs d a kk j w2)
def x_ix (d : XD E K) (a : E) (n : Nat) (w : List K) (kk : Nat → List K → XR K) : XR K :=
  match dKst d a with
  | some v => if decide (v < 0) || decide (n ≤ v.toNatClampNeg) then [w] else kk v.toNatClampNeg w
  | none => if n < 2000 then x_ixs d a kk n w else [w]
/-- a switch: its pairs one by one, then what is left -/
def x_sw (d : XD E K) (a : E) (dflt : Int) (kk : Int → List K → XR K) : List (Int × Int) → List K → XR K
  | [], w => kk dflt w
  | q :: r, w => if (Int32.ofInt q.1).toInt = q.1 then dBr d 0 a (dKc d (Int32.ofInt q.1)) w (fun w2 => kk q.2 w2) (fun w2 => x_sw d a dflt kk r w2) else [w]
def x_tp : Int → List Int → List (Int × Int)
  | _, [] => []
  | lo, o :: r => (lo, o) :: x_tp (lo + 1) r
def x_def (d : XD E K) : FieldType → XV E
  | .object _ => .inr none
  | .array _ => .inr none
  | _ => .inl (dKc d 0)
def x_isRef : FieldType → Bool
  | .object _ => true
  | .array _ => true
  | _ => false
/-- may a field or an element of that type keep this value, just as it is -/
def x_fit (d : XD E K) : FieldType → XV E → Bool
  | .int, .inl _ => true
  | .boolean, .inl e => match dKst d e with
    | some v => decide (v = 0) || decide (v = 1)
    | none => false
  | .object _, .inr _ => true
  | .array _, .inr _ => true
  | _, _ => false
def x_cat (S : List (XV E)) : Nat := S.length
/-- rows of an array of arrays -/
def x_rows (t : Nat) (r : List (XV E)) : Nat → List (XC E)
  | 0 => []
  | n + 1 => .inr (t, r) :: x_rows t r n
def x_refs : Nat → Nat → List (XV E)
  | _, 0 => []
  | a, n + 1 => .inr (some a) :: x_refs (a + 1) n
def x_push : Option (XV E) → List (XV E) → List (XV E)
  | none, S => S
  | some v, S => v :: S
/-- a return keeps what the method says that it answers -/
def x_retOk (d : XD E K) : Option FieldType → XV E → Bool
  | some .int, .inl _ => true
  | some .boolean, .inl e => match dKst d e with
    | some v => decide (v = 0) || decide (v = 1)
    | none => false
  | some .byte, .inl e => match dKst d e with
    | some v => decide (v.toInt8.toInt32 = v)
    | none => false
  | some .char, .inl e => match dKst d e with
    | some v => decide ((v.toUInt32 % 65536).toInt32 = v)
    | none => false
  | some (.object _), .inr _ => true
  | some (.array _), .inr _ => true
  | _, _ => false
/-- the class, by its number, of a receiver -/
def x_rc (ot : XO E) (h : List (XC E)) (a : Nat) : Option Nat := if 1000000 < a then oCl ot a else match h[a]? with
  | some (.inl (ci, _)) => some ci
  | _ => none
/-- what a comparison of a sum of two ints with an int answers, as longs have it -/
def x_l3 (a b v : Int32) : Int32 := if v.toInt < a.toInt + b.toInt then 1 else if a.toInt + b.toInt = v.toInt then 0 else -1
/-- ten instructions that compare a sum of two ints with an element of a field's row, as longs: locals and field, read from behind the first -/
def x_lq (q : XM) (pc : Nat) : Option (Nat × Nat × Nat × Nat) := match mC q (pc + 1), mC q (pc + 3), mC q (pc + 4), mC q (pc + 5), mC q (pc + 6) with
  | some (.iload j, _), some (.i2l, _), some (.ladd, _), some (.aload_n j0, _), some (.getfield ix, _) => match mC q (pc + 9), mC q (pc + 10), mC q (pc + 11), mC q (pc + 12) with
    | some (.iload_n j2, _), some (.iaload, _), some (.i2l, _), some (.lcmp, _) => some (j, j0, ix, j2)
    | _, _, _, _ => none
  | _, _, _, _, _ => none
/-- THE EVALUATOR: fuel, depth, method, place, locals, stack, heap, cells and slots made, what holds on this way; behind it: what is answered -/
def x_run (d : XD E K) (tb : XT) (tyl : List FieldType) (ot : XO E) : Nat → Nat → Nat → Nat → List (Nat × XV E) → List (XV E) → List (XC E) → Nat → Nat → List K → (List K → Option (XV E) → List (XC E) → XR K) → XR K
  | 0, _, _, _, _, _, _, _, _, w, _ => [w]
  | f + 1, dp, k, pc, L, S, h, cn, sn, w, post =>
    match tMth tb k with
    | none => [w]
    | some q =>
      match mC q pc with
      | none => [w]
      | some (i, n) =>
        match i with
        | .iconst v => x_run d tb tyl ot f dp k (pc + 1) L (.inl (dKc d (Int32.ofInt v)) :: S) h cn sn w post
        | .bipush v => x_run d tb tyl ot f dp k (pc + 2) L (.inl (dKc d (Int8.ofInt v).toInt32) :: S) h cn sn w post
        | .sipush v => x_run d tb tyl ot f dp k (pc + 3) L (.inl (dKc d (Int16.ofInt v).toInt32) :: S) h cn sn w post
        | .ldc ix => match tLi tb (mO q) ix with
          | some v => x_run d tb tyl ot f dp k (pc + 2) L (.inl (dKc d v) :: S) h cn sn w post
          | none => match oSl ot (mO q) ix with
            | some a => x_run d tb tyl ot f dp k (pc + 2) L (.inr (some a) :: S) h cn sn w post
            | none => [w]
        | .ldc_w ix => match tLi tb (mO q) ix with
          | some v => x_run d tb tyl ot f dp k (pc + 3) L (.inl (dKc d v) :: S) h cn sn w post
          | none => match oSl ot (mO q) ix with
            | some a => x_run d tb tyl ot f dp k (pc + 3) L (.inr (some a) :: S) h cn sn w post
            | none => [w]
        | .i2l => match S, x_lq q pc with
          | .inl a :: r, some (j, j0, ix, j2) => match x_lk L j, x_lk L j0, x_lk L j2, tFld tb (mO q) ix with
            | some (.inl b), some (.inr (some o)), some (.inl e), some (ci, fj) => match h[o]? with
              | some (.inl (c2, fs)) => match decide (c2 = ci), fs[fj]? with
                | true, some (.inr (some y)) => match h[y]? with
                  | some (.inr (0, vs)) => match dKst d e with
                    | some e1 => if decide (e1 < 0) || decide (vs.length ≤ e1.toNatClampNeg) then [w] else match vs[e1.toNatClampNeg]? with
                      | some (.inl v) => match dKst d a, dKst d b, dKst d v with
                        | some a1, some b1, some v1 => x_run d tb tyl ot f dp k (pc + 13) L (.inl (dKc d (x_l3 a1 b1 v1)) :: r) h cn sn w post
                        | _, _, _ => [w]
                      | _ => [w]
                    | none => [w]
                  | _ => [w]
                | _, _ => [w]
              | _ => [w]
            | _, _, _, _ => [w]
          | _, _ => [w]
        | .aconst_null => x_run d tb tyl ot f dp k (pc + 1) L (.inr none :: S) h cn sn w post
        | .iload_n j => match x_lk L j with
          | some (.inl a) => x_run d tb tyl ot f dp k (pc + 1) L (.inl a :: S) h cn sn w post
          | _ => [w]
        | .iload j => match x_lk L j with
          | some (.inl a) => x_run d tb tyl ot f dp k (pc + 2) L (.inl a :: S) h cn sn w post
          | _ => [w]
        | .aload_n j => match x_lk L j with
          | some (.inr a) => x_run d tb tyl ot f dp k (pc + 1) L (.inr a :: S) h cn sn w post
          | _ => [w]
        | .aload j => match x_lk L j with
          | some (.inr a) => x_run d tb tyl ot f dp k (pc + 2) L (.inr a :: S) h cn sn w post
          | _ => [w]
        | .istore_n j => match S with
          | .inl a :: r => if (j : Nat) < mL q then x_run d tb tyl ot f dp k (pc + 1) (x_st L j (.inl a)) r h cn sn w post else [w]
          | _ => [w]
        | .istore j => match S with
          | .inl a :: r => if j < mL q then x_run d tb tyl ot f dp k (pc + 2) (x_st L j (.inl a)) r h cn sn w post else [w]
          | _ => [w]
        | .astore_n j => match S with
          | .inr a :: r => if (j : Nat) < mL q then x_run d tb tyl ot f dp k (pc + 1) (x_st L j (.inr a)) r h cn sn w post else [w]
          | _ => [w]
        | .astore j => match S with
          | .inr a :: r => if j < mL q then x_run d tb tyl ot f dp k (pc + 2) (x_st L j (.inr a)) r h cn sn w post else [w]
          | _ => [w]
        | .iinc j v => match x_lk L j with
          | some (.inl a) => if j < mL q then x_run d tb tyl ot f dp k (pc + 3) (x_st L j (.inl (dBin d 0 a (dKc d (Int32.ofInt v))))) S h cn sn w post else [w]
          | _ => [w]
        | .dup => match S with
          | a :: r => x_run d tb tyl ot f dp k (pc + 1) L (a :: a :: r) h cn sn w post
          | _ => [w]
        | .dup_x1 => match S with
          | a :: b :: r => x_run d tb tyl ot f dp k (pc + 1) L (a :: b :: a :: r) h cn sn w post
          | _ => [w]
        | .dup2 => match S with
          | a :: b :: r => x_run d tb tyl ot f dp k (pc + 1) L (a :: b :: a :: b :: r) h cn sn w post
          | _ => [w]
        | .pop => match S with
          | _ :: r => x_run d tb tyl ot f dp k (pc + 1) L r h cn sn w post
          | _ => [w]
        | .iadd => match S with
          | .inl b :: .inl a :: r => x_run d tb tyl ot f dp k (pc + 1) L (.inl (dBin d 0 a b) :: r) h cn sn w post
          | _ => [w]
        | .isub => match S with
          | .inl b :: .inl a :: r => x_run d tb tyl ot f dp k (pc + 1) L (.inl (dBin d 1 a b) :: r) h cn sn w post
          | _ => [w]
        | .imul => match S with
          | .inl b :: .inl a :: r => x_run d tb tyl ot f dp k (pc + 1) L (.inl (dBin d 2 a b) :: r) h cn sn w post
          | _ => [w]
        | .iand => match S with
          | .inl b :: .inl a :: r => x_run d tb tyl ot f dp k (pc + 1) L (.inl (dBin d 3 a b) :: r) h cn sn w post
          | _ => [w]
        | .ior => match S with
          | .inl b :: .inl a :: r => x_run d tb tyl ot f dp k (pc + 1) L (.inl (dBin d 4 a b) :: r) h cn sn w post
          | _ => [w]
        | .ixor => match S with
          | .inl b :: .inl a :: r => x_run d tb tyl ot f dp k (pc + 1) L (.inl (dBin d 5 a b) :: r) h cn sn w post
          | _ => [w]
        | .ishl => match S with
          | .inl b :: .inl a :: r => x_run d tb tyl ot f dp k (pc + 1) L (.inl (dBin d 6 a b) :: r) h cn sn w post
          | _ => [w]
        | .ishr => match S with
          | .inl b :: .inl a :: r => x_run d tb tyl ot f dp k (pc + 1) L (.inl (dBin d 7 a b) :: r) h cn sn w post
          | _ => [w]
        | .idiv => match S with
          | .inl b :: .inl a :: r => dBr d 0 b (dKc d 0) w (fun w2 => [w2]) (fun w2 => x_run d tb tyl ot f dp k (pc + 1) L (.inl (dBin d 8 a b) :: r) h cn sn w2 post)
          | _ => [w]
        | .irem => match S with
          | .inl b :: .inl a :: r => dBr d 0 b (dKc d 0) w (fun w2 => [w2]) (fun w2 => x_run d tb tyl ot f dp k (pc + 1) L (.inl (dBin d 9 a b) :: r) h cn sn w2 post)
          | _ => [w]
        | .i2b => match S with
          | .inl a :: r => x_run d tb tyl ot f dp k (pc + 1) L (.inl (dUn d 0 a) :: r) h cn sn w post
          | _ => [w]
        | .i2s => match S with
          | .inl a :: r => x_run d tb tyl ot f dp k (pc + 1) L (.inl (dUn d 1 a) :: r) h cn sn w post
          | _ => [w]
        | .goto o => match x_jp pc o with
          | some t => x_run d tb tyl ot f dp k t L S h cn sn w post
          | none => [w]
        | .ifCond c o => match S, x_jp pc o with
          | .inl a :: r, some t => dBr d (x_cn c) a (dKc d 0) w (fun w2 => x_run d tb tyl ot f dp k t L r h cn sn w2 post) (fun w2 => x_run d tb tyl ot f dp k (pc + 3) L r h cn sn w2 post)
          | _, _ => [w]
        | .if_icmp c o => match S, x_jp pc o with
          | .inl b :: .inl a :: r, some t => dBr d (x_cn c) a b w (fun w2 => x_run d tb tyl ot f dp k t L r h cn sn w2 post) (fun w2 => x_run d tb tyl ot f dp k (pc + 3) L r h cn sn w2 post)
          | _, _ => [w]
        | .ifnull o => match S, x_jp pc o with
          | .inr none :: r, some t => x_run d tb tyl ot f dp k t L r h cn sn w post
          | .inr (some _) :: r, _ => x_run d tb tyl ot f dp k (pc + 3) L r h cn sn w post
          | _, _ => [w]
        | .ifnonnull o => match S, x_jp pc o with
          | .inr (some _) :: r, some t => x_run d tb tyl ot f dp k t L r h cn sn w post
          | .inr none :: r, _ => x_run d tb tyl ot f dp k (pc + 3) L r h cn sn w post
          | _, _ => [w]
        | .tableswitch df lo hi os => match S with
          | .inl a :: r => if hi + 1 = lo + os.size then x_sw d a df (fun o w2 => match x_jp pc o with
              | some t => x_run d tb tyl ot f dp k t L r h cn sn w2 post
              | none => [w2]) (x_tp lo os.toList) w else [w]
          | _ => [w]
        | .lookupswitch df ps => match S with
          | .inl a :: r => if (ps.toList.zip (ps.toList.drop 1)).all (fun (a, next) => a.1 < next.1) = true then x_sw d a df (fun o w2 => match x_jp pc o with
              | some t => x_run d tb tyl ot f dp k t L r h cn sn w2 post
              | none => [w2]) ps.toList w else [w]
          | _ => [w]
        | .getfield ix => match S with
          | .inr (some a) :: r => if 1000000 < a then (match oFl ot a (mO q) ix with
              | some v => x_run d tb tyl ot f dp k (pc + 3) L (x_ov d v :: r) h cn sn w post
              | none => [w]) else match tFld tb (mO q) ix with
            | some (ci, j) => match h[a]? with
              | some (.inl (c2, fs)) => match decide (c2 = ci), fs[j]? with
                | true, some v => x_run d tb tyl ot f dp k (pc + 3) L (v :: r) h cn sn w post
                | _, _ => [w]
              | _ => [w]
            | none => [w]
          | _ => [w]
        | .getstatic ix => match oGs ot (mO q) ix with
          | some v => x_run d tb tyl ot f dp k (pc + 3) L (x_ov d v :: S) h cn sn w post
          | none => [w]
        | .arraylength => match S with
          | .inr (some a) :: r => if a = 1000000 then x_run d tb tyl ot f dp k (pc + 1) L (.inl (dKc d (Int32.ofNat (oSn ot))) :: r) h cn sn w post else match oBy ot a with
            | some bs => if 1000000 < a then x_run d tb tyl ot f dp k (pc + 1) L (.inl (dKc d (Int32.ofNat bs.length)) :: r) h cn sn w post else [w]
            | none => [w]
          | _ => [w]
        | .i2c => match S with
          | .inl a :: r => x_run d tb tyl ot f dp k (pc + 1) L (.inl (dUn d 2 a) :: r) h cn sn w post
          | _ => [w]
        | .ineg => match S with
          | .inl a :: r => x_run d tb tyl ot f dp k (pc + 1) L (.inl (dUn d 3 a) :: r) h cn sn w post
          | _ => [w]
        | .iushr => match S with
          | .inl b :: .inl a :: r => x_run d tb tyl ot f dp k (pc + 1) L (.inl (dBin d 10 a b) :: r) h cn sn w post
          | _ => [w]
        | .putfield ix => match S, tFld tb (mO q) ix with
          | v :: .inr (some a) :: r, some (ci, j) => match h[a]? with
            | some (.inl (c2, fs)) => match (tFt tb ci)[j]? with
              | some ty => if decide (c2 = ci) && x_fit d ty.1 v && decide (j < fs.length) && (!ty.2 || (mI q && decide (mRc q = ci))) then x_run d tb tyl ot f dp k (pc + 3) L r (h.set a (.inl (c2, fs.set j v))) cn sn w post else [w]
              | none => [w]
            | _ => [w]
          | _, _ => [w]
        | .iaload => match S with
          | .inl e :: .inr (some a) :: r => if a = 1000000 then x_ix d e (oSn ot) w (fun j w2 => x_run d tb tyl ot f dp k (pc + 1) L (.inl (oSc ot j) :: r) h cn sn w2 post) else match h[a]? with
            | some (.inr (0, vs)) => x_ix d e vs.length w (fun j w2 => match vs[j]? with
              | some v => x_run d tb tyl ot f dp k (pc + 1) L (v :: r) h cn sn w2 post
              | none => [w2])
            | _ => [w]
          | _ => [w]
        | .baload => match S with
          | .inl e :: .inr (some a) :: r => if 1000000 < a then (match oBy ot a with
              | some bs => x_ix d e bs.length w (fun j w2 => x_run d tb tyl ot f dp k (pc + 1) L (.inl (dKc d (bs.getD j 0)) :: r) h cn sn w2 post)
              | none => [w]) else match h[a]? with
            | some (.inr (1, vs)) => x_ix d e vs.length w (fun j w2 => match vs[j]? with
              | some v => x_run d tb tyl ot f dp k (pc + 1) L (v :: r) h cn sn w2 post
              | none => [w2])
            | _ => [w]
          | _ => [w]
        | .aaload => match S with
          | .inl e :: .inr (some a) :: r => match h[a]? with
            | some (.inr (t, vs)) => if (tyl[t]?.map x_isRef) = some true then x_ix d e vs.length w (fun j w2 => match vs[j]? with
              | some v => x_run d tb tyl ot f dp k (pc + 1) L (v :: r) h cn sn w2 post
              | none => [w2]) else [w]
            | _ => [w]
          | _ => [w]
        | .iastore => match S with
          | .inl v :: .inl e :: .inr (some a) :: r => match h[a]? with
            | some (.inr (0, vs)) => x_ix d e vs.length w (fun j w2 => x_run d tb tyl ot f dp k (pc + 1) L r (h.set a (.inr (0, vs.set j (.inl v)))) cn sn w2 post)
            | _ => [w]
          | _ => [w]
        | .bastore => match S with
          | .inl v :: .inl e :: .inr (some a) :: r => match h[a]? with
            | some (.inr (1, vs)) => if x_fit d .boolean (.inl v) then x_ix d e vs.length w (fun j w2 => x_run d tb tyl ot f dp k (pc + 1) L r (h.set a (.inr (1, vs.set j (.inl v)))) cn sn w2 post) else [w]
            | _ => [w]
          | _ => [w]
        | .aastore => match S with
          | .inr (some v) :: .inl e :: .inr (some a) :: r => match h[a]?, h[v]? with
            | some (.inr (t, vs)), some (.inl (ci, _)) => match tyl[t]? with
              | some (.object C) => if decide (C = tNm tb ci) then x_ix d e vs.length w (fun j w2 => x_run d tb tyl ot f dp k (pc + 1) L r (h.set a (.inr (t, vs.set j (.inr (some v))))) cn sn w2 post) else [w]
              | _ => [w]
            | _, _ => [w]
          | _ => [w]
        | .new ix => match tNw tb (mO q) ix with
          | some ci => if decide (cn + 1 ≤ mMc q) && decide (sn + (tFt tb ci).length ≤ mMs q) && decide (h.length + 1 ≤ 1000000) then
              x_run d tb tyl ot f dp k (pc + 3) L (.inr (some h.length) :: S) (h ++ [.inl (ci, (tFt tb ci).map (fun t => x_def d t.1))]) (cn + 1) (sn + (tFt tb ci).length) w post else [w]
          | none => [w]
        | .newarray ty => match S, (match ty with | .int => some 0 | .boolean => some 1 | _ => none) with
          | .inl e :: r, some t => match dKst d e with
            | some v => if decide (¬ v < 0) && decide (v.toNatClampNeg ≤ 100000) && decide (cn + 1 ≤ mMc q) && decide (sn + v.toNatClampNeg ≤ mMs q) && decide (h.length + 1 ≤ 1000000) then
                x_run d tb tyl ot f dp k (pc + 2) L (.inr (some h.length) :: r) (h ++ [.inr (t, List.replicate v.toNatClampNeg (.inl (dKc d 0)))]) (cn + 1) (sn + v.toNatClampNeg) w post else [w]
            | none => [w]
          | _, _ => [w]
        | .anewarray ix => match S, tAn tb (mO q) ix with
          | .inl e :: r, some t => match dKst d e with
            | some v => if decide (¬ v < 0) && decide (v.toNatClampNeg ≤ 100000) && decide (cn + 1 ≤ mMc q) && decide (sn + v.toNatClampNeg ≤ mMs q) && decide (h.length + 1 ≤ 1000000) then
                x_run d tb tyl ot f dp k (pc + 3) L (.inr (some h.length) :: r) (h ++ [.inr (t, List.replicate v.toNatClampNeg (.inr none))]) (cn + 1) (sn + v.toNatClampNeg) w post else [w]
            | none => [w]
          | _, _ => [w]
        | .multianewarray ix dm => match S, tMn tb (mO q) ix with
          | .inl e2 :: .inl e1 :: r, some (t2, t1) => match dKst d e1, dKst d e2 with
            | some v1, some v2 => if decide (dm = 2) && decide (¬ v1 < 0) && decide (¬ v2 < 0) && decide (v1.toNatClampNeg ≤ 100000) && decide (v2.toNatClampNeg ≤ 100000) && decide (t1 < 2) && decide (cn + (1 + v1.toNatClampNeg) ≤ mMc q) && decide (sn + (v1.toNatClampNeg + v1.toNatClampNeg * v2.toNatClampNeg) ≤ mMs q) && decide (h.length + 1 + v1.toNatClampNeg ≤ 1000000) then
                x_run d tb tyl ot f dp k (pc + 4) L (.inr (some h.length) :: r) (h ++ .inr (t2, x_refs (h.length + 1) v1.toNatClampNeg) :: x_rows t1 (List.replicate v2.toNatClampNeg (.inl (dKc d 0))) v1.toNatClampNeg) (cn + 1 + v1.toNatClampNeg) (sn + v1.toNatClampNeg + v1.toNatClampNeg * v2.toNatClampNeg) w post else [w]
            | _, _ => [w]
          | _, _ => [w]
        | .invokestatic ix => match tCal tb (mO q) ix with
          | some (j, so) => match dp with
            | dp2 + 1 => match tMth tb j with
              | some q2 => if decide (mNp q2 ≤ S.length) && decide (2 ≤ so) && decide ((S.drop (mNp q2)).length ≤ 8) && decide (mNp q2 ≤ mL q2) && decide (cn + mMc q2 ≤ mMc q) && decide (sn + mMs q2 ≤ mMs q) then
                  x_run d tb tyl ot f dp2 j 0 (x_en 0 (S.take (mNp q2)).reverse) [] h 0 0 w (fun w2 v h2 => x_run d tb tyl ot f dp k (pc + 3) L (x_push v (S.drop (mNp q2))) h2 (cn + mMc q2) (sn + mMs q2) w2 post) else [w]
              | none => [w]
            | 0 => [w]
          | none => if tBi tb (mO q) ix = some 1 then match S with
            | .inl n0 :: .inl pd :: .inr (some bd) :: .inl ps :: .inr (some bs) :: r => match h[bs]?, h[bd]?, dKst d n0, dKst d pd, dKst d ps with
              | some (.inr (0, us)), some (.inr (0, vs)), some n1, some d1, some s1 => if decide (¬ n1 < 0) && decide (¬ d1 < 0) && decide (¬ s1 < 0) && decide (s1.toNatClampNeg + n1.toNatClampNeg ≤ us.length) && decide (d1.toNatClampNeg + n1.toNatClampNeg ≤ vs.length) && decide (r.length ≤ 8) && us.all (fun u => u.isLeft) then
                  x_run d tb tyl ot f dp k (pc + 3) L r (h.set bd (.inr (0, vs.take d1.toNatClampNeg ++ (us.drop s1.toNatClampNeg).take n1.toNatClampNeg ++ vs.drop (d1.toNatClampNeg + n1.toNatClampNeg)))) cn sn w post else [w]
              | _, _, _, _, _ => [w]
            | _ => [w] else if tBi tb (mO q) ix = some 2 then match S with
            | .inl b :: .inl a :: r => if decide (r.length ≤ 8) && decide (cn ≤ mMc q) && decide (sn ≤ mMs q) then dBr d 2 a b w (fun w2 => x_run d tb tyl ot f dp k (pc + 3) L (.inl b :: r) h cn sn w2 post) (fun w2 => x_run d tb tyl ot f dp k (pc + 3) L (.inl a :: r) h cn sn w2 post) else [w]
            | _ => [w] else if tBi tb (mO q) ix = some 3 then match S with
            | .inl b :: .inl a :: r => if decide (r.length ≤ 8) && decide (cn ≤ mMc q) && decide (sn ≤ mMs q) then dBr d 2 b a w (fun w2 => x_run d tb tyl ot f dp k (pc + 3) L (.inl b :: r) h cn sn w2 post) (fun w2 => x_run d tb tyl ot f dp k (pc + 3) L (.inl a :: r) h cn sn w2 post) else [w]
            | _ => [w] else if tBi tb (mO q) ix = some 4 then match S with
            | .inl a :: r => if decide (r.length ≤ 8) && decide (cn ≤ mMc q) && decide (sn ≤ mMs q) then dBr d 3 a (dKc d 0) w (fun w2 => x_run d tb tyl ot f dp k (pc + 3) L (.inl a :: r) h cn sn w2 post) (fun w2 => x_run d tb tyl ot f dp k (pc + 3) L (.inl (dBin d 1 (dKc d 0) a) :: r) h cn sn w2 post) else [w]
            | _ => [w] else [w]
        | .invokevirtual ix => match dp, tCal tb (mO q) ix with
          | dp2 + 1, some (j, so) => match tMth tb j with
            | some q2 => match S.drop (mNp q2) with
              | .inr (some a) :: r => if decide (mNp q2 + 1 ≤ S.length) && decide (so = 0) && decide (x_rc ot h a = some (mRc q2)) && decide (r.length ≤ 8) && decide (mNp q2 + 1 ≤ mL q2) && decide (cn + mMc q2 ≤ mMc q) && decide (sn + mMs q2 ≤ mMs q) then
                    x_run d tb tyl ot f dp2 j 0 (x_en 0 (.inr (some a) :: (S.take (mNp q2)).reverse)) [] h 0 0 w (fun w2 v h2 => x_run d tb tyl ot f dp k (pc + 3) L (x_push v r) h2 (cn + mMc q2) (sn + mMs q2) w2 post) else [w]
              | _ => [w]
            | none => [w]
          | _, _ => [w]
        | .invokespecial ix => match tBi tb (mO q) ix with
          | some 0 => match S with
            | .inr (some _) :: r => if decide (r.length ≤ 8) then x_run d tb tyl ot f dp k (pc + 3) L r h cn sn w post else [w]
            | _ => [w]
          | _ => match dp, tCal tb (mO q) ix with
            | dp2 + 1, some (j, so) => match tMth tb j with
              | some q2 => match S.drop (mNp q2) with
                | .inr (some a) :: r => if decide (mNp q2 + 1 ≤ S.length) && decide (so = 1) && decide (r.length ≤ 8) && decide (mNp q2 + 1 ≤ mL q2) && decide (cn + mMc q2 ≤ mMc q) && decide (sn + mMs q2 ≤ mMs q) then
                    x_run d tb tyl ot f dp2 j 0 (x_en 0 (.inr (some a) :: (S.take (mNp q2)).reverse)) [] h 0 0 w (fun w2 v h2 => x_run d tb tyl ot f dp k (pc + 3) L (x_push v r) h2 (cn + mMc q2) (sn + mMs q2) w2 post) else [w]
                | _ => [w]
              | none => [w]
            | _, _ => [w]
        | .ireturn => match S with
          | [.inl e] => if x_retOk d (mR q) (.inl e) && decide (cn ≤ mMc q) && decide (sn ≤ mMs q) then post w (some (.inl e)) h else [w]
          | _ => [w]
        | .areturn => match S with
          | [.inr a] => if x_retOk d (mR q) (.inr a) && decide (cn ≤ mMc q) && decide (sn ≤ mMs q) then post w (some (.inr a)) h else [w]
          | _ => [w]
        | .return_ => match S with
          | [] => if decide (mR q = none) && decide (cn ≤ mMc q) && decide (sn ≤ mMs q) then post w none h else [w]
          | _ => [w]
        | _ => [w]
end XDefs
