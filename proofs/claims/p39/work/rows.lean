section
/-! Methods and their instructions, as a table has them. -/
section XBase
/-- a method: name, bytes, locals, return, whose pool, the receiver's class, parameters, cells and slots that it may make, its instructions -/
abbrev XM : Type := MethodName × ByteArray × Nat × Option FieldType × Nat × Nat × Nat × Nat × Nat × Bool × (Nat → Option (Instr × Nat))
abbrev mY (q : XM) : MethodName := q.1
abbrev mB (q : XM) : ByteArray := q.2.1
abbrev mL (q : XM) : Nat := q.2.2.1
abbrev mR (q : XM) : Option FieldType := q.2.2.2.1
abbrev mO (q : XM) : Nat := q.2.2.2.2.1
abbrev mRc (q : XM) : Nat := q.2.2.2.2.2.1
abbrev mNp (q : XM) : Nat := q.2.2.2.2.2.2.1
abbrev mMc (q : XM) : Nat := q.2.2.2.2.2.2.2.1
abbrev mMs (q : XM) : Nat := q.2.2.2.2.2.2.2.2.1
abbrev mI (q : XM) : Bool := q.2.2.2.2.2.2.2.2.2.1
abbrev mC (q : XM) : Nat → Option (Instr × Nat) := q.2.2.2.2.2.2.2.2.2.2
/-- the length of an instruction, in bytes -/
def x_len : Instr → Nat
  | .iload _ => 2
  | .aload _ => 2
  | .istore _ => 2
  | .astore _ => 2
  | .bipush _ => 2
  | .newarray _ => 2
  | .ldc _ => 2
  | .sipush _ => 3
  | .iinc _ _ => 3
  | .getfield _ => 3
  | .putfield _ => 3
  | .new _ => 3
  | .anewarray _ => 3
  | .invokespecial _ => 3
  | .invokestatic _ => 3
  | .invokevirtual _ => 3
  | .goto _ => 3
  | .getstatic _ => 3
  | .ifCond _ _ => 3
  | .if_icmp _ _ => 3
  | .ifnull _ => 3
  | .ifnonnull _ => 3
  | .ldc_w _ => 3
  | .multianewarray _ _ => 4
  | _ => 1
def x_lenOk : Instr → Nat → Bool
  | .tableswitch _ _ _ _, _ => true
  | .lookupswitch _ _, _ => true
  | i, n => n == x_len i
def x_at2 : Nat → List (Nat × Instr × Nat) → Option (Instr × Nat)
  | _, [] => none
  | pc, q :: r => if q.1 = pc then some q.2 else x_at2 pc r
def x_cOk (b : ByteArray) (l : List (Nat × Instr × Nat)) : Bool := l.all (fun q => decide (decode b q.1 = .ok q.2) && x_lenOk q.2.1 q.2.2)
theorem x_cOk_spec {b : ByteArray} {pc n : Nat} {i : Instr} : ∀ {l : List (Nat × Instr × Nat)}, x_cOk b l = true → x_at2 pc l = some (i, n) → decode b pc = .ok (i, n) ∧ x_lenOk i n = true
  | [], _, h => by cases h
  | q :: r, hc, h => by
    have hc2 : (decide (decode b q.1 = .ok q.2) && x_lenOk q.2.1 q.2.2) = true ∧ x_cOk b r = true := by
      have h1 := List.all_eq_true.mp hc
      exact ⟨h1 q List.mem_cons_self, List.all_eq_true.mpr fun z hz => h1 z (List.mem_cons_of_mem _ hz)⟩
    simp only [x_at2] at h
    split at h
    · rename_i he
      subst he
      simp only [Option.some.injEq] at h
      have h2 := hc2.1
      simp only [Bool.and_eq_true, decide_eq_true_eq] at h2
      rw [h] at h2
      exact h2
    · exact x_cOk_spec hc2.2 h
def x_Good (b : ByteArray) (g : Nat → Option (Instr × Nat)) : Prop := ∀ pc i n, g pc = some (i, n) → decode b pc = .ok (i, n) ∧ x_lenOk i n = true
theorem x_Good_l {b : ByteArray} {l : List (Nat × Instr × Nat)} (h : x_cOk b l = true) : x_Good b (fun pc => x_at2 pc l) := fun _ _ _ q => x_cOk_spec h q
theorem x_Good_ite {b : ByteArray} {k : Nat} {g1 g2 : Nat → Option (Instr × Nat)} (h1 : x_Good b g1) (h2 : x_Good b g2) : x_Good b (fun pc => if pc < k then g1 pc else g2 pc) := fun pc i n h => by
  have h : (if pc < k then g1 pc else g2 pc) = some (i, n) := h
  by_cases c : pc < k
  · rw [if_pos c] at h
    exact h1 pc i n h
  · rw [if_neg c] at h
    exact h2 pc i n h
end XBase
end
section
/-! Instructions against bytes, walked once. -/
section XDec
theorem du1 {b : ByteArray} {p o : Nat} (h : p < b.size) (e : b[p].toNat = o) : (Reader.u1 (ε := DecodeError)) b p = .ok (o, p + 1) := by
  have k : (Reader.u1 (ε := DecodeError)) b p = (if h : p < b.size then (do set (p + 1); pure b[p].toNat : Reader DecodeError Nat) else throw (HasTruncated.truncated p)) b p := rfl
  rw [k, dif_pos h, ← e]
  rfl
theorem du2 {b : ByteArray} {p o q : Nat} (h : p < b.size) (e : b[p].toNat = o) (h2 : p + 1 < b.size) (e2 : b[p + 1].toNat = q) : (Reader.u2 (ε := DecodeError)) b p = .ok (o * 256 + q, p + 2) := by
  show Except.bind (Reader.u1 b p) _ = _
  rw [du1 h e]
  show Except.bind (Reader.u1 b (p + 1)) _ = _
  rw [du1 h2 e2]
  rfl
theorem ds1 {b : ByteArray} {p o : Nat} (h : p < b.size) (e : b[p].toNat = o) : (Reader.s1 (ε := DecodeError)) b p = .ok (Reader.signed 8 o, p + 1) := by
  show Except.bind (Reader.u1 b p) _ = _
  rw [du1 h e]
  rfl
theorem ds2 {b : ByteArray} {p o q : Nat} (h : p < b.size) (e : b[p].toNat = o) (h2 : p + 1 < b.size) (e2 : b[p + 1].toNat = q) : (Reader.s2 (ε := DecodeError)) b p = .ok (Reader.signed 16 (o * 256 + q), p + 2) := by
  show Except.bind (Reader.u2 b p) _ = _
  rw [du2 h e h2 e2]
  rfl
theorem dDec {b : ByteArray} {pc n : Nat} {i : Instr} (h : Decoder.instr pc b pc = .ok (i, pc + n)) : decode b pc = .ok (i, n) := by
  show Except.bind (Decoder.instr pc b pc) _ = _
  rw [h]
  show Except.ok (i, pc + n - pc) = _
  rw [Nat.add_sub_cancel_left]
theorem dAt {b : ByteArray} {p : Nat} {a : UInt8} (h : b.data.toList[p]? = some a) : ∃ hp : p < b.size, b[p].toNat = a.toNat := by
  rcases b with ⟨⟨L⟩⟩
  obtain ⟨h1, h2⟩ := List.getElem?_eq_some_iff.mp h
  exact ⟨h1, congrArg UInt8.toNat h2⟩
theorem dAk {b : ByteArray} {pc k : Nat} {l : List UInt8} (hl : b.data.toList.drop pc = l) {a : UInt8} (h : l[k]? = some a) : ∃ hp : pc + k < b.size, b[pc + k].toNat = a.toNat := by
  rw [← hl, List.getElem?_drop] at h
  exact dAt h
theorem dA0 {b : ByteArray} {pc : Nat} {a : UInt8} {l : List UInt8} (hl : b.data.toList.drop pc = a :: l) : ∃ hp : pc < b.size, b[pc].toNat = a.toNat := dAk (k := 0) hl rfl
def dCn : Jvm.ClassFile.Cond → Nat
  | .eq => 0
  | .ne => 1
  | .lt => 2
  | .ge => 3
  | .gt => 4
  | .le => 5
def dAr : Jvm.ClassFile.ArrayType → Nat
  | .int => 10
  | .boolean => 4
  | _ => 0
def dChk : Instr → List UInt8 → Bool
  | .aconst_null, a :: _ => Nat.beq a.toNat 1
  | .iaload, a :: _ => Nat.beq a.toNat 46
  | .aaload, a :: _ => Nat.beq a.toNat 50
  | .baload, a :: _ => Nat.beq a.toNat 51
  | .iastore, a :: _ => Nat.beq a.toNat 79
  | .aastore, a :: _ => Nat.beq a.toNat 83
  | .bastore, a :: _ => Nat.beq a.toNat 84
  | .pop, a :: _ => Nat.beq a.toNat 87
  | .dup, a :: _ => Nat.beq a.toNat 89
  | .dup_x1, a :: _ => Nat.beq a.toNat 90
  | .dup2, a :: _ => Nat.beq a.toNat 92
  | .iadd, a :: _ => Nat.beq a.toNat 96
  | .ladd, a :: _ => Nat.beq a.toNat 97
  | .isub, a :: _ => Nat.beq a.toNat 100
  | .imul, a :: _ => Nat.beq a.toNat 104
  | .idiv, a :: _ => Nat.beq a.toNat 108
  | .irem, a :: _ => Nat.beq a.toNat 112
  | .ineg, a :: _ => Nat.beq a.toNat 116
  | .ishl, a :: _ => Nat.beq a.toNat 120
  | .ishr, a :: _ => Nat.beq a.toNat 122
  | .iushr, a :: _ => Nat.beq a.toNat 124
  | .iand, a :: _ => Nat.beq a.toNat 126
  | .ior, a :: _ => Nat.beq a.toNat 128
  | .ixor, a :: _ => Nat.beq a.toNat 130
  | .i2l, a :: _ => Nat.beq a.toNat 133
  | .i2b, a :: _ => Nat.beq a.toNat 145
  | .i2c, a :: _ => Nat.beq a.toNat 146
  | .i2s, a :: _ => Nat.beq a.toNat 147
  | .lcmp, a :: _ => Nat.beq a.toNat 148
  | .ireturn, a :: _ => Nat.beq a.toNat 172
  | .areturn, a :: _ => Nat.beq a.toNat 176
  | .return_, a :: _ => Nat.beq a.toNat 177
  | .arraylength, a :: _ => Nat.beq a.toNat 190
  | .athrow, a :: _ => Nat.beq a.toNat 191
  | .iload_n j, a :: _ => Nat.beq a.toNat (26 + j.val)
  | .aload_n j, a :: _ => Nat.beq a.toNat (42 + j.val)
  | .istore_n j, a :: _ => Nat.beq a.toNat (59 + j.val)
  | .astore_n j, a :: _ => Nat.beq a.toNat (75 + j.val)
  | .iconst x, a :: _ => Nat.ble 2 a.toNat && Nat.ble a.toNat 8 && decide (x = (a.toNat : Int) - 3)
  | .iload j, a :: c :: _ => Nat.beq a.toNat 21 && Nat.beq c.toNat j
  | .aload j, a :: c :: _ => Nat.beq a.toNat 25 && Nat.beq c.toNat j
  | .istore j, a :: c :: _ => Nat.beq a.toNat 54 && Nat.beq c.toNat j
  | .astore j, a :: c :: _ => Nat.beq a.toNat 58 && Nat.beq c.toNat j
  | .ldc j, a :: c :: _ => Nat.beq a.toNat 18 && Nat.beq c.toNat j
  | .bipush x, a :: c :: _ => Nat.beq a.toNat 16 && decide (Reader.signed 8 c.toNat = x)
  | .ldc_w j, a :: c :: d :: _ => Nat.beq a.toNat 19 && Nat.beq (c.toNat * 256 + d.toNat) j
  | .getstatic j, a :: c :: d :: _ => Nat.beq a.toNat 178 && Nat.beq (c.toNat * 256 + d.toNat) j
  | .getfield j, a :: c :: d :: _ => Nat.beq a.toNat 180 && Nat.beq (c.toNat * 256 + d.toNat) j
  | .putfield j, a :: c :: d :: _ => Nat.beq a.toNat 181 && Nat.beq (c.toNat * 256 + d.toNat) j
  | .invokevirtual j, a :: c :: d :: _ => Nat.beq a.toNat 182 && Nat.beq (c.toNat * 256 + d.toNat) j
  | .invokespecial j, a :: c :: d :: _ => Nat.beq a.toNat 183 && Nat.beq (c.toNat * 256 + d.toNat) j
  | .invokestatic j, a :: c :: d :: _ => Nat.beq a.toNat 184 && Nat.beq (c.toNat * 256 + d.toNat) j
  | .new j, a :: c :: d :: _ => Nat.beq a.toNat 187 && Nat.beq (c.toNat * 256 + d.toNat) j
  | .anewarray j, a :: c :: d :: _ => Nat.beq a.toNat 189 && Nat.beq (c.toNat * 256 + d.toNat) j
  | .sipush x, a :: c :: d :: _ => Nat.beq a.toNat 17 && decide (Reader.signed 16 (c.toNat * 256 + d.toNat) = x)
  | .goto x, a :: c :: d :: _ => Nat.beq a.toNat 167 && decide (Reader.signed 16 (c.toNat * 256 + d.toNat) = x)
  | .ifnull x, a :: c :: d :: _ => Nat.beq a.toNat 198 && decide (Reader.signed 16 (c.toNat * 256 + d.toNat) = x)
  | .ifnonnull x, a :: c :: d :: _ => Nat.beq a.toNat 199 && decide (Reader.signed 16 (c.toNat * 256 + d.toNat) = x)
  | .ifCond k x, a :: c :: d :: _ => Nat.beq a.toNat (153 + dCn k) && decide (Reader.signed 16 (c.toNat * 256 + d.toNat) = x)
  | .if_icmp k x, a :: c :: d :: _ => Nat.beq a.toNat (159 + dCn k) && decide (Reader.signed 16 (c.toNat * 256 + d.toNat) = x)
  | .iinc j x, a :: c :: d :: _ => Nat.beq a.toNat 132 && Nat.beq c.toNat j && decide (Reader.signed 8 d.toNat = x)
  | .newarray t, a :: c :: _ => Nat.beq a.toNat 188 && Nat.beq c.toNat (dAr t) && Nat.ble 1 (dAr t)
  | .multianewarray j k, a :: c :: d :: e :: _ => Nat.beq a.toNat 197 && Nat.beq (c.toNat * 256 + d.toNat) j && Nat.beq e.toNat k && Nat.ble 1 k
  | _, _ => false
theorem dChk_spec {b : ByteArray} {pc : Nat} {i : Instr} {l : List UInt8} (hl : b.data.toList.drop pc = l) (hk : dChk i l = true) : decode b pc = .ok (i, x_len i) := by
  cases i
  case aconst_null =>
    rcases l with _ | ⟨a, l⟩
    · cases hk
    obtain ⟨p0, e0⟩ := dA0 hl
    have e0 := e0.trans (Nat.eq_of_beq_eq_true hk)
    refine dDec (n := 1) ?_
    show Except.bind (Reader.u1 b pc) _ = _
    rw [du1 p0 e0]
    rfl
  case iaload =>
    rcases l with _ | ⟨a, l⟩
    · cases hk
    obtain ⟨p0, e0⟩ := dA0 hl
    have e0 := e0.trans (Nat.eq_of_beq_eq_true hk)
    refine dDec (n := 1) ?_
    show Except.bind (Reader.u1 b pc) _ = _
    rw [du1 p0 e0]
    rfl
  case aaload =>
    rcases l with _ | ⟨a, l⟩
    · cases hk
    obtain ⟨p0, e0⟩ := dA0 hl
    have e0 := e0.trans (Nat.eq_of_beq_eq_true hk)
    refine dDec (n := 1) ?_
    show Except.bind (Reader.u1 b pc) _ = _
    rw [du1 p0 e0]
    rfl
  case baload =>
    rcases l with _ | ⟨a, l⟩
    · cases hk
    obtain ⟨p0, e0⟩ := dA0 hl
    have e0 := e0.trans (Nat.eq_of_beq_eq_true hk)
    refine dDec (n := 1) ?_
    show Except.bind (Reader.u1 b pc) _ = _
    rw [du1 p0 e0]
    rfl
  case iastore =>
    rcases l with _ | ⟨a, l⟩
    · cases hk
    obtain ⟨p0, e0⟩ := dA0 hl
    have e0 := e0.trans (Nat.eq_of_beq_eq_true hk)
    refine dDec (n := 1) ?_
    show Except.bind (Reader.u1 b pc) _ = _
    rw [du1 p0 e0]
    rfl
  case aastore =>
    rcases l with _ | ⟨a, l⟩
    · cases hk
    obtain ⟨p0, e0⟩ := dA0 hl
    have e0 := e0.trans (Nat.eq_of_beq_eq_true hk)
    refine dDec (n := 1) ?_
    show Except.bind (Reader.u1 b pc) _ = _
    rw [du1 p0 e0]
    rfl
  case bastore =>
    rcases l with _ | ⟨a, l⟩
    · cases hk
    obtain ⟨p0, e0⟩ := dA0 hl
    have e0 := e0.trans (Nat.eq_of_beq_eq_true hk)
    refine dDec (n := 1) ?_
    show Except.bind (Reader.u1 b pc) _ = _
    rw [du1 p0 e0]
    rfl
  case pop =>
    rcases l with _ | ⟨a, l⟩
    · cases hk
    obtain ⟨p0, e0⟩ := dA0 hl
    have e0 := e0.trans (Nat.eq_of_beq_eq_true hk)
    refine dDec (n := 1) ?_
    show Except.bind (Reader.u1 b pc) _ = _
    rw [du1 p0 e0]
    rfl
  case dup =>
    rcases l with _ | ⟨a, l⟩
    · cases hk
    obtain ⟨p0, e0⟩ := dA0 hl
    have e0 := e0.trans (Nat.eq_of_beq_eq_true hk)
    refine dDec (n := 1) ?_
    show Except.bind (Reader.u1 b pc) _ = _
    rw [du1 p0 e0]
    rfl
  case dup_x1 =>
    rcases l with _ | ⟨a, l⟩
    · cases hk
    obtain ⟨p0, e0⟩ := dA0 hl
    have e0 := e0.trans (Nat.eq_of_beq_eq_true hk)
    refine dDec (n := 1) ?_
    show Except.bind (Reader.u1 b pc) _ = _
    rw [du1 p0 e0]
    rfl
  case dup2 =>
    rcases l with _ | ⟨a, l⟩
    · cases hk
    obtain ⟨p0, e0⟩ := dA0 hl
    have e0 := e0.trans (Nat.eq_of_beq_eq_true hk)
    refine dDec (n := 1) ?_
    show Except.bind (Reader.u1 b pc) _ = _
    rw [du1 p0 e0]
    rfl
  case iadd =>
    rcases l with _ | ⟨a, l⟩
    · cases hk
    obtain ⟨p0, e0⟩ := dA0 hl
    have e0 := e0.trans (Nat.eq_of_beq_eq_true hk)
    refine dDec (n := 1) ?_
    show Except.bind (Reader.u1 b pc) _ = _
    rw [du1 p0 e0]
    rfl
  case ladd =>
    rcases l with _ | ⟨a, l⟩
    · cases hk
    obtain ⟨p0, e0⟩ := dA0 hl
    have e0 := e0.trans (Nat.eq_of_beq_eq_true hk)
    refine dDec (n := 1) ?_
    show Except.bind (Reader.u1 b pc) _ = _
    rw [du1 p0 e0]
    rfl
  case isub =>
    rcases l with _ | ⟨a, l⟩
    · cases hk
    obtain ⟨p0, e0⟩ := dA0 hl
    have e0 := e0.trans (Nat.eq_of_beq_eq_true hk)
    refine dDec (n := 1) ?_
    show Except.bind (Reader.u1 b pc) _ = _
    rw [du1 p0 e0]
    rfl
  case imul =>
    rcases l with _ | ⟨a, l⟩
    · cases hk
    obtain ⟨p0, e0⟩ := dA0 hl
    have e0 := e0.trans (Nat.eq_of_beq_eq_true hk)
    refine dDec (n := 1) ?_
    show Except.bind (Reader.u1 b pc) _ = _
    rw [du1 p0 e0]
    rfl
  case idiv =>
    rcases l with _ | ⟨a, l⟩
    · cases hk
    obtain ⟨p0, e0⟩ := dA0 hl
    have e0 := e0.trans (Nat.eq_of_beq_eq_true hk)
    refine dDec (n := 1) ?_
    show Except.bind (Reader.u1 b pc) _ = _
    rw [du1 p0 e0]
    rfl
  case irem =>
    rcases l with _ | ⟨a, l⟩
    · cases hk
    obtain ⟨p0, e0⟩ := dA0 hl
    have e0 := e0.trans (Nat.eq_of_beq_eq_true hk)
    refine dDec (n := 1) ?_
    show Except.bind (Reader.u1 b pc) _ = _
    rw [du1 p0 e0]
    rfl
  case ineg =>
    rcases l with _ | ⟨a, l⟩
    · cases hk
    obtain ⟨p0, e0⟩ := dA0 hl
    have e0 := e0.trans (Nat.eq_of_beq_eq_true hk)
    refine dDec (n := 1) ?_
    show Except.bind (Reader.u1 b pc) _ = _
    rw [du1 p0 e0]
    rfl
  case ishl =>
    rcases l with _ | ⟨a, l⟩
    · cases hk
    obtain ⟨p0, e0⟩ := dA0 hl
    have e0 := e0.trans (Nat.eq_of_beq_eq_true hk)
    refine dDec (n := 1) ?_
    show Except.bind (Reader.u1 b pc) _ = _
    rw [du1 p0 e0]
    rfl
  case ishr =>
    rcases l with _ | ⟨a, l⟩
    · cases hk
    obtain ⟨p0, e0⟩ := dA0 hl
    have e0 := e0.trans (Nat.eq_of_beq_eq_true hk)
    refine dDec (n := 1) ?_
    show Except.bind (Reader.u1 b pc) _ = _
    rw [du1 p0 e0]
    rfl
  case iushr =>
    rcases l with _ | ⟨a, l⟩
    · cases hk
    obtain ⟨p0, e0⟩ := dA0 hl
    have e0 := e0.trans (Nat.eq_of_beq_eq_true hk)
    refine dDec (n := 1) ?_
    show Except.bind (Reader.u1 b pc) _ = _
    rw [du1 p0 e0]
    rfl
  case iand =>
    rcases l with _ | ⟨a, l⟩
    · cases hk
    obtain ⟨p0, e0⟩ := dA0 hl
    have e0 := e0.trans (Nat.eq_of_beq_eq_true hk)
    refine dDec (n := 1) ?_
    show Except.bind (Reader.u1 b pc) _ = _
    rw [du1 p0 e0]
    rfl
  case ior =>
    rcases l with _ | ⟨a, l⟩
    · cases hk
    obtain ⟨p0, e0⟩ := dA0 hl
    have e0 := e0.trans (Nat.eq_of_beq_eq_true hk)
    refine dDec (n := 1) ?_
    show Except.bind (Reader.u1 b pc) _ = _
    rw [du1 p0 e0]
    rfl
  case ixor =>
    rcases l with _ | ⟨a, l⟩
    · cases hk
    obtain ⟨p0, e0⟩ := dA0 hl
    have e0 := e0.trans (Nat.eq_of_beq_eq_true hk)
    refine dDec (n := 1) ?_
    show Except.bind (Reader.u1 b pc) _ = _
    rw [du1 p0 e0]
    rfl
  case i2l =>
    rcases l with _ | ⟨a, l⟩
    · cases hk
    obtain ⟨p0, e0⟩ := dA0 hl
    have e0 := e0.trans (Nat.eq_of_beq_eq_true hk)
    refine dDec (n := 1) ?_
    show Except.bind (Reader.u1 b pc) _ = _
    rw [du1 p0 e0]
    rfl
  case i2b =>
    rcases l with _ | ⟨a, l⟩
    · cases hk
    obtain ⟨p0, e0⟩ := dA0 hl
    have e0 := e0.trans (Nat.eq_of_beq_eq_true hk)
    refine dDec (n := 1) ?_
    show Except.bind (Reader.u1 b pc) _ = _
    rw [du1 p0 e0]
    rfl
  case i2c =>
    rcases l with _ | ⟨a, l⟩
    · cases hk
    obtain ⟨p0, e0⟩ := dA0 hl
    have e0 := e0.trans (Nat.eq_of_beq_eq_true hk)
    refine dDec (n := 1) ?_
    show Except.bind (Reader.u1 b pc) _ = _
    rw [du1 p0 e0]
    rfl
  case i2s =>
    rcases l with _ | ⟨a, l⟩
    · cases hk
    obtain ⟨p0, e0⟩ := dA0 hl
    have e0 := e0.trans (Nat.eq_of_beq_eq_true hk)
    refine dDec (n := 1) ?_
    show Except.bind (Reader.u1 b pc) _ = _
    rw [du1 p0 e0]
    rfl
  case lcmp =>
    rcases l with _ | ⟨a, l⟩
    · cases hk
    obtain ⟨p0, e0⟩ := dA0 hl
    have e0 := e0.trans (Nat.eq_of_beq_eq_true hk)
    refine dDec (n := 1) ?_
    show Except.bind (Reader.u1 b pc) _ = _
    rw [du1 p0 e0]
    rfl
  case ireturn =>
    rcases l with _ | ⟨a, l⟩
    · cases hk
    obtain ⟨p0, e0⟩ := dA0 hl
    have e0 := e0.trans (Nat.eq_of_beq_eq_true hk)
    refine dDec (n := 1) ?_
    show Except.bind (Reader.u1 b pc) _ = _
    rw [du1 p0 e0]
    rfl
  case areturn =>
    rcases l with _ | ⟨a, l⟩
    · cases hk
    obtain ⟨p0, e0⟩ := dA0 hl
    have e0 := e0.trans (Nat.eq_of_beq_eq_true hk)
    refine dDec (n := 1) ?_
    show Except.bind (Reader.u1 b pc) _ = _
    rw [du1 p0 e0]
    rfl
  case return_ =>
    rcases l with _ | ⟨a, l⟩
    · cases hk
    obtain ⟨p0, e0⟩ := dA0 hl
    have e0 := e0.trans (Nat.eq_of_beq_eq_true hk)
    refine dDec (n := 1) ?_
    show Except.bind (Reader.u1 b pc) _ = _
    rw [du1 p0 e0]
    rfl
  case arraylength =>
    rcases l with _ | ⟨a, l⟩
    · cases hk
    obtain ⟨p0, e0⟩ := dA0 hl
    have e0 := e0.trans (Nat.eq_of_beq_eq_true hk)
    refine dDec (n := 1) ?_
    show Except.bind (Reader.u1 b pc) _ = _
    rw [du1 p0 e0]
    rfl
  case athrow =>
    rcases l with _ | ⟨a, l⟩
    · cases hk
    obtain ⟨p0, e0⟩ := dA0 hl
    have e0 := e0.trans (Nat.eq_of_beq_eq_true hk)
    refine dDec (n := 1) ?_
    show Except.bind (Reader.u1 b pc) _ = _
    rw [du1 p0 e0]
    rfl
  case iload_n j =>
    rcases l with _ | ⟨a, l⟩
    · cases hk
    obtain ⟨p0, e0⟩ := dA0 hl
    have e0 := e0.trans (Nat.eq_of_beq_eq_true hk)
    refine dDec (n := 1) ?_
    show Except.bind (Reader.u1 b pc) _ = _
    rw [du1 p0 e0]
    have hj : ∀ j : Fin 4, j = 0 ∨ j = 1 ∨ j = 2 ∨ j = 3 := by decide
    rcases hj j with rfl | rfl | rfl | rfl <;> rfl
  case aload_n j =>
    rcases l with _ | ⟨a, l⟩
    · cases hk
    obtain ⟨p0, e0⟩ := dA0 hl
    have e0 := e0.trans (Nat.eq_of_beq_eq_true hk)
    refine dDec (n := 1) ?_
    show Except.bind (Reader.u1 b pc) _ = _
    rw [du1 p0 e0]
    have hj : ∀ j : Fin 4, j = 0 ∨ j = 1 ∨ j = 2 ∨ j = 3 := by decide
    rcases hj j with rfl | rfl | rfl | rfl <;> rfl
  case istore_n j =>
    rcases l with _ | ⟨a, l⟩
    · cases hk
    obtain ⟨p0, e0⟩ := dA0 hl
    have e0 := e0.trans (Nat.eq_of_beq_eq_true hk)
    refine dDec (n := 1) ?_
    show Except.bind (Reader.u1 b pc) _ = _
    rw [du1 p0 e0]
    have hj : ∀ j : Fin 4, j = 0 ∨ j = 1 ∨ j = 2 ∨ j = 3 := by decide
    rcases hj j with rfl | rfl | rfl | rfl <;> rfl
  case astore_n j =>
    rcases l with _ | ⟨a, l⟩
    · cases hk
    obtain ⟨p0, e0⟩ := dA0 hl
    have e0 := e0.trans (Nat.eq_of_beq_eq_true hk)
    refine dDec (n := 1) ?_
    show Except.bind (Reader.u1 b pc) _ = _
    rw [du1 p0 e0]
    have hj : ∀ j : Fin 4, j = 0 ∨ j = 1 ∨ j = 2 ∨ j = 3 := by decide
    rcases hj j with rfl | rfl | rfl | rfl <;> rfl
  case iconst x =>
    rcases l with _ | ⟨a, l⟩
    · cases hk
    obtain ⟨p0, e0⟩ := dA0 hl
    have hk : (Nat.ble 2 a.toNat && Nat.ble a.toNat 8 && decide (x = (a.toNat : Int) - 3)) = true := hk
    simp only [Bool.and_eq_true] at hk
    obtain ⟨⟨k1, k2⟩, k3⟩ := hk
    have k1 := Nat.le_of_ble_eq_true k1
    have k2 := Nat.le_of_ble_eq_true k2
    have k3 := of_decide_eq_true k3
    have hc : a.toNat = 2 ∨ a.toNat = 3 ∨ a.toNat = 4 ∨ a.toNat = 5 ∨ a.toNat = 6 ∨ a.toNat = 7 ∨ a.toNat = 8 := by omega
    subst k3
    refine dDec (n := 1) ?_
    show Except.bind (Reader.u1 b pc) _ = _
    rcases hc with h | h | h | h | h | h | h
    all_goals
      rw [h] at e0 ⊢
      rw [du1 p0 e0]
      rfl
  case iload j =>
    rcases l with _ | ⟨a, _ | ⟨c, l⟩⟩
    · cases hk
    · cases hk
    obtain ⟨p0, e0⟩ := dA0 hl
    obtain ⟨p1, e1⟩ := dAk (k := 1) hl rfl
    obtain ⟨k1, k2⟩ := Bool.and_eq_true_iff.mp hk
    have e0 := e0.trans (Nat.eq_of_beq_eq_true k1)
    have e1 := e1.trans (Nat.eq_of_beq_eq_true k2)
    refine dDec (n := 2) ?_
    show Except.bind (Reader.u1 b pc) _ = _
    rw [du1 p0 e0]
    show Except.bind (Reader.u1 b (pc + 1)) _ = _
    rw [du1 p1 e1]
    rfl
  case aload j =>
    rcases l with _ | ⟨a, _ | ⟨c, l⟩⟩
    · cases hk
    · cases hk
    obtain ⟨p0, e0⟩ := dA0 hl
    obtain ⟨p1, e1⟩ := dAk (k := 1) hl rfl
    obtain ⟨k1, k2⟩ := Bool.and_eq_true_iff.mp hk
    have e0 := e0.trans (Nat.eq_of_beq_eq_true k1)
    have e1 := e1.trans (Nat.eq_of_beq_eq_true k2)
    refine dDec (n := 2) ?_
    show Except.bind (Reader.u1 b pc) _ = _
    rw [du1 p0 e0]
    show Except.bind (Reader.u1 b (pc + 1)) _ = _
    rw [du1 p1 e1]
    rfl
  case istore j =>
    rcases l with _ | ⟨a, _ | ⟨c, l⟩⟩
    · cases hk
    · cases hk
    obtain ⟨p0, e0⟩ := dA0 hl
    obtain ⟨p1, e1⟩ := dAk (k := 1) hl rfl
    obtain ⟨k1, k2⟩ := Bool.and_eq_true_iff.mp hk
    have e0 := e0.trans (Nat.eq_of_beq_eq_true k1)
    have e1 := e1.trans (Nat.eq_of_beq_eq_true k2)
    refine dDec (n := 2) ?_
    show Except.bind (Reader.u1 b pc) _ = _
    rw [du1 p0 e0]
    show Except.bind (Reader.u1 b (pc + 1)) _ = _
    rw [du1 p1 e1]
    rfl
  case astore j =>
    rcases l with _ | ⟨a, _ | ⟨c, l⟩⟩
    · cases hk
    · cases hk
    obtain ⟨p0, e0⟩ := dA0 hl
    obtain ⟨p1, e1⟩ := dAk (k := 1) hl rfl
    obtain ⟨k1, k2⟩ := Bool.and_eq_true_iff.mp hk
    have e0 := e0.trans (Nat.eq_of_beq_eq_true k1)
    have e1 := e1.trans (Nat.eq_of_beq_eq_true k2)
    refine dDec (n := 2) ?_
    show Except.bind (Reader.u1 b pc) _ = _
    rw [du1 p0 e0]
    show Except.bind (Reader.u1 b (pc + 1)) _ = _
    rw [du1 p1 e1]
    rfl
  case ldc j =>
    rcases l with _ | ⟨a, _ | ⟨c, l⟩⟩
    · cases hk
    · cases hk
    obtain ⟨p0, e0⟩ := dA0 hl
    obtain ⟨p1, e1⟩ := dAk (k := 1) hl rfl
    obtain ⟨k1, k2⟩ := Bool.and_eq_true_iff.mp hk
    have e0 := e0.trans (Nat.eq_of_beq_eq_true k1)
    have e1 := e1.trans (Nat.eq_of_beq_eq_true k2)
    refine dDec (n := 2) ?_
    show Except.bind (Reader.u1 b pc) _ = _
    rw [du1 p0 e0]
    show Except.bind (Reader.u1 b (pc + 1)) _ = _
    rw [du1 p1 e1]
    rfl
  case bipush x =>
    rcases l with _ | ⟨a, _ | ⟨c, l⟩⟩
    · cases hk
    · cases hk
    obtain ⟨p0, e0⟩ := dA0 hl
    obtain ⟨p1, e1⟩ := dAk (k := 1) hl rfl
    obtain ⟨k1, k2⟩ := Bool.and_eq_true_iff.mp hk
    have e0 := e0.trans (Nat.eq_of_beq_eq_true k1)
    have k2 := of_decide_eq_true k2
    subst k2
    refine dDec (n := 2) ?_
    show Except.bind (Reader.u1 b pc) _ = _
    rw [du1 p0 e0]
    show Except.bind (Reader.s1 b (pc + 1)) _ = _
    rw [ds1 p1 e1]
    rfl
  case ldc_w j =>
    rcases l with _ | ⟨a, _ | ⟨c, _ | ⟨d, l⟩⟩⟩
    · cases hk
    · cases hk
    · cases hk
    obtain ⟨p0, e0⟩ := dA0 hl
    obtain ⟨p1, e1⟩ := dAk (k := 1) hl rfl
    obtain ⟨p2, e2⟩ := dAk (k := 2) hl rfl
    obtain ⟨k1, k2⟩ := Bool.and_eq_true_iff.mp hk
    have e0 := e0.trans (Nat.eq_of_beq_eq_true k1)
    have k2 := Nat.eq_of_beq_eq_true k2
    subst k2
    refine dDec (n := 3) ?_
    show Except.bind (Reader.u1 b pc) _ = _
    rw [du1 p0 e0]
    show Except.bind (Reader.u2 b (pc + 1)) _ = _
    rw [du2 p1 e1 p2 e2]
    rfl
  case getstatic j =>
    rcases l with _ | ⟨a, _ | ⟨c, _ | ⟨d, l⟩⟩⟩
    · cases hk
    · cases hk
    · cases hk
    obtain ⟨p0, e0⟩ := dA0 hl
    obtain ⟨p1, e1⟩ := dAk (k := 1) hl rfl
    obtain ⟨p2, e2⟩ := dAk (k := 2) hl rfl
    obtain ⟨k1, k2⟩ := Bool.and_eq_true_iff.mp hk
    have e0 := e0.trans (Nat.eq_of_beq_eq_true k1)
    have k2 := Nat.eq_of_beq_eq_true k2
    subst k2
    refine dDec (n := 3) ?_
    show Except.bind (Reader.u1 b pc) _ = _
    rw [du1 p0 e0]
    show Except.bind (Reader.u2 b (pc + 1)) _ = _
    rw [du2 p1 e1 p2 e2]
    rfl
  case getfield j =>
    rcases l with _ | ⟨a, _ | ⟨c, _ | ⟨d, l⟩⟩⟩
    · cases hk
    · cases hk
    · cases hk
    obtain ⟨p0, e0⟩ := dA0 hl
    obtain ⟨p1, e1⟩ := dAk (k := 1) hl rfl
    obtain ⟨p2, e2⟩ := dAk (k := 2) hl rfl
    obtain ⟨k1, k2⟩ := Bool.and_eq_true_iff.mp hk
    have e0 := e0.trans (Nat.eq_of_beq_eq_true k1)
    have k2 := Nat.eq_of_beq_eq_true k2
    subst k2
    refine dDec (n := 3) ?_
    show Except.bind (Reader.u1 b pc) _ = _
    rw [du1 p0 e0]
    show Except.bind (Reader.u2 b (pc + 1)) _ = _
    rw [du2 p1 e1 p2 e2]
    rfl
  case putfield j =>
    rcases l with _ | ⟨a, _ | ⟨c, _ | ⟨d, l⟩⟩⟩
    · cases hk
    · cases hk
    · cases hk
    obtain ⟨p0, e0⟩ := dA0 hl
    obtain ⟨p1, e1⟩ := dAk (k := 1) hl rfl
    obtain ⟨p2, e2⟩ := dAk (k := 2) hl rfl
    obtain ⟨k1, k2⟩ := Bool.and_eq_true_iff.mp hk
    have e0 := e0.trans (Nat.eq_of_beq_eq_true k1)
    have k2 := Nat.eq_of_beq_eq_true k2
    subst k2
    refine dDec (n := 3) ?_
    show Except.bind (Reader.u1 b pc) _ = _
    rw [du1 p0 e0]
    show Except.bind (Reader.u2 b (pc + 1)) _ = _
    rw [du2 p1 e1 p2 e2]
    rfl
  case invokevirtual j =>
    rcases l with _ | ⟨a, _ | ⟨c, _ | ⟨d, l⟩⟩⟩
    · cases hk
    · cases hk
    · cases hk
    obtain ⟨p0, e0⟩ := dA0 hl
    obtain ⟨p1, e1⟩ := dAk (k := 1) hl rfl
    obtain ⟨p2, e2⟩ := dAk (k := 2) hl rfl
    obtain ⟨k1, k2⟩ := Bool.and_eq_true_iff.mp hk
    have e0 := e0.trans (Nat.eq_of_beq_eq_true k1)
    have k2 := Nat.eq_of_beq_eq_true k2
    subst k2
    refine dDec (n := 3) ?_
    show Except.bind (Reader.u1 b pc) _ = _
    rw [du1 p0 e0]
    show Except.bind (Reader.u2 b (pc + 1)) _ = _
    rw [du2 p1 e1 p2 e2]
    rfl
  case invokespecial j =>
    rcases l with _ | ⟨a, _ | ⟨c, _ | ⟨d, l⟩⟩⟩
    · cases hk
    · cases hk
    · cases hk
    obtain ⟨p0, e0⟩ := dA0 hl
    obtain ⟨p1, e1⟩ := dAk (k := 1) hl rfl
    obtain ⟨p2, e2⟩ := dAk (k := 2) hl rfl
    obtain ⟨k1, k2⟩ := Bool.and_eq_true_iff.mp hk
    have e0 := e0.trans (Nat.eq_of_beq_eq_true k1)
    have k2 := Nat.eq_of_beq_eq_true k2
    subst k2
    refine dDec (n := 3) ?_
    show Except.bind (Reader.u1 b pc) _ = _
    rw [du1 p0 e0]
    show Except.bind (Reader.u2 b (pc + 1)) _ = _
    rw [du2 p1 e1 p2 e2]
    rfl
  case invokestatic j =>
    rcases l with _ | ⟨a, _ | ⟨c, _ | ⟨d, l⟩⟩⟩
    · cases hk
    · cases hk
    · cases hk
    obtain ⟨p0, e0⟩ := dA0 hl
    obtain ⟨p1, e1⟩ := dAk (k := 1) hl rfl
    obtain ⟨p2, e2⟩ := dAk (k := 2) hl rfl
    obtain ⟨k1, k2⟩ := Bool.and_eq_true_iff.mp hk
    have e0 := e0.trans (Nat.eq_of_beq_eq_true k1)
    have k2 := Nat.eq_of_beq_eq_true k2
    subst k2
    refine dDec (n := 3) ?_
    show Except.bind (Reader.u1 b pc) _ = _
    rw [du1 p0 e0]
    show Except.bind (Reader.u2 b (pc + 1)) _ = _
    rw [du2 p1 e1 p2 e2]
    rfl
  case new j =>
    rcases l with _ | ⟨a, _ | ⟨c, _ | ⟨d, l⟩⟩⟩
    · cases hk
    · cases hk
    · cases hk
    obtain ⟨p0, e0⟩ := dA0 hl
    obtain ⟨p1, e1⟩ := dAk (k := 1) hl rfl
    obtain ⟨p2, e2⟩ := dAk (k := 2) hl rfl
    obtain ⟨k1, k2⟩ := Bool.and_eq_true_iff.mp hk
    have e0 := e0.trans (Nat.eq_of_beq_eq_true k1)
    have k2 := Nat.eq_of_beq_eq_true k2
    subst k2
    refine dDec (n := 3) ?_
    show Except.bind (Reader.u1 b pc) _ = _
    rw [du1 p0 e0]
    show Except.bind (Reader.u2 b (pc + 1)) _ = _
    rw [du2 p1 e1 p2 e2]
    rfl
  case anewarray j =>
    rcases l with _ | ⟨a, _ | ⟨c, _ | ⟨d, l⟩⟩⟩
    · cases hk
    · cases hk
    · cases hk
    obtain ⟨p0, e0⟩ := dA0 hl
    obtain ⟨p1, e1⟩ := dAk (k := 1) hl rfl
    obtain ⟨p2, e2⟩ := dAk (k := 2) hl rfl
    obtain ⟨k1, k2⟩ := Bool.and_eq_true_iff.mp hk
    have e0 := e0.trans (Nat.eq_of_beq_eq_true k1)
    have k2 := Nat.eq_of_beq_eq_true k2
    subst k2
    refine dDec (n := 3) ?_
    show Except.bind (Reader.u1 b pc) _ = _
    rw [du1 p0 e0]
    show Except.bind (Reader.u2 b (pc + 1)) _ = _
    rw [du2 p1 e1 p2 e2]
    rfl
  case sipush x =>
    rcases l with _ | ⟨a, _ | ⟨c, _ | ⟨d, l⟩⟩⟩
    · cases hk
    · cases hk
    · cases hk
    obtain ⟨p0, e0⟩ := dA0 hl
    obtain ⟨p1, e1⟩ := dAk (k := 1) hl rfl
    obtain ⟨p2, e2⟩ := dAk (k := 2) hl rfl
    obtain ⟨k1, k2⟩ := Bool.and_eq_true_iff.mp hk
    have e0 := e0.trans (Nat.eq_of_beq_eq_true k1)
    have k2 := of_decide_eq_true k2
    subst k2
    refine dDec (n := 3) ?_
    show Except.bind (Reader.u1 b pc) _ = _
    rw [du1 p0 e0]
    show Except.bind (Reader.s2 b (pc + 1)) _ = _
    rw [ds2 p1 e1 p2 e2]
    rfl
  case goto x =>
    rcases l with _ | ⟨a, _ | ⟨c, _ | ⟨d, l⟩⟩⟩
    · cases hk
    · cases hk
    · cases hk
    obtain ⟨p0, e0⟩ := dA0 hl
    obtain ⟨p1, e1⟩ := dAk (k := 1) hl rfl
    obtain ⟨p2, e2⟩ := dAk (k := 2) hl rfl
    obtain ⟨k1, k2⟩ := Bool.and_eq_true_iff.mp hk
    have e0 := e0.trans (Nat.eq_of_beq_eq_true k1)
    have k2 := of_decide_eq_true k2
    subst k2
    refine dDec (n := 3) ?_
    show Except.bind (Reader.u1 b pc) _ = _
    rw [du1 p0 e0]
    show Except.bind (Reader.s2 b (pc + 1)) _ = _
    rw [ds2 p1 e1 p2 e2]
    rfl
  case ifnull x =>
    rcases l with _ | ⟨a, _ | ⟨c, _ | ⟨d, l⟩⟩⟩
    · cases hk
    · cases hk
    · cases hk
    obtain ⟨p0, e0⟩ := dA0 hl
    obtain ⟨p1, e1⟩ := dAk (k := 1) hl rfl
    obtain ⟨p2, e2⟩ := dAk (k := 2) hl rfl
    obtain ⟨k1, k2⟩ := Bool.and_eq_true_iff.mp hk
    have e0 := e0.trans (Nat.eq_of_beq_eq_true k1)
    have k2 := of_decide_eq_true k2
    subst k2
    refine dDec (n := 3) ?_
    show Except.bind (Reader.u1 b pc) _ = _
    rw [du1 p0 e0]
    show Except.bind (Reader.s2 b (pc + 1)) _ = _
    rw [ds2 p1 e1 p2 e2]
    rfl
  case ifnonnull x =>
    rcases l with _ | ⟨a, _ | ⟨c, _ | ⟨d, l⟩⟩⟩
    · cases hk
    · cases hk
    · cases hk
    obtain ⟨p0, e0⟩ := dA0 hl
    obtain ⟨p1, e1⟩ := dAk (k := 1) hl rfl
    obtain ⟨p2, e2⟩ := dAk (k := 2) hl rfl
    obtain ⟨k1, k2⟩ := Bool.and_eq_true_iff.mp hk
    have e0 := e0.trans (Nat.eq_of_beq_eq_true k1)
    have k2 := of_decide_eq_true k2
    subst k2
    refine dDec (n := 3) ?_
    show Except.bind (Reader.u1 b pc) _ = _
    rw [du1 p0 e0]
    show Except.bind (Reader.s2 b (pc + 1)) _ = _
    rw [ds2 p1 e1 p2 e2]
    rfl
  case ifCond k x =>
    rcases l with _ | ⟨a, _ | ⟨c, _ | ⟨d, l⟩⟩⟩
    · cases hk
    · cases hk
    · cases hk
    obtain ⟨p0, e0⟩ := dA0 hl
    obtain ⟨p1, e1⟩ := dAk (k := 1) hl rfl
    obtain ⟨p2, e2⟩ := dAk (k := 2) hl rfl
    obtain ⟨k1, k2⟩ := Bool.and_eq_true_iff.mp hk
    have e0 := e0.trans (Nat.eq_of_beq_eq_true k1)
    have k2 := of_decide_eq_true k2
    subst k2
    refine dDec (n := 3) ?_
    show Except.bind (Reader.u1 b pc) _ = _
    rw [du1 p0 e0]
    cases k
    all_goals
      show Except.bind (Reader.s2 b (pc + 1)) _ = _
      rw [ds2 p1 e1 p2 e2]
      rfl
  case if_icmp k x =>
    rcases l with _ | ⟨a, _ | ⟨c, _ | ⟨d, l⟩⟩⟩
    · cases hk
    · cases hk
    · cases hk
    obtain ⟨p0, e0⟩ := dA0 hl
    obtain ⟨p1, e1⟩ := dAk (k := 1) hl rfl
    obtain ⟨p2, e2⟩ := dAk (k := 2) hl rfl
    obtain ⟨k1, k2⟩ := Bool.and_eq_true_iff.mp hk
    have e0 := e0.trans (Nat.eq_of_beq_eq_true k1)
    have k2 := of_decide_eq_true k2
    subst k2
    refine dDec (n := 3) ?_
    show Except.bind (Reader.u1 b pc) _ = _
    rw [du1 p0 e0]
    cases k
    all_goals
      show Except.bind (Reader.s2 b (pc + 1)) _ = _
      rw [ds2 p1 e1 p2 e2]
      rfl
  case iinc j x =>
    rcases l with _ | ⟨a, _ | ⟨c, _ | ⟨d, l⟩⟩⟩
    · cases hk
    · cases hk
    · cases hk
    obtain ⟨p0, e0⟩ := dA0 hl
    obtain ⟨p1, e1⟩ := dAk (k := 1) hl rfl
    obtain ⟨p2, e2⟩ := dAk (k := 2) hl rfl
    have hk := Bool.and_eq_true_iff.mp hk
    obtain ⟨k1, k2⟩ := Bool.and_eq_true_iff.mp hk.1
    have k3 := of_decide_eq_true hk.2
    have e0 := e0.trans (Nat.eq_of_beq_eq_true k1)
    have e1 := e1.trans (Nat.eq_of_beq_eq_true k2)
    subst k3
    refine dDec (n := 3) ?_
    show Except.bind (Reader.u1 b pc) _ = _
    rw [du1 p0 e0]
    show Except.bind (Reader.u1 b (pc + 1)) _ = _
    rw [du1 p1 e1]
    show Except.bind (Reader.s1 b (pc + 2)) _ = _
    rw [ds1 p2 e2]
    rfl
  case newarray t =>
    rcases l with _ | ⟨a, _ | ⟨c, l⟩⟩
    · cases hk
    · cases hk
    obtain ⟨p0, e0⟩ := dA0 hl
    obtain ⟨p1, e1⟩ := dAk (k := 1) hl rfl
    have hk := Bool.and_eq_true_iff.mp hk
    obtain ⟨k1, k2⟩ := Bool.and_eq_true_iff.mp hk.1
    have k3 := Nat.le_of_ble_eq_true hk.2
    have e0 := e0.trans (Nat.eq_of_beq_eq_true k1)
    have e1 := e1.trans (Nat.eq_of_beq_eq_true k2)
    refine dDec (n := 2) ?_
    show Except.bind (Reader.u1 b pc) _ = _
    rw [du1 p0 e0]
    show Except.bind (Reader.u1 b (pc + 1)) _ = _
    rw [du1 p1 e1]
    cases t
    all_goals first | rfl | exact absurd k3 (by decide)
  case multianewarray j k =>
    rcases l with _ | ⟨a, _ | ⟨c, _ | ⟨d, _ | ⟨f, l⟩⟩⟩⟩
    · cases hk
    · cases hk
    · cases hk
    · cases hk
    obtain ⟨p0, e0⟩ := dA0 hl
    obtain ⟨p1, e1⟩ := dAk (k := 1) hl rfl
    obtain ⟨p2, e2⟩ := dAk (k := 2) hl rfl
    obtain ⟨p3, e3⟩ := dAk (k := 3) hl rfl
    have hk := Bool.and_eq_true_iff.mp hk
    have hk2 := Bool.and_eq_true_iff.mp hk.1
    obtain ⟨k1, k2⟩ := Bool.and_eq_true_iff.mp hk2.1
    have k3 := Nat.eq_of_beq_eq_true hk2.2
    have k4 := Nat.le_of_ble_eq_true hk.2
    have e0 := e0.trans (Nat.eq_of_beq_eq_true k1)
    have k2 := Nat.eq_of_beq_eq_true k2
    subst k2
    subst k3
    refine dDec (n := 4) ?_
    show Except.bind (Reader.u1 b pc) _ = _
    rw [du1 p0 e0]
    show Except.bind (Reader.u2 b (pc + 1)) _ = _
    rw [du2 p1 e1 p2 e2]
    show Except.bind (Reader.u1 b (pc + 3)) _ = _
    rw [du1 p3 e3]
    rcases hf : f.toNat with _ | m
    · rw [hf] at k4
      omega
    · rfl
  all_goals
    rcases l with _ | ⟨a, l⟩ <;> cases hk
def dSw : Instr → Bool
  | .tableswitch _ _ _ _ => true
  | .lookupswitch _ _ => true
  | _ => false
theorem dLen : ∀ {i : Instr}, dSw i = false → x_lenOk i (x_len i) = true := fun {i} h => by
  cases i <;> first | cases h; done | exact Nat.beq_refl _ | rfl
def dWalk (b : ByteArray) : Nat → List UInt8 → List (Nat × Instr × Nat) → Bool
  | _, _, [] => true
  | p, l, q :: r => Nat.ble p q.1 && (bif dSw q.2.1 then decide (decode b q.1 = .ok q.2) else dChk q.2.1 (l.drop (q.1 - p)) && Nat.beq q.2.2 (x_len q.2.1)) && dWalk b q.1 (l.drop (q.1 - p)) r
theorem dWalk_spec {b : ByteArray} : ∀ {l : List (Nat × Instr × Nat)} {p : Nat} {s : List UInt8}, b.data.toList.drop p = s → dWalk b p s l = true → x_cOk b l = true
  | [], _, _, _, _ => rfl
  | q :: r, p, s, hs, h => by
    unfold dWalk at h
    simp only [Bool.and_eq_true] at h
    obtain ⟨⟨h1, h2⟩, h3⟩ := h
    have h1 := Nat.le_of_ble_eq_true h1
    have hd : b.data.toList.drop q.1 = s.drop (q.1 - p) := by
      rw [← hs, List.drop_drop]
      congr 1
      omega
    have ih := dWalk_spec hd h3
    have hq : (decide (decode b q.1 = .ok q.2) && x_lenOk q.2.1 q.2.2) = true := by
      rcases hw : dSw q.2.1 with _ | _
      · rw [hw] at h2
        have h2 : (dChk q.2.1 (s.drop (q.1 - p)) && Nat.beq q.2.2 (x_len q.2.1)) = true := h2
        obtain ⟨h4, h5⟩ := Bool.and_eq_true_iff.mp h2
        have h5 := Nat.eq_of_beq_eq_true h5
        have e : q.2 = (q.2.1, x_len q.2.1) := Prod.ext rfl h5
        rw [h5, dLen hw, Bool.and_true]
        refine decide_eq_true ?_
        rw [dChk_spec hd h4, e]
      · rw [hw] at h2
        have h2 : decide (decode b q.1 = .ok q.2) = true := h2
        rw [h2, Bool.true_and]
        obtain ⟨pc, i, n⟩ := q
        cases i <;> first | (cases hw; done) | rfl
    unfold x_cOk at ih ⊢
    rw [List.all_cons, hq, ih]
    rfl
theorem x_cOk_w {b : ByteArray} {l : List (Nat × Instr × Nat)} (h : dWalk b 0 b.data.toList l = true) : x_cOk b l = true := dWalk_spec rfl h
end XDec
end
section
/-! Instructions, by program: part 0. -/
section XCode0
def xc0_0 : List (Nat × Instr × Nat) := [(0, .new 7, 3), (3, .dup, 1), (4, .invokespecial 9, 3), (7, .astore_n 1, 1), (8, .new 10, 3), (11, .dup, 1), (12, .invokespecial 12, 3), (15, .astore_n 2, 1), (16, .iconst 0, 1), (17, .istore_n 3, 1), (18, .iload_n 3, 1), (19, .aload_n 0, 1), (20, .arraylength, 1), (21, .bipush 7, 2), (23, .isub, 1), (24, .if_icmp .gt 1888, 3), (27, .aload_n 0, 1), (28, .iload_n 3, 1), (29, .iaload, 1), (30, .bipush 63, 2), (32, .iand, 1), (33, .tableswitch 1873 0 41 #[183, 216, 229, 262, 305, 348, 381, 444, 477, 536, 569, 602, 635, 658, 681, 724, 777, 852, 905, 958, 991, 1054, 1087, 1120, 1153, 1232, 1275, 1298, 1351, 1384, 1407, 1460, 1483, 1536, 1569, 1602, 1645, 1668, 1701, 1724, 1767, 1810], 183), (216, .aload_n 1, 1), (217, .aload_n 0, 1), (218, .iload_n 3, 1), (219, .iconst 1, 1), (220, .iadd, 1), (221, .iaload, 1), (222, .aload_n 0, 1), (223, .iload_n 3, 1), (224, .iconst 2, 1), (225, .iadd, 1), (226, .iaload, 1), (227, .invokevirtual 13, 3), (230, .pop, 1), (231, .aload_n 2, 1), (232, .aload_n 0, 1), (233, .iload_n 3, 1), (234, .iconst 1, 1), (235, .iadd, 1), (236, .iaload, 1), (237, .aload_n 0, 1), (238, .iload_n 3, 1), (239, .iconst 2, 1), (240, .iadd, 1), (241, .iaload, 1), (242, .invokevirtual 17, 3), (245, .pop, 1)]
theorem xo0_0 : x_cOk code xc0_0 = true := x_cOk_w (by decide +kernel)
def xc0_1 : List (Nat × Instr × Nat) := [(246, .goto 1660, 3), (249, .aload_n 1, 1), (250, .invokevirtual 18, 3), (253, .pop, 1), (254, .aload_n 2, 1), (255, .invokevirtual 22, 3), (258, .pop, 1), (259, .goto 1647, 3), (262, .aload_n 1, 1), (263, .aload_n 0, 1), (264, .iload_n 3, 1), (265, .iconst 1, 1), (266, .iadd, 1), (267, .iaload, 1), (268, .aload_n 0, 1), (269, .iload_n 3, 1), (270, .iconst 2, 1), (271, .iadd, 1), (272, .iaload, 1), (273, .invokevirtual 23, 3), (276, .pop, 1), (277, .aload_n 2, 1), (278, .aload_n 0, 1), (279, .iload_n 3, 1), (280, .iconst 1, 1), (281, .iadd, 1), (282, .iaload, 1), (283, .aload_n 0, 1), (284, .iload_n 3, 1), (285, .iconst 2, 1), (286, .iadd, 1), (287, .iaload, 1), (288, .invokevirtual 26, 3), (291, .pop, 1), (292, .goto 1614, 3), (295, .aload_n 1, 1), (296, .aload_n 0, 1), (297, .iload_n 3, 1), (298, .iconst 1, 1), (299, .iadd, 1), (300, .iaload, 1), (301, .aload_n 0, 1), (302, .iload_n 3, 1), (303, .iconst 2, 1), (304, .iadd, 1), (305, .iaload, 1), (306, .aload_n 0, 1), (307, .iload_n 3, 1)]
theorem xo0_1 : x_cOk code xc0_1 = true := x_cOk_w (by decide +kernel)
def xc0_2 : List (Nat × Instr × Nat) := [(308, .iconst 3, 1), (309, .iadd, 1), (310, .iaload, 1), (311, .invokevirtual 27, 3), (314, .pop, 1), (315, .aload_n 2, 1), (316, .aload_n 0, 1), (317, .iload_n 3, 1), (318, .iconst 1, 1), (319, .iadd, 1), (320, .iaload, 1), (321, .aload_n 0, 1), (322, .iload_n 3, 1), (323, .iconst 2, 1), (324, .iadd, 1), (325, .iaload, 1), (326, .aload_n 0, 1), (327, .iload_n 3, 1), (328, .iconst 3, 1), (329, .iadd, 1), (330, .iaload, 1), (331, .invokevirtual 31, 3), (334, .pop, 1), (335, .goto 1571, 3), (338, .aload_n 1, 1), (339, .aload_n 0, 1), (340, .iload_n 3, 1), (341, .iconst 1, 1), (342, .iadd, 1), (343, .iaload, 1), (344, .aload_n 0, 1), (345, .iload_n 3, 1), (346, .iconst 2, 1), (347, .iadd, 1), (348, .iaload, 1), (349, .aload_n 0, 1), (350, .iload_n 3, 1), (351, .iconst 3, 1), (352, .iadd, 1), (353, .iaload, 1), (354, .invokevirtual 32, 3), (357, .pop, 1), (358, .aload_n 2, 1), (359, .aload_n 0, 1), (360, .iload_n 3, 1), (361, .iconst 1, 1), (362, .iadd, 1), (363, .iaload, 1)]
theorem xo0_2 : x_cOk code xc0_2 = true := x_cOk_w (by decide +kernel)
def xc0_3 : List (Nat × Instr × Nat) := [(364, .aload_n 0, 1), (365, .iload_n 3, 1), (366, .iconst 2, 1), (367, .iadd, 1), (368, .iaload, 1), (369, .aload_n 0, 1), (370, .iload_n 3, 1), (371, .iconst 3, 1), (372, .iadd, 1), (373, .iaload, 1), (374, .invokevirtual 35, 3), (377, .pop, 1), (378, .goto 1528, 3), (381, .aload_n 1, 1), (382, .aload_n 0, 1), (383, .iload_n 3, 1), (384, .iconst 1, 1), (385, .iadd, 1), (386, .iaload, 1), (387, .aload_n 0, 1), (388, .iload_n 3, 1), (389, .iconst 2, 1), (390, .iadd, 1), (391, .iaload, 1), (392, .invokevirtual 36, 3), (395, .pop, 1), (396, .aload_n 2, 1), (397, .aload_n 0, 1), (398, .iload_n 3, 1), (399, .iconst 1, 1), (400, .iadd, 1), (401, .iaload, 1), (402, .aload_n 0, 1), (403, .iload_n 3, 1), (404, .iconst 2, 1), (405, .iadd, 1), (406, .iaload, 1), (407, .invokevirtual 39, 3), (410, .pop, 1), (411, .goto 1495, 3), (414, .aload_n 1, 1), (415, .aload_n 0, 1), (416, .iload_n 3, 1), (417, .iconst 1, 1), (418, .iadd, 1), (419, .iaload, 1), (420, .aload_n 0, 1), (421, .iload_n 3, 1)]
theorem xo0_3 : x_cOk code xc0_3 = true := x_cOk_w (by decide +kernel)
def xc0_4 : List (Nat × Instr × Nat) := [(422, .iconst 2, 1), (423, .iadd, 1), (424, .iaload, 1), (425, .aload_n 0, 1), (426, .iload_n 3, 1), (427, .iconst 3, 1), (428, .iadd, 1), (429, .iaload, 1), (430, .aload_n 0, 1), (431, .iload_n 3, 1), (432, .iconst 4, 1), (433, .iadd, 1), (434, .iaload, 1), (435, .aload_n 0, 1), (436, .iload_n 3, 1), (437, .iconst 5, 1), (438, .iadd, 1), (439, .iaload, 1), (440, .invokevirtual 40, 3), (443, .pop, 1), (444, .aload_n 2, 1), (445, .aload_n 0, 1), (446, .iload_n 3, 1), (447, .iconst 1, 1), (448, .iadd, 1), (449, .iaload, 1), (450, .aload_n 0, 1), (451, .iload_n 3, 1), (452, .iconst 2, 1), (453, .iadd, 1), (454, .iaload, 1), (455, .aload_n 0, 1), (456, .iload_n 3, 1), (457, .iconst 3, 1), (458, .iadd, 1), (459, .iaload, 1), (460, .aload_n 0, 1), (461, .iload_n 3, 1), (462, .iconst 4, 1), (463, .iadd, 1), (464, .iaload, 1), (465, .aload_n 0, 1), (466, .iload_n 3, 1), (467, .iconst 5, 1), (468, .iadd, 1), (469, .iaload, 1), (470, .invokevirtual 44, 3), (473, .pop, 1)]
theorem xo0_4 : x_cOk code xc0_4 = true := x_cOk_w (by decide +kernel)
def xc0_5 : List (Nat × Instr × Nat) := [(474, .goto 1432, 3), (477, .aload_n 1, 1), (478, .aload_n 0, 1), (479, .iload_n 3, 1), (480, .iconst 1, 1), (481, .iadd, 1), (482, .iaload, 1), (483, .aload_n 0, 1), (484, .iload_n 3, 1), (485, .iconst 2, 1), (486, .iadd, 1), (487, .iaload, 1), (488, .invokevirtual 45, 3), (491, .pop, 1), (492, .aload_n 2, 1), (493, .aload_n 0, 1), (494, .iload_n 3, 1), (495, .iconst 1, 1), (496, .iadd, 1), (497, .iaload, 1), (498, .aload_n 0, 1), (499, .iload_n 3, 1), (500, .iconst 2, 1), (501, .iadd, 1), (502, .iaload, 1), (503, .invokevirtual 48, 3), (506, .pop, 1), (507, .goto 1399, 3), (510, .aload_n 1, 1), (511, .aload_n 0, 1), (512, .iload_n 3, 1), (513, .iconst 1, 1), (514, .iadd, 1), (515, .iaload, 1), (516, .aload_n 0, 1), (517, .iload_n 3, 1), (518, .iconst 2, 1), (519, .iadd, 1), (520, .iaload, 1), (521, .aload_n 0, 1), (522, .iload_n 3, 1), (523, .iconst 3, 1), (524, .iadd, 1), (525, .iaload, 1), (526, .ifCond .eq 7, 3), (529, .iconst 1, 1), (530, .goto 4, 3), (533, .iconst 0, 1)]
theorem xo0_5 : x_cOk code xc0_5 = true := x_cOk_w (by decide +kernel)
def xc0_6 : List (Nat × Instr × Nat) := [(534, .invokevirtual 49, 3), (537, .pop, 1), (538, .aload_n 2, 1), (539, .aload_n 0, 1), (540, .iload_n 3, 1), (541, .iconst 1, 1), (542, .iadd, 1), (543, .iaload, 1), (544, .aload_n 0, 1), (545, .iload_n 3, 1), (546, .iconst 2, 1), (547, .iadd, 1), (548, .iaload, 1), (549, .aload_n 0, 1), (550, .iload_n 3, 1), (551, .iconst 3, 1), (552, .iadd, 1), (553, .iaload, 1), (554, .ifCond .eq 7, 3), (557, .iconst 1, 1), (558, .goto 4, 3), (561, .iconst 0, 1), (562, .invokevirtual 53, 3), (565, .pop, 1), (566, .goto 1340, 3), (569, .aload_n 1, 1), (570, .aload_n 0, 1), (571, .iload_n 3, 1), (572, .iconst 1, 1), (573, .iadd, 1), (574, .iaload, 1), (575, .aload_n 0, 1), (576, .iload_n 3, 1), (577, .iconst 2, 1), (578, .iadd, 1), (579, .iaload, 1), (580, .invokevirtual 54, 3), (583, .pop, 1), (584, .aload_n 2, 1), (585, .aload_n 0, 1), (586, .iload_n 3, 1), (587, .iconst 1, 1), (588, .iadd, 1), (589, .iaload, 1), (590, .aload_n 0, 1), (591, .iload_n 3, 1), (592, .iconst 2, 1), (593, .iadd, 1)]
theorem xo0_6 : x_cOk code xc0_6 = true := x_cOk_w (by decide +kernel)
def xc0_7 : List (Nat × Instr × Nat) := [(594, .iaload, 1), (595, .invokevirtual 57, 3), (598, .pop, 1), (599, .goto 1307, 3), (602, .aload_n 1, 1), (603, .aload_n 0, 1), (604, .iload_n 3, 1), (605, .iconst 1, 1), (606, .iadd, 1), (607, .iaload, 1), (608, .aload_n 0, 1), (609, .iload_n 3, 1), (610, .iconst 2, 1), (611, .iadd, 1), (612, .iaload, 1), (613, .invokevirtual 58, 3), (616, .pop, 1), (617, .aload_n 2, 1), (618, .aload_n 0, 1), (619, .iload_n 3, 1), (620, .iconst 1, 1), (621, .iadd, 1), (622, .iaload, 1), (623, .aload_n 0, 1), (624, .iload_n 3, 1), (625, .iconst 2, 1), (626, .iadd, 1), (627, .iaload, 1), (628, .invokevirtual 61, 3), (631, .pop, 1), (632, .goto 1274, 3), (635, .aload_n 1, 1), (636, .aload_n 0, 1), (637, .iload_n 3, 1), (638, .iconst 1, 1), (639, .iadd, 1), (640, .iaload, 1), (641, .aload_n 0, 1), (642, .iload_n 3, 1), (643, .iconst 2, 1), (644, .iadd, 1), (645, .iaload, 1), (646, .invokevirtual 62, 3), (649, .pop, 1), (650, .aload_n 2, 1), (651, .aload_n 0, 1), (652, .iload_n 3, 1), (653, .iconst 1, 1)]
theorem xo0_7 : x_cOk code xc0_7 = true := x_cOk_w (by decide +kernel)
def xc0_8 : List (Nat × Instr × Nat) := [(654, .iadd, 1), (655, .iaload, 1), (656, .aload_n 0, 1), (657, .iload_n 3, 1), (658, .iconst 2, 1), (659, .iadd, 1), (660, .iaload, 1), (661, .invokevirtual 65, 3), (664, .pop, 1), (665, .goto 1241, 3), (668, .aload_n 1, 1), (669, .aload_n 0, 1), (670, .iload_n 3, 1), (671, .iconst 1, 1), (672, .iadd, 1), (673, .iaload, 1), (674, .invokevirtual 66, 3), (677, .pop, 1), (678, .aload_n 2, 1), (679, .aload_n 0, 1), (680, .iload_n 3, 1), (681, .iconst 1, 1), (682, .iadd, 1), (683, .iaload, 1), (684, .invokevirtual 70, 3), (687, .pop, 1), (688, .goto 1218, 3), (691, .aload_n 1, 1), (692, .aload_n 0, 1), (693, .iload_n 3, 1), (694, .iconst 1, 1), (695, .iadd, 1), (696, .iaload, 1), (697, .invokevirtual 71, 3), (700, .pop, 1), (701, .aload_n 2, 1), (702, .aload_n 0, 1), (703, .iload_n 3, 1), (704, .iconst 1, 1), (705, .iadd, 1), (706, .iaload, 1), (707, .invokevirtual 74, 3), (710, .pop, 1), (711, .goto 1195, 3), (714, .aload_n 1, 1), (715, .aload_n 0, 1), (716, .iload_n 3, 1), (717, .iconst 1, 1)]
theorem xo0_8 : x_cOk code xc0_8 = true := x_cOk_w (by decide +kernel)
def xc0_9 : List (Nat × Instr × Nat) := [(718, .iadd, 1), (719, .iaload, 1), (720, .aload_n 0, 1), (721, .iload_n 3, 1), (722, .iconst 2, 1), (723, .iadd, 1), (724, .iaload, 1), (725, .aload_n 0, 1), (726, .iload_n 3, 1), (727, .iconst 3, 1), (728, .iadd, 1), (729, .iaload, 1), (730, .invokevirtual 75, 3), (733, .pop, 1), (734, .aload_n 2, 1), (735, .aload_n 0, 1), (736, .iload_n 3, 1), (737, .iconst 1, 1), (738, .iadd, 1), (739, .iaload, 1), (740, .aload_n 0, 1), (741, .iload_n 3, 1), (742, .iconst 2, 1), (743, .iadd, 1), (744, .iaload, 1), (745, .aload_n 0, 1), (746, .iload_n 3, 1), (747, .iconst 3, 1), (748, .iadd, 1), (749, .iaload, 1), (750, .invokevirtual 78, 3), (753, .pop, 1), (754, .goto 1152, 3), (757, .aload_n 1, 1), (758, .aload_n 0, 1), (759, .iload_n 3, 1), (760, .iconst 1, 1), (761, .iadd, 1), (762, .iaload, 1), (763, .aload_n 0, 1), (764, .iload_n 3, 1), (765, .iconst 2, 1), (766, .iadd, 1), (767, .iaload, 1), (768, .aload_n 0, 1), (769, .iload_n 3, 1), (770, .iconst 3, 1), (771, .iadd, 1)]
theorem xo0_9 : x_cOk code xc0_9 = true := x_cOk_w (by decide +kernel)
def xc0_10 : List (Nat × Instr × Nat) := [(772, .iaload, 1), (773, .aload_n 0, 1), (774, .iload_n 3, 1), (775, .iconst 4, 1), (776, .iadd, 1), (777, .iaload, 1), (778, .invokevirtual 79, 3), (781, .pop, 1), (782, .aload_n 2, 1), (783, .aload_n 0, 1), (784, .iload_n 3, 1), (785, .iconst 1, 1), (786, .iadd, 1), (787, .iaload, 1), (788, .aload_n 0, 1), (789, .iload_n 3, 1), (790, .iconst 2, 1), (791, .iadd, 1), (792, .iaload, 1), (793, .aload_n 0, 1), (794, .iload_n 3, 1), (795, .iconst 3, 1), (796, .iadd, 1), (797, .iaload, 1), (798, .aload_n 0, 1), (799, .iload_n 3, 1), (800, .iconst 4, 1), (801, .iadd, 1), (802, .iaload, 1), (803, .invokevirtual 83, 3), (806, .pop, 1), (807, .goto 1099, 3), (810, .aload_n 1, 1), (811, .aload_n 0, 1), (812, .iload_n 3, 1), (813, .iconst 1, 1), (814, .iadd, 1), (815, .iaload, 1), (816, .aload_n 0, 1), (817, .iload_n 3, 1), (818, .iconst 2, 1), (819, .iadd, 1), (820, .iaload, 1), (821, .aload_n 0, 1), (822, .iload_n 3, 1), (823, .iconst 3, 1), (824, .iadd, 1), (825, .iaload, 1)]
theorem xo0_10 : x_cOk code xc0_10 = true := x_cOk_w (by decide +kernel)
def xc0_11 : List (Nat × Instr × Nat) := [(826, .aload_n 0, 1), (827, .iload_n 3, 1), (828, .iconst 4, 1), (829, .iadd, 1), (830, .iaload, 1), (831, .aload_n 0, 1), (832, .iload_n 3, 1), (833, .iconst 5, 1), (834, .iadd, 1), (835, .iaload, 1), (836, .aload_n 0, 1), (837, .iload_n 3, 1), (838, .bipush 6, 2), (840, .iadd, 1), (841, .iaload, 1), (842, .invokevirtual 84, 3), (845, .pop, 1), (846, .aload_n 2, 1), (847, .aload_n 0, 1), (848, .iload_n 3, 1), (849, .iconst 1, 1), (850, .iadd, 1), (851, .iaload, 1), (852, .aload_n 0, 1), (853, .iload_n 3, 1), (854, .iconst 2, 1), (855, .iadd, 1), (856, .iaload, 1), (857, .aload_n 0, 1), (858, .iload_n 3, 1), (859, .iconst 3, 1), (860, .iadd, 1), (861, .iaload, 1), (862, .aload_n 0, 1), (863, .iload_n 3, 1), (864, .iconst 4, 1), (865, .iadd, 1), (866, .iaload, 1), (867, .aload_n 0, 1), (868, .iload_n 3, 1), (869, .iconst 5, 1), (870, .iadd, 1), (871, .iaload, 1), (872, .aload_n 0, 1), (873, .iload_n 3, 1), (874, .bipush 6, 2), (876, .iadd, 1), (877, .iaload, 1)]
theorem xo0_11 : x_cOk code xc0_11 = true := x_cOk_w (by decide +kernel)
def xc0_12 : List (Nat × Instr × Nat) := [(878, .invokevirtual 88, 3), (881, .pop, 1), (882, .goto 1024, 3), (885, .aload_n 1, 1), (886, .aload_n 0, 1), (887, .iload_n 3, 1), (888, .iconst 1, 1), (889, .iadd, 1), (890, .iaload, 1), (891, .aload_n 0, 1), (892, .iload_n 3, 1), (893, .iconst 2, 1), (894, .iadd, 1), (895, .iaload, 1), (896, .aload_n 0, 1), (897, .iload_n 3, 1), (898, .iconst 3, 1), (899, .iadd, 1), (900, .iaload, 1), (901, .aload_n 0, 1), (902, .iload_n 3, 1), (903, .iconst 4, 1), (904, .iadd, 1), (905, .iaload, 1), (906, .invokevirtual 89, 3), (909, .pop, 1), (910, .aload_n 2, 1), (911, .aload_n 0, 1), (912, .iload_n 3, 1), (913, .iconst 1, 1), (914, .iadd, 1), (915, .iaload, 1), (916, .aload_n 0, 1), (917, .iload_n 3, 1), (918, .iconst 2, 1), (919, .iadd, 1), (920, .iaload, 1), (921, .aload_n 0, 1), (922, .iload_n 3, 1), (923, .iconst 3, 1), (924, .iadd, 1), (925, .iaload, 1), (926, .aload_n 0, 1), (927, .iload_n 3, 1), (928, .iconst 4, 1), (929, .iadd, 1), (930, .iaload, 1), (931, .invokevirtual 92, 3)]
theorem xo0_12 : x_cOk code xc0_12 = true := x_cOk_w (by decide +kernel)
def xc0_13 : List (Nat × Instr × Nat) := [(934, .pop, 1), (935, .goto 971, 3), (938, .aload_n 1, 1), (939, .aload_n 0, 1), (940, .iload_n 3, 1), (941, .iconst 1, 1), (942, .iadd, 1), (943, .iaload, 1), (944, .aload_n 0, 1), (945, .iload_n 3, 1), (946, .iconst 2, 1), (947, .iadd, 1), (948, .iaload, 1), (949, .aload_n 0, 1), (950, .iload_n 3, 1), (951, .iconst 3, 1), (952, .iadd, 1), (953, .iaload, 1), (954, .aload_n 0, 1), (955, .iload_n 3, 1), (956, .iconst 4, 1), (957, .iadd, 1), (958, .iaload, 1), (959, .invokevirtual 93, 3), (962, .pop, 1), (963, .aload_n 2, 1), (964, .aload_n 0, 1), (965, .iload_n 3, 1), (966, .iconst 1, 1), (967, .iadd, 1), (968, .iaload, 1), (969, .aload_n 0, 1), (970, .iload_n 3, 1), (971, .iconst 2, 1), (972, .iadd, 1), (973, .iaload, 1), (974, .aload_n 0, 1), (975, .iload_n 3, 1), (976, .iconst 3, 1), (977, .iadd, 1), (978, .iaload, 1), (979, .aload_n 0, 1), (980, .iload_n 3, 1), (981, .iconst 4, 1), (982, .iadd, 1), (983, .iaload, 1), (984, .invokevirtual 96, 3), (987, .pop, 1)]
theorem xo0_13 : x_cOk code xc0_13 = true := x_cOk_w (by decide +kernel)
def xc0_14 : List (Nat × Instr × Nat) := [(988, .goto 918, 3), (991, .aload_n 1, 1), (992, .aload_n 0, 1), (993, .iload_n 3, 1), (994, .iconst 1, 1), (995, .iadd, 1), (996, .iaload, 1), (997, .aload_n 0, 1), (998, .iload_n 3, 1), (999, .iconst 2, 1), (1000, .iadd, 1), (1001, .iaload, 1), (1002, .invokevirtual 97, 3), (1005, .pop, 1), (1006, .aload_n 2, 1), (1007, .aload_n 0, 1), (1008, .iload_n 3, 1), (1009, .iconst 1, 1), (1010, .iadd, 1), (1011, .iaload, 1), (1012, .aload_n 0, 1), (1013, .iload_n 3, 1), (1014, .iconst 2, 1), (1015, .iadd, 1), (1016, .iaload, 1), (1017, .invokevirtual 100, 3), (1020, .pop, 1), (1021, .goto 885, 3), (1024, .aload_n 1, 1), (1025, .aload_n 0, 1), (1026, .iload_n 3, 1), (1027, .iconst 1, 1), (1028, .iadd, 1), (1029, .iaload, 1), (1030, .aload_n 0, 1), (1031, .iload_n 3, 1), (1032, .iconst 2, 1), (1033, .iadd, 1), (1034, .iaload, 1), (1035, .aload_n 0, 1), (1036, .iload_n 3, 1), (1037, .iconst 3, 1), (1038, .iadd, 1), (1039, .iaload, 1), (1040, .aload_n 0, 1), (1041, .iload_n 3, 1), (1042, .iconst 4, 1), (1043, .iadd, 1)]
theorem xo0_14 : x_cOk code xc0_14 = true := x_cOk_w (by decide +kernel)
def xc0_15 : List (Nat × Instr × Nat) := [(1044, .iaload, 1), (1045, .aload_n 0, 1), (1046, .iload_n 3, 1), (1047, .iconst 5, 1), (1048, .iadd, 1), (1049, .iaload, 1), (1050, .invokevirtual 101, 3), (1053, .pop, 1), (1054, .aload_n 2, 1), (1055, .aload_n 0, 1), (1056, .iload_n 3, 1), (1057, .iconst 1, 1), (1058, .iadd, 1), (1059, .iaload, 1), (1060, .aload_n 0, 1), (1061, .iload_n 3, 1), (1062, .iconst 2, 1), (1063, .iadd, 1), (1064, .iaload, 1), (1065, .aload_n 0, 1), (1066, .iload_n 3, 1), (1067, .iconst 3, 1), (1068, .iadd, 1), (1069, .iaload, 1), (1070, .aload_n 0, 1), (1071, .iload_n 3, 1), (1072, .iconst 4, 1), (1073, .iadd, 1), (1074, .iaload, 1), (1075, .aload_n 0, 1), (1076, .iload_n 3, 1), (1077, .iconst 5, 1), (1078, .iadd, 1), (1079, .iaload, 1), (1080, .invokevirtual 104, 3), (1083, .pop, 1), (1084, .goto 822, 3), (1087, .aload_n 1, 1), (1088, .aload_n 0, 1), (1089, .iload_n 3, 1), (1090, .iconst 1, 1), (1091, .iadd, 1), (1092, .iaload, 1), (1093, .aload_n 0, 1), (1094, .iload_n 3, 1), (1095, .iconst 2, 1), (1096, .iadd, 1), (1097, .iaload, 1)]
theorem xo0_15 : x_cOk code xc0_15 = true := x_cOk_w (by decide +kernel)
def xc0_16 : List (Nat × Instr × Nat) := [(1098, .invokevirtual 105, 3), (1101, .pop, 1), (1102, .aload_n 2, 1), (1103, .aload_n 0, 1), (1104, .iload_n 3, 1), (1105, .iconst 1, 1), (1106, .iadd, 1), (1107, .iaload, 1), (1108, .aload_n 0, 1), (1109, .iload_n 3, 1), (1110, .iconst 2, 1), (1111, .iadd, 1), (1112, .iaload, 1), (1113, .invokevirtual 108, 3), (1116, .pop, 1), (1117, .goto 789, 3), (1120, .aload_n 1, 1), (1121, .aload_n 0, 1), (1122, .iload_n 3, 1), (1123, .iconst 1, 1), (1124, .iadd, 1), (1125, .iaload, 1), (1126, .aload_n 0, 1), (1127, .iload_n 3, 1), (1128, .iconst 2, 1), (1129, .iadd, 1), (1130, .iaload, 1), (1131, .invokevirtual 109, 3), (1134, .pop, 1), (1135, .aload_n 2, 1), (1136, .aload_n 0, 1), (1137, .iload_n 3, 1), (1138, .iconst 1, 1), (1139, .iadd, 1), (1140, .iaload, 1), (1141, .aload_n 0, 1), (1142, .iload_n 3, 1), (1143, .iconst 2, 1), (1144, .iadd, 1), (1145, .iaload, 1), (1146, .invokevirtual 112, 3), (1149, .pop, 1), (1150, .goto 756, 3), (1153, .aload_n 1, 1), (1154, .aload_n 0, 1), (1155, .iload_n 3, 1), (1156, .iconst 1, 1), (1157, .iadd, 1)]
theorem xo0_16 : x_cOk code xc0_16 = true := x_cOk_w (by decide +kernel)
def xc0_17 : List (Nat × Instr × Nat) := [(1158, .iaload, 1), (1159, .aload_n 0, 1), (1160, .iload_n 3, 1), (1161, .iconst 2, 1), (1162, .iadd, 1), (1163, .iaload, 1), (1164, .invokevirtual 113, 3), (1167, .pop, 1), (1168, .aload_n 2, 1), (1169, .aload_n 0, 1), (1170, .iload_n 3, 1), (1171, .iconst 1, 1), (1172, .iadd, 1), (1173, .iaload, 1), (1174, .aload_n 0, 1), (1175, .iload_n 3, 1), (1176, .iconst 2, 1), (1177, .iadd, 1), (1178, .iaload, 1), (1179, .invokevirtual 116, 3), (1182, .pop, 1), (1183, .goto 723, 3), (1186, .aload_n 1, 1), (1187, .aload_n 0, 1), (1188, .iload_n 3, 1), (1189, .iconst 1, 1), (1190, .iadd, 1), (1191, .iaload, 1), (1192, .aload_n 0, 1), (1193, .iload_n 3, 1), (1194, .iconst 2, 1), (1195, .iadd, 1), (1196, .iaload, 1), (1197, .aload_n 0, 1), (1198, .iload_n 3, 1), (1199, .iconst 3, 1), (1200, .iadd, 1), (1201, .iaload, 1), (1202, .ifCond .eq 7, 3), (1205, .iconst 1, 1), (1206, .goto 4, 3), (1209, .iconst 0, 1), (1210, .aload_n 0, 1), (1211, .iload_n 3, 1), (1212, .iconst 4, 1), (1213, .iadd, 1), (1214, .iaload, 1), (1215, .aload_n 0, 1)]
theorem xo0_17 : x_cOk code xc0_17 = true := x_cOk_w (by decide +kernel)
def xc0_18 : List (Nat × Instr × Nat) := [(1216, .iload_n 3, 1), (1217, .iconst 5, 1), (1218, .iadd, 1), (1219, .iaload, 1), (1220, .invokevirtual 117, 3), (1223, .pop, 1), (1224, .aload_n 2, 1), (1225, .aload_n 0, 1), (1226, .iload_n 3, 1), (1227, .iconst 1, 1), (1228, .iadd, 1), (1229, .iaload, 1), (1230, .aload_n 0, 1), (1231, .iload_n 3, 1), (1232, .iconst 2, 1), (1233, .iadd, 1), (1234, .iaload, 1), (1235, .aload_n 0, 1), (1236, .iload_n 3, 1), (1237, .iconst 3, 1), (1238, .iadd, 1), (1239, .iaload, 1), (1240, .ifCond .eq 7, 3), (1243, .iconst 1, 1), (1244, .goto 4, 3), (1247, .iconst 0, 1), (1248, .aload_n 0, 1), (1249, .iload_n 3, 1), (1250, .iconst 4, 1), (1251, .iadd, 1), (1252, .iaload, 1), (1253, .aload_n 0, 1), (1254, .iload_n 3, 1), (1255, .iconst 5, 1), (1256, .iadd, 1), (1257, .iaload, 1), (1258, .invokevirtual 121, 3), (1261, .pop, 1), (1262, .goto 644, 3), (1265, .aload_n 1, 1), (1266, .aload_n 0, 1), (1267, .iload_n 3, 1), (1268, .iconst 1, 1), (1269, .iadd, 1), (1270, .iaload, 1), (1271, .aload_n 0, 1), (1272, .iload_n 3, 1), (1273, .iconst 2, 1)]
theorem xo0_18 : x_cOk code xc0_18 = true := x_cOk_w (by decide +kernel)
def xc0_19 : List (Nat × Instr × Nat) := [(1274, .iadd, 1), (1275, .iaload, 1), (1276, .aload_n 0, 1), (1277, .iload_n 3, 1), (1278, .iconst 3, 1), (1279, .iadd, 1), (1280, .iaload, 1), (1281, .invokevirtual 122, 3), (1284, .pop, 1), (1285, .aload_n 2, 1), (1286, .aload_n 0, 1), (1287, .iload_n 3, 1), (1288, .iconst 1, 1), (1289, .iadd, 1), (1290, .iaload, 1), (1291, .aload_n 0, 1), (1292, .iload_n 3, 1), (1293, .iconst 2, 1), (1294, .iadd, 1), (1295, .iaload, 1), (1296, .aload_n 0, 1), (1297, .iload_n 3, 1), (1298, .iconst 3, 1), (1299, .iadd, 1), (1300, .iaload, 1), (1301, .invokevirtual 125, 3), (1304, .pop, 1), (1305, .goto 601, 3), (1308, .aload_n 1, 1), (1309, .aload_n 0, 1), (1310, .iload_n 3, 1), (1311, .iconst 1, 1), (1312, .iadd, 1), (1313, .iaload, 1), (1314, .invokevirtual 126, 3), (1317, .pop, 1), (1318, .aload_n 2, 1), (1319, .aload_n 0, 1), (1320, .iload_n 3, 1), (1321, .iconst 1, 1), (1322, .iadd, 1), (1323, .iaload, 1), (1324, .invokevirtual 129, 3), (1327, .pop, 1), (1328, .goto 578, 3), (1331, .aload_n 1, 1), (1332, .aload_n 0, 1), (1333, .iload_n 3, 1)]
theorem xo0_19 : x_cOk code xc0_19 = true := x_cOk_w (by decide +kernel)
def xc0_20 : List (Nat × Instr × Nat) := [(1334, .iconst 1, 1), (1335, .iadd, 1), (1336, .iaload, 1), (1337, .aload_n 0, 1), (1338, .iload_n 3, 1), (1339, .iconst 2, 1), (1340, .iadd, 1), (1341, .iaload, 1), (1342, .aload_n 0, 1), (1343, .iload_n 3, 1), (1344, .iconst 3, 1), (1345, .iadd, 1), (1346, .iaload, 1), (1347, .aload_n 0, 1), (1348, .iload_n 3, 1), (1349, .iconst 4, 1), (1350, .iadd, 1), (1351, .iaload, 1), (1352, .invokevirtual 130, 3), (1355, .pop, 1), (1356, .aload_n 2, 1), (1357, .aload_n 0, 1), (1358, .iload_n 3, 1), (1359, .iconst 1, 1), (1360, .iadd, 1), (1361, .iaload, 1), (1362, .aload_n 0, 1), (1363, .iload_n 3, 1), (1364, .iconst 2, 1), (1365, .iadd, 1), (1366, .iaload, 1), (1367, .aload_n 0, 1), (1368, .iload_n 3, 1), (1369, .iconst 3, 1), (1370, .iadd, 1), (1371, .iaload, 1), (1372, .aload_n 0, 1), (1373, .iload_n 3, 1), (1374, .iconst 4, 1), (1375, .iadd, 1), (1376, .iaload, 1), (1377, .invokevirtual 133, 3), (1380, .pop, 1), (1381, .goto 525, 3), (1384, .aload_n 1, 1), (1385, .aload_n 0, 1), (1386, .iload_n 3, 1), (1387, .iconst 1, 1)]
theorem xo0_20 : x_cOk code xc0_20 = true := x_cOk_w (by decide +kernel)
def xc0_21 : List (Nat × Instr × Nat) := [(1388, .iadd, 1), (1389, .iaload, 1), (1390, .aload_n 0, 1), (1391, .iload_n 3, 1), (1392, .iconst 2, 1), (1393, .iadd, 1), (1394, .iaload, 1), (1395, .invokevirtual 134, 3), (1398, .pop, 1), (1399, .aload_n 2, 1), (1400, .aload_n 0, 1), (1401, .iload_n 3, 1), (1402, .iconst 1, 1), (1403, .iadd, 1), (1404, .iaload, 1), (1405, .aload_n 0, 1), (1406, .iload_n 3, 1), (1407, .iconst 2, 1), (1408, .iadd, 1), (1409, .iaload, 1), (1410, .invokevirtual 137, 3), (1413, .pop, 1), (1414, .goto 492, 3), (1417, .aload_n 1, 1), (1418, .aload_n 0, 1), (1419, .iload_n 3, 1), (1420, .iconst 1, 1), (1421, .iadd, 1), (1422, .iaload, 1), (1423, .invokevirtual 138, 3), (1426, .pop, 1), (1427, .aload_n 2, 1), (1428, .aload_n 0, 1), (1429, .iload_n 3, 1), (1430, .iconst 1, 1), (1431, .iadd, 1), (1432, .iaload, 1), (1433, .invokevirtual 141, 3), (1436, .pop, 1), (1437, .goto 469, 3), (1440, .aload_n 1, 1), (1441, .aload_n 0, 1), (1442, .iload_n 3, 1), (1443, .iconst 1, 1), (1444, .iadd, 1), (1445, .iaload, 1), (1446, .aload_n 0, 1), (1447, .iload_n 3, 1)]
theorem xo0_21 : x_cOk code xc0_21 = true := x_cOk_w (by decide +kernel)
def xc0_22 : List (Nat × Instr × Nat) := [(1448, .iconst 2, 1), (1449, .iadd, 1), (1450, .iaload, 1), (1451, .aload_n 0, 1), (1452, .iload_n 3, 1), (1453, .iconst 3, 1), (1454, .iadd, 1), (1455, .iaload, 1), (1456, .aload_n 0, 1), (1457, .iload_n 3, 1), (1458, .iconst 4, 1), (1459, .iadd, 1), (1460, .iaload, 1), (1461, .invokevirtual 142, 3), (1464, .pop, 1), (1465, .aload_n 2, 1), (1466, .aload_n 0, 1), (1467, .iload_n 3, 1), (1468, .iconst 1, 1), (1469, .iadd, 1), (1470, .iaload, 1), (1471, .aload_n 0, 1), (1472, .iload_n 3, 1), (1473, .iconst 2, 1), (1474, .iadd, 1), (1475, .iaload, 1), (1476, .aload_n 0, 1), (1477, .iload_n 3, 1), (1478, .iconst 3, 1), (1479, .iadd, 1), (1480, .iaload, 1), (1481, .aload_n 0, 1), (1482, .iload_n 3, 1), (1483, .iconst 4, 1), (1484, .iadd, 1), (1485, .iaload, 1), (1486, .invokevirtual 145, 3), (1489, .pop, 1), (1490, .goto 416, 3), (1493, .aload_n 1, 1), (1494, .aload_n 0, 1), (1495, .iload_n 3, 1), (1496, .iconst 1, 1), (1497, .iadd, 1), (1498, .iaload, 1), (1499, .invokevirtual 146, 3), (1502, .pop, 1), (1503, .aload_n 2, 1)]
theorem xo0_22 : x_cOk code xc0_22 = true := x_cOk_w (by decide +kernel)
def xc0_23 : List (Nat × Instr × Nat) := [(1504, .aload_n 0, 1), (1505, .iload_n 3, 1), (1506, .iconst 1, 1), (1507, .iadd, 1), (1508, .iaload, 1), (1509, .invokevirtual 149, 3), (1512, .pop, 1), (1513, .goto 393, 3), (1516, .aload_n 1, 1), (1517, .aload_n 0, 1), (1518, .iload_n 3, 1), (1519, .iconst 1, 1), (1520, .iadd, 1), (1521, .iaload, 1), (1522, .aload_n 0, 1), (1523, .iload_n 3, 1), (1524, .iconst 2, 1), (1525, .iadd, 1), (1526, .iaload, 1), (1527, .aload_n 0, 1), (1528, .iload_n 3, 1), (1529, .iconst 3, 1), (1530, .iadd, 1), (1531, .iaload, 1), (1532, .aload_n 0, 1), (1533, .iload_n 3, 1), (1534, .iconst 4, 1), (1535, .iadd, 1), (1536, .iaload, 1), (1537, .invokevirtual 150, 3), (1540, .pop, 1), (1541, .aload_n 2, 1), (1542, .aload_n 0, 1), (1543, .iload_n 3, 1), (1544, .iconst 1, 1), (1545, .iadd, 1), (1546, .iaload, 1), (1547, .aload_n 0, 1), (1548, .iload_n 3, 1), (1549, .iconst 2, 1), (1550, .iadd, 1), (1551, .iaload, 1), (1552, .aload_n 0, 1), (1553, .iload_n 3, 1), (1554, .iconst 3, 1), (1555, .iadd, 1), (1556, .iaload, 1), (1557, .aload_n 0, 1)]
theorem xo0_23 : x_cOk code xc0_23 = true := x_cOk_w (by decide +kernel)
def xc0_24 : List (Nat × Instr × Nat) := [(1558, .iload_n 3, 1), (1559, .iconst 4, 1), (1560, .iadd, 1), (1561, .iaload, 1), (1562, .invokevirtual 153, 3), (1565, .pop, 1), (1566, .goto 340, 3), (1569, .aload_n 1, 1), (1570, .aload_n 0, 1), (1571, .iload_n 3, 1), (1572, .iconst 1, 1), (1573, .iadd, 1), (1574, .iaload, 1), (1575, .aload_n 0, 1), (1576, .iload_n 3, 1), (1577, .iconst 2, 1), (1578, .iadd, 1), (1579, .iaload, 1), (1580, .invokevirtual 154, 3), (1583, .pop, 1), (1584, .aload_n 2, 1), (1585, .aload_n 0, 1), (1586, .iload_n 3, 1), (1587, .iconst 1, 1), (1588, .iadd, 1), (1589, .iaload, 1), (1590, .aload_n 0, 1), (1591, .iload_n 3, 1), (1592, .iconst 2, 1), (1593, .iadd, 1), (1594, .iaload, 1), (1595, .invokevirtual 157, 3), (1598, .pop, 1), (1599, .goto 307, 3), (1602, .aload_n 1, 1), (1603, .aload_n 0, 1), (1604, .iload_n 3, 1), (1605, .iconst 1, 1), (1606, .iadd, 1), (1607, .iaload, 1), (1608, .aload_n 0, 1), (1609, .iload_n 3, 1), (1610, .iconst 2, 1), (1611, .iadd, 1), (1612, .iaload, 1), (1613, .invokevirtual 158, 3), (1616, .pop, 1), (1617, .aload_n 2, 1)]
theorem xo0_24 : x_cOk code xc0_24 = true := x_cOk_w (by decide +kernel)
def xc0_25 : List (Nat × Instr × Nat) := [(1618, .aload_n 0, 1), (1619, .iload_n 3, 1), (1620, .iconst 1, 1), (1621, .iadd, 1), (1622, .iaload, 1), (1623, .aload_n 0, 1), (1624, .iload_n 3, 1), (1625, .iconst 2, 1), (1626, .iadd, 1), (1627, .iaload, 1), (1628, .invokevirtual 161, 3), (1631, .pop, 1), (1632, .goto 274, 3), (1635, .aload_n 1, 1), (1636, .aload_n 0, 1), (1637, .iload_n 3, 1), (1638, .iconst 1, 1), (1639, .iadd, 1), (1640, .iaload, 1), (1641, .aload_n 0, 1), (1642, .iload_n 3, 1), (1643, .iconst 2, 1), (1644, .iadd, 1), (1645, .iaload, 1), (1646, .aload_n 0, 1), (1647, .iload_n 3, 1), (1648, .iconst 3, 1), (1649, .iadd, 1), (1650, .iaload, 1), (1651, .invokevirtual 162, 3), (1654, .pop, 1), (1655, .aload_n 2, 1), (1656, .aload_n 0, 1), (1657, .iload_n 3, 1), (1658, .iconst 1, 1), (1659, .iadd, 1), (1660, .iaload, 1), (1661, .aload_n 0, 1), (1662, .iload_n 3, 1), (1663, .iconst 2, 1), (1664, .iadd, 1), (1665, .iaload, 1), (1666, .aload_n 0, 1), (1667, .iload_n 3, 1), (1668, .iconst 3, 1), (1669, .iadd, 1), (1670, .iaload, 1), (1671, .invokevirtual 165, 3)]
theorem xo0_25 : x_cOk code xc0_25 = true := x_cOk_w (by decide +kernel)
def xc0_26 : List (Nat × Instr × Nat) := [(1674, .pop, 1), (1675, .goto 231, 3), (1678, .aload_n 1, 1), (1679, .aload_n 0, 1), (1680, .iload_n 3, 1), (1681, .iconst 1, 1), (1682, .iadd, 1), (1683, .iaload, 1), (1684, .invokevirtual 166, 3), (1687, .pop, 1), (1688, .aload_n 2, 1), (1689, .aload_n 0, 1), (1690, .iload_n 3, 1), (1691, .iconst 1, 1), (1692, .iadd, 1), (1693, .iaload, 1), (1694, .invokevirtual 169, 3), (1697, .pop, 1), (1698, .goto 208, 3), (1701, .aload_n 1, 1), (1702, .aload_n 0, 1), (1703, .iload_n 3, 1), (1704, .iconst 1, 1), (1705, .iadd, 1), (1706, .iaload, 1), (1707, .aload_n 0, 1), (1708, .iload_n 3, 1), (1709, .iconst 2, 1), (1710, .iadd, 1), (1711, .iaload, 1), (1712, .invokevirtual 170, 3), (1715, .aload_n 2, 1), (1716, .aload_n 0, 1), (1717, .iload_n 3, 1), (1718, .iconst 1, 1), (1719, .iadd, 1), (1720, .iaload, 1), (1721, .aload_n 0, 1), (1722, .iload_n 3, 1), (1723, .iconst 2, 1), (1724, .iadd, 1), (1725, .iaload, 1), (1726, .invokevirtual 173, 3), (1729, .if_icmp .eq 177, 3), (1732, .iconst 0, 1), (1733, .ireturn, 1), (1734, .aload_n 1, 1), (1735, .aload_n 0, 1)]
theorem xo0_26 : x_cOk code xc0_26 = true := x_cOk_w (by decide +kernel)
def xc0_27 : List (Nat × Instr × Nat) := [(1736, .iload_n 3, 1), (1737, .iconst 1, 1), (1738, .iadd, 1), (1739, .iaload, 1), (1740, .invokevirtual 174, 3), (1743, .pop, 1), (1744, .aload_n 2, 1), (1745, .aload_n 0, 1), (1746, .iload_n 3, 1), (1747, .iconst 1, 1), (1748, .iadd, 1), (1749, .iaload, 1), (1750, .invokevirtual 177, 3), (1753, .pop, 1), (1754, .goto 152, 3), (1757, .aload_n 1, 1), (1758, .aload_n 0, 1), (1759, .iload_n 3, 1), (1760, .iconst 1, 1), (1761, .iadd, 1), (1762, .iaload, 1), (1763, .aload_n 0, 1), (1764, .iload_n 3, 1), (1765, .iconst 2, 1), (1766, .iadd, 1), (1767, .iaload, 1), (1768, .aload_n 0, 1), (1769, .iload_n 3, 1), (1770, .iconst 3, 1), (1771, .iadd, 1), (1772, .iaload, 1), (1773, .invokevirtual 178, 3), (1776, .pop, 1), (1777, .aload_n 2, 1), (1778, .aload_n 0, 1), (1779, .iload_n 3, 1), (1780, .iconst 1, 1), (1781, .iadd, 1), (1782, .iaload, 1), (1783, .aload_n 0, 1), (1784, .iload_n 3, 1), (1785, .iconst 2, 1), (1786, .iadd, 1), (1787, .iaload, 1), (1788, .aload_n 0, 1), (1789, .iload_n 3, 1), (1790, .iconst 3, 1), (1791, .iadd, 1)]
theorem xo0_27 : x_cOk code xc0_27 = true := x_cOk_w (by decide +kernel)
def xc0_28 : List (Nat × Instr × Nat) := [(1792, .iaload, 1), (1793, .invokevirtual 181, 3), (1796, .pop, 1), (1797, .goto 109, 3), (1800, .aload_n 1, 1), (1801, .aload_n 0, 1), (1802, .iload_n 3, 1), (1803, .iconst 1, 1), (1804, .iadd, 1), (1805, .iaload, 1), (1806, .aload_n 0, 1), (1807, .iload_n 3, 1), (1808, .iconst 2, 1), (1809, .iadd, 1), (1810, .iaload, 1), (1811, .aload_n 0, 1), (1812, .iload_n 3, 1), (1813, .iconst 3, 1), (1814, .iadd, 1), (1815, .iaload, 1), (1816, .invokevirtual 182, 3), (1819, .pop, 1), (1820, .aload_n 2, 1), (1821, .aload_n 0, 1), (1822, .iload_n 3, 1), (1823, .iconst 1, 1), (1824, .iadd, 1), (1825, .iaload, 1), (1826, .aload_n 0, 1), (1827, .iload_n 3, 1), (1828, .iconst 2, 1), (1829, .iadd, 1), (1830, .iaload, 1), (1831, .aload_n 0, 1), (1832, .iload_n 3, 1), (1833, .iconst 3, 1), (1834, .iadd, 1), (1835, .iaload, 1), (1836, .invokevirtual 185, 3), (1839, .pop, 1), (1840, .goto 66, 3), (1843, .aload_n 1, 1), (1844, .aload_n 0, 1), (1845, .iload_n 3, 1), (1846, .iconst 1, 1), (1847, .iadd, 1), (1848, .iaload, 1), (1849, .aload_n 0, 1)]
theorem xo0_28 : x_cOk code xc0_28 = true := x_cOk_w (by decide +kernel)
def xc0_29 : List (Nat × Instr × Nat) := [(1850, .iload_n 3, 1), (1851, .iconst 2, 1), (1852, .iadd, 1), (1853, .iaload, 1), (1854, .aload_n 0, 1), (1855, .iload_n 3, 1), (1856, .iconst 3, 1), (1857, .iadd, 1), (1858, .iaload, 1), (1859, .aload_n 0, 1), (1860, .iload_n 3, 1), (1861, .iconst 4, 1), (1862, .iadd, 1), (1863, .iaload, 1), (1864, .aload_n 0, 1), (1865, .iload_n 3, 1), (1866, .iconst 5, 1), (1867, .iadd, 1), (1868, .iaload, 1), (1869, .invokevirtual 186, 3), (1872, .pop, 1), (1873, .aload_n 2, 1), (1874, .aload_n 0, 1), (1875, .iload_n 3, 1), (1876, .iconst 1, 1), (1877, .iadd, 1), (1878, .iaload, 1), (1879, .aload_n 0, 1), (1880, .iload_n 3, 1), (1881, .iconst 2, 1), (1882, .iadd, 1), (1883, .iaload, 1), (1884, .aload_n 0, 1), (1885, .iload_n 3, 1), (1886, .iconst 3, 1), (1887, .iadd, 1), (1888, .iaload, 1), (1889, .aload_n 0, 1), (1890, .iload_n 3, 1), (1891, .iconst 4, 1), (1892, .iadd, 1), (1893, .iaload, 1), (1894, .aload_n 0, 1), (1895, .iload_n 3, 1), (1896, .iconst 5, 1), (1897, .iadd, 1), (1898, .iaload, 1), (1899, .invokevirtual 189, 3)]
theorem xo0_29 : x_cOk code xc0_29 = true := x_cOk_w (by decide +kernel)
def xc0_30 : List (Nat × Instr × Nat) := [(1902, .pop, 1), (1903, .goto 3, 3), (1906, .iinc 3 7, 3), (1909, .goto (-1891), 3), (1912, .iconst 1, 1), (1913, .ireturn, 1)]
theorem xo0_30 : x_cOk code xc0_30 = true := x_cOk_w (by decide +kernel)
def xg0 : Nat → Option (Instr × Nat) := fun pc => if pc < 246 then x_at2 pc xc0_0 else if pc < 308 then x_at2 pc xc0_1 else if pc < 364 then x_at2 pc xc0_2 else if pc < 422 then x_at2 pc xc0_3 else if pc < 474 then x_at2 pc xc0_4 else if pc < 534 then x_at2 pc xc0_5 else if pc < 594 then x_at2 pc xc0_6 else if pc < 654 then x_at2 pc xc0_7 else if pc < 718 then x_at2 pc xc0_8 else if pc < 772 then x_at2 pc xc0_9 else if pc < 826 then x_at2 pc xc0_10 else if pc < 878 then x_at2 pc xc0_11 else if pc < 934 then x_at2 pc xc0_12 else if pc < 988 then x_at2 pc xc0_13 else if pc < 1044 then x_at2 pc xc0_14 else if pc < 1098 then x_at2 pc xc0_15 else if pc < 1158 then x_at2 pc xc0_16 else if pc < 1216 then x_at2 pc xc0_17 else if pc < 1274 then x_at2 pc xc0_18 else if pc < 1334 then x_at2 pc xc0_19 else if pc < 1388 then x_at2 pc xc0_20 else if pc < 1448 then x_at2 pc xc0_21 else if pc < 1504 then x_at2 pc xc0_22 else if pc < 1558 then x_at2 pc xc0_23 else if pc < 1618 then x_at2 pc xc0_24 else if pc < 1674 then x_at2 pc xc0_25 else if pc < 1736 then x_at2 pc xc0_26 else if pc < 1792 then x_at2 pc xc0_27 else if pc < 1850 then x_at2 pc xc0_28 else if pc < 1902 then x_at2 pc xc0_29 else x_at2 pc xc0_30
theorem xh0 : x_Good code xg0 := by
  unfold xg0
  exact x_Good_ite (x_Good_l xo0_0) (x_Good_ite (x_Good_l xo0_1) (x_Good_ite (x_Good_l xo0_2) (x_Good_ite (x_Good_l xo0_3) (x_Good_ite (x_Good_l xo0_4) (x_Good_ite (x_Good_l xo0_5) (x_Good_ite (x_Good_l xo0_6) (x_Good_ite (x_Good_l xo0_7) (x_Good_ite (x_Good_l xo0_8) (x_Good_ite (x_Good_l xo0_9) (x_Good_ite (x_Good_l xo0_10) (x_Good_ite (x_Good_l xo0_11) (x_Good_ite (x_Good_l xo0_12) (x_Good_ite (x_Good_l xo0_13) (x_Good_ite (x_Good_l xo0_14) (x_Good_ite (x_Good_l xo0_15) (x_Good_ite (x_Good_l xo0_16) (x_Good_ite (x_Good_l xo0_17) (x_Good_ite (x_Good_l xo0_18) (x_Good_ite (x_Good_l xo0_19) (x_Good_ite (x_Good_l xo0_20) (x_Good_ite (x_Good_l xo0_21) (x_Good_ite (x_Good_l xo0_22) (x_Good_ite (x_Good_l xo0_23) (x_Good_ite (x_Good_l xo0_24) (x_Good_ite (x_Good_l xo0_25) (x_Good_ite (x_Good_l xo0_26) (x_Good_ite (x_Good_l xo0_27) (x_Good_ite (x_Good_l xo0_28) (x_Good_ite (x_Good_l xo0_29) (x_Good_l xo0_30))))))))))))))))))))))))))))))
def xm0 : XM := (⟨"TwoDigitsLaw", "law", "([I)Z"⟩, code, 4, some .boolean, 20, 120, 1, 600000, 7302250, false, xg0)
end XCode0
end
section
/-! Instructions, by program: part 1. -/
section XCode1
def xc1_0 : List (Nat × Instr × Nat) := [(0, .aload_n 0, 1), (1, .invokespecial 1, 3), (4, .aload_n 0, 1), (5, .new 7, 3), (8, .dup, 1), (9, .invokespecial 9, 3), (12, .putfield 10, 3), (15, .aload_n 0, 1), (16, .new 16, 3), (19, .dup, 1), (20, .invokespecial 18, 3), (23, .putfield 19, 3), (26, .aload_n 0, 1), (27, .bipush 12, 2), (29, .anewarray 23, 3), (32, .putfield 25, 3), (35, .aload_n 0, 1), (36, .new 29, 3), (39, .dup, 1), (40, .iconst 0, 1), (41, .invokespecial 31, 3), (44, .putfield 34, 3), (47, .aload_n 0, 1), (48, .new 29, 3), (51, .dup, 1), (52, .iconst 1, 1), (53, .invokespecial 31, 3), (56, .putfield 38, 3), (59, .aload_n 0, 1), (60, .new 29, 3), (63, .dup, 1), (64, .iconst 0, 1), (65, .invokespecial 31, 3), (68, .putfield 41, 3), (71, .aload_n 0, 1), (72, .new 44, 3), (75, .dup, 1), (76, .invokespecial 46, 3), (79, .putfield 47, 3), (82, .aload_n 0, 1), (83, .new 44, 3), (86, .dup, 1), (87, .invokespecial 46, 3), (90, .putfield 51, 3), (93, .aload_n 0, 1), (94, .new 54, 3), (97, .dup, 1), (98, .sipush 200, 3)]
theorem xo1_0 : x_cOk prog_1_method_1_code xc1_0 = true := x_cOk_w (by decide +kernel)
def xc1_1 : List (Nat × Instr × Nat) := [(101, .iconst 4, 1), (102, .invokespecial 56, 3), (105, .putfield 59, 3), (108, .aload_n 0, 1), (109, .bipush 6, 2), (111, .anewarray 63, 3), (114, .putfield 65, 3), (117, .aload_n 0, 1), (118, .new 54, 3), (121, .dup, 1), (122, .bipush 60, 2), (124, .iconst 5, 1), (125, .invokespecial 56, 3), (128, .putfield 69, 3), (131, .aload_n 0, 1), (132, .new 54, 3), (135, .dup, 1), (136, .bipush 8, 2), (138, .iconst 2, 1), (139, .invokespecial 56, 3), (142, .putfield 72, 3), (145, .aload_n 0, 1), (146, .new 54, 3), (149, .dup, 1), (150, .bipush 8, 2), (152, .iconst 4, 1), (153, .invokespecial 56, 3), (156, .putfield 75, 3), (159, .aload_n 0, 1), (160, .new 78, 3), (163, .dup, 1), (164, .invokespecial 80, 3), (167, .putfield 81, 3), (170, .aload_n 0, 1), (171, .new 85, 3), (174, .dup, 1), (175, .invokespecial 87, 3), (178, .putfield 88, 3), (181, .aload_n 0, 1), (182, .iconst 3, 1), (183, .anewarray 92, 3), (186, .dup, 1), (187, .iconst 0, 1), (188, .new 92, 3), (191, .dup, 1), (192, .invokespecial 94, 3), (195, .aastore, 1), (196, .dup, 1)]
theorem xo1_1 : x_cOk prog_1_method_1_code xc1_1 = true := x_cOk_w (by decide +kernel)
def xc1_2 : List (Nat × Instr × Nat) := [(197, .iconst 1, 1), (198, .new 92, 3), (201, .dup, 1), (202, .invokespecial 94, 3), (205, .aastore, 1), (206, .dup, 1), (207, .iconst 2, 1), (208, .new 92, 3), (211, .dup, 1), (212, .invokespecial 94, 3), (215, .aastore, 1), (216, .putfield 95, 3), (219, .return_, 1)]
theorem xo1_2 : x_cOk prog_1_method_1_code xc1_2 = true := x_cOk_w (by decide +kernel)
def xg1 : Nat → Option (Instr × Nat) := fun pc => if pc < 101 then x_at2 pc xc1_0 else if pc < 197 then x_at2 pc xc1_1 else x_at2 pc xc1_2
theorem xh1 : x_Good prog_1_method_1_code xg1 := by
  unfold xg1
  exact x_Good_ite (x_Good_l xo1_0) (x_Good_ite (x_Good_l xo1_1) (x_Good_l xo1_2))
def xm1 : XM := (⟨"TwoDigits", "<init>", "()V"⟩, prog_1_method_1_code, 1, none, 0, 0, 0, 68, 4252, true, xg1)
def xc2_0 : List (Nat × Instr × Nat) := [(0, .aload_n 0, 1), (1, .invokespecial 3, 3), (4, .aload_n 0, 1), (5, .sipush 160, 3), (8, .newarray .int, 2), (10, .putfield 11, 3), (13, .return_, 1)]
theorem xo2_0 : x_cOk prog_11_method_1_code xc2_0 = true := x_cOk_w (by decide +kernel)
def xg2 : Nat → Option (Instr × Nat) := fun pc => x_at2 pc xc2_0
theorem xh2 : x_Good prog_11_method_1_code xg2 := by
  unfold xg2
  exact x_Good_l xo2_0
def xm2 : XM := (⟨"TwoDigits$Tape", "<init>", "()V"⟩, prog_11_method_1_code, 1, none, 1, 1, 0, 1, 160, true, xg2)
def xc3_0 : List (Nat × Instr × Nat) := [(0, .aload_n 0, 1), (1, .invokespecial 1, 3), (4, .aload_n 0, 1), (5, .bipush 12, 2), (7, .newarray .int, 2), (9, .putfield 9, 3), (12, .aload_n 0, 1), (13, .bipush 12, 2), (15, .newarray .int, 2), (17, .putfield 13, 3), (20, .aload_n 0, 1), (21, .bipush 12, 2), (23, .newarray .int, 2), (25, .putfield 16, 3), (28, .aload_n 0, 1), (29, .bipush 12, 2), (31, .newarray .int, 2), (33, .putfield 19, 3), (36, .return_, 1)]
theorem xo3_0 : x_cOk prog_3_method_1_code xc3_0 = true := x_cOk_w (by decide +kernel)
def xg3 : Nat → Option (Instr × Nat) := fun pc => x_at2 pc xc3_0
theorem xh3 : x_Good prog_3_method_1_code xg3 := by
  unfold xg3
  exact x_Good_l xo3_0
def xm3 : XM := (⟨"TwoDigits$Code", "<init>", "()V"⟩, prog_3_method_1_code, 1, none, 2, 2, 0, 4, 48, true, xg3)
def xc4_0 : List (Nat × Instr × Nat) := [(0, .aload_n 0, 1), (1, .invokespecial 3, 3), (4, .aload_n 0, 1), (5, .bipush 6, 2), (7, .newarray .int, 2), (9, .dup, 1), (10, .iconst 0, 1), (11, .iconst 2, 1), (12, .iastore, 1), (13, .dup, 1), (14, .iconst 1, 1), (15, .iconst 2, 1), (16, .iastore, 1), (17, .dup, 1), (18, .iconst 2, 1), (19, .iconst 2, 1), (20, .iastore, 1), (21, .dup, 1), (22, .iconst 3, 1), (23, .iconst 2, 1), (24, .iastore, 1), (25, .dup, 1), (26, .iconst 4, 1), (27, .iconst 2, 1), (28, .iastore, 1), (29, .dup, 1), (30, .iconst 5, 1), (31, .iconst 2, 1), (32, .iastore, 1), (33, .putfield 9, 3), (36, .aload_n 0, 1), (37, .bipush 6, 2), (39, .newarray .int, 2), (41, .dup, 1), (42, .iconst 0, 1), (43, .iconst (-1), 1), (44, .iastore, 1), (45, .dup, 1), (46, .iconst 1, 1), (47, .iconst (-1), 1), (48, .iastore, 1), (49, .dup, 1), (50, .iconst 2, 1), (51, .iconst (-1), 1), (52, .iastore, 1), (53, .dup, 1), (54, .iconst 3, 1), (55, .iconst (-1), 1)]
theorem xo4_0 : x_cOk prog_8_method_1_code xc4_0 = true := x_cOk_w (by decide +kernel)
def xc4_1 : List (Nat × Instr × Nat) := [(56, .iastore, 1), (57, .dup, 1), (58, .iconst 4, 1), (59, .iconst (-1), 1), (60, .iastore, 1), (61, .dup, 1), (62, .iconst 5, 1), (63, .iconst (-1), 1), (64, .iastore, 1), (65, .putfield 15, 3), (68, .aload_n 0, 1), (69, .iload_n 1, 1), (70, .putfield 18, 3), (73, .aload_n 0, 1), (74, .iload_n 1, 1), (75, .ifCond .eq 7, 3), (78, .iconst 2, 1), (79, .goto 4, 3), (82, .iconst 0, 1), (83, .putfield 22, 3), (86, .return_, 1)]
theorem xo4_1 : x_cOk prog_8_method_1_code xc4_1 = true := x_cOk_w (by decide +kernel)
def xg4 : Nat → Option (Instr × Nat) := fun pc => if pc < 56 then x_at2 pc xc4_0 else x_at2 pc xc4_1
theorem xh4 : x_Good prog_8_method_1_code xg4 := by
  unfold xg4
  exact x_Good_ite (x_Good_l xo4_0) (x_Good_l xo4_1)
def xm4 : XM := (⟨"TwoDigits$Setting", "<init>", "(Z)V"⟩, prog_8_method_1_code, 2, none, 3, 3, 1, 2, 12, true, xg4)
def xc5_0 : List (Nat × Instr × Nat) := [(0, .aload_n 0, 1), (1, .invokespecial 3, 3), (4, .aload_n 0, 1), (5, .bipush 6, 2), (7, .newarray .int, 2), (9, .putfield 9, 3), (12, .aload_n 0, 1), (13, .new 15, 3), (16, .dup, 1), (17, .invokespecial 17, 3), (20, .putfield 18, 3), (23, .aload_n 0, 1), (24, .new 22, 3), (27, .dup, 1), (28, .invokespecial 24, 3), (31, .putfield 25, 3), (34, .aload_n 0, 1), (35, .new 29, 3), (38, .dup, 1), (39, .iconst 0, 1), (40, .invokespecial 31, 3), (43, .putfield 34, 3), (46, .aload_n 0, 1), (47, .aload_n 0, 1), (48, .getfield 18, 3), (51, .putfield 38, 3), (54, .aload_n 0, 1), (55, .aload_n 0, 1), (56, .getfield 18, 3), (59, .putfield 41, 3), (62, .aload_n 0, 1), (63, .iconst 0, 1), (64, .putfield 44, 3), (67, .return_, 1)]
theorem xo5_0 : x_cOk prog_7_method_1_code xc5_0 = true := x_cOk_w (by decide +kernel)
def xg5 : Nat → Option (Instr × Nat) := fun pc => x_at2 pc xc5_0
theorem xh5 : x_Good prog_7_method_1_code xg5 := by
  unfold xg5
  exact x_Good_l xo5_0
def xm5 : XM := (⟨"TwoDigits$Runner", "<init>", "()V"⟩, prog_7_method_1_code, 1, none, 4, 4, 0, 11, 89, true, xg5)
def xc6_0 : List (Nat × Instr × Nat) := [(0, .aload_n 0, 1), (1, .invokespecial 1, 3), (4, .aload_n 0, 1), (5, .bipush 12, 2), (7, .newarray .int, 2), (9, .putfield 9, 3), (12, .return_, 1)]
theorem xo6_0 : x_cOk prog_6_method_1_code xc6_0 = true := x_cOk_w (by decide +kernel)
def xg6 : Nat → Option (Instr × Nat) := fun pc => x_at2 pc xc6_0
theorem xh6 : x_Good prog_6_method_1_code xg6 := by
  unfold xg6
  exact x_Good_l xo6_0
def xm6 : XM := (⟨"TwoDigits$Row", "<init>", "()V"⟩, prog_6_method_1_code, 1, none, 5, 5, 0, 1, 12, true, xg6)
def xc7_0 : List (Nat × Instr × Nat) := [(0, .aload_n 0, 1), (1, .invokespecial 3, 3), (4, .aload_n 0, 1), (5, .iload_n 1, 1), (6, .putfield 9, 3), (9, .aload_n 0, 1), (10, .iload_n 2, 1), (11, .putfield 15, 3), (14, .aload_n 0, 1), (15, .iload_n 1, 1), (16, .iload_n 2, 1), (17, .imul, 1), (18, .newarray .int, 2), (20, .putfield 18, 3), (23, .return_, 1)]
theorem xo7_0 : x_cOk prog_10_method_1_code xc7_0 = true := x_cOk_w (by decide +kernel)
def xg7 : Nat → Option (Instr × Nat) := fun pc => x_at2 pc xc7_0
theorem xh7 : x_Good prog_10_method_1_code xg7 := by
  unfold xg7
  exact x_Good_l xo7_0
def xm7 : XM := (⟨"TwoDigits$Table", "<init>", "(II)V"⟩, prog_10_method_1_code, 3, none, 6, 6, 2, 1, 800, true, xg7)
def xc8_0 : List (Nat × Instr × Nat) := [(0, .aload_n 0, 1), (1, .invokespecial 3, 3), (4, .aload_n 0, 1), (5, .bipush 8, 2), (7, .newarray .int, 2), (9, .putfield 9, 3), (12, .aload_n 0, 1), (13, .bipush 8, 2), (15, .newarray .int, 2), (17, .putfield 15, 3), (20, .aload_n 0, 1), (21, .bipush 8, 2), (23, .newarray .int, 2), (25, .putfield 18, 3), (28, .aload_n 0, 1), (29, .bipush 8, 2), (31, .newarray .int, 2), (33, .putfield 21, 3), (36, .aload_n 0, 1), (37, .bipush 8, 2), (39, .newarray .int, 2), (41, .putfield 24, 3), (44, .aload_n 0, 1), (45, .sipush 256, 3), (48, .newarray .int, 2), (50, .putfield 27, 3), (53, .return_, 1)]
theorem xo8_0 : x_cOk prog_4_method_1_code xc8_0 = true := x_cOk_w (by decide +kernel)
def xg8 : Nat → Option (Instr × Nat) := fun pc => x_at2 pc xc8_0
theorem xh8 : x_Good prog_4_method_1_code xg8 := by
  unfold xg8
  exact x_Good_l xo8_0
def xm8 : XM := (⟨"TwoDigits$Posts", "<init>", "()V"⟩, prog_4_method_1_code, 1, none, 7, 7, 0, 6, 296, true, xg8)
def xc9_0 : List (Nat × Instr × Nat) := [(0, .aload_n 0, 1), (1, .invokespecial 3, 3), (4, .aload_n 0, 1), (5, .bipush 40, 2), (7, .newarray .int, 2), (9, .putfield 11, 3), (12, .aload_n 0, 1), (13, .bipush 40, 2), (15, .newarray .int, 2), (17, .putfield 15, 3), (20, .aload_n 0, 1), (21, .bipush 20, 2), (23, .newarray .int, 2), (25, .putfield 18, 3), (28, .return_, 1)]
theorem xo9_0 : x_cOk prog_12_method_1_code xc9_0 = true := x_cOk_w (by decide +kernel)
def xg9 : Nat → Option (Instr × Nat) := fun pc => x_at2 pc xc9_0
theorem xh9 : x_Good prog_12_method_1_code xg9 := by
  unfold xg9
  exact x_Good_l xo9_0
def xm9 : XM := (⟨"TwoDigits$Things", "<init>", "()V"⟩, prog_12_method_1_code, 1, none, 8, 8, 0, 3, 100, true, xg9)
def xc10_0 : List (Nat × Instr × Nat) := [(0, .aload_n 0, 1), (1, .invokespecial 3, 3), (4, .aload_n 0, 1), (5, .bipush 40, 2), (7, .newarray .int, 2), (9, .putfield 11, 3), (12, .aload_n 0, 1), (13, .iconst (-1), 1), (14, .putfield 15, 3), (17, .return_, 1)]
theorem xo10_0 : x_cOk prog_9_method_1_code xc10_0 = true := x_cOk_w (by decide +kernel)
def xg10 : Nat → Option (Instr × Nat) := fun pc => x_at2 pc xc10_0
theorem xh10 : x_Good prog_9_method_1_code xg10 := by
  unfold xg10
  exact x_Good_l xo10_0
def xm10 : XM := (⟨"TwoDigits$Sheet", "<init>", "()V"⟩, prog_9_method_1_code, 1, none, 9, 9, 0, 1, 40, true, xg10)
def xc11_0 : List (Nat × Instr × Nat) := [(0, .iload_n 2, 1), (1, .ifCond .lt 8, 3), (4, .iload_n 2, 1), (5, .iconst 4, 1), (6, .if_icmp .le 6, 3), (9, .bipush (-2), 2), (11, .ireturn, 1), (12, .aload_n 0, 1), (13, .getfield 10, 3), (16, .iload_n 1, 1), (17, .iload_n 2, 1), (18, .invokevirtual 99, 3), (21, .ifCond .eq 13, 3), (24, .aload_n 0, 1), (25, .getfield 10, 3), (28, .getfield 103, 3), (31, .goto 5, 3), (34, .bipush (-4), 2), (36, .ireturn, 1)]
theorem xo11_0 : x_cOk prog_1_method_2_code xc11_0 = true := x_cOk_w (by decide +kernel)
def xg11 : Nat → Option (Instr × Nat) := fun pc => x_at2 pc xc11_0
theorem xh11 : x_Good prog_1_method_2_code xg11 := by
  unfold xg11
  exact x_Good_l xo11_0
def xm11 : XM := (⟨"TwoDigits", "feed", "(II)I"⟩, prog_1_method_2_code, 3, some .int, 0, 0, 2, 0, 0, false, xg11)
def xc12_0 : List (Nat × Instr × Nat) := [(0, .iload_n 2, 1), (1, .sipush 160, 3), (4, .aload_n 0, 1), (5, .getfield 15, 3), (8, .isub, 1), (9, .if_icmp .le 5, 3), (12, .iconst 0, 1), (13, .ireturn, 1), (14, .iload_n 2, 1), (15, .iconst 1, 1), (16, .isub, 1), (17, .istore_n 3, 1), (18, .iload_n 3, 1), (19, .ifCond .lt 38, 3), (22, .aload_n 0, 1), (23, .getfield 11, 3), (26, .aload_n 0, 1), (27, .getfield 15, 3), (30, .iload_n 1, 1), (31, .bipush 8, 2), (33, .iload_n 3, 1), (34, .imul, 1), (35, .ishr, 1), (36, .sipush 255, 3), (39, .iand, 1), (40, .iastore, 1), (41, .aload_n 0, 1), (42, .dup, 1), (43, .getfield 15, 3), (46, .iconst 1, 1), (47, .iadd, 1), (48, .putfield 15, 3), (51, .iinc 3 (-1), 3), (54, .goto (-36), 3), (57, .iconst 1, 1), (58, .ireturn, 1)]
theorem xo12_0 : x_cOk prog_11_method_2_code xc12_0 = true := x_cOk_w (by decide +kernel)
def xg12 : Nat → Option (Instr × Nat) := fun pc => x_at2 pc xc12_0
theorem xh12 : x_Good prog_11_method_2_code xg12 := by
  unfold xg12
  exact x_Good_l xo12_0
def xm12 : XM := (⟨"TwoDigits$Tape", "take", "(II)Z"⟩, prog_11_method_2_code, 4, some .boolean, 1, 1, 2, 0, 0, false, xg12)
def xc13_0 : List (Nat × Instr × Nat) := [(0, .aload_n 0, 1), (1, .getfield 107, 3), (4, .bipush 12, 2), (6, .if_icmp .lt 6, 3), (9, .bipush (-4), 2), (11, .ireturn, 1), (12, .aload_n 0, 1), (13, .getfield 10, 3), (16, .aload_n 0, 1), (17, .getfield 19, 3), (20, .invokevirtual 110, 3), (23, .istore_n 1, 1), (24, .aload_n 0, 1), (25, .getfield 10, 3), (28, .iconst 0, 1), (29, .putfield 103, 3), (32, .iload_n 1, 1), (33, .iconst (-1), 1), (34, .if_icmp .eq 8, 3), (37, .bipush (-10), 2), (39, .iload_n 1, 1), (40, .isub, 1), (41, .ireturn, 1), (42, .aload_n 0, 1), (43, .getfield 25, 3), (46, .aload_n 0, 1), (47, .getfield 107, 3), (50, .new 23, 3), (53, .dup, 1), (54, .aload_n 0, 1), (55, .getfield 19, 3), (58, .invokespecial 114, 3), (61, .aastore, 1), (62, .aload_n 0, 1), (63, .new 16, 3), (66, .dup, 1), (67, .invokespecial 18, 3), (70, .putfield 19, 3), (73, .aload_n 0, 1), (74, .dup, 1), (75, .getfield 107, 3), (78, .iconst 1, 1), (79, .iadd, 1), (80, .putfield 107, 3), (83, .aload_n 0, 1), (84, .getfield 107, 3), (87, .iconst 1, 1), (88, .isub, 1)]
theorem xo13_0 : x_cOk prog_1_method_3_code xc13_0 = true := x_cOk_w (by decide +kernel)
def xc13_1 : List (Nat × Instr × Nat) := [(89, .ireturn, 1)]
theorem xo13_1 : x_cOk prog_1_method_3_code xc13_1 = true := x_cOk_w (by decide +kernel)
def xg13 : Nat → Option (Instr × Nat) := fun pc => if pc < 89 then x_at2 pc xc13_0 else x_at2 pc xc13_1
theorem xh13 : x_Good prog_1_method_3_code xg13 := by
  unfold xg13
  exact x_Good_ite (x_Good_l xo13_0) (x_Good_l xo13_1)
def xm13 : XM := (⟨"TwoDigits", "program", "()I"⟩, prog_1_method_3_code, 2, some .int, 0, 0, 0, 19, 159, false, xg13)
def xc14_0 : List (Nat × Instr × Nat) := [(0, .aload_n 0, 1), (1, .iconst 0, 1), (2, .putfield 19, 3), (5, .aload_n 1, 1), (6, .iconst 0, 1), (7, .putfield 22, 3), (10, .iconst 1, 1), (11, .istore_n 2, 1), (12, .iload_n 2, 1), (13, .bipush 12, 2), (15, .if_icmp .gt 40, 3), (18, .aload_n 0, 1), (19, .aload_n 1, 1), (20, .invokevirtual 25, 3), (23, .ifCond .ne 8, 3), (26, .aload_n 0, 1), (27, .getfield 19, 3), (30, .ireturn, 1), (31, .iload_n 2, 1), (32, .bipush 12, 2), (34, .if_icmp .eq 21, 3), (37, .aload_n 0, 1), (38, .bipush 59, 2), (40, .invokevirtual 29, 3), (43, .ifCond .ne 6, 3), (46, .goto 9, 3), (49, .iinc 2 1, 3), (52, .goto (-40), 3), (55, .aload_n 0, 1), (56, .getfield 19, 3), (59, .aload_n 0, 1), (60, .getfield 15, 3), (63, .if_icmp .ne 7, 3), (66, .iconst (-1), 1), (67, .goto 7, 3), (70, .aload_n 0, 1), (71, .getfield 19, 3), (74, .ireturn, 1)]
theorem xo14_0 : x_cOk prog_11_method_3_code xc14_0 = true := x_cOk_w (by decide +kernel)
def xg14 : Nat → Option (Instr × Nat) := fun pc => x_at2 pc xc14_0
theorem xh14 : x_Good prog_11_method_3_code xg14 := by
  unfold xg14
  exact x_Good_l xo14_0
def xm14 : XM := (⟨"TwoDigits$Tape", "readAll", "(LTwoDigits$Code;)I"⟩, prog_11_method_3_code, 3, some .int, 1, 1, 1, 0, 0, false, xg14)
def xc15_0 : List (Nat × Instr × Nat) := [(0, .aload_n 0, 1), (1, .iconst 0, 1), (2, .putfield 33, 3), (5, .aload_n 0, 1), (6, .iconst 0, 1), (7, .putfield 36, 3), (10, .aload_n 0, 1), (11, .iconst 0, 1), (12, .putfield 39, 3), (15, .aload_n 0, 1), (16, .invokevirtual 42, 3), (19, .istore_n 2, 1), (20, .iload_n 2, 1), (21, .bipush 7, 2), (23, .if_icmp .ne 11, 3), (26, .aload_n 0, 1), (27, .invokevirtual 46, 3), (30, .istore_n 2, 1), (31, .goto 18, 3), (34, .iload_n 2, 1), (35, .iconst (-1), 1), (36, .if_icmp .eq 13, 3), (39, .aload_n 0, 1), (40, .iload_n 2, 1), (41, .invokevirtual 49, 3), (44, .ifCond .ne 5, 3), (47, .iconst (-1), 1), (48, .istore_n 2, 1), (49, .iload_n 2, 1), (50, .iconst (-1), 1), (51, .if_icmp .eq 27, 3), (54, .aload_n 1, 1), (55, .iload_n 2, 1), (56, .aload_n 0, 1), (57, .getfield 33, 3), (60, .aload_n 0, 1), (61, .getfield 36, 3), (64, .aload_n 0, 1), (65, .getfield 39, 3), (68, .invokevirtual 52, 3), (71, .ifCond .eq 7, 3), (74, .iconst 1, 1), (75, .goto 4, 3), (78, .iconst 0, 1), (79, .ireturn, 1)]
theorem xo15_0 : x_cOk prog_11_method_4_code xc15_0 = true := x_cOk_w (by decide +kernel)
def xg15 : Nat → Option (Instr × Nat) := fun pc => x_at2 pc xc15_0
theorem xh15 : x_Good prog_11_method_4_code xg15 := by
  unfold xg15
  exact x_Good_l xo15_0
def xm15 : XM := (⟨"TwoDigits$Tape", "readLine", "(LTwoDigits$Code;)Z"⟩, prog_11_method_4_code, 3, some .boolean, 1, 1, 1, 0, 0, false, xg15)
def xc16_0 : List (Nat × Instr × Nat) := [(0, .iconst 0, 1), (1, .istore_n 1, 1), (2, .iconst 0, 1), (3, .istore_n 2, 1), (4, .iload_n 2, 1), (5, .bipush 11, 2), (7, .if_icmp .ge 50, 3), (10, .iload_n 2, 1), (11, .invokestatic 56, 3), (14, .astore_n 3, 1), (15, .aload_n 0, 1), (16, .aload_n 3, 1), (17, .invokevirtual 60, 3), (20, .istore 4, 2), (22, .iload 4, 2), (24, .aload_n 3, 1), (25, .invokevirtual 64, 3), (28, .if_icmp .ne 16, 3), (31, .aload_n 0, 1), (32, .dup, 1), (33, .getfield 19, 3), (36, .iload 4, 2), (38, .iadd, 1), (39, .putfield 19, 3), (42, .iload_n 2, 1), (43, .ireturn, 1), (44, .iload_n 1, 1), (45, .iload 4, 2), (47, .invokestatic 69, 3), (50, .istore_n 1, 1), (51, .iinc 2 1, 3), (54, .goto (-50), 3), (57, .aload_n 0, 1), (58, .dup, 1), (59, .getfield 19, 3), (62, .iload_n 1, 1), (63, .iadd, 1), (64, .putfield 19, 3), (67, .iconst (-1), 1), (68, .ireturn, 1)]
theorem xo16_0 : x_cOk prog_11_method_5_code xc16_0 = true := x_cOk_w (by decide +kernel)
def xg16 : Nat → Option (Instr × Nat) := fun pc => x_at2 pc xc16_0
theorem xh16 : x_Good prog_11_method_5_code xg16 := by
  unfold xg16
  exact x_Good_l xo16_0
def xm16 : XM := (⟨"TwoDigits$Tape", "readWord", "()I"⟩, prog_11_method_5_code, 5, some .int, 1, 1, 0, 0, 0, false, xg16)
def xc17_0 : List (Nat × Instr × Nat) := [(0, .iload_n 0, 1), (1, .tableswitch 85 0 9 #[55, 58, 61, 64, 67, 70, 73, 76, 79, 82], 55), (56, .ldc 22, 2), (58, .areturn, 1), (59, .ldc 24, 2), (61, .areturn, 1), (62, .ldc 26, 2), (64, .areturn, 1), (65, .ldc 28, 2), (67, .areturn, 1), (68, .ldc 30, 2), (70, .areturn, 1), (71, .ldc 32, 2), (73, .areturn, 1), (74, .ldc 34, 2), (76, .areturn, 1), (77, .ldc 36, 2), (79, .areturn, 1), (80, .ldc 38, 2), (82, .areturn, 1), (83, .ldc 40, 2), (85, .areturn, 1), (86, .ldc 42, 2), (88, .areturn, 1)]
theorem xo17_0 : x_cOk prog_3_method_2_code xc17_0 = true := x_cOk_w (by decide +kernel)
def xg17 : Nat → Option (Instr × Nat) := fun pc => x_at2 pc xc17_0
theorem xh17 : x_Good prog_3_method_2_code xg17 := by
  unfold xg17
  exact x_Good_l xo17_0
def xm17 : XM := (⟨"TwoDigits$Code", "wordOf", "(I)Ljava/lang/String;"⟩, prog_3_method_2_code, 1, some (.object "java/lang/String"), 2, 2, 1, 0, 0, false, xg17)
def xc18_0 : List (Nat × Instr × Nat) := [(0, .iconst 0, 1), (1, .istore_n 2, 1), (2, .iload_n 2, 1), (3, .aload_n 1, 1), (4, .invokevirtual 64, 3), (7, .if_icmp .ge 41, 3), (10, .aload_n 0, 1), (11, .getfield 19, 3), (14, .iload_n 2, 1), (15, .iadd, 1), (16, .aload_n 0, 1), (17, .getfield 15, 3), (20, .if_icmp .ge 28, 3), (23, .aload_n 0, 1), (24, .getfield 11, 3), (27, .aload_n 0, 1), (28, .getfield 19, 3), (31, .iload_n 2, 1), (32, .iadd, 1), (33, .iaload, 1), (34, .aload_n 1, 1), (35, .iload_n 2, 1), (36, .invokevirtual 75, 3), (39, .if_icmp .ne 9, 3), (42, .iinc 2 1, 3), (45, .goto (-43), 3), (48, .iload_n 2, 1), (49, .ireturn, 1)]
theorem xo18_0 : x_cOk prog_11_method_6_code xc18_0 = true := x_cOk_w (by decide +kernel)
def xg18 : Nat → Option (Instr × Nat) := fun pc => x_at2 pc xc18_0
theorem xh18 : x_Good prog_11_method_6_code xg18 := by
  unfold xg18
  exact x_Good_l xo18_0
def xm18 : XM := (⟨"TwoDigits$Tape", "alikeWith", "(Ljava/lang/String;)I"⟩, prog_11_method_6_code, 3, some .int, 1, 1, 1, 0, 0, false, xg18)
def xc19_0 : List (Nat × Instr × Nat) := [(0, .aload_n 0, 1), (1, .getfield 9, 3), (4, .arraylength, 1), (5, .aload_n 0, 1), (6, .invokevirtual 335, 3), (9, .ishr, 1), (10, .ireturn, 1)]
theorem xo19_0 : x_cOk prog_17_method_54_code xc19_0 = true := x_cOk_w (by decide +kernel)
def xg19 : Nat → Option (Instr × Nat) := fun pc => x_at2 pc xc19_0
theorem xh19 : x_Good prog_17_method_54_code xg19 := by
  unfold xg19
  exact x_Good_l xo19_0
def xm19 : XM := (⟨"java/lang/String", "length", "()I"⟩, prog_17_method_54_code, 1, some .int, 15, 115, 0, 0, 0, false, xg19)
def xc20_0 : List (Nat × Instr × Nat) := [(0, .getstatic 38, 3), (3, .ifCond .eq 10, 3), (6, .aload_n 0, 1), (7, .getfield 15, 3), (10, .goto 4, 3), (13, .iconst 1, 1), (14, .ireturn, 1)]
theorem xo20_0 : x_cOk prog_17_method_152_code xc20_0 = true := x_cOk_w (by decide +kernel)
def xg20 : Nat → Option (Instr × Nat) := fun pc => x_at2 pc xc20_0
theorem xh20 : x_Good prog_17_method_152_code xg20 := by
  unfold xg20
  exact x_Good_l xo20_0
def xm20 : XM := (⟨"java/lang/String", "coder", "()B"⟩, prog_17_method_152_code, 1, some .byte, 15, 115, 0, 0, 0, false, xg20)
def xc21_0 : List (Nat × Instr × Nat) := [(0, .aload_n 0, 1), (1, .invokevirtual 492, 3), (4, .ifCond .eq 12, 3), (7, .aload_n 0, 1), (8, .getfield 9, 3), (11, .iload_n 1, 1), (12, .invokestatic 495, 3), (15, .ireturn, 1), (16, .aload_n 0, 1), (17, .getfield 9, 3), (20, .iload_n 1, 1), (21, .invokestatic 498, 3), (24, .ireturn, 1)]
theorem xo21_0 : x_cOk prog_17_method_56_code xc21_0 = true := x_cOk_w (by decide +kernel)
def xg21 : Nat → Option (Instr × Nat) := fun pc => x_at2 pc xc21_0
theorem xh21 : x_Good prog_17_method_56_code xg21 := by
  unfold xg21
  exact x_Good_l xo21_0
def xm21 : XM := (⟨"java/lang/String", "charAt", "(I)C"⟩, prog_17_method_56_code, 2, some .char, 15, 115, 1, 0, 0, false, xg21)
def xc22_0 : List (Nat × Instr × Nat) := [(0, .getstatic 38, 3), (3, .ifCond .eq 14, 3), (6, .aload_n 0, 1), (7, .getfield 15, 3), (10, .ifCond .ne 7, 3), (13, .iconst 1, 1), (14, .goto 4, 3), (17, .iconst 0, 1), (18, .ireturn, 1)]
theorem xo22_0 : x_cOk prog_17_method_154_code xc22_0 = true := x_cOk_w (by decide +kernel)
def xg22 : Nat → Option (Instr × Nat) := fun pc => x_at2 pc xc22_0
theorem xh22 : x_Good prog_17_method_154_code xg22 := by
  unfold xg22
  exact x_Good_l xo22_0
def xm22 : XM := (⟨"java/lang/String", "isLatin1", "()Z"⟩, prog_17_method_154_code, 1, some .boolean, 15, 115, 0, 0, 0, false, xg22)
def xc23_0 : List (Nat × Instr × Nat) := [(0, .iload_n 1, 1), (1, .aload_n 0, 1), (2, .arraylength, 1), (3, .invokestatic 9, 3), (6, .aload_n 0, 1), (7, .iload_n 1, 1), (8, .baload, 1), (9, .sipush 255, 3), (12, .iand, 1), (13, .i2c, 1), (14, .ireturn, 1)]
theorem xo23_0 : x_cOk prog_18_method_2_code xc23_0 = true := x_cOk_w (by decide +kernel)
def xg23 : Nat → Option (Instr × Nat) := fun pc => x_at2 pc xc23_0
theorem xh23 : x_Good prog_18_method_2_code xg23 := by
  unfold xg23
  exact x_Good_l xo23_0
def xm23 : XM := (⟨"java/lang/StringLatin1", "charAt", "([BI)C"⟩, prog_18_method_2_code, 2, some .char, 16, 116, 2, 0, 0, false, xg23)
def xc24_0 : List (Nat × Instr × Nat) := [(0, .iload_n 0, 1), (1, .iload_n 1, 1), (2, .getstatic 1053, 3), (5, .invokestatic 1059, 3), (8, .pop, 1), (9, .return_, 1)]
theorem xo24_0 : x_cOk prog_17_method_155_code xc24_0 = true := x_cOk_w (by decide +kernel)
def xg24 : Nat → Option (Instr × Nat) := fun pc => x_at2 pc xc24_0
theorem xh24 : x_Good prog_17_method_155_code xg24 := by
  unfold xg24
  exact x_Good_l xo24_0
def xm24 : XM := (⟨"java/lang/String", "checkIndex", "(II)V"⟩, prog_17_method_155_code, 2, none, 15, 115, 2, 0, 0, false, xg24)
def xc25_0 : List (Nat × Instr × Nat) := [(0, .iload_n 0, 1), (1, .ifCond .lt 8, 3), (4, .iload_n 0, 1), (5, .iload_n 1, 1), (6, .if_icmp .lt 10, 3), (9, .aload_n 2, 1), (10, .iload_n 0, 1), (11, .iload_n 1, 1), (12, .invokestatic 95, 3), (15, .athrow, 1), (16, .iload_n 0, 1), (17, .ireturn, 1)]
theorem xo25_0 : x_cOk prog_21_method_11_code xc25_0 = true := x_cOk_w (by decide +kernel)
def xg25 : Nat → Option (Instr × Nat) := fun pc => x_at2 pc xc25_0
theorem xh25 : x_Good prog_21_method_11_code xg25 := by
  unfold xg25
  exact x_Good_l xo25_0
def xm25 : XM := (⟨"jdk/internal/util/Preconditions", "checkIndex", "(IILjava/util/function/BiFunction;)I"⟩, prog_21_method_11_code, 3, some .int, 18, 118, 3, 0, 0, false, xg25)
def xc26_0 : List (Nat × Instr × Nat) := [(0, .iload_n 1, 1), (1, .aload_n 0, 1), (2, .invokestatic 67, 3), (5, .aload_n 0, 1), (6, .iload_n 1, 1), (7, .invokestatic 71, 3), (10, .ireturn, 1)]
theorem xo26_0 : x_cOk prog_19_method_83_code xc26_0 = true := x_cOk_w (by decide +kernel)
def xg26 : Nat → Option (Instr × Nat) := fun pc => x_at2 pc xc26_0
theorem xh26 : x_Good prog_19_method_83_code xg26 := by
  unfold xg26
  exact x_Good_l xo26_0
def xm26 : XM := (⟨"java/lang/StringUTF16", "charAt", "([BI)C"⟩, prog_19_method_83_code, 2, some .char, 17, 117, 2, 0, 0, false, xg26)
def xc27_0 : List (Nat × Instr × Nat) := [(0, .iload_n 0, 1), (1, .aload_n 1, 1), (2, .invokestatic 48, 3), (5, .invokestatic 414, 3), (8, .return_, 1)]
theorem xo27_0 : x_cOk prog_19_method_91_code xc27_0 = true := x_cOk_w (by decide +kernel)
def xg27 : Nat → Option (Instr × Nat) := fun pc => x_at2 pc xc27_0
theorem xh27 : x_Good prog_19_method_91_code xg27 := by
  unfold xg27
  exact x_Good_l xo27_0
def xm27 : XM := (⟨"java/lang/StringUTF16", "checkIndex", "(I[B)V"⟩, prog_19_method_91_code, 2, none, 17, 117, 2, 0, 0, false, xg27)
def xc28_0 : List (Nat × Instr × Nat) := [(0, .aload_n 0, 1), (1, .arraylength, 1), (2, .iconst 1, 1), (3, .ishr, 1), (4, .ireturn, 1)]
theorem xo28_0 : x_cOk prog_19_method_6_code xc28_0 = true := x_cOk_w (by decide +kernel)
def xg28 : Nat → Option (Instr × Nat) := fun pc => x_at2 pc xc28_0
theorem xh28 : x_Good prog_19_method_6_code xg28 := by
  unfold xg28
  exact x_Good_l xo28_0
def xm28 : XM := (⟨"java/lang/StringUTF16", "length", "([B)I"⟩, prog_19_method_6_code, 1, some .int, 17, 117, 1, 0, 0, false, xg28)
def xc29_0 : List (Nat × Instr × Nat) := [(0, .getstatic 44, 3), (3, .ifCond .ne 25, 3), (6, .iload_n 1, 1), (7, .ifCond .lt 11, 3), (10, .iload_n 1, 1), (11, .aload_n 0, 1), (12, .invokestatic 48, 3), (15, .if_icmp .lt 13, 3), (18, .new 52, 3), (21, .dup, 1), (22, .ldc 54, 2), (24, .invokespecial 56, 3), (27, .athrow, 1), (28, .iload_n 1, 1), (29, .iconst 1, 1), (30, .ishl, 1), (31, .istore_n 1, 1), (32, .aload_n 0, 1), (33, .iload_n 1, 1), (34, .iinc 1 1, 3), (37, .baload, 1), (38, .sipush 255, 3), (41, .iand, 1), (42, .getstatic 59, 3), (45, .ishl, 1), (46, .aload_n 0, 1), (47, .iload_n 1, 1), (48, .baload, 1), (49, .sipush 255, 3), (52, .iand, 1), (53, .getstatic 63, 3), (56, .ishl, 1), (57, .ior, 1), (58, .i2c, 1), (59, .ireturn, 1)]
theorem xo29_0 : x_cOk prog_19_method_5_code xc29_0 = true := x_cOk_w (by decide +kernel)
def xg29 : Nat → Option (Instr × Nat) := fun pc => x_at2 pc xc29_0
theorem xh29 : x_Good prog_19_method_5_code xg29 := by
  unfold xg29
  exact x_Good_l xo29_0
def xm29 : XM := (⟨"java/lang/StringUTF16", "getChar", "([BI)C"⟩, prog_19_method_5_code, 2, some .char, 17, 117, 2, 0, 0, false, xg29)
def xc30_0 : List (Nat × Instr × Nat) := [(0, .iload_n 0, 1), (1, .iload_n 1, 1), (2, .if_icmp .lt 7, 3), (5, .iload_n 0, 1), (6, .goto 4, 3), (9, .iload_n 1, 1), (10, .ireturn, 1)]
theorem xo30_0 : x_cOk prog_16_method_65_code xc30_0 = true := x_cOk_w (by decide +kernel)
def xg30 : Nat → Option (Instr × Nat) := fun pc => x_at2 pc xc30_0
theorem xh30 : x_Good prog_16_method_65_code xg30 := by
  unfold xg30
  exact x_Good_l xo30_0
def xm30 : XM := (⟨"java/lang/Math", "max", "(II)I"⟩, prog_16_method_65_code, 2, some .int, 14, 114, 2, 0, 0, false, xg30)
def xc31_0 : List (Nat × Instr × Nat) := [(0, .aload_n 0, 1), (1, .bipush 32, 2), (3, .invokevirtual 29, 3), (6, .ifCond .eq 10, 3), (9, .aload_n 0, 1), (10, .invokevirtual 79, 3), (13, .ifCond .ne 5, 3), (16, .iconst (-1), 1), (17, .ireturn, 1), (18, .iconst (-1), 1), (19, .istore_n 1, 1), (20, .aload_n 0, 1), (21, .bipush 60, 2), (23, .invokevirtual 29, 3), (26, .ifCond .eq 9, 3), (29, .bipush 7, 2), (31, .istore_n 1, 1), (32, .goto 15, 3), (35, .aload_n 0, 1), (36, .bipush 61, 2), (38, .invokevirtual 29, 3), (41, .ifCond .eq 6, 3), (44, .bipush 11, 2), (46, .istore_n 1, 1), (47, .iload_n 1, 1), (48, .iconst (-1), 1), (49, .if_icmp .eq 31, 3), (52, .aload_n 0, 1), (53, .invokevirtual 86, 3), (56, .ifCond .eq 24, 3), (59, .aload_n 0, 1), (60, .bipush 32, 2), (62, .invokevirtual 29, 3), (65, .ifCond .eq 15, 3), (68, .aload_n 0, 1), (69, .iconst 2, 1), (70, .invokevirtual 83, 3), (73, .ifCond .eq 7, 3), (76, .iload_n 1, 1), (77, .goto 4, 3), (80, .iconst (-1), 1), (81, .ireturn, 1)]
theorem xo31_0 : x_cOk prog_11_method_8_code xc31_0 = true := x_cOk_w (by decide +kernel)
def xg31 : Nat → Option (Instr × Nat) := fun pc => x_at2 pc xc31_0
theorem xh31 : x_Good prog_11_method_8_code xg31 := by
  unfold xg31
  exact x_Good_l xo31_0
def xm31 : XM := (⟨"TwoDigits$Tape", "readCondition", "()I"⟩, prog_11_method_8_code, 2, some .int, 1, 1, 0, 0, 0, false, xg31)
def xc32_0 : List (Nat × Instr × Nat) := [(0, .aload_n 0, 1), (1, .getfield 19, 3), (4, .aload_n 0, 1), (5, .getfield 15, 3), (8, .if_icmp .ge 16, 3), (11, .aload_n 0, 1), (12, .getfield 11, 3), (15, .aload_n 0, 1), (16, .getfield 19, 3), (19, .iaload, 1), (20, .iload_n 1, 1), (21, .if_icmp .eq 5, 3), (24, .iconst 0, 1), (25, .ireturn, 1), (26, .aload_n 0, 1), (27, .dup, 1), (28, .getfield 19, 3), (31, .iconst 1, 1), (32, .iadd, 1), (33, .putfield 19, 3), (36, .iconst 1, 1), (37, .ireturn, 1)]
theorem xo32_0 : x_cOk prog_11_method_9_code xc32_0 = true := x_cOk_w (by decide +kernel)
def xg32 : Nat → Option (Instr × Nat) := fun pc => x_at2 pc xc32_0
theorem xh32 : x_Good prog_11_method_9_code xg32 := by
  unfold xg32
  exact x_Good_l xo32_0
def xm32 : XM := (⟨"TwoDigits$Tape", "skip", "(I)Z"⟩, prog_11_method_9_code, 2, some .boolean, 1, 1, 1, 0, 0, false, xg32)
def xc33_0 : List (Nat × Instr × Nat) := [(0, .aload_n 0, 1), (1, .aload_n 0, 1), (2, .invokevirtual 89, 3), (5, .putfield 33, 3), (8, .aload_n 0, 1), (9, .getfield 33, 3), (12, .iconst (-1), 1), (13, .if_icmp .eq 7, 3), (16, .iconst 1, 1), (17, .goto 4, 3), (20, .iconst 0, 1), (21, .ireturn, 1)]
theorem xo33_0 : x_cOk prog_11_method_10_code xc33_0 = true := x_cOk_w (by decide +kernel)
def xg33 : Nat → Option (Instr × Nat) := fun pc => x_at2 pc xc33_0
theorem xh33 : x_Good prog_11_method_10_code xg33 := by
  unfold xg33
  exact x_Good_l xo33_0
def xm33 : XM := (⟨"TwoDigits$Tape", "readLeft", "()Z"⟩, prog_11_method_10_code, 1, some .boolean, 1, 1, 0, 0, 0, false, xg33)
def xc34_0 : List (Nat × Instr × Nat) := [(0, .aload_n 0, 1), (1, .getfield 19, 3), (4, .aload_n 0, 1), (5, .getfield 15, 3), (8, .if_icmp .ge 22, 3), (11, .aload_n 0, 1), (12, .getfield 11, 3), (15, .aload_n 0, 1), (16, .getfield 19, 3), (19, .iaload, 1), (20, .bipush 97, 2), (22, .bipush 102, 2), (24, .invokestatic 92, 3), (27, .ifCond .ne 5, 3), (30, .iconst (-1), 1), (31, .ireturn, 1), (32, .aload_n 0, 1), (33, .dup, 1), (34, .getfield 19, 3), (37, .iconst 1, 1), (38, .iadd, 1), (39, .putfield 19, 3), (42, .aload_n 0, 1), (43, .getfield 11, 3), (46, .aload_n 0, 1), (47, .getfield 19, 3), (50, .iconst 1, 1), (51, .isub, 1), (52, .iaload, 1), (53, .bipush 97, 2), (55, .isub, 1), (56, .ireturn, 1)]
theorem xo34_0 : x_cOk prog_11_method_12_code xc34_0 = true := x_cOk_w (by decide +kernel)
def xg34 : Nat → Option (Instr × Nat) := fun pc => x_at2 pc xc34_0
theorem xh34 : x_Good prog_11_method_12_code xg34 := by
  unfold xg34
  exact x_Good_l xo34_0
def xm34 : XM := (⟨"TwoDigits$Tape", "readLetter", "()I"⟩, prog_11_method_12_code, 1, some .int, 1, 1, 0, 0, 0, false, xg34)
def xc35_0 : List (Nat × Instr × Nat) := [(0, .iload_n 0, 1), (1, .iload_n 1, 1), (2, .if_icmp .lt 12, 3), (5, .iload_n 0, 1), (6, .iload_n 2, 1), (7, .if_icmp .gt 7, 3), (10, .iconst 1, 1), (11, .goto 4, 3), (14, .iconst 0, 1), (15, .ireturn, 1)]
theorem xo35_0 : x_cOk prog_1_method_63_code xc35_0 = true := x_cOk_w (by decide +kernel)
def xg35 : Nat → Option (Instr × Nat) := fun pc => x_at2 pc xc35_0
theorem xh35 : x_Good prog_1_method_63_code xg35 := by
  unfold xg35
  exact x_Good_l xo35_0
def xm35 : XM := (⟨"TwoDigits", "isWithin", "(III)Z"⟩, prog_1_method_63_code, 3, some .boolean, 0, 0, 3, 0, 0, false, xg35)
def xc36_0 : List (Nat × Instr × Nat) := [(0, .aload_n 0, 1), (1, .aload_n 0, 1), (2, .invokevirtual 89, 3), (5, .putfield 36, 3), (8, .aload_n 0, 1), (9, .getfield 36, 3), (12, .iconst (-1), 1), (13, .if_icmp .eq 7, 3), (16, .iconst 1, 1), (17, .goto 4, 3), (20, .iconst 0, 1), (21, .ireturn, 1)]
theorem xo36_0 : x_cOk prog_11_method_11_code xc36_0 = true := x_cOk_w (by decide +kernel)
def xg36 : Nat → Option (Instr × Nat) := fun pc => x_at2 pc xc36_0
theorem xh36 : x_Good prog_11_method_11_code xg36 := by
  unfold xg36
  exact x_Good_l xo36_0
def xm36 : XM := (⟨"TwoDigits$Tape", "readRight", "()Z"⟩, prog_11_method_11_code, 1, some .boolean, 1, 1, 0, 0, 0, false, xg36)
def xc37_0 : List (Nat × Instr × Nat) := [(0, .aload_n 0, 1), (1, .iconst 0, 1), (2, .putfield 39, 3), (5, .iconst 0, 1), (6, .istore_n 2, 1), (7, .iload_n 2, 1), (8, .iload_n 1, 1), (9, .if_icmp .ge 73, 3), (12, .aload_n 0, 1), (13, .getfield 19, 3), (16, .aload_n 0, 1), (17, .getfield 15, 3), (20, .if_icmp .ge 62, 3), (23, .aload_n 0, 1), (24, .getfield 11, 3), (27, .aload_n 0, 1), (28, .getfield 19, 3), (31, .iaload, 1), (32, .bipush 48, 2), (34, .bipush 57, 2), (36, .invokestatic 92, 3), (39, .ifCond .eq 43, 3), (42, .aload_n 0, 1), (43, .aload_n 0, 1), (44, .getfield 39, 3), (47, .bipush 10, 2), (49, .imul, 1), (50, .aload_n 0, 1), (51, .getfield 11, 3), (54, .aload_n 0, 1), (55, .getfield 19, 3), (58, .iaload, 1), (59, .iadd, 1), (60, .bipush 48, 2), (62, .isub, 1), (63, .putfield 39, 3), (66, .iinc 2 1, 3), (69, .aload_n 0, 1), (70, .dup, 1), (71, .getfield 19, 3), (74, .iconst 1, 1), (75, .iadd, 1), (76, .putfield 19, 3), (79, .goto (-72), 3), (82, .iload_n 2, 1), (83, .ifCond .le 7, 3), (86, .iconst 1, 1), (87, .goto 4, 3)]
theorem xo37_0 : x_cOk prog_11_method_13_code xc37_0 = true := x_cOk_w (by decide +kernel)
def xc37_1 : List (Nat × Instr × Nat) := [(90, .iconst 0, 1), (91, .ireturn, 1)]
theorem xo37_1 : x_cOk prog_11_method_13_code xc37_1 = true := x_cOk_w (by decide +kernel)
def xg37 : Nat → Option (Instr × Nat) := fun pc => if pc < 90 then x_at2 pc xc37_0 else x_at2 pc xc37_1
theorem xh37 : x_Good prog_11_method_13_code xg37 := by
  unfold xg37
  exact x_Good_ite (x_Good_l xo37_0) (x_Good_l xo37_1)
def xm37 : XM := (⟨"TwoDigits$Tape", "readNumber", "(I)Z"⟩, prog_11_method_13_code, 3, some .boolean, 1, 1, 1, 0, 0, false, xg37)
def xc38_0 : List (Nat × Instr × Nat) := [(0, .iload_n 1, 1), (1, .tableswitch 216 0 9 #[55, 55, 55, 77, 116, 116, 116, 216, 154, 193], 55), (56, .aload_n 0, 1), (57, .bipush 32, 2), (59, .invokevirtual 29, 3), (62, .ifCond .eq 14, 3), (65, .aload_n 0, 1), (66, .invokevirtual 79, 3), (69, .ifCond .eq 7, 3), (72, .iconst 1, 1), (73, .goto 4, 3), (76, .iconst 0, 1), (77, .ireturn, 1), (78, .aload_n 0, 1), (79, .bipush 32, 2), (81, .invokevirtual 29, 3), (84, .ifCond .eq 31, 3), (87, .aload_n 0, 1), (88, .invokevirtual 79, 3), (91, .ifCond .eq 24, 3), (94, .aload_n 0, 1), (95, .bipush 32, 2), (97, .invokevirtual 29, 3), (100, .ifCond .eq 15, 3), (103, .aload_n 0, 1), (104, .iconst 4, 1), (105, .invokevirtual 83, 3), (108, .ifCond .eq 7, 3), (111, .iconst 1, 1), (112, .goto 4, 3), (115, .iconst 0, 1), (116, .ireturn, 1), (117, .aload_n 0, 1), (118, .bipush 32, 2), (120, .invokevirtual 29, 3), (123, .ifCond .eq 30, 3), (126, .aload_n 0, 1), (127, .invokevirtual 79, 3), (130, .ifCond .eq 23, 3), (133, .aload_n 0, 1), (134, .bipush 32, 2), (136, .invokevirtual 29, 3), (139, .ifCond .eq 14, 3), (142, .aload_n 0, 1), (143, .invokevirtual 86, 3), (146, .ifCond .eq 7, 3), (149, .iconst 1, 1), (150, .goto 4, 3)]
theorem xo38_0 : x_cOk prog_11_method_7_code xc38_0 = true := x_cOk_w (by decide +kernel)
def xc38_1 : List (Nat × Instr × Nat) := [(153, .iconst 0, 1), (154, .ireturn, 1), (155, .aload_n 0, 1), (156, .bipush 32, 2), (158, .invokevirtual 29, 3), (161, .ifCond .eq 31, 3), (164, .aload_n 0, 1), (165, .invokevirtual 79, 3), (168, .ifCond .eq 24, 3), (171, .aload_n 0, 1), (172, .bipush 32, 2), (174, .invokevirtual 29, 3), (177, .ifCond .eq 15, 3), (180, .aload_n 0, 1), (181, .iconst 2, 1), (182, .invokevirtual 83, 3), (185, .ifCond .eq 7, 3), (188, .iconst 1, 1), (189, .goto 4, 3), (192, .iconst 0, 1), (193, .ireturn, 1), (194, .aload_n 0, 1), (195, .bipush 32, 2), (197, .invokevirtual 29, 3), (200, .ifCond .eq 15, 3), (203, .aload_n 0, 1), (204, .iconst 2, 1), (205, .invokevirtual 83, 3), (208, .ifCond .eq 7, 3), (211, .iconst 1, 1), (212, .goto 4, 3), (215, .iconst 0, 1), (216, .ireturn, 1), (217, .iconst 1, 1), (218, .ireturn, 1)]
theorem xo38_1 : x_cOk prog_11_method_7_code xc38_1 = true := x_cOk_w (by decide +kernel)
def xg38 : Nat → Option (Instr × Nat) := fun pc => if pc < 153 then x_at2 pc xc38_0 else x_at2 pc xc38_1
theorem xh38 : x_Good prog_11_method_7_code xg38 := by
  unfold xg38
  exact x_Good_ite (x_Good_l xo38_0) (x_Good_l xo38_1)
def xm38 : XM := (⟨"TwoDigits$Tape", "readParts", "(I)Z"⟩, prog_11_method_7_code, 2, some .boolean, 1, 1, 1, 0, 0, false, xg38)
def xc39_0 : List (Nat × Instr × Nat) := [(0, .aload_n 0, 1), (1, .getfield 44, 3), (4, .bipush 12, 2), (6, .if_icmp .lt 5, 3), (9, .iconst 0, 1), (10, .ireturn, 1), (11, .aload_n 0, 1), (12, .getfield 9, 3), (15, .aload_n 0, 1), (16, .getfield 44, 3), (19, .iload_n 1, 1), (20, .iastore, 1), (21, .aload_n 0, 1), (22, .getfield 13, 3), (25, .aload_n 0, 1), (26, .getfield 44, 3), (29, .iload_n 2, 1), (30, .iastore, 1), (31, .aload_n 0, 1), (32, .getfield 16, 3), (35, .aload_n 0, 1), (36, .getfield 44, 3), (39, .iload_n 3, 1), (40, .iastore, 1), (41, .aload_n 0, 1), (42, .getfield 19, 3), (45, .aload_n 0, 1), (46, .getfield 44, 3), (49, .iload 4, 2), (51, .iastore, 1), (52, .aload_n 0, 1), (53, .dup, 1), (54, .getfield 44, 3), (57, .iconst 1, 1), (58, .iadd, 1), (59, .putfield 44, 3), (62, .iconst 1, 1), (63, .ireturn, 1)]
theorem xo39_0 : x_cOk prog_3_method_3_code xc39_0 = true := x_cOk_w (by decide +kernel)
def xg39 : Nat → Option (Instr × Nat) := fun pc => x_at2 pc xc39_0
theorem xh39 : x_Good prog_3_method_3_code xg39 := by
  unfold xg39
  exact x_Good_l xo39_0
def xm39 : XM := (⟨"TwoDigits$Code", "add", "(IIII)Z"⟩, prog_3_method_3_code, 5, some .boolean, 2, 2, 4, 0, 0, false, xg39)
def xc40_0 : List (Nat × Instr × Nat) := [(0, .aload_n 0, 1), (1, .invokespecial 3, 3), (4, .aload_n 0, 1), (5, .new 9, 3), (8, .dup, 1), (9, .iconst 0, 1), (10, .invokespecial 11, 3), (13, .putfield 14, 3), (16, .aload_n 0, 1), (17, .new 20, 3), (20, .dup, 1), (21, .invokespecial 22, 3), (24, .putfield 23, 3), (27, .aload_n 0, 1), (28, .new 20, 3), (31, .dup, 1), (32, .invokespecial 22, 3), (35, .putfield 27, 3), (38, .aload_n 0, 1), (39, .new 20, 3), (42, .dup, 1), (43, .invokespecial 22, 3), (46, .putfield 30, 3), (49, .aload_n 0, 1), (50, .new 20, 3), (53, .dup, 1), (54, .invokespecial 22, 3), (57, .putfield 33, 3), (60, .aload_n 0, 1), (61, .new 20, 3), (64, .dup, 1), (65, .invokespecial 22, 3), (68, .putfield 36, 3), (71, .aload_n 0, 1), (72, .iconst (-1), 1), (73, .putfield 39, 3), (76, .aload_n 0, 1), (77, .iconst 0, 1), (78, .putfield 43, 3), (81, .aload_n 0, 1), (82, .iconst 0, 1), (83, .putfield 46, 3), (86, .aload_n 0, 1), (87, .iconst 1, 1), (88, .putfield 49, 3), (91, .aload_n 0, 1), (92, .iconst 1, 1), (93, .putfield 52, 3)]
theorem xo40_0 : x_cOk prog_5_method_1_code xc40_0 = true := x_cOk_w (by decide +kernel)
def xc40_1 : List (Nat × Instr × Nat) := [(96, .aload_n 0, 1), (97, .iconst (-1), 1), (98, .putfield 55, 3), (101, .aload_n 0, 1), (102, .iconst (-1), 1), (103, .putfield 58, 3), (106, .aload_n 0, 1), (107, .iconst (-1), 1), (108, .putfield 61, 3), (111, .aload_n 0, 1), (112, .iconst (-1), 1), (113, .putfield 64, 3), (116, .aload_n 0, 1), (117, .iconst (-1), 1), (118, .putfield 67, 3), (121, .aload_n 0, 1), (122, .aload_n 1, 1), (123, .putfield 70, 3), (126, .return_, 1)]
theorem xo40_1 : x_cOk prog_5_method_1_code xc40_1 = true := x_cOk_w (by decide +kernel)
def xg40 : Nat → Option (Instr × Nat) := fun pc => if pc < 96 then x_at2 pc xc40_0 else x_at2 pc xc40_1
theorem xh40 : x_Good prog_5_method_1_code xg40 := by
  unfold xg40
  exact x_Good_ite (x_Good_l xo40_0) (x_Good_l xo40_1)
def xm40 : XM := (⟨"TwoDigits$Program", "<init>", "(LTwoDigits$Code;)V"⟩, prog_5_method_1_code, 2, none, 10, 10, 1, 13, 86, true, xg40)
def xc41_0 : List (Nat × Instr × Nat) := [(0, .aload_n 0, 1), (1, .iload_n 1, 1), (2, .invokevirtual 117, 3), (5, .astore_n 3, 1), (6, .aload_n 3, 1), (7, .ifnonnull 6, 3), (10, .bipush (-5), 2), (12, .ireturn, 1), (13, .iload_n 2, 1), (14, .tableswitch 133 0 10 #[58, 63, 68, 76, 84, 92, 100, 105, 110, 115, 120], 58), (72, .aload_n 3, 1), (73, .getfield 121, 3), (76, .ireturn, 1), (77, .aload_n 3, 1), (78, .getfield 124, 3), (81, .ireturn, 1), (82, .aload_n 3, 1), (83, .getfield 127, 3), (86, .getfield 130, 3), (89, .ireturn, 1), (90, .aload_n 3, 1), (91, .getfield 133, 3), (94, .getfield 136, 3), (97, .ireturn, 1), (98, .aload_n 3, 1), (99, .getfield 137, 3), (102, .getfield 141, 3), (105, .ireturn, 1), (106, .aload_n 3, 1), (107, .getfield 144, 3), (110, .getfield 141, 3), (113, .ireturn, 1), (114, .aload_n 3, 1), (115, .getfield 147, 3), (118, .ireturn, 1), (119, .aload_n 3, 1), (120, .getfield 150, 3), (123, .ireturn, 1), (124, .aload_n 3, 1), (125, .getfield 153, 3), (128, .ireturn, 1), (129, .aload_n 3, 1), (130, .getfield 156, 3), (133, .ireturn, 1), (134, .aload_n 3, 1), (135, .getfield 159, 3), (138, .ifCond .eq 7, 3), (141, .iconst 1, 1)]
theorem xo41_0 : x_cOk prog_1_method_4_code xc41_0 = true := x_cOk_w (by decide +kernel)
def xc41_1 : List (Nat × Instr × Nat) := [(142, .goto 4, 3), (145, .iconst 0, 1), (146, .ireturn, 1), (147, .bipush (-5), 2), (149, .ireturn, 1)]
theorem xo41_1 : x_cOk prog_1_method_4_code xc41_1 = true := x_cOk_w (by decide +kernel)
def xg41 : Nat → Option (Instr × Nat) := fun pc => if pc < 142 then x_at2 pc xc41_0 else x_at2 pc xc41_1
theorem xh41 : x_Good prog_1_method_4_code xg41 := by
  unfold xg41
  exact x_Good_ite (x_Good_l xo41_0) (x_Good_l xo41_1)
def xm41 : XM := (⟨"TwoDigits", "programOf", "(II)I"⟩, prog_1_method_4_code, 4, some .int, 0, 0, 2, 0, 0, false, xg41)
def xc42_0 : List (Nat × Instr × Nat) := [(0, .iload_n 1, 1), (1, .ifCond .lt 20, 3), (4, .iload_n 1, 1), (5, .aload_n 0, 1), (6, .getfield 107, 3), (9, .if_icmp .ge 12, 3), (12, .aload_n 0, 1), (13, .getfield 25, 3), (16, .iload_n 1, 1), (17, .aaload, 1), (18, .goto 4, 3), (21, .aconst_null, 1), (22, .areturn, 1)]
theorem xo42_0 : x_cOk prog_1_method_60_code xc42_0 = true := x_cOk_w (by decide +kernel)
def xg42 : Nat → Option (Instr × Nat) := fun pc => x_at2 pc xc42_0
theorem xh42 : x_Good prog_1_method_60_code xg42 := by
  unfold xg42
  exact x_Good_l xo42_0
def xm42 : XM := (⟨"TwoDigits", "programAt", "(I)LTwoDigits$Program;"⟩, prog_1_method_60_code, 2, some (.object "TwoDigits$Program"), 0, 0, 1, 0, 0, false, xg42)
def xc43_0 : List (Nat × Instr × Nat) := [(0, .aload_n 0, 1), (1, .iload_n 1, 1), (2, .invokevirtual 117, 3), (5, .astore 4, 2), (7, .aload 4, 2), (9, .ifnull 10, 3), (12, .iload_n 2, 1), (13, .invokestatic 163, 3), (16, .ifCond .ne 6, 3), (19, .bipush (-5), 2), (21, .ireturn, 1), (22, .iload_n 3, 1), (23, .tableswitch 55 0 2 #[25, 36, 47], 25), (48, .aload 4, 2), (50, .getfield 127, 3), (53, .getfield 167, 3), (56, .iload_n 2, 1), (57, .iaload, 1), (58, .ireturn, 1), (59, .aload 4, 2), (61, .getfield 127, 3), (64, .getfield 171, 3), (67, .iload_n 2, 1), (68, .iaload, 1), (69, .ireturn, 1), (70, .aload_n 0, 1), (71, .aload 4, 2), (73, .iload_n 2, 1), (74, .invokevirtual 174, 3), (77, .ireturn, 1), (78, .bipush (-5), 2), (80, .ireturn, 1)]
theorem xo43_0 : x_cOk prog_1_method_5_code xc43_0 = true := x_cOk_w (by decide +kernel)
def xg43 : Nat → Option (Instr × Nat) := fun pc => x_at2 pc xc43_0
theorem xh43 : x_Good prog_1_method_5_code xg43 := by
  unfold xg43
  exact x_Good_l xo43_0
def xm43 : XM := (⟨"TwoDigits", "field", "(III)I"⟩, prog_1_method_5_code, 5, some .int, 0, 0, 3, 0, 0, false, xg43)
def xc44_0 : List (Nat × Instr × Nat) := [(0, .iload_n 0, 1), (1, .iconst 0, 1), (2, .iconst 5, 1), (3, .invokestatic 178, 3), (6, .ireturn, 1)]
theorem xo44_0 : x_cOk prog_1_method_67_code xc44_0 = true := x_cOk_w (by decide +kernel)
def xg44 : Nat → Option (Instr × Nat) := fun pc => x_at2 pc xc44_0
theorem xh44 : x_Good prog_1_method_67_code xg44 := by
  unfold xg44
  exact x_Good_l xo44_0
def xm44 : XM := (⟨"TwoDigits", "isField", "(I)Z"⟩, prog_1_method_67_code, 1, some .boolean, 0, 0, 1, 0, 0, false, xg44)
def xc45_0 : List (Nat × Instr × Nat) := [(0, .aload_n 0, 1), (1, .invokevirtual 469, 3), (4, .aload_n 1, 1), (5, .getfield 472, 3), (8, .iload_n 2, 1), (9, .invokestatic 247, 3), (12, .ifCond .eq 5, 3), (15, .iconst 1, 1), (16, .ireturn, 1), (17, .aload_n 1, 1), (18, .getfield 133, 3), (21, .aload_n 1, 1), (22, .getfield 472, 3), (25, .invokevirtual 475, 3), (28, .iload_n 2, 1), (29, .invokestatic 247, 3), (32, .ifCond .eq 7, 3), (35, .iconst 2, 1), (36, .goto 4, 3), (39, .iconst 0, 1), (40, .ireturn, 1)]
theorem xo45_0 : x_cOk prog_1_method_77_code xc45_0 = true := x_cOk_w (by decide +kernel)
def xg45 : Nat → Option (Instr × Nat) := fun pc => x_at2 pc xc45_0
theorem xh45 : x_Good prog_1_method_77_code xg45 := by
  unfold xg45
  exact x_Good_l xo45_0
def xm45 : XM := (⟨"TwoDigits", "yearIn", "(LTwoDigits$Program;I)I"⟩, prog_1_method_77_code, 3, some .int, 0, 0, 2, 0, 0, false, xg45)
def xc46_0 : List (Nat × Instr × Nat) := [(0, .iconst 0, 1), (1, .istore_n 1, 1), (2, .iload_n 1, 1), (3, .aload_n 0, 1), (4, .getfield 107, 3), (7, .if_icmp .ge 19, 3), (10, .aload_n 0, 1), (11, .getfield 25, 3), (14, .iload_n 1, 1), (15, .aaload, 1), (16, .iconst 0, 1), (17, .putfield 472, 3), (20, .iinc 1 1, 3), (23, .goto (-21), 3), (26, .iconst 1, 1), (27, .istore_n 1, 1), (28, .iconst 0, 1), (29, .istore_n 2, 1), (30, .iload_n 1, 1), (31, .ifCond .eq 124, 3), (34, .iload_n 2, 1), (35, .bipush 72, 2), (37, .if_icmp .gt 118, 3), (40, .iconst 0, 1), (41, .istore_n 1, 1), (42, .iconst 0, 1), (43, .istore_n 3, 1), (44, .iload_n 3, 1), (45, .aload_n 0, 1), (46, .getfield 107, 3), (49, .if_icmp .ge 100, 3), (52, .aload_n 0, 1), (53, .getfield 25, 3), (56, .iload_n 3, 1), (57, .aaload, 1), (58, .astore 4, 2), (60, .aload_n 0, 1), (61, .aload 4, 2), (63, .getfield 124, 3), (66, .invokevirtual 117, 3), (69, .astore 5, 2), (71, .aload 5, 2), (73, .ifnull 23, 3), (76, .aload 5, 2), (78, .getfield 133, 3), (81, .aload 5, 2), (83, .getfield 472, 3), (86, .invokevirtual 478, 3)]
theorem xo46_0 : x_cOk prog_1_method_78_code xc46_0 = true := x_cOk_w (by decide +kernel)
def xc46_1 : List (Nat × Instr × Nat) := [(89, .ifCond .eq 7, 3), (92, .iconst 1, 1), (93, .goto 4, 3), (96, .iconst 0, 1), (97, .istore 6, 2), (99, .aload 4, 2), (101, .getfield 133, 3), (104, .aload 4, 2), (106, .getfield 472, 3), (109, .iload 6, 2), (111, .invokevirtual 481, 3), (114, .istore 7, 2), (116, .iload_n 1, 1), (117, .ifCond .ne 13, 3), (120, .iload 7, 2), (122, .aload 4, 2), (124, .getfield 472, 3), (127, .if_icmp .eq 7, 3), (130, .iconst 1, 1), (131, .goto 4, 3), (134, .iconst 0, 1), (135, .istore_n 1, 1), (136, .aload 4, 2), (138, .iload 7, 2), (140, .putfield 472, 3), (143, .iinc 3 1, 3), (146, .goto (-102), 3), (149, .iinc 2 1, 3), (152, .goto (-122), 3), (155, .return_, 1)]
theorem xo46_1 : x_cOk prog_1_method_78_code xc46_1 = true := x_cOk_w (by decide +kernel)
def xg46 : Nat → Option (Instr × Nat) := fun pc => if pc < 89 then x_at2 pc xc46_0 else x_at2 pc xc46_1
theorem xh46 : x_Good prog_1_method_78_code xg46 := by
  unfold xg46
  exact x_Good_ite (x_Good_l xo46_0) (x_Good_l xo46_1)
def xm46 : XM := (⟨"TwoDigits", "findSure", "()V"⟩, prog_1_method_78_code, 8, none, 0, 0, 0, 0, 0, false, xg46)
def xc47_0 : List (Nat × Instr × Nat) := [(0, .iconst 0, 1), (1, .istore_n 2, 1), (2, .iload_n 2, 1), (3, .aload_n 0, 1), (4, .getfield 44, 3), (7, .if_icmp .ge 34, 3), (10, .aload_n 0, 1), (11, .getfield 9, 3), (14, .iload_n 2, 1), (15, .iaload, 1), (16, .iconst 2, 1), (17, .if_icmp .ne 18, 3), (20, .iload_n 1, 1), (21, .aload_n 0, 1), (22, .getfield 13, 3), (25, .iload_n 2, 1), (26, .iaload, 1), (27, .invokestatic 48, 3), (30, .ifCond .eq 5, 3), (33, .iconst 1, 1), (34, .ireturn, 1), (35, .iinc 2 1, 3), (38, .goto (-36), 3), (41, .iconst 0, 1), (42, .ireturn, 1)]
theorem xo47_0 : x_cOk prog_3_method_5_code xc47_0 = true := x_cOk_w (by decide +kernel)
def xg47 : Nat → Option (Instr × Nat) := fun pc => x_at2 pc xc47_0
theorem xh47 : x_Good prog_3_method_5_code xg47 := by
  unfold xg47
  exact x_Good_l xo47_0
def xm47 : XM := (⟨"TwoDigits$Code", "writesAny", "(I)Z"⟩, prog_3_method_5_code, 3, some .boolean, 2, 2, 1, 0, 0, false, xg47)
end XCode1
end
section
/-! Instructions, by program: part 2. -/
section XCode2
def xc48_0 : List (Nat × Instr × Nat) := [(0, .iload_n 1, 1), (1, .ifCond .lt 22, 3), (4, .iload_n 1, 1), (5, .bipush 32, 2), (7, .if_icmp .ge 16, 3), (10, .iload_n 0, 1), (11, .iload_n 1, 1), (12, .ishr, 1), (13, .iconst 1, 1), (14, .iand, 1), (15, .iconst 1, 1), (16, .if_icmp .ne 7, 3), (19, .iconst 1, 1), (20, .goto 4, 3), (23, .iconst 0, 1), (24, .ireturn, 1)]
theorem xo48_0 : x_cOk prog_1_method_70_code xc48_0 = true := x_cOk_w (by decide +kernel)
def xg48 : Nat → Option (Instr × Nat) := fun pc => x_at2 pc xc48_0
theorem xh48 : x_Good prog_1_method_70_code xg48 := by
  unfold xg48
  exact x_Good_l xo48_0
def xm48 : XM := (⟨"TwoDigits", "hasBit", "(II)Z"⟩, prog_1_method_70_code, 2, some .boolean, 0, 0, 2, 0, 0, false, xg48)
def xc49_0 : List (Nat × Instr × Nat) := [(0, .iload_n 1, 1), (1, .istore_n 3, 1), (2, .iconst 0, 1), (3, .istore 4, 2), (5, .iload 4, 2), (7, .aload_n 0, 1), (8, .getfield 44, 3), (11, .if_icmp .ge 32, 3), (14, .aload_n 0, 1), (15, .iload 4, 2), (17, .iload_n 3, 1), (18, .iload_n 2, 1), (19, .invokevirtual 54, 3), (22, .ifCond .eq 15, 3), (25, .iload_n 3, 1), (26, .iconst 1, 1), (27, .aload_n 0, 1), (28, .getfield 13, 3), (31, .iload 4, 2), (33, .iaload, 1), (34, .ishl, 1), (35, .ior, 1), (36, .istore_n 3, 1), (37, .iinc 4 1, 3), (40, .goto (-35), 3), (43, .iload_n 3, 1), (44, .ireturn, 1)]
theorem xo49_0 : x_cOk prog_3_method_6_code xc49_0 = true := x_cOk_w (by decide +kernel)
def xg49 : Nat → Option (Instr × Nat) := fun pc => x_at2 pc xc49_0
theorem xh49 : x_Good prog_3_method_6_code xg49 := by
  unfold xg49
  exact x_Good_l xo49_0
def xm49 : XM := (⟨"TwoDigits$Code", "sureAfter", "(IZ)I"⟩, prog_3_method_6_code, 5, some .int, 2, 2, 2, 0, 0, false, xg49)
def xc50_0 : List (Nat × Instr × Nat) := [(0, .aload_n 0, 1), (1, .getfield 9, 3), (4, .iload_n 1, 1), (5, .iaload, 1), (6, .tableswitch 57 0 6 #[42, 44, 57, 57, 46, 46, 46], 42), (48, .iconst 1, 1), (49, .ireturn, 1), (50, .iload_n 3, 1), (51, .ireturn, 1), (52, .iload_n 2, 1), (53, .aload_n 0, 1), (54, .getfield 16, 3), (57, .iload_n 1, 1), (58, .iaload, 1), (59, .invokestatic 48, 3), (62, .ireturn, 1), (63, .iconst 0, 1), (64, .ireturn, 1)]
theorem xo50_0 : x_cOk prog_3_method_7_code xc50_0 = true := x_cOk_w (by decide +kernel)
def xg50 : Nat → Option (Instr × Nat) := fun pc => x_at2 pc xc50_0
theorem xh50 : x_Good prog_3_method_7_code xg50 := by
  unfold xg50
  exact x_Good_l xo50_0
def xm50 : XM := (⟨"TwoDigits$Code", "givesYear", "(IIZ)Z"⟩, prog_3_method_7_code, 4, some .boolean, 2, 2, 3, 0, 0, false, xg50)
def xc51_0 : List (Nat × Instr × Nat) := [(0, .iconst 0, 1), (1, .istore_n 2, 1), (2, .iconst 0, 1), (3, .istore_n 3, 1), (4, .iload_n 3, 1), (5, .aload_n 0, 1), (6, .getfield 44, 3), (9, .if_icmp .ge 87, 3), (12, .aload_n 0, 1), (13, .getfield 9, 3), (16, .iload_n 3, 1), (17, .iaload, 1), (18, .bipush 7, 2), (20, .if_icmp .eq 14, 3), (23, .aload_n 0, 1), (24, .getfield 9, 3), (27, .iload_n 3, 1), (28, .iaload, 1), (29, .bipush 11, 2), (31, .if_icmp .ne 59, 3), (34, .iload_n 2, 1), (35, .iload_n 1, 1), (36, .aload_n 0, 1), (37, .getfield 13, 3), (40, .iload_n 3, 1), (41, .iaload, 1), (42, .invokestatic 48, 3), (45, .ifCond .eq 14, 3), (48, .iconst 1, 1), (49, .aload_n 0, 1), (50, .getfield 16, 3), (53, .iload_n 3, 1), (54, .iaload, 1), (55, .ishl, 1), (56, .goto 4, 3), (59, .iconst 0, 1), (60, .ior, 1), (61, .istore_n 2, 1), (62, .iload_n 2, 1), (63, .iload_n 1, 1), (64, .aload_n 0, 1), (65, .getfield 16, 3), (68, .iload_n 3, 1), (69, .iaload, 1), (70, .invokestatic 48, 3), (73, .ifCond .eq 14, 3), (76, .iconst 1, 1), (77, .aload_n 0, 1)]
theorem xo51_0 : x_cOk prog_3_method_8_code xc51_0 = true := x_cOk_w (by decide +kernel)
def xc51_1 : List (Nat × Instr × Nat) := [(78, .getfield 13, 3), (81, .iload_n 3, 1), (82, .iaload, 1), (83, .ishl, 1), (84, .goto 4, 3), (87, .iconst 0, 1), (88, .ior, 1), (89, .istore_n 2, 1), (90, .iinc 3 1, 3), (93, .goto (-89), 3), (96, .iload_n 2, 1), (97, .ireturn, 1)]
theorem xo51_1 : x_cOk prog_3_method_8_code xc51_1 = true := x_cOk_w (by decide +kernel)
def xg51 : Nat → Option (Instr × Nat) := fun pc => if pc < 78 then x_at2 pc xc51_0 else x_at2 pc xc51_1
theorem xh51 : x_Good prog_3_method_8_code xg51 := by
  unfold xg51
  exact x_Good_ite (x_Good_l xo51_0) (x_Good_l xo51_1)
def xm51 : XM := (⟨"TwoDigits$Code", "askedBeside", "(I)I"⟩, prog_3_method_8_code, 4, some .int, 2, 2, 1, 0, 0, false, xg51)
def xc52_0 : List (Nat × Instr × Nat) := [(0, .aload_n 0, 1), (1, .iload_n 1, 1), (2, .invokevirtual 117, 3), (5, .astore 4, 2), (7, .aload 4, 2), (9, .ifnull 12, 3), (12, .iload_n 2, 1), (13, .ifCond .lt 8, 3), (16, .iload_n 2, 1), (17, .iconst 1, 1), (18, .if_icmp .le 5, 3), (21, .iconst (-1), 1), (22, .ireturn, 1), (23, .iload_n 3, 1), (24, .iconst 0, 1), (25, .bipush 99, 2), (27, .invokestatic 178, 3), (30, .ifCond .ne 6, 3), (33, .bipush (-2), 2), (35, .ireturn, 1), (36, .iload_n 2, 1), (37, .ifCond .ne 11, 3), (40, .aload 4, 2), (42, .getfield 153, 3), (45, .goto 8, 3), (48, .aload 4, 2), (50, .getfield 156, 3), (53, .istore 5, 2), (55, .iload_n 2, 1), (56, .ifCond .ne 12, 3), (59, .aload 4, 2), (61, .iload_n 3, 1), (62, .putfield 153, 3), (65, .goto 9, 3), (68, .aload 4, 2), (70, .iload_n 3, 1), (71, .putfield 156, 3), (74, .iload 5, 2), (76, .ireturn, 1)]
theorem xo52_0 : x_cOk prog_1_method_6_code xc52_0 = true := x_cOk_w (by decide +kernel)
def xg52 : Nat → Option (Instr × Nat) := fun pc => x_at2 pc xc52_0
theorem xh52 : x_Good prog_1_method_6_code xg52 := by
  unfold xg52
  exact x_Good_l xo52_0
def xm52 : XM := (⟨"TwoDigits", "set", "(III)I"⟩, prog_1_method_6_code, 6, some .int, 0, 0, 3, 0, 0, false, xg52)
def xc53_0 : List (Nat × Instr × Nat) := [(0, .aload_n 0, 1), (1, .iload_n 1, 1), (2, .invokevirtual 117, 3), (5, .astore_n 3, 1), (6, .aload_n 3, 1), (7, .ifnull 16, 3), (10, .iload_n 2, 1), (11, .iconst (-1), 1), (12, .if_icmp .eq 13, 3), (15, .aload_n 0, 1), (16, .iload_n 2, 1), (17, .invokevirtual 117, 3), (20, .ifnonnull 5, 3), (23, .iconst (-1), 1), (24, .ireturn, 1), (25, .iload_n 2, 1), (26, .iload_n 1, 1), (27, .if_icmp .ne 6, 3), (30, .bipush (-2), 2), (32, .ireturn, 1), (33, .aload_n 3, 1), (34, .getfield 124, 3), (37, .istore 4, 2), (39, .aload_n 3, 1), (40, .iload_n 2, 1), (41, .putfield 124, 3), (44, .iload 4, 2), (46, .ireturn, 1)]
theorem xo53_0 : x_cOk prog_1_method_7_code xc53_0 = true := x_cOk_w (by decide +kernel)
def xg53 : Nat → Option (Instr × Nat) := fun pc => x_at2 pc xc53_0
theorem xh53 : x_Good prog_1_method_7_code xg53 := by
  unfold xg53
  exact x_Good_l xo53_0
def xm53 : XM := (⟨"TwoDigits", "input", "(II)I"⟩, prog_1_method_7_code, 5, some .int, 0, 0, 2, 0, 0, false, xg53)
def xc54_0 : List (Nat × Instr × Nat) := [(0, .aload_n 0, 1), (1, .iload_n 1, 1), (2, .invokevirtual 117, 3), (5, .astore 6, 2), (7, .aload_n 0, 1), (8, .iload_n 2, 1), (9, .invokevirtual 182, 3), (12, .astore 7, 2), (14, .aload 6, 2), (16, .ifnull 17, 3), (19, .aload 7, 2), (21, .ifnull 12, 3), (24, .iload_n 3, 1), (25, .iconst 0, 1), (26, .iconst 2, 1), (27, .invokestatic 178, 3), (30, .ifCond .ne 5, 3), (33, .iconst (-1), 1), (34, .ireturn, 1), (35, .iload 5, 2), (37, .iconst 0, 1), (38, .bipush 12, 2), (40, .invokestatic 178, 3), (43, .ifCond .ne 6, 3), (46, .bipush (-2), 2), (48, .ireturn, 1), (49, .iload 5, 2), (51, .ifCond .le 23, 3), (54, .aload 7, 2), (56, .iload_n 3, 1), (57, .iload 4, 2), (59, .iload 5, 2), (61, .invokestatic 186, 3), (64, .istore 8, 2), (66, .iload 8, 2), (68, .ifCond .eq 6, 3), (71, .iload 8, 2), (73, .ireturn, 1), (74, .aload 6, 2), (76, .getfield 190, 3), (79, .invokevirtual 193, 3), (82, .iconst 0, 1), (83, .istore 8, 2), (85, .iload 8, 2), (87, .iload 5, 2), (89, .if_icmp .ge 31, 3), (92, .aload 6, 2), (94, .getfield 190, 3)]
theorem xo54_0 : x_cOk prog_1_method_8_code xc54_0 = true := x_cOk_w (by decide +kernel)
def xc54_1 : List (Nat × Instr × Nat) := [(97, .aload 7, 2), (99, .iload 4, 2), (101, .iload 8, 2), (103, .iadd, 1), (104, .invokevirtual 196, 3), (107, .invokestatic 200, 3), (110, .invokevirtual 203, 3), (113, .pop, 1), (114, .iinc 8 1, 3), (117, .goto (-32), 3), (120, .iload 5, 2), (122, .ireturn, 1)]
theorem xo54_1 : x_cOk prog_1_method_8_code xc54_1 = true := x_cOk_w (by decide +kernel)
def xg54 : Nat → Option (Instr × Nat) := fun pc => if pc < 97 then x_at2 pc xc54_0 else x_at2 pc xc54_1
theorem xh54 : x_Good prog_1_method_8_code xg54 := by
  unfold xg54
  exact x_Good_ite (x_Good_l xo54_0) (x_Good_l xo54_1)
def xm54 : XM := (⟨"TwoDigits", "shelf", "(IIIII)I"⟩, prog_1_method_8_code, 9, some .int, 0, 0, 5, 0, 0, false, xg54)
def xc55_0 : List (Nat × Instr × Nat) := [(0, .iload_n 1, 1), (1, .ifCond .lt 17, 3), (4, .iload_n 1, 1), (5, .iconst 3, 1), (6, .if_icmp .ge 12, 3), (9, .aload_n 0, 1), (10, .getfield 95, 3), (13, .iload_n 1, 1), (14, .aaload, 1), (15, .goto 4, 3), (18, .aconst_null, 1), (19, .areturn, 1)]
theorem xo55_0 : x_cOk prog_1_method_62_code xc55_0 = true := x_cOk_w (by decide +kernel)
def xg55 : Nat → Option (Instr × Nat) := fun pc => x_at2 pc xc55_0
theorem xh55 : x_Good prog_1_method_62_code xg55 := by
  unfold xg55
  exact x_Good_l xo55_0
def xm55 : XM := (⟨"TwoDigits", "sheetAt", "(I)LTwoDigits$Sheet;"⟩, prog_1_method_62_code, 2, some (.object "TwoDigits$Sheet"), 0, 0, 1, 0, 0, false, xg55)
def xc56_0 : List (Nat × Instr × Nat) := [(0, .aload_n 0, 1), (1, .getfield 206, 3), (4, .iconst (-1), 1), (5, .if_icmp .eq 14, 3), (8, .aload_n 0, 1), (9, .getfield 206, 3), (12, .iload_n 1, 1), (13, .if_icmp .eq 6, 3), (16, .bipush (-13), 2), (18, .ireturn, 1), (19, .aload_n 0, 1), (20, .getfield 206, 3), (23, .iconst (-1), 1), (24, .if_icmp .ne 6, 3), (27, .bipush (-11), 2), (29, .ireturn, 1), (30, .aload_n 0, 1), (31, .iload_n 2, 1), (32, .iload_n 3, 1), (33, .invokevirtual 209, 3), (36, .ifCond .eq 7, 3), (39, .iconst 0, 1), (40, .goto 5, 3), (43, .bipush (-12), 2), (45, .ireturn, 1)]
theorem xo56_0 : x_cOk prog_1_method_9_code xc56_0 = true := x_cOk_w (by decide +kernel)
def xg56 : Nat → Option (Instr × Nat) := fun pc => x_at2 pc xc56_0
theorem xh56 : x_Good prog_1_method_9_code xg56 := by
  unfold xg56
  exact x_Good_l xo56_0
def xm56 : XM := (⟨"TwoDigits", "refusalToTake", "(LTwoDigits$Sheet;III)I"⟩, prog_1_method_9_code, 4, some .int, 0, 0, 4, 0, 0, false, xg56)
def xc57_0 : List (Nat × Instr × Nat) := [(0, .iload_n 1, 1), (1, .ifCond .lt 29, 3), (4, .iload_n 2, 1), (5, .ifCond .lt 25, 3), (8, .iload_n 1, 1), (9, .aload_n 0, 1), (10, .getfield 19, 3), (13, .if_icmp .gt 17, 3), (16, .iload_n 2, 1), (17, .aload_n 0, 1), (18, .getfield 19, 3), (21, .iload_n 1, 1), (22, .isub, 1), (23, .if_icmp .gt 7, 3), (26, .iconst 1, 1), (27, .goto 4, 3), (30, .iconst 0, 1), (31, .ireturn, 1)]
theorem xo57_0 : x_cOk prog_9_method_3_code xc57_0 = true := x_cOk_w (by decide +kernel)
def xg57 : Nat → Option (Instr × Nat) := fun pc => x_at2 pc xc57_0
theorem xh57 : x_Good prog_9_method_3_code xg57 := by
  unfold xg57
  exact x_Good_l xo57_0
def xm57 : XM := (⟨"TwoDigits$Sheet", "hasItems", "(II)Z"⟩, prog_9_method_3_code, 3, some .boolean, 9, 9, 2, 0, 0, false, xg57)
def xc58_0 : List (Nat × Instr × Nat) := [(0, .aload_n 0, 1), (1, .iconst 0, 1), (2, .putfield 13, 3), (5, .return_, 1)]
theorem xo58_0 : x_cOk prog_6_method_2_code xc58_0 = true := x_cOk_w (by decide +kernel)
def xg58 : Nat → Option (Instr × Nat) := fun pc => x_at2 pc xc58_0
theorem xh58 : x_Good prog_6_method_2_code xg58 := by
  unfold xg58
  exact x_Good_l xo58_0
def xm58 : XM := (⟨"TwoDigits$Row", "clear", "()V"⟩, prog_6_method_2_code, 1, none, 5, 5, 0, 0, 0, false, xg58)
def xc59_0 : List (Nat × Instr × Nat) := [(0, .aload_n 0, 1), (1, .iload_n 1, 1), (2, .iconst 1, 1), (3, .invokevirtual 22, 3), (6, .ifCond .eq 12, 3), (9, .aload_n 0, 1), (10, .getfield 11, 3), (13, .iload_n 1, 1), (14, .iaload, 1), (15, .goto 4, 3), (18, .iconst 0, 1), (19, .ireturn, 1)]
theorem xo59_0 : x_cOk prog_9_method_4_code xc59_0 = true := x_cOk_w (by decide +kernel)
def xg59 : Nat → Option (Instr × Nat) := fun pc => x_at2 pc xc59_0
theorem xh59 : x_Good prog_9_method_4_code xg59 := by
  unfold xg59
  exact x_Good_l xo59_0
def xm59 : XM := (⟨"TwoDigits$Sheet", "item", "(I)I"⟩, prog_9_method_4_code, 2, some .int, 9, 9, 1, 0, 0, false, xg59)
def xc60_0 : List (Nat × Instr × Nat) := [(0, .iload_n 0, 1), (1, .ifCond .ge 7, 3), (4, .iconst 0, 1), (5, .goto 8, 3), (8, .iload_n 0, 1), (9, .sipush 10000, 3), (12, .irem, 1), (13, .ireturn, 1)]
theorem xo60_0 : x_cOk prog_1_method_10_code xc60_0 = true := x_cOk_w (by decide +kernel)
def xg60 : Nat → Option (Instr × Nat) := fun pc => x_at2 pc xc60_0
theorem xh60 : x_Good prog_1_method_10_code xg60 := by
  unfold xg60
  exact x_Good_l xo60_0
def xm60 : XM := (⟨"TwoDigits", "readFromShelf", "(I)I"⟩, prog_1_method_10_code, 1, some .int, 0, 0, 1, 0, 0, false, xg60)
def xc61_0 : List (Nat × Instr × Nat) := [(0, .aload_n 0, 1), (1, .getfield 13, 3), (4, .bipush 12, 2), (6, .if_icmp .lt 5, 3), (9, .iconst 0, 1), (10, .ireturn, 1), (11, .aload_n 0, 1), (12, .getfield 9, 3), (15, .aload_n 0, 1), (16, .getfield 13, 3), (19, .iload_n 1, 1), (20, .iastore, 1), (21, .aload_n 0, 1), (22, .dup, 1), (23, .getfield 13, 3), (26, .iconst 1, 1), (27, .iadd, 1), (28, .putfield 13, 3), (31, .iconst 1, 1), (32, .ireturn, 1)]
theorem xo61_0 : x_cOk prog_6_method_3_code xc61_0 = true := x_cOk_w (by decide +kernel)
def xg61 : Nat → Option (Instr × Nat) := fun pc => x_at2 pc xc61_0
theorem xh61 : x_Good prog_6_method_3_code xg61 := by
  unfold xg61
  exact x_Good_l xo61_0
def xm61 : XM := (⟨"TwoDigits$Row", "add", "(I)Z"⟩, prog_6_method_3_code, 2, some .boolean, 5, 5, 1, 0, 0, false, xg61)
def xc62_0 : List (Nat × Instr × Nat) := [(0, .aload_n 0, 1), (1, .iload_n 1, 1), (2, .invokevirtual 117, 3), (5, .astore_n 3, 1), (6, .aload_n 3, 1), (7, .ifnonnull 5, 3), (10, .iconst (-1), 1), (11, .ireturn, 1), (12, .iload_n 2, 1), (13, .invokestatic 212, 3), (16, .ifCond .ne 6, 3), (19, .bipush (-2), 2), (21, .ireturn, 1), (22, .aload_n 0, 1), (23, .aload_n 3, 1), (24, .iload_n 2, 1), (25, .invokevirtual 215, 3), (28, .aload_n 3, 1), (29, .getfield 147, 3), (32, .ireturn, 1)]
theorem xo62_0 : x_cOk prog_1_method_11_code xc62_0 = true := x_cOk_w (by decide +kernel)
def xg62 : Nat → Option (Instr × Nat) := fun pc => x_at2 pc xc62_0
theorem xh62 : x_Good prog_1_method_11_code xg62 := by
  unfold xg62
  exact x_Good_l xo62_0
def xm62 : XM := (⟨"TwoDigits", "run", "(II)I"⟩, prog_1_method_11_code, 4, some .int, 0, 0, 2, 0, 0, false, xg62)
def xc63_0 : List (Nat × Instr × Nat) := [(0, .iload_n 0, 1), (1, .sipush 1900, 3), (4, .sipush 2099, 3), (7, .invokestatic 178, 3), (10, .ireturn, 1)]
theorem xo63_0 : x_cOk prog_1_method_64_code xc63_0 = true := x_cOk_w (by decide +kernel)
def xg63 : Nat → Option (Instr × Nat) := fun pc => x_at2 pc xc63_0
theorem xh63 : x_Good prog_1_method_64_code xg63 := by
  unfold xg63
  exact x_Good_l xo63_0
def xm63 : XM := (⟨"TwoDigits", "isYear", "(I)Z"⟩, prog_1_method_64_code, 1, some .boolean, 0, 0, 1, 0, 0, false, xg63)
def xc64_0 : List (Nat × Instr × Nat) := [(0, .aload_n 0, 1), (1, .dup, 1), (2, .getfield 424, 3), (5, .iconst 1, 1), (6, .iadd, 1), (7, .putfield 424, 3), (10, .aload_n 0, 1), (11, .getfield 47, 3), (14, .aload_n 1, 1), (15, .getfield 133, 3), (18, .aload_n 1, 1), (19, .getfield 127, 3), (22, .aload_n 0, 1), (23, .aload_n 1, 1), (24, .invokevirtual 309, 3), (27, .aload_n 1, 1), (28, .getfield 137, 3), (31, .iload_n 2, 1), (32, .invokevirtual 316, 3), (35, .aload_n 0, 1), (36, .getfield 51, 3), (39, .aload_n 1, 1), (40, .getfield 133, 3), (43, .aload_n 0, 1), (44, .getfield 38, 3), (47, .aload_n 0, 1), (48, .aload_n 1, 1), (49, .invokevirtual 445, 3), (52, .aload_n 1, 1), (53, .getfield 144, 3), (56, .iload_n 2, 1), (57, .invokevirtual 316, 3), (60, .iconst (-1), 1), (61, .istore_n 3, 1), (62, .iconst 0, 1), (63, .istore 4, 2), (65, .iload 4, 2), (67, .sipush 150, 3), (70, .if_icmp .ge 67, 3), (73, .aload_n 0, 1), (74, .getfield 47, 3), (77, .invokevirtual 448, 3), (80, .ifCond .eq 13, 3), (83, .aload_n 0, 1), (84, .getfield 51, 3), (87, .invokevirtual 448, 3), (90, .ifCond .ne 47, 3), (93, .aload_n 0, 1)]
theorem xo64_0 : x_cOk prog_1_method_75_code xc64_0 = true := x_cOk_w (by decide +kernel)
def xc64_1 : List (Nat × Instr × Nat) := [(94, .getfield 47, 3), (97, .getfield 452, 3), (100, .istore 5, 2), (102, .aload_n 0, 1), (103, .getfield 47, 3), (106, .invokevirtual 455, 3), (109, .aload_n 0, 1), (110, .getfield 51, 3), (113, .invokevirtual 455, 3), (116, .iload_n 3, 1), (117, .iconst (-1), 1), (118, .if_icmp .ne 13, 3), (121, .aload_n 0, 1), (122, .invokevirtual 458, 3), (125, .ifCond .eq 6, 3), (128, .iload 5, 2), (130, .istore_n 3, 1), (131, .iinc 4 1, 3), (134, .goto (-69), 3), (137, .aload_n 1, 1), (138, .aload_n 0, 1), (139, .getfield 47, 3), (142, .getfield 461, 3), (145, .putfield 147, 3), (148, .aload_n 1, 1), (149, .aload_n 0, 1), (150, .getfield 51, 3), (153, .getfield 461, 3), (156, .putfield 150, 3), (159, .aload_n 1, 1), (160, .aload_n 0, 1), (161, .getfield 47, 3), (164, .getfield 462, 3), (167, .putfield 225, 3), (170, .aload_n 1, 1), (171, .aload_n 0, 1), (172, .getfield 51, 3), (175, .getfield 462, 3), (178, .putfield 228, 3), (181, .aload_n 1, 1), (182, .iload_n 3, 1), (183, .putfield 231, 3), (186, .aload_n 1, 1), (187, .aload_n 0, 1), (188, .getfield 47, 3), (191, .getfield 461, 3), (194, .aload_n 0, 1), (195, .getfield 51, 3)]
theorem xo64_1 : x_cOk prog_1_method_75_code xc64_1 = true := x_cOk_w (by decide +kernel)
def xc64_2 : List (Nat × Instr × Nat) := [(198, .getfield 461, 3), (201, .if_icmp .ne 17, 3), (204, .aload_n 1, 1), (205, .getfield 137, 3), (208, .aload_n 1, 1), (209, .getfield 144, 3), (212, .invokevirtual 324, 3), (215, .ifCond .ne 7, 3), (218, .iconst 1, 1), (219, .goto 4, 3), (222, .iconst 0, 1), (223, .putfield 159, 3), (226, .return_, 1)]
theorem xo64_2 : x_cOk prog_1_method_75_code xc64_2 = true := x_cOk_w (by decide +kernel)
def xg64 : Nat → Option (Instr × Nat) := fun pc => if pc < 94 then x_at2 pc xc64_0 else if pc < 198 then x_at2 pc xc64_1 else x_at2 pc xc64_2
theorem xh64 : x_Good prog_1_method_75_code xg64 := by
  unfold xg64
  exact x_Good_ite (x_Good_l xo64_0) (x_Good_ite (x_Good_l xo64_1) (x_Good_l xo64_2))
def xm64 : XM := (⟨"TwoDigits", "makeRun", "(LTwoDigits$Program;I)V"⟩, prog_1_method_75_code, 6, none, 0, 0, 2, 0, 0, false, xg64)
def xc65_0 : List (Nat × Instr × Nat) := [(0, .aload_n 0, 1), (1, .aload_n 1, 1), (2, .getfield 124, 3), (5, .invokevirtual 117, 3), (8, .astore_n 2, 1), (9, .aload_n 2, 1), (10, .ifnonnull 10, 3), (13, .aload_n 1, 1), (14, .getfield 190, 3), (17, .goto 7, 3), (20, .aload_n 2, 1), (21, .getfield 137, 3), (24, .areturn, 1)]
theorem xo65_0 : x_cOk prog_1_method_73_code xc65_0 = true := x_cOk_w (by decide +kernel)
def xg65 : Nat → Option (Instr × Nat) := fun pc => x_at2 pc xc65_0
theorem xh65 : x_Good prog_1_method_73_code xg65 := by
  unfold xg65
  exact x_Good_l xo65_0
def xm65 : XM := (⟨"TwoDigits", "inputOf", "(LTwoDigits$Program;)LTwoDigits$Row;"⟩, prog_1_method_73_code, 3, some (.object "TwoDigits$Row"), 0, 0, 1, 0, 0, false, xg65)
def xc66_0 : List (Nat × Instr × Nat) := [(0, .aload_n 0, 1), (1, .aload_n 1, 1), (2, .putfield 25, 3), (5, .aload_n 0, 1), (6, .aload_n 2, 1), (7, .putfield 34, 3), (10, .aload_n 0, 1), (11, .aload_n 3, 1), (12, .putfield 38, 3), (15, .aload_n 0, 1), (16, .aload 4, 2), (18, .putfield 41, 3), (21, .aload_n 0, 1), (22, .iload 5, 2), (24, .putfield 48, 3), (27, .aload_n 0, 1), (28, .iconst 0, 1), (29, .putfield 51, 3), (32, .aload_n 0, 1), (33, .iconst 0, 1), (34, .putfield 54, 3), (37, .aload_n 0, 1), (38, .iconst 0, 1), (39, .putfield 57, 3), (42, .aload_n 0, 1), (43, .aload_n 0, 1), (44, .getfield 25, 3), (47, .getfield 60, 3), (50, .ifCond .le 7, 3), (53, .iconst (-1), 1), (54, .goto 4, 3), (57, .iconst 0, 1), (58, .putfield 44, 3), (61, .aload_n 0, 1), (62, .getfield 41, 3), (65, .invokevirtual 63, 3), (68, .iconst 0, 1), (69, .istore 6, 2), (71, .iload 6, 2), (73, .bipush 6, 2), (75, .if_icmp .ge 17, 3), (78, .aload_n 0, 1), (79, .getfield 9, 3), (82, .iload 6, 2), (84, .iconst 0, 1), (85, .iastore, 1), (86, .iinc 6 1, 3), (89, .goto (-18), 3)]
theorem xo66_0 : x_cOk prog_7_method_2_code xc66_0 = true := x_cOk_w (by decide +kernel)
def xc66_1 : List (Nat × Instr × Nat) := [(92, .return_, 1)]
theorem xo66_1 : x_cOk prog_7_method_2_code xc66_1 = true := x_cOk_w (by decide +kernel)
def xg66 : Nat → Option (Instr × Nat) := fun pc => if pc < 92 then x_at2 pc xc66_0 else x_at2 pc xc66_1
theorem xh66 : x_Good prog_7_method_2_code xg66 := by
  unfold xg66
  exact x_Good_ite (x_Good_l xo66_0) (x_Good_l xo66_1)
def xm66 : XM := (⟨"TwoDigits$Runner", "begin", "(LTwoDigits$Code;LTwoDigits$Setting;LTwoDigits$Row;LTwoDigits$Row;I)V"⟩, prog_7_method_2_code, 7, none, 4, 4, 5, 0, 0, false, xg66)
def xc67_0 : List (Nat × Instr × Nat) := [(0, .aload_n 0, 1), (1, .aload_n 1, 1), (2, .getfield 124, 3), (5, .invokevirtual 117, 3), (8, .astore_n 2, 1), (9, .aload_n 2, 1), (10, .ifnonnull 10, 3), (13, .aload_n 1, 1), (14, .getfield 190, 3), (17, .goto 7, 3), (20, .aload_n 2, 1), (21, .getfield 144, 3), (24, .areturn, 1)]
theorem xo67_0 : x_cOk prog_1_method_74_code xc67_0 = true := x_cOk_w (by decide +kernel)
def xg67 : Nat → Option (Instr × Nat) := fun pc => x_at2 pc xc67_0
theorem xh67 : x_Good prog_1_method_74_code xg67 := by
  unfold xg67
  exact x_Good_l xo67_0
def xm67 : XM := (⟨"TwoDigits", "twinInputOf", "(LTwoDigits$Program;)LTwoDigits$Row;"⟩, prog_1_method_74_code, 3, some (.object "TwoDigits$Row"), 0, 0, 1, 0, 0, false, xg67)
def xc68_0 : List (Nat × Instr × Nat) := [(0, .aload_n 0, 1), (1, .getfield 44, 3), (4, .iconst (-1), 1), (5, .if_icmp .eq 7, 3), (8, .iconst 1, 1), (9, .goto 4, 3), (12, .iconst 0, 1), (13, .ireturn, 1)]
theorem xo68_0 : x_cOk prog_7_method_3_code xc68_0 = true := x_cOk_w (by decide +kernel)
def xg68 : Nat → Option (Instr × Nat) := fun pc => x_at2 pc xc68_0
theorem xh68 : x_Good prog_7_method_3_code xg68 := by
  unfold xg68
  exact x_Good_l xo68_0
def xm68 : XM := (⟨"TwoDigits$Runner", "isOver", "()Z"⟩, prog_7_method_3_code, 1, some .boolean, 4, 4, 0, 0, 0, false, xg68)
def xc69_0 : List (Nat × Instr × Nat) := [(0, .aload_n 0, 1), (1, .iconst 0, 1), (2, .putfield 73, 3), (5, .aload_n 0, 1), (6, .invokevirtual 66, 3), (9, .ifCond .eq 4, 3), (12, .return_, 1), (13, .aload_n 0, 1), (14, .dup, 1), (15, .getfield 57, 3), (18, .iconst 1, 1), (19, .iadd, 1), (20, .putfield 57, 3), (23, .aload_n 0, 1), (24, .getfield 25, 3), (27, .getfield 77, 3), (30, .aload_n 0, 1), (31, .getfield 51, 3), (34, .iaload, 1), (35, .istore_n 1, 1), (36, .aload_n 0, 1), (37, .getfield 25, 3), (40, .getfield 80, 3), (43, .aload_n 0, 1), (44, .getfield 51, 3), (47, .iaload, 1), (48, .istore_n 2, 1), (49, .aload_n 0, 1), (50, .getfield 25, 3), (53, .getfield 83, 3), (56, .aload_n 0, 1), (57, .getfield 51, 3), (60, .iaload, 1), (61, .istore_n 3, 1), (62, .aload_n 0, 1), (63, .getfield 51, 3), (66, .iconst 1, 1), (67, .iadd, 1), (68, .istore 4, 2), (70, .aload_n 0, 1), (71, .getfield 25, 3), (74, .getfield 84, 3), (77, .aload_n 0, 1), (78, .getfield 51, 3), (81, .iaload, 1), (82, .tableswitch 280 0 11 #[62, 83, 91, 99, 117, 140, 170, 200, 248, 274, 280, 224], 62), (144, .aload_n 0, 1), (145, .getfield 9, 3)]
theorem xo69_0 : x_cOk prog_7_method_5_code xc69_0 = true := x_cOk_w (by decide +kernel)
def xc69_1 : List (Nat × Instr × Nat) := [(148, .iload_n 1, 1), (149, .aload_n 0, 1), (150, .getfield 34, 3), (153, .iload_n 1, 1), (154, .aload_n 0, 1), (155, .getfield 48, 3), (158, .invokevirtual 87, 3), (161, .iastore, 1), (162, .goto 205, 3), (165, .aload_n 0, 1), (166, .iload_n 1, 1), (167, .invokevirtual 91, 3), (170, .goto 197, 3), (173, .aload_n 0, 1), (174, .iload_n 1, 1), (175, .invokevirtual 95, 3), (178, .goto 189, 3), (181, .aload_n 0, 1), (182, .getfield 9, 3), (185, .iload_n 1, 1), (186, .aload_n 0, 1), (187, .getfield 34, 3), (190, .iload_n 1, 1), (191, .iload_n 3, 1), (192, .invokevirtual 87, 3), (195, .iastore, 1), (196, .goto 171, 3), (199, .aload_n 0, 1), (200, .getfield 9, 3), (203, .iload_n 1, 1), (204, .aload_n 0, 1), (205, .getfield 34, 3), (208, .iload_n 1, 1), (209, .aload_n 0, 1), (210, .getfield 9, 3), (213, .iload_n 2, 1), (214, .iaload, 1), (215, .invokevirtual 87, 3), (218, .iastore, 1), (219, .goto 148, 3), (222, .aload_n 0, 1), (223, .getfield 9, 3), (226, .iload_n 1, 1), (227, .aload_n 0, 1), (228, .getfield 34, 3), (231, .iload_n 1, 1), (232, .aload_n 0, 1), (233, .getfield 9, 3)]
theorem xo69_1 : x_cOk prog_7_method_5_code xc69_1 = true := x_cOk_w (by decide +kernel)
def xc69_2 : List (Nat × Instr × Nat) := [(236, .iload_n 1, 1), (237, .iaload, 1), (238, .aload_n 0, 1), (239, .getfield 9, 3), (242, .iload_n 2, 1), (243, .iaload, 1), (244, .iadd, 1), (245, .invokevirtual 87, 3), (248, .iastore, 1), (249, .goto 118, 3), (252, .aload_n 0, 1), (253, .getfield 9, 3), (256, .iload_n 1, 1), (257, .aload_n 0, 1), (258, .getfield 34, 3), (261, .iload_n 1, 1), (262, .aload_n 0, 1), (263, .getfield 9, 3), (266, .iload_n 1, 1), (267, .iaload, 1), (268, .aload_n 0, 1), (269, .getfield 9, 3), (272, .iload_n 2, 1), (273, .iaload, 1), (274, .isub, 1), (275, .invokevirtual 87, 3), (278, .iastore, 1), (279, .goto 88, 3), (282, .aload_n 0, 1), (283, .iload_n 1, 1), (284, .invokevirtual 98, 3), (287, .aload_n 0, 1), (288, .iload_n 2, 1), (289, .invokevirtual 98, 3), (292, .if_icmp .ge 7, 3), (295, .iload_n 3, 1), (296, .goto 5, 3), (299, .iload 4, 2), (301, .istore 4, 2), (303, .goto 64, 3), (306, .aload_n 0, 1), (307, .iload_n 1, 1), (308, .invokevirtual 98, 3), (311, .aload_n 0, 1), (312, .iload_n 2, 1), (313, .invokevirtual 98, 3), (316, .if_icmp .ne 7, 3), (319, .iload_n 3, 1)]
theorem xo69_2 : x_cOk prog_7_method_5_code xc69_2 = true := x_cOk_w (by decide +kernel)
def xc69_3 : List (Nat × Instr × Nat) := [(320, .goto 5, 3), (323, .iload 4, 2), (325, .istore 4, 2), (327, .goto 40, 3), (330, .aload_n 0, 1), (331, .getfield 34, 3), (334, .aload_n 0, 1), (335, .iload_n 1, 1), (336, .invokevirtual 98, 3), (339, .invokevirtual 102, 3), (342, .ifCond .eq 7, 3), (345, .iload_n 3, 1), (346, .goto 5, 3), (349, .iload 4, 2), (351, .istore 4, 2), (353, .goto 14, 3), (356, .iload_n 3, 1), (357, .istore 4, 2), (359, .goto 8, 3), (362, .aload_n 0, 1), (363, .iconst 0, 1), (364, .putfield 44, 3), (367, .aload_n 0, 1), (368, .invokevirtual 66, 3), (371, .ifCond .ne 9, 3), (374, .aload_n 0, 1), (375, .iload 4, 2), (377, .invokevirtual 106, 3), (380, .return_, 1)]
theorem xo69_3 : x_cOk prog_7_method_5_code xc69_3 = true := x_cOk_w (by decide +kernel)
def xg69 : Nat → Option (Instr × Nat) := fun pc => if pc < 148 then x_at2 pc xc69_0 else if pc < 236 then x_at2 pc xc69_1 else if pc < 320 then x_at2 pc xc69_2 else x_at2 pc xc69_3
theorem xh69 : x_Good prog_7_method_5_code xg69 := by
  unfold xg69
  exact x_Good_ite (x_Good_l xo69_0) (x_Good_ite (x_Good_l xo69_1) (x_Good_ite (x_Good_l xo69_2) (x_Good_l xo69_3)))
def xm69 : XM := (⟨"TwoDigits$Runner", "step", "()V"⟩, prog_7_method_5_code, 5, none, 4, 4, 0, 0, 0, false, xg69)
def xc70_0 : List (Nat × Instr × Nat) := [(0, .aload_n 0, 1), (1, .getfield 18, 3), (4, .ifCond .eq 7, 3), (7, .iload_n 2, 1), (8, .goto 25, 3), (11, .iload_n 2, 1), (12, .aload_n 0, 1), (13, .getfield 9, 3), (16, .iload_n 1, 1), (17, .iaload, 1), (18, .iconst 2, 1), (19, .if_icmp .ne 8, 3), (22, .bipush 100, 2), (24, .goto 6, 3), (27, .sipush 10000, 3), (30, .invokestatic 32, 3), (33, .ireturn, 1)]
theorem xo70_0 : x_cOk prog_8_method_4_code xc70_0 = true := x_cOk_w (by decide +kernel)
def xg70 : Nat → Option (Instr × Nat) := fun pc => x_at2 pc xc70_0
theorem xh70 : x_Good prog_8_method_4_code xg70 := by
  unfold xg70
  exact x_Good_l xo70_0
def xm70 : XM := (⟨"TwoDigits$Setting", "cut", "(II)I"⟩, prog_8_method_4_code, 3, some .int, 3, 3, 2, 0, 0, false, xg70)
def xc71_0 : List (Nat × Instr × Nat) := [(0, .iload_n 0, 1), (1, .iload_n 1, 1), (2, .irem, 1), (3, .istore_n 2, 1), (4, .iload_n 0, 1), (5, .iload_n 1, 1), (6, .ixor, 1), (7, .ifCond .ge 11, 3), (10, .iload_n 2, 1), (11, .ifCond .eq 7, 3), (14, .iload_n 2, 1), (15, .iload_n 1, 1), (16, .iadd, 1), (17, .ireturn, 1), (18, .iload_n 2, 1), (19, .ireturn, 1)]
theorem xo71_0 : x_cOk prog_16_method_50_code xc71_0 = true := x_cOk_w (by decide +kernel)
def xg71 : Nat → Option (Instr × Nat) := fun pc => x_at2 pc xc71_0
theorem xh71 : x_Good prog_16_method_50_code xg71 := by
  unfold xg71
  exact x_Good_l xo71_0
def xm71 : XM := (⟨"java/lang/Math", "floorMod", "(II)I"⟩, prog_16_method_50_code, 3, some .int, 14, 114, 2, 0, 0, false, xg71)
def xc72_0 : List (Nat × Instr × Nat) := [(0, .aload_n 0, 1), (1, .getfield 38, 3), (4, .aload_n 0, 1), (5, .getfield 54, 3), (8, .invokevirtual 109, 3), (11, .ifCond .ne 9, 3), (14, .aload_n 0, 1), (15, .iconst 1, 1), (16, .putfield 44, 3), (19, .return_, 1), (20, .aload_n 0, 1), (21, .getfield 9, 3), (24, .iload_n 1, 1), (25, .aload_n 0, 1), (26, .getfield 34, 3), (29, .iload_n 1, 1), (30, .aload_n 0, 1), (31, .getfield 38, 3), (34, .aload_n 0, 1), (35, .getfield 54, 3), (38, .invokevirtual 112, 3), (41, .invokevirtual 87, 3), (44, .iastore, 1), (45, .aload_n 0, 1), (46, .dup, 1), (47, .getfield 54, 3), (50, .iconst 1, 1), (51, .iadd, 1), (52, .putfield 54, 3), (55, .return_, 1)]
theorem xo72_0 : x_cOk prog_7_method_7_code xc72_0 = true := x_cOk_w (by decide +kernel)
def xg72 : Nat → Option (Instr × Nat) := fun pc => x_at2 pc xc72_0
theorem xh72 : x_Good prog_7_method_7_code xg72 := by
  unfold xg72
  exact x_Good_l xo72_0
def xm72 : XM := (⟨"TwoDigits$Runner", "readInto", "(I)V"⟩, prog_7_method_7_code, 2, none, 4, 4, 1, 0, 0, false, xg72)
def xc73_0 : List (Nat × Instr × Nat) := [(0, .iload_n 1, 1), (1, .ifCond .lt 15, 3), (4, .iload_n 1, 1), (5, .aload_n 0, 1), (6, .getfield 13, 3), (9, .if_icmp .ge 7, 3), (12, .iconst 1, 1), (13, .goto 4, 3), (16, .iconst 0, 1), (17, .ireturn, 1)]
theorem xo73_0 : x_cOk prog_6_method_4_code xc73_0 = true := x_cOk_w (by decide +kernel)
def xg73 : Nat → Option (Instr × Nat) := fun pc => x_at2 pc xc73_0
theorem xh73 : x_Good prog_6_method_4_code xg73 := by
  unfold xg73
  exact x_Good_l xo73_0
def xm73 : XM := (⟨"TwoDigits$Row", "has", "(I)Z"⟩, prog_6_method_4_code, 2, some .boolean, 5, 5, 1, 0, 0, false, xg73)
def xc74_0 : List (Nat × Instr × Nat) := [(0, .aload_n 0, 1), (1, .iload_n 1, 1), (2, .invokevirtual 17, 3), (5, .ifCond .eq 12, 3), (8, .aload_n 0, 1), (9, .getfield 9, 3), (12, .iload_n 1, 1), (13, .iaload, 1), (14, .goto 4, 3), (17, .iconst 0, 1), (18, .ireturn, 1)]
theorem xo74_0 : x_cOk prog_6_method_5_code xc74_0 = true := x_cOk_w (by decide +kernel)
def xg74 : Nat → Option (Instr × Nat) := fun pc => x_at2 pc xc74_0
theorem xh74 : x_Good prog_6_method_5_code xg74 := by
  unfold xg74
  exact x_Good_l xo74_0
def xm74 : XM := (⟨"TwoDigits$Row", "get", "(I)I"⟩, prog_6_method_5_code, 2, some .int, 5, 5, 1, 0, 0, false, xg74)
def xc75_0 : List (Nat × Instr × Nat) := [(0, .aload_n 0, 1), (1, .aload_n 0, 1), (2, .getfield 41, 3), (5, .aload_n 0, 1), (6, .getfield 9, 3), (9, .iload_n 1, 1), (10, .iaload, 1), (11, .invokevirtual 115, 3), (14, .putfield 73, 3), (17, .aload_n 0, 1), (18, .aload_n 0, 1), (19, .getfield 9, 3), (22, .iload_n 1, 1), (23, .iaload, 1), (24, .putfield 118, 3), (27, .aload_n 0, 1), (28, .getfield 73, 3), (31, .ifCond .ne 8, 3), (34, .aload_n 0, 1), (35, .iconst 1, 1), (36, .putfield 44, 3), (39, .return_, 1)]
theorem xo75_0 : x_cOk prog_7_method_8_code xc75_0 = true := x_cOk_w (by decide +kernel)
def xg75 : Nat → Option (Instr × Nat) := fun pc => x_at2 pc xc75_0
theorem xh75 : x_Good prog_7_method_8_code xg75 := by
  unfold xg75
  exact x_Good_l xo75_0
def xm75 : XM := (⟨"TwoDigits$Runner", "writeFrom", "(I)V"⟩, prog_7_method_8_code, 2, none, 4, 4, 1, 0, 0, false, xg75)
def xc76_0 : List (Nat × Instr × Nat) := [(0, .aload_n 0, 1), (1, .getfield 34, 3), (4, .iload_n 1, 1), (5, .aload_n 0, 1), (6, .getfield 9, 3), (9, .iload_n 1, 1), (10, .iaload, 1), (11, .invokevirtual 121, 3), (14, .ireturn, 1)]
theorem xo76_0 : x_cOk prog_7_method_9_code xc76_0 = true := x_cOk_w (by decide +kernel)
def xg76 : Nat → Option (Instr × Nat) := fun pc => x_at2 pc xc76_0
theorem xh76 : x_Good prog_7_method_9_code xg76 := by
  unfold xg76
  exact x_Good_l xo76_0
def xm76 : XM := (⟨"TwoDigits$Runner", "meaningOf", "(I)I"⟩, prog_7_method_9_code, 2, some .int, 4, 4, 1, 0, 0, false, xg76)
def xc77_0 : List (Nat × Instr × Nat) := [(0, .aload_n 0, 1), (1, .getfield 18, 3), (4, .ifCond .ne 27, 3), (7, .aload_n 0, 1), (8, .getfield 9, 3), (11, .iload_n 1, 1), (12, .iaload, 1), (13, .iconst 2, 1), (14, .if_icmp .ne 17, 3), (17, .aload_n 0, 1), (18, .getfield 15, 3), (21, .iload_n 1, 1), (22, .iaload, 1), (23, .iconst (-1), 1), (24, .if_icmp .eq 7, 3), (27, .iconst 1, 1), (28, .goto 4, 3), (31, .iconst 0, 1), (32, .istore_n 3, 1), (33, .iload_n 3, 1), (34, .ifCond .eq 16, 3), (37, .iload_n 2, 1), (38, .aload_n 0, 1), (39, .getfield 15, 3), (42, .iload_n 1, 1), (43, .iaload, 1), (44, .invokestatic 38, 3), (47, .goto 4, 3), (50, .iload_n 2, 1), (51, .ireturn, 1)]
theorem xo77_0 : x_cOk prog_8_method_5_code xc77_0 = true := x_cOk_w (by decide +kernel)
def xg77 : Nat → Option (Instr × Nat) := fun pc => x_at2 pc xc77_0
theorem xh77 : x_Good prog_8_method_5_code xg77 := by
  unfold xg77
  exact x_Good_l xo77_0
def xm77 : XM := (⟨"TwoDigits$Setting", "meaning", "(II)I"⟩, prog_8_method_5_code, 4, some .int, 3, 3, 2, 0, 0, false, xg77)
def xc78_0 : List (Nat × Instr × Nat) := [(0, .iload_n 0, 1), (1, .iload_n 1, 1), (2, .if_icmp .lt 11, 3), (5, .sipush 1900, 3), (8, .iload_n 0, 1), (9, .iadd, 1), (10, .goto 8, 3), (13, .sipush 2000, 3), (16, .iload_n 0, 1), (17, .iadd, 1), (18, .ireturn, 1)]
theorem xo78_0 : x_cOk prog_1_method_72_code xc78_0 = true := x_cOk_w (by decide +kernel)
def xg78 : Nat → Option (Instr × Nat) := fun pc => x_at2 pc xc78_0
theorem xh78 : x_Good prog_1_method_72_code xg78 := by
  unfold xg78
  exact x_Good_l xo78_0
def xm78 : XM := (⟨"TwoDigits", "inWindow", "(II)I"⟩, prog_1_method_72_code, 2, some .int, 0, 0, 2, 0, 0, false, xg78)
def xc79_0 : List (Nat × Instr × Nat) := [(0, .aload_n 0, 1), (1, .getfield 18, 3), (4, .ifCond .ne 17, 3), (7, .iload_n 1, 1), (8, .bipush 100, 2), (10, .if_icmp .ge 11, 3), (13, .sipush 1900, 3), (16, .iload_n 1, 1), (17, .iadd, 1), (18, .goto 4, 3), (21, .iload_n 1, 1), (22, .aload_n 0, 1), (23, .getfield 22, 3), (26, .invokestatic 41, 3), (29, .ireturn, 1)]
theorem xo79_0 : x_cOk prog_8_method_6_code xc79_0 = true := x_cOk_w (by decide +kernel)
def xg79 : Nat → Option (Instr × Nat) := fun pc => x_at2 pc xc79_0
theorem xh79 : x_Good prog_8_method_6_code xg79 := by
  unfold xg79
  exact x_Good_l xo79_0
def xm79 : XM := (⟨"TwoDigits$Setting", "leapsIn", "(I)Z"⟩, prog_8_method_6_code, 2, some .boolean, 3, 3, 1, 0, 0, false, xg79)
def xc80_0 : List (Nat × Instr × Nat) := [(0, .iload_n 0, 1), (1, .iconst 4, 1), (2, .irem, 1), (3, .ifCond .ne 7, 3), (6, .iconst 1, 1), (7, .goto 4, 3), (10, .iconst 0, 1), (11, .istore_n 2, 1), (12, .iload_n 1, 1), (13, .lookupswitch 46 #[(0, 27), (1, 29)], 27), (40, .iload_n 2, 1), (41, .ireturn, 1), (42, .iload_n 2, 1), (43, .ifCond .eq 14, 3), (46, .iload_n 0, 1), (47, .bipush 100, 2), (49, .irem, 1), (50, .ifCond .eq 7, 3), (53, .iconst 1, 1), (54, .goto 4, 3), (57, .iconst 0, 1), (58, .ireturn, 1), (59, .iload_n 2, 1), (60, .ifCond .eq 22, 3), (63, .iload_n 0, 1), (64, .bipush 100, 2), (66, .irem, 1), (67, .ifCond .ne 11, 3), (70, .iload_n 0, 1), (71, .sipush 400, 3), (74, .irem, 1), (75, .ifCond .ne 7, 3), (78, .iconst 1, 1), (79, .goto 4, 3), (82, .iconst 0, 1), (83, .ireturn, 1)]
theorem xo80_0 : x_cOk prog_1_method_71_code xc80_0 = true := x_cOk_w (by decide +kernel)
def xg80 : Nat → Option (Instr × Nat) := fun pc => x_at2 pc xc80_0
theorem xh80 : x_Good prog_1_method_71_code xg80 := by
  unfold xg80
  exact x_Good_l xo80_0
def xm80 : XM := (⟨"TwoDigits", "isLeap", "(II)Z"⟩, prog_1_method_71_code, 3, some .boolean, 0, 0, 2, 0, 0, false, xg80)
def xc81_0 : List (Nat × Instr × Nat) := [(0, .aload_n 0, 1), (1, .iload_n 1, 1), (2, .putfield 51, 3), (5, .aload_n 0, 1), (6, .getfield 51, 3), (9, .aload_n 0, 1), (10, .getfield 25, 3), (13, .getfield 60, 3), (16, .if_icmp .lt 11, 3), (19, .aload_n 0, 1), (20, .iconst 0, 1), (21, .putfield 44, 3), (24, .goto 18, 3), (27, .aload_n 0, 1), (28, .getfield 57, 3), (31, .sipush 150, 3), (34, .if_icmp .lt 8, 3), (37, .aload_n 0, 1), (38, .iconst 2, 1), (39, .putfield 44, 3), (42, .return_, 1)]
theorem xo81_0 : x_cOk prog_7_method_6_code xc81_0 = true := x_cOk_w (by decide +kernel)
def xg81 : Nat → Option (Instr × Nat) := fun pc => x_at2 pc xc81_0
theorem xh81 : x_Good prog_7_method_6_code xg81 := by
  unfold xg81
  exact x_Good_l xo81_0
def xm81 : XM := (⟨"TwoDigits$Runner", "goOnTo", "(I)V"⟩, prog_7_method_6_code, 2, none, 4, 4, 1, 0, 0, false, xg81)
def xc82_0 : List (Nat × Instr × Nat) := [(0, .aload_n 0, 1), (1, .getfield 47, 3), (4, .getfield 461, 3), (7, .aload_n 0, 1), (8, .getfield 51, 3), (11, .getfield 461, 3), (14, .if_icmp .eq 5, 3), (17, .iconst 1, 1), (18, .ireturn, 1), (19, .aload_n 0, 1), (20, .getfield 47, 3), (23, .invokevirtual 448, 3), (26, .ifCond .ne 22, 3), (29, .aload_n 0, 1), (30, .getfield 47, 3), (33, .getfield 452, 3), (36, .aload_n 0, 1), (37, .getfield 51, 3), (40, .getfield 452, 3), (43, .if_icmp .eq 5, 3), (46, .iconst 1, 1), (47, .ireturn, 1), (48, .aload_n 0, 1), (49, .getfield 47, 3), (52, .getfield 463, 3), (55, .ifCond .eq 34, 3), (58, .aload_n 0, 1), (59, .getfield 51, 3), (62, .getfield 463, 3), (65, .ifCond .eq 24, 3), (68, .aload_n 0, 1), (69, .getfield 47, 3), (72, .getfield 466, 3), (75, .aload_n 0, 1), (76, .getfield 51, 3), (79, .getfield 466, 3), (82, .if_icmp .eq 7, 3), (85, .iconst 1, 1), (86, .goto 4, 3), (89, .iconst 0, 1), (90, .ireturn, 1)]
theorem xo82_0 : x_cOk prog_1_method_76_code xc82_0 = true := x_cOk_w (by decide +kernel)
def xg82 : Nat → Option (Instr × Nat) := fun pc => x_at2 pc xc82_0
theorem xh82 : x_Good prog_1_method_76_code xg82 := by
  unfold xg82
  exact x_Good_l xo82_0
def xm82 : XM := (⟨"TwoDigits", "haveParted", "()Z"⟩, prog_1_method_76_code, 1, some .boolean, 0, 0, 0, 0, 0, false, xg82)
def xc83_0 : List (Nat × Instr × Nat) := [(0, .aload_n 0, 1), (1, .getfield 13, 3), (4, .aload_n 1, 1), (5, .getfield 13, 3), (8, .if_icmp .eq 5, 3), (11, .iconst 0, 1), (12, .ireturn, 1), (13, .iconst 0, 1), (14, .istore_n 2, 1), (15, .iload_n 2, 1), (16, .aload_n 0, 1), (17, .getfield 13, 3), (20, .if_icmp .ge 26, 3), (23, .aload_n 0, 1), (24, .getfield 9, 3), (27, .iload_n 2, 1), (28, .iaload, 1), (29, .aload_n 1, 1), (30, .getfield 9, 3), (33, .iload_n 2, 1), (34, .iaload, 1), (35, .if_icmp .eq 5, 3), (38, .iconst 0, 1), (39, .ireturn, 1), (40, .iinc 2 1, 3), (43, .goto (-28), 3), (46, .iconst 1, 1), (47, .ireturn, 1)]
theorem xo83_0 : x_cOk prog_6_method_6_code xc83_0 = true := x_cOk_w (by decide +kernel)
def xg83 : Nat → Option (Instr × Nat) := fun pc => x_at2 pc xc83_0
theorem xh83 : x_Good prog_6_method_6_code xg83 := by
  unfold xg83
  exact x_Good_l xo83_0
def xm83 : XM := (⟨"TwoDigits$Row", "isLike", "(LTwoDigits$Row;)Z"⟩, prog_6_method_6_code, 3, some .boolean, 5, 5, 1, 0, 0, false, xg83)
def xc84_0 : List (Nat × Instr × Nat) := [(0, .aload_n 0, 1), (1, .iload_n 1, 1), (2, .invokevirtual 117, 3), (5, .astore 4, 2), (7, .aload 4, 2), (9, .ifnonnull 6, 3), (12, .bipush (-5), 2), (14, .ireturn, 1), (15, .iload_n 3, 1), (16, .ifCond .eq 11, 3), (19, .aload 4, 2), (21, .getfield 144, 3), (24, .goto 8, 3), (27, .aload 4, 2), (29, .getfield 137, 3), (32, .astore 5, 2), (34, .aload 5, 2), (36, .iload_n 2, 1), (37, .invokevirtual 219, 3), (40, .ifCond .eq 12, 3), (43, .aload 5, 2), (45, .iload_n 2, 1), (46, .invokevirtual 222, 3), (49, .goto 5, 3), (52, .bipush (-5), 2), (54, .ireturn, 1)]
theorem xo84_0 : x_cOk prog_1_method_12_code xc84_0 = true := x_cOk_w (by decide +kernel)
def xg84 : Nat → Option (Instr × Nat) := fun pc => x_at2 pc xc84_0
theorem xh84 : x_Good prog_1_method_12_code xg84 := by
  unfold xg84
  exact x_Good_l xo84_0
def xm84 : XM := (⟨"TwoDigits", "file", "(IIZ)I"⟩, prog_1_method_12_code, 6, some .int, 0, 0, 3, 0, 0, false, xg84)
def xc85_0 : List (Nat × Instr × Nat) := [(0, .aload_n 0, 1), (1, .iload_n 1, 1), (2, .invokevirtual 117, 3), (5, .astore_n 3, 1), (6, .aload_n 3, 1), (7, .ifnonnull 6, 3), (10, .bipush (-5), 2), (12, .ireturn, 1), (13, .iload_n 2, 1), (14, .tableswitch 41 0 2 #[26, 31, 36], 26), (40, .aload_n 3, 1), (41, .getfield 225, 3), (44, .ireturn, 1), (45, .aload_n 3, 1), (46, .getfield 228, 3), (49, .ireturn, 1), (50, .aload_n 3, 1), (51, .getfield 231, 3), (54, .ireturn, 1), (55, .bipush (-5), 2), (57, .ireturn, 1)]
theorem xo85_0 : x_cOk prog_1_method_13_code xc85_0 = true := x_cOk_w (by decide +kernel)
def xg85 : Nat → Option (Instr × Nat) := fun pc => x_at2 pc xc85_0
theorem xh85 : x_Good prog_1_method_13_code xg85 := by
  unfold xg85
  exact x_Good_l xo85_0
def xm85 : XM := (⟨"TwoDigits", "done", "(II)I"⟩, prog_1_method_13_code, 4, some .int, 0, 0, 2, 0, 0, false, xg85)
def xc86_0 : List (Nat × Instr × Nat) := [(0, .iload_n 1, 1), (1, .invokestatic 212, 3), (4, .ifCond .eq 10, 3), (7, .iload_n 2, 1), (8, .invokestatic 234, 3), (11, .ifCond .ne 5, 3), (14, .iconst (-1), 1), (15, .ireturn, 1), (16, .iload_n 1, 1), (17, .iload_n 2, 1), (18, .invokestatic 237, 3), (21, .ifCond .eq 7, 3), (24, .iconst 1, 1), (25, .goto 4, 3), (28, .iconst 0, 1), (29, .ireturn, 1)]
theorem xo86_0 : x_cOk prog_1_method_14_code xc86_0 = true := x_cOk_w (by decide +kernel)
def xg86 : Nat → Option (Instr × Nat) := fun pc => x_at2 pc xc86_0
theorem xh86 : x_Good prog_1_method_14_code xg86 := by
  unfold xg86
  exact x_Good_l xo86_0
def xm86 : XM := (⟨"TwoDigits", "leaps", "(II)I"⟩, prog_1_method_14_code, 3, some .int, 0, 0, 2, 0, 0, false, xg86)
def xc87_0 : List (Nat × Instr × Nat) := [(0, .iload_n 0, 1), (1, .iconst 0, 1), (2, .iconst 2, 1), (3, .invokestatic 178, 3), (6, .ireturn, 1)]
theorem xo87_0 : x_cOk prog_1_method_68_code xc87_0 = true := x_cOk_w (by decide +kernel)
def xg87 : Nat → Option (Instr × Nat) := fun pc => x_at2 pc xc87_0
theorem xh87 : x_Good prog_1_method_68_code xg87 := by
  unfold xg87
  exact x_Good_l xo87_0
def xm87 : XM := (⟨"TwoDigits", "isRule", "(I)Z"⟩, prog_1_method_68_code, 1, some .boolean, 0, 0, 1, 0, 0, false, xg87)
def xc88_0 : List (Nat × Instr × Nat) := [(0, .iload_n 1, 1), (1, .iconst 0, 1), (2, .bipush 99, 2), (4, .invokestatic 178, 3), (7, .ifCond .eq 13, 3), (10, .iload_n 2, 1), (11, .iconst 0, 1), (12, .bipush 100, 2), (14, .invokestatic 178, 3), (17, .ifCond .ne 5, 3), (20, .iconst (-1), 1), (21, .ireturn, 1), (22, .iload_n 1, 1), (23, .iload_n 2, 1), (24, .invokestatic 240, 3), (27, .ireturn, 1)]
theorem xo88_0 : x_cOk prog_1_method_15_code xc88_0 = true := x_cOk_w (by decide +kernel)
def xg88 : Nat → Option (Instr × Nat) := fun pc => x_at2 pc xc88_0
theorem xh88 : x_Good prog_1_method_15_code xg88 := by
  unfold xg88
  exact x_Good_l xo88_0
def xm88 : XM := (⟨"TwoDigits", "meant", "(II)I"⟩, prog_1_method_15_code, 3, some .int, 0, 0, 2, 0, 0, false, xg88)
def xc89_0 : List (Nat × Instr × Nat) := [(0, .iload_n 1, 1), (1, .invokestatic 212, 3), (4, .ifCond .ne 6, 3), (7, .bipush (-2), 2), (9, .ireturn, 1), (10, .iconst 0, 1), (11, .istore_n 2, 1), (12, .iconst 0, 1), (13, .istore_n 3, 1), (14, .iload_n 3, 1), (15, .aload_n 0, 1), (16, .getfield 107, 3), (19, .if_icmp .ge 82, 3), (22, .aload_n 0, 1), (23, .getfield 25, 3), (26, .iload_n 3, 1), (27, .aaload, 1), (28, .astore 4, 2), (30, .aload 4, 2), (32, .getfield 121, 3), (35, .iconst 5, 1), (36, .if_icmp .ne 27, 3), (39, .aload 4, 2), (41, .getfield 137, 3), (44, .invokevirtual 193, 3), (47, .aload 4, 2), (49, .getfield 144, 3), (52, .invokevirtual 193, 3), (55, .aload 4, 2), (57, .invokevirtual 244, 3), (60, .goto 10, 3), (63, .aload_n 0, 1), (64, .aload 4, 2), (66, .iload_n 1, 1), (67, .invokevirtual 215, 3), (70, .aload 4, 2), (72, .getfield 121, 3), (75, .iconst 5, 1), (76, .if_icmp .eq 11, 3), (79, .aload 4, 2), (81, .getfield 159, 3), (84, .ifCond .eq 11, 3), (87, .iload_n 2, 1), (88, .aload 4, 2), (90, .getfield 153, 3), (93, .iadd, 1), (94, .istore_n 2, 1), (95, .iinc 3 1, 3)]
theorem xo89_0 : x_cOk prog_1_method_16_code xc89_0 = true := x_cOk_w (by decide +kernel)
def xc89_1 : List (Nat × Instr × Nat) := [(98, .goto (-84), 3), (101, .iload_n 2, 1), (102, .ireturn, 1)]
theorem xo89_1 : x_cOk prog_1_method_16_code xc89_1 = true := x_cOk_w (by decide +kernel)
def xg89 : Nat → Option (Instr × Nat) := fun pc => if pc < 98 then x_at2 pc xc89_0 else x_at2 pc xc89_1
theorem xh89 : x_Good prog_1_method_16_code xg89 := by
  unfold xg89
  exact x_Good_ite (x_Good_l xo89_0) (x_Good_l xo89_1)
def xm89 : XM := (⟨"TwoDigits", "night", "(I)I"⟩, prog_1_method_16_code, 5, some .int, 0, 0, 1, 0, 0, false, xg89)
def xc90_0 : List (Nat × Instr × Nat) := [(0, .aload_n 0, 1), (1, .iconst (-1), 1), (2, .putfield 55, 3), (5, .aload_n 0, 1), (6, .iconst (-1), 1), (7, .putfield 58, 3), (10, .aload_n 0, 1), (11, .iconst (-1), 1), (12, .putfield 61, 3), (15, .aload_n 0, 1), (16, .iconst (-1), 1), (17, .putfield 64, 3), (20, .aload_n 0, 1), (21, .iconst (-1), 1), (22, .putfield 67, 3), (25, .aload_n 0, 1), (26, .iconst 0, 1), (27, .putfield 74, 3), (30, .return_, 1)]
theorem xo90_0 : x_cOk prog_5_method_2_code xc90_0 = true := x_cOk_w (by decide +kernel)
def xg90 : Nat → Option (Instr × Nat) := fun pc => x_at2 pc xc90_0
theorem xh90 : x_Good prog_5_method_2_code xg90 := by
  unfold xg90
  exact x_Good_l xo90_0
def xm90 : XM := (⟨"TwoDigits$Program", "forgetRun", "()V"⟩, prog_5_method_2_code, 1, none, 10, 10, 0, 0, 0, false, xg90)
def xc91_0 : List (Nat × Instr × Nat) := [(0, .aload_n 0, 1), (1, .iload_n 1, 1), (2, .invokevirtual 117, 3), (5, .ifnonnull 5, 3), (8, .iconst (-1), 1), (9, .ireturn, 1), (10, .iconst 0, 1), (11, .istore_n 2, 1), (12, .iconst 0, 1), (13, .istore_n 3, 1), (14, .iload_n 3, 1), (15, .aload_n 0, 1), (16, .getfield 107, 3), (19, .if_icmp .ge 61, 3), (22, .iconst 0, 1), (23, .istore 4, 2), (25, .iload 4, 2), (27, .aload_n 0, 1), (28, .getfield 107, 3), (31, .if_icmp .ge 43, 3), (34, .aload_n 0, 1), (35, .getfield 25, 3), (38, .iload 4, 2), (40, .aaload, 1), (41, .getfield 124, 3), (44, .istore 5, 2), (46, .iload 5, 2), (48, .iload_n 1, 1), (49, .if_icmp .eq 12, 3), (52, .iload_n 2, 1), (53, .iload 5, 2), (55, .invokestatic 247, 3), (58, .ifCond .eq 10, 3), (61, .iload_n 2, 1), (62, .iconst 1, 1), (63, .iload 4, 2), (65, .ishl, 1), (66, .ior, 1), (67, .istore_n 2, 1), (68, .iinc 4 1, 3), (71, .goto (-46), 3), (74, .iinc 3 1, 3), (77, .goto (-63), 3), (80, .iload_n 2, 1), (81, .ireturn, 1)]
theorem xo91_0 : x_cOk prog_1_method_17_code xc91_0 = true := x_cOk_w (by decide +kernel)
def xg91 : Nat → Option (Instr × Nat) := fun pc => x_at2 pc xc91_0
theorem xh91 : x_Good prog_1_method_17_code xg91 := by
  unfold xg91
  exact x_Good_l xo91_0
def xm91 : XM := (⟨"TwoDigits", "reach", "(I)I"⟩, prog_1_method_17_code, 6, some .int, 0, 0, 1, 0, 0, false, xg91)
def xc92_0 : List (Nat × Instr × Nat) := [(0, .aload_n 0, 1), (1, .iload_n 1, 1), (2, .invokevirtual 117, 3), (5, .astore 4, 2), (7, .aload_n 0, 1), (8, .iload_n 2, 1), (9, .invokevirtual 117, 3), (12, .astore 5, 2), (14, .aload 4, 2), (16, .ifnull 26, 3), (19, .aload 5, 2), (21, .ifnull 21, 3), (24, .iload_n 3, 1), (25, .ifCond .lt 17, 3), (28, .iload_n 3, 1), (29, .iconst 1, 1), (30, .if_icmp .gt 12, 3), (33, .aload 5, 2), (35, .getfield 124, 3), (38, .iload_n 1, 1), (39, .if_icmp .eq 5, 3), (42, .iconst (-1), 1), (43, .ireturn, 1), (44, .iconst 0, 1), (45, .istore 6, 2), (47, .iconst (-1), 1), (48, .istore 7, 2), (50, .bipush 99, 2), (52, .istore 8, 2), (54, .iload 8, 2), (56, .ifCond .lt 28, 3), (59, .aload 4, 2), (61, .aload 5, 2), (63, .iload 8, 2), (65, .invokestatic 250, 3), (68, .ifCond .eq 10, 3), (71, .iinc 6 1, 3), (74, .iload 8, 2), (76, .istore 7, 2), (78, .iinc 8 (-1), 3), (81, .goto (-27), 3), (84, .iload_n 3, 1), (85, .ifCond .ne 8, 3), (88, .iload 6, 2), (90, .goto 5, 3), (93, .iload 7, 2), (95, .ireturn, 1)]
theorem xo92_0 : x_cOk prog_1_method_18_code xc92_0 = true := x_cOk_w (by decide +kernel)
def xg92 : Nat → Option (Instr × Nat) := fun pc => x_at2 pc xc92_0
theorem xh92 : x_Good prog_1_method_18_code xg92 := by
  unfold xg92
  exact x_Good_l xo92_0
def xm92 : XM := (⟨"TwoDigits", "cross", "(III)I"⟩, prog_1_method_18_code, 9, some .int, 0, 0, 3, 0, 0, false, xg92)
def xc93_0 : List (Nat × Instr × Nat) := [(0, .iconst 0, 1), (1, .istore_n 3, 1), (2, .iload_n 3, 1), (3, .bipush 6, 2), (5, .if_icmp .ge 68, 3), (8, .iconst 0, 1), (9, .istore 4, 2), (11, .iload 4, 2), (13, .bipush 6, 2), (15, .if_icmp .ge 52, 3), (18, .aload_n 0, 1), (19, .iconst 2, 1), (20, .iload_n 3, 1), (21, .invokestatic 254, 3), (24, .ifCond .eq 37, 3), (27, .aload_n 1, 1), (28, .iconst 1, 1), (29, .iload 4, 2), (31, .invokestatic 254, 3), (34, .ifCond .eq 27, 3), (37, .aload_n 0, 1), (38, .getfield 127, 3), (41, .iload_n 3, 1), (42, .iload_n 2, 1), (43, .invokevirtual 258, 3), (46, .aload_n 1, 1), (47, .getfield 127, 3), (50, .iload 4, 2), (52, .iload_n 2, 1), (53, .invokevirtual 258, 3), (56, .if_icmp .eq 5, 3), (59, .iconst 1, 1), (60, .ireturn, 1), (61, .iinc 4 1, 3), (64, .goto (-53), 3), (67, .iinc 3 1, 3), (70, .goto (-68), 3), (73, .iconst 0, 1), (74, .ireturn, 1)]
theorem xo93_0 : x_cOk prog_1_method_19_code xc93_0 = true := x_cOk_w (by decide +kernel)
def xg93 : Nat → Option (Instr × Nat) := fun pc => x_at2 pc xc93_0
theorem xh93 : x_Good prog_1_method_19_code xg93 := by
  unfold xg93
  exact x_Good_l xo93_0
def xm93 : XM := (⟨"TwoDigits", "isCrossed", "(LTwoDigits$Program;LTwoDigits$Program;I)Z"⟩, prog_1_method_19_code, 5, some .boolean, 0, 0, 3, 0, 0, false, xg93)
end XCode2
end
section
/-! Instructions, by program: part 3. -/
section XCode3
def xc94_0 : List (Nat × Instr × Nat) := [(0, .aload_n 0, 1), (1, .getfield 127, 3), (4, .getfield 167, 3), (7, .iload_n 2, 1), (8, .iaload, 1), (9, .iconst 2, 1), (10, .if_icmp .ne 19, 3), (13, .aload_n 0, 1), (14, .getfield 133, 3), (17, .iload_n 1, 1), (18, .iload_n 2, 1), (19, .invokevirtual 261, 3), (22, .ifCond .eq 7, 3), (25, .iconst 1, 1), (26, .goto 4, 3), (29, .iconst 0, 1), (30, .ireturn, 1)]
theorem xo94_0 : x_cOk prog_1_method_20_code xc94_0 = true := x_cOk_w (by decide +kernel)
def xg94 : Nat → Option (Instr × Nat) := fun pc => x_at2 pc xc94_0
theorem xh94 : x_Good prog_1_method_20_code xg94 := by
  unfold xg94
  exact x_Good_l xo94_0
def xm94 : XM := (⟨"TwoDigits", "isTwoDigitField", "(LTwoDigits$Program;II)Z"⟩, prog_1_method_20_code, 3, some .boolean, 0, 0, 3, 0, 0, false, xg94)
def xc95_0 : List (Nat × Instr × Nat) := [(0, .iconst 0, 1), (1, .istore_n 3, 1), (2, .iload_n 3, 1), (3, .aload_n 0, 1), (4, .getfield 44, 3), (7, .if_icmp .ge 31, 3), (10, .aload_n 0, 1), (11, .getfield 9, 3), (14, .iload_n 3, 1), (15, .iaload, 1), (16, .iload_n 1, 1), (17, .if_icmp .ne 15, 3), (20, .aload_n 0, 1), (21, .getfield 13, 3), (24, .iload_n 3, 1), (25, .iaload, 1), (26, .iload_n 2, 1), (27, .if_icmp .ne 5, 3), (30, .iconst 1, 1), (31, .ireturn, 1), (32, .iinc 3 1, 3), (35, .goto (-33), 3), (38, .iconst 0, 1), (39, .ireturn, 1)]
theorem xo95_0 : x_cOk prog_3_method_4_code xc95_0 = true := x_cOk_w (by decide +kernel)
def xg95 : Nat → Option (Instr × Nat) := fun pc => x_at2 pc xc95_0
theorem xh95 : x_Good prog_3_method_4_code xg95 := by
  unfold xg95
  exact x_Good_l xo95_0
def xm95 : XM := (⟨"TwoDigits$Code", "uses", "(II)Z"⟩, prog_3_method_4_code, 4, some .boolean, 2, 2, 2, 0, 0, false, xg95)
def xc96_0 : List (Nat × Instr × Nat) := [(0, .aload_n 0, 1), (1, .iload_n 1, 1), (2, .invokevirtual 117, 3), (5, .astore 5, 2), (7, .aload 5, 2), (9, .ifnull 20, 3), (12, .iload_n 2, 1), (13, .invokestatic 264, 3), (16, .ifCond .eq 13, 3), (19, .iload 4, 2), (21, .iconst 0, 1), (22, .iconst 3, 1), (23, .invokestatic 178, 3), (26, .ifCond .ne 5, 3), (29, .iconst (-1), 1), (30, .ireturn, 1), (31, .iload_n 3, 1), (32, .invokestatic 267, 3), (35, .ifCond .ne 6, 3), (38, .bipush (-2), 2), (40, .ireturn, 1), (41, .aload 5, 2), (43, .iload 4, 2), (45, .invokestatic 270, 3), (48, .istore 6, 2), (50, .iload 6, 2), (52, .bipush (-3), 2), (54, .if_icmp .ne 6, 3), (57, .bipush (-3), 2), (59, .ireturn, 1), (60, .iload 6, 2), (62, .iconst 5, 1), (63, .if_icmp .ne 18, 3), (66, .aload 5, 2), (68, .aload 5, 2), (70, .getfield 121, 3), (73, .putfield 273, 3), (76, .aload 5, 2), (78, .invokevirtual 244, 3), (81, .aload 5, 2), (83, .iload 6, 2), (85, .putfield 121, 3), (88, .aload_n 0, 1), (89, .aload 5, 2), (91, .iload_n 1, 1), (92, .iload_n 2, 1), (93, .iload_n 3, 1), (94, .invokevirtual 276, 3)]
theorem xo96_0 : x_cOk prog_1_method_21_code xc96_0 = true := x_cOk_w (by decide +kernel)
def xc96_1 : List (Nat × Instr × Nat) := [(97, .ireturn, 1)]
theorem xo96_1 : x_cOk prog_1_method_21_code xc96_1 = true := x_cOk_w (by decide +kernel)
def xg96 : Nat → Option (Instr × Nat) := fun pc => if pc < 97 then x_at2 pc xc96_0 else x_at2 pc xc96_1
theorem xh96 : x_Good prog_1_method_21_code xg96 := by
  unfold xg96
  exact x_Good_ite (x_Good_l xo96_0) (x_Good_l xo96_1)
def xm96 : XM := (⟨"TwoDigits", "does", "(IIII)I"⟩, prog_1_method_21_code, 7, some .int, 0, 0, 4, 0, 0, false, xg96)
def xc97_0 : List (Nat × Instr × Nat) := [(0, .iload_n 0, 1), (1, .iconst 0, 1), (2, .bipush 7, 2), (4, .invokestatic 178, 3), (7, .ireturn, 1)]
theorem xo97_0 : x_cOk prog_1_method_66_code xc97_0 = true := x_cOk_w (by decide +kernel)
def xg97 : Nat → Option (Instr × Nat) := fun pc => x_at2 pc xc97_0
theorem xh97 : x_Good prog_1_method_66_code xg97 := by
  unfold xg97
  exact x_Good_l xo97_0
def xm97 : XM := (⟨"TwoDigits", "isHand", "(I)Z"⟩, prog_1_method_66_code, 1, some .boolean, 0, 0, 1, 0, 0, false, xg97)
def xc98_0 : List (Nat × Instr × Nat) := [(0, .iload_n 0, 1), (1, .iconst 0, 1), (2, .sipush 999, 3), (5, .invokestatic 178, 3), (8, .ireturn, 1)]
theorem xo98_0 : x_cOk prog_1_method_65_code xc98_0 = true := x_cOk_w (by decide +kernel)
def xg98 : Nat → Option (Instr × Nat) := fun pc => x_at2 pc xc98_0
theorem xh98 : x_Good prog_1_method_65_code xg98 := by
  unfold xg98
  exact x_Good_l xo98_0
def xm98 : XM := (⟨"TwoDigits", "isDay", "(I)Z"⟩, prog_1_method_65_code, 1, some .boolean, 0, 0, 1, 0, 0, false, xg98)
def xc99_0 : List (Nat × Instr × Nat) := [(0, .iload_n 1, 1), (1, .tableswitch 71 0 2 #[27, 41, 56], 27), (28, .aload_n 0, 1), (29, .getfield 121, 3), (32, .ifCond .ne 7, 3), (35, .iconst 1, 1), (36, .goto 5, 3), (39, .bipush (-3), 2), (41, .ireturn, 1), (42, .aload_n 0, 1), (43, .getfield 121, 3), (46, .iconst 3, 1), (47, .if_icmp .ne 7, 3), (50, .iconst 4, 1), (51, .goto 5, 3), (54, .bipush (-3), 2), (56, .ireturn, 1), (57, .aload_n 0, 1), (58, .getfield 121, 3), (61, .iconst 5, 1), (62, .if_icmp .eq 7, 3), (65, .iconst 5, 1), (66, .goto 5, 3), (69, .bipush (-3), 2), (71, .ireturn, 1), (72, .aload_n 0, 1), (73, .getfield 121, 3), (76, .iconst 5, 1), (77, .if_icmp .ne 10, 3), (80, .aload_n 0, 1), (81, .getfield 273, 3), (84, .goto 5, 3), (87, .bipush (-3), 2), (89, .ireturn, 1)]
theorem xo99_0 : x_cOk prog_1_method_22_code xc99_0 = true := x_cOk_w (by decide +kernel)
def xg99 : Nat → Option (Instr × Nat) := fun pc => x_at2 pc xc99_0
theorem xh99 : x_Good prog_1_method_22_code xg99 := by
  unfold xg99
  exact x_Good_l xo99_0
def xm99 : XM := (⟨"TwoDigits", "stateAfter", "(LTwoDigits$Program;I)I"⟩, prog_1_method_22_code, 2, some .int, 0, 0, 2, 0, 0, false, xg99)
def xc100_0 : List (Nat × Instr × Nat) := [(0, .aload_n 0, 1), (1, .getfield 59, 3), (4, .iload_n 2, 1), (5, .iload_n 3, 1), (6, .iload 4, 2), (8, .aload_n 1, 1), (9, .getfield 121, 3), (12, .iconst 0, 1), (13, .invokevirtual 291, 3), (16, .pop, 1), (17, .aload_n 1, 1), (18, .getfield 121, 3), (21, .ireturn, 1)]
theorem xo100_0 : x_cOk prog_1_method_27_code xc100_0 = true := x_cOk_w (by decide +kernel)
def xg100 : Nat → Option (Instr × Nat) := fun pc => x_at2 pc xc100_0
theorem xh100 : x_Good prog_1_method_27_code xg100 := by
  unfold xg100
  exact x_Good_l xo100_0
def xm100 : XM := (⟨"TwoDigits", "intoBook", "(LTwoDigits$Program;III)I"⟩, prog_1_method_27_code, 5, some .int, 0, 0, 4, 0, 0, false, xg100)
def xc101_0 : List (Nat × Instr × Nat) := [(0, .aload_n 0, 1), (1, .dup, 1), (2, .getfield 22, 3), (5, .iconst 1, 1), (6, .iadd, 1), (7, .putfield 22, 3), (10, .aload_n 0, 1), (11, .getfield 25, 3), (14, .aload_n 0, 1), (15, .getfield 9, 3), (18, .if_icmp .lt 6, 3), (21, .bipush (-4), 2), (23, .ireturn, 1), (24, .aload_n 0, 1), (25, .aload_n 0, 1), (26, .getfield 25, 3), (29, .iconst 0, 1), (30, .iload_n 1, 1), (31, .invokevirtual 28, 3), (34, .aload_n 0, 1), (35, .aload_n 0, 1), (36, .getfield 25, 3), (39, .iconst 1, 1), (40, .iload_n 2, 1), (41, .invokevirtual 28, 3), (44, .aload_n 0, 1), (45, .aload_n 0, 1), (46, .getfield 25, 3), (49, .iconst 2, 1), (50, .iload_n 3, 1), (51, .invokevirtual 28, 3), (54, .aload_n 0, 1), (55, .aload_n 0, 1), (56, .getfield 25, 3), (59, .iconst 3, 1), (60, .iload 4, 2), (62, .invokevirtual 28, 3), (65, .aload_n 0, 1), (66, .aload_n 0, 1), (67, .getfield 25, 3), (70, .iconst 4, 1), (71, .iload 5, 2), (73, .invokevirtual 28, 3), (76, .aload_n 0, 1), (77, .dup, 1), (78, .getfield 25, 3), (81, .iconst 1, 1), (82, .iadd, 1)]
theorem xo101_0 : x_cOk prog_10_method_2_code xc101_0 = true := x_cOk_w (by decide +kernel)
def xc101_1 : List (Nat × Instr × Nat) := [(83, .putfield 25, 3), (86, .aload_n 0, 1), (87, .getfield 25, 3), (90, .iconst 1, 1), (91, .isub, 1), (92, .ireturn, 1)]
theorem xo101_1 : x_cOk prog_10_method_2_code xc101_1 = true := x_cOk_w (by decide +kernel)
def xg101 : Nat → Option (Instr × Nat) := fun pc => if pc < 83 then x_at2 pc xc101_0 else x_at2 pc xc101_1
theorem xh101 : x_Good prog_10_method_2_code xg101 := by
  unfold xg101
  exact x_Good_ite (x_Good_l xo101_0) (x_Good_l xo101_1)
def xm101 : XM := (⟨"TwoDigits$Table", "add", "(IIIII)I"⟩, prog_10_method_2_code, 6, some .int, 6, 6, 5, 0, 0, false, xg101)
def xc102_0 : List (Nat × Instr × Nat) := [(0, .iload_n 2, 1), (1, .aload_n 0, 1), (2, .getfield 15, 3), (5, .if_icmp .ge 17, 3), (8, .aload_n 0, 1), (9, .getfield 18, 3), (12, .iload_n 1, 1), (13, .aload_n 0, 1), (14, .getfield 15, 3), (17, .imul, 1), (18, .iload_n 2, 1), (19, .iadd, 1), (20, .iload_n 3, 1), (21, .iastore, 1), (22, .return_, 1)]
theorem xo102_0 : x_cOk prog_10_method_3_code xc102_0 = true := x_cOk_w (by decide +kernel)
def xg102 : Nat → Option (Instr × Nat) := fun pc => x_at2 pc xc102_0
theorem xh102 : x_Good prog_10_method_3_code xg102 := by
  unfold xg102
  exact x_Good_l xo102_0
def xm102 : XM := (⟨"TwoDigits$Table", "put", "(III)V"⟩, prog_10_method_3_code, 4, none, 6, 6, 3, 0, 0, false, xg102)
def xc103_0 : List (Nat × Instr × Nat) := [(0, .aload_n 0, 1), (1, .iload_n 1, 1), (2, .invokevirtual 117, 3), (5, .astore 7, 2), (7, .aload 7, 2), (9, .ifnull 18, 3), (12, .iload 4, 2), (14, .invokestatic 163, 3), (17, .ifCond .eq 10, 3), (20, .iload_n 2, 1), (21, .invokestatic 264, 3), (24, .ifCond .ne 5, 3), (27, .iconst (-1), 1), (28, .ireturn, 1), (29, .iload_n 3, 1), (30, .invokestatic 267, 3), (33, .ifCond .eq 13, 3), (36, .iload 5, 2), (38, .iload 6, 2), (40, .invokestatic 280, 3), (43, .ifCond .ne 6, 3), (46, .bipush (-2), 2), (48, .ireturn, 1), (49, .aload 7, 2), (51, .invokestatic 283, 3), (54, .ifCond .ne 6, 3), (57, .bipush (-3), 2), (59, .ireturn, 1), (60, .aload 7, 2), (62, .getfield 127, 3), (65, .iload 4, 2), (67, .iload 5, 2), (69, .iload 6, 2), (71, .invokevirtual 287, 3), (74, .aload 7, 2), (76, .iconst 2, 1), (77, .putfield 121, 3), (80, .aload_n 0, 1), (81, .aload 7, 2), (83, .iload_n 1, 1), (84, .iload_n 2, 1), (85, .iload_n 3, 1), (86, .invokevirtual 276, 3), (89, .ireturn, 1)]
theorem xo103_0 : x_cOk prog_1_method_23_code xc103_0 = true := x_cOk_w (by decide +kernel)
def xg103 : Nat → Option (Instr × Nat) := fun pc => x_at2 pc xc103_0
theorem xh103 : x_Good prog_1_method_23_code xg103 := by
  unfold xg103
  exact x_Good_l xo103_0
def xm103 : XM := (⟨"TwoDigits", "mend", "(IIIIII)I"⟩, prog_1_method_23_code, 8, some .int, 0, 0, 6, 0, 0, false, xg103)
def xc104_0 : List (Nat × Instr × Nat) := [(0, .iload_n 0, 1), (1, .iconst 2, 1), (2, .if_icmp .eq 8, 3), (5, .iload_n 0, 1), (6, .iconst 4, 1), (7, .if_icmp .ne 17, 3), (10, .iload_n 1, 1), (11, .iconst (-1), 1), (12, .bipush 100, 2), (14, .invokestatic 178, 3), (17, .ifCond .eq 7, 3), (20, .iconst 1, 1), (21, .goto 4, 3), (24, .iconst 0, 1), (25, .ireturn, 1)]
theorem xo104_0 : x_cOk prog_1_method_69_code xc104_0 = true := x_cOk_w (by decide +kernel)
def xg104 : Nat → Option (Instr × Nat) := fun pc => x_at2 pc xc104_0
theorem xh104 : x_Good prog_1_method_69_code xg104 := by
  unfold xg104
  exact x_Good_l xo104_0
def xm104 : XM := (⟨"TwoDigits", "isKept", "(II)Z"⟩, prog_1_method_69_code, 2, some .boolean, 0, 0, 2, 0, 0, false, xg104)
def xc105_0 : List (Nat × Instr × Nat) := [(0, .aload_n 0, 1), (1, .getfield 121, 3), (4, .iconst 1, 1), (5, .if_icmp .eq 19, 3), (8, .aload_n 0, 1), (9, .getfield 121, 3), (12, .iconst 2, 1), (13, .if_icmp .eq 11, 3), (16, .aload_n 0, 1), (17, .getfield 121, 3), (20, .iconst 3, 1), (21, .if_icmp .ne 7, 3), (24, .iconst 1, 1), (25, .goto 4, 3), (28, .iconst 0, 1), (29, .ireturn, 1)]
theorem xo105_0 : x_cOk prog_1_method_25_code xc105_0 = true := x_cOk_w (by decide +kernel)
def xg105 : Nat → Option (Instr × Nat) := fun pc => x_at2 pc xc105_0
theorem xh105 : x_Good prog_1_method_25_code xg105 := by
  unfold xg105
  exact x_Good_l xo105_0
def xm105 : XM := (⟨"TwoDigits", "canBeMended", "(LTwoDigits$Program;)Z"⟩, prog_1_method_25_code, 1, some .boolean, 0, 0, 1, 0, 0, false, xg105)
def xc106_0 : List (Nat × Instr × Nat) := [(0, .aload_n 0, 1), (1, .getfield 9, 3), (4, .iload_n 1, 1), (5, .iload_n 2, 1), (6, .iastore, 1), (7, .aload_n 0, 1), (8, .getfield 15, 3), (11, .iload_n 1, 1), (12, .iload_n 3, 1), (13, .iastore, 1), (14, .return_, 1)]
theorem xo106_0 : x_cOk prog_8_method_3_code xc106_0 = true := x_cOk_w (by decide +kernel)
def xg106 : Nat → Option (Instr × Nat) := fun pc => x_at2 pc xc106_0
theorem xh106 : x_Good prog_8_method_3_code xg106 := by
  unfold xg106
  exact x_Good_l xo106_0
def xm106 : XM := (⟨"TwoDigits$Setting", "change", "(III)V"⟩, prog_8_method_3_code, 4, none, 3, 3, 3, 0, 0, false, xg106)
def xc107_0 : List (Nat × Instr × Nat) := [(0, .aload_n 0, 1), (1, .iload_n 1, 1), (2, .invokevirtual 117, 3), (5, .astore 5, 2), (7, .aload 5, 2), (9, .ifnull 10, 3), (12, .iload_n 2, 1), (13, .invokestatic 264, 3), (16, .ifCond .ne 5, 3), (19, .iconst (-1), 1), (20, .ireturn, 1), (21, .iload_n 3, 1), (22, .invokestatic 267, 3), (25, .ifCond .eq 11, 3), (28, .iload 4, 2), (30, .invokestatic 234, 3), (33, .ifCond .ne 6, 3), (36, .bipush (-2), 2), (38, .ireturn, 1), (39, .aload 5, 2), (41, .invokestatic 283, 3), (44, .ifCond .ne 6, 3), (47, .bipush (-3), 2), (49, .ireturn, 1), (50, .aload 5, 2), (52, .getfield 127, 3), (55, .iload 4, 2), (57, .putfield 130, 3), (60, .aload 5, 2), (62, .iconst 2, 1), (63, .putfield 121, 3), (66, .aload_n 0, 1), (67, .aload 5, 2), (69, .iload_n 1, 1), (70, .iload_n 2, 1), (71, .iload_n 3, 1), (72, .invokevirtual 276, 3), (75, .ireturn, 1)]
theorem xo107_0 : x_cOk prog_1_method_24_code xc107_0 = true := x_cOk_w (by decide +kernel)
def xg107 : Nat → Option (Instr × Nat) := fun pc => x_at2 pc xc107_0
theorem xh107 : x_Good prog_1_method_24_code xg107 := by
  unfold xg107
  exact x_Good_l xo107_0
def xm107 : XM := (⟨"TwoDigits", "mendRule", "(IIII)I"⟩, prog_1_method_24_code, 6, some .int, 0, 0, 4, 0, 0, false, xg107)
def xc108_0 : List (Nat × Instr × Nat) := [(0, .aload_n 0, 1), (1, .iload_n 1, 1), (2, .invokevirtual 117, 3), (5, .astore 5, 2), (7, .aload 5, 2), (9, .ifnull 10, 3), (12, .iload_n 2, 1), (13, .invokestatic 264, 3), (16, .ifCond .ne 5, 3), (19, .iconst (-1), 1), (20, .ireturn, 1), (21, .iload_n 3, 1), (22, .invokestatic 267, 3), (25, .ifCond .eq 11, 3), (28, .iload 4, 2), (30, .invokestatic 212, 3), (33, .ifCond .ne 6, 3), (36, .bipush (-2), 2), (38, .ireturn, 1), (39, .aload 5, 2), (41, .getfield 121, 3), (44, .iconst 2, 1), (45, .if_icmp .eq 6, 3), (48, .bipush (-3), 2), (50, .ireturn, 1), (51, .aload_n 0, 1), (52, .aload 5, 2), (54, .iload 4, 2), (56, .invokevirtual 215, 3), (59, .aload 5, 2), (61, .getfield 159, 3), (64, .ifCond .ne 9, 3), (67, .aload 5, 2), (69, .iconst 3, 1), (70, .putfield 121, 3), (73, .aload_n 0, 1), (74, .aload 5, 2), (76, .iload_n 1, 1), (77, .iload_n 2, 1), (78, .iload_n 3, 1), (79, .invokevirtual 276, 3), (82, .ireturn, 1)]
theorem xo108_0 : x_cOk prog_1_method_26_code xc108_0 = true := x_cOk_w (by decide +kernel)
def xg108 : Nat → Option (Instr × Nat) := fun pc => x_at2 pc xc108_0
theorem xh108 : x_Good prog_1_method_26_code xg108 := by
  unfold xg108
  exact x_Good_l xo108_0
def xm108 : XM := (⟨"TwoDigits", "test", "(IIII)I"⟩, prog_1_method_26_code, 6, some .int, 0, 0, 4, 0, 0, false, xg108)
def xc109_0 : List (Nat × Instr × Nat) := [(0, .aload_n 0, 1), (1, .getfield 59, 3), (4, .iload_n 1, 1), (5, .iload_n 2, 1), (6, .invokevirtual 294, 3), (9, .ifCond .eq 15, 3), (12, .aload_n 0, 1), (13, .getfield 59, 3), (16, .iload_n 1, 1), (17, .iload_n 2, 1), (18, .invokevirtual 296, 3), (21, .goto 5, 3), (24, .bipush (-5), 2), (26, .ireturn, 1)]
theorem xo109_0 : x_cOk prog_1_method_28_code xc109_0 = true := x_cOk_w (by decide +kernel)
def xg109 : Nat → Option (Instr × Nat) := fun pc => x_at2 pc xc109_0
theorem xh109 : x_Good prog_1_method_28_code xg109 := by
  unfold xg109
  exact x_Good_l xo109_0
def xm109 : XM := (⟨"TwoDigits", "book", "(II)I"⟩, prog_1_method_28_code, 3, some .int, 0, 0, 2, 0, 0, false, xg109)
def xc110_0 : List (Nat × Instr × Nat) := [(0, .iload_n 1, 1), (1, .ifCond .lt 27, 3), (4, .iload_n 1, 1), (5, .aload_n 0, 1), (6, .getfield 25, 3), (9, .if_icmp .ge 19, 3), (12, .iload_n 2, 1), (13, .ifCond .lt 15, 3), (16, .iload_n 2, 1), (17, .aload_n 0, 1), (18, .getfield 15, 3), (21, .if_icmp .ge 7, 3), (24, .iconst 1, 1), (25, .goto 4, 3), (28, .iconst 0, 1), (29, .ireturn, 1)]
theorem xo110_0 : x_cOk prog_10_method_4_code xc110_0 = true := x_cOk_w (by decide +kernel)
def xg110 : Nat → Option (Instr × Nat) := fun pc => x_at2 pc xc110_0
theorem xh110 : x_Good prog_10_method_4_code xg110 := by
  unfold xg110
  exact x_Good_l xo110_0
def xm110 : XM := (⟨"TwoDigits$Table", "has", "(II)Z"⟩, prog_10_method_4_code, 3, some .boolean, 6, 6, 2, 0, 0, false, xg110)
def xc111_0 : List (Nat × Instr × Nat) := [(0, .aload_n 0, 1), (1, .iload_n 1, 1), (2, .iload_n 2, 1), (3, .invokevirtual 32, 3), (6, .ifCond .eq 19, 3), (9, .aload_n 0, 1), (10, .getfield 18, 3), (13, .iload_n 1, 1), (14, .aload_n 0, 1), (15, .getfield 15, 3), (18, .imul, 1), (19, .iload_n 2, 1), (20, .iadd, 1), (21, .iaload, 1), (22, .goto 4, 3), (25, .iconst 0, 1), (26, .ireturn, 1)]
theorem xo111_0 : x_cOk prog_10_method_5_code xc111_0 = true := x_cOk_w (by decide +kernel)
def xg111 : Nat → Option (Instr × Nat) := fun pc => x_at2 pc xc111_0
theorem xh111 : x_Good prog_10_method_5_code xg111 := by
  unfold xg111
  exact x_Good_l xo111_0
def xm111 : XM := (⟨"TwoDigits$Table", "get", "(II)I"⟩, prog_10_method_5_code, 3, some .int, 6, 6, 2, 0, 0, false, xg111)
def xc112_0 : List (Nat × Instr × Nat) := [(0, .aload_n 0, 1), (1, .iload_n 1, 1), (2, .invokevirtual 117, 3), (5, .astore 6, 2), (7, .aload 6, 2), (9, .ifnull 21, 3), (12, .iload_n 2, 1), (13, .invokestatic 163, 3), (16, .ifCond .eq 14, 3), (19, .iload 5, 2), (21, .ifCond .lt 9, 3), (24, .iload 5, 2), (26, .iconst 1, 1), (27, .if_icmp .le 5, 3), (30, .iconst (-1), 1), (31, .ireturn, 1), (32, .iload_n 3, 1), (33, .iload 4, 2), (35, .invokestatic 280, 3), (38, .ifCond .ne 6, 3), (41, .bipush (-2), 2), (43, .ireturn, 1), (44, .aload_n 0, 1), (45, .aload 6, 2), (47, .iload_n 2, 1), (48, .iload_n 3, 1), (49, .iload 4, 2), (51, .invokevirtual 298, 3), (54, .iconst 0, 1), (55, .istore 7, 2), (57, .iconst (-1), 1), (58, .istore 8, 2), (60, .sipush 2099, 3), (63, .istore 9, 2), (65, .iload 9, 2), (67, .sipush 1900, 3), (70, .if_icmp .lt 29, 3), (73, .aload_n 0, 1), (74, .aload 6, 2), (76, .iload 9, 2), (78, .invokevirtual 302, 3), (81, .iconst 1, 1), (82, .iand, 1), (83, .ifCond .eq 10, 3), (86, .iinc 7 1, 3), (89, .iload 9, 2), (91, .istore 8, 2), (93, .iinc 9 (-1), 3)]
theorem xo112_0 : x_cOk prog_1_method_29_code xc112_0 = true := x_cOk_w (by decide +kernel)
def xc112_1 : List (Nat × Instr × Nat) := [(96, .goto (-31), 3), (99, .iload 5, 2), (101, .ifCond .ne 8, 3), (104, .iload 7, 2), (106, .goto 5, 3), (109, .iload 8, 2), (111, .ireturn, 1)]
theorem xo112_1 : x_cOk prog_1_method_29_code xc112_1 = true := x_cOk_w (by decide +kernel)
def xg112 : Nat → Option (Instr × Nat) := fun pc => if pc < 96 then x_at2 pc xc112_0 else x_at2 pc xc112_1
theorem xh112 : x_Good prog_1_method_29_code xg112 := by
  unfold xg112
  exact x_Good_ite (x_Good_l xo112_0) (x_Good_l xo112_1)
def xm112 : XM := (⟨"TwoDigits", "breaks", "(IIIII)I"⟩, prog_1_method_29_code, 10, some .int, 0, 0, 5, 0, 0, false, xg112)
def xc113_0 : List (Nat × Instr × Nat) := [(0, .aload_n 0, 1), (1, .getfield 41, 3), (4, .aload_n 1, 1), (5, .getfield 127, 3), (8, .invokevirtual 305, 3), (11, .aload_n 0, 1), (12, .getfield 41, 3), (15, .iload_n 2, 1), (16, .iload_n 3, 1), (17, .iload 4, 2), (19, .invokevirtual 287, 3), (22, .return_, 1)]
theorem xo113_0 : x_cOk prog_1_method_30_code xc113_0 = true := x_cOk_w (by decide +kernel)
def xg113 : Nat → Option (Instr × Nat) := fun pc => x_at2 pc xc113_0
theorem xh113 : x_Good prog_1_method_30_code xg113 := by
  unfold xg113
  exact x_Good_l xo113_0
def xm113 : XM := (⟨"TwoDigits", "alter", "(LTwoDigits$Program;III)V"⟩, prog_1_method_30_code, 5, none, 0, 0, 4, 0, 0, false, xg113)
def xc114_0 : List (Nat × Instr × Nat) := [(0, .aload_n 1, 1), (1, .getfield 9, 3), (4, .iconst 0, 1), (5, .aload_n 0, 1), (6, .getfield 9, 3), (9, .iconst 0, 1), (10, .bipush 6, 2), (12, .invokestatic 26, 3), (15, .aload_n 1, 1), (16, .getfield 15, 3), (19, .iconst 0, 1), (20, .aload_n 0, 1), (21, .getfield 15, 3), (24, .iconst 0, 1), (25, .bipush 6, 2), (27, .invokestatic 26, 3), (30, .aload_n 0, 1), (31, .aload_n 1, 1), (32, .getfield 22, 3), (35, .putfield 22, 3), (38, .return_, 1)]
theorem xo114_0 : x_cOk prog_8_method_2_code xc114_0 = true := x_cOk_w (by decide +kernel)
def xg114 : Nat → Option (Instr × Nat) := fun pc => x_at2 pc xc114_0
theorem xh114 : x_Good prog_8_method_2_code xg114 := by
  unfold xg114
  exact x_Good_l xo114_0
def xm114 : XM := (⟨"TwoDigits$Setting", "takeOver", "(LTwoDigits$Setting;)V"⟩, prog_8_method_2_code, 2, none, 3, 3, 1, 0, 0, false, xg114)
def xc115_0 : List (Nat × Instr × Nat) := [(0, .aload_n 0, 1), (1, .getfield 47, 3), (4, .aload_n 1, 1), (5, .getfield 133, 3), (8, .aload_n 1, 1), (9, .getfield 127, 3), (12, .aload_n 0, 1), (13, .aload_n 1, 1), (14, .invokevirtual 309, 3), (17, .aload_n 0, 1), (18, .getfield 47, 3), (21, .getfield 313, 3), (24, .iload_n 2, 1), (25, .invokevirtual 316, 3), (28, .aload_n 0, 1), (29, .getfield 51, 3), (32, .aload_n 1, 1), (33, .getfield 133, 3), (36, .aload_n 0, 1), (37, .getfield 41, 3), (40, .aload_n 0, 1), (41, .aload_n 1, 1), (42, .invokevirtual 309, 3), (45, .aload_n 0, 1), (46, .getfield 51, 3), (49, .getfield 313, 3), (52, .iload_n 2, 1), (53, .invokevirtual 316, 3), (56, .aload_n 0, 1), (57, .getfield 47, 3), (60, .invokevirtual 320, 3), (63, .istore_n 3, 1), (64, .aload_n 0, 1), (65, .getfield 51, 3), (68, .invokevirtual 320, 3), (71, .istore 4, 2), (73, .aload_n 0, 1), (74, .getfield 47, 3), (77, .getfield 313, 3), (80, .aload_n 0, 1), (81, .getfield 51, 3), (84, .getfield 313, 3), (87, .invokevirtual 324, 3), (90, .ifCond .eq 7, 3), (93, .iconst 0, 1), (94, .goto 4, 3), (97, .iconst 1, 1), (98, .istore 5, 2)]
theorem xo115_0 : x_cOk prog_1_method_31_code xc115_0 = true := x_cOk_w (by decide +kernel)
def xc115_1 : List (Nat × Instr × Nat) := [(100, .iload_n 3, 1), (101, .iload 4, 2), (103, .if_icmp .ne 8, 3), (106, .iload 5, 2), (108, .goto 7, 3), (111, .iload 5, 2), (113, .iconst 2, 1), (114, .ior, 1), (115, .ireturn, 1)]
theorem xo115_1 : x_cOk prog_1_method_31_code xc115_1 = true := x_cOk_w (by decide +kernel)
def xg115 : Nat → Option (Instr × Nat) := fun pc => if pc < 100 then x_at2 pc xc115_0 else x_at2 pc xc115_1
theorem xh115 : x_Good prog_1_method_31_code xg115 := by
  unfold xg115
  exact x_Good_ite (x_Good_l xo115_0) (x_Good_l xo115_1)
def xm115 : XM := (⟨"TwoDigits", "changesByAltered", "(LTwoDigits$Program;I)I"⟩, prog_1_method_31_code, 6, some .int, 0, 0, 2, 0, 0, false, xg115)
def xc116_0 : List (Nat × Instr × Nat) := [(0, .iconst 0, 1), (1, .istore_n 1, 1), (2, .iload_n 1, 1), (3, .sipush 150, 3), (6, .if_icmp .ge 20, 3), (9, .aload_n 0, 1), (10, .invokevirtual 66, 3), (13, .ifCond .ne 13, 3), (16, .aload_n 0, 1), (17, .invokevirtual 70, 3), (20, .iinc 1 1, 3), (23, .goto (-21), 3), (26, .aload_n 0, 1), (27, .getfield 44, 3), (30, .ireturn, 1)]
theorem xo116_0 : x_cOk prog_7_method_4_code xc116_0 = true := x_cOk_w (by decide +kernel)
def xg116 : Nat → Option (Instr × Nat) := fun pc => x_at2 pc xc116_0
theorem xh116 : x_Good prog_7_method_4_code xg116 := by
  unfold xg116
  exact x_Good_l xo116_0
def xm116 : XM := (⟨"TwoDigits$Runner", "finish", "()I"⟩, prog_7_method_4_code, 2, some .int, 4, 4, 0, 0, 0, false, xg116)
def xc117_0 : List (Nat × Instr × Nat) := [(0, .iload_n 1, 1), (1, .iconst 0, 1), (2, .bipush 100, 2), (4, .invokestatic 178, 3), (7, .ifCond .eq 10, 3), (10, .iload_n 2, 1), (11, .invokestatic 234, 3), (14, .ifCond .ne 6, 3), (17, .bipush (-2), 2), (19, .ireturn, 1), (20, .aload_n 0, 1), (21, .getfield 328, 3), (24, .bipush 6, 2), (26, .if_icmp .lt 6, 3), (29, .bipush (-4), 2), (31, .ireturn, 1), (32, .aload_n 0, 1), (33, .getfield 65, 3), (36, .aload_n 0, 1), (37, .getfield 328, 3), (40, .new 63, 3), (43, .dup, 1), (44, .iload_n 1, 1), (45, .iload_n 2, 1), (46, .invokespecial 331, 3), (49, .aastore, 1), (50, .aload_n 0, 1), (51, .dup, 1), (52, .getfield 328, 3), (55, .iconst 1, 1), (56, .iadd, 1), (57, .putfield 328, 3), (60, .aload_n 0, 1), (61, .getfield 328, 3), (64, .iconst 1, 1), (65, .isub, 1), (66, .ireturn, 1)]
theorem xo117_0 : x_cOk prog_1_method_32_code xc117_0 = true := x_cOk_w (by decide +kernel)
def xg117 : Nat → Option (Instr × Nat) := fun pc => x_at2 pc xc117_0
theorem xh117 : x_Good prog_1_method_32_code xg117 := by
  unfold xg117
  exact x_Good_l xo117_0
def xm117 : XM := (⟨"TwoDigits", "chip", "(II)I"⟩, prog_1_method_32_code, 3, some .int, 0, 0, 2, 1, 6, false, xg117)
def xc118_0 : List (Nat × Instr × Nat) := [(0, .aload_n 0, 1), (1, .invokespecial 3, 3), (4, .aload_n 0, 1), (5, .iconst 0, 1), (6, .putfield 9, 3), (9, .aload_n 0, 1), (10, .bipush 100, 2), (12, .putfield 15, 3), (15, .aload_n 0, 1), (16, .bipush 7, 2), (18, .putfield 18, 3), (21, .aload_n 0, 1), (22, .iload_n 1, 1), (23, .putfield 21, 3), (26, .aload_n 0, 1), (27, .iload_n 2, 1), (28, .putfield 24, 3), (31, .return_, 1)]
theorem xo118_0 : x_cOk prog_2_method_1_code xc118_0 = true := x_cOk_w (by decide +kernel)
def xg118 : Nat → Option (Instr × Nat) := fun pc => x_at2 pc xc118_0
theorem xh118 : x_Good prog_2_method_1_code xg118 := by
  unfold xg118
  exact x_Good_l xo118_0
def xm118 : XM := (⟨"TwoDigits$Chip", "<init>", "(II)V"⟩, prog_2_method_1_code, 3, none, 11, 11, 2, 0, 0, true, xg118)
def xc119_0 : List (Nat × Instr × Nat) := [(0, .aload_n 0, 1), (1, .iload_n 1, 1), (2, .invokevirtual 332, 3), (5, .astore_n 3, 1), (6, .aload_n 3, 1), (7, .ifnonnull 5, 3), (10, .iconst (-1), 1), (11, .ireturn, 1), (12, .iload_n 2, 1), (13, .invokestatic 212, 3), (16, .ifCond .ne 6, 3), (19, .bipush (-2), 2), (21, .ireturn, 1), (22, .aload_n 3, 1), (23, .getfield 336, 3), (26, .bipush 30, 2), (28, .if_icmp .lt 6, 3), (31, .bipush (-4), 2), (33, .ireturn, 1), (34, .aload_n 3, 1), (35, .iload_n 2, 1), (36, .bipush 100, 2), (38, .irem, 1), (39, .invokevirtual 339, 3), (42, .ireturn, 1)]
theorem xo119_0 : x_cOk prog_1_method_33_code xc119_0 = true := x_cOk_w (by decide +kernel)
def xg119 : Nat → Option (Instr × Nat) := fun pc => x_at2 pc xc119_0
theorem xh119 : x_Good prog_1_method_33_code xg119 := by
  unfold xg119
  exact x_Good_l xo119_0
def xm119 : XM := (⟨"TwoDigits", "ask", "(II)I"⟩, prog_1_method_33_code, 4, some .int, 0, 0, 2, 0, 0, false, xg119)
def xc120_0 : List (Nat × Instr × Nat) := [(0, .iload_n 1, 1), (1, .ifCond .lt 20, 3), (4, .iload_n 1, 1), (5, .aload_n 0, 1), (6, .getfield 328, 3), (9, .if_icmp .ge 12, 3), (12, .aload_n 0, 1), (13, .getfield 65, 3), (16, .iload_n 1, 1), (17, .aaload, 1), (18, .goto 4, 3), (21, .aconst_null, 1), (22, .areturn, 1)]
theorem xo120_0 : x_cOk prog_1_method_61_code xc120_0 = true := x_cOk_w (by decide +kernel)
def xg120 : Nat → Option (Instr × Nat) := fun pc => x_at2 pc xc120_0
theorem xh120 : x_Good prog_1_method_61_code xg120 := by
  unfold xg120
  exact x_Good_l xo120_0
def xm120 : XM := (⟨"TwoDigits", "chipAt", "(I)LTwoDigits$Chip;"⟩, prog_1_method_61_code, 2, some (.object "TwoDigits$Chip"), 0, 0, 1, 0, 0, false, xg120)
def xc121_0 : List (Nat × Instr × Nat) := [(0, .aload_n 0, 1), (1, .dup, 1), (2, .getfield 27, 3), (5, .iconst 1, 1), (6, .iadd, 1), (7, .putfield 27, 3), (10, .iload_n 1, 1), (11, .aload_n 0, 1), (12, .getfield 21, 3), (15, .invokestatic 30, 3), (18, .istore_n 2, 1), (19, .iload_n 2, 1), (20, .aload_n 0, 1), (21, .getfield 24, 3), (24, .invokestatic 34, 3), (27, .istore_n 3, 1), (28, .iload_n 1, 1), (29, .aload_n 0, 1), (30, .getfield 21, 3), (33, .if_icmp .lt 18, 3), (36, .aload_n 0, 1), (37, .aload_n 0, 1), (38, .getfield 15, 3), (41, .iload_n 1, 1), (42, .invokestatic 38, 3), (45, .putfield 15, 3), (48, .goto 17, 3), (51, .aload_n 0, 1), (52, .aload_n 0, 1), (53, .getfield 9, 3), (56, .iload_n 1, 1), (57, .iconst 1, 1), (58, .iadd, 1), (59, .invokestatic 43, 3), (62, .putfield 9, 3), (65, .aload_n 0, 1), (66, .dup, 1), (67, .getfield 18, 3), (70, .iload_n 3, 1), (71, .ifCond .eq 10, 3), (74, .iload_n 2, 1), (75, .invokestatic 46, 3), (78, .goto 9, 3), (81, .iload_n 2, 1), (82, .invokestatic 46, 3), (85, .iconst (-1), 1), (86, .ixor, 1), (87, .iand, 1)]
theorem xo121_0 : x_cOk prog_2_method_2_code xc121_0 = true := x_cOk_w (by decide +kernel)
def xc121_1 : List (Nat × Instr × Nat) := [(88, .putfield 18, 3), (91, .iconst 2, 1), (92, .iload_n 2, 1), (93, .imul, 1), (94, .iload_n 3, 1), (95, .ifCond .eq 7, 3), (98, .iconst 1, 1), (99, .goto 4, 3), (102, .iconst 0, 1), (103, .iadd, 1), (104, .ireturn, 1)]
theorem xo121_1 : x_cOk prog_2_method_2_code xc121_1 = true := x_cOk_w (by decide +kernel)
def xg121 : Nat → Option (Instr × Nat) := fun pc => if pc < 88 then x_at2 pc xc121_0 else x_at2 pc xc121_1
theorem xh121 : x_Good prog_2_method_2_code xg121 := by
  unfold xg121
  exact x_Good_ite (x_Good_l xo121_0) (x_Good_l xo121_1)
def xm121 : XM := (⟨"TwoDigits$Chip", "answer", "(I)I"⟩, prog_2_method_2_code, 4, some .int, 11, 11, 1, 0, 0, false, xg121)
def xc122_0 : List (Nat × Instr × Nat) := [(0, .iload_n 0, 1), (1, .iload_n 1, 1), (2, .if_icmp .gt 7, 3), (5, .iload_n 0, 1), (6, .goto 4, 3), (9, .iload_n 1, 1), (10, .ireturn, 1)]
theorem xo122_0 : x_cOk prog_16_method_69_code xc122_0 = true := x_cOk_w (by decide +kernel)
def xg122 : Nat → Option (Instr × Nat) := fun pc => x_at2 pc xc122_0
theorem xh122 : x_Good prog_16_method_69_code xg122 := by
  unfold xg122
  exact x_Good_l xo122_0
def xm122 : XM := (⟨"java/lang/Math", "min", "(II)I"⟩, prog_16_method_69_code, 2, some .int, 14, 114, 2, 0, 0, false, xg122)
def xc123_0 : List (Nat × Instr × Nat) := [(0, .iconst 0, 1), (1, .istore_n 1, 1), (2, .iconst 0, 1), (3, .istore_n 2, 1), (4, .iload_n 2, 1), (5, .iconst 3, 1), (6, .if_icmp .ge 27, 3), (9, .iload_n 1, 1), (10, .iload_n 0, 1), (11, .iload_n 2, 1), (12, .invokestatic 34, 3), (15, .ifCond .eq 9, 3), (18, .iconst 1, 1), (19, .iload_n 2, 1), (20, .ishl, 1), (21, .goto 4, 3), (24, .iconst 0, 1), (25, .ior, 1), (26, .istore_n 1, 1), (27, .iinc 2 1, 3), (30, .goto (-26), 3), (33, .iload_n 1, 1), (34, .ireturn, 1)]
theorem xo123_0 : x_cOk prog_2_method_3_code xc123_0 = true := x_cOk_w (by decide +kernel)
def xg123 : Nat → Option (Instr × Nat) := fun pc => x_at2 pc xc123_0
theorem xh123 : x_Good prog_2_method_3_code xg123 := by
  unfold xg123
  exact x_Good_l xo123_0
def xm123 : XM := (⟨"TwoDigits$Chip", "leapingRules", "(I)I"⟩, prog_2_method_3_code, 3, some .int, 11, 11, 1, 0, 0, false, xg123)
def xc124_0 : List (Nat × Instr × Nat) := [(0, .aload_n 0, 1), (1, .iload_n 1, 1), (2, .invokevirtual 332, 3), (5, .astore_n 3, 1), (6, .aload_n 3, 1), (7, .ifnonnull 5, 3), (10, .iconst (-1), 1), (11, .ireturn, 1), (12, .iload_n 2, 1), (13, .tableswitch 59 0 3 #[31, 36, 41, 50], 31), (44, .aload_n 3, 1), (45, .invokevirtual 342, 3), (48, .ireturn, 1), (49, .aload_n 3, 1), (50, .invokevirtual 345, 3), (53, .ireturn, 1), (54, .sipush 1900, 3), (57, .aload_n 3, 1), (58, .invokevirtual 348, 3), (61, .iadd, 1), (62, .ireturn, 1), (63, .aload_n 3, 1), (64, .aload_n 3, 1), (65, .invokevirtual 348, 3), (68, .invokevirtual 351, 3), (71, .ireturn, 1), (72, .iconst (-1), 1), (73, .ireturn, 1)]
theorem xo124_0 : x_cOk prog_1_method_34_code xc124_0 = true := x_cOk_w (by decide +kernel)
def xg124 : Nat → Option (Instr × Nat) := fun pc => x_at2 pc xc124_0
theorem xh124 : x_Good prog_1_method_34_code xg124 := by
  unfold xg124
  exact x_Good_l xo124_0
def xm124 : XM := (⟨"TwoDigits", "fit", "(II)I"⟩, prog_1_method_34_code, 4, some .int, 0, 0, 2, 0, 0, false, xg124)
def xc125_0 : List (Nat × Instr × Nat) := [(0, .aload_n 0, 1), (1, .getfield 15, 3), (4, .aload_n 0, 1), (5, .getfield 9, 3), (8, .isub, 1), (9, .iconst 1, 1), (10, .iadd, 1), (11, .aload_n 0, 1), (12, .getfield 18, 3), (15, .invokestatic 50, 3), (18, .imul, 1), (19, .ireturn, 1)]
theorem xo125_0 : x_cOk prog_2_method_4_code xc125_0 = true := x_cOk_w (by decide +kernel)
def xg125 : Nat → Option (Instr × Nat) := fun pc => x_at2 pc xc125_0
theorem xh125 : x_Good prog_2_method_4_code xg125 := by
  unfold xg125
  exact x_Good_l xo125_0
def xm125 : XM := (⟨"TwoDigits$Chip", "fitting", "()I"⟩, prog_2_method_4_code, 1, some .int, 11, 11, 0, 0, 0, false, xg125)
def xc126_0 : List (Nat × Instr × Nat) := [(0, .iload_n 0, 1), (1, .iload_n 0, 1), (2, .iconst 1, 1), (3, .iushr, 1), (4, .ldc_w 265, 3), (7, .iand, 1), (8, .isub, 1), (9, .istore_n 0, 1), (10, .iload_n 0, 1), (11, .ldc_w 266, 3), (14, .iand, 1), (15, .iload_n 0, 1), (16, .iconst 2, 1), (17, .iushr, 1), (18, .ldc_w 266, 3), (21, .iand, 1), (22, .iadd, 1), (23, .istore_n 0, 1), (24, .iload_n 0, 1), (25, .iload_n 0, 1), (26, .iconst 4, 1), (27, .iushr, 1), (28, .iadd, 1), (29, .ldc_w 267, 3), (32, .iand, 1), (33, .istore_n 0, 1), (34, .iload_n 0, 1), (35, .iload_n 0, 1), (36, .bipush 8, 2), (38, .iushr, 1), (39, .iadd, 1), (40, .istore_n 0, 1), (41, .iload_n 0, 1), (42, .iload_n 0, 1), (43, .bipush 16, 2), (45, .iushr, 1), (46, .iadd, 1), (47, .istore_n 0, 1), (48, .iload_n 0, 1), (49, .bipush 63, 2), (51, .iand, 1), (52, .ireturn, 1)]
theorem xo126_0 : x_cOk prog_15_method_49_code xc126_0 = true := x_cOk_w (by decide +kernel)
def xg126 : Nat → Option (Instr × Nat) := fun pc => x_at2 pc xc126_0
theorem xh126 : x_Good prog_15_method_49_code xg126 := by
  unfold xg126
  exact x_Good_l xo126_0
def xm126 : XM := (⟨"java/lang/Integer", "bitCount", "(I)I"⟩, prog_15_method_49_code, 1, some .int, 13, 113, 1, 0, 0, false, xg126)
def xc127_0 : List (Nat × Instr × Nat) := [(0, .iconst 0, 1), (1, .istore_n 1, 1), (2, .iload_n 1, 1), (3, .iconst 3, 1), (4, .if_icmp .ge 29, 3), (7, .aload_n 0, 1), (8, .getfield 18, 3), (11, .iload_n 1, 1), (12, .invokestatic 55, 3), (15, .ifCond .eq 12, 3), (18, .aload_n 0, 1), (19, .getfield 9, 3), (22, .iconst 3, 1), (23, .imul, 1), (24, .iload_n 1, 1), (25, .iadd, 1), (26, .ireturn, 1), (27, .iinc 1 1, 3), (30, .goto (-28), 3), (33, .iconst (-1), 1), (34, .ireturn, 1)]
theorem xo127_0 : x_cOk prog_2_method_5_code xc127_0 = true := x_cOk_w (by decide +kernel)
def xg127 : Nat → Option (Instr × Nat) := fun pc => x_at2 pc xc127_0
theorem xh127 : x_Good prog_2_method_5_code xg127 := by
  unfold xg127
  exact x_Good_l xo127_0
def xm127 : XM := (⟨"TwoDigits$Chip", "leastFitting", "()I"⟩, prog_2_method_5_code, 2, some .int, 11, 11, 0, 0, 0, false, xg127)
def xc128_0 : List (Nat × Instr × Nat) := [(0, .iconst 0, 1), (1, .istore_n 1, 1), (2, .iconst 1, 1), (3, .istore_n 2, 1), (4, .iload_n 2, 1), (5, .bipush 100, 2), (7, .if_icmp .ge 24, 3), (10, .aload_n 0, 1), (11, .iload_n 2, 1), (12, .invokevirtual 58, 3), (15, .aload_n 0, 1), (16, .iload_n 1, 1), (17, .invokevirtual 58, 3), (20, .if_icmp .ge 5, 3), (23, .iload_n 2, 1), (24, .istore_n 1, 1), (25, .iinc 2 1, 3), (28, .goto (-24), 3), (31, .iload_n 1, 1), (32, .ireturn, 1)]
theorem xo128_0 : x_cOk prog_2_method_6_code xc128_0 = true := x_cOk_w (by decide +kernel)
def xg128 : Nat → Option (Instr × Nat) := fun pc => x_at2 pc xc128_0
theorem xh128 : x_Good prog_2_method_6_code xg128 := by
  unfold xg128
  exact x_Good_l xo128_0
def xm128 : XM := (⟨"TwoDigits$Chip", "mostParting", "()I"⟩, prog_2_method_6_code, 3, some .int, 11, 11, 0, 0, 0, false, xg128)
def xc129_0 : List (Nat × Instr × Nat) := [(0, .iconst 0, 1), (1, .iload_n 1, 1), (2, .aload_n 0, 1), (3, .getfield 15, 3), (6, .invokestatic 38, 3), (9, .aload_n 0, 1), (10, .getfield 9, 3), (13, .isub, 1), (14, .iconst 1, 1), (15, .iadd, 1), (16, .invokestatic 43, 3), (19, .istore_n 2, 1), (20, .aload_n 0, 1), (21, .getfield 15, 3), (24, .aload_n 0, 1), (25, .getfield 9, 3), (28, .isub, 1), (29, .iconst 1, 1), (30, .iadd, 1), (31, .iload_n 2, 1), (32, .isub, 1), (33, .istore_n 3, 1), (34, .iload_n 2, 1), (35, .aload_n 0, 1), (36, .sipush 1900, 3), (39, .iload_n 1, 1), (40, .iadd, 1), (41, .invokevirtual 61, 3), (44, .imul, 1), (45, .iload_n 3, 1), (46, .aload_n 0, 1), (47, .sipush 2000, 3), (50, .iload_n 1, 1), (51, .iadd, 1), (52, .invokevirtual 61, 3), (55, .imul, 1), (56, .invokestatic 43, 3), (59, .ireturn, 1)]
theorem xo129_0 : x_cOk prog_2_method_7_code xc129_0 = true := x_cOk_w (by decide +kernel)
def xg129 : Nat → Option (Instr × Nat) := fun pc => x_at2 pc xc129_0
theorem xh129 : x_Good prog_2_method_7_code xg129 := by
  unfold xg129
  exact x_Good_l xo129_0
def xm129 : XM := (⟨"TwoDigits$Chip", "mostAlike", "(I)I"⟩, prog_2_method_7_code, 4, some .int, 11, 11, 1, 0, 0, false, xg129)
def xc130_0 : List (Nat × Instr × Nat) := [(0, .aload_n 0, 1), (1, .getfield 18, 3), (4, .iload_n 1, 1), (5, .invokestatic 46, 3), (8, .iand, 1), (9, .invokestatic 50, 3), (12, .istore_n 2, 1), (13, .iload_n 2, 1), (14, .aload_n 0, 1), (15, .getfield 18, 3), (18, .invokestatic 50, 3), (21, .iload_n 2, 1), (22, .isub, 1), (23, .invokestatic 43, 3), (26, .ireturn, 1)]
theorem xo130_0 : x_cOk prog_2_method_8_code xc130_0 = true := x_cOk_w (by decide +kernel)
def xg130 : Nat → Option (Instr × Nat) := fun pc => x_at2 pc xc130_0
theorem xh130 : x_Good prog_2_method_8_code xg130 := by
  unfold xg130
  exact x_Good_l xo130_0
def xm130 : XM := (⟨"TwoDigits$Chip", "mostRulesAlike", "(I)I"⟩, prog_2_method_8_code, 3, some .int, 11, 11, 1, 0, 0, false, xg130)
def xc131_0 : List (Nat × Instr × Nat) := [(0, .aload_n 0, 1), (1, .iload_n 1, 1), (2, .invokevirtual 117, 3), (5, .ifnull 13, 3), (8, .iload 4, 2), (10, .iconst 0, 1), (11, .iconst 5, 1), (12, .invokestatic 178, 3), (15, .ifCond .ne 5, 3), (18, .iconst (-1), 1), (19, .ireturn, 1), (20, .iload_n 2, 1), (21, .invokestatic 267, 3), (24, .ifCond .eq 17, 3), (27, .iload 5, 2), (29, .invokestatic 267, 3), (32, .ifCond .eq 9, 3), (35, .iload 5, 2), (37, .iload_n 2, 1), (38, .if_icmp .ge 6, 3), (41, .bipush (-2), 2), (43, .ireturn, 1), (44, .aload_n 0, 1), (45, .getfield 69, 3), (48, .iload_n 1, 1), (49, .iload_n 2, 1), (50, .iload_n 3, 1), (51, .ifCond .eq 7, 3), (54, .iconst 1, 1), (55, .goto 4, 3), (58, .iconst 0, 1), (59, .iload 4, 2), (61, .iload 5, 2), (63, .invokevirtual 291, 3), (66, .ireturn, 1)]
theorem xo131_0 : x_cOk prog_1_method_35_code xc131_0 = true := x_cOk_w (by decide +kernel)
def xg131 : Nat → Option (Instr × Nat) := fun pc => x_at2 pc xc131_0
theorem xh131 : x_Good prog_1_method_35_code xg131 := by
  unfold xg131
  exact x_Good_l xo131_0
def xm131 : XM := (⟨"TwoDigits", "sign", "(IIZII)I"⟩, prog_1_method_35_code, 6, some .int, 0, 0, 5, 0, 0, false, xg131)
def xc132_0 : List (Nat × Instr × Nat) := [(0, .aload_n 0, 1), (1, .iload_n 1, 1), (2, .invokevirtual 117, 3), (5, .ifnull 19, 3), (8, .iload_n 2, 1), (9, .iconst 0, 1), (10, .iconst 5, 1), (11, .invokestatic 178, 3), (14, .ifCond .eq 10, 3), (17, .iload_n 3, 1), (18, .invokestatic 267, 3), (21, .ifCond .ne 6, 3), (24, .bipush (-5), 2), (26, .ireturn, 1), (27, .iconst (-1), 1), (28, .istore 4, 2), (30, .iconst (-1), 1), (31, .istore 5, 2), (33, .iconst 0, 1), (34, .istore 6, 2), (36, .iload 6, 2), (38, .aload_n 0, 1), (39, .getfield 69, 3), (42, .getfield 354, 3), (45, .if_icmp .ge 102, 3), (48, .aload_n 0, 1), (49, .getfield 69, 3), (52, .iload 6, 2), (54, .iconst 0, 1), (55, .invokevirtual 296, 3), (58, .iload_n 1, 1), (59, .if_icmp .ne 35, 3), (62, .aload_n 0, 1), (63, .getfield 69, 3), (66, .iload 6, 2), (68, .iconst 3, 1), (69, .invokevirtual 296, 3), (72, .iload_n 2, 1), (73, .if_icmp .ne 21, 3), (76, .aload_n 0, 1), (77, .getfield 69, 3), (80, .iload 6, 2), (82, .iconst 4, 1), (83, .invokevirtual 296, 3), (86, .iload_n 3, 1), (87, .if_icmp .gt 7, 3), (90, .iconst 1, 1), (91, .goto 4, 3)]
theorem xo132_0 : x_cOk prog_1_method_36_code xc132_0 = true := x_cOk_w (by decide +kernel)
def xc132_1 : List (Nat × Instr × Nat) := [(94, .iconst 0, 1), (95, .istore 7, 2), (97, .iload 7, 2), (99, .ifCond .eq 42, 3), (102, .aload_n 0, 1), (103, .getfield 69, 3), (106, .iload 6, 2), (108, .iconst 1, 1), (109, .invokevirtual 296, 3), (112, .iload 4, 2), (114, .if_icmp .lt 27, 3), (117, .aload_n 0, 1), (118, .getfield 69, 3), (121, .iload 6, 2), (123, .iconst 1, 1), (124, .invokevirtual 296, 3), (127, .istore 4, 2), (129, .aload_n 0, 1), (130, .getfield 69, 3), (133, .iload 6, 2), (135, .iconst 2, 1), (136, .invokevirtual 296, 3), (139, .istore 5, 2), (141, .iinc 6 1, 3), (144, .goto (-108), 3), (147, .iload 5, 2), (149, .ireturn, 1)]
theorem xo132_1 : x_cOk prog_1_method_36_code xc132_1 = true := x_cOk_w (by decide +kernel)
def xg132 : Nat → Option (Instr × Nat) := fun pc => if pc < 94 then x_at2 pc xc132_0 else x_at2 pc xc132_1
theorem xh132 : x_Good prog_1_method_36_code xg132 := by
  unfold xg132
  exact x_Good_ite (x_Good_l xo132_0) (x_Good_l xo132_1)
def xm132 : XM := (⟨"TwoDigits", "knew", "(III)I"⟩, prog_1_method_36_code, 8, some .int, 0, 0, 3, 0, 0, false, xg132)
def xc133_0 : List (Nat × Instr × Nat) := [(0, .iload_n 1, 1), (1, .invokestatic 212, 3), (4, .ifCond .eq 18, 3), (7, .aload_n 0, 1), (8, .getfield 72, 3), (11, .iload_n 1, 1), (12, .iconst 0, 1), (13, .iconst 0, 1), (14, .iconst 0, 1), (15, .iconst 0, 1), (16, .invokevirtual 291, 3), (19, .goto 5, 3), (22, .bipush (-2), 2), (24, .ireturn, 1)]
theorem xo133_0 : x_cOk prog_1_method_37_code xc133_0 = true := x_cOk_w (by decide +kernel)
def xg133 : Nat → Option (Instr × Nat) := fun pc => x_at2 pc xc133_0
theorem xh133 : x_Good prog_1_method_37_code xg133 := by
  unfold xg133
  exact x_Good_l xo133_0
def xm133 : XM := (⟨"TwoDigits", "testYear", "(I)I"⟩, prog_1_method_37_code, 2, some .int, 0, 0, 1, 0, 0, false, xg133)
def xc134_0 : List (Nat × Instr × Nat) := [(0, .aload_n 0, 1), (1, .iload_n 1, 1), (2, .invokevirtual 117, 3), (5, .ifnull 10, 3), (8, .iload_n 2, 1), (9, .invokestatic 163, 3), (12, .ifCond .ne 5, 3), (15, .iconst (-1), 1), (16, .ireturn, 1), (17, .iload_n 3, 1), (18, .iload 4, 2), (20, .invokestatic 280, 3), (23, .ifCond .ne 6, 3), (26, .bipush (-2), 2), (28, .ireturn, 1), (29, .aload_n 0, 1), (30, .getfield 75, 3), (33, .iload_n 1, 1), (34, .iload_n 2, 1), (35, .iload_n 3, 1), (36, .iload 4, 2), (38, .iconst 0, 1), (39, .invokevirtual 291, 3), (42, .ireturn, 1)]
theorem xo134_0 : x_cOk prog_1_method_38_code xc134_0 = true := x_cOk_w (by decide +kernel)
def xg134 : Nat → Option (Instr × Nat) := fun pc => x_at2 pc xc134_0
theorem xh134 : x_Good prog_1_method_38_code xg134 := by
  unfold xg134
  exact x_Good_l xo134_0
def xm134 : XM := (⟨"TwoDigits", "fault", "(IIII)I"⟩, prog_1_method_38_code, 5, some .int, 0, 0, 4, 0, 0, false, xg134)
def xc135_0 : List (Nat × Instr × Nat) := [(0, .aload_n 0, 1), (1, .getfield 72, 3), (4, .iload_n 1, 1), (5, .iconst 0, 1), (6, .invokevirtual 294, 3), (9, .ifCond .eq 15, 3), (12, .aload_n 0, 1), (13, .getfield 75, 3), (16, .iload_n 2, 1), (17, .iconst 0, 1), (18, .invokevirtual 294, 3), (21, .ifCond .ne 5, 3), (24, .iconst (-1), 1), (25, .ireturn, 1), (26, .aload_n 0, 1), (27, .iload_n 1, 1), (28, .iload_n 2, 1), (29, .invokevirtual 355, 3), (32, .ifCond .eq 7, 3), (35, .iconst 1, 1), (36, .goto 4, 3), (39, .iconst 0, 1), (40, .ireturn, 1)]
theorem xo135_0 : x_cOk prog_1_method_39_code xc135_0 = true := x_cOk_w (by decide +kernel)
def xg135 : Nat → Option (Instr × Nat) := fun pc => x_at2 pc xc135_0
theorem xh135 : x_Good prog_1_method_39_code xg135 := by
  unfold xg135
  exact x_Good_l xo135_0
def xm135 : XM := (⟨"TwoDigits", "shows", "(II)I"⟩, prog_1_method_39_code, 3, some .int, 0, 0, 2, 0, 0, false, xg135)
def xc136_0 : List (Nat × Instr × Nat) := [(0, .aload_n 0, 1), (1, .aload_n 0, 1), (2, .getfield 75, 3), (5, .iload_n 2, 1), (6, .iconst 0, 1), (7, .invokevirtual 296, 3), (10, .invokevirtual 117, 3), (13, .astore_n 3, 1), (14, .aload_n 0, 1), (15, .getfield 75, 3), (18, .iload_n 2, 1), (19, .iconst 1, 1), (20, .invokevirtual 296, 3), (23, .istore 4, 2), (25, .aload_n 3, 1), (26, .ifnull 11, 3), (29, .iload 4, 2), (31, .invokestatic 163, 3), (34, .ifCond .ne 5, 3), (37, .iconst 0, 1), (38, .ireturn, 1), (39, .aload_n 0, 1), (40, .aload_n 3, 1), (41, .iload 4, 2), (43, .aload_n 0, 1), (44, .getfield 75, 3), (47, .iload_n 2, 1), (48, .iconst 2, 1), (49, .invokevirtual 296, 3), (52, .aload_n 0, 1), (53, .getfield 75, 3), (56, .iload_n 2, 1), (57, .iconst 3, 1), (58, .invokevirtual 296, 3), (61, .invokevirtual 298, 3), (64, .aload_n 0, 1), (65, .aload_n 3, 1), (66, .aload_n 0, 1), (67, .getfield 72, 3), (70, .iload_n 1, 1), (71, .iconst 0, 1), (72, .invokevirtual 296, 3), (75, .invokevirtual 302, 3), (78, .ifCond .eq 7, 3), (81, .iconst 1, 1), (82, .goto 4, 3), (85, .iconst 0, 1), (86, .ireturn, 1)]
theorem xo136_0 : x_cOk prog_1_method_40_code xc136_0 = true := x_cOk_w (by decide +kernel)
def xg136 : Nat → Option (Instr × Nat) := fun pc => x_at2 pc xc136_0
theorem xh136 : x_Good prog_1_method_40_code xg136 := by
  unfold xg136
  exact x_Good_l xo136_0
def xm136 : XM := (⟨"TwoDigits", "isShown", "(II)Z"⟩, prog_1_method_40_code, 5, some .boolean, 0, 0, 2, 0, 0, false, xg136)
def xc137_0 : List (Nat × Instr × Nat) := [(0, .iload_n 1, 1), (1, .ifCond .lt 8, 3), (4, .iload_n 1, 1), (5, .iconst 1, 1), (6, .if_icmp .le 5, 3), (9, .iconst (-1), 1), (10, .ireturn, 1), (11, .iconst 0, 1), (12, .istore_n 2, 1), (13, .iload_n 2, 1), (14, .aload_n 0, 1), (15, .getfield 72, 3), (18, .getfield 354, 3), (21, .if_icmp .ge 63, 3), (24, .iconst 0, 1), (25, .istore_n 3, 1), (26, .iconst 0, 1), (27, .istore 4, 2), (29, .iload 4, 2), (31, .aload_n 0, 1), (32, .getfield 75, 3), (35, .getfield 354, 3), (38, .if_icmp .ge 30, 3), (41, .iload_n 3, 1), (42, .aload_n 0, 1), (43, .iload_n 2, 1), (44, .iload 4, 2), (46, .invokevirtual 355, 3), (49, .ifCond .eq 10, 3), (52, .iconst 1, 1), (53, .iload 4, 2), (55, .ishl, 1), (56, .goto 4, 3), (59, .iconst 0, 1), (60, .ior, 1), (61, .istore_n 3, 1), (62, .iinc 4 1, 3), (65, .goto (-36), 3), (68, .aload_n 0, 1), (69, .getfield 72, 3), (72, .iload_n 2, 1), (73, .iconst 1, 1), (74, .iload_n 3, 1), (75, .invokevirtual 358, 3), (78, .iinc 2 1, 3), (81, .goto (-68), 3), (84, .aload_n 0, 1), (85, .iconst (-1), 1)]
theorem xo137_0 : x_cOk prog_1_method_41_code xc137_0 = true := x_cOk_w (by decide +kernel)
def xc137_1 : List (Nat × Instr × Nat) := [(86, .invokevirtual 361, 3), (89, .istore_n 2, 1), (90, .iload_n 1, 1), (91, .ifCond .ne 11, 3), (94, .aload_n 0, 1), (95, .iload_n 2, 1), (96, .invokevirtual 364, 3), (99, .goto 7, 3), (102, .iload_n 2, 1), (103, .invokestatic 367, 3), (106, .ireturn, 1)]
theorem xo137_1 : x_cOk prog_1_method_41_code xc137_1 = true := x_cOk_w (by decide +kernel)
def xg137 : Nat → Option (Instr × Nat) := fun pc => if pc < 86 then x_at2 pc xc137_0 else x_at2 pc xc137_1
theorem xh137 : x_Good prog_1_method_41_code xg137 := by
  unfold xg137
  exact x_Good_ite (x_Good_l xo137_0) (x_Good_l xo137_1)
def xm137 : XM := (⟨"TwoDigits", "cover", "(I)I"⟩, prog_1_method_41_code, 5, some .int, 0, 0, 1, 0, 0, false, xg137)
def xc138_0 : List (Nat × Instr × Nat) := [(0, .iconst 0, 1), (1, .istore_n 2, 1), (2, .iconst 0, 1), (3, .istore_n 3, 1), (4, .iload_n 3, 1), (5, .aload_n 0, 1), (6, .getfield 72, 3), (9, .getfield 354, 3), (12, .if_icmp .ge 29, 3), (15, .iload_n 1, 1), (16, .iload_n 3, 1), (17, .invokestatic 247, 3), (20, .ifCond .eq 15, 3), (23, .iload_n 2, 1), (24, .aload_n 0, 1), (25, .getfield 72, 3), (28, .iload_n 3, 1), (29, .iconst 1, 1), (30, .invokevirtual 296, 3), (33, .ior, 1), (34, .istore_n 2, 1), (35, .iinc 3 1, 3), (38, .goto (-34), 3), (41, .iload_n 2, 1), (42, .ireturn, 1)]
theorem xo138_0 : x_cOk prog_1_method_42_code xc138_0 = true := x_cOk_w (by decide +kernel)
def xg138 : Nat → Option (Instr × Nat) := fun pc => x_at2 pc xc138_0
theorem xh138 : x_Good prog_1_method_42_code xg138 := by
  unfold xg138
  exact x_Good_l xo138_0
def xm138 : XM := (⟨"TwoDigits", "faultsShown", "(I)I"⟩, prog_1_method_42_code, 4, some .int, 0, 0, 1, 0, 0, false, xg138)
def xc139_0 : List (Nat × Instr × Nat) := [(0, .iconst 1, 1), (1, .aload_n 0, 1), (2, .getfield 72, 3), (5, .getfield 354, 3), (8, .ishl, 1), (9, .iconst 1, 1), (10, .isub, 1), (11, .istore_n 2, 1), (12, .iload_n 2, 1), (13, .iconst 1, 1), (14, .isub, 1), (15, .istore_n 3, 1), (16, .iload_n 3, 1), (17, .ifCond .lt 31, 3), (20, .iload_n 3, 1), (21, .invokestatic 367, 3), (24, .iload_n 2, 1), (25, .invokestatic 367, 3), (28, .if_icmp .gt 14, 3), (31, .aload_n 0, 1), (32, .iload_n 3, 1), (33, .invokevirtual 361, 3), (36, .iload_n 1, 1), (37, .if_icmp .ne 5, 3), (40, .iload_n 3, 1), (41, .istore_n 2, 1), (42, .iinc 3 (-1), 3), (45, .goto (-29), 3), (48, .iload_n 2, 1), (49, .ireturn, 1)]
theorem xo139_0 : x_cOk prog_1_method_43_code xc139_0 = true := x_cOk_w (by decide +kernel)
def xg139 : Nat → Option (Instr × Nat) := fun pc => x_at2 pc xc139_0
theorem xh139 : x_Good prog_1_method_43_code xg139 := by
  unfold xg139
  exact x_Good_l xo139_0
def xm139 : XM := (⟨"TwoDigits", "fewestTests", "(I)I"⟩, prog_1_method_43_code, 4, some .int, 0, 0, 1, 0, 0, false, xg139)
def xc140_0 : List (Nat × Instr × Nat) := [(0, .iload_n 1, 1), (1, .ifCond .lt 13, 3), (4, .iload_n 1, 1), (5, .iconst 1, 1), (6, .aload_n 0, 1), (7, .getfield 107, 3), (10, .ishl, 1), (11, .if_icmp .lt 7, 3), (14, .iconst 1, 1), (15, .goto 4, 3), (18, .iconst 0, 1), (19, .istore 5, 2), (21, .iload 4, 2), (23, .ifCond .lt 14, 3), (26, .iload 4, 2), (28, .iconst 2, 1), (29, .if_icmp .gt 8, 3), (32, .iload 5, 2), (34, .ifCond .eq 5, 3), (37, .iconst (-1), 1), (38, .ireturn, 1), (39, .iload_n 1, 1), (40, .invokestatic 367, 3), (43, .bipush 8, 2), (45, .if_icmp .gt 17, 3), (48, .iload_n 2, 1), (49, .invokestatic 267, 3), (52, .ifCond .eq 10, 3), (55, .iload_n 3, 1), (56, .invokestatic 212, 3), (59, .ifCond .ne 6, 3), (62, .bipush (-2), 2), (64, .ireturn, 1), (65, .aload_n 0, 1), (66, .iload_n 3, 1), (67, .iconst 0, 1), (68, .invokevirtual 372, 3), (71, .aload_n 0, 1), (72, .iload_n 1, 1), (73, .iload_n 2, 1), (74, .iload_n 3, 1), (75, .invokevirtual 376, 3), (78, .istore 6, 2), (80, .iload 4, 2), (82, .lookupswitch 38 #[(0, 26), (1, 35)], 26), (108, .aload_n 0, 1), (109, .iload 6, 2), (111, .iload_n 3, 1)]
theorem xo140_0 : x_cOk prog_1_method_44_code xc140_0 = true := x_cOk_w (by decide +kernel)
def xc140_1 : List (Nat × Instr × Nat) := [(112, .iconst 0, 1), (113, .invokevirtual 380, 3), (116, .ireturn, 1), (117, .iload 6, 2), (119, .ireturn, 1), (120, .aload_n 0, 1), (121, .iload 6, 2), (123, .invokevirtual 384, 3), (126, .ireturn, 1)]
theorem xo140_1 : x_cOk prog_1_method_44_code xc140_1 = true := x_cOk_w (by decide +kernel)
def xg140 : Nat → Option (Instr × Nat) := fun pc => if pc < 112 then x_at2 pc xc140_0 else x_at2 pc xc140_1
theorem xh140 : x_Good prog_1_method_44_code xg140 := by
  unfold xg140
  exact x_Good_ite (x_Good_l xo140_0) (x_Good_l xo140_1)
def xm140 : XM := (⟨"TwoDigits", "first", "(IIII)I"⟩, prog_1_method_44_code, 7, some .int, 0, 0, 4, 0, 0, false, xg140)
end XCode3
end
section
/-! Instructions, by program: part 4. -/
section XCode4
def xc141_0 : List (Nat × Instr × Nat) := [(0, .iconst 0, 1), (1, .istore_n 3, 1), (2, .iload_n 3, 1), (3, .aload_n 0, 1), (4, .getfield 107, 3), (7, .if_icmp .ge 81, 3), (10, .aload_n 0, 1), (11, .getfield 25, 3), (14, .iload_n 3, 1), (15, .aaload, 1), (16, .astore 4, 2), (18, .aload 4, 2), (20, .getfield 121, 3), (23, .iconst 5, 1), (24, .if_icmp .ne 18, 3), (27, .iload_n 2, 1), (28, .ifCond .ne 14, 3), (31, .aload 4, 2), (33, .getfield 485, 3), (36, .invokevirtual 193, 3), (39, .goto 43, 3), (42, .aload_n 0, 1), (43, .getfield 51, 3), (46, .aload 4, 2), (48, .getfield 133, 3), (51, .aload_n 0, 1), (52, .getfield 38, 3), (55, .aload_n 0, 1), (56, .iload_n 3, 1), (57, .iconst (-1), 1), (58, .invokevirtual 488, 3), (61, .aload 4, 2), (63, .getfield 485, 3), (66, .iload_n 1, 1), (67, .invokevirtual 316, 3), (70, .aload 4, 2), (72, .aload_n 0, 1), (73, .getfield 51, 3), (76, .invokevirtual 320, 3), (79, .putfield 492, 3), (82, .iinc 3 1, 3), (85, .goto (-83), 3), (88, .return_, 1)]
theorem xo141_0 : x_cOk prog_1_method_79_code xc141_0 = true := x_cOk_w (by decide +kernel)
def xg141 : Nat → Option (Instr × Nat) := fun pc => x_at2 pc xc141_0
theorem xh141 : x_Good prog_1_method_79_code xg141 := by
  unfold xg141
  exact x_Good_l xo141_0
def xm141 : XM := (⟨"TwoDigits", "rehearseTwins", "(IZ)V"⟩, prog_1_method_79_code, 5, none, 0, 0, 2, 0, 0, false, xg141)
def xc142_0 : List (Nat × Instr × Nat) := [(0, .aload_n 0, 1), (1, .getfield 25, 3), (4, .iload_n 1, 1), (5, .aaload, 1), (6, .getfield 124, 3), (9, .istore_n 3, 1), (10, .aload_n 0, 1), (11, .iload_n 3, 1), (12, .invokevirtual 117, 3), (15, .astore 4, 2), (17, .aload 4, 2), (19, .ifnonnull 13, 3), (22, .aload_n 0, 1), (23, .getfield 25, 3), (26, .iload_n 1, 1), (27, .aaload, 1), (28, .getfield 190, 3), (31, .areturn, 1), (32, .iload_n 2, 1), (33, .iload_n 3, 1), (34, .invokestatic 247, 3), (37, .ifCond .eq 22, 3), (40, .iload_n 3, 1), (41, .iload_n 1, 1), (42, .if_icmp .ge 11, 3), (45, .aload 4, 2), (47, .getfield 485, 3), (50, .goto 8, 3), (53, .aload 4, 2), (55, .getfield 144, 3), (58, .areturn, 1), (59, .iload_n 3, 1), (60, .iload_n 1, 1), (61, .if_icmp .ge 11, 3), (64, .aload 4, 2), (66, .getfield 495, 3), (69, .goto 8, 3), (72, .aload 4, 2), (74, .getfield 137, 3), (77, .areturn, 1)]
theorem xo142_0 : x_cOk prog_1_method_81_code xc142_0 = true := x_cOk_w (by decide +kernel)
def xg142 : Nat → Option (Instr × Nat) := fun pc => x_at2 pc xc142_0
theorem xh142 : x_Good prog_1_method_81_code xg142 := by
  unfold xg142
  exact x_Good_l xo142_0
def xm142 : XM := (⟨"TwoDigits", "inputThen", "(II)LTwoDigits$Row;"⟩, prog_1_method_81_code, 5, some (.object "TwoDigits$Row"), 0, 0, 2, 0, 0, false, xg142)
def xc143_0 : List (Nat × Instr × Nat) := [(0, .iconst 0, 1), (1, .istore 4, 2), (3, .aload_n 0, 1), (4, .iconst 0, 1), (5, .iload_n 3, 1), (6, .iconst 0, 1), (7, .invokevirtual 380, 3), (10, .istore 5, 2), (12, .iconst 0, 1), (13, .istore 6, 2), (15, .iconst 1, 1), (16, .istore 7, 2), (18, .iload 7, 2), (20, .iload_n 1, 1), (21, .if_icmp .gt 82, 3), (24, .iload 7, 2), (26, .iload_n 1, 1), (27, .iconst (-1), 1), (28, .ixor, 1), (29, .iand, 1), (30, .ifCond .ne 67, 3), (33, .aload_n 0, 1), (34, .iload 7, 2), (36, .invokevirtual 384, 3), (39, .iload_n 2, 1), (40, .if_icmp .le 6, 3), (43, .goto 54, 3), (46, .aload_n 0, 1), (47, .iload 7, 2), (49, .iload_n 3, 1), (50, .iconst 0, 1), (51, .invokevirtual 380, 3), (54, .istore 8, 2), (56, .iload 8, 2), (58, .iload 5, 2), (60, .if_icmp .lt 21, 3), (63, .iload 8, 2), (65, .iload 5, 2), (67, .if_icmp .ne 30, 3), (70, .aload_n 0, 1), (71, .iload 7, 2), (73, .invokevirtual 384, 3), (76, .iload 6, 2), (78, .if_icmp .ge 19, 3), (81, .iload 7, 2), (83, .istore 4, 2), (85, .iload 8, 2), (87, .istore 5, 2)]
theorem xo143_0 : x_cOk prog_1_method_45_code xc143_0 = true := x_cOk_w (by decide +kernel)
def xc143_1 : List (Nat × Instr × Nat) := [(89, .aload_n 0, 1), (90, .iload 7, 2), (92, .invokevirtual 384, 3), (95, .istore 6, 2), (97, .iinc 7 1, 3), (100, .goto (-82), 3), (103, .iload 4, 2), (105, .ireturn, 1)]
theorem xo143_1 : x_cOk prog_1_method_45_code xc143_1 = true := x_cOk_w (by decide +kernel)
def xg143 : Nat → Option (Instr × Nat) := fun pc => if pc < 89 then x_at2 pc xc143_0 else x_at2 pc xc143_1
theorem xh143 : x_Good prog_1_method_45_code xg143 := by
  unfold xg143
  exact x_Good_ite (x_Good_l xo143_0) (x_Good_l xo143_1)
def xm143 : XM := (⟨"TwoDigits", "bestToMend", "(III)I"⟩, prog_1_method_45_code, 9, some .int, 0, 0, 3, 0, 0, false, xg143)
def xc144_0 : List (Nat × Instr × Nat) := [(0, .iconst 0, 1), (1, .istore 4, 2), (3, .iconst 0, 1), (4, .istore 5, 2), (6, .iload 5, 2), (8, .aload_n 0, 1), (9, .getfield 107, 3), (12, .if_icmp .ge 147, 3), (15, .aload_n 0, 1), (16, .getfield 25, 3), (19, .iload 5, 2), (21, .aaload, 1), (22, .astore 6, 2), (24, .aload 6, 2), (26, .getfield 121, 3), (29, .iconst 5, 1), (30, .if_icmp .ne 28, 3), (33, .iload_n 3, 1), (34, .ifCond .ne 24, 3), (37, .aload 6, 2), (39, .getfield 495, 3), (42, .invokevirtual 193, 3), (45, .iload 4, 2), (47, .aload 6, 2), (49, .getfield 153, 3), (52, .iadd, 1), (53, .istore 4, 2), (55, .goto 98, 3), (58, .iload_n 1, 1), (59, .iload 5, 2), (61, .invokestatic 247, 3), (64, .ifCond .ne 89, 3), (67, .aload_n 0, 1), (68, .getfield 47, 3), (71, .aload 6, 2), (73, .getfield 133, 3), (76, .iload_n 3, 1), (77, .ifCond .eq 10, 3), (80, .aload_n 0, 1), (81, .getfield 34, 3), (84, .goto 8, 3), (87, .aload 6, 2), (89, .getfield 127, 3), (92, .aload_n 0, 1), (93, .iload 5, 2), (95, .iload_n 1, 1), (96, .invokevirtual 488, 3), (99, .aload 6, 2)]
theorem xo144_0 : x_cOk prog_1_method_80_code xc144_0 = true := x_cOk_w (by decide +kernel)
def xc144_1 : List (Nat × Instr × Nat) := [(101, .getfield 495, 3), (104, .iload_n 2, 1), (105, .invokevirtual 316, 3), (108, .aload_n 0, 1), (109, .getfield 47, 3), (112, .invokevirtual 320, 3), (115, .istore 7, 2), (117, .iload 7, 2), (119, .aload 6, 2), (121, .getfield 492, 3), (124, .if_icmp .ne 19, 3), (127, .aload 6, 2), (129, .getfield 495, 3), (132, .aload 6, 2), (134, .getfield 485, 3), (137, .invokevirtual 324, 3), (140, .ifCond .ne 13, 3), (143, .iload 4, 2), (145, .aload 6, 2), (147, .getfield 153, 3), (150, .iadd, 1), (151, .istore 4, 2), (153, .iinc 5 1, 3), (156, .goto (-150), 3), (159, .iload 4, 2), (161, .ireturn, 1)]
theorem xo144_1 : x_cOk prog_1_method_80_code xc144_1 = true := x_cOk_w (by decide +kernel)
def xg144 : Nat → Option (Instr × Nat) := fun pc => if pc < 101 then x_at2 pc xc144_0 else x_at2 pc xc144_1
theorem xh144 : x_Good prog_1_method_80_code xg144 := by
  unfold xg144
  exact x_Good_ite (x_Good_l xo144_0) (x_Good_l xo144_1)
def xm144 : XM := (⟨"TwoDigits", "rehearsedHarm", "(IIZ)I"⟩, prog_1_method_80_code, 8, some .int, 0, 0, 3, 0, 0, false, xg144)
def xc145_0 : List (Nat × Instr × Nat) := [(0, .iconst 0, 1), (1, .istore_n 2, 1), (2, .iconst 0, 1), (3, .istore_n 3, 1), (4, .iload_n 3, 1), (5, .aload_n 0, 1), (6, .getfield 107, 3), (9, .if_icmp .ge 29, 3), (12, .iload_n 1, 1), (13, .iload_n 3, 1), (14, .invokestatic 247, 3), (17, .ifCond .eq 15, 3), (20, .iload_n 2, 1), (21, .aload_n 0, 1), (22, .getfield 25, 3), (25, .iload_n 3, 1), (26, .aaload, 1), (27, .getfield 156, 3), (30, .iadd, 1), (31, .istore_n 2, 1), (32, .iinc 3 1, 3), (35, .goto (-31), 3), (38, .iload_n 2, 1), (39, .ireturn, 1)]
theorem xo145_0 : x_cOk prog_1_method_46_code xc145_0 = true := x_cOk_w (by decide +kernel)
def xg145 : Nat → Option (Instr × Nat) := fun pc => x_at2 pc xc145_0
theorem xh145 : x_Good prog_1_method_46_code xg145 := by
  unfold xg145
  exact x_Good_l xo145_0
def xm145 : XM := (⟨"TwoDigits", "daysOf", "(I)I"⟩, prog_1_method_46_code, 4, some .int, 0, 0, 1, 0, 0, false, xg145)
def xc146_0 : List (Nat × Instr × Nat) := [(0, .iload_n 1, 1), (1, .invokestatic 212, 3), (4, .ifCond .ne 6, 3), (7, .bipush (-2), 2), (9, .ireturn, 1), (10, .aload_n 0, 1), (11, .iload_n 1, 1), (12, .iconst 1, 1), (13, .invokevirtual 372, 3), (16, .aload_n 0, 1), (17, .iconst 0, 1), (18, .iload_n 1, 1), (19, .iconst 1, 1), (20, .invokevirtual 380, 3), (23, .ireturn, 1)]
theorem xo146_0 : x_cOk prog_1_method_47_code xc146_0 = true := x_cOk_w (by decide +kernel)
def xg146 : Nat → Option (Instr × Nat) := fun pc => x_at2 pc xc146_0
theorem xh146 : x_Good prog_1_method_47_code xg146 := by
  unfold xg146
  exact x_Good_l xo146_0
def xm146 : XM := (⟨"TwoDigits", "beside", "(I)I"⟩, prog_1_method_47_code, 2, some .int, 0, 0, 1, 0, 0, false, xg146)
def xc147_0 : List (Nat × Instr × Nat) := [(0, .iload_n 1, 1), (1, .iconst 0, 1), (2, .bipush 99, 2), (4, .invokestatic 178, 3), (7, .ifCond .eq 35, 3), (10, .iload_n 2, 1), (11, .iconst 0, 1), (12, .sipush 899, 3), (15, .invokestatic 178, 3), (18, .ifCond .eq 24, 3), (21, .iload_n 3, 1), (22, .iconst 1, 1), (23, .bipush 99, 2), (25, .invokestatic 178, 3), (28, .ifCond .eq 14, 3), (31, .iload 4, 2), (33, .iconst 0, 1), (34, .bipush 99, 2), (36, .invokestatic 178, 3), (39, .ifCond .ne 6, 3), (42, .bipush (-2), 2), (44, .ireturn, 1), (45, .aload_n 0, 1), (46, .getfield 81, 3), (49, .iload_n 1, 1), (50, .iload_n 2, 1), (51, .iload_n 3, 1), (52, .iload 4, 2), (54, .invokevirtual 387, 3), (57, .ireturn, 1)]
theorem xo147_0 : x_cOk prog_1_method_48_code xc147_0 = true := x_cOk_w (by decide +kernel)
def xg147 : Nat → Option (Instr × Nat) := fun pc => x_at2 pc xc147_0
theorem xh147 : x_Good prog_1_method_48_code xg147 := by
  unfold xg147
  exact x_Good_l xo147_0
def xm147 : XM := (⟨"TwoDigits", "stop", "(IIII)I"⟩, prog_1_method_48_code, 5, some .int, 0, 0, 4, 0, 0, false, xg147)
def xc148_0 : List (Nat × Instr × Nat) := [(0, .aload_n 0, 1), (1, .getfield 30, 3), (4, .bipush 8, 2), (6, .if_icmp .lt 6, 3), (9, .bipush (-4), 2), (11, .ireturn, 1), (12, .aload_n 0, 1), (13, .getfield 30, 3), (16, .istore 5, 2), (18, .aload_n 0, 1), (19, .getfield 9, 3), (22, .iload 5, 2), (24, .iload_n 1, 1), (25, .iastore, 1), (26, .aload_n 0, 1), (27, .getfield 15, 3), (30, .iload 5, 2), (32, .iload_n 2, 1), (33, .iastore, 1), (34, .aload_n 0, 1), (35, .getfield 18, 3), (38, .iload 5, 2), (40, .iload_n 3, 1), (41, .iastore, 1), (42, .aload_n 0, 1), (43, .getfield 21, 3), (46, .iload 5, 2), (48, .iload 4, 2), (50, .iastore, 1), (51, .iload 5, 2), (53, .istore 6, 2), (55, .iload 6, 2), (57, .ifCond .le 43, 3), (60, .aload_n 0, 1), (61, .getfield 15, 3), (64, .aload_n 0, 1), (65, .getfield 24, 3), (68, .iload 6, 2), (70, .iconst 1, 1), (71, .isub, 1), (72, .iaload, 1), (73, .iaload, 1), (74, .iload_n 2, 1), (75, .if_icmp .le 25, 3), (78, .aload_n 0, 1), (79, .getfield 24, 3), (82, .iload 6, 2), (84, .aload_n 0, 1)]
theorem xo148_0 : x_cOk prog_4_method_2_code xc148_0 = true := x_cOk_w (by decide +kernel)
def xc148_1 : List (Nat × Instr × Nat) := [(85, .getfield 24, 3), (88, .iload 6, 2), (90, .iconst 1, 1), (91, .isub, 1), (92, .iaload, 1), (93, .iastore, 1), (94, .iinc 6 (-1), 3), (97, .goto (-42), 3), (100, .aload_n 0, 1), (101, .getfield 24, 3), (104, .iload 6, 2), (106, .iload 5, 2), (108, .iastore, 1), (109, .aload_n 0, 1), (110, .dup, 1), (111, .getfield 30, 3), (114, .iconst 1, 1), (115, .iadd, 1), (116, .putfield 30, 3), (119, .iconst 1, 1), (120, .iload 5, 2), (122, .ishl, 1), (123, .istore 7, 2), (125, .iload 7, 2), (127, .iconst 2, 1), (128, .iload 5, 2), (130, .ishl, 1), (131, .if_icmp .ge 22, 3), (134, .aload_n 0, 1), (135, .getfield 27, 3), (138, .iload 7, 2), (140, .aload_n 0, 1), (141, .iload 7, 2), (143, .invokevirtual 34, 3), (146, .iastore, 1), (147, .iinc 7 1, 3), (150, .goto (-25), 3), (153, .iload 5, 2), (155, .ireturn, 1)]
theorem xo148_1 : x_cOk prog_4_method_2_code xc148_1 = true := x_cOk_w (by decide +kernel)
def xg148 : Nat → Option (Instr × Nat) := fun pc => if pc < 85 then x_at2 pc xc148_0 else x_at2 pc xc148_1
theorem xh148 : x_Good prog_4_method_2_code xg148 := by
  unfold xg148
  exact x_Good_ite (x_Good_l xo148_0) (x_Good_l xo148_1)
def xm148 : XM := (⟨"TwoDigits$Posts", "add", "(IIII)I"⟩, prog_4_method_2_code, 8, some .int, 7, 7, 4, 0, 0, false, xg148)
def xc149_0 : List (Nat × Instr × Nat) := [(0, .aload_n 0, 1), (1, .iload_n 1, 1), (2, .invokevirtual 38, 3), (5, .ifCond .eq 5, 3), (8, .iconst 1, 1), (9, .ireturn, 1), (10, .bipush 9, 2), (12, .istore_n 2, 1), (13, .iconst 1, 1), (14, .istore_n 3, 1), (15, .iload_n 3, 1), (16, .iload_n 1, 1), (17, .if_icmp .ge 42, 3), (20, .iload_n 3, 1), (21, .iload_n 1, 1), (22, .iconst (-1), 1), (23, .ixor, 1), (24, .iand, 1), (25, .ifCond .ne 28, 3), (28, .aload_n 0, 1), (29, .getfield 27, 3), (32, .iload_n 3, 1), (33, .iaload, 1), (34, .iconst 1, 1), (35, .if_icmp .ne 18, 3), (38, .iload_n 2, 1), (39, .iconst 1, 1), (40, .aload_n 0, 1), (41, .getfield 27, 3), (44, .iload_n 1, 1), (45, .iload_n 3, 1), (46, .ixor, 1), (47, .iaload, 1), (48, .iadd, 1), (49, .invokestatic 42, 3), (52, .istore_n 2, 1), (53, .iinc 3 1, 3), (56, .goto (-41), 3), (59, .iload_n 2, 1), (60, .ireturn, 1)]
theorem xo149_0 : x_cOk prog_4_method_3_code xc149_0 = true := x_cOk_w (by decide +kernel)
def xg149 : Nat → Option (Instr × Nat) := fun pc => x_at2 pc xc149_0
theorem xh149 : x_Good prog_4_method_3_code xg149 := by
  unfold xg149
  exact x_Good_l xo149_0
def xm149 : XM := (⟨"TwoDigits$Posts", "fewestFor", "(I)I"⟩, prog_4_method_3_code, 4, some .int, 7, 7, 1, 0, 0, false, xg149)
def xc150_0 : List (Nat × Instr × Nat) := [(0, .iconst 0, 1), (1, .istore_n 2, 1), (2, .iconst 0, 1), (3, .istore_n 3, 1), (4, .iconst 0, 1), (5, .istore 4, 2), (7, .iload 4, 2), (9, .aload_n 0, 1), (10, .getfield 30, 3), (13, .if_icmp .ge 77, 3), (16, .aload_n 0, 1), (17, .getfield 24, 3), (20, .iload 4, 2), (22, .iaload, 1), (23, .istore 5, 2), (25, .iload_n 1, 1), (26, .iload 5, 2), (28, .invokestatic 48, 3), (31, .ifCond .eq 53, 3), (34, .iload_n 3, 1), (35, .aload_n 0, 1), (36, .getfield 9, 3), (39, .iload 5, 2), (41, .iaload, 1), (42, .iload_n 2, 1), (43, .isub, 1), (44, .invokestatic 52, 3), (47, .iadd, 1), (48, .aload_n 0, 1), (49, .getfield 15, 3), (52, .iload 5, 2), (54, .iaload, 1), (55, .if_icmp .le 5, 3), (58, .iconst 0, 1), (59, .ireturn, 1), (60, .aload_n 0, 1), (61, .getfield 9, 3), (64, .iload 5, 2), (66, .iaload, 1), (67, .istore_n 2, 1), (68, .aload_n 0, 1), (69, .getfield 15, 3), (72, .iload 5, 2), (74, .iaload, 1), (75, .aload_n 0, 1), (76, .getfield 18, 3), (79, .iload 5, 2), (81, .iaload, 1)]
theorem xo150_0 : x_cOk prog_4_method_4_code xc150_0 = true := x_cOk_w (by decide +kernel)
def xc150_1 : List (Nat × Instr × Nat) := [(82, .iadd, 1), (83, .istore_n 3, 1), (84, .iinc 4 1, 3), (87, .goto (-80), 3), (90, .iconst 1, 1), (91, .ireturn, 1)]
theorem xo150_1 : x_cOk prog_4_method_4_code xc150_1 = true := x_cOk_w (by decide +kernel)
def xg150 : Nat → Option (Instr × Nat) := fun pc => if pc < 82 then x_at2 pc xc150_0 else x_at2 pc xc150_1
theorem xh150 : x_Good prog_4_method_4_code xg150 := by
  unfold xg150
  exact x_Good_ite (x_Good_l xo150_0) (x_Good_l xo150_1)
def xm150 : XM := (⟨"TwoDigits$Posts", "canOneMeet", "(I)Z"⟩, prog_4_method_4_code, 6, some .boolean, 7, 7, 1, 0, 0, false, xg150)
def xc151_0 : List (Nat × Instr × Nat) := [(0, .iload_n 0, 1), (1, .ifCond .ge 8, 3), (4, .iload_n 0, 1), (5, .ineg, 1), (6, .goto 4, 3), (9, .iload_n 0, 1), (10, .ireturn, 1)]
theorem xo151_0 : x_cOk prog_16_method_59_code xc151_0 = true := x_cOk_w (by decide +kernel)
def xg151 : Nat → Option (Instr × Nat) := fun pc => x_at2 pc xc151_0
theorem xh151 : x_Good prog_16_method_59_code xg151 := by
  unfold xg151
  exact x_Good_l xo151_0
def xm151 : XM := (⟨"java/lang/Math", "abs", "(I)I"⟩, prog_16_method_59_code, 1, some .int, 14, 114, 1, 0, 0, false, xg151)
def xc152_0 : List (Nat × Instr × Nat) := [(0, .iload_n 2, 1), (1, .iconst 0, 1), (2, .iconst 4, 1), (3, .invokestatic 178, 3), (6, .ifCond .ne 5, 3), (9, .iconst (-1), 1), (10, .ireturn, 1), (11, .iload_n 1, 1), (12, .iconst 1, 1), (13, .iconst 3, 1), (14, .invokestatic 178, 3), (17, .ifCond .ne 6, 3), (20, .bipush (-2), 2), (22, .ireturn, 1), (23, .iload_n 2, 1), (24, .iconst 2, 1), (25, .isub, 1), (26, .iload_n 1, 1), (27, .if_icmp .lt 5, 3), (30, .iconst (-1), 1), (31, .ireturn, 1), (32, .aload_n 0, 1), (33, .getfield 81, 3), (36, .iload_n 1, 1), (37, .invokevirtual 390, 3), (40, .istore_n 3, 1), (41, .iload_n 2, 1), (42, .lookupswitch 37 #[(0, 26), (1, 35)], 26), (68, .aload_n 0, 1), (69, .getfield 81, 3), (72, .iload_n 3, 1), (73, .invokevirtual 393, 3), (76, .ireturn, 1), (77, .iload_n 3, 1), (78, .ireturn, 1), (79, .aload_n 0, 1), (80, .getfield 81, 3), (83, .iload_n 3, 1), (84, .iload_n 1, 1), (85, .iload_n 2, 1), (86, .iconst 2, 1), (87, .isub, 1), (88, .invokevirtual 396, 3), (91, .ireturn, 1)]
theorem xo152_0 : x_cOk prog_1_method_49_code xc152_0 = true := x_cOk_w (by decide +kernel)
def xg152 : Nat → Option (Instr × Nat) := fun pc => x_at2 pc xc152_0
theorem xh152 : x_Good prog_1_method_49_code xg152 := by
  unfold xg152
  exact x_Good_l xo152_0
def xm152 : XM := (⟨"TwoDigits", "posts", "(II)I"⟩, prog_1_method_49_code, 4, some .int, 0, 0, 2, 0, 0, false, xg152)
def xc153_0 : List (Nat × Instr × Nat) := [(0, .iconst 0, 1), (1, .istore_n 2, 1), (2, .iconst 1, 1), (3, .istore_n 3, 1), (4, .iload_n 3, 1), (5, .iconst 1, 1), (6, .aload_n 0, 1), (7, .getfield 30, 3), (10, .ishl, 1), (11, .if_icmp .ge 34, 3), (14, .aload_n 0, 1), (15, .getfield 27, 3), (18, .iload_n 3, 1), (19, .iaload, 1), (20, .iload_n 1, 1), (21, .if_icmp .gt 18, 3), (24, .aload_n 0, 1), (25, .iload_n 3, 1), (26, .invokevirtual 55, 3), (29, .aload_n 0, 1), (30, .iload_n 2, 1), (31, .invokevirtual 55, 3), (34, .if_icmp .le 5, 3), (37, .iload_n 3, 1), (38, .istore_n 2, 1), (39, .iinc 3 1, 3), (42, .goto (-38), 3), (45, .iload_n 2, 1), (46, .ireturn, 1)]
theorem xo153_0 : x_cOk prog_4_method_5_code xc153_0 = true := x_cOk_w (by decide +kernel)
def xg153 : Nat → Option (Instr × Nat) := fun pc => x_at2 pc xc153_0
theorem xh153 : x_Good prog_4_method_5_code xg153 := by
  unfold xg153
  exact x_Good_l xo153_0
def xm153 : XM := (⟨"TwoDigits$Posts", "metBy", "(I)I"⟩, prog_4_method_5_code, 4, some .int, 7, 7, 1, 0, 0, false, xg153)
def xc154_0 : List (Nat × Instr × Nat) := [(0, .iconst 0, 1), (1, .istore_n 2, 1), (2, .iconst 0, 1), (3, .istore_n 3, 1), (4, .iload_n 3, 1), (5, .aload_n 0, 1), (6, .getfield 30, 3), (9, .if_icmp .ge 30, 3), (12, .iload_n 2, 1), (13, .iload_n 1, 1), (14, .iload_n 3, 1), (15, .invokestatic 48, 3), (18, .ifCond .eq 12, 3), (21, .aload_n 0, 1), (22, .getfield 21, 3), (25, .iload_n 3, 1), (26, .iaload, 1), (27, .goto 4, 3), (30, .iconst 0, 1), (31, .iadd, 1), (32, .istore_n 2, 1), (33, .iinc 3 1, 3), (36, .goto (-32), 3), (39, .iload_n 2, 1), (40, .ireturn, 1)]
theorem xo154_0 : x_cOk prog_4_method_6_code xc154_0 = true := x_cOk_w (by decide +kernel)
def xg154 : Nat → Option (Instr × Nat) := fun pc => x_at2 pc xc154_0
theorem xh154 : x_Good prog_4_method_6_code xg154 := by
  unfold xg154
  exact x_Good_l xo154_0
def xm154 : XM := (⟨"TwoDigits$Posts", "weightOf", "(I)I"⟩, prog_4_method_6_code, 4, some .int, 7, 7, 1, 0, 0, false, xg154)
def xc155_0 : List (Nat × Instr × Nat) := [(0, .iload_n 1, 1), (1, .istore 4, 2), (3, .iconst 0, 1), (4, .istore 5, 2), (6, .iconst 0, 1), (7, .istore 6, 2), (9, .iload 6, 2), (11, .iload_n 3, 1), (12, .if_icmp .gt 30, 3), (15, .aload_n 0, 1), (16, .iload 4, 2), (18, .iload_n 2, 1), (19, .iconst 1, 1), (20, .isub, 1), (21, .iload 6, 2), (23, .isub, 1), (24, .invokevirtual 58, 3), (27, .istore 5, 2), (29, .iload 4, 2), (31, .iload 5, 2), (33, .ixor, 1), (34, .istore 4, 2), (36, .iinc 6 1, 3), (39, .goto (-30), 3), (42, .iload 5, 2), (44, .ireturn, 1)]
theorem xo155_0 : x_cOk prog_4_method_7_code xc155_0 = true := x_cOk_w (by decide +kernel)
def xg155 : Nat → Option (Instr × Nat) := fun pc => x_at2 pc xc155_0
theorem xh155 : x_Good prog_4_method_7_code xg155 := by
  unfold xg155
  exact x_Good_l xo155_0
def xm155 : XM := (⟨"TwoDigits$Posts", "metByHand", "(III)I"⟩, prog_4_method_7_code, 7, some .int, 7, 7, 3, 0, 0, false, xg155)
def xc156_0 : List (Nat × Instr × Nat) := [(0, .iload_n 1, 1), (1, .istore_n 3, 1), (2, .iload_n 3, 1), (3, .ifCond .le 41, 3), (6, .iload_n 3, 1), (7, .iload_n 1, 1), (8, .iconst (-1), 1), (9, .ixor, 1), (10, .iand, 1), (11, .ifCond .ne 27, 3), (14, .aload_n 0, 1), (15, .getfield 27, 3), (18, .iload_n 3, 1), (19, .iaload, 1), (20, .iconst 1, 1), (21, .if_icmp .ne 17, 3), (24, .aload_n 0, 1), (25, .getfield 27, 3), (28, .iload_n 1, 1), (29, .iload_n 3, 1), (30, .ixor, 1), (31, .iaload, 1), (32, .iload_n 2, 1), (33, .if_icmp .gt 5, 3), (36, .iload_n 3, 1), (37, .ireturn, 1), (38, .iinc 3 (-1), 3), (41, .goto (-39), 3), (44, .iconst 0, 1), (45, .ireturn, 1)]
theorem xo156_0 : x_cOk prog_4_method_8_code xc156_0 = true := x_cOk_w (by decide +kernel)
def xg156 : Nat → Option (Instr × Nat) := fun pc => x_at2 pc xc156_0
theorem xh156 : x_Good prog_4_method_8_code xg156 := by
  unfold xg156
  exact x_Good_l xo156_0
def xm156 : XM := (⟨"TwoDigits$Posts", "greatestPart", "(II)I"⟩, prog_4_method_8_code, 4, some .int, 7, 7, 2, 0, 0, false, xg156)
def xc157_0 : List (Nat × Instr × Nat) := [(0, .iload_n 1, 1), (1, .iconst 0, 1), (2, .bipush 6, 2), (4, .invokestatic 178, 3), (7, .ifCond .eq 13, 3), (10, .iload_n 2, 1), (11, .iconst 0, 1), (12, .bipush 99, 2), (14, .invokestatic 178, 3), (17, .ifCond .ne 6, 3), (20, .bipush (-2), 2), (22, .ireturn, 1), (23, .aload_n 0, 1), (24, .getfield 88, 3), (27, .iload_n 1, 1), (28, .iload_n 2, 1), (29, .invokevirtual 399, 3), (32, .ireturn, 1)]
theorem xo157_0 : x_cOk prog_1_method_50_code xc157_0 = true := x_cOk_w (by decide +kernel)
def xg157 : Nat → Option (Instr × Nat) := fun pc => x_at2 pc xc157_0
theorem xh157 : x_Good prog_1_method_50_code xg157 := by
  unfold xg157
  exact x_Good_l xo157_0
def xm157 : XM := (⟨"TwoDigits", "thing", "(II)I"⟩, prog_1_method_50_code, 3, some .int, 0, 0, 2, 0, 0, false, xg157)
def xc158_0 : List (Nat × Instr × Nat) := [(0, .aload_n 0, 1), (1, .getfield 21, 3), (4, .bipush 40, 2), (6, .if_icmp .lt 6, 3), (9, .bipush (-4), 2), (11, .ireturn, 1), (12, .aload_n 0, 1), (13, .getfield 11, 3), (16, .aload_n 0, 1), (17, .getfield 21, 3), (20, .iload_n 1, 1), (21, .iastore, 1), (22, .aload_n 0, 1), (23, .getfield 15, 3), (26, .aload_n 0, 1), (27, .getfield 21, 3), (30, .iload_n 2, 1), (31, .iastore, 1), (32, .aload_n 0, 1), (33, .dup, 1), (34, .getfield 21, 3), (37, .iconst 1, 1), (38, .iadd, 1), (39, .putfield 21, 3), (42, .aload_n 0, 1), (43, .getfield 21, 3), (46, .iconst 1, 1), (47, .isub, 1), (48, .ireturn, 1)]
theorem xo158_0 : x_cOk prog_12_method_2_code xc158_0 = true := x_cOk_w (by decide +kernel)
def xg158 : Nat → Option (Instr × Nat) := fun pc => x_at2 pc xc158_0
theorem xh158 : x_Good prog_12_method_2_code xg158 := by
  unfold xg158
  exact x_Good_l xo158_0
def xm158 : XM := (⟨"TwoDigits$Things", "add", "(II)I"⟩, prog_12_method_2_code, 3, some .int, 8, 8, 2, 0, 0, false, xg158)
def xc159_0 : List (Nat × Instr × Nat) := [(0, .aload_n 0, 1), (1, .getfield 88, 3), (4, .iload_n 1, 1), (5, .iload_n 2, 1), (6, .iload_n 3, 1), (7, .invokevirtual 401, 3), (10, .ireturn, 1)]
theorem xo159_0 : x_cOk prog_1_method_51_code xc159_0 = true := x_cOk_w (by decide +kernel)
def xg159 : Nat → Option (Instr × Nat) := fun pc => x_at2 pc xc159_0
theorem xh159 : x_Good prog_1_method_51_code xg159 := by
  unfold xg159
  exact x_Good_l xo159_0
def xm159 : XM := (⟨"TwoDigits", "act", "(III)I"⟩, prog_1_method_51_code, 4, some .int, 0, 0, 3, 0, 0, false, xg159)
def xc160_0 : List (Nat × Instr × Nat) := [(0, .aload_n 0, 1), (1, .iconst 0, 1), (2, .putfield 29, 3), (5, .aload_n 0, 1), (6, .iload_n 1, 1), (7, .invokevirtual 38, 3), (10, .ifCond .ne 5, 3), (13, .iconst 0, 1), (14, .ireturn, 1), (15, .aload_n 0, 1), (16, .aload_n 0, 1), (17, .getfield 11, 3), (20, .iload_n 1, 1), (21, .iaload, 1), (22, .putfield 42, 3), (25, .aload_n 0, 1), (26, .iload_n 1, 1), (27, .putfield 45, 3), (30, .aload_n 0, 1), (31, .aload_n 0, 1), (32, .getfield 15, 3), (35, .iload_n 1, 1), (36, .iaload, 1), (37, .putfield 48, 3), (40, .iload_n 2, 1), (41, .tableswitch 57 0 2 #[27, 37, 47], 27), (68, .aload_n 0, 1), (69, .aload_n 0, 1), (70, .getfield 42, 3), (73, .iload_n 3, 1), (74, .invokevirtual 51, 3), (77, .ireturn, 1), (78, .aload_n 0, 1), (79, .aload_n 0, 1), (80, .getfield 42, 3), (83, .iload_n 3, 1), (84, .invokevirtual 54, 3), (87, .ireturn, 1), (88, .aload_n 0, 1), (89, .aload_n 0, 1), (90, .getfield 42, 3), (93, .iload_n 3, 1), (94, .invokevirtual 57, 3), (97, .ireturn, 1), (98, .iconst 0, 1), (99, .ireturn, 1)]
theorem xo160_0 : x_cOk prog_12_method_7_code xc160_0 = true := x_cOk_w (by decide +kernel)
def xg160 : Nat → Option (Instr × Nat) := fun pc => x_at2 pc xc160_0
theorem xh160 : x_Good prog_12_method_7_code xg160 := by
  unfold xg160
  exact x_Good_l xo160_0
def xm160 : XM := (⟨"TwoDigits$Things", "perform", "(III)I"⟩, prog_12_method_7_code, 4, some .int, 8, 8, 3, 0, 0, false, xg160)
def xc161_0 : List (Nat × Instr × Nat) := [(0, .iload_n 1, 1), (1, .ifCond .lt 15, 3), (4, .iload_n 1, 1), (5, .aload_n 0, 1), (6, .getfield 21, 3), (9, .if_icmp .ge 7, 3), (12, .iconst 1, 1), (13, .goto 4, 3), (16, .iconst 0, 1), (17, .ireturn, 1)]
theorem xo161_0 : x_cOk prog_12_method_3_code xc161_0 = true := x_cOk_w (by decide +kernel)
def xg161 : Nat → Option (Instr × Nat) := fun pc => x_at2 pc xc161_0
theorem xh161 : x_Good prog_12_method_3_code xg161 := by
  unfold xg161
  exact x_Good_l xo161_0
def xm161 : XM := (⟨"TwoDigits$Things", "has", "(I)Z"⟩, prog_12_method_3_code, 2, some .boolean, 8, 8, 1, 0, 0, false, xg161)
def xc162_0 : List (Nat × Instr × Nat) := [(0, .iload_n 1, 1), (1, .lookupswitch 59 #[(1, 43), (5, 27)], 27), (28, .aload_n 0, 1), (29, .bipush 60, 2), (31, .invokevirtual 60, 3), (34, .aload_n 0, 1), (35, .iconst 1, 1), (36, .iload_n 2, 1), (37, .invokevirtual 51, 3), (40, .bipush 19, 2), (42, .isub, 1), (43, .ireturn, 1), (44, .aload_n 0, 1), (45, .bipush 20, 2), (47, .invokevirtual 60, 3), (50, .aload_n 0, 1), (51, .iconst 0, 1), (52, .iload_n 2, 1), (53, .invokevirtual 51, 3), (56, .bipush 10, 2), (58, .imul, 1), (59, .ireturn, 1), (60, .aload_n 0, 1), (61, .bipush 10, 2), (63, .invokevirtual 60, 3), (66, .iload_n 2, 1), (67, .aload_n 0, 1), (68, .getfield 48, 3), (71, .iadd, 1), (72, .ireturn, 1)]
theorem xo162_0 : x_cOk prog_12_method_9_code xc162_0 = true := x_cOk_w (by decide +kernel)
def xg162 : Nat → Option (Instr × Nat) := fun pc => x_at2 pc xc162_0
theorem xh162 : x_Good prog_12_method_9_code xg162 := by
  unfold xg162
  exact x_Good_l xo162_0
def xm162 : XM := (⟨"TwoDigits$Things", "reading", "(II)I"⟩, prog_12_method_9_code, 3, some .int, 8, 8, 2, 0, 0, false, xg162)
def xc163_0 : List (Nat × Instr × Nat) := [(0, .aload_n 0, 1), (1, .getfield 29, 3), (4, .bipush 20, 2), (6, .if_icmp .ge 13, 3), (9, .aload_n 0, 1), (10, .getfield 18, 3), (13, .aload_n 0, 1), (14, .getfield 29, 3), (17, .iload_n 1, 1), (18, .iastore, 1), (19, .aload_n 0, 1), (20, .dup, 1), (21, .getfield 29, 3), (24, .iconst 1, 1), (25, .iadd, 1), (26, .putfield 29, 3), (29, .return_, 1)]
theorem xo163_0 : x_cOk prog_12_method_8_code xc163_0 = true := x_cOk_w (by decide +kernel)
def xg163 : Nat → Option (Instr × Nat) := fun pc => x_at2 pc xc163_0
theorem xh163 : x_Good prog_12_method_8_code xg163 := by
  unfold xg163
  exact x_Good_l xo163_0
def xm163 : XM := (⟨"TwoDigits$Things", "starts", "(I)V"⟩, prog_12_method_8_code, 2, none, 8, 8, 1, 0, 0, false, xg163)
def xc164_0 : List (Nat × Instr × Nat) := [(0, .iload_n 1, 1), (1, .tableswitch 86 2 6 #[50, 86, 68, 86, 35], 35), (36, .aload_n 0, 1), (37, .bipush 70, 2), (39, .invokevirtual 60, 3), (42, .aload_n 0, 1), (43, .iconst 2, 1), (44, .iload_n 2, 1), (45, .invokevirtual 54, 3), (48, .iconst 3, 1), (49, .ixor, 1), (50, .ireturn, 1), (51, .aload_n 0, 1), (52, .bipush 30, 2), (54, .invokevirtual 60, 3), (57, .aload_n 0, 1), (58, .iconst 0, 1), (59, .iload_n 2, 1), (60, .invokevirtual 54, 3), (63, .aload_n 0, 1), (64, .getfield 45, 3), (67, .iadd, 1), (68, .ireturn, 1), (69, .aload_n 0, 1), (70, .bipush 50, 2), (72, .invokevirtual 60, 3), (75, .aload_n 0, 1), (76, .iconst 0, 1), (77, .iload_n 2, 1), (78, .invokevirtual 54, 3), (81, .aload_n 0, 1), (82, .getfield 48, 3), (85, .isub, 1), (86, .ireturn, 1), (87, .aload_n 0, 1), (88, .bipush 11, 2), (90, .invokevirtual 60, 3), (93, .aload_n 0, 1), (94, .aload_n 0, 1), (95, .getfield 42, 3), (98, .iload_n 2, 1), (99, .invokevirtual 51, 3), (102, .iconst 2, 1), (103, .imul, 1), (104, .ireturn, 1)]
theorem xo164_0 : x_cOk prog_12_method_10_code xc164_0 = true := x_cOk_w (by decide +kernel)
def xg164 : Nat → Option (Instr × Nat) := fun pc => x_at2 pc xc164_0
theorem xh164 : x_Good prog_12_method_10_code xg164 := by
  unfold xg164
  exact x_Good_l xo164_0
def xm164 : XM := (⟨"TwoDigits$Things", "feeding", "(II)I"⟩, prog_12_method_10_code, 3, some .int, 8, 8, 2, 0, 0, false, xg164)
def xc165_0 : List (Nat × Instr × Nat) := [(0, .iload_n 1, 1), (1, .lookupswitch 57 #[(3, 42), (5, 27)], 27), (28, .aload_n 0, 1), (29, .bipush 61, 2), (31, .invokevirtual 60, 3), (34, .aload_n 0, 1), (35, .iconst 1, 1), (36, .iload_n 2, 1), (37, .invokevirtual 57, 3), (40, .iconst 2, 1), (41, .iadd, 1), (42, .ireturn, 1), (43, .aload_n 0, 1), (44, .bipush 40, 2), (46, .invokevirtual 60, 3), (49, .aload_n 0, 1), (50, .iconst 0, 1), (51, .iload_n 2, 1), (52, .iconst 1, 1), (53, .isub, 1), (54, .invokevirtual 57, 3), (57, .ireturn, 1), (58, .aload_n 0, 1), (59, .bipush 12, 2), (61, .invokevirtual 60, 3), (64, .aload_n 0, 1), (65, .aload_n 0, 1), (66, .getfield 42, 3), (69, .iload_n 2, 1), (70, .invokevirtual 54, 3), (73, .aload_n 0, 1), (74, .aload_n 0, 1), (75, .getfield 42, 3), (78, .iload_n 2, 1), (79, .aload_n 0, 1), (80, .getfield 45, 3), (83, .iadd, 1), (84, .invokevirtual 51, 3), (87, .ixor, 1), (88, .ireturn, 1)]
theorem xo165_0 : x_cOk prog_12_method_11_code xc165_0 = true := x_cOk_w (by decide +kernel)
def xg165 : Nat → Option (Instr × Nat) := fun pc => x_at2 pc xc165_0
theorem xh165 : x_Good prog_12_method_11_code xg165 := by
  unfold xg165
  exact x_Good_l xo165_0
def xm165 : XM := (⟨"TwoDigits$Things", "failing", "(II)I"⟩, prog_12_method_11_code, 3, some .int, 8, 8, 2, 0, 0, false, xg165)
def xc166_0 : List (Nat × Instr × Nat) := [(0, .aload_n 0, 1), (1, .getfield 88, 3), (4, .iload_n 1, 1), (5, .invokevirtual 404, 3), (8, .ireturn, 1)]
theorem xo166_0 : x_cOk prog_1_method_52_code xc166_0 = true := x_cOk_w (by decide +kernel)
def xg166 : Nat → Option (Instr × Nat) := fun pc => x_at2 pc xc166_0
theorem xh166 : x_Good prog_1_method_52_code xg166 := by
  unfold xg166
  exact x_Good_l xo166_0
def xm166 : XM := (⟨"TwoDigits", "trace", "(I)I"⟩, prog_1_method_52_code, 2, some .int, 0, 0, 1, 0, 0, false, xg166)
def xc167_0 : List (Nat × Instr × Nat) := [(0, .iload_n 1, 1), (1, .ifCond .lt 25, 3), (4, .iload_n 1, 1), (5, .aload_n 0, 1), (6, .getfield 29, 3), (9, .bipush 20, 2), (11, .invokestatic 32, 3), (14, .if_icmp .ge 12, 3), (17, .aload_n 0, 1), (18, .getfield 18, 3), (21, .iload_n 1, 1), (22, .iaload, 1), (23, .goto 4, 3), (26, .iconst (-1), 1), (27, .ireturn, 1)]
theorem xo167_0 : x_cOk prog_12_method_6_code xc167_0 = true := x_cOk_w (by decide +kernel)
def xg167 : Nat → Option (Instr × Nat) := fun pc => x_at2 pc xc167_0
theorem xh167 : x_Good prog_12_method_6_code xg167 := by
  unfold xg167
  exact x_Good_l xo167_0
def xm167 : XM := (⟨"TwoDigits$Things", "bodyAt", "(I)I"⟩, prog_12_method_6_code, 2, some .int, 8, 8, 1, 0, 0, false, xg167)
def xc168_0 : List (Nat × Instr × Nat) := [(0, .iload_n 2, 1), (1, .iconst 0, 1), (2, .bipush 6, 2), (4, .invokestatic 178, 3), (7, .ifCond .ne 6, 3), (10, .bipush (-2), 2), (12, .ireturn, 1), (13, .aload_n 0, 1), (14, .getfield 88, 3), (17, .iload_n 1, 1), (18, .invokevirtual 407, 3), (21, .ifCond .ne 6, 3), (24, .bipush (-11), 2), (26, .ireturn, 1), (27, .aload_n 0, 1), (28, .getfield 88, 3), (31, .getfield 408, 3), (34, .iload_n 1, 1), (35, .iaload, 1), (36, .istore_n 3, 1), (37, .iload_n 3, 1), (38, .iload_n 2, 1), (39, .invokestatic 411, 3), (42, .ifCond .eq 7, 3), (45, .iload_n 3, 1), (46, .goto 5, 3), (49, .bipush (-13), 2), (51, .ireturn, 1)]
theorem xo168_0 : x_cOk prog_1_method_53_code xc168_0 = true := x_cOk_w (by decide +kernel)
def xg168 : Nat → Option (Instr × Nat) := fun pc => x_at2 pc xc168_0
theorem xh168 : x_Good prog_1_method_53_code xg168 := by
  unfold xg168
  exact x_Good_l xo168_0
def xm168 : XM := (⟨"TwoDigits", "taken", "(II)I"⟩, prog_1_method_53_code, 4, some .int, 0, 0, 2, 0, 0, false, xg168)
def xc169_0 : List (Nat × Instr × Nat) := [(0, .iload_n 0, 1), (1, .istore_n 2, 1), (2, .iconst 0, 1), (3, .istore_n 3, 1), (4, .iload_n 3, 1), (5, .iconst 3, 1), (6, .if_icmp .ge 19, 3), (9, .iload_n 2, 1), (10, .iload_n 1, 1), (11, .if_icmp .eq 14, 3), (14, .iload_n 2, 1), (15, .invokestatic 25, 3), (18, .istore_n 2, 1), (19, .iinc 3 1, 3), (22, .goto (-18), 3), (25, .iload_n 2, 1), (26, .iload_n 1, 1), (27, .if_icmp .ne 7, 3), (30, .iconst 1, 1), (31, .goto 4, 3), (34, .iconst 0, 1), (35, .ireturn, 1)]
theorem xo169_0 : x_cOk prog_12_method_5_code xc169_0 = true := x_cOk_w (by decide +kernel)
def xg169 : Nat → Option (Instr × Nat) := fun pc => x_at2 pc xc169_0
theorem xh169 : x_Good prog_12_method_5_code xg169 := by
  unfold xg169
  exact x_Good_l xo169_0
def xm169 : XM := (⟨"TwoDigits$Things", "isUnder", "(II)Z"⟩, prog_12_method_5_code, 4, some .boolean, 8, 8, 2, 0, 0, false, xg169)
def xc170_0 : List (Nat × Instr × Nat) := [(0, .iload_n 0, 1), (1, .lookupswitch 41 #[(0, 35), (5, 37), (6, 39)], 35), (36, .iconst (-1), 1), (37, .ireturn, 1), (38, .iconst 1, 1), (39, .ireturn, 1), (40, .iconst 2, 1), (41, .ireturn, 1), (42, .iconst 0, 1), (43, .ireturn, 1)]
theorem xo170_0 : x_cOk prog_12_method_4_code xc170_0 = true := x_cOk_w (by decide +kernel)
def xg170 : Nat → Option (Instr × Nat) := fun pc => x_at2 pc xc170_0
theorem xh170 : x_Good prog_12_method_4_code xg170 := by
  unfold xg170
  exact x_Good_l xo170_0
def xm170 : XM := (⟨"TwoDigits$Things", "above", "(I)I"⟩, prog_12_method_4_code, 1, some .int, 8, 8, 1, 0, 0, false, xg170)
def xc171_0 : List (Nat × Instr × Nat) := [(0, .iload_n 1, 1), (1, .tableswitch 167 0 13 #[71, 76, 81, 89, 95, 101, 106, 114, 122, 130, 138, 146, 151, 159], 71), (72, .aload_n 0, 1), (73, .getfield 107, 3), (76, .ireturn, 1), (77, .aload_n 0, 1), (78, .getfield 328, 3), (81, .ireturn, 1), (82, .aload_n 0, 1), (83, .getfield 88, 3), (86, .getfield 414, 3), (89, .ireturn, 1), (90, .aload_n 0, 1), (91, .iconst 4, 1), (92, .invokevirtual 415, 3), (95, .ireturn, 1), (96, .aload_n 0, 1), (97, .iconst 5, 1), (98, .invokevirtual 415, 3), (101, .ireturn, 1), (102, .aload_n 0, 1), (103, .invokevirtual 418, 3), (106, .ireturn, 1), (107, .aload_n 0, 1), (108, .getfield 59, 3), (111, .getfield 421, 3), (114, .ireturn, 1), (115, .aload_n 0, 1), (116, .getfield 69, 3), (119, .getfield 354, 3), (122, .ireturn, 1), (123, .aload_n 0, 1), (124, .getfield 72, 3), (127, .getfield 354, 3), (130, .ireturn, 1), (131, .aload_n 0, 1), (132, .getfield 75, 3), (135, .getfield 354, 3), (138, .ireturn, 1), (139, .aload_n 0, 1), (140, .getfield 10, 3), (143, .getfield 103, 3), (146, .ireturn, 1), (147, .aload_n 0, 1), (148, .getfield 424, 3), (151, .ireturn, 1), (152, .aload_n 0, 1), (153, .getfield 88, 3)]
theorem xo171_0 : x_cOk prog_1_method_54_code xc171_0 = true := x_cOk_w (by decide +kernel)
def xc171_1 : List (Nat × Instr × Nat) := [(156, .getfield 427, 3), (159, .ireturn, 1), (160, .aload_n 0, 1), (161, .getfield 81, 3), (164, .getfield 430, 3), (167, .ireturn, 1), (168, .bipush (-2), 2), (170, .ireturn, 1)]
theorem xo171_1 : x_cOk prog_1_method_54_code xc171_1 = true := x_cOk_w (by decide +kernel)
def xg171 : Nat → Option (Instr × Nat) := fun pc => if pc < 156 then x_at2 pc xc171_0 else x_at2 pc xc171_1
theorem xh171 : x_Good prog_1_method_54_code xg171 := by
  unfold xg171
  exact x_Good_ite (x_Good_l xo171_0) (x_Good_l xo171_1)
def xm171 : XM := (⟨"TwoDigits", "count", "(I)I"⟩, prog_1_method_54_code, 2, some .int, 0, 0, 1, 0, 0, false, xg171)
def xc172_0 : List (Nat × Instr × Nat) := [(0, .iconst 0, 1), (1, .istore_n 2, 1), (2, .iconst 0, 1), (3, .istore_n 3, 1), (4, .iload_n 3, 1), (5, .aload_n 0, 1), (6, .getfield 107, 3), (9, .if_icmp .ge 25, 3), (12, .aload_n 0, 1), (13, .getfield 25, 3), (16, .iload_n 3, 1), (17, .aaload, 1), (18, .getfield 121, 3), (21, .iload_n 1, 1), (22, .if_icmp .ne 6, 3), (25, .iinc 2 1, 3), (28, .iinc 3 1, 3), (31, .goto (-27), 3), (34, .iload_n 2, 1), (35, .ireturn, 1)]
theorem xo172_0 : x_cOk prog_1_method_55_code xc172_0 = true := x_cOk_w (by decide +kernel)
def xg172 : Nat → Option (Instr × Nat) := fun pc => x_at2 pc xc172_0
theorem xh172 : x_Good prog_1_method_55_code xg172 := by
  unfold xg172
  exact x_Good_l xo172_0
def xm172 : XM := (⟨"TwoDigits", "howManyIn", "(I)I"⟩, prog_1_method_55_code, 4, some .int, 0, 0, 1, 0, 0, false, xg172)
def xc173_0 : List (Nat × Instr × Nat) := [(0, .iconst 0, 1), (1, .istore_n 1, 1), (2, .iconst 0, 1), (3, .istore_n 2, 1), (4, .iload_n 2, 1), (5, .aload_n 0, 1), (6, .getfield 107, 3), (9, .if_icmp .ge 24, 3), (12, .aload_n 0, 1), (13, .getfield 25, 3), (16, .iload_n 2, 1), (17, .aaload, 1), (18, .getfield 159, 3), (21, .ifCond .eq 6, 3), (24, .iinc 1 1, 3), (27, .iinc 2 1, 3), (30, .goto (-26), 3), (33, .iload_n 1, 1), (34, .ireturn, 1)]
theorem xo173_0 : x_cOk prog_1_method_56_code xc173_0 = true := x_cOk_w (by decide +kernel)
def xg173 : Nat → Option (Instr × Nat) := fun pc => x_at2 pc xc173_0
theorem xh173 : x_Good prog_1_method_56_code xg173 := by
  unfold xg173
  exact x_Good_l xo173_0
def xm173 : XM := (⟨"TwoDigits", "howManyWrong", "()I"⟩, prog_1_method_56_code, 3, some .int, 0, 0, 0, 0, 0, false, xg173)
def xc174_0 : List (Nat × Instr × Nat) := [(0, .aload_n 0, 1), (1, .iload_n 1, 1), (2, .invokevirtual 182, 3), (5, .astore 4, 2), (7, .aload 4, 2), (9, .ifnull 12, 3), (12, .iload_n 2, 1), (13, .iconst (-1), 1), (14, .iconst 2, 1), (15, .invokestatic 178, 3), (18, .ifCond .ne 6, 3), (21, .bipush (-2), 2), (23, .ireturn, 1), (24, .iload_n 2, 1), (25, .iconst (-1), 1), (26, .if_icmp .ne 11, 3), (29, .aload 4, 2), (31, .iconst (-1), 1), (32, .putfield 206, 3), (35, .iconst 1, 1), (36, .ireturn, 1), (37, .iload_n 3, 1), (38, .bipush 40, 2), (40, .if_icmp .le 6, 3), (43, .bipush (-2), 2), (45, .ireturn, 1), (46, .iload_n 3, 1), (47, .ifCond .ge 6, 3), (50, .bipush (-14), 2), (52, .ireturn, 1), (53, .aload 4, 2), (55, .iload_n 2, 1), (56, .iload_n 3, 1), (57, .invokevirtual 431, 3), (60, .iconst 1, 1), (61, .ireturn, 1)]
theorem xo174_0 : x_cOk prog_1_method_57_code xc174_0 = true := x_cOk_w (by decide +kernel)
def xg174 : Nat → Option (Instr × Nat) := fun pc => x_at2 pc xc174_0
theorem xh174 : x_Good prog_1_method_57_code xg174 := by
  unfold xg174
  exact x_Good_l xo174_0
def xm174 : XM := (⟨"TwoDigits", "sheet", "(III)I"⟩, prog_1_method_57_code, 5, some .int, 0, 0, 3, 0, 0, false, xg174)
def xc175_0 : List (Nat × Instr × Nat) := [(0, .aload_n 0, 1), (1, .iload_n 1, 1), (2, .putfield 15, 3), (5, .aload_n 0, 1), (6, .iload_n 2, 1), (7, .putfield 19, 3), (10, .iconst 0, 1), (11, .istore_n 3, 1), (12, .iload_n 3, 1), (13, .bipush 40, 2), (15, .if_icmp .ge 16, 3), (18, .aload_n 0, 1), (19, .getfield 11, 3), (22, .iload_n 3, 1), (23, .iconst 0, 1), (24, .iastore, 1), (25, .iinc 3 1, 3), (28, .goto (-16), 3), (31, .return_, 1)]
theorem xo175_0 : x_cOk prog_9_method_2_code xc175_0 = true := x_cOk_w (by decide +kernel)
def xg175 : Nat → Option (Instr × Nat) := fun pc => x_at2 pc xc175_0
theorem xh175 : x_Good prog_9_method_2_code xg175 := by
  unfold xg175
  exact x_Good_l xo175_0
def xm175 : XM := (⟨"TwoDigits$Sheet", "become", "(II)V"⟩, prog_9_method_2_code, 4, none, 9, 9, 2, 0, 0, false, xg175)
def xc176_0 : List (Nat × Instr × Nat) := [(0, .aload_n 0, 1), (1, .iload_n 1, 1), (2, .invokevirtual 182, 3), (5, .astore 4, 2), (7, .aload 4, 2), (9, .ifnonnull 6, 3), (12, .bipush (-2), 2), (14, .ireturn, 1), (15, .aload 4, 2), (17, .getfield 206, 3), (20, .iconst (-1), 1), (21, .if_icmp .ne 6, 3), (24, .bipush (-11), 2), (26, .ireturn, 1), (27, .aload 4, 2), (29, .iload_n 2, 1), (30, .iconst 1, 1), (31, .invokevirtual 209, 3), (34, .ifCond .ne 6, 3), (37, .bipush (-12), 2), (39, .ireturn, 1), (40, .aload 4, 2), (42, .iload_n 2, 1), (43, .iload_n 3, 1), (44, .invokevirtual 434, 3), (47, .iconst 1, 1), (48, .ireturn, 1)]
theorem xo176_0 : x_cOk prog_1_method_58_code xc176_0 = true := x_cOk_w (by decide +kernel)
def xg176 : Nat → Option (Instr × Nat) := fun pc => x_at2 pc xc176_0
theorem xh176 : x_Good prog_1_method_58_code xg176 := by
  unfold xg176
  exact x_Good_l xo176_0
def xm176 : XM := (⟨"TwoDigits", "cell", "(III)I"⟩, prog_1_method_58_code, 5, some .int, 0, 0, 3, 0, 0, false, xg176)
def xc177_0 : List (Nat × Instr × Nat) := [(0, .aload_n 0, 1), (1, .getfield 15, 3), (4, .lookupswitch 50 #[(0, 28), (1, 39)], 28), (32, .aload_n 0, 1), (33, .getfield 11, 3), (36, .iload_n 1, 1), (37, .iload_n 2, 1), (38, .i2b, 1), (39, .iastore, 1), (40, .goto 21, 3), (43, .aload_n 0, 1), (44, .getfield 11, 3), (47, .iload_n 1, 1), (48, .iload_n 2, 1), (49, .i2s, 1), (50, .iastore, 1), (51, .goto 10, 3), (54, .aload_n 0, 1), (55, .getfield 11, 3), (58, .iload_n 1, 1), (59, .iload_n 2, 1), (60, .iastore, 1), (61, .return_, 1)]
theorem xo177_0 : x_cOk prog_9_method_5_code xc177_0 = true := x_cOk_w (by decide +kernel)
def xg177 : Nat → Option (Instr × Nat) := fun pc => x_at2 pc xc177_0
theorem xh177 : x_Good prog_9_method_5_code xg177 := by
  unfold xg177
  exact x_Good_l xo177_0
def xm177 : XM := (⟨"TwoDigits$Sheet", "put", "(II)V"⟩, prog_9_method_5_code, 3, none, 9, 9, 2, 0, 0, false, xg177)
def xc178_0 : List (Nat × Instr × Nat) := [(0, .aload_n 0, 1), (1, .iload_n 1, 1), (2, .invokevirtual 182, 3), (5, .astore 6, 2), (7, .aload_n 0, 1), (8, .iload_n 3, 1), (9, .invokevirtual 182, 3), (12, .astore 7, 2), (14, .aload 6, 2), (16, .ifnull 8, 3), (19, .aload 7, 2), (21, .ifnonnull 6, 3), (24, .bipush (-2), 2), (26, .ireturn, 1), (27, .aload 6, 2), (29, .getfield 206, 3), (32, .iconst (-1), 1), (33, .if_icmp .eq 12, 3), (36, .aload 7, 2), (38, .getfield 206, 3), (41, .iconst (-1), 1), (42, .if_icmp .ne 6, 3), (45, .bipush (-11), 2), (47, .ireturn, 1), (48, .aload 6, 2), (50, .getfield 206, 3), (53, .aload 7, 2), (55, .getfield 206, 3), (58, .if_icmp .eq 6, 3), (61, .bipush (-13), 2), (63, .ireturn, 1), (64, .aload 6, 2), (66, .iload_n 2, 1), (67, .iload 5, 2), (69, .invokevirtual 209, 3), (72, .ifCond .eq 15, 3), (75, .aload 7, 2), (77, .iload 4, 2), (79, .iload 5, 2), (81, .invokevirtual 209, 3), (84, .ifCond .ne 6, 3), (87, .bipush (-12), 2), (89, .ireturn, 1), (90, .aload 6, 2), (92, .getfield 436, 3), (95, .iload_n 2, 1), (96, .aload 7, 2), (98, .getfield 436, 3)]
theorem xo178_0 : x_cOk prog_1_method_59_code xc178_0 = true := x_cOk_w (by decide +kernel)
def xc178_1 : List (Nat × Instr × Nat) := [(101, .iload 4, 2), (103, .iload 5, 2), (105, .invokestatic 439, 3), (108, .iload 5, 2), (110, .ireturn, 1)]
theorem xo178_1 : x_cOk prog_1_method_59_code xc178_1 = true := x_cOk_w (by decide +kernel)
def xg178 : Nat → Option (Instr × Nat) := fun pc => if pc < 101 then x_at2 pc xc178_0 else x_at2 pc xc178_1
theorem xh178 : x_Good prog_1_method_59_code xg178 := by
  unfold xg178
  exact x_Good_ite (x_Good_l xo178_0) (x_Good_l xo178_1)
def xm178 : XM := (⟨"TwoDigits", "copy", "(IIIII)I"⟩, prog_1_method_59_code, 8, some .int, 0, 0, 5, 0, 0, false, xg178)
def xc179_0 : List (Nat × Instr × Nat) := [(0, .aload_n 0, 1), (1, .invokespecial 1, 3), (4, .aload_n 0, 1), (5, .bipush 13, 2), (7, .newarray .int, 2), (9, .putfield 9, 3), (12, .aload_n 0, 1), (13, .bipush 13, 2), (15, .bipush 48, 2), (17, .multianewarray 13 2, 4), (21, .putfield 15, 3), (24, .aload_n 0, 1), (25, .bipush 12, 2), (27, .bipush 6, 2), (29, .multianewarray 13 2, 4), (33, .putfield 18, 3), (36, .aload_n 0, 1), (37, .bipush 12, 2), (39, .bipush 6, 2), (41, .multianewarray 13 2, 4), (45, .putfield 21, 3), (48, .aload_n 0, 1), (49, .bipush 12, 2), (51, .newarray .int, 2), (53, .putfield 24, 3), (56, .aload_n 0, 1), (57, .bipush 12, 2), (59, .newarray .int, 2), (61, .putfield 27, 3), (64, .aload_n 0, 1), (65, .bipush 12, 2), (67, .newarray .int, 2), (69, .putfield 30, 3), (72, .aload_n 0, 1), (73, .bipush 12, 2), (75, .newarray .int, 2), (77, .putfield 33, 3), (80, .aload_n 0, 1), (81, .bipush 12, 2), (83, .newarray .int, 2), (85, .putfield 36, 3), (88, .aload_n 0, 1), (89, .bipush 12, 2), (91, .newarray .int, 2), (93, .putfield 39, 3), (96, .aload_n 0, 1), (97, .bipush 12, 2), (99, .bipush 12, 2)]
theorem xo179_0 : x_cOk prog_14_method_1_code xc179_0 = true := x_cOk_w (by decide +kernel)
def xc179_1 : List (Nat × Instr × Nat) := [(101, .multianewarray 13 2, 4), (105, .putfield 42, 3), (108, .aload_n 0, 1), (109, .bipush 12, 2), (111, .newarray .int, 2), (113, .putfield 45, 3), (116, .aload_n 0, 1), (117, .bipush 12, 2), (119, .bipush 12, 2), (121, .multianewarray 13 2, 4), (125, .putfield 48, 3), (128, .aload_n 0, 1), (129, .bipush 12, 2), (131, .newarray .int, 2), (133, .putfield 51, 3), (136, .aload_n 0, 1), (137, .bipush 12, 2), (139, .bipush 12, 2), (141, .multianewarray 13 2, 4), (145, .putfield 54, 3), (148, .aload_n 0, 1), (149, .bipush 12, 2), (151, .newarray .int, 2), (153, .putfield 57, 3), (156, .aload_n 0, 1), (157, .bipush 12, 2), (159, .iconst 5, 1), (160, .multianewarray 13 2, 4), (164, .putfield 60, 3), (167, .aload_n 0, 1), (168, .bipush 12, 2), (170, .newarray .boolean, 2), (172, .putfield 63, 3), (175, .aload_n 0, 1), (176, .bipush 12, 2), (178, .newarray .boolean, 2), (180, .putfield 67, 3), (183, .aload_n 0, 1), (184, .sipush 160, 3), (187, .newarray .int, 2), (189, .putfield 70, 3), (192, .aload_n 0, 1), (193, .sipush 200, 3), (196, .iconst 4, 1), (197, .multianewarray 13 2, 4), (201, .putfield 73, 3), (204, .aload_n 0, 1), (205, .bipush 6, 2)]
theorem xo179_1 : x_cOk prog_14_method_1_code xc179_1 = true := x_cOk_w (by decide +kernel)
def xc179_2 : List (Nat × Instr × Nat) := [(207, .newarray .int, 2), (209, .putfield 76, 3), (212, .aload_n 0, 1), (213, .bipush 6, 2), (215, .newarray .int, 2), (217, .putfield 79, 3), (220, .aload_n 0, 1), (221, .bipush 6, 2), (223, .newarray .int, 2), (225, .putfield 82, 3), (228, .aload_n 0, 1), (229, .bipush 6, 2), (231, .bipush 30, 2), (233, .multianewarray 13 2, 4), (237, .putfield 85, 3), (240, .aload_n 0, 1), (241, .bipush 60, 2), (243, .iconst 5, 1), (244, .multianewarray 13 2, 4), (248, .putfield 88, 3), (251, .aload_n 0, 1), (252, .bipush 8, 2), (254, .newarray .int, 2), (256, .putfield 91, 3), (259, .aload_n 0, 1), (260, .bipush 8, 2), (262, .iconst 4, 1), (263, .multianewarray 13 2, 4), (267, .putfield 94, 3), (270, .aload_n 0, 1), (271, .bipush 8, 2), (273, .iconst 4, 1), (274, .multianewarray 13 2, 4), (278, .putfield 97, 3), (281, .aload_n 0, 1), (282, .bipush 40, 2), (284, .newarray .int, 2), (286, .putfield 100, 3), (289, .aload_n 0, 1), (290, .bipush 40, 2), (292, .newarray .int, 2), (294, .putfield 103, 3), (297, .aload_n 0, 1), (298, .iconst 3, 1), (299, .newarray .int, 2), (301, .dup, 1), (302, .iconst 0, 1), (303, .iconst (-1), 1)]
theorem xo179_2 : x_cOk prog_14_method_1_code xc179_2 = true := x_cOk_w (by decide +kernel)
def xc179_3 : List (Nat × Instr × Nat) := [(304, .iastore, 1), (305, .dup, 1), (306, .iconst 1, 1), (307, .iconst (-1), 1), (308, .iastore, 1), (309, .dup, 1), (310, .iconst 2, 1), (311, .iconst (-1), 1), (312, .iastore, 1), (313, .putfield 106, 3), (316, .aload_n 0, 1), (317, .iconst 3, 1), (318, .newarray .int, 2), (320, .putfield 109, 3), (323, .aload_n 0, 1), (324, .iconst 3, 1), (325, .bipush 40, 2), (327, .multianewarray 13 2, 4), (331, .putfield 112, 3), (334, .aload_n 0, 1), (335, .bipush 20, 2), (337, .newarray .int, 2), (339, .putfield 115, 3), (342, .aload_n 0, 1), (343, .iconst 4, 1), (344, .newarray .int, 2), (346, .putfield 118, 3), (349, .aload_n 0, 1), (350, .iconst 2, 1), (351, .bipush 6, 2), (353, .multianewarray 13 2, 4), (357, .putfield 121, 3), (360, .aload_n 0, 1), (361, .iconst 2, 1), (362, .newarray .int, 2), (364, .putfield 124, 3), (367, .aload_n 0, 1), (368, .iconst 2, 1), (369, .newarray .int, 2), (371, .putfield 127, 3), (374, .aload_n 0, 1), (375, .iconst 2, 1), (376, .newarray .int, 2), (378, .putfield 130, 3), (381, .aload_n 0, 1), (382, .iconst 2, 1), (383, .newarray .int, 2), (385, .putfield 133, 3)]
theorem xo179_3 : x_cOk prog_14_method_1_code xc179_3 = true := x_cOk_w (by decide +kernel)
def xc179_4 : List (Nat × Instr × Nat) := [(388, .aload_n 0, 1), (389, .iconst 2, 1), (390, .bipush 12, 2), (392, .multianewarray 13 2, 4), (396, .putfield 136, 3), (399, .aload_n 0, 1), (400, .iconst 2, 1), (401, .newarray .int, 2), (403, .putfield 139, 3), (406, .aload_n 0, 1), (407, .iconst 2, 1), (408, .newarray .int, 2), (410, .putfield 142, 3), (413, .aload_n 0, 1), (414, .bipush 12, 2), (416, .bipush 12, 2), (418, .multianewarray 13 2, 4), (422, .putfield 145, 3), (425, .aload_n 0, 1), (426, .bipush 12, 2), (428, .bipush 12, 2), (430, .multianewarray 13 2, 4), (434, .putfield 148, 3), (437, .aload_n 0, 1), (438, .bipush 12, 2), (440, .newarray .int, 2), (442, .putfield 151, 3), (445, .aload_n 0, 1), (446, .bipush 12, 2), (448, .newarray .int, 2), (450, .putfield 154, 3), (453, .aload_n 0, 1), (454, .bipush 12, 2), (456, .bipush 6, 2), (458, .multianewarray 157 2, 4), (462, .putfield 159, 3), (465, .aload_n 0, 1), (466, .bipush 12, 2), (468, .newarray .int, 2), (470, .putfield 162, 3), (473, .aload_n 0, 1), (474, .sipush 303, 3), (477, .newarray .boolean, 2), (479, .putfield 165, 3), (482, .aload_n 0, 1), (483, .iconst 4, 1), (484, .sipush 256, 3), (487, .multianewarray 157 2, 4)]
theorem xo179_4 : x_cOk prog_14_method_1_code xc179_4 = true := x_cOk_w (by decide +kernel)
def xc179_5 : List (Nat × Instr × Nat) := [(491, .putfield 168, 3), (494, .return_, 1)]
theorem xo179_5 : x_cOk prog_14_method_1_code xc179_5 = true := x_cOk_w (by decide +kernel)
def xg179 : Nat → Option (Instr × Nat) := fun pc => if pc < 101 then x_at2 pc xc179_0 else if pc < 207 then x_at2 pc xc179_1 else if pc < 304 then x_at2 pc xc179_2 else if pc < 388 then x_at2 pc xc179_3 else if pc < 491 then x_at2 pc xc179_4 else x_at2 pc xc179_5
theorem xh179 : x_Good prog_14_method_1_code xg179 := by
  unfold xg179
  exact x_Good_ite (x_Good_l xo179_0) (x_Good_ite (x_Good_l xo179_1) (x_Good_ite (x_Good_l xo179_2) (x_Good_ite (x_Good_l xo179_3) (x_Good_ite (x_Good_l xo179_4) (x_Good_l xo179_5)))))
def xm179 : XM := (⟨"TwoDigitsModel", "<init>", "()V"⟩, prog_14_method_1_code, 1, none, 12, 12, 0, 466, 5350, true, xg179)
end XCode4
end
section
/-! Instructions, by program: part 5. -/
section XCode5
def xc180_0 : List (Nat × Instr × Nat) := [(0, .iload_n 2, 1), (1, .iconst 0, 1), (2, .iconst 4, 1), (3, .invokestatic 175, 3), (6, .ifCond .ne 6, 3), (9, .bipush (-2), 2), (11, .ireturn, 1), (12, .aload_n 0, 1), (13, .getfield 179, 3), (16, .iload_n 2, 1), (17, .iadd, 1), (18, .sipush 160, 3), (21, .if_icmp .le 6, 3), (24, .bipush (-4), 2), (26, .ireturn, 1), (27, .iload_n 2, 1), (28, .iconst 1, 1), (29, .isub, 1), (30, .istore_n 3, 1), (31, .iload_n 3, 1), (32, .ifCond .lt 35, 3), (35, .aload_n 0, 1), (36, .getfield 70, 3), (39, .aload_n 0, 1), (40, .dup, 1), (41, .getfield 179, 3), (44, .dup_x1, 1), (45, .iconst 1, 1), (46, .iadd, 1), (47, .putfield 179, 3), (50, .iload_n 1, 1), (51, .bipush 8, 2), (53, .iload_n 3, 1), (54, .imul, 1), (55, .ishr, 1), (56, .sipush 255, 3), (59, .iand, 1), (60, .iastore, 1), (61, .iinc 3 (-1), 3), (64, .goto (-33), 3), (67, .aload_n 0, 1), (68, .getfield 179, 3), (71, .ireturn, 1)]
theorem xo180_0 : x_cOk prog_14_method_5_code xc180_0 = true := x_cOk_w (by decide +kernel)
def xg180 : Nat → Option (Instr × Nat) := fun pc => x_at2 pc xc180_0
theorem xh180 : x_Good prog_14_method_5_code xg180 := by
  unfold xg180
  exact x_Good_l xo180_0
def xm180 : XM := (⟨"TwoDigitsModel", "feed", "(II)I"⟩, prog_14_method_5_code, 4, some .int, 12, 12, 2, 0, 0, false, xg180)
def xc181_0 : List (Nat × Instr × Nat) := [(0, .iload_n 1, 1), (1, .iload_n 0, 1), (2, .if_icmp .gt 12, 3), (5, .iload_n 0, 1), (6, .iload_n 2, 1), (7, .if_icmp .gt 7, 3), (10, .iconst 1, 1), (11, .goto 4, 3), (14, .iconst 0, 1), (15, .ireturn, 1)]
theorem xo181_0 : x_cOk prog_14_method_2_code xc181_0 = true := x_cOk_w (by decide +kernel)
def xg181 : Nat → Option (Instr × Nat) := fun pc => x_at2 pc xc181_0
theorem xh181 : x_Good prog_14_method_2_code xg181 := by
  unfold xg181
  exact x_Good_l xo181_0
def xm181 : XM := (⟨"TwoDigitsModel", "in", "(III)Z"⟩, prog_14_method_2_code, 3, some .boolean, 12, 12, 3, 0, 0, false, xg181)
def xc182_0 : List (Nat × Instr × Nat) := [(0, .aload_n 0, 1), (1, .getfield 171, 3), (4, .bipush 12, 2), (6, .if_icmp .ne 6, 3), (9, .bipush (-4), 2), (11, .ireturn, 1), (12, .aload_n 0, 1), (13, .aload_n 0, 1), (14, .getfield 171, 3), (17, .invokevirtual 268, 3), (20, .istore_n 1, 1), (21, .aload_n 0, 1), (22, .iconst 0, 1), (23, .putfield 179, 3), (26, .iload_n 1, 1), (27, .ifCond .ne 11, 3), (30, .bipush (-10), 2), (32, .aload_n 0, 1), (33, .getfield 185, 3), (36, .isub, 1), (37, .ireturn, 1), (38, .aload_n 0, 1), (39, .dup, 1), (40, .getfield 171, 3), (43, .dup_x1, 1), (44, .iconst 1, 1), (45, .iadd, 1), (46, .putfield 171, 3), (49, .istore_n 2, 1), (50, .iconst 0, 1), (51, .istore_n 3, 1), (52, .iload_n 3, 1), (53, .bipush 6, 2), (55, .if_icmp .ge 27, 3), (58, .aload_n 0, 1), (59, .getfield 18, 3), (62, .iload_n 2, 1), (63, .aaload, 1), (64, .iload_n 3, 1), (65, .iconst 2, 1), (66, .iastore, 1), (67, .aload_n 0, 1), (68, .getfield 21, 3), (71, .iload_n 2, 1), (72, .aaload, 1), (73, .iload_n 3, 1), (74, .iconst (-1), 1), (75, .iastore, 1)]
theorem xo182_0 : x_cOk prog_14_method_18_code xc182_0 = true := x_cOk_w (by decide +kernel)
def xc182_1 : List (Nat × Instr × Nat) := [(76, .iinc 3 1, 3), (79, .goto (-27), 3), (82, .aload_n 0, 1), (83, .getfield 27, 3), (86, .iload_n 2, 1), (87, .iconst (-1), 1), (88, .iastore, 1), (89, .aload_n 0, 1), (90, .getfield 30, 3), (93, .iload_n 2, 1), (94, .iconst 1, 1), (95, .iastore, 1), (96, .aload_n 0, 1), (97, .getfield 33, 3), (100, .iload_n 2, 1), (101, .iconst 1, 1), (102, .iastore, 1), (103, .iload_n 2, 1), (104, .ireturn, 1)]
theorem xo182_1 : x_cOk prog_14_method_18_code xc182_1 = true := x_cOk_w (by decide +kernel)
def xg182 : Nat → Option (Instr × Nat) := fun pc => if pc < 76 then x_at2 pc xc182_0 else x_at2 pc xc182_1
theorem xh182 : x_Good prog_14_method_18_code xg182 := by
  unfold xg182
  exact x_Good_ite (x_Good_l xo182_0) (x_Good_l xo182_1)
def xm182 : XM := (⟨"TwoDigitsModel", "program", "()I"⟩, prog_14_method_18_code, 4, some .int, 12, 12, 0, 0, 0, false, xg182)
def xc183_0 : List (Nat × Instr × Nat) := [(0, .aload_n 0, 1), (1, .iconst 0, 1), (2, .putfield 182, 3), (5, .aload_n 0, 1), (6, .getfield 9, 3), (9, .iload_n 1, 1), (10, .iconst 0, 1), (11, .iastore, 1), (12, .aload_n 0, 1), (13, .invokevirtual 259, 3), (16, .ifCond .ne 5, 3), (19, .iconst 0, 1), (20, .ireturn, 1), (21, .aload_n 0, 1), (22, .getfield 118, 3), (25, .iconst 0, 1), (26, .aload_n 0, 1), (27, .getfield 15, 3), (30, .iload_n 1, 1), (31, .aaload, 1), (32, .iconst 4, 1), (33, .aload_n 0, 1), (34, .getfield 9, 3), (37, .iload_n 1, 1), (38, .iaload, 1), (39, .imul, 1), (40, .iconst 4, 1), (41, .invokestatic 262, 3), (44, .aload_n 0, 1), (45, .getfield 9, 3), (48, .iload_n 1, 1), (49, .dup2, 1), (50, .iaload, 1), (51, .iconst 1, 1), (52, .iadd, 1), (53, .iastore, 1), (54, .aload_n 0, 1), (55, .getfield 182, 3), (58, .aload_n 0, 1), (59, .getfield 179, 3), (62, .if_icmp .ne 5, 3), (65, .iconst 1, 1), (66, .ireturn, 1), (67, .aload_n 0, 1), (68, .invokevirtual 194, 3), (71, .bipush 59, 2), (73, .if_icmp .ne 14, 3), (76, .aload_n 0, 1)]
theorem xo183_0 : x_cOk prog_14_method_17_code xc183_0 = true := x_cOk_w (by decide +kernel)
def xc183_1 : List (Nat × Instr × Nat) := [(77, .getfield 9, 3), (80, .iload_n 1, 1), (81, .iaload, 1), (82, .bipush 12, 2), (84, .if_icmp .ne 8, 3), (87, .aload_n 0, 1), (88, .invokevirtual 201, 3), (91, .ireturn, 1), (92, .aload_n 0, 1), (93, .dup, 1), (94, .getfield 182, 3), (97, .iconst 1, 1), (98, .iadd, 1), (99, .putfield 182, 3), (102, .goto (-90), 3)]
theorem xo183_1 : x_cOk prog_14_method_17_code xc183_1 = true := x_cOk_w (by decide +kernel)
def xg183 : Nat → Option (Instr × Nat) := fun pc => if pc < 77 then x_at2 pc xc183_0 else x_at2 pc xc183_1
theorem xh183 : x_Good prog_14_method_17_code xg183 := by
  unfold xg183
  exact x_Good_ite (x_Good_l xo183_0) (x_Good_l xo183_1)
def xm183 : XM := (⟨"TwoDigitsModel", "programHere", "(I)Z"⟩, prog_14_method_17_code, 2, some .boolean, 12, 12, 1, 0, 0, false, xg183)
def xc184_0 : List (Nat × Instr × Nat) := [(0, .aload_n 0, 1), (1, .invokevirtual 194, 3), (4, .tableswitch 286 97 115 #[213, 286, 286, 286, 286, 286, 255, 286, 100, 286, 286, 221, 205, 92, 134, 286, 286, 286, 142], 92), (96, .aload_n 0, 1), (97, .iconst 0, 1), (98, .ldc 233, 2), (100, .invokevirtual 222, 3), (103, .ireturn, 1), (104, .aload_n 0, 1), (105, .dup, 1), (106, .getfield 182, 3), (109, .iconst 1, 1), (110, .iadd, 1), (111, .putfield 182, 3), (114, .aload_n 0, 1), (115, .invokevirtual 194, 3), (118, .bipush 102, 2), (120, .if_icmp .ne 10, 3), (123, .aload_n 0, 1), (124, .invokevirtual 235, 3), (127, .goto 10, 3), (130, .aload_n 0, 1), (131, .iconst 1, 1), (132, .ldc 238, 2), (134, .invokevirtual 222, 3), (137, .ireturn, 1), (138, .aload_n 0, 1), (139, .iconst 2, 1), (140, .ldc 240, 2), (142, .invokevirtual 222, 3), (145, .ireturn, 1), (146, .aload_n 0, 1), (147, .dup, 1), (148, .getfield 182, 3), (151, .iconst 1, 1), (152, .iadd, 1), (153, .putfield 182, 3), (156, .aload_n 0, 1), (157, .invokevirtual 194, 3), (160, .bipush 117, 2), (162, .if_icmp .ne 14, 3), (165, .aload_n 0, 1), (166, .bipush 6, 2), (168, .ldc 242, 2), (170, .invokevirtual 244, 3), (173, .goto 35, 3), (176, .aload_n 0, 1), (177, .iconst 3, 1)]
theorem xo184_0 : x_cOk prog_14_method_16_code xc184_0 = true := x_cOk_w (by decide +kernel)
def xc184_1 : List (Nat × Instr × Nat) := [(178, .ldc 247, 2), (180, .invokevirtual 222, 3), (183, .ifCond .eq 24, 3), (186, .aload_n 0, 1), (187, .ldc 226, 2), (189, .invokevirtual 215, 3), (192, .ifCond .eq 15, 3), (195, .aload_n 0, 1), (196, .iconst 4, 1), (197, .invokevirtual 230, 3), (200, .ifCond .eq 7, 3), (203, .iconst 1, 1), (204, .goto 4, 3), (207, .iconst 0, 1), (208, .ireturn, 1), (209, .aload_n 0, 1), (210, .iconst 4, 1), (211, .ldc 249, 2), (213, .invokevirtual 244, 3), (216, .ireturn, 1), (217, .aload_n 0, 1), (218, .iconst 5, 1), (219, .ldc 251, 2), (221, .invokevirtual 244, 3), (224, .ireturn, 1), (225, .aload_n 0, 1), (226, .bipush 9, 2), (228, .ldc 253, 2), (230, .invokevirtual 222, 3), (233, .ifCond .eq 24, 3), (236, .aload_n 0, 1), (237, .ldc 226, 2), (239, .invokevirtual 215, 3), (242, .ifCond .eq 15, 3), (245, .aload_n 0, 1), (246, .iconst 2, 1), (247, .invokevirtual 230, 3), (250, .ifCond .eq 7, 3), (253, .iconst 1, 1), (254, .goto 4, 3), (257, .iconst 0, 1), (258, .ireturn, 1), (259, .aload_n 0, 1), (260, .getfield 118, 3), (263, .iconst 0, 1), (264, .bipush 10, 2), (266, .iastore, 1), (267, .aload_n 0, 1)]
theorem xo184_1 : x_cOk prog_14_method_16_code xc184_1 = true := x_cOk_w (by decide +kernel)
def xc184_2 : List (Nat × Instr × Nat) := [(268, .ldc 255, 2), (270, .invokevirtual 215, 3), (273, .ifCond .eq 15, 3), (276, .aload_n 0, 1), (277, .iconst 2, 1), (278, .invokevirtual 230, 3), (281, .ifCond .eq 7, 3), (284, .iconst 1, 1), (285, .goto 4, 3), (288, .iconst 0, 1), (289, .ireturn, 1), (290, .aload_n 0, 1), (291, .getfield 118, 3), (294, .iconst 0, 1), (295, .bipush 11, 2), (297, .iastore, 1), (298, .aload_n 0, 1), (299, .ldc_w 257, 3), (302, .invokevirtual 215, 3), (305, .ireturn, 1)]
theorem xo184_2 : x_cOk prog_14_method_16_code xc184_2 = true := x_cOk_w (by decide +kernel)
def xg184 : Nat → Option (Instr × Nat) := fun pc => if pc < 178 then x_at2 pc xc184_0 else if pc < 268 then x_at2 pc xc184_1 else x_at2 pc xc184_2
theorem xh184 : x_Good prog_14_method_16_code xg184 := by
  unfold xg184
  exact x_Good_ite (x_Good_l xo184_0) (x_Good_ite (x_Good_l xo184_1) (x_Good_l xo184_2))
def xm184 : XM := (⟨"TwoDigitsModel", "lineHere", "()Z"⟩, prog_14_method_16_code, 1, some .boolean, 12, 12, 0, 0, 0, false, xg184)
def xc185_0 : List (Nat × Instr × Nat) := [(0, .aload_n 0, 1), (1, .getfield 182, 3), (4, .aload_n 0, 1), (5, .getfield 179, 3), (8, .if_icmp .ge 15, 3), (11, .aload_n 0, 1), (12, .getfield 70, 3), (15, .aload_n 0, 1), (16, .getfield 182, 3), (19, .iaload, 1), (20, .goto 4, 3), (23, .iconst (-1), 1), (24, .ireturn, 1)]
theorem xo185_0 : x_cOk prog_14_method_6_code xc185_0 = true := x_cOk_w (by decide +kernel)
def xg185 : Nat → Option (Instr × Nat) := fun pc => x_at2 pc xc185_0
theorem xh185 : x_Good prog_14_method_6_code xg185 := by
  unfold xg185
  exact x_Good_l xo185_0
def xm185 : XM := (⟨"TwoDigitsModel", "here", "()I"⟩, prog_14_method_6_code, 1, some .int, 12, 12, 0, 0, 0, false, xg185)
def xc186_0 : List (Nat × Instr × Nat) := [(0, .aload_n 0, 1), (1, .getfield 118, 3), (4, .iconst 0, 1), (5, .iload_n 1, 1), (6, .iastore, 1), (7, .aload_n 0, 1), (8, .aload_n 2, 1), (9, .invokevirtual 215, 3), (12, .ifCond .eq 15, 3), (15, .aload_n 0, 1), (16, .iconst 1, 1), (17, .invokevirtual 219, 3), (20, .ifCond .eq 7, 3), (23, .iconst 1, 1), (24, .goto 4, 3), (27, .iconst 0, 1), (28, .ireturn, 1)]
theorem xo186_0 : x_cOk prog_14_method_13_code xc186_0 = true := x_cOk_w (by decide +kernel)
def xg186 : Nat → Option (Instr × Nat) := fun pc => x_at2 pc xc186_0
theorem xh186 : x_Good prog_14_method_13_code xg186 := by
  unfold xg186
  exact x_Good_l xo186_0
def xm186 : XM := (⟨"TwoDigitsModel", "one", "(ILjava/lang/String;)Z"⟩, prog_14_method_13_code, 3, some .boolean, 12, 12, 2, 0, 0, false, xg186)
def xc187_0 : List (Nat × Instr × Nat) := [(0, .iconst 0, 1), (1, .istore_n 2, 1), (2, .iload_n 2, 1), (3, .aload_n 1, 1), (4, .invokevirtual 188, 3), (7, .if_icmp .ge 36, 3), (10, .aload_n 0, 1), (11, .invokevirtual 194, 3), (14, .aload_n 1, 1), (15, .iload_n 2, 1), (16, .invokevirtual 197, 3), (19, .if_icmp .eq 8, 3), (22, .aload_n 0, 1), (23, .invokevirtual 201, 3), (26, .ireturn, 1), (27, .aload_n 0, 1), (28, .dup, 1), (29, .getfield 182, 3), (32, .iconst 1, 1), (33, .iadd, 1), (34, .putfield 182, 3), (37, .iinc 2 1, 3), (40, .goto (-38), 3), (43, .iconst 1, 1), (44, .ireturn, 1)]
theorem xo187_0 : x_cOk prog_14_method_8_code xc187_0 = true := x_cOk_w (by decide +kernel)
def xg187 : Nat → Option (Instr × Nat) := fun pc => x_at2 pc xc187_0
theorem xh187 : x_Good prog_14_method_8_code xg187 := by
  unfold xg187
  exact x_Good_l xo187_0
def xm187 : XM := (⟨"TwoDigitsModel", "text", "(Ljava/lang/String;)Z"⟩, prog_14_method_8_code, 3, some .boolean, 12, 12, 1, 0, 0, false, xg187)
def xc188_0 : List (Nat × Instr × Nat) := [(0, .aload_n 0, 1), (1, .aload_n 0, 1), (2, .getfield 182, 3), (5, .putfield 185, 3), (8, .iconst 0, 1), (9, .ireturn, 1)]
theorem xo188_0 : x_cOk prog_14_method_7_code xc188_0 = true := x_cOk_w (by decide +kernel)
def xg188 : Nat → Option (Instr × Nat) := fun pc => x_at2 pc xc188_0
theorem xh188 : x_Good prog_14_method_7_code xg188 := by
  unfold xg188
  exact x_Good_l xo188_0
def xm188 : XM := (⟨"TwoDigitsModel", "wrongHere", "()Z"⟩, prog_14_method_7_code, 1, some .boolean, 12, 12, 0, 0, 0, false, xg188)
def xc189_0 : List (Nat × Instr × Nat) := [(0, .aload_n 0, 1), (1, .invokevirtual 208, 3), (4, .istore_n 2, 1), (5, .aload_n 0, 1), (6, .getfield 118, 3), (9, .iload_n 1, 1), (10, .aload_n 0, 1), (11, .getfield 205, 3), (14, .iastore, 1), (15, .iload_n 2, 1), (16, .ireturn, 1)]
theorem xo189_0 : x_cOk prog_14_method_11_code xc189_0 = true := x_cOk_w (by decide +kernel)
def xg189 : Nat → Option (Instr × Nat) := fun pc => x_at2 pc xc189_0
theorem xh189 : x_Good prog_14_method_11_code xg189 := by
  unfold xg189
  exact x_Good_l xo189_0
def xm189 : XM := (⟨"TwoDigitsModel", "field", "(I)Z"⟩, prog_14_method_11_code, 3, some .boolean, 12, 12, 1, 0, 0, false, xg189)
def xc190_0 : List (Nat × Instr × Nat) := [(0, .aload_n 0, 1), (1, .invokevirtual 194, 3), (4, .bipush 97, 2), (6, .if_icmp .lt 12, 3), (9, .aload_n 0, 1), (10, .invokevirtual 194, 3), (13, .bipush 102, 2), (15, .if_icmp .le 8, 3), (18, .aload_n 0, 1), (19, .invokevirtual 201, 3), (22, .ireturn, 1), (23, .aload_n 0, 1), (24, .aload_n 0, 1), (25, .invokevirtual 194, 3), (28, .bipush 97, 2), (30, .isub, 1), (31, .putfield 205, 3), (34, .aload_n 0, 1), (35, .dup, 1), (36, .getfield 182, 3), (39, .iconst 1, 1), (40, .iadd, 1), (41, .putfield 182, 3), (44, .iconst 1, 1), (45, .ireturn, 1)]
theorem xo190_0 : x_cOk prog_14_method_9_code xc190_0 = true := x_cOk_w (by decide +kernel)
def xg190 : Nat → Option (Instr × Nat) := fun pc => x_at2 pc xc190_0
theorem xh190 : x_Good prog_14_method_9_code xg190 := by
  unfold xg190
  exact x_Good_l xo190_0
def xm190 : XM := (⟨"TwoDigitsModel", "letter", "()Z"⟩, prog_14_method_9_code, 1, some .boolean, 12, 12, 0, 0, 0, false, xg190)
def xc191_0 : List (Nat × Instr × Nat) := [(0, .aload_n 0, 1), (1, .bipush 7, 2), (3, .ldc 228, 2), (5, .invokevirtual 222, 3), (8, .ifCond .ne 5, 3), (11, .iconst 0, 1), (12, .ireturn, 1), (13, .aload_n 0, 1), (14, .invokevirtual 194, 3), (17, .bipush 60, 2), (19, .if_icmp .eq 17, 3), (22, .aload_n 0, 1), (23, .invokevirtual 194, 3), (26, .bipush 61, 2), (28, .if_icmp .eq 8, 3), (31, .aload_n 0, 1), (32, .invokevirtual 201, 3), (35, .ireturn, 1), (36, .aload_n 0, 1), (37, .getfield 118, 3), (40, .iconst 0, 1), (41, .aload_n 0, 1), (42, .invokevirtual 194, 3), (45, .bipush 60, 2), (47, .if_icmp .ne 8, 3), (50, .bipush 7, 2), (52, .goto 5, 3), (55, .bipush 8, 2), (57, .iastore, 1), (58, .aload_n 0, 1), (59, .dup, 1), (60, .getfield 182, 3), (63, .iconst 1, 1), (64, .iadd, 1), (65, .putfield 182, 3), (68, .aload_n 0, 1), (69, .iconst 2, 1), (70, .invokevirtual 219, 3), (73, .ifCond .eq 24, 3), (76, .aload_n 0, 1), (77, .ldc 226, 2), (79, .invokevirtual 215, 3), (82, .ifCond .eq 15, 3), (85, .aload_n 0, 1), (86, .iconst 2, 1), (87, .invokevirtual 230, 3), (90, .ifCond .eq 7, 3), (93, .iconst 1, 1)]
theorem xo191_0 : x_cOk prog_14_method_15_code xc191_0 = true := x_cOk_w (by decide +kernel)
def xc191_1 : List (Nat × Instr × Nat) := [(94, .goto 4, 3), (97, .iconst 0, 1), (98, .ireturn, 1)]
theorem xo191_1 : x_cOk prog_14_method_15_code xc191_1 = true := x_cOk_w (by decide +kernel)
def xg191 : Nat → Option (Instr × Nat) := fun pc => if pc < 94 then x_at2 pc xc191_0 else x_at2 pc xc191_1
theorem xh191 : x_Good prog_14_method_15_code xg191 := by
  unfold xg191
  exact x_Good_ite (x_Good_l xo191_0) (x_Good_l xo191_1)
def xm191 : XM := (⟨"TwoDigitsModel", "asks", "()Z"⟩, prog_14_method_15_code, 1, some .boolean, 12, 12, 0, 0, 0, false, xg191)
def xc192_0 : List (Nat × Instr × Nat) := [(0, .aload_n 0, 1), (1, .iload_n 1, 1), (2, .invokevirtual 211, 3), (5, .istore_n 2, 1), (6, .aload_n 0, 1), (7, .getfield 118, 3), (10, .iconst 3, 1), (11, .aload_n 0, 1), (12, .getfield 205, 3), (15, .iastore, 1), (16, .iload_n 2, 1), (17, .ireturn, 1)]
theorem xo192_0 : x_cOk prog_14_method_12_code xc192_0 = true := x_cOk_w (by decide +kernel)
def xg192 : Nat → Option (Instr × Nat) := fun pc => x_at2 pc xc192_0
theorem xh192 : x_Good prog_14_method_12_code xg192 := by
  unfold xg192
  exact x_Good_l xo192_0
def xm192 : XM := (⟨"TwoDigitsModel", "told", "(I)Z"⟩, prog_14_method_12_code, 3, some .boolean, 12, 12, 1, 0, 0, false, xg192)
def xc193_0 : List (Nat × Instr × Nat) := [(0, .aload_n 0, 1), (1, .invokevirtual 194, 3), (4, .bipush 48, 2), (6, .if_icmp .lt 12, 3), (9, .aload_n 0, 1), (10, .invokevirtual 194, 3), (13, .bipush 57, 2), (15, .if_icmp .le 8, 3), (18, .aload_n 0, 1), (19, .invokevirtual 201, 3), (22, .ireturn, 1), (23, .aload_n 0, 1), (24, .iconst 0, 1), (25, .putfield 205, 3), (28, .iconst 0, 1), (29, .istore_n 2, 1), (30, .iload_n 2, 1), (31, .iload_n 1, 1), (32, .if_icmp .ge 56, 3), (35, .aload_n 0, 1), (36, .invokevirtual 194, 3), (39, .bipush 48, 2), (41, .if_icmp .lt 47, 3), (44, .aload_n 0, 1), (45, .invokevirtual 194, 3), (48, .bipush 57, 2), (50, .if_icmp .gt 38, 3), (53, .aload_n 0, 1), (54, .bipush 10, 2), (56, .aload_n 0, 1), (57, .getfield 205, 3), (60, .imul, 1), (61, .aload_n 0, 1), (62, .invokevirtual 194, 3), (65, .iadd, 1), (66, .bipush 48, 2), (68, .isub, 1), (69, .putfield 205, 3), (72, .aload_n 0, 1), (73, .dup, 1), (74, .getfield 182, 3), (77, .iconst 1, 1), (78, .iadd, 1), (79, .putfield 182, 3), (82, .iinc 2 1, 3), (85, .goto (-55), 3), (88, .iconst 1, 1), (89, .ireturn, 1)]
theorem xo193_0 : x_cOk prog_14_method_10_code xc193_0 = true := x_cOk_w (by decide +kernel)
def xg193 : Nat → Option (Instr × Nat) := fun pc => x_at2 pc xc193_0
theorem xh193 : x_Good prog_14_method_10_code xg193 := by
  unfold xg193
  exact x_Good_l xo193_0
def xm193 : XM := (⟨"TwoDigitsModel", "number", "(I)Z"⟩, prog_14_method_10_code, 3, some .boolean, 12, 12, 1, 0, 0, false, xg193)
def xc194_0 : List (Nat × Instr × Nat) := [(0, .aload_n 0, 1), (1, .iload_n 1, 1), (2, .aload_n 2, 1), (3, .invokevirtual 222, 3), (6, .ifCond .eq 24, 3), (9, .aload_n 0, 1), (10, .ldc 226, 2), (12, .invokevirtual 215, 3), (15, .ifCond .eq 15, 3), (18, .aload_n 0, 1), (19, .iconst 2, 1), (20, .invokevirtual 219, 3), (23, .ifCond .eq 7, 3), (26, .iconst 1, 1), (27, .goto 4, 3), (30, .iconst 0, 1), (31, .ireturn, 1)]
theorem xo194_0 : x_cOk prog_14_method_14_code xc194_0 = true := x_cOk_w (by decide +kernel)
def xg194 : Nat → Option (Instr × Nat) := fun pc => x_at2 pc xc194_0
theorem xh194 : x_Good prog_14_method_14_code xg194 := by
  unfold xg194
  exact x_Good_l xo194_0
def xm194 : XM := (⟨"TwoDigitsModel", "two", "(ILjava/lang/String;)Z"⟩, prog_14_method_14_code, 3, some .boolean, 12, 12, 2, 0, 0, false, xg194)
def xc195_0 : List (Nat × Instr × Nat) := [(0, .iload_n 1, 1), (1, .invokestatic 271, 3), (4, .ifCond .eq 28, 3), (7, .iload_n 2, 1), (8, .iconst 0, 1), (9, .iconst 2, 1), (10, .invokestatic 175, 3), (13, .ifCond .eq 19, 3), (16, .iload_n 1, 1), (17, .iload_n 2, 1), (18, .invokestatic 274, 3), (21, .ifCond .eq 7, 3), (24, .iconst 1, 1), (25, .goto 8, 3), (28, .iconst 0, 1), (29, .goto 4, 3), (32, .iconst (-1), 1), (33, .ireturn, 1)]
theorem xo195_0 : x_cOk prog_14_method_20_code xc195_0 = true := x_cOk_w (by decide +kernel)
def xg195 : Nat → Option (Instr × Nat) := fun pc => x_at2 pc xc195_0
theorem xh195 : x_Good prog_14_method_20_code xg195 := by
  unfold xg195
  exact x_Good_l xo195_0
def xm195 : XM := (⟨"TwoDigitsModel", "leaps", "(II)I"⟩, prog_14_method_20_code, 3, some .int, 12, 12, 2, 0, 0, false, xg195)
def xc196_0 : List (Nat × Instr × Nat) := [(0, .iload_n 0, 1), (1, .sipush 1900, 3), (4, .sipush 2099, 3), (7, .invokestatic 175, 3), (10, .ireturn, 1)]
theorem xo196_0 : x_cOk prog_14_method_4_code xc196_0 = true := x_cOk_w (by decide +kernel)
def xg196 : Nat → Option (Instr × Nat) := fun pc => x_at2 pc xc196_0
theorem xh196 : x_Good prog_14_method_4_code xg196 := by
  unfold xg196
  exact x_Good_l xo196_0
def xm196 : XM := (⟨"TwoDigitsModel", "isYear", "(I)Z"⟩, prog_14_method_4_code, 1, some .boolean, 12, 12, 1, 0, 0, false, xg196)
def xc197_0 : List (Nat × Instr × Nat) := [(0, .iload_n 0, 1), (1, .iconst 4, 1), (2, .irem, 1), (3, .ifCond .ne 31, 3), (6, .iload_n 1, 1), (7, .ifCond .eq 23, 3), (10, .iload_n 0, 1), (11, .bipush 100, 2), (13, .irem, 1), (14, .ifCond .ne 16, 3), (17, .iload_n 1, 1), (18, .iconst 2, 1), (19, .if_icmp .ne 15, 3), (22, .iload_n 0, 1), (23, .sipush 400, 3), (26, .irem, 1), (27, .ifCond .ne 7, 3), (30, .iconst 1, 1), (31, .goto 4, 3), (34, .iconst 0, 1), (35, .ireturn, 1)]
theorem xo197_0 : x_cOk prog_14_method_19_code xc197_0 = true := x_cOk_w (by decide +kernel)
def xg197 : Nat → Option (Instr × Nat) := fun pc => x_at2 pc xc197_0
theorem xh197 : x_Good prog_14_method_19_code xg197 := by
  unfold xg197
  exact x_Good_l xo197_0
def xm197 : XM := (⟨"TwoDigitsModel", "leapsBy", "(II)Z"⟩, prog_14_method_19_code, 2, some .boolean, 12, 12, 2, 0, 0, false, xg197)
def xc198_0 : List (Nat × Instr × Nat) := [(0, .iload_n 1, 1), (1, .iconst 0, 1), (2, .bipush 99, 2), (4, .invokestatic 175, 3), (7, .ifCond .eq 22, 3), (10, .iload_n 2, 1), (11, .iconst 0, 1), (12, .bipush 100, 2), (14, .invokestatic 175, 3), (17, .ifCond .eq 12, 3), (20, .iload_n 1, 1), (21, .iconst 2, 1), (22, .iload_n 2, 1), (23, .invokestatic 278, 3), (26, .goto 4, 3), (29, .iconst (-1), 1), (30, .ireturn, 1)]
theorem xo198_0 : x_cOk prog_14_method_22_code xc198_0 = true := x_cOk_w (by decide +kernel)
def xg198 : Nat → Option (Instr × Nat) := fun pc => x_at2 pc xc198_0
theorem xh198 : x_Good prog_14_method_22_code xg198 := by
  unfold xg198
  exact x_Good_l xo198_0
def xm198 : XM := (⟨"TwoDigitsModel", "meant", "(II)I"⟩, prog_14_method_22_code, 3, some .int, 12, 12, 2, 0, 0, false, xg198)
def xc199_0 : List (Nat × Instr × Nat) := [(0, .iload_n 1, 1), (1, .iconst 2, 1), (2, .if_icmp .ne 28, 3), (5, .iload_n 2, 1), (6, .ifCond .lt 24, 3), (9, .iload_n 0, 1), (10, .iload_n 2, 1), (11, .if_icmp .lt 11, 3), (14, .sipush 1900, 3), (17, .iload_n 0, 1), (18, .iadd, 1), (19, .goto 12, 3), (22, .sipush 2000, 3), (25, .iload_n 0, 1), (26, .iadd, 1), (27, .goto 4, 3), (30, .iload_n 0, 1), (31, .ireturn, 1)]
theorem xo199_0 : x_cOk prog_14_method_21_code xc199_0 = true := x_cOk_w (by decide +kernel)
def xg199 : Nat → Option (Instr × Nat) := fun pc => x_at2 pc xc199_0
theorem xh199 : x_Good prog_14_method_21_code xg199 := by
  unfold xg199
  exact x_Good_l xo199_0
def xm199 : XM := (⟨"TwoDigitsModel", "meantBy", "(III)I"⟩, prog_14_method_21_code, 3, some .int, 12, 12, 3, 0, 0, false, xg199)
def xc200_0 : List (Nat × Instr × Nat) := [(0, .aload_n 0, 1), (1, .iload_n 1, 1), (2, .invokevirtual 326, 3), (5, .ifCond .ne 5, 3), (8, .iconst (-1), 1), (9, .ireturn, 1), (10, .iload_n 2, 1), (11, .invokestatic 271, 3), (14, .ifCond .ne 6, 3), (17, .bipush (-2), 2), (19, .ireturn, 1), (20, .aload_n 0, 1), (21, .iload_n 1, 1), (22, .aload_n 0, 1), (23, .iload_n 1, 1), (24, .iload_n 2, 1), (25, .invokevirtual 329, 3), (28, .invokevirtual 331, 3), (31, .aload_n 0, 1), (32, .getfield 60, 3), (35, .iload_n 1, 1), (36, .aaload, 1), (37, .iconst 0, 1), (38, .iaload, 1), (39, .ireturn, 1)]
theorem xo200_0 : x_cOk prog_14_method_34_code xc200_0 = true := x_cOk_w (by decide +kernel)
def xg200 : Nat → Option (Instr × Nat) := fun pc => x_at2 pc xc200_0
theorem xh200 : x_Good prog_14_method_34_code xg200 := by
  unfold xg200
  exact x_Good_l xo200_0
def xm200 : XM := (⟨"TwoDigitsModel", "run", "(II)I"⟩, prog_14_method_34_code, 3, some .int, 12, 12, 2, 0, 0, false, xg200)
def xc201_0 : List (Nat × Instr × Nat) := [(0, .iload_n 1, 1), (1, .iconst 0, 1), (2, .aload_n 0, 1), (3, .getfield 171, 3), (6, .iconst 1, 1), (7, .isub, 1), (8, .invokestatic 175, 3), (11, .ireturn, 1)]
theorem xo201_0 : x_cOk prog_14_method_3_code xc201_0 = true := x_cOk_w (by decide +kernel)
def xg201 : Nat → Option (Instr × Nat) := fun pc => x_at2 pc xc201_0
theorem xh201 : x_Good prog_14_method_3_code xg201 := by
  unfold xg201
  exact x_Good_l xo201_0
def xm201 : XM := (⟨"TwoDigitsModel", "isProgram", "(I)Z"⟩, prog_14_method_3_code, 2, some .boolean, 12, 12, 1, 0, 0, false, xg201)
def xc202_0 : List (Nat × Instr × Nat) := [(0, .aload_n 0, 1), (1, .iload_n 1, 1), (2, .iload_n 2, 1), (3, .invokevirtual 315, 3), (6, .aload_n 0, 1), (7, .getfield 136, 3), (10, .iconst 0, 1), (11, .aaload, 1), (12, .iconst 0, 1), (13, .aload_n 0, 1), (14, .getfield 48, 3), (17, .iload_n 1, 1), (18, .aaload, 1), (19, .iconst 0, 1), (20, .bipush 12, 2), (22, .invokestatic 262, 3), (25, .aload_n 0, 1), (26, .getfield 136, 3), (29, .iconst 1, 1), (30, .aaload, 1), (31, .iconst 0, 1), (32, .aload_n 0, 1), (33, .getfield 54, 3), (36, .iload_n 1, 1), (37, .aaload, 1), (38, .iconst 0, 1), (39, .bipush 12, 2), (41, .invokestatic 262, 3), (44, .aload_n 0, 1), (45, .getfield 51, 3), (48, .iload_n 1, 1), (49, .aload_n 0, 1), (50, .getfield 139, 3), (53, .iconst 0, 1), (54, .iaload, 1), (55, .iastore, 1), (56, .aload_n 0, 1), (57, .getfield 57, 3), (60, .iload_n 1, 1), (61, .aload_n 0, 1), (62, .getfield 139, 3), (65, .iconst 1, 1), (66, .iaload, 1), (67, .iastore, 1), (68, .aload_n 0, 1), (69, .getfield 133, 3), (72, .iconst 0, 1), (73, .iaload, 1)]
theorem xo202_0 : x_cOk prog_14_method_32_code xc202_0 = true := x_cOk_w (by decide +kernel)
def xc202_1 : List (Nat × Instr × Nat) := [(74, .aload_n 0, 1), (75, .getfield 133, 3), (78, .iconst 1, 1), (79, .iaload, 1), (80, .if_icmp .ne 33, 3), (83, .aload_n 0, 1), (84, .getfield 48, 3), (87, .iload_n 1, 1), (88, .aaload, 1), (89, .aload_n 0, 1), (90, .getfield 51, 3), (93, .iload_n 1, 1), (94, .iaload, 1), (95, .aload_n 0, 1), (96, .getfield 54, 3), (99, .iload_n 1, 1), (100, .aaload, 1), (101, .aload_n 0, 1), (102, .getfield 57, 3), (105, .iload_n 1, 1), (106, .iaload, 1), (107, .invokestatic 319, 3), (110, .ifCond .ne 7, 3), (113, .iconst 1, 1), (114, .goto 4, 3), (117, .iconst 0, 1), (118, .ireturn, 1)]
theorem xo202_1 : x_cOk prog_14_method_32_code xc202_1 = true := x_cOk_w (by decide +kernel)
def xg202 : Nat → Option (Instr × Nat) := fun pc => if pc < 74 then x_at2 pc xc202_0 else x_at2 pc xc202_1
theorem xh202 : x_Good prog_14_method_32_code xg202 := by
  unfold xg202
  exact x_Good_ite (x_Good_l xo202_0) (x_Good_l xo202_1)
def xm202 : XM := (⟨"TwoDigitsModel", "runs", "(II)Z"⟩, prog_14_method_32_code, 3, some .boolean, 12, 12, 2, 0, 0, false, xg202)
def xc203_0 : List (Nat × Instr × Nat) := [(0, .aload_n 0, 1), (1, .iconst 0, 1), (2, .invokevirtual 304, 3), (5, .aload_n 0, 1), (6, .iconst 1, 1), (7, .invokevirtual 304, 3), (10, .aload_n 0, 1), (11, .iconst (-1), 1), (12, .putfield 308, 3), (15, .iconst 1, 1), (16, .istore_n 3, 1), (17, .aload_n 0, 1), (18, .getfield 133, 3), (21, .iconst 0, 1), (22, .iaload, 1), (23, .ifCond .lt 12, 3), (26, .aload_n 0, 1), (27, .getfield 133, 3), (30, .iconst 1, 1), (31, .iaload, 1), (32, .ifCond .ge 192, 3), (35, .aload_n 0, 1), (36, .getfield 124, 3), (39, .iconst 0, 1), (40, .iaload, 1), (41, .istore 4, 2), (43, .iload_n 3, 1), (44, .ifCond .eq 144, 3), (47, .aload_n 0, 1), (48, .getfield 15, 3), (51, .iload_n 1, 1), (52, .aaload, 1), (53, .iconst 4, 1), (54, .iload 4, 2), (56, .imul, 1), (57, .iaload, 1), (58, .iconst 2, 1), (59, .if_icmp .ne 7, 3), (62, .iconst 1, 1), (63, .goto 4, 3), (66, .iconst 0, 1), (67, .istore 5, 2), (69, .aload_n 0, 1), (70, .iload_n 1, 1), (71, .iload_n 2, 1), (72, .iconst 0, 1), (73, .invokevirtual 311, 3), (76, .aload_n 0, 1)]
theorem xo203_0 : x_cOk prog_14_method_30_code xc203_0 = true := x_cOk_w (by decide +kernel)
def xc203_1 : List (Nat × Instr × Nat) := [(77, .iload_n 1, 1), (78, .iload_n 2, 1), (79, .iconst 1, 1), (80, .invokevirtual 311, 3), (83, .aload_n 0, 1), (84, .getfield 133, 3), (87, .iconst 0, 1), (88, .iaload, 1), (89, .aload_n 0, 1), (90, .getfield 133, 3), (93, .iconst 1, 1), (94, .iaload, 1), (95, .if_icmp .ne 57, 3), (98, .aload_n 0, 1), (99, .getfield 133, 3), (102, .iconst 0, 1), (103, .iaload, 1), (104, .ifCond .ge 18, 3), (107, .aload_n 0, 1), (108, .getfield 124, 3), (111, .iconst 0, 1), (112, .iaload, 1), (113, .aload_n 0, 1), (114, .getfield 124, 3), (117, .iconst 1, 1), (118, .iaload, 1), (119, .if_icmp .ne 33, 3), (122, .iload 5, 2), (124, .ifCond .eq 32, 3), (127, .aload_n 0, 1), (128, .getfield 133, 3), (131, .iconst 0, 1), (132, .iaload, 1), (133, .iconst 1, 1), (134, .if_icmp .eq 22, 3), (137, .aload_n 0, 1), (138, .getfield 142, 3), (141, .iconst 0, 1), (142, .iaload, 1), (143, .aload_n 0, 1), (144, .getfield 142, 3), (147, .iconst 1, 1), (148, .iaload, 1), (149, .if_icmp .eq 7, 3), (152, .iconst 1, 1), (153, .goto 4, 3), (156, .iconst 0, 1), (157, .istore 6, 2)]
theorem xo203_1 : x_cOk prog_14_method_30_code xc203_1 = true := x_cOk_w (by decide +kernel)
def xc203_2 : List (Nat × Instr × Nat) := [(159, .aload_n 0, 1), (160, .iload 6, 2), (162, .ifCond .eq 8, 3), (165, .iload 4, 2), (167, .goto 4, 3), (170, .iconst (-1), 1), (171, .putfield 308, 3), (174, .iload 6, 2), (176, .ifCond .ne 7, 3), (179, .iconst 1, 1), (180, .goto 4, 3), (183, .iconst 0, 1), (184, .istore_n 3, 1), (185, .goto (-168), 3), (188, .iconst 0, 1), (189, .istore 5, 2), (191, .iload 5, 2), (193, .iconst 2, 1), (194, .if_icmp .ge 27, 3), (197, .aload_n 0, 1), (198, .getfield 133, 3), (201, .iload 5, 2), (203, .iaload, 1), (204, .ifCond .ge 11, 3), (207, .aload_n 0, 1), (208, .iload_n 1, 1), (209, .iload_n 2, 1), (210, .iload 5, 2), (212, .invokevirtual 311, 3), (215, .iinc 5 1, 3), (218, .goto (-27), 3), (221, .goto (-204), 3), (224, .return_, 1)]
theorem xo203_2 : x_cOk prog_14_method_30_code xc203_2 = true := x_cOk_w (by decide +kernel)
def xg203 : Nat → Option (Instr × Nat) := fun pc => if pc < 77 then x_at2 pc xc203_0 else if pc < 159 then x_at2 pc xc203_1 else x_at2 pc xc203_2
theorem xh203 : x_Good prog_14_method_30_code xg203 := by
  unfold xg203
  exact x_Good_ite (x_Good_l xo203_0) (x_Good_ite (x_Good_l xo203_1) (x_Good_l xo203_2))
def xm203 : XM := (⟨"TwoDigitsModel", "both", "(II)V"⟩, prog_14_method_30_code, 7, none, 12, 12, 2, 0, 0, false, xg203)
def xc204_0 : List (Nat × Instr × Nat) := [(0, .iconst 0, 1), (1, .istore_n 2, 1), (2, .iload_n 2, 1), (3, .bipush 6, 2), (5, .if_icmp .ge 18, 3), (8, .aload_n 0, 1), (9, .getfield 121, 3), (12, .iload_n 1, 1), (13, .aaload, 1), (14, .iload_n 2, 1), (15, .iconst 0, 1), (16, .iastore, 1), (17, .iinc 2 1, 3), (20, .goto (-18), 3), (23, .aload_n 0, 1), (24, .getfield 124, 3), (27, .iload_n 1, 1), (28, .iconst 0, 1), (29, .iastore, 1), (30, .aload_n 0, 1), (31, .getfield 127, 3), (34, .iload_n 1, 1), (35, .iconst 0, 1), (36, .iastore, 1), (37, .aload_n 0, 1), (38, .getfield 130, 3), (41, .iload_n 1, 1), (42, .iconst 0, 1), (43, .iastore, 1), (44, .aload_n 0, 1), (45, .getfield 133, 3), (48, .iload_n 1, 1), (49, .iconst (-1), 1), (50, .iastore, 1), (51, .aload_n 0, 1), (52, .getfield 139, 3), (55, .iload_n 1, 1), (56, .iconst 0, 1), (57, .iastore, 1), (58, .return_, 1)]
theorem xo204_0 : x_cOk prog_14_method_29_code xc204_0 = true := x_cOk_w (by decide +kernel)
def xg204 : Nat → Option (Instr × Nat) := fun pc => x_at2 pc xc204_0
theorem xh204 : x_Good prog_14_method_29_code xg204 := by
  unfold xg204
  exact x_Good_l xo204_0
def xm204 : XM := (⟨"TwoDigitsModel", "begin", "(I)V"⟩, prog_14_method_29_code, 3, none, 12, 12, 1, 0, 0, false, xg204)
def xc205_0 : List (Nat × Instr × Nat) := [(0, .aload_n 0, 1), (1, .getfield 15, 3), (4, .iload_n 1, 1), (5, .aaload, 1), (6, .astore 4, 2), (8, .iconst 4, 1), (9, .aload_n 0, 1), (10, .getfield 124, 3), (13, .iload_n 3, 1), (14, .iaload, 1), (15, .imul, 1), (16, .istore 5, 2), (18, .aload_n 0, 1), (19, .getfield 121, 3), (22, .iload_n 3, 1), (23, .aaload, 1), (24, .astore 6, 2), (26, .aload_n 0, 1), (27, .getfield 124, 3), (30, .iload_n 3, 1), (31, .iaload, 1), (32, .iconst 1, 1), (33, .iadd, 1), (34, .istore 7, 2), (36, .aload_n 0, 1), (37, .getfield 130, 3), (40, .iload_n 3, 1), (41, .dup2, 1), (42, .iaload, 1), (43, .iconst 1, 1), (44, .iadd, 1), (45, .iastore, 1), (46, .aload 4, 2), (48, .iload 5, 2), (50, .iaload, 1), (51, .tableswitch 522 0 10 #[57, 84, 155, 222, 255, 291, 338, 385, 431, 477, 510], 57), (108, .aload 6, 2), (110, .aload 4, 2), (112, .iload 5, 2), (114, .iconst 1, 1), (115, .iadd, 1), (116, .iaload, 1), (117, .aload_n 0, 1), (118, .iload_n 1, 1), (119, .aload 4, 2), (121, .iload 5, 2), (123, .iconst 1, 1), (124, .iadd, 1)]
theorem xo205_0 : x_cOk prog_14_method_28_code xc205_0 = true := x_cOk_w (by decide +kernel)
def xc205_1 : List (Nat × Instr × Nat) := [(125, .iaload, 1), (126, .iload_n 2, 1), (127, .iload_n 3, 1), (128, .invokevirtual 291, 3), (131, .iastore, 1), (132, .goto 445, 3), (135, .aload_n 0, 1), (136, .getfield 127, 3), (139, .iload_n 3, 1), (140, .iaload, 1), (141, .aload_n 0, 1), (142, .iload_n 1, 1), (143, .iload_n 3, 1), (144, .invokevirtual 295, 3), (147, .if_icmp .ne 11, 3), (150, .aload_n 0, 1), (151, .getfield 133, 3), (154, .iload_n 3, 1), (155, .iconst 1, 1), (156, .iastore, 1), (157, .return_, 1), (158, .aload 6, 2), (160, .aload 4, 2), (162, .iload 5, 2), (164, .iconst 1, 1), (165, .iadd, 1), (166, .iaload, 1), (167, .aload_n 0, 1), (168, .iload_n 1, 1), (169, .aload 4, 2), (171, .iload 5, 2), (173, .iconst 1, 1), (174, .iadd, 1), (175, .iaload, 1), (176, .aload_n 0, 1), (177, .iload_n 1, 1), (178, .aload_n 0, 1), (179, .getfield 127, 3), (182, .iload_n 3, 1), (183, .iaload, 1), (184, .iload_n 3, 1), (185, .invokevirtual 298, 3), (188, .iload_n 3, 1), (189, .invokevirtual 291, 3), (192, .iastore, 1), (193, .aload_n 0, 1), (194, .getfield 127, 3), (197, .iload_n 3, 1)]
theorem xo205_1 : x_cOk prog_14_method_28_code xc205_1 = true := x_cOk_w (by decide +kernel)
def xc205_2 : List (Nat × Instr × Nat) := [(198, .dup2, 1), (199, .iaload, 1), (200, .iconst 1, 1), (201, .iadd, 1), (202, .iastore, 1), (203, .goto 374, 3), (206, .aload_n 0, 1), (207, .getfield 139, 3), (210, .iload_n 3, 1), (211, .iaload, 1), (212, .bipush 12, 2), (214, .if_icmp .ne 11, 3), (217, .aload_n 0, 1), (218, .getfield 133, 3), (221, .iload_n 3, 1), (222, .iconst 1, 1), (223, .iastore, 1), (224, .return_, 1), (225, .aload_n 0, 1), (226, .getfield 142, 3), (229, .iload_n 3, 1), (230, .aload 6, 2), (232, .aload 4, 2), (234, .iload 5, 2), (236, .iconst 1, 1), (237, .iadd, 1), (238, .iaload, 1), (239, .iaload, 1), (240, .iastore, 1), (241, .aload_n 0, 1), (242, .getfield 136, 3), (245, .iload_n 3, 1), (246, .aaload, 1), (247, .aload_n 0, 1), (248, .getfield 139, 3), (251, .iload_n 3, 1), (252, .iaload, 1), (253, .aload_n 0, 1), (254, .getfield 142, 3), (257, .iload_n 3, 1), (258, .iaload, 1), (259, .iastore, 1), (260, .aload_n 0, 1), (261, .getfield 139, 3), (264, .iload_n 3, 1), (265, .dup2, 1), (266, .iaload, 1), (267, .iconst 1, 1)]
theorem xo205_2 : x_cOk prog_14_method_28_code xc205_2 = true := x_cOk_w (by decide +kernel)
def xc205_3 : List (Nat × Instr × Nat) := [(268, .iadd, 1), (269, .iastore, 1), (270, .goto 307, 3), (273, .aload 6, 2), (275, .aload 4, 2), (277, .iload 5, 2), (279, .iconst 1, 1), (280, .iadd, 1), (281, .iaload, 1), (282, .aload_n 0, 1), (283, .iload_n 1, 1), (284, .aload 4, 2), (286, .iload 5, 2), (288, .iconst 1, 1), (289, .iadd, 1), (290, .iaload, 1), (291, .aload 4, 2), (293, .iload 5, 2), (295, .iconst 3, 1), (296, .iadd, 1), (297, .iaload, 1), (298, .iload_n 3, 1), (299, .invokevirtual 291, 3), (302, .iastore, 1), (303, .goto 274, 3), (306, .aload 6, 2), (308, .aload 4, 2), (310, .iload 5, 2), (312, .iconst 1, 1), (313, .iadd, 1), (314, .iaload, 1), (315, .aload_n 0, 1), (316, .iload_n 1, 1), (317, .aload 4, 2), (319, .iload 5, 2), (321, .iconst 1, 1), (322, .iadd, 1), (323, .iaload, 1), (324, .aload 6, 2), (326, .aload 4, 2), (328, .iload 5, 2), (330, .iconst 2, 1), (331, .iadd, 1), (332, .iaload, 1), (333, .iaload, 1), (334, .iload_n 3, 1), (335, .invokevirtual 291, 3), (338, .iastore, 1)]
theorem xo205_3 : x_cOk prog_14_method_28_code xc205_3 = true := x_cOk_w (by decide +kernel)
def xc205_4 : List (Nat × Instr × Nat) := [(339, .goto 238, 3), (342, .aload 6, 2), (344, .aload 4, 2), (346, .iload 5, 2), (348, .iconst 1, 1), (349, .iadd, 1), (350, .iaload, 1), (351, .aload_n 0, 1), (352, .iload_n 1, 1), (353, .aload 4, 2), (355, .iload 5, 2), (357, .iconst 1, 1), (358, .iadd, 1), (359, .iaload, 1), (360, .aload 6, 2), (362, .aload 4, 2), (364, .iload 5, 2), (366, .iconst 1, 1), (367, .iadd, 1), (368, .iaload, 1), (369, .iaload, 1), (370, .aload 6, 2), (372, .aload 4, 2), (374, .iload 5, 2), (376, .iconst 2, 1), (377, .iadd, 1), (378, .iaload, 1), (379, .iaload, 1), (380, .iadd, 1), (381, .iload_n 3, 1), (382, .invokevirtual 291, 3), (385, .iastore, 1), (386, .goto 191, 3), (389, .aload 6, 2), (391, .aload 4, 2), (393, .iload 5, 2), (395, .iconst 1, 1), (396, .iadd, 1), (397, .iaload, 1), (398, .aload_n 0, 1), (399, .iload_n 1, 1), (400, .aload 4, 2), (402, .iload 5, 2), (404, .iconst 1, 1), (405, .iadd, 1), (406, .iaload, 1), (407, .aload 6, 2), (409, .aload 4, 2)]
theorem xo205_4 : x_cOk prog_14_method_28_code xc205_4 = true := x_cOk_w (by decide +kernel)
def xc205_5 : List (Nat × Instr × Nat) := [(411, .iload 5, 2), (413, .iconst 1, 1), (414, .iadd, 1), (415, .iaload, 1), (416, .iaload, 1), (417, .aload 6, 2), (419, .aload 4, 2), (421, .iload 5, 2), (423, .iconst 2, 1), (424, .iadd, 1), (425, .iaload, 1), (426, .iaload, 1), (427, .isub, 1), (428, .iload_n 3, 1), (429, .invokevirtual 291, 3), (432, .iastore, 1), (433, .goto 144, 3), (436, .aload_n 0, 1), (437, .iload_n 1, 1), (438, .aload 4, 2), (440, .iload 5, 2), (442, .iconst 1, 1), (443, .iadd, 1), (444, .iaload, 1), (445, .iload_n 3, 1), (446, .invokevirtual 288, 3), (449, .aload_n 0, 1), (450, .iload_n 1, 1), (451, .aload 4, 2), (453, .iload 5, 2), (455, .iconst 2, 1), (456, .iadd, 1), (457, .iaload, 1), (458, .iload_n 3, 1), (459, .invokevirtual 288, 3), (462, .if_icmp .ge 13, 3), (465, .aload 4, 2), (467, .iload 5, 2), (469, .iconst 3, 1), (470, .iadd, 1), (471, .iaload, 1), (472, .goto 5, 3), (475, .iload 7, 2), (477, .istore 7, 2), (479, .goto 98, 3), (482, .aload_n 0, 1), (483, .iload_n 1, 1), (484, .aload 4, 2)]
theorem xo205_5 : x_cOk prog_14_method_28_code xc205_5 = true := x_cOk_w (by decide +kernel)
def xc205_6 : List (Nat × Instr × Nat) := [(486, .iload 5, 2), (488, .iconst 1, 1), (489, .iadd, 1), (490, .iaload, 1), (491, .iload_n 3, 1), (492, .invokevirtual 288, 3), (495, .aload_n 0, 1), (496, .iload_n 1, 1), (497, .aload 4, 2), (499, .iload 5, 2), (501, .iconst 2, 1), (502, .iadd, 1), (503, .iaload, 1), (504, .iload_n 3, 1), (505, .invokevirtual 288, 3), (508, .if_icmp .ne 13, 3), (511, .aload 4, 2), (513, .iload 5, 2), (515, .iconst 3, 1), (516, .iadd, 1), (517, .iaload, 1), (518, .goto 5, 3), (521, .iload 7, 2), (523, .istore 7, 2), (525, .goto 52, 3), (528, .aload_n 0, 1), (529, .iload_n 1, 1), (530, .aload 4, 2), (532, .iload 5, 2), (534, .iconst 1, 1), (535, .iadd, 1), (536, .iaload, 1), (537, .iload_n 3, 1), (538, .invokevirtual 301, 3), (541, .ifCond .eq 13, 3), (544, .aload 4, 2), (546, .iload 5, 2), (548, .iconst 3, 1), (549, .iadd, 1), (550, .iaload, 1), (551, .goto 5, 3), (554, .iload 7, 2), (556, .istore 7, 2), (558, .goto 19, 3), (561, .aload 4, 2), (563, .iload 5, 2), (565, .iconst 3, 1), (566, .iadd, 1)]
theorem xo205_6 : x_cOk prog_14_method_28_code xc205_6 = true := x_cOk_w (by decide +kernel)
def xc205_7 : List (Nat × Instr × Nat) := [(567, .iaload, 1), (568, .istore 7, 2), (570, .goto 7, 3), (573, .bipush 12, 2), (575, .istore 7, 2), (577, .aload_n 0, 1), (578, .getfield 124, 3), (581, .iload_n 3, 1), (582, .iload 7, 2), (584, .iastore, 1), (585, .iload 7, 2), (587, .aload_n 0, 1), (588, .getfield 9, 3), (591, .iload_n 1, 1), (592, .iaload, 1), (593, .if_icmp .lt 13, 3), (596, .aload_n 0, 1), (597, .getfield 133, 3), (600, .iload_n 3, 1), (601, .iconst 0, 1), (602, .iastore, 1), (603, .goto 22, 3), (606, .aload_n 0, 1), (607, .getfield 130, 3), (610, .iload_n 3, 1), (611, .iaload, 1), (612, .sipush 150, 3), (615, .if_icmp .ne 10, 3), (618, .aload_n 0, 1), (619, .getfield 133, 3), (622, .iload_n 3, 1), (623, .iconst 2, 1), (624, .iastore, 1), (625, .return_, 1)]
theorem xo205_7 : x_cOk prog_14_method_28_code xc205_7 = true := x_cOk_w (by decide +kernel)
def xg205 : Nat → Option (Instr × Nat) := fun pc => if pc < 125 then x_at2 pc xc205_0 else if pc < 198 then x_at2 pc xc205_1 else if pc < 268 then x_at2 pc xc205_2 else if pc < 339 then x_at2 pc xc205_3 else if pc < 411 then x_at2 pc xc205_4 else if pc < 486 then x_at2 pc xc205_5 else if pc < 567 then x_at2 pc xc205_6 else x_at2 pc xc205_7
theorem xh205 : x_Good prog_14_method_28_code xg205 := by
  unfold xg205
  exact x_Good_ite (x_Good_l xo205_0) (x_Good_ite (x_Good_l xo205_1) (x_Good_ite (x_Good_l xo205_2) (x_Good_ite (x_Good_l xo205_3) (x_Good_ite (x_Good_l xo205_4) (x_Good_ite (x_Good_l xo205_5) (x_Good_ite (x_Good_l xo205_6) (x_Good_l xo205_7)))))))
def xm205 : XM := (⟨"TwoDigitsModel", "step", "(III)V"⟩, prog_14_method_28_code, 8, none, 12, 12, 3, 0, 0, false, xg205)
def xc206_0 : List (Nat × Instr × Nat) := [(0, .iload 4, 2), (2, .iconst 1, 1), (3, .if_icmp .ne 7, 3), (6, .iload_n 3, 1), (7, .goto 27, 3), (10, .iload_n 3, 1), (11, .aload_n 0, 1), (12, .getfield 18, 3), (15, .iload_n 1, 1), (16, .aaload, 1), (17, .iload_n 2, 1), (18, .iaload, 1), (19, .iconst 2, 1), (20, .if_icmp .ne 8, 3), (23, .bipush 100, 2), (25, .goto 6, 3), (28, .sipush 10000, 3), (31, .invokestatic 282, 3), (34, .ireturn, 1)]
theorem xo206_0 : x_cOk prog_14_method_23_code xc206_0 = true := x_cOk_w (by decide +kernel)
def xg206 : Nat → Option (Instr × Nat) := fun pc => x_at2 pc xc206_0
theorem xh206 : x_Good prog_14_method_23_code xg206 := by
  unfold xg206
  exact x_Good_l xo206_0
def xm206 : XM := (⟨"TwoDigitsModel", "kept", "(IIII)I"⟩, prog_14_method_23_code, 5, some .int, 12, 12, 4, 0, 0, false, xg206)
def xc207_0 : List (Nat × Instr × Nat) := [(0, .aload_n 0, 1), (1, .getfield 27, 3), (4, .iload_n 1, 1), (5, .iaload, 1), (6, .ifCond .ge 12, 3), (9, .aload_n 0, 1), (10, .getfield 45, 3), (13, .iload_n 1, 1), (14, .iaload, 1), (15, .goto 33, 3), (18, .iload_n 2, 1), (19, .iconst 1, 1), (20, .if_icmp .ne 17, 3), (23, .aload_n 0, 1), (24, .getfield 57, 3), (27, .aload_n 0, 1), (28, .getfield 27, 3), (31, .iload_n 1, 1), (32, .iaload, 1), (33, .iaload, 1), (34, .goto 14, 3), (37, .aload_n 0, 1), (38, .getfield 51, 3), (41, .aload_n 0, 1), (42, .getfield 27, 3), (45, .iload_n 1, 1), (46, .iaload, 1), (47, .iaload, 1), (48, .ireturn, 1)]
theorem xo207_0 : x_cOk prog_14_method_25_code xc207_0 = true := x_cOk_w (by decide +kernel)
def xg207 : Nat → Option (Instr × Nat) := fun pc => x_at2 pc xc207_0
theorem xh207 : x_Good prog_14_method_25_code xg207 := by
  unfold xg207
  exact x_Good_l xo207_0
def xm207 : XM := (⟨"TwoDigitsModel", "inputs", "(II)I"⟩, prog_14_method_25_code, 3, some .int, 12, 12, 2, 0, 0, false, xg207)
def xc208_0 : List (Nat × Instr × Nat) := [(0, .aload_n 0, 1), (1, .getfield 27, 3), (4, .iload_n 1, 1), (5, .iaload, 1), (6, .ifCond .ge 14, 3), (9, .aload_n 0, 1), (10, .getfield 42, 3), (13, .iload_n 1, 1), (14, .aaload, 1), (15, .iload_n 2, 1), (16, .iaload, 1), (17, .goto 37, 3), (20, .iload_n 3, 1), (21, .iconst 1, 1), (22, .if_icmp .ne 19, 3), (25, .aload_n 0, 1), (26, .getfield 54, 3), (29, .aload_n 0, 1), (30, .getfield 27, 3), (33, .iload_n 1, 1), (34, .iaload, 1), (35, .aaload, 1), (36, .iload_n 2, 1), (37, .iaload, 1), (38, .goto 16, 3), (41, .aload_n 0, 1), (42, .getfield 48, 3), (45, .aload_n 0, 1), (46, .getfield 27, 3), (49, .iload_n 1, 1), (50, .iaload, 1), (51, .aaload, 1), (52, .iload_n 2, 1), (53, .iaload, 1), (54, .istore 4, 2), (56, .aload_n 0, 1), (57, .getfield 27, 3), (60, .iload_n 1, 1), (61, .iaload, 1), (62, .ifCond .ge 13, 3), (65, .iload 4, 2), (67, .iconst (-1), 1), (68, .if_icmp .ne 7, 3), (71, .iconst 0, 1), (72, .goto 5, 3), (75, .iload 4, 2), (77, .ireturn, 1)]
theorem xo208_0 : x_cOk prog_14_method_26_code xc208_0 = true := x_cOk_w (by decide +kernel)
def xg208 : Nat → Option (Instr × Nat) := fun pc => x_at2 pc xc208_0
theorem xh208 : x_Good prog_14_method_26_code xg208 := by
  unfold xg208
  exact x_Good_l xo208_0
def xm208 : XM := (⟨"TwoDigitsModel", "inputAt", "(III)I"⟩, prog_14_method_26_code, 5, some .int, 12, 12, 3, 0, 0, false, xg208)
end XCode5
end
section
/-! Instructions, by program: part 6. -/
section XCode6
def xc209_0 : List (Nat × Instr × Nat) := [(0, .iload_n 3, 1), (1, .iconst 1, 1), (2, .if_icmp .ne 14, 3), (5, .aload_n 0, 1), (6, .getfield 121, 3), (9, .iconst 1, 1), (10, .aaload, 1), (11, .iload_n 2, 1), (12, .iaload, 1), (13, .goto 30, 3), (16, .aload_n 0, 1), (17, .getfield 121, 3), (20, .iconst 0, 1), (21, .aaload, 1), (22, .iload_n 2, 1), (23, .iaload, 1), (24, .aload_n 0, 1), (25, .getfield 18, 3), (28, .iload_n 1, 1), (29, .aaload, 1), (30, .iload_n 2, 1), (31, .iaload, 1), (32, .aload_n 0, 1), (33, .getfield 21, 3), (36, .iload_n 1, 1), (37, .aaload, 1), (38, .iload_n 2, 1), (39, .iaload, 1), (40, .invokestatic 278, 3), (43, .ireturn, 1)]
theorem xo209_0 : x_cOk prog_14_method_24_code xc209_0 = true := x_cOk_w (by decide +kernel)
def xg209 : Nat → Option (Instr × Nat) := fun pc => x_at2 pc xc209_0
theorem xh209 : x_Good prog_14_method_24_code xg209 := by
  unfold xg209
  exact x_Good_l xo209_0
def xm209 : XM := (⟨"TwoDigitsModel", "worth", "(III)I"⟩, prog_14_method_24_code, 4, some .int, 12, 12, 3, 0, 0, false, xg209)
def xc210_0 : List (Nat × Instr × Nat) := [(0, .aload_n 0, 1), (1, .iload_n 1, 1), (2, .iload_n 2, 1), (3, .iload_n 3, 1), (4, .invokevirtual 288, 3), (7, .istore 4, 2), (9, .iload_n 3, 1), (10, .iconst 1, 1), (11, .if_icmp .ne 10, 3), (14, .iload 4, 2), (16, .iconst 2, 1), (17, .invokestatic 274, 3), (20, .ireturn, 1), (21, .iload 4, 2), (23, .bipush 100, 2), (25, .if_icmp .ge 12, 3), (28, .sipush 1900, 3), (31, .iload 4, 2), (33, .iadd, 1), (34, .goto 5, 3), (37, .iload 4, 2), (39, .aload_n 0, 1), (40, .getfield 24, 3), (43, .iload_n 1, 1), (44, .iaload, 1), (45, .invokestatic 274, 3), (48, .ireturn, 1)]
theorem xo210_0 : x_cOk prog_14_method_27_code xc210_0 = true := x_cOk_w (by decide +kernel)
def xg210 : Nat → Option (Instr × Nat) := fun pc => x_at2 pc xc210_0
theorem xh210 : x_Good prog_14_method_27_code xg210 := by
  unfold xg210
  exact x_Good_l xo210_0
def xm210 : XM := (⟨"TwoDigitsModel", "leapsNow", "(III)Z"⟩, prog_14_method_27_code, 5, some .boolean, 12, 12, 3, 0, 0, false, xg210)
def xc211_0 : List (Nat × Instr × Nat) := [(0, .iload_n 1, 1), (1, .iload_n 3, 1), (2, .if_icmp .ne 7, 3), (5, .iconst 1, 1), (6, .goto 4, 3), (9, .iconst 0, 1), (10, .istore 4, 2), (12, .iconst 0, 1), (13, .istore 5, 2), (15, .iload 4, 2), (17, .ifCond .eq 33, 3), (20, .iload 5, 2), (22, .iload_n 1, 1), (23, .if_icmp .ge 27, 3), (26, .aload_n 0, 1), (27, .iload 5, 2), (29, .iaload, 1), (30, .aload_n 2, 1), (31, .iload 5, 2), (33, .iaload, 1), (34, .if_icmp .ne 7, 3), (37, .iconst 1, 1), (38, .goto 4, 3), (41, .iconst 0, 1), (42, .istore 4, 2), (44, .iinc 5 1, 3), (47, .goto (-32), 3), (50, .iload 4, 2), (52, .ireturn, 1)]
theorem xo211_0 : x_cOk prog_14_method_31_code xc211_0 = true := x_cOk_w (by decide +kernel)
def xg211 : Nat → Option (Instr × Nat) := fun pc => x_at2 pc xc211_0
theorem xh211 : x_Good prog_14_method_31_code xg211 := by
  unfold xg211
  exact x_Good_l xo211_0
def xm211 : XM := (⟨"TwoDigitsModel", "same", "([II[II)Z"⟩, prog_14_method_31_code, 6, some .boolean, 12, 12, 4, 0, 0, false, xg211)
def xc212_0 : List (Nat × Instr × Nat) := [(0, .aload_n 0, 1), (1, .getfield 63, 3), (4, .iload_n 1, 1), (5, .iconst 1, 1), (6, .bastore, 1), (7, .aload_n 0, 1), (8, .getfield 67, 3), (11, .iload_n 1, 1), (12, .iload_n 2, 1), (13, .bastore, 1), (14, .aload_n 0, 1), (15, .getfield 60, 3), (18, .iload_n 1, 1), (19, .aaload, 1), (20, .iconst 0, 1), (21, .aload_n 0, 1), (22, .getfield 133, 3), (25, .iconst 0, 1), (26, .iaload, 1), (27, .iastore, 1), (28, .aload_n 0, 1), (29, .getfield 60, 3), (32, .iload_n 1, 1), (33, .aaload, 1), (34, .iconst 1, 1), (35, .aload_n 0, 1), (36, .getfield 133, 3), (39, .iconst 1, 1), (40, .iaload, 1), (41, .iastore, 1), (42, .aload_n 0, 1), (43, .getfield 60, 3), (46, .iload_n 1, 1), (47, .aaload, 1), (48, .iconst 2, 1), (49, .aload_n 0, 1), (50, .getfield 130, 3), (53, .iconst 0, 1), (54, .iaload, 1), (55, .iastore, 1), (56, .aload_n 0, 1), (57, .getfield 60, 3), (60, .iload_n 1, 1), (61, .aaload, 1), (62, .iconst 3, 1), (63, .aload_n 0, 1), (64, .getfield 130, 3), (67, .iconst 1, 1)]
theorem xo212_0 : x_cOk prog_14_method_33_code xc212_0 = true := x_cOk_w (by decide +kernel)
def xc212_1 : List (Nat × Instr × Nat) := [(68, .iaload, 1), (69, .iastore, 1), (70, .aload_n 0, 1), (71, .getfield 60, 3), (74, .iload_n 1, 1), (75, .aaload, 1), (76, .iconst 4, 1), (77, .aload_n 0, 1), (78, .getfield 308, 3), (81, .iastore, 1), (82, .aload_n 0, 1), (83, .dup, 1), (84, .getfield 323, 3), (87, .iconst 1, 1), (88, .iadd, 1), (89, .putfield 323, 3), (92, .return_, 1)]
theorem xo212_1 : x_cOk prog_14_method_33_code xc212_1 = true := x_cOk_w (by decide +kernel)
def xg212 : Nat → Option (Instr × Nat) := fun pc => if pc < 68 then x_at2 pc xc212_0 else x_at2 pc xc212_1
theorem xh212 : x_Good prog_14_method_33_code xg212 := by
  unfold xg212
  exact x_Good_ite (x_Good_l xo212_0) (x_Good_l xo212_1)
def xm212 : XM := (⟨"TwoDigitsModel", "keep", "(IZ)V"⟩, prog_14_method_33_code, 3, none, 12, 12, 2, 0, 0, false, xg212)
def xc213_0 : List (Nat × Instr × Nat) := [(0, .aload_n 0, 1), (1, .iload_n 1, 1), (2, .invokevirtual 326, 3), (5, .ifCond .eq 32, 3), (8, .iload_n 2, 1), (9, .iconst 0, 1), (10, .iload_n 3, 1), (11, .ifCond .eq 12, 3), (14, .aload_n 0, 1), (15, .getfield 57, 3), (18, .iload_n 1, 1), (19, .iaload, 1), (20, .goto 9, 3), (23, .aload_n 0, 1), (24, .getfield 51, 3), (27, .iload_n 1, 1), (28, .iaload, 1), (29, .iconst 1, 1), (30, .isub, 1), (31, .invokestatic 175, 3), (34, .ifCond .ne 6, 3), (37, .bipush (-5), 2), (39, .ireturn, 1), (40, .iload_n 3, 1), (41, .ifCond .eq 14, 3), (44, .aload_n 0, 1), (45, .getfield 54, 3), (48, .iload_n 1, 1), (49, .aaload, 1), (50, .iload_n 2, 1), (51, .iaload, 1), (52, .goto 11, 3), (55, .aload_n 0, 1), (56, .getfield 48, 3), (59, .iload_n 1, 1), (60, .aaload, 1), (61, .iload_n 2, 1), (62, .iaload, 1), (63, .ireturn, 1)]
theorem xo213_0 : x_cOk prog_14_method_35_code xc213_0 = true := x_cOk_w (by decide +kernel)
def xg213 : Nat → Option (Instr × Nat) := fun pc => x_at2 pc xc213_0
theorem xh213 : x_Good prog_14_method_35_code xg213 := by
  unfold xg213
  exact x_Good_l xo213_0
def xm213 : XM := (⟨"TwoDigitsModel", "file", "(IIZ)I"⟩, prog_14_method_35_code, 4, some .int, 12, 12, 3, 0, 0, false, xg213)
def xc214_0 : List (Nat × Instr × Nat) := [(0, .aload_n 0, 1), (1, .iload_n 1, 1), (2, .invokevirtual 326, 3), (5, .ifCond .eq 12, 3), (8, .iload_n 2, 1), (9, .iconst 0, 1), (10, .iconst 2, 1), (11, .invokestatic 175, 3), (14, .ifCond .ne 6, 3), (17, .bipush (-5), 2), (19, .ireturn, 1), (20, .aload_n 0, 1), (21, .getfield 63, 3), (24, .iload_n 1, 1), (25, .baload, 1), (26, .ifCond .eq 16, 3), (29, .aload_n 0, 1), (30, .getfield 60, 3), (33, .iload_n 1, 1), (34, .aaload, 1), (35, .iconst 2, 1), (36, .iload_n 2, 1), (37, .iadd, 1), (38, .iaload, 1), (39, .goto 4, 3), (42, .iconst (-1), 1), (43, .ireturn, 1)]
theorem xo214_0 : x_cOk prog_14_method_36_code xc214_0 = true := x_cOk_w (by decide +kernel)
def xg214 : Nat → Option (Instr × Nat) := fun pc => x_at2 pc xc214_0
theorem xh214 : x_Good prog_14_method_36_code xg214 := by
  unfold xg214
  exact x_Good_l xo214_0
def xm214 : XM := (⟨"TwoDigitsModel", "done", "(II)I"⟩, prog_14_method_36_code, 3, some .int, 12, 12, 2, 0, 0, false, xg214)
def xc215_0 : List (Nat × Instr × Nat) := [(0, .aload_n 0, 1), (1, .iload_n 1, 1), (2, .invokevirtual 326, 3), (5, .ifCond .ne 6, 3), (8, .bipush (-5), 2), (10, .ireturn, 1), (11, .iload_n 2, 1), (12, .tableswitch 184 0 10 #[60, 67, 74, 81, 88, 95, 102, 124, 146, 153, 160], 60), (72, .aload_n 0, 1), (73, .getfield 36, 3), (76, .iload_n 1, 1), (77, .iaload, 1), (78, .ireturn, 1), (79, .aload_n 0, 1), (80, .getfield 27, 3), (83, .iload_n 1, 1), (84, .iaload, 1), (85, .ireturn, 1), (86, .aload_n 0, 1), (87, .getfield 24, 3), (90, .iload_n 1, 1), (91, .iaload, 1), (92, .ireturn, 1), (93, .aload_n 0, 1), (94, .getfield 9, 3), (97, .iload_n 1, 1), (98, .iaload, 1), (99, .ireturn, 1), (100, .aload_n 0, 1), (101, .getfield 51, 3), (104, .iload_n 1, 1), (105, .iaload, 1), (106, .ireturn, 1), (107, .aload_n 0, 1), (108, .getfield 57, 3), (111, .iload_n 1, 1), (112, .iaload, 1), (113, .ireturn, 1), (114, .aload_n 0, 1), (115, .getfield 63, 3), (118, .iload_n 1, 1), (119, .baload, 1), (120, .ifCond .eq 14, 3), (123, .aload_n 0, 1), (124, .getfield 60, 3), (127, .iload_n 1, 1), (128, .aaload, 1), (129, .iconst 0, 1)]
theorem xo215_0 : x_cOk prog_14_method_37_code xc215_0 = true := x_cOk_w (by decide +kernel)
def xc215_1 : List (Nat × Instr × Nat) := [(130, .iaload, 1), (131, .goto 4, 3), (134, .iconst (-1), 1), (135, .ireturn, 1), (136, .aload_n 0, 1), (137, .getfield 63, 3), (140, .iload_n 1, 1), (141, .baload, 1), (142, .ifCond .eq 14, 3), (145, .aload_n 0, 1), (146, .getfield 60, 3), (149, .iload_n 1, 1), (150, .aaload, 1), (151, .iconst 1, 1), (152, .iaload, 1), (153, .goto 4, 3), (156, .iconst (-1), 1), (157, .ireturn, 1), (158, .aload_n 0, 1), (159, .getfield 30, 3), (162, .iload_n 1, 1), (163, .iaload, 1), (164, .ireturn, 1), (165, .aload_n 0, 1), (166, .getfield 33, 3), (169, .iload_n 1, 1), (170, .iaload, 1), (171, .ireturn, 1), (172, .aload_n 0, 1), (173, .getfield 63, 3), (176, .iload_n 1, 1), (177, .baload, 1), (178, .ifCond .eq 16, 3), (181, .aload_n 0, 1), (182, .getfield 67, 3), (185, .iload_n 1, 1), (186, .baload, 1), (187, .ifCond .eq 7, 3), (190, .iconst 1, 1), (191, .goto 4, 3), (194, .iconst 0, 1), (195, .ireturn, 1), (196, .bipush (-5), 2), (198, .ireturn, 1)]
theorem xo215_1 : x_cOk prog_14_method_37_code xc215_1 = true := x_cOk_w (by decide +kernel)
def xg215 : Nat → Option (Instr × Nat) := fun pc => if pc < 130 then x_at2 pc xc215_0 else x_at2 pc xc215_1
theorem xh215 : x_Good prog_14_method_37_code xg215 := by
  unfold xg215
  exact x_Good_ite (x_Good_l xo215_0) (x_Good_l xo215_1)
def xm215 : XM := (⟨"TwoDigitsModel", "programOf", "(II)I"⟩, prog_14_method_37_code, 3, some .int, 12, 12, 2, 0, 0, false, xg215)
def xc216_0 : List (Nat × Instr × Nat) := [(0, .aload_n 0, 1), (1, .iload_n 1, 1), (2, .invokevirtual 326, 3), (5, .ifCond .eq 12, 3), (8, .iload_n 2, 1), (9, .iconst 0, 1), (10, .iconst 1, 1), (11, .invokestatic 175, 3), (14, .ifCond .ne 5, 3), (17, .iconst (-1), 1), (18, .ireturn, 1), (19, .iload_n 3, 1), (20, .iconst 0, 1), (21, .bipush 99, 2), (23, .invokestatic 175, 3), (26, .ifCond .ne 6, 3), (29, .bipush (-2), 2), (31, .ireturn, 1), (32, .iload_n 2, 1), (33, .ifCond .ne 10, 3), (36, .aload_n 0, 1), (37, .getfield 30, 3), (40, .goto 7, 3), (43, .aload_n 0, 1), (44, .getfield 33, 3), (47, .astore 4, 2), (49, .aload 4, 2), (51, .iload_n 1, 1), (52, .iaload, 1), (53, .istore 5, 2), (55, .aload 4, 2), (57, .iload_n 1, 1), (58, .iload_n 3, 1), (59, .iastore, 1), (60, .iload 5, 2), (62, .ireturn, 1)]
theorem xo216_0 : x_cOk prog_14_method_38_code xc216_0 = true := x_cOk_w (by decide +kernel)
def xg216 : Nat → Option (Instr × Nat) := fun pc => x_at2 pc xc216_0
theorem xh216 : x_Good prog_14_method_38_code xg216 := by
  unfold xg216
  exact x_Good_l xo216_0
def xm216 : XM := (⟨"TwoDigitsModel", "set", "(III)I"⟩, prog_14_method_38_code, 6, some .int, 12, 12, 3, 0, 0, false, xg216)
def xc217_0 : List (Nat × Instr × Nat) := [(0, .aload_n 0, 1), (1, .iload_n 1, 1), (2, .invokevirtual 326, 3), (5, .ifCond .eq 16, 3), (8, .iload_n 2, 1), (9, .iconst (-1), 1), (10, .if_icmp .eq 13, 3), (13, .aload_n 0, 1), (14, .iload_n 2, 1), (15, .invokevirtual 326, 3), (18, .ifCond .ne 5, 3), (21, .iconst (-1), 1), (22, .ireturn, 1), (23, .iload_n 1, 1), (24, .iload_n 2, 1), (25, .if_icmp .ne 6, 3), (28, .bipush (-2), 2), (30, .ireturn, 1), (31, .aload_n 0, 1), (32, .getfield 27, 3), (35, .iload_n 1, 1), (36, .iaload, 1), (37, .istore_n 3, 1), (38, .aload_n 0, 1), (39, .getfield 27, 3), (42, .iload_n 1, 1), (43, .iload_n 2, 1), (44, .iastore, 1), (45, .iload_n 3, 1), (46, .ireturn, 1)]
theorem xo217_0 : x_cOk prog_14_method_39_code xc217_0 = true := x_cOk_w (by decide +kernel)
def xg217 : Nat → Option (Instr × Nat) := fun pc => x_at2 pc xc217_0
theorem xh217 : x_Good prog_14_method_39_code xg217 := by
  unfold xg217
  exact x_Good_l xo217_0
def xm217 : XM := (⟨"TwoDigitsModel", "input", "(II)I"⟩, prog_14_method_39_code, 4, some .int, 12, 12, 2, 0, 0, false, xg217)
def xc218_0 : List (Nat × Instr × Nat) := [(0, .aload_n 0, 1), (1, .iload_n 1, 1), (2, .invokevirtual 326, 3), (5, .ifCond .eq 21, 3), (8, .iload_n 2, 1), (9, .iconst 0, 1), (10, .iconst 2, 1), (11, .invokestatic 175, 3), (14, .ifCond .eq 12, 3), (17, .iload_n 3, 1), (18, .iconst 0, 1), (19, .iconst 2, 1), (20, .invokestatic 175, 3), (23, .ifCond .ne 5, 3), (26, .iconst (-1), 1), (27, .ireturn, 1), (28, .iload 5, 2), (30, .iconst 0, 1), (31, .bipush 12, 2), (33, .invokestatic 175, 3), (36, .ifCond .ne 6, 3), (39, .bipush (-2), 2), (41, .ireturn, 1), (42, .iload 5, 2), (44, .ifCond .le 16, 3), (47, .aload_n 0, 1), (48, .getfield 106, 3), (51, .iload_n 2, 1), (52, .iaload, 1), (53, .iconst (-1), 1), (54, .if_icmp .ne 6, 3), (57, .bipush (-11), 2), (59, .ireturn, 1), (60, .iload 5, 2), (62, .ifCond .le 16, 3), (65, .aload_n 0, 1), (66, .getfield 106, 3), (69, .iload_n 2, 1), (70, .iaload, 1), (71, .iload_n 3, 1), (72, .if_icmp .eq 6, 3), (75, .bipush (-13), 2), (77, .ireturn, 1), (78, .iload 5, 2), (80, .ifCond .le 29, 3), (83, .iload 4, 2), (85, .ifCond .lt 21, 3), (88, .iload 4, 2)]
theorem xo218_0 : x_cOk prog_14_method_40_code xc218_0 = true := x_cOk_w (by decide +kernel)
def xc218_1 : List (Nat × Instr × Nat) := [(90, .i2l, 1), (91, .iload 5, 2), (93, .i2l, 1), (94, .ladd, 1), (95, .aload_n 0, 1), (96, .getfield 109, 3), (99, .iload_n 2, 1), (100, .iaload, 1), (101, .i2l, 1), (102, .lcmp, 1), (103, .ifCond .le 6, 3), (106, .bipush (-12), 2), (108, .ireturn, 1), (109, .iconst 0, 1), (110, .istore 6, 2), (112, .iload 6, 2), (114, .iload 5, 2), (116, .if_icmp .ge 61, 3), (119, .aload_n 0, 1), (120, .getfield 112, 3), (123, .iload_n 2, 1), (124, .aaload, 1), (125, .iload 4, 2), (127, .iload 6, 2), (129, .iadd, 1), (130, .iaload, 1), (131, .istore 7, 2), (133, .aload_n 0, 1), (134, .getfield 42, 3), (137, .iload_n 1, 1), (138, .aaload, 1), (139, .iload 6, 2), (141, .iload 7, 2), (143, .iconst (-1), 1), (144, .if_icmp .ge 7, 3), (147, .iconst (-1), 1), (148, .goto 22, 3), (151, .iload 7, 2), (153, .sipush 9999, 3), (156, .if_icmp .le 12, 3), (159, .iload 7, 2), (161, .sipush 10000, 3), (164, .irem, 1), (165, .goto 5, 3), (168, .iload 7, 2), (170, .iastore, 1), (171, .iinc 6 1, 3), (174, .goto (-62), 3)]
theorem xo218_1 : x_cOk prog_14_method_40_code xc218_1 = true := x_cOk_w (by decide +kernel)
def xc218_2 : List (Nat × Instr × Nat) := [(177, .aload_n 0, 1), (178, .getfield 45, 3), (181, .iload_n 1, 1), (182, .iload 5, 2), (184, .iastore, 1), (185, .iload 5, 2), (187, .ireturn, 1)]
theorem xo218_2 : x_cOk prog_14_method_40_code xc218_2 = true := x_cOk_w (by decide +kernel)
def xg218 : Nat → Option (Instr × Nat) := fun pc => if pc < 90 then x_at2 pc xc218_0 else if pc < 177 then x_at2 pc xc218_1 else x_at2 pc xc218_2
theorem xh218 : x_Good prog_14_method_40_code xg218 := by
  unfold xg218
  exact x_Good_ite (x_Good_l xo218_0) (x_Good_ite (x_Good_l xo218_1) (x_Good_l xo218_2))
def xm218 : XM := (⟨"TwoDigitsModel", "shelf", "(IIIII)I"⟩, prog_14_method_40_code, 8, some .int, 12, 12, 5, 0, 0, false, xg218)
def xc219_0 : List (Nat × Instr × Nat) := [(0, .iload_n 1, 1), (1, .invokestatic 271, 3), (4, .ifCond .eq 14, 3), (7, .aload_n 0, 1), (8, .iload_n 1, 1), (9, .iconst 0, 1), (10, .iconst 1, 1), (11, .iconst 1, 1), (12, .invokevirtual 335, 3), (15, .goto 5, 3), (18, .bipush (-2), 2), (20, .ireturn, 1)]
theorem xo219_0 : x_cOk prog_14_method_42_code xc219_0 = true := x_cOk_w (by decide +kernel)
def xg219 : Nat → Option (Instr × Nat) := fun pc => x_at2 pc xc219_0
theorem xh219 : x_Good prog_14_method_42_code xg219 := by
  unfold xg219
  exact x_Good_l xo219_0
def xm219 : XM := (⟨"TwoDigitsModel", "night", "(I)I"⟩, prog_14_method_42_code, 2, some .int, 12, 12, 1, 0, 0, false, xg219)
def xc220_0 : List (Nat × Instr × Nat) := [(0, .iconst 0, 1), (1, .istore 5, 2), (3, .iconst 0, 1), (4, .istore 6, 2), (6, .iload 6, 2), (8, .aload_n 0, 1), (9, .getfield 171, 3), (12, .if_icmp .ge 167, 3), (15, .iload_n 3, 1), (16, .ifCond .eq 66, 3), (19, .aload_n 0, 1), (20, .getfield 36, 3), (23, .iload 6, 2), (25, .iaload, 1), (26, .iconst 5, 1), (27, .if_icmp .ne 55, 3), (30, .aload_n 0, 1), (31, .getfield 51, 3), (34, .iload 6, 2), (36, .iconst 0, 1), (37, .iastore, 1), (38, .aload_n 0, 1), (39, .getfield 57, 3), (42, .iload 6, 2), (44, .iconst 0, 1), (45, .iastore, 1), (46, .iload 5, 2), (48, .aload_n 0, 1), (49, .getfield 30, 3), (52, .iload 6, 2), (54, .iaload, 1), (55, .iadd, 1), (56, .istore 5, 2), (58, .iload 4, 2), (60, .ifCond .eq 113, 3), (63, .aload_n 0, 1), (64, .getfield 63, 3), (67, .iload 6, 2), (69, .iconst 0, 1), (70, .bastore, 1), (71, .aload_n 0, 1), (72, .getfield 67, 3), (75, .iload 6, 2), (77, .iconst 0, 1), (78, .bastore, 1), (79, .goto 94, 3), (82, .aload_n 0, 1), (83, .iload 6, 2)]
theorem xo220_0 : x_cOk prog_14_method_41_code xc220_0 = true := x_cOk_w (by decide +kernel)
def xc220_1 : List (Nat × Instr × Nat) := [(85, .iload_n 1, 1), (86, .invokevirtual 329, 3), (89, .istore 7, 2), (91, .iload_n 2, 1), (92, .iload 6, 2), (94, .ishr, 1), (95, .iconst 1, 1), (96, .iand, 1), (97, .iconst 1, 1), (98, .if_icmp .ne 41, 3), (101, .aload_n 0, 1), (102, .getfield 54, 3), (105, .iload 6, 2), (107, .aaload, 1), (108, .iconst 0, 1), (109, .aload_n 0, 1), (110, .getfield 48, 3), (113, .iload 6, 2), (115, .aaload, 1), (116, .iconst 0, 1), (117, .bipush 12, 2), (119, .invokestatic 262, 3), (122, .aload_n 0, 1), (123, .getfield 51, 3), (126, .iload 6, 2), (128, .aload_n 0, 1), (129, .getfield 57, 3), (132, .iload 6, 2), (134, .iaload, 1), (135, .iastore, 1), (136, .iconst 0, 1), (137, .istore 7, 2), (139, .iload 4, 2), (141, .ifCond .eq 11, 3), (144, .aload_n 0, 1), (145, .iload 6, 2), (147, .iload 7, 2), (149, .invokevirtual 331, 3), (152, .iload 5, 2), (154, .iload 7, 2), (156, .ifCond .eq 13, 3), (159, .aload_n 0, 1), (160, .getfield 30, 3), (163, .iload 6, 2), (165, .iaload, 1), (166, .goto 4, 3), (169, .iconst 0, 1), (170, .iadd, 1)]
theorem xo220_1 : x_cOk prog_14_method_41_code xc220_1 = true := x_cOk_w (by decide +kernel)
def xc220_2 : List (Nat × Instr × Nat) := [(171, .istore 5, 2), (173, .iinc 6 1, 3), (176, .goto (-170), 3), (179, .iload 5, 2), (181, .ireturn, 1)]
theorem xo220_2 : x_cOk prog_14_method_41_code xc220_2 = true := x_cOk_w (by decide +kernel)
def xg220 : Nat → Option (Instr × Nat) := fun pc => if pc < 85 then x_at2 pc xc220_0 else if pc < 171 then x_at2 pc xc220_1 else x_at2 pc xc220_2
theorem xh220 : x_Good prog_14_method_41_code xg220 := by
  unfold xg220
  exact x_Good_ite (x_Good_l xo220_0) (x_Good_ite (x_Good_l xo220_1) (x_Good_l xo220_2))
def xm220 : XM := (⟨"TwoDigitsModel", "nightOf", "(IIZZ)I"⟩, prog_14_method_41_code, 8, some .int, 12, 12, 4, 0, 0, false, xg220)
def xc221_0 : List (Nat × Instr × Nat) := [(0, .iload_n 1, 1), (1, .invokestatic 271, 3), (4, .ifCond .ne 6, 3), (7, .bipush (-2), 2), (9, .ireturn, 1), (10, .aload_n 0, 1), (11, .getfield 18, 3), (14, .astore_n 2, 1), (15, .aload_n 0, 1), (16, .getfield 21, 3), (19, .astore_n 3, 1), (20, .aload_n 0, 1), (21, .getfield 24, 3), (24, .astore 4, 2), (26, .aload_n 0, 1), (27, .bipush 12, 2), (29, .bipush 6, 2), (31, .multianewarray 13 2, 4), (35, .putfield 18, 3), (38, .aload_n 0, 1), (39, .bipush 12, 2), (41, .bipush 6, 2), (43, .multianewarray 13 2, 4), (47, .putfield 21, 3), (50, .aload_n 0, 1), (51, .bipush 12, 2), (53, .newarray .int, 2), (55, .putfield 24, 3), (58, .iconst 0, 1), (59, .istore 5, 2), (61, .iload 5, 2), (63, .bipush 12, 2), (65, .if_icmp .ge 47, 3), (68, .iconst 0, 1), (69, .istore 6, 2), (71, .iload 6, 2), (73, .bipush 6, 2), (75, .if_icmp .ge 31, 3), (78, .aload_n 0, 1), (79, .getfield 18, 3), (82, .iload 5, 2), (84, .aaload, 1), (85, .iload 6, 2), (87, .iconst 2, 1), (88, .iastore, 1), (89, .aload_n 0, 1), (90, .getfield 21, 3), (93, .iload 5, 2)]
theorem xo221_0 : x_cOk prog_14_method_44_code xc221_0 = true := x_cOk_w (by decide +kernel)
def xc221_1 : List (Nat × Instr × Nat) := [(95, .aaload, 1), (96, .iload 6, 2), (98, .iconst (-1), 1), (99, .iastore, 1), (100, .iinc 6 1, 3), (103, .goto (-32), 3), (106, .iinc 5 1, 3), (109, .goto (-48), 3), (112, .aload_n 0, 1), (113, .iload_n 1, 1), (114, .iconst 0, 1), (115, .iconst 0, 1), (116, .invokevirtual 339, 3), (119, .istore 5, 2), (121, .aload_n 0, 1), (122, .aload_n 2, 1), (123, .putfield 18, 3), (126, .aload_n 0, 1), (127, .aload_n 3, 1), (128, .putfield 21, 3), (131, .aload_n 0, 1), (132, .aload 4, 2), (134, .putfield 24, 3), (137, .iload 5, 2), (139, .ireturn, 1)]
theorem xo221_1 : x_cOk prog_14_method_44_code xc221_1 = true := x_cOk_w (by decide +kernel)
def xg221 : Nat → Option (Instr × Nat) := fun pc => if pc < 95 then x_at2 pc xc221_0 else x_at2 pc xc221_1
theorem xh221 : x_Good prog_14_method_44_code xg221 := by
  unfold xg221
  exact x_Good_ite (x_Good_l xo221_0) (x_Good_l xo221_1)
def xm221 : XM := (⟨"TwoDigitsModel", "beside", "(I)I"⟩, prog_14_method_44_code, 7, some .int, 12, 12, 1, 27, 180, false, xg221)
def xc222_0 : List (Nat × Instr × Nat) := [(0, .aload_n 0, 1), (1, .getfield 48, 3), (4, .astore 4, 2), (6, .aload_n 0, 1), (7, .getfield 54, 3), (10, .astore 5, 2), (12, .aload_n 0, 1), (13, .getfield 51, 3), (16, .astore 6, 2), (18, .aload_n 0, 1), (19, .getfield 57, 3), (22, .astore 7, 2), (24, .iconst 0, 1), (25, .istore 8, 2), (27, .iload 8, 2), (29, .bipush 12, 2), (31, .if_icmp .ge 47, 3), (34, .aload 4, 2), (36, .iload 8, 2), (38, .aaload, 1), (39, .iconst 0, 1), (40, .aload_n 0, 1), (41, .getfield 145, 3), (44, .iload 8, 2), (46, .aaload, 1), (47, .iconst 0, 1), (48, .bipush 12, 2), (50, .invokestatic 262, 3), (53, .aload 5, 2), (55, .iload 8, 2), (57, .aaload, 1), (58, .iconst 0, 1), (59, .aload_n 0, 1), (60, .getfield 148, 3), (63, .iload 8, 2), (65, .aaload, 1), (66, .iconst 0, 1), (67, .bipush 12, 2), (69, .invokestatic 262, 3), (72, .iinc 8 1, 3), (75, .goto (-48), 3), (78, .aload 6, 2), (80, .iconst 0, 1), (81, .aload_n 0, 1), (82, .getfield 151, 3), (85, .iconst 0, 1), (86, .bipush 12, 2), (88, .invokestatic 262, 3)]
theorem xo222_0 : x_cOk prog_14_method_43_code xc222_0 = true := x_cOk_w (by decide +kernel)
def xc222_1 : List (Nat × Instr × Nat) := [(91, .aload 7, 2), (93, .iconst 0, 1), (94, .aload_n 0, 1), (95, .getfield 154, 3), (98, .iconst 0, 1), (99, .bipush 12, 2), (101, .invokestatic 262, 3), (104, .aload_n 0, 1), (105, .aload_n 0, 1), (106, .getfield 145, 3), (109, .putfield 48, 3), (112, .aload_n 0, 1), (113, .aload_n 0, 1), (114, .getfield 148, 3), (117, .putfield 54, 3), (120, .aload_n 0, 1), (121, .aload_n 0, 1), (122, .getfield 151, 3), (125, .putfield 51, 3), (128, .aload_n 0, 1), (129, .aload_n 0, 1), (130, .getfield 154, 3), (133, .putfield 57, 3), (136, .aload_n 0, 1), (137, .iload_n 1, 1), (138, .iload_n 2, 1), (139, .iload_n 3, 1), (140, .iconst 0, 1), (141, .invokevirtual 335, 3), (144, .istore 8, 2), (146, .aload_n 0, 1), (147, .aload 4, 2), (149, .putfield 48, 3), (152, .aload_n 0, 1), (153, .aload 5, 2), (155, .putfield 54, 3), (158, .aload_n 0, 1), (159, .aload 6, 2), (161, .putfield 51, 3), (164, .aload_n 0, 1), (165, .aload 7, 2), (167, .putfield 57, 3), (170, .iload 8, 2), (172, .ireturn, 1)]
theorem xo222_1 : x_cOk prog_14_method_43_code xc222_1 = true := x_cOk_w (by decide +kernel)
def xg222 : Nat → Option (Instr × Nat) := fun pc => if pc < 91 then x_at2 pc xc222_0 else x_at2 pc xc222_1
theorem xh222 : x_Good prog_14_method_43_code xg222 := by
  unfold xg222
  exact x_Good_ite (x_Good_l xo222_0) (x_Good_l xo222_1)
def xm222 : XM := (⟨"TwoDigitsModel", "tried", "(IIZ)I"⟩, prog_14_method_43_code, 9, some .int, 12, 12, 3, 0, 0, false, xg222)
def xc223_0 : List (Nat × Instr × Nat) := [(0, .iload 4, 2), (2, .iconst 0, 1), (3, .iconst 2, 1), (4, .invokestatic 175, 3), (7, .ifCond .eq 18, 3), (10, .iload_n 1, 1), (11, .iconst 1, 1), (12, .aload_n 0, 1), (13, .getfield 171, 3), (16, .ishl, 1), (17, .iconst 1, 1), (18, .isub, 1), (19, .iconst (-1), 1), (20, .ixor, 1), (21, .iand, 1), (22, .ifCond .eq 5, 3), (25, .iconst (-1), 1), (26, .ireturn, 1), (27, .iload_n 1, 1), (28, .invokestatic 343, 3), (31, .bipush 8, 2), (33, .if_icmp .gt 21, 3), (36, .iload_n 2, 1), (37, .iconst 0, 1), (38, .sipush 999, 3), (41, .invokestatic 175, 3), (44, .ifCond .eq 10, 3), (47, .iload_n 3, 1), (48, .invokestatic 271, 3), (51, .ifCond .ne 6, 3), (54, .bipush (-2), 2), (56, .ireturn, 1), (57, .iconst 0, 1), (58, .istore 5, 2), (60, .ldc_w 349, 3), (63, .istore 6, 2), (65, .iconst 0, 1), (66, .istore 7, 2), (68, .iconst 1, 1), (69, .istore 8, 2), (71, .iconst 0, 1), (72, .istore 9, 2), (74, .iload 8, 2), (76, .ifCond .eq 127, 3), (79, .iload 9, 2), (81, .iload_n 1, 1), (82, .if_icmp .eq 7, 3), (85, .iconst 1, 1)]
theorem xo223_0 : x_cOk prog_14_method_45_code xc223_0 = true := x_cOk_w (by decide +kernel)
def xc223_1 : List (Nat × Instr × Nat) := [(86, .goto 4, 3), (89, .iconst 0, 1), (90, .istore 8, 2), (92, .iconst 0, 1), (93, .istore 10, 2), (95, .iconst 0, 1), (96, .istore 11, 2), (98, .iload 11, 2), (100, .aload_n 0, 1), (101, .getfield 171, 3), (104, .if_icmp .ge 36, 3), (107, .iload 10, 2), (109, .iload 9, 2), (111, .iload 11, 2), (113, .ishr, 1), (114, .iconst 1, 1), (115, .iand, 1), (116, .iconst 1, 1), (117, .if_icmp .ne 13, 3), (120, .aload_n 0, 1), (121, .getfield 33, 3), (124, .iload 11, 2), (126, .iaload, 1), (127, .goto 4, 3), (130, .iconst 0, 1), (131, .iadd, 1), (132, .istore 10, 2), (134, .iinc 11 1, 3), (137, .goto (-39), 3), (140, .iload 10, 2), (142, .iload_n 2, 1), (143, .if_icmp .le 6, 3), (146, .goto 46, 3), (149, .aload_n 0, 1), (150, .iload_n 3, 1), (151, .iload 9, 2), (153, .iconst 1, 1), (154, .invokevirtual 339, 3), (157, .istore 11, 2), (159, .iload 11, 2), (161, .iload 6, 2), (163, .if_icmp .lt 17, 3), (166, .iload 11, 2), (168, .iload 6, 2), (170, .if_icmp .ne 22, 3), (173, .iload 10, 2), (175, .iload 7, 2), (177, .if_icmp .ge 15, 3)]
theorem xo223_1 : x_cOk prog_14_method_45_code xc223_1 = true := x_cOk_w (by decide +kernel)
def xc223_2 : List (Nat × Instr × Nat) := [(180, .iload 11, 2), (182, .istore 6, 2), (184, .iload 9, 2), (186, .istore 5, 2), (188, .iload 10, 2), (190, .istore 7, 2), (192, .iload 9, 2), (194, .iload_n 1, 1), (195, .isub, 1), (196, .iload_n 1, 1), (197, .iand, 1), (198, .istore 9, 2), (200, .goto (-126), 3), (203, .iload 4, 2), (205, .ifCond .ne 8, 3), (208, .iload 6, 2), (210, .goto 16, 3), (213, .iload 4, 2), (215, .iconst 1, 1), (216, .if_icmp .ne 8, 3), (219, .iload 5, 2), (221, .goto 5, 3), (224, .iload 7, 2), (226, .ireturn, 1)]
theorem xo223_2 : x_cOk prog_14_method_45_code xc223_2 = true := x_cOk_w (by decide +kernel)
def xg223 : Nat → Option (Instr × Nat) := fun pc => if pc < 86 then x_at2 pc xc223_0 else if pc < 180 then x_at2 pc xc223_1 else x_at2 pc xc223_2
theorem xh223 : x_Good prog_14_method_45_code xg223 := by
  unfold xg223
  exact x_Good_ite (x_Good_l xo223_0) (x_Good_ite (x_Good_l xo223_1) (x_Good_l xo223_2))
def xm223 : XM := (⟨"TwoDigitsModel", "first", "(IIII)I"⟩, prog_14_method_45_code, 12, some .int, 12, 12, 4, 0, 0, false, xg223)
def xc224_0 : List (Nat × Instr × Nat) := [(0, .aload_n 0, 1), (1, .iload_n 1, 1), (2, .invokevirtual 326, 3), (5, .ifCond .ne 5, 3), (8, .iconst (-1), 1), (9, .ireturn, 1), (10, .iconst 0, 1), (11, .istore_n 2, 1), (12, .iconst 0, 1), (13, .istore_n 3, 1), (14, .iload_n 3, 1), (15, .aload_n 0, 1), (16, .getfield 171, 3), (19, .if_icmp .ge 86, 3), (22, .iconst 0, 1), (23, .istore 4, 2), (25, .iload 4, 2), (27, .aload_n 0, 1), (28, .getfield 171, 3), (31, .if_icmp .ge 68, 3), (34, .aload_n 0, 1), (35, .getfield 27, 3), (38, .iload 4, 2), (40, .iaload, 1), (41, .iload_n 1, 1), (42, .if_icmp .eq 28, 3), (45, .aload_n 0, 1), (46, .getfield 27, 3), (49, .iload 4, 2), (51, .iaload, 1), (52, .ifCond .lt 22, 3), (55, .iload_n 2, 1), (56, .aload_n 0, 1), (57, .getfield 27, 3), (60, .iload 4, 2), (62, .iaload, 1), (63, .ishr, 1), (64, .iconst 1, 1), (65, .iand, 1), (66, .iconst 1, 1), (67, .if_icmp .ne 7, 3), (70, .iconst 1, 1), (71, .goto 4, 3), (74, .iconst 0, 1), (75, .istore 5, 2), (77, .iload_n 2, 1), (78, .iload 5, 2), (80, .ifCond .eq 10, 3)]
theorem xo224_0 : x_cOk prog_14_method_46_code xc224_0 = true := x_cOk_w (by decide +kernel)
def xc224_1 : List (Nat × Instr × Nat) := [(83, .iconst 1, 1), (84, .iload 4, 2), (86, .ishl, 1), (87, .goto 4, 3), (90, .iconst 0, 1), (91, .ior, 1), (92, .istore_n 2, 1), (93, .iinc 4 1, 3), (96, .goto (-71), 3), (99, .iinc 3 1, 3), (102, .goto (-88), 3), (105, .iload_n 2, 1), (106, .ireturn, 1)]
theorem xo224_1 : x_cOk prog_14_method_46_code xc224_1 = true := x_cOk_w (by decide +kernel)
def xg224 : Nat → Option (Instr × Nat) := fun pc => if pc < 83 then x_at2 pc xc224_0 else x_at2 pc xc224_1
theorem xh224 : x_Good prog_14_method_46_code xg224 := by
  unfold xg224
  exact x_Good_ite (x_Good_l xo224_0) (x_Good_l xo224_1)
def xm224 : XM := (⟨"TwoDigitsModel", "reach", "(I)I"⟩, prog_14_method_46_code, 6, some .int, 12, 12, 1, 0, 0, false, xg224)
def xc225_0 : List (Nat × Instr × Nat) := [(0, .aload_n 0, 1), (1, .iload_n 1, 1), (2, .invokevirtual 326, 3), (5, .ifCond .eq 12, 3), (8, .iload_n 2, 1), (9, .iconst 0, 1), (10, .iconst 5, 1), (11, .invokestatic 175, 3), (14, .ifCond .ne 6, 3), (17, .bipush (-5), 2), (19, .ireturn, 1), (20, .iload_n 3, 1), (21, .tableswitch 52 0 2 #[27, 36, 45], 27), (48, .aload_n 0, 1), (49, .getfield 18, 3), (52, .iload_n 1, 1), (53, .aaload, 1), (54, .iload_n 2, 1), (55, .iaload, 1), (56, .ireturn, 1), (57, .aload_n 0, 1), (58, .getfield 21, 3), (61, .iload_n 1, 1), (62, .aaload, 1), (63, .iload_n 2, 1), (64, .iaload, 1), (65, .ireturn, 1), (66, .aload_n 0, 1), (67, .iload_n 1, 1), (68, .iload_n 2, 1), (69, .invokevirtual 359, 3), (72, .ireturn, 1), (73, .bipush (-5), 2), (75, .ireturn, 1)]
theorem xo225_0 : x_cOk prog_14_method_51_code xc225_0 = true := x_cOk_w (by decide +kernel)
def xg225 : Nat → Option (Instr × Nat) := fun pc => x_at2 pc xc225_0
theorem xh225 : x_Good prog_14_method_51_code xg225 := by
  unfold xg225
  exact x_Good_l xo225_0
def xm225 : XM := (⟨"TwoDigitsModel", "field", "(III)I"⟩, prog_14_method_51_code, 4, some .int, 12, 12, 3, 0, 0, false, xg225)
def xc226_0 : List (Nat × Instr × Nat) := [(0, .aload_n 0, 1), (1, .invokevirtual 356, 3), (4, .aload_n 0, 1), (5, .getfield 159, 3), (8, .iload_n 1, 1), (9, .aaload, 1), (10, .iload_n 2, 1), (11, .baload, 1), (12, .ifCond .eq 5, 3), (15, .iconst 1, 1), (16, .ireturn, 1), (17, .iconst 0, 1), (18, .istore_n 3, 1), (19, .iload_n 3, 1), (20, .aload_n 0, 1), (21, .getfield 9, 3), (24, .iload_n 1, 1), (25, .iaload, 1), (26, .if_icmp .ge 109, 3), (29, .aload_n 0, 1), (30, .getfield 15, 3), (33, .iload_n 1, 1), (34, .aaload, 1), (35, .astore 4, 2), (37, .aload 4, 2), (39, .iconst 4, 1), (40, .iload_n 3, 1), (41, .imul, 1), (42, .iconst 1, 1), (43, .iadd, 1), (44, .iaload, 1), (45, .istore 5, 2), (47, .aload 4, 2), (49, .iconst 4, 1), (50, .iload_n 3, 1), (51, .imul, 1), (52, .iconst 2, 1), (53, .iadd, 1), (54, .iaload, 1), (55, .istore 6, 2), (57, .aload 4, 2), (59, .iconst 4, 1), (60, .iload_n 3, 1), (61, .imul, 1), (62, .iaload, 1), (63, .bipush 7, 2), (65, .if_icmp .eq 14, 3), (68, .aload 4, 2)]
theorem xo226_0 : x_cOk prog_14_method_50_code xc226_0 = true := x_cOk_w (by decide +kernel)
def xc226_1 : List (Nat × Instr × Nat) := [(70, .iconst 4, 1), (71, .iload_n 3, 1), (72, .imul, 1), (73, .iaload, 1), (74, .bipush 8, 2), (76, .if_icmp .ne 7, 3), (79, .iconst 1, 1), (80, .goto 4, 3), (83, .iconst 0, 1), (84, .istore 7, 2), (86, .iload 7, 2), (88, .ifCond .eq 41, 3), (91, .iload 5, 2), (93, .iload_n 2, 1), (94, .if_icmp .ne 15, 3), (97, .aload_n 0, 1), (98, .getfield 159, 3), (101, .iload_n 1, 1), (102, .aaload, 1), (103, .iload 6, 2), (105, .baload, 1), (106, .ifCond .ne 21, 3), (109, .iload 6, 2), (111, .iload_n 2, 1), (112, .if_icmp .ne 17, 3), (115, .aload_n 0, 1), (116, .getfield 159, 3), (119, .iload_n 1, 1), (120, .aaload, 1), (121, .iload 5, 2), (123, .baload, 1), (124, .ifCond .eq 5, 3), (127, .iconst 2, 1), (128, .ireturn, 1), (129, .iinc 3 1, 3), (132, .goto (-113), 3), (135, .iconst 0, 1), (136, .ireturn, 1)]
theorem xo226_1 : x_cOk prog_14_method_50_code xc226_1 = true := x_cOk_w (by decide +kernel)
def xg226 : Nat → Option (Instr × Nat) := fun pc => if pc < 70 then x_at2 pc xc226_0 else x_at2 pc xc226_1
theorem xh226 : x_Good prog_14_method_50_code xg226 := by
  unfold xg226
  exact x_Good_ite (x_Good_l xo226_0) (x_Good_l xo226_1)
def xm226 : XM := (⟨"TwoDigitsModel", "year", "(II)I"⟩, prog_14_method_50_code, 8, some .int, 12, 12, 2, 0, 0, false, xg226)
def xc227_0 : List (Nat × Instr × Nat) := [(0, .iconst 0, 1), (1, .istore_n 1, 1), (2, .iload_n 1, 1), (3, .aload_n 0, 1), (4, .getfield 171, 3), (7, .if_icmp .ge 32, 3), (10, .iconst 0, 1), (11, .istore_n 2, 1), (12, .iload_n 2, 1), (13, .bipush 6, 2), (15, .if_icmp .ge 18, 3), (18, .aload_n 0, 1), (19, .getfield 159, 3), (22, .iload_n 1, 1), (23, .aaload, 1), (24, .iload_n 2, 1), (25, .iconst 0, 1), (26, .bastore, 1), (27, .iinc 2 1, 3), (30, .goto (-18), 3), (33, .iinc 1 1, 3), (36, .goto (-34), 3), (39, .iconst 1, 1), (40, .istore_n 1, 1), (41, .iload_n 1, 1), (42, .ifCond .eq 108, 3), (45, .iconst 0, 1), (46, .istore_n 1, 1), (47, .iconst 0, 1), (48, .istore_n 2, 1), (49, .iload_n 2, 1), (50, .aload_n 0, 1), (51, .getfield 171, 3), (54, .if_icmp .ge 93, 3), (57, .iconst 0, 1), (58, .istore_n 3, 1), (59, .iload_n 3, 1), (60, .aload_n 0, 1), (61, .getfield 9, 3), (64, .iload_n 2, 1), (65, .iaload, 1), (66, .if_icmp .ge 75, 3), (69, .aload_n 0, 1), (70, .getfield 15, 3), (73, .iload_n 2, 1), (74, .aaload, 1), (75, .iconst 4, 1), (76, .iload_n 3, 1)]
theorem xo227_0 : x_cOk prog_14_method_49_code xc227_0 = true := x_cOk_w (by decide +kernel)
def xc227_1 : List (Nat × Instr × Nat) := [(77, .imul, 1), (78, .iconst 1, 1), (79, .iadd, 1), (80, .iaload, 1), (81, .istore 4, 2), (83, .aload_n 0, 1), (84, .getfield 15, 3), (87, .iload_n 2, 1), (88, .aaload, 1), (89, .iconst 4, 1), (90, .iload_n 3, 1), (91, .imul, 1), (92, .iaload, 1), (93, .istore 5, 2), (95, .iload 5, 2), (97, .bipush 10, 2), (99, .if_icmp .ge 36, 3), (102, .aload_n 0, 1), (103, .iload_n 2, 1), (104, .iload_n 3, 1), (105, .invokevirtual 353, 3), (108, .ifCond .eq 27, 3), (111, .aload_n 0, 1), (112, .getfield 159, 3), (115, .iload_n 2, 1), (116, .aaload, 1), (117, .iload 4, 2), (119, .baload, 1), (120, .ifCond .ne 15, 3), (123, .aload_n 0, 1), (124, .getfield 159, 3), (127, .iload_n 2, 1), (128, .aaload, 1), (129, .iload 4, 2), (131, .iconst 1, 1), (132, .bastore, 1), (133, .iconst 1, 1), (134, .istore_n 1, 1), (135, .iinc 3 1, 3), (138, .goto (-79), 3), (141, .iinc 2 1, 3), (144, .goto (-95), 3), (147, .goto (-106), 3), (150, .return_, 1)]
theorem xo227_1 : x_cOk prog_14_method_49_code xc227_1 = true := x_cOk_w (by decide +kernel)
def xg227 : Nat → Option (Instr × Nat) := fun pc => if pc < 77 then x_at2 pc xc227_0 else x_at2 pc xc227_1
theorem xh227 : x_Good prog_14_method_49_code xg227 := by
  unfold xg227
  exact x_Good_ite (x_Good_l xo227_0) (x_Good_l xo227_1)
def xm227 : XM := (⟨"TwoDigitsModel", "findSure", "()V"⟩, prog_14_method_49_code, 6, none, 12, 12, 0, 0, 0, false, xg227)
def xc228_0 : List (Nat × Instr × Nat) := [(0, .aload_n 0, 1), (1, .getfield 15, 3), (4, .iload_n 1, 1), (5, .aaload, 1), (6, .iconst 4, 1), (7, .iload_n 2, 1), (8, .imul, 1), (9, .iaload, 1), (10, .istore_n 3, 1), (11, .aload_n 0, 1), (12, .getfield 15, 3), (15, .iload_n 1, 1), (16, .aaload, 1), (17, .iconst 4, 1), (18, .iload_n 2, 1), (19, .imul, 1), (20, .iconst 2, 1), (21, .iadd, 1), (22, .iaload, 1), (23, .istore 4, 2), (25, .iload_n 3, 1), (26, .iconst 4, 1), (27, .if_icmp .eq 14, 3), (30, .iload_n 3, 1), (31, .iconst 5, 1), (32, .if_icmp .eq 9, 3), (35, .iload_n 3, 1), (36, .bipush 6, 2), (38, .if_icmp .ne 7, 3), (41, .iconst 1, 1), (42, .goto 4, 3), (45, .iconst 0, 1), (46, .istore 5, 2), (48, .iload_n 3, 1), (49, .ifCond .eq 47, 3), (52, .iload 5, 2), (54, .ifCond .eq 15, 3), (57, .aload_n 0, 1), (58, .getfield 159, 3), (61, .iload_n 1, 1), (62, .aaload, 1), (63, .iload 4, 2), (65, .baload, 1), (66, .ifCond .ne 30, 3), (69, .iload_n 3, 1), (70, .iconst 1, 1), (71, .if_icmp .ne 29, 3), (74, .aload_n 0, 1)]
theorem xo228_0 : x_cOk prog_14_method_48_code xc228_0 = true := x_cOk_w (by decide +kernel)
def xc228_1 : List (Nat × Instr × Nat) := [(75, .getfield 27, 3), (78, .iload_n 1, 1), (79, .iaload, 1), (80, .ifCond .lt 20, 3), (83, .aload_n 0, 1), (84, .aload_n 0, 1), (85, .getfield 27, 3), (88, .iload_n 1, 1), (89, .iaload, 1), (90, .invokevirtual 350, 3), (93, .ifCond .eq 7, 3), (96, .iconst 1, 1), (97, .goto 4, 3), (100, .iconst 0, 1), (101, .ireturn, 1)]
theorem xo228_1 : x_cOk prog_14_method_48_code xc228_1 = true := x_cOk_w (by decide +kernel)
def xg228 : Nat → Option (Instr × Nat) := fun pc => if pc < 75 then x_at2 pc xc228_0 else x_at2 pc xc228_1
theorem xh228 : x_Good prog_14_method_48_code xg228 := by
  unfold xg228
  exact x_Good_ite (x_Good_l xo228_0) (x_Good_l xo228_1)
def xm228 : XM := (⟨"TwoDigitsModel", "gets", "(II)Z"⟩, prog_14_method_48_code, 6, some .boolean, 12, 12, 2, 0, 0, false, xg228)
def xc229_0 : List (Nat × Instr × Nat) := [(0, .iconst 0, 1), (1, .istore_n 2, 1), (2, .iload_n 2, 1), (3, .aload_n 0, 1), (4, .getfield 9, 3), (7, .iload_n 1, 1), (8, .iaload, 1), (9, .if_icmp .ge 47, 3), (12, .aload_n 0, 1), (13, .getfield 15, 3), (16, .iload_n 1, 1), (17, .aaload, 1), (18, .iconst 4, 1), (19, .iload_n 2, 1), (20, .imul, 1), (21, .iaload, 1), (22, .iconst 2, 1), (23, .if_icmp .ne 27, 3), (26, .aload_n 0, 1), (27, .getfield 159, 3), (30, .iload_n 1, 1), (31, .aaload, 1), (32, .aload_n 0, 1), (33, .getfield 15, 3), (36, .iload_n 1, 1), (37, .aaload, 1), (38, .iconst 4, 1), (39, .iload_n 2, 1), (40, .imul, 1), (41, .iconst 1, 1), (42, .iadd, 1), (43, .iaload, 1), (44, .baload, 1), (45, .ifCond .eq 5, 3), (48, .iconst 1, 1), (49, .ireturn, 1), (50, .iinc 2 1, 3), (53, .goto (-51), 3), (56, .iconst 0, 1), (57, .ireturn, 1)]
theorem xo229_0 : x_cOk prog_14_method_47_code xc229_0 = true := x_cOk_w (by decide +kernel)
def xg229 : Nat → Option (Instr × Nat) := fun pc => x_at2 pc xc229_0
theorem xh229 : x_Good prog_14_method_47_code xg229 := by
  unfold xg229
  exact x_Good_l xo229_0
def xm229 : XM := (⟨"TwoDigitsModel", "writesSure", "(I)Z"⟩, prog_14_method_47_code, 3, some .boolean, 12, 12, 1, 0, 0, false, xg229)
def xc230_0 : List (Nat × Instr × Nat) := [(0, .iload_n 3, 1), (1, .iconst 0, 1), (2, .iconst 1, 1), (3, .invokestatic 175, 3), (6, .ifCond .eq 29, 3), (9, .aload_n 0, 1), (10, .iload_n 1, 1), (11, .invokevirtual 326, 3), (14, .ifCond .eq 21, 3), (17, .aload_n 0, 1), (18, .iload_n 2, 1), (19, .invokevirtual 326, 3), (22, .ifCond .eq 13, 3), (25, .aload_n 0, 1), (26, .getfield 27, 3), (29, .iload_n 2, 1), (30, .iaload, 1), (31, .iload_n 1, 1), (32, .if_icmp .eq 5, 3), (35, .iconst (-1), 1), (36, .ireturn, 1), (37, .iconst 0, 1), (38, .istore 4, 2), (40, .iconst (-1), 1), (41, .istore 5, 2), (43, .bipush 99, 2), (45, .istore 6, 2), (47, .iload 6, 2), (49, .ifCond .lt 27, 3), (52, .aload_n 0, 1), (53, .iload_n 1, 1), (54, .iload_n 2, 1), (55, .iload 6, 2), (57, .invokevirtual 365, 3), (60, .ifCond .eq 10, 3), (63, .iinc 4 1, 3), (66, .iload 6, 2), (68, .istore 5, 2), (70, .iinc 6 (-1), 3), (73, .goto (-26), 3), (76, .iload_n 3, 1), (77, .ifCond .ne 8, 3), (80, .iload 4, 2), (82, .goto 5, 3), (85, .iload 5, 2), (87, .ireturn, 1)]
theorem xo230_0 : x_cOk prog_14_method_54_code xc230_0 = true := x_cOk_w (by decide +kernel)
def xg230 : Nat → Option (Instr × Nat) := fun pc => x_at2 pc xc230_0
theorem xh230 : x_Good prog_14_method_54_code xg230 := by
  unfold xg230
  exact x_Good_l xo230_0
def xm230 : XM := (⟨"TwoDigitsModel", "cross", "(III)I"⟩, prog_14_method_54_code, 7, some .int, 12, 12, 3, 0, 0, false, xg230)
def xc231_0 : List (Nat × Instr × Nat) := [(0, .iconst 0, 1), (1, .istore 4, 2), (3, .iload 4, 2), (5, .bipush 6, 2), (7, .if_icmp .ge 118, 3), (10, .iconst 0, 1), (11, .istore 5, 2), (13, .iload 5, 2), (15, .bipush 6, 2), (17, .if_icmp .ge 102, 3), (20, .aload_n 0, 1), (21, .getfield 18, 3), (24, .iload_n 1, 1), (25, .aaload, 1), (26, .iload 4, 2), (28, .iaload, 1), (29, .iconst 2, 1), (30, .if_icmp .ne 42, 3), (33, .aload_n 0, 1), (34, .getfield 18, 3), (37, .iload_n 2, 1), (38, .aaload, 1), (39, .iload 5, 2), (41, .iaload, 1), (42, .iconst 2, 1), (43, .if_icmp .ne 29, 3), (46, .aload_n 0, 1), (47, .iload_n 1, 1), (48, .iconst 2, 1), (49, .iload 4, 2), (51, .invokevirtual 362, 3), (54, .ifCond .eq 18, 3), (57, .aload_n 0, 1), (58, .iload_n 2, 1), (59, .iconst 1, 1), (60, .iload 5, 2), (62, .invokevirtual 362, 3), (65, .ifCond .eq 7, 3), (68, .iconst 1, 1), (69, .goto 4, 3), (72, .iconst 0, 1), (73, .istore 6, 2), (75, .iload 6, 2), (77, .ifCond .eq 36, 3), (80, .iload_n 3, 1), (81, .iconst 2, 1), (82, .aload_n 0, 1), (83, .getfield 21, 3)]
theorem xo231_0 : x_cOk prog_14_method_53_code xc231_0 = true := x_cOk_w (by decide +kernel)
def xc231_1 : List (Nat × Instr × Nat) := [(86, .iload_n 1, 1), (87, .aaload, 1), (88, .iload 4, 2), (90, .iaload, 1), (91, .invokestatic 278, 3), (94, .iload_n 3, 1), (95, .iconst 2, 1), (96, .aload_n 0, 1), (97, .getfield 21, 3), (100, .iload_n 2, 1), (101, .aaload, 1), (102, .iload 5, 2), (104, .iaload, 1), (105, .invokestatic 278, 3), (108, .if_icmp .eq 5, 3), (111, .iconst 1, 1), (112, .ireturn, 1), (113, .iinc 5 1, 3), (116, .goto (-103), 3), (119, .iinc 4 1, 3), (122, .goto (-119), 3), (125, .iconst 0, 1), (126, .ireturn, 1)]
theorem xo231_1 : x_cOk prog_14_method_53_code xc231_1 = true := x_cOk_w (by decide +kernel)
def xg231 : Nat → Option (Instr × Nat) := fun pc => if pc < 86 then x_at2 pc xc231_0 else x_at2 pc xc231_1
theorem xh231 : x_Good prog_14_method_53_code xg231 := by
  unfold xg231
  exact x_Good_ite (x_Good_l xo231_0) (x_Good_l xo231_1)
def xm231 : XM := (⟨"TwoDigitsModel", "crosses", "(III)Z"⟩, prog_14_method_53_code, 7, some .boolean, 12, 12, 3, 0, 0, false, xg231)
end XCode6
end
section
/-! Instructions, by program: part 7. -/
section XCode7
def xc232_0 : List (Nat × Instr × Nat) := [(0, .iconst 0, 1), (1, .istore 4, 2), (3, .iload 4, 2), (5, .aload_n 0, 1), (6, .getfield 9, 3), (9, .iload_n 1, 1), (10, .iaload, 1), (11, .if_icmp .ge 43, 3), (14, .aload_n 0, 1), (15, .getfield 15, 3), (18, .iload_n 1, 1), (19, .aaload, 1), (20, .iconst 4, 1), (21, .iload 4, 2), (23, .imul, 1), (24, .iaload, 1), (25, .iload_n 2, 1), (26, .if_icmp .ne 22, 3), (29, .aload_n 0, 1), (30, .getfield 15, 3), (33, .iload_n 1, 1), (34, .aaload, 1), (35, .iconst 4, 1), (36, .iload 4, 2), (38, .imul, 1), (39, .iconst 1, 1), (40, .iadd, 1), (41, .iaload, 1), (42, .iload_n 3, 1), (43, .if_icmp .ne 5, 3), (46, .iconst 1, 1), (47, .ireturn, 1), (48, .iinc 4 1, 3), (51, .goto (-48), 3), (54, .iconst 0, 1), (55, .ireturn, 1)]
theorem xo232_0 : x_cOk prog_14_method_52_code xc232_0 = true := x_cOk_w (by decide +kernel)
def xg232 : Nat → Option (Instr × Nat) := fun pc => x_at2 pc xc232_0
theorem xh232 : x_Good prog_14_method_52_code xg232 := by
  unfold xg232
  exact x_Good_l xo232_0
def xm232 : XM := (⟨"TwoDigitsModel", "uses", "(III)Z"⟩, prog_14_method_52_code, 5, some .boolean, 12, 12, 3, 0, 0, false, xg232)
def xc233_0 : List (Nat × Instr × Nat) := [(0, .aload_n 0, 1), (1, .iload_n 1, 1), (2, .invokevirtual 326, 3), (5, .ifCond .eq 23, 3), (8, .iload_n 2, 1), (9, .iconst 0, 1), (10, .bipush 7, 2), (12, .invokestatic 175, 3), (15, .ifCond .eq 13, 3), (18, .iload 4, 2), (20, .iconst 0, 1), (21, .iconst 3, 1), (22, .invokestatic 175, 3), (25, .ifCond .ne 5, 3), (28, .iconst (-1), 1), (29, .ireturn, 1), (30, .iload_n 3, 1), (31, .invokestatic 371, 3), (34, .ifCond .ne 6, 3), (37, .bipush (-2), 2), (39, .ireturn, 1), (40, .iload 4, 2), (42, .ifCond .ne 20, 3), (45, .aload_n 0, 1), (46, .getfield 36, 3), (49, .iload_n 1, 1), (50, .iaload, 1), (51, .ifCond .ne 7, 3), (54, .iconst 1, 1), (55, .goto 70, 3), (58, .iconst 0, 1), (59, .goto 66, 3), (62, .iload 4, 2), (64, .iconst 1, 1), (65, .if_icmp .ne 21, 3), (68, .aload_n 0, 1), (69, .getfield 36, 3), (72, .iload_n 1, 1), (73, .iaload, 1), (74, .iconst 3, 1), (75, .if_icmp .ne 7, 3), (78, .iconst 1, 1), (79, .goto 46, 3), (82, .iconst 0, 1), (83, .goto 42, 3), (86, .iload 4, 2), (88, .iconst 2, 1), (89, .if_icmp .ne 21, 3)]
theorem xo233_0 : x_cOk prog_14_method_57_code xc233_0 = true := x_cOk_w (by decide +kernel)
def xc233_1 : List (Nat × Instr × Nat) := [(92, .aload_n 0, 1), (93, .getfield 36, 3), (96, .iload_n 1, 1), (97, .iaload, 1), (98, .iconst 5, 1), (99, .if_icmp .eq 7, 3), (102, .iconst 1, 1), (103, .goto 22, 3), (106, .iconst 0, 1), (107, .goto 18, 3), (110, .aload_n 0, 1), (111, .getfield 36, 3), (114, .iload_n 1, 1), (115, .iaload, 1), (116, .iconst 5, 1), (117, .if_icmp .ne 7, 3), (120, .iconst 1, 1), (121, .goto 4, 3), (124, .iconst 0, 1), (125, .istore 5, 2), (127, .iload 5, 2), (129, .ifCond .ne 6, 3), (132, .bipush (-3), 2), (134, .ireturn, 1), (135, .iload 4, 2), (137, .iconst 2, 1), (138, .if_icmp .ne 29, 3), (141, .aload_n 0, 1), (142, .getfield 39, 3), (145, .iload_n 1, 1), (146, .aload_n 0, 1), (147, .getfield 36, 3), (150, .iload_n 1, 1), (151, .iaload, 1), (152, .iastore, 1), (153, .aload_n 0, 1), (154, .getfield 63, 3), (157, .iload_n 1, 1), (158, .iconst 0, 1), (159, .bastore, 1), (160, .aload_n 0, 1), (161, .getfield 67, 3), (164, .iload_n 1, 1), (165, .iconst 0, 1), (166, .bastore, 1), (167, .aload_n 0, 1), (168, .getfield 36, 3), (171, .iload_n 1, 1)]
theorem xo233_1 : x_cOk prog_14_method_57_code xc233_1 = true := x_cOk_w (by decide +kernel)
def xc233_2 : List (Nat × Instr × Nat) := [(172, .iload 4, 2), (174, .ifCond .ne 7, 3), (177, .iconst 1, 1), (178, .goto 29, 3), (181, .iload 4, 2), (183, .iconst 1, 1), (184, .if_icmp .ne 7, 3), (187, .iconst 4, 1), (188, .goto 19, 3), (191, .iload 4, 2), (193, .iconst 2, 1), (194, .if_icmp .ne 7, 3), (197, .iconst 5, 1), (198, .goto 9, 3), (201, .aload_n 0, 1), (202, .getfield 39, 3), (205, .iload_n 1, 1), (206, .iaload, 1), (207, .iastore, 1), (208, .aload_n 0, 1), (209, .iload_n 1, 1), (210, .iload_n 2, 1), (211, .iload_n 3, 1), (212, .invokevirtual 374, 3), (215, .aload_n 0, 1), (216, .getfield 36, 3), (219, .iload_n 1, 1), (220, .iaload, 1), (221, .ireturn, 1)]
theorem xo233_2 : x_cOk prog_14_method_57_code xc233_2 = true := x_cOk_w (by decide +kernel)
def xg233 : Nat → Option (Instr × Nat) := fun pc => if pc < 92 then x_at2 pc xc233_0 else if pc < 172 then x_at2 pc xc233_1 else x_at2 pc xc233_2
theorem xh233 : x_Good prog_14_method_57_code xg233 := by
  unfold xg233
  exact x_Good_ite (x_Good_l xo233_0) (x_Good_ite (x_Good_l xo233_1) (x_Good_l xo233_2))
def xm233 : XM := (⟨"TwoDigitsModel", "does", "(IIII)I"⟩, prog_14_method_57_code, 6, some .int, 12, 12, 4, 0, 0, false, xg233)
def xc234_0 : List (Nat × Instr × Nat) := [(0, .iload_n 0, 1), (1, .iconst 0, 1), (2, .sipush 999, 3), (5, .invokestatic 175, 3), (8, .ireturn, 1)]
theorem xo234_0 : x_cOk prog_14_method_56_code xc234_0 = true := x_cOk_w (by decide +kernel)
def xg234 : Nat → Option (Instr × Nat) := fun pc => x_at2 pc xc234_0
theorem xh234 : x_Good prog_14_method_56_code xg234 := by
  unfold xg234
  exact x_Good_l xo234_0
def xm234 : XM := (⟨"TwoDigitsModel", "isDay", "(I)Z"⟩, prog_14_method_56_code, 1, some .boolean, 12, 12, 1, 0, 0, false, xg234)
def xc235_0 : List (Nat × Instr × Nat) := [(0, .aload_n 0, 1), (1, .getfield 368, 3), (4, .sipush 200, 3), (7, .if_icmp .ge 56, 3), (10, .aload_n 0, 1), (11, .getfield 73, 3), (14, .aload_n 0, 1), (15, .getfield 368, 3), (18, .aaload, 1), (19, .iconst 0, 1), (20, .iload_n 1, 1), (21, .iastore, 1), (22, .aload_n 0, 1), (23, .getfield 73, 3), (26, .aload_n 0, 1), (27, .getfield 368, 3), (30, .aaload, 1), (31, .iconst 1, 1), (32, .iload_n 2, 1), (33, .iastore, 1), (34, .aload_n 0, 1), (35, .getfield 73, 3), (38, .aload_n 0, 1), (39, .getfield 368, 3), (42, .aaload, 1), (43, .iconst 2, 1), (44, .iload_n 3, 1), (45, .iastore, 1), (46, .aload_n 0, 1), (47, .getfield 73, 3), (50, .aload_n 0, 1), (51, .getfield 368, 3), (54, .aaload, 1), (55, .iconst 3, 1), (56, .aload_n 0, 1), (57, .getfield 36, 3), (60, .iload_n 1, 1), (61, .iaload, 1), (62, .iastore, 1), (63, .aload_n 0, 1), (64, .dup, 1), (65, .getfield 368, 3), (68, .iconst 1, 1), (69, .iadd, 1), (70, .putfield 368, 3), (73, .return_, 1)]
theorem xo235_0 : x_cOk prog_14_method_55_code xc235_0 = true := x_cOk_w (by decide +kernel)
def xg235 : Nat → Option (Instr × Nat) := fun pc => x_at2 pc xc235_0
theorem xh235 : x_Good prog_14_method_55_code xg235 := by
  unfold xg235
  exact x_Good_l xo235_0
def xm235 : XM := (⟨"TwoDigitsModel", "write", "(III)V"⟩, prog_14_method_55_code, 4, none, 12, 12, 3, 0, 0, false, xg235)
def xc236_0 : List (Nat × Instr × Nat) := [(0, .aload_n 0, 1), (1, .iload_n 1, 1), (2, .invokevirtual 326, 3), (5, .ifCond .eq 23, 3), (8, .iload_n 2, 1), (9, .iconst 0, 1), (10, .bipush 7, 2), (12, .invokestatic 175, 3), (15, .ifCond .eq 13, 3), (18, .iload 4, 2), (20, .iconst 0, 1), (21, .iconst 5, 1), (22, .invokestatic 175, 3), (25, .ifCond .ne 5, 3), (28, .iconst (-1), 1), (29, .ireturn, 1), (30, .iload_n 3, 1), (31, .invokestatic 371, 3), (34, .ifCond .eq 13, 3), (37, .iload 5, 2), (39, .iload 6, 2), (41, .invokestatic 377, 3), (44, .ifCond .ne 6, 3), (47, .bipush (-2), 2), (49, .ireturn, 1), (50, .aload_n 0, 1), (51, .iload_n 1, 1), (52, .invokevirtual 380, 3), (55, .ifCond .ne 6, 3), (58, .bipush (-3), 2), (60, .ireturn, 1), (61, .aload_n 0, 1), (62, .getfield 18, 3), (65, .iload_n 1, 1), (66, .aaload, 1), (67, .iload 4, 2), (69, .iload 5, 2), (71, .iastore, 1), (72, .aload_n 0, 1), (73, .getfield 21, 3), (76, .iload_n 1, 1), (77, .aaload, 1), (78, .iload 4, 2), (80, .iload 6, 2), (82, .iastore, 1), (83, .aload_n 0, 1), (84, .getfield 36, 3), (87, .iload_n 1, 1)]
theorem xo236_0 : x_cOk prog_14_method_60_code xc236_0 = true := x_cOk_w (by decide +kernel)
def xc236_1 : List (Nat × Instr × Nat) := [(88, .iconst 2, 1), (89, .iastore, 1), (90, .aload_n 0, 1), (91, .iload_n 1, 1), (92, .iload_n 2, 1), (93, .iload_n 3, 1), (94, .invokevirtual 374, 3), (97, .iconst 2, 1), (98, .ireturn, 1)]
theorem xo236_1 : x_cOk prog_14_method_60_code xc236_1 = true := x_cOk_w (by decide +kernel)
def xg236 : Nat → Option (Instr × Nat) := fun pc => if pc < 88 then x_at2 pc xc236_0 else x_at2 pc xc236_1
theorem xh236 : x_Good prog_14_method_60_code xg236 := by
  unfold xg236
  exact x_Good_ite (x_Good_l xo236_0) (x_Good_l xo236_1)
def xm236 : XM := (⟨"TwoDigitsModel", "mend", "(IIIIII)I"⟩, prog_14_method_60_code, 7, some .int, 12, 12, 6, 0, 0, false, xg236)
def xc237_0 : List (Nat × Instr × Nat) := [(0, .iload_n 0, 1), (1, .iconst 2, 1), (2, .if_icmp .eq 8, 3), (5, .iload_n 0, 1), (6, .iconst 4, 1), (7, .if_icmp .ne 17, 3), (10, .iload_n 1, 1), (11, .iconst (-1), 1), (12, .bipush 100, 2), (14, .invokestatic 175, 3), (17, .ifCond .eq 7, 3), (20, .iconst 1, 1), (21, .goto 4, 3), (24, .iconst 0, 1), (25, .ireturn, 1)]
theorem xo237_0 : x_cOk prog_14_method_58_code xc237_0 = true := x_cOk_w (by decide +kernel)
def xg237 : Nat → Option (Instr × Nat) := fun pc => x_at2 pc xc237_0
theorem xh237 : x_Good prog_14_method_58_code xg237 := by
  unfold xg237
  exact x_Good_l xo237_0
def xm237 : XM := (⟨"TwoDigitsModel", "isDigits", "(II)Z"⟩, prog_14_method_58_code, 2, some .boolean, 12, 12, 2, 0, 0, false, xg237)
def xc238_0 : List (Nat × Instr × Nat) := [(0, .aload_n 0, 1), (1, .getfield 36, 3), (4, .iload_n 1, 1), (5, .iaload, 1), (6, .iconst 1, 1), (7, .iconst 3, 1), (8, .invokestatic 175, 3), (11, .ireturn, 1)]
theorem xo238_0 : x_cOk prog_14_method_59_code xc238_0 = true := x_cOk_w (by decide +kernel)
def xg238 : Nat → Option (Instr × Nat) := fun pc => x_at2 pc xc238_0
theorem xh238 : x_Good prog_14_method_59_code xg238 := by
  unfold xg238
  exact x_Good_l xo238_0
def xm238 : XM := (⟨"TwoDigitsModel", "mends", "(I)Z"⟩, prog_14_method_59_code, 2, some .boolean, 12, 12, 1, 0, 0, false, xg238)
def xc239_0 : List (Nat × Instr × Nat) := [(0, .aload_n 0, 1), (1, .iload_n 1, 1), (2, .invokevirtual 326, 3), (5, .ifCond .eq 13, 3), (8, .iload_n 2, 1), (9, .iconst 0, 1), (10, .bipush 7, 2), (12, .invokestatic 175, 3), (15, .ifCond .ne 5, 3), (18, .iconst (-1), 1), (19, .ireturn, 1), (20, .iload_n 3, 1), (21, .invokestatic 371, 3), (24, .ifCond .eq 13, 3), (27, .iload 4, 2), (29, .iconst 0, 1), (30, .iconst 2, 1), (31, .invokestatic 175, 3), (34, .ifCond .ne 6, 3), (37, .bipush (-2), 2), (39, .ireturn, 1), (40, .aload_n 0, 1), (41, .iload_n 1, 1), (42, .invokevirtual 380, 3), (45, .ifCond .ne 6, 3), (48, .bipush (-3), 2), (50, .ireturn, 1), (51, .aload_n 0, 1), (52, .getfield 24, 3), (55, .iload_n 1, 1), (56, .iload 4, 2), (58, .iastore, 1), (59, .aload_n 0, 1), (60, .getfield 36, 3), (63, .iload_n 1, 1), (64, .iconst 2, 1), (65, .iastore, 1), (66, .aload_n 0, 1), (67, .iload_n 1, 1), (68, .iload_n 2, 1), (69, .iload_n 3, 1), (70, .invokevirtual 374, 3), (73, .iconst 2, 1), (74, .ireturn, 1)]
theorem xo239_0 : x_cOk prog_14_method_61_code xc239_0 = true := x_cOk_w (by decide +kernel)
def xg239 : Nat → Option (Instr × Nat) := fun pc => x_at2 pc xc239_0
theorem xh239 : x_Good prog_14_method_61_code xg239 := by
  unfold xg239
  exact x_Good_l xo239_0
def xm239 : XM := (⟨"TwoDigitsModel", "mendRule", "(IIII)I"⟩, prog_14_method_61_code, 5, some .int, 12, 12, 4, 0, 0, false, xg239)
def xc240_0 : List (Nat × Instr × Nat) := [(0, .aload_n 0, 1), (1, .iload_n 1, 1), (2, .invokevirtual 326, 3), (5, .ifCond .eq 13, 3), (8, .iload_n 2, 1), (9, .iconst 0, 1), (10, .bipush 7, 2), (12, .invokestatic 175, 3), (15, .ifCond .ne 5, 3), (18, .iconst (-1), 1), (19, .ireturn, 1), (20, .iload_n 3, 1), (21, .invokestatic 371, 3), (24, .ifCond .eq 11, 3), (27, .iload 4, 2), (29, .invokestatic 271, 3), (32, .ifCond .ne 6, 3), (35, .bipush (-2), 2), (37, .ireturn, 1), (38, .aload_n 0, 1), (39, .getfield 36, 3), (42, .iload_n 1, 1), (43, .iaload, 1), (44, .iconst 2, 1), (45, .if_icmp .eq 6, 3), (48, .bipush (-3), 2), (50, .ireturn, 1), (51, .aload_n 0, 1), (52, .iload_n 1, 1), (53, .aload_n 0, 1), (54, .iload_n 1, 1), (55, .iload 4, 2), (57, .invokevirtual 329, 3), (60, .invokevirtual 331, 3), (63, .aload_n 0, 1), (64, .getfield 36, 3), (67, .iload_n 1, 1), (68, .aload_n 0, 1), (69, .getfield 67, 3), (72, .iload_n 1, 1), (73, .baload, 1), (74, .ifCond .eq 7, 3), (77, .iconst 2, 1), (78, .goto 4, 3), (81, .iconst 3, 1), (82, .iastore, 1), (83, .aload_n 0, 1), (84, .iload_n 1, 1)]
theorem xo240_0 : x_cOk prog_14_method_62_code xc240_0 = true := x_cOk_w (by decide +kernel)
def xc240_1 : List (Nat × Instr × Nat) := [(85, .iload_n 2, 1), (86, .iload_n 3, 1), (87, .invokevirtual 374, 3), (90, .aload_n 0, 1), (91, .getfield 36, 3), (94, .iload_n 1, 1), (95, .iaload, 1), (96, .ireturn, 1)]
theorem xo240_1 : x_cOk prog_14_method_62_code xc240_1 = true := x_cOk_w (by decide +kernel)
def xg240 : Nat → Option (Instr × Nat) := fun pc => if pc < 85 then x_at2 pc xc240_0 else x_at2 pc xc240_1
theorem xh240 : x_Good prog_14_method_62_code xg240 := by
  unfold xg240
  exact x_Good_ite (x_Good_l xo240_0) (x_Good_l xo240_1)
def xm240 : XM := (⟨"TwoDigitsModel", "test", "(IIII)I"⟩, prog_14_method_62_code, 5, some .int, 12, 12, 4, 0, 0, false, xg240)
def xc241_0 : List (Nat × Instr × Nat) := [(0, .iload_n 1, 1), (1, .iconst 0, 1), (2, .aload_n 0, 1), (3, .getfield 368, 3), (6, .sipush 200, 3), (9, .invokestatic 383, 3), (12, .iconst 1, 1), (13, .isub, 1), (14, .invokestatic 175, 3), (17, .ifCond .eq 23, 3), (20, .iload_n 2, 1), (21, .iconst 0, 1), (22, .iconst 3, 1), (23, .invokestatic 175, 3), (26, .ifCond .eq 14, 3), (29, .aload_n 0, 1), (30, .getfield 73, 3), (33, .iload_n 1, 1), (34, .aaload, 1), (35, .iload_n 2, 1), (36, .iaload, 1), (37, .goto 5, 3), (40, .bipush (-5), 2), (42, .ireturn, 1)]
theorem xo241_0 : x_cOk prog_14_method_63_code xc241_0 = true := x_cOk_w (by decide +kernel)
def xg241 : Nat → Option (Instr × Nat) := fun pc => x_at2 pc xc241_0
theorem xh241 : x_Good prog_14_method_63_code xg241 := by
  unfold xg241
  exact x_Good_l xo241_0
def xm241 : XM := (⟨"TwoDigitsModel", "book", "(II)I"⟩, prog_14_method_63_code, 3, some .int, 12, 12, 2, 0, 0, false, xg241)
def xc242_0 : List (Nat × Instr × Nat) := [(0, .aload_n 0, 1), (1, .iload_n 1, 1), (2, .invokevirtual 326, 3), (5, .ifCond .eq 22, 3), (8, .iload_n 2, 1), (9, .iconst 0, 1), (10, .iconst 5, 1), (11, .invokestatic 175, 3), (14, .ifCond .eq 13, 3), (17, .iload 5, 2), (19, .iconst 0, 1), (20, .iconst 1, 1), (21, .invokestatic 175, 3), (24, .ifCond .ne 5, 3), (27, .iconst (-1), 1), (28, .ireturn, 1), (29, .iload_n 3, 1), (30, .iload 4, 2), (32, .invokestatic 377, 3), (35, .ifCond .ne 6, 3), (38, .bipush (-2), 2), (40, .ireturn, 1), (41, .iconst 0, 1), (42, .istore 6, 2), (44, .iconst (-1), 1), (45, .istore 7, 2), (47, .sipush 2099, 3), (50, .istore 8, 2), (52, .iload 8, 2), (54, .sipush 1900, 3), (57, .if_icmp .lt 31, 3), (60, .aload_n 0, 1), (61, .iload_n 1, 1), (62, .iload_n 2, 1), (63, .iload_n 3, 1), (64, .iload 4, 2), (66, .iload 8, 2), (68, .iconst 0, 1), (69, .invokevirtual 395, 3), (72, .ifCond .eq 10, 3), (75, .iinc 6 1, 3), (78, .iload 8, 2), (80, .istore 7, 2), (82, .iinc 8 (-1), 3), (85, .goto (-33), 3), (88, .iload 5, 2), (90, .ifCond .ne 8, 3), (93, .iload 6, 2)]
theorem xo242_0 : x_cOk prog_14_method_66_code xc242_0 = true := x_cOk_w (by decide +kernel)
def xc242_1 : List (Nat × Instr × Nat) := [(95, .goto 5, 3), (98, .iload 7, 2), (100, .ireturn, 1)]
theorem xo242_1 : x_cOk prog_14_method_66_code xc242_1 = true := x_cOk_w (by decide +kernel)
def xg242 : Nat → Option (Instr × Nat) := fun pc => if pc < 95 then x_at2 pc xc242_0 else x_at2 pc xc242_1
theorem xh242 : x_Good prog_14_method_66_code xg242 := by
  unfold xg242
  exact x_Good_ite (x_Good_l xo242_0) (x_Good_l xo242_1)
def xm242 : XM := (⟨"TwoDigitsModel", "breaks", "(IIIII)I"⟩, prog_14_method_66_code, 9, some .int, 12, 12, 5, 0, 0, false, xg242)
def xc243_0 : List (Nat × Instr × Nat) := [(0, .aload_n 0, 1), (1, .iload_n 1, 1), (2, .iload 5, 2), (4, .invokevirtual 392, 3), (7, .aload_n 0, 1), (8, .getfield 18, 3), (11, .iload_n 1, 1), (12, .aaload, 1), (13, .iload_n 2, 1), (14, .iaload, 1), (15, .istore 7, 2), (17, .aload_n 0, 1), (18, .getfield 21, 3), (21, .iload_n 1, 1), (22, .aaload, 1), (23, .iload_n 2, 1), (24, .iaload, 1), (25, .istore 8, 2), (27, .aload_n 0, 1), (28, .getfield 18, 3), (31, .iload_n 1, 1), (32, .aaload, 1), (33, .iload_n 2, 1), (34, .iload_n 3, 1), (35, .iastore, 1), (36, .aload_n 0, 1), (37, .getfield 21, 3), (40, .iload_n 1, 1), (41, .aaload, 1), (42, .iload_n 2, 1), (43, .iload 4, 2), (45, .iastore, 1), (46, .aload_n 0, 1), (47, .iload_n 1, 1), (48, .iload 5, 2), (50, .invokevirtual 315, 3), (53, .aload_n 0, 1), (54, .getfield 18, 3), (57, .iload_n 1, 1), (58, .aaload, 1), (59, .iload_n 2, 1), (60, .iload 7, 2), (62, .iastore, 1), (63, .aload_n 0, 1), (64, .getfield 21, 3), (67, .iload_n 1, 1), (68, .aaload, 1), (69, .iload_n 2, 1)]
theorem xo243_0 : x_cOk prog_14_method_65_code xc243_0 = true := x_cOk_w (by decide +kernel)
def xc243_1 : List (Nat × Instr × Nat) := [(70, .iload 8, 2), (72, .iastore, 1), (73, .aload_n 0, 1), (74, .getfield 162, 3), (77, .aload_n 0, 1), (78, .getfield 386, 3), (81, .aload_n 0, 1), (82, .getfield 136, 3), (85, .iconst 0, 1), (86, .aaload, 1), (87, .aload_n 0, 1), (88, .getfield 139, 3), (91, .iconst 0, 1), (92, .iaload, 1), (93, .invokestatic 319, 3), (96, .ifCond .eq 21, 3), (99, .iload 6, 2), (101, .ifCond .eq 20, 3), (104, .aload_n 0, 1), (105, .getfield 389, 3), (108, .aload_n 0, 1), (109, .getfield 133, 3), (112, .iconst 0, 1), (113, .iaload, 1), (114, .if_icmp .eq 7, 3), (117, .iconst 1, 1), (118, .goto 4, 3), (121, .iconst 0, 1), (122, .ireturn, 1)]
theorem xo243_1 : x_cOk prog_14_method_65_code xc243_1 = true := x_cOk_w (by decide +kernel)
def xg243 : Nat → Option (Instr × Nat) := fun pc => if pc < 70 then x_at2 pc xc243_0 else x_at2 pc xc243_1
theorem xh243 : x_Good prog_14_method_65_code xg243 := by
  unfold xg243
  exact x_Good_ite (x_Good_l xo243_0) (x_Good_l xo243_1)
def xm243 : XM := (⟨"TwoDigitsModel", "changes", "(IIIIIZ)Z"⟩, prog_14_method_65_code, 9, some .boolean, 12, 12, 6, 0, 0, false, xg243)
def xc244_0 : List (Nat × Instr × Nat) := [(0, .aload_n 0, 1), (1, .iload_n 1, 1), (2, .iload_n 2, 1), (3, .invokevirtual 315, 3), (6, .aload_n 0, 1), (7, .getfield 136, 3), (10, .iconst 0, 1), (11, .aaload, 1), (12, .iconst 0, 1), (13, .aload_n 0, 1), (14, .getfield 162, 3), (17, .iconst 0, 1), (18, .bipush 12, 2), (20, .invokestatic 262, 3), (23, .aload_n 0, 1), (24, .aload_n 0, 1), (25, .getfield 139, 3), (28, .iconst 0, 1), (29, .iaload, 1), (30, .putfield 386, 3), (33, .aload_n 0, 1), (34, .aload_n 0, 1), (35, .getfield 133, 3), (38, .iconst 0, 1), (39, .iaload, 1), (40, .putfield 389, 3), (43, .return_, 1)]
theorem xo244_0 : x_cOk prog_14_method_64_code xc244_0 = true := x_cOk_w (by decide +kernel)
def xg244 : Nat → Option (Instr × Nat) := fun pc => x_at2 pc xc244_0
theorem xh244 : x_Good prog_14_method_64_code xg244 := by
  unfold xg244
  exact x_Good_l xo244_0
def xm244 : XM := (⟨"TwoDigitsModel", "asIs", "(II)V"⟩, prog_14_method_64_code, 3, none, 12, 12, 2, 0, 0, false, xg244)
def xc245_0 : List (Nat × Instr × Nat) := [(0, .iload_n 1, 1), (1, .invokestatic 271, 3), (4, .ifCond .ne 6, 3), (7, .bipush (-2), 2), (9, .ireturn, 1), (10, .aload_n 0, 1), (11, .getfield 399, 3), (14, .bipush 8, 2), (16, .if_icmp .ne 6, 3), (19, .bipush (-4), 2), (21, .ireturn, 1), (22, .aload_n 0, 1), (23, .getfield 91, 3), (26, .aload_n 0, 1), (27, .getfield 399, 3), (30, .iload_n 1, 1), (31, .iastore, 1), (32, .aload_n 0, 1), (33, .dup, 1), (34, .getfield 399, 3), (37, .dup_x1, 1), (38, .iconst 1, 1), (39, .iadd, 1), (40, .putfield 399, 3), (43, .ireturn, 1)]
theorem xo245_0 : x_cOk prog_14_method_67_code xc245_0 = true := x_cOk_w (by decide +kernel)
def xg245 : Nat → Option (Instr × Nat) := fun pc => x_at2 pc xc245_0
theorem xh245 : x_Good prog_14_method_67_code xg245 := by
  unfold xg245
  exact x_Good_l xo245_0
def xm245 : XM := (⟨"TwoDigitsModel", "testYear", "(I)I"⟩, prog_14_method_67_code, 2, some .int, 12, 12, 1, 0, 0, false, xg245)
def xc246_0 : List (Nat × Instr × Nat) := [(0, .aload_n 0, 1), (1, .iload_n 1, 1), (2, .invokevirtual 326, 3), (5, .ifCond .eq 12, 3), (8, .iload_n 2, 1), (9, .iconst 0, 1), (10, .iconst 5, 1), (11, .invokestatic 175, 3), (14, .ifCond .ne 5, 3), (17, .iconst (-1), 1), (18, .ireturn, 1), (19, .iload_n 3, 1), (20, .iload 4, 2), (22, .invokestatic 377, 3), (25, .ifCond .ne 6, 3), (28, .bipush (-2), 2), (30, .ireturn, 1), (31, .aload_n 0, 1), (32, .getfield 402, 3), (35, .bipush 8, 2), (37, .if_icmp .ne 6, 3), (40, .bipush (-4), 2), (42, .ireturn, 1), (43, .aload_n 0, 1), (44, .getfield 94, 3), (47, .aload_n 0, 1), (48, .getfield 402, 3), (51, .aaload, 1), (52, .iconst 0, 1), (53, .iload_n 1, 1), (54, .iastore, 1), (55, .aload_n 0, 1), (56, .getfield 94, 3), (59, .aload_n 0, 1), (60, .getfield 402, 3), (63, .aaload, 1), (64, .iconst 1, 1), (65, .iload_n 2, 1), (66, .iastore, 1), (67, .aload_n 0, 1), (68, .getfield 94, 3), (71, .aload_n 0, 1), (72, .getfield 402, 3), (75, .aaload, 1), (76, .iconst 2, 1), (77, .iload_n 3, 1), (78, .iastore, 1), (79, .aload_n 0, 1)]
theorem xo246_0 : x_cOk prog_14_method_68_code xc246_0 = true := x_cOk_w (by decide +kernel)
def xc246_1 : List (Nat × Instr × Nat) := [(80, .getfield 94, 3), (83, .aload_n 0, 1), (84, .getfield 402, 3), (87, .aaload, 1), (88, .iconst 3, 1), (89, .iload 4, 2), (91, .iastore, 1), (92, .aload_n 0, 1), (93, .dup, 1), (94, .getfield 402, 3), (97, .dup_x1, 1), (98, .iconst 1, 1), (99, .iadd, 1), (100, .putfield 402, 3), (103, .ireturn, 1)]
theorem xo246_1 : x_cOk prog_14_method_68_code xc246_1 = true := x_cOk_w (by decide +kernel)
def xg246 : Nat → Option (Instr × Nat) := fun pc => if pc < 80 then x_at2 pc xc246_0 else x_at2 pc xc246_1
theorem xh246 : x_Good prog_14_method_68_code xg246 := by
  unfold xg246
  exact x_Good_ite (x_Good_l xo246_0) (x_Good_l xo246_1)
def xm246 : XM := (⟨"TwoDigitsModel", "fault", "(IIII)I"⟩, prog_14_method_68_code, 5, some .int, 12, 12, 4, 0, 0, false, xg246)
def xc247_0 : List (Nat × Instr × Nat) := [(0, .iload_n 1, 1), (1, .iconst 0, 1), (2, .aload_n 0, 1), (3, .getfield 399, 3), (6, .iconst 1, 1), (7, .isub, 1), (8, .invokestatic 175, 3), (11, .ifCond .eq 34, 3), (14, .iload_n 2, 1), (15, .iconst 0, 1), (16, .aload_n 0, 1), (17, .getfield 402, 3), (20, .iconst 1, 1), (21, .isub, 1), (22, .invokestatic 175, 3), (25, .ifCond .eq 20, 3), (28, .aload_n 0, 1), (29, .iload_n 1, 1), (30, .iload_n 2, 1), (31, .invokevirtual 405, 3), (34, .ifCond .eq 7, 3), (37, .iconst 1, 1), (38, .goto 8, 3), (41, .iconst 0, 1), (42, .goto 4, 3), (45, .iconst (-1), 1), (46, .ireturn, 1)]
theorem xo247_0 : x_cOk prog_14_method_70_code xc247_0 = true := x_cOk_w (by decide +kernel)
def xg247 : Nat → Option (Instr × Nat) := fun pc => x_at2 pc xc247_0
theorem xh247 : x_Good prog_14_method_70_code xg247 := by
  unfold xg247
  exact x_Good_l xo247_0
def xm247 : XM := (⟨"TwoDigitsModel", "shows", "(II)I"⟩, prog_14_method_70_code, 3, some .int, 12, 12, 2, 0, 0, false, xg247)
def xc248_0 : List (Nat × Instr × Nat) := [(0, .aload_n 0, 1), (1, .getfield 94, 3), (4, .iload_n 2, 1), (5, .aaload, 1), (6, .astore_n 3, 1), (7, .aload_n 0, 1), (8, .aload_n 3, 1), (9, .iconst 0, 1), (10, .iaload, 1), (11, .aload_n 3, 1), (12, .iconst 1, 1), (13, .iaload, 1), (14, .aload_n 3, 1), (15, .iconst 2, 1), (16, .iaload, 1), (17, .aload_n 3, 1), (18, .iconst 3, 1), (19, .iaload, 1), (20, .aload_n 0, 1), (21, .getfield 91, 3), (24, .iload_n 1, 1), (25, .iaload, 1), (26, .iconst 1, 1), (27, .invokevirtual 395, 3), (30, .ireturn, 1)]
theorem xo248_0 : x_cOk prog_14_method_69_code xc248_0 = true := x_cOk_w (by decide +kernel)
def xg248 : Nat → Option (Instr × Nat) := fun pc => x_at2 pc xc248_0
theorem xh248 : x_Good prog_14_method_69_code xg248 := by
  unfold xg248
  exact x_Good_l xo248_0
def xm248 : XM := (⟨"TwoDigitsModel", "isShown", "(II)Z"⟩, prog_14_method_69_code, 4, some .boolean, 12, 12, 2, 0, 0, false, xg248)
def xc249_0 : List (Nat × Instr × Nat) := [(0, .iload_n 1, 1), (1, .iconst 0, 1), (2, .iconst 1, 1), (3, .invokestatic 175, 3), (6, .ifCond .ne 5, 3), (9, .iconst (-1), 1), (10, .ireturn, 1), (11, .bipush 8, 2), (13, .newarray .int, 2), (15, .astore_n 2, 1), (16, .iconst 0, 1), (17, .istore_n 3, 1), (18, .iconst 0, 1), (19, .istore 4, 2), (21, .iload 4, 2), (23, .aload_n 0, 1), (24, .getfield 399, 3), (27, .if_icmp .ge 60, 3), (30, .iconst 0, 1), (31, .istore 5, 2), (33, .iload 5, 2), (35, .aload_n 0, 1), (36, .getfield 402, 3), (39, .if_icmp .ge 35, 3), (42, .aload_n 2, 1), (43, .iload 4, 2), (45, .dup2, 1), (46, .iaload, 1), (47, .aload_n 0, 1), (48, .iload 4, 2), (50, .iload 5, 2), (52, .invokevirtual 405, 3), (55, .ifCond .eq 10, 3), (58, .iconst 1, 1), (59, .iload 5, 2), (61, .ishl, 1), (62, .goto 4, 3), (65, .iconst 0, 1), (66, .ior, 1), (67, .iastore, 1), (68, .iinc 5 1, 3), (71, .goto (-38), 3), (74, .iload_n 3, 1), (75, .aload_n 2, 1), (76, .iload 4, 2), (78, .iaload, 1), (79, .ior, 1), (80, .istore_n 3, 1)]
theorem xo249_0 : x_cOk prog_14_method_71_code xc249_0 = true := x_cOk_w (by decide +kernel)
def xc249_1 : List (Nat × Instr × Nat) := [(81, .iinc 4 1, 3), (84, .goto (-63), 3), (87, .iconst 1, 1), (88, .aload_n 0, 1), (89, .getfield 399, 3), (92, .ishl, 1), (93, .iconst 1, 1), (94, .isub, 1), (95, .istore 4, 2), (97, .iconst 0, 1), (98, .istore 5, 2), (100, .iload 5, 2), (102, .iconst 1, 1), (103, .aload_n 0, 1), (104, .getfield 399, 3), (107, .ishl, 1), (108, .if_icmp .ge 99, 3), (111, .iconst 0, 1), (112, .istore 6, 2), (114, .iconst 0, 1), (115, .istore 7, 2), (117, .iload 7, 2), (119, .aload_n 0, 1), (120, .getfield 399, 3), (123, .if_icmp .ge 33, 3), (126, .iload 6, 2), (128, .iload 5, 2), (130, .iload 7, 2), (132, .ishr, 1), (133, .iconst 1, 1), (134, .iand, 1), (135, .iconst 1, 1), (136, .if_icmp .ne 10, 3), (139, .aload_n 2, 1), (140, .iload 7, 2), (142, .iaload, 1), (143, .goto 4, 3), (146, .iconst 0, 1), (147, .ior, 1), (148, .istore 6, 2), (150, .iinc 7 1, 3), (153, .goto (-36), 3), (156, .iload 5, 2), (158, .invokestatic 343, 3), (161, .istore 7, 2), (163, .iload 4, 2), (165, .invokestatic 343, 3), (168, .istore 8, 2)]
theorem xo249_1 : x_cOk prog_14_method_71_code xc249_1 = true := x_cOk_w (by decide +kernel)
def xc249_2 : List (Nat × Instr × Nat) := [(170, .iload 6, 2), (172, .iload_n 3, 1), (173, .if_icmp .ne 28, 3), (176, .iload 7, 2), (178, .iload 8, 2), (180, .if_icmp .lt 17, 3), (183, .iload 7, 2), (185, .iload 8, 2), (187, .if_icmp .ne 14, 3), (190, .iload 5, 2), (192, .iload 4, 2), (194, .if_icmp .ge 7, 3), (197, .iload 5, 2), (199, .istore 4, 2), (201, .iinc 5 1, 3), (204, .goto (-104), 3), (207, .iload_n 1, 1), (208, .ifCond .ne 8, 3), (211, .iload 4, 2), (213, .goto 7, 3), (216, .iload_n 3, 1), (217, .invokestatic 343, 3), (220, .ireturn, 1)]
theorem xo249_2 : x_cOk prog_14_method_71_code xc249_2 = true := x_cOk_w (by decide +kernel)
def xg249 : Nat → Option (Instr × Nat) := fun pc => if pc < 81 then x_at2 pc xc249_0 else if pc < 170 then x_at2 pc xc249_1 else x_at2 pc xc249_2
theorem xh249 : x_Good prog_14_method_71_code xg249 := by
  unfold xg249
  exact x_Good_ite (x_Good_l xo249_0) (x_Good_ite (x_Good_l xo249_1) (x_Good_l xo249_2))
def xm249 : XM := (⟨"TwoDigitsModel", "cover", "(I)I"⟩, prog_14_method_71_code, 9, some .int, 12, 12, 1, 1, 8, false, xg249)
def xc250_0 : List (Nat × Instr × Nat) := [(0, .iload_n 1, 1), (1, .iconst 0, 1), (2, .bipush 100, 2), (4, .invokestatic 175, 3), (7, .ifCond .eq 12, 3), (10, .iload_n 2, 1), (11, .iconst 0, 1), (12, .iconst 2, 1), (13, .invokestatic 175, 3), (16, .ifCond .ne 6, 3), (19, .bipush (-2), 2), (21, .ireturn, 1), (22, .aload_n 0, 1), (23, .getfield 408, 3), (26, .bipush 6, 2), (28, .if_icmp .ne 6, 3), (31, .bipush (-4), 2), (33, .ireturn, 1), (34, .aload_n 0, 1), (35, .getfield 76, 3), (38, .aload_n 0, 1), (39, .getfield 408, 3), (42, .iload_n 1, 1), (43, .iastore, 1), (44, .aload_n 0, 1), (45, .getfield 79, 3), (48, .aload_n 0, 1), (49, .getfield 408, 3), (52, .iload_n 2, 1), (53, .iastore, 1), (54, .aload_n 0, 1), (55, .dup, 1), (56, .getfield 408, 3), (59, .dup_x1, 1), (60, .iconst 1, 1), (61, .iadd, 1), (62, .putfield 408, 3), (65, .ireturn, 1)]
theorem xo250_0 : x_cOk prog_14_method_72_code xc250_0 = true := x_cOk_w (by decide +kernel)
def xg250 : Nat → Option (Instr × Nat) := fun pc => x_at2 pc xc250_0
theorem xh250 : x_Good prog_14_method_72_code xg250 := by
  unfold xg250
  exact x_Good_l xo250_0
def xm250 : XM := (⟨"TwoDigitsModel", "chip", "(II)I"⟩, prog_14_method_72_code, 3, some .int, 12, 12, 2, 0, 0, false, xg250)
def xc251_0 : List (Nat × Instr × Nat) := [(0, .iload_n 1, 1), (1, .iconst 0, 1), (2, .aload_n 0, 1), (3, .getfield 408, 3), (6, .iconst 1, 1), (7, .isub, 1), (8, .invokestatic 175, 3), (11, .ifCond .ne 5, 3), (14, .iconst (-1), 1), (15, .ireturn, 1), (16, .iload_n 2, 1), (17, .invokestatic 271, 3), (20, .ifCond .ne 6, 3), (23, .bipush (-2), 2), (25, .ireturn, 1), (26, .aload_n 0, 1), (27, .getfield 82, 3), (30, .iload_n 1, 1), (31, .iaload, 1), (32, .bipush 30, 2), (34, .if_icmp .ne 6, 3), (37, .bipush (-4), 2), (39, .ireturn, 1), (40, .aload_n 0, 1), (41, .getfield 85, 3), (44, .iload_n 1, 1), (45, .aaload, 1), (46, .aload_n 0, 1), (47, .getfield 82, 3), (50, .iload_n 1, 1), (51, .iaload, 1), (52, .iload_n 2, 1), (53, .iastore, 1), (54, .aload_n 0, 1), (55, .getfield 82, 3), (58, .iload_n 1, 1), (59, .dup2, 1), (60, .iaload, 1), (61, .iconst 1, 1), (62, .iadd, 1), (63, .iastore, 1), (64, .aload_n 0, 1), (65, .getfield 76, 3), (68, .iload_n 1, 1), (69, .iaload, 1), (70, .aload_n 0, 1), (71, .getfield 79, 3), (74, .iload_n 1, 1)]
theorem xo251_0 : x_cOk prog_14_method_74_code xc251_0 = true := x_cOk_w (by decide +kernel)
def xc251_1 : List (Nat × Instr × Nat) := [(75, .iaload, 1), (76, .iload_n 2, 1), (77, .invokestatic 411, 3), (80, .ireturn, 1)]
theorem xo251_1 : x_cOk prog_14_method_74_code xc251_1 = true := x_cOk_w (by decide +kernel)
def xg251 : Nat → Option (Instr × Nat) := fun pc => if pc < 75 then x_at2 pc xc251_0 else x_at2 pc xc251_1
theorem xh251 : x_Good prog_14_method_74_code xg251 := by
  unfold xg251
  exact x_Good_ite (x_Good_l xo251_0) (x_Good_l xo251_1)
def xm251 : XM := (⟨"TwoDigitsModel", "ask", "(II)I"⟩, prog_14_method_74_code, 3, some .int, 12, 12, 2, 0, 0, false, xg251)
def xc252_0 : List (Nat × Instr × Nat) := [(0, .iload_n 2, 1), (1, .bipush 100, 2), (3, .irem, 1), (4, .iconst 2, 1), (5, .iload_n 0, 1), (6, .invokestatic 278, 3), (9, .istore_n 3, 1), (10, .iconst 2, 1), (11, .iload_n 3, 1), (12, .imul, 1), (13, .iload_n 3, 1), (14, .iload_n 1, 1), (15, .invokestatic 274, 3), (18, .ifCond .eq 7, 3), (21, .iconst 1, 1), (22, .goto 4, 3), (25, .iconst 0, 1), (26, .iadd, 1), (27, .ireturn, 1)]
theorem xo252_0 : x_cOk prog_14_method_73_code xc252_0 = true := x_cOk_w (by decide +kernel)
def xg252 : Nat → Option (Instr × Nat) := fun pc => x_at2 pc xc252_0
theorem xh252 : x_Good prog_14_method_73_code xg252 := by
  unfold xg252
  exact x_Good_l xo252_0
def xm252 : XM := (⟨"TwoDigitsModel", "answer", "(III)I"⟩, prog_14_method_73_code, 4, some .int, 12, 12, 3, 0, 0, false, xg252)
def xc253_0 : List (Nat × Instr × Nat) := [(0, .iload_n 1, 1), (1, .iconst 0, 1), (2, .aload_n 0, 1), (3, .getfield 408, 3), (6, .iconst 1, 1), (7, .isub, 1), (8, .invokestatic 175, 3), (11, .ifCond .eq 12, 3), (14, .iload_n 2, 1), (15, .iconst 0, 1), (16, .iconst 3, 1), (17, .invokestatic 175, 3), (20, .ifCond .ne 5, 3), (23, .iconst (-1), 1), (24, .ireturn, 1), (25, .iconst 0, 1), (26, .istore_n 3, 1), (27, .iconst (-1), 1), (28, .istore 4, 2), (30, .sipush 302, 3), (33, .istore 5, 2), (35, .iload 5, 2), (37, .ifCond .lt 60, 3), (40, .aload_n 0, 1), (41, .getfield 165, 3), (44, .iload 5, 2), (46, .aload_n 0, 1), (47, .iload_n 1, 1), (48, .iload 5, 2), (50, .invokevirtual 417, 3), (53, .bastore, 1), (54, .iload_n 3, 1), (55, .aload_n 0, 1), (56, .getfield 165, 3), (59, .iload 5, 2), (61, .baload, 1), (62, .ifCond .eq 7, 3), (65, .iconst 1, 1), (66, .goto 4, 3), (69, .iconst 0, 1), (70, .iadd, 1), (71, .istore_n 3, 1), (72, .aload_n 0, 1), (73, .getfield 165, 3), (76, .iload 5, 2), (78, .baload, 1), (79, .ifCond .eq 8, 3), (82, .iload 5, 2)]
theorem xo253_0 : x_cOk prog_14_method_77_code xc253_0 = true := x_cOk_w (by decide +kernel)
def xc253_1 : List (Nat × Instr × Nat) := [(84, .goto 5, 3), (87, .iload 4, 2), (89, .istore 4, 2), (91, .iinc 5 (-1), 3), (94, .goto (-59), 3), (97, .iload_n 2, 1), (98, .iconst 2, 1), (99, .if_icmp .ge 14, 3), (102, .iload_n 2, 1), (103, .ifCond .ne 7, 3), (106, .iload_n 3, 1), (107, .goto 5, 3), (110, .iload 4, 2), (112, .ireturn, 1), (113, .sipush 1900, 3), (116, .istore 5, 2), (118, .aload_n 0, 1), (119, .sipush 1900, 3), (122, .invokevirtual 420, 3), (125, .istore 6, 2), (127, .sipush 1901, 3), (130, .istore 7, 2), (132, .iload 7, 2), (134, .sipush 2100, 3), (137, .if_icmp .ge 32, 3), (140, .aload_n 0, 1), (141, .iload 7, 2), (143, .invokevirtual 420, 3), (146, .istore 8, 2), (148, .iload 8, 2), (150, .iload 6, 2), (152, .if_icmp .ge 11, 3), (155, .iload 8, 2), (157, .istore 6, 2), (159, .iload 7, 2), (161, .istore 5, 2), (163, .iinc 7 1, 3), (166, .goto (-34), 3), (169, .iload_n 2, 1), (170, .iconst 2, 1), (171, .if_icmp .ne 8, 3), (174, .iload 5, 2), (176, .goto 5, 3), (179, .iload 6, 2), (181, .ireturn, 1)]
theorem xo253_1 : x_cOk prog_14_method_77_code xc253_1 = true := x_cOk_w (by decide +kernel)
def xg253 : Nat → Option (Instr × Nat) := fun pc => if pc < 84 then x_at2 pc xc253_0 else x_at2 pc xc253_1
theorem xh253 : x_Good prog_14_method_77_code xg253 := by
  unfold xg253
  exact x_Good_ite (x_Good_l xo253_0) (x_Good_l xo253_1)
def xm253 : XM := (⟨"TwoDigitsModel", "fit", "(II)I"⟩, prog_14_method_77_code, 9, some .int, 12, 12, 2, 400, 1600, false, xg253)
def xc254_0 : List (Nat × Instr × Nat) := [(0, .iconst 0, 1), (1, .istore_n 3, 1), (2, .iload_n 3, 1), (3, .aload_n 0, 1), (4, .getfield 82, 3), (7, .iload_n 1, 1), (8, .iaload, 1), (9, .if_icmp .ge 52, 3), (12, .aload_n 0, 1), (13, .getfield 85, 3), (16, .iload_n 1, 1), (17, .aaload, 1), (18, .iload_n 3, 1), (19, .iaload, 1), (20, .istore 4, 2), (22, .iload_n 2, 1), (23, .iconst 3, 1), (24, .idiv, 1), (25, .iload_n 2, 1), (26, .iconst 3, 1), (27, .irem, 1), (28, .iload 4, 2), (30, .invokestatic 411, 3), (33, .aload_n 0, 1), (34, .getfield 76, 3), (37, .iload_n 1, 1), (38, .iaload, 1), (39, .aload_n 0, 1), (40, .getfield 79, 3), (43, .iload_n 1, 1), (44, .iaload, 1), (45, .iload 4, 2), (47, .invokestatic 411, 3), (50, .if_icmp .eq 5, 3), (53, .iconst 0, 1), (54, .ireturn, 1), (55, .iinc 3 1, 3), (58, .goto (-56), 3), (61, .iconst 1, 1), (62, .ireturn, 1)]
theorem xo254_0 : x_cOk prog_14_method_75_code xc254_0 = true := x_cOk_w (by decide +kernel)
def xg254 : Nat → Option (Instr × Nat) := fun pc => x_at2 pc xc254_0
theorem xh254 : x_Good prog_14_method_75_code xg254 := by
  unfold xg254
  exact x_Good_l xo254_0
def xm254 : XM := (⟨"TwoDigitsModel", "fits", "(II)Z"⟩, prog_14_method_75_code, 5, some .boolean, 12, 12, 2, 0, 0, false, xg254)
def xc255_0 : List (Nat × Instr × Nat) := [(0, .iconst 2, 1), (1, .sipush 1900, 3), (4, .iload_n 1, 1), (5, .bipush 100, 2), (7, .irem, 1), (8, .iadd, 1), (9, .imul, 1), (10, .istore_n 2, 1), (11, .iconst 4, 1), (12, .newarray .int, 2), (14, .astore_n 3, 1), (15, .iconst 0, 1), (16, .istore 4, 2), (18, .iconst 0, 1), (19, .istore 5, 2), (21, .iload 5, 2), (23, .sipush 303, 3), (26, .if_icmp .ge 75, 3), (29, .aload_n 0, 1), (30, .getfield 165, 3), (33, .iload 5, 2), (35, .baload, 1), (36, .ifCond .eq 59, 3), (39, .iload 5, 2), (41, .iconst 3, 1), (42, .idiv, 1), (43, .iload 5, 2), (45, .iconst 3, 1), (46, .irem, 1), (47, .iload_n 1, 1), (48, .invokestatic 411, 3), (51, .iload_n 2, 1), (52, .isub, 1), (53, .istore 6, 2), (55, .iload 6, 2), (57, .iconst 2, 1), (58, .if_icmp .ge 8, 3), (61, .iload 6, 2), (63, .goto 11, 3), (66, .iconst 2, 1), (67, .iload 6, 2), (69, .iadd, 1), (70, .sipush 200, 3), (73, .isub, 1), (74, .istore 7, 2), (76, .aload_n 3, 1), (77, .iload 7, 2), (79, .dup2, 1)]
theorem xo255_0 : x_cOk prog_14_method_76_code xc255_0 = true := x_cOk_w (by decide +kernel)
def xc255_1 : List (Nat × Instr × Nat) := [(80, .iaload, 1), (81, .iconst 1, 1), (82, .iadd, 1), (83, .iastore, 1), (84, .iload 4, 2), (86, .aload_n 3, 1), (87, .iload 7, 2), (89, .iaload, 1), (90, .invokestatic 414, 3), (93, .istore 4, 2), (95, .iinc 5 1, 3), (98, .goto (-77), 3), (101, .iload 4, 2), (103, .ireturn, 1)]
theorem xo255_1 : x_cOk prog_14_method_76_code xc255_1 = true := x_cOk_w (by decide +kernel)
def xg255 : Nat → Option (Instr × Nat) := fun pc => if pc < 80 then x_at2 pc xc255_0 else x_at2 pc xc255_1
theorem xh255 : x_Good prog_14_method_76_code xg255 := by
  unfold xg255
  exact x_Good_ite (x_Good_l xo255_0) (x_Good_l xo255_1)
def xm255 : XM := (⟨"TwoDigitsModel", "alike", "(I)I"⟩, prog_14_method_76_code, 8, some .int, 12, 12, 1, 1, 4, false, xg255)
def xc256_0 : List (Nat × Instr × Nat) := [(0, .aload_n 0, 1), (1, .iload_n 1, 1), (2, .invokevirtual 326, 3), (5, .ifCond .eq 13, 3), (8, .iload 4, 2), (10, .iconst 0, 1), (11, .iconst 5, 1), (12, .invokestatic 175, 3), (15, .ifCond .ne 5, 3), (18, .iconst (-1), 1), (19, .ireturn, 1), (20, .iload_n 2, 1), (21, .invokestatic 371, 3), (24, .ifCond .eq 17, 3), (27, .iload 5, 2), (29, .invokestatic 371, 3), (32, .ifCond .eq 9, 3), (35, .iload 5, 2), (37, .iload_n 2, 1), (38, .if_icmp .ge 6, 3), (41, .bipush (-2), 2), (43, .ireturn, 1), (44, .aload_n 0, 1), (45, .getfield 423, 3), (48, .bipush 60, 2), (50, .if_icmp .ne 6, 3), (53, .bipush (-4), 2), (55, .ireturn, 1), (56, .aload_n 0, 1), (57, .getfield 88, 3), (60, .aload_n 0, 1), (61, .getfield 423, 3), (64, .aaload, 1), (65, .astore 6, 2), (67, .aload 6, 2), (69, .iconst 0, 1), (70, .iload_n 1, 1), (71, .iastore, 1), (72, .aload 6, 2), (74, .iconst 1, 1), (75, .iload_n 2, 1), (76, .iastore, 1), (77, .aload 6, 2), (79, .iconst 2, 1), (80, .iload_n 3, 1), (81, .ifCond .eq 7, 3), (84, .iconst 1, 1), (85, .goto 4, 3)]
theorem xo256_0 : x_cOk prog_14_method_78_code xc256_0 = true := x_cOk_w (by decide +kernel)
def xc256_1 : List (Nat × Instr × Nat) := [(88, .iconst 0, 1), (89, .iastore, 1), (90, .aload 6, 2), (92, .iconst 3, 1), (93, .iload 4, 2), (95, .iastore, 1), (96, .aload 6, 2), (98, .iconst 4, 1), (99, .iload 5, 2), (101, .iastore, 1), (102, .aload_n 0, 1), (103, .dup, 1), (104, .getfield 423, 3), (107, .dup_x1, 1), (108, .iconst 1, 1), (109, .iadd, 1), (110, .putfield 423, 3), (113, .ireturn, 1)]
theorem xo256_1 : x_cOk prog_14_method_78_code xc256_1 = true := x_cOk_w (by decide +kernel)
def xg256 : Nat → Option (Instr × Nat) := fun pc => if pc < 88 then x_at2 pc xc256_0 else x_at2 pc xc256_1
theorem xh256 : x_Good prog_14_method_78_code xg256 := by
  unfold xg256
  exact x_Good_ite (x_Good_l xo256_0) (x_Good_l xo256_1)
def xm256 : XM := (⟨"TwoDigitsModel", "sign", "(IIZII)I"⟩, prog_14_method_78_code, 7, some .int, 12, 12, 5, 0, 0, false, xg256)
def xc257_0 : List (Nat × Instr × Nat) := [(0, .aload_n 0, 1), (1, .iload_n 1, 1), (2, .invokevirtual 326, 3), (5, .ifCond .eq 19, 3), (8, .iload_n 2, 1), (9, .iconst 0, 1), (10, .iconst 5, 1), (11, .invokestatic 175, 3), (14, .ifCond .eq 10, 3), (17, .iload_n 3, 1), (18, .invokestatic 371, 3), (21, .ifCond .ne 6, 3), (24, .bipush (-5), 2), (26, .ireturn, 1), (27, .iconst (-1), 1), (28, .istore 4, 2), (30, .iconst 0, 1), (31, .istore 5, 2), (33, .iload 5, 2), (35, .aload_n 0, 1), (36, .getfield 423, 3), (39, .if_icmp .ge 90, 3), (42, .aload_n 0, 1), (43, .getfield 88, 3), (46, .iload 5, 2), (48, .aaload, 1), (49, .iconst 0, 1), (50, .iaload, 1), (51, .iload_n 1, 1), (52, .if_icmp .ne 33, 3), (55, .aload_n 0, 1), (56, .getfield 88, 3), (59, .iload 5, 2), (61, .aaload, 1), (62, .iconst 3, 1), (63, .iaload, 1), (64, .iload_n 2, 1), (65, .if_icmp .ne 20, 3), (68, .aload_n 0, 1), (69, .getfield 88, 3), (72, .iload 5, 2), (74, .aaload, 1), (75, .iconst 4, 1), (76, .iaload, 1), (77, .iload_n 3, 1), (78, .if_icmp .gt 7, 3), (81, .iconst 1, 1), (82, .goto 4, 3)]
theorem xo257_0 : x_cOk prog_14_method_79_code xc257_0 = true := x_cOk_w (by decide +kernel)
def xc257_1 : List (Nat × Instr × Nat) := [(85, .iconst 0, 1), (86, .istore 6, 2), (88, .iload 6, 2), (90, .ifCond .eq 33, 3), (93, .iload 4, 2), (95, .ifCond .lt 24, 3), (98, .aload_n 0, 1), (99, .getfield 88, 3), (102, .iload 5, 2), (104, .aaload, 1), (105, .iconst 1, 1), (106, .iaload, 1), (107, .aload_n 0, 1), (108, .getfield 88, 3), (111, .iload 4, 2), (113, .aaload, 1), (114, .iconst 1, 1), (115, .iaload, 1), (116, .if_icmp .lt 7, 3), (119, .iload 5, 2), (121, .istore 4, 2), (123, .iinc 5 1, 3), (126, .goto (-93), 3), (129, .iload 4, 2), (131, .ifCond .ge 7, 3), (134, .iconst (-1), 1), (135, .goto 12, 3), (138, .aload_n 0, 1), (139, .getfield 88, 3), (142, .iload 4, 2), (144, .aaload, 1), (145, .iconst 2, 1), (146, .iaload, 1), (147, .ireturn, 1)]
theorem xo257_1 : x_cOk prog_14_method_79_code xc257_1 = true := x_cOk_w (by decide +kernel)
def xg257 : Nat → Option (Instr × Nat) := fun pc => if pc < 85 then x_at2 pc xc257_0 else x_at2 pc xc257_1
theorem xh257 : x_Good prog_14_method_79_code xg257 := by
  unfold xg257
  exact x_Good_ite (x_Good_l xo257_0) (x_Good_l xo257_1)
def xm257 : XM := (⟨"TwoDigitsModel", "knew", "(III)I"⟩, prog_14_method_79_code, 7, some .int, 12, 12, 3, 0, 0, false, xg257)
def xc258_0 : List (Nat × Instr × Nat) := [(0, .iload_n 1, 1), (1, .iconst 0, 1), (2, .bipush 99, 2), (4, .invokestatic 175, 3), (7, .ifCond .eq 35, 3), (10, .iload_n 2, 1), (11, .iconst 0, 1), (12, .sipush 899, 3), (15, .invokestatic 175, 3), (18, .ifCond .eq 24, 3), (21, .iload_n 3, 1), (22, .iconst 1, 1), (23, .bipush 99, 2), (25, .invokestatic 175, 3), (28, .ifCond .eq 14, 3), (31, .iload 4, 2), (33, .iconst 0, 1), (34, .bipush 99, 2), (36, .invokestatic 175, 3), (39, .ifCond .ne 6, 3), (42, .bipush (-2), 2), (44, .ireturn, 1), (45, .aload_n 0, 1), (46, .getfield 426, 3), (49, .bipush 8, 2), (51, .if_icmp .ne 6, 3), (54, .bipush (-4), 2), (56, .ireturn, 1), (57, .aload_n 0, 1), (58, .getfield 97, 3), (61, .aload_n 0, 1), (62, .getfield 426, 3), (65, .aaload, 1), (66, .iconst 0, 1), (67, .iload_n 1, 1), (68, .iastore, 1), (69, .aload_n 0, 1), (70, .getfield 97, 3), (73, .aload_n 0, 1), (74, .getfield 426, 3), (77, .aaload, 1), (78, .iconst 1, 1), (79, .iload_n 2, 1), (80, .iastore, 1), (81, .aload_n 0, 1), (82, .getfield 97, 3), (85, .aload_n 0, 1), (86, .getfield 426, 3)]
theorem xo258_0 : x_cOk prog_14_method_80_code xc258_0 = true := x_cOk_w (by decide +kernel)
def xc258_1 : List (Nat × Instr × Nat) := [(89, .aaload, 1), (90, .iconst 2, 1), (91, .iload_n 3, 1), (92, .iastore, 1), (93, .aload_n 0, 1), (94, .getfield 97, 3), (97, .aload_n 0, 1), (98, .getfield 426, 3), (101, .aaload, 1), (102, .iconst 3, 1), (103, .iload 4, 2), (105, .iastore, 1), (106, .aload_n 0, 1), (107, .dup, 1), (108, .getfield 426, 3), (111, .dup_x1, 1), (112, .iconst 1, 1), (113, .iadd, 1), (114, .putfield 426, 3), (117, .ireturn, 1)]
theorem xo258_1 : x_cOk prog_14_method_80_code xc258_1 = true := x_cOk_w (by decide +kernel)
def xg258 : Nat → Option (Instr × Nat) := fun pc => if pc < 89 then x_at2 pc xc258_0 else x_at2 pc xc258_1
theorem xh258 : x_Good prog_14_method_80_code xg258 := by
  unfold xg258
  exact x_Good_ite (x_Good_l xo258_0) (x_Good_l xo258_1)
def xm258 : XM := (⟨"TwoDigitsModel", "stop", "(IIII)I"⟩, prog_14_method_80_code, 5, some .int, 12, 12, 4, 0, 0, false, xg258)
end XCode7
end
section
/-! Instructions, by program: part 8. -/
section XCode8
def xc259_0 : List (Nat × Instr × Nat) := [(0, .iload_n 2, 1), (1, .iconst 0, 1), (2, .iconst 4, 1), (3, .invokestatic 175, 3), (6, .ifCond .ne 5, 3), (9, .iconst (-1), 1), (10, .ireturn, 1), (11, .iload_n 1, 1), (12, .iconst 1, 1), (13, .iconst 3, 1), (14, .invokestatic 175, 3), (17, .ifCond .ne 6, 3), (20, .bipush (-2), 2), (22, .ireturn, 1), (23, .iload_n 2, 1), (24, .iconst 1, 1), (25, .iload_n 1, 1), (26, .iadd, 1), (27, .if_icmp .le 5, 3), (30, .iconst (-1), 1), (31, .ireturn, 1), (32, .aload_n 0, 1), (33, .iload_n 1, 1), (34, .invokevirtual 435, 3), (37, .iconst 0, 1), (38, .istore_n 3, 1), (39, .iconst 0, 1), (40, .istore 4, 2), (42, .iconst 0, 1), (43, .istore 5, 2), (45, .iload 5, 2), (47, .iconst 1, 1), (48, .aload_n 0, 1), (49, .getfield 426, 3), (52, .ishl, 1), (53, .if_icmp .ge 85, 3), (56, .iconst 0, 1), (57, .istore 6, 2), (59, .iconst 0, 1), (60, .istore 7, 2), (62, .iload 7, 2), (64, .aload_n 0, 1), (65, .getfield 426, 3), (68, .if_icmp .ge 38, 3), (71, .iload 6, 2), (73, .iload 5, 2), (75, .iload 7, 2), (77, .ishr, 1)]
theorem xo259_0 : x_cOk prog_14_method_83_code xc259_0 = true := x_cOk_w (by decide +kernel)
def xc259_1 : List (Nat × Instr × Nat) := [(78, .iconst 1, 1), (79, .iand, 1), (80, .iconst 1, 1), (81, .if_icmp .ne 15, 3), (84, .aload_n 0, 1), (85, .getfield 97, 3), (88, .iload 7, 2), (90, .aaload, 1), (91, .iconst 3, 1), (92, .iaload, 1), (93, .goto 4, 3), (96, .iconst 0, 1), (97, .iadd, 1), (98, .istore 6, 2), (100, .iinc 7 1, 3), (103, .goto (-41), 3), (106, .aload_n 0, 1), (107, .getfield 168, 3), (110, .iload_n 1, 1), (111, .aaload, 1), (112, .iload 5, 2), (114, .baload, 1), (115, .ifCond .eq 17, 3), (118, .iload 6, 2), (120, .iload 4, 2), (122, .if_icmp .le 10, 3), (125, .iload 6, 2), (127, .istore 4, 2), (129, .iload 5, 2), (131, .istore_n 3, 1), (132, .iinc 5 1, 3), (135, .goto (-90), 3), (138, .iload_n 2, 1), (139, .iconst 2, 1), (140, .if_icmp .ge 14, 3), (143, .iload_n 2, 1), (144, .ifCond .ne 8, 3), (147, .iload 4, 2), (149, .goto 4, 3), (152, .iload_n 3, 1), (153, .ireturn, 1), (154, .iload_n 3, 1), (155, .istore 5, 2), (157, .iconst 0, 1), (158, .istore 6, 2), (160, .iload 5, 2), (162, .istore 7, 2), (164, .iload 7, 2)]
theorem xo259_1 : x_cOk prog_14_method_83_code xc259_1 = true := x_cOk_w (by decide +kernel)
def xc259_2 : List (Nat × Instr × Nat) := [(166, .iload 5, 2), (168, .iconst (-1), 1), (169, .ixor, 1), (170, .iand, 1), (171, .ifCond .ne 37, 3), (174, .aload_n 0, 1), (175, .getfield 168, 3), (178, .iconst 1, 1), (179, .aaload, 1), (180, .iload 7, 2), (182, .baload, 1), (183, .ifCond .eq 25, 3), (186, .aload_n 0, 1), (187, .getfield 168, 3), (190, .iload_n 1, 1), (191, .iconst 1, 1), (192, .isub, 1), (193, .iload 6, 2), (195, .isub, 1), (196, .aaload, 1), (197, .iload 5, 2), (199, .iload 7, 2), (201, .iconst (-1), 1), (202, .ixor, 1), (203, .iand, 1), (204, .baload, 1), (205, .ifCond .ne 9, 3), (208, .iinc 7 (-1), 3), (211, .goto (-47), 3), (214, .iload 6, 2), (216, .iload_n 2, 1), (217, .iconst 2, 1), (218, .isub, 1), (219, .if_icmp .ne 6, 3), (222, .iload 7, 2), (224, .ireturn, 1), (225, .iload 5, 2), (227, .iload 7, 2), (229, .iconst (-1), 1), (230, .ixor, 1), (231, .iand, 1), (232, .istore 5, 2), (234, .iinc 6 1, 3), (237, .goto (-77), 3)]
theorem xo259_2 : x_cOk prog_14_method_83_code xc259_2 = true := x_cOk_w (by decide +kernel)
def xg259 : Nat → Option (Instr × Nat) := fun pc => if pc < 78 then x_at2 pc xc259_0 else if pc < 166 then x_at2 pc xc259_1 else x_at2 pc xc259_2
theorem xh259 : x_Good prog_14_method_83_code xg259 := by
  unfold xg259
  exact x_Good_ite (x_Good_l xo259_0) (x_Good_ite (x_Good_l xo259_1) (x_Good_l xo259_2))
def xm259 : XM := (⟨"TwoDigitsModel", "posts", "(II)I"⟩, prog_14_method_83_code, 8, some .int, 12, 12, 2, 0, 0, false, xg259)
def xc260_0 : List (Nat × Instr × Nat) := [(0, .iconst 0, 1), (1, .istore_n 2, 1), (2, .iload_n 2, 1), (3, .iconst 1, 1), (4, .aload_n 0, 1), (5, .getfield 426, 3), (8, .ishl, 1), (9, .if_icmp .ge 39, 3), (12, .aload_n 0, 1), (13, .getfield 168, 3), (16, .iconst 0, 1), (17, .aaload, 1), (18, .iload_n 2, 1), (19, .iload_n 2, 1), (20, .ifCond .ne 7, 3), (23, .iconst 1, 1), (24, .goto 4, 3), (27, .iconst 0, 1), (28, .bastore, 1), (29, .aload_n 0, 1), (30, .getfield 168, 3), (33, .iconst 1, 1), (34, .aaload, 1), (35, .iload_n 2, 1), (36, .aload_n 0, 1), (37, .iload_n 2, 1), (38, .invokevirtual 432, 3), (41, .bastore, 1), (42, .iinc 2 1, 3), (45, .goto (-43), 3), (48, .iconst 2, 1), (49, .istore_n 2, 1), (50, .iload_n 2, 1), (51, .iload_n 1, 1), (52, .if_icmp .gt 113, 3), (55, .iconst 0, 1), (56, .istore_n 3, 1), (57, .iload_n 3, 1), (58, .iconst 1, 1), (59, .aload_n 0, 1), (60, .getfield 426, 3), (63, .ishl, 1), (64, .if_icmp .ge 95, 3), (67, .aload_n 0, 1), (68, .getfield 168, 3), (71, .iload_n 2, 1), (72, .aaload, 1), (73, .iload_n 3, 1)]
theorem xo260_0 : x_cOk prog_14_method_82_code xc260_0 = true := x_cOk_w (by decide +kernel)
def xc260_1 : List (Nat × Instr × Nat) := [(74, .iconst 0, 1), (75, .bastore, 1), (76, .iload_n 3, 1), (77, .istore 4, 2), (79, .iload 4, 2), (81, .ifCond .lt 72, 3), (84, .aload_n 0, 1), (85, .getfield 168, 3), (88, .iload_n 2, 1), (89, .aaload, 1), (90, .iload_n 3, 1), (91, .baload, 1), (92, .ifCond .ne 61, 3), (95, .aload_n 0, 1), (96, .getfield 168, 3), (99, .iload_n 2, 1), (100, .aaload, 1), (101, .iload_n 3, 1), (102, .iload 4, 2), (104, .iload_n 3, 1), (105, .iconst (-1), 1), (106, .ixor, 1), (107, .iand, 1), (108, .ifCond .ne 37, 3), (111, .aload_n 0, 1), (112, .getfield 168, 3), (115, .iconst 1, 1), (116, .aaload, 1), (117, .iload 4, 2), (119, .baload, 1), (120, .ifCond .eq 25, 3), (123, .aload_n 0, 1), (124, .getfield 168, 3), (127, .iload_n 2, 1), (128, .iconst 1, 1), (129, .isub, 1), (130, .aaload, 1), (131, .iload_n 3, 1), (132, .iload 4, 2), (134, .iconst (-1), 1), (135, .ixor, 1), (136, .iand, 1), (137, .baload, 1), (138, .ifCond .eq 7, 3), (141, .iconst 1, 1), (142, .goto 4, 3), (145, .iconst 0, 1), (146, .bastore, 1)]
theorem xo260_1 : x_cOk prog_14_method_82_code xc260_1 = true := x_cOk_w (by decide +kernel)
def xc260_2 : List (Nat × Instr × Nat) := [(147, .iinc 4 (-1), 3), (150, .goto (-71), 3), (153, .iinc 3 1, 3), (156, .goto (-99), 3), (159, .iinc 2 1, 3), (162, .goto (-112), 3), (165, .return_, 1)]
theorem xo260_2 : x_cOk prog_14_method_82_code xc260_2 = true := x_cOk_w (by decide +kernel)
def xg260 : Nat → Option (Instr × Nat) := fun pc => if pc < 74 then x_at2 pc xc260_0 else if pc < 147 then x_at2 pc xc260_1 else x_at2 pc xc260_2
theorem xh260 : x_Good prog_14_method_82_code xg260 := by
  unfold xg260
  exact x_Good_ite (x_Good_l xo260_0) (x_Good_ite (x_Good_l xo260_1) (x_Good_l xo260_2))
def xm260 : XM := (⟨"TwoDigitsModel", "findPosts", "(I)V"⟩, prog_14_method_82_code, 5, none, 12, 12, 1, 0, 0, false, xg260)
def xc261_0 : List (Nat × Instr × Nat) := [(0, .iconst 0, 1), (1, .istore_n 2, 1), (2, .iconst 0, 1), (3, .istore_n 3, 1), (4, .iload_n 1, 1), (5, .istore 4, 2), (7, .iload 4, 2), (9, .ifCond .eq 156, 3), (12, .iconst (-1), 1), (13, .istore 5, 2), (15, .iconst 0, 1), (16, .istore 6, 2), (18, .iload 6, 2), (20, .aload_n 0, 1), (21, .getfield 426, 3), (24, .if_icmp .ge 67, 3), (27, .iload 4, 2), (29, .iload 6, 2), (31, .ishr, 1), (32, .iconst 1, 1), (33, .iand, 1), (34, .iconst 1, 1), (35, .if_icmp .ne 7, 3), (38, .iconst 1, 1), (39, .goto 4, 3), (42, .iconst 0, 1), (43, .istore 7, 2), (45, .iload 7, 2), (47, .ifCond .eq 34, 3), (50, .iload 5, 2), (52, .ifCond .lt 24, 3), (55, .aload_n 0, 1), (56, .getfield 97, 3), (59, .iload 6, 2), (61, .aaload, 1), (62, .iconst 1, 1), (63, .iaload, 1), (64, .aload_n 0, 1), (65, .getfield 97, 3), (68, .iload 5, 2), (70, .aaload, 1), (71, .iconst 1, 1), (72, .iaload, 1), (73, .if_icmp .ge 8, 3), (76, .iload 6, 2), (78, .goto 5, 3), (81, .iload 5, 2), (83, .istore 5, 2)]
theorem xo261_0 : x_cOk prog_14_method_81_code xc261_0 = true := x_cOk_w (by decide +kernel)
def xc261_1 : List (Nat × Instr × Nat) := [(85, .iinc 6 1, 3), (88, .goto (-70), 3), (91, .iload_n 3, 1), (92, .aload_n 0, 1), (93, .getfield 97, 3), (96, .iload 5, 2), (98, .aaload, 1), (99, .iconst 0, 1), (100, .iaload, 1), (101, .iload_n 2, 1), (102, .isub, 1), (103, .invokestatic 429, 3), (106, .iadd, 1), (107, .aload_n 0, 1), (108, .getfield 97, 3), (111, .iload 5, 2), (113, .aaload, 1), (114, .iconst 1, 1), (115, .iaload, 1), (116, .if_icmp .le 5, 3), (119, .iconst 0, 1), (120, .ireturn, 1), (121, .aload_n 0, 1), (122, .getfield 97, 3), (125, .iload 5, 2), (127, .aaload, 1), (128, .iconst 0, 1), (129, .iaload, 1), (130, .istore_n 2, 1), (131, .aload_n 0, 1), (132, .getfield 97, 3), (135, .iload 5, 2), (137, .aaload, 1), (138, .iconst 1, 1), (139, .iaload, 1), (140, .aload_n 0, 1), (141, .getfield 97, 3), (144, .iload 5, 2), (146, .aaload, 1), (147, .iconst 2, 1), (148, .iaload, 1), (149, .iadd, 1), (150, .istore_n 3, 1), (151, .iload 4, 2), (153, .iconst 1, 1), (154, .iload 5, 2), (156, .ishl, 1), (157, .iconst (-1), 1)]
theorem xo261_1 : x_cOk prog_14_method_81_code xc261_1 = true := x_cOk_w (by decide +kernel)
def xc261_2 : List (Nat × Instr × Nat) := [(158, .ixor, 1), (159, .iand, 1), (160, .istore 4, 2), (162, .goto (-155), 3), (165, .iconst 1, 1), (166, .ireturn, 1)]
theorem xo261_2 : x_cOk prog_14_method_81_code xc261_2 = true := x_cOk_w (by decide +kernel)
def xg261 : Nat → Option (Instr × Nat) := fun pc => if pc < 85 then x_at2 pc xc261_0 else if pc < 158 then x_at2 pc xc261_1 else x_at2 pc xc261_2
theorem xh261 : x_Good prog_14_method_81_code xg261 := by
  unfold xg261
  exact x_Good_ite (x_Good_l xo261_0) (x_Good_ite (x_Good_l xo261_1) (x_Good_l xo261_2))
def xm261 : XM := (⟨"TwoDigitsModel", "meets", "(I)Z"⟩, prog_14_method_81_code, 8, some .boolean, 12, 12, 1, 0, 0, false, xg261)
def xc262_0 : List (Nat × Instr × Nat) := [(0, .iload_n 1, 1), (1, .iconst 0, 1), (2, .bipush 6, 2), (4, .invokestatic 175, 3), (7, .ifCond .eq 13, 3), (10, .iload_n 2, 1), (11, .iconst 0, 1), (12, .bipush 99, 2), (14, .invokestatic 175, 3), (17, .ifCond .ne 6, 3), (20, .bipush (-2), 2), (22, .ireturn, 1), (23, .aload_n 0, 1), (24, .getfield 438, 3), (27, .bipush 40, 2), (29, .if_icmp .ne 6, 3), (32, .bipush (-4), 2), (34, .ireturn, 1), (35, .aload_n 0, 1), (36, .getfield 100, 3), (39, .aload_n 0, 1), (40, .getfield 438, 3), (43, .iload_n 1, 1), (44, .iastore, 1), (45, .aload_n 0, 1), (46, .getfield 103, 3), (49, .aload_n 0, 1), (50, .getfield 438, 3), (53, .iload_n 2, 1), (54, .iastore, 1), (55, .aload_n 0, 1), (56, .dup, 1), (57, .getfield 438, 3), (60, .dup_x1, 1), (61, .iconst 1, 1), (62, .iadd, 1), (63, .putfield 438, 3), (66, .ireturn, 1)]
theorem xo262_0 : x_cOk prog_14_method_84_code xc262_0 = true := x_cOk_w (by decide +kernel)
def xg262 : Nat → Option (Instr × Nat) := fun pc => x_at2 pc xc262_0
theorem xh262 : x_Good prog_14_method_84_code xg262 := by
  unfold xg262
  exact x_Good_l xo262_0
def xm262 : XM := (⟨"TwoDigitsModel", "thing", "(II)I"⟩, prog_14_method_84_code, 3, some .int, 12, 12, 2, 0, 0, false, xg262)
def xc263_0 : List (Nat × Instr × Nat) := [(0, .aload_n 0, 1), (1, .iconst 0, 1), (2, .putfield 447, 3), (5, .aload_n 0, 1), (6, .iload_n 1, 1), (7, .invokevirtual 453, 3), (10, .ifCond .eq 28, 3), (13, .iload_n 2, 1), (14, .iconst 0, 1), (15, .iconst 2, 1), (16, .invokestatic 175, 3), (19, .ifCond .eq 19, 3), (22, .aload_n 0, 1), (23, .iload_n 1, 1), (24, .aload_n 0, 1), (25, .getfield 100, 3), (28, .iload_n 1, 1), (29, .iaload, 1), (30, .iload_n 2, 1), (31, .iload_n 3, 1), (32, .invokevirtual 450, 3), (35, .goto 4, 3), (38, .iconst 0, 1), (39, .ireturn, 1)]
theorem xo263_0 : x_cOk prog_14_method_89_code xc263_0 = true := x_cOk_w (by decide +kernel)
def xg263 : Nat → Option (Instr × Nat) := fun pc => x_at2 pc xc263_0
theorem xh263 : x_Good prog_14_method_89_code xg263 := by
  unfold xg263
  exact x_Good_l xo263_0
def xm263 : XM := (⟨"TwoDigitsModel", "act", "(III)I"⟩, prog_14_method_89_code, 4, some .int, 12, 12, 3, 0, 0, false, xg263)
def xc264_0 : List (Nat × Instr × Nat) := [(0, .iload_n 1, 1), (1, .iconst 0, 1), (2, .aload_n 0, 1), (3, .getfield 438, 3), (6, .iconst 1, 1), (7, .isub, 1), (8, .invokestatic 175, 3), (11, .ireturn, 1)]
theorem xo264_0 : x_cOk prog_14_method_85_code xc264_0 = true := x_cOk_w (by decide +kernel)
def xg264 : Nat → Option (Instr × Nat) := fun pc => x_at2 pc xc264_0
theorem xh264 : x_Good prog_14_method_85_code xg264 := by
  unfold xg264
  exact x_Good_l xo264_0
def xm264 : XM := (⟨"TwoDigitsModel", "isThing", "(I)Z"⟩, prog_14_method_85_code, 2, some .boolean, 12, 12, 1, 0, 0, false, xg264)
def xc265_0 : List (Nat × Instr × Nat) := [(0, .iload_n 2, 1), (1, .istore 5, 2), (3, .iload 5, 2), (5, .iload_n 3, 1), (6, .invokestatic 441, 3), (9, .ifCond .ne 13, 3), (12, .iload 5, 2), (14, .invokestatic 444, 3), (17, .istore 5, 2), (19, .goto (-16), 3), (22, .iload 5, 2), (24, .iload_n 3, 1), (25, .invokestatic 441, 3), (28, .istore 6, 2), (30, .aload_n 0, 1), (31, .getfield 447, 3), (34, .bipush 20, 2), (36, .if_icmp .ge 14, 3), (39, .aload_n 0, 1), (40, .getfield 115, 3), (43, .aload_n 0, 1), (44, .getfield 447, 3), (47, .iload 6, 2), (49, .iastore, 1), (50, .aload_n 0, 1), (51, .dup, 1), (52, .getfield 447, 3), (55, .iconst 1, 1), (56, .iadd, 1), (57, .putfield 447, 3), (60, .iload 6, 2), (62, .lookupswitch 248 #[(10, 82), (11, 92), (12, 109), (20, 145), (30, 162), (40, 178), (50, 194), (60, 215), (61, 232)], 82), (144, .iload 4, 2), (146, .aload_n 0, 1), (147, .getfield 103, 3), (150, .iload_n 1, 1), (151, .iaload, 1), (152, .iadd, 1), (153, .ireturn, 1), (154, .aload_n 0, 1), (155, .iload_n 1, 1), (156, .aload_n 0, 1), (157, .getfield 100, 3), (160, .iload_n 1, 1), (161, .iaload, 1), (162, .iconst 0, 1), (163, .iload 4, 2), (165, .invokevirtual 450, 3)]
theorem xo265_0 : x_cOk prog_14_method_88_code xc265_0 = true := x_cOk_w (by decide +kernel)
def xc265_1 : List (Nat × Instr × Nat) := [(168, .iconst 2, 1), (169, .imul, 1), (170, .ireturn, 1), (171, .aload_n 0, 1), (172, .iload_n 1, 1), (173, .aload_n 0, 1), (174, .getfield 100, 3), (177, .iload_n 1, 1), (178, .iaload, 1), (179, .iconst 1, 1), (180, .iload 4, 2), (182, .invokevirtual 450, 3), (185, .istore 7, 2), (187, .iload 7, 2), (189, .aload_n 0, 1), (190, .iload_n 1, 1), (191, .aload_n 0, 1), (192, .getfield 100, 3), (195, .iload_n 1, 1), (196, .iaload, 1), (197, .iconst 0, 1), (198, .iload 4, 2), (200, .iload_n 1, 1), (201, .iadd, 1), (202, .invokevirtual 450, 3), (205, .ixor, 1), (206, .ireturn, 1), (207, .aload_n 0, 1), (208, .iload_n 1, 1), (209, .iload 5, 2), (211, .invokestatic 444, 3), (214, .iconst 0, 1), (215, .iload 4, 2), (217, .invokevirtual 450, 3), (220, .bipush 10, 2), (222, .imul, 1), (223, .ireturn, 1), (224, .aload_n 0, 1), (225, .iload_n 1, 1), (226, .iload 5, 2), (228, .invokestatic 444, 3), (231, .iconst 1, 1), (232, .iload 4, 2), (234, .invokevirtual 450, 3), (237, .iload_n 1, 1), (238, .iadd, 1), (239, .ireturn, 1), (240, .aload_n 0, 1)]
theorem xo265_1 : x_cOk prog_14_method_88_code xc265_1 = true := x_cOk_w (by decide +kernel)
def xc265_2 : List (Nat × Instr × Nat) := [(241, .iload_n 1, 1), (242, .iload 5, 2), (244, .invokestatic 444, 3), (247, .iconst 2, 1), (248, .iload 4, 2), (250, .iconst 1, 1), (251, .isub, 1), (252, .invokevirtual 450, 3), (255, .ireturn, 1), (256, .aload_n 0, 1), (257, .iload_n 1, 1), (258, .iload 5, 2), (260, .invokestatic 444, 3), (263, .iconst 1, 1), (264, .iload 4, 2), (266, .invokevirtual 450, 3), (269, .aload_n 0, 1), (270, .getfield 103, 3), (273, .iload_n 1, 1), (274, .iaload, 1), (275, .isub, 1), (276, .ireturn, 1), (277, .aload_n 0, 1), (278, .iload_n 1, 1), (279, .iload 5, 2), (281, .invokestatic 444, 3), (284, .iconst 0, 1), (285, .iload 4, 2), (287, .invokevirtual 450, 3), (290, .bipush 19, 2), (292, .isub, 1), (293, .ireturn, 1), (294, .aload_n 0, 1), (295, .iload_n 1, 1), (296, .iload 5, 2), (298, .invokestatic 444, 3), (301, .iconst 2, 1), (302, .iload 4, 2), (304, .invokevirtual 450, 3), (307, .iconst 2, 1), (308, .iadd, 1), (309, .ireturn, 1), (310, .aload_n 0, 1), (311, .iload_n 1, 1), (312, .iload 5, 2), (314, .invokestatic 444, 3), (317, .iconst 1, 1), (318, .iload 4, 2)]
theorem xo265_2 : x_cOk prog_14_method_88_code xc265_2 = true := x_cOk_w (by decide +kernel)
def xc265_3 : List (Nat × Instr × Nat) := [(320, .invokevirtual 450, 3), (323, .iconst 3, 1), (324, .ixor, 1), (325, .ireturn, 1)]
theorem xo265_3 : x_cOk prog_14_method_88_code xc265_3 = true := x_cOk_w (by decide +kernel)
def xg265 : Nat → Option (Instr × Nat) := fun pc => if pc < 168 then x_at2 pc xc265_0 else if pc < 241 then x_at2 pc xc265_1 else if pc < 320 then x_at2 pc xc265_2 else x_at2 pc xc265_3
theorem xh265 : x_Good prog_14_method_88_code xg265 := by
  unfold xg265
  exact x_Good_ite (x_Good_l xo265_0) (x_Good_ite (x_Good_l xo265_1) (x_Good_ite (x_Good_l xo265_2) (x_Good_l xo265_3)))
def xm265 : XM := (⟨"TwoDigitsModel", "body", "(IIII)I"⟩, prog_14_method_88_code, 8, some .int, 12, 12, 4, 0, 0, false, xg265)
def xc266_0 : List (Nat × Instr × Nat) := [(0, .bipush 10, 2), (2, .iload_n 0, 1), (3, .imul, 1), (4, .iload_n 1, 1), (5, .iadd, 1), (6, .lookupswitch 120 #[(0, 90), (1, 93), (2, 96), (10, 99), (21, 102), (32, 105), (41, 108), (50, 111), (52, 114), (61, 117)], 90), (96, .bipush 10, 2), (98, .ireturn, 1), (99, .bipush 11, 2), (101, .ireturn, 1), (102, .bipush 12, 2), (104, .ireturn, 1), (105, .bipush 20, 2), (107, .ireturn, 1), (108, .bipush 30, 2), (110, .ireturn, 1), (111, .bipush 40, 2), (113, .ireturn, 1), (114, .bipush 50, 2), (116, .ireturn, 1), (117, .bipush 60, 2), (119, .ireturn, 1), (120, .bipush 61, 2), (122, .ireturn, 1), (123, .bipush 70, 2), (125, .ireturn, 1), (126, .iconst 0, 1), (127, .ireturn, 1)]
theorem xo266_0 : x_cOk prog_14_method_87_code xc266_0 = true := x_cOk_w (by decide +kernel)
def xg266 : Nat → Option (Instr × Nat) := fun pc => x_at2 pc xc266_0
theorem xh266 : x_Good prog_14_method_87_code xg266 := by
  unfold xg266
  exact x_Good_l xo266_0
def xm266 : XM := (⟨"TwoDigitsModel", "bodyOf", "(II)I"⟩, prog_14_method_87_code, 2, some .int, 12, 12, 2, 0, 0, false, xg266)
def xc267_0 : List (Nat × Instr × Nat) := [(0, .iload_n 0, 1), (1, .ifCond .ne 7, 3), (4, .iconst (-1), 1), (5, .goto 23, 3), (8, .iload_n 0, 1), (9, .iconst 5, 1), (10, .if_icmp .ne 7, 3), (13, .iconst 1, 1), (14, .goto 14, 3), (17, .iload_n 0, 1), (18, .bipush 6, 2), (20, .if_icmp .ne 7, 3), (23, .iconst 2, 1), (24, .goto 4, 3), (27, .iconst 0, 1), (28, .ireturn, 1)]
theorem xo267_0 : x_cOk prog_14_method_86_code xc267_0 = true := x_cOk_w (by decide +kernel)
def xg267 : Nat → Option (Instr × Nat) := fun pc => x_at2 pc xc267_0
theorem xh267 : x_Good prog_14_method_86_code xg267 := by
  unfold xg267
  exact x_Good_l xo267_0
def xm267 : XM := (⟨"TwoDigitsModel", "above", "(I)I"⟩, prog_14_method_86_code, 1, some .int, 12, 12, 1, 0, 0, false, xg267)
def xc268_0 : List (Nat × Instr × Nat) := [(0, .iload_n 1, 1), (1, .iconst 0, 1), (2, .aload_n 0, 1), (3, .getfield 447, 3), (6, .bipush 20, 2), (8, .invokestatic 383, 3), (11, .iconst 1, 1), (12, .isub, 1), (13, .invokestatic 175, 3), (16, .ifCond .eq 12, 3), (19, .aload_n 0, 1), (20, .getfield 115, 3), (23, .iload_n 1, 1), (24, .iaload, 1), (25, .goto 4, 3), (28, .iconst (-1), 1), (29, .ireturn, 1)]
theorem xo268_0 : x_cOk prog_14_method_90_code xc268_0 = true := x_cOk_w (by decide +kernel)
def xg268 : Nat → Option (Instr × Nat) := fun pc => x_at2 pc xc268_0
theorem xh268 : x_Good prog_14_method_90_code xg268 := by
  unfold xg268
  exact x_Good_l xo268_0
def xm268 : XM := (⟨"TwoDigitsModel", "trace", "(I)I"⟩, prog_14_method_90_code, 2, some .int, 12, 12, 1, 0, 0, false, xg268)
def xc269_0 : List (Nat × Instr × Nat) := [(0, .iload_n 2, 1), (1, .iconst 0, 1), (2, .bipush 6, 2), (4, .invokestatic 175, 3), (7, .ifCond .ne 6, 3), (10, .bipush (-2), 2), (12, .ireturn, 1), (13, .aload_n 0, 1), (14, .iload_n 1, 1), (15, .invokevirtual 453, 3), (18, .ifCond .ne 6, 3), (21, .bipush (-11), 2), (23, .ireturn, 1), (24, .aload_n 0, 1), (25, .getfield 100, 3), (28, .iload_n 1, 1), (29, .iaload, 1), (30, .istore_n 3, 1), (31, .iload_n 3, 1), (32, .ifCond .lt 23, 3), (35, .iload_n 3, 1), (36, .iload_n 2, 1), (37, .if_icmp .ne 10, 3), (40, .aload_n 0, 1), (41, .getfield 100, 3), (44, .iload_n 1, 1), (45, .iaload, 1), (46, .ireturn, 1), (47, .iload_n 3, 1), (48, .invokestatic 444, 3), (51, .istore_n 3, 1), (52, .goto (-21), 3), (55, .bipush (-13), 2), (57, .ireturn, 1)]
theorem xo269_0 : x_cOk prog_14_method_91_code xc269_0 = true := x_cOk_w (by decide +kernel)
def xg269 : Nat → Option (Instr × Nat) := fun pc => x_at2 pc xc269_0
theorem xh269 : x_Good prog_14_method_91_code xg269 := by
  unfold xg269
  exact x_Good_l xo269_0
def xm269 : XM := (⟨"TwoDigitsModel", "taken", "(II)I"⟩, prog_14_method_91_code, 4, some .int, 12, 12, 2, 0, 0, false, xg269)
def xc270_0 : List (Nat × Instr × Nat) := [(0, .iload_n 1, 1), (1, .tableswitch 184 0 13 #[71, 76, 81, 86, 92, 98, 144, 149, 154, 159, 164, 169, 174, 179], 71), (72, .aload_n 0, 1), (73, .getfield 171, 3), (76, .ireturn, 1), (77, .aload_n 0, 1), (78, .getfield 408, 3), (81, .ireturn, 1), (82, .aload_n 0, 1), (83, .getfield 438, 3), (86, .ireturn, 1), (87, .aload_n 0, 1), (88, .iconst 4, 1), (89, .invokevirtual 456, 3), (92, .ireturn, 1), (93, .aload_n 0, 1), (94, .iconst 5, 1), (95, .invokevirtual 456, 3), (98, .ireturn, 1), (99, .iconst 0, 1), (100, .istore_n 2, 1), (101, .iconst 0, 1), (102, .istore_n 3, 1), (103, .iload_n 3, 1), (104, .aload_n 0, 1), (105, .getfield 171, 3), (108, .if_icmp .ge 35, 3), (111, .iload_n 2, 1), (112, .aload_n 0, 1), (113, .getfield 63, 3), (116, .iload_n 3, 1), (117, .baload, 1), (118, .ifCond .eq 16, 3), (121, .aload_n 0, 1), (122, .getfield 67, 3), (125, .iload_n 3, 1), (126, .baload, 1), (127, .ifCond .eq 7, 3), (130, .iconst 1, 1), (131, .goto 4, 3), (134, .iconst 0, 1), (135, .iadd, 1), (136, .istore_n 2, 1), (137, .iinc 3 1, 3), (140, .goto (-37), 3), (143, .iload_n 2, 1), (144, .ireturn, 1), (145, .aload_n 0, 1)]
theorem xo270_0 : x_cOk prog_14_method_93_code xc270_0 = true := x_cOk_w (by decide +kernel)
def xc270_1 : List (Nat × Instr × Nat) := [(146, .getfield 368, 3), (149, .ireturn, 1), (150, .aload_n 0, 1), (151, .getfield 423, 3), (154, .ireturn, 1), (155, .aload_n 0, 1), (156, .getfield 399, 3), (159, .ireturn, 1), (160, .aload_n 0, 1), (161, .getfield 402, 3), (164, .ireturn, 1), (165, .aload_n 0, 1), (166, .getfield 179, 3), (169, .ireturn, 1), (170, .aload_n 0, 1), (171, .getfield 323, 3), (174, .ireturn, 1), (175, .aload_n 0, 1), (176, .getfield 447, 3), (179, .ireturn, 1), (180, .aload_n 0, 1), (181, .getfield 426, 3), (184, .ireturn, 1), (185, .bipush (-2), 2), (187, .ireturn, 1)]
theorem xo270_1 : x_cOk prog_14_method_93_code xc270_1 = true := x_cOk_w (by decide +kernel)
def xg270 : Nat → Option (Instr × Nat) := fun pc => if pc < 146 then x_at2 pc xc270_0 else x_at2 pc xc270_1
theorem xh270 : x_Good prog_14_method_93_code xg270 := by
  unfold xg270
  exact x_Good_ite (x_Good_l xo270_0) (x_Good_l xo270_1)
def xm270 : XM := (⟨"TwoDigitsModel", "count", "(I)I"⟩, prog_14_method_93_code, 4, some .int, 12, 12, 1, 0, 0, false, xg270)
def xc271_0 : List (Nat × Instr × Nat) := [(0, .iconst 0, 1), (1, .istore_n 2, 1), (2, .iconst 0, 1), (3, .istore_n 3, 1), (4, .iload_n 3, 1), (5, .aload_n 0, 1), (6, .getfield 171, 3), (9, .if_icmp .ge 27, 3), (12, .iload_n 2, 1), (13, .aload_n 0, 1), (14, .getfield 36, 3), (17, .iload_n 3, 1), (18, .iaload, 1), (19, .iload_n 1, 1), (20, .if_icmp .ne 7, 3), (23, .iconst 1, 1), (24, .goto 4, 3), (27, .iconst 0, 1), (28, .iadd, 1), (29, .istore_n 2, 1), (30, .iinc 3 1, 3), (33, .goto (-29), 3), (36, .iload_n 2, 1), (37, .ireturn, 1)]
theorem xo271_0 : x_cOk prog_14_method_92_code xc271_0 = true := x_cOk_w (by decide +kernel)
def xg271 : Nat → Option (Instr × Nat) := fun pc => x_at2 pc xc271_0
theorem xh271 : x_Good prog_14_method_92_code xg271 := by
  unfold xg271
  exact x_Good_l xo271_0
def xm271 : XM := (⟨"TwoDigitsModel", "inState", "(I)I"⟩, prog_14_method_92_code, 4, some .int, 12, 12, 1, 0, 0, false, xg271)
def xc272_0 : List (Nat × Instr × Nat) := [(0, .iload_n 1, 1), (1, .iconst 0, 1), (2, .iconst 2, 1), (3, .invokestatic 175, 3), (6, .ifCond .eq 22, 3), (9, .iload_n 2, 1), (10, .iconst (-1), 1), (11, .iconst 2, 1), (12, .invokestatic 175, 3), (15, .ifCond .eq 13, 3), (18, .iload_n 2, 1), (19, .ifCond .lt 12, 3), (22, .iload_n 3, 1), (23, .bipush 40, 2), (25, .if_icmp .le 6, 3), (28, .bipush (-2), 2), (30, .ireturn, 1), (31, .iload_n 2, 1), (32, .ifCond .lt 10, 3), (35, .iload_n 3, 1), (36, .ifCond .ge 6, 3), (39, .bipush (-14), 2), (41, .ireturn, 1), (42, .aload_n 0, 1), (43, .getfield 106, 3), (46, .iload_n 1, 1), (47, .iload_n 2, 1), (48, .iastore, 1), (49, .aload_n 0, 1), (50, .getfield 109, 3), (53, .iload_n 1, 1), (54, .iload_n 2, 1), (55, .ifCond .ge 7, 3), (58, .iconst 0, 1), (59, .goto 4, 3), (62, .iload_n 3, 1), (63, .iastore, 1), (64, .iconst 0, 1), (65, .istore 4, 2), (67, .iload 4, 2), (69, .bipush 40, 2), (71, .if_icmp .ge 19, 3), (74, .aload_n 0, 1), (75, .getfield 112, 3), (78, .iload_n 1, 1), (79, .aaload, 1), (80, .iload 4, 2), (82, .iconst 0, 1)]
theorem xo272_0 : x_cOk prog_14_method_94_code xc272_0 = true := x_cOk_w (by decide +kernel)
def xc272_1 : List (Nat × Instr × Nat) := [(83, .iastore, 1), (84, .iinc 4 1, 3), (87, .goto (-20), 3), (90, .iconst 1, 1), (91, .ireturn, 1)]
theorem xo272_1 : x_cOk prog_14_method_94_code xc272_1 = true := x_cOk_w (by decide +kernel)
def xg272 : Nat → Option (Instr × Nat) := fun pc => if pc < 83 then x_at2 pc xc272_0 else x_at2 pc xc272_1
theorem xh272 : x_Good prog_14_method_94_code xg272 := by
  unfold xg272
  exact x_Good_ite (x_Good_l xo272_0) (x_Good_l xo272_1)
def xm272 : XM := (⟨"TwoDigitsModel", "sheet", "(III)I"⟩, prog_14_method_94_code, 5, some .int, 12, 12, 3, 0, 0, false, xg272)
def xc273_0 : List (Nat × Instr × Nat) := [(0, .iload_n 1, 1), (1, .iconst 0, 1), (2, .iconst 2, 1), (3, .invokestatic 175, 3), (6, .ifCond .ne 6, 3), (9, .bipush (-2), 2), (11, .ireturn, 1), (12, .aload_n 0, 1), (13, .getfield 106, 3), (16, .iload_n 1, 1), (17, .iaload, 1), (18, .ifCond .ge 6, 3), (21, .bipush (-11), 2), (23, .ireturn, 1), (24, .iload_n 2, 1), (25, .iconst 0, 1), (26, .aload_n 0, 1), (27, .getfield 109, 3), (30, .iload_n 1, 1), (31, .iaload, 1), (32, .iconst 1, 1), (33, .isub, 1), (34, .invokestatic 175, 3), (37, .ifCond .ne 6, 3), (40, .bipush (-12), 2), (42, .ireturn, 1), (43, .aload_n 0, 1), (44, .getfield 112, 3), (47, .iload_n 1, 1), (48, .aaload, 1), (49, .iload_n 2, 1), (50, .aload_n 0, 1), (51, .getfield 106, 3), (54, .iload_n 1, 1), (55, .iaload, 1), (56, .ifCond .ne 8, 3), (59, .iload_n 3, 1), (60, .i2b, 1), (61, .goto 19, 3), (64, .aload_n 0, 1), (65, .getfield 106, 3), (68, .iload_n 1, 1), (69, .iaload, 1), (70, .iconst 1, 1), (71, .if_icmp .ne 8, 3), (74, .iload_n 3, 1), (75, .i2s, 1), (76, .goto 4, 3)]
theorem xo273_0 : x_cOk prog_14_method_95_code xc273_0 = true := x_cOk_w (by decide +kernel)
def xc273_1 : List (Nat × Instr × Nat) := [(79, .iload_n 3, 1), (80, .iastore, 1), (81, .iconst 1, 1), (82, .ireturn, 1)]
theorem xo273_1 : x_cOk prog_14_method_95_code xc273_1 = true := x_cOk_w (by decide +kernel)
def xg273 : Nat → Option (Instr × Nat) := fun pc => if pc < 79 then x_at2 pc xc273_0 else x_at2 pc xc273_1
theorem xh273 : x_Good prog_14_method_95_code xg273 := by
  unfold xg273
  exact x_Good_ite (x_Good_l xo273_0) (x_Good_l xo273_1)
def xm273 : XM := (⟨"TwoDigitsModel", "cell", "(III)I"⟩, prog_14_method_95_code, 4, some .int, 12, 12, 3, 0, 0, false, xg273)
def xc274_0 : List (Nat × Instr × Nat) := [(0, .iload_n 1, 1), (1, .iconst 0, 1), (2, .iconst 2, 1), (3, .invokestatic 175, 3), (6, .ifCond .eq 12, 3), (9, .iload_n 3, 1), (10, .iconst 0, 1), (11, .iconst 2, 1), (12, .invokestatic 175, 3), (15, .ifCond .ne 6, 3), (18, .bipush (-2), 2), (20, .ireturn, 1), (21, .aload_n 0, 1), (22, .getfield 106, 3), (25, .iload_n 1, 1), (26, .iaload, 1), (27, .ifCond .lt 12, 3), (30, .aload_n 0, 1), (31, .getfield 106, 3), (34, .iload_n 3, 1), (35, .iaload, 1), (36, .ifCond .ge 6, 3), (39, .bipush (-11), 2), (41, .ireturn, 1), (42, .aload_n 0, 1), (43, .getfield 106, 3), (46, .iload_n 1, 1), (47, .iaload, 1), (48, .aload_n 0, 1), (49, .getfield 106, 3), (52, .iload_n 3, 1), (53, .iaload, 1), (54, .if_icmp .eq 6, 3), (57, .bipush (-13), 2), (59, .ireturn, 1), (60, .iload 5, 2), (62, .ifCond .lt 47, 3), (65, .iload_n 2, 1), (66, .ifCond .lt 43, 3), (69, .iload 4, 2), (71, .ifCond .lt 38, 3), (74, .iload_n 2, 1), (75, .i2l, 1), (76, .iload 5, 2), (78, .i2l, 1), (79, .ladd, 1), (80, .aload_n 0, 1), (81, .getfield 109, 3)]
theorem xo274_0 : x_cOk prog_14_method_96_code xc274_0 = true := x_cOk_w (by decide +kernel)
def xc274_1 : List (Nat × Instr × Nat) := [(84, .iload_n 1, 1), (85, .iaload, 1), (86, .i2l, 1), (87, .lcmp, 1), (88, .ifCond .gt 21, 3), (91, .iload 4, 2), (93, .i2l, 1), (94, .iload 5, 2), (96, .i2l, 1), (97, .ladd, 1), (98, .aload_n 0, 1), (99, .getfield 109, 3), (102, .iload_n 3, 1), (103, .iaload, 1), (104, .i2l, 1), (105, .lcmp, 1), (106, .ifCond .le 6, 3), (109, .bipush (-12), 2), (111, .ireturn, 1), (112, .aload_n 0, 1), (113, .getfield 112, 3), (116, .iload_n 1, 1), (117, .aaload, 1), (118, .iload_n 2, 1), (119, .aload_n 0, 1), (120, .getfield 112, 3), (123, .iload_n 3, 1), (124, .aaload, 1), (125, .iload 4, 2), (127, .iload 5, 2), (129, .invokestatic 262, 3), (132, .iload 5, 2), (134, .ireturn, 1)]
theorem xo274_1 : x_cOk prog_14_method_96_code xc274_1 = true := x_cOk_w (by decide +kernel)
def xg274 : Nat → Option (Instr × Nat) := fun pc => if pc < 84 then x_at2 pc xc274_0 else x_at2 pc xc274_1
theorem xh274 : x_Good prog_14_method_96_code xg274 := by
  unfold xg274
  exact x_Good_ite (x_Good_l xo274_0) (x_Good_l xo274_1)
def xm274 : XM := (⟨"TwoDigitsModel", "copy", "(IIIII)I"⟩, prog_14_method_96_code, 6, some .int, 12, 12, 5, 0, 0, false, xg274)
end XCode8
end
section
section XE
end XE
end
