/-! Instructions against bytes, walked once. -/
noncomputable section XDec
theorem du1 {b : ByteArray} {p o : Nat} (h : p < b.size) (e : b[p].toNat = o) : (Reader.u1 (ε := DecodeError)) b p = .ok (o, p + 1) := by
  have k : (Reader.u1 (ε := DecodeError)) b p = (if h : p < b.size then (do set (p + 1); pure b[p].toNat : Reader DecodeError Nat) else throw (HasTruncated.truncated p)) b p := rfl
  rw [k, dif_pos h, ← e]
  rfl
theorem du2 {b : ByteArray} {p o q : Nat} (h : p < b.size) (e : b[p].toNat = o) (h2 : p + 1 < b.size) (e2 : b[p + 1].toNat = q) : (Reader.u2 (ε := DecodeError)) b p = .ok (o * 256 + q, p + 2) := by
  show Except.bind (Reader.u1 b p) _ = _
  rw [du1 h e]
  show Except.bind (Reader.u1 b (p + 1)) _ = _
  rw [du1 h2 e2]
  rfl
theorem ds1 {b : ByteArray} {p o : Nat} (h : p < b.size) (e : b[p].toNat = o) : (Reader.s1 (ε := DecodeError)) b p = .ok (Reader.signed 8 o, p + 1) := by
  show Except.bind (Reader.u1 b p) _ = _
  rw [du1 h e]
  rfl
theorem ds2 {b : ByteArray} {p o q : Nat} (h : p < b.size) (e : b[p].toNat = o) (h2 : p + 1 < b.size) (e2 : b[p + 1].toNat = q) : (Reader.s2 (ε := DecodeError)) b p = .ok (Reader.signed 16 (o * 256 + q), p + 2) := by
  show Except.bind (Reader.u2 b p) _ = _
  rw [du2 h e h2 e2]
  rfl
theorem dDec {b : ByteArray} {pc n : Nat} {i : Instr} (h : Decoder.instr pc b pc = .ok (i, pc + n)) : decode b pc = .ok (i, n) := by
  show Except.bind (Decoder.instr pc b pc) _ = _
  rw [h]
  show Except.ok (i, pc + n - pc) = _
  rw [Nat.add_sub_cancel_left]
theorem dAt {b : ByteArray} {p : Nat} {a : UInt8} (h : b.data.toList[p]? = some a) : ∃ hp : p < b.size, b[p].toNat = a.toNat := by
  rcases b with ⟨⟨L⟩⟩
  obtain ⟨h1, h2⟩ := List.getElem?_eq_some_iff.mp h
  exact ⟨h1, congrArg UInt8.toNat h2⟩
theorem dAk {b : ByteArray} {pc k : Nat} {l : List UInt8} (hl : b.data.toList.drop pc = l) {a : UInt8} (h : l[k]? = some a) : ∃ hp : pc + k < b.size, b[pc + k].toNat = a.toNat := by
  rw [← hl, List.getElem?_drop] at h
  exact dAt h
theorem dA0 {b : ByteArray} {pc : Nat} {a : UInt8} {l : List UInt8} (hl : b.data.toList.drop pc = a :: l) : ∃ hp : pc < b.size, b[pc].toNat = a.toNat := dAk (k := 0) hl rfl
def dCn : Jvm.ClassFile.Cond → Nat
  | .eq => 0
  | .ne => 1
  | .lt => 2
  | .ge => 3
  | .gt => 4
  | .le => 5
def dAr : Jvm.ClassFile.ArrayType → Nat
  | .int => 10
  | .boolean => 4
  | _ => 0
def dChk : Instr → List UInt8 → Bool
  | .aconst_null, a :: _ => Nat.beq a.toNat 1
  | .iaload, a :: _ => Nat.beq a.toNat 46
  | .aaload, a :: _ => Nat.beq a.toNat 50
  | .baload, a :: _ => Nat.beq a.toNat 51
  | .iastore, a :: _ => Nat.beq a.toNat 79
  | .aastore, a :: _ => Nat.beq a.toNat 83
  | .bastore, a :: _ => Nat.beq a.toNat 84
  | .pop, a :: _ => Nat.beq a.toNat 87
  | .dup, a :: _ => Nat.beq a.toNat 89
  | .dup_x1, a :: _ => Nat.beq a.toNat 90
  | .dup2, a :: _ => Nat.beq a.toNat 92
  | .iadd, a :: _ => Nat.beq a.toNat 96
  | .ladd, a :: _ => Nat.beq a.toNat 97
  | .isub, a :: _ => Nat.beq a.toNat 100
  | .imul, a :: _ => Nat.beq a.toNat 104
  | .idiv, a :: _ => Nat.beq a.toNat 108
  | .irem, a :: _ => Nat.beq a.toNat 112
  | .ineg, a :: _ => Nat.beq a.toNat 116
  | .ishl, a :: _ => Nat.beq a.toNat 120
  | .ishr, a :: _ => Nat.beq a.toNat 122
  | .iushr, a :: _ => Nat.beq a.toNat 124
  | .iand, a :: _ => Nat.beq a.toNat 126
  | .ior, a :: _ => Nat.beq a.toNat 128
  | .ixor, a :: _ => Nat.beq a.toNat 130
  | .i2l, a :: _ => Nat.beq a.toNat 133
  | .i2b, a :: _ => Nat.beq a.toNat 145
  | .i2c, a :: _ => Nat.beq a.toNat 146
  | .i2s, a :: _ => Nat.beq a.toNat 147
  | .lcmp, a :: _ => Nat.beq a.toNat 148
  | .ireturn, a :: _ => Nat.beq a.toNat 172
  | .areturn, a :: _ => Nat.beq a.toNat 176
  | .return_, a :: _ => Nat.beq a.toNat 177
  | .arraylength, a :: _ => Nat.beq a.toNat 190
  | .athrow, a :: _ => Nat.beq a.toNat 191
  | .iload_n j, a :: _ => Nat.beq a.toNat (26 + j.val)
  | .aload_n j, a :: _ => Nat.beq a.toNat (42 + j.val)
  | .istore_n j, a :: _ => Nat.beq a.toNat (59 + j.val)
  | .astore_n j, a :: _ => Nat.beq a.toNat (75 + j.val)
  | .iconst x, a :: _ => Nat.ble 2 a.toNat && Nat.ble a.toNat 8 && decide (x = (a.toNat : Int) - 3)
  | .iload j, a :: c :: _ => Nat.beq a.toNat 21 && Nat.beq c.toNat j
  | .aload j, a :: c :: _ => Nat.beq a.toNat 25 && Nat.beq c.toNat j
  | .istore j, a :: c :: _ => Nat.beq a.toNat 54 && Nat.beq c.toNat j
  | .astore j, a :: c :: _ => Nat.beq a.toNat 58 && Nat.beq c.toNat j
  | .ldc j, a :: c :: _ => Nat.beq a.toNat 18 && Nat.beq c.toNat j
  | .bipush x, a :: c :: _ => Nat.beq a.toNat 16 && decide (Reader.signed 8 c.toNat = x)
  | .ldc_w j, a :: c :: d :: _ => Nat.beq a.toNat 19 && Nat.beq (c.toNat * 256 + d.toNat) j
  | .getstatic j, a :: c :: d :: _ => Nat.beq a.toNat 178 && Nat.beq (c.toNat * 256 + d.toNat) j
  | .getfield j, a :: c :: d :: _ => Nat.beq a.toNat 180 && Nat.beq (c.toNat * 256 + d.toNat) j
  | .putfield j, a :: c :: d :: _ => Nat.beq a.toNat 181 && Nat.beq (c.toNat * 256 + d.toNat) j
  | .invokevirtual j, a :: c :: d :: _ => Nat.beq a.toNat 182 && Nat.beq (c.toNat * 256 + d.toNat) j
  | .invokespecial j, a :: c :: d :: _ => Nat.beq a.toNat 183 && Nat.beq (c.toNat * 256 + d.toNat) j
  | .invokestatic j, a :: c :: d :: _ => Nat.beq a.toNat 184 && Nat.beq (c.toNat * 256 + d.toNat) j
  | .new j, a :: c :: d :: _ => Nat.beq a.toNat 187 && Nat.beq (c.toNat * 256 + d.toNat) j
  | .anewarray j, a :: c :: d :: _ => Nat.beq a.toNat 189 && Nat.beq (c.toNat * 256 + d.toNat) j
  | .sipush x, a :: c :: d :: _ => Nat.beq a.toNat 17 && decide (Reader.signed 16 (c.toNat * 256 + d.toNat) = x)
  | .goto x, a :: c :: d :: _ => Nat.beq a.toNat 167 && decide (Reader.signed 16 (c.toNat * 256 + d.toNat) = x)
  | .ifnull x, a :: c :: d :: _ => Nat.beq a.toNat 198 && decide (Reader.signed 16 (c.toNat * 256 + d.toNat) = x)
  | .ifnonnull x, a :: c :: d :: _ => Nat.beq a.toNat 199 && decide (Reader.signed 16 (c.toNat * 256 + d.toNat) = x)
  | .ifCond k x, a :: c :: d :: _ => Nat.beq a.toNat (153 + dCn k) && decide (Reader.signed 16 (c.toNat * 256 + d.toNat) = x)
  | .if_icmp k x, a :: c :: d :: _ => Nat.beq a.toNat (159 + dCn k) && decide (Reader.signed 16 (c.toNat * 256 + d.toNat) = x)
  | .iinc j x, a :: c :: d :: _ => Nat.beq a.toNat 132 && Nat.beq c.toNat j && decide (Reader.signed 8 d.toNat = x)
  | .newarray t, a :: c :: _ => Nat.beq a.toNat 188 && Nat.beq c.toNat (dAr t) && Nat.ble 1 (dAr t)
  | .multianewarray j k, a :: c :: d :: e :: _ => Nat.beq a.toNat 197 && Nat.beq (c.toNat * 256 + d.toNat) j && Nat.beq e.toNat k && Nat.ble 1 k
  | _, _ => false
theorem dChk_spec {b : ByteArray} {pc : Nat} {i : Instr} {l : List UInt8} (hl : b.data.toList.drop pc = l) (hk : dChk i l = true) : decode b pc = .ok (i, x_len i) := by
  cases i
  case aconst_null =>
    rcases l with _ | ⟨a, l⟩
    · cases hk
    obtain ⟨p0, e0⟩ := dA0 hl
    have e0 := e0.trans (Nat.eq_of_beq_eq_true hk)
    refine dDec (n := 1) ?_
    show Except.bind (Reader.u1 b pc) _ = _
    rw [du1 p0 e0]
    rfl
  case iaload =>
    rcases l with _ | ⟨a, l⟩
    · cases hk
    obtain ⟨p0, e0⟩ := dA0 hl
    have e0 := e0.trans (Nat.eq_of_beq_eq_true hk)
    refine dDec (n := 1) ?_
    show Except.bind (Reader.u1 b pc) _ = _
    rw [du1 p0 e0]
    rfl
  case aaload =>
    rcases l with _ | ⟨a, l⟩
    · cases hk
    obtain ⟨p0, e0⟩ := dA0 hl
    have e0 := e0.trans (Nat.eq_of_beq_eq_true hk)
    refine dDec (n := 1) ?_
    show Except.bind (Reader.u1 b pc) _ = _
    rw [du1 p0 e0]
    rfl
  case baload =>
    rcases l with _ | ⟨a, l⟩
    · cases hk
    obtain ⟨p0, e0⟩ := dA0 hl
    have e0 := e0.trans (Nat.eq_of_beq_eq_true hk)
    refine dDec (n := 1) ?_
    show Except.bind (Reader.u1 b pc) _ = _
    rw [du1 p0 e0]
    rfl
  case iastore =>
    rcases l with _ | ⟨a, l⟩
    · cases hk
    obtain ⟨p0, e0⟩ := dA0 hl
    have e0 := e0.trans (Nat.eq_of_beq_eq_true hk)
    refine dDec (n := 1) ?_
    show Except.bind (Reader.u1 b pc) _ = _
    rw [du1 p0 e0]
    rfl
  case aastore =>
    rcases l with _ | ⟨a, l⟩
    · cases hk
    obtain ⟨p0, e0⟩ := dA0 hl
    have e0 := e0.trans (Nat.eq_of_beq_eq_true hk)
    refine dDec (n := 1) ?_
    show Except.bind (Reader.u1 b pc) _ = _
    rw [du1 p0 e0]
    rfl
  case bastore =>
    rcases l with _ | ⟨a, l⟩
    · cases hk
    obtain ⟨p0, e0⟩ := dA0 hl
    have e0 := e0.trans (Nat.eq_of_beq_eq_true hk)
    refine dDec (n := 1) ?_
    show Except.bind (Reader.u1 b pc) _ = _
    rw [du1 p0 e0]
    rfl
  case pop =>
    rcases l with _ | ⟨a, l⟩
    · cases hk
    obtain ⟨p0, e0⟩ := dA0 hl
    have e0 := e0.trans (Nat.eq_of_beq_eq_true hk)
    refine dDec (n := 1) ?_
    show Except.bind (Reader.u1 b pc) _ = _
    rw [du1 p0 e0]
    rfl
  case dup =>
    rcases l with _ | ⟨a, l⟩
    · cases hk
    obtain ⟨p0, e0⟩ := dA0 hl
    have e0 := e0.trans (Nat.eq_of_beq_eq_true hk)
    refine dDec (n := 1) ?_
    show Except.bind (Reader.u1 b pc) _ = _
    rw [du1 p0 e0]
    rfl
  case dup_x1 =>
    rcases l with _ | ⟨a, l⟩
    · cases hk
    obtain ⟨p0, e0⟩ := dA0 hl
    have e0 := e0.trans (Nat.eq_of_beq_eq_true hk)
    refine dDec (n := 1) ?_
    show Except.bind (Reader.u1 b pc) _ = _
    rw [du1 p0 e0]
    rfl
  case dup2 =>
    rcases l with _ | ⟨a, l⟩
    · cases hk
    obtain ⟨p0, e0⟩ := dA0 hl
    have e0 := e0.trans (Nat.eq_of_beq_eq_true hk)
    refine dDec (n := 1) ?_
    show Except.bind (Reader.u1 b pc) _ = _
    rw [du1 p0 e0]
    rfl
  case iadd =>
    rcases l with _ | ⟨a, l⟩
    · cases hk
    obtain ⟨p0, e0⟩ := dA0 hl
    have e0 := e0.trans (Nat.eq_of_beq_eq_true hk)
    refine dDec (n := 1) ?_
    show Except.bind (Reader.u1 b pc) _ = _
    rw [du1 p0 e0]
    rfl
  case ladd =>
    rcases l with _ | ⟨a, l⟩
    · cases hk
    obtain ⟨p0, e0⟩ := dA0 hl
    have e0 := e0.trans (Nat.eq_of_beq_eq_true hk)
    refine dDec (n := 1) ?_
    show Except.bind (Reader.u1 b pc) _ = _
    rw [du1 p0 e0]
    rfl
  case isub =>
    rcases l with _ | ⟨a, l⟩
    · cases hk
    obtain ⟨p0, e0⟩ := dA0 hl
    have e0 := e0.trans (Nat.eq_of_beq_eq_true hk)
    refine dDec (n := 1) ?_
    show Except.bind (Reader.u1 b pc) _ = _
    rw [du1 p0 e0]
    rfl
  case imul =>
    rcases l with _ | ⟨a, l⟩
    · cases hk
    obtain ⟨p0, e0⟩ := dA0 hl
    have e0 := e0.trans (Nat.eq_of_beq_eq_true hk)
    refine dDec (n := 1) ?_
    show Except.bind (Reader.u1 b pc) _ = _
    rw [du1 p0 e0]
    rfl
  case idiv =>
    rcases l with _ | ⟨a, l⟩
    · cases hk
    obtain ⟨p0, e0⟩ := dA0 hl
    have e0 := e0.trans (Nat.eq_of_beq_eq_true hk)
    refine dDec (n := 1) ?_
    show Except.bind (Reader.u1 b pc) _ = _
    rw [du1 p0 e0]
    rfl
  case irem =>
    rcases l with _ | ⟨a, l⟩
    · cases hk
    obtain ⟨p0, e0⟩ := dA0 hl
    have e0 := e0.trans (Nat.eq_of_beq_eq_true hk)
    refine dDec (n := 1) ?_
    show Except.bind (Reader.u1 b pc) _ = _
    rw [du1 p0 e0]
    rfl
  case ineg =>
    rcases l with _ | ⟨a, l⟩
    · cases hk
    obtain ⟨p0, e0⟩ := dA0 hl
    have e0 := e0.trans (Nat.eq_of_beq_eq_true hk)
    refine dDec (n := 1) ?_
    show Except.bind (Reader.u1 b pc) _ = _
    rw [du1 p0 e0]
    rfl
  case ishl =>
    rcases l with _ | ⟨a, l⟩
    · cases hk
    obtain ⟨p0, e0⟩ := dA0 hl
    have e0 := e0.trans (Nat.eq_of_beq_eq_true hk)
    refine dDec (n := 1) ?_
    show Except.bind (Reader.u1 b pc) _ = _
    rw [du1 p0 e0]
    rfl
  case ishr =>
    rcases l with _ | ⟨a, l⟩
    · cases hk
    obtain ⟨p0, e0⟩ := dA0 hl
    have e0 := e0.trans (Nat.eq_of_beq_eq_true hk)
    refine dDec (n := 1) ?_
    show Except.bind (Reader.u1 b pc) _ = _
    rw [du1 p0 e0]
    rfl
  case iushr =>
    rcases l with _ | ⟨a, l⟩
    · cases hk
    obtain ⟨p0, e0⟩ := dA0 hl
    have e0 := e0.trans (Nat.eq_of_beq_eq_true hk)
    refine dDec (n := 1) ?_
    show Except.bind (Reader.u1 b pc) _ = _
    rw [du1 p0 e0]
    rfl
  case iand =>
    rcases l with _ | ⟨a, l⟩
    · cases hk
    obtain ⟨p0, e0⟩ := dA0 hl
    have e0 := e0.trans (Nat.eq_of_beq_eq_true hk)
    refine dDec (n := 1) ?_
    show Except.bind (Reader.u1 b pc) _ = _
    rw [du1 p0 e0]
    rfl
  case ior =>
    rcases l with _ | ⟨a, l⟩
    · cases hk
    obtain ⟨p0, e0⟩ := dA0 hl
    have e0 := e0.trans (Nat.eq_of_beq_eq_true hk)
    refine dDec (n := 1) ?_
    show Except.bind (Reader.u1 b pc) _ = _
    rw [du1 p0 e0]
    rfl
  case ixor =>
    rcases l with _ | ⟨a, l⟩
    · cases hk
    obtain ⟨p0, e0⟩ := dA0 hl
    have e0 := e0.trans (Nat.eq_of_beq_eq_true hk)
    refine dDec (n := 1) ?_
    show Except.bind (Reader.u1 b pc) _ = _
    rw [du1 p0 e0]
    rfl
  case i2l =>
    rcases l with _ | ⟨a, l⟩
    · cases hk
    obtain ⟨p0, e0⟩ := dA0 hl
    have e0 := e0.trans (Nat.eq_of_beq_eq_true hk)
    refine dDec (n := 1) ?_
    show Except.bind (Reader.u1 b pc) _ = _
    rw [du1 p0 e0]
    rfl
  case i2b =>
    rcases l with _ | ⟨a, l⟩
    · cases hk
    obtain ⟨p0, e0⟩ := dA0 hl
    have e0 := e0.trans (Nat.eq_of_beq_eq_true hk)
    refine dDec (n := 1) ?_
    show Except.bind (Reader.u1 b pc) _ = _
    rw [du1 p0 e0]
    rfl
  case i2c =>
    rcases l with _ | ⟨a, l⟩
    · cases hk
    obtain ⟨p0, e0⟩ := dA0 hl
    have e0 := e0.trans (Nat.eq_of_beq_eq_true hk)
    refine dDec (n := 1) ?_
    show Except.bind (Reader.u1 b pc) _ = _
    rw [du1 p0 e0]
    rfl
  case i2s =>
    rcases l with _ | ⟨a, l⟩
    · cases hk
    obtain ⟨p0, e0⟩ := dA0 hl
    have e0 := e0.trans (Nat.eq_of_beq_eq_true hk)
    refine dDec (n := 1) ?_
    show Except.bind (Reader.u1 b pc) _ = _
    rw [du1 p0 e0]
    rfl
  case lcmp =>
    rcases l with _ | ⟨a, l⟩
    · cases hk
    obtain ⟨p0, e0⟩ := dA0 hl
    have e0 := e0.trans (Nat.eq_of_beq_eq_true hk)
    refine dDec (n := 1) ?_
    show Except.bind (Reader.u1 b pc) _ = _
    rw [du1 p0 e0]
    rfl
  case ireturn =>
    rcases l with _ | ⟨a, l⟩
    · cases hk
    obtain ⟨p0, e0⟩ := dA0 hl
    have e0 := e0.trans (Nat.eq_of_beq_eq_true hk)
    refine dDec (n := 1) ?_
    show Except.bind (Reader.u1 b pc) _ = _
    rw [du1 p0 e0]
    rfl
  case areturn =>
    rcases l with _ | ⟨a, l⟩
    · cases hk
    obtain ⟨p0, e0⟩ := dA0 hl
    have e0 := e0.trans (Nat.eq_of_beq_eq_true hk)
    refine dDec (n := 1) ?_
    show Except.bind (Reader.u1 b pc) _ = _
    rw [du1 p0 e0]
    rfl
  case return_ =>
    rcases l with _ | ⟨a, l⟩
    · cases hk
    obtain ⟨p0, e0⟩ := dA0 hl
    have e0 := e0.trans (Nat.eq_of_beq_eq_true hk)
    refine dDec (n := 1) ?_
    show Except.bind (Reader.u1 b pc) _ = _
    rw [du1 p0 e0]
    rfl
  case arraylength =>
    rcases l with _ | ⟨a, l⟩
    · cases hk
    obtain ⟨p0, e0⟩ := dA0 hl
    have e0 := e0.trans (Nat.eq_of_beq_eq_true hk)
    refine dDec (n := 1) ?_
    show Except.bind (Reader.u1 b pc) _ = _
    rw [du1 p0 e0]
    rfl
  case athrow =>
    rcases l with _ | ⟨a, l⟩
    · cases hk
    obtain ⟨p0, e0⟩ := dA0 hl
    have e0 := e0.trans (Nat.eq_of_beq_eq_true hk)
    refine dDec (n := 1) ?_
    show Except.bind (Reader.u1 b pc) _ = _
    rw [du1 p0 e0]
    rfl
  case iload_n j =>
    rcases l with _ | ⟨a, l⟩
    · cases hk
    obtain ⟨p0, e0⟩ := dA0 hl
    have e0 := e0.trans (Nat.eq_of_beq_eq_true hk)
    refine dDec (n := 1) ?_
    show Except.bind (Reader.u1 b pc) _ = _
    rw [du1 p0 e0]
    have hj : ∀ j : Fin 4, j = 0 ∨ j = 1 ∨ j = 2 ∨ j = 3 := by decide
    rcases hj j with rfl | rfl | rfl | rfl <;> rfl
  case aload_n j =>
    rcases l with _ | ⟨a, l⟩
    · cases hk
    obtain ⟨p0, e0⟩ := dA0 hl
    have e0 := e0.trans (Nat.eq_of_beq_eq_true hk)
    refine dDec (n := 1) ?_
    show Except.bind (Reader.u1 b pc) _ = _
    rw [du1 p0 e0]
    have hj : ∀ j : Fin 4, j = 0 ∨ j = 1 ∨ j = 2 ∨ j = 3 := by decide
    rcases hj j with rfl | rfl | rfl | rfl <;> rfl
  case istore_n j =>
    rcases l with _ | ⟨a, l⟩
    · cases hk
    obtain ⟨p0, e0⟩ := dA0 hl
    have e0 := e0.trans (Nat.eq_of_beq_eq_true hk)
    refine dDec (n := 1) ?_
    show Except.bind (Reader.u1 b pc) _ = _
    rw [du1 p0 e0]
    have hj : ∀ j : Fin 4, j = 0 ∨ j = 1 ∨ j = 2 ∨ j = 3 := by decide
    rcases hj j with rfl | rfl | rfl | rfl <;> rfl
  case astore_n j =>
    rcases l with _ | ⟨a, l⟩
    · cases hk
    obtain ⟨p0, e0⟩ := dA0 hl
    have e0 := e0.trans (Nat.eq_of_beq_eq_true hk)
    refine dDec (n := 1) ?_
    show Except.bind (Reader.u1 b pc) _ = _
    rw [du1 p0 e0]
    have hj : ∀ j : Fin 4, j = 0 ∨ j = 1 ∨ j = 2 ∨ j = 3 := by decide
    rcases hj j with rfl | rfl | rfl | rfl <;> rfl
  case iconst x =>
    rcases l with _ | ⟨a, l⟩
    · cases hk
    obtain ⟨p0, e0⟩ := dA0 hl
    have hk : (Nat.ble 2 a.toNat && Nat.ble a.toNat 8 && decide (x = (a.toNat : Int) - 3)) = true := hk
    simp only [Bool.and_eq_true] at hk
    obtain ⟨⟨k1, k2⟩, k3⟩ := hk
    have k1 := Nat.le_of_ble_eq_true k1
    have k2 := Nat.le_of_ble_eq_true k2
    have k3 := of_decide_eq_true k3
    have hc : a.toNat = 2 ∨ a.toNat = 3 ∨ a.toNat = 4 ∨ a.toNat = 5 ∨ a.toNat = 6 ∨ a.toNat = 7 ∨ a.toNat = 8 := by omega
    subst k3
    refine dDec (n := 1) ?_
    show Except.bind (Reader.u1 b pc) _ = _
    rcases hc with h | h | h | h | h | h | h
    all_goals
      rw [h] at e0 ⊢
      rw [du1 p0 e0]
      rfl
  case iload j =>
    rcases l with _ | ⟨a, _ | ⟨c, l⟩⟩
    · cases hk
    · cases hk
    obtain ⟨p0, e0⟩ := dA0 hl
    obtain ⟨p1, e1⟩ := dAk (k := 1) hl rfl
    obtain ⟨k1, k2⟩ := Bool.and_eq_true_iff.mp hk
    have e0 := e0.trans (Nat.eq_of_beq_eq_true k1)
    have e1 := e1.trans (Nat.eq_of_beq_eq_true k2)
    refine dDec (n := 2) ?_
    show Except.bind (Reader.u1 b pc) _ = _
    rw [du1 p0 e0]
    show Except.bind (Reader.u1 b (pc + 1)) _ = _
    rw [du1 p1 e1]
    rfl
  case aload j =>
    rcases l with _ | ⟨a, _ | ⟨c, l⟩⟩
    · cases hk
    · cases hk
    obtain ⟨p0, e0⟩ := dA0 hl
    obtain ⟨p1, e1⟩ := dAk (k := 1) hl rfl
    obtain ⟨k1, k2⟩ := Bool.and_eq_true_iff.mp hk
    have e0 := e0.trans (Nat.eq_of_beq_eq_true k1)
    have e1 := e1.trans (Nat.eq_of_beq_eq_true k2)
    refine dDec (n := 2) ?_
    show Except.bind (Reader.u1 b pc) _ = _
    rw [du1 p0 e0]
    show Except.bind (Reader.u1 b (pc + 1)) _ = _
    rw [du1 p1 e1]
    rfl
  case istore j =>
    rcases l with _ | ⟨a, _ | ⟨c, l⟩⟩
    · cases hk
    · cases hk
    obtain ⟨p0, e0⟩ := dA0 hl
    obtain ⟨p1, e1⟩ := dAk (k := 1) hl rfl
    obtain ⟨k1, k2⟩ := Bool.and_eq_true_iff.mp hk
    have e0 := e0.trans (Nat.eq_of_beq_eq_true k1)
    have e1 := e1.trans (Nat.eq_of_beq_eq_true k2)
    refine dDec (n := 2) ?_
    show Except.bind (Reader.u1 b pc) _ = _
    rw [du1 p0 e0]
    show Except.bind (Reader.u1 b (pc + 1)) _ = _
    rw [du1 p1 e1]
    rfl
  case astore j =>
    rcases l with _ | ⟨a, _ | ⟨c, l⟩⟩
    · cases hk
    · cases hk
    obtain ⟨p0, e0⟩ := dA0 hl
    obtain ⟨p1, e1⟩ := dAk (k := 1) hl rfl
    obtain ⟨k1, k2⟩ := Bool.and_eq_true_iff.mp hk
    have e0 := e0.trans (Nat.eq_of_beq_eq_true k1)
    have e1 := e1.trans (Nat.eq_of_beq_eq_true k2)
    refine dDec (n := 2) ?_
    show Except.bind (Reader.u1 b pc) _ = _
    rw [du1 p0 e0]
    show Except.bind (Reader.u1 b (pc + 1)) _ = _
    rw [du1 p1 e1]
    rfl
  case ldc j =>
    rcases l with _ | ⟨a, _ | ⟨c, l⟩⟩
    · cases hk
    · cases hk
    obtain ⟨p0, e0⟩ := dA0 hl
    obtain ⟨p1, e1⟩ := dAk (k := 1) hl rfl
    obtain ⟨k1, k2⟩ := Bool.and_eq_true_iff.mp hk
    have e0 := e0.trans (Nat.eq_of_beq_eq_true k1)
    have e1 := e1.trans (Nat.eq_of_beq_eq_true k2)
    refine dDec (n := 2) ?_
    show Except.bind (Reader.u1 b pc) _ = _
    rw [du1 p0 e0]
    show Except.bind (Reader.u1 b (pc + 1)) _ = _
    rw [du1 p1 e1]
    rfl
  case bipush x =>
    rcases l with _ | ⟨a, _ | ⟨c, l⟩⟩
    · cases hk
    · cases hk
    obtain ⟨p0, e0⟩ := dA0 hl
    obtain ⟨p1, e1⟩ := dAk (k := 1) hl rfl
    obtain ⟨k1, k2⟩ := Bool.and_eq_true_iff.mp hk
    have e0 := e0.trans (Nat.eq_of_beq_eq_true k1)
    have k2 := of_decide_eq_true k2
    subst k2
    refine dDec (n := 2) ?_
    show Except.bind (Reader.u1 b pc) _ = _
    rw [du1 p0 e0]
    show Except.bind (Reader.s1 b (pc + 1)) _ = _
    rw [ds1 p1 e1]
    rfl
  case ldc_w j =>
    rcases l with _ | ⟨a, _ | ⟨c, _ | ⟨d, l⟩⟩⟩
    · cases hk
    · cases hk
    · cases hk
    obtain ⟨p0, e0⟩ := dA0 hl
    obtain ⟨p1, e1⟩ := dAk (k := 1) hl rfl
    obtain ⟨p2, e2⟩ := dAk (k := 2) hl rfl
    obtain ⟨k1, k2⟩ := Bool.and_eq_true_iff.mp hk
    have e0 := e0.trans (Nat.eq_of_beq_eq_true k1)
    have k2 := Nat.eq_of_beq_eq_true k2
    subst k2
    refine dDec (n := 3) ?_
    show Except.bind (Reader.u1 b pc) _ = _
    rw [du1 p0 e0]
    show Except.bind (Reader.u2 b (pc + 1)) _ = _
    rw [du2 p1 e1 p2 e2]
    rfl
  case getstatic j =>
    rcases l with _ | ⟨a, _ | ⟨c, _ | ⟨d, l⟩⟩⟩
    · cases hk
    · cases hk
    · cases hk
    obtain ⟨p0, e0⟩ := dA0 hl
    obtain ⟨p1, e1⟩ := dAk (k := 1) hl rfl
    obtain ⟨p2, e2⟩ := dAk (k := 2) hl rfl
    obtain ⟨k1, k2⟩ := Bool.and_eq_true_iff.mp hk
    have e0 := e0.trans (Nat.eq_of_beq_eq_true k1)
    have k2 := Nat.eq_of_beq_eq_true k2
    subst k2
    refine dDec (n := 3) ?_
    show Except.bind (Reader.u1 b pc) _ = _
    rw [du1 p0 e0]
    show Except.bind (Reader.u2 b (pc + 1)) _ = _
    rw [du2 p1 e1 p2 e2]
    rfl
  case getfield j =>
    rcases l with _ | ⟨a, _ | ⟨c, _ | ⟨d, l⟩⟩⟩
    · cases hk
    · cases hk
    · cases hk
    obtain ⟨p0, e0⟩ := dA0 hl
    obtain ⟨p1, e1⟩ := dAk (k := 1) hl rfl
    obtain ⟨p2, e2⟩ := dAk (k := 2) hl rfl
    obtain ⟨k1, k2⟩ := Bool.and_eq_true_iff.mp hk
    have e0 := e0.trans (Nat.eq_of_beq_eq_true k1)
    have k2 := Nat.eq_of_beq_eq_true k2
    subst k2
    refine dDec (n := 3) ?_
    show Except.bind (Reader.u1 b pc) _ = _
    rw [du1 p0 e0]
    show Except.bind (Reader.u2 b (pc + 1)) _ = _
    rw [du2 p1 e1 p2 e2]
    rfl
  case putfield j =>
    rcases l with _ | ⟨a, _ | ⟨c, _ | ⟨d, l⟩⟩⟩
    · cases hk
    · cases hk
    · cases hk
    obtain ⟨p0, e0⟩ := dA0 hl
    obtain ⟨p1, e1⟩ := dAk (k := 1) hl rfl
    obtain ⟨p2, e2⟩ := dAk (k := 2) hl rfl
    obtain ⟨k1, k2⟩ := Bool.and_eq_true_iff.mp hk
    have e0 := e0.trans (Nat.eq_of_beq_eq_true k1)
    have k2 := Nat.eq_of_beq_eq_true k2
    subst k2
    refine dDec (n := 3) ?_
    show Except.bind (Reader.u1 b pc) _ = _
    rw [du1 p0 e0]
    show Except.bind (Reader.u2 b (pc + 1)) _ = _
    rw [du2 p1 e1 p2 e2]
    rfl
  case invokevirtual j =>
    rcases l with _ | ⟨a, _ | ⟨c, _ | ⟨d, l⟩⟩⟩
    · cases hk
    · cases hk
    · cases hk
    obtain ⟨p0, e0⟩ := dA0 hl
    obtain ⟨p1, e1⟩ := dAk (k := 1) hl rfl
    obtain ⟨p2, e2⟩ := dAk (k := 2) hl rfl
    obtain ⟨k1, k2⟩ := Bool.and_eq_true_iff.mp hk
    have e0 := e0.trans (Nat.eq_of_beq_eq_true k1)
    have k2 := Nat.eq_of_beq_eq_true k2
    subst k2
    refine dDec (n := 3) ?_
    show Except.bind (Reader.u1 b pc) _ = _
    rw [du1 p0 e0]
    show Except.bind (Reader.u2 b (pc + 1)) _ = _
    rw [du2 p1 e1 p2 e2]
    rfl
  case invokespecial j =>
    rcases l with _ | ⟨a, _ | ⟨c, _ | ⟨d, l⟩⟩⟩
    · cases hk
    · cases hk
    · cases hk
    obtain ⟨p0, e0⟩ := dA0 hl
    obtain ⟨p1, e1⟩ := dAk (k := 1) hl rfl
    obtain ⟨p2, e2⟩ := dAk (k := 2) hl rfl
    obtain ⟨k1, k2⟩ := Bool.and_eq_true_iff.mp hk
    have e0 := e0.trans (Nat.eq_of_beq_eq_true k1)
    have k2 := Nat.eq_of_beq_eq_true k2
    subst k2
    refine dDec (n := 3) ?_
    show Except.bind (Reader.u1 b pc) _ = _
    rw [du1 p0 e0]
    show Except.bind (Reader.u2 b (pc + 1)) _ = _
    rw [du2 p1 e1 p2 e2]
    rfl
  case invokestatic j =>
    rcases l with _ | ⟨a, _ | ⟨c, _ | ⟨d, l⟩⟩⟩
    · cases hk
    · cases hk
    · cases hk
    obtain ⟨p0, e0⟩ := dA0 hl
    obtain ⟨p1, e1⟩ := dAk (k := 1) hl rfl
    obtain ⟨p2, e2⟩ := dAk (k := 2) hl rfl
    obtain ⟨k1, k2⟩ := Bool.and_eq_true_iff.mp hk
    have e0 := e0.trans (Nat.eq_of_beq_eq_true k1)
    have k2 := Nat.eq_of_beq_eq_true k2
    subst k2
    refine dDec (n := 3) ?_
    show Except.bind (Reader.u1 b pc) _ = _
    rw [du1 p0 e0]
    show Except.bind (Reader.u2 b (pc + 1)) _ = _
    rw [du2 p1 e1 p2 e2]
    rfl
  case new j =>
    rcases l with _ | ⟨a, _ | ⟨c, _ | ⟨d, l⟩⟩⟩
    · cases hk
    · cases hk
    · cases hk
    obtain ⟨p0, e0⟩ := dA0 hl
    obtain ⟨p1, e1⟩ := dAk (k := 1) hl rfl
    obtain ⟨p2, e2⟩ := dAk (k := 2) hl rfl
    obtain ⟨k1, k2⟩ := Bool.and_eq_true_iff.mp hk
    have e0 := e0.trans (Nat.eq_of_beq_eq_true k1)
    have k2 := Nat.eq_of_beq_eq_true k2
    subst k2
    refine dDec (n := 3) ?_
    show Except.bind (Reader.u1 b pc) _ = _
    rw [du1 p0 e0]
    show Except.bind (Reader.u2 b (pc + 1)) _ = _
    rw [du2 p1 e1 p2 e2]
    rfl
  case anewarray j =>
    rcases l with _ | ⟨a, _ | ⟨c, _ | ⟨d, l⟩⟩⟩
    · cases hk
    · cases hk
    · cases hk
    obtain ⟨p0, e0⟩ := dA0 hl
    obtain ⟨p1, e1⟩ := dAk (k := 1) hl rfl
    obtain ⟨p2, e2⟩ := dAk (k := 2) hl rfl
    obtain ⟨k1, k2⟩ := Bool.and_eq_true_iff.mp hk
    have e0 := e0.trans (Nat.eq_of_beq_eq_true k1)
    have k2 := Nat.eq_of_beq_eq_true k2
    subst k2
    refine dDec (n := 3) ?_
    show Except.bind (Reader.u1 b pc) _ = _
    rw [du1 p0 e0]
    show Except.bind (Reader.u2 b (pc + 1)) _ = _
    rw [du2 p1 e1 p2 e2]
    rfl
  case sipush x =>
    rcases l with _ | ⟨a, _ | ⟨c, _ | ⟨d, l⟩⟩⟩
    · cases hk
    · cases hk
    · cases hk
    obtain ⟨p0, e0⟩ := dA0 hl
    obtain ⟨p1, e1⟩ := dAk (k := 1) hl rfl
    obtain ⟨p2, e2⟩ := dAk (k := 2) hl rfl
    obtain ⟨k1, k2⟩ := Bool.and_eq_true_iff.mp hk
    have e0 := e0.trans (Nat.eq_of_beq_eq_true k1)
    have k2 := of_decide_eq_true k2
    subst k2
    refine dDec (n := 3) ?_
    show Except.bind (Reader.u1 b pc) _ = _
    rw [du1 p0 e0]
    show Except.bind (Reader.s2 b (pc + 1)) _ = _
    rw [ds2 p1 e1 p2 e2]
    rfl
  case goto x =>
    rcases l with _ | ⟨a, _ | ⟨c, _ | ⟨d, l⟩⟩⟩
    · cases hk
    · cases hk
    · cases hk
    obtain ⟨p0, e0⟩ := dA0 hl
    obtain ⟨p1, e1⟩ := dAk (k := 1) hl rfl
    obtain ⟨p2, e2⟩ := dAk (k := 2) hl rfl
    obtain ⟨k1, k2⟩ := Bool.and_eq_true_iff.mp hk
    have e0 := e0.trans (Nat.eq_of_beq_eq_true k1)
    have k2 := of_decide_eq_true k2
    subst k2
    refine dDec (n := 3) ?_
    show Except.bind (Reader.u1 b pc) _ = _
    rw [du1 p0 e0]
    show Except.bind (Reader.s2 b (pc + 1)) _ = _
    rw [ds2 p1 e1 p2 e2]
    rfl
  case ifnull x =>
    rcases l with _ | ⟨a, _ | ⟨c, _ | ⟨d, l⟩⟩⟩
    · cases hk
    · cases hk
    · cases hk
    obtain ⟨p0, e0⟩ := dA0 hl
    obtain ⟨p1, e1⟩ := dAk (k := 1) hl rfl
    obtain ⟨p2, e2⟩ := dAk (k := 2) hl rfl
    obtain ⟨k1, k2⟩ := Bool.and_eq_true_iff.mp hk
    have e0 := e0.trans (Nat.eq_of_beq_eq_true k1)
    have k2 := of_decide_eq_true k2
    subst k2
    refine dDec (n := 3) ?_
    show Except.bind (Reader.u1 b pc) _ = _
    rw [du1 p0 e0]
    show Except.bind (Reader.s2 b (pc + 1)) _ = _
    rw [ds2 p1 e1 p2 e2]
    rfl
  case ifnonnull x =>
    rcases l with _ | ⟨a, _ | ⟨c, _ | ⟨d, l⟩⟩⟩
    · cases hk
    · cases hk
    · cases hk
    obtain ⟨p0, e0⟩ := dA0 hl
    obtain ⟨p1, e1⟩ := dAk (k := 1) hl rfl
    obtain ⟨p2, e2⟩ := dAk (k := 2) hl rfl
    obtain ⟨k1, k2⟩ := Bool.and_eq_true_iff.mp hk
    have e0 := e0.trans (Nat.eq_of_beq_eq_true k1)
    have k2 := of_decide_eq_true k2
    subst k2
    refine dDec (n := 3) ?_
    show Except.bind (Reader.u1 b pc) _ = _
    rw [du1 p0 e0]
    show Except.bind (Reader.s2 b (pc + 1)) _ = _
    rw [ds2 p1 e1 p2 e2]
    rfl
  case ifCond k x =>
    rcases l with _ | ⟨a, _ | ⟨c, _ | ⟨d, l⟩⟩⟩
    · cases hk
    · cases hk
    · cases hk
    obtain ⟨p0, e0⟩ := dA0 hl
    obtain ⟨p1, e1⟩ := dAk (k := 1) hl rfl
    obtain ⟨p2, e2⟩ := dAk (k := 2) hl rfl
    obtain ⟨k1, k2⟩ := Bool.and_eq_true_iff.mp hk
    have e0 := e0.trans (Nat.eq_of_beq_eq_true k1)
    have k2 := of_decide_eq_true k2
    subst k2
    refine dDec (n := 3) ?_
    show Except.bind (Reader.u1 b pc) _ = _
    rw [du1 p0 e0]
    cases k
    all_goals
      show Except.bind (Reader.s2 b (pc + 1)) _ = _
      rw [ds2 p1 e1 p2 e2]
      rfl
  case if_icmp k x =>
    rcases l with _ | ⟨a, _ | ⟨c, _ | ⟨d, l⟩⟩⟩
    · cases hk
    · cases hk
    · cases hk
    obtain ⟨p0, e0⟩ := dA0 hl
    obtain ⟨p1, e1⟩ := dAk (k := 1) hl rfl
    obtain ⟨p2, e2⟩ := dAk (k := 2) hl rfl
    obtain ⟨k1, k2⟩ := Bool.and_eq_true_iff.mp hk
    have e0 := e0.trans (Nat.eq_of_beq_eq_true k1)
    have k2 := of_decide_eq_true k2
    subst k2
    refine dDec (n := 3) ?_
    show Except.bind (Reader.u1 b pc) _ = _
    rw [du1 p0 e0]
    cases k
    all_goals
      show Except.bind (Reader.s2 b (pc + 1)) _ = _
      rw [ds2 p1 e1 p2 e2]
      rfl
  case iinc j x =>
    rcases l with _ | ⟨a, _ | ⟨c, _ | ⟨d, l⟩⟩⟩
    · cases hk
    · cases hk
    · cases hk
    obtain ⟨p0, e0⟩ := dA0 hl
    obtain ⟨p1, e1⟩ := dAk (k := 1) hl rfl
    obtain ⟨p2, e2⟩ := dAk (k := 2) hl rfl
    have hk := Bool.and_eq_true_iff.mp hk
    obtain ⟨k1, k2⟩ := Bool.and_eq_true_iff.mp hk.1
    have k3 := of_decide_eq_true hk.2
    have e0 := e0.trans (Nat.eq_of_beq_eq_true k1)
    have e1 := e1.trans (Nat.eq_of_beq_eq_true k2)
    subst k3
    refine dDec (n := 3) ?_
    show Except.bind (Reader.u1 b pc) _ = _
    rw [du1 p0 e0]
    show Except.bind (Reader.u1 b (pc + 1)) _ = _
    rw [du1 p1 e1]
    show Except.bind (Reader.s1 b (pc + 2)) _ = _
    rw [ds1 p2 e2]
    rfl
  case newarray t =>
    rcases l with _ | ⟨a, _ | ⟨c, l⟩⟩
    · cases hk
    · cases hk
    obtain ⟨p0, e0⟩ := dA0 hl
    obtain ⟨p1, e1⟩ := dAk (k := 1) hl rfl
    have hk := Bool.and_eq_true_iff.mp hk
    obtain ⟨k1, k2⟩ := Bool.and_eq_true_iff.mp hk.1
    have k3 := Nat.le_of_ble_eq_true hk.2
    have e0 := e0.trans (Nat.eq_of_beq_eq_true k1)
    have e1 := e1.trans (Nat.eq_of_beq_eq_true k2)
    refine dDec (n := 2) ?_
    show Except.bind (Reader.u1 b pc) _ = _
    rw [du1 p0 e0]
    show Except.bind (Reader.u1 b (pc + 1)) _ = _
    rw [du1 p1 e1]
    cases t
    all_goals first | rfl | exact absurd k3 (by decide)
  case multianewarray j k =>
    rcases l with _ | ⟨a, _ | ⟨c, _ | ⟨d, _ | ⟨f, l⟩⟩⟩⟩
    · cases hk
    · cases hk
    · cases hk
    · cases hk
    obtain ⟨p0, e0⟩ := dA0 hl
    obtain ⟨p1, e1⟩ := dAk (k := 1) hl rfl
    obtain ⟨p2, e2⟩ := dAk (k := 2) hl rfl
    obtain ⟨p3, e3⟩ := dAk (k := 3) hl rfl
    have hk := Bool.and_eq_true_iff.mp hk
    have hk2 := Bool.and_eq_true_iff.mp hk.1
    obtain ⟨k1, k2⟩ := Bool.and_eq_true_iff.mp hk2.1
    have k3 := Nat.eq_of_beq_eq_true hk2.2
    have k4 := Nat.le_of_ble_eq_true hk.2
    have e0 := e0.trans (Nat.eq_of_beq_eq_true k1)
    have k2 := Nat.eq_of_beq_eq_true k2
    subst k2
    subst k3
    refine dDec (n := 4) ?_
    show Except.bind (Reader.u1 b pc) _ = _
    rw [du1 p0 e0]
    show Except.bind (Reader.u2 b (pc + 1)) _ = _
    rw [du2 p1 e1 p2 e2]
    show Except.bind (Reader.u1 b (pc + 3)) _ = _
    rw [du1 p3 e3]
    rcases hf : f.toNat with _ | m
    · rw [hf] at k4
      omega
    · rfl
  all_goals
    rcases l with _ | ⟨a, l⟩ <;> cases hk
def dSw : Instr → Bool
  | .tableswitch _ _ _ _ => true
  | .lookupswitch _ _ => true
  | _ => false
theorem dLen : ∀ {i : Instr}, dSw i = false → x_lenOk i (x_len i) = true := fun {i} h => by
  cases i <;> first | cases h; done | exact Nat.beq_refl _ | rfl
def dWalk (b : ByteArray) : Nat → List UInt8 → List (Nat × Instr × Nat) → Bool
  | _, _, [] => true
  | p, l, q :: r => Nat.ble p q.1 && (bif dSw q.2.1 then decide (decode b q.1 = .ok q.2) else dChk q.2.1 (l.drop (q.1 - p)) && Nat.beq q.2.2 (x_len q.2.1)) && dWalk b q.1 (l.drop (q.1 - p)) r
theorem dWalk_spec {b : ByteArray} : ∀ {l : List (Nat × Instr × Nat)} {p : Nat} {s : List UInt8}, b.data.toList.drop p = s → dWalk b p s l = true → x_cOk b l = true
  | [], _, _, _, _ => rfl
  | q :: r, p, s, hs, h => by
    unfold dWalk at h
    simp only [Bool.and_eq_true] at h
    obtain ⟨⟨h1, h2⟩, h3⟩ := h
    have h1 := Nat.le_of_ble_eq_true h1
    have hd : b.data.toList.drop q.1 = s.drop (q.1 - p) := by
      rw [← hs, List.drop_drop]
      congr 1
      omega
    have ih := dWalk_spec hd h3
    have hq : (decide (decode b q.1 = .ok q.2) && x_lenOk q.2.1 q.2.2) = true := by
      rcases hw : dSw q.2.1 with _ | _
      · rw [hw] at h2
        have h2 : (dChk q.2.1 (s.drop (q.1 - p)) && Nat.beq q.2.2 (x_len q.2.1)) = true := h2
        obtain ⟨h4, h5⟩ := Bool.and_eq_true_iff.mp h2
        have h5 := Nat.eq_of_beq_eq_true h5
        have e : q.2 = (q.2.1, x_len q.2.1) := Prod.ext rfl h5
        rw [h5, dLen hw, Bool.and_true]
        refine decide_eq_true ?_
        rw [dChk_spec hd h4, e]
      · rw [hw] at h2
        have h2 : decide (decode b q.1 = .ok q.2) = true := h2
        rw [h2, Bool.true_and]
        obtain ⟨pc, i, n⟩ := q
        cases i <;> first | (cases hw; done) | rfl
    unfold x_cOk at ih ⊢
    rw [List.all_cons, hq, ih]
    rfl
theorem x_cOk_w {b : ByteArray} {l : List (Nat × Instr × Nat)} (h : dWalk b 0 b.data.toList l = true) : x_cOk b l = true := dWalk_spec rfl h
end XDec
