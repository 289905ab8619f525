/-! Methods and their instructions, as a table has them. -/
noncomputable section XBase
/-- a method: name, bytes, locals, return, whose pool, the receiver's class, parameters, cells and slots that it may make, its instructions -/
abbrev XM : Type := MethodName × ByteArray × Nat × Option FieldType × Nat × Nat × Nat × Nat × Nat × Bool × (Nat → Option (Instr × Nat))
abbrev mY (q : XM) : MethodName := q.1
abbrev mB (q : XM) : ByteArray := q.2.1
abbrev mL (q : XM) : Nat := q.2.2.1
abbrev mR (q : XM) : Option FieldType := q.2.2.2.1
abbrev mO (q : XM) : Nat := q.2.2.2.2.1
abbrev mRc (q : XM) : Nat := q.2.2.2.2.2.1
abbrev mNp (q : XM) : Nat := q.2.2.2.2.2.2.1
abbrev mMc (q : XM) : Nat := q.2.2.2.2.2.2.2.1
abbrev mMs (q : XM) : Nat := q.2.2.2.2.2.2.2.2.1
abbrev mI (q : XM) : Bool := q.2.2.2.2.2.2.2.2.2.1
abbrev mC (q : XM) : Nat → Option (Instr × Nat) := q.2.2.2.2.2.2.2.2.2.2
/-- the length of an instruction, in bytes -/
def x_len : Instr → Nat
  | .iload _ => 2
  | .aload _ => 2
  | .istore _ => 2
  | .astore _ => 2
  | .bipush _ => 2
  | .newarray _ => 2
  | .ldc _ => 2
  | .sipush _ => 3
  | .iinc _ _ => 3
  | .getfield _ => 3
  | .putfield _ => 3
  | .new _ => 3
  | .anewarray _ => 3
  | .invokespecial _ => 3
  | .invokestatic _ => 3
  | .invokevirtual _ => 3
  | .goto _ => 3
  | .getstatic _ => 3
  | .ifCond _ _ => 3
  | .if_icmp _ _ => 3
  | .ifnull _ => 3
  | .ifnonnull _ => 3
  | .ldc_w _ => 3
  | .multianewarray _ _ => 4
  | _ => 1
def x_lenOk : Instr → Nat → Bool
  | .tableswitch _ _ _ _, _ => true
  | .lookupswitch _ _, _ => true
  | i, n => n == x_len i
def x_at2 : Nat → List (Nat × Instr × Nat) → Option (Instr × Nat)
  | _, [] => none
  | pc, q :: r => if q.1 = pc then some q.2 else x_at2 pc r
def x_cOk (b : ByteArray) (l : List (Nat × Instr × Nat)) : Bool := l.all (fun q => decide (decode b q.1 = .ok q.2) && x_lenOk q.2.1 q.2.2)
theorem x_cOk_spec {b : ByteArray} {pc n : Nat} {i : Instr} : ∀ {l : List (Nat × Instr × Nat)}, x_cOk b l = true → x_at2 pc l = some (i, n) → decode b pc = .ok (i, n) ∧ x_lenOk i n = true
  | [], _, h => by cases h
  | q :: r, hc, h => by
    have hc2 : (decide (decode b q.1 = .ok q.2) && x_lenOk q.2.1 q.2.2) = true ∧ x_cOk b r = true := by
      have h1 := List.all_eq_true.mp hc
      exact ⟨h1 q List.mem_cons_self, List.all_eq_true.mpr fun z hz => h1 z (List.mem_cons_of_mem _ hz)⟩
    simp only [x_at2] at h
    split at h
    · rename_i he
      subst he
      simp only [Option.some.injEq] at h
      have h2 := hc2.1
      simp only [Bool.and_eq_true, decide_eq_true_eq] at h2
      rw [h] at h2
      exact h2
    · exact x_cOk_spec hc2.2 h
def x_Good (b : ByteArray) (g : Nat → Option (Instr × Nat)) : Prop := ∀ pc i n, g pc = some (i, n) → decode b pc = .ok (i, n) ∧ x_lenOk i n = true
theorem x_Good_l {b : ByteArray} {l : List (Nat × Instr × Nat)} (h : x_cOk b l = true) : x_Good b (fun pc => x_at2 pc l) := fun _ _ _ q => x_cOk_spec h q
theorem x_Good_ite {b : ByteArray} {k : Nat} {g1 g2 : Nat → Option (Instr × Nat)} (h1 : x_Good b g1) (h2 : x_Good b g2) : x_Good b (fun pc => if pc < k then g1 pc else g2 pc) := fun pc i n h => by
  have h : (if pc < k then g1 pc else g2 pc) = some (i, n) := h
  by_cases c : pc < k
  · rw [if_pos c] at h
    exact h1 pc i n h
  · rw [if_neg c] at h
    exact h2 pc i n h
end XBase
