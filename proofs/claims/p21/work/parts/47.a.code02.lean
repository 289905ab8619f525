/-! Instructions, by program: part 2. -/
noncomputable section XCode2
def xc48_0 : List (Nat × Instr × Nat) := [(0, .iload_n 1, 1), (1, .ifCond .lt 22, 3), (4, .iload_n 1, 1), (5, .bipush 32, 2), (7, .if_icmp .ge 16, 3), (10, .iload_n 0, 1), (11, .iload_n 1, 1), (12, .ishr, 1), (13, .iconst 1, 1), (14, .iand, 1), (15, .iconst 1, 1), (16, .if_icmp .ne 7, 3), (19, .iconst 1, 1), (20, .goto 4, 3), (23, .iconst 0, 1), (24, .ireturn, 1)]
theorem xo48_0 : x_cOk prog_1_method_70_code xc48_0 = true := x_cOk_w (by decide +kernel)
def xg48 : Nat → Option (Instr × Nat) := fun pc => x_at2 pc xc48_0
theorem xh48 : x_Good prog_1_method_70_code xg48 := by
  unfold xg48
  exact x_Good_l xo48_0
def xm48 : XM := (⟨"TwoDigits", "hasBit", "(II)Z"⟩, prog_1_method_70_code, 2, some .boolean, 0, 0, 2, 0, 0, false, xg48)
def xc49_0 : List (Nat × Instr × Nat) := [(0, .iload_n 1, 1), (1, .istore_n 3, 1), (2, .iconst 0, 1), (3, .istore 4, 2), (5, .iload 4, 2), (7, .aload_n 0, 1), (8, .getfield 44, 3), (11, .if_icmp .ge 32, 3), (14, .aload_n 0, 1), (15, .iload 4, 2), (17, .iload_n 3, 1), (18, .iload_n 2, 1), (19, .invokevirtual 54, 3), (22, .ifCond .eq 15, 3), (25, .iload_n 3, 1), (26, .iconst 1, 1), (27, .aload_n 0, 1), (28, .getfield 13, 3), (31, .iload 4, 2), (33, .iaload, 1), (34, .ishl, 1), (35, .ior, 1), (36, .istore_n 3, 1), (37, .iinc 4 1, 3), (40, .goto (-35), 3), (43, .iload_n 3, 1), (44, .ireturn, 1)]
theorem xo49_0 : x_cOk prog_3_method_6_code xc49_0 = true := x_cOk_w (by decide +kernel)
def xg49 : Nat → Option (Instr × Nat) := fun pc => x_at2 pc xc49_0
theorem xh49 : x_Good prog_3_method_6_code xg49 := by
  unfold xg49
  exact x_Good_l xo49_0
def xm49 : XM := (⟨"TwoDigits$Code", "sureAfter", "(IZ)I"⟩, prog_3_method_6_code, 5, some .int, 2, 2, 2, 0, 0, false, xg49)
def xc50_0 : List (Nat × Instr × Nat) := [(0, .aload_n 0, 1), (1, .getfield 9, 3), (4, .iload_n 1, 1), (5, .iaload, 1), (6, .tableswitch 57 0 6 #[42, 44, 57, 57, 46, 46, 46], 42), (48, .iconst 1, 1), (49, .ireturn, 1), (50, .iload_n 3, 1), (51, .ireturn, 1), (52, .iload_n 2, 1), (53, .aload_n 0, 1), (54, .getfield 16, 3), (57, .iload_n 1, 1), (58, .iaload, 1), (59, .invokestatic 48, 3), (62, .ireturn, 1), (63, .iconst 0, 1), (64, .ireturn, 1)]
theorem xo50_0 : x_cOk prog_3_method_7_code xc50_0 = true := x_cOk_w (by decide +kernel)
def xg50 : Nat → Option (Instr × Nat) := fun pc => x_at2 pc xc50_0
theorem xh50 : x_Good prog_3_method_7_code xg50 := by
  unfold xg50
  exact x_Good_l xo50_0
def xm50 : XM := (⟨"TwoDigits$Code", "givesYear", "(IIZ)Z"⟩, prog_3_method_7_code, 4, some .boolean, 2, 2, 3, 0, 0, false, xg50)
def xc51_0 : List (Nat × Instr × Nat) := [(0, .iconst 0, 1), (1, .istore_n 2, 1), (2, .iconst 0, 1), (3, .istore_n 3, 1), (4, .iload_n 3, 1), (5, .aload_n 0, 1), (6, .getfield 44, 3), (9, .if_icmp .ge 87, 3), (12, .aload_n 0, 1), (13, .getfield 9, 3), (16, .iload_n 3, 1), (17, .iaload, 1), (18, .bipush 7, 2), (20, .if_icmp .eq 14, 3), (23, .aload_n 0, 1), (24, .getfield 9, 3), (27, .iload_n 3, 1), (28, .iaload, 1), (29, .bipush 11, 2), (31, .if_icmp .ne 59, 3), (34, .iload_n 2, 1), (35, .iload_n 1, 1), (36, .aload_n 0, 1), (37, .getfield 13, 3), (40, .iload_n 3, 1), (41, .iaload, 1), (42, .invokestatic 48, 3), (45, .ifCond .eq 14, 3), (48, .iconst 1, 1), (49, .aload_n 0, 1), (50, .getfield 16, 3), (53, .iload_n 3, 1), (54, .iaload, 1), (55, .ishl, 1), (56, .goto 4, 3), (59, .iconst 0, 1), (60, .ior, 1), (61, .istore_n 2, 1), (62, .iload_n 2, 1), (63, .iload_n 1, 1), (64, .aload_n 0, 1), (65, .getfield 16, 3), (68, .iload_n 3, 1), (69, .iaload, 1), (70, .invokestatic 48, 3), (73, .ifCond .eq 14, 3), (76, .iconst 1, 1), (77, .aload_n 0, 1)]
theorem xo51_0 : x_cOk prog_3_method_8_code xc51_0 = true := x_cOk_w (by decide +kernel)
def xc51_1 : List (Nat × Instr × Nat) := [(78, .getfield 13, 3), (81, .iload_n 3, 1), (82, .iaload, 1), (83, .ishl, 1), (84, .goto 4, 3), (87, .iconst 0, 1), (88, .ior, 1), (89, .istore_n 2, 1), (90, .iinc 3 1, 3), (93, .goto (-89), 3), (96, .iload_n 2, 1), (97, .ireturn, 1)]
theorem xo51_1 : x_cOk prog_3_method_8_code xc51_1 = true := x_cOk_w (by decide +kernel)
def xg51 : Nat → Option (Instr × Nat) := fun pc => if pc < 78 then x_at2 pc xc51_0 else x_at2 pc xc51_1
theorem xh51 : x_Good prog_3_method_8_code xg51 := by
  unfold xg51
  exact x_Good_ite (x_Good_l xo51_0) (x_Good_l xo51_1)
def xm51 : XM := (⟨"TwoDigits$Code", "askedBeside", "(I)I"⟩, prog_3_method_8_code, 4, some .int, 2, 2, 1, 0, 0, false, xg51)
def xc52_0 : List (Nat × Instr × Nat) := [(0, .aload_n 0, 1), (1, .iload_n 1, 1), (2, .invokevirtual 117, 3), (5, .astore 4, 2), (7, .aload 4, 2), (9, .ifnull 12, 3), (12, .iload_n 2, 1), (13, .ifCond .lt 8, 3), (16, .iload_n 2, 1), (17, .iconst 1, 1), (18, .if_icmp .le 5, 3), (21, .iconst (-1), 1), (22, .ireturn, 1), (23, .iload_n 3, 1), (24, .iconst 0, 1), (25, .bipush 99, 2), (27, .invokestatic 178, 3), (30, .ifCond .ne 6, 3), (33, .bipush (-2), 2), (35, .ireturn, 1), (36, .iload_n 2, 1), (37, .ifCond .ne 11, 3), (40, .aload 4, 2), (42, .getfield 153, 3), (45, .goto 8, 3), (48, .aload 4, 2), (50, .getfield 156, 3), (53, .istore 5, 2), (55, .iload_n 2, 1), (56, .ifCond .ne 12, 3), (59, .aload 4, 2), (61, .iload_n 3, 1), (62, .putfield 153, 3), (65, .goto 9, 3), (68, .aload 4, 2), (70, .iload_n 3, 1), (71, .putfield 156, 3), (74, .iload 5, 2), (76, .ireturn, 1)]
theorem xo52_0 : x_cOk prog_1_method_6_code xc52_0 = true := x_cOk_w (by decide +kernel)
def xg52 : Nat → Option (Instr × Nat) := fun pc => x_at2 pc xc52_0
theorem xh52 : x_Good prog_1_method_6_code xg52 := by
  unfold xg52
  exact x_Good_l xo52_0
def xm52 : XM := (⟨"TwoDigits", "set", "(III)I"⟩, prog_1_method_6_code, 6, some .int, 0, 0, 3, 0, 0, false, xg52)
def xc53_0 : List (Nat × Instr × Nat) := [(0, .aload_n 0, 1), (1, .iload_n 1, 1), (2, .invokevirtual 117, 3), (5, .astore_n 3, 1), (6, .aload_n 3, 1), (7, .ifnull 16, 3), (10, .iload_n 2, 1), (11, .iconst (-1), 1), (12, .if_icmp .eq 13, 3), (15, .aload_n 0, 1), (16, .iload_n 2, 1), (17, .invokevirtual 117, 3), (20, .ifnonnull 5, 3), (23, .iconst (-1), 1), (24, .ireturn, 1), (25, .iload_n 2, 1), (26, .iload_n 1, 1), (27, .if_icmp .ne 6, 3), (30, .bipush (-2), 2), (32, .ireturn, 1), (33, .aload_n 3, 1), (34, .getfield 124, 3), (37, .istore 4, 2), (39, .aload_n 3, 1), (40, .iload_n 2, 1), (41, .putfield 124, 3), (44, .iload 4, 2), (46, .ireturn, 1)]
theorem xo53_0 : x_cOk prog_1_method_7_code xc53_0 = true := x_cOk_w (by decide +kernel)
def xg53 : Nat → Option (Instr × Nat) := fun pc => x_at2 pc xc53_0
theorem xh53 : x_Good prog_1_method_7_code xg53 := by
  unfold xg53
  exact x_Good_l xo53_0
def xm53 : XM := (⟨"TwoDigits", "input", "(II)I"⟩, prog_1_method_7_code, 5, some .int, 0, 0, 2, 0, 0, false, xg53)
def xc54_0 : List (Nat × Instr × Nat) := [(0, .aload_n 0, 1), (1, .iload_n 1, 1), (2, .invokevirtual 117, 3), (5, .astore 6, 2), (7, .aload_n 0, 1), (8, .iload_n 2, 1), (9, .invokevirtual 182, 3), (12, .astore 7, 2), (14, .aload 6, 2), (16, .ifnull 17, 3), (19, .aload 7, 2), (21, .ifnull 12, 3), (24, .iload_n 3, 1), (25, .iconst 0, 1), (26, .iconst 2, 1), (27, .invokestatic 178, 3), (30, .ifCond .ne 5, 3), (33, .iconst (-1), 1), (34, .ireturn, 1), (35, .iload 5, 2), (37, .iconst 0, 1), (38, .bipush 12, 2), (40, .invokestatic 178, 3), (43, .ifCond .ne 6, 3), (46, .bipush (-2), 2), (48, .ireturn, 1), (49, .iload 5, 2), (51, .ifCond .le 23, 3), (54, .aload 7, 2), (56, .iload_n 3, 1), (57, .iload 4, 2), (59, .iload 5, 2), (61, .invokestatic 186, 3), (64, .istore 8, 2), (66, .iload 8, 2), (68, .ifCond .eq 6, 3), (71, .iload 8, 2), (73, .ireturn, 1), (74, .aload 6, 2), (76, .getfield 190, 3), (79, .invokevirtual 193, 3), (82, .iconst 0, 1), (83, .istore 8, 2), (85, .iload 8, 2), (87, .iload 5, 2), (89, .if_icmp .ge 31, 3), (92, .aload 6, 2), (94, .getfield 190, 3)]
theorem xo54_0 : x_cOk prog_1_method_8_code xc54_0 = true := x_cOk_w (by decide +kernel)
def xc54_1 : List (Nat × Instr × Nat) := [(97, .aload 7, 2), (99, .iload 4, 2), (101, .iload 8, 2), (103, .iadd, 1), (104, .invokevirtual 196, 3), (107, .invokestatic 200, 3), (110, .invokevirtual 203, 3), (113, .pop, 1), (114, .iinc 8 1, 3), (117, .goto (-32), 3), (120, .iload 5, 2), (122, .ireturn, 1)]
theorem xo54_1 : x_cOk prog_1_method_8_code xc54_1 = true := x_cOk_w (by decide +kernel)
def xg54 : Nat → Option (Instr × Nat) := fun pc => if pc < 97 then x_at2 pc xc54_0 else x_at2 pc xc54_1
theorem xh54 : x_Good prog_1_method_8_code xg54 := by
  unfold xg54
  exact x_Good_ite (x_Good_l xo54_0) (x_Good_l xo54_1)
def xm54 : XM := (⟨"TwoDigits", "shelf", "(IIIII)I"⟩, prog_1_method_8_code, 9, some .int, 0, 0, 5, 0, 0, false, xg54)
def xc55_0 : List (Nat × Instr × Nat) := [(0, .iload_n 1, 1), (1, .ifCond .lt 17, 3), (4, .iload_n 1, 1), (5, .iconst 3, 1), (6, .if_icmp .ge 12, 3), (9, .aload_n 0, 1), (10, .getfield 95, 3), (13, .iload_n 1, 1), (14, .aaload, 1), (15, .goto 4, 3), (18, .aconst_null, 1), (19, .areturn, 1)]
theorem xo55_0 : x_cOk prog_1_method_62_code xc55_0 = true := x_cOk_w (by decide +kernel)
def xg55 : Nat → Option (Instr × Nat) := fun pc => x_at2 pc xc55_0
theorem xh55 : x_Good prog_1_method_62_code xg55 := by
  unfold xg55
  exact x_Good_l xo55_0
def xm55 : XM := (⟨"TwoDigits", "sheetAt", "(I)LTwoDigits$Sheet;"⟩, prog_1_method_62_code, 2, some (.object "TwoDigits$Sheet"), 0, 0, 1, 0, 0, false, xg55)
def xc56_0 : List (Nat × Instr × Nat) := [(0, .aload_n 0, 1), (1, .getfield 206, 3), (4, .iconst (-1), 1), (5, .if_icmp .eq 14, 3), (8, .aload_n 0, 1), (9, .getfield 206, 3), (12, .iload_n 1, 1), (13, .if_icmp .eq 6, 3), (16, .bipush (-13), 2), (18, .ireturn, 1), (19, .aload_n 0, 1), (20, .getfield 206, 3), (23, .iconst (-1), 1), (24, .if_icmp .ne 6, 3), (27, .bipush (-11), 2), (29, .ireturn, 1), (30, .aload_n 0, 1), (31, .iload_n 2, 1), (32, .iload_n 3, 1), (33, .invokevirtual 209, 3), (36, .ifCond .eq 7, 3), (39, .iconst 0, 1), (40, .goto 5, 3), (43, .bipush (-12), 2), (45, .ireturn, 1)]
theorem xo56_0 : x_cOk prog_1_method_9_code xc56_0 = true := x_cOk_w (by decide +kernel)
def xg56 : Nat → Option (Instr × Nat) := fun pc => x_at2 pc xc56_0
theorem xh56 : x_Good prog_1_method_9_code xg56 := by
  unfold xg56
  exact x_Good_l xo56_0
def xm56 : XM := (⟨"TwoDigits", "refusalToTake", "(LTwoDigits$Sheet;III)I"⟩, prog_1_method_9_code, 4, some .int, 0, 0, 4, 0, 0, false, xg56)
def xc57_0 : List (Nat × Instr × Nat) := [(0, .iload_n 1, 1), (1, .ifCond .lt 29, 3), (4, .iload_n 2, 1), (5, .ifCond .lt 25, 3), (8, .iload_n 1, 1), (9, .aload_n 0, 1), (10, .getfield 19, 3), (13, .if_icmp .gt 17, 3), (16, .iload_n 2, 1), (17, .aload_n 0, 1), (18, .getfield 19, 3), (21, .iload_n 1, 1), (22, .isub, 1), (23, .if_icmp .gt 7, 3), (26, .iconst 1, 1), (27, .goto 4, 3), (30, .iconst 0, 1), (31, .ireturn, 1)]
theorem xo57_0 : x_cOk prog_9_method_3_code xc57_0 = true := x_cOk_w (by decide +kernel)
def xg57 : Nat → Option (Instr × Nat) := fun pc => x_at2 pc xc57_0
theorem xh57 : x_Good prog_9_method_3_code xg57 := by
  unfold xg57
  exact x_Good_l xo57_0
def xm57 : XM := (⟨"TwoDigits$Sheet", "hasItems", "(II)Z"⟩, prog_9_method_3_code, 3, some .boolean, 9, 9, 2, 0, 0, false, xg57)
def xc58_0 : List (Nat × Instr × Nat) := [(0, .aload_n 0, 1), (1, .iconst 0, 1), (2, .putfield 13, 3), (5, .return_, 1)]
theorem xo58_0 : x_cOk prog_6_method_2_code xc58_0 = true := x_cOk_w (by decide +kernel)
def xg58 : Nat → Option (Instr × Nat) := fun pc => x_at2 pc xc58_0
theorem xh58 : x_Good prog_6_method_2_code xg58 := by
  unfold xg58
  exact x_Good_l xo58_0
def xm58 : XM := (⟨"TwoDigits$Row", "clear", "()V"⟩, prog_6_method_2_code, 1, none, 5, 5, 0, 0, 0, false, xg58)
def xc59_0 : List (Nat × Instr × Nat) := [(0, .aload_n 0, 1), (1, .iload_n 1, 1), (2, .iconst 1, 1), (3, .invokevirtual 22, 3), (6, .ifCond .eq 12, 3), (9, .aload_n 0, 1), (10, .getfield 11, 3), (13, .iload_n 1, 1), (14, .iaload, 1), (15, .goto 4, 3), (18, .iconst 0, 1), (19, .ireturn, 1)]
theorem xo59_0 : x_cOk prog_9_method_4_code xc59_0 = true := x_cOk_w (by decide +kernel)
def xg59 : Nat → Option (Instr × Nat) := fun pc => x_at2 pc xc59_0
theorem xh59 : x_Good prog_9_method_4_code xg59 := by
  unfold xg59
  exact x_Good_l xo59_0
def xm59 : XM := (⟨"TwoDigits$Sheet", "item", "(I)I"⟩, prog_9_method_4_code, 2, some .int, 9, 9, 1, 0, 0, false, xg59)
def xc60_0 : List (Nat × Instr × Nat) := [(0, .iload_n 0, 1), (1, .ifCond .ge 7, 3), (4, .iconst 0, 1), (5, .goto 8, 3), (8, .iload_n 0, 1), (9, .sipush 10000, 3), (12, .irem, 1), (13, .ireturn, 1)]
theorem xo60_0 : x_cOk prog_1_method_10_code xc60_0 = true := x_cOk_w (by decide +kernel)
def xg60 : Nat → Option (Instr × Nat) := fun pc => x_at2 pc xc60_0
theorem xh60 : x_Good prog_1_method_10_code xg60 := by
  unfold xg60
  exact x_Good_l xo60_0
def xm60 : XM := (⟨"TwoDigits", "readFromShelf", "(I)I"⟩, prog_1_method_10_code, 1, some .int, 0, 0, 1, 0, 0, false, xg60)
def xc61_0 : List (Nat × Instr × Nat) := [(0, .aload_n 0, 1), (1, .getfield 13, 3), (4, .bipush 12, 2), (6, .if_icmp .lt 5, 3), (9, .iconst 0, 1), (10, .ireturn, 1), (11, .aload_n 0, 1), (12, .getfield 9, 3), (15, .aload_n 0, 1), (16, .getfield 13, 3), (19, .iload_n 1, 1), (20, .iastore, 1), (21, .aload_n 0, 1), (22, .dup, 1), (23, .getfield 13, 3), (26, .iconst 1, 1), (27, .iadd, 1), (28, .putfield 13, 3), (31, .iconst 1, 1), (32, .ireturn, 1)]
theorem xo61_0 : x_cOk prog_6_method_3_code xc61_0 = true := x_cOk_w (by decide +kernel)
def xg61 : Nat → Option (Instr × Nat) := fun pc => x_at2 pc xc61_0
theorem xh61 : x_Good prog_6_method_3_code xg61 := by
  unfold xg61
  exact x_Good_l xo61_0
def xm61 : XM := (⟨"TwoDigits$Row", "add", "(I)Z"⟩, prog_6_method_3_code, 2, some .boolean, 5, 5, 1, 0, 0, false, xg61)
def xc62_0 : List (Nat × Instr × Nat) := [(0, .aload_n 0, 1), (1, .iload_n 1, 1), (2, .invokevirtual 117, 3), (5, .astore_n 3, 1), (6, .aload_n 3, 1), (7, .ifnonnull 5, 3), (10, .iconst (-1), 1), (11, .ireturn, 1), (12, .iload_n 2, 1), (13, .invokestatic 212, 3), (16, .ifCond .ne 6, 3), (19, .bipush (-2), 2), (21, .ireturn, 1), (22, .aload_n 0, 1), (23, .aload_n 3, 1), (24, .iload_n 2, 1), (25, .invokevirtual 215, 3), (28, .aload_n 3, 1), (29, .getfield 147, 3), (32, .ireturn, 1)]
theorem xo62_0 : x_cOk prog_1_method_11_code xc62_0 = true := x_cOk_w (by decide +kernel)
def xg62 : Nat → Option (Instr × Nat) := fun pc => x_at2 pc xc62_0
theorem xh62 : x_Good prog_1_method_11_code xg62 := by
  unfold xg62
  exact x_Good_l xo62_0
def xm62 : XM := (⟨"TwoDigits", "run", "(II)I"⟩, prog_1_method_11_code, 4, some .int, 0, 0, 2, 0, 0, false, xg62)
def xc63_0 : List (Nat × Instr × Nat) := [(0, .iload_n 0, 1), (1, .sipush 1900, 3), (4, .sipush 2099, 3), (7, .invokestatic 178, 3), (10, .ireturn, 1)]
theorem xo63_0 : x_cOk prog_1_method_64_code xc63_0 = true := x_cOk_w (by decide +kernel)
def xg63 : Nat → Option (Instr × Nat) := fun pc => x_at2 pc xc63_0
theorem xh63 : x_Good prog_1_method_64_code xg63 := by
  unfold xg63
  exact x_Good_l xo63_0
def xm63 : XM := (⟨"TwoDigits", "isYear", "(I)Z"⟩, prog_1_method_64_code, 1, some .boolean, 0, 0, 1, 0, 0, false, xg63)
def xc64_0 : List (Nat × Instr × Nat) := [(0, .aload_n 0, 1), (1, .dup, 1), (2, .getfield 424, 3), (5, .iconst 1, 1), (6, .iadd, 1), (7, .putfield 424, 3), (10, .aload_n 0, 1), (11, .getfield 47, 3), (14, .aload_n 1, 1), (15, .getfield 133, 3), (18, .aload_n 1, 1), (19, .getfield 127, 3), (22, .aload_n 0, 1), (23, .aload_n 1, 1), (24, .invokevirtual 309, 3), (27, .aload_n 1, 1), (28, .getfield 137, 3), (31, .iload_n 2, 1), (32, .invokevirtual 316, 3), (35, .aload_n 0, 1), (36, .getfield 51, 3), (39, .aload_n 1, 1), (40, .getfield 133, 3), (43, .aload_n 0, 1), (44, .getfield 38, 3), (47, .aload_n 0, 1), (48, .aload_n 1, 1), (49, .invokevirtual 445, 3), (52, .aload_n 1, 1), (53, .getfield 144, 3), (56, .iload_n 2, 1), (57, .invokevirtual 316, 3), (60, .iconst (-1), 1), (61, .istore_n 3, 1), (62, .iconst 0, 1), (63, .istore 4, 2), (65, .iload 4, 2), (67, .sipush 150, 3), (70, .if_icmp .ge 67, 3), (73, .aload_n 0, 1), (74, .getfield 47, 3), (77, .invokevirtual 448, 3), (80, .ifCond .eq 13, 3), (83, .aload_n 0, 1), (84, .getfield 51, 3), (87, .invokevirtual 448, 3), (90, .ifCond .ne 47, 3), (93, .aload_n 0, 1)]
theorem xo64_0 : x_cOk prog_1_method_75_code xc64_0 = true := x_cOk_w (by decide +kernel)
def xc64_1 : List (Nat × Instr × Nat) := [(94, .getfield 47, 3), (97, .getfield 452, 3), (100, .istore 5, 2), (102, .aload_n 0, 1), (103, .getfield 47, 3), (106, .invokevirtual 455, 3), (109, .aload_n 0, 1), (110, .getfield 51, 3), (113, .invokevirtual 455, 3), (116, .iload_n 3, 1), (117, .iconst (-1), 1), (118, .if_icmp .ne 13, 3), (121, .aload_n 0, 1), (122, .invokevirtual 458, 3), (125, .ifCond .eq 6, 3), (128, .iload 5, 2), (130, .istore_n 3, 1), (131, .iinc 4 1, 3), (134, .goto (-69), 3), (137, .aload_n 1, 1), (138, .aload_n 0, 1), (139, .getfield 47, 3), (142, .getfield 461, 3), (145, .putfield 147, 3), (148, .aload_n 1, 1), (149, .aload_n 0, 1), (150, .getfield 51, 3), (153, .getfield 461, 3), (156, .putfield 150, 3), (159, .aload_n 1, 1), (160, .aload_n 0, 1), (161, .getfield 47, 3), (164, .getfield 462, 3), (167, .putfield 225, 3), (170, .aload_n 1, 1), (171, .aload_n 0, 1), (172, .getfield 51, 3), (175, .getfield 462, 3), (178, .putfield 228, 3), (181, .aload_n 1, 1), (182, .iload_n 3, 1), (183, .putfield 231, 3), (186, .aload_n 1, 1), (187, .aload_n 0, 1), (188, .getfield 47, 3), (191, .getfield 461, 3), (194, .aload_n 0, 1), (195, .getfield 51, 3)]
theorem xo64_1 : x_cOk prog_1_method_75_code xc64_1 = true := x_cOk_w (by decide +kernel)
def xc64_2 : List (Nat × Instr × Nat) := [(198, .getfield 461, 3), (201, .if_icmp .ne 17, 3), (204, .aload_n 1, 1), (205, .getfield 137, 3), (208, .aload_n 1, 1), (209, .getfield 144, 3), (212, .invokevirtual 324, 3), (215, .ifCond .ne 7, 3), (218, .iconst 1, 1), (219, .goto 4, 3), (222, .iconst 0, 1), (223, .putfield 159, 3), (226, .return_, 1)]
theorem xo64_2 : x_cOk prog_1_method_75_code xc64_2 = true := x_cOk_w (by decide +kernel)
def xg64 : Nat → Option (Instr × Nat) := fun pc => if pc < 94 then x_at2 pc xc64_0 else if pc < 198 then x_at2 pc xc64_1 else x_at2 pc xc64_2
theorem xh64 : x_Good prog_1_method_75_code xg64 := by
  unfold xg64
  exact x_Good_ite (x_Good_l xo64_0) (x_Good_ite (x_Good_l xo64_1) (x_Good_l xo64_2))
def xm64 : XM := (⟨"TwoDigits", "makeRun", "(LTwoDigits$Program;I)V"⟩, prog_1_method_75_code, 6, none, 0, 0, 2, 0, 0, false, xg64)
def xc65_0 : List (Nat × Instr × Nat) := [(0, .aload_n 0, 1), (1, .aload_n 1, 1), (2, .getfield 124, 3), (5, .invokevirtual 117, 3), (8, .astore_n 2, 1), (9, .aload_n 2, 1), (10, .ifnonnull 10, 3), (13, .aload_n 1, 1), (14, .getfield 190, 3), (17, .goto 7, 3), (20, .aload_n 2, 1), (21, .getfield 137, 3), (24, .areturn, 1)]
theorem xo65_0 : x_cOk prog_1_method_73_code xc65_0 = true := x_cOk_w (by decide +kernel)
def xg65 : Nat → Option (Instr × Nat) := fun pc => x_at2 pc xc65_0
theorem xh65 : x_Good prog_1_method_73_code xg65 := by
  unfold xg65
  exact x_Good_l xo65_0
def xm65 : XM := (⟨"TwoDigits", "inputOf", "(LTwoDigits$Program;)LTwoDigits$Row;"⟩, prog_1_method_73_code, 3, some (.object "TwoDigits$Row"), 0, 0, 1, 0, 0, false, xg65)
def xc66_0 : List (Nat × Instr × Nat) := [(0, .aload_n 0, 1), (1, .aload_n 1, 1), (2, .putfield 25, 3), (5, .aload_n 0, 1), (6, .aload_n 2, 1), (7, .putfield 34, 3), (10, .aload_n 0, 1), (11, .aload_n 3, 1), (12, .putfield 38, 3), (15, .aload_n 0, 1), (16, .aload 4, 2), (18, .putfield 41, 3), (21, .aload_n 0, 1), (22, .iload 5, 2), (24, .putfield 48, 3), (27, .aload_n 0, 1), (28, .iconst 0, 1), (29, .putfield 51, 3), (32, .aload_n 0, 1), (33, .iconst 0, 1), (34, .putfield 54, 3), (37, .aload_n 0, 1), (38, .iconst 0, 1), (39, .putfield 57, 3), (42, .aload_n 0, 1), (43, .aload_n 0, 1), (44, .getfield 25, 3), (47, .getfield 60, 3), (50, .ifCond .le 7, 3), (53, .iconst (-1), 1), (54, .goto 4, 3), (57, .iconst 0, 1), (58, .putfield 44, 3), (61, .aload_n 0, 1), (62, .getfield 41, 3), (65, .invokevirtual 63, 3), (68, .iconst 0, 1), (69, .istore 6, 2), (71, .iload 6, 2), (73, .bipush 6, 2), (75, .if_icmp .ge 17, 3), (78, .aload_n 0, 1), (79, .getfield 9, 3), (82, .iload 6, 2), (84, .iconst 0, 1), (85, .iastore, 1), (86, .iinc 6 1, 3), (89, .goto (-18), 3)]
theorem xo66_0 : x_cOk prog_7_method_2_code xc66_0 = true := x_cOk_w (by decide +kernel)
def xc66_1 : List (Nat × Instr × Nat) := [(92, .return_, 1)]
theorem xo66_1 : x_cOk prog_7_method_2_code xc66_1 = true := x_cOk_w (by decide +kernel)
def xg66 : Nat → Option (Instr × Nat) := fun pc => if pc < 92 then x_at2 pc xc66_0 else x_at2 pc xc66_1
theorem xh66 : x_Good prog_7_method_2_code xg66 := by
  unfold xg66
  exact x_Good_ite (x_Good_l xo66_0) (x_Good_l xo66_1)
def xm66 : XM := (⟨"TwoDigits$Runner", "begin", "(LTwoDigits$Code;LTwoDigits$Setting;LTwoDigits$Row;LTwoDigits$Row;I)V"⟩, prog_7_method_2_code, 7, none, 4, 4, 5, 0, 0, false, xg66)
def xc67_0 : List (Nat × Instr × Nat) := [(0, .aload_n 0, 1), (1, .aload_n 1, 1), (2, .getfield 124, 3), (5, .invokevirtual 117, 3), (8, .astore_n 2, 1), (9, .aload_n 2, 1), (10, .ifnonnull 10, 3), (13, .aload_n 1, 1), (14, .getfield 190, 3), (17, .goto 7, 3), (20, .aload_n 2, 1), (21, .getfield 144, 3), (24, .areturn, 1)]
theorem xo67_0 : x_cOk prog_1_method_74_code xc67_0 = true := x_cOk_w (by decide +kernel)
def xg67 : Nat → Option (Instr × Nat) := fun pc => x_at2 pc xc67_0
theorem xh67 : x_Good prog_1_method_74_code xg67 := by
  unfold xg67
  exact x_Good_l xo67_0
def xm67 : XM := (⟨"TwoDigits", "twinInputOf", "(LTwoDigits$Program;)LTwoDigits$Row;"⟩, prog_1_method_74_code, 3, some (.object "TwoDigits$Row"), 0, 0, 1, 0, 0, false, xg67)
def xc68_0 : List (Nat × Instr × Nat) := [(0, .aload_n 0, 1), (1, .getfield 44, 3), (4, .iconst (-1), 1), (5, .if_icmp .eq 7, 3), (8, .iconst 1, 1), (9, .goto 4, 3), (12, .iconst 0, 1), (13, .ireturn, 1)]
theorem xo68_0 : x_cOk prog_7_method_3_code xc68_0 = true := x_cOk_w (by decide +kernel)
def xg68 : Nat → Option (Instr × Nat) := fun pc => x_at2 pc xc68_0
theorem xh68 : x_Good prog_7_method_3_code xg68 := by
  unfold xg68
  exact x_Good_l xo68_0
def xm68 : XM := (⟨"TwoDigits$Runner", "isOver", "()Z"⟩, prog_7_method_3_code, 1, some .boolean, 4, 4, 0, 0, 0, false, xg68)
def xc69_0 : List (Nat × Instr × Nat) := [(0, .aload_n 0, 1), (1, .iconst 0, 1), (2, .putfield 73, 3), (5, .aload_n 0, 1), (6, .invokevirtual 66, 3), (9, .ifCond .eq 4, 3), (12, .return_, 1), (13, .aload_n 0, 1), (14, .dup, 1), (15, .getfield 57, 3), (18, .iconst 1, 1), (19, .iadd, 1), (20, .putfield 57, 3), (23, .aload_n 0, 1), (24, .getfield 25, 3), (27, .getfield 77, 3), (30, .aload_n 0, 1), (31, .getfield 51, 3), (34, .iaload, 1), (35, .istore_n 1, 1), (36, .aload_n 0, 1), (37, .getfield 25, 3), (40, .getfield 80, 3), (43, .aload_n 0, 1), (44, .getfield 51, 3), (47, .iaload, 1), (48, .istore_n 2, 1), (49, .aload_n 0, 1), (50, .getfield 25, 3), (53, .getfield 83, 3), (56, .aload_n 0, 1), (57, .getfield 51, 3), (60, .iaload, 1), (61, .istore_n 3, 1), (62, .aload_n 0, 1), (63, .getfield 51, 3), (66, .iconst 1, 1), (67, .iadd, 1), (68, .istore 4, 2), (70, .aload_n 0, 1), (71, .getfield 25, 3), (74, .getfield 84, 3), (77, .aload_n 0, 1), (78, .getfield 51, 3), (81, .iaload, 1), (82, .tableswitch 280 0 11 #[62, 83, 91, 99, 117, 140, 170, 200, 248, 274, 280, 224], 62), (144, .aload_n 0, 1), (145, .getfield 9, 3)]
theorem xo69_0 : x_cOk prog_7_method_5_code xc69_0 = true := x_cOk_w (by decide +kernel)
def xc69_1 : List (Nat × Instr × Nat) := [(148, .iload_n 1, 1), (149, .aload_n 0, 1), (150, .getfield 34, 3), (153, .iload_n 1, 1), (154, .aload_n 0, 1), (155, .getfield 48, 3), (158, .invokevirtual 87, 3), (161, .iastore, 1), (162, .goto 205, 3), (165, .aload_n 0, 1), (166, .iload_n 1, 1), (167, .invokevirtual 91, 3), (170, .goto 197, 3), (173, .aload_n 0, 1), (174, .iload_n 1, 1), (175, .invokevirtual 95, 3), (178, .goto 189, 3), (181, .aload_n 0, 1), (182, .getfield 9, 3), (185, .iload_n 1, 1), (186, .aload_n 0, 1), (187, .getfield 34, 3), (190, .iload_n 1, 1), (191, .iload_n 3, 1), (192, .invokevirtual 87, 3), (195, .iastore, 1), (196, .goto 171, 3), (199, .aload_n 0, 1), (200, .getfield 9, 3), (203, .iload_n 1, 1), (204, .aload_n 0, 1), (205, .getfield 34, 3), (208, .iload_n 1, 1), (209, .aload_n 0, 1), (210, .getfield 9, 3), (213, .iload_n 2, 1), (214, .iaload, 1), (215, .invokevirtual 87, 3), (218, .iastore, 1), (219, .goto 148, 3), (222, .aload_n 0, 1), (223, .getfield 9, 3), (226, .iload_n 1, 1), (227, .aload_n 0, 1), (228, .getfield 34, 3), (231, .iload_n 1, 1), (232, .aload_n 0, 1), (233, .getfield 9, 3)]
theorem xo69_1 : x_cOk prog_7_method_5_code xc69_1 = true := x_cOk_w (by decide +kernel)
def xc69_2 : List (Nat × Instr × Nat) := [(236, .iload_n 1, 1), (237, .iaload, 1), (238, .aload_n 0, 1), (239, .getfield 9, 3), (242, .iload_n 2, 1), (243, .iaload, 1), (244, .iadd, 1), (245, .invokevirtual 87, 3), (248, .iastore, 1), (249, .goto 118, 3), (252, .aload_n 0, 1), (253, .getfield 9, 3), (256, .iload_n 1, 1), (257, .aload_n 0, 1), (258, .getfield 34, 3), (261, .iload_n 1, 1), (262, .aload_n 0, 1), (263, .getfield 9, 3), (266, .iload_n 1, 1), (267, .iaload, 1), (268, .aload_n 0, 1), (269, .getfield 9, 3), (272, .iload_n 2, 1), (273, .iaload, 1), (274, .isub, 1), (275, .invokevirtual 87, 3), (278, .iastore, 1), (279, .goto 88, 3), (282, .aload_n 0, 1), (283, .iload_n 1, 1), (284, .invokevirtual 98, 3), (287, .aload_n 0, 1), (288, .iload_n 2, 1), (289, .invokevirtual 98, 3), (292, .if_icmp .ge 7, 3), (295, .iload_n 3, 1), (296, .goto 5, 3), (299, .iload 4, 2), (301, .istore 4, 2), (303, .goto 64, 3), (306, .aload_n 0, 1), (307, .iload_n 1, 1), (308, .invokevirtual 98, 3), (311, .aload_n 0, 1), (312, .iload_n 2, 1), (313, .invokevirtual 98, 3), (316, .if_icmp .ne 7, 3), (319, .iload_n 3, 1)]
theorem xo69_2 : x_cOk prog_7_method_5_code xc69_2 = true := x_cOk_w (by decide +kernel)
def xc69_3 : List (Nat × Instr × Nat) := [(320, .goto 5, 3), (323, .iload 4, 2), (325, .istore 4, 2), (327, .goto 40, 3), (330, .aload_n 0, 1), (331, .getfield 34, 3), (334, .aload_n 0, 1), (335, .iload_n 1, 1), (336, .invokevirtual 98, 3), (339, .invokevirtual 102, 3), (342, .ifCond .eq 7, 3), (345, .iload_n 3, 1), (346, .goto 5, 3), (349, .iload 4, 2), (351, .istore 4, 2), (353, .goto 14, 3), (356, .iload_n 3, 1), (357, .istore 4, 2), (359, .goto 8, 3), (362, .aload_n 0, 1), (363, .iconst 0, 1), (364, .putfield 44, 3), (367, .aload_n 0, 1), (368, .invokevirtual 66, 3), (371, .ifCond .ne 9, 3), (374, .aload_n 0, 1), (375, .iload 4, 2), (377, .invokevirtual 106, 3), (380, .return_, 1)]
theorem xo69_3 : x_cOk prog_7_method_5_code xc69_3 = true := x_cOk_w (by decide +kernel)
def xg69 : Nat → Option (Instr × Nat) := fun pc => if pc < 148 then x_at2 pc xc69_0 else if pc < 236 then x_at2 pc xc69_1 else if pc < 320 then x_at2 pc xc69_2 else x_at2 pc xc69_3
theorem xh69 : x_Good prog_7_method_5_code xg69 := by
  unfold xg69
  exact x_Good_ite (x_Good_l xo69_0) (x_Good_ite (x_Good_l xo69_1) (x_Good_ite (x_Good_l xo69_2) (x_Good_l xo69_3)))
def xm69 : XM := (⟨"TwoDigits$Runner", "step", "()V"⟩, prog_7_method_5_code, 5, none, 4, 4, 0, 0, 0, false, xg69)
def xc70_0 : List (Nat × Instr × Nat) := [(0, .aload_n 0, 1), (1, .getfield 18, 3), (4, .ifCond .eq 7, 3), (7, .iload_n 2, 1), (8, .goto 25, 3), (11, .iload_n 2, 1), (12, .aload_n 0, 1), (13, .getfield 9, 3), (16, .iload_n 1, 1), (17, .iaload, 1), (18, .iconst 2, 1), (19, .if_icmp .ne 8, 3), (22, .bipush 100, 2), (24, .goto 6, 3), (27, .sipush 10000, 3), (30, .invokestatic 32, 3), (33, .ireturn, 1)]
theorem xo70_0 : x_cOk prog_8_method_4_code xc70_0 = true := x_cOk_w (by decide +kernel)
def xg70 : Nat → Option (Instr × Nat) := fun pc => x_at2 pc xc70_0
theorem xh70 : x_Good prog_8_method_4_code xg70 := by
  unfold xg70
  exact x_Good_l xo70_0
def xm70 : XM := (⟨"TwoDigits$Setting", "cut", "(II)I"⟩, prog_8_method_4_code, 3, some .int, 3, 3, 2, 0, 0, false, xg70)
def xc71_0 : List (Nat × Instr × Nat) := [(0, .iload_n 0, 1), (1, .iload_n 1, 1), (2, .irem, 1), (3, .istore_n 2, 1), (4, .iload_n 0, 1), (5, .iload_n 1, 1), (6, .ixor, 1), (7, .ifCond .ge 11, 3), (10, .iload_n 2, 1), (11, .ifCond .eq 7, 3), (14, .iload_n 2, 1), (15, .iload_n 1, 1), (16, .iadd, 1), (17, .ireturn, 1), (18, .iload_n 2, 1), (19, .ireturn, 1)]
theorem xo71_0 : x_cOk prog_16_method_50_code xc71_0 = true := x_cOk_w (by decide +kernel)
def xg71 : Nat → Option (Instr × Nat) := fun pc => x_at2 pc xc71_0
theorem xh71 : x_Good prog_16_method_50_code xg71 := by
  unfold xg71
  exact x_Good_l xo71_0
def xm71 : XM := (⟨"java/lang/Math", "floorMod", "(II)I"⟩, prog_16_method_50_code, 3, some .int, 14, 114, 2, 0, 0, false, xg71)
def xc72_0 : List (Nat × Instr × Nat) := [(0, .aload_n 0, 1), (1, .getfield 38, 3), (4, .aload_n 0, 1), (5, .getfield 54, 3), (8, .invokevirtual 109, 3), (11, .ifCond .ne 9, 3), (14, .aload_n 0, 1), (15, .iconst 1, 1), (16, .putfield 44, 3), (19, .return_, 1), (20, .aload_n 0, 1), (21, .getfield 9, 3), (24, .iload_n 1, 1), (25, .aload_n 0, 1), (26, .getfield 34, 3), (29, .iload_n 1, 1), (30, .aload_n 0, 1), (31, .getfield 38, 3), (34, .aload_n 0, 1), (35, .getfield 54, 3), (38, .invokevirtual 112, 3), (41, .invokevirtual 87, 3), (44, .iastore, 1), (45, .aload_n 0, 1), (46, .dup, 1), (47, .getfield 54, 3), (50, .iconst 1, 1), (51, .iadd, 1), (52, .putfield 54, 3), (55, .return_, 1)]
theorem xo72_0 : x_cOk prog_7_method_7_code xc72_0 = true := x_cOk_w (by decide +kernel)
def xg72 : Nat → Option (Instr × Nat) := fun pc => x_at2 pc xc72_0
theorem xh72 : x_Good prog_7_method_7_code xg72 := by
  unfold xg72
  exact x_Good_l xo72_0
def xm72 : XM := (⟨"TwoDigits$Runner", "readInto", "(I)V"⟩, prog_7_method_7_code, 2, none, 4, 4, 1, 0, 0, false, xg72)
def xc73_0 : List (Nat × Instr × Nat) := [(0, .iload_n 1, 1), (1, .ifCond .lt 15, 3), (4, .iload_n 1, 1), (5, .aload_n 0, 1), (6, .getfield 13, 3), (9, .if_icmp .ge 7, 3), (12, .iconst 1, 1), (13, .goto 4, 3), (16, .iconst 0, 1), (17, .ireturn, 1)]
theorem xo73_0 : x_cOk prog_6_method_4_code xc73_0 = true := x_cOk_w (by decide +kernel)
def xg73 : Nat → Option (Instr × Nat) := fun pc => x_at2 pc xc73_0
theorem xh73 : x_Good prog_6_method_4_code xg73 := by
  unfold xg73
  exact x_Good_l xo73_0
def xm73 : XM := (⟨"TwoDigits$Row", "has", "(I)Z"⟩, prog_6_method_4_code, 2, some .boolean, 5, 5, 1, 0, 0, false, xg73)
def xc74_0 : List (Nat × Instr × Nat) := [(0, .aload_n 0, 1), (1, .iload_n 1, 1), (2, .invokevirtual 17, 3), (5, .ifCond .eq 12, 3), (8, .aload_n 0, 1), (9, .getfield 9, 3), (12, .iload_n 1, 1), (13, .iaload, 1), (14, .goto 4, 3), (17, .iconst 0, 1), (18, .ireturn, 1)]
theorem xo74_0 : x_cOk prog_6_method_5_code xc74_0 = true := x_cOk_w (by decide +kernel)
def xg74 : Nat → Option (Instr × Nat) := fun pc => x_at2 pc xc74_0
theorem xh74 : x_Good prog_6_method_5_code xg74 := by
  unfold xg74
  exact x_Good_l xo74_0
def xm74 : XM := (⟨"TwoDigits$Row", "get", "(I)I"⟩, prog_6_method_5_code, 2, some .int, 5, 5, 1, 0, 0, false, xg74)
def xc75_0 : List (Nat × Instr × Nat) := [(0, .aload_n 0, 1), (1, .aload_n 0, 1), (2, .getfield 41, 3), (5, .aload_n 0, 1), (6, .getfield 9, 3), (9, .iload_n 1, 1), (10, .iaload, 1), (11, .invokevirtual 115, 3), (14, .putfield 73, 3), (17, .aload_n 0, 1), (18, .aload_n 0, 1), (19, .getfield 9, 3), (22, .iload_n 1, 1), (23, .iaload, 1), (24, .putfield 118, 3), (27, .aload_n 0, 1), (28, .getfield 73, 3), (31, .ifCond .ne 8, 3), (34, .aload_n 0, 1), (35, .iconst 1, 1), (36, .putfield 44, 3), (39, .return_, 1)]
theorem xo75_0 : x_cOk prog_7_method_8_code xc75_0 = true := x_cOk_w (by decide +kernel)
def xg75 : Nat → Option (Instr × Nat) := fun pc => x_at2 pc xc75_0
theorem xh75 : x_Good prog_7_method_8_code xg75 := by
  unfold xg75
  exact x_Good_l xo75_0
def xm75 : XM := (⟨"TwoDigits$Runner", "writeFrom", "(I)V"⟩, prog_7_method_8_code, 2, none, 4, 4, 1, 0, 0, false, xg75)
def xc76_0 : List (Nat × Instr × Nat) := [(0, .aload_n 0, 1), (1, .getfield 34, 3), (4, .iload_n 1, 1), (5, .aload_n 0, 1), (6, .getfield 9, 3), (9, .iload_n 1, 1), (10, .iaload, 1), (11, .invokevirtual 121, 3), (14, .ireturn, 1)]
theorem xo76_0 : x_cOk prog_7_method_9_code xc76_0 = true := x_cOk_w (by decide +kernel)
def xg76 : Nat → Option (Instr × Nat) := fun pc => x_at2 pc xc76_0
theorem xh76 : x_Good prog_7_method_9_code xg76 := by
  unfold xg76
  exact x_Good_l xo76_0
def xm76 : XM := (⟨"TwoDigits$Runner", "meaningOf", "(I)I"⟩, prog_7_method_9_code, 2, some .int, 4, 4, 1, 0, 0, false, xg76)
def xc77_0 : List (Nat × Instr × Nat) := [(0, .aload_n 0, 1), (1, .getfield 18, 3), (4, .ifCond .ne 27, 3), (7, .aload_n 0, 1), (8, .getfield 9, 3), (11, .iload_n 1, 1), (12, .iaload, 1), (13, .iconst 2, 1), (14, .if_icmp .ne 17, 3), (17, .aload_n 0, 1), (18, .getfield 15, 3), (21, .iload_n 1, 1), (22, .iaload, 1), (23, .iconst (-1), 1), (24, .if_icmp .eq 7, 3), (27, .iconst 1, 1), (28, .goto 4, 3), (31, .iconst 0, 1), (32, .istore_n 3, 1), (33, .iload_n 3, 1), (34, .ifCond .eq 16, 3), (37, .iload_n 2, 1), (38, .aload_n 0, 1), (39, .getfield 15, 3), (42, .iload_n 1, 1), (43, .iaload, 1), (44, .invokestatic 38, 3), (47, .goto 4, 3), (50, .iload_n 2, 1), (51, .ireturn, 1)]
theorem xo77_0 : x_cOk prog_8_method_5_code xc77_0 = true := x_cOk_w (by decide +kernel)
def xg77 : Nat → Option (Instr × Nat) := fun pc => x_at2 pc xc77_0
theorem xh77 : x_Good prog_8_method_5_code xg77 := by
  unfold xg77
  exact x_Good_l xo77_0
def xm77 : XM := (⟨"TwoDigits$Setting", "meaning", "(II)I"⟩, prog_8_method_5_code, 4, some .int, 3, 3, 2, 0, 0, false, xg77)
def xc78_0 : List (Nat × Instr × Nat) := [(0, .iload_n 0, 1), (1, .iload_n 1, 1), (2, .if_icmp .lt 11, 3), (5, .sipush 1900, 3), (8, .iload_n 0, 1), (9, .iadd, 1), (10, .goto 8, 3), (13, .sipush 2000, 3), (16, .iload_n 0, 1), (17, .iadd, 1), (18, .ireturn, 1)]
theorem xo78_0 : x_cOk prog_1_method_72_code xc78_0 = true := x_cOk_w (by decide +kernel)
def xg78 : Nat → Option (Instr × Nat) := fun pc => x_at2 pc xc78_0
theorem xh78 : x_Good prog_1_method_72_code xg78 := by
  unfold xg78
  exact x_Good_l xo78_0
def xm78 : XM := (⟨"TwoDigits", "inWindow", "(II)I"⟩, prog_1_method_72_code, 2, some .int, 0, 0, 2, 0, 0, false, xg78)
def xc79_0 : List (Nat × Instr × Nat) := [(0, .aload_n 0, 1), (1, .getfield 18, 3), (4, .ifCond .ne 17, 3), (7, .iload_n 1, 1), (8, .bipush 100, 2), (10, .if_icmp .ge 11, 3), (13, .sipush 1900, 3), (16, .iload_n 1, 1), (17, .iadd, 1), (18, .goto 4, 3), (21, .iload_n 1, 1), (22, .aload_n 0, 1), (23, .getfield 22, 3), (26, .invokestatic 41, 3), (29, .ireturn, 1)]
theorem xo79_0 : x_cOk prog_8_method_6_code xc79_0 = true := x_cOk_w (by decide +kernel)
def xg79 : Nat → Option (Instr × Nat) := fun pc => x_at2 pc xc79_0
theorem xh79 : x_Good prog_8_method_6_code xg79 := by
  unfold xg79
  exact x_Good_l xo79_0
def xm79 : XM := (⟨"TwoDigits$Setting", "leapsIn", "(I)Z"⟩, prog_8_method_6_code, 2, some .boolean, 3, 3, 1, 0, 0, false, xg79)
def xc80_0 : List (Nat × Instr × Nat) := [(0, .iload_n 0, 1), (1, .iconst 4, 1), (2, .irem, 1), (3, .ifCond .ne 7, 3), (6, .iconst 1, 1), (7, .goto 4, 3), (10, .iconst 0, 1), (11, .istore_n 2, 1), (12, .iload_n 1, 1), (13, .lookupswitch 46 #[(0, 27), (1, 29)], 27), (40, .iload_n 2, 1), (41, .ireturn, 1), (42, .iload_n 2, 1), (43, .ifCond .eq 14, 3), (46, .iload_n 0, 1), (47, .bipush 100, 2), (49, .irem, 1), (50, .ifCond .eq 7, 3), (53, .iconst 1, 1), (54, .goto 4, 3), (57, .iconst 0, 1), (58, .ireturn, 1), (59, .iload_n 2, 1), (60, .ifCond .eq 22, 3), (63, .iload_n 0, 1), (64, .bipush 100, 2), (66, .irem, 1), (67, .ifCond .ne 11, 3), (70, .iload_n 0, 1), (71, .sipush 400, 3), (74, .irem, 1), (75, .ifCond .ne 7, 3), (78, .iconst 1, 1), (79, .goto 4, 3), (82, .iconst 0, 1), (83, .ireturn, 1)]
theorem xo80_0 : x_cOk prog_1_method_71_code xc80_0 = true := x_cOk_w (by decide +kernel)
def xg80 : Nat → Option (Instr × Nat) := fun pc => x_at2 pc xc80_0
theorem xh80 : x_Good prog_1_method_71_code xg80 := by
  unfold xg80
  exact x_Good_l xo80_0
def xm80 : XM := (⟨"TwoDigits", "isLeap", "(II)Z"⟩, prog_1_method_71_code, 3, some .boolean, 0, 0, 2, 0, 0, false, xg80)
def xc81_0 : List (Nat × Instr × Nat) := [(0, .aload_n 0, 1), (1, .iload_n 1, 1), (2, .putfield 51, 3), (5, .aload_n 0, 1), (6, .getfield 51, 3), (9, .aload_n 0, 1), (10, .getfield 25, 3), (13, .getfield 60, 3), (16, .if_icmp .lt 11, 3), (19, .aload_n 0, 1), (20, .iconst 0, 1), (21, .putfield 44, 3), (24, .goto 18, 3), (27, .aload_n 0, 1), (28, .getfield 57, 3), (31, .sipush 150, 3), (34, .if_icmp .lt 8, 3), (37, .aload_n 0, 1), (38, .iconst 2, 1), (39, .putfield 44, 3), (42, .return_, 1)]
theorem xo81_0 : x_cOk prog_7_method_6_code xc81_0 = true := x_cOk_w (by decide +kernel)
def xg81 : Nat → Option (Instr × Nat) := fun pc => x_at2 pc xc81_0
theorem xh81 : x_Good prog_7_method_6_code xg81 := by
  unfold xg81
  exact x_Good_l xo81_0
def xm81 : XM := (⟨"TwoDigits$Runner", "goOnTo", "(I)V"⟩, prog_7_method_6_code, 2, none, 4, 4, 1, 0, 0, false, xg81)
def xc82_0 : List (Nat × Instr × Nat) := [(0, .aload_n 0, 1), (1, .getfield 47, 3), (4, .getfield 461, 3), (7, .aload_n 0, 1), (8, .getfield 51, 3), (11, .getfield 461, 3), (14, .if_icmp .eq 5, 3), (17, .iconst 1, 1), (18, .ireturn, 1), (19, .aload_n 0, 1), (20, .getfield 47, 3), (23, .invokevirtual 448, 3), (26, .ifCond .ne 22, 3), (29, .aload_n 0, 1), (30, .getfield 47, 3), (33, .getfield 452, 3), (36, .aload_n 0, 1), (37, .getfield 51, 3), (40, .getfield 452, 3), (43, .if_icmp .eq 5, 3), (46, .iconst 1, 1), (47, .ireturn, 1), (48, .aload_n 0, 1), (49, .getfield 47, 3), (52, .getfield 463, 3), (55, .ifCond .eq 34, 3), (58, .aload_n 0, 1), (59, .getfield 51, 3), (62, .getfield 463, 3), (65, .ifCond .eq 24, 3), (68, .aload_n 0, 1), (69, .getfield 47, 3), (72, .getfield 466, 3), (75, .aload_n 0, 1), (76, .getfield 51, 3), (79, .getfield 466, 3), (82, .if_icmp .eq 7, 3), (85, .iconst 1, 1), (86, .goto 4, 3), (89, .iconst 0, 1), (90, .ireturn, 1)]
theorem xo82_0 : x_cOk prog_1_method_76_code xc82_0 = true := x_cOk_w (by decide +kernel)
def xg82 : Nat → Option (Instr × Nat) := fun pc => x_at2 pc xc82_0
theorem xh82 : x_Good prog_1_method_76_code xg82 := by
  unfold xg82
  exact x_Good_l xo82_0
def xm82 : XM := (⟨"TwoDigits", "haveParted", "()Z"⟩, prog_1_method_76_code, 1, some .boolean, 0, 0, 0, 0, 0, false, xg82)
def xc83_0 : List (Nat × Instr × Nat) := [(0, .aload_n 0, 1), (1, .getfield 13, 3), (4, .aload_n 1, 1), (5, .getfield 13, 3), (8, .if_icmp .eq 5, 3), (11, .iconst 0, 1), (12, .ireturn, 1), (13, .iconst 0, 1), (14, .istore_n 2, 1), (15, .iload_n 2, 1), (16, .aload_n 0, 1), (17, .getfield 13, 3), (20, .if_icmp .ge 26, 3), (23, .aload_n 0, 1), (24, .getfield 9, 3), (27, .iload_n 2, 1), (28, .iaload, 1), (29, .aload_n 1, 1), (30, .getfield 9, 3), (33, .iload_n 2, 1), (34, .iaload, 1), (35, .if_icmp .eq 5, 3), (38, .iconst 0, 1), (39, .ireturn, 1), (40, .iinc 2 1, 3), (43, .goto (-28), 3), (46, .iconst 1, 1), (47, .ireturn, 1)]
theorem xo83_0 : x_cOk prog_6_method_6_code xc83_0 = true := x_cOk_w (by decide +kernel)
def xg83 : Nat → Option (Instr × Nat) := fun pc => x_at2 pc xc83_0
theorem xh83 : x_Good prog_6_method_6_code xg83 := by
  unfold xg83
  exact x_Good_l xo83_0
def xm83 : XM := (⟨"TwoDigits$Row", "isLike", "(LTwoDigits$Row;)Z"⟩, prog_6_method_6_code, 3, some .boolean, 5, 5, 1, 0, 0, false, xg83)
def xc84_0 : List (Nat × Instr × Nat) := [(0, .aload_n 0, 1), (1, .iload_n 1, 1), (2, .invokevirtual 117, 3), (5, .astore 4, 2), (7, .aload 4, 2), (9, .ifnonnull 6, 3), (12, .bipush (-5), 2), (14, .ireturn, 1), (15, .iload_n 3, 1), (16, .ifCond .eq 11, 3), (19, .aload 4, 2), (21, .getfield 144, 3), (24, .goto 8, 3), (27, .aload 4, 2), (29, .getfield 137, 3), (32, .astore 5, 2), (34, .aload 5, 2), (36, .iload_n 2, 1), (37, .invokevirtual 219, 3), (40, .ifCond .eq 12, 3), (43, .aload 5, 2), (45, .iload_n 2, 1), (46, .invokevirtual 222, 3), (49, .goto 5, 3), (52, .bipush (-5), 2), (54, .ireturn, 1)]
theorem xo84_0 : x_cOk prog_1_method_12_code xc84_0 = true := x_cOk_w (by decide +kernel)
def xg84 : Nat → Option (Instr × Nat) := fun pc => x_at2 pc xc84_0
theorem xh84 : x_Good prog_1_method_12_code xg84 := by
  unfold xg84
  exact x_Good_l xo84_0
def xm84 : XM := (⟨"TwoDigits", "file", "(IIZ)I"⟩, prog_1_method_12_code, 6, some .int, 0, 0, 3, 0, 0, false, xg84)
def xc85_0 : List (Nat × Instr × Nat) := [(0, .aload_n 0, 1), (1, .iload_n 1, 1), (2, .invokevirtual 117, 3), (5, .astore_n 3, 1), (6, .aload_n 3, 1), (7, .ifnonnull 6, 3), (10, .bipush (-5), 2), (12, .ireturn, 1), (13, .iload_n 2, 1), (14, .tableswitch 41 0 2 #[26, 31, 36], 26), (40, .aload_n 3, 1), (41, .getfield 225, 3), (44, .ireturn, 1), (45, .aload_n 3, 1), (46, .getfield 228, 3), (49, .ireturn, 1), (50, .aload_n 3, 1), (51, .getfield 231, 3), (54, .ireturn, 1), (55, .bipush (-5), 2), (57, .ireturn, 1)]
theorem xo85_0 : x_cOk prog_1_method_13_code xc85_0 = true := x_cOk_w (by decide +kernel)
def xg85 : Nat → Option (Instr × Nat) := fun pc => x_at2 pc xc85_0
theorem xh85 : x_Good prog_1_method_13_code xg85 := by
  unfold xg85
  exact x_Good_l xo85_0
def xm85 : XM := (⟨"TwoDigits", "done", "(II)I"⟩, prog_1_method_13_code, 4, some .int, 0, 0, 2, 0, 0, false, xg85)
def xc86_0 : List (Nat × Instr × Nat) := [(0, .iload_n 1, 1), (1, .invokestatic 212, 3), (4, .ifCond .eq 10, 3), (7, .iload_n 2, 1), (8, .invokestatic 234, 3), (11, .ifCond .ne 5, 3), (14, .iconst (-1), 1), (15, .ireturn, 1), (16, .iload_n 1, 1), (17, .iload_n 2, 1), (18, .invokestatic 237, 3), (21, .ifCond .eq 7, 3), (24, .iconst 1, 1), (25, .goto 4, 3), (28, .iconst 0, 1), (29, .ireturn, 1)]
theorem xo86_0 : x_cOk prog_1_method_14_code xc86_0 = true := x_cOk_w (by decide +kernel)
def xg86 : Nat → Option (Instr × Nat) := fun pc => x_at2 pc xc86_0
theorem xh86 : x_Good prog_1_method_14_code xg86 := by
  unfold xg86
  exact x_Good_l xo86_0
def xm86 : XM := (⟨"TwoDigits", "leaps", "(II)I"⟩, prog_1_method_14_code, 3, some .int, 0, 0, 2, 0, 0, false, xg86)
def xc87_0 : List (Nat × Instr × Nat) := [(0, .iload_n 0, 1), (1, .iconst 0, 1), (2, .iconst 2, 1), (3, .invokestatic 178, 3), (6, .ireturn, 1)]
theorem xo87_0 : x_cOk prog_1_method_68_code xc87_0 = true := x_cOk_w (by decide +kernel)
def xg87 : Nat → Option (Instr × Nat) := fun pc => x_at2 pc xc87_0
theorem xh87 : x_Good prog_1_method_68_code xg87 := by
  unfold xg87
  exact x_Good_l xo87_0
def xm87 : XM := (⟨"TwoDigits", "isRule", "(I)Z"⟩, prog_1_method_68_code, 1, some .boolean, 0, 0, 1, 0, 0, false, xg87)
def xc88_0 : List (Nat × Instr × Nat) := [(0, .iload_n 1, 1), (1, .iconst 0, 1), (2, .bipush 99, 2), (4, .invokestatic 178, 3), (7, .ifCond .eq 13, 3), (10, .iload_n 2, 1), (11, .iconst 0, 1), (12, .bipush 100, 2), (14, .invokestatic 178, 3), (17, .ifCond .ne 5, 3), (20, .iconst (-1), 1), (21, .ireturn, 1), (22, .iload_n 1, 1), (23, .iload_n 2, 1), (24, .invokestatic 240, 3), (27, .ireturn, 1)]
theorem xo88_0 : x_cOk prog_1_method_15_code xc88_0 = true := x_cOk_w (by decide +kernel)
def xg88 : Nat → Option (Instr × Nat) := fun pc => x_at2 pc xc88_0
theorem xh88 : x_Good prog_1_method_15_code xg88 := by
  unfold xg88
  exact x_Good_l xo88_0
def xm88 : XM := (⟨"TwoDigits", "meant", "(II)I"⟩, prog_1_method_15_code, 3, some .int, 0, 0, 2, 0, 0, false, xg88)
def xc89_0 : List (Nat × Instr × Nat) := [(0, .iload_n 1, 1), (1, .invokestatic 212, 3), (4, .ifCond .ne 6, 3), (7, .bipush (-2), 2), (9, .ireturn, 1), (10, .iconst 0, 1), (11, .istore_n 2, 1), (12, .iconst 0, 1), (13, .istore_n 3, 1), (14, .iload_n 3, 1), (15, .aload_n 0, 1), (16, .getfield 107, 3), (19, .if_icmp .ge 82, 3), (22, .aload_n 0, 1), (23, .getfield 25, 3), (26, .iload_n 3, 1), (27, .aaload, 1), (28, .astore 4, 2), (30, .aload 4, 2), (32, .getfield 121, 3), (35, .iconst 5, 1), (36, .if_icmp .ne 27, 3), (39, .aload 4, 2), (41, .getfield 137, 3), (44, .invokevirtual 193, 3), (47, .aload 4, 2), (49, .getfield 144, 3), (52, .invokevirtual 193, 3), (55, .aload 4, 2), (57, .invokevirtual 244, 3), (60, .goto 10, 3), (63, .aload_n 0, 1), (64, .aload 4, 2), (66, .iload_n 1, 1), (67, .invokevirtual 215, 3), (70, .aload 4, 2), (72, .getfield 121, 3), (75, .iconst 5, 1), (76, .if_icmp .eq 11, 3), (79, .aload 4, 2), (81, .getfield 159, 3), (84, .ifCond .eq 11, 3), (87, .iload_n 2, 1), (88, .aload 4, 2), (90, .getfield 153, 3), (93, .iadd, 1), (94, .istore_n 2, 1), (95, .iinc 3 1, 3)]
theorem xo89_0 : x_cOk prog_1_method_16_code xc89_0 = true := x_cOk_w (by decide +kernel)
def xc89_1 : List (Nat × Instr × Nat) := [(98, .goto (-84), 3), (101, .iload_n 2, 1), (102, .ireturn, 1)]
theorem xo89_1 : x_cOk prog_1_method_16_code xc89_1 = true := x_cOk_w (by decide +kernel)
def xg89 : Nat → Option (Instr × Nat) := fun pc => if pc < 98 then x_at2 pc xc89_0 else x_at2 pc xc89_1
theorem xh89 : x_Good prog_1_method_16_code xg89 := by
  unfold xg89
  exact x_Good_ite (x_Good_l xo89_0) (x_Good_l xo89_1)
def xm89 : XM := (⟨"TwoDigits", "night", "(I)I"⟩, prog_1_method_16_code, 5, some .int, 0, 0, 1, 0, 0, false, xg89)
def xc90_0 : List (Nat × Instr × Nat) := [(0, .aload_n 0, 1), (1, .iconst (-1), 1), (2, .putfield 55, 3), (5, .aload_n 0, 1), (6, .iconst (-1), 1), (7, .putfield 58, 3), (10, .aload_n 0, 1), (11, .iconst (-1), 1), (12, .putfield 61, 3), (15, .aload_n 0, 1), (16, .iconst (-1), 1), (17, .putfield 64, 3), (20, .aload_n 0, 1), (21, .iconst (-1), 1), (22, .putfield 67, 3), (25, .aload_n 0, 1), (26, .iconst 0, 1), (27, .putfield 74, 3), (30, .return_, 1)]
theorem xo90_0 : x_cOk prog_5_method_2_code xc90_0 = true := x_cOk_w (by decide +kernel)
def xg90 : Nat → Option (Instr × Nat) := fun pc => x_at2 pc xc90_0
theorem xh90 : x_Good prog_5_method_2_code xg90 := by
  unfold xg90
  exact x_Good_l xo90_0
def xm90 : XM := (⟨"TwoDigits$Program", "forgetRun", "()V"⟩, prog_5_method_2_code, 1, none, 10, 10, 0, 0, 0, false, xg90)
def xc91_0 : List (Nat × Instr × Nat) := [(0, .aload_n 0, 1), (1, .iload_n 1, 1), (2, .invokevirtual 117, 3), (5, .ifnonnull 5, 3), (8, .iconst (-1), 1), (9, .ireturn, 1), (10, .iconst 0, 1), (11, .istore_n 2, 1), (12, .iconst 0, 1), (13, .istore_n 3, 1), (14, .iload_n 3, 1), (15, .aload_n 0, 1), (16, .getfield 107, 3), (19, .if_icmp .ge 61, 3), (22, .iconst 0, 1), (23, .istore 4, 2), (25, .iload 4, 2), (27, .aload_n 0, 1), (28, .getfield 107, 3), (31, .if_icmp .ge 43, 3), (34, .aload_n 0, 1), (35, .getfield 25, 3), (38, .iload 4, 2), (40, .aaload, 1), (41, .getfield 124, 3), (44, .istore 5, 2), (46, .iload 5, 2), (48, .iload_n 1, 1), (49, .if_icmp .eq 12, 3), (52, .iload_n 2, 1), (53, .iload 5, 2), (55, .invokestatic 247, 3), (58, .ifCond .eq 10, 3), (61, .iload_n 2, 1), (62, .iconst 1, 1), (63, .iload 4, 2), (65, .ishl, 1), (66, .ior, 1), (67, .istore_n 2, 1), (68, .iinc 4 1, 3), (71, .goto (-46), 3), (74, .iinc 3 1, 3), (77, .goto (-63), 3), (80, .iload_n 2, 1), (81, .ireturn, 1)]
theorem xo91_0 : x_cOk prog_1_method_17_code xc91_0 = true := x_cOk_w (by decide +kernel)
def xg91 : Nat → Option (Instr × Nat) := fun pc => x_at2 pc xc91_0
theorem xh91 : x_Good prog_1_method_17_code xg91 := by
  unfold xg91
  exact x_Good_l xo91_0
def xm91 : XM := (⟨"TwoDigits", "reach", "(I)I"⟩, prog_1_method_17_code, 6, some .int, 0, 0, 1, 0, 0, false, xg91)
def xc92_0 : List (Nat × Instr × Nat) := [(0, .aload_n 0, 1), (1, .iload_n 1, 1), (2, .invokevirtual 117, 3), (5, .astore 4, 2), (7, .aload_n 0, 1), (8, .iload_n 2, 1), (9, .invokevirtual 117, 3), (12, .astore 5, 2), (14, .aload 4, 2), (16, .ifnull 26, 3), (19, .aload 5, 2), (21, .ifnull 21, 3), (24, .iload_n 3, 1), (25, .ifCond .lt 17, 3), (28, .iload_n 3, 1), (29, .iconst 1, 1), (30, .if_icmp .gt 12, 3), (33, .aload 5, 2), (35, .getfield 124, 3), (38, .iload_n 1, 1), (39, .if_icmp .eq 5, 3), (42, .iconst (-1), 1), (43, .ireturn, 1), (44, .iconst 0, 1), (45, .istore 6, 2), (47, .iconst (-1), 1), (48, .istore 7, 2), (50, .bipush 99, 2), (52, .istore 8, 2), (54, .iload 8, 2), (56, .ifCond .lt 28, 3), (59, .aload 4, 2), (61, .aload 5, 2), (63, .iload 8, 2), (65, .invokestatic 250, 3), (68, .ifCond .eq 10, 3), (71, .iinc 6 1, 3), (74, .iload 8, 2), (76, .istore 7, 2), (78, .iinc 8 (-1), 3), (81, .goto (-27), 3), (84, .iload_n 3, 1), (85, .ifCond .ne 8, 3), (88, .iload 6, 2), (90, .goto 5, 3), (93, .iload 7, 2), (95, .ireturn, 1)]
theorem xo92_0 : x_cOk prog_1_method_18_code xc92_0 = true := x_cOk_w (by decide +kernel)
def xg92 : Nat → Option (Instr × Nat) := fun pc => x_at2 pc xc92_0
theorem xh92 : x_Good prog_1_method_18_code xg92 := by
  unfold xg92
  exact x_Good_l xo92_0
def xm92 : XM := (⟨"TwoDigits", "cross", "(III)I"⟩, prog_1_method_18_code, 9, some .int, 0, 0, 3, 0, 0, false, xg92)
def xc93_0 : List (Nat × Instr × Nat) := [(0, .iconst 0, 1), (1, .istore_n 3, 1), (2, .iload_n 3, 1), (3, .bipush 6, 2), (5, .if_icmp .ge 68, 3), (8, .iconst 0, 1), (9, .istore 4, 2), (11, .iload 4, 2), (13, .bipush 6, 2), (15, .if_icmp .ge 52, 3), (18, .aload_n 0, 1), (19, .iconst 2, 1), (20, .iload_n 3, 1), (21, .invokestatic 254, 3), (24, .ifCond .eq 37, 3), (27, .aload_n 1, 1), (28, .iconst 1, 1), (29, .iload 4, 2), (31, .invokestatic 254, 3), (34, .ifCond .eq 27, 3), (37, .aload_n 0, 1), (38, .getfield 127, 3), (41, .iload_n 3, 1), (42, .iload_n 2, 1), (43, .invokevirtual 258, 3), (46, .aload_n 1, 1), (47, .getfield 127, 3), (50, .iload 4, 2), (52, .iload_n 2, 1), (53, .invokevirtual 258, 3), (56, .if_icmp .eq 5, 3), (59, .iconst 1, 1), (60, .ireturn, 1), (61, .iinc 4 1, 3), (64, .goto (-53), 3), (67, .iinc 3 1, 3), (70, .goto (-68), 3), (73, .iconst 0, 1), (74, .ireturn, 1)]
theorem xo93_0 : x_cOk prog_1_method_19_code xc93_0 = true := x_cOk_w (by decide +kernel)
def xg93 : Nat → Option (Instr × Nat) := fun pc => x_at2 pc xc93_0
theorem xh93 : x_Good prog_1_method_19_code xg93 := by
  unfold xg93
  exact x_Good_l xo93_0
def xm93 : XM := (⟨"TwoDigits", "isCrossed", "(LTwoDigits$Program;LTwoDigits$Program;I)Z"⟩, prog_1_method_19_code, 5, some .boolean, 0, 0, 3, 0, 0, false, xg93)
end XCode2
